/-! what the throws need beside the good words: two kinds of words that only the tables decide, kept while the machine warms up -/
theorem xc_moved {A B : String} {a a' : Array Value} {s U : State} (hvm : s.vm.Alike U.vm) (h : (Cond.castable A B).before a s = true) : (Cond.castable A B).before a' U = true := by
  obtain ⟨c, t, h1, h2, h3⟩ := Cond.castable_spec h
  have h1' : U.vm.findClass A = some c := by rw [hvm.findClass]; exact h1
  have h2' : U.vm.findClass B = some t := by rw [hvm.findClass]; exact h2
  have h3' : U.vm.assignable c t = true := by rw [hvm.assignable]; exact h3
  simp only [Cond.before, Cond.holds, Cond.value, h1', h2', h3']
  rfl
theorem xd_moved {x : MethodName} {a a' : Array Value} {s U : State} (hvm : s.vm.Alike U.vm) (h : (Cond.declares x).before a s = true) : (Cond.declares x).before a' U = true := by
  have e := Jvm.arm_named_setVm (s := s) hvm x (fun meth => !meth.isStatic && decide (parseMethodDescriptor x.desc = some meth.sig))
  simp only [Cond.before, Cond.holds, Cond.value] at h ⊢
  have e2 : U.methodNamed? x = (s.setVm U.vm).methodNamed? x := rfl
  rw [e2, e]
  exact h
/-- the words of 'new X(text)' that aren't good ones -/
def xB (X : String) (names : List String) : List Cond := .castable X X :: (names ++ [Bundle.tN]).map (fun y => Cond.declares (Bundle.initS y))
def xIO : String := "java/lang/IndexOutOfBoundsException"
def xIA : String := "java/lang/IllegalArgumentException"
def xIS : String := "java/lang/IllegalStateException"
def xUp : List String := ["java/lang/RuntimeException", "java/lang/Exception"]
theorem xB_IO : ∀ w ∈ (vx_atS RX6 197 "java/lang/IndexOutOfBoundsException" ["java/lang/RuntimeException", "java/lang/Exception"]).filter (fun w => !goodWord w), w ∈ xB xIO xUp := by decide +kernel
theorem xB_IA : ∀ w ∈ (vx_atS RX6 67 "java/lang/IllegalArgumentException" ["java/lang/RuntimeException", "java/lang/Exception"]).filter (fun w => !goodWord w), w ∈ xB xIA xUp := by decide +kernel
theorem xB_IS : ∀ w ∈ (vx_atS RX6 96 "java/lang/IllegalStateException" ["java/lang/RuntimeException", "java/lang/Exception"]).filter (fun w => !goodWord w), w ∈ xB xIS xUp := by decide +kernel
theorem xO_IO : ∀ w ∈ Cond.classLink RX6 193 "java/lang/IndexOutOfBoundsException" :: Cond.initialized "java/lang/IndexOutOfBoundsException" :: vx_atS RX6 197 "java/lang/IndexOutOfBoundsException" ["java/lang/RuntimeException", "java/lang/Exception"], vx_ot w = true := by decide +kernel
theorem xO_IA : ∀ w ∈ Cond.classLink RX6 63 "java/lang/IllegalArgumentException" :: Cond.initialized "java/lang/IllegalArgumentException" :: vx_atS RX6 67 "java/lang/IllegalArgumentException" ["java/lang/RuntimeException", "java/lang/Exception"], vx_ot w = true := by decide +kernel
theorem xO_IS : ∀ w ∈ Cond.classLink RX6 92 "java/lang/IllegalStateException" :: Cond.initialized "java/lang/IllegalStateException" :: vx_atS RX6 96 "java/lang/IllegalStateException" ["java/lang/RuntimeException", "java/lang/Exception"], vx_ot w = true := by decide +kernel
def xBs : List Cond := xB xIO xUp ++ xB xIA xUp ++ xB xIS xUp
theorem xBs_moved {a a' : Array Value} {s U : State} (hvm : s.vm.Alike U.vm) (h : ∀ w ∈ xBs, w.before a s = true) : ∀ w ∈ xBs, w.before a' U = true := by
  have k : ∀ w ∈ xBs, (∃ A B, w = Cond.castable A B) ∨ ∃ x, w = Cond.declares x := by
    intro w hw
    simp only [xBs, xB, List.mem_append, List.mem_cons, List.mem_map] at hw
    rcases hw with ((h | ⟨y, -, h⟩) | (h | ⟨y, -, h⟩)) | (h | ⟨y, -, h⟩)
    · exact Or.inl ⟨_, _, h⟩
    · exact Or.inr ⟨_, h.symm⟩
    · exact Or.inl ⟨_, _, h⟩
    · exact Or.inr ⟨_, h.symm⟩
    · exact Or.inl ⟨_, _, h⟩
    · exact Or.inr ⟨_, h.symm⟩
  intro w hw
  rcases k w hw with ⟨A, B, rfl⟩ | ⟨x, rfl⟩
  · exact xc_moved hvm (h _ hw)
  · exact xd_moved hvm (h _ hw)
