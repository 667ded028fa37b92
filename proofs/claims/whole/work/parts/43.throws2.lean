/-- the texts of the class's throws -/
def xStr : List (Nat × String) := [(65, "a drawing has 2 to 12 faces"), (90, "not a dimension"), (94, "there are 20 dimensions"), (110, "not a pair of deviations"), (138, "not a grade"), (149, "not a property"), (151, "not a character of the input"), (153, "the buffer has 60 characters"), (166, "the buffer is not a list"), (195, "the chain has no such dimension"), (201, "not a kind of gap"), (226, "the dimension is not doubled"), (234, "the faces are not connected"), (236, "the drawing is not consistent"), (245, "the dimension joins the datum"), (247, "the dimension can't lead from the datum"), (249, "the new dimension would be out of range"), (251, "the width is not 0 to 1998"), (259, "the width can't be shared"), (287, "not a face")]
/-- what a throw needs of the state: two statics of Throwable, the words that aren't good ones, the texts -/
def xW (A : Nat → Prop) (U : State) : Prop := vx_Zq Bundle.tN "UNASSIGNED_STACK" Bundle.steD A U U.heap ∧ vx_Zq Bundle.tN "SUPPRESSED_SENTINEL" Bundle.listD A U U.heap ∧ (∀ w ∈ xBs, w.before #[] U = true) ∧ ∀ q ∈ xStr, ∃ a, vk_R RX6 q.1 q.2 a U
theorem xW.to {A B : Nat → Prop} {s U : State} {H : Heap} (h : xW A s) (hW : s.WarmedH U.vm) (hU : U.heap = H) (hk : ∀ q : Nat, q < s.heap.size → ¬ A q → H[q]? = s.heap[q]?) (hAB : ∀ q, B q → A q) : xW B U := by
  obtain ⟨h1, h2, h3, h4⟩ := h
  subst hU
  exact ⟨vx_Zq.narrow (vx_Zq.moved hW.alike (h1.kept hk)) hAB, vx_Zq.narrow (vx_Zq.moved hW.alike (h2.kept hk)) hAB, xBs_moved hW.alike h3, fun q hq => (h4 q hq).elim fun a ha => ⟨a, vk_R.warm hW ha⟩⟩
theorem xW.same {A : Nat → Prop} {u U : State} (hv : U.vm = u.vm) (hh : U.heap = u.heap) (h : xW A u) : xW A U := by
  obtain ⟨h1, h2, h3, h4⟩ := h
  have ha : u.vm.Alike U.vm := by rw [hv]; exact Vm.Alike.refl _
  refine ⟨?_, ?_, xBs_moved ha h3, fun q hq => (h4 q hq).elim fun a ha => ⟨a, vk_R.same hv ha⟩⟩
  · rw [hh]; exact vx_Zq.moved ha h1
  · rw [hh]; exact vx_Zq.moved ha h2
theorem xW.str {A : Nat → Prop} {U : State} (h : xW A U) (k : Nat) (tx : String) (hm : (k, tx) ∈ xStr) : ∃ a, vk_R RX6 k tx a U := h.2.2.2 (k, tx) hm
theorem xW.IO {A : Nat → Prop} {args : Array Value} {U : State} (h : xW A U) : ∀ w ∈ xB xIO xUp, w.before args U = true := fun w hw => xBs_moved (Vm.Alike.refl _) h.2.2.1 w (List.mem_append_left _ (List.mem_append_left _ hw))
theorem xW.IA {A : Nat → Prop} {args : Array Value} {U : State} (h : xW A U) : ∀ w ∈ xB xIA xUp, w.before args U = true := fun w hw => xBs_moved (Vm.Alike.refl _) h.2.2.1 w (List.mem_append_left _ (List.mem_append_right _ hw))
theorem xW.IS {A : Nat → Prop} {args : Array Value} {U : State} (h : xW A U) : ∀ w ∈ xB xIS xUp, w.before args U = true := fun w hw => xBs_moved (Vm.Alike.refl _) h.2.2.1 w (List.mem_append_right _ hw)
