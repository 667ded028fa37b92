
def flI (g : Nat → Int32) (v : Int32) : Nat → Nat → Int32
  | 0 => g
  | i + 1 => upd (flI g v i) i v
theorem flI_at (g : Nat → Int32) (v : Int32) : ∀ i j, flI g v i j = if j < i then v else g j := by
  intro i
  induction i with
  | zero => intro j; simp [flI]
  | succ i ih =>
    intro j
    unfold flI upd
    by_cases h : j = i
    · subst h; simp
    · rw [if_neg h, ih]
      have : j < i + 1 ↔ j < i := by omega
      simp [this]
abbrev flD (x y : Int32) : Int32 := if (x ^^^ y) < 0 then if ((x / y) * y) = x then x / y else (x / y) - 1 else x / y
/-- Met.ofW for a method of a class that has natives (java/lang/Math), itself none of them: by the library's MetFree.of_bodySF -/
theorem fd_ofWF {l : Launch} {y : MethodName} {ws ws' : List Cond} {rm : Room} {Pc : Array Value → State → Prop} {Qc : Array Value → State → Outcome → State → Prop} {mc ms : Nat} {free : Addr → Prop} {cc : ByteArray} {maxL : Nat} {ret : Option FieldType}
    (hy : plainFor y = true) (hw : ws = Cond.code y cc maxL ret :: ws')
    (body : ∀ p e s m args below meth c s₁, BodyLoose p l y (headSpec ws rm) cc maxL ret e s m args below meth c s₁ → c.maxLocals = maxL → Pc args s →
      W p l e (headSpec ws rm).room s m args below meth c s.heap [] 0 0 (MQ below Qc args s mc ms free) (entryFrame m args maxL)) : Met l y ws rm Pc Qc mc ms free := by
  refine MetFree.of_bodySF (code := cc) (maxLocals := maxL) (ret := ret) hy ?_ ?_
  · intro args s m h hn
    obtain ⟨meth, c, h1, h2, h3, h4, h5, h6, -, -⟩ := Cond.code_spec hn (atoms_spec (ws := ws) h _ (by rw [hw]; exact List.mem_cons_self))
    exact ⟨meth, c, h1, h2, h3, h4, h5, h6⟩
  · intro p e s m args below meth c s₁ B hml hP _
    have hh0 : s₁.heap = s.heap := by rw [B.state]; rfl
    obtain ⟨t, a1, o, b1, b2, b3⟩ := body p e s m args below meth c s₁ B hml hP s₁ hh0 (Stand.of_body B)
    exact ⟨t, o, a1, b1, b2, ⟨b3.1, b3.2⟩⟩
theorem fd_plain : plainFor yJ9_floorDiv_7cf53 = true := by decide +kernel
set_option maxHeartbeats 4000000 in
set_option maxRecDepth 100000 in
theorem c_J9_floorDiv_7cf53 (l : Launch) (dC : Nat → ClassId) (dI : Nat → Nat → Nat) (cyI cyZ cyJ cyD : ClassId) (zH : Nat) (x : Int32) (y : Int32) (hy : ¬ (y : Int32) = 0) : Met l yJ9_floorDiv_7cf53 wsJ9_floorDiv_7cf53 ({ frames := 0, cells := 0, slots := 0, locals := 0 } : Room) (va_Pc [.int x, .int y] (fun U => U.heap.size = zH ∧ va_P (dC, dI) vwCl [] U.heap ∧ va_K (dC, dI) vwCl [(cyI, .int), (cyZ, .boolean), (cyJ, .long), (cyD, .double)] U ∧ va_D (fun _ => True) [])) (va_Qi (fun (r : Int32) (_ : Unit) => r = flD x y) (fun _ t => va_P (dC, dI) vwCl [] t.heap ∧ va_K (dC, dI) vwCl [(cyI, .int), (cyZ, .boolean), (cyJ, .long), (cyD, .double)] t ∧ va_D (va_A [] zH) []) (va_A [] zH)) 0 0 (va_A [] zH) := by
  refine fd_ofWF (cc := cJ9_floorDiv_7cf53) (maxL := 3) (ret := (some .int)) fd_plain rfl ?_
  intro pM eM s mM args blM mtM cM s₁ BM hml hv
  obtain ⟨rfl, hsz, hP, hK, hD0⟩ := hv
  have hx := BM.exec
  have hb := BM.bytes
  have hr := BM.returns
  have hts := atoms_spec (ws := wsJ9_floorDiv_7cf53) BM.pre
  have hown : s.vm.findClass RJ9 = some mM.cls := findClass_of_methodNamed BM.named
  have hlocks := BM.notSynchronized
  subst hsz
  have hD := hD0.self (sz := s.heap.size)
  obtain ⟨Q, hQe⟩ : ∃ Q : State → Prop, Q = MQ blM (va_Qi (fun (r : Int32) (_ : Unit) => r = flD x y) (fun _ t => va_P (dC, dI) vwCl [] t.heap ∧ va_K (dC, dI) vwCl [(cyI, .int), (cyZ, .boolean), (cyJ, .long), (cyD, .double)] t ∧ va_D (va_A [] s.heap.size) []) (va_A [] s.heap.size)) ([.int x, .int y] : List Value).toArray s 0 0 (va_A [] s.heap.size) := ⟨_, rfl⟩
  rw [← hQe]
  generalize hAe : va_A [] s.heap.size = A at hD hQe
  have hA : ∀ q : Nat, s.heap.size ≤ q → A q := fun q h => by rw [← hAe]; exact Or.inr h
  obtain ⟨H, hHe⟩ : ∃ H : Heap, H = s.heap := ⟨_, rfl⟩
  have hS : va_S A s.heap H [] := by rw [hHe]; exact va_S.rf
  rw [← hHe] at hP ⊢
  have hl := lv_entry ([.int x, .int y]) (n := 3) (Nat.le_of_ble_eq_true rfl)
  rw [lg_entry_eq]
  generalize (lg_sl ([.int x, .int y]) ++ List.replicate (3 - (lg_sl ([.int x, .int y])).length) Slot.unset).toArray = ls at hl ⊢
  have hl : lv_has ls 3 [(0, .int x), (1, .int y)] := hl
  refine lv_iload_n hx hb dJ9_floorDiv_7cf53_0 rfl (lv_at hl 0 rfl) ?_
  refine lv_iload_n hx hb dJ9_floorDiv_7cf53_1 rfl (lv_at hl 1 rfl) ?_
  have h1 : ¬ (y : Int32) = 0 := by first | assumption | decide
  refine lv_idiv hx hb dJ9_floorDiv_7cf53_2 h1 ?_
  refine lv_istore_n (lv' := [(2, .int (x / y)), (0, .int x), (1, .int y)]) hx hb dJ9_floorDiv_7cf53_3 rfl hl (by decide) rfl (fun ls hl => ?_)
  refine lv_iload_n hx hb dJ9_floorDiv_7cf53_4 rfl (lv_at hl 1 rfl) ?_
  refine lv_iload_n hx hb dJ9_floorDiv_7cf53_5 rfl (lv_at hl 2 rfl) ?_
  refine lv_ixor hx hb dJ9_floorDiv_7cf53_6 ?_
  refine lv_if_ge (tgt := 21) hx hb dJ9_floorDiv_7cf53_7 (by decide) (fun c7 => ?_) (fun c7 => ?_)
  · skip
    refine lv_iload_n hx hb dJ9_floorDiv_7cf53_21 rfl (lv_at hl 0 rfl) ?_
    have r2 : (x / y) = (flD x y) := by first | (show x / y = (if (x ^^^ y) < 0 then if ((x / y) * y) = x then x / y else (x / y) - 1 else x / y); rw [if_neg (Int32.not_lt.mpr c7)]) | (show x / y = (if (x ^^^ y) < 0 then if ((x / y) * y) = x then x / y else (x / y) - 1 else x / y); rw [if_pos (Int32.not_le.mp c7), if_pos c14])
    have hP9 : va_P (dC, dI) vwCl [] H := by exact hP.sub [] rfl
    have hD9 : va_D A [] := by exact hD.sub [] (by decide) rfl
    rw [hQe]
    exact W.iret (v := x / y) hx hb hr (fun t ht hW => ⟨⟨_, (), rfl, r2, by rw [ht]; exact hP9, va_K.moved hW.alike hK, hD9⟩, hS.F ht⟩) hS.2.2 dJ9_floorDiv_7cf53_22
  · skip
    refine lv_iload_n hx hb dJ9_floorDiv_7cf53_10 rfl (lv_at hl 0 rfl) ?_
    refine lv_iload_n hx hb dJ9_floorDiv_7cf53_11 rfl (lv_at hl 2 rfl) ?_
    refine lv_imul hx hb dJ9_floorDiv_7cf53_12 ?_
    refine lv_iload_n hx hb dJ9_floorDiv_7cf53_13 rfl (lv_at hl 1 rfl) ?_
    refine lv_icmp_eq (tgt := 21) hx hb dJ9_floorDiv_7cf53_14 (by decide) (fun c14 => ?_) (fun c14 => ?_)
    · skip
      refine lv_iload_n hx hb dJ9_floorDiv_7cf53_21 rfl (lv_at hl 0 rfl) ?_
      have r3 : (x / y) = (flD x y) := by first | (show x / y = (if (x ^^^ y) < 0 then if ((x / y) * y) = x then x / y else (x / y) - 1 else x / y); rw [if_neg (Int32.not_lt.mpr c7)]) | (show x / y = (if (x ^^^ y) < 0 then if ((x / y) * y) = x then x / y else (x / y) - 1 else x / y); rw [if_pos (Int32.not_le.mp c7), if_pos c14])
      have hP9 : va_P (dC, dI) vwCl [] H := by exact hP.sub [] rfl
      have hD9 : va_D A [] := by exact hD.sub [] (by decide) rfl
      rw [hQe]
      exact W.iret (v := x / y) hx hb hr (fun t ht hW => ⟨⟨_, (), rfl, r3, by rw [ht]; exact hP9, va_K.moved hW.alike hK, hD9⟩, hS.F ht⟩) hS.2.2 dJ9_floorDiv_7cf53_22
    · skip
      refine lv_iload_n hx hb dJ9_floorDiv_7cf53_17 rfl (lv_at hl 0 rfl) ?_
      refine lv_iconst (v := 1) hx hb dJ9_floorDiv_7cf53_18 (by decide) ?_
      refine lv_isub hx hb dJ9_floorDiv_7cf53_19 ?_
      have r4 : ((x / y) - 1) = (flD x y) := by show x / y - 1 = (if (x ^^^ y) < 0 then if ((x / y) * y) = x then x / y else (x / y) - 1 else x / y); rw [if_pos (Int32.not_le.mp c7), if_neg c14]
      have hP9 : va_P (dC, dI) vwCl [] H := by exact hP.sub [] rfl
      have hD9 : va_D A [] := by exact hD.sub [] (by decide) rfl
      rw [hQe]
      exact W.iret (v := (x / y) - 1) hx hb hr (fun t ht hW => ⟨⟨_, (), rfl, r4, by rw [ht]; exact hP9, va_K.moved hW.alike hK, hD9⟩, hS.F ht⟩) hS.2.2 dJ9_floorDiv_7cf53_20
def ewS (F T : Nat → Nat) (e d : Nat) (W : Nat → Int32) : Nat → Int32 :=
  if (F d = e ∨ ¬ W (F d) = -1) ∧ ¬ (T d = e ∨ ¬ W (T d) = -1) then upd W (T d) (nI d)
  else if (T d = e ∨ ¬ W (T d) = -1) ∧ ¬ (F d = e ∨ ¬ W (F d) = -1) then upd W (F d) (nI d) else W
def ewI (F T : Nat → Nat) (dd : Nat → Bool) (e : Nat) (W : Nat → Int32) : Nat → Nat → Int32
  | 0 => W
  | d + 1 => if dd d = true then ewI F T dd e W d else ewS F T e d (ewI F T dd e W d)
def ewR (F T : Nat → Nat) (dd : Nat → Bool) (e cnt : Nat) (W : Nat → Int32) : Nat → Nat → Int32
  | 0 => W
  | r + 1 => ewI F T dd e (ewR F T dd e cnt W r) cnt

set_option maxHeartbeats 4000000 in
set_option maxRecDepth 100000 in
theorem c_J7_fill_53178 (l : Launch) (dC : Nat → ClassId) (dI : Nat → Nat → Nat) (cyI cyZ cyJ cyD : ClassId) (ag : Nat) (zH : Nat) (z : Nat) (g : Nat → Int32) (v : Int32) (hz : z < 1000) : Met l yJ7_fill_53178 wsJ7_fill_53178 ({ frames := 0, cells := 0, slots := 0, locals := 0 } : Room) (va_Pc [.ref ag, .int v] (fun U => U.heap.size = zH ∧ va_P (dC, dI) vwCl [(ag, .inl (cyI, z, .inl g))] U.heap ∧ va_K (dC, dI) vwCl [(cyI, .int), (cyZ, .boolean), (cyJ, .long), (cyD, .double)] U ∧ va_D (fun _ => True) [(ag, .inl (cyI, z, .inl g))])) (va_Qv (fun _ : Unit => True) (fun _ t => va_P (dC, dI) vwCl [(ag, .inl (cyI, z, .inl (flI g v z)))] t.heap ∧ va_K (dC, dI) vwCl [(cyI, .int), (cyZ, .boolean), (cyJ, .long), (cyD, .double)] t ∧ va_D (va_A [(ag, .inl (cyI, z, .inl g))] zH) [(ag, .inl (cyI, z, .inl (flI g v z)))]) (va_A [(ag, .inl (cyI, z, .inl g))] zH)) 0 0 (va_A [(ag, .inl (cyI, z, .inl g))] zH) := by
  refine Met.ofW (cc := cJ7_fill_53178) (maxL := 4) (ret := none) (by decide) rfl ?_
  intro pM eM s mM args blM mtM cM s₁ BM hml hv
  obtain ⟨rfl, hsz, hP, hK, hD0⟩ := hv
  have hx := BM.exec
  have hb := BM.bytes
  have hr := BM.returns
  have hts := atoms_spec (ws := wsJ7_fill_53178) BM.pre
  have hown : s.vm.findClass RJ7 = some mM.cls := findClass_of_methodNamed BM.named
  have hlocks := BM.notSynchronized
  subst hsz
  have hD := hD0.self (sz := s.heap.size)
  obtain ⟨Q, hQe⟩ : ∃ Q : State → Prop, Q = MQ blM (va_Qv (fun _ : Unit => True) (fun _ t => va_P (dC, dI) vwCl [(ag, .inl (cyI, z, .inl (flI g v z)))] t.heap ∧ va_K (dC, dI) vwCl [(cyI, .int), (cyZ, .boolean), (cyJ, .long), (cyD, .double)] t ∧ va_D (va_A [(ag, .inl (cyI, z, .inl g))] s.heap.size) [(ag, .inl (cyI, z, .inl (flI g v z)))]) (va_A [(ag, .inl (cyI, z, .inl g))] s.heap.size)) ([.ref ag, .int v] : List Value).toArray s 0 0 (va_A [(ag, .inl (cyI, z, .inl g))] s.heap.size) := ⟨_, rfl⟩
  rw [← hQe]
  generalize hAe : va_A [(ag, .inl (cyI, z, .inl g))] s.heap.size = A at hD hQe
  have hA : ∀ q : Nat, s.heap.size ≤ q → A q := fun q h => by rw [← hAe]; exact Or.inr h
  obtain ⟨H, hHe⟩ : ∃ H : Heap, H = s.heap := ⟨_, rfl⟩
  have hS : va_S A s.heap H [] := by rw [hHe]; exact va_S.rf
  rw [← hHe] at hP ⊢
  have hl := lv_entry ([.ref ag, .int v]) (n := 4) (Nat.le_of_ble_eq_true rfl)
  rw [lg_entry_eq]
  generalize (lg_sl ([.ref ag, .int v]) ++ List.replicate (4 - (lg_sl ([.ref ag, .int v])).length) Slot.unset).toArray = ls at hl ⊢
  have hl : lv_has ls 4 [(0, .ref ag), (1, .int v)] := hl
  refine lv_iconst (v := 0) hx hb dJ7_fill_53178_0 (by decide) ?_
  refine lv_istore_n (lv' := [(2, .int 0), (0, .ref ag), (1, .int v)]) hx hb dJ7_fill_53178_1 rfl hl (by decide) rfl (fun ls hl => ?_)
  refine lv_aload_n hx hb dJ7_fill_53178_2 rfl (lv_at hl 1 rfl) ?_
  refine va_alen (v := nI z) hx hb hK hP 0 0 rfl rfl rfl dJ7_fill_53178_3 ?_
  refine lv_istore_n (lv' := [(3, .int (nI z)), (2, .int 0), (0, .ref ag), (1, .int v)]) hx hb dJ7_fill_53178_4 rfl hl (by decide) rfl (fun ls hl => ?_)
  have k5 : ∀ (fuel : Nat) (i : Nat) (hfuel : z - i < fuel) (hi : i ≤ z) (H : Heap) (locs : List Loc) (ls : Array Slot), va_P (dC, dI) vwCl [(ag, .inl (cyI, z, .inl (flI g v i)))] H → va_D A [(ag, .inl (cyI, z, .inl (flI g v i)))] → va_S A s.heap H locs → lv_has ls 4 [(0, .ref ag), (1, .int v), (2, .int (nI i)), (3, .int (nI z))] → W pM l eM (headSpec wsJ7_fill_53178 ({ frames := 0, cells := 0, slots := 0, locals := 0 } : Room)).room s mM ([.ref ag, .int v] : List Value).toArray blM mtM cM H locs 0 0 Q (F0 mM 5 ls []) := by
    intro fuel
    induction fuel with
    | zero => intro i hfuel; exact absurd hfuel (Nat.not_lt_zero _)
    | succ fuel ih5 =>
      intro i hfuel hi H locs ls hP hD hS hl
      refine lv_iload_n hx hb dJ7_fill_53178_5 rfl (lv_at hl 2 rfl) ?_
      refine lv_iload_n hx hb dJ7_fill_53178_6 rfl (lv_at hl 3 rfl) ?_
      refine lv_icmp_ge (tgt := 20) hx hb dJ7_fill_53178_7 (by decide) (fun c7 => ?_) (fun c7 => ?_)
      · have c7 := n_le (a := z) (b := i) (by omega) (by omega) c7
        have q1 : (flI g v z) = (flI g v i) := by rw [show i = z by omega]
        have hP9 : va_P (dC, dI) vwCl [(ag, .inl (cyI, z, .inl (flI g v z)))] H := by first | (rw [q1]; exact hP.sub [0] rfl) | (simp only [q1]; exact hP.sub [0] rfl) | exact hP.sub [0] rfl
        have hD9 : va_D A [(ag, .inl (cyI, z, .inl (flI g v z)))] := by first | (rw [q1]; exact hD.sub [0] (by decide) rfl) | (simp only [q1]; exact hD.sub [0] (by decide) rfl) | exact hD.sub [0] (by decide) rfl
        subst hAe
        subst hQe
        exact W.vret hx hb hr (fun t ht hW => ⟨⟨(), rfl, trivial, by rw [ht]; exact hP9, va_K.moved hW.alike hK, hD9⟩, hS.F ht⟩) hS.2.2 dJ7_fill_53178_20
      · have c7 := n_nle (a := z) (b := i) (by omega) (by omega) c7
        refine lv_aload_n hx hb dJ7_fill_53178_10 rfl (lv_at hl 0 rfl) ?_
        refine lv_iload_n hx hb dJ7_fill_53178_11 rfl (lv_at hl 2 rfl) ?_
        refine lv_iload_n hx hb dJ7_fill_53178_12 rfl (lv_at hl 1 rfl) ?_
        have h2 : vp_in (nI i) z := by first | exact vp_in_nI (by omega) (by omega) | assumption
        refine va_iast hx hb hK hP hD hS 0 0 rfl rfl h2 dJ7_fill_53178_13 (fun H locs hP hD hS => ?_)
        rw [nI_clamp (by omega)] at hP hD
        have hP : va_P (dC, dI) vwCl [(ag, .inl (cyI, z, .inl (upd (flI g v i) i v)))] H := hP
        have hD : va_D A [(ag, .inl (cyI, z, .inl (upd (flI g v i) i v)))] := hD
        refine lv_iinc (v := nI (i + 1)) (lv' := [(2, .int (nI (i + 1))), (0, .ref ag), (1, .int v), (3, .int (nI z))]) hx hb dJ7_fill_53178_14 hl (k := 2) rfl (nI_add i 1) (by decide) rfl (fun ls hl => ?_)
        refine lv_goto (tgt := 5) hx hb dJ7_fill_53178_17 (by decide) ?_
        have q3 : (flI g v (i + 1)) = (upd (flI g v i) i v) := by rfl
        exact ih5 (i + 1) (by omega) (by first | assumption | omega) _ _ _ (by first | (rw [q3]; exact hP) | (simp only [q3]; exact hP) | exact hP) (by first | (rw [q3]; exact hD) | (simp only [q3]; exact hD) | exact hD) hS (lv_sub hl [1, 2, 0, 3] rfl)
  have q4 : (flI g v 0) = g := by rfl
  have q5 : (nI 0) = 0 := by first | rfl | simp [*] | (simp only [*]; done)
  exact k5 (z - 0 + 1) 0 (Nat.lt_succ_self _) (by first | assumption | omega) _ _ _ (by first | (rw [q4]; exact hP) | (simp only [q4]; exact hP) | exact hP) (by first | (rw [q4]; exact hD) | (simp only [q4]; exact hD) | exact hD) hS (by first | (rw [q5]; exact lv_sub hl [2, 3, 1, 0] rfl) | (simp only [q5]; exact lv_sub hl [2, 3, 1, 0] rfl) | exact lv_sub hl [2, 3, 1, 0] rfl)
set_option maxHeartbeats 4000000 in
set_option maxRecDepth 100000 in
theorem c_X0_extendWays (l : Launch) (dC : Nat → ClassId) (dI : Nat → Nat → Nat) (cyI cyZ cyJ cyD : ClassId) (aH aD aR aHW aHL aRF aRT aRN aRL aRU : Nat) (zH : Nat) (len : Nat) (hN : Int32) (hL : Int32) (hG : Int32) (F : Nat → Nat) (T : Nat → Nat) (cnt : Nat) (wy : Nat → Int32) (d : Nat) (e : Nat) (hd : d < 20) (hF : F d < 12) (hT : T d < 12) (he : e < 12) : Met l yX0_extendWays wsX0_extendWays ({ frames := 0, cells := 0, slots := 0, locals := 0 } : Room) (va_Pc [.ref aH, .int (nI d), .int (nI e)] (fun U => U.heap.size = zH ∧ va_P (dC, dI) vwCl [(aH, .inr (0, [.ref aD, .ref aR, .ref aHW, .ref aHL, .int (nI len), .int hN, .int hL, .int hG])), (aR, .inr (1, [.ref aRF, .ref aRT, .ref aRN, .ref aRL, .ref aRU, .int (nI cnt)])), (aRF, .inl (cyI, 20, .inl (fun j_ => nI (F j_)))), (aRT, .inl (cyI, 20, .inl (fun j_ => nI (T j_)))), (aHW, .inl (cyI, 12, .inl wy))] U.heap ∧ va_K (dC, dI) vwCl [(cyI, .int), (cyZ, .boolean), (cyJ, .long), (cyD, .double)] U ∧ va_D (fun _ => True) [(aH, .inr (0, [.ref aD, .ref aR, .ref aHW, .ref aHL, .int (nI len), .int hN, .int hL, .int hG])), (aR, .inr (1, [.ref aRF, .ref aRT, .ref aRN, .ref aRL, .ref aRU, .int (nI cnt)])), (aRF, .inl (cyI, 20, .inl (fun j_ => nI (F j_)))), (aRT, .inl (cyI, 20, .inl (fun j_ => nI (T j_)))), (aHW, .inl (cyI, 12, .inl wy))])) (va_Qv (fun _ : Unit => True) (fun _ t => va_P (dC, dI) vwCl [(aH, .inr (0, [.ref aD, .ref aR, .ref aHW, .ref aHL, .int (nI len), .int hN, .int hL, .int hG])), (aR, .inr (1, [.ref aRF, .ref aRT, .ref aRN, .ref aRL, .ref aRU, .int (nI cnt)])), (aRF, .inl (cyI, 20, .inl (fun j_ => nI (F j_)))), (aRT, .inl (cyI, 20, .inl (fun j_ => nI (T j_)))), (aHW, .inl (cyI, 12, .inl (ewS F T e d wy)))] t.heap ∧ va_K (dC, dI) vwCl [(cyI, .int), (cyZ, .boolean), (cyJ, .long), (cyD, .double)] t ∧ va_D (va_A [(aH, .inr (0, [.ref aD, .ref aR, .ref aHW, .ref aHL, .int (nI len), .int hN, .int hL, .int hG])), (aR, .inr (1, [.ref aRF, .ref aRT, .ref aRN, .ref aRL, .ref aRU, .int (nI cnt)])), (aRF, .inl (cyI, 20, .inl (fun j_ => nI (F j_)))), (aRT, .inl (cyI, 20, .inl (fun j_ => nI (T j_)))), (aHW, .inl (cyI, 12, .inl wy))] zH) [(aH, .inr (0, [.ref aD, .ref aR, .ref aHW, .ref aHL, .int (nI len), .int hN, .int hL, .int hG])), (aR, .inr (1, [.ref aRF, .ref aRT, .ref aRN, .ref aRL, .ref aRU, .int (nI cnt)])), (aRF, .inl (cyI, 20, .inl (fun j_ => nI (F j_)))), (aRT, .inl (cyI, 20, .inl (fun j_ => nI (T j_)))), (aHW, .inl (cyI, 12, .inl (ewS F T e d wy)))]) (va_A [(aH, .inr (0, [.ref aD, .ref aR, .ref aHW, .ref aHL, .int (nI len), .int hN, .int hL, .int hG])), (aR, .inr (1, [.ref aRF, .ref aRT, .ref aRN, .ref aRL, .ref aRU, .int (nI cnt)])), (aRF, .inl (cyI, 20, .inl (fun j_ => nI (F j_)))), (aRT, .inl (cyI, 20, .inl (fun j_ => nI (T j_)))), (aHW, .inl (cyI, 12, .inl wy))] zH)) 0 0 (va_A [(aH, .inr (0, [.ref aD, .ref aR, .ref aHW, .ref aHL, .int (nI len), .int hN, .int hL, .int hG])), (aR, .inr (1, [.ref aRF, .ref aRT, .ref aRN, .ref aRL, .ref aRU, .int (nI cnt)])), (aRF, .inl (cyI, 20, .inl (fun j_ => nI (F j_)))), (aRT, .inl (cyI, 20, .inl (fun j_ => nI (T j_)))), (aHW, .inl (cyI, 12, .inl wy))] zH) := by
  refine Met.ofW (cc := cX0_extendWays) (maxL := 7) (ret := none) (by decide) rfl ?_
  intro pM eM s mM args blM mtM cM s₁ BM hml hv
  obtain ⟨rfl, hsz, hP, hK, hD0⟩ := hv
  have hx := BM.exec
  have hb := BM.bytes
  have hr := BM.returns
  have hts := atoms_spec (ws := wsX0_extendWays) BM.pre
  have hown : s.vm.findClass RX0 = some mM.cls := findClass_of_methodNamed BM.named
  have hlocks := BM.notSynchronized
  have w0 := hts (.fieldLink RX0 41 "DimensionChecker$Chain" "rows" "LDimensionChecker$Dimensions;") (by decide +kernel)
  have w1 := hts (.fieldLink RX0 72 "DimensionChecker$Dimensions" "from" "[I") (by decide +kernel)
  have w2 := hts (.fieldLink RX0 75 "DimensionChecker$Dimensions" "to" "[I") (by decide +kernel)
  have w3 := hts (.fieldLink RX0 9 "DimensionChecker$Chain" "wayOn" "[I") (by decide +kernel)
  have iX0 : ∀ w ∈ wsX00, w ∈ wsX0_extendWays := by decide +kernel
  have iX1 : ∀ w ∈ wsX10, w ∈ wsX0_extendWays := by decide +kernel
  subst hsz
  have hD := hD0.self (sz := s.heap.size)
  obtain ⟨Q, hQe⟩ : ∃ Q : State → Prop, Q = MQ blM (va_Qv (fun _ : Unit => True) (fun _ t => va_P (dC, dI) vwCl [(aH, .inr (0, [.ref aD, .ref aR, .ref aHW, .ref aHL, .int (nI len), .int hN, .int hL, .int hG])), (aR, .inr (1, [.ref aRF, .ref aRT, .ref aRN, .ref aRL, .ref aRU, .int (nI cnt)])), (aRF, .inl (cyI, 20, .inl (fun j_ => nI (F j_)))), (aRT, .inl (cyI, 20, .inl (fun j_ => nI (T j_)))), (aHW, .inl (cyI, 12, .inl (ewS F T e d wy)))] t.heap ∧ va_K (dC, dI) vwCl [(cyI, .int), (cyZ, .boolean), (cyJ, .long), (cyD, .double)] t ∧ va_D (va_A [(aH, .inr (0, [.ref aD, .ref aR, .ref aHW, .ref aHL, .int (nI len), .int hN, .int hL, .int hG])), (aR, .inr (1, [.ref aRF, .ref aRT, .ref aRN, .ref aRL, .ref aRU, .int (nI cnt)])), (aRF, .inl (cyI, 20, .inl (fun j_ => nI (F j_)))), (aRT, .inl (cyI, 20, .inl (fun j_ => nI (T j_)))), (aHW, .inl (cyI, 12, .inl wy))] s.heap.size) [(aH, .inr (0, [.ref aD, .ref aR, .ref aHW, .ref aHL, .int (nI len), .int hN, .int hL, .int hG])), (aR, .inr (1, [.ref aRF, .ref aRT, .ref aRN, .ref aRL, .ref aRU, .int (nI cnt)])), (aRF, .inl (cyI, 20, .inl (fun j_ => nI (F j_)))), (aRT, .inl (cyI, 20, .inl (fun j_ => nI (T j_)))), (aHW, .inl (cyI, 12, .inl (ewS F T e d wy)))]) (va_A [(aH, .inr (0, [.ref aD, .ref aR, .ref aHW, .ref aHL, .int (nI len), .int hN, .int hL, .int hG])), (aR, .inr (1, [.ref aRF, .ref aRT, .ref aRN, .ref aRL, .ref aRU, .int (nI cnt)])), (aRF, .inl (cyI, 20, .inl (fun j_ => nI (F j_)))), (aRT, .inl (cyI, 20, .inl (fun j_ => nI (T j_)))), (aHW, .inl (cyI, 12, .inl wy))] s.heap.size)) ([.ref aH, .int (nI d), .int (nI e)] : List Value).toArray s 0 0 (va_A [(aH, .inr (0, [.ref aD, .ref aR, .ref aHW, .ref aHL, .int (nI len), .int hN, .int hL, .int hG])), (aR, .inr (1, [.ref aRF, .ref aRT, .ref aRN, .ref aRL, .ref aRU, .int (nI cnt)])), (aRF, .inl (cyI, 20, .inl (fun j_ => nI (F j_)))), (aRT, .inl (cyI, 20, .inl (fun j_ => nI (T j_)))), (aHW, .inl (cyI, 12, .inl wy))] s.heap.size) := ⟨_, rfl⟩
  rw [← hQe]
  generalize hAe : va_A [(aH, .inr (0, [.ref aD, .ref aR, .ref aHW, .ref aHL, .int (nI len), .int hN, .int hL, .int hG])), (aR, .inr (1, [.ref aRF, .ref aRT, .ref aRN, .ref aRL, .ref aRU, .int (nI cnt)])), (aRF, .inl (cyI, 20, .inl (fun j_ => nI (F j_)))), (aRT, .inl (cyI, 20, .inl (fun j_ => nI (T j_)))), (aHW, .inl (cyI, 12, .inl wy))] s.heap.size = A at hD hQe
  have hA : ∀ q : Nat, s.heap.size ≤ q → A q := fun q h => by rw [← hAe]; exact Or.inr h
  obtain ⟨H, hHe⟩ : ∃ H : Heap, H = s.heap := ⟨_, rfl⟩
  have hS : va_S A s.heap H [] := by rw [hHe]; exact va_S.rf
  rw [← hHe] at hP ⊢
  have hl := lv_entry ([.ref aH, .int (nI d), .int (nI e)]) (n := 7) (Nat.le_of_ble_eq_true rfl)
  rw [lg_entry_eq]
  generalize (lg_sl ([.ref aH, .int (nI d), .int (nI e)]) ++ List.replicate (7 - (lg_sl ([.ref aH, .int (nI d), .int (nI e)])).length) Slot.unset).toArray = ls at hl ⊢
  have hl : lv_has ls 7 [(0, .ref aH), (1, .int (nI d)), (2, .int (nI e))] := hl
  refine lv_aload_n hx hb dX0_extendWays_0 rfl (lv_at hl 0 rfl) ?_
  refine va_get (D := (dC, dI)) (ci := 0) (v := .ref aR) (C := RX0) (T := TX0) (N := 8) hx hb hts iX0 hown hK hP 0 rfl rfl 1 (by decide) w0 (fun _ h9 => h9) rfl dX0_extendWays_1 ?_
  refine va_get (D := (dC, dI)) (ci := 1) (v := .ref aRF) (C := RX1) (T := TX1) (N := 6) hx hb hts iX1 hown hK hP 1 rfl rfl 0 (by decide) w1 (fun _ h9 => h9) rfl dX0_extendWays_4 ?_
  refine lv_iload_n hx hb dX0_extendWays_7 rfl (lv_at hl 1 rfl) ?_
  have h1 : vp_in (nI d) 20 := by first | exact vp_in_nI (by omega) (by omega) | assumption
  refine va_iald hx hb hK hP 2 0 rfl rfl h1 dX0_extendWays_8 ?_
  refine lv_topi (fun x2 e3 => ?_)
  obtain rfl : x2 = (nI (F d)) := by rw [e3, nI_clamp (by omega)]
  clear e3
  refine lv_istore_n (lv' := [(3, .int (nI (F d))), (0, .ref aH), (1, .int (nI d)), (2, .int (nI e))]) hx hb dX0_extendWays_9 rfl hl (by decide) rfl (fun ls hl => ?_)
  refine lv_aload_n hx hb dX0_extendWays_10 rfl (lv_at hl 1 rfl) ?_
  refine va_get (D := (dC, dI)) (ci := 0) (v := .ref aR) (C := RX0) (T := TX0) (N := 8) hx hb hts iX0 hown hK hP 0 rfl rfl 1 (by decide) w0 (fun _ h9 => h9) rfl dX0_extendWays_11 ?_
  refine va_get (D := (dC, dI)) (ci := 1) (v := .ref aRT) (C := RX1) (T := TX1) (N := 6) hx hb hts iX1 hown hK hP 1 rfl rfl 1 (by decide) w2 (fun _ h9 => h9) rfl dX0_extendWays_14 ?_
  refine lv_iload_n hx hb dX0_extendWays_17 rfl (lv_at hl 2 rfl) ?_
  have h4 : vp_in (nI d) 20 := by first | exact vp_in_nI (by omega) (by omega) | assumption
  refine va_iald hx hb hK hP 3 0 rfl rfl h4 dX0_extendWays_18 ?_
  refine lv_topi (fun x5 e6 => ?_)
  obtain rfl : x5 = (nI (T d)) := by rw [e6, nI_clamp (by omega)]
  clear e6
  refine lv_istore (lv' := [(4, .int (nI (T d))), (3, .int (nI (F d))), (0, .ref aH), (1, .int (nI d)), (2, .int (nI e))]) hx hb dX0_extendWays_19 hl (by decide) rfl (fun ls hl => ?_)
  refine lv_iload_n hx hb dX0_extendWays_21 rfl (lv_at hl 1 rfl) ?_
  refine lv_iload_n hx hb dX0_extendWays_22 rfl (lv_at hl 4 rfl) ?_
  refine lv_icmp_eq (tgt := 36) hx hb dX0_extendWays_23 (by decide) (fun c23 => ?_) (fun c23 => ?_)
  · have c23 := n_eq (a := F d) (b := e) (by omega) (by omega) c23
    refine lv_iconst (v := 1) hx hb dX0_extendWays_36 (by decide) ?_
    refine lv_goto (tgt := 41) hx hb dX0_extendWays_37 (by decide) ?_
    refine lv_istore (lv' := [(5, .int 1), (4, .int (nI (T d))), (3, .int (nI (F d))), (0, .ref aH), (1, .int (nI d)), (2, .int (nI e))]) hx hb dX0_extendWays_41 hl (by decide) rfl (fun ls hl => ?_)
    refine lv_iload hx hb dX0_extendWays_43 (lv_at hl 1 rfl) ?_
    refine lv_iload_n hx hb dX0_extendWays_45 rfl (lv_at hl 5 rfl) ?_
    refine lv_icmp_eq (tgt := 60) hx hb dX0_extendWays_46 (by decide) (fun c46 => ?_) (fun c46 => ?_)
    · have c46 := n_eq (a := T d) (b := e) (by omega) (by omega) c46
      refine lv_iconst (v := 1) hx hb dX0_extendWays_60 (by decide) ?_
      refine lv_goto (tgt := 65) hx hb dX0_extendWays_61 (by decide) ?_
      refine lv_istore (lv' := [(6, .int 1), (5, .int 1), (4, .int (nI (T d))), (3, .int (nI (F d))), (0, .ref aH), (1, .int (nI d)), (2, .int (nI e))]) hx hb dX0_extendWays_65 hl (by decide) rfl (fun ls hl => ?_)
      refine lv_iload hx hb dX0_extendWays_67 (lv_at hl 1 rfl) ?_
      refine lv_if_eq (tgt := 88) hx hb dX0_extendWays_69 (by decide) (fun c69 => ?_) (fun c69 => ?_)
      · exact absurd c69 (by decide)
      · skip
        refine lv_iload hx hb dX0_extendWays_72 (lv_at hl 0 rfl) ?_
        refine lv_if_ne (tgt := 88) hx hb dX0_extendWays_74 (by decide) (fun c74 => ?_) (fun c74 => ?_)
        · skip
          refine lv_iload hx hb dX0_extendWays_88 (lv_at hl 0 rfl) ?_
          refine lv_if_eq (tgt := 105) hx hb dX0_extendWays_90 (by decide) (fun c90 => ?_) (fun c90 => ?_)
          · exact absurd c90 (by decide)
          · skip
            refine lv_iload hx hb dX0_extendWays_93 (lv_at hl 1 rfl) ?_
            refine lv_if_ne (tgt := 105) hx hb dX0_extendWays_95 (by decide) (fun c95 => ?_) (fun c95 => ?_)
            · skip
              have q7 : (ewS F T e d wy) = wy := by simp [ewS, *]
              have hP9 : va_P (dC, dI) vwCl [(aH, .inr (0, [.ref aD, .ref aR, .ref aHW, .ref aHL, .int (nI len), .int hN, .int hL, .int hG])), (aR, .inr (1, [.ref aRF, .ref aRT, .ref aRN, .ref aRL, .ref aRU, .int (nI cnt)])), (aRF, .inl (cyI, 20, .inl (fun j_ => nI (F j_)))), (aRT, .inl (cyI, 20, .inl (fun j_ => nI (T j_)))), (aHW, .inl (cyI, 12, .inl (ewS F T e d wy)))] H := by first | (rw [q7]; exact hP.sub [0, 1, 2, 3, 4] rfl) | (simp only [q7]; exact hP.sub [0, 1, 2, 3, 4] rfl) | exact hP.sub [0, 1, 2, 3, 4] rfl
              have hD9 : va_D A [(aH, .inr (0, [.ref aD, .ref aR, .ref aHW, .ref aHL, .int (nI len), .int hN, .int hL, .int hG])), (aR, .inr (1, [.ref aRF, .ref aRT, .ref aRN, .ref aRL, .ref aRU, .int (nI cnt)])), (aRF, .inl (cyI, 20, .inl (fun j_ => nI (F j_)))), (aRT, .inl (cyI, 20, .inl (fun j_ => nI (T j_)))), (aHW, .inl (cyI, 12, .inl (ewS F T e d wy)))] := by first | (rw [q7]; exact hD.sub [0, 1, 2, 3, 4] (by decide) rfl) | (simp only [q7]; exact hD.sub [0, 1, 2, 3, 4] (by decide) rfl) | exact hD.sub [0, 1, 2, 3, 4] (by decide) rfl
              subst hAe
              subst hQe
              exact W.vret hx hb hr (fun t ht hW => ⟨⟨(), rfl, trivial, by rw [ht]; exact hP9, va_K.moved hW.alike hK, hD9⟩, hS.F ht⟩) hS.2.2 dX0_extendWays_105
            · exact absurd c95 (by decide)
        · exact absurd c74 (by decide)
    · have c46 := n_ne (a := T d) (b := e) (by omega) (by omega) c46
      refine lv_aload_n hx hb dX0_extendWays_49 rfl (lv_at hl 3 rfl) ?_
      refine va_get (D := (dC, dI)) (ci := 0) (v := .ref aHW) (C := RX0) (T := TX0) (N := 8) hx hb hts iX0 hown hK hP 0 rfl rfl 2 (by decide) w3 (fun _ h9 => h9) rfl dX0_extendWays_50 ?_
      refine lv_iload hx hb dX0_extendWays_53 (lv_at hl 1 rfl) ?_
      have h8 : vp_in (nI (T d)) 12 := by first | exact vp_in_nI (by omega) (by omega) | assumption
      refine va_iald hx hb hK hP 4 0 rfl rfl h8 dX0_extendWays_55 ?_
      refine lv_topi (fun x9 e10 => ?_)
      obtain rfl : x9 = (wy (T d)) := by rw [e10, nI_clamp (by omega)]
      clear e10
      refine lv_iconst (v := (-1)) hx hb dX0_extendWays_56 (by decide) ?_
      refine lv_icmp_eq (tgt := 64) hx hb dX0_extendWays_57 (by decide) (fun c57 => ?_) (fun c57 => ?_)
      · skip
        refine lv_iconst (v := 0) hx hb dX0_extendWays_64 (by decide) ?_
        refine lv_istore (lv' := [(6, .int 0), (5, .int 1), (4, .int (nI (T d))), (3, .int (nI (F d))), (0, .ref aH), (1, .int (nI d)), (2, .int (nI e))]) hx hb dX0_extendWays_65 hl (by decide) rfl (fun ls hl => ?_)
        refine lv_iload hx hb dX0_extendWays_67 (lv_at hl 1 rfl) ?_
        refine lv_if_eq (tgt := 88) hx hb dX0_extendWays_69 (by decide) (fun c69 => ?_) (fun c69 => ?_)
        · exact absurd c69 (by decide)
        · skip
          refine lv_iload hx hb dX0_extendWays_72 (lv_at hl 0 rfl) ?_
          refine lv_if_ne (tgt := 88) hx hb dX0_extendWays_74 (by decide) (fun c74 => ?_) (fun c74 => ?_)
          · exact absurd c74 (by decide)
          · skip
            refine lv_aload_n hx hb dX0_extendWays_77 rfl (lv_at hl 4 rfl) ?_
            refine va_get (D := (dC, dI)) (ci := 0) (v := .ref aHW) (C := RX0) (T := TX0) (N := 8) hx hb hts iX0 hown hK hP 0 rfl rfl 2 (by decide) w3 (fun _ h9 => h9) rfl dX0_extendWays_78 ?_
            refine lv_iload hx hb dX0_extendWays_81 (lv_at hl 2 rfl) ?_
            refine lv_iload_n hx hb dX0_extendWays_83 rfl (lv_at hl 5 rfl) ?_
            have h11 : vp_in (nI (T d)) 12 := by first | exact vp_in_nI (by omega) (by omega) | assumption
            refine va_iast hx hb hK hP hD hS 4 0 rfl rfl h11 dX0_extendWays_84 (fun H locs hP hD hS => ?_)
            rw [nI_clamp (by omega)] at hP hD
            have hP : va_P (dC, dI) vwCl [(aH, .inr (0, [.ref aD, .ref aR, .ref aHW, .ref aHL, .int (nI len), .int hN, .int hL, .int hG])), (aR, .inr (1, [.ref aRF, .ref aRT, .ref aRN, .ref aRL, .ref aRU, .int (nI cnt)])), (aRF, .inl (cyI, 20, .inl (fun j_ => nI (F j_)))), (aRT, .inl (cyI, 20, .inl (fun j_ => nI (T j_)))), (aHW, .inl (cyI, 12, .inl (upd wy (T d) (nI d))))] H := hP
            have hD : va_D A [(aH, .inr (0, [.ref aD, .ref aR, .ref aHW, .ref aHL, .int (nI len), .int hN, .int hL, .int hG])), (aR, .inr (1, [.ref aRF, .ref aRT, .ref aRN, .ref aRL, .ref aRU, .int (nI cnt)])), (aRF, .inl (cyI, 20, .inl (fun j_ => nI (F j_)))), (aRT, .inl (cyI, 20, .inl (fun j_ => nI (T j_)))), (aHW, .inl (cyI, 12, .inl (upd wy (T d) (nI d))))] := hD
            refine lv_goto (tgt := 105) hx hb dX0_extendWays_85 (by decide) ?_
            have q12 : (ewS F T e d wy) = (upd wy (T d) (nI d)) := by simp [ewS, *]
            have hP9 : va_P (dC, dI) vwCl [(aH, .inr (0, [.ref aD, .ref aR, .ref aHW, .ref aHL, .int (nI len), .int hN, .int hL, .int hG])), (aR, .inr (1, [.ref aRF, .ref aRT, .ref aRN, .ref aRL, .ref aRU, .int (nI cnt)])), (aRF, .inl (cyI, 20, .inl (fun j_ => nI (F j_)))), (aRT, .inl (cyI, 20, .inl (fun j_ => nI (T j_)))), (aHW, .inl (cyI, 12, .inl (ewS F T e d wy)))] H := by first | (rw [q12]; exact hP.sub [0, 1, 2, 3, 4] rfl) | (simp only [q12]; exact hP.sub [0, 1, 2, 3, 4] rfl) | exact hP.sub [0, 1, 2, 3, 4] rfl
            have hD9 : va_D A [(aH, .inr (0, [.ref aD, .ref aR, .ref aHW, .ref aHL, .int (nI len), .int hN, .int hL, .int hG])), (aR, .inr (1, [.ref aRF, .ref aRT, .ref aRN, .ref aRL, .ref aRU, .int (nI cnt)])), (aRF, .inl (cyI, 20, .inl (fun j_ => nI (F j_)))), (aRT, .inl (cyI, 20, .inl (fun j_ => nI (T j_)))), (aHW, .inl (cyI, 12, .inl (ewS F T e d wy)))] := by first | (rw [q12]; exact hD.sub [0, 1, 2, 3, 4] (by decide) rfl) | (simp only [q12]; exact hD.sub [0, 1, 2, 3, 4] (by decide) rfl) | exact hD.sub [0, 1, 2, 3, 4] (by decide) rfl
            subst hAe
            subst hQe
            exact W.vret hx hb hr (fun t ht hW => ⟨⟨(), rfl, trivial, by rw [ht]; exact hP9, va_K.moved hW.alike hK, hD9⟩, hS.F ht⟩) hS.2.2 dX0_extendWays_105
      · skip
        refine lv_iconst (v := 1) hx hb dX0_extendWays_60 (by decide) ?_
        refine lv_goto (tgt := 65) hx hb dX0_extendWays_61 (by decide) ?_
        refine lv_istore (lv' := [(6, .int 1), (5, .int 1), (4, .int (nI (T d))), (3, .int (nI (F d))), (0, .ref aH), (1, .int (nI d)), (2, .int (nI e))]) hx hb dX0_extendWays_65 hl (by decide) rfl (fun ls hl => ?_)
        refine lv_iload hx hb dX0_extendWays_67 (lv_at hl 1 rfl) ?_
        refine lv_if_eq (tgt := 88) hx hb dX0_extendWays_69 (by decide) (fun c69 => ?_) (fun c69 => ?_)
        · exact absurd c69 (by decide)
        · skip
          refine lv_iload hx hb dX0_extendWays_72 (lv_at hl 0 rfl) ?_
          refine lv_if_ne (tgt := 88) hx hb dX0_extendWays_74 (by decide) (fun c74 => ?_) (fun c74 => ?_)
          · skip
            refine lv_iload hx hb dX0_extendWays_88 (lv_at hl 0 rfl) ?_
            refine lv_if_eq (tgt := 105) hx hb dX0_extendWays_90 (by decide) (fun c90 => ?_) (fun c90 => ?_)
            · exact absurd c90 (by decide)
            · skip
              refine lv_iload hx hb dX0_extendWays_93 (lv_at hl 1 rfl) ?_
              refine lv_if_ne (tgt := 105) hx hb dX0_extendWays_95 (by decide) (fun c95 => ?_) (fun c95 => ?_)
              · skip
                have q13 : (ewS F T e d wy) = wy := by simp [ewS, *]
                have hP9 : va_P (dC, dI) vwCl [(aH, .inr (0, [.ref aD, .ref aR, .ref aHW, .ref aHL, .int (nI len), .int hN, .int hL, .int hG])), (aR, .inr (1, [.ref aRF, .ref aRT, .ref aRN, .ref aRL, .ref aRU, .int (nI cnt)])), (aRF, .inl (cyI, 20, .inl (fun j_ => nI (F j_)))), (aRT, .inl (cyI, 20, .inl (fun j_ => nI (T j_)))), (aHW, .inl (cyI, 12, .inl (ewS F T e d wy)))] H := by first | (rw [q13]; exact hP.sub [0, 1, 2, 3, 4] rfl) | (simp only [q13]; exact hP.sub [0, 1, 2, 3, 4] rfl) | exact hP.sub [0, 1, 2, 3, 4] rfl
                have hD9 : va_D A [(aH, .inr (0, [.ref aD, .ref aR, .ref aHW, .ref aHL, .int (nI len), .int hN, .int hL, .int hG])), (aR, .inr (1, [.ref aRF, .ref aRT, .ref aRN, .ref aRL, .ref aRU, .int (nI cnt)])), (aRF, .inl (cyI, 20, .inl (fun j_ => nI (F j_)))), (aRT, .inl (cyI, 20, .inl (fun j_ => nI (T j_)))), (aHW, .inl (cyI, 12, .inl (ewS F T e d wy)))] := by first | (rw [q13]; exact hD.sub [0, 1, 2, 3, 4] (by decide) rfl) | (simp only [q13]; exact hD.sub [0, 1, 2, 3, 4] (by decide) rfl) | exact hD.sub [0, 1, 2, 3, 4] (by decide) rfl
                subst hAe
                subst hQe
                exact W.vret hx hb hr (fun t ht hW => ⟨⟨(), rfl, trivial, by rw [ht]; exact hP9, va_K.moved hW.alike hK, hD9⟩, hS.F ht⟩) hS.2.2 dX0_extendWays_105
              · exact absurd c95 (by decide)
          · exact absurd c74 (by decide)
  · have c23 := n_ne (a := F d) (b := e) (by omega) (by omega) c23
    refine lv_aload_n hx hb dX0_extendWays_26 rfl (lv_at hl 2 rfl) ?_
    refine va_get (D := (dC, dI)) (ci := 0) (v := .ref aHW) (C := RX0) (T := TX0) (N := 8) hx hb hts iX0 hown hK hP 0 rfl rfl 2 (by decide) w3 (fun _ h9 => h9) rfl dX0_extendWays_27 ?_
    refine lv_iload_n hx hb dX0_extendWays_30 rfl (lv_at hl 1 rfl) ?_
    have h14 : vp_in (nI (F d)) 12 := by first | exact vp_in_nI (by omega) (by omega) | assumption
    refine va_iald hx hb hK hP 4 0 rfl rfl h14 dX0_extendWays_31 ?_
    refine lv_topi (fun x15 e16 => ?_)
    obtain rfl : x15 = (wy (F d)) := by rw [e16, nI_clamp (by omega)]
    clear e16
    refine lv_iconst (v := (-1)) hx hb dX0_extendWays_32 (by decide) ?_
    refine lv_icmp_eq (tgt := 40) hx hb dX0_extendWays_33 (by decide) (fun c33 => ?_) (fun c33 => ?_)
    · skip
      refine lv_iconst (v := 0) hx hb dX0_extendWays_40 (by decide) ?_
      refine lv_istore (lv' := [(5, .int 0), (4, .int (nI (T d))), (3, .int (nI (F d))), (0, .ref aH), (1, .int (nI d)), (2, .int (nI e))]) hx hb dX0_extendWays_41 hl (by decide) rfl (fun ls hl => ?_)
      refine lv_iload hx hb dX0_extendWays_43 (lv_at hl 1 rfl) ?_
      refine lv_iload_n hx hb dX0_extendWays_45 rfl (lv_at hl 5 rfl) ?_
      refine lv_icmp_eq (tgt := 60) hx hb dX0_extendWays_46 (by decide) (fun c46 => ?_) (fun c46 => ?_)
      · have c46 := n_eq (a := T d) (b := e) (by omega) (by omega) c46
        refine lv_iconst (v := 1) hx hb dX0_extendWays_60 (by decide) ?_
        refine lv_goto (tgt := 65) hx hb dX0_extendWays_61 (by decide) ?_
        refine lv_istore (lv' := [(6, .int 1), (5, .int 0), (4, .int (nI (T d))), (3, .int (nI (F d))), (0, .ref aH), (1, .int (nI d)), (2, .int (nI e))]) hx hb dX0_extendWays_65 hl (by decide) rfl (fun ls hl => ?_)
        refine lv_iload hx hb dX0_extendWays_67 (lv_at hl 1 rfl) ?_
        refine lv_if_eq (tgt := 88) hx hb dX0_extendWays_69 (by decide) (fun c69 => ?_) (fun c69 => ?_)
        · skip
          refine lv_iload hx hb dX0_extendWays_88 (lv_at hl 0 rfl) ?_
          refine lv_if_eq (tgt := 105) hx hb dX0_extendWays_90 (by decide) (fun c90 => ?_) (fun c90 => ?_)
          · exact absurd c90 (by decide)
          · skip
            refine lv_iload hx hb dX0_extendWays_93 (lv_at hl 1 rfl) ?_
            refine lv_if_ne (tgt := 105) hx hb dX0_extendWays_95 (by decide) (fun c95 => ?_) (fun c95 => ?_)
            · exact absurd c95 (by decide)
            · skip
              refine lv_aload_n hx hb dX0_extendWays_98 rfl (lv_at hl 4 rfl) ?_
              refine va_get (D := (dC, dI)) (ci := 0) (v := .ref aHW) (C := RX0) (T := TX0) (N := 8) hx hb hts iX0 hown hK hP 0 rfl rfl 2 (by decide) w3 (fun _ h9 => h9) rfl dX0_extendWays_99 ?_
              refine lv_iload_n hx hb dX0_extendWays_102 rfl (lv_at hl 3 rfl) ?_
              refine lv_iload_n hx hb dX0_extendWays_103 rfl (lv_at hl 5 rfl) ?_
              have h17 : vp_in (nI (F d)) 12 := by first | exact vp_in_nI (by omega) (by omega) | assumption
              refine va_iast hx hb hK hP hD hS 4 0 rfl rfl h17 dX0_extendWays_104 (fun H locs hP hD hS => ?_)
              rw [nI_clamp (by omega)] at hP hD
              have hP : va_P (dC, dI) vwCl [(aH, .inr (0, [.ref aD, .ref aR, .ref aHW, .ref aHL, .int (nI len), .int hN, .int hL, .int hG])), (aR, .inr (1, [.ref aRF, .ref aRT, .ref aRN, .ref aRL, .ref aRU, .int (nI cnt)])), (aRF, .inl (cyI, 20, .inl (fun j_ => nI (F j_)))), (aRT, .inl (cyI, 20, .inl (fun j_ => nI (T j_)))), (aHW, .inl (cyI, 12, .inl (upd wy (F d) (nI d))))] H := hP
              have hD : va_D A [(aH, .inr (0, [.ref aD, .ref aR, .ref aHW, .ref aHL, .int (nI len), .int hN, .int hL, .int hG])), (aR, .inr (1, [.ref aRF, .ref aRT, .ref aRN, .ref aRL, .ref aRU, .int (nI cnt)])), (aRF, .inl (cyI, 20, .inl (fun j_ => nI (F j_)))), (aRT, .inl (cyI, 20, .inl (fun j_ => nI (T j_)))), (aHW, .inl (cyI, 12, .inl (upd wy (F d) (nI d))))] := hD
              have q18 : (ewS F T e d wy) = (upd wy (F d) (nI d)) := by simp [ewS, *]
              have hP9 : va_P (dC, dI) vwCl [(aH, .inr (0, [.ref aD, .ref aR, .ref aHW, .ref aHL, .int (nI len), .int hN, .int hL, .int hG])), (aR, .inr (1, [.ref aRF, .ref aRT, .ref aRN, .ref aRL, .ref aRU, .int (nI cnt)])), (aRF, .inl (cyI, 20, .inl (fun j_ => nI (F j_)))), (aRT, .inl (cyI, 20, .inl (fun j_ => nI (T j_)))), (aHW, .inl (cyI, 12, .inl (ewS F T e d wy)))] H := by first | (rw [q18]; exact hP.sub [0, 1, 2, 3, 4] rfl) | (simp only [q18]; exact hP.sub [0, 1, 2, 3, 4] rfl) | exact hP.sub [0, 1, 2, 3, 4] rfl
              have hD9 : va_D A [(aH, .inr (0, [.ref aD, .ref aR, .ref aHW, .ref aHL, .int (nI len), .int hN, .int hL, .int hG])), (aR, .inr (1, [.ref aRF, .ref aRT, .ref aRN, .ref aRL, .ref aRU, .int (nI cnt)])), (aRF, .inl (cyI, 20, .inl (fun j_ => nI (F j_)))), (aRT, .inl (cyI, 20, .inl (fun j_ => nI (T j_)))), (aHW, .inl (cyI, 12, .inl (ewS F T e d wy)))] := by first | (rw [q18]; exact hD.sub [0, 1, 2, 3, 4] (by decide) rfl) | (simp only [q18]; exact hD.sub [0, 1, 2, 3, 4] (by decide) rfl) | exact hD.sub [0, 1, 2, 3, 4] (by decide) rfl
              subst hAe
              subst hQe
              exact W.vret hx hb hr (fun t ht hW => ⟨⟨(), rfl, trivial, by rw [ht]; exact hP9, va_K.moved hW.alike hK, hD9⟩, hS.F ht⟩) hS.2.2 dX0_extendWays_105
        · exact absurd c69 (by decide)
      · have c46 := n_ne (a := T d) (b := e) (by omega) (by omega) c46
        refine lv_aload_n hx hb dX0_extendWays_49 rfl (lv_at hl 3 rfl) ?_
        refine va_get (D := (dC, dI)) (ci := 0) (v := .ref aHW) (C := RX0) (T := TX0) (N := 8) hx hb hts iX0 hown hK hP 0 rfl rfl 2 (by decide) w3 (fun _ h9 => h9) rfl dX0_extendWays_50 ?_
        refine lv_iload hx hb dX0_extendWays_53 (lv_at hl 1 rfl) ?_
        have h19 : vp_in (nI (T d)) 12 := by first | exact vp_in_nI (by omega) (by omega) | assumption
        refine va_iald hx hb hK hP 4 0 rfl rfl h19 dX0_extendWays_55 ?_
        refine lv_topi (fun x20 e21 => ?_)
        obtain rfl : x20 = (wy (T d)) := by rw [e21, nI_clamp (by omega)]
        clear e21
        refine lv_iconst (v := (-1)) hx hb dX0_extendWays_56 (by decide) ?_
        refine lv_icmp_eq (tgt := 64) hx hb dX0_extendWays_57 (by decide) (fun c57 => ?_) (fun c57 => ?_)
        · skip
          refine lv_iconst (v := 0) hx hb dX0_extendWays_64 (by decide) ?_
          refine lv_istore (lv' := [(6, .int 0), (5, .int 0), (4, .int (nI (T d))), (3, .int (nI (F d))), (0, .ref aH), (1, .int (nI d)), (2, .int (nI e))]) hx hb dX0_extendWays_65 hl (by decide) rfl (fun ls hl => ?_)
          refine lv_iload hx hb dX0_extendWays_67 (lv_at hl 1 rfl) ?_
          refine lv_if_eq (tgt := 88) hx hb dX0_extendWays_69 (by decide) (fun c69 => ?_) (fun c69 => ?_)
          · skip
            refine lv_iload hx hb dX0_extendWays_88 (lv_at hl 0 rfl) ?_
            refine lv_if_eq (tgt := 105) hx hb dX0_extendWays_90 (by decide) (fun c90 => ?_) (fun c90 => ?_)
            · skip
              have q22 : (ewS F T e d wy) = wy := by simp [ewS, *]
              have hP9 : va_P (dC, dI) vwCl [(aH, .inr (0, [.ref aD, .ref aR, .ref aHW, .ref aHL, .int (nI len), .int hN, .int hL, .int hG])), (aR, .inr (1, [.ref aRF, .ref aRT, .ref aRN, .ref aRL, .ref aRU, .int (nI cnt)])), (aRF, .inl (cyI, 20, .inl (fun j_ => nI (F j_)))), (aRT, .inl (cyI, 20, .inl (fun j_ => nI (T j_)))), (aHW, .inl (cyI, 12, .inl (ewS F T e d wy)))] H := by first | (rw [q22]; exact hP.sub [0, 1, 2, 3, 4] rfl) | (simp only [q22]; exact hP.sub [0, 1, 2, 3, 4] rfl) | exact hP.sub [0, 1, 2, 3, 4] rfl
              have hD9 : va_D A [(aH, .inr (0, [.ref aD, .ref aR, .ref aHW, .ref aHL, .int (nI len), .int hN, .int hL, .int hG])), (aR, .inr (1, [.ref aRF, .ref aRT, .ref aRN, .ref aRL, .ref aRU, .int (nI cnt)])), (aRF, .inl (cyI, 20, .inl (fun j_ => nI (F j_)))), (aRT, .inl (cyI, 20, .inl (fun j_ => nI (T j_)))), (aHW, .inl (cyI, 12, .inl (ewS F T e d wy)))] := by first | (rw [q22]; exact hD.sub [0, 1, 2, 3, 4] (by decide) rfl) | (simp only [q22]; exact hD.sub [0, 1, 2, 3, 4] (by decide) rfl) | exact hD.sub [0, 1, 2, 3, 4] (by decide) rfl
              subst hAe
              subst hQe
              exact W.vret hx hb hr (fun t ht hW => ⟨⟨(), rfl, trivial, by rw [ht]; exact hP9, va_K.moved hW.alike hK, hD9⟩, hS.F ht⟩) hS.2.2 dX0_extendWays_105
            · exact absurd c90 (by decide)
          · exact absurd c69 (by decide)
        · skip
          refine lv_iconst (v := 1) hx hb dX0_extendWays_60 (by decide) ?_
          refine lv_goto (tgt := 65) hx hb dX0_extendWays_61 (by decide) ?_
          refine lv_istore (lv' := [(6, .int 1), (5, .int 0), (4, .int (nI (T d))), (3, .int (nI (F d))), (0, .ref aH), (1, .int (nI d)), (2, .int (nI e))]) hx hb dX0_extendWays_65 hl (by decide) rfl (fun ls hl => ?_)
          refine lv_iload hx hb dX0_extendWays_67 (lv_at hl 1 rfl) ?_
          refine lv_if_eq (tgt := 88) hx hb dX0_extendWays_69 (by decide) (fun c69 => ?_) (fun c69 => ?_)
          · skip
            refine lv_iload hx hb dX0_extendWays_88 (lv_at hl 0 rfl) ?_
            refine lv_if_eq (tgt := 105) hx hb dX0_extendWays_90 (by decide) (fun c90 => ?_) (fun c90 => ?_)
            · exact absurd c90 (by decide)
            · skip
              refine lv_iload hx hb dX0_extendWays_93 (lv_at hl 1 rfl) ?_
              refine lv_if_ne (tgt := 105) hx hb dX0_extendWays_95 (by decide) (fun c95 => ?_) (fun c95 => ?_)
              · exact absurd c95 (by decide)
              · skip
                refine lv_aload_n hx hb dX0_extendWays_98 rfl (lv_at hl 4 rfl) ?_
                refine va_get (D := (dC, dI)) (ci := 0) (v := .ref aHW) (C := RX0) (T := TX0) (N := 8) hx hb hts iX0 hown hK hP 0 rfl rfl 2 (by decide) w3 (fun _ h9 => h9) rfl dX0_extendWays_99 ?_
                refine lv_iload_n hx hb dX0_extendWays_102 rfl (lv_at hl 3 rfl) ?_
                refine lv_iload_n hx hb dX0_extendWays_103 rfl (lv_at hl 5 rfl) ?_
                have h23 : vp_in (nI (F d)) 12 := by first | exact vp_in_nI (by omega) (by omega) | assumption
                refine va_iast hx hb hK hP hD hS 4 0 rfl rfl h23 dX0_extendWays_104 (fun H locs hP hD hS => ?_)
                rw [nI_clamp (by omega)] at hP hD
                have hP : va_P (dC, dI) vwCl [(aH, .inr (0, [.ref aD, .ref aR, .ref aHW, .ref aHL, .int (nI len), .int hN, .int hL, .int hG])), (aR, .inr (1, [.ref aRF, .ref aRT, .ref aRN, .ref aRL, .ref aRU, .int (nI cnt)])), (aRF, .inl (cyI, 20, .inl (fun j_ => nI (F j_)))), (aRT, .inl (cyI, 20, .inl (fun j_ => nI (T j_)))), (aHW, .inl (cyI, 12, .inl (upd wy (F d) (nI d))))] H := hP
                have hD : va_D A [(aH, .inr (0, [.ref aD, .ref aR, .ref aHW, .ref aHL, .int (nI len), .int hN, .int hL, .int hG])), (aR, .inr (1, [.ref aRF, .ref aRT, .ref aRN, .ref aRL, .ref aRU, .int (nI cnt)])), (aRF, .inl (cyI, 20, .inl (fun j_ => nI (F j_)))), (aRT, .inl (cyI, 20, .inl (fun j_ => nI (T j_)))), (aHW, .inl (cyI, 12, .inl (upd wy (F d) (nI d))))] := hD
                have q24 : (ewS F T e d wy) = (upd wy (F d) (nI d)) := by simp [ewS, *]
                have hP9 : va_P (dC, dI) vwCl [(aH, .inr (0, [.ref aD, .ref aR, .ref aHW, .ref aHL, .int (nI len), .int hN, .int hL, .int hG])), (aR, .inr (1, [.ref aRF, .ref aRT, .ref aRN, .ref aRL, .ref aRU, .int (nI cnt)])), (aRF, .inl (cyI, 20, .inl (fun j_ => nI (F j_)))), (aRT, .inl (cyI, 20, .inl (fun j_ => nI (T j_)))), (aHW, .inl (cyI, 12, .inl (ewS F T e d wy)))] H := by first | (rw [q24]; exact hP.sub [0, 1, 2, 3, 4] rfl) | (simp only [q24]; exact hP.sub [0, 1, 2, 3, 4] rfl) | exact hP.sub [0, 1, 2, 3, 4] rfl
                have hD9 : va_D A [(aH, .inr (0, [.ref aD, .ref aR, .ref aHW, .ref aHL, .int (nI len), .int hN, .int hL, .int hG])), (aR, .inr (1, [.ref aRF, .ref aRT, .ref aRN, .ref aRL, .ref aRU, .int (nI cnt)])), (aRF, .inl (cyI, 20, .inl (fun j_ => nI (F j_)))), (aRT, .inl (cyI, 20, .inl (fun j_ => nI (T j_)))), (aHW, .inl (cyI, 12, .inl (ewS F T e d wy)))] := by first | (rw [q24]; exact hD.sub [0, 1, 2, 3, 4] (by decide) rfl) | (simp only [q24]; exact hD.sub [0, 1, 2, 3, 4] (by decide) rfl) | exact hD.sub [0, 1, 2, 3, 4] (by decide) rfl
                subst hAe
                subst hQe
                exact W.vret hx hb hr (fun t ht hW => ⟨⟨(), rfl, trivial, by rw [ht]; exact hP9, va_K.moved hW.alike hK, hD9⟩, hS.F ht⟩) hS.2.2 dX0_extendWays_105
          · exact absurd c69 (by decide)
    · skip
      refine lv_iconst (v := 1) hx hb dX0_extendWays_36 (by decide) ?_
      refine lv_goto (tgt := 41) hx hb dX0_extendWays_37 (by decide) ?_
      refine lv_istore (lv' := [(5, .int 1), (4, .int (nI (T d))), (3, .int (nI (F d))), (0, .ref aH), (1, .int (nI d)), (2, .int (nI e))]) hx hb dX0_extendWays_41 hl (by decide) rfl (fun ls hl => ?_)
      refine lv_iload hx hb dX0_extendWays_43 (lv_at hl 1 rfl) ?_
      refine lv_iload_n hx hb dX0_extendWays_45 rfl (lv_at hl 5 rfl) ?_
      refine lv_icmp_eq (tgt := 60) hx hb dX0_extendWays_46 (by decide) (fun c46 => ?_) (fun c46 => ?_)
      · have c46 := n_eq (a := T d) (b := e) (by omega) (by omega) c46
        refine lv_iconst (v := 1) hx hb dX0_extendWays_60 (by decide) ?_
        refine lv_goto (tgt := 65) hx hb dX0_extendWays_61 (by decide) ?_
        refine lv_istore (lv' := [(6, .int 1), (5, .int 1), (4, .int (nI (T d))), (3, .int (nI (F d))), (0, .ref aH), (1, .int (nI d)), (2, .int (nI e))]) hx hb dX0_extendWays_65 hl (by decide) rfl (fun ls hl => ?_)
        refine lv_iload hx hb dX0_extendWays_67 (lv_at hl 1 rfl) ?_
        refine lv_if_eq (tgt := 88) hx hb dX0_extendWays_69 (by decide) (fun c69 => ?_) (fun c69 => ?_)
        · exact absurd c69 (by decide)
        · skip
          refine lv_iload hx hb dX0_extendWays_72 (lv_at hl 0 rfl) ?_
          refine lv_if_ne (tgt := 88) hx hb dX0_extendWays_74 (by decide) (fun c74 => ?_) (fun c74 => ?_)
          · skip
            refine lv_iload hx hb dX0_extendWays_88 (lv_at hl 0 rfl) ?_
            refine lv_if_eq (tgt := 105) hx hb dX0_extendWays_90 (by decide) (fun c90 => ?_) (fun c90 => ?_)
            · exact absurd c90 (by decide)
            · skip
              refine lv_iload hx hb dX0_extendWays_93 (lv_at hl 1 rfl) ?_
              refine lv_if_ne (tgt := 105) hx hb dX0_extendWays_95 (by decide) (fun c95 => ?_) (fun c95 => ?_)
              · skip
                have q25 : (ewS F T e d wy) = wy := by simp [ewS, *]
                have hP9 : va_P (dC, dI) vwCl [(aH, .inr (0, [.ref aD, .ref aR, .ref aHW, .ref aHL, .int (nI len), .int hN, .int hL, .int hG])), (aR, .inr (1, [.ref aRF, .ref aRT, .ref aRN, .ref aRL, .ref aRU, .int (nI cnt)])), (aRF, .inl (cyI, 20, .inl (fun j_ => nI (F j_)))), (aRT, .inl (cyI, 20, .inl (fun j_ => nI (T j_)))), (aHW, .inl (cyI, 12, .inl (ewS F T e d wy)))] H := by first | (rw [q25]; exact hP.sub [0, 1, 2, 3, 4] rfl) | (simp only [q25]; exact hP.sub [0, 1, 2, 3, 4] rfl) | exact hP.sub [0, 1, 2, 3, 4] rfl
                have hD9 : va_D A [(aH, .inr (0, [.ref aD, .ref aR, .ref aHW, .ref aHL, .int (nI len), .int hN, .int hL, .int hG])), (aR, .inr (1, [.ref aRF, .ref aRT, .ref aRN, .ref aRL, .ref aRU, .int (nI cnt)])), (aRF, .inl (cyI, 20, .inl (fun j_ => nI (F j_)))), (aRT, .inl (cyI, 20, .inl (fun j_ => nI (T j_)))), (aHW, .inl (cyI, 12, .inl (ewS F T e d wy)))] := by first | (rw [q25]; exact hD.sub [0, 1, 2, 3, 4] (by decide) rfl) | (simp only [q25]; exact hD.sub [0, 1, 2, 3, 4] (by decide) rfl) | exact hD.sub [0, 1, 2, 3, 4] (by decide) rfl
                subst hAe
                subst hQe
                exact W.vret hx hb hr (fun t ht hW => ⟨⟨(), rfl, trivial, by rw [ht]; exact hP9, va_K.moved hW.alike hK, hD9⟩, hS.F ht⟩) hS.2.2 dX0_extendWays_105
              · exact absurd c95 (by decide)
          · exact absurd c74 (by decide)
      · have c46 := n_ne (a := T d) (b := e) (by omega) (by omega) c46
        refine lv_aload_n hx hb dX0_extendWays_49 rfl (lv_at hl 3 rfl) ?_
        refine va_get (D := (dC, dI)) (ci := 0) (v := .ref aHW) (C := RX0) (T := TX0) (N := 8) hx hb hts iX0 hown hK hP 0 rfl rfl 2 (by decide) w3 (fun _ h9 => h9) rfl dX0_extendWays_50 ?_
        refine lv_iload hx hb dX0_extendWays_53 (lv_at hl 1 rfl) ?_
        have h26 : vp_in (nI (T d)) 12 := by first | exact vp_in_nI (by omega) (by omega) | assumption
        refine va_iald hx hb hK hP 4 0 rfl rfl h26 dX0_extendWays_55 ?_
        refine lv_topi (fun x27 e28 => ?_)
        obtain rfl : x27 = (wy (T d)) := by rw [e28, nI_clamp (by omega)]
        clear e28
        refine lv_iconst (v := (-1)) hx hb dX0_extendWays_56 (by decide) ?_
        refine lv_icmp_eq (tgt := 64) hx hb dX0_extendWays_57 (by decide) (fun c57 => ?_) (fun c57 => ?_)
        · skip
          refine lv_iconst (v := 0) hx hb dX0_extendWays_64 (by decide) ?_
          refine lv_istore (lv' := [(6, .int 0), (5, .int 1), (4, .int (nI (T d))), (3, .int (nI (F d))), (0, .ref aH), (1, .int (nI d)), (2, .int (nI e))]) hx hb dX0_extendWays_65 hl (by decide) rfl (fun ls hl => ?_)
          refine lv_iload hx hb dX0_extendWays_67 (lv_at hl 1 rfl) ?_
          refine lv_if_eq (tgt := 88) hx hb dX0_extendWays_69 (by decide) (fun c69 => ?_) (fun c69 => ?_)
          · exact absurd c69 (by decide)
          · skip
            refine lv_iload hx hb dX0_extendWays_72 (lv_at hl 0 rfl) ?_
            refine lv_if_ne (tgt := 88) hx hb dX0_extendWays_74 (by decide) (fun c74 => ?_) (fun c74 => ?_)
            · exact absurd c74 (by decide)
            · skip
              refine lv_aload_n hx hb dX0_extendWays_77 rfl (lv_at hl 4 rfl) ?_
              refine va_get (D := (dC, dI)) (ci := 0) (v := .ref aHW) (C := RX0) (T := TX0) (N := 8) hx hb hts iX0 hown hK hP 0 rfl rfl 2 (by decide) w3 (fun _ h9 => h9) rfl dX0_extendWays_78 ?_
              refine lv_iload hx hb dX0_extendWays_81 (lv_at hl 2 rfl) ?_
              refine lv_iload_n hx hb dX0_extendWays_83 rfl (lv_at hl 5 rfl) ?_
              have h29 : vp_in (nI (T d)) 12 := by first | exact vp_in_nI (by omega) (by omega) | assumption
              refine va_iast hx hb hK hP hD hS 4 0 rfl rfl h29 dX0_extendWays_84 (fun H locs hP hD hS => ?_)
              rw [nI_clamp (by omega)] at hP hD
              have hP : va_P (dC, dI) vwCl [(aH, .inr (0, [.ref aD, .ref aR, .ref aHW, .ref aHL, .int (nI len), .int hN, .int hL, .int hG])), (aR, .inr (1, [.ref aRF, .ref aRT, .ref aRN, .ref aRL, .ref aRU, .int (nI cnt)])), (aRF, .inl (cyI, 20, .inl (fun j_ => nI (F j_)))), (aRT, .inl (cyI, 20, .inl (fun j_ => nI (T j_)))), (aHW, .inl (cyI, 12, .inl (upd wy (T d) (nI d))))] H := hP
              have hD : va_D A [(aH, .inr (0, [.ref aD, .ref aR, .ref aHW, .ref aHL, .int (nI len), .int hN, .int hL, .int hG])), (aR, .inr (1, [.ref aRF, .ref aRT, .ref aRN, .ref aRL, .ref aRU, .int (nI cnt)])), (aRF, .inl (cyI, 20, .inl (fun j_ => nI (F j_)))), (aRT, .inl (cyI, 20, .inl (fun j_ => nI (T j_)))), (aHW, .inl (cyI, 12, .inl (upd wy (T d) (nI d))))] := hD
              refine lv_goto (tgt := 105) hx hb dX0_extendWays_85 (by decide) ?_
              have q30 : (ewS F T e d wy) = (upd wy (T d) (nI d)) := by simp [ewS, *]
              have hP9 : va_P (dC, dI) vwCl [(aH, .inr (0, [.ref aD, .ref aR, .ref aHW, .ref aHL, .int (nI len), .int hN, .int hL, .int hG])), (aR, .inr (1, [.ref aRF, .ref aRT, .ref aRN, .ref aRL, .ref aRU, .int (nI cnt)])), (aRF, .inl (cyI, 20, .inl (fun j_ => nI (F j_)))), (aRT, .inl (cyI, 20, .inl (fun j_ => nI (T j_)))), (aHW, .inl (cyI, 12, .inl (ewS F T e d wy)))] H := by first | (rw [q30]; exact hP.sub [0, 1, 2, 3, 4] rfl) | (simp only [q30]; exact hP.sub [0, 1, 2, 3, 4] rfl) | exact hP.sub [0, 1, 2, 3, 4] rfl
              have hD9 : va_D A [(aH, .inr (0, [.ref aD, .ref aR, .ref aHW, .ref aHL, .int (nI len), .int hN, .int hL, .int hG])), (aR, .inr (1, [.ref aRF, .ref aRT, .ref aRN, .ref aRL, .ref aRU, .int (nI cnt)])), (aRF, .inl (cyI, 20, .inl (fun j_ => nI (F j_)))), (aRT, .inl (cyI, 20, .inl (fun j_ => nI (T j_)))), (aHW, .inl (cyI, 12, .inl (ewS F T e d wy)))] := by first | (rw [q30]; exact hD.sub [0, 1, 2, 3, 4] (by decide) rfl) | (simp only [q30]; exact hD.sub [0, 1, 2, 3, 4] (by decide) rfl) | exact hD.sub [0, 1, 2, 3, 4] (by decide) rfl
              subst hAe
              subst hQe
              exact W.vret hx hb hr (fun t ht hW => ⟨⟨(), rfl, trivial, by rw [ht]; exact hP9, va_K.moved hW.alike hK, hD9⟩, hS.F ht⟩) hS.2.2 dX0_extendWays_105
        · skip
          refine lv_iconst (v := 1) hx hb dX0_extendWays_60 (by decide) ?_
          refine lv_goto (tgt := 65) hx hb dX0_extendWays_61 (by decide) ?_
          refine lv_istore (lv' := [(6, .int 1), (5, .int 1), (4, .int (nI (T d))), (3, .int (nI (F d))), (0, .ref aH), (1, .int (nI d)), (2, .int (nI e))]) hx hb dX0_extendWays_65 hl (by decide) rfl (fun ls hl => ?_)
          refine lv_iload hx hb dX0_extendWays_67 (lv_at hl 1 rfl) ?_
          refine lv_if_eq (tgt := 88) hx hb dX0_extendWays_69 (by decide) (fun c69 => ?_) (fun c69 => ?_)
          · exact absurd c69 (by decide)
          · skip
            refine lv_iload hx hb dX0_extendWays_72 (lv_at hl 0 rfl) ?_
            refine lv_if_ne (tgt := 88) hx hb dX0_extendWays_74 (by decide) (fun c74 => ?_) (fun c74 => ?_)
            · skip
              refine lv_iload hx hb dX0_extendWays_88 (lv_at hl 0 rfl) ?_
              refine lv_if_eq (tgt := 105) hx hb dX0_extendWays_90 (by decide) (fun c90 => ?_) (fun c90 => ?_)
              · exact absurd c90 (by decide)
              · skip
                refine lv_iload hx hb dX0_extendWays_93 (lv_at hl 1 rfl) ?_
                refine lv_if_ne (tgt := 105) hx hb dX0_extendWays_95 (by decide) (fun c95 => ?_) (fun c95 => ?_)
                · skip
                  have q31 : (ewS F T e d wy) = wy := by simp [ewS, *]
                  have hP9 : va_P (dC, dI) vwCl [(aH, .inr (0, [.ref aD, .ref aR, .ref aHW, .ref aHL, .int (nI len), .int hN, .int hL, .int hG])), (aR, .inr (1, [.ref aRF, .ref aRT, .ref aRN, .ref aRL, .ref aRU, .int (nI cnt)])), (aRF, .inl (cyI, 20, .inl (fun j_ => nI (F j_)))), (aRT, .inl (cyI, 20, .inl (fun j_ => nI (T j_)))), (aHW, .inl (cyI, 12, .inl (ewS F T e d wy)))] H := by first | (rw [q31]; exact hP.sub [0, 1, 2, 3, 4] rfl) | (simp only [q31]; exact hP.sub [0, 1, 2, 3, 4] rfl) | exact hP.sub [0, 1, 2, 3, 4] rfl
                  have hD9 : va_D A [(aH, .inr (0, [.ref aD, .ref aR, .ref aHW, .ref aHL, .int (nI len), .int hN, .int hL, .int hG])), (aR, .inr (1, [.ref aRF, .ref aRT, .ref aRN, .ref aRL, .ref aRU, .int (nI cnt)])), (aRF, .inl (cyI, 20, .inl (fun j_ => nI (F j_)))), (aRT, .inl (cyI, 20, .inl (fun j_ => nI (T j_)))), (aHW, .inl (cyI, 12, .inl (ewS F T e d wy)))] := by first | (rw [q31]; exact hD.sub [0, 1, 2, 3, 4] (by decide) rfl) | (simp only [q31]; exact hD.sub [0, 1, 2, 3, 4] (by decide) rfl) | exact hD.sub [0, 1, 2, 3, 4] (by decide) rfl
                  subst hAe
                  subst hQe
                  exact W.vret hx hb hr (fun t ht hW => ⟨⟨(), rfl, trivial, by rw [ht]; exact hP9, va_K.moved hW.alike hK, hD9⟩, hS.F ht⟩) hS.2.2 dX0_extendWays_105
                · exact absurd c95 (by decide)
            · exact absurd c74 (by decide)
set_option maxHeartbeats 4000000 in
set_option maxRecDepth 100000 in
theorem c_X0_findWaysTo (l : Launch) (dC : Nat → ClassId) (dI : Nat → Nat → Nat) (cyI cyZ cyJ cyD : ClassId) (aH aD aR aHW aHL aDL aDD aRF aRT aRN aRL aRU : Nat) (zH : Nat) (len : Nat) (hN : Int32) (hL : Int32) (hG : Int32) (n : Nat) (dd : Nat → Bool) (F : Nat → Nat) (T : Nat → Nat) (cnt : Nat) (wy : Nat → Int32) (e : Nat) (hn : n ≤ 12) (hn1 : 1 ≤ n) (hc : cnt ≤ 20) (hF : ∀ d_q, d_q < cnt → F d_q < 12) (hT : ∀ d_q, d_q < cnt → T d_q < 12) (he : e < 12) : Met l yX0_findWaysTo wsX0_findWaysTo ({ frames := 1, cells := 0, slots := 0, locals := 26 } : Room) (va_Pc [.ref aH, .int (nI e)] (fun U => U.heap.size = zH ∧ va_P (dC, dI) vwCl [(aH, .inr (0, [.ref aD, .ref aR, .ref aHW, .ref aHL, .int (nI len), .int hN, .int hL, .int hG])), (aD, .inr (2, [.ref aR, .ref aDL, .ref aDD, .int (nI n)])), (aDD, .inl (cyZ, 20, .inl (fun j_ => bI (dd j_)))), (aR, .inr (1, [.ref aRF, .ref aRT, .ref aRN, .ref aRL, .ref aRU, .int (nI cnt)])), (aRF, .inl (cyI, 20, .inl (fun j_ => nI (F j_)))), (aRT, .inl (cyI, 20, .inl (fun j_ => nI (T j_)))), (aHW, .inl (cyI, 12, .inl wy))] U.heap ∧ va_K (dC, dI) vwCl [(cyI, .int), (cyZ, .boolean), (cyJ, .long), (cyD, .double)] U ∧ va_D (fun _ => True) [(aH, .inr (0, [.ref aD, .ref aR, .ref aHW, .ref aHL, .int (nI len), .int hN, .int hL, .int hG])), (aD, .inr (2, [.ref aR, .ref aDL, .ref aDD, .int (nI n)])), (aDD, .inl (cyZ, 20, .inl (fun j_ => bI (dd j_)))), (aR, .inr (1, [.ref aRF, .ref aRT, .ref aRN, .ref aRL, .ref aRU, .int (nI cnt)])), (aRF, .inl (cyI, 20, .inl (fun j_ => nI (F j_)))), (aRT, .inl (cyI, 20, .inl (fun j_ => nI (T j_)))), (aHW, .inl (cyI, 12, .inl wy))])) (va_Qv (fun _ : Unit => True) (fun _ t => va_P (dC, dI) vwCl [(aH, .inr (0, [.ref aD, .ref aR, .ref aHW, .ref aHL, .int (nI len), .int hN, .int hL, .int hG])), (aD, .inr (2, [.ref aR, .ref aDL, .ref aDD, .int (nI n)])), (aDD, .inl (cyZ, 20, .inl (fun j_ => bI (dd j_)))), (aR, .inr (1, [.ref aRF, .ref aRT, .ref aRN, .ref aRL, .ref aRU, .int (nI cnt)])), (aRF, .inl (cyI, 20, .inl (fun j_ => nI (F j_)))), (aRT, .inl (cyI, 20, .inl (fun j_ => nI (T j_)))), (aHW, .inl (cyI, 12, .inl (ewR F T dd e cnt (flI wy (-1) 12) (n - 1))))] t.heap ∧ va_K (dC, dI) vwCl [(cyI, .int), (cyZ, .boolean), (cyJ, .long), (cyD, .double)] t ∧ va_D (va_A [(aH, .inr (0, [.ref aD, .ref aR, .ref aHW, .ref aHL, .int (nI len), .int hN, .int hL, .int hG])), (aD, .inr (2, [.ref aR, .ref aDL, .ref aDD, .int (nI n)])), (aDD, .inl (cyZ, 20, .inl (fun j_ => bI (dd j_)))), (aR, .inr (1, [.ref aRF, .ref aRT, .ref aRN, .ref aRL, .ref aRU, .int (nI cnt)])), (aRF, .inl (cyI, 20, .inl (fun j_ => nI (F j_)))), (aRT, .inl (cyI, 20, .inl (fun j_ => nI (T j_)))), (aHW, .inl (cyI, 12, .inl wy))] zH) [(aH, .inr (0, [.ref aD, .ref aR, .ref aHW, .ref aHL, .int (nI len), .int hN, .int hL, .int hG])), (aD, .inr (2, [.ref aR, .ref aDL, .ref aDD, .int (nI n)])), (aDD, .inl (cyZ, 20, .inl (fun j_ => bI (dd j_)))), (aR, .inr (1, [.ref aRF, .ref aRT, .ref aRN, .ref aRL, .ref aRU, .int (nI cnt)])), (aRF, .inl (cyI, 20, .inl (fun j_ => nI (F j_)))), (aRT, .inl (cyI, 20, .inl (fun j_ => nI (T j_)))), (aHW, .inl (cyI, 12, .inl (ewR F T dd e cnt (flI wy (-1) 12) (n - 1))))]) (va_A [(aH, .inr (0, [.ref aD, .ref aR, .ref aHW, .ref aHL, .int (nI len), .int hN, .int hL, .int hG])), (aD, .inr (2, [.ref aR, .ref aDL, .ref aDD, .int (nI n)])), (aDD, .inl (cyZ, 20, .inl (fun j_ => bI (dd j_)))), (aR, .inr (1, [.ref aRF, .ref aRT, .ref aRN, .ref aRL, .ref aRU, .int (nI cnt)])), (aRF, .inl (cyI, 20, .inl (fun j_ => nI (F j_)))), (aRT, .inl (cyI, 20, .inl (fun j_ => nI (T j_)))), (aHW, .inl (cyI, 12, .inl wy))] zH)) 0 0 (va_A [(aH, .inr (0, [.ref aD, .ref aR, .ref aHW, .ref aHL, .int (nI len), .int hN, .int hL, .int hG])), (aD, .inr (2, [.ref aR, .ref aDL, .ref aDD, .int (nI n)])), (aDD, .inl (cyZ, 20, .inl (fun j_ => bI (dd j_)))), (aR, .inr (1, [.ref aRF, .ref aRT, .ref aRN, .ref aRL, .ref aRU, .int (nI cnt)])), (aRF, .inl (cyI, 20, .inl (fun j_ => nI (F j_)))), (aRT, .inl (cyI, 20, .inl (fun j_ => nI (T j_)))), (aHW, .inl (cyI, 12, .inl wy))] zH) := by
  refine Met.ofW (cc := cX0_findWaysTo) (maxL := 4) (ret := none) (by decide) rfl ?_
  intro pM eM s mM args blM mtM cM s₁ BM hml hv
  obtain ⟨rfl, hsz, hP, hK, hD0⟩ := hv
  have hx := BM.exec
  have hb := BM.bytes
  have hr := BM.returns
  have hts := atoms_spec (ws := wsX0_findWaysTo) BM.pre
  have hown : s.vm.findClass RX0 = some mM.cls := findClass_of_methodNamed BM.named
  have hlocks := BM.notSynchronized
  have w0 := hts (.fieldLink RX0 9 "DimensionChecker$Chain" "wayOn" "[I") (by decide +kernel)
  have w1 := hts (.fieldLink RX0 31 "DimensionChecker$Chain" "drawing" "LDimensionChecker$Drawing;") (by decide +kernel)
  have w2 := hts (.fieldLink RX0 46 "DimensionChecker$Drawing" "faces" "I") (by decide +kernel)
  have w3 := hts (.fieldLink RX0 41 "DimensionChecker$Chain" "rows" "LDimensionChecker$Dimensions;") (by decide +kernel)
  have w4 := hts (.fieldLink RX0 59 "DimensionChecker$Dimensions" "count" "I") (by decide +kernel)
  have w5 := hts (.fieldLink RX0 64 "DimensionChecker$Drawing" "doubled" "[Z") (by decide +kernel)
  have iX0 : ∀ w ∈ wsX00, w ∈ wsX0_findWaysTo := by decide +kernel
  have iX2 : ∀ w ∈ wsX20, w ∈ wsX0_findWaysTo := by decide +kernel
  have iX1 : ∀ w ∈ wsX10, w ∈ wsX0_findWaysTo := by decide +kernel
  subst hsz
  have hD := hD0.self (sz := s.heap.size)
  obtain ⟨Q, hQe⟩ : ∃ Q : State → Prop, Q = MQ blM (va_Qv (fun _ : Unit => True) (fun _ t => va_P (dC, dI) vwCl [(aH, .inr (0, [.ref aD, .ref aR, .ref aHW, .ref aHL, .int (nI len), .int hN, .int hL, .int hG])), (aD, .inr (2, [.ref aR, .ref aDL, .ref aDD, .int (nI n)])), (aDD, .inl (cyZ, 20, .inl (fun j_ => bI (dd j_)))), (aR, .inr (1, [.ref aRF, .ref aRT, .ref aRN, .ref aRL, .ref aRU, .int (nI cnt)])), (aRF, .inl (cyI, 20, .inl (fun j_ => nI (F j_)))), (aRT, .inl (cyI, 20, .inl (fun j_ => nI (T j_)))), (aHW, .inl (cyI, 12, .inl (ewR F T dd e cnt (flI wy (-1) 12) (n - 1))))] t.heap ∧ va_K (dC, dI) vwCl [(cyI, .int), (cyZ, .boolean), (cyJ, .long), (cyD, .double)] t ∧ va_D (va_A [(aH, .inr (0, [.ref aD, .ref aR, .ref aHW, .ref aHL, .int (nI len), .int hN, .int hL, .int hG])), (aD, .inr (2, [.ref aR, .ref aDL, .ref aDD, .int (nI n)])), (aDD, .inl (cyZ, 20, .inl (fun j_ => bI (dd j_)))), (aR, .inr (1, [.ref aRF, .ref aRT, .ref aRN, .ref aRL, .ref aRU, .int (nI cnt)])), (aRF, .inl (cyI, 20, .inl (fun j_ => nI (F j_)))), (aRT, .inl (cyI, 20, .inl (fun j_ => nI (T j_)))), (aHW, .inl (cyI, 12, .inl wy))] s.heap.size) [(aH, .inr (0, [.ref aD, .ref aR, .ref aHW, .ref aHL, .int (nI len), .int hN, .int hL, .int hG])), (aD, .inr (2, [.ref aR, .ref aDL, .ref aDD, .int (nI n)])), (aDD, .inl (cyZ, 20, .inl (fun j_ => bI (dd j_)))), (aR, .inr (1, [.ref aRF, .ref aRT, .ref aRN, .ref aRL, .ref aRU, .int (nI cnt)])), (aRF, .inl (cyI, 20, .inl (fun j_ => nI (F j_)))), (aRT, .inl (cyI, 20, .inl (fun j_ => nI (T j_)))), (aHW, .inl (cyI, 12, .inl (ewR F T dd e cnt (flI wy (-1) 12) (n - 1))))]) (va_A [(aH, .inr (0, [.ref aD, .ref aR, .ref aHW, .ref aHL, .int (nI len), .int hN, .int hL, .int hG])), (aD, .inr (2, [.ref aR, .ref aDL, .ref aDD, .int (nI n)])), (aDD, .inl (cyZ, 20, .inl (fun j_ => bI (dd j_)))), (aR, .inr (1, [.ref aRF, .ref aRT, .ref aRN, .ref aRL, .ref aRU, .int (nI cnt)])), (aRF, .inl (cyI, 20, .inl (fun j_ => nI (F j_)))), (aRT, .inl (cyI, 20, .inl (fun j_ => nI (T j_)))), (aHW, .inl (cyI, 12, .inl wy))] s.heap.size)) ([.ref aH, .int (nI e)] : List Value).toArray s 0 0 (va_A [(aH, .inr (0, [.ref aD, .ref aR, .ref aHW, .ref aHL, .int (nI len), .int hN, .int hL, .int hG])), (aD, .inr (2, [.ref aR, .ref aDL, .ref aDD, .int (nI n)])), (aDD, .inl (cyZ, 20, .inl (fun j_ => bI (dd j_)))), (aR, .inr (1, [.ref aRF, .ref aRT, .ref aRN, .ref aRL, .ref aRU, .int (nI cnt)])), (aRF, .inl (cyI, 20, .inl (fun j_ => nI (F j_)))), (aRT, .inl (cyI, 20, .inl (fun j_ => nI (T j_)))), (aHW, .inl (cyI, 12, .inl wy))] s.heap.size) := ⟨_, rfl⟩
  rw [← hQe]
  generalize hAe : va_A [(aH, .inr (0, [.ref aD, .ref aR, .ref aHW, .ref aHL, .int (nI len), .int hN, .int hL, .int hG])), (aD, .inr (2, [.ref aR, .ref aDL, .ref aDD, .int (nI n)])), (aDD, .inl (cyZ, 20, .inl (fun j_ => bI (dd j_)))), (aR, .inr (1, [.ref aRF, .ref aRT, .ref aRN, .ref aRL, .ref aRU, .int (nI cnt)])), (aRF, .inl (cyI, 20, .inl (fun j_ => nI (F j_)))), (aRT, .inl (cyI, 20, .inl (fun j_ => nI (T j_)))), (aHW, .inl (cyI, 12, .inl wy))] s.heap.size = A at hD hQe
  have hA : ∀ q : Nat, s.heap.size ≤ q → A q := fun q h => by rw [← hAe]; exact Or.inr h
  obtain ⟨H, hHe⟩ : ∃ H : Heap, H = s.heap := ⟨_, rfl⟩
  have hS : va_S A s.heap H [] := by rw [hHe]; exact va_S.rf
  rw [← hHe] at hP ⊢
  have hl := lv_entry ([.ref aH, .int (nI e)]) (n := 4) (Nat.le_of_ble_eq_true rfl)
  rw [lg_entry_eq]
  generalize (lg_sl ([.ref aH, .int (nI e)]) ++ List.replicate (4 - (lg_sl ([.ref aH, .int (nI e)])).length) Slot.unset).toArray = ls at hl ⊢
  have hl : lv_has ls 4 [(0, .ref aH), (1, .int (nI e))] := hl
  refine lv_aload_n hx hb dX0_findWaysTo_0 rfl (lv_at hl 0 rfl) ?_
  refine va_get (D := (dC, dI)) (ci := 0) (v := .ref aHW) (C := RX0) (T := TX0) (N := 8) hx hb hts iX0 hown hK hP 0 rfl rfl 2 (by decide) w0 (fun _ h9 => h9) rfl dX0_findWaysTo_1 ?_
  refine lv_iconst (v := (-1)) hx hb dX0_findWaysTo_4 (by decide) ?_
  have g1 : 12 < 1000 := by decide
  have hPc := hP.sub (ws' := [(aHW, .inl (cyI, 12, .inl wy))]) [6] rfl
  have hDc := hD.sub (ws' := [(aHW, .inl (cyI, 12, .inl wy))]) [6] (by decide) rfl
  have hFc := va_free (wc := [(aHW, .inl (cyI, 12, .inl wy))]) hD hS hA [6] rfl
  refine va_callv (va_runS (As := [.ref aHW, .int (-1)]) (rest := []) ⟨hx, hb, hml, hown, hts⟩ (c_J7_fill_53178 l dC dI cyI cyZ cyJ cyD aHW H.size 12 wy (-1) g1) (va_cwS 2 hts gX0_findWaysTo_J7_fill_53178 rfl rfl rfl (by decide +kernel) ⟨Nat.le_of_ble_eq_true rfl, Nat.le_of_ble_eq_true rfl⟩) ⟨fun a U g mk q => by obtain ⟨q0, q1, qP, qK, qD⟩ := q; exact ⟨q0, q1, qP, va_K.moved (u := U) (U := U.calling g mk a) (Vm.Alike.refl U.vm) qK, qD⟩, fun U hU hW => ⟨rfl, by rw [hU], by rw [hU]; exact hPc, va_K.moved hW.alike hK, hDc.weaken (fun _ _ _ _ => trivial)⟩⟩ rfl rfl hl.1 rfl (lv_room (Nat.le_of_ble_eq_true rfl)) dX0_findWaysTo_5 ⟨Nat.le_of_ble_eq_true rfl, Nat.le_of_ble_eq_true rfl⟩) hS (fun q _ h => hFc q h) hFc (fun  u t H1 locs ht hvm hw hB hz1 hk1 hS => ?_)
  obtain ⟨hP1, hK1, hD1⟩ := hB
  rw [ht] at hP1
  obtain ⟨hP, hD⟩ := va_join (wr := [(aH, .inr (0, [.ref aD, .ref aR, .ref aHW, .ref aHL, .int (nI len), .int hN, .int hL, .int hG])), (aD, .inr (2, [.ref aR, .ref aDL, .ref aDD, .int (nI n)])), (aDD, .inl (cyZ, 20, .inl (fun j_ => bI (dd j_)))), (aR, .inr (1, [.ref aRF, .ref aRT, .ref aRN, .ref aRL, .ref aRU, .int (nI cnt)])), (aRF, .inl (cyI, 20, .inl (fun j_ => nI (F j_)))), (aRT, .inl (cyI, 20, .inl (fun j_ => nI (T j_))))]) (w1 := [(aHW, .inl (cyI, 12, .inl (flI wy (-1) 12)))]) hP hD [6] [0, 1, 2, 3, 4, 5] rfl rfl (by decide) (by decide) hk1 hFc hP1 hD1
  clear hP1 hD1 hK1 hPc hDc hFc hk1 hz1 hvm ht u t
  generalize H1 = H at hP hS ⊢
  have hP : va_P (dC, dI) vwCl [(aH, .inr (0, [.ref aD, .ref aR, .ref aHW, .ref aHL, .int (nI len), .int hN, .int hL, .int hG])), (aD, .inr (2, [.ref aR, .ref aDL, .ref aDD, .int (nI n)])), (aDD, .inl (cyZ, 20, .inl (fun j_ => bI (dd j_)))), (aR, .inr (1, [.ref aRF, .ref aRT, .ref aRN, .ref aRL, .ref aRU, .int (nI cnt)])), (aRF, .inl (cyI, 20, .inl (fun j_ => nI (F j_)))), (aRT, .inl (cyI, 20, .inl (fun j_ => nI (T j_)))), (aHW, .inl (cyI, 12, .inl (flI wy (-1) 12)))] H := hP
  have hD : va_D A [(aH, .inr (0, [.ref aD, .ref aR, .ref aHW, .ref aHL, .int (nI len), .int hN, .int hL, .int hG])), (aD, .inr (2, [.ref aR, .ref aDL, .ref aDD, .int (nI n)])), (aDD, .inl (cyZ, 20, .inl (fun j_ => bI (dd j_)))), (aR, .inr (1, [.ref aRF, .ref aRT, .ref aRN, .ref aRL, .ref aRU, .int (nI cnt)])), (aRF, .inl (cyI, 20, .inl (fun j_ => nI (F j_)))), (aRT, .inl (cyI, 20, .inl (fun j_ => nI (T j_)))), (aHW, .inl (cyI, 12, .inl (flI wy (-1) 12)))] := hD
  refine lv_iconst (v := 1) hx hb dX0_findWaysTo_8 (by decide) ?_
  refine lv_istore_n (lv' := [(2, .int 1), (0, .ref aH), (1, .int (nI e))]) hx hb dX0_findWaysTo_9 rfl hl (by decide) rfl (fun ls hl => ?_)
  have k10 : ∀ (fuel : Nat) (r : Nat) (hfuel : n - r < fuel) (hr0 : r + 1 ≤ n) (H : Heap) (locs : List Loc) (ls : Array Slot), va_P (dC, dI) vwCl [(aH, .inr (0, [.ref aD, .ref aR, .ref aHW, .ref aHL, .int (nI len), .int hN, .int hL, .int hG])), (aD, .inr (2, [.ref aR, .ref aDL, .ref aDD, .int (nI n)])), (aDD, .inl (cyZ, 20, .inl (fun j_ => bI (dd j_)))), (aR, .inr (1, [.ref aRF, .ref aRT, .ref aRN, .ref aRL, .ref aRU, .int (nI cnt)])), (aRF, .inl (cyI, 20, .inl (fun j_ => nI (F j_)))), (aRT, .inl (cyI, 20, .inl (fun j_ => nI (T j_)))), (aHW, .inl (cyI, 12, .inl (ewR F T dd e cnt (flI wy (-1) 12) r)))] H → va_D A [(aH, .inr (0, [.ref aD, .ref aR, .ref aHW, .ref aHL, .int (nI len), .int hN, .int hL, .int hG])), (aD, .inr (2, [.ref aR, .ref aDL, .ref aDD, .int (nI n)])), (aDD, .inl (cyZ, 20, .inl (fun j_ => bI (dd j_)))), (aR, .inr (1, [.ref aRF, .ref aRT, .ref aRN, .ref aRL, .ref aRU, .int (nI cnt)])), (aRF, .inl (cyI, 20, .inl (fun j_ => nI (F j_)))), (aRT, .inl (cyI, 20, .inl (fun j_ => nI (T j_)))), (aHW, .inl (cyI, 12, .inl (ewR F T dd e cnt (flI wy (-1) 12) r)))] → va_S A s.heap H locs → lv_has ls 4 [(0, .ref aH), (1, .int (nI e)), (2, .int (nI (r + 1)))] → W pM l eM (headSpec wsX0_findWaysTo ({ frames := 1, cells := 0, slots := 0, locals := 26 } : Room)).room s mM ([.ref aH, .int (nI e)] : List Value).toArray blM mtM cM H locs 0 0 Q (F0 mM 10 ls []) := by
    intro fuel
    induction fuel with
    | zero => intro r hfuel; exact absurd hfuel (Nat.not_lt_zero _)
    | succ fuel ih10 =>
      intro r hfuel hr0 H locs ls hP hD hS hl
      refine lv_iload_n hx hb dX0_findWaysTo_10 rfl (lv_at hl 2 rfl) ?_
      refine lv_aload_n hx hb dX0_findWaysTo_11 rfl (lv_at hl 0 rfl) ?_
      refine va_get (D := (dC, dI)) (ci := 0) (v := .ref aD) (C := RX0) (T := TX0) (N := 8) hx hb hts iX0 hown hK hP 0 rfl rfl 0 (by decide) w1 (fun _ h9 => h9) rfl dX0_findWaysTo_12 ?_
      refine va_get (D := (dC, dI)) (ci := 2) (v := .int (nI n)) (C := RX2) (T := TX2) (N := 4) hx hb hts iX2 hown hK hP 1 rfl rfl 3 (by decide) w2 (fun _ h9 => h9) rfl dX0_findWaysTo_15 ?_
      refine lv_icmp_ge (tgt := 64) hx hb dX0_findWaysTo_18 (by decide) (fun c18 => ?_) (fun c18 => ?_)
      · have c18 := n_le (a := n) (b := r + 1) (by omega) (by omega) c18
        have q2 : (ewR F T dd e cnt (flI wy (-1) 12) (n - 1)) = (ewR F T dd e cnt (flI wy (-1) 12) r) := by rw [show n - 1 = r by omega]
        have hP9 : va_P (dC, dI) vwCl [(aH, .inr (0, [.ref aD, .ref aR, .ref aHW, .ref aHL, .int (nI len), .int hN, .int hL, .int hG])), (aD, .inr (2, [.ref aR, .ref aDL, .ref aDD, .int (nI n)])), (aDD, .inl (cyZ, 20, .inl (fun j_ => bI (dd j_)))), (aR, .inr (1, [.ref aRF, .ref aRT, .ref aRN, .ref aRL, .ref aRU, .int (nI cnt)])), (aRF, .inl (cyI, 20, .inl (fun j_ => nI (F j_)))), (aRT, .inl (cyI, 20, .inl (fun j_ => nI (T j_)))), (aHW, .inl (cyI, 12, .inl (ewR F T dd e cnt (flI wy (-1) 12) (n - 1))))] H := by first | (rw [q2]; exact hP.sub [0, 1, 2, 3, 4, 5, 6] rfl) | (simp only [q2]; exact hP.sub [0, 1, 2, 3, 4, 5, 6] rfl) | exact hP.sub [0, 1, 2, 3, 4, 5, 6] rfl
        have hD9 : va_D A [(aH, .inr (0, [.ref aD, .ref aR, .ref aHW, .ref aHL, .int (nI len), .int hN, .int hL, .int hG])), (aD, .inr (2, [.ref aR, .ref aDL, .ref aDD, .int (nI n)])), (aDD, .inl (cyZ, 20, .inl (fun j_ => bI (dd j_)))), (aR, .inr (1, [.ref aRF, .ref aRT, .ref aRN, .ref aRL, .ref aRU, .int (nI cnt)])), (aRF, .inl (cyI, 20, .inl (fun j_ => nI (F j_)))), (aRT, .inl (cyI, 20, .inl (fun j_ => nI (T j_)))), (aHW, .inl (cyI, 12, .inl (ewR F T dd e cnt (flI wy (-1) 12) (n - 1))))] := by first | (rw [q2]; exact hD.sub [0, 1, 2, 3, 4, 5, 6] (by decide) rfl) | (simp only [q2]; exact hD.sub [0, 1, 2, 3, 4, 5, 6] (by decide) rfl) | exact hD.sub [0, 1, 2, 3, 4, 5, 6] (by decide) rfl
        subst hAe
        subst hQe
        exact W.vret hx hb hr (fun t ht hW => ⟨⟨(), rfl, trivial, by rw [ht]; exact hP9, va_K.moved hW.alike hK, hD9⟩, hS.F ht⟩) hS.2.2 dX0_findWaysTo_64
      · have c18 := n_nle (a := n) (b := r + 1) (by omega) (by omega) c18
        refine lv_iconst (v := 0) hx hb dX0_findWaysTo_21 (by decide) ?_
        refine lv_istore_n (lv' := [(3, .int 0), (0, .ref aH), (1, .int (nI e)), (2, .int (nI (r + 1)))]) hx hb dX0_findWaysTo_22 rfl hl (by decide) rfl (fun ls hl => ?_)
        have k23 : ∀ (fuel : Nat) (d : Nat) (hfuel : cnt - d < fuel) (hd0 : d ≤ cnt) (H : Heap) (locs : List Loc) (ls : Array Slot), va_P (dC, dI) vwCl [(aH, .inr (0, [.ref aD, .ref aR, .ref aHW, .ref aHL, .int (nI len), .int hN, .int hL, .int hG])), (aD, .inr (2, [.ref aR, .ref aDL, .ref aDD, .int (nI n)])), (aDD, .inl (cyZ, 20, .inl (fun j_ => bI (dd j_)))), (aR, .inr (1, [.ref aRF, .ref aRT, .ref aRN, .ref aRL, .ref aRU, .int (nI cnt)])), (aRF, .inl (cyI, 20, .inl (fun j_ => nI (F j_)))), (aRT, .inl (cyI, 20, .inl (fun j_ => nI (T j_)))), (aHW, .inl (cyI, 12, .inl (ewI F T dd e (ewR F T dd e cnt (flI wy (-1) 12) r) d)))] H → va_D A [(aH, .inr (0, [.ref aD, .ref aR, .ref aHW, .ref aHL, .int (nI len), .int hN, .int hL, .int hG])), (aD, .inr (2, [.ref aR, .ref aDL, .ref aDD, .int (nI n)])), (aDD, .inl (cyZ, 20, .inl (fun j_ => bI (dd j_)))), (aR, .inr (1, [.ref aRF, .ref aRT, .ref aRN, .ref aRL, .ref aRU, .int (nI cnt)])), (aRF, .inl (cyI, 20, .inl (fun j_ => nI (F j_)))), (aRT, .inl (cyI, 20, .inl (fun j_ => nI (T j_)))), (aHW, .inl (cyI, 12, .inl (ewI F T dd e (ewR F T dd e cnt (flI wy (-1) 12) r) d)))] → va_S A s.heap H locs → lv_has ls 4 [(0, .ref aH), (1, .int (nI e)), (2, .int (nI (r + 1))), (3, .int (nI d))] → W pM l eM (headSpec wsX0_findWaysTo ({ frames := 1, cells := 0, slots := 0, locals := 26 } : Room)).room s mM ([.ref aH, .int (nI e)] : List Value).toArray blM mtM cM H locs 0 0 Q (F0 mM 23 ls []) := by
          intro fuel
          induction fuel with
          | zero => intro d hfuel; exact absurd hfuel (Nat.not_lt_zero _)
          | succ fuel ih23 =>
            intro d hfuel hd0 H locs ls hP hD hS hl
            refine lv_iload_n hx hb dX0_findWaysTo_23 rfl (lv_at hl 3 rfl) ?_
            refine lv_aload_n hx hb dX0_findWaysTo_24 rfl (lv_at hl 0 rfl) ?_
            refine va_get (D := (dC, dI)) (ci := 0) (v := .ref aR) (C := RX0) (T := TX0) (N := 8) hx hb hts iX0 hown hK hP 0 rfl rfl 1 (by decide) w3 (fun _ h9 => h9) rfl dX0_findWaysTo_25 ?_
            refine va_get (D := (dC, dI)) (ci := 1) (v := .int (nI cnt)) (C := RX1) (T := TX1) (N := 6) hx hb hts iX1 hown hK hP 3 rfl rfl 5 (by decide) w4 (fun _ h9 => h9) rfl dX0_findWaysTo_28 ?_
            refine lv_icmp_ge (tgt := 58) hx hb dX0_findWaysTo_31 (by decide) (fun c31 => ?_) (fun c31 => ?_)
            · have c31 := n_le (a := cnt) (b := d) (by omega) (by omega) c31
              refine lv_iinc (v := nI (r + 1 + 1)) (lv' := [(2, .int (nI (r + 1 + 1))), (0, .ref aH), (1, .int (nI e)), (3, .int (nI d))]) hx hb dX0_findWaysTo_58 hl (k := 2) rfl (nI_add (r + 1) 1) (by decide) rfl (fun ls hl => ?_)
              refine lv_goto (tgt := 10) hx hb dX0_findWaysTo_61 (by decide) ?_
              have q3 : (ewR F T dd e cnt (flI wy (-1) 12) (r + 1)) = (ewI F T dd e (ewR F T dd e cnt (flI wy (-1) 12) r) d) := by simp only [ewR]; rw [show d = cnt by omega]
              have q4 : (nI ((r + 1) + 1)) = (nI (r + 1 + 1)) := by first | rfl | simp [*] | (simp only [*]; done)
              exact ih10 (r + 1) (by omega) (by first | assumption | omega) _ _ _ (by first | (rw [q3]; exact hP) | (simp only [q3]; exact hP) | exact hP) (by first | (rw [q3]; exact hD) | (simp only [q3]; exact hD) | exact hD) hS (by first | (rw [q4]; exact lv_sub hl [1, 2, 0] rfl) | (simp only [q4]; exact lv_sub hl [1, 2, 0] rfl) | exact lv_sub hl [1, 2, 0] rfl)
            · have c31 := n_nle (a := cnt) (b := d) (by omega) (by omega) c31
              have hF1 := hF d c31
              have hT1 := hT d c31
              refine lv_aload_n hx hb dX0_findWaysTo_34 rfl (lv_at hl 0 rfl) ?_
              refine va_get (D := (dC, dI)) (ci := 0) (v := .ref aD) (C := RX0) (T := TX0) (N := 8) hx hb hts iX0 hown hK hP 0 rfl rfl 0 (by decide) w1 (fun _ h9 => h9) rfl dX0_findWaysTo_35 ?_
              refine va_get (D := (dC, dI)) (ci := 2) (v := .ref aDD) (C := RX2) (T := TX2) (N := 4) hx hb hts iX2 hown hK hP 1 rfl rfl 2 (by decide) w5 (fun _ h9 => h9) rfl dX0_findWaysTo_38 ?_
              refine lv_iload_n hx hb dX0_findWaysTo_41 rfl (lv_at hl 3 rfl) ?_
              have h5 : vp_in (nI d) 20 := by first | exact vp_in_nI (by omega) (by omega) | assumption
              refine va_zald hx hb hK hP 2 1 rfl rfl h5 dX0_findWaysTo_42 ?_
              refine lv_topi (fun x6 e7 => ?_)
              obtain rfl : x6 = (bI (dd d)) := by rw [e7, nI_clamp (by omega)]
              clear e7
              refine lv_if_ne (tgt := 52) hx hb dX0_findWaysTo_43 (by decide) (fun c43 => ?_) (fun c43 => ?_)
              · have c43 : (dd d) = true := bI_n0 c43
                refine lv_iinc (v := nI (d + 1)) (lv' := [(3, .int (nI (d + 1))), (0, .ref aH), (1, .int (nI e)), (2, .int (nI (r + 1)))]) hx hb dX0_findWaysTo_52 hl (k := 3) rfl (nI_add d 1) (by decide) rfl (fun ls hl => ?_)
                refine lv_goto (tgt := 23) hx hb dX0_findWaysTo_55 (by decide) ?_
                have q8 : (ewI F T dd e (ewR F T dd e cnt (flI wy (-1) 12) r) (d + 1)) = (ewI F T dd e (ewR F T dd e cnt (flI wy (-1) 12) r) d) := by simp only [ewI, *, if_true, if_false, Bool.false_eq_true]
                exact ih23 (d + 1) (by omega) (by first | assumption | omega) _ _ _ (by first | (rw [q8]; exact hP) | (simp only [q8]; exact hP) | exact hP) (by first | (rw [q8]; exact hD) | (simp only [q8]; exact hD) | exact hD) hS (lv_sub hl [1, 2, 3, 0] rfl)
              · have c43 : (dd d) = false := bI_0 c43
                refine lv_aload_n hx hb dX0_findWaysTo_46 rfl (lv_at hl 0 rfl) ?_
                refine lv_iload_n hx hb dX0_findWaysTo_47 rfl (lv_at hl 3 rfl) ?_
                refine lv_iload_n hx hb dX0_findWaysTo_48 rfl (lv_at hl 1 rfl) ?_
                have g9 : d < 20 := by first | assumption | omega | exact vp_in_nI (by omega) (by omega)
                have g10 : F d < 12 := by first | assumption | omega | exact vp_in_nI (by omega) (by omega)
                have g11 : T d < 12 := by first | assumption | omega | exact vp_in_nI (by omega) (by omega)
                have g12 : e < 12 := by first | assumption | omega | exact vp_in_nI (by omega) (by omega)
                have hPc := hP.sub (ws' := [(aH, .inr (0, [.ref aD, .ref aR, .ref aHW, .ref aHL, .int (nI len), .int hN, .int hL, .int hG])), (aR, .inr (1, [.ref aRF, .ref aRT, .ref aRN, .ref aRL, .ref aRU, .int (nI cnt)])), (aRF, .inl (cyI, 20, .inl (fun j_ => nI (F j_)))), (aRT, .inl (cyI, 20, .inl (fun j_ => nI (T j_)))), (aHW, .inl (cyI, 12, .inl (ewI F T dd e (ewR F T dd e cnt (flI wy (-1) 12) r) d)))]) [0, 3, 4, 5, 6] rfl
                have hDc := hD.sub (ws' := [(aH, .inr (0, [.ref aD, .ref aR, .ref aHW, .ref aHL, .int (nI len), .int hN, .int hL, .int hG])), (aR, .inr (1, [.ref aRF, .ref aRT, .ref aRN, .ref aRL, .ref aRU, .int (nI cnt)])), (aRF, .inl (cyI, 20, .inl (fun j_ => nI (F j_)))), (aRT, .inl (cyI, 20, .inl (fun j_ => nI (T j_)))), (aHW, .inl (cyI, 12, .inl (ewI F T dd e (ewR F T dd e cnt (flI wy (-1) 12) r) d)))]) [0, 3, 4, 5, 6] (by decide) rfl
                have hFc := va_free (wc := [(aH, .inr (0, [.ref aD, .ref aR, .ref aHW, .ref aHL, .int (nI len), .int hN, .int hL, .int hG])), (aR, .inr (1, [.ref aRF, .ref aRT, .ref aRN, .ref aRL, .ref aRU, .int (nI cnt)])), (aRF, .inl (cyI, 20, .inl (fun j_ => nI (F j_)))), (aRT, .inl (cyI, 20, .inl (fun j_ => nI (T j_)))), (aHW, .inl (cyI, 12, .inl (ewI F T dd e (ewR F T dd e cnt (flI wy (-1) 12) r) d)))]) hD hS hA [0, 3, 4, 5, 6] rfl
                refine va_callv (va_runV (As := [.int (nI d), .int (nI e)]) (rest := []) ⟨hx, hb, hml, hown, hts⟩ (c_X0_extendWays l dC dI cyI cyZ cyJ cyD aH aD aR aHW aHL aRF aRT aRN aRL aRU H.size len hN hL hG F T cnt (ewI F T dd e (ewR F T dd e cnt (flI wy (-1) 12) r) d) d e g9 g10 g11 g12) (cwV 2 hts gX0_findWaysTo_X0_extendWays rfl rfl rfl (by decide +kernel) ⟨Nat.le_of_ble_eq_true rfl, Nat.le_of_ble_eq_true rfl⟩) ⟨fun a U g mk q => by obtain ⟨q0, q1, qP, qK, qD⟩ := q; exact ⟨q0, q1, qP, va_K.moved (u := U) (U := U.calling g mk a) (Vm.Alike.refl U.vm) qK, qD⟩, va_recv hK hPc (ci := 0) (q0 := 0) rfl rfl, fun U hU hW => ⟨rfl, by rw [hU], by rw [hU]; exact hPc, va_K.moved hW.alike hK, hDc.weaken (fun _ _ _ _ => trivial)⟩⟩ rfl rfl hl.1 rfl (lv_room (Nat.le_of_ble_eq_true rfl)) dX0_findWaysTo_49 ⟨Nat.le_of_ble_eq_true rfl, Nat.le_of_ble_eq_true rfl⟩) hS (fun q _ h => hFc q h) hFc (fun  u t H1 locs ht hvm hw hB hz1 hk1 hS => ?_)
                obtain ⟨hP1, hK1, hD1⟩ := hB
                rw [ht] at hP1
                obtain ⟨hP, hD⟩ := va_join (wr := [(aD, .inr (2, [.ref aR, .ref aDL, .ref aDD, .int (nI n)])), (aDD, .inl (cyZ, 20, .inl (fun j_ => bI (dd j_))))]) (w1 := [(aH, .inr (0, [.ref aD, .ref aR, .ref aHW, .ref aHL, .int (nI len), .int hN, .int hL, .int hG])), (aR, .inr (1, [.ref aRF, .ref aRT, .ref aRN, .ref aRL, .ref aRU, .int (nI cnt)])), (aRF, .inl (cyI, 20, .inl (fun j_ => nI (F j_)))), (aRT, .inl (cyI, 20, .inl (fun j_ => nI (T j_)))), (aHW, .inl (cyI, 12, .inl (ewS F T e d (ewI F T dd e (ewR F T dd e cnt (flI wy (-1) 12) r) d))))]) hP hD [0, 3, 4, 5, 6] [1, 2] rfl rfl (by decide) (by decide) hk1 hFc hP1 hD1
                clear hP1 hD1 hK1 hPc hDc hFc hk1 hz1 hvm ht u t
                generalize H1 = H at hP hS ⊢
                have hP : va_P (dC, dI) vwCl [(aD, .inr (2, [.ref aR, .ref aDL, .ref aDD, .int (nI n)])), (aDD, .inl (cyZ, 20, .inl (fun j_ => bI (dd j_)))), (aH, .inr (0, [.ref aD, .ref aR, .ref aHW, .ref aHL, .int (nI len), .int hN, .int hL, .int hG])), (aR, .inr (1, [.ref aRF, .ref aRT, .ref aRN, .ref aRL, .ref aRU, .int (nI cnt)])), (aRF, .inl (cyI, 20, .inl (fun j_ => nI (F j_)))), (aRT, .inl (cyI, 20, .inl (fun j_ => nI (T j_)))), (aHW, .inl (cyI, 12, .inl (ewS F T e d (ewI F T dd e (ewR F T dd e cnt (flI wy (-1) 12) r) d))))] H := hP
                have hD : va_D A [(aD, .inr (2, [.ref aR, .ref aDL, .ref aDD, .int (nI n)])), (aDD, .inl (cyZ, 20, .inl (fun j_ => bI (dd j_)))), (aH, .inr (0, [.ref aD, .ref aR, .ref aHW, .ref aHL, .int (nI len), .int hN, .int hL, .int hG])), (aR, .inr (1, [.ref aRF, .ref aRT, .ref aRN, .ref aRL, .ref aRU, .int (nI cnt)])), (aRF, .inl (cyI, 20, .inl (fun j_ => nI (F j_)))), (aRT, .inl (cyI, 20, .inl (fun j_ => nI (T j_)))), (aHW, .inl (cyI, 12, .inl (ewS F T e d (ewI F T dd e (ewR F T dd e cnt (flI wy (-1) 12) r) d))))] := hD
                refine lv_iinc (v := nI (d + 1)) (lv' := [(3, .int (nI (d + 1))), (0, .ref aH), (1, .int (nI e)), (2, .int (nI (r + 1)))]) hx hb dX0_findWaysTo_52 hl (k := 3) rfl (nI_add d 1) (by decide) rfl (fun ls hl => ?_)
                refine lv_goto (tgt := 23) hx hb dX0_findWaysTo_55 (by decide) ?_
                have q13 : (ewI F T dd e (ewR F T dd e cnt (flI wy (-1) 12) r) (d + 1)) = (ewS F T e d (ewI F T dd e (ewR F T dd e cnt (flI wy (-1) 12) r) d)) := by simp only [ewI, *, if_true, if_false, Bool.false_eq_true]
                exact ih23 (d + 1) (by omega) (by first | assumption | omega) _ _ _ (by first | (rw [q13]; exact hP.sub [2, 0, 1, 3, 4, 5, 6] rfl) | (simp only [q13]; exact hP.sub [2, 0, 1, 3, 4, 5, 6] rfl) | exact hP.sub [2, 0, 1, 3, 4, 5, 6] rfl) (by first | (rw [q13]; exact hD.sub [2, 0, 1, 3, 4, 5, 6] (by decide) rfl) | (simp only [q13]; exact hD.sub [2, 0, 1, 3, 4, 5, 6] (by decide) rfl) | exact hD.sub [2, 0, 1, 3, 4, 5, 6] (by decide) rfl) hS (lv_sub hl [1, 2, 3, 0] rfl)
        have q14 : (ewI F T dd e (ewR F T dd e cnt (flI wy (-1) 12) r) 0) = (ewR F T dd e cnt (flI wy (-1) 12) r) := by rfl
        have q15 : (nI 0) = 0 := by first | rfl | simp [*] | (simp only [*]; done)
        exact k23 (cnt - 0 + 1) 0 (Nat.lt_succ_self _) (by first | assumption | omega) _ _ _ (by first | (rw [q14]; exact hP) | (simp only [q14]; exact hP) | exact hP) (by first | (rw [q14]; exact hD) | (simp only [q14]; exact hD) | exact hD) hS (by first | (rw [q15]; exact lv_sub hl [1, 2, 3, 0] rfl) | (simp only [q15]; exact lv_sub hl [1, 2, 3, 0] rfl) | exact lv_sub hl [1, 2, 3, 0] rfl)
  have q16 : (ewR F T dd e cnt (flI wy (-1) 12) 0) = (flI wy (-1) 12) := by rfl
  have q17 : (nI (0 + 1)) = 1 := by first | rfl | simp [*] | (simp only [*]; done)
  exact k10 (n - 0 + 1) 0 (Nat.lt_succ_self _) (by first | assumption | omega) _ _ _ (by first | (rw [q16]; exact hP) | (simp only [q16]; exact hP) | exact hP) (by first | (rw [q16]; exact hD) | (simp only [q16]; exact hD) | exact hD) hS (by first | (rw [q17]; exact lv_sub hl [1, 2, 0] rfl) | (simp only [q17]; exact lv_sub hl [1, 2, 0] rfl) | exact lv_sub hl [1, 2, 0] rfl)
