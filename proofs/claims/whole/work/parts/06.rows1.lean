
/-- a part moved to another: the first i faces done -/
def mvP (P : Nat → Nat) (o w : Nat) : Nat → Nat → Nat
  | 0 => P
  | i + 1 => if mvP P o w i i = o then updN (mvP P o w i) i w else mvP P o w i
theorem mvP_at (P : Nat → Nat) (o w : Nat) : ∀ i j, mvP P o w i j = if j < i then (if P j = o then w else P j) else P j := by
  intro i
  induction i with
  | zero => intro j; simp [mvP]
  | succ i ih =>
    intro j
    have h0 : mvP P o w i i = P i := by rw [ih]; simp
    unfold mvP
    rw [h0]
    by_cases hj : j = i
    · subst hj
      by_cases h1 : P j = o
      · simp [h1, updN]
      · simp [h1, h0]
    · by_cases h1 : P i = o
      · simp only [h1, if_true, updN, hj, if_false, ih]
        have : j < i + 1 ↔ j < i := by omega
        simp [this]
      · simp only [h1, if_false, ih]
        have : j < i + 1 ↔ j < i := by omega
        simp [this]
theorem mvP_lt {P : Nat → Nat} {o w n : Nat} {i : Nat} (h : ∀ j, j < n → P j < 12) (hw : w < 12) (j : Nat) (hj : j < n) : mvP P o w i j < 12 := by
  rw [mvP_at]
  have := h j hj
  split
  · split <;> omega
  · exact this
/-- how many of the first i faces are the lowest of their part -/
def pcN (P : Nat → Nat) : Nat → Nat
  | 0 => 0
  | i + 1 => if P i = i then pcN P i + 1 else pcN P i
theorem pcN_le (P : Nat → Nat) : ∀ i, pcN P i ≤ i := by
  intro i
  induction i with
  | zero => exact Nat.le_refl _
  | succ i ih => unfold pcN; split <;> omega

set_option maxHeartbeats 4000000 in
set_option maxRecDepth 100000 in
theorem c_X1_width (l : Launch) (dC : Nat → ClassId) (dI : Nat → Nat → Nat) (cyI cyZ cyJ cyD : ClassId) (aR aRF aRT aRN aRL aRU : Nat) (zH : Nat) (lo : Nat → Int32) (up : Nat → Int32) (cnt : Nat) (d : Nat) (hd : d < 20) : Met l yX1_width wsX1_width ({ frames := 0, cells := 0, slots := 0, locals := 0 } : Room) (va_Pc [.ref aR, .int (nI d)] (fun U => U.heap.size = zH ∧ va_P (dC, dI) vwCl [(aR, .inr (1, [.ref aRF, .ref aRT, .ref aRN, .ref aRL, .ref aRU, .int (nI cnt)])), (aRL, .inl (cyI, 20, .inl lo)), (aRU, .inl (cyI, 20, .inl up))] U.heap ∧ va_K (dC, dI) vwCl [(cyI, .int), (cyZ, .boolean), (cyJ, .long), (cyD, .double)] U ∧ va_D (fun _ => True) [(aR, .inr (1, [.ref aRF, .ref aRT, .ref aRN, .ref aRL, .ref aRU, .int (nI cnt)])), (aRL, .inl (cyI, 20, .inl lo)), (aRU, .inl (cyI, 20, .inl up))])) (va_Qi (fun (r : Int32) (_ : Unit) => r = up d - lo d) (fun _ t => va_P (dC, dI) vwCl [(aR, .inr (1, [.ref aRF, .ref aRT, .ref aRN, .ref aRL, .ref aRU, .int (nI cnt)])), (aRL, .inl (cyI, 20, .inl lo)), (aRU, .inl (cyI, 20, .inl up))] t.heap ∧ va_K (dC, dI) vwCl [(cyI, .int), (cyZ, .boolean), (cyJ, .long), (cyD, .double)] t ∧ va_D (va_A [(aR, .inr (1, [.ref aRF, .ref aRT, .ref aRN, .ref aRL, .ref aRU, .int (nI cnt)])), (aRL, .inl (cyI, 20, .inl lo)), (aRU, .inl (cyI, 20, .inl up))] zH) [(aR, .inr (1, [.ref aRF, .ref aRT, .ref aRN, .ref aRL, .ref aRU, .int (nI cnt)])), (aRL, .inl (cyI, 20, .inl lo)), (aRU, .inl (cyI, 20, .inl up))]) (va_A [(aR, .inr (1, [.ref aRF, .ref aRT, .ref aRN, .ref aRL, .ref aRU, .int (nI cnt)])), (aRL, .inl (cyI, 20, .inl lo)), (aRU, .inl (cyI, 20, .inl up))] zH)) 0 0 (va_A [(aR, .inr (1, [.ref aRF, .ref aRT, .ref aRN, .ref aRL, .ref aRU, .int (nI cnt)])), (aRL, .inl (cyI, 20, .inl lo)), (aRU, .inl (cyI, 20, .inl up))] zH) := by
  refine Met.ofW (cc := cX1_width) (maxL := 2) (ret := (some .int)) (by decide) rfl ?_
  intro pM eM s mM args blM mtM cM s₁ BM hml hv
  obtain ⟨rfl, hsz, hP, hK, hD0⟩ := hv
  have hx := BM.exec
  have hb := BM.bytes
  have hr := BM.returns
  have hts := atoms_spec (ws := wsX1_width) BM.pre
  have hown : s.vm.findClass RX1 = some mM.cls := findClass_of_methodNamed BM.named
  have hlocks := BM.notSynchronized
  have w0 := hts (.fieldLink RX1 24 "DimensionChecker$Dimensions" "upper" "[I") (by decide +kernel)
  have w1 := hts (.fieldLink RX1 21 "DimensionChecker$Dimensions" "lower" "[I") (by decide +kernel)
  have iX1 : ∀ w ∈ wsX10, w ∈ wsX1_width := by decide +kernel
  subst hsz
  have hD := hD0.self (sz := s.heap.size)
  obtain ⟨Q, hQe⟩ : ∃ Q : State → Prop, Q = MQ blM (va_Qi (fun (r : Int32) (_ : Unit) => r = up d - lo d) (fun _ t => va_P (dC, dI) vwCl [(aR, .inr (1, [.ref aRF, .ref aRT, .ref aRN, .ref aRL, .ref aRU, .int (nI cnt)])), (aRL, .inl (cyI, 20, .inl lo)), (aRU, .inl (cyI, 20, .inl up))] t.heap ∧ va_K (dC, dI) vwCl [(cyI, .int), (cyZ, .boolean), (cyJ, .long), (cyD, .double)] t ∧ va_D (va_A [(aR, .inr (1, [.ref aRF, .ref aRT, .ref aRN, .ref aRL, .ref aRU, .int (nI cnt)])), (aRL, .inl (cyI, 20, .inl lo)), (aRU, .inl (cyI, 20, .inl up))] s.heap.size) [(aR, .inr (1, [.ref aRF, .ref aRT, .ref aRN, .ref aRL, .ref aRU, .int (nI cnt)])), (aRL, .inl (cyI, 20, .inl lo)), (aRU, .inl (cyI, 20, .inl up))]) (va_A [(aR, .inr (1, [.ref aRF, .ref aRT, .ref aRN, .ref aRL, .ref aRU, .int (nI cnt)])), (aRL, .inl (cyI, 20, .inl lo)), (aRU, .inl (cyI, 20, .inl up))] s.heap.size)) ([.ref aR, .int (nI d)] : List Value).toArray s 0 0 (va_A [(aR, .inr (1, [.ref aRF, .ref aRT, .ref aRN, .ref aRL, .ref aRU, .int (nI cnt)])), (aRL, .inl (cyI, 20, .inl lo)), (aRU, .inl (cyI, 20, .inl up))] s.heap.size) := ⟨_, rfl⟩
  rw [← hQe]
  generalize hAe : va_A [(aR, .inr (1, [.ref aRF, .ref aRT, .ref aRN, .ref aRL, .ref aRU, .int (nI cnt)])), (aRL, .inl (cyI, 20, .inl lo)), (aRU, .inl (cyI, 20, .inl up))] s.heap.size = A at hD hQe
  have hA : ∀ q : Nat, s.heap.size ≤ q → A q := fun q h => by rw [← hAe]; exact Or.inr h
  obtain ⟨H, hHe⟩ : ∃ H : Heap, H = s.heap := ⟨_, rfl⟩
  have hS : va_S A s.heap H [] := by rw [hHe]; exact va_S.rf
  rw [← hHe] at hP ⊢
  have hl := lv_entry ([.ref aR, .int (nI d)]) (n := 2) (Nat.le_of_ble_eq_true rfl)
  rw [lg_entry_eq]
  generalize (lg_sl ([.ref aR, .int (nI d)]) ++ List.replicate (2 - (lg_sl ([.ref aR, .int (nI d)])).length) Slot.unset).toArray = ls at hl ⊢
  have hl : lv_has ls 2 [(0, .ref aR), (1, .int (nI d))] := hl
  refine lv_aload_n hx hb dX1_width_0 rfl (lv_at hl 0 rfl) ?_
  refine va_get (D := (dC, dI)) (ci := 1) (v := .ref aRU) (C := RX1) (T := TX1) (N := 6) hx hb hts iX1 hown hK hP 0 rfl rfl 4 (by decide) w0 (fun _ h9 => h9) rfl dX1_width_1 ?_
  refine lv_iload_n hx hb dX1_width_4 rfl (lv_at hl 1 rfl) ?_
  have h1 : vp_in (nI d) 20 := by first | exact vp_in_nI (by omega) (by omega) | assumption
  refine va_iald hx hb hK hP 2 0 rfl rfl h1 dX1_width_5 ?_
  refine lv_topi (fun x2 e3 => ?_)
  obtain rfl : x2 = (up d) := by rw [e3, nI_clamp (by omega)]
  clear e3
  refine lv_aload_n hx hb dX1_width_6 rfl (lv_at hl 0 rfl) ?_
  refine va_get (D := (dC, dI)) (ci := 1) (v := .ref aRL) (C := RX1) (T := TX1) (N := 6) hx hb hts iX1 hown hK hP 0 rfl rfl 3 (by decide) w1 (fun _ h9 => h9) rfl dX1_width_7 ?_
  refine lv_iload_n hx hb dX1_width_10 rfl (lv_at hl 1 rfl) ?_
  have h4 : vp_in (nI d) 20 := by first | exact vp_in_nI (by omega) (by omega) | assumption
  refine va_iald hx hb hK hP 1 0 rfl rfl h4 dX1_width_11 ?_
  refine lv_topi (fun x5 e6 => ?_)
  obtain rfl : x5 = (lo d) := by rw [e6, nI_clamp (by omega)]
  clear e6
  refine lv_isub hx hb dX1_width_12 ?_
  have r7 : ((up d) - (lo d)) = (up d - lo d) := by first | rfl | simp [*]
  have hP9 : va_P (dC, dI) vwCl [(aR, .inr (1, [.ref aRF, .ref aRT, .ref aRN, .ref aRL, .ref aRU, .int (nI cnt)])), (aRL, .inl (cyI, 20, .inl lo)), (aRU, .inl (cyI, 20, .inl up))] H := by exact hP.sub [0, 1, 2] rfl
  have hD9 : va_D A [(aR, .inr (1, [.ref aRF, .ref aRT, .ref aRN, .ref aRL, .ref aRU, .int (nI cnt)])), (aRL, .inl (cyI, 20, .inl lo)), (aRU, .inl (cyI, 20, .inl up))] := by exact hD.sub [0, 1, 2] (by decide) rfl
  subst hAe
  subst hQe
  exact W.iret (v := (up d) - (lo d)) hx hb hr (fun t ht hW => ⟨⟨_, (), rfl, r7, by rw [ht]; exact hP9, va_K.moved hW.alike hK, hD9⟩, hS.F ht⟩) hS.2.2 dX1_width_13
set_option maxHeartbeats 4000000 in
set_option maxRecDepth 100000 in
theorem c_X1_leastLimit (l : Launch) (dC : Nat → ClassId) (dI : Nat → Nat → Nat) (cyI cyZ cyJ cyD : ClassId) (aR aRF aRT aRN aRL aRU : Nat) (zH : Nat) (nm : Nat → Int32) (lo : Nat → Int32) (cnt : Nat) (d : Nat) (hd : d < 20) : Met l yX1_leastLimit wsX1_leastLimit ({ frames := 0, cells := 0, slots := 0, locals := 0 } : Room) (va_Pc [.ref aR, .int (nI d)] (fun U => U.heap.size = zH ∧ va_P (dC, dI) vwCl [(aR, .inr (1, [.ref aRF, .ref aRT, .ref aRN, .ref aRL, .ref aRU, .int (nI cnt)])), (aRN, .inl (cyI, 20, .inl nm)), (aRL, .inl (cyI, 20, .inl lo))] U.heap ∧ va_K (dC, dI) vwCl [(cyI, .int), (cyZ, .boolean), (cyJ, .long), (cyD, .double)] U ∧ va_D (fun _ => True) [(aR, .inr (1, [.ref aRF, .ref aRT, .ref aRN, .ref aRL, .ref aRU, .int (nI cnt)])), (aRN, .inl (cyI, 20, .inl nm)), (aRL, .inl (cyI, 20, .inl lo))])) (va_Qi (fun (r : Int32) (_ : Unit) => r = nm d + lo d) (fun _ t => va_P (dC, dI) vwCl [(aR, .inr (1, [.ref aRF, .ref aRT, .ref aRN, .ref aRL, .ref aRU, .int (nI cnt)])), (aRN, .inl (cyI, 20, .inl nm)), (aRL, .inl (cyI, 20, .inl lo))] t.heap ∧ va_K (dC, dI) vwCl [(cyI, .int), (cyZ, .boolean), (cyJ, .long), (cyD, .double)] t ∧ va_D (va_A [(aR, .inr (1, [.ref aRF, .ref aRT, .ref aRN, .ref aRL, .ref aRU, .int (nI cnt)])), (aRN, .inl (cyI, 20, .inl nm)), (aRL, .inl (cyI, 20, .inl lo))] zH) [(aR, .inr (1, [.ref aRF, .ref aRT, .ref aRN, .ref aRL, .ref aRU, .int (nI cnt)])), (aRN, .inl (cyI, 20, .inl nm)), (aRL, .inl (cyI, 20, .inl lo))]) (va_A [(aR, .inr (1, [.ref aRF, .ref aRT, .ref aRN, .ref aRL, .ref aRU, .int (nI cnt)])), (aRN, .inl (cyI, 20, .inl nm)), (aRL, .inl (cyI, 20, .inl lo))] zH)) 0 0 (va_A [(aR, .inr (1, [.ref aRF, .ref aRT, .ref aRN, .ref aRL, .ref aRU, .int (nI cnt)])), (aRN, .inl (cyI, 20, .inl nm)), (aRL, .inl (cyI, 20, .inl lo))] zH) := by
  refine Met.ofW (cc := cX1_leastLimit) (maxL := 2) (ret := (some .int)) (by decide) rfl ?_
  intro pM eM s mM args blM mtM cM s₁ BM hml hv
  obtain ⟨rfl, hsz, hP, hK, hD0⟩ := hv
  have hx := BM.exec
  have hb := BM.bytes
  have hr := BM.returns
  have hts := atoms_spec (ws := wsX1_leastLimit) BM.pre
  have hown : s.vm.findClass RX1 = some mM.cls := findClass_of_methodNamed BM.named
  have hlocks := BM.notSynchronized
  have w0 := hts (.fieldLink RX1 18 "DimensionChecker$Dimensions" "nominal" "[I") (by decide +kernel)
  have w1 := hts (.fieldLink RX1 21 "DimensionChecker$Dimensions" "lower" "[I") (by decide +kernel)
  have iX1 : ∀ w ∈ wsX10, w ∈ wsX1_leastLimit := by decide +kernel
  subst hsz
  have hD := hD0.self (sz := s.heap.size)
  obtain ⟨Q, hQe⟩ : ∃ Q : State → Prop, Q = MQ blM (va_Qi (fun (r : Int32) (_ : Unit) => r = nm d + lo d) (fun _ t => va_P (dC, dI) vwCl [(aR, .inr (1, [.ref aRF, .ref aRT, .ref aRN, .ref aRL, .ref aRU, .int (nI cnt)])), (aRN, .inl (cyI, 20, .inl nm)), (aRL, .inl (cyI, 20, .inl lo))] t.heap ∧ va_K (dC, dI) vwCl [(cyI, .int), (cyZ, .boolean), (cyJ, .long), (cyD, .double)] t ∧ va_D (va_A [(aR, .inr (1, [.ref aRF, .ref aRT, .ref aRN, .ref aRL, .ref aRU, .int (nI cnt)])), (aRN, .inl (cyI, 20, .inl nm)), (aRL, .inl (cyI, 20, .inl lo))] s.heap.size) [(aR, .inr (1, [.ref aRF, .ref aRT, .ref aRN, .ref aRL, .ref aRU, .int (nI cnt)])), (aRN, .inl (cyI, 20, .inl nm)), (aRL, .inl (cyI, 20, .inl lo))]) (va_A [(aR, .inr (1, [.ref aRF, .ref aRT, .ref aRN, .ref aRL, .ref aRU, .int (nI cnt)])), (aRN, .inl (cyI, 20, .inl nm)), (aRL, .inl (cyI, 20, .inl lo))] s.heap.size)) ([.ref aR, .int (nI d)] : List Value).toArray s 0 0 (va_A [(aR, .inr (1, [.ref aRF, .ref aRT, .ref aRN, .ref aRL, .ref aRU, .int (nI cnt)])), (aRN, .inl (cyI, 20, .inl nm)), (aRL, .inl (cyI, 20, .inl lo))] s.heap.size) := ⟨_, rfl⟩
  rw [← hQe]
  generalize hAe : va_A [(aR, .inr (1, [.ref aRF, .ref aRT, .ref aRN, .ref aRL, .ref aRU, .int (nI cnt)])), (aRN, .inl (cyI, 20, .inl nm)), (aRL, .inl (cyI, 20, .inl lo))] s.heap.size = A at hD hQe
  have hA : ∀ q : Nat, s.heap.size ≤ q → A q := fun q h => by rw [← hAe]; exact Or.inr h
  obtain ⟨H, hHe⟩ : ∃ H : Heap, H = s.heap := ⟨_, rfl⟩
  have hS : va_S A s.heap H [] := by rw [hHe]; exact va_S.rf
  rw [← hHe] at hP ⊢
  have hl := lv_entry ([.ref aR, .int (nI d)]) (n := 2) (Nat.le_of_ble_eq_true rfl)
  rw [lg_entry_eq]
  generalize (lg_sl ([.ref aR, .int (nI d)]) ++ List.replicate (2 - (lg_sl ([.ref aR, .int (nI d)])).length) Slot.unset).toArray = ls at hl ⊢
  have hl : lv_has ls 2 [(0, .ref aR), (1, .int (nI d))] := hl
  refine lv_aload_n hx hb dX1_leastLimit_0 rfl (lv_at hl 0 rfl) ?_
  refine va_get (D := (dC, dI)) (ci := 1) (v := .ref aRN) (C := RX1) (T := TX1) (N := 6) hx hb hts iX1 hown hK hP 0 rfl rfl 2 (by decide) w0 (fun _ h9 => h9) rfl dX1_leastLimit_1 ?_
  refine lv_iload_n hx hb dX1_leastLimit_4 rfl (lv_at hl 1 rfl) ?_
  have h1 : vp_in (nI d) 20 := by first | exact vp_in_nI (by omega) (by omega) | assumption
  refine va_iald hx hb hK hP 1 0 rfl rfl h1 dX1_leastLimit_5 ?_
  refine lv_topi (fun x2 e3 => ?_)
  obtain rfl : x2 = (nm d) := by rw [e3, nI_clamp (by omega)]
  clear e3
  refine lv_aload_n hx hb dX1_leastLimit_6 rfl (lv_at hl 0 rfl) ?_
  refine va_get (D := (dC, dI)) (ci := 1) (v := .ref aRL) (C := RX1) (T := TX1) (N := 6) hx hb hts iX1 hown hK hP 0 rfl rfl 3 (by decide) w1 (fun _ h9 => h9) rfl dX1_leastLimit_7 ?_
  refine lv_iload_n hx hb dX1_leastLimit_10 rfl (lv_at hl 1 rfl) ?_
  have h4 : vp_in (nI d) 20 := by first | exact vp_in_nI (by omega) (by omega) | assumption
  refine va_iald hx hb hK hP 2 0 rfl rfl h4 dX1_leastLimit_11 ?_
  refine lv_topi (fun x5 e6 => ?_)
  obtain rfl : x5 = (lo d) := by rw [e6, nI_clamp (by omega)]
  clear e6
  refine lv_iadd hx hb dX1_leastLimit_12 ?_
  have r7 : ((nm d) + (lo d)) = (nm d + lo d) := by first | rfl | simp [*]
  have hP9 : va_P (dC, dI) vwCl [(aR, .inr (1, [.ref aRF, .ref aRT, .ref aRN, .ref aRL, .ref aRU, .int (nI cnt)])), (aRN, .inl (cyI, 20, .inl nm)), (aRL, .inl (cyI, 20, .inl lo))] H := by exact hP.sub [0, 1, 2] rfl
  have hD9 : va_D A [(aR, .inr (1, [.ref aRF, .ref aRT, .ref aRN, .ref aRL, .ref aRU, .int (nI cnt)])), (aRN, .inl (cyI, 20, .inl nm)), (aRL, .inl (cyI, 20, .inl lo))] := by exact hD.sub [0, 1, 2] (by decide) rfl
  subst hAe
  subst hQe
  exact W.iret (v := (nm d) + (lo d)) hx hb hr (fun t ht hW => ⟨⟨_, (), rfl, r7, by rw [ht]; exact hP9, va_K.moved hW.alike hK, hD9⟩, hS.F ht⟩) hS.2.2 dX1_leastLimit_13
set_option maxHeartbeats 4000000 in
set_option maxRecDepth 100000 in
theorem c_X1_greatestLimit (l : Launch) (dC : Nat → ClassId) (dI : Nat → Nat → Nat) (cyI cyZ cyJ cyD : ClassId) (aR aRF aRT aRN aRL aRU : Nat) (zH : Nat) (nm : Nat → Int32) (up : Nat → Int32) (cnt : Nat) (d : Nat) (hd : d < 20) : Met l yX1_greatestLimit wsX1_greatestLimit ({ frames := 0, cells := 0, slots := 0, locals := 0 } : Room) (va_Pc [.ref aR, .int (nI d)] (fun U => U.heap.size = zH ∧ va_P (dC, dI) vwCl [(aR, .inr (1, [.ref aRF, .ref aRT, .ref aRN, .ref aRL, .ref aRU, .int (nI cnt)])), (aRN, .inl (cyI, 20, .inl nm)), (aRU, .inl (cyI, 20, .inl up))] U.heap ∧ va_K (dC, dI) vwCl [(cyI, .int), (cyZ, .boolean), (cyJ, .long), (cyD, .double)] U ∧ va_D (fun _ => True) [(aR, .inr (1, [.ref aRF, .ref aRT, .ref aRN, .ref aRL, .ref aRU, .int (nI cnt)])), (aRN, .inl (cyI, 20, .inl nm)), (aRU, .inl (cyI, 20, .inl up))])) (va_Qi (fun (r : Int32) (_ : Unit) => r = nm d + up d) (fun _ t => va_P (dC, dI) vwCl [(aR, .inr (1, [.ref aRF, .ref aRT, .ref aRN, .ref aRL, .ref aRU, .int (nI cnt)])), (aRN, .inl (cyI, 20, .inl nm)), (aRU, .inl (cyI, 20, .inl up))] t.heap ∧ va_K (dC, dI) vwCl [(cyI, .int), (cyZ, .boolean), (cyJ, .long), (cyD, .double)] t ∧ va_D (va_A [(aR, .inr (1, [.ref aRF, .ref aRT, .ref aRN, .ref aRL, .ref aRU, .int (nI cnt)])), (aRN, .inl (cyI, 20, .inl nm)), (aRU, .inl (cyI, 20, .inl up))] zH) [(aR, .inr (1, [.ref aRF, .ref aRT, .ref aRN, .ref aRL, .ref aRU, .int (nI cnt)])), (aRN, .inl (cyI, 20, .inl nm)), (aRU, .inl (cyI, 20, .inl up))]) (va_A [(aR, .inr (1, [.ref aRF, .ref aRT, .ref aRN, .ref aRL, .ref aRU, .int (nI cnt)])), (aRN, .inl (cyI, 20, .inl nm)), (aRU, .inl (cyI, 20, .inl up))] zH)) 0 0 (va_A [(aR, .inr (1, [.ref aRF, .ref aRT, .ref aRN, .ref aRL, .ref aRU, .int (nI cnt)])), (aRN, .inl (cyI, 20, .inl nm)), (aRU, .inl (cyI, 20, .inl up))] zH) := by
  refine Met.ofW (cc := cX1_greatestLimit) (maxL := 2) (ret := (some .int)) (by decide) rfl ?_
  intro pM eM s mM args blM mtM cM s₁ BM hml hv
  obtain ⟨rfl, hsz, hP, hK, hD0⟩ := hv
  have hx := BM.exec
  have hb := BM.bytes
  have hr := BM.returns
  have hts := atoms_spec (ws := wsX1_greatestLimit) BM.pre
  have hown : s.vm.findClass RX1 = some mM.cls := findClass_of_methodNamed BM.named
  have hlocks := BM.notSynchronized
  have w0 := hts (.fieldLink RX1 18 "DimensionChecker$Dimensions" "nominal" "[I") (by decide +kernel)
  have w1 := hts (.fieldLink RX1 24 "DimensionChecker$Dimensions" "upper" "[I") (by decide +kernel)
  have iX1 : ∀ w ∈ wsX10, w ∈ wsX1_greatestLimit := by decide +kernel
  subst hsz
  have hD := hD0.self (sz := s.heap.size)
  obtain ⟨Q, hQe⟩ : ∃ Q : State → Prop, Q = MQ blM (va_Qi (fun (r : Int32) (_ : Unit) => r = nm d + up d) (fun _ t => va_P (dC, dI) vwCl [(aR, .inr (1, [.ref aRF, .ref aRT, .ref aRN, .ref aRL, .ref aRU, .int (nI cnt)])), (aRN, .inl (cyI, 20, .inl nm)), (aRU, .inl (cyI, 20, .inl up))] t.heap ∧ va_K (dC, dI) vwCl [(cyI, .int), (cyZ, .boolean), (cyJ, .long), (cyD, .double)] t ∧ va_D (va_A [(aR, .inr (1, [.ref aRF, .ref aRT, .ref aRN, .ref aRL, .ref aRU, .int (nI cnt)])), (aRN, .inl (cyI, 20, .inl nm)), (aRU, .inl (cyI, 20, .inl up))] s.heap.size) [(aR, .inr (1, [.ref aRF, .ref aRT, .ref aRN, .ref aRL, .ref aRU, .int (nI cnt)])), (aRN, .inl (cyI, 20, .inl nm)), (aRU, .inl (cyI, 20, .inl up))]) (va_A [(aR, .inr (1, [.ref aRF, .ref aRT, .ref aRN, .ref aRL, .ref aRU, .int (nI cnt)])), (aRN, .inl (cyI, 20, .inl nm)), (aRU, .inl (cyI, 20, .inl up))] s.heap.size)) ([.ref aR, .int (nI d)] : List Value).toArray s 0 0 (va_A [(aR, .inr (1, [.ref aRF, .ref aRT, .ref aRN, .ref aRL, .ref aRU, .int (nI cnt)])), (aRN, .inl (cyI, 20, .inl nm)), (aRU, .inl (cyI, 20, .inl up))] s.heap.size) := ⟨_, rfl⟩
  rw [← hQe]
  generalize hAe : va_A [(aR, .inr (1, [.ref aRF, .ref aRT, .ref aRN, .ref aRL, .ref aRU, .int (nI cnt)])), (aRN, .inl (cyI, 20, .inl nm)), (aRU, .inl (cyI, 20, .inl up))] s.heap.size = A at hD hQe
  have hA : ∀ q : Nat, s.heap.size ≤ q → A q := fun q h => by rw [← hAe]; exact Or.inr h
  obtain ⟨H, hHe⟩ : ∃ H : Heap, H = s.heap := ⟨_, rfl⟩
  have hS : va_S A s.heap H [] := by rw [hHe]; exact va_S.rf
  rw [← hHe] at hP ⊢
  have hl := lv_entry ([.ref aR, .int (nI d)]) (n := 2) (Nat.le_of_ble_eq_true rfl)
  rw [lg_entry_eq]
  generalize (lg_sl ([.ref aR, .int (nI d)]) ++ List.replicate (2 - (lg_sl ([.ref aR, .int (nI d)])).length) Slot.unset).toArray = ls at hl ⊢
  have hl : lv_has ls 2 [(0, .ref aR), (1, .int (nI d))] := hl
  refine lv_aload_n hx hb dX1_greatestLimit_0 rfl (lv_at hl 0 rfl) ?_
  refine va_get (D := (dC, dI)) (ci := 1) (v := .ref aRN) (C := RX1) (T := TX1) (N := 6) hx hb hts iX1 hown hK hP 0 rfl rfl 2 (by decide) w0 (fun _ h9 => h9) rfl dX1_greatestLimit_1 ?_
  refine lv_iload_n hx hb dX1_greatestLimit_4 rfl (lv_at hl 1 rfl) ?_
  have h1 : vp_in (nI d) 20 := by first | exact vp_in_nI (by omega) (by omega) | assumption
  refine va_iald hx hb hK hP 1 0 rfl rfl h1 dX1_greatestLimit_5 ?_
  refine lv_topi (fun x2 e3 => ?_)
  obtain rfl : x2 = (nm d) := by rw [e3, nI_clamp (by omega)]
  clear e3
  refine lv_aload_n hx hb dX1_greatestLimit_6 rfl (lv_at hl 0 rfl) ?_
  refine va_get (D := (dC, dI)) (ci := 1) (v := .ref aRU) (C := RX1) (T := TX1) (N := 6) hx hb hts iX1 hown hK hP 0 rfl rfl 4 (by decide) w1 (fun _ h9 => h9) rfl dX1_greatestLimit_7 ?_
  refine lv_iload_n hx hb dX1_greatestLimit_10 rfl (lv_at hl 1 rfl) ?_
  have h4 : vp_in (nI d) 20 := by first | exact vp_in_nI (by omega) (by omega) | assumption
  refine va_iald hx hb hK hP 2 0 rfl rfl h4 dX1_greatestLimit_11 ?_
  refine lv_topi (fun x5 e6 => ?_)
  obtain rfl : x5 = (up d) := by rw [e6, nI_clamp (by omega)]
  clear e6
  refine lv_iadd hx hb dX1_greatestLimit_12 ?_
  have r7 : ((nm d) + (up d)) = (nm d + up d) := by first | rfl | simp [*]
  have hP9 : va_P (dC, dI) vwCl [(aR, .inr (1, [.ref aRF, .ref aRT, .ref aRN, .ref aRL, .ref aRU, .int (nI cnt)])), (aRN, .inl (cyI, 20, .inl nm)), (aRU, .inl (cyI, 20, .inl up))] H := by exact hP.sub [0, 1, 2] rfl
  have hD9 : va_D A [(aR, .inr (1, [.ref aRF, .ref aRT, .ref aRN, .ref aRL, .ref aRU, .int (nI cnt)])), (aRN, .inl (cyI, 20, .inl nm)), (aRU, .inl (cyI, 20, .inl up))] := by exact hD.sub [0, 1, 2] (by decide) rfl
  subst hAe
  subst hQe
  exact W.iret (v := (nm d) + (up d)) hx hb hr (fun t ht hW => ⟨⟨_, (), rfl, r7, by rw [ht]; exact hP9, va_K.moved hW.alike hK, hD9⟩, hS.F ht⟩) hS.2.2 dX1_greatestLimit_13
set_option maxHeartbeats 4000000 in
set_option maxRecDepth 100000 in
theorem c_X1_put (l : Launch) (dC : Nat → ClassId) (dI : Nat → Nat → Nat) (cyI cyZ cyJ cyD : ClassId) (aR aRF aRT aRN aRL aRU : Nat) (zH : Nat) (F : Nat → Nat) (T : Nat → Nat) (nm : Nat → Int32) (lo : Nat → Int32) (up : Nat → Int32) (cnt : Nat) (d : Nat) (a : Nat) (b : Nat) (x : Int32) (y : Int32) (z : Int32) (hd : d < 20) : Met l yX1_put wsX1_put ({ frames := 0, cells := 0, slots := 0, locals := 0 } : Room) (va_Pc [.ref aR, .int (nI d), .int (nI a), .int (nI b), .int x, .int y, .int z] (fun U => U.heap.size = zH ∧ va_P (dC, dI) vwCl [(aR, .inr (1, [.ref aRF, .ref aRT, .ref aRN, .ref aRL, .ref aRU, .int (nI cnt)])), (aRF, .inl (cyI, 20, .inl (fun j_ => nI (F j_)))), (aRT, .inl (cyI, 20, .inl (fun j_ => nI (T j_)))), (aRN, .inl (cyI, 20, .inl nm)), (aRL, .inl (cyI, 20, .inl lo)), (aRU, .inl (cyI, 20, .inl up))] U.heap ∧ va_K (dC, dI) vwCl [(cyI, .int), (cyZ, .boolean), (cyJ, .long), (cyD, .double)] U ∧ va_D (fun _ => True) [(aR, .inr (1, [.ref aRF, .ref aRT, .ref aRN, .ref aRL, .ref aRU, .int (nI cnt)])), (aRF, .inl (cyI, 20, .inl (fun j_ => nI (F j_)))), (aRT, .inl (cyI, 20, .inl (fun j_ => nI (T j_)))), (aRN, .inl (cyI, 20, .inl nm)), (aRL, .inl (cyI, 20, .inl lo)), (aRU, .inl (cyI, 20, .inl up))])) (va_Qv (fun _ : Unit => True) (fun _ t => va_P (dC, dI) vwCl [(aR, .inr (1, [.ref aRF, .ref aRT, .ref aRN, .ref aRL, .ref aRU, .int (nI cnt)])), (aRF, .inl (cyI, 20, .inl (fun j_ => nI ((updN F d a) j_)))), (aRT, .inl (cyI, 20, .inl (fun j_ => nI ((updN T d b) j_)))), (aRN, .inl (cyI, 20, .inl (upd nm d x))), (aRL, .inl (cyI, 20, .inl (upd lo d y))), (aRU, .inl (cyI, 20, .inl (upd up d z)))] t.heap ∧ va_K (dC, dI) vwCl [(cyI, .int), (cyZ, .boolean), (cyJ, .long), (cyD, .double)] t ∧ va_D (va_A [(aR, .inr (1, [.ref aRF, .ref aRT, .ref aRN, .ref aRL, .ref aRU, .int (nI cnt)])), (aRF, .inl (cyI, 20, .inl (fun j_ => nI (F j_)))), (aRT, .inl (cyI, 20, .inl (fun j_ => nI (T j_)))), (aRN, .inl (cyI, 20, .inl nm)), (aRL, .inl (cyI, 20, .inl lo)), (aRU, .inl (cyI, 20, .inl up))] zH) [(aR, .inr (1, [.ref aRF, .ref aRT, .ref aRN, .ref aRL, .ref aRU, .int (nI cnt)])), (aRF, .inl (cyI, 20, .inl (fun j_ => nI ((updN F d a) j_)))), (aRT, .inl (cyI, 20, .inl (fun j_ => nI ((updN T d b) j_)))), (aRN, .inl (cyI, 20, .inl (upd nm d x))), (aRL, .inl (cyI, 20, .inl (upd lo d y))), (aRU, .inl (cyI, 20, .inl (upd up d z)))]) (va_A [(aR, .inr (1, [.ref aRF, .ref aRT, .ref aRN, .ref aRL, .ref aRU, .int (nI cnt)])), (aRF, .inl (cyI, 20, .inl (fun j_ => nI (F j_)))), (aRT, .inl (cyI, 20, .inl (fun j_ => nI (T j_)))), (aRN, .inl (cyI, 20, .inl nm)), (aRL, .inl (cyI, 20, .inl lo)), (aRU, .inl (cyI, 20, .inl up))] zH)) 0 0 (va_A [(aR, .inr (1, [.ref aRF, .ref aRT, .ref aRN, .ref aRL, .ref aRU, .int (nI cnt)])), (aRF, .inl (cyI, 20, .inl (fun j_ => nI (F j_)))), (aRT, .inl (cyI, 20, .inl (fun j_ => nI (T j_)))), (aRN, .inl (cyI, 20, .inl nm)), (aRL, .inl (cyI, 20, .inl lo)), (aRU, .inl (cyI, 20, .inl up))] zH) := by
  refine Met.ofW (cc := cX1_put) (maxL := 7) (ret := none) (by decide) rfl ?_
  intro pM eM s mM args blM mtM cM s₁ BM hml hv
  obtain ⟨rfl, hsz, hP, hK, hD0⟩ := hv
  have hx := BM.exec
  have hb := BM.bytes
  have hr := BM.returns
  have hts := atoms_spec (ws := wsX1_put) BM.pre
  have hown : s.vm.findClass RX1 = some mM.cls := findClass_of_methodNamed BM.named
  have hlocks := BM.notSynchronized
  have w0 := hts (.fieldLink RX1 9 "DimensionChecker$Dimensions" "from" "[I") (by decide +kernel)
  have w1 := hts (.fieldLink RX1 15 "DimensionChecker$Dimensions" "to" "[I") (by decide +kernel)
  have w2 := hts (.fieldLink RX1 18 "DimensionChecker$Dimensions" "nominal" "[I") (by decide +kernel)
  have w3 := hts (.fieldLink RX1 21 "DimensionChecker$Dimensions" "lower" "[I") (by decide +kernel)
  have w4 := hts (.fieldLink RX1 24 "DimensionChecker$Dimensions" "upper" "[I") (by decide +kernel)
  have iX1 : ∀ w ∈ wsX10, w ∈ wsX1_put := by decide +kernel
  subst hsz
  have hD := hD0.self (sz := s.heap.size)
  obtain ⟨Q, hQe⟩ : ∃ Q : State → Prop, Q = MQ blM (va_Qv (fun _ : Unit => True) (fun _ t => va_P (dC, dI) vwCl [(aR, .inr (1, [.ref aRF, .ref aRT, .ref aRN, .ref aRL, .ref aRU, .int (nI cnt)])), (aRF, .inl (cyI, 20, .inl (fun j_ => nI ((updN F d a) j_)))), (aRT, .inl (cyI, 20, .inl (fun j_ => nI ((updN T d b) j_)))), (aRN, .inl (cyI, 20, .inl (upd nm d x))), (aRL, .inl (cyI, 20, .inl (upd lo d y))), (aRU, .inl (cyI, 20, .inl (upd up d z)))] t.heap ∧ va_K (dC, dI) vwCl [(cyI, .int), (cyZ, .boolean), (cyJ, .long), (cyD, .double)] t ∧ va_D (va_A [(aR, .inr (1, [.ref aRF, .ref aRT, .ref aRN, .ref aRL, .ref aRU, .int (nI cnt)])), (aRF, .inl (cyI, 20, .inl (fun j_ => nI (F j_)))), (aRT, .inl (cyI, 20, .inl (fun j_ => nI (T j_)))), (aRN, .inl (cyI, 20, .inl nm)), (aRL, .inl (cyI, 20, .inl lo)), (aRU, .inl (cyI, 20, .inl up))] s.heap.size) [(aR, .inr (1, [.ref aRF, .ref aRT, .ref aRN, .ref aRL, .ref aRU, .int (nI cnt)])), (aRF, .inl (cyI, 20, .inl (fun j_ => nI ((updN F d a) j_)))), (aRT, .inl (cyI, 20, .inl (fun j_ => nI ((updN T d b) j_)))), (aRN, .inl (cyI, 20, .inl (upd nm d x))), (aRL, .inl (cyI, 20, .inl (upd lo d y))), (aRU, .inl (cyI, 20, .inl (upd up d z)))]) (va_A [(aR, .inr (1, [.ref aRF, .ref aRT, .ref aRN, .ref aRL, .ref aRU, .int (nI cnt)])), (aRF, .inl (cyI, 20, .inl (fun j_ => nI (F j_)))), (aRT, .inl (cyI, 20, .inl (fun j_ => nI (T j_)))), (aRN, .inl (cyI, 20, .inl nm)), (aRL, .inl (cyI, 20, .inl lo)), (aRU, .inl (cyI, 20, .inl up))] s.heap.size)) ([.ref aR, .int (nI d), .int (nI a), .int (nI b), .int x, .int y, .int z] : List Value).toArray s 0 0 (va_A [(aR, .inr (1, [.ref aRF, .ref aRT, .ref aRN, .ref aRL, .ref aRU, .int (nI cnt)])), (aRF, .inl (cyI, 20, .inl (fun j_ => nI (F j_)))), (aRT, .inl (cyI, 20, .inl (fun j_ => nI (T j_)))), (aRN, .inl (cyI, 20, .inl nm)), (aRL, .inl (cyI, 20, .inl lo)), (aRU, .inl (cyI, 20, .inl up))] s.heap.size) := ⟨_, rfl⟩
  rw [← hQe]
  generalize hAe : va_A [(aR, .inr (1, [.ref aRF, .ref aRT, .ref aRN, .ref aRL, .ref aRU, .int (nI cnt)])), (aRF, .inl (cyI, 20, .inl (fun j_ => nI (F j_)))), (aRT, .inl (cyI, 20, .inl (fun j_ => nI (T j_)))), (aRN, .inl (cyI, 20, .inl nm)), (aRL, .inl (cyI, 20, .inl lo)), (aRU, .inl (cyI, 20, .inl up))] s.heap.size = A at hD hQe
  have hA : ∀ q : Nat, s.heap.size ≤ q → A q := fun q h => by rw [← hAe]; exact Or.inr h
  obtain ⟨H, hHe⟩ : ∃ H : Heap, H = s.heap := ⟨_, rfl⟩
  have hS : va_S A s.heap H [] := by rw [hHe]; exact va_S.rf
  rw [← hHe] at hP ⊢
  have hl := lv_entry ([.ref aR, .int (nI d), .int (nI a), .int (nI b), .int x, .int y, .int z]) (n := 7) (Nat.le_of_ble_eq_true rfl)
  rw [lg_entry_eq]
  generalize (lg_sl ([.ref aR, .int (nI d), .int (nI a), .int (nI b), .int x, .int y, .int z]) ++ List.replicate (7 - (lg_sl ([.ref aR, .int (nI d), .int (nI a), .int (nI b), .int x, .int y, .int z])).length) Slot.unset).toArray = ls at hl ⊢
  have hl : lv_has ls 7 [(0, .ref aR), (1, .int (nI d)), (2, .int (nI a)), (3, .int (nI b)), (4, .int x), (5, .int y), (6, .int z)] := hl
  refine lv_aload_n hx hb dX1_put_0 rfl (lv_at hl 0 rfl) ?_
  refine va_get (D := (dC, dI)) (ci := 1) (v := .ref aRF) (C := RX1) (T := TX1) (N := 6) hx hb hts iX1 hown hK hP 0 rfl rfl 0 (by decide) w0 (fun _ h9 => h9) rfl dX1_put_1 ?_
  refine lv_iload_n hx hb dX1_put_4 rfl (lv_at hl 1 rfl) ?_
  refine lv_iload_n hx hb dX1_put_5 rfl (lv_at hl 2 rfl) ?_
  have h1 : vp_in (nI d) 20 := by first | exact vp_in_nI (by omega) (by omega) | assumption
  refine va_iast hx hb hK hP hD hS 1 0 rfl rfl h1 dX1_put_6 (fun H locs hP hD hS => ?_)
  rw [nI_clamp (by omega)] at hP hD
  have ub : upd (fun j_ => nI (F j_)) d (nI a) = (fun j_ => nI ((updN F d a) j_)) := updN_z _ _ _
  have hP : va_P (dC, dI) vwCl [(aR, .inr (1, [.ref aRF, .ref aRT, .ref aRN, .ref aRL, .ref aRU, .int (nI cnt)])), (aRF, .inl (cyI, 20, .inl (fun j_ => nI ((updN F d a) j_)))), (aRT, .inl (cyI, 20, .inl (fun j_ => nI (T j_)))), (aRN, .inl (cyI, 20, .inl nm)), (aRL, .inl (cyI, 20, .inl lo)), (aRU, .inl (cyI, 20, .inl up))] H := by rw [← ub]; exact hP
  have hD : va_D A [(aR, .inr (1, [.ref aRF, .ref aRT, .ref aRN, .ref aRL, .ref aRU, .int (nI cnt)])), (aRF, .inl (cyI, 20, .inl (fun j_ => nI ((updN F d a) j_)))), (aRT, .inl (cyI, 20, .inl (fun j_ => nI (T j_)))), (aRN, .inl (cyI, 20, .inl nm)), (aRL, .inl (cyI, 20, .inl lo)), (aRU, .inl (cyI, 20, .inl up))] := by rw [← ub]; exact hD
  refine lv_aload_n hx hb dX1_put_7 rfl (lv_at hl 0 rfl) ?_
  refine va_get (D := (dC, dI)) (ci := 1) (v := .ref aRT) (C := RX1) (T := TX1) (N := 6) hx hb hts iX1 hown hK hP 0 rfl rfl 1 (by decide) w1 (fun _ h9 => h9) rfl dX1_put_8 ?_
  refine lv_iload_n hx hb dX1_put_11 rfl (lv_at hl 1 rfl) ?_
  refine lv_iload_n hx hb dX1_put_12 rfl (lv_at hl 3 rfl) ?_
  have h2 : vp_in (nI d) 20 := by first | exact vp_in_nI (by omega) (by omega) | assumption
  refine va_iast hx hb hK hP hD hS 2 0 rfl rfl h2 dX1_put_13 (fun H locs hP hD hS => ?_)
  rw [nI_clamp (by omega)] at hP hD
  have ub : upd (fun j_ => nI (T j_)) d (nI b) = (fun j_ => nI ((updN T d b) j_)) := updN_z _ _ _
  have hP : va_P (dC, dI) vwCl [(aR, .inr (1, [.ref aRF, .ref aRT, .ref aRN, .ref aRL, .ref aRU, .int (nI cnt)])), (aRF, .inl (cyI, 20, .inl (fun j_ => nI ((updN F d a) j_)))), (aRT, .inl (cyI, 20, .inl (fun j_ => nI ((updN T d b) j_)))), (aRN, .inl (cyI, 20, .inl nm)), (aRL, .inl (cyI, 20, .inl lo)), (aRU, .inl (cyI, 20, .inl up))] H := by rw [← ub]; exact hP
  have hD : va_D A [(aR, .inr (1, [.ref aRF, .ref aRT, .ref aRN, .ref aRL, .ref aRU, .int (nI cnt)])), (aRF, .inl (cyI, 20, .inl (fun j_ => nI ((updN F d a) j_)))), (aRT, .inl (cyI, 20, .inl (fun j_ => nI ((updN T d b) j_)))), (aRN, .inl (cyI, 20, .inl nm)), (aRL, .inl (cyI, 20, .inl lo)), (aRU, .inl (cyI, 20, .inl up))] := by rw [← ub]; exact hD
  refine lv_aload_n hx hb dX1_put_14 rfl (lv_at hl 0 rfl) ?_
  refine va_get (D := (dC, dI)) (ci := 1) (v := .ref aRN) (C := RX1) (T := TX1) (N := 6) hx hb hts iX1 hown hK hP 0 rfl rfl 2 (by decide) w2 (fun _ h9 => h9) rfl dX1_put_15 ?_
  refine lv_iload_n hx hb dX1_put_18 rfl (lv_at hl 1 rfl) ?_
  refine lv_iload hx hb dX1_put_19 (lv_at hl 4 rfl) ?_
  have h3 : vp_in (nI d) 20 := by first | exact vp_in_nI (by omega) (by omega) | assumption
  refine va_iast hx hb hK hP hD hS 3 0 rfl rfl h3 dX1_put_21 (fun H locs hP hD hS => ?_)
  rw [nI_clamp (by omega)] at hP hD
  have hP : va_P (dC, dI) vwCl [(aR, .inr (1, [.ref aRF, .ref aRT, .ref aRN, .ref aRL, .ref aRU, .int (nI cnt)])), (aRF, .inl (cyI, 20, .inl (fun j_ => nI ((updN F d a) j_)))), (aRT, .inl (cyI, 20, .inl (fun j_ => nI ((updN T d b) j_)))), (aRN, .inl (cyI, 20, .inl (upd nm d x))), (aRL, .inl (cyI, 20, .inl lo)), (aRU, .inl (cyI, 20, .inl up))] H := hP
  have hD : va_D A [(aR, .inr (1, [.ref aRF, .ref aRT, .ref aRN, .ref aRL, .ref aRU, .int (nI cnt)])), (aRF, .inl (cyI, 20, .inl (fun j_ => nI ((updN F d a) j_)))), (aRT, .inl (cyI, 20, .inl (fun j_ => nI ((updN T d b) j_)))), (aRN, .inl (cyI, 20, .inl (upd nm d x))), (aRL, .inl (cyI, 20, .inl lo)), (aRU, .inl (cyI, 20, .inl up))] := hD
  refine lv_aload_n hx hb dX1_put_22 rfl (lv_at hl 0 rfl) ?_
  refine va_get (D := (dC, dI)) (ci := 1) (v := .ref aRL) (C := RX1) (T := TX1) (N := 6) hx hb hts iX1 hown hK hP 0 rfl rfl 3 (by decide) w3 (fun _ h9 => h9) rfl dX1_put_23 ?_
  refine lv_iload_n hx hb dX1_put_26 rfl (lv_at hl 1 rfl) ?_
  refine lv_iload hx hb dX1_put_27 (lv_at hl 5 rfl) ?_
  have h4 : vp_in (nI d) 20 := by first | exact vp_in_nI (by omega) (by omega) | assumption
  refine va_iast hx hb hK hP hD hS 4 0 rfl rfl h4 dX1_put_29 (fun H locs hP hD hS => ?_)
  rw [nI_clamp (by omega)] at hP hD
  have hP : va_P (dC, dI) vwCl [(aR, .inr (1, [.ref aRF, .ref aRT, .ref aRN, .ref aRL, .ref aRU, .int (nI cnt)])), (aRF, .inl (cyI, 20, .inl (fun j_ => nI ((updN F d a) j_)))), (aRT, .inl (cyI, 20, .inl (fun j_ => nI ((updN T d b) j_)))), (aRN, .inl (cyI, 20, .inl (upd nm d x))), (aRL, .inl (cyI, 20, .inl (upd lo d y))), (aRU, .inl (cyI, 20, .inl up))] H := hP
  have hD : va_D A [(aR, .inr (1, [.ref aRF, .ref aRT, .ref aRN, .ref aRL, .ref aRU, .int (nI cnt)])), (aRF, .inl (cyI, 20, .inl (fun j_ => nI ((updN F d a) j_)))), (aRT, .inl (cyI, 20, .inl (fun j_ => nI ((updN T d b) j_)))), (aRN, .inl (cyI, 20, .inl (upd nm d x))), (aRL, .inl (cyI, 20, .inl (upd lo d y))), (aRU, .inl (cyI, 20, .inl up))] := hD
  refine lv_aload_n hx hb dX1_put_30 rfl (lv_at hl 0 rfl) ?_
  refine va_get (D := (dC, dI)) (ci := 1) (v := .ref aRU) (C := RX1) (T := TX1) (N := 6) hx hb hts iX1 hown hK hP 0 rfl rfl 4 (by decide) w4 (fun _ h9 => h9) rfl dX1_put_31 ?_
  refine lv_iload_n hx hb dX1_put_34 rfl (lv_at hl 1 rfl) ?_
  refine lv_iload hx hb dX1_put_35 (lv_at hl 6 rfl) ?_
  have h5 : vp_in (nI d) 20 := by first | exact vp_in_nI (by omega) (by omega) | assumption
  refine va_iast hx hb hK hP hD hS 5 0 rfl rfl h5 dX1_put_37 (fun H locs hP hD hS => ?_)
  rw [nI_clamp (by omega)] at hP hD
  have hP : va_P (dC, dI) vwCl [(aR, .inr (1, [.ref aRF, .ref aRT, .ref aRN, .ref aRL, .ref aRU, .int (nI cnt)])), (aRF, .inl (cyI, 20, .inl (fun j_ => nI ((updN F d a) j_)))), (aRT, .inl (cyI, 20, .inl (fun j_ => nI ((updN T d b) j_)))), (aRN, .inl (cyI, 20, .inl (upd nm d x))), (aRL, .inl (cyI, 20, .inl (upd lo d y))), (aRU, .inl (cyI, 20, .inl (upd up d z)))] H := hP
  have hD : va_D A [(aR, .inr (1, [.ref aRF, .ref aRT, .ref aRN, .ref aRL, .ref aRU, .int (nI cnt)])), (aRF, .inl (cyI, 20, .inl (fun j_ => nI ((updN F d a) j_)))), (aRT, .inl (cyI, 20, .inl (fun j_ => nI ((updN T d b) j_)))), (aRN, .inl (cyI, 20, .inl (upd nm d x))), (aRL, .inl (cyI, 20, .inl (upd lo d y))), (aRU, .inl (cyI, 20, .inl (upd up d z)))] := hD
  have hP9 : va_P (dC, dI) vwCl [(aR, .inr (1, [.ref aRF, .ref aRT, .ref aRN, .ref aRL, .ref aRU, .int (nI cnt)])), (aRF, .inl (cyI, 20, .inl (fun j_ => nI ((updN F d a) j_)))), (aRT, .inl (cyI, 20, .inl (fun j_ => nI ((updN T d b) j_)))), (aRN, .inl (cyI, 20, .inl (upd nm d x))), (aRL, .inl (cyI, 20, .inl (upd lo d y))), (aRU, .inl (cyI, 20, .inl (upd up d z)))] H := by exact hP.sub [0, 1, 2, 3, 4, 5] rfl
  have hD9 : va_D A [(aR, .inr (1, [.ref aRF, .ref aRT, .ref aRN, .ref aRL, .ref aRU, .int (nI cnt)])), (aRF, .inl (cyI, 20, .inl (fun j_ => nI ((updN F d a) j_)))), (aRT, .inl (cyI, 20, .inl (fun j_ => nI ((updN T d b) j_)))), (aRN, .inl (cyI, 20, .inl (upd nm d x))), (aRL, .inl (cyI, 20, .inl (upd lo d y))), (aRU, .inl (cyI, 20, .inl (upd up d z)))] := by exact hD.sub [0, 1, 2, 3, 4, 5] (by decide) rfl
  subst hAe
  subst hQe
  exact W.vret hx hb hr (fun t ht hW => ⟨⟨(), rfl, trivial, by rw [ht]; exact hP9, va_K.moved hW.alike hK, hD9⟩, hS.F ht⟩) hS.2.2 dX1_put_38
set_option maxHeartbeats 4000000 in
set_option maxRecDepth 100000 in
theorem c_X1_copyRow (l : Launch) (dC : Nat → ClassId) (dI : Nat → Nat → Nat) (cyI cyZ cyJ cyD : ClassId) (aR aRF aRT aRN aRL aRU aQ aQF aQT aQN aQL aQU : Nat) (zH : Nat) (F : Nat → Nat) (T : Nat → Nat) (nm : Nat → Int32) (lo : Nat → Int32) (up : Nat → Int32) (cnt : Nat) (F2 : Nat → Nat) (T2 : Nat → Nat) (nm2 : Nat → Int32) (lo2 : Nat → Int32) (up2 : Nat → Int32) (cnt2 : Nat) (d : Nat) (k : Nat) (hd : d < 20) (hk : k < 20) : Met l yX1_copyRow wsX1_copyRow ({ frames := 1, cells := 0, slots := 0, locals := 26 } : Room) (va_Pc [.ref aR, .int (nI d), .ref aQ, .int (nI k)] (fun U => U.heap.size = zH ∧ va_P (dC, dI) vwCl [(aR, .inr (1, [.ref aRF, .ref aRT, .ref aRN, .ref aRL, .ref aRU, .int (nI cnt)])), (aRF, .inl (cyI, 20, .inl (fun j_ => nI (F j_)))), (aRT, .inl (cyI, 20, .inl (fun j_ => nI (T j_)))), (aRN, .inl (cyI, 20, .inl nm)), (aRL, .inl (cyI, 20, .inl lo)), (aRU, .inl (cyI, 20, .inl up)), (aQ, .inr (1, [.ref aQF, .ref aQT, .ref aQN, .ref aQL, .ref aQU, .int (nI cnt2)])), (aQF, .inl (cyI, 20, .inl (fun j_ => nI (F2 j_)))), (aQT, .inl (cyI, 20, .inl (fun j_ => nI (T2 j_)))), (aQN, .inl (cyI, 20, .inl nm2)), (aQL, .inl (cyI, 20, .inl lo2)), (aQU, .inl (cyI, 20, .inl up2))] U.heap ∧ va_K (dC, dI) vwCl [(cyI, .int), (cyZ, .boolean), (cyJ, .long), (cyD, .double)] U ∧ va_D (fun _ => True) [(aR, .inr (1, [.ref aRF, .ref aRT, .ref aRN, .ref aRL, .ref aRU, .int (nI cnt)])), (aRF, .inl (cyI, 20, .inl (fun j_ => nI (F j_)))), (aRT, .inl (cyI, 20, .inl (fun j_ => nI (T j_)))), (aRN, .inl (cyI, 20, .inl nm)), (aRL, .inl (cyI, 20, .inl lo)), (aRU, .inl (cyI, 20, .inl up)), (aQ, .inr (1, [.ref aQF, .ref aQT, .ref aQN, .ref aQL, .ref aQU, .int (nI cnt2)])), (aQF, .inl (cyI, 20, .inl (fun j_ => nI (F2 j_)))), (aQT, .inl (cyI, 20, .inl (fun j_ => nI (T2 j_)))), (aQN, .inl (cyI, 20, .inl nm2)), (aQL, .inl (cyI, 20, .inl lo2)), (aQU, .inl (cyI, 20, .inl up2))])) (va_Qv (fun _ : Unit => True) (fun _ t => va_P (dC, dI) vwCl [(aR, .inr (1, [.ref aRF, .ref aRT, .ref aRN, .ref aRL, .ref aRU, .int (nI cnt)])), (aRF, .inl (cyI, 20, .inl (fun j_ => nI ((updN F d (F2 k)) j_)))), (aRT, .inl (cyI, 20, .inl (fun j_ => nI ((updN T d (T2 k)) j_)))), (aRN, .inl (cyI, 20, .inl (upd nm d (nm2 k)))), (aRL, .inl (cyI, 20, .inl (upd lo d (lo2 k)))), (aRU, .inl (cyI, 20, .inl (upd up d (up2 k)))), (aQ, .inr (1, [.ref aQF, .ref aQT, .ref aQN, .ref aQL, .ref aQU, .int (nI cnt2)])), (aQF, .inl (cyI, 20, .inl (fun j_ => nI (F2 j_)))), (aQT, .inl (cyI, 20, .inl (fun j_ => nI (T2 j_)))), (aQN, .inl (cyI, 20, .inl nm2)), (aQL, .inl (cyI, 20, .inl lo2)), (aQU, .inl (cyI, 20, .inl up2))] t.heap ∧ va_K (dC, dI) vwCl [(cyI, .int), (cyZ, .boolean), (cyJ, .long), (cyD, .double)] t ∧ va_D (va_A [(aR, .inr (1, [.ref aRF, .ref aRT, .ref aRN, .ref aRL, .ref aRU, .int (nI cnt)])), (aRF, .inl (cyI, 20, .inl (fun j_ => nI (F j_)))), (aRT, .inl (cyI, 20, .inl (fun j_ => nI (T j_)))), (aRN, .inl (cyI, 20, .inl nm)), (aRL, .inl (cyI, 20, .inl lo)), (aRU, .inl (cyI, 20, .inl up)), (aQ, .inr (1, [.ref aQF, .ref aQT, .ref aQN, .ref aQL, .ref aQU, .int (nI cnt2)])), (aQF, .inl (cyI, 20, .inl (fun j_ => nI (F2 j_)))), (aQT, .inl (cyI, 20, .inl (fun j_ => nI (T2 j_)))), (aQN, .inl (cyI, 20, .inl nm2)), (aQL, .inl (cyI, 20, .inl lo2)), (aQU, .inl (cyI, 20, .inl up2))] zH) [(aR, .inr (1, [.ref aRF, .ref aRT, .ref aRN, .ref aRL, .ref aRU, .int (nI cnt)])), (aRF, .inl (cyI, 20, .inl (fun j_ => nI ((updN F d (F2 k)) j_)))), (aRT, .inl (cyI, 20, .inl (fun j_ => nI ((updN T d (T2 k)) j_)))), (aRN, .inl (cyI, 20, .inl (upd nm d (nm2 k)))), (aRL, .inl (cyI, 20, .inl (upd lo d (lo2 k)))), (aRU, .inl (cyI, 20, .inl (upd up d (up2 k)))), (aQ, .inr (1, [.ref aQF, .ref aQT, .ref aQN, .ref aQL, .ref aQU, .int (nI cnt2)])), (aQF, .inl (cyI, 20, .inl (fun j_ => nI (F2 j_)))), (aQT, .inl (cyI, 20, .inl (fun j_ => nI (T2 j_)))), (aQN, .inl (cyI, 20, .inl nm2)), (aQL, .inl (cyI, 20, .inl lo2)), (aQU, .inl (cyI, 20, .inl up2))]) (va_A [(aR, .inr (1, [.ref aRF, .ref aRT, .ref aRN, .ref aRL, .ref aRU, .int (nI cnt)])), (aRF, .inl (cyI, 20, .inl (fun j_ => nI (F j_)))), (aRT, .inl (cyI, 20, .inl (fun j_ => nI (T j_)))), (aRN, .inl (cyI, 20, .inl nm)), (aRL, .inl (cyI, 20, .inl lo)), (aRU, .inl (cyI, 20, .inl up)), (aQ, .inr (1, [.ref aQF, .ref aQT, .ref aQN, .ref aQL, .ref aQU, .int (nI cnt2)])), (aQF, .inl (cyI, 20, .inl (fun j_ => nI (F2 j_)))), (aQT, .inl (cyI, 20, .inl (fun j_ => nI (T2 j_)))), (aQN, .inl (cyI, 20, .inl nm2)), (aQL, .inl (cyI, 20, .inl lo2)), (aQU, .inl (cyI, 20, .inl up2))] zH)) 0 0 (va_A [(aR, .inr (1, [.ref aRF, .ref aRT, .ref aRN, .ref aRL, .ref aRU, .int (nI cnt)])), (aRF, .inl (cyI, 20, .inl (fun j_ => nI (F j_)))), (aRT, .inl (cyI, 20, .inl (fun j_ => nI (T j_)))), (aRN, .inl (cyI, 20, .inl nm)), (aRL, .inl (cyI, 20, .inl lo)), (aRU, .inl (cyI, 20, .inl up)), (aQ, .inr (1, [.ref aQF, .ref aQT, .ref aQN, .ref aQL, .ref aQU, .int (nI cnt2)])), (aQF, .inl (cyI, 20, .inl (fun j_ => nI (F2 j_)))), (aQT, .inl (cyI, 20, .inl (fun j_ => nI (T2 j_)))), (aQN, .inl (cyI, 20, .inl nm2)), (aQL, .inl (cyI, 20, .inl lo2)), (aQU, .inl (cyI, 20, .inl up2))] zH) := by
  refine Met.ofW (cc := cX1_copyRow) (maxL := 4) (ret := none) (by decide) rfl ?_
  intro pM eM s mM args blM mtM cM s₁ BM hml hv
  obtain ⟨rfl, hsz, hP, hK, hD0⟩ := hv
  have hx := BM.exec
  have hb := BM.bytes
  have hr := BM.returns
  have hts := atoms_spec (ws := wsX1_copyRow) BM.pre
  have hown : s.vm.findClass RX1 = some mM.cls := findClass_of_methodNamed BM.named
  have hlocks := BM.notSynchronized
  have w0 := hts (.fieldLink RX1 9 "DimensionChecker$Dimensions" "from" "[I") (by decide +kernel)
  have w1 := hts (.fieldLink RX1 15 "DimensionChecker$Dimensions" "to" "[I") (by decide +kernel)
  have w2 := hts (.fieldLink RX1 18 "DimensionChecker$Dimensions" "nominal" "[I") (by decide +kernel)
  have w3 := hts (.fieldLink RX1 21 "DimensionChecker$Dimensions" "lower" "[I") (by decide +kernel)
  have w4 := hts (.fieldLink RX1 24 "DimensionChecker$Dimensions" "upper" "[I") (by decide +kernel)
  have iX1 : ∀ w ∈ wsX10, w ∈ wsX1_copyRow := by decide +kernel
  subst hsz
  have hD := hD0.self (sz := s.heap.size)
  obtain ⟨Q, hQe⟩ : ∃ Q : State → Prop, Q = MQ blM (va_Qv (fun _ : Unit => True) (fun _ t => va_P (dC, dI) vwCl [(aR, .inr (1, [.ref aRF, .ref aRT, .ref aRN, .ref aRL, .ref aRU, .int (nI cnt)])), (aRF, .inl (cyI, 20, .inl (fun j_ => nI ((updN F d (F2 k)) j_)))), (aRT, .inl (cyI, 20, .inl (fun j_ => nI ((updN T d (T2 k)) j_)))), (aRN, .inl (cyI, 20, .inl (upd nm d (nm2 k)))), (aRL, .inl (cyI, 20, .inl (upd lo d (lo2 k)))), (aRU, .inl (cyI, 20, .inl (upd up d (up2 k)))), (aQ, .inr (1, [.ref aQF, .ref aQT, .ref aQN, .ref aQL, .ref aQU, .int (nI cnt2)])), (aQF, .inl (cyI, 20, .inl (fun j_ => nI (F2 j_)))), (aQT, .inl (cyI, 20, .inl (fun j_ => nI (T2 j_)))), (aQN, .inl (cyI, 20, .inl nm2)), (aQL, .inl (cyI, 20, .inl lo2)), (aQU, .inl (cyI, 20, .inl up2))] t.heap ∧ va_K (dC, dI) vwCl [(cyI, .int), (cyZ, .boolean), (cyJ, .long), (cyD, .double)] t ∧ va_D (va_A [(aR, .inr (1, [.ref aRF, .ref aRT, .ref aRN, .ref aRL, .ref aRU, .int (nI cnt)])), (aRF, .inl (cyI, 20, .inl (fun j_ => nI (F j_)))), (aRT, .inl (cyI, 20, .inl (fun j_ => nI (T j_)))), (aRN, .inl (cyI, 20, .inl nm)), (aRL, .inl (cyI, 20, .inl lo)), (aRU, .inl (cyI, 20, .inl up)), (aQ, .inr (1, [.ref aQF, .ref aQT, .ref aQN, .ref aQL, .ref aQU, .int (nI cnt2)])), (aQF, .inl (cyI, 20, .inl (fun j_ => nI (F2 j_)))), (aQT, .inl (cyI, 20, .inl (fun j_ => nI (T2 j_)))), (aQN, .inl (cyI, 20, .inl nm2)), (aQL, .inl (cyI, 20, .inl lo2)), (aQU, .inl (cyI, 20, .inl up2))] s.heap.size) [(aR, .inr (1, [.ref aRF, .ref aRT, .ref aRN, .ref aRL, .ref aRU, .int (nI cnt)])), (aRF, .inl (cyI, 20, .inl (fun j_ => nI ((updN F d (F2 k)) j_)))), (aRT, .inl (cyI, 20, .inl (fun j_ => nI ((updN T d (T2 k)) j_)))), (aRN, .inl (cyI, 20, .inl (upd nm d (nm2 k)))), (aRL, .inl (cyI, 20, .inl (upd lo d (lo2 k)))), (aRU, .inl (cyI, 20, .inl (upd up d (up2 k)))), (aQ, .inr (1, [.ref aQF, .ref aQT, .ref aQN, .ref aQL, .ref aQU, .int (nI cnt2)])), (aQF, .inl (cyI, 20, .inl (fun j_ => nI (F2 j_)))), (aQT, .inl (cyI, 20, .inl (fun j_ => nI (T2 j_)))), (aQN, .inl (cyI, 20, .inl nm2)), (aQL, .inl (cyI, 20, .inl lo2)), (aQU, .inl (cyI, 20, .inl up2))]) (va_A [(aR, .inr (1, [.ref aRF, .ref aRT, .ref aRN, .ref aRL, .ref aRU, .int (nI cnt)])), (aRF, .inl (cyI, 20, .inl (fun j_ => nI (F j_)))), (aRT, .inl (cyI, 20, .inl (fun j_ => nI (T j_)))), (aRN, .inl (cyI, 20, .inl nm)), (aRL, .inl (cyI, 20, .inl lo)), (aRU, .inl (cyI, 20, .inl up)), (aQ, .inr (1, [.ref aQF, .ref aQT, .ref aQN, .ref aQL, .ref aQU, .int (nI cnt2)])), (aQF, .inl (cyI, 20, .inl (fun j_ => nI (F2 j_)))), (aQT, .inl (cyI, 20, .inl (fun j_ => nI (T2 j_)))), (aQN, .inl (cyI, 20, .inl nm2)), (aQL, .inl (cyI, 20, .inl lo2)), (aQU, .inl (cyI, 20, .inl up2))] s.heap.size)) ([.ref aR, .int (nI d), .ref aQ, .int (nI k)] : List Value).toArray s 0 0 (va_A [(aR, .inr (1, [.ref aRF, .ref aRT, .ref aRN, .ref aRL, .ref aRU, .int (nI cnt)])), (aRF, .inl (cyI, 20, .inl (fun j_ => nI (F j_)))), (aRT, .inl (cyI, 20, .inl (fun j_ => nI (T j_)))), (aRN, .inl (cyI, 20, .inl nm)), (aRL, .inl (cyI, 20, .inl lo)), (aRU, .inl (cyI, 20, .inl up)), (aQ, .inr (1, [.ref aQF, .ref aQT, .ref aQN, .ref aQL, .ref aQU, .int (nI cnt2)])), (aQF, .inl (cyI, 20, .inl (fun j_ => nI (F2 j_)))), (aQT, .inl (cyI, 20, .inl (fun j_ => nI (T2 j_)))), (aQN, .inl (cyI, 20, .inl nm2)), (aQL, .inl (cyI, 20, .inl lo2)), (aQU, .inl (cyI, 20, .inl up2))] s.heap.size) := ⟨_, rfl⟩
  rw [← hQe]
  generalize hAe : va_A [(aR, .inr (1, [.ref aRF, .ref aRT, .ref aRN, .ref aRL, .ref aRU, .int (nI cnt)])), (aRF, .inl (cyI, 20, .inl (fun j_ => nI (F j_)))), (aRT, .inl (cyI, 20, .inl (fun j_ => nI (T j_)))), (aRN, .inl (cyI, 20, .inl nm)), (aRL, .inl (cyI, 20, .inl lo)), (aRU, .inl (cyI, 20, .inl up)), (aQ, .inr (1, [.ref aQF, .ref aQT, .ref aQN, .ref aQL, .ref aQU, .int (nI cnt2)])), (aQF, .inl (cyI, 20, .inl (fun j_ => nI (F2 j_)))), (aQT, .inl (cyI, 20, .inl (fun j_ => nI (T2 j_)))), (aQN, .inl (cyI, 20, .inl nm2)), (aQL, .inl (cyI, 20, .inl lo2)), (aQU, .inl (cyI, 20, .inl up2))] s.heap.size = A at hD hQe
  have hA : ∀ q : Nat, s.heap.size ≤ q → A q := fun q h => by rw [← hAe]; exact Or.inr h
  obtain ⟨H, hHe⟩ : ∃ H : Heap, H = s.heap := ⟨_, rfl⟩
  have hS : va_S A s.heap H [] := by rw [hHe]; exact va_S.rf
  rw [← hHe] at hP ⊢
  have hl := lv_entry ([.ref aR, .int (nI d), .ref aQ, .int (nI k)]) (n := 4) (Nat.le_of_ble_eq_true rfl)
  rw [lg_entry_eq]
  generalize (lg_sl ([.ref aR, .int (nI d), .ref aQ, .int (nI k)]) ++ List.replicate (4 - (lg_sl ([.ref aR, .int (nI d), .ref aQ, .int (nI k)])).length) Slot.unset).toArray = ls at hl ⊢
  have hl : lv_has ls 4 [(0, .ref aR), (1, .int (nI d)), (2, .ref aQ), (3, .int (nI k))] := hl
  refine lv_aload_n hx hb dX1_copyRow_0 rfl (lv_at hl 0 rfl) ?_
  refine lv_iload_n hx hb dX1_copyRow_1 rfl (lv_at hl 1 rfl) ?_
  refine lv_aload_n hx hb dX1_copyRow_2 rfl (lv_at hl 2 rfl) ?_
  refine va_get (D := (dC, dI)) (ci := 1) (v := .ref aQF) (C := RX1) (T := TX1) (N := 6) hx hb hts iX1 hown hK hP 6 rfl rfl 0 (by decide) w0 (fun _ h9 => h9) rfl dX1_copyRow_3 ?_
  refine lv_iload_n hx hb dX1_copyRow_6 rfl (lv_at hl 3 rfl) ?_
  have h1 : vp_in (nI k) 20 := by first | exact vp_in_nI (by omega) (by omega) | assumption
  refine va_iald hx hb hK hP 7 0 rfl rfl h1 dX1_copyRow_7 ?_
  refine lv_topi (fun x2 e3 => ?_)
  obtain rfl : x2 = (nI (F2 k)) := by rw [e3, nI_clamp (by omega)]
  clear e3
  refine lv_aload_n hx hb dX1_copyRow_8 rfl (lv_at hl 2 rfl) ?_
  refine va_get (D := (dC, dI)) (ci := 1) (v := .ref aQT) (C := RX1) (T := TX1) (N := 6) hx hb hts iX1 hown hK hP 6 rfl rfl 1 (by decide) w1 (fun _ h9 => h9) rfl dX1_copyRow_9 ?_
  refine lv_iload_n hx hb dX1_copyRow_12 rfl (lv_at hl 3 rfl) ?_
  have h4 : vp_in (nI k) 20 := by first | exact vp_in_nI (by omega) (by omega) | assumption
  refine va_iald hx hb hK hP 8 0 rfl rfl h4 dX1_copyRow_13 ?_
  refine lv_topi (fun x5 e6 => ?_)
  obtain rfl : x5 = (nI (T2 k)) := by rw [e6, nI_clamp (by omega)]
  clear e6
  refine lv_aload_n hx hb dX1_copyRow_14 rfl (lv_at hl 2 rfl) ?_
  refine va_get (D := (dC, dI)) (ci := 1) (v := .ref aQN) (C := RX1) (T := TX1) (N := 6) hx hb hts iX1 hown hK hP 6 rfl rfl 2 (by decide) w2 (fun _ h9 => h9) rfl dX1_copyRow_15 ?_
  refine lv_iload_n hx hb dX1_copyRow_18 rfl (lv_at hl 3 rfl) ?_
  have h7 : vp_in (nI k) 20 := by first | exact vp_in_nI (by omega) (by omega) | assumption
  refine va_iald hx hb hK hP 9 0 rfl rfl h7 dX1_copyRow_19 ?_
  refine lv_topi (fun x8 e9 => ?_)
  obtain rfl : x8 = (nm2 k) := by rw [e9, nI_clamp (by omega)]
  clear e9
  refine lv_aload_n hx hb dX1_copyRow_20 rfl (lv_at hl 2 rfl) ?_
  refine va_get (D := (dC, dI)) (ci := 1) (v := .ref aQL) (C := RX1) (T := TX1) (N := 6) hx hb hts iX1 hown hK hP 6 rfl rfl 3 (by decide) w3 (fun _ h9 => h9) rfl dX1_copyRow_21 ?_
  refine lv_iload_n hx hb dX1_copyRow_24 rfl (lv_at hl 3 rfl) ?_
  have h10 : vp_in (nI k) 20 := by first | exact vp_in_nI (by omega) (by omega) | assumption
  refine va_iald hx hb hK hP 10 0 rfl rfl h10 dX1_copyRow_25 ?_
  refine lv_topi (fun x11 e12 => ?_)
  obtain rfl : x11 = (lo2 k) := by rw [e12, nI_clamp (by omega)]
  clear e12
  refine lv_aload_n hx hb dX1_copyRow_26 rfl (lv_at hl 2 rfl) ?_
  refine va_get (D := (dC, dI)) (ci := 1) (v := .ref aQU) (C := RX1) (T := TX1) (N := 6) hx hb hts iX1 hown hK hP 6 rfl rfl 4 (by decide) w4 (fun _ h9 => h9) rfl dX1_copyRow_27 ?_
  refine lv_iload_n hx hb dX1_copyRow_30 rfl (lv_at hl 3 rfl) ?_
  have h13 : vp_in (nI k) 20 := by first | exact vp_in_nI (by omega) (by omega) | assumption
  refine va_iald hx hb hK hP 11 0 rfl rfl h13 dX1_copyRow_31 ?_
  refine lv_topi (fun x14 e15 => ?_)
  obtain rfl : x14 = (up2 k) := by rw [e15, nI_clamp (by omega)]
  clear e15
  have g16 : d < 20 := by first | assumption | omega | exact vp_in_nI (by omega) (by omega)
  have hPc := hP.sub (ws' := [(aR, .inr (1, [.ref aRF, .ref aRT, .ref aRN, .ref aRL, .ref aRU, .int (nI cnt)])), (aRF, .inl (cyI, 20, .inl (fun j_ => nI (F j_)))), (aRT, .inl (cyI, 20, .inl (fun j_ => nI (T j_)))), (aRN, .inl (cyI, 20, .inl nm)), (aRL, .inl (cyI, 20, .inl lo)), (aRU, .inl (cyI, 20, .inl up))]) [0, 1, 2, 3, 4, 5] rfl
  have hDc := hD.sub (ws' := [(aR, .inr (1, [.ref aRF, .ref aRT, .ref aRN, .ref aRL, .ref aRU, .int (nI cnt)])), (aRF, .inl (cyI, 20, .inl (fun j_ => nI (F j_)))), (aRT, .inl (cyI, 20, .inl (fun j_ => nI (T j_)))), (aRN, .inl (cyI, 20, .inl nm)), (aRL, .inl (cyI, 20, .inl lo)), (aRU, .inl (cyI, 20, .inl up))]) [0, 1, 2, 3, 4, 5] (by decide) rfl
  have hFc := va_free (wc := [(aR, .inr (1, [.ref aRF, .ref aRT, .ref aRN, .ref aRL, .ref aRU, .int (nI cnt)])), (aRF, .inl (cyI, 20, .inl (fun j_ => nI (F j_)))), (aRT, .inl (cyI, 20, .inl (fun j_ => nI (T j_)))), (aRN, .inl (cyI, 20, .inl nm)), (aRL, .inl (cyI, 20, .inl lo)), (aRU, .inl (cyI, 20, .inl up))]) hD hS hA [0, 1, 2, 3, 4, 5] rfl
  refine va_callv (va_runV (As := [.int (nI d), .int (nI (F2 k)), .int (nI (T2 k)), .int (nm2 k), .int (lo2 k), .int (up2 k)]) (rest := []) ⟨hx, hb, hml, hown, hts⟩ (c_X1_put l dC dI cyI cyZ cyJ cyD aR aRF aRT aRN aRL aRU H.size F T nm lo up cnt d (F2 k) (T2 k) (nm2 k) (lo2 k) (up2 k) g16) (cwV 6 hts gX1_copyRow_X1_put rfl rfl rfl (by decide +kernel) ⟨Nat.le_of_ble_eq_true rfl, Nat.le_of_ble_eq_true rfl⟩) ⟨fun a U g mk q => by obtain ⟨q0, q1, qP, qK, qD⟩ := q; exact ⟨q0, q1, qP, va_K.moved (u := U) (U := U.calling g mk a) (Vm.Alike.refl U.vm) qK, qD⟩, va_recv hK hPc (ci := 1) (q0 := 0) rfl rfl, fun U hU hW => ⟨rfl, by rw [hU], by rw [hU]; exact hPc, va_K.moved hW.alike hK, hDc.weaken (fun _ _ _ _ => trivial)⟩⟩ rfl rfl hl.1 rfl (lv_room (Nat.le_of_ble_eq_true rfl)) dX1_copyRow_32 ⟨Nat.le_of_ble_eq_true rfl, Nat.le_of_ble_eq_true rfl⟩) hS (fun q _ h => hFc q h) hFc (fun  u t H1 locs ht hvm hw hB hz1 hk1 hS => ?_)
  obtain ⟨hP1, hK1, hD1⟩ := hB
  rw [ht] at hP1
  obtain ⟨hP, hD⟩ := va_join (wr := [(aQ, .inr (1, [.ref aQF, .ref aQT, .ref aQN, .ref aQL, .ref aQU, .int (nI cnt2)])), (aQF, .inl (cyI, 20, .inl (fun j_ => nI (F2 j_)))), (aQT, .inl (cyI, 20, .inl (fun j_ => nI (T2 j_)))), (aQN, .inl (cyI, 20, .inl nm2)), (aQL, .inl (cyI, 20, .inl lo2)), (aQU, .inl (cyI, 20, .inl up2))]) (w1 := [(aR, .inr (1, [.ref aRF, .ref aRT, .ref aRN, .ref aRL, .ref aRU, .int (nI cnt)])), (aRF, .inl (cyI, 20, .inl (fun j_ => nI ((updN F d (F2 k)) j_)))), (aRT, .inl (cyI, 20, .inl (fun j_ => nI ((updN T d (T2 k)) j_)))), (aRN, .inl (cyI, 20, .inl (upd nm d (nm2 k)))), (aRL, .inl (cyI, 20, .inl (upd lo d (lo2 k)))), (aRU, .inl (cyI, 20, .inl (upd up d (up2 k))))]) hP hD [0, 1, 2, 3, 4, 5] [6, 7, 8, 9, 10, 11] rfl rfl (by decide) (by decide) hk1 hFc hP1 hD1
  clear hP1 hD1 hK1 hPc hDc hFc hk1 hz1 hvm ht u t
  generalize H1 = H at hP hS ⊢
  have hP : va_P (dC, dI) vwCl [(aQ, .inr (1, [.ref aQF, .ref aQT, .ref aQN, .ref aQL, .ref aQU, .int (nI cnt2)])), (aQF, .inl (cyI, 20, .inl (fun j_ => nI (F2 j_)))), (aQT, .inl (cyI, 20, .inl (fun j_ => nI (T2 j_)))), (aQN, .inl (cyI, 20, .inl nm2)), (aQL, .inl (cyI, 20, .inl lo2)), (aQU, .inl (cyI, 20, .inl up2)), (aR, .inr (1, [.ref aRF, .ref aRT, .ref aRN, .ref aRL, .ref aRU, .int (nI cnt)])), (aRF, .inl (cyI, 20, .inl (fun j_ => nI ((updN F d (F2 k)) j_)))), (aRT, .inl (cyI, 20, .inl (fun j_ => nI ((updN T d (T2 k)) j_)))), (aRN, .inl (cyI, 20, .inl (upd nm d (nm2 k)))), (aRL, .inl (cyI, 20, .inl (upd lo d (lo2 k)))), (aRU, .inl (cyI, 20, .inl (upd up d (up2 k))))] H := hP
  have hD : va_D A [(aQ, .inr (1, [.ref aQF, .ref aQT, .ref aQN, .ref aQL, .ref aQU, .int (nI cnt2)])), (aQF, .inl (cyI, 20, .inl (fun j_ => nI (F2 j_)))), (aQT, .inl (cyI, 20, .inl (fun j_ => nI (T2 j_)))), (aQN, .inl (cyI, 20, .inl nm2)), (aQL, .inl (cyI, 20, .inl lo2)), (aQU, .inl (cyI, 20, .inl up2)), (aR, .inr (1, [.ref aRF, .ref aRT, .ref aRN, .ref aRL, .ref aRU, .int (nI cnt)])), (aRF, .inl (cyI, 20, .inl (fun j_ => nI ((updN F d (F2 k)) j_)))), (aRT, .inl (cyI, 20, .inl (fun j_ => nI ((updN T d (T2 k)) j_)))), (aRN, .inl (cyI, 20, .inl (upd nm d (nm2 k)))), (aRL, .inl (cyI, 20, .inl (upd lo d (lo2 k)))), (aRU, .inl (cyI, 20, .inl (upd up d (up2 k))))] := hD
  have hP9 : va_P (dC, dI) vwCl [(aR, .inr (1, [.ref aRF, .ref aRT, .ref aRN, .ref aRL, .ref aRU, .int (nI cnt)])), (aRF, .inl (cyI, 20, .inl (fun j_ => nI ((updN F d (F2 k)) j_)))), (aRT, .inl (cyI, 20, .inl (fun j_ => nI ((updN T d (T2 k)) j_)))), (aRN, .inl (cyI, 20, .inl (upd nm d (nm2 k)))), (aRL, .inl (cyI, 20, .inl (upd lo d (lo2 k)))), (aRU, .inl (cyI, 20, .inl (upd up d (up2 k)))), (aQ, .inr (1, [.ref aQF, .ref aQT, .ref aQN, .ref aQL, .ref aQU, .int (nI cnt2)])), (aQF, .inl (cyI, 20, .inl (fun j_ => nI (F2 j_)))), (aQT, .inl (cyI, 20, .inl (fun j_ => nI (T2 j_)))), (aQN, .inl (cyI, 20, .inl nm2)), (aQL, .inl (cyI, 20, .inl lo2)), (aQU, .inl (cyI, 20, .inl up2))] H := by exact hP.sub [6, 7, 8, 9, 10, 11, 0, 1, 2, 3, 4, 5] rfl
  have hD9 : va_D A [(aR, .inr (1, [.ref aRF, .ref aRT, .ref aRN, .ref aRL, .ref aRU, .int (nI cnt)])), (aRF, .inl (cyI, 20, .inl (fun j_ => nI ((updN F d (F2 k)) j_)))), (aRT, .inl (cyI, 20, .inl (fun j_ => nI ((updN T d (T2 k)) j_)))), (aRN, .inl (cyI, 20, .inl (upd nm d (nm2 k)))), (aRL, .inl (cyI, 20, .inl (upd lo d (lo2 k)))), (aRU, .inl (cyI, 20, .inl (upd up d (up2 k)))), (aQ, .inr (1, [.ref aQF, .ref aQT, .ref aQN, .ref aQL, .ref aQU, .int (nI cnt2)])), (aQF, .inl (cyI, 20, .inl (fun j_ => nI (F2 j_)))), (aQT, .inl (cyI, 20, .inl (fun j_ => nI (T2 j_)))), (aQN, .inl (cyI, 20, .inl nm2)), (aQL, .inl (cyI, 20, .inl lo2)), (aQU, .inl (cyI, 20, .inl up2))] := by exact hD.sub [6, 7, 8, 9, 10, 11, 0, 1, 2, 3, 4, 5] (by decide) rfl
  subst hAe
  subst hQe
  exact W.vret hx hb hr (fun t ht hW => ⟨⟨(), rfl, trivial, by rw [ht]; exact hP9, va_K.moved hW.alike hK, hD9⟩, hS.F ht⟩) hS.2.2 dX1_copyRow_35
set_option maxHeartbeats 4000000 in
set_option maxRecDepth 100000 in
theorem c_X1_copyRowSelf (l : Launch) (dC : Nat → ClassId) (dI : Nat → Nat → Nat) (cyI cyZ cyJ cyD : ClassId) (aR aRF aRT aRN aRL aRU : Nat) (zH : Nat) (F : Nat → Nat) (T : Nat → Nat) (nm : Nat → Int32) (lo : Nat → Int32) (up : Nat → Int32) (cnt : Nat) (d : Nat) (k : Nat) (hd : d < 20) (hk : k < 20) : Met l yX1_copyRow wsX1_copyRow ({ frames := 1, cells := 0, slots := 0, locals := 26 } : Room) (va_Pc [.ref aR, .int (nI d), .ref aR, .int (nI k)] (fun U => U.heap.size = zH ∧ va_P (dC, dI) vwCl [(aR, .inr (1, [.ref aRF, .ref aRT, .ref aRN, .ref aRL, .ref aRU, .int (nI cnt)])), (aRF, .inl (cyI, 20, .inl (fun j_ => nI (F j_)))), (aRT, .inl (cyI, 20, .inl (fun j_ => nI (T j_)))), (aRN, .inl (cyI, 20, .inl nm)), (aRL, .inl (cyI, 20, .inl lo)), (aRU, .inl (cyI, 20, .inl up))] U.heap ∧ va_K (dC, dI) vwCl [(cyI, .int), (cyZ, .boolean), (cyJ, .long), (cyD, .double)] U ∧ va_D (fun _ => True) [(aR, .inr (1, [.ref aRF, .ref aRT, .ref aRN, .ref aRL, .ref aRU, .int (nI cnt)])), (aRF, .inl (cyI, 20, .inl (fun j_ => nI (F j_)))), (aRT, .inl (cyI, 20, .inl (fun j_ => nI (T j_)))), (aRN, .inl (cyI, 20, .inl nm)), (aRL, .inl (cyI, 20, .inl lo)), (aRU, .inl (cyI, 20, .inl up))])) (va_Qv (fun _ : Unit => True) (fun _ t => va_P (dC, dI) vwCl [(aR, .inr (1, [.ref aRF, .ref aRT, .ref aRN, .ref aRL, .ref aRU, .int (nI cnt)])), (aRF, .inl (cyI, 20, .inl (fun j_ => nI ((updN F d (F k)) j_)))), (aRT, .inl (cyI, 20, .inl (fun j_ => nI ((updN T d (T k)) j_)))), (aRN, .inl (cyI, 20, .inl (upd nm d (nm k)))), (aRL, .inl (cyI, 20, .inl (upd lo d (lo k)))), (aRU, .inl (cyI, 20, .inl (upd up d (up k))))] t.heap ∧ va_K (dC, dI) vwCl [(cyI, .int), (cyZ, .boolean), (cyJ, .long), (cyD, .double)] t ∧ va_D (va_A [(aR, .inr (1, [.ref aRF, .ref aRT, .ref aRN, .ref aRL, .ref aRU, .int (nI cnt)])), (aRF, .inl (cyI, 20, .inl (fun j_ => nI (F j_)))), (aRT, .inl (cyI, 20, .inl (fun j_ => nI (T j_)))), (aRN, .inl (cyI, 20, .inl nm)), (aRL, .inl (cyI, 20, .inl lo)), (aRU, .inl (cyI, 20, .inl up))] zH) [(aR, .inr (1, [.ref aRF, .ref aRT, .ref aRN, .ref aRL, .ref aRU, .int (nI cnt)])), (aRF, .inl (cyI, 20, .inl (fun j_ => nI ((updN F d (F k)) j_)))), (aRT, .inl (cyI, 20, .inl (fun j_ => nI ((updN T d (T k)) j_)))), (aRN, .inl (cyI, 20, .inl (upd nm d (nm k)))), (aRL, .inl (cyI, 20, .inl (upd lo d (lo k)))), (aRU, .inl (cyI, 20, .inl (upd up d (up k))))]) (va_A [(aR, .inr (1, [.ref aRF, .ref aRT, .ref aRN, .ref aRL, .ref aRU, .int (nI cnt)])), (aRF, .inl (cyI, 20, .inl (fun j_ => nI (F j_)))), (aRT, .inl (cyI, 20, .inl (fun j_ => nI (T j_)))), (aRN, .inl (cyI, 20, .inl nm)), (aRL, .inl (cyI, 20, .inl lo)), (aRU, .inl (cyI, 20, .inl up))] zH)) 0 0 (va_A [(aR, .inr (1, [.ref aRF, .ref aRT, .ref aRN, .ref aRL, .ref aRU, .int (nI cnt)])), (aRF, .inl (cyI, 20, .inl (fun j_ => nI (F j_)))), (aRT, .inl (cyI, 20, .inl (fun j_ => nI (T j_)))), (aRN, .inl (cyI, 20, .inl nm)), (aRL, .inl (cyI, 20, .inl lo)), (aRU, .inl (cyI, 20, .inl up))] zH) := by
  refine Met.ofW (cc := cX1_copyRow) (maxL := 4) (ret := none) (by decide) rfl ?_
  intro pM eM s mM args blM mtM cM s₁ BM hml hv
  obtain ⟨rfl, hsz, hP, hK, hD0⟩ := hv
  have hx := BM.exec
  have hb := BM.bytes
  have hr := BM.returns
  have hts := atoms_spec (ws := wsX1_copyRow) BM.pre
  have hown : s.vm.findClass RX1 = some mM.cls := findClass_of_methodNamed BM.named
  have hlocks := BM.notSynchronized
  have w0 := hts (.fieldLink RX1 9 "DimensionChecker$Dimensions" "from" "[I") (by decide +kernel)
  have w1 := hts (.fieldLink RX1 15 "DimensionChecker$Dimensions" "to" "[I") (by decide +kernel)
  have w2 := hts (.fieldLink RX1 18 "DimensionChecker$Dimensions" "nominal" "[I") (by decide +kernel)
  have w3 := hts (.fieldLink RX1 21 "DimensionChecker$Dimensions" "lower" "[I") (by decide +kernel)
  have w4 := hts (.fieldLink RX1 24 "DimensionChecker$Dimensions" "upper" "[I") (by decide +kernel)
  have iX1 : ∀ w ∈ wsX10, w ∈ wsX1_copyRow := by decide +kernel
  subst hsz
  have hD := hD0.self (sz := s.heap.size)
  obtain ⟨Q, hQe⟩ : ∃ Q : State → Prop, Q = MQ blM (va_Qv (fun _ : Unit => True) (fun _ t => va_P (dC, dI) vwCl [(aR, .inr (1, [.ref aRF, .ref aRT, .ref aRN, .ref aRL, .ref aRU, .int (nI cnt)])), (aRF, .inl (cyI, 20, .inl (fun j_ => nI ((updN F d (F k)) j_)))), (aRT, .inl (cyI, 20, .inl (fun j_ => nI ((updN T d (T k)) j_)))), (aRN, .inl (cyI, 20, .inl (upd nm d (nm k)))), (aRL, .inl (cyI, 20, .inl (upd lo d (lo k)))), (aRU, .inl (cyI, 20, .inl (upd up d (up k))))] t.heap ∧ va_K (dC, dI) vwCl [(cyI, .int), (cyZ, .boolean), (cyJ, .long), (cyD, .double)] t ∧ va_D (va_A [(aR, .inr (1, [.ref aRF, .ref aRT, .ref aRN, .ref aRL, .ref aRU, .int (nI cnt)])), (aRF, .inl (cyI, 20, .inl (fun j_ => nI (F j_)))), (aRT, .inl (cyI, 20, .inl (fun j_ => nI (T j_)))), (aRN, .inl (cyI, 20, .inl nm)), (aRL, .inl (cyI, 20, .inl lo)), (aRU, .inl (cyI, 20, .inl up))] s.heap.size) [(aR, .inr (1, [.ref aRF, .ref aRT, .ref aRN, .ref aRL, .ref aRU, .int (nI cnt)])), (aRF, .inl (cyI, 20, .inl (fun j_ => nI ((updN F d (F k)) j_)))), (aRT, .inl (cyI, 20, .inl (fun j_ => nI ((updN T d (T k)) j_)))), (aRN, .inl (cyI, 20, .inl (upd nm d (nm k)))), (aRL, .inl (cyI, 20, .inl (upd lo d (lo k)))), (aRU, .inl (cyI, 20, .inl (upd up d (up k))))]) (va_A [(aR, .inr (1, [.ref aRF, .ref aRT, .ref aRN, .ref aRL, .ref aRU, .int (nI cnt)])), (aRF, .inl (cyI, 20, .inl (fun j_ => nI (F j_)))), (aRT, .inl (cyI, 20, .inl (fun j_ => nI (T j_)))), (aRN, .inl (cyI, 20, .inl nm)), (aRL, .inl (cyI, 20, .inl lo)), (aRU, .inl (cyI, 20, .inl up))] s.heap.size)) ([.ref aR, .int (nI d), .ref aR, .int (nI k)] : List Value).toArray s 0 0 (va_A [(aR, .inr (1, [.ref aRF, .ref aRT, .ref aRN, .ref aRL, .ref aRU, .int (nI cnt)])), (aRF, .inl (cyI, 20, .inl (fun j_ => nI (F j_)))), (aRT, .inl (cyI, 20, .inl (fun j_ => nI (T j_)))), (aRN, .inl (cyI, 20, .inl nm)), (aRL, .inl (cyI, 20, .inl lo)), (aRU, .inl (cyI, 20, .inl up))] s.heap.size) := ⟨_, rfl⟩
  rw [← hQe]
  generalize hAe : va_A [(aR, .inr (1, [.ref aRF, .ref aRT, .ref aRN, .ref aRL, .ref aRU, .int (nI cnt)])), (aRF, .inl (cyI, 20, .inl (fun j_ => nI (F j_)))), (aRT, .inl (cyI, 20, .inl (fun j_ => nI (T j_)))), (aRN, .inl (cyI, 20, .inl nm)), (aRL, .inl (cyI, 20, .inl lo)), (aRU, .inl (cyI, 20, .inl up))] s.heap.size = A at hD hQe
  have hA : ∀ q : Nat, s.heap.size ≤ q → A q := fun q h => by rw [← hAe]; exact Or.inr h
  obtain ⟨H, hHe⟩ : ∃ H : Heap, H = s.heap := ⟨_, rfl⟩
  have hS : va_S A s.heap H [] := by rw [hHe]; exact va_S.rf
  rw [← hHe] at hP ⊢
  have hl := lv_entry ([.ref aR, .int (nI d), .ref aR, .int (nI k)]) (n := 4) (Nat.le_of_ble_eq_true rfl)
  rw [lg_entry_eq]
  generalize (lg_sl ([.ref aR, .int (nI d), .ref aR, .int (nI k)]) ++ List.replicate (4 - (lg_sl ([.ref aR, .int (nI d), .ref aR, .int (nI k)])).length) Slot.unset).toArray = ls at hl ⊢
  have hl : lv_has ls 4 [(0, .ref aR), (1, .int (nI d)), (2, .ref aR), (3, .int (nI k))] := hl
  refine lv_aload_n hx hb dX1_copyRow_0 rfl (lv_at hl 0 rfl) ?_
  refine lv_iload_n hx hb dX1_copyRow_1 rfl (lv_at hl 1 rfl) ?_
  refine lv_aload_n hx hb dX1_copyRow_2 rfl (lv_at hl 2 rfl) ?_
  refine va_get (D := (dC, dI)) (ci := 1) (v := .ref aRF) (C := RX1) (T := TX1) (N := 6) hx hb hts iX1 hown hK hP 0 rfl rfl 0 (by decide) w0 (fun _ h9 => h9) rfl dX1_copyRow_3 ?_
  refine lv_iload_n hx hb dX1_copyRow_6 rfl (lv_at hl 3 rfl) ?_
  have h1 : vp_in (nI k) 20 := by first | exact vp_in_nI (by omega) (by omega) | assumption
  refine va_iald hx hb hK hP 1 0 rfl rfl h1 dX1_copyRow_7 ?_
  refine lv_topi (fun x2 e3 => ?_)
  obtain rfl : x2 = (nI (F k)) := by rw [e3, nI_clamp (by omega)]
  clear e3
  refine lv_aload_n hx hb dX1_copyRow_8 rfl (lv_at hl 2 rfl) ?_
  refine va_get (D := (dC, dI)) (ci := 1) (v := .ref aRT) (C := RX1) (T := TX1) (N := 6) hx hb hts iX1 hown hK hP 0 rfl rfl 1 (by decide) w1 (fun _ h9 => h9) rfl dX1_copyRow_9 ?_
  refine lv_iload_n hx hb dX1_copyRow_12 rfl (lv_at hl 3 rfl) ?_
  have h4 : vp_in (nI k) 20 := by first | exact vp_in_nI (by omega) (by omega) | assumption
  refine va_iald hx hb hK hP 2 0 rfl rfl h4 dX1_copyRow_13 ?_
  refine lv_topi (fun x5 e6 => ?_)
  obtain rfl : x5 = (nI (T k)) := by rw [e6, nI_clamp (by omega)]
  clear e6
  refine lv_aload_n hx hb dX1_copyRow_14 rfl (lv_at hl 2 rfl) ?_
  refine va_get (D := (dC, dI)) (ci := 1) (v := .ref aRN) (C := RX1) (T := TX1) (N := 6) hx hb hts iX1 hown hK hP 0 rfl rfl 2 (by decide) w2 (fun _ h9 => h9) rfl dX1_copyRow_15 ?_
  refine lv_iload_n hx hb dX1_copyRow_18 rfl (lv_at hl 3 rfl) ?_
  have h7 : vp_in (nI k) 20 := by first | exact vp_in_nI (by omega) (by omega) | assumption
  refine va_iald hx hb hK hP 3 0 rfl rfl h7 dX1_copyRow_19 ?_
  refine lv_topi (fun x8 e9 => ?_)
  obtain rfl : x8 = (nm k) := by rw [e9, nI_clamp (by omega)]
  clear e9
  refine lv_aload_n hx hb dX1_copyRow_20 rfl (lv_at hl 2 rfl) ?_
  refine va_get (D := (dC, dI)) (ci := 1) (v := .ref aRL) (C := RX1) (T := TX1) (N := 6) hx hb hts iX1 hown hK hP 0 rfl rfl 3 (by decide) w3 (fun _ h9 => h9) rfl dX1_copyRow_21 ?_
  refine lv_iload_n hx hb dX1_copyRow_24 rfl (lv_at hl 3 rfl) ?_
  have h10 : vp_in (nI k) 20 := by first | exact vp_in_nI (by omega) (by omega) | assumption
  refine va_iald hx hb hK hP 4 0 rfl rfl h10 dX1_copyRow_25 ?_
  refine lv_topi (fun x11 e12 => ?_)
  obtain rfl : x11 = (lo k) := by rw [e12, nI_clamp (by omega)]
  clear e12
  refine lv_aload_n hx hb dX1_copyRow_26 rfl (lv_at hl 2 rfl) ?_
  refine va_get (D := (dC, dI)) (ci := 1) (v := .ref aRU) (C := RX1) (T := TX1) (N := 6) hx hb hts iX1 hown hK hP 0 rfl rfl 4 (by decide) w4 (fun _ h9 => h9) rfl dX1_copyRow_27 ?_
  refine lv_iload_n hx hb dX1_copyRow_30 rfl (lv_at hl 3 rfl) ?_
  have h13 : vp_in (nI k) 20 := by first | exact vp_in_nI (by omega) (by omega) | assumption
  refine va_iald hx hb hK hP 5 0 rfl rfl h13 dX1_copyRow_31 ?_
  refine lv_topi (fun x14 e15 => ?_)
  obtain rfl : x14 = (up k) := by rw [e15, nI_clamp (by omega)]
  clear e15
  have g16 : d < 20 := by first | assumption | omega | exact vp_in_nI (by omega) (by omega)
  have hPc := hP.sub (ws' := [(aR, .inr (1, [.ref aRF, .ref aRT, .ref aRN, .ref aRL, .ref aRU, .int (nI cnt)])), (aRF, .inl (cyI, 20, .inl (fun j_ => nI (F j_)))), (aRT, .inl (cyI, 20, .inl (fun j_ => nI (T j_)))), (aRN, .inl (cyI, 20, .inl nm)), (aRL, .inl (cyI, 20, .inl lo)), (aRU, .inl (cyI, 20, .inl up))]) [0, 1, 2, 3, 4, 5] rfl
  have hDc := hD.sub (ws' := [(aR, .inr (1, [.ref aRF, .ref aRT, .ref aRN, .ref aRL, .ref aRU, .int (nI cnt)])), (aRF, .inl (cyI, 20, .inl (fun j_ => nI (F j_)))), (aRT, .inl (cyI, 20, .inl (fun j_ => nI (T j_)))), (aRN, .inl (cyI, 20, .inl nm)), (aRL, .inl (cyI, 20, .inl lo)), (aRU, .inl (cyI, 20, .inl up))]) [0, 1, 2, 3, 4, 5] (by decide) rfl
  have hFc := va_free (wc := [(aR, .inr (1, [.ref aRF, .ref aRT, .ref aRN, .ref aRL, .ref aRU, .int (nI cnt)])), (aRF, .inl (cyI, 20, .inl (fun j_ => nI (F j_)))), (aRT, .inl (cyI, 20, .inl (fun j_ => nI (T j_)))), (aRN, .inl (cyI, 20, .inl nm)), (aRL, .inl (cyI, 20, .inl lo)), (aRU, .inl (cyI, 20, .inl up))]) hD hS hA [0, 1, 2, 3, 4, 5] rfl
  refine va_callv (va_runV (As := [.int (nI d), .int (nI (F k)), .int (nI (T k)), .int (nm k), .int (lo k), .int (up k)]) (rest := []) ⟨hx, hb, hml, hown, hts⟩ (c_X1_put l dC dI cyI cyZ cyJ cyD aR aRF aRT aRN aRL aRU H.size F T nm lo up cnt d (F k) (T k) (nm k) (lo k) (up k) g16) (cwV 6 hts gX1_copyRow_X1_put rfl rfl rfl (by decide +kernel) ⟨Nat.le_of_ble_eq_true rfl, Nat.le_of_ble_eq_true rfl⟩) ⟨fun a U g mk q => by obtain ⟨q0, q1, qP, qK, qD⟩ := q; exact ⟨q0, q1, qP, va_K.moved (u := U) (U := U.calling g mk a) (Vm.Alike.refl U.vm) qK, qD⟩, va_recv hK hPc (ci := 1) (q0 := 0) rfl rfl, fun U hU hW => ⟨rfl, by rw [hU], by rw [hU]; exact hPc, va_K.moved hW.alike hK, hDc.weaken (fun _ _ _ _ => trivial)⟩⟩ rfl rfl hl.1 rfl (lv_room (Nat.le_of_ble_eq_true rfl)) dX1_copyRow_32 ⟨Nat.le_of_ble_eq_true rfl, Nat.le_of_ble_eq_true rfl⟩) hS (fun q _ h => hFc q h) hFc (fun  u t H1 locs ht hvm hw hB hz1 hk1 hS => ?_)
  obtain ⟨hP1, hK1, hD1⟩ := hB
  rw [ht] at hP1
  obtain ⟨hP, hD⟩ := va_join (wr := []) (w1 := [(aR, .inr (1, [.ref aRF, .ref aRT, .ref aRN, .ref aRL, .ref aRU, .int (nI cnt)])), (aRF, .inl (cyI, 20, .inl (fun j_ => nI ((updN F d (F k)) j_)))), (aRT, .inl (cyI, 20, .inl (fun j_ => nI ((updN T d (T k)) j_)))), (aRN, .inl (cyI, 20, .inl (upd nm d (nm k)))), (aRL, .inl (cyI, 20, .inl (upd lo d (lo k)))), (aRU, .inl (cyI, 20, .inl (upd up d (up k))))]) hP hD [0, 1, 2, 3, 4, 5] [] rfl rfl (by decide) (by decide) hk1 hFc hP1 hD1
  clear hP1 hD1 hK1 hPc hDc hFc hk1 hz1 hvm ht u t
  generalize H1 = H at hP hS ⊢
  have hP : va_P (dC, dI) vwCl [(aR, .inr (1, [.ref aRF, .ref aRT, .ref aRN, .ref aRL, .ref aRU, .int (nI cnt)])), (aRF, .inl (cyI, 20, .inl (fun j_ => nI ((updN F d (F k)) j_)))), (aRT, .inl (cyI, 20, .inl (fun j_ => nI ((updN T d (T k)) j_)))), (aRN, .inl (cyI, 20, .inl (upd nm d (nm k)))), (aRL, .inl (cyI, 20, .inl (upd lo d (lo k)))), (aRU, .inl (cyI, 20, .inl (upd up d (up k))))] H := hP
  have hD : va_D A [(aR, .inr (1, [.ref aRF, .ref aRT, .ref aRN, .ref aRL, .ref aRU, .int (nI cnt)])), (aRF, .inl (cyI, 20, .inl (fun j_ => nI ((updN F d (F k)) j_)))), (aRT, .inl (cyI, 20, .inl (fun j_ => nI ((updN T d (T k)) j_)))), (aRN, .inl (cyI, 20, .inl (upd nm d (nm k)))), (aRL, .inl (cyI, 20, .inl (upd lo d (lo k)))), (aRU, .inl (cyI, 20, .inl (upd up d (up k))))] := hD
  have hP9 : va_P (dC, dI) vwCl [(aR, .inr (1, [.ref aRF, .ref aRT, .ref aRN, .ref aRL, .ref aRU, .int (nI cnt)])), (aRF, .inl (cyI, 20, .inl (fun j_ => nI ((updN F d (F k)) j_)))), (aRT, .inl (cyI, 20, .inl (fun j_ => nI ((updN T d (T k)) j_)))), (aRN, .inl (cyI, 20, .inl (upd nm d (nm k)))), (aRL, .inl (cyI, 20, .inl (upd lo d (lo k)))), (aRU, .inl (cyI, 20, .inl (upd up d (up k))))] H := by exact hP.sub [0, 1, 2, 3, 4, 5] rfl
  have hD9 : va_D A [(aR, .inr (1, [.ref aRF, .ref aRT, .ref aRN, .ref aRL, .ref aRU, .int (nI cnt)])), (aRF, .inl (cyI, 20, .inl (fun j_ => nI ((updN F d (F k)) j_)))), (aRT, .inl (cyI, 20, .inl (fun j_ => nI ((updN T d (T k)) j_)))), (aRN, .inl (cyI, 20, .inl (upd nm d (nm k)))), (aRL, .inl (cyI, 20, .inl (upd lo d (lo k)))), (aRU, .inl (cyI, 20, .inl (upd up d (up k))))] := by exact hD.sub [0, 1, 2, 3, 4, 5] (by decide) rfl
  subst hAe
  subst hQe
  exact W.vret hx hb hr (fun t ht hW => ⟨⟨(), rfl, trivial, by rw [ht]; exact hP9, va_K.moved hW.alike hK, hD9⟩, hS.F ht⟩) hS.2.2 dX1_copyRow_35
set_option maxHeartbeats 4000000 in
set_option maxRecDepth 100000 in
theorem c_X2_movePart (l : Launch) (dC : Nat → ClassId) (dI : Nat → Nat → Nat) (cyI cyZ cyJ cyD : ClassId) (aD aR aDL aDD : Nat) (zH : Nat) (n : Nat) (P : Nat → Nat) (o : Nat) (w : Nat) (hn : n ≤ 12) (ho : o < 12) (hw : w < 12) (hP12 : ∀ i_q, i_q < n → P i_q < 12) : Met l yX2_movePart wsX2_movePart ({ frames := 0, cells := 0, slots := 0, locals := 0 } : Room) (va_Pc [.ref aD, .int (nI o), .int (nI w)] (fun U => U.heap.size = zH ∧ va_P (dC, dI) vwCl [(aD, .inr (2, [.ref aR, .ref aDL, .ref aDD, .int (nI n)])), (aDL, .inl (cyI, 12, .inl (fun j_ => nI (P j_))))] U.heap ∧ va_K (dC, dI) vwCl [(cyI, .int), (cyZ, .boolean), (cyJ, .long), (cyD, .double)] U ∧ va_D (fun _ => True) [(aD, .inr (2, [.ref aR, .ref aDL, .ref aDD, .int (nI n)])), (aDL, .inl (cyI, 12, .inl (fun j_ => nI (P j_))))])) (va_Qv (fun _ : Unit => True) (fun _ t => va_P (dC, dI) vwCl [(aD, .inr (2, [.ref aR, .ref aDL, .ref aDD, .int (nI n)])), (aDL, .inl (cyI, 12, .inl (fun j_ => nI ((mvP P o w n) j_))))] t.heap ∧ va_K (dC, dI) vwCl [(cyI, .int), (cyZ, .boolean), (cyJ, .long), (cyD, .double)] t ∧ va_D (va_A [(aD, .inr (2, [.ref aR, .ref aDL, .ref aDD, .int (nI n)])), (aDL, .inl (cyI, 12, .inl (fun j_ => nI (P j_))))] zH) [(aD, .inr (2, [.ref aR, .ref aDL, .ref aDD, .int (nI n)])), (aDL, .inl (cyI, 12, .inl (fun j_ => nI ((mvP P o w n) j_))))]) (va_A [(aD, .inr (2, [.ref aR, .ref aDL, .ref aDD, .int (nI n)])), (aDL, .inl (cyI, 12, .inl (fun j_ => nI (P j_))))] zH)) 0 0 (va_A [(aD, .inr (2, [.ref aR, .ref aDL, .ref aDD, .int (nI n)])), (aDL, .inl (cyI, 12, .inl (fun j_ => nI (P j_))))] zH) := by
  refine Met.ofW (cc := cX2_movePart) (maxL := 4) (ret := none) (by decide) rfl ?_
  intro pM eM s mM args blM mtM cM s₁ BM hml hv
  obtain ⟨rfl, hsz, hP, hK, hD0⟩ := hv
  have hx := BM.exec
  have hb := BM.bytes
  have hr := BM.returns
  have hts := atoms_spec (ws := wsX2_movePart) BM.pre
  have hown : s.vm.findClass RX2 = some mM.cls := findClass_of_methodNamed BM.named
  have hlocks := BM.notSynchronized
  have w0 := hts (.fieldLink RX2 30 "DimensionChecker$Drawing" "faces" "I") (by decide +kernel)
  have w1 := hts (.fieldLink RX2 18 "DimensionChecker$Drawing" "lowestFace" "[I") (by decide +kernel)
  have iX2 : ∀ w ∈ wsX20, w ∈ wsX2_movePart := by decide +kernel
  subst hsz
  have hD := hD0.self (sz := s.heap.size)
  obtain ⟨Q, hQe⟩ : ∃ Q : State → Prop, Q = MQ blM (va_Qv (fun _ : Unit => True) (fun _ t => va_P (dC, dI) vwCl [(aD, .inr (2, [.ref aR, .ref aDL, .ref aDD, .int (nI n)])), (aDL, .inl (cyI, 12, .inl (fun j_ => nI ((mvP P o w n) j_))))] t.heap ∧ va_K (dC, dI) vwCl [(cyI, .int), (cyZ, .boolean), (cyJ, .long), (cyD, .double)] t ∧ va_D (va_A [(aD, .inr (2, [.ref aR, .ref aDL, .ref aDD, .int (nI n)])), (aDL, .inl (cyI, 12, .inl (fun j_ => nI (P j_))))] s.heap.size) [(aD, .inr (2, [.ref aR, .ref aDL, .ref aDD, .int (nI n)])), (aDL, .inl (cyI, 12, .inl (fun j_ => nI ((mvP P o w n) j_))))]) (va_A [(aD, .inr (2, [.ref aR, .ref aDL, .ref aDD, .int (nI n)])), (aDL, .inl (cyI, 12, .inl (fun j_ => nI (P j_))))] s.heap.size)) ([.ref aD, .int (nI o), .int (nI w)] : List Value).toArray s 0 0 (va_A [(aD, .inr (2, [.ref aR, .ref aDL, .ref aDD, .int (nI n)])), (aDL, .inl (cyI, 12, .inl (fun j_ => nI (P j_))))] s.heap.size) := ⟨_, rfl⟩
  rw [← hQe]
  generalize hAe : va_A [(aD, .inr (2, [.ref aR, .ref aDL, .ref aDD, .int (nI n)])), (aDL, .inl (cyI, 12, .inl (fun j_ => nI (P j_))))] s.heap.size = A at hD hQe
  have hA : ∀ q : Nat, s.heap.size ≤ q → A q := fun q h => by rw [← hAe]; exact Or.inr h
  obtain ⟨H, hHe⟩ : ∃ H : Heap, H = s.heap := ⟨_, rfl⟩
  have hS : va_S A s.heap H [] := by rw [hHe]; exact va_S.rf
  rw [← hHe] at hP ⊢
  have hl := lv_entry ([.ref aD, .int (nI o), .int (nI w)]) (n := 4) (Nat.le_of_ble_eq_true rfl)
  rw [lg_entry_eq]
  generalize (lg_sl ([.ref aD, .int (nI o), .int (nI w)]) ++ List.replicate (4 - (lg_sl ([.ref aD, .int (nI o), .int (nI w)])).length) Slot.unset).toArray = ls at hl ⊢
  have hl : lv_has ls 4 [(0, .ref aD), (1, .int (nI o)), (2, .int (nI w))] := hl
  refine lv_iconst (v := 0) hx hb dX2_movePart_0 (by decide) ?_
  refine lv_istore_n (lv' := [(3, .int 0), (0, .ref aD), (1, .int (nI o)), (2, .int (nI w))]) hx hb dX2_movePart_1 rfl hl (by decide) rfl (fun ls hl => ?_)
  have k2 : ∀ (fuel : Nat) (i : Nat) (hfuel : n - i < fuel) (hi : i ≤ n) (H : Heap) (locs : List Loc) (ls : Array Slot), va_P (dC, dI) vwCl [(aD, .inr (2, [.ref aR, .ref aDL, .ref aDD, .int (nI n)])), (aDL, .inl (cyI, 12, .inl (fun j_ => nI ((mvP P o w i) j_))))] H → va_D A [(aD, .inr (2, [.ref aR, .ref aDL, .ref aDD, .int (nI n)])), (aDL, .inl (cyI, 12, .inl (fun j_ => nI ((mvP P o w i) j_))))] → va_S A s.heap H locs → lv_has ls 4 [(0, .ref aD), (1, .int (nI o)), (2, .int (nI w)), (3, .int (nI i))] → W pM l eM (headSpec wsX2_movePart ({ frames := 0, cells := 0, slots := 0, locals := 0 } : Room)).room s mM ([.ref aD, .int (nI o), .int (nI w)] : List Value).toArray blM mtM cM H locs 0 0 Q (F0 mM 2 ls []) := by
    intro fuel
    induction fuel with
    | zero => intro i hfuel; exact absurd hfuel (Nat.not_lt_zero _)
    | succ fuel ih2 =>
      intro i hfuel hi H locs ls hP hD hS hl
      refine lv_iload_n hx hb dX2_movePart_2 rfl (lv_at hl 3 rfl) ?_
      refine lv_aload_n hx hb dX2_movePart_3 rfl (lv_at hl 0 rfl) ?_
      refine va_get (D := (dC, dI)) (ci := 2) (v := .int (nI n)) (C := RX2) (T := TX2) (N := 4) hx hb hts iX2 hown hK hP 0 rfl rfl 3 (by decide) w0 (fun _ h9 => h9) rfl dX2_movePart_4 ?_
      refine lv_icmp_ge (tgt := 33) hx hb dX2_movePart_7 (by decide) (fun c7 => ?_) (fun c7 => ?_)
      · have c7 := n_le (a := n) (b := i) (by omega) (by omega) c7
        have q1 : (mvP P o w n) = (mvP P o w i) := by rw [show i = n by omega]
        have hP9 : va_P (dC, dI) vwCl [(aD, .inr (2, [.ref aR, .ref aDL, .ref aDD, .int (nI n)])), (aDL, .inl (cyI, 12, .inl (fun j_ => nI ((mvP P o w n) j_))))] H := by first | (rw [q1]; exact hP.sub [0, 1] rfl) | (simp only [q1]; exact hP.sub [0, 1] rfl) | exact hP.sub [0, 1] rfl
        have hD9 : va_D A [(aD, .inr (2, [.ref aR, .ref aDL, .ref aDD, .int (nI n)])), (aDL, .inl (cyI, 12, .inl (fun j_ => nI ((mvP P o w n) j_))))] := by first | (rw [q1]; exact hD.sub [0, 1] (by decide) rfl) | (simp only [q1]; exact hD.sub [0, 1] (by decide) rfl) | exact hD.sub [0, 1] (by decide) rfl
        subst hAe
        subst hQe
        exact W.vret hx hb hr (fun t ht hW => ⟨⟨(), rfl, trivial, by rw [ht]; exact hP9, va_K.moved hW.alike hK, hD9⟩, hS.F ht⟩) hS.2.2 dX2_movePart_33
      · have c7 := n_nle (a := n) (b := i) (by omega) (by omega) c7
        have hb1 := mvP_lt (w := w) (o := o) (i := i) hP12 hw i c7
        refine lv_aload_n hx hb dX2_movePart_10 rfl (lv_at hl 0 rfl) ?_
        refine va_get (D := (dC, dI)) (ci := 2) (v := .ref aDL) (C := RX2) (T := TX2) (N := 4) hx hb hts iX2 hown hK hP 0 rfl rfl 1 (by decide) w1 (fun _ h9 => h9) rfl dX2_movePart_11 ?_
        refine lv_iload_n hx hb dX2_movePart_14 rfl (lv_at hl 3 rfl) ?_
        have h2 : vp_in (nI i) 12 := by first | exact vp_in_nI (by omega) (by omega) | assumption
        refine va_iald hx hb hK hP 1 0 rfl rfl h2 dX2_movePart_15 ?_
        refine lv_topi (fun x3 e4 => ?_)
        obtain rfl : x3 = (nI ((mvP P o w i) i)) := by rw [e4, nI_clamp (by omega)]
        clear e4
        refine lv_iload_n hx hb dX2_movePart_16 rfl (lv_at hl 1 rfl) ?_
        refine lv_icmp_ne (tgt := 27) hx hb dX2_movePart_17 (by decide) (fun c17 => ?_) (fun c17 => ?_)
        · have c17 := n_ne (a := (mvP P o w i) i) (b := o) (by omega) (by omega) c17
          refine lv_iinc (v := nI (i + 1)) (lv' := [(3, .int (nI (i + 1))), (0, .ref aD), (1, .int (nI o)), (2, .int (nI w))]) hx hb dX2_movePart_27 hl (k := 3) rfl (nI_add i 1) (by decide) rfl (fun ls hl => ?_)
          refine lv_goto (tgt := 2) hx hb dX2_movePart_30 (by decide) ?_
          have q5 : (mvP P o w (i + 1)) = (mvP P o w i) := by simp only [mvP, *, if_true, if_false]
          exact ih2 (i + 1) (by omega) (by first | assumption | omega) _ _ _ (by first | (rw [q5]; exact hP) | (simp only [q5]; exact hP) | exact hP) (by first | (rw [q5]; exact hD) | (simp only [q5]; exact hD) | exact hD) hS (lv_sub hl [1, 2, 3, 0] rfl)
        · have c17 := n_eq (a := (mvP P o w i) i) (b := o) (by omega) (by omega) c17
          refine lv_aload_n hx hb dX2_movePart_20 rfl (lv_at hl 0 rfl) ?_
          refine va_get (D := (dC, dI)) (ci := 2) (v := .ref aDL) (C := RX2) (T := TX2) (N := 4) hx hb hts iX2 hown hK hP 0 rfl rfl 1 (by decide) w1 (fun _ h9 => h9) rfl dX2_movePart_21 ?_
          refine lv_iload_n hx hb dX2_movePart_24 rfl (lv_at hl 3 rfl) ?_
          refine lv_iload_n hx hb dX2_movePart_25 rfl (lv_at hl 2 rfl) ?_
          have h6 : vp_in (nI i) 12 := by first | exact vp_in_nI (by omega) (by omega) | assumption
          refine va_iast hx hb hK hP hD hS 1 0 rfl rfl h6 dX2_movePart_26 (fun H locs hP hD hS => ?_)
          rw [nI_clamp (by omega)] at hP hD
          have ub : upd (fun j_ => nI ((mvP P o w i) j_)) i (nI w) = (fun j_ => nI ((updN (mvP P o w i) i w) j_)) := updN_z _ _ _
          have hP : va_P (dC, dI) vwCl [(aD, .inr (2, [.ref aR, .ref aDL, .ref aDD, .int (nI n)])), (aDL, .inl (cyI, 12, .inl (fun j_ => nI ((updN (mvP P o w i) i w) j_))))] H := by rw [← ub]; exact hP
          have hD : va_D A [(aD, .inr (2, [.ref aR, .ref aDL, .ref aDD, .int (nI n)])), (aDL, .inl (cyI, 12, .inl (fun j_ => nI ((updN (mvP P o w i) i w) j_))))] := by rw [← ub]; exact hD
          refine lv_iinc (v := nI (i + 1)) (lv' := [(3, .int (nI (i + 1))), (0, .ref aD), (1, .int (nI o)), (2, .int (nI w))]) hx hb dX2_movePart_27 hl (k := 3) rfl (nI_add i 1) (by decide) rfl (fun ls hl => ?_)
          refine lv_goto (tgt := 2) hx hb dX2_movePart_30 (by decide) ?_
          have q7 : (mvP P o w (i + 1)) = (updN (mvP P o w i) i w) := by simp only [mvP, *, if_true, if_false]
          exact ih2 (i + 1) (by omega) (by first | assumption | omega) _ _ _ (by first | (rw [q7]; exact hP) | (simp only [q7]; exact hP) | exact hP) (by first | (rw [q7]; exact hD) | (simp only [q7]; exact hD) | exact hD) hS (lv_sub hl [1, 2, 3, 0] rfl)
  have q8 : (mvP P o w 0) = P := by rfl
  have q9 : (nI 0) = 0 := by first | rfl | simp [*] | (simp only [*]; done)
  exact k2 (n - 0 + 1) 0 (Nat.lt_succ_self _) (by first | assumption | omega) _ _ _ (by first | (rw [q8]; exact hP) | (simp only [q8]; exact hP) | exact hP) (by first | (rw [q8]; exact hD) | (simp only [q8]; exact hD) | exact hD) hS (by first | (rw [q9]; exact lv_sub hl [1, 2, 3, 0] rfl) | (simp only [q9]; exact lv_sub hl [1, 2, 3, 0] rfl) | exact lv_sub hl [1, 2, 3, 0] rfl)
set_option maxHeartbeats 4000000 in
set_option maxRecDepth 100000 in
theorem c_X2_partCount (l : Launch) (dC : Nat → ClassId) (dI : Nat → Nat → Nat) (cyI cyZ cyJ cyD : ClassId) (aD aR aDL aDD : Nat) (zH : Nat) (n : Nat) (P : Nat → Nat) (hn : n ≤ 12) (hP12 : ∀ i_q, i_q < n → P i_q < 12) : Met l yX2_partCount wsX2_partCount ({ frames := 0, cells := 0, slots := 0, locals := 0 } : Room) (va_Pc [.ref aD] (fun U => U.heap.size = zH ∧ va_P (dC, dI) vwCl [(aD, .inr (2, [.ref aR, .ref aDL, .ref aDD, .int (nI n)])), (aDL, .inl (cyI, 12, .inl (fun j_ => nI (P j_))))] U.heap ∧ va_K (dC, dI) vwCl [(cyI, .int), (cyZ, .boolean), (cyJ, .long), (cyD, .double)] U ∧ va_D (fun _ => True) [(aD, .inr (2, [.ref aR, .ref aDL, .ref aDD, .int (nI n)])), (aDL, .inl (cyI, 12, .inl (fun j_ => nI (P j_))))])) (va_Qi (fun (r : Int32) (_ : Unit) => r = nI (pcN P n)) (fun _ t => va_P (dC, dI) vwCl [(aD, .inr (2, [.ref aR, .ref aDL, .ref aDD, .int (nI n)])), (aDL, .inl (cyI, 12, .inl (fun j_ => nI (P j_))))] t.heap ∧ va_K (dC, dI) vwCl [(cyI, .int), (cyZ, .boolean), (cyJ, .long), (cyD, .double)] t ∧ va_D (va_A [(aD, .inr (2, [.ref aR, .ref aDL, .ref aDD, .int (nI n)])), (aDL, .inl (cyI, 12, .inl (fun j_ => nI (P j_))))] zH) [(aD, .inr (2, [.ref aR, .ref aDL, .ref aDD, .int (nI n)])), (aDL, .inl (cyI, 12, .inl (fun j_ => nI (P j_))))]) (va_A [(aD, .inr (2, [.ref aR, .ref aDL, .ref aDD, .int (nI n)])), (aDL, .inl (cyI, 12, .inl (fun j_ => nI (P j_))))] zH)) 0 0 (va_A [(aD, .inr (2, [.ref aR, .ref aDL, .ref aDD, .int (nI n)])), (aDL, .inl (cyI, 12, .inl (fun j_ => nI (P j_))))] zH) := by
  refine Met.ofW (cc := cX2_partCount) (maxL := 3) (ret := (some .int)) (by decide) rfl ?_
  intro pM eM s mM args blM mtM cM s₁ BM hml hv
  obtain ⟨rfl, hsz, hP, hK, hD0⟩ := hv
  have hx := BM.exec
  have hb := BM.bytes
  have hr := BM.returns
  have hts := atoms_spec (ws := wsX2_partCount) BM.pre
  have hown : s.vm.findClass RX2 = some mM.cls := findClass_of_methodNamed BM.named
  have hlocks := BM.notSynchronized
  have w0 := hts (.fieldLink RX2 30 "DimensionChecker$Drawing" "faces" "I") (by decide +kernel)
  have w1 := hts (.fieldLink RX2 18 "DimensionChecker$Drawing" "lowestFace" "[I") (by decide +kernel)
  have iX2 : ∀ w ∈ wsX20, w ∈ wsX2_partCount := by decide +kernel
  subst hsz
  have hD := hD0.self (sz := s.heap.size)
  obtain ⟨Q, hQe⟩ : ∃ Q : State → Prop, Q = MQ blM (va_Qi (fun (r : Int32) (_ : Unit) => r = nI (pcN P n)) (fun _ t => va_P (dC, dI) vwCl [(aD, .inr (2, [.ref aR, .ref aDL, .ref aDD, .int (nI n)])), (aDL, .inl (cyI, 12, .inl (fun j_ => nI (P j_))))] t.heap ∧ va_K (dC, dI) vwCl [(cyI, .int), (cyZ, .boolean), (cyJ, .long), (cyD, .double)] t ∧ va_D (va_A [(aD, .inr (2, [.ref aR, .ref aDL, .ref aDD, .int (nI n)])), (aDL, .inl (cyI, 12, .inl (fun j_ => nI (P j_))))] s.heap.size) [(aD, .inr (2, [.ref aR, .ref aDL, .ref aDD, .int (nI n)])), (aDL, .inl (cyI, 12, .inl (fun j_ => nI (P j_))))]) (va_A [(aD, .inr (2, [.ref aR, .ref aDL, .ref aDD, .int (nI n)])), (aDL, .inl (cyI, 12, .inl (fun j_ => nI (P j_))))] s.heap.size)) ([.ref aD] : List Value).toArray s 0 0 (va_A [(aD, .inr (2, [.ref aR, .ref aDL, .ref aDD, .int (nI n)])), (aDL, .inl (cyI, 12, .inl (fun j_ => nI (P j_))))] s.heap.size) := ⟨_, rfl⟩
  rw [← hQe]
  generalize hAe : va_A [(aD, .inr (2, [.ref aR, .ref aDL, .ref aDD, .int (nI n)])), (aDL, .inl (cyI, 12, .inl (fun j_ => nI (P j_))))] s.heap.size = A at hD hQe
  have hA : ∀ q : Nat, s.heap.size ≤ q → A q := fun q h => by rw [← hAe]; exact Or.inr h
  obtain ⟨H, hHe⟩ : ∃ H : Heap, H = s.heap := ⟨_, rfl⟩
  have hS : va_S A s.heap H [] := by rw [hHe]; exact va_S.rf
  rw [← hHe] at hP ⊢
  have hl := lv_entry ([.ref aD]) (n := 3) (Nat.le_of_ble_eq_true rfl)
  rw [lg_entry_eq]
  generalize (lg_sl ([.ref aD]) ++ List.replicate (3 - (lg_sl ([.ref aD])).length) Slot.unset).toArray = ls at hl ⊢
  have hl : lv_has ls 3 [(0, .ref aD)] := hl
  refine lv_iconst (v := 0) hx hb dX2_partCount_0 (by decide) ?_
  refine lv_istore_n (lv' := [(1, .int 0), (0, .ref aD)]) hx hb dX2_partCount_1 rfl hl (by decide) rfl (fun ls hl => ?_)
  refine lv_iconst (v := 0) hx hb dX2_partCount_2 (by decide) ?_
  refine lv_istore_n (lv' := [(2, .int 0), (1, .int 0), (0, .ref aD)]) hx hb dX2_partCount_3 rfl hl (by decide) rfl (fun ls hl => ?_)
  have k4 : ∀ (fuel : Nat) (i : Nat) (hfuel : n - i < fuel) (hi : i ≤ n) (H : Heap) (locs : List Loc) (ls : Array Slot), va_P (dC, dI) vwCl [(aD, .inr (2, [.ref aR, .ref aDL, .ref aDD, .int (nI n)])), (aDL, .inl (cyI, 12, .inl (fun j_ => nI (P j_))))] H → va_D A [(aD, .inr (2, [.ref aR, .ref aDL, .ref aDD, .int (nI n)])), (aDL, .inl (cyI, 12, .inl (fun j_ => nI (P j_))))] → va_S A s.heap H locs → lv_has ls 3 [(0, .ref aD), (1, .int (nI (pcN P i))), (2, .int (nI i))] → W pM l eM (headSpec wsX2_partCount ({ frames := 0, cells := 0, slots := 0, locals := 0 } : Room)).room s mM ([.ref aD] : List Value).toArray blM mtM cM H locs 0 0 Q (F0 mM 4 ls []) := by
    intro fuel
    induction fuel with
    | zero => intro i hfuel; exact absurd hfuel (Nat.not_lt_zero _)
    | succ fuel ih4 =>
      intro i hfuel hi H locs ls hP hD hS hl
      refine lv_iload_n hx hb dX2_partCount_4 rfl (lv_at hl 2 rfl) ?_
      refine lv_aload_n hx hb dX2_partCount_5 rfl (lv_at hl 0 rfl) ?_
      refine va_get (D := (dC, dI)) (ci := 2) (v := .int (nI n)) (C := RX2) (T := TX2) (N := 4) hx hb hts iX2 hown hK hP 0 rfl rfl 3 (by decide) w0 (fun _ h9 => h9) rfl dX2_partCount_6 ?_
      refine lv_icmp_ge (tgt := 31) hx hb dX2_partCount_9 (by decide) (fun c9 => ?_) (fun c9 => ?_)
      · have c9 := n_le (a := n) (b := i) (by omega) (by omega) c9
        refine lv_iload_n hx hb dX2_partCount_31 rfl (lv_at hl 1 rfl) ?_
        have r1 : (nI (pcN P i)) = (nI (pcN P n)) := by rw [show i = n by omega]
        have hP9 : va_P (dC, dI) vwCl [(aD, .inr (2, [.ref aR, .ref aDL, .ref aDD, .int (nI n)])), (aDL, .inl (cyI, 12, .inl (fun j_ => nI (P j_))))] H := by exact hP.sub [0, 1] rfl
        have hD9 : va_D A [(aD, .inr (2, [.ref aR, .ref aDL, .ref aDD, .int (nI n)])), (aDL, .inl (cyI, 12, .inl (fun j_ => nI (P j_))))] := by exact hD.sub [0, 1] (by decide) rfl
        subst hAe
        subst hQe
        exact W.iret (v := nI (pcN P i)) hx hb hr (fun t ht hW => ⟨⟨_, (), rfl, r1, by rw [ht]; exact hP9, va_K.moved hW.alike hK, hD9⟩, hS.F ht⟩) hS.2.2 dX2_partCount_32
      · have c9 := n_nle (a := n) (b := i) (by omega) (by omega) c9
        have hb1 := hP12 i c9
        have hb2 := pcN_le P i
        refine lv_aload_n hx hb dX2_partCount_12 rfl (lv_at hl 0 rfl) ?_
        refine va_get (D := (dC, dI)) (ci := 2) (v := .ref aDL) (C := RX2) (T := TX2) (N := 4) hx hb hts iX2 hown hK hP 0 rfl rfl 1 (by decide) w1 (fun _ h9 => h9) rfl dX2_partCount_13 ?_
        refine lv_iload_n hx hb dX2_partCount_16 rfl (lv_at hl 2 rfl) ?_
        have h2 : vp_in (nI i) 12 := by first | exact vp_in_nI (by omega) (by omega) | assumption
        refine va_iald hx hb hK hP 1 0 rfl rfl h2 dX2_partCount_17 ?_
        refine lv_topi (fun x3 e4 => ?_)
        obtain rfl : x3 = (nI (P i)) := by rw [e4, nI_clamp (by omega)]
        clear e4
        refine lv_iload_n hx hb dX2_partCount_18 rfl (lv_at hl 2 rfl) ?_
        refine lv_icmp_ne (tgt := 25) hx hb dX2_partCount_19 (by decide) (fun c19 => ?_) (fun c19 => ?_)
        · have c19 := n_ne (a := P i) (b := i) (by omega) (by omega) c19
          refine lv_iinc (v := nI (i + 1)) (lv' := [(2, .int (nI (i + 1))), (0, .ref aD), (1, .int (nI (pcN P i)))]) hx hb dX2_partCount_25 hl (k := 2) rfl (nI_add i 1) (by decide) rfl (fun ls hl => ?_)
          refine lv_goto (tgt := 4) hx hb dX2_partCount_28 (by decide) ?_
          have q5 : (nI (pcN P (i + 1))) = (nI (pcN P i)) := by simp only [pcN, *, if_true, if_false]
          exact ih4 (i + 1) (by omega) (by first | assumption | omega) _ _ _ (hP) (hD) hS (by first | (rw [q5]; exact lv_sub hl [1, 2, 0] rfl) | (simp only [q5]; exact lv_sub hl [1, 2, 0] rfl) | exact lv_sub hl [1, 2, 0] rfl)
        · have c19 := n_eq (a := P i) (b := i) (by omega) (by omega) c19
          refine lv_iinc (v := nI (pcN P i + 1)) (lv' := [(1, .int (nI (pcN P i + 1))), (0, .ref aD), (2, .int (nI i))]) hx hb dX2_partCount_22 hl (k := 1) rfl (nI_add (pcN P i) 1) (by decide) rfl (fun ls hl => ?_)
          refine lv_iinc (v := nI (i + 1)) (lv' := [(2, .int (nI (i + 1))), (1, .int (nI (pcN P i + 1))), (0, .ref aD)]) hx hb dX2_partCount_25 hl (k := 2) rfl (nI_add i 1) (by decide) rfl (fun ls hl => ?_)
          refine lv_goto (tgt := 4) hx hb dX2_partCount_28 (by decide) ?_
          have q6 : (nI (pcN P (i + 1))) = (nI (pcN P i + 1)) := by simp only [pcN, *, if_true, if_false]
          exact ih4 (i + 1) (by omega) (by first | assumption | omega) _ _ _ (hP) (hD) hS (by first | (rw [q6]; exact lv_sub hl [2, 1, 0] rfl) | (simp only [q6]; exact lv_sub hl [2, 1, 0] rfl) | exact lv_sub hl [2, 1, 0] rfl)
  have q7 : (nI (pcN P 0)) = 0 := by rfl
  have q8 : (nI 0) = 0 := by first | rfl | simp [*] | (simp only [*]; done)
  exact k4 (n - 0 + 1) 0 (Nat.lt_succ_self _) (by first | assumption | omega) _ _ _ (hP) (hD) hS (by first | (rw [q7, q8]; exact lv_sub hl [2, 1, 0] rfl) | (simp only [q7, q8]; exact lv_sub hl [2, 1, 0] rfl) | exact lv_sub hl [2, 1, 0] rfl)
