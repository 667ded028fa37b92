
theorem nomB_yes {x : Int32} (h1 : -99999 ≤ x) (h2 : x ≤ 99999) : nomB x = true := by
  unfold nomB wtn
  simp [h1, h2]
theorem nomB_no {x : Int32} (h : ¬ (-99999 ≤ x ∧ x ≤ 99999)) : nomB x = false := by
  cases e : nomB x with
  | false => rfl
  | true =>
    unfold nomB wtn at e
    simp at e
    exact absurd e h

set_option maxHeartbeats 4000000 in
set_option maxRecDepth 100000 in
theorem c_X6_mix (l : Launch) (dC : Nat → ClassId) (dI : Nat → Nat → Nat) (cyI cyZ cyJ cyD : ClassId) (zH : Nat) (x : Int64) (y : Int64) : Met l yX6_mix wsX6_mix ({ frames := 0, cells := 0, slots := 0, locals := 0 } : Room) (va_Pc [.long x, .long y] (fun U => U.heap.size = zH ∧ va_P (dC, dI) vwCl [] U.heap ∧ va_K (dC, dI) vwCl [(cyI, .int), (cyZ, .boolean), (cyJ, .long), (cyD, .double)] U ∧ va_D (fun _ => True) [])) (va_Ql (fun (r : Int64) (_ : Unit) => r = 31 * x + y) (fun _ t => va_P (dC, dI) vwCl [] t.heap ∧ va_K (dC, dI) vwCl [(cyI, .int), (cyZ, .boolean), (cyJ, .long), (cyD, .double)] t ∧ va_D (va_A [] zH) []) (va_A [] zH)) 0 0 (va_A [] zH) := by
  refine Met.ofW (cc := cX6_mix) (maxL := 4) (ret := (some .long)) (by decide) rfl ?_
  intro pM eM s mM args blM mtM cM s₁ BM hml hv
  obtain ⟨rfl, hsz, hP, hK, hD0⟩ := hv
  have hx := BM.exec
  have hb := BM.bytes
  have hr := BM.returns
  have hts := atoms_spec (ws := wsX6_mix) BM.pre
  have hown : s.vm.findClass RX6 = some mM.cls := findClass_of_methodNamed BM.named
  have hlocks := BM.notSynchronized
  have w0 := hts (.constantLong RX6 308 (31)) (by decide +kernel)
  subst hsz
  have hD := hD0.self (sz := s.heap.size)
  obtain ⟨Q, hQe⟩ : ∃ Q : State → Prop, Q = MQ blM (va_Ql (fun (r : Int64) (_ : Unit) => r = 31 * x + y) (fun _ t => va_P (dC, dI) vwCl [] t.heap ∧ va_K (dC, dI) vwCl [(cyI, .int), (cyZ, .boolean), (cyJ, .long), (cyD, .double)] t ∧ va_D (va_A [] s.heap.size) []) (va_A [] s.heap.size)) ([.long x, .long y] : List Value).toArray s 0 0 (va_A [] s.heap.size) := ⟨_, rfl⟩
  rw [← hQe]
  generalize hAe : va_A [] s.heap.size = A at hD hQe
  have hA : ∀ q : Nat, s.heap.size ≤ q → A q := fun q h => by rw [← hAe]; exact Or.inr h
  obtain ⟨H, hHe⟩ : ∃ H : Heap, H = s.heap := ⟨_, rfl⟩
  have hS : va_S A s.heap H [] := by rw [hHe]; exact va_S.rf
  rw [← hHe] at hP ⊢
  have hl := lv_entry ([.long x, .long y]) (n := 4) (Nat.le_of_ble_eq_true rfl)
  rw [lg_entry_eq]
  generalize (lg_sl ([.long x, .long y]) ++ List.replicate (4 - (lg_sl ([.long x, .long y])).length) Slot.unset).toArray = ls at hl ⊢
  have hl : lv_has ls 4 [(0, .long x), (2, .long y)] := hl
  refine lv_ldc2 (v := 31) hx hb hown w0 dX6_mix_0 ?_
  refine lv_lload_n hx hb dX6_mix_3 rfl (lv_at hl 0 rfl) ?_
  refine lv_lmul hx hb dX6_mix_4 ?_
  refine lv_lload_n hx hb dX6_mix_5 rfl (lv_at hl 1 rfl) ?_
  refine lv_ladd hx hb dX6_mix_6 ?_
  have r1 : ((31 * x) + y) = (31 * x + y) := by first | rfl | simp [*]
  have hP9 : va_P (dC, dI) vwCl [] H := by exact hP.sub [] rfl
  have hD9 : va_D A [] := by exact hD.sub [] (by decide) rfl
  rw [hQe]
  exact W.lret (v := (31 * x) + y) hx hb hr (fun t ht hW => ⟨⟨_, (), rfl, r1, by rw [ht]; exact hP9, va_K.moved hW.alike hK, hD9⟩, hS.F ht⟩) hS.2.2 dX6_mix_7
set_option maxHeartbeats 4000000 in
set_option maxRecDepth 100000 in
theorem c_X6_isNominal (l : Launch) (dC : Nat → ClassId) (dI : Nat → Nat → Nat) (cyI cyZ cyJ cyD : ClassId) (zH : Nat) (x : Int32) : Met l yX6_isNominal wsX6_isNominal ({ frames := 0, cells := 0, slots := 0, locals := 0 } : Room) (va_Pc [.int x] (fun U => U.heap.size = zH ∧ va_P (dC, dI) vwCl [] U.heap ∧ va_K (dC, dI) vwCl [(cyI, .int), (cyZ, .boolean), (cyJ, .long), (cyD, .double)] U ∧ va_D (fun _ => True) [])) (va_Qi (fun (r : Int32) (_ : Unit) => r = bI (nomB x)) (fun _ t => va_P (dC, dI) vwCl [] t.heap ∧ va_K (dC, dI) vwCl [(cyI, .int), (cyZ, .boolean), (cyJ, .long), (cyD, .double)] t ∧ va_D (va_A [] zH) []) (va_A [] zH)) 0 0 (va_A [] zH) := by
  refine Met.ofW (cc := cX6_isNominal) (maxL := 1) (ret := (some .boolean)) (by decide) rfl ?_
  intro pM eM s mM args blM mtM cM s₁ BM hml hv
  obtain ⟨rfl, hsz, hP, hK, hD0⟩ := hv
  have hx := BM.exec
  have hb := BM.bytes
  have hr := BM.returns
  have hts := atoms_spec (ws := wsX6_isNominal) BM.pre
  have hown : s.vm.findClass RX6 = some mM.cls := findClass_of_methodNamed BM.named
  have hlocks := BM.notSynchronized
  have w0 := hts (.constant RX6 289 (-99999)) (by decide +kernel)
  have w1 := hts (.constant RX6 290 (99999)) (by decide +kernel)
  subst hsz
  have hD := hD0.self (sz := s.heap.size)
  obtain ⟨Q, hQe⟩ : ∃ Q : State → Prop, Q = MQ blM (va_Qi (fun (r : Int32) (_ : Unit) => r = bI (nomB x)) (fun _ t => va_P (dC, dI) vwCl [] t.heap ∧ va_K (dC, dI) vwCl [(cyI, .int), (cyZ, .boolean), (cyJ, .long), (cyD, .double)] t ∧ va_D (va_A [] s.heap.size) []) (va_A [] s.heap.size)) ([.int x] : List Value).toArray s 0 0 (va_A [] s.heap.size) := ⟨_, rfl⟩
  rw [← hQe]
  generalize hAe : va_A [] s.heap.size = A at hD hQe
  have hA : ∀ q : Nat, s.heap.size ≤ q → A q := fun q h => by rw [← hAe]; exact Or.inr h
  obtain ⟨H, hHe⟩ : ∃ H : Heap, H = s.heap := ⟨_, rfl⟩
  have hS : va_S A s.heap H [] := by rw [hHe]; exact va_S.rf
  rw [← hHe] at hP ⊢
  have hl := lv_entry ([.int x]) (n := 1) (Nat.le_of_ble_eq_true rfl)
  rw [lg_entry_eq]
  generalize (lg_sl ([.int x]) ++ List.replicate (1 - (lg_sl ([.int x])).length) Slot.unset).toArray = ls at hl ⊢
  have hl : lv_has ls 1 [(0, .int x)] := hl
  refine lv_iload_n hx hb dX6_isNominal_0 rfl (lv_at hl 0 rfl) ?_
  refine lv_ldcw (v := (-99999)) hx hb hown w0 dX6_isNominal_1 ?_
  refine lv_icmp_lt (tgt := 18) hx hb dX6_isNominal_4 (by decide) (fun c4 => ?_) (fun c4 => ?_)
  · skip
    refine lv_iconst (v := 0) hx hb dX6_isNominal_18 (by decide) ?_
    have r1 : 0 = (bI (nomB x)) := by first | (rw [nomB_no (fun q => absurd q.1 (Int32.not_le.mpr c4))]; rfl) | (rw [nomB_no (fun q => absurd q.2 (Int32.not_le.mpr c11))]; rfl) | (rw [nomB_yes (Int32.not_lt.mp c4) (Int32.not_lt.mp c11)]; rfl) | (rw [nomB_yes c4 c11]; rfl)
    have hP9 : va_P (dC, dI) vwCl [] H := by exact hP.sub [] rfl
    have hD9 : va_D A [] := by exact hD.sub [] (by decide) rfl
    rw [hQe]
    exact W.zret (v := 0) hx hb hr rfl (fun t ht hW => ⟨⟨_, (), rfl, r1, by rw [ht]; exact hP9, va_K.moved hW.alike hK, hD9⟩, hS.F ht⟩) hS.2.2 dX6_isNominal_19
  · skip
    refine lv_iload_n hx hb dX6_isNominal_7 rfl (lv_at hl 0 rfl) ?_
    refine lv_ldcw (v := 99999) hx hb hown w1 dX6_isNominal_8 ?_
    refine lv_icmp_gt (tgt := 18) hx hb dX6_isNominal_11 (by decide) (fun c11 => ?_) (fun c11 => ?_)
    · skip
      refine lv_iconst (v := 0) hx hb dX6_isNominal_18 (by decide) ?_
      have r2 : 0 = (bI (nomB x)) := by first | (rw [nomB_no (fun q => absurd q.1 (Int32.not_le.mpr c4))]; rfl) | (rw [nomB_no (fun q => absurd q.2 (Int32.not_le.mpr c11))]; rfl) | (rw [nomB_yes (Int32.not_lt.mp c4) (Int32.not_lt.mp c11)]; rfl) | (rw [nomB_yes c4 c11]; rfl)
      have hP9 : va_P (dC, dI) vwCl [] H := by exact hP.sub [] rfl
      have hD9 : va_D A [] := by exact hD.sub [] (by decide) rfl
      rw [hQe]
      exact W.zret (v := 0) hx hb hr rfl (fun t ht hW => ⟨⟨_, (), rfl, r2, by rw [ht]; exact hP9, va_K.moved hW.alike hK, hD9⟩, hS.F ht⟩) hS.2.2 dX6_isNominal_19
    · skip
      refine lv_iconst (v := 1) hx hb dX6_isNominal_14 (by decide) ?_
      refine lv_goto (tgt := 19) hx hb dX6_isNominal_15 (by decide) ?_
      have r3 : 1 = (bI (nomB x)) := by first | (rw [nomB_no (fun q => absurd q.1 (Int32.not_le.mpr c4))]; rfl) | (rw [nomB_no (fun q => absurd q.2 (Int32.not_le.mpr c11))]; rfl) | (rw [nomB_yes (Int32.not_lt.mp c4) (Int32.not_lt.mp c11)]; rfl) | (rw [nomB_yes c4 c11]; rfl)
      have hP9 : va_P (dC, dI) vwCl [] H := by exact hP.sub [] rfl
      have hD9 : va_D A [] := by exact hD.sub [] (by decide) rfl
      rw [hQe]
      exact W.zret (v := 1) hx hb hr rfl (fun t ht hW => ⟨⟨_, (), rfl, r3, by rw [ht]; exact hP9, va_K.moved hW.alike hK, hD9⟩, hS.F ht⟩) hS.2.2 dX6_isNominal_19
set_option maxHeartbeats 4000000 in
set_option maxRecDepth 100000 in
theorem c_X6_dimensionCount (l : Launch) (dC : Nat → ClassId) (dI : Nat → Nat → Nat) (cyI cyZ cyJ cyD : ClassId) (aC aD aR aH aS aT aL aI aRF aRT aRN aRL aRU : Nat) (zH : Nat) (il : Nat) (cnt : Nat) : Met l yX6_dimensionCount wsX6_dimensionCount ({ frames := 0, cells := 0, slots := 0, locals := 0 } : Room) (va_Pc [.ref aC] (fun U => U.heap.size = zH ∧ va_P (dC, dI) vwCl [(aC, .inr (6, [.ref aD, .ref aR, .ref aH, .ref aS, .ref aT, .ref aL, .ref aI, .int (nI il)])), (aR, .inr (1, [.ref aRF, .ref aRT, .ref aRN, .ref aRL, .ref aRU, .int (nI cnt)]))] U.heap ∧ va_K (dC, dI) vwCl [(cyI, .int), (cyZ, .boolean), (cyJ, .long), (cyD, .double)] U ∧ va_D (fun _ => True) [(aC, .inr (6, [.ref aD, .ref aR, .ref aH, .ref aS, .ref aT, .ref aL, .ref aI, .int (nI il)])), (aR, .inr (1, [.ref aRF, .ref aRT, .ref aRN, .ref aRL, .ref aRU, .int (nI cnt)]))])) (va_Qi (fun (r : Int32) (_ : Unit) => r = nI cnt) (fun _ t => va_P (dC, dI) vwCl [(aC, .inr (6, [.ref aD, .ref aR, .ref aH, .ref aS, .ref aT, .ref aL, .ref aI, .int (nI il)])), (aR, .inr (1, [.ref aRF, .ref aRT, .ref aRN, .ref aRL, .ref aRU, .int (nI cnt)]))] t.heap ∧ va_K (dC, dI) vwCl [(cyI, .int), (cyZ, .boolean), (cyJ, .long), (cyD, .double)] t ∧ va_D (va_A [(aC, .inr (6, [.ref aD, .ref aR, .ref aH, .ref aS, .ref aT, .ref aL, .ref aI, .int (nI il)])), (aR, .inr (1, [.ref aRF, .ref aRT, .ref aRN, .ref aRL, .ref aRU, .int (nI cnt)]))] zH) [(aC, .inr (6, [.ref aD, .ref aR, .ref aH, .ref aS, .ref aT, .ref aL, .ref aI, .int (nI il)])), (aR, .inr (1, [.ref aRF, .ref aRT, .ref aRN, .ref aRL, .ref aRU, .int (nI cnt)]))]) (va_A [(aC, .inr (6, [.ref aD, .ref aR, .ref aH, .ref aS, .ref aT, .ref aL, .ref aI, .int (nI il)])), (aR, .inr (1, [.ref aRF, .ref aRT, .ref aRN, .ref aRL, .ref aRU, .int (nI cnt)]))] zH)) 0 0 (va_A [(aC, .inr (6, [.ref aD, .ref aR, .ref aH, .ref aS, .ref aT, .ref aL, .ref aI, .int (nI il)])), (aR, .inr (1, [.ref aRF, .ref aRT, .ref aRN, .ref aRL, .ref aRU, .int (nI cnt)]))] zH) := by
  refine Met.ofW (cc := cX6_dimensionCount) (maxL := 1) (ret := (some .int)) (by decide) rfl ?_
  intro pM eM s mM args blM mtM cM s₁ BM hml hv
  obtain ⟨rfl, hsz, hP, hK, hD0⟩ := hv
  have hx := BM.exec
  have hb := BM.bytes
  have hr := BM.returns
  have hts := atoms_spec (ws := wsX6_dimensionCount) BM.pre
  have hown : s.vm.findClass RX6 = some mM.cls := findClass_of_methodNamed BM.named
  have hlocks := BM.notSynchronized
  have w0 := hts (.fieldLink RX6 22 "DimensionChecker" "rows" "LDimensionChecker$Dimensions;") (by decide +kernel)
  have w1 := hts (.fieldLink RX6 70 "DimensionChecker$Dimensions" "count" "I") (by decide +kernel)
  have iX6 : ∀ w ∈ wsX60, w ∈ wsX6_dimensionCount := by decide +kernel
  have iX1 : ∀ w ∈ wsX10, w ∈ wsX6_dimensionCount := by decide +kernel
  subst hsz
  have hD := hD0.self (sz := s.heap.size)
  obtain ⟨Q, hQe⟩ : ∃ Q : State → Prop, Q = MQ blM (va_Qi (fun (r : Int32) (_ : Unit) => r = nI cnt) (fun _ t => va_P (dC, dI) vwCl [(aC, .inr (6, [.ref aD, .ref aR, .ref aH, .ref aS, .ref aT, .ref aL, .ref aI, .int (nI il)])), (aR, .inr (1, [.ref aRF, .ref aRT, .ref aRN, .ref aRL, .ref aRU, .int (nI cnt)]))] t.heap ∧ va_K (dC, dI) vwCl [(cyI, .int), (cyZ, .boolean), (cyJ, .long), (cyD, .double)] t ∧ va_D (va_A [(aC, .inr (6, [.ref aD, .ref aR, .ref aH, .ref aS, .ref aT, .ref aL, .ref aI, .int (nI il)])), (aR, .inr (1, [.ref aRF, .ref aRT, .ref aRN, .ref aRL, .ref aRU, .int (nI cnt)]))] s.heap.size) [(aC, .inr (6, [.ref aD, .ref aR, .ref aH, .ref aS, .ref aT, .ref aL, .ref aI, .int (nI il)])), (aR, .inr (1, [.ref aRF, .ref aRT, .ref aRN, .ref aRL, .ref aRU, .int (nI cnt)]))]) (va_A [(aC, .inr (6, [.ref aD, .ref aR, .ref aH, .ref aS, .ref aT, .ref aL, .ref aI, .int (nI il)])), (aR, .inr (1, [.ref aRF, .ref aRT, .ref aRN, .ref aRL, .ref aRU, .int (nI cnt)]))] s.heap.size)) ([.ref aC] : List Value).toArray s 0 0 (va_A [(aC, .inr (6, [.ref aD, .ref aR, .ref aH, .ref aS, .ref aT, .ref aL, .ref aI, .int (nI il)])), (aR, .inr (1, [.ref aRF, .ref aRT, .ref aRN, .ref aRL, .ref aRU, .int (nI cnt)]))] s.heap.size) := ⟨_, rfl⟩
  rw [← hQe]
  generalize hAe : va_A [(aC, .inr (6, [.ref aD, .ref aR, .ref aH, .ref aS, .ref aT, .ref aL, .ref aI, .int (nI il)])), (aR, .inr (1, [.ref aRF, .ref aRT, .ref aRN, .ref aRL, .ref aRU, .int (nI cnt)]))] s.heap.size = A at hD hQe
  have hA : ∀ q : Nat, s.heap.size ≤ q → A q := fun q h => by rw [← hAe]; exact Or.inr h
  obtain ⟨H, hHe⟩ : ∃ H : Heap, H = s.heap := ⟨_, rfl⟩
  have hS : va_S A s.heap H [] := by rw [hHe]; exact va_S.rf
  rw [← hHe] at hP ⊢
  have hl := lv_entry ([.ref aC]) (n := 1) (Nat.le_of_ble_eq_true rfl)
  rw [lg_entry_eq]
  generalize (lg_sl ([.ref aC]) ++ List.replicate (1 - (lg_sl ([.ref aC])).length) Slot.unset).toArray = ls at hl ⊢
  have hl : lv_has ls 1 [(0, .ref aC)] := hl
  refine lv_aload_n hx hb dX6_dimensionCount_0 rfl (lv_at hl 0 rfl) ?_
  refine va_get (D := (dC, dI)) (ci := 6) (v := .ref aR) (C := RX6) (T := TX6) (N := 8) hx hb hts iX6 hown hK hP 0 rfl rfl 1 (by decide) w0 (fun _ h9 => h9) rfl dX6_dimensionCount_1 ?_
  refine va_get (D := (dC, dI)) (ci := 1) (v := .int (nI cnt)) (C := RX1) (T := TX1) (N := 6) hx hb hts iX1 hown hK hP 1 rfl rfl 5 (by decide) w1 (fun _ h9 => h9) rfl dX6_dimensionCount_4 ?_
  have r1 : (nI cnt) = (nI cnt) := by rfl
  have hP9 : va_P (dC, dI) vwCl [(aC, .inr (6, [.ref aD, .ref aR, .ref aH, .ref aS, .ref aT, .ref aL, .ref aI, .int (nI il)])), (aR, .inr (1, [.ref aRF, .ref aRT, .ref aRN, .ref aRL, .ref aRU, .int (nI cnt)]))] H := by exact hP.sub [0, 1] rfl
  have hD9 : va_D A [(aC, .inr (6, [.ref aD, .ref aR, .ref aH, .ref aS, .ref aT, .ref aL, .ref aI, .int (nI il)])), (aR, .inr (1, [.ref aRF, .ref aRT, .ref aRN, .ref aRL, .ref aRU, .int (nI cnt)]))] := by exact hD.sub [0, 1] (by decide) rfl
  rw [hQe]
  exact W.iret (v := nI cnt) hx hb hr (fun t ht hW => ⟨⟨_, (), rfl, r1, by rw [ht]; exact hP9, va_K.moved hW.alike hK, hD9⟩, hS.F ht⟩) hS.2.2 dX6_dimensionCount_7
set_option maxHeartbeats 4000000 in
set_option maxRecDepth 100000 in
theorem c_X6_clearInput (l : Launch) (dC : Nat → ClassId) (dI : Nat → Nat → Nat) (cyI cyZ cyJ cyD : ClassId) (aC aD aR aH aS aT aL aI : Nat) (zH : Nat) (il : Nat) : Met l yX6_clearInput wsX6_clearInput ({ frames := 0, cells := 0, slots := 0, locals := 0 } : Room) (va_Pc [.ref aC] (fun U => U.heap.size = zH ∧ va_P (dC, dI) vwCl [(aC, .inr (6, [.ref aD, .ref aR, .ref aH, .ref aS, .ref aT, .ref aL, .ref aI, .int (nI il)]))] U.heap ∧ va_K (dC, dI) vwCl [(cyI, .int), (cyZ, .boolean), (cyJ, .long), (cyD, .double)] U ∧ va_D (fun _ => True) [(aC, .inr (6, [.ref aD, .ref aR, .ref aH, .ref aS, .ref aT, .ref aL, .ref aI, .int (nI il)]))])) (va_Qi (fun (r : Int32) (_ : Unit) => r = nI il) (fun _ t => va_P (dC, dI) vwCl [(aC, .inr (6, [.ref aD, .ref aR, .ref aH, .ref aS, .ref aT, .ref aL, .ref aI, .int (nI 0)]))] t.heap ∧ va_K (dC, dI) vwCl [(cyI, .int), (cyZ, .boolean), (cyJ, .long), (cyD, .double)] t ∧ va_D (va_A [(aC, .inr (6, [.ref aD, .ref aR, .ref aH, .ref aS, .ref aT, .ref aL, .ref aI, .int (nI il)]))] zH) [(aC, .inr (6, [.ref aD, .ref aR, .ref aH, .ref aS, .ref aT, .ref aL, .ref aI, .int (nI 0)]))]) (va_A [(aC, .inr (6, [.ref aD, .ref aR, .ref aH, .ref aS, .ref aT, .ref aL, .ref aI, .int (nI il)]))] zH)) 0 0 (va_A [(aC, .inr (6, [.ref aD, .ref aR, .ref aH, .ref aS, .ref aT, .ref aL, .ref aI, .int (nI il)]))] zH) := by
  refine Met.ofW (cc := cX6_clearInput) (maxL := 2) (ret := (some .int)) (by decide) rfl ?_
  intro pM eM s mM args blM mtM cM s₁ BM hml hv
  obtain ⟨rfl, hsz, hP, hK, hD0⟩ := hv
  have hx := BM.exec
  have hb := BM.bytes
  have hr := BM.returns
  have hts := atoms_spec (ws := wsX6_clearInput) BM.pre
  have hown : s.vm.findClass RX6 = some mM.cls := findClass_of_methodNamed BM.named
  have hlocks := BM.notSynchronized
  have w0 := hts (.fieldLink RX6 59 "DimensionChecker" "inputLength" "I") (by decide +kernel)
  have iX6 : ∀ w ∈ wsX60, w ∈ wsX6_clearInput := by decide +kernel
  subst hsz
  have hD := hD0.self (sz := s.heap.size)
  obtain ⟨Q, hQe⟩ : ∃ Q : State → Prop, Q = MQ blM (va_Qi (fun (r : Int32) (_ : Unit) => r = nI il) (fun _ t => va_P (dC, dI) vwCl [(aC, .inr (6, [.ref aD, .ref aR, .ref aH, .ref aS, .ref aT, .ref aL, .ref aI, .int (nI 0)]))] t.heap ∧ va_K (dC, dI) vwCl [(cyI, .int), (cyZ, .boolean), (cyJ, .long), (cyD, .double)] t ∧ va_D (va_A [(aC, .inr (6, [.ref aD, .ref aR, .ref aH, .ref aS, .ref aT, .ref aL, .ref aI, .int (nI il)]))] s.heap.size) [(aC, .inr (6, [.ref aD, .ref aR, .ref aH, .ref aS, .ref aT, .ref aL, .ref aI, .int (nI 0)]))]) (va_A [(aC, .inr (6, [.ref aD, .ref aR, .ref aH, .ref aS, .ref aT, .ref aL, .ref aI, .int (nI il)]))] s.heap.size)) ([.ref aC] : List Value).toArray s 0 0 (va_A [(aC, .inr (6, [.ref aD, .ref aR, .ref aH, .ref aS, .ref aT, .ref aL, .ref aI, .int (nI il)]))] s.heap.size) := ⟨_, rfl⟩
  rw [← hQe]
  generalize hAe : va_A [(aC, .inr (6, [.ref aD, .ref aR, .ref aH, .ref aS, .ref aT, .ref aL, .ref aI, .int (nI il)]))] s.heap.size = A at hD hQe
  have hA : ∀ q : Nat, s.heap.size ≤ q → A q := fun q h => by rw [← hAe]; exact Or.inr h
  obtain ⟨H, hHe⟩ : ∃ H : Heap, H = s.heap := ⟨_, rfl⟩
  have hS : va_S A s.heap H [] := by rw [hHe]; exact va_S.rf
  rw [← hHe] at hP ⊢
  have hl := lv_entry ([.ref aC]) (n := 2) (Nat.le_of_ble_eq_true rfl)
  rw [lg_entry_eq]
  generalize (lg_sl ([.ref aC]) ++ List.replicate (2 - (lg_sl ([.ref aC])).length) Slot.unset).toArray = ls at hl ⊢
  have hl : lv_has ls 2 [(0, .ref aC)] := hl
  refine lv_aload_n hx hb dX6_clearInput_0 rfl (lv_at hl 0 rfl) ?_
  refine va_get (D := (dC, dI)) (ci := 6) (v := .int (nI il)) (C := RX6) (T := TX6) (N := 8) hx hb hts iX6 hown hK hP 0 rfl rfl 7 (by decide) w0 (fun _ h9 => h9) rfl dX6_clearInput_1 ?_
  refine lv_istore_n (lv' := [(1, .int (nI il)), (0, .ref aC)]) hx hb dX6_clearInput_4 rfl hl (by decide) rfl (fun ls hl => ?_)
  refine lv_aload_n hx hb dX6_clearInput_5 rfl (lv_at hl 1 rfl) ?_
  refine lv_iconst (v := 0) hx hb dX6_clearInput_6 (by decide) ?_
  refine va_put (D := (dC, dI)) (ci := 6) (v := .int 0) (ty := .int) (C := RX6) (T := TX6) (N := 8) hx hb hts iX6 tyX6 tyX6_ok nmX6 hown hK hP hD hS 0 rfl rfl 7 (by decide) w0 (fun _ h9 => h9) rfl (by decide +kernel) rfl rfl (Nat.le_of_ble_eq_true rfl) dX6_clearInput_7 (fun H locs hP hD hS => ?_)
  have hP : va_P (dC, dI) vwCl [(aC, .inr (6, [.ref aD, .ref aR, .ref aH, .ref aS, .ref aT, .ref aL, .ref aI, .int 0]))] H := hP
  have hD : va_D A [(aC, .inr (6, [.ref aD, .ref aR, .ref aH, .ref aS, .ref aT, .ref aL, .ref aI, .int 0]))] := hD
  refine lv_iload_n hx hb dX6_clearInput_10 rfl (lv_at hl 0 rfl) ?_
  have r1 : (nI il) = (nI il) := by rfl
  have q2 : (nI 0) = 0 := by first | rfl | simp [*] | (simp only [*]; done)
  have hP9 : va_P (dC, dI) vwCl [(aC, .inr (6, [.ref aD, .ref aR, .ref aH, .ref aS, .ref aT, .ref aL, .ref aI, .int (nI 0)]))] H := by first | (rw [q2]; exact hP.sub [0] rfl) | (simp only [q2]; exact hP.sub [0] rfl) | exact hP.sub [0] rfl
  have hD9 : va_D A [(aC, .inr (6, [.ref aD, .ref aR, .ref aH, .ref aS, .ref aT, .ref aL, .ref aI, .int (nI 0)]))] := by first | (rw [q2]; exact hD.sub [0] (by decide) rfl) | (simp only [q2]; exact hD.sub [0] (by decide) rfl) | exact hD.sub [0] (by decide) rfl
  rw [hQe]
  exact W.iret (v := nI il) hx hb hr (fun t ht hW => ⟨⟨_, (), rfl, r1, by rw [ht]; exact hP9, va_K.moved hW.alike hK, hD9⟩, hS.F ht⟩) hS.2.2 dX6_clearInput_11
set_option maxHeartbeats 4000000 in
set_option maxRecDepth 100000 in
theorem c_X6_missing (l : Launch) (dC : Nat → ClassId) (dI : Nat → Nat → Nat) (cyI cyZ cyJ cyD : ClassId) (aC aD aR aH aS aT aL aI aDL aDD : Nat) (zH : Nat) (il : Nat) (n : Nat) (P : Nat → Nat) (hn : n ≤ 12) (hP12 : ∀ i_q, i_q < n → P i_q < 12) : Met l yX6_missing wsX6_missing ({ frames := 1, cells := 0, slots := 0, locals := 22 } : Room) (va_Pc [.ref aC] (fun U => U.heap.size = zH ∧ va_P (dC, dI) vwCl [(aC, .inr (6, [.ref aD, .ref aR, .ref aH, .ref aS, .ref aT, .ref aL, .ref aI, .int (nI il)])), (aD, .inr (2, [.ref aR, .ref aDL, .ref aDD, .int (nI n)])), (aDL, .inl (cyI, 12, .inl (fun j_ => nI (P j_))))] U.heap ∧ va_K (dC, dI) vwCl [(cyI, .int), (cyZ, .boolean), (cyJ, .long), (cyD, .double)] U ∧ va_D (fun _ => True) [(aC, .inr (6, [.ref aD, .ref aR, .ref aH, .ref aS, .ref aT, .ref aL, .ref aI, .int (nI il)])), (aD, .inr (2, [.ref aR, .ref aDL, .ref aDD, .int (nI n)])), (aDL, .inl (cyI, 12, .inl (fun j_ => nI (P j_))))])) (va_Qi (fun (r : Int32) (_ : Unit) => r = nI (pcN P n) - 1) (fun _ t => va_P (dC, dI) vwCl [(aC, .inr (6, [.ref aD, .ref aR, .ref aH, .ref aS, .ref aT, .ref aL, .ref aI, .int (nI il)])), (aD, .inr (2, [.ref aR, .ref aDL, .ref aDD, .int (nI n)])), (aDL, .inl (cyI, 12, .inl (fun j_ => nI (P j_))))] t.heap ∧ va_K (dC, dI) vwCl [(cyI, .int), (cyZ, .boolean), (cyJ, .long), (cyD, .double)] t ∧ va_D (va_A [(aC, .inr (6, [.ref aD, .ref aR, .ref aH, .ref aS, .ref aT, .ref aL, .ref aI, .int (nI il)])), (aD, .inr (2, [.ref aR, .ref aDL, .ref aDD, .int (nI n)])), (aDL, .inl (cyI, 12, .inl (fun j_ => nI (P j_))))] zH) [(aC, .inr (6, [.ref aD, .ref aR, .ref aH, .ref aS, .ref aT, .ref aL, .ref aI, .int (nI il)])), (aD, .inr (2, [.ref aR, .ref aDL, .ref aDD, .int (nI n)])), (aDL, .inl (cyI, 12, .inl (fun j_ => nI (P j_))))]) (va_A [(aC, .inr (6, [.ref aD, .ref aR, .ref aH, .ref aS, .ref aT, .ref aL, .ref aI, .int (nI il)])), (aD, .inr (2, [.ref aR, .ref aDL, .ref aDD, .int (nI n)])), (aDL, .inl (cyI, 12, .inl (fun j_ => nI (P j_))))] zH)) 0 0 (va_A [(aC, .inr (6, [.ref aD, .ref aR, .ref aH, .ref aS, .ref aT, .ref aL, .ref aI, .int (nI il)])), (aD, .inr (2, [.ref aR, .ref aDL, .ref aDD, .int (nI n)])), (aDL, .inl (cyI, 12, .inl (fun j_ => nI (P j_))))] zH) := by
  refine Met.ofW (cc := cX6_missing) (maxL := 1) (ret := (some .int)) (by decide) rfl ?_
  intro pM eM s mM args blM mtM cM s₁ BM hml hv
  obtain ⟨rfl, hsz, hP, hK, hD0⟩ := hv
  have hx := BM.exec
  have hb := BM.bytes
  have hr := BM.returns
  have hts := atoms_spec (ws := wsX6_missing) BM.pre
  have hown : s.vm.findClass RX6 = some mM.cls := findClass_of_methodNamed BM.named
  have hlocks := BM.notSynchronized
  have w0 := hts (.fieldLink RX6 14 "DimensionChecker" "drawing" "LDimensionChecker$Drawing;") (by decide +kernel)
  have iX6 : ∀ w ∈ wsX60, w ∈ wsX6_missing := by decide +kernel
  subst hsz
  have hD := hD0.self (sz := s.heap.size)
  obtain ⟨Q, hQe⟩ : ∃ Q : State → Prop, Q = MQ blM (va_Qi (fun (r : Int32) (_ : Unit) => r = nI (pcN P n) - 1) (fun _ t => va_P (dC, dI) vwCl [(aC, .inr (6, [.ref aD, .ref aR, .ref aH, .ref aS, .ref aT, .ref aL, .ref aI, .int (nI il)])), (aD, .inr (2, [.ref aR, .ref aDL, .ref aDD, .int (nI n)])), (aDL, .inl (cyI, 12, .inl (fun j_ => nI (P j_))))] t.heap ∧ va_K (dC, dI) vwCl [(cyI, .int), (cyZ, .boolean), (cyJ, .long), (cyD, .double)] t ∧ va_D (va_A [(aC, .inr (6, [.ref aD, .ref aR, .ref aH, .ref aS, .ref aT, .ref aL, .ref aI, .int (nI il)])), (aD, .inr (2, [.ref aR, .ref aDL, .ref aDD, .int (nI n)])), (aDL, .inl (cyI, 12, .inl (fun j_ => nI (P j_))))] s.heap.size) [(aC, .inr (6, [.ref aD, .ref aR, .ref aH, .ref aS, .ref aT, .ref aL, .ref aI, .int (nI il)])), (aD, .inr (2, [.ref aR, .ref aDL, .ref aDD, .int (nI n)])), (aDL, .inl (cyI, 12, .inl (fun j_ => nI (P j_))))]) (va_A [(aC, .inr (6, [.ref aD, .ref aR, .ref aH, .ref aS, .ref aT, .ref aL, .ref aI, .int (nI il)])), (aD, .inr (2, [.ref aR, .ref aDL, .ref aDD, .int (nI n)])), (aDL, .inl (cyI, 12, .inl (fun j_ => nI (P j_))))] s.heap.size)) ([.ref aC] : List Value).toArray s 0 0 (va_A [(aC, .inr (6, [.ref aD, .ref aR, .ref aH, .ref aS, .ref aT, .ref aL, .ref aI, .int (nI il)])), (aD, .inr (2, [.ref aR, .ref aDL, .ref aDD, .int (nI n)])), (aDL, .inl (cyI, 12, .inl (fun j_ => nI (P j_))))] s.heap.size) := ⟨_, rfl⟩
  rw [← hQe]
  generalize hAe : va_A [(aC, .inr (6, [.ref aD, .ref aR, .ref aH, .ref aS, .ref aT, .ref aL, .ref aI, .int (nI il)])), (aD, .inr (2, [.ref aR, .ref aDL, .ref aDD, .int (nI n)])), (aDL, .inl (cyI, 12, .inl (fun j_ => nI (P j_))))] s.heap.size = A at hD hQe
  have hA : ∀ q : Nat, s.heap.size ≤ q → A q := fun q h => by rw [← hAe]; exact Or.inr h
  obtain ⟨H, hHe⟩ : ∃ H : Heap, H = s.heap := ⟨_, rfl⟩
  have hS : va_S A s.heap H [] := by rw [hHe]; exact va_S.rf
  rw [← hHe] at hP ⊢
  have hl := lv_entry ([.ref aC]) (n := 1) (Nat.le_of_ble_eq_true rfl)
  rw [lg_entry_eq]
  generalize (lg_sl ([.ref aC]) ++ List.replicate (1 - (lg_sl ([.ref aC])).length) Slot.unset).toArray = ls at hl ⊢
  have hl : lv_has ls 1 [(0, .ref aC)] := hl
  refine lv_aload_n hx hb dX6_missing_0 rfl (lv_at hl 0 rfl) ?_
  refine va_get (D := (dC, dI)) (ci := 6) (v := .ref aD) (C := RX6) (T := TX6) (N := 8) hx hb hts iX6 hown hK hP 0 rfl rfl 0 (by decide) w0 (fun _ h9 => h9) rfl dX6_missing_1 ?_
  have g1 : n ≤ 12 := by first | assumption | omega | exact vp_in_nI (by omega) (by omega)
  have g2 : ∀ i_q, i_q < n → P i_q < 12 := by first | assumption | omega | exact vp_in_nI (by omega) (by omega)
  have hPc := hP.sub (ws' := [(aD, .inr (2, [.ref aR, .ref aDL, .ref aDD, .int (nI n)])), (aDL, .inl (cyI, 12, .inl (fun j_ => nI (P j_))))]) [1, 2] rfl
  have hDc := hD.sub (ws' := [(aD, .inr (2, [.ref aR, .ref aDL, .ref aDD, .int (nI n)])), (aDL, .inl (cyI, 12, .inl (fun j_ => nI (P j_))))]) [1, 2] (by decide) rfl
  have hFc := va_free (wc := [(aD, .inr (2, [.ref aR, .ref aDL, .ref aDD, .int (nI n)])), (aDL, .inl (cyI, 12, .inl (fun j_ => nI (P j_))))]) hD hS hA [1, 2] rfl
  refine va_calli (va_runV (As := []) (rest := []) ⟨hx, hb, hml, hown, hts⟩ (c_X2_partCount l dC dI cyI cyZ cyJ cyD aD aR aDL aDD H.size n P g1 g2) (cwV 0 hts gX6_missing_X2_partCount rfl rfl rfl (by decide +kernel) ⟨Nat.le_of_ble_eq_true rfl, Nat.le_of_ble_eq_true rfl⟩) ⟨fun a U g mk q => by obtain ⟨q0, q1, qP, qK, qD⟩ := q; exact ⟨q0, q1, qP, va_K.moved (u := U) (U := U.calling g mk a) (Vm.Alike.refl U.vm) qK, qD⟩, va_recv hK hPc (ci := 2) (q0 := 0) rfl rfl, fun U hU hW => ⟨rfl, by rw [hU], by rw [hU]; exact hPc, va_K.moved hW.alike hK, hDc.weaken (fun _ _ _ _ => trivial)⟩⟩ rfl rfl hl.1 rfl (lv_room (Nat.le_of_ble_eq_true rfl)) dX6_missing_4 ⟨Nat.le_of_ble_eq_true rfl, Nat.le_of_ble_eq_true rfl⟩) hS (fun q _ h => hFc q h) hFc (fun r u t H1 locs ht hvm hw hB hz1 hk1 hS => ?_)
  obtain rfl := hw
  obtain ⟨hP1, hK1, hD1⟩ := hB
  rw [ht] at hP1
  obtain ⟨hP, hD⟩ := va_join (wr := [(aC, .inr (6, [.ref aD, .ref aR, .ref aH, .ref aS, .ref aT, .ref aL, .ref aI, .int (nI il)]))]) (w1 := [(aD, .inr (2, [.ref aR, .ref aDL, .ref aDD, .int (nI n)])), (aDL, .inl (cyI, 12, .inl (fun j_ => nI (P j_))))]) hP hD [1, 2] [0] rfl rfl (by decide) (by decide) hk1 hFc hP1 hD1
  clear hP1 hD1 hK1 hPc hDc hFc hk1 hz1 hvm ht u t
  generalize H1 = H at hP hS ⊢
  have hP : va_P (dC, dI) vwCl [(aC, .inr (6, [.ref aD, .ref aR, .ref aH, .ref aS, .ref aT, .ref aL, .ref aI, .int (nI il)])), (aD, .inr (2, [.ref aR, .ref aDL, .ref aDD, .int (nI n)])), (aDL, .inl (cyI, 12, .inl (fun j_ => nI (P j_))))] H := hP
  have hD : va_D A [(aC, .inr (6, [.ref aD, .ref aR, .ref aH, .ref aS, .ref aT, .ref aL, .ref aI, .int (nI il)])), (aD, .inr (2, [.ref aR, .ref aDL, .ref aDD, .int (nI n)])), (aDL, .inl (cyI, 12, .inl (fun j_ => nI (P j_))))] := hD
  refine lv_iconst (v := 1) hx hb dX6_missing_7 (by decide) ?_
  refine lv_isub hx hb dX6_missing_8 ?_
  have r3 : ((nI (pcN P n)) - 1) = (nI (pcN P n) - 1) := by first | rfl | simp [*]
  have hP9 : va_P (dC, dI) vwCl [(aC, .inr (6, [.ref aD, .ref aR, .ref aH, .ref aS, .ref aT, .ref aL, .ref aI, .int (nI il)])), (aD, .inr (2, [.ref aR, .ref aDL, .ref aDD, .int (nI n)])), (aDL, .inl (cyI, 12, .inl (fun j_ => nI (P j_))))] H := by exact hP.sub [0, 1, 2] rfl
  have hD9 : va_D A [(aC, .inr (6, [.ref aD, .ref aR, .ref aH, .ref aS, .ref aT, .ref aL, .ref aI, .int (nI il)])), (aD, .inr (2, [.ref aR, .ref aDL, .ref aDD, .int (nI n)])), (aDL, .inl (cyI, 12, .inl (fun j_ => nI (P j_))))] := by exact hD.sub [0, 1, 2] (by decide) rfl
  rw [hQe]
  exact W.iret (v := (nI (pcN P n)) - 1) hx hb hr (fun t ht hW => ⟨⟨_, (), rfl, r3, by rw [ht]; exact hP9, va_K.moved hW.alike hK, hD9⟩, hS.F ht⟩) hS.2.2 dX6_missing_9
set_option maxHeartbeats 4000000 in
set_option maxRecDepth 100000 in
theorem c_X6_firstError (l : Launch) (dC : Nat → ClassId) (dI : Nat → Nat → Nat) (cyI cyZ cyJ cyD : ClassId) (aC aD aR aH aS aT aL aI aQ aQF aQT aQN aQL aQU aDL aDD : Nat) (zH : Nat) (il : Nat) (pl : Nat) (row : Nat) (dg : Nat) (sz : Nat) (ng : Bool) (F2 : Nat → Nat) (T2 : Nat → Nat) (nm2 : Nat → Int32) (lo2 : Nat → Int32) (up2 : Nat → Int32) (cnt2 : Nat) (n : Nat) (inp : Nat → Nat) (hn : n ≤ 12) (hlen : il ≤ 60) (hin0 : ∀ i_q, i_q < il → inp i_q < 128) : Met l yX6_firstError wsX6_firstError ({ frames := 6, cells := 0, slots := 0, locals := 131 } : Room) (va_Pc [.ref aC] (fun U => U.heap.size = zH ∧ va_P (dC, dI) vwCl [(aC, .inr (6, [.ref aD, .ref aR, .ref aH, .ref aS, .ref aT, .ref aL, .ref aI, .int (nI il)])), (aL, .inr (3, [.ref aQ, .int (nI n), .int (nI pl), .int (nI row), .int (nI dg), .int (nI sz), .int (bI ng)])), (aQ, .inr (1, [.ref aQF, .ref aQT, .ref aQN, .ref aQL, .ref aQU, .int (nI cnt2)])), (aQF, .inl (cyI, 20, .inl (fun j_ => nI (F2 j_)))), (aQT, .inl (cyI, 20, .inl (fun j_ => nI (T2 j_)))), (aQN, .inl (cyI, 20, .inl nm2)), (aQL, .inl (cyI, 20, .inl lo2)), (aQU, .inl (cyI, 20, .inl up2)), (aI, .inl (cyI, 60, .inl (fun j_ => nI (inp j_)))), (aD, .inr (2, [.ref aR, .ref aDL, .ref aDD, .int (nI n)]))] U.heap ∧ va_K (dC, dI) vwCl [(cyI, .int), (cyZ, .boolean), (cyJ, .long), (cyD, .double)] U ∧ va_D (fun _ => True) [(aC, .inr (6, [.ref aD, .ref aR, .ref aH, .ref aS, .ref aT, .ref aL, .ref aI, .int (nI il)])), (aL, .inr (3, [.ref aQ, .int (nI n), .int (nI pl), .int (nI row), .int (nI dg), .int (nI sz), .int (bI ng)])), (aQ, .inr (1, [.ref aQF, .ref aQT, .ref aQN, .ref aQL, .ref aQU, .int (nI cnt2)])), (aQF, .inl (cyI, 20, .inl (fun j_ => nI (F2 j_)))), (aQT, .inl (cyI, 20, .inl (fun j_ => nI (T2 j_)))), (aQN, .inl (cyI, 20, .inl nm2)), (aQL, .inl (cyI, 20, .inl lo2)), (aQU, .inl (cyI, 20, .inl up2)), (aI, .inl (cyI, 60, .inl (fun j_ => nI (inp j_)))), (aD, .inr (2, [.ref aR, .ref aDL, .ref aDD, .int (nI n)]))])) (va_Qi (fun (r : Int32) (_ : Unit) => r = nI (rdE n inp (0, row, dg, sz, ng, 0, F2, T2, nm2, lo2, up2) il)) (fun _ t => ∃ (pl3 : Nat), ∃ (row3 : Nat), ∃ (dg3 : Nat), ∃ (sz3 : Nat), ∃ (ng3 : Bool), ∃ (cnt3 : Nat), ∃ (F3 : Nat → Nat), ∃ (T3 : Nat → Nat), ∃ (nm3 : Nat → Int32), ∃ (lo3 : Nat → Int32), ∃ (up3 : Nat → Int32), va_P (dC, dI) vwCl [(aC, .inr (6, [.ref aD, .ref aR, .ref aH, .ref aS, .ref aT, .ref aL, .ref aI, .int (nI il)])), (aL, .inr (3, [.ref aQ, .int (nI n), .int (nI pl3), .int (nI row3), .int (nI dg3), .int (nI sz3), .int (bI ng3)])), (aQ, .inr (1, [.ref aQF, .ref aQT, .ref aQN, .ref aQL, .ref aQU, .int (nI cnt3)])), (aQF, .inl (cyI, 20, .inl (fun j_ => nI (F3 j_)))), (aQT, .inl (cyI, 20, .inl (fun j_ => nI (T3 j_)))), (aQN, .inl (cyI, 20, .inl nm3)), (aQL, .inl (cyI, 20, .inl lo3)), (aQU, .inl (cyI, 20, .inl up3)), (aI, .inl (cyI, 60, .inl (fun j_ => nI (inp j_)))), (aD, .inr (2, [.ref aR, .ref aDL, .ref aDD, .int (nI n)]))] t.heap ∧ va_K (dC, dI) vwCl [(cyI, .int), (cyZ, .boolean), (cyJ, .long), (cyD, .double)] t ∧ va_D (va_A [(aC, .inr (6, [.ref aD, .ref aR, .ref aH, .ref aS, .ref aT, .ref aL, .ref aI, .int (nI il)])), (aL, .inr (3, [.ref aQ, .int (nI n), .int (nI pl), .int (nI row), .int (nI dg), .int (nI sz), .int (bI ng)])), (aQ, .inr (1, [.ref aQF, .ref aQT, .ref aQN, .ref aQL, .ref aQU, .int (nI cnt2)])), (aQF, .inl (cyI, 20, .inl (fun j_ => nI (F2 j_)))), (aQT, .inl (cyI, 20, .inl (fun j_ => nI (T2 j_)))), (aQN, .inl (cyI, 20, .inl nm2)), (aQL, .inl (cyI, 20, .inl lo2)), (aQU, .inl (cyI, 20, .inl up2)), (aI, .inl (cyI, 60, .inl (fun j_ => nI (inp j_)))), (aD, .inr (2, [.ref aR, .ref aDL, .ref aDD, .int (nI n)]))] zH) [(aC, .inr (6, [.ref aD, .ref aR, .ref aH, .ref aS, .ref aT, .ref aL, .ref aI, .int (nI il)])), (aL, .inr (3, [.ref aQ, .int (nI n), .int (nI pl3), .int (nI row3), .int (nI dg3), .int (nI sz3), .int (bI ng3)])), (aQ, .inr (1, [.ref aQF, .ref aQT, .ref aQN, .ref aQL, .ref aQU, .int (nI cnt3)])), (aQF, .inl (cyI, 20, .inl (fun j_ => nI (F3 j_)))), (aQT, .inl (cyI, 20, .inl (fun j_ => nI (T3 j_)))), (aQN, .inl (cyI, 20, .inl nm3)), (aQL, .inl (cyI, 20, .inl lo3)), (aQU, .inl (cyI, 20, .inl up3)), (aI, .inl (cyI, 60, .inl (fun j_ => nI (inp j_)))), (aD, .inr (2, [.ref aR, .ref aDL, .ref aDD, .int (nI n)]))]) (va_A [(aC, .inr (6, [.ref aD, .ref aR, .ref aH, .ref aS, .ref aT, .ref aL, .ref aI, .int (nI il)])), (aL, .inr (3, [.ref aQ, .int (nI n), .int (nI pl), .int (nI row), .int (nI dg), .int (nI sz), .int (bI ng)])), (aQ, .inr (1, [.ref aQF, .ref aQT, .ref aQN, .ref aQL, .ref aQU, .int (nI cnt2)])), (aQF, .inl (cyI, 20, .inl (fun j_ => nI (F2 j_)))), (aQT, .inl (cyI, 20, .inl (fun j_ => nI (T2 j_)))), (aQN, .inl (cyI, 20, .inl nm2)), (aQL, .inl (cyI, 20, .inl lo2)), (aQU, .inl (cyI, 20, .inl up2)), (aI, .inl (cyI, 60, .inl (fun j_ => nI (inp j_)))), (aD, .inr (2, [.ref aR, .ref aDL, .ref aDD, .int (nI n)]))] zH)) 0 0 (va_A [(aC, .inr (6, [.ref aD, .ref aR, .ref aH, .ref aS, .ref aT, .ref aL, .ref aI, .int (nI il)])), (aL, .inr (3, [.ref aQ, .int (nI n), .int (nI pl), .int (nI row), .int (nI dg), .int (nI sz), .int (bI ng)])), (aQ, .inr (1, [.ref aQF, .ref aQT, .ref aQN, .ref aQL, .ref aQU, .int (nI cnt2)])), (aQF, .inl (cyI, 20, .inl (fun j_ => nI (F2 j_)))), (aQT, .inl (cyI, 20, .inl (fun j_ => nI (T2 j_)))), (aQN, .inl (cyI, 20, .inl nm2)), (aQL, .inl (cyI, 20, .inl lo2)), (aQU, .inl (cyI, 20, .inl up2)), (aI, .inl (cyI, 60, .inl (fun j_ => nI (inp j_)))), (aD, .inr (2, [.ref aR, .ref aDL, .ref aDD, .int (nI n)]))] zH) := by
  refine Met.ofW (cc := cX6_firstError) (maxL := 1) (ret := (some .int)) (by decide) rfl ?_
  intro pM eM s mM args blM mtM cM s₁ BM hml hv
  obtain ⟨rfl, hsz, hP, hK, hD0⟩ := hv
  have hx := BM.exec
  have hb := BM.bytes
  have hr := BM.returns
  have hts := atoms_spec (ws := wsX6_firstError) BM.pre
  have hown : s.vm.findClass RX6 = some mM.cls := findClass_of_methodNamed BM.named
  have hlocks := BM.notSynchronized
  have w0 := hts (.fieldLink RX6 51 "DimensionChecker" "reader" "LDimensionChecker$ListReader;") (by decide +kernel)
  have w1 := hts (.fieldLink RX6 55 "DimensionChecker" "input" "[I") (by decide +kernel)
  have w2 := hts (.fieldLink RX6 59 "DimensionChecker" "inputLength" "I") (by decide +kernel)
  have w3 := hts (.fieldLink RX6 14 "DimensionChecker" "drawing" "LDimensionChecker$Drawing;") (by decide +kernel)
  have w4 := hts (.fieldLink RX6 155 "DimensionChecker$Drawing" "faces" "I") (by decide +kernel)
  have iX6 : ∀ w ∈ wsX60, w ∈ wsX6_firstError := by decide +kernel
  have iX2 : ∀ w ∈ wsX20, w ∈ wsX6_firstError := by decide +kernel
  subst hsz
  have hD := hD0.self (sz := s.heap.size)
  obtain ⟨Q, hQe⟩ : ∃ Q : State → Prop, Q = MQ blM (va_Qi (fun (r : Int32) (_ : Unit) => r = nI (rdE n inp (0, row, dg, sz, ng, 0, F2, T2, nm2, lo2, up2) il)) (fun _ t => ∃ (pl3 : Nat), ∃ (row3 : Nat), ∃ (dg3 : Nat), ∃ (sz3 : Nat), ∃ (ng3 : Bool), ∃ (cnt3 : Nat), ∃ (F3 : Nat → Nat), ∃ (T3 : Nat → Nat), ∃ (nm3 : Nat → Int32), ∃ (lo3 : Nat → Int32), ∃ (up3 : Nat → Int32), va_P (dC, dI) vwCl [(aC, .inr (6, [.ref aD, .ref aR, .ref aH, .ref aS, .ref aT, .ref aL, .ref aI, .int (nI il)])), (aL, .inr (3, [.ref aQ, .int (nI n), .int (nI pl3), .int (nI row3), .int (nI dg3), .int (nI sz3), .int (bI ng3)])), (aQ, .inr (1, [.ref aQF, .ref aQT, .ref aQN, .ref aQL, .ref aQU, .int (nI cnt3)])), (aQF, .inl (cyI, 20, .inl (fun j_ => nI (F3 j_)))), (aQT, .inl (cyI, 20, .inl (fun j_ => nI (T3 j_)))), (aQN, .inl (cyI, 20, .inl nm3)), (aQL, .inl (cyI, 20, .inl lo3)), (aQU, .inl (cyI, 20, .inl up3)), (aI, .inl (cyI, 60, .inl (fun j_ => nI (inp j_)))), (aD, .inr (2, [.ref aR, .ref aDL, .ref aDD, .int (nI n)]))] t.heap ∧ va_K (dC, dI) vwCl [(cyI, .int), (cyZ, .boolean), (cyJ, .long), (cyD, .double)] t ∧ va_D (va_A [(aC, .inr (6, [.ref aD, .ref aR, .ref aH, .ref aS, .ref aT, .ref aL, .ref aI, .int (nI il)])), (aL, .inr (3, [.ref aQ, .int (nI n), .int (nI pl), .int (nI row), .int (nI dg), .int (nI sz), .int (bI ng)])), (aQ, .inr (1, [.ref aQF, .ref aQT, .ref aQN, .ref aQL, .ref aQU, .int (nI cnt2)])), (aQF, .inl (cyI, 20, .inl (fun j_ => nI (F2 j_)))), (aQT, .inl (cyI, 20, .inl (fun j_ => nI (T2 j_)))), (aQN, .inl (cyI, 20, .inl nm2)), (aQL, .inl (cyI, 20, .inl lo2)), (aQU, .inl (cyI, 20, .inl up2)), (aI, .inl (cyI, 60, .inl (fun j_ => nI (inp j_)))), (aD, .inr (2, [.ref aR, .ref aDL, .ref aDD, .int (nI n)]))] s.heap.size) [(aC, .inr (6, [.ref aD, .ref aR, .ref aH, .ref aS, .ref aT, .ref aL, .ref aI, .int (nI il)])), (aL, .inr (3, [.ref aQ, .int (nI n), .int (nI pl3), .int (nI row3), .int (nI dg3), .int (nI sz3), .int (bI ng3)])), (aQ, .inr (1, [.ref aQF, .ref aQT, .ref aQN, .ref aQL, .ref aQU, .int (nI cnt3)])), (aQF, .inl (cyI, 20, .inl (fun j_ => nI (F3 j_)))), (aQT, .inl (cyI, 20, .inl (fun j_ => nI (T3 j_)))), (aQN, .inl (cyI, 20, .inl nm3)), (aQL, .inl (cyI, 20, .inl lo3)), (aQU, .inl (cyI, 20, .inl up3)), (aI, .inl (cyI, 60, .inl (fun j_ => nI (inp j_)))), (aD, .inr (2, [.ref aR, .ref aDL, .ref aDD, .int (nI n)]))]) (va_A [(aC, .inr (6, [.ref aD, .ref aR, .ref aH, .ref aS, .ref aT, .ref aL, .ref aI, .int (nI il)])), (aL, .inr (3, [.ref aQ, .int (nI n), .int (nI pl), .int (nI row), .int (nI dg), .int (nI sz), .int (bI ng)])), (aQ, .inr (1, [.ref aQF, .ref aQT, .ref aQN, .ref aQL, .ref aQU, .int (nI cnt2)])), (aQF, .inl (cyI, 20, .inl (fun j_ => nI (F2 j_)))), (aQT, .inl (cyI, 20, .inl (fun j_ => nI (T2 j_)))), (aQN, .inl (cyI, 20, .inl nm2)), (aQL, .inl (cyI, 20, .inl lo2)), (aQU, .inl (cyI, 20, .inl up2)), (aI, .inl (cyI, 60, .inl (fun j_ => nI (inp j_)))), (aD, .inr (2, [.ref aR, .ref aDL, .ref aDD, .int (nI n)]))] s.heap.size)) ([.ref aC] : List Value).toArray s 0 0 (va_A [(aC, .inr (6, [.ref aD, .ref aR, .ref aH, .ref aS, .ref aT, .ref aL, .ref aI, .int (nI il)])), (aL, .inr (3, [.ref aQ, .int (nI n), .int (nI pl), .int (nI row), .int (nI dg), .int (nI sz), .int (bI ng)])), (aQ, .inr (1, [.ref aQF, .ref aQT, .ref aQN, .ref aQL, .ref aQU, .int (nI cnt2)])), (aQF, .inl (cyI, 20, .inl (fun j_ => nI (F2 j_)))), (aQT, .inl (cyI, 20, .inl (fun j_ => nI (T2 j_)))), (aQN, .inl (cyI, 20, .inl nm2)), (aQL, .inl (cyI, 20, .inl lo2)), (aQU, .inl (cyI, 20, .inl up2)), (aI, .inl (cyI, 60, .inl (fun j_ => nI (inp j_)))), (aD, .inr (2, [.ref aR, .ref aDL, .ref aDD, .int (nI n)]))] s.heap.size) := ⟨_, rfl⟩
  rw [← hQe]
  generalize hAe : va_A [(aC, .inr (6, [.ref aD, .ref aR, .ref aH, .ref aS, .ref aT, .ref aL, .ref aI, .int (nI il)])), (aL, .inr (3, [.ref aQ, .int (nI n), .int (nI pl), .int (nI row), .int (nI dg), .int (nI sz), .int (bI ng)])), (aQ, .inr (1, [.ref aQF, .ref aQT, .ref aQN, .ref aQL, .ref aQU, .int (nI cnt2)])), (aQF, .inl (cyI, 20, .inl (fun j_ => nI (F2 j_)))), (aQT, .inl (cyI, 20, .inl (fun j_ => nI (T2 j_)))), (aQN, .inl (cyI, 20, .inl nm2)), (aQL, .inl (cyI, 20, .inl lo2)), (aQU, .inl (cyI, 20, .inl up2)), (aI, .inl (cyI, 60, .inl (fun j_ => nI (inp j_)))), (aD, .inr (2, [.ref aR, .ref aDL, .ref aDD, .int (nI n)]))] s.heap.size = A at hD hQe
  have hA : ∀ q : Nat, s.heap.size ≤ q → A q := fun q h => by rw [← hAe]; exact Or.inr h
  obtain ⟨H, hHe⟩ : ∃ H : Heap, H = s.heap := ⟨_, rfl⟩
  have hS : va_S A s.heap H [] := by rw [hHe]; exact va_S.rf
  rw [← hHe] at hP ⊢
  have hl := lv_entry ([.ref aC]) (n := 1) (Nat.le_of_ble_eq_true rfl)
  rw [lg_entry_eq]
  generalize (lg_sl ([.ref aC]) ++ List.replicate (1 - (lg_sl ([.ref aC])).length) Slot.unset).toArray = ls at hl ⊢
  have hl : lv_has ls 1 [(0, .ref aC)] := hl
  refine lv_aload_n hx hb dX6_firstError_0 rfl (lv_at hl 0 rfl) ?_
  refine va_get (D := (dC, dI)) (ci := 6) (v := .ref aL) (C := RX6) (T := TX6) (N := 8) hx hb hts iX6 hown hK hP 0 rfl rfl 5 (by decide) w0 (fun _ h9 => h9) rfl dX6_firstError_1 ?_
  refine lv_aload_n hx hb dX6_firstError_4 rfl (lv_at hl 0 rfl) ?_
  refine va_get (D := (dC, dI)) (ci := 6) (v := .ref aI) (C := RX6) (T := TX6) (N := 8) hx hb hts iX6 hown hK hP 0 rfl rfl 6 (by decide) w1 (fun _ h9 => h9) rfl dX6_firstError_5 ?_
  refine lv_aload_n hx hb dX6_firstError_8 rfl (lv_at hl 0 rfl) ?_
  refine va_get (D := (dC, dI)) (ci := 6) (v := .int (nI il)) (C := RX6) (T := TX6) (N := 8) hx hb hts iX6 hown hK hP 0 rfl rfl 7 (by decide) w2 (fun _ h9 => h9) rfl dX6_firstError_9 ?_
  refine lv_aload_n hx hb dX6_firstError_12 rfl (lv_at hl 0 rfl) ?_
  refine va_get (D := (dC, dI)) (ci := 6) (v := .ref aD) (C := RX6) (T := TX6) (N := 8) hx hb hts iX6 hown hK hP 0 rfl rfl 0 (by decide) w3 (fun _ h9 => h9) rfl dX6_firstError_13 ?_
  refine va_get (D := (dC, dI)) (ci := 2) (v := .int (nI n)) (C := RX2) (T := TX2) (N := 4) hx hb hts iX2 hown hK hP 9 rfl rfl 3 (by decide) w4 (fun _ h9 => h9) rfl dX6_firstError_16 ?_
  have g1 : n ≤ 12 := by first | assumption | omega | exact vp_in_nI (by omega) (by omega)
  have g2 : il ≤ 60 := by first | assumption | omega | exact vp_in_nI (by omega) (by omega)
  have g3 : ∀ i_q, i_q < il → inp i_q < 128 := by first | assumption | omega | exact vp_in_nI (by omega) (by omega)
  have hPc := hP.sub (ws' := [(aL, .inr (3, [.ref aQ, .int (nI n), .int (nI pl), .int (nI row), .int (nI dg), .int (nI sz), .int (bI ng)])), (aQ, .inr (1, [.ref aQF, .ref aQT, .ref aQN, .ref aQL, .ref aQU, .int (nI cnt2)])), (aQF, .inl (cyI, 20, .inl (fun j_ => nI (F2 j_)))), (aQT, .inl (cyI, 20, .inl (fun j_ => nI (T2 j_)))), (aQN, .inl (cyI, 20, .inl nm2)), (aQL, .inl (cyI, 20, .inl lo2)), (aQU, .inl (cyI, 20, .inl up2)), (aI, .inl (cyI, 60, .inl (fun j_ => nI (inp j_))))]) [1, 2, 3, 4, 5, 6, 7, 8] rfl
  have hDc := hD.sub (ws' := [(aL, .inr (3, [.ref aQ, .int (nI n), .int (nI pl), .int (nI row), .int (nI dg), .int (nI sz), .int (bI ng)])), (aQ, .inr (1, [.ref aQF, .ref aQT, .ref aQN, .ref aQL, .ref aQU, .int (nI cnt2)])), (aQF, .inl (cyI, 20, .inl (fun j_ => nI (F2 j_)))), (aQT, .inl (cyI, 20, .inl (fun j_ => nI (T2 j_)))), (aQN, .inl (cyI, 20, .inl nm2)), (aQL, .inl (cyI, 20, .inl lo2)), (aQU, .inl (cyI, 20, .inl up2)), (aI, .inl (cyI, 60, .inl (fun j_ => nI (inp j_))))]) [1, 2, 3, 4, 5, 6, 7, 8] (by decide) rfl
  have hFc := va_free (wc := [(aL, .inr (3, [.ref aQ, .int (nI n), .int (nI pl), .int (nI row), .int (nI dg), .int (nI sz), .int (bI ng)])), (aQ, .inr (1, [.ref aQF, .ref aQT, .ref aQN, .ref aQL, .ref aQU, .int (nI cnt2)])), (aQF, .inl (cyI, 20, .inl (fun j_ => nI (F2 j_)))), (aQT, .inl (cyI, 20, .inl (fun j_ => nI (T2 j_)))), (aQN, .inl (cyI, 20, .inl nm2)), (aQL, .inl (cyI, 20, .inl lo2)), (aQU, .inl (cyI, 20, .inl up2)), (aI, .inl (cyI, 60, .inl (fun j_ => nI (inp j_))))]) hD hS hA [1, 2, 3, 4, 5, 6, 7, 8] rfl
  refine va_calli (va_runV (As := [.ref aI, .int (nI il), .int (nI n)]) (rest := []) ⟨hx, hb, hml, hown, hts⟩ (c_X3_read l dC dI cyI cyZ cyJ cyD aL aQ aQF aQT aQN aQL aQU aI H.size n pl row dg sz ng F2 T2 nm2 lo2 up2 cnt2 inp il n g1 g2 g3) (cwV 3 hts gX6_firstError_X3_read rfl rfl rfl (by decide +kernel) ⟨Nat.le_of_ble_eq_true rfl, Nat.le_of_ble_eq_true rfl⟩) ⟨fun a U g mk q => by obtain ⟨q0, q1, qP, qK, qD⟩ := q; exact ⟨q0, q1, qP, va_K.moved (u := U) (U := U.calling g mk a) (Vm.Alike.refl U.vm) qK, qD⟩, va_recv hK hPc (ci := 3) (q0 := 0) rfl rfl, fun U hU hW => ⟨rfl, by rw [hU], by rw [hU]; exact hPc, va_K.moved hW.alike hK, hDc.weaken (fun _ _ _ _ => trivial)⟩⟩ rfl rfl hl.1 rfl (lv_room (Nat.le_of_ble_eq_true rfl)) dX6_firstError_19 ⟨Nat.le_of_ble_eq_true rfl, Nat.le_of_ble_eq_true rfl⟩) hS (fun q _ h => hFc q h) hFc (fun r u t H1 locs ht hvm hw hB hz1 hk1 hS => ?_)
  obtain rfl := hw
  obtain ⟨pl3_4, row3_5, dg3_6, sz3_7, ng3_8, cnt3_9, F3_10, T3_11, nm3_12, lo3_13, up3_14, p15, hP1, hK1, hD1⟩ := hB
  rw [ht] at hP1
  obtain ⟨hP, hD⟩ := va_join (wr := [(aC, .inr (6, [.ref aD, .ref aR, .ref aH, .ref aS, .ref aT, .ref aL, .ref aI, .int (nI il)])), (aD, .inr (2, [.ref aR, .ref aDL, .ref aDD, .int (nI n)]))]) (w1 := [(aL, .inr (3, [.ref aQ, .int (nI n), .int (nI pl3_4), .int (nI row3_5), .int (nI dg3_6), .int (nI sz3_7), .int (bI ng3_8)])), (aQ, .inr (1, [.ref aQF, .ref aQT, .ref aQN, .ref aQL, .ref aQU, .int (nI cnt3_9)])), (aQF, .inl (cyI, 20, .inl (fun j_ => nI (F3_10 j_)))), (aQT, .inl (cyI, 20, .inl (fun j_ => nI (T3_11 j_)))), (aQN, .inl (cyI, 20, .inl nm3_12)), (aQL, .inl (cyI, 20, .inl lo3_13)), (aQU, .inl (cyI, 20, .inl up3_14)), (aI, .inl (cyI, 60, .inl (fun j_ => nI (inp j_))))]) hP hD [1, 2, 3, 4, 5, 6, 7, 8] [0, 9] rfl rfl (by decide) (by decide) hk1 hFc hP1 hD1
  clear hP1 hD1 hK1 hPc hDc hFc hk1 hz1 hvm ht u t
  generalize H1 = H at hP hS ⊢
  have hP : va_P (dC, dI) vwCl [(aC, .inr (6, [.ref aD, .ref aR, .ref aH, .ref aS, .ref aT, .ref aL, .ref aI, .int (nI il)])), (aD, .inr (2, [.ref aR, .ref aDL, .ref aDD, .int (nI n)])), (aL, .inr (3, [.ref aQ, .int (nI n), .int (nI pl3_4), .int (nI row3_5), .int (nI dg3_6), .int (nI sz3_7), .int (bI ng3_8)])), (aQ, .inr (1, [.ref aQF, .ref aQT, .ref aQN, .ref aQL, .ref aQU, .int (nI cnt3_9)])), (aQF, .inl (cyI, 20, .inl (fun j_ => nI (F3_10 j_)))), (aQT, .inl (cyI, 20, .inl (fun j_ => nI (T3_11 j_)))), (aQN, .inl (cyI, 20, .inl nm3_12)), (aQL, .inl (cyI, 20, .inl lo3_13)), (aQU, .inl (cyI, 20, .inl up3_14)), (aI, .inl (cyI, 60, .inl (fun j_ => nI (inp j_))))] H := hP
  have hD : va_D A [(aC, .inr (6, [.ref aD, .ref aR, .ref aH, .ref aS, .ref aT, .ref aL, .ref aI, .int (nI il)])), (aD, .inr (2, [.ref aR, .ref aDL, .ref aDD, .int (nI n)])), (aL, .inr (3, [.ref aQ, .int (nI n), .int (nI pl3_4), .int (nI row3_5), .int (nI dg3_6), .int (nI sz3_7), .int (bI ng3_8)])), (aQ, .inr (1, [.ref aQF, .ref aQT, .ref aQN, .ref aQL, .ref aQU, .int (nI cnt3_9)])), (aQF, .inl (cyI, 20, .inl (fun j_ => nI (F3_10 j_)))), (aQT, .inl (cyI, 20, .inl (fun j_ => nI (T3_11 j_)))), (aQN, .inl (cyI, 20, .inl nm3_12)), (aQL, .inl (cyI, 20, .inl lo3_13)), (aQU, .inl (cyI, 20, .inl up3_14)), (aI, .inl (cyI, 60, .inl (fun j_ => nI (inp j_))))] := hD
  have r16 : (nI (rdE n inp (0, row, dg, sz, ng, 0, F2, T2, nm2, lo2, up2) il)) = (nI (rdE n inp (0, row, dg, sz, ng, 0, F2, T2, nm2, lo2, up2) il)) := by rfl
  have hP9 : va_P (dC, dI) vwCl [(aC, .inr (6, [.ref aD, .ref aR, .ref aH, .ref aS, .ref aT, .ref aL, .ref aI, .int (nI il)])), (aL, .inr (3, [.ref aQ, .int (nI n), .int (nI pl3_4), .int (nI row3_5), .int (nI dg3_6), .int (nI sz3_7), .int (bI ng3_8)])), (aQ, .inr (1, [.ref aQF, .ref aQT, .ref aQN, .ref aQL, .ref aQU, .int (nI cnt3_9)])), (aQF, .inl (cyI, 20, .inl (fun j_ => nI (F3_10 j_)))), (aQT, .inl (cyI, 20, .inl (fun j_ => nI (T3_11 j_)))), (aQN, .inl (cyI, 20, .inl nm3_12)), (aQL, .inl (cyI, 20, .inl lo3_13)), (aQU, .inl (cyI, 20, .inl up3_14)), (aI, .inl (cyI, 60, .inl (fun j_ => nI (inp j_)))), (aD, .inr (2, [.ref aR, .ref aDL, .ref aDD, .int (nI n)]))] H := by exact hP.sub [0, 2, 3, 4, 5, 6, 7, 8, 9, 1] rfl
  have hD9 : va_D A [(aC, .inr (6, [.ref aD, .ref aR, .ref aH, .ref aS, .ref aT, .ref aL, .ref aI, .int (nI il)])), (aL, .inr (3, [.ref aQ, .int (nI n), .int (nI pl3_4), .int (nI row3_5), .int (nI dg3_6), .int (nI sz3_7), .int (bI ng3_8)])), (aQ, .inr (1, [.ref aQF, .ref aQT, .ref aQN, .ref aQL, .ref aQU, .int (nI cnt3_9)])), (aQF, .inl (cyI, 20, .inl (fun j_ => nI (F3_10 j_)))), (aQT, .inl (cyI, 20, .inl (fun j_ => nI (T3_11 j_)))), (aQN, .inl (cyI, 20, .inl nm3_12)), (aQL, .inl (cyI, 20, .inl lo3_13)), (aQU, .inl (cyI, 20, .inl up3_14)), (aI, .inl (cyI, 60, .inl (fun j_ => nI (inp j_)))), (aD, .inr (2, [.ref aR, .ref aDL, .ref aDD, .int (nI n)]))] := by exact hD.sub [0, 2, 3, 4, 5, 6, 7, 8, 9, 1] (by decide) rfl
  rw [hQe]
  exact W.iret (v := nI (rdE n inp (0, row, dg, sz, ng, 0, F2, T2, nm2, lo2, up2) il)) hx hb hr (fun t ht hW => ⟨⟨_, (), rfl, r16, pl3_4, row3_5, dg3_6, sz3_7, ng3_8, cnt3_9, F3_10, T3_11, nm3_12, lo3_13, up3_14, by rw [ht]; exact hP9, va_K.moved hW.alike hK, hD9⟩, hS.F ht⟩) hS.2.2 dX6_firstError_22
set_option maxHeartbeats 4000000 in
set_option maxRecDepth 100000 in
theorem c_X6_isConsistent (l : Launch) (dC : Nat → ClassId) (dI : Nat → Nat → Nat) (cyI cyZ cyJ cyD : ClassId) (aC aD aR aH aS aT aL aI aTM aDL aDD aRF aRT aRN aRL aRU : Nat) (zH : Nat) (il : Nat) (v : Nat → Int32) (n : Nat) (F : Nat → Nat) (T : Nat → Nat) (nm : Nat → Int32) (lo : Nat → Int32) (up : Nat → Int32) (cnt : Nat) (hn : n ≤ 12) (hc : cnt ≤ 20) (hF : ∀ d_q, d_q < cnt → F d_q < 12) (hT : ∀ d_q, d_q < cnt → T d_q < 12) : Met l yX6_isConsistent wsX6_isConsistent ({ frames := 4, cells := 0, slots := 0, locals := 94 } : Room) (va_Pc [.ref aC] (fun U => U.heap.size = zH ∧ va_P (dC, dI) vwCl [(aC, .inr (6, [.ref aD, .ref aR, .ref aH, .ref aS, .ref aT, .ref aL, .ref aI, .int (nI il)])), (aT, .inr (5, [.ref aD, .ref aTM])), (aTM, .inl (cyI, 144, .inl v)), (aD, .inr (2, [.ref aR, .ref aDL, .ref aDD, .int (nI n)])), (aR, .inr (1, [.ref aRF, .ref aRT, .ref aRN, .ref aRL, .ref aRU, .int (nI cnt)])), (aRF, .inl (cyI, 20, .inl (fun j_ => nI (F j_)))), (aRT, .inl (cyI, 20, .inl (fun j_ => nI (T j_)))), (aRN, .inl (cyI, 20, .inl nm)), (aRL, .inl (cyI, 20, .inl lo)), (aRU, .inl (cyI, 20, .inl up))] U.heap ∧ va_K (dC, dI) vwCl [(cyI, .int), (cyZ, .boolean), (cyJ, .long), (cyD, .double)] U ∧ va_D (fun _ => True) [(aC, .inr (6, [.ref aD, .ref aR, .ref aH, .ref aS, .ref aT, .ref aL, .ref aI, .int (nI il)])), (aT, .inr (5, [.ref aD, .ref aTM])), (aTM, .inl (cyI, 144, .inl v)), (aD, .inr (2, [.ref aR, .ref aDL, .ref aDD, .int (nI n)])), (aR, .inr (1, [.ref aRF, .ref aRT, .ref aRN, .ref aRL, .ref aRU, .int (nI cnt)])), (aRF, .inl (cyI, 20, .inl (fun j_ => nI (F j_)))), (aRT, .inl (cyI, 20, .inl (fun j_ => nI (T j_)))), (aRN, .inl (cyI, 20, .inl nm)), (aRL, .inl (cyI, 20, .inl lo)), (aRU, .inl (cyI, 20, .inl up))])) (va_Qi (fun (r : Int32) (_ : Unit) => r = bI (stB n (tdD F T nm lo up (tdI (flI v 1000000000 144) n) cnt) n)) (fun _ t => ∃ (v2 : Nat → Int32), (stB n (tdD F T nm lo up (tdI (flI v 1000000000 144) n) cnt) n = true → v2 = stV n (tdD F T nm lo up (tdI (flI v 1000000000 144) n) cnt) n) ∧ va_P (dC, dI) vwCl [(aC, .inr (6, [.ref aD, .ref aR, .ref aH, .ref aS, .ref aT, .ref aL, .ref aI, .int (nI il)])), (aT, .inr (5, [.ref aD, .ref aTM])), (aTM, .inl (cyI, 144, .inl v2)), (aD, .inr (2, [.ref aR, .ref aDL, .ref aDD, .int (nI n)])), (aR, .inr (1, [.ref aRF, .ref aRT, .ref aRN, .ref aRL, .ref aRU, .int (nI cnt)])), (aRF, .inl (cyI, 20, .inl (fun j_ => nI (F j_)))), (aRT, .inl (cyI, 20, .inl (fun j_ => nI (T j_)))), (aRN, .inl (cyI, 20, .inl nm)), (aRL, .inl (cyI, 20, .inl lo)), (aRU, .inl (cyI, 20, .inl up))] t.heap ∧ va_K (dC, dI) vwCl [(cyI, .int), (cyZ, .boolean), (cyJ, .long), (cyD, .double)] t ∧ va_D (va_A [(aC, .inr (6, [.ref aD, .ref aR, .ref aH, .ref aS, .ref aT, .ref aL, .ref aI, .int (nI il)])), (aT, .inr (5, [.ref aD, .ref aTM])), (aTM, .inl (cyI, 144, .inl v)), (aD, .inr (2, [.ref aR, .ref aDL, .ref aDD, .int (nI n)])), (aR, .inr (1, [.ref aRF, .ref aRT, .ref aRN, .ref aRL, .ref aRU, .int (nI cnt)])), (aRF, .inl (cyI, 20, .inl (fun j_ => nI (F j_)))), (aRT, .inl (cyI, 20, .inl (fun j_ => nI (T j_)))), (aRN, .inl (cyI, 20, .inl nm)), (aRL, .inl (cyI, 20, .inl lo)), (aRU, .inl (cyI, 20, .inl up))] zH) [(aC, .inr (6, [.ref aD, .ref aR, .ref aH, .ref aS, .ref aT, .ref aL, .ref aI, .int (nI il)])), (aT, .inr (5, [.ref aD, .ref aTM])), (aTM, .inl (cyI, 144, .inl v2)), (aD, .inr (2, [.ref aR, .ref aDL, .ref aDD, .int (nI n)])), (aR, .inr (1, [.ref aRF, .ref aRT, .ref aRN, .ref aRL, .ref aRU, .int (nI cnt)])), (aRF, .inl (cyI, 20, .inl (fun j_ => nI (F j_)))), (aRT, .inl (cyI, 20, .inl (fun j_ => nI (T j_)))), (aRN, .inl (cyI, 20, .inl nm)), (aRL, .inl (cyI, 20, .inl lo)), (aRU, .inl (cyI, 20, .inl up))]) (va_A [(aC, .inr (6, [.ref aD, .ref aR, .ref aH, .ref aS, .ref aT, .ref aL, .ref aI, .int (nI il)])), (aT, .inr (5, [.ref aD, .ref aTM])), (aTM, .inl (cyI, 144, .inl v)), (aD, .inr (2, [.ref aR, .ref aDL, .ref aDD, .int (nI n)])), (aR, .inr (1, [.ref aRF, .ref aRT, .ref aRN, .ref aRL, .ref aRU, .int (nI cnt)])), (aRF, .inl (cyI, 20, .inl (fun j_ => nI (F j_)))), (aRT, .inl (cyI, 20, .inl (fun j_ => nI (T j_)))), (aRN, .inl (cyI, 20, .inl nm)), (aRL, .inl (cyI, 20, .inl lo)), (aRU, .inl (cyI, 20, .inl up))] zH)) 0 0 (va_A [(aC, .inr (6, [.ref aD, .ref aR, .ref aH, .ref aS, .ref aT, .ref aL, .ref aI, .int (nI il)])), (aT, .inr (5, [.ref aD, .ref aTM])), (aTM, .inl (cyI, 144, .inl v)), (aD, .inr (2, [.ref aR, .ref aDL, .ref aDD, .int (nI n)])), (aR, .inr (1, [.ref aRF, .ref aRT, .ref aRN, .ref aRL, .ref aRU, .int (nI cnt)])), (aRF, .inl (cyI, 20, .inl (fun j_ => nI (F j_)))), (aRT, .inl (cyI, 20, .inl (fun j_ => nI (T j_)))), (aRN, .inl (cyI, 20, .inl nm)), (aRL, .inl (cyI, 20, .inl lo)), (aRU, .inl (cyI, 20, .inl up))] zH) := by
  refine Met.ofW (cc := cX6_isConsistent) (maxL := 1) (ret := (some .boolean)) (by decide) rfl ?_
  intro pM eM s mM args blM mtM cM s₁ BM hml hv
  obtain ⟨rfl, hsz, hP, hK, hD0⟩ := hv
  have hx := BM.exec
  have hb := BM.bytes
  have hr := BM.returns
  have hts := atoms_spec (ws := wsX6_isConsistent) BM.pre
  have hown : s.vm.findClass RX6 = some mM.cls := findClass_of_methodNamed BM.named
  have hlocks := BM.notSynchronized
  have w0 := hts (.fieldLink RX6 44 "DimensionChecker" "limits" "LDimensionChecker$TightLimits;") (by decide +kernel)
  have iX6 : ∀ w ∈ wsX60, w ∈ wsX6_isConsistent := by decide +kernel
  subst hsz
  have hD := hD0.self (sz := s.heap.size)
  obtain ⟨Q, hQe⟩ : ∃ Q : State → Prop, Q = MQ blM (va_Qi (fun (r : Int32) (_ : Unit) => r = bI (stB n (tdD F T nm lo up (tdI (flI v 1000000000 144) n) cnt) n)) (fun _ t => ∃ (v2 : Nat → Int32), (stB n (tdD F T nm lo up (tdI (flI v 1000000000 144) n) cnt) n = true → v2 = stV n (tdD F T nm lo up (tdI (flI v 1000000000 144) n) cnt) n) ∧ va_P (dC, dI) vwCl [(aC, .inr (6, [.ref aD, .ref aR, .ref aH, .ref aS, .ref aT, .ref aL, .ref aI, .int (nI il)])), (aT, .inr (5, [.ref aD, .ref aTM])), (aTM, .inl (cyI, 144, .inl v2)), (aD, .inr (2, [.ref aR, .ref aDL, .ref aDD, .int (nI n)])), (aR, .inr (1, [.ref aRF, .ref aRT, .ref aRN, .ref aRL, .ref aRU, .int (nI cnt)])), (aRF, .inl (cyI, 20, .inl (fun j_ => nI (F j_)))), (aRT, .inl (cyI, 20, .inl (fun j_ => nI (T j_)))), (aRN, .inl (cyI, 20, .inl nm)), (aRL, .inl (cyI, 20, .inl lo)), (aRU, .inl (cyI, 20, .inl up))] t.heap ∧ va_K (dC, dI) vwCl [(cyI, .int), (cyZ, .boolean), (cyJ, .long), (cyD, .double)] t ∧ va_D (va_A [(aC, .inr (6, [.ref aD, .ref aR, .ref aH, .ref aS, .ref aT, .ref aL, .ref aI, .int (nI il)])), (aT, .inr (5, [.ref aD, .ref aTM])), (aTM, .inl (cyI, 144, .inl v)), (aD, .inr (2, [.ref aR, .ref aDL, .ref aDD, .int (nI n)])), (aR, .inr (1, [.ref aRF, .ref aRT, .ref aRN, .ref aRL, .ref aRU, .int (nI cnt)])), (aRF, .inl (cyI, 20, .inl (fun j_ => nI (F j_)))), (aRT, .inl (cyI, 20, .inl (fun j_ => nI (T j_)))), (aRN, .inl (cyI, 20, .inl nm)), (aRL, .inl (cyI, 20, .inl lo)), (aRU, .inl (cyI, 20, .inl up))] s.heap.size) [(aC, .inr (6, [.ref aD, .ref aR, .ref aH, .ref aS, .ref aT, .ref aL, .ref aI, .int (nI il)])), (aT, .inr (5, [.ref aD, .ref aTM])), (aTM, .inl (cyI, 144, .inl v2)), (aD, .inr (2, [.ref aR, .ref aDL, .ref aDD, .int (nI n)])), (aR, .inr (1, [.ref aRF, .ref aRT, .ref aRN, .ref aRL, .ref aRU, .int (nI cnt)])), (aRF, .inl (cyI, 20, .inl (fun j_ => nI (F j_)))), (aRT, .inl (cyI, 20, .inl (fun j_ => nI (T j_)))), (aRN, .inl (cyI, 20, .inl nm)), (aRL, .inl (cyI, 20, .inl lo)), (aRU, .inl (cyI, 20, .inl up))]) (va_A [(aC, .inr (6, [.ref aD, .ref aR, .ref aH, .ref aS, .ref aT, .ref aL, .ref aI, .int (nI il)])), (aT, .inr (5, [.ref aD, .ref aTM])), (aTM, .inl (cyI, 144, .inl v)), (aD, .inr (2, [.ref aR, .ref aDL, .ref aDD, .int (nI n)])), (aR, .inr (1, [.ref aRF, .ref aRT, .ref aRN, .ref aRL, .ref aRU, .int (nI cnt)])), (aRF, .inl (cyI, 20, .inl (fun j_ => nI (F j_)))), (aRT, .inl (cyI, 20, .inl (fun j_ => nI (T j_)))), (aRN, .inl (cyI, 20, .inl nm)), (aRL, .inl (cyI, 20, .inl lo)), (aRU, .inl (cyI, 20, .inl up))] s.heap.size)) ([.ref aC] : List Value).toArray s 0 0 (va_A [(aC, .inr (6, [.ref aD, .ref aR, .ref aH, .ref aS, .ref aT, .ref aL, .ref aI, .int (nI il)])), (aT, .inr (5, [.ref aD, .ref aTM])), (aTM, .inl (cyI, 144, .inl v)), (aD, .inr (2, [.ref aR, .ref aDL, .ref aDD, .int (nI n)])), (aR, .inr (1, [.ref aRF, .ref aRT, .ref aRN, .ref aRL, .ref aRU, .int (nI cnt)])), (aRF, .inl (cyI, 20, .inl (fun j_ => nI (F j_)))), (aRT, .inl (cyI, 20, .inl (fun j_ => nI (T j_)))), (aRN, .inl (cyI, 20, .inl nm)), (aRL, .inl (cyI, 20, .inl lo)), (aRU, .inl (cyI, 20, .inl up))] s.heap.size) := ⟨_, rfl⟩
  rw [← hQe]
  generalize hAe : va_A [(aC, .inr (6, [.ref aD, .ref aR, .ref aH, .ref aS, .ref aT, .ref aL, .ref aI, .int (nI il)])), (aT, .inr (5, [.ref aD, .ref aTM])), (aTM, .inl (cyI, 144, .inl v)), (aD, .inr (2, [.ref aR, .ref aDL, .ref aDD, .int (nI n)])), (aR, .inr (1, [.ref aRF, .ref aRT, .ref aRN, .ref aRL, .ref aRU, .int (nI cnt)])), (aRF, .inl (cyI, 20, .inl (fun j_ => nI (F j_)))), (aRT, .inl (cyI, 20, .inl (fun j_ => nI (T j_)))), (aRN, .inl (cyI, 20, .inl nm)), (aRL, .inl (cyI, 20, .inl lo)), (aRU, .inl (cyI, 20, .inl up))] s.heap.size = A at hD hQe
  have hA : ∀ q : Nat, s.heap.size ≤ q → A q := fun q h => by rw [← hAe]; exact Or.inr h
  obtain ⟨H, hHe⟩ : ∃ H : Heap, H = s.heap := ⟨_, rfl⟩
  have hS : va_S A s.heap H [] := by rw [hHe]; exact va_S.rf
  rw [← hHe] at hP ⊢
  have hl := lv_entry ([.ref aC]) (n := 1) (Nat.le_of_ble_eq_true rfl)
  rw [lg_entry_eq]
  generalize (lg_sl ([.ref aC]) ++ List.replicate (1 - (lg_sl ([.ref aC])).length) Slot.unset).toArray = ls at hl ⊢
  have hl : lv_has ls 1 [(0, .ref aC)] := hl
  refine lv_aload_n hx hb dX6_isConsistent_0 rfl (lv_at hl 0 rfl) ?_
  refine va_get (D := (dC, dI)) (ci := 6) (v := .ref aT) (C := RX6) (T := TX6) (N := 8) hx hb hts iX6 hown hK hP 0 rfl rfl 4 (by decide) w0 (fun _ h9 => h9) rfl dX6_isConsistent_1 ?_
  have g1 : n ≤ 12 := by first | assumption | omega | exact vp_in_nI (by omega) (by omega)
  have g2 : cnt ≤ 20 := by first | assumption | omega | exact vp_in_nI (by omega) (by omega)
  have g3 : ∀ d_q, d_q < cnt → F d_q < 12 := by first | assumption | omega | exact vp_in_nI (by omega) (by omega)
  have g4 : ∀ d_q, d_q < cnt → T d_q < 12 := by first | assumption | omega | exact vp_in_nI (by omega) (by omega)
  have hPc := hP.sub (ws' := [(aT, .inr (5, [.ref aD, .ref aTM])), (aTM, .inl (cyI, 144, .inl v)), (aD, .inr (2, [.ref aR, .ref aDL, .ref aDD, .int (nI n)])), (aR, .inr (1, [.ref aRF, .ref aRT, .ref aRN, .ref aRL, .ref aRU, .int (nI cnt)])), (aRF, .inl (cyI, 20, .inl (fun j_ => nI (F j_)))), (aRT, .inl (cyI, 20, .inl (fun j_ => nI (T j_)))), (aRN, .inl (cyI, 20, .inl nm)), (aRL, .inl (cyI, 20, .inl lo)), (aRU, .inl (cyI, 20, .inl up))]) [1, 2, 3, 4, 5, 6, 7, 8, 9] rfl
  have hDc := hD.sub (ws' := [(aT, .inr (5, [.ref aD, .ref aTM])), (aTM, .inl (cyI, 144, .inl v)), (aD, .inr (2, [.ref aR, .ref aDL, .ref aDD, .int (nI n)])), (aR, .inr (1, [.ref aRF, .ref aRT, .ref aRN, .ref aRL, .ref aRU, .int (nI cnt)])), (aRF, .inl (cyI, 20, .inl (fun j_ => nI (F j_)))), (aRT, .inl (cyI, 20, .inl (fun j_ => nI (T j_)))), (aRN, .inl (cyI, 20, .inl nm)), (aRL, .inl (cyI, 20, .inl lo)), (aRU, .inl (cyI, 20, .inl up))]) [1, 2, 3, 4, 5, 6, 7, 8, 9] (by decide) rfl
  have hFc := va_free (wc := [(aT, .inr (5, [.ref aD, .ref aTM])), (aTM, .inl (cyI, 144, .inl v)), (aD, .inr (2, [.ref aR, .ref aDL, .ref aDD, .int (nI n)])), (aR, .inr (1, [.ref aRF, .ref aRT, .ref aRN, .ref aRL, .ref aRU, .int (nI cnt)])), (aRF, .inl (cyI, 20, .inl (fun j_ => nI (F j_)))), (aRT, .inl (cyI, 20, .inl (fun j_ => nI (T j_)))), (aRN, .inl (cyI, 20, .inl nm)), (aRL, .inl (cyI, 20, .inl lo)), (aRU, .inl (cyI, 20, .inl up))]) hD hS hA [1, 2, 3, 4, 5, 6, 7, 8, 9] rfl
  refine va_calli (va_runV (As := []) (rest := []) ⟨hx, hb, hml, hown, hts⟩ (c_X5_settle l dC dI cyI cyZ cyJ cyD aT aD aTM aR aDL aDD aRF aRT aRN aRL aRU H.size v n F T nm lo up cnt g1 g2 g3 g4) (cwV 0 hts gX6_isConsistent_X5_settle rfl rfl rfl (by decide +kernel) ⟨Nat.le_of_ble_eq_true rfl, Nat.le_of_ble_eq_true rfl⟩) ⟨fun a U g mk q => by obtain ⟨q0, q1, qP, qK, qD⟩ := q; exact ⟨q0, q1, qP, va_K.moved (u := U) (U := U.calling g mk a) (Vm.Alike.refl U.vm) qK, qD⟩, va_recv hK hPc (ci := 5) (q0 := 0) rfl rfl, fun U hU hW => ⟨rfl, by rw [hU], by rw [hU]; exact hPc, va_K.moved hW.alike hK, hDc.weaken (fun _ _ _ _ => trivial)⟩⟩ rfl rfl hl.1 rfl (lv_room (Nat.le_of_ble_eq_true rfl)) dX6_isConsistent_4 ⟨Nat.le_of_ble_eq_true rfl, Nat.le_of_ble_eq_true rfl⟩) hS (fun q _ h => hFc q h) hFc (fun r u t H1 locs ht hvm hw hB hz1 hk1 hS => ?_)
  obtain rfl := hw
  obtain ⟨v2_5, hp8, hP1, hK1, hD1⟩ := hB
  rw [ht] at hP1
  obtain ⟨hP, hD⟩ := va_join (wr := [(aC, .inr (6, [.ref aD, .ref aR, .ref aH, .ref aS, .ref aT, .ref aL, .ref aI, .int (nI il)]))]) (w1 := [(aT, .inr (5, [.ref aD, .ref aTM])), (aTM, .inl (cyI, 144, .inl v2_5)), (aD, .inr (2, [.ref aR, .ref aDL, .ref aDD, .int (nI n)])), (aR, .inr (1, [.ref aRF, .ref aRT, .ref aRN, .ref aRL, .ref aRU, .int (nI cnt)])), (aRF, .inl (cyI, 20, .inl (fun j_ => nI (F j_)))), (aRT, .inl (cyI, 20, .inl (fun j_ => nI (T j_)))), (aRN, .inl (cyI, 20, .inl nm)), (aRL, .inl (cyI, 20, .inl lo)), (aRU, .inl (cyI, 20, .inl up))]) hP hD [1, 2, 3, 4, 5, 6, 7, 8, 9] [0] rfl rfl (by decide) (by decide) hk1 hFc hP1 hD1
  clear hP1 hD1 hK1 hPc hDc hFc hk1 hz1 hvm ht u t
  generalize H1 = H at hP hS ⊢
  have hP : va_P (dC, dI) vwCl [(aC, .inr (6, [.ref aD, .ref aR, .ref aH, .ref aS, .ref aT, .ref aL, .ref aI, .int (nI il)])), (aT, .inr (5, [.ref aD, .ref aTM])), (aTM, .inl (cyI, 144, .inl v2_5)), (aD, .inr (2, [.ref aR, .ref aDL, .ref aDD, .int (nI n)])), (aR, .inr (1, [.ref aRF, .ref aRT, .ref aRN, .ref aRL, .ref aRU, .int (nI cnt)])), (aRF, .inl (cyI, 20, .inl (fun j_ => nI (F j_)))), (aRT, .inl (cyI, 20, .inl (fun j_ => nI (T j_)))), (aRN, .inl (cyI, 20, .inl nm)), (aRL, .inl (cyI, 20, .inl lo)), (aRU, .inl (cyI, 20, .inl up))] H := hP
  have hD : va_D A [(aC, .inr (6, [.ref aD, .ref aR, .ref aH, .ref aS, .ref aT, .ref aL, .ref aI, .int (nI il)])), (aT, .inr (5, [.ref aD, .ref aTM])), (aTM, .inl (cyI, 144, .inl v2_5)), (aD, .inr (2, [.ref aR, .ref aDL, .ref aDD, .int (nI n)])), (aR, .inr (1, [.ref aRF, .ref aRT, .ref aRN, .ref aRL, .ref aRU, .int (nI cnt)])), (aRF, .inl (cyI, 20, .inl (fun j_ => nI (F j_)))), (aRT, .inl (cyI, 20, .inl (fun j_ => nI (T j_)))), (aRN, .inl (cyI, 20, .inl nm)), (aRL, .inl (cyI, 20, .inl lo)), (aRU, .inl (cyI, 20, .inl up))] := hD
  have r7 : (bI (stB n (tdD F T nm lo up (tdI (flI v 1000000000 144) n) cnt) n)) = (bI (stB n (tdD F T nm lo up (tdI (flI v 1000000000 144) n) cnt) n)) := by rfl
  have hP9 : va_P (dC, dI) vwCl [(aC, .inr (6, [.ref aD, .ref aR, .ref aH, .ref aS, .ref aT, .ref aL, .ref aI, .int (nI il)])), (aT, .inr (5, [.ref aD, .ref aTM])), (aTM, .inl (cyI, 144, .inl v2_5)), (aD, .inr (2, [.ref aR, .ref aDL, .ref aDD, .int (nI n)])), (aR, .inr (1, [.ref aRF, .ref aRT, .ref aRN, .ref aRL, .ref aRU, .int (nI cnt)])), (aRF, .inl (cyI, 20, .inl (fun j_ => nI (F j_)))), (aRT, .inl (cyI, 20, .inl (fun j_ => nI (T j_)))), (aRN, .inl (cyI, 20, .inl nm)), (aRL, .inl (cyI, 20, .inl lo)), (aRU, .inl (cyI, 20, .inl up))] H := by exact hP.sub [0, 1, 2, 3, 4, 5, 6, 7, 8, 9] rfl
  have hD9 : va_D A [(aC, .inr (6, [.ref aD, .ref aR, .ref aH, .ref aS, .ref aT, .ref aL, .ref aI, .int (nI il)])), (aT, .inr (5, [.ref aD, .ref aTM])), (aTM, .inl (cyI, 144, .inl v2_5)), (aD, .inr (2, [.ref aR, .ref aDL, .ref aDD, .int (nI n)])), (aR, .inr (1, [.ref aRF, .ref aRT, .ref aRN, .ref aRL, .ref aRU, .int (nI cnt)])), (aRF, .inl (cyI, 20, .inl (fun j_ => nI (F j_)))), (aRT, .inl (cyI, 20, .inl (fun j_ => nI (T j_)))), (aRN, .inl (cyI, 20, .inl nm)), (aRL, .inl (cyI, 20, .inl lo)), (aRU, .inl (cyI, 20, .inl up))] := by exact hD.sub [0, 1, 2, 3, 4, 5, 6, 7, 8, 9] (by decide) rfl
  have p8 : stB n (tdD F T nm lo up (tdI (flI v 1000000000 144) n) cnt) n = true → v2_5 = stV n (tdD F T nm lo up (tdI (flI v 1000000000 144) n) cnt) n := by exact hp8
  rw [hQe]
  exact W.zret (v := bI (stB n (tdD F T nm lo up (tdI (flI v 1000000000 144) n) cnt) n)) hx hb hr (bI_nar _) (fun t ht hW => ⟨⟨_, (), rfl, r7, v2_5, p8, by rw [ht]; exact hP9, va_K.moved hW.alike hK, hD9⟩, hS.F ht⟩) hS.2.2 dX6_isConsistent_7
set_option maxHeartbeats 4000000 in
set_option maxRecDepth 100000 in
theorem c_X6_mixDimensions (l : Launch) (dC : Nat → ClassId) (dI : Nat → Nat → Nat) (cyI cyZ cyJ cyD : ClassId) (aC aD aR aH aS aT aL aI aDL aDD aRF aRT aRN aRL aRU : Nat) (zH : Nat) (il : Nat) (hs : Int64) (n : Nat) (dd : Nat → Bool) (F : Nat → Nat) (T : Nat → Nat) (nm : Nat → Int32) (lo : Nat → Int32) (up : Nat → Int32) (cnt : Nat) (hc : cnt ≤ 20) (hdd : ∀ d_q, d_q < cnt → dd d_q = Dd F T d_q) : Met l yX6_mixDimensions wsX6_mixDimensions ({ frames := 1, cells := 0, slots := 0, locals := 23 } : Room) (va_Pc [.ref aC, .long hs] (fun U => U.heap.size = zH ∧ va_P (dC, dI) vwCl [(aC, .inr (6, [.ref aD, .ref aR, .ref aH, .ref aS, .ref aT, .ref aL, .ref aI, .int (nI il)])), (aD, .inr (2, [.ref aR, .ref aDL, .ref aDD, .int (nI n)])), (aDD, .inl (cyZ, 20, .inl (fun j_ => bI (dd j_)))), (aR, .inr (1, [.ref aRF, .ref aRT, .ref aRN, .ref aRL, .ref aRU, .int (nI cnt)])), (aRF, .inl (cyI, 20, .inl (fun j_ => nI (F j_)))), (aRT, .inl (cyI, 20, .inl (fun j_ => nI (T j_)))), (aRN, .inl (cyI, 20, .inl nm)), (aRL, .inl (cyI, 20, .inl lo)), (aRU, .inl (cyI, 20, .inl up))] U.heap ∧ va_K (dC, dI) vwCl [(cyI, .int), (cyZ, .boolean), (cyJ, .long), (cyD, .double)] U ∧ va_D (fun _ => True) [(aC, .inr (6, [.ref aD, .ref aR, .ref aH, .ref aS, .ref aT, .ref aL, .ref aI, .int (nI il)])), (aD, .inr (2, [.ref aR, .ref aDL, .ref aDD, .int (nI n)])), (aDD, .inl (cyZ, 20, .inl (fun j_ => bI (dd j_)))), (aR, .inr (1, [.ref aRF, .ref aRT, .ref aRN, .ref aRL, .ref aRU, .int (nI cnt)])), (aRF, .inl (cyI, 20, .inl (fun j_ => nI (F j_)))), (aRT, .inl (cyI, 20, .inl (fun j_ => nI (T j_)))), (aRN, .inl (cyI, 20, .inl nm)), (aRL, .inl (cyI, 20, .inl lo)), (aRU, .inl (cyI, 20, .inl up))])) (va_Ql (fun (r : Int64) (_ : Unit) => r = dgD F T nm lo up (31 * hs + (nI cnt).toInt64) cnt) (fun _ t => va_P (dC, dI) vwCl [(aC, .inr (6, [.ref aD, .ref aR, .ref aH, .ref aS, .ref aT, .ref aL, .ref aI, .int (nI il)])), (aD, .inr (2, [.ref aR, .ref aDL, .ref aDD, .int (nI n)])), (aDD, .inl (cyZ, 20, .inl (fun j_ => bI (dd j_)))), (aR, .inr (1, [.ref aRF, .ref aRT, .ref aRN, .ref aRL, .ref aRU, .int (nI cnt)])), (aRF, .inl (cyI, 20, .inl (fun j_ => nI (F j_)))), (aRT, .inl (cyI, 20, .inl (fun j_ => nI (T j_)))), (aRN, .inl (cyI, 20, .inl nm)), (aRL, .inl (cyI, 20, .inl lo)), (aRU, .inl (cyI, 20, .inl up))] t.heap ∧ va_K (dC, dI) vwCl [(cyI, .int), (cyZ, .boolean), (cyJ, .long), (cyD, .double)] t ∧ va_D (va_A [(aC, .inr (6, [.ref aD, .ref aR, .ref aH, .ref aS, .ref aT, .ref aL, .ref aI, .int (nI il)])), (aD, .inr (2, [.ref aR, .ref aDL, .ref aDD, .int (nI n)])), (aDD, .inl (cyZ, 20, .inl (fun j_ => bI (dd j_)))), (aR, .inr (1, [.ref aRF, .ref aRT, .ref aRN, .ref aRL, .ref aRU, .int (nI cnt)])), (aRF, .inl (cyI, 20, .inl (fun j_ => nI (F j_)))), (aRT, .inl (cyI, 20, .inl (fun j_ => nI (T j_)))), (aRN, .inl (cyI, 20, .inl nm)), (aRL, .inl (cyI, 20, .inl lo)), (aRU, .inl (cyI, 20, .inl up))] zH) [(aC, .inr (6, [.ref aD, .ref aR, .ref aH, .ref aS, .ref aT, .ref aL, .ref aI, .int (nI il)])), (aD, .inr (2, [.ref aR, .ref aDL, .ref aDD, .int (nI n)])), (aDD, .inl (cyZ, 20, .inl (fun j_ => bI (dd j_)))), (aR, .inr (1, [.ref aRF, .ref aRT, .ref aRN, .ref aRL, .ref aRU, .int (nI cnt)])), (aRF, .inl (cyI, 20, .inl (fun j_ => nI (F j_)))), (aRT, .inl (cyI, 20, .inl (fun j_ => nI (T j_)))), (aRN, .inl (cyI, 20, .inl nm)), (aRL, .inl (cyI, 20, .inl lo)), (aRU, .inl (cyI, 20, .inl up))]) (va_A [(aC, .inr (6, [.ref aD, .ref aR, .ref aH, .ref aS, .ref aT, .ref aL, .ref aI, .int (nI il)])), (aD, .inr (2, [.ref aR, .ref aDL, .ref aDD, .int (nI n)])), (aDD, .inl (cyZ, 20, .inl (fun j_ => bI (dd j_)))), (aR, .inr (1, [.ref aRF, .ref aRT, .ref aRN, .ref aRL, .ref aRU, .int (nI cnt)])), (aRF, .inl (cyI, 20, .inl (fun j_ => nI (F j_)))), (aRT, .inl (cyI, 20, .inl (fun j_ => nI (T j_)))), (aRN, .inl (cyI, 20, .inl nm)), (aRL, .inl (cyI, 20, .inl lo)), (aRU, .inl (cyI, 20, .inl up))] zH)) 0 0 (va_A [(aC, .inr (6, [.ref aD, .ref aR, .ref aH, .ref aS, .ref aT, .ref aL, .ref aI, .int (nI il)])), (aD, .inr (2, [.ref aR, .ref aDL, .ref aDD, .int (nI n)])), (aDD, .inl (cyZ, 20, .inl (fun j_ => bI (dd j_)))), (aR, .inr (1, [.ref aRF, .ref aRT, .ref aRN, .ref aRL, .ref aRU, .int (nI cnt)])), (aRF, .inl (cyI, 20, .inl (fun j_ => nI (F j_)))), (aRT, .inl (cyI, 20, .inl (fun j_ => nI (T j_)))), (aRN, .inl (cyI, 20, .inl nm)), (aRL, .inl (cyI, 20, .inl lo)), (aRU, .inl (cyI, 20, .inl up))] zH) := by
  refine Met.ofW (cc := cX6_mixDimensions) (maxL := 6) (ret := (some .long)) (by decide) rfl ?_
  intro pM eM s mM args blM mtM cM s₁ BM hml hv
  obtain ⟨rfl, hsz, hP, hK, hD0⟩ := hv
  have hx := BM.exec
  have hb := BM.bytes
  have hr := BM.returns
  have hts := atoms_spec (ws := wsX6_mixDimensions) BM.pre
  have hown : s.vm.findClass RX6 = some mM.cls := findClass_of_methodNamed BM.named
  have hlocks := BM.notSynchronized
  have w0 := hts (.fieldLink RX6 22 "DimensionChecker" "rows" "LDimensionChecker$Dimensions;") (by decide +kernel)
  have w1 := hts (.fieldLink RX6 70 "DimensionChecker$Dimensions" "count" "I") (by decide +kernel)
  have w2 := hts (.fieldLink RX6 140 "DimensionChecker$Dimensions" "from" "[I") (by decide +kernel)
  have w3 := hts (.fieldLink RX6 143 "DimensionChecker$Dimensions" "to" "[I") (by decide +kernel)
  have w4 := hts (.fieldLink RX6 146 "DimensionChecker$Dimensions" "nominal" "[I") (by decide +kernel)
  have w5 := hts (.fieldLink RX6 116 "DimensionChecker$Dimensions" "lower" "[I") (by decide +kernel)
  have w6 := hts (.fieldLink RX6 119 "DimensionChecker$Dimensions" "upper" "[I") (by decide +kernel)
  have w7 := hts (.fieldLink RX6 14 "DimensionChecker" "drawing" "LDimensionChecker$Drawing;") (by decide +kernel)
  have w8 := hts (.fieldLink RX6 173 "DimensionChecker$Drawing" "doubled" "[Z") (by decide +kernel)
  have iX6 : ∀ w ∈ wsX60, w ∈ wsX6_mixDimensions := by decide +kernel
  have iX1 : ∀ w ∈ wsX10, w ∈ wsX6_mixDimensions := by decide +kernel
  have iX2 : ∀ w ∈ wsX20, w ∈ wsX6_mixDimensions := by decide +kernel
  subst hsz
  have hD := hD0.self (sz := s.heap.size)
  obtain ⟨Q, hQe⟩ : ∃ Q : State → Prop, Q = MQ blM (va_Ql (fun (r : Int64) (_ : Unit) => r = dgD F T nm lo up (31 * hs + (nI cnt).toInt64) cnt) (fun _ t => va_P (dC, dI) vwCl [(aC, .inr (6, [.ref aD, .ref aR, .ref aH, .ref aS, .ref aT, .ref aL, .ref aI, .int (nI il)])), (aD, .inr (2, [.ref aR, .ref aDL, .ref aDD, .int (nI n)])), (aDD, .inl (cyZ, 20, .inl (fun j_ => bI (dd j_)))), (aR, .inr (1, [.ref aRF, .ref aRT, .ref aRN, .ref aRL, .ref aRU, .int (nI cnt)])), (aRF, .inl (cyI, 20, .inl (fun j_ => nI (F j_)))), (aRT, .inl (cyI, 20, .inl (fun j_ => nI (T j_)))), (aRN, .inl (cyI, 20, .inl nm)), (aRL, .inl (cyI, 20, .inl lo)), (aRU, .inl (cyI, 20, .inl up))] t.heap ∧ va_K (dC, dI) vwCl [(cyI, .int), (cyZ, .boolean), (cyJ, .long), (cyD, .double)] t ∧ va_D (va_A [(aC, .inr (6, [.ref aD, .ref aR, .ref aH, .ref aS, .ref aT, .ref aL, .ref aI, .int (nI il)])), (aD, .inr (2, [.ref aR, .ref aDL, .ref aDD, .int (nI n)])), (aDD, .inl (cyZ, 20, .inl (fun j_ => bI (dd j_)))), (aR, .inr (1, [.ref aRF, .ref aRT, .ref aRN, .ref aRL, .ref aRU, .int (nI cnt)])), (aRF, .inl (cyI, 20, .inl (fun j_ => nI (F j_)))), (aRT, .inl (cyI, 20, .inl (fun j_ => nI (T j_)))), (aRN, .inl (cyI, 20, .inl nm)), (aRL, .inl (cyI, 20, .inl lo)), (aRU, .inl (cyI, 20, .inl up))] s.heap.size) [(aC, .inr (6, [.ref aD, .ref aR, .ref aH, .ref aS, .ref aT, .ref aL, .ref aI, .int (nI il)])), (aD, .inr (2, [.ref aR, .ref aDL, .ref aDD, .int (nI n)])), (aDD, .inl (cyZ, 20, .inl (fun j_ => bI (dd j_)))), (aR, .inr (1, [.ref aRF, .ref aRT, .ref aRN, .ref aRL, .ref aRU, .int (nI cnt)])), (aRF, .inl (cyI, 20, .inl (fun j_ => nI (F j_)))), (aRT, .inl (cyI, 20, .inl (fun j_ => nI (T j_)))), (aRN, .inl (cyI, 20, .inl nm)), (aRL, .inl (cyI, 20, .inl lo)), (aRU, .inl (cyI, 20, .inl up))]) (va_A [(aC, .inr (6, [.ref aD, .ref aR, .ref aH, .ref aS, .ref aT, .ref aL, .ref aI, .int (nI il)])), (aD, .inr (2, [.ref aR, .ref aDL, .ref aDD, .int (nI n)])), (aDD, .inl (cyZ, 20, .inl (fun j_ => bI (dd j_)))), (aR, .inr (1, [.ref aRF, .ref aRT, .ref aRN, .ref aRL, .ref aRU, .int (nI cnt)])), (aRF, .inl (cyI, 20, .inl (fun j_ => nI (F j_)))), (aRT, .inl (cyI, 20, .inl (fun j_ => nI (T j_)))), (aRN, .inl (cyI, 20, .inl nm)), (aRL, .inl (cyI, 20, .inl lo)), (aRU, .inl (cyI, 20, .inl up))] s.heap.size)) ([.ref aC, .long hs] : List Value).toArray s 0 0 (va_A [(aC, .inr (6, [.ref aD, .ref aR, .ref aH, .ref aS, .ref aT, .ref aL, .ref aI, .int (nI il)])), (aD, .inr (2, [.ref aR, .ref aDL, .ref aDD, .int (nI n)])), (aDD, .inl (cyZ, 20, .inl (fun j_ => bI (dd j_)))), (aR, .inr (1, [.ref aRF, .ref aRT, .ref aRN, .ref aRL, .ref aRU, .int (nI cnt)])), (aRF, .inl (cyI, 20, .inl (fun j_ => nI (F j_)))), (aRT, .inl (cyI, 20, .inl (fun j_ => nI (T j_)))), (aRN, .inl (cyI, 20, .inl nm)), (aRL, .inl (cyI, 20, .inl lo)), (aRU, .inl (cyI, 20, .inl up))] s.heap.size) := ⟨_, rfl⟩
  rw [← hQe]
  generalize hAe : va_A [(aC, .inr (6, [.ref aD, .ref aR, .ref aH, .ref aS, .ref aT, .ref aL, .ref aI, .int (nI il)])), (aD, .inr (2, [.ref aR, .ref aDL, .ref aDD, .int (nI n)])), (aDD, .inl (cyZ, 20, .inl (fun j_ => bI (dd j_)))), (aR, .inr (1, [.ref aRF, .ref aRT, .ref aRN, .ref aRL, .ref aRU, .int (nI cnt)])), (aRF, .inl (cyI, 20, .inl (fun j_ => nI (F j_)))), (aRT, .inl (cyI, 20, .inl (fun j_ => nI (T j_)))), (aRN, .inl (cyI, 20, .inl nm)), (aRL, .inl (cyI, 20, .inl lo)), (aRU, .inl (cyI, 20, .inl up))] s.heap.size = A at hD hQe
  have hA : ∀ q : Nat, s.heap.size ≤ q → A q := fun q h => by rw [← hAe]; exact Or.inr h
  obtain ⟨H, hHe⟩ : ∃ H : Heap, H = s.heap := ⟨_, rfl⟩
  have hS : va_S A s.heap H [] := by rw [hHe]; exact va_S.rf
  rw [← hHe] at hP ⊢
  have hl := lv_entry ([.ref aC, .long hs]) (n := 6) (Nat.le_of_ble_eq_true rfl)
  rw [lg_entry_eq]
  generalize (lg_sl ([.ref aC, .long hs]) ++ List.replicate (6 - (lg_sl ([.ref aC, .long hs])).length) Slot.unset).toArray = ls at hl ⊢
  have hl : lv_has ls 6 [(0, .ref aC), (1, .long hs)] := hl
  refine lv_lload_n hx hb dX6_mixDimensions_0 rfl (lv_at hl 1 rfl) ?_
  refine lv_aload_n hx hb dX6_mixDimensions_1 rfl (lv_at hl 0 rfl) ?_
  refine va_get (D := (dC, dI)) (ci := 6) (v := .ref aR) (C := RX6) (T := TX6) (N := 8) hx hb hts iX6 hown hK hP 0 rfl rfl 1 (by decide) w0 (fun _ h9 => h9) rfl dX6_mixDimensions_2 ?_
  refine va_get (D := (dC, dI)) (ci := 1) (v := .int (nI cnt)) (C := RX1) (T := TX1) (N := 6) hx hb hts iX1 hown hK hP 3 rfl rfl 5 (by decide) w1 (fun _ h9 => h9) rfl dX6_mixDimensions_5 ?_
  refine lv_i2l (v := (nI cnt).toInt64) hx hb dX6_mixDimensions_8 rfl ?_
  have hPc := hP.sub (ws' := []) [] rfl
  have hDc := hD.sub (ws' := []) [] (by decide) rfl
  have hFc := va_free (wc := []) hD hS hA [] rfl
  refine va_calll (va_runS (As := [.long hs, .long ((nI cnt).toInt64)]) (rest := []) ⟨hx, hb, hml, hown, hts⟩ (c_X6_mix l dC dI cyI cyZ cyJ cyD H.size hs ((nI cnt).toInt64)) (va_cwS 2 hts gX6_mixDimensions_X6_mix rfl rfl rfl (by decide +kernel) ⟨Nat.le_of_ble_eq_true rfl, Nat.le_of_ble_eq_true rfl⟩) ⟨fun a U g mk q => by obtain ⟨q0, q1, qP, qK, qD⟩ := q; exact ⟨q0, q1, qP, va_K.moved (u := U) (U := U.calling g mk a) (Vm.Alike.refl U.vm) qK, qD⟩, fun U hU hW => ⟨rfl, by rw [hU], by rw [hU]; exact hPc, va_K.moved hW.alike hK, hDc.weaken (fun _ _ _ _ => trivial)⟩⟩ rfl rfl hl.1 rfl (lv_room (Nat.le_of_ble_eq_true rfl)) dX6_mixDimensions_9 ⟨Nat.le_of_ble_eq_true rfl, Nat.le_of_ble_eq_true rfl⟩) hS (fun q _ h => hFc q h) hFc (fun r u t H1 locs ht hvm hw hB hz1 hk1 hS => ?_)
  obtain rfl := hw
  obtain ⟨hP1, hK1, hD1⟩ := hB
  rw [ht] at hP1
  obtain ⟨hP, hD⟩ := va_join (wr := [(aC, .inr (6, [.ref aD, .ref aR, .ref aH, .ref aS, .ref aT, .ref aL, .ref aI, .int (nI il)])), (aD, .inr (2, [.ref aR, .ref aDL, .ref aDD, .int (nI n)])), (aDD, .inl (cyZ, 20, .inl (fun j_ => bI (dd j_)))), (aR, .inr (1, [.ref aRF, .ref aRT, .ref aRN, .ref aRL, .ref aRU, .int (nI cnt)])), (aRF, .inl (cyI, 20, .inl (fun j_ => nI (F j_)))), (aRT, .inl (cyI, 20, .inl (fun j_ => nI (T j_)))), (aRN, .inl (cyI, 20, .inl nm)), (aRL, .inl (cyI, 20, .inl lo)), (aRU, .inl (cyI, 20, .inl up))]) (w1 := []) hP hD [] [0, 1, 2, 3, 4, 5, 6, 7, 8] rfl rfl (by decide) (by decide) hk1 hFc hP1 hD1
  clear hP1 hD1 hK1 hPc hDc hFc hk1 hz1 hvm ht u t
  generalize H1 = H at hP hS ⊢
  have hP : va_P (dC, dI) vwCl [(aC, .inr (6, [.ref aD, .ref aR, .ref aH, .ref aS, .ref aT, .ref aL, .ref aI, .int (nI il)])), (aD, .inr (2, [.ref aR, .ref aDL, .ref aDD, .int (nI n)])), (aDD, .inl (cyZ, 20, .inl (fun j_ => bI (dd j_)))), (aR, .inr (1, [.ref aRF, .ref aRT, .ref aRN, .ref aRL, .ref aRU, .int (nI cnt)])), (aRF, .inl (cyI, 20, .inl (fun j_ => nI (F j_)))), (aRT, .inl (cyI, 20, .inl (fun j_ => nI (T j_)))), (aRN, .inl (cyI, 20, .inl nm)), (aRL, .inl (cyI, 20, .inl lo)), (aRU, .inl (cyI, 20, .inl up))] H := hP
  have hD : va_D A [(aC, .inr (6, [.ref aD, .ref aR, .ref aH, .ref aS, .ref aT, .ref aL, .ref aI, .int (nI il)])), (aD, .inr (2, [.ref aR, .ref aDL, .ref aDD, .int (nI n)])), (aDD, .inl (cyZ, 20, .inl (fun j_ => bI (dd j_)))), (aR, .inr (1, [.ref aRF, .ref aRT, .ref aRN, .ref aRL, .ref aRU, .int (nI cnt)])), (aRF, .inl (cyI, 20, .inl (fun j_ => nI (F j_)))), (aRT, .inl (cyI, 20, .inl (fun j_ => nI (T j_)))), (aRN, .inl (cyI, 20, .inl nm)), (aRL, .inl (cyI, 20, .inl lo)), (aRU, .inl (cyI, 20, .inl up))] := hD
  refine lv_lstore_n (lv' := [(3, .long (31 * hs + ((nI cnt).toInt64))), (0, .ref aC), (1, .long hs)]) hx hb dX6_mixDimensions_12 rfl hl (by decide) rfl (fun ls hl => ?_)
  refine lv_iconst (v := 0) hx hb dX6_mixDimensions_13 (by decide) ?_
  refine lv_istore (lv' := [(5, .int 0), (3, .long (31 * hs + ((nI cnt).toInt64))), (0, .ref aC), (1, .long hs)]) hx hb dX6_mixDimensions_14 hl (by decide) rfl (fun ls hl => ?_)
  have k16 : ∀ (fuel : Nat) (d : Nat) (hfuel : cnt - d < fuel) (hd0 : d ≤ cnt) (H : Heap) (locs : List Loc) (ls : Array Slot), va_P (dC, dI) vwCl [(aC, .inr (6, [.ref aD, .ref aR, .ref aH, .ref aS, .ref aT, .ref aL, .ref aI, .int (nI il)])), (aD, .inr (2, [.ref aR, .ref aDL, .ref aDD, .int (nI n)])), (aDD, .inl (cyZ, 20, .inl (fun j_ => bI (dd j_)))), (aR, .inr (1, [.ref aRF, .ref aRT, .ref aRN, .ref aRL, .ref aRU, .int (nI cnt)])), (aRF, .inl (cyI, 20, .inl (fun j_ => nI (F j_)))), (aRT, .inl (cyI, 20, .inl (fun j_ => nI (T j_)))), (aRN, .inl (cyI, 20, .inl nm)), (aRL, .inl (cyI, 20, .inl lo)), (aRU, .inl (cyI, 20, .inl up))] H → va_D A [(aC, .inr (6, [.ref aD, .ref aR, .ref aH, .ref aS, .ref aT, .ref aL, .ref aI, .int (nI il)])), (aD, .inr (2, [.ref aR, .ref aDL, .ref aDD, .int (nI n)])), (aDD, .inl (cyZ, 20, .inl (fun j_ => bI (dd j_)))), (aR, .inr (1, [.ref aRF, .ref aRT, .ref aRN, .ref aRL, .ref aRU, .int (nI cnt)])), (aRF, .inl (cyI, 20, .inl (fun j_ => nI (F j_)))), (aRT, .inl (cyI, 20, .inl (fun j_ => nI (T j_)))), (aRN, .inl (cyI, 20, .inl nm)), (aRL, .inl (cyI, 20, .inl lo)), (aRU, .inl (cyI, 20, .inl up))] → va_S A s.heap H locs → lv_has ls 6 [(0, .ref aC), (1, .long hs), (3, .long (dgD F T nm lo up (31 * hs + (nI cnt).toInt64) d)), (5, .int (nI d))] → W pM l eM (headSpec wsX6_mixDimensions ({ frames := 1, cells := 0, slots := 0, locals := 23 } : Room)).room s mM ([.ref aC, .long hs] : List Value).toArray blM mtM cM H locs 0 0 Q (F0 mM 16 ls []) := by
    intro fuel
    induction fuel with
    | zero => intro d hfuel; exact absurd hfuel (Nat.not_lt_zero _)
    | succ fuel ih16 =>
      intro d hfuel hd0 H locs ls hP hD hS hl
      refine lv_iload hx hb dX6_mixDimensions_16 (lv_at hl 3 rfl) ?_
      refine lv_aload_n hx hb dX6_mixDimensions_18 rfl (lv_at hl 0 rfl) ?_
      refine va_get (D := (dC, dI)) (ci := 6) (v := .ref aR) (C := RX6) (T := TX6) (N := 8) hx hb hts iX6 hown hK hP 0 rfl rfl 1 (by decide) w0 (fun _ h9 => h9) rfl dX6_mixDimensions_19 ?_
      refine va_get (D := (dC, dI)) (ci := 1) (v := .int (nI cnt)) (C := RX1) (T := TX1) (N := 6) hx hb hts iX1 hown hK hP 3 rfl rfl 5 (by decide) w1 (fun _ h9 => h9) rfl dX6_mixDimensions_22 ?_
      refine lv_icmp_ge (tgt := 137) hx hb dX6_mixDimensions_25 (by decide) (fun c25 => ?_) (fun c25 => ?_)
      · have c25 := n_le (a := cnt) (b := d) (by omega) (by omega) c25
        have e9 : d = cnt := (by omega)
        refine lv_lload_n hx hb dX6_mixDimensions_137 rfl (lv_at hl 2 rfl) ?_
        have r1 : (dgD F T nm lo up (31 * hs + (nI cnt).toInt64) d) = (dgD F T nm lo up (31 * hs + (nI cnt).toInt64) cnt) := by rw [e9]
        have hP9 : va_P (dC, dI) vwCl [(aC, .inr (6, [.ref aD, .ref aR, .ref aH, .ref aS, .ref aT, .ref aL, .ref aI, .int (nI il)])), (aD, .inr (2, [.ref aR, .ref aDL, .ref aDD, .int (nI n)])), (aDD, .inl (cyZ, 20, .inl (fun j_ => bI (dd j_)))), (aR, .inr (1, [.ref aRF, .ref aRT, .ref aRN, .ref aRL, .ref aRU, .int (nI cnt)])), (aRF, .inl (cyI, 20, .inl (fun j_ => nI (F j_)))), (aRT, .inl (cyI, 20, .inl (fun j_ => nI (T j_)))), (aRN, .inl (cyI, 20, .inl nm)), (aRL, .inl (cyI, 20, .inl lo)), (aRU, .inl (cyI, 20, .inl up))] H := by exact hP.sub [0, 1, 2, 3, 4, 5, 6, 7, 8] rfl
        have hD9 : va_D A [(aC, .inr (6, [.ref aD, .ref aR, .ref aH, .ref aS, .ref aT, .ref aL, .ref aI, .int (nI il)])), (aD, .inr (2, [.ref aR, .ref aDL, .ref aDD, .int (nI n)])), (aDD, .inl (cyZ, 20, .inl (fun j_ => bI (dd j_)))), (aR, .inr (1, [.ref aRF, .ref aRT, .ref aRN, .ref aRL, .ref aRU, .int (nI cnt)])), (aRF, .inl (cyI, 20, .inl (fun j_ => nI (F j_)))), (aRT, .inl (cyI, 20, .inl (fun j_ => nI (T j_)))), (aRN, .inl (cyI, 20, .inl nm)), (aRL, .inl (cyI, 20, .inl lo)), (aRU, .inl (cyI, 20, .inl up))] := by exact hD.sub [0, 1, 2, 3, 4, 5, 6, 7, 8] (by decide) rfl
        rw [hQe]
        exact W.lret (v := dgD F T nm lo up (31 * hs + (nI cnt).toInt64) d) hx hb hr (fun t ht hW => ⟨⟨_, (), rfl, r1, by rw [ht]; exact hP9, va_K.moved hW.alike hK, hD9⟩, hS.F ht⟩) hS.2.2 dX6_mixDimensions_138
      · have c25 := n_nle (a := cnt) (b := d) (by omega) (by omega) c25
        refine lv_lload_n hx hb dX6_mixDimensions_28 rfl (lv_at hl 2 rfl) ?_
        refine lv_aload_n hx hb dX6_mixDimensions_29 rfl (lv_at hl 0 rfl) ?_
        refine va_get (D := (dC, dI)) (ci := 6) (v := .ref aR) (C := RX6) (T := TX6) (N := 8) hx hb hts iX6 hown hK hP 0 rfl rfl 1 (by decide) w0 (fun _ h9 => h9) rfl dX6_mixDimensions_30 ?_
        refine va_get (D := (dC, dI)) (ci := 1) (v := .ref aRF) (C := RX1) (T := TX1) (N := 6) hx hb hts iX1 hown hK hP 3 rfl rfl 0 (by decide) w2 (fun _ h9 => h9) rfl dX6_mixDimensions_33 ?_
        refine lv_iload hx hb dX6_mixDimensions_36 (lv_at hl 3 rfl) ?_
        have h2 : vp_in (nI d) 20 := by first | exact vp_in_nI (by omega) (by omega) | assumption
        refine va_iald hx hb hK hP 4 0 rfl rfl h2 dX6_mixDimensions_38 ?_
        refine lv_topi (fun x3 e4 => ?_)
        obtain rfl : x3 = (nI (F d)) := by rw [e4, nI_clamp (by omega)]
        clear e4
        refine lv_i2l (v := (nI (F d)).toInt64) hx hb dX6_mixDimensions_39 rfl ?_
        have hPc := hP.sub (ws' := []) [] rfl
        have hDc := hD.sub (ws' := []) [] (by decide) rfl
        have hFc := va_free (wc := []) hD hS hA [] rfl
        refine va_calll (va_runS (As := [.long (dgD F T nm lo up (31 * hs + (nI cnt).toInt64) d), .long ((nI (F d)).toInt64)]) (rest := []) ⟨hx, hb, hml, hown, hts⟩ (c_X6_mix l dC dI cyI cyZ cyJ cyD H.size (dgD F T nm lo up (31 * hs + (nI cnt).toInt64) d) ((nI (F d)).toInt64)) (va_cwS 2 hts gX6_mixDimensions_X6_mix rfl rfl rfl (by decide +kernel) ⟨Nat.le_of_ble_eq_true rfl, Nat.le_of_ble_eq_true rfl⟩) ⟨fun a U g mk q => by obtain ⟨q0, q1, qP, qK, qD⟩ := q; exact ⟨q0, q1, qP, va_K.moved (u := U) (U := U.calling g mk a) (Vm.Alike.refl U.vm) qK, qD⟩, fun U hU hW => ⟨rfl, by rw [hU], by rw [hU]; exact hPc, va_K.moved hW.alike hK, hDc.weaken (fun _ _ _ _ => trivial)⟩⟩ rfl rfl hl.1 rfl (lv_room (Nat.le_of_ble_eq_true rfl)) dX6_mixDimensions_40 ⟨Nat.le_of_ble_eq_true rfl, Nat.le_of_ble_eq_true rfl⟩) hS (fun q _ h => hFc q h) hFc (fun r u t H1 locs ht hvm hw hB hz1 hk1 hS => ?_)
        obtain rfl := hw
        obtain ⟨hP1, hK1, hD1⟩ := hB
        rw [ht] at hP1
        obtain ⟨hP, hD⟩ := va_join (wr := [(aC, .inr (6, [.ref aD, .ref aR, .ref aH, .ref aS, .ref aT, .ref aL, .ref aI, .int (nI il)])), (aD, .inr (2, [.ref aR, .ref aDL, .ref aDD, .int (nI n)])), (aDD, .inl (cyZ, 20, .inl (fun j_ => bI (dd j_)))), (aR, .inr (1, [.ref aRF, .ref aRT, .ref aRN, .ref aRL, .ref aRU, .int (nI cnt)])), (aRF, .inl (cyI, 20, .inl (fun j_ => nI (F j_)))), (aRT, .inl (cyI, 20, .inl (fun j_ => nI (T j_)))), (aRN, .inl (cyI, 20, .inl nm)), (aRL, .inl (cyI, 20, .inl lo)), (aRU, .inl (cyI, 20, .inl up))]) (w1 := []) hP hD [] [0, 1, 2, 3, 4, 5, 6, 7, 8] rfl rfl (by decide) (by decide) hk1 hFc hP1 hD1
        clear hP1 hD1 hK1 hPc hDc hFc hk1 hz1 hvm ht u t
        generalize H1 = H at hP hS ⊢
        have hP : va_P (dC, dI) vwCl [(aC, .inr (6, [.ref aD, .ref aR, .ref aH, .ref aS, .ref aT, .ref aL, .ref aI, .int (nI il)])), (aD, .inr (2, [.ref aR, .ref aDL, .ref aDD, .int (nI n)])), (aDD, .inl (cyZ, 20, .inl (fun j_ => bI (dd j_)))), (aR, .inr (1, [.ref aRF, .ref aRT, .ref aRN, .ref aRL, .ref aRU, .int (nI cnt)])), (aRF, .inl (cyI, 20, .inl (fun j_ => nI (F j_)))), (aRT, .inl (cyI, 20, .inl (fun j_ => nI (T j_)))), (aRN, .inl (cyI, 20, .inl nm)), (aRL, .inl (cyI, 20, .inl lo)), (aRU, .inl (cyI, 20, .inl up))] H := hP
        have hD : va_D A [(aC, .inr (6, [.ref aD, .ref aR, .ref aH, .ref aS, .ref aT, .ref aL, .ref aI, .int (nI il)])), (aD, .inr (2, [.ref aR, .ref aDL, .ref aDD, .int (nI n)])), (aDD, .inl (cyZ, 20, .inl (fun j_ => bI (dd j_)))), (aR, .inr (1, [.ref aRF, .ref aRT, .ref aRN, .ref aRL, .ref aRU, .int (nI cnt)])), (aRF, .inl (cyI, 20, .inl (fun j_ => nI (F j_)))), (aRT, .inl (cyI, 20, .inl (fun j_ => nI (T j_)))), (aRN, .inl (cyI, 20, .inl nm)), (aRL, .inl (cyI, 20, .inl lo)), (aRU, .inl (cyI, 20, .inl up))] := hD
        refine lv_lstore_n (lv' := [(3, .long (31 * (dgD F T nm lo up (31 * hs + (nI cnt).toInt64) d) + ((nI (F d)).toInt64))), (0, .ref aC), (1, .long hs), (5, .int (nI d))]) hx hb dX6_mixDimensions_43 rfl hl (by decide) rfl (fun ls hl => ?_)
        refine lv_lload_n hx hb dX6_mixDimensions_44 rfl (lv_at hl 0 rfl) ?_
        refine lv_aload_n hx hb dX6_mixDimensions_45 rfl (lv_at hl 1 rfl) ?_
        refine va_get (D := (dC, dI)) (ci := 6) (v := .ref aR) (C := RX6) (T := TX6) (N := 8) hx hb hts iX6 hown hK hP 0 rfl rfl 1 (by decide) w0 (fun _ h9 => h9) rfl dX6_mixDimensions_46 ?_
        refine va_get (D := (dC, dI)) (ci := 1) (v := .ref aRT) (C := RX1) (T := TX1) (N := 6) hx hb hts iX1 hown hK hP 3 rfl rfl 1 (by decide) w3 (fun _ h9 => h9) rfl dX6_mixDimensions_49 ?_
        refine lv_iload hx hb dX6_mixDimensions_52 (lv_at hl 3 rfl) ?_
        have h5 : vp_in (nI d) 20 := by first | exact vp_in_nI (by omega) (by omega) | assumption
        refine va_iald hx hb hK hP 5 0 rfl rfl h5 dX6_mixDimensions_54 ?_
        refine lv_topi (fun x6 e7 => ?_)
        obtain rfl : x6 = (nI (T d)) := by rw [e7, nI_clamp (by omega)]
        clear e7
        refine lv_i2l (v := (nI (T d)).toInt64) hx hb dX6_mixDimensions_55 rfl ?_
        have hPc := hP.sub (ws' := []) [] rfl
        have hDc := hD.sub (ws' := []) [] (by decide) rfl
        have hFc := va_free (wc := []) hD hS hA [] rfl
        refine va_calll (va_runS (As := [.long (31 * (dgD F T nm lo up (31 * hs + (nI cnt).toInt64) d) + ((nI (F d)).toInt64)), .long ((nI (T d)).toInt64)]) (rest := []) ⟨hx, hb, hml, hown, hts⟩ (c_X6_mix l dC dI cyI cyZ cyJ cyD H.size (31 * (dgD F T nm lo up (31 * hs + (nI cnt).toInt64) d) + ((nI (F d)).toInt64)) ((nI (T d)).toInt64)) (va_cwS 2 hts gX6_mixDimensions_X6_mix rfl rfl rfl (by decide +kernel) ⟨Nat.le_of_ble_eq_true rfl, Nat.le_of_ble_eq_true rfl⟩) ⟨fun a U g mk q => by obtain ⟨q0, q1, qP, qK, qD⟩ := q; exact ⟨q0, q1, qP, va_K.moved (u := U) (U := U.calling g mk a) (Vm.Alike.refl U.vm) qK, qD⟩, fun U hU hW => ⟨rfl, by rw [hU], by rw [hU]; exact hPc, va_K.moved hW.alike hK, hDc.weaken (fun _ _ _ _ => trivial)⟩⟩ rfl rfl hl.1 rfl (lv_room (Nat.le_of_ble_eq_true rfl)) dX6_mixDimensions_56 ⟨Nat.le_of_ble_eq_true rfl, Nat.le_of_ble_eq_true rfl⟩) hS (fun q _ h => hFc q h) hFc (fun r u t H1 locs ht hvm hw hB hz1 hk1 hS => ?_)
        obtain rfl := hw
        obtain ⟨hP1, hK1, hD1⟩ := hB
        rw [ht] at hP1
        obtain ⟨hP, hD⟩ := va_join (wr := [(aC, .inr (6, [.ref aD, .ref aR, .ref aH, .ref aS, .ref aT, .ref aL, .ref aI, .int (nI il)])), (aD, .inr (2, [.ref aR, .ref aDL, .ref aDD, .int (nI n)])), (aDD, .inl (cyZ, 20, .inl (fun j_ => bI (dd j_)))), (aR, .inr (1, [.ref aRF, .ref aRT, .ref aRN, .ref aRL, .ref aRU, .int (nI cnt)])), (aRF, .inl (cyI, 20, .inl (fun j_ => nI (F j_)))), (aRT, .inl (cyI, 20, .inl (fun j_ => nI (T j_)))), (aRN, .inl (cyI, 20, .inl nm)), (aRL, .inl (cyI, 20, .inl lo)), (aRU, .inl (cyI, 20, .inl up))]) (w1 := []) hP hD [] [0, 1, 2, 3, 4, 5, 6, 7, 8] rfl rfl (by decide) (by decide) hk1 hFc hP1 hD1
        clear hP1 hD1 hK1 hPc hDc hFc hk1 hz1 hvm ht u t
        generalize H1 = H at hP hS ⊢
        have hP : va_P (dC, dI) vwCl [(aC, .inr (6, [.ref aD, .ref aR, .ref aH, .ref aS, .ref aT, .ref aL, .ref aI, .int (nI il)])), (aD, .inr (2, [.ref aR, .ref aDL, .ref aDD, .int (nI n)])), (aDD, .inl (cyZ, 20, .inl (fun j_ => bI (dd j_)))), (aR, .inr (1, [.ref aRF, .ref aRT, .ref aRN, .ref aRL, .ref aRU, .int (nI cnt)])), (aRF, .inl (cyI, 20, .inl (fun j_ => nI (F j_)))), (aRT, .inl (cyI, 20, .inl (fun j_ => nI (T j_)))), (aRN, .inl (cyI, 20, .inl nm)), (aRL, .inl (cyI, 20, .inl lo)), (aRU, .inl (cyI, 20, .inl up))] H := hP
        have hD : va_D A [(aC, .inr (6, [.ref aD, .ref aR, .ref aH, .ref aS, .ref aT, .ref aL, .ref aI, .int (nI il)])), (aD, .inr (2, [.ref aR, .ref aDL, .ref aDD, .int (nI n)])), (aDD, .inl (cyZ, 20, .inl (fun j_ => bI (dd j_)))), (aR, .inr (1, [.ref aRF, .ref aRT, .ref aRN, .ref aRL, .ref aRU, .int (nI cnt)])), (aRF, .inl (cyI, 20, .inl (fun j_ => nI (F j_)))), (aRT, .inl (cyI, 20, .inl (fun j_ => nI (T j_)))), (aRN, .inl (cyI, 20, .inl nm)), (aRL, .inl (cyI, 20, .inl lo)), (aRU, .inl (cyI, 20, .inl up))] := hD
        refine lv_lstore_n (lv' := [(3, .long (31 * (31 * (dgD F T nm lo up (31 * hs + (nI cnt).toInt64) d) + ((nI (F d)).toInt64)) + ((nI (T d)).toInt64))), (0, .ref aC), (1, .long hs), (5, .int (nI d))]) hx hb dX6_mixDimensions_59 rfl hl (by decide) rfl (fun ls hl => ?_)
        refine lv_lload_n hx hb dX6_mixDimensions_60 rfl (lv_at hl 0 rfl) ?_
        refine lv_aload_n hx hb dX6_mixDimensions_61 rfl (lv_at hl 1 rfl) ?_
        refine va_get (D := (dC, dI)) (ci := 6) (v := .ref aR) (C := RX6) (T := TX6) (N := 8) hx hb hts iX6 hown hK hP 0 rfl rfl 1 (by decide) w0 (fun _ h9 => h9) rfl dX6_mixDimensions_62 ?_
        refine va_get (D := (dC, dI)) (ci := 1) (v := .ref aRN) (C := RX1) (T := TX1) (N := 6) hx hb hts iX1 hown hK hP 3 rfl rfl 2 (by decide) w4 (fun _ h9 => h9) rfl dX6_mixDimensions_65 ?_
        refine lv_iload hx hb dX6_mixDimensions_68 (lv_at hl 3 rfl) ?_
        have h8 : vp_in (nI d) 20 := by first | exact vp_in_nI (by omega) (by omega) | assumption
        refine va_iald hx hb hK hP 6 0 rfl rfl h8 dX6_mixDimensions_70 ?_
        refine lv_topi (fun x9 e10 => ?_)
        obtain rfl : x9 = (nm d) := by rw [e10, nI_clamp (by omega)]
        clear e10
        refine lv_i2l (v := (nm d).toInt64) hx hb dX6_mixDimensions_71 rfl ?_
        have hPc := hP.sub (ws' := []) [] rfl
        have hDc := hD.sub (ws' := []) [] (by decide) rfl
        have hFc := va_free (wc := []) hD hS hA [] rfl
        refine va_calll (va_runS (As := [.long (31 * (31 * (dgD F T nm lo up (31 * hs + (nI cnt).toInt64) d) + ((nI (F d)).toInt64)) + ((nI (T d)).toInt64)), .long ((nm d).toInt64)]) (rest := []) ⟨hx, hb, hml, hown, hts⟩ (c_X6_mix l dC dI cyI cyZ cyJ cyD H.size (31 * (31 * (dgD F T nm lo up (31 * hs + (nI cnt).toInt64) d) + ((nI (F d)).toInt64)) + ((nI (T d)).toInt64)) ((nm d).toInt64)) (va_cwS 2 hts gX6_mixDimensions_X6_mix rfl rfl rfl (by decide +kernel) ⟨Nat.le_of_ble_eq_true rfl, Nat.le_of_ble_eq_true rfl⟩) ⟨fun a U g mk q => by obtain ⟨q0, q1, qP, qK, qD⟩ := q; exact ⟨q0, q1, qP, va_K.moved (u := U) (U := U.calling g mk a) (Vm.Alike.refl U.vm) qK, qD⟩, fun U hU hW => ⟨rfl, by rw [hU], by rw [hU]; exact hPc, va_K.moved hW.alike hK, hDc.weaken (fun _ _ _ _ => trivial)⟩⟩ rfl rfl hl.1 rfl (lv_room (Nat.le_of_ble_eq_true rfl)) dX6_mixDimensions_72 ⟨Nat.le_of_ble_eq_true rfl, Nat.le_of_ble_eq_true rfl⟩) hS (fun q _ h => hFc q h) hFc (fun r u t H1 locs ht hvm hw hB hz1 hk1 hS => ?_)
        obtain rfl := hw
        obtain ⟨hP1, hK1, hD1⟩ := hB
        rw [ht] at hP1
        obtain ⟨hP, hD⟩ := va_join (wr := [(aC, .inr (6, [.ref aD, .ref aR, .ref aH, .ref aS, .ref aT, .ref aL, .ref aI, .int (nI il)])), (aD, .inr (2, [.ref aR, .ref aDL, .ref aDD, .int (nI n)])), (aDD, .inl (cyZ, 20, .inl (fun j_ => bI (dd j_)))), (aR, .inr (1, [.ref aRF, .ref aRT, .ref aRN, .ref aRL, .ref aRU, .int (nI cnt)])), (aRF, .inl (cyI, 20, .inl (fun j_ => nI (F j_)))), (aRT, .inl (cyI, 20, .inl (fun j_ => nI (T j_)))), (aRN, .inl (cyI, 20, .inl nm)), (aRL, .inl (cyI, 20, .inl lo)), (aRU, .inl (cyI, 20, .inl up))]) (w1 := []) hP hD [] [0, 1, 2, 3, 4, 5, 6, 7, 8] rfl rfl (by decide) (by decide) hk1 hFc hP1 hD1
        clear hP1 hD1 hK1 hPc hDc hFc hk1 hz1 hvm ht u t
        generalize H1 = H at hP hS ⊢
        have hP : va_P (dC, dI) vwCl [(aC, .inr (6, [.ref aD, .ref aR, .ref aH, .ref aS, .ref aT, .ref aL, .ref aI, .int (nI il)])), (aD, .inr (2, [.ref aR, .ref aDL, .ref aDD, .int (nI n)])), (aDD, .inl (cyZ, 20, .inl (fun j_ => bI (dd j_)))), (aR, .inr (1, [.ref aRF, .ref aRT, .ref aRN, .ref aRL, .ref aRU, .int (nI cnt)])), (aRF, .inl (cyI, 20, .inl (fun j_ => nI (F j_)))), (aRT, .inl (cyI, 20, .inl (fun j_ => nI (T j_)))), (aRN, .inl (cyI, 20, .inl nm)), (aRL, .inl (cyI, 20, .inl lo)), (aRU, .inl (cyI, 20, .inl up))] H := hP
        have hD : va_D A [(aC, .inr (6, [.ref aD, .ref aR, .ref aH, .ref aS, .ref aT, .ref aL, .ref aI, .int (nI il)])), (aD, .inr (2, [.ref aR, .ref aDL, .ref aDD, .int (nI n)])), (aDD, .inl (cyZ, 20, .inl (fun j_ => bI (dd j_)))), (aR, .inr (1, [.ref aRF, .ref aRT, .ref aRN, .ref aRL, .ref aRU, .int (nI cnt)])), (aRF, .inl (cyI, 20, .inl (fun j_ => nI (F j_)))), (aRT, .inl (cyI, 20, .inl (fun j_ => nI (T j_)))), (aRN, .inl (cyI, 20, .inl nm)), (aRL, .inl (cyI, 20, .inl lo)), (aRU, .inl (cyI, 20, .inl up))] := hD
        refine lv_lstore_n (lv' := [(3, .long (31 * (31 * (31 * (dgD F T nm lo up (31 * hs + (nI cnt).toInt64) d) + ((nI (F d)).toInt64)) + ((nI (T d)).toInt64)) + ((nm d).toInt64))), (0, .ref aC), (1, .long hs), (5, .int (nI d))]) hx hb dX6_mixDimensions_75 rfl hl (by decide) rfl (fun ls hl => ?_)
        refine lv_lload_n hx hb dX6_mixDimensions_76 rfl (lv_at hl 0 rfl) ?_
        refine lv_aload_n hx hb dX6_mixDimensions_77 rfl (lv_at hl 1 rfl) ?_
        refine va_get (D := (dC, dI)) (ci := 6) (v := .ref aR) (C := RX6) (T := TX6) (N := 8) hx hb hts iX6 hown hK hP 0 rfl rfl 1 (by decide) w0 (fun _ h9 => h9) rfl dX6_mixDimensions_78 ?_
        refine va_get (D := (dC, dI)) (ci := 1) (v := .ref aRL) (C := RX1) (T := TX1) (N := 6) hx hb hts iX1 hown hK hP 3 rfl rfl 3 (by decide) w5 (fun _ h9 => h9) rfl dX6_mixDimensions_81 ?_
        refine lv_iload hx hb dX6_mixDimensions_84 (lv_at hl 3 rfl) ?_
        have h11 : vp_in (nI d) 20 := by first | exact vp_in_nI (by omega) (by omega) | assumption
        refine va_iald hx hb hK hP 7 0 rfl rfl h11 dX6_mixDimensions_86 ?_
        refine lv_topi (fun x12 e13 => ?_)
        obtain rfl : x12 = (lo d) := by rw [e13, nI_clamp (by omega)]
        clear e13
        refine lv_i2l (v := (lo d).toInt64) hx hb dX6_mixDimensions_87 rfl ?_
        have hPc := hP.sub (ws' := []) [] rfl
        have hDc := hD.sub (ws' := []) [] (by decide) rfl
        have hFc := va_free (wc := []) hD hS hA [] rfl
        refine va_calll (va_runS (As := [.long (31 * (31 * (31 * (dgD F T nm lo up (31 * hs + (nI cnt).toInt64) d) + ((nI (F d)).toInt64)) + ((nI (T d)).toInt64)) + ((nm d).toInt64)), .long ((lo d).toInt64)]) (rest := []) ⟨hx, hb, hml, hown, hts⟩ (c_X6_mix l dC dI cyI cyZ cyJ cyD H.size (31 * (31 * (31 * (dgD F T nm lo up (31 * hs + (nI cnt).toInt64) d) + ((nI (F d)).toInt64)) + ((nI (T d)).toInt64)) + ((nm d).toInt64)) ((lo d).toInt64)) (va_cwS 2 hts gX6_mixDimensions_X6_mix rfl rfl rfl (by decide +kernel) ⟨Nat.le_of_ble_eq_true rfl, Nat.le_of_ble_eq_true rfl⟩) ⟨fun a U g mk q => by obtain ⟨q0, q1, qP, qK, qD⟩ := q; exact ⟨q0, q1, qP, va_K.moved (u := U) (U := U.calling g mk a) (Vm.Alike.refl U.vm) qK, qD⟩, fun U hU hW => ⟨rfl, by rw [hU], by rw [hU]; exact hPc, va_K.moved hW.alike hK, hDc.weaken (fun _ _ _ _ => trivial)⟩⟩ rfl rfl hl.1 rfl (lv_room (Nat.le_of_ble_eq_true rfl)) dX6_mixDimensions_88 ⟨Nat.le_of_ble_eq_true rfl, Nat.le_of_ble_eq_true rfl⟩) hS (fun q _ h => hFc q h) hFc (fun r u t H1 locs ht hvm hw hB hz1 hk1 hS => ?_)
        obtain rfl := hw
        obtain ⟨hP1, hK1, hD1⟩ := hB
        rw [ht] at hP1
        obtain ⟨hP, hD⟩ := va_join (wr := [(aC, .inr (6, [.ref aD, .ref aR, .ref aH, .ref aS, .ref aT, .ref aL, .ref aI, .int (nI il)])), (aD, .inr (2, [.ref aR, .ref aDL, .ref aDD, .int (nI n)])), (aDD, .inl (cyZ, 20, .inl (fun j_ => bI (dd j_)))), (aR, .inr (1, [.ref aRF, .ref aRT, .ref aRN, .ref aRL, .ref aRU, .int (nI cnt)])), (aRF, .inl (cyI, 20, .inl (fun j_ => nI (F j_)))), (aRT, .inl (cyI, 20, .inl (fun j_ => nI (T j_)))), (aRN, .inl (cyI, 20, .inl nm)), (aRL, .inl (cyI, 20, .inl lo)), (aRU, .inl (cyI, 20, .inl up))]) (w1 := []) hP hD [] [0, 1, 2, 3, 4, 5, 6, 7, 8] rfl rfl (by decide) (by decide) hk1 hFc hP1 hD1
        clear hP1 hD1 hK1 hPc hDc hFc hk1 hz1 hvm ht u t
        generalize H1 = H at hP hS ⊢
        have hP : va_P (dC, dI) vwCl [(aC, .inr (6, [.ref aD, .ref aR, .ref aH, .ref aS, .ref aT, .ref aL, .ref aI, .int (nI il)])), (aD, .inr (2, [.ref aR, .ref aDL, .ref aDD, .int (nI n)])), (aDD, .inl (cyZ, 20, .inl (fun j_ => bI (dd j_)))), (aR, .inr (1, [.ref aRF, .ref aRT, .ref aRN, .ref aRL, .ref aRU, .int (nI cnt)])), (aRF, .inl (cyI, 20, .inl (fun j_ => nI (F j_)))), (aRT, .inl (cyI, 20, .inl (fun j_ => nI (T j_)))), (aRN, .inl (cyI, 20, .inl nm)), (aRL, .inl (cyI, 20, .inl lo)), (aRU, .inl (cyI, 20, .inl up))] H := hP
        have hD : va_D A [(aC, .inr (6, [.ref aD, .ref aR, .ref aH, .ref aS, .ref aT, .ref aL, .ref aI, .int (nI il)])), (aD, .inr (2, [.ref aR, .ref aDL, .ref aDD, .int (nI n)])), (aDD, .inl (cyZ, 20, .inl (fun j_ => bI (dd j_)))), (aR, .inr (1, [.ref aRF, .ref aRT, .ref aRN, .ref aRL, .ref aRU, .int (nI cnt)])), (aRF, .inl (cyI, 20, .inl (fun j_ => nI (F j_)))), (aRT, .inl (cyI, 20, .inl (fun j_ => nI (T j_)))), (aRN, .inl (cyI, 20, .inl nm)), (aRL, .inl (cyI, 20, .inl lo)), (aRU, .inl (cyI, 20, .inl up))] := hD
        refine lv_lstore_n (lv' := [(3, .long (31 * (31 * (31 * (31 * (dgD F T nm lo up (31 * hs + (nI cnt).toInt64) d) + ((nI (F d)).toInt64)) + ((nI (T d)).toInt64)) + ((nm d).toInt64)) + ((lo d).toInt64))), (0, .ref aC), (1, .long hs), (5, .int (nI d))]) hx hb dX6_mixDimensions_91 rfl hl (by decide) rfl (fun ls hl => ?_)
        refine lv_lload_n hx hb dX6_mixDimensions_92 rfl (lv_at hl 0 rfl) ?_
        refine lv_aload_n hx hb dX6_mixDimensions_93 rfl (lv_at hl 1 rfl) ?_
        refine va_get (D := (dC, dI)) (ci := 6) (v := .ref aR) (C := RX6) (T := TX6) (N := 8) hx hb hts iX6 hown hK hP 0 rfl rfl 1 (by decide) w0 (fun _ h9 => h9) rfl dX6_mixDimensions_94 ?_
        refine va_get (D := (dC, dI)) (ci := 1) (v := .ref aRU) (C := RX1) (T := TX1) (N := 6) hx hb hts iX1 hown hK hP 3 rfl rfl 4 (by decide) w6 (fun _ h9 => h9) rfl dX6_mixDimensions_97 ?_
        refine lv_iload hx hb dX6_mixDimensions_100 (lv_at hl 3 rfl) ?_
        have h14 : vp_in (nI d) 20 := by first | exact vp_in_nI (by omega) (by omega) | assumption
        refine va_iald hx hb hK hP 8 0 rfl rfl h14 dX6_mixDimensions_102 ?_
        refine lv_topi (fun x15 e16 => ?_)
        obtain rfl : x15 = (up d) := by rw [e16, nI_clamp (by omega)]
        clear e16
        refine lv_i2l (v := (up d).toInt64) hx hb dX6_mixDimensions_103 rfl ?_
        have hPc := hP.sub (ws' := []) [] rfl
        have hDc := hD.sub (ws' := []) [] (by decide) rfl
        have hFc := va_free (wc := []) hD hS hA [] rfl
        refine va_calll (va_runS (As := [.long (31 * (31 * (31 * (31 * (dgD F T nm lo up (31 * hs + (nI cnt).toInt64) d) + ((nI (F d)).toInt64)) + ((nI (T d)).toInt64)) + ((nm d).toInt64)) + ((lo d).toInt64)), .long ((up d).toInt64)]) (rest := []) ⟨hx, hb, hml, hown, hts⟩ (c_X6_mix l dC dI cyI cyZ cyJ cyD H.size (31 * (31 * (31 * (31 * (dgD F T nm lo up (31 * hs + (nI cnt).toInt64) d) + ((nI (F d)).toInt64)) + ((nI (T d)).toInt64)) + ((nm d).toInt64)) + ((lo d).toInt64)) ((up d).toInt64)) (va_cwS 2 hts gX6_mixDimensions_X6_mix rfl rfl rfl (by decide +kernel) ⟨Nat.le_of_ble_eq_true rfl, Nat.le_of_ble_eq_true rfl⟩) ⟨fun a U g mk q => by obtain ⟨q0, q1, qP, qK, qD⟩ := q; exact ⟨q0, q1, qP, va_K.moved (u := U) (U := U.calling g mk a) (Vm.Alike.refl U.vm) qK, qD⟩, fun U hU hW => ⟨rfl, by rw [hU], by rw [hU]; exact hPc, va_K.moved hW.alike hK, hDc.weaken (fun _ _ _ _ => trivial)⟩⟩ rfl rfl hl.1 rfl (lv_room (Nat.le_of_ble_eq_true rfl)) dX6_mixDimensions_104 ⟨Nat.le_of_ble_eq_true rfl, Nat.le_of_ble_eq_true rfl⟩) hS (fun q _ h => hFc q h) hFc (fun r u t H1 locs ht hvm hw hB hz1 hk1 hS => ?_)
        obtain rfl := hw
        obtain ⟨hP1, hK1, hD1⟩ := hB
        rw [ht] at hP1
        obtain ⟨hP, hD⟩ := va_join (wr := [(aC, .inr (6, [.ref aD, .ref aR, .ref aH, .ref aS, .ref aT, .ref aL, .ref aI, .int (nI il)])), (aD, .inr (2, [.ref aR, .ref aDL, .ref aDD, .int (nI n)])), (aDD, .inl (cyZ, 20, .inl (fun j_ => bI (dd j_)))), (aR, .inr (1, [.ref aRF, .ref aRT, .ref aRN, .ref aRL, .ref aRU, .int (nI cnt)])), (aRF, .inl (cyI, 20, .inl (fun j_ => nI (F j_)))), (aRT, .inl (cyI, 20, .inl (fun j_ => nI (T j_)))), (aRN, .inl (cyI, 20, .inl nm)), (aRL, .inl (cyI, 20, .inl lo)), (aRU, .inl (cyI, 20, .inl up))]) (w1 := []) hP hD [] [0, 1, 2, 3, 4, 5, 6, 7, 8] rfl rfl (by decide) (by decide) hk1 hFc hP1 hD1
        clear hP1 hD1 hK1 hPc hDc hFc hk1 hz1 hvm ht u t
        generalize H1 = H at hP hS ⊢
        have hP : va_P (dC, dI) vwCl [(aC, .inr (6, [.ref aD, .ref aR, .ref aH, .ref aS, .ref aT, .ref aL, .ref aI, .int (nI il)])), (aD, .inr (2, [.ref aR, .ref aDL, .ref aDD, .int (nI n)])), (aDD, .inl (cyZ, 20, .inl (fun j_ => bI (dd j_)))), (aR, .inr (1, [.ref aRF, .ref aRT, .ref aRN, .ref aRL, .ref aRU, .int (nI cnt)])), (aRF, .inl (cyI, 20, .inl (fun j_ => nI (F j_)))), (aRT, .inl (cyI, 20, .inl (fun j_ => nI (T j_)))), (aRN, .inl (cyI, 20, .inl nm)), (aRL, .inl (cyI, 20, .inl lo)), (aRU, .inl (cyI, 20, .inl up))] H := hP
        have hD : va_D A [(aC, .inr (6, [.ref aD, .ref aR, .ref aH, .ref aS, .ref aT, .ref aL, .ref aI, .int (nI il)])), (aD, .inr (2, [.ref aR, .ref aDL, .ref aDD, .int (nI n)])), (aDD, .inl (cyZ, 20, .inl (fun j_ => bI (dd j_)))), (aR, .inr (1, [.ref aRF, .ref aRT, .ref aRN, .ref aRL, .ref aRU, .int (nI cnt)])), (aRF, .inl (cyI, 20, .inl (fun j_ => nI (F j_)))), (aRT, .inl (cyI, 20, .inl (fun j_ => nI (T j_)))), (aRN, .inl (cyI, 20, .inl nm)), (aRL, .inl (cyI, 20, .inl lo)), (aRU, .inl (cyI, 20, .inl up))] := hD
        refine lv_lstore_n (lv' := [(3, .long (31 * (31 * (31 * (31 * (31 * (dgD F T nm lo up (31 * hs + (nI cnt).toInt64) d) + ((nI (F d)).toInt64)) + ((nI (T d)).toInt64)) + ((nm d).toInt64)) + ((lo d).toInt64)) + ((up d).toInt64))), (0, .ref aC), (1, .long hs), (5, .int (nI d))]) hx hb dX6_mixDimensions_107 rfl hl (by decide) rfl (fun ls hl => ?_)
        refine lv_lload_n hx hb dX6_mixDimensions_108 rfl (lv_at hl 0 rfl) ?_
        refine lv_aload_n hx hb dX6_mixDimensions_109 rfl (lv_at hl 1 rfl) ?_
        refine va_get (D := (dC, dI)) (ci := 6) (v := .ref aD) (C := RX6) (T := TX6) (N := 8) hx hb hts iX6 hown hK hP 0 rfl rfl 0 (by decide) w7 (fun _ h9 => h9) rfl dX6_mixDimensions_110 ?_
        refine va_get (D := (dC, dI)) (ci := 2) (v := .ref aDD) (C := RX2) (T := TX2) (N := 4) hx hb hts iX2 hown hK hP 1 rfl rfl 2 (by decide) w8 (fun _ h9 => h9) rfl dX6_mixDimensions_113 ?_
        refine lv_iload hx hb dX6_mixDimensions_116 (lv_at hl 3 rfl) ?_
        have h17 : vp_in (nI d) 20 := by first | exact vp_in_nI (by omega) (by omega) | assumption
        refine va_zald hx hb hK hP 2 1 rfl rfl h17 dX6_mixDimensions_118 ?_
        refine lv_topi (fun x18 e19 => ?_)
        obtain rfl : x18 = (bI (dd d)) := by rw [e19, nI_clamp (by omega)]
        clear e19
        refine lv_if_eq (tgt := 126) hx hb dX6_mixDimensions_119 (by decide) (fun c119 => ?_) (fun c119 => ?_)
        · have c119 : (dd d) = false := bI_0 c119
          have c119 := (hdd d c25).symm.trans c119
          refine lv_lconst (v := 0) hx hb dX6_mixDimensions_126 (by decide) ?_
          have hPc := hP.sub (ws' := []) [] rfl
          have hDc := hD.sub (ws' := []) [] (by decide) rfl
          have hFc := va_free (wc := []) hD hS hA [] rfl
          refine va_calll (va_runS (As := [.long (31 * (31 * (31 * (31 * (31 * (dgD F T nm lo up (31 * hs + (nI cnt).toInt64) d) + ((nI (F d)).toInt64)) + ((nI (T d)).toInt64)) + ((nm d).toInt64)) + ((lo d).toInt64)) + ((up d).toInt64)), .long 0]) (rest := []) ⟨hx, hb, hml, hown, hts⟩ (c_X6_mix l dC dI cyI cyZ cyJ cyD H.size (31 * (31 * (31 * (31 * (31 * (dgD F T nm lo up (31 * hs + (nI cnt).toInt64) d) + ((nI (F d)).toInt64)) + ((nI (T d)).toInt64)) + ((nm d).toInt64)) + ((lo d).toInt64)) + ((up d).toInt64)) 0) (va_cwS 2 hts gX6_mixDimensions_X6_mix rfl rfl rfl (by decide +kernel) ⟨Nat.le_of_ble_eq_true rfl, Nat.le_of_ble_eq_true rfl⟩) ⟨fun a U g mk q => by obtain ⟨q0, q1, qP, qK, qD⟩ := q; exact ⟨q0, q1, qP, va_K.moved (u := U) (U := U.calling g mk a) (Vm.Alike.refl U.vm) qK, qD⟩, fun U hU hW => ⟨rfl, by rw [hU], by rw [hU]; exact hPc, va_K.moved hW.alike hK, hDc.weaken (fun _ _ _ _ => trivial)⟩⟩ rfl rfl hl.1 rfl (lv_room (Nat.le_of_ble_eq_true rfl)) dX6_mixDimensions_127 ⟨Nat.le_of_ble_eq_true rfl, Nat.le_of_ble_eq_true rfl⟩) hS (fun q _ h => hFc q h) hFc (fun r u t H1 locs ht hvm hw hB hz1 hk1 hS => ?_)
          obtain rfl := hw
          obtain ⟨hP1, hK1, hD1⟩ := hB
          rw [ht] at hP1
          obtain ⟨hP, hD⟩ := va_join (wr := [(aC, .inr (6, [.ref aD, .ref aR, .ref aH, .ref aS, .ref aT, .ref aL, .ref aI, .int (nI il)])), (aD, .inr (2, [.ref aR, .ref aDL, .ref aDD, .int (nI n)])), (aDD, .inl (cyZ, 20, .inl (fun j_ => bI (dd j_)))), (aR, .inr (1, [.ref aRF, .ref aRT, .ref aRN, .ref aRL, .ref aRU, .int (nI cnt)])), (aRF, .inl (cyI, 20, .inl (fun j_ => nI (F j_)))), (aRT, .inl (cyI, 20, .inl (fun j_ => nI (T j_)))), (aRN, .inl (cyI, 20, .inl nm)), (aRL, .inl (cyI, 20, .inl lo)), (aRU, .inl (cyI, 20, .inl up))]) (w1 := []) hP hD [] [0, 1, 2, 3, 4, 5, 6, 7, 8] rfl rfl (by decide) (by decide) hk1 hFc hP1 hD1
          clear hP1 hD1 hK1 hPc hDc hFc hk1 hz1 hvm ht u t
          generalize H1 = H at hP hS ⊢
          have hP : va_P (dC, dI) vwCl [(aC, .inr (6, [.ref aD, .ref aR, .ref aH, .ref aS, .ref aT, .ref aL, .ref aI, .int (nI il)])), (aD, .inr (2, [.ref aR, .ref aDL, .ref aDD, .int (nI n)])), (aDD, .inl (cyZ, 20, .inl (fun j_ => bI (dd j_)))), (aR, .inr (1, [.ref aRF, .ref aRT, .ref aRN, .ref aRL, .ref aRU, .int (nI cnt)])), (aRF, .inl (cyI, 20, .inl (fun j_ => nI (F j_)))), (aRT, .inl (cyI, 20, .inl (fun j_ => nI (T j_)))), (aRN, .inl (cyI, 20, .inl nm)), (aRL, .inl (cyI, 20, .inl lo)), (aRU, .inl (cyI, 20, .inl up))] H := hP
          have hD : va_D A [(aC, .inr (6, [.ref aD, .ref aR, .ref aH, .ref aS, .ref aT, .ref aL, .ref aI, .int (nI il)])), (aD, .inr (2, [.ref aR, .ref aDL, .ref aDD, .int (nI n)])), (aDD, .inl (cyZ, 20, .inl (fun j_ => bI (dd j_)))), (aR, .inr (1, [.ref aRF, .ref aRT, .ref aRN, .ref aRL, .ref aRU, .int (nI cnt)])), (aRF, .inl (cyI, 20, .inl (fun j_ => nI (F j_)))), (aRT, .inl (cyI, 20, .inl (fun j_ => nI (T j_)))), (aRN, .inl (cyI, 20, .inl nm)), (aRL, .inl (cyI, 20, .inl lo)), (aRU, .inl (cyI, 20, .inl up))] := hD
          refine lv_lstore_n (lv' := [(3, .long (31 * (31 * (31 * (31 * (31 * (31 * (dgD F T nm lo up (31 * hs + (nI cnt).toInt64) d) + ((nI (F d)).toInt64)) + ((nI (T d)).toInt64)) + ((nm d).toInt64)) + ((lo d).toInt64)) + ((up d).toInt64)) + 0)), (0, .ref aC), (1, .long hs), (5, .int (nI d))]) hx hb dX6_mixDimensions_130 rfl hl (by decide) rfl (fun ls hl => ?_)
          refine lv_iinc (v := nI (d + 1)) (lv' := [(5, .int (nI (d + 1))), (3, .long (31 * (31 * (31 * (31 * (31 * (31 * (dgD F T nm lo up (31 * hs + (nI cnt).toInt64) d) + ((nI (F d)).toInt64)) + ((nI (T d)).toInt64)) + ((nm d).toInt64)) + ((lo d).toInt64)) + ((up d).toInt64)) + 0)), (0, .ref aC), (1, .long hs)]) hx hb dX6_mixDimensions_131 hl (k := 3) rfl (nI_add d 1) (by decide) rfl (fun ls hl => ?_)
          refine lv_goto (tgt := 16) hx hb dX6_mixDimensions_134 (by decide) ?_
          have q20 : (dgD F T nm lo up (31 * hs + (nI cnt).toInt64) (d + 1)) = (31 * (31 * (31 * (31 * (31 * (31 * (dgD F T nm lo up (31 * hs + (nI cnt).toInt64) d) + ((nI (F d)).toInt64)) + ((nI (T d)).toInt64)) + ((nm d).toInt64)) + ((lo d).toInt64)) + ((up d).toInt64)) + 0) := by first | (simp only [dgD]; rw [if_pos c119]; rfl) | (simp only [dgD]; rw [if_neg (nbf c119)]; rfl)
          exact ih16 (d + 1) (by omega) (by first | assumption | omega) _ _ _ (hP) (hD) hS (by first | (rw [q20]; exact lv_sub hl [2, 3, 1, 0] rfl) | (simp only [q20]; exact lv_sub hl [2, 3, 1, 0] rfl) | exact lv_sub hl [2, 3, 1, 0] rfl)
        · have c119 : (dd d) = true := bI_n0 c119
          have c119 := (hdd d c25).symm.trans c119
          refine lv_lconst (v := 1) hx hb dX6_mixDimensions_122 (by decide) ?_
          refine lv_goto (tgt := 127) hx hb dX6_mixDimensions_123 (by decide) ?_
          have hPc := hP.sub (ws' := []) [] rfl
          have hDc := hD.sub (ws' := []) [] (by decide) rfl
          have hFc := va_free (wc := []) hD hS hA [] rfl
          refine va_calll (va_runS (As := [.long (31 * (31 * (31 * (31 * (31 * (dgD F T nm lo up (31 * hs + (nI cnt).toInt64) d) + ((nI (F d)).toInt64)) + ((nI (T d)).toInt64)) + ((nm d).toInt64)) + ((lo d).toInt64)) + ((up d).toInt64)), .long 1]) (rest := []) ⟨hx, hb, hml, hown, hts⟩ (c_X6_mix l dC dI cyI cyZ cyJ cyD H.size (31 * (31 * (31 * (31 * (31 * (dgD F T nm lo up (31 * hs + (nI cnt).toInt64) d) + ((nI (F d)).toInt64)) + ((nI (T d)).toInt64)) + ((nm d).toInt64)) + ((lo d).toInt64)) + ((up d).toInt64)) 1) (va_cwS 2 hts gX6_mixDimensions_X6_mix rfl rfl rfl (by decide +kernel) ⟨Nat.le_of_ble_eq_true rfl, Nat.le_of_ble_eq_true rfl⟩) ⟨fun a U g mk q => by obtain ⟨q0, q1, qP, qK, qD⟩ := q; exact ⟨q0, q1, qP, va_K.moved (u := U) (U := U.calling g mk a) (Vm.Alike.refl U.vm) qK, qD⟩, fun U hU hW => ⟨rfl, by rw [hU], by rw [hU]; exact hPc, va_K.moved hW.alike hK, hDc.weaken (fun _ _ _ _ => trivial)⟩⟩ rfl rfl hl.1 rfl (lv_room (Nat.le_of_ble_eq_true rfl)) dX6_mixDimensions_127 ⟨Nat.le_of_ble_eq_true rfl, Nat.le_of_ble_eq_true rfl⟩) hS (fun q _ h => hFc q h) hFc (fun r u t H1 locs ht hvm hw hB hz1 hk1 hS => ?_)
          obtain rfl := hw
          obtain ⟨hP1, hK1, hD1⟩ := hB
          rw [ht] at hP1
          obtain ⟨hP, hD⟩ := va_join (wr := [(aC, .inr (6, [.ref aD, .ref aR, .ref aH, .ref aS, .ref aT, .ref aL, .ref aI, .int (nI il)])), (aD, .inr (2, [.ref aR, .ref aDL, .ref aDD, .int (nI n)])), (aDD, .inl (cyZ, 20, .inl (fun j_ => bI (dd j_)))), (aR, .inr (1, [.ref aRF, .ref aRT, .ref aRN, .ref aRL, .ref aRU, .int (nI cnt)])), (aRF, .inl (cyI, 20, .inl (fun j_ => nI (F j_)))), (aRT, .inl (cyI, 20, .inl (fun j_ => nI (T j_)))), (aRN, .inl (cyI, 20, .inl nm)), (aRL, .inl (cyI, 20, .inl lo)), (aRU, .inl (cyI, 20, .inl up))]) (w1 := []) hP hD [] [0, 1, 2, 3, 4, 5, 6, 7, 8] rfl rfl (by decide) (by decide) hk1 hFc hP1 hD1
          clear hP1 hD1 hK1 hPc hDc hFc hk1 hz1 hvm ht u t
          generalize H1 = H at hP hS ⊢
          have hP : va_P (dC, dI) vwCl [(aC, .inr (6, [.ref aD, .ref aR, .ref aH, .ref aS, .ref aT, .ref aL, .ref aI, .int (nI il)])), (aD, .inr (2, [.ref aR, .ref aDL, .ref aDD, .int (nI n)])), (aDD, .inl (cyZ, 20, .inl (fun j_ => bI (dd j_)))), (aR, .inr (1, [.ref aRF, .ref aRT, .ref aRN, .ref aRL, .ref aRU, .int (nI cnt)])), (aRF, .inl (cyI, 20, .inl (fun j_ => nI (F j_)))), (aRT, .inl (cyI, 20, .inl (fun j_ => nI (T j_)))), (aRN, .inl (cyI, 20, .inl nm)), (aRL, .inl (cyI, 20, .inl lo)), (aRU, .inl (cyI, 20, .inl up))] H := hP
          have hD : va_D A [(aC, .inr (6, [.ref aD, .ref aR, .ref aH, .ref aS, .ref aT, .ref aL, .ref aI, .int (nI il)])), (aD, .inr (2, [.ref aR, .ref aDL, .ref aDD, .int (nI n)])), (aDD, .inl (cyZ, 20, .inl (fun j_ => bI (dd j_)))), (aR, .inr (1, [.ref aRF, .ref aRT, .ref aRN, .ref aRL, .ref aRU, .int (nI cnt)])), (aRF, .inl (cyI, 20, .inl (fun j_ => nI (F j_)))), (aRT, .inl (cyI, 20, .inl (fun j_ => nI (T j_)))), (aRN, .inl (cyI, 20, .inl nm)), (aRL, .inl (cyI, 20, .inl lo)), (aRU, .inl (cyI, 20, .inl up))] := hD
          refine lv_lstore_n (lv' := [(3, .long (31 * (31 * (31 * (31 * (31 * (31 * (dgD F T nm lo up (31 * hs + (nI cnt).toInt64) d) + ((nI (F d)).toInt64)) + ((nI (T d)).toInt64)) + ((nm d).toInt64)) + ((lo d).toInt64)) + ((up d).toInt64)) + 1)), (0, .ref aC), (1, .long hs), (5, .int (nI d))]) hx hb dX6_mixDimensions_130 rfl hl (by decide) rfl (fun ls hl => ?_)
          refine lv_iinc (v := nI (d + 1)) (lv' := [(5, .int (nI (d + 1))), (3, .long (31 * (31 * (31 * (31 * (31 * (31 * (dgD F T nm lo up (31 * hs + (nI cnt).toInt64) d) + ((nI (F d)).toInt64)) + ((nI (T d)).toInt64)) + ((nm d).toInt64)) + ((lo d).toInt64)) + ((up d).toInt64)) + 1)), (0, .ref aC), (1, .long hs)]) hx hb dX6_mixDimensions_131 hl (k := 3) rfl (nI_add d 1) (by decide) rfl (fun ls hl => ?_)
          refine lv_goto (tgt := 16) hx hb dX6_mixDimensions_134 (by decide) ?_
          have q21 : (dgD F T nm lo up (31 * hs + (nI cnt).toInt64) (d + 1)) = (31 * (31 * (31 * (31 * (31 * (31 * (dgD F T nm lo up (31 * hs + (nI cnt).toInt64) d) + ((nI (F d)).toInt64)) + ((nI (T d)).toInt64)) + ((nm d).toInt64)) + ((lo d).toInt64)) + ((up d).toInt64)) + 1) := by first | (simp only [dgD]; rw [if_pos c119]; rfl) | (simp only [dgD]; rw [if_neg (nbf c119)]; rfl)
          exact ih16 (d + 1) (by omega) (by first | assumption | omega) _ _ _ (hP) (hD) hS (by first | (rw [q21]; exact lv_sub hl [2, 3, 1, 0] rfl) | (simp only [q21]; exact lv_sub hl [2, 3, 1, 0] rfl) | exact lv_sub hl [2, 3, 1, 0] rfl)
  have q22 : (dgD F T nm lo up (31 * hs + (nI cnt).toInt64) 0) = (31 * hs + ((nI cnt).toInt64)) := by rfl
  have q23 : (nI 0) = 0 := by first | rfl | simp [*] | (simp only [*]; done)
  exact k16 (cnt - 0 + 1) 0 (Nat.lt_succ_self _) (by first | assumption | omega) _ _ _ (hP) (hD) hS (by first | (rw [q22, q23]; exact lv_sub hl [2, 3, 1, 0] rfl) | (simp only [q22, q23]; exact lv_sub hl [2, 3, 1, 0] rfl) | exact lv_sub hl [2, 3, 1, 0] rfl)
set_option maxHeartbeats 4000000 in
set_option maxRecDepth 100000 in
theorem c_X6_mixParts (l : Launch) (dC : Nat → ClassId) (dI : Nat → Nat → Nat) (cyI cyZ cyJ cyD : ClassId) (aC aD aR aH aS aT aL aI aDL aDD : Nat) (zH : Nat) (il : Nat) (hs : Int64) (n : Nat) (P : Nat → Nat) (F : Nat → Nat) (T : Nat → Nat) (cnt : Nat) (hn : n ≤ 12) (hPp : ∀ i_q, i_q < n → P i_q = Pp F T cnt i_q) : Met l yX6_mixParts wsX6_mixParts ({ frames := 1, cells := 0, slots := 0, locals := 23 } : Room) (va_Pc [.ref aC, .long hs] (fun U => U.heap.size = zH ∧ va_P (dC, dI) vwCl [(aC, .inr (6, [.ref aD, .ref aR, .ref aH, .ref aS, .ref aT, .ref aL, .ref aI, .int (nI il)])), (aD, .inr (2, [.ref aR, .ref aDL, .ref aDD, .int (nI n)])), (aDL, .inl (cyI, 12, .inl (fun j_ => nI (P j_))))] U.heap ∧ va_K (dC, dI) vwCl [(cyI, .int), (cyZ, .boolean), (cyJ, .long), (cyD, .double)] U ∧ va_D (fun _ => True) [(aC, .inr (6, [.ref aD, .ref aR, .ref aH, .ref aS, .ref aT, .ref aL, .ref aI, .int (nI il)])), (aD, .inr (2, [.ref aR, .ref aDL, .ref aDD, .int (nI n)])), (aDL, .inl (cyI, 12, .inl (fun j_ => nI (P j_))))])) (va_Ql (fun (r : Int64) (_ : Unit) => r = dgP F T cnt hs n) (fun _ t => va_P (dC, dI) vwCl [(aC, .inr (6, [.ref aD, .ref aR, .ref aH, .ref aS, .ref aT, .ref aL, .ref aI, .int (nI il)])), (aD, .inr (2, [.ref aR, .ref aDL, .ref aDD, .int (nI n)])), (aDL, .inl (cyI, 12, .inl (fun j_ => nI (P j_))))] t.heap ∧ va_K (dC, dI) vwCl [(cyI, .int), (cyZ, .boolean), (cyJ, .long), (cyD, .double)] t ∧ va_D (va_A [(aC, .inr (6, [.ref aD, .ref aR, .ref aH, .ref aS, .ref aT, .ref aL, .ref aI, .int (nI il)])), (aD, .inr (2, [.ref aR, .ref aDL, .ref aDD, .int (nI n)])), (aDL, .inl (cyI, 12, .inl (fun j_ => nI (P j_))))] zH) [(aC, .inr (6, [.ref aD, .ref aR, .ref aH, .ref aS, .ref aT, .ref aL, .ref aI, .int (nI il)])), (aD, .inr (2, [.ref aR, .ref aDL, .ref aDD, .int (nI n)])), (aDL, .inl (cyI, 12, .inl (fun j_ => nI (P j_))))]) (va_A [(aC, .inr (6, [.ref aD, .ref aR, .ref aH, .ref aS, .ref aT, .ref aL, .ref aI, .int (nI il)])), (aD, .inr (2, [.ref aR, .ref aDL, .ref aDD, .int (nI n)])), (aDL, .inl (cyI, 12, .inl (fun j_ => nI (P j_))))] zH)) 0 0 (va_A [(aC, .inr (6, [.ref aD, .ref aR, .ref aH, .ref aS, .ref aT, .ref aL, .ref aI, .int (nI il)])), (aD, .inr (2, [.ref aR, .ref aDL, .ref aDD, .int (nI n)])), (aDL, .inl (cyI, 12, .inl (fun j_ => nI (P j_))))] zH) := by
  refine Met.ofW (cc := cX6_mixParts) (maxL := 6) (ret := (some .long)) (by decide) rfl ?_
  intro pM eM s mM args blM mtM cM s₁ BM hml hv
  obtain ⟨rfl, hsz, hP, hK, hD0⟩ := hv
  have hx := BM.exec
  have hb := BM.bytes
  have hr := BM.returns
  have hts := atoms_spec (ws := wsX6_mixParts) BM.pre
  have hown : s.vm.findClass RX6 = some mM.cls := findClass_of_methodNamed BM.named
  have hlocks := BM.notSynchronized
  have w0 := hts (.fieldLink RX6 14 "DimensionChecker" "drawing" "LDimensionChecker$Drawing;") (by decide +kernel)
  have w1 := hts (.fieldLink RX6 155 "DimensionChecker$Drawing" "faces" "I") (by decide +kernel)
  have w2 := hts (.fieldLink RX6 184 "DimensionChecker$Drawing" "lowestFace" "[I") (by decide +kernel)
  have iX6 : ∀ w ∈ wsX60, w ∈ wsX6_mixParts := by decide +kernel
  have iX2 : ∀ w ∈ wsX20, w ∈ wsX6_mixParts := by decide +kernel
  subst hsz
  have hD := hD0.self (sz := s.heap.size)
  obtain ⟨Q, hQe⟩ : ∃ Q : State → Prop, Q = MQ blM (va_Ql (fun (r : Int64) (_ : Unit) => r = dgP F T cnt hs n) (fun _ t => va_P (dC, dI) vwCl [(aC, .inr (6, [.ref aD, .ref aR, .ref aH, .ref aS, .ref aT, .ref aL, .ref aI, .int (nI il)])), (aD, .inr (2, [.ref aR, .ref aDL, .ref aDD, .int (nI n)])), (aDL, .inl (cyI, 12, .inl (fun j_ => nI (P j_))))] t.heap ∧ va_K (dC, dI) vwCl [(cyI, .int), (cyZ, .boolean), (cyJ, .long), (cyD, .double)] t ∧ va_D (va_A [(aC, .inr (6, [.ref aD, .ref aR, .ref aH, .ref aS, .ref aT, .ref aL, .ref aI, .int (nI il)])), (aD, .inr (2, [.ref aR, .ref aDL, .ref aDD, .int (nI n)])), (aDL, .inl (cyI, 12, .inl (fun j_ => nI (P j_))))] s.heap.size) [(aC, .inr (6, [.ref aD, .ref aR, .ref aH, .ref aS, .ref aT, .ref aL, .ref aI, .int (nI il)])), (aD, .inr (2, [.ref aR, .ref aDL, .ref aDD, .int (nI n)])), (aDL, .inl (cyI, 12, .inl (fun j_ => nI (P j_))))]) (va_A [(aC, .inr (6, [.ref aD, .ref aR, .ref aH, .ref aS, .ref aT, .ref aL, .ref aI, .int (nI il)])), (aD, .inr (2, [.ref aR, .ref aDL, .ref aDD, .int (nI n)])), (aDL, .inl (cyI, 12, .inl (fun j_ => nI (P j_))))] s.heap.size)) ([.ref aC, .long hs] : List Value).toArray s 0 0 (va_A [(aC, .inr (6, [.ref aD, .ref aR, .ref aH, .ref aS, .ref aT, .ref aL, .ref aI, .int (nI il)])), (aD, .inr (2, [.ref aR, .ref aDL, .ref aDD, .int (nI n)])), (aDL, .inl (cyI, 12, .inl (fun j_ => nI (P j_))))] s.heap.size) := ⟨_, rfl⟩
  rw [← hQe]
  generalize hAe : va_A [(aC, .inr (6, [.ref aD, .ref aR, .ref aH, .ref aS, .ref aT, .ref aL, .ref aI, .int (nI il)])), (aD, .inr (2, [.ref aR, .ref aDL, .ref aDD, .int (nI n)])), (aDL, .inl (cyI, 12, .inl (fun j_ => nI (P j_))))] s.heap.size = A at hD hQe
  have hA : ∀ q : Nat, s.heap.size ≤ q → A q := fun q h => by rw [← hAe]; exact Or.inr h
  obtain ⟨H, hHe⟩ : ∃ H : Heap, H = s.heap := ⟨_, rfl⟩
  have hS : va_S A s.heap H [] := by rw [hHe]; exact va_S.rf
  rw [← hHe] at hP ⊢
  have hl := lv_entry ([.ref aC, .long hs]) (n := 6) (Nat.le_of_ble_eq_true rfl)
  rw [lg_entry_eq]
  generalize (lg_sl ([.ref aC, .long hs]) ++ List.replicate (6 - (lg_sl ([.ref aC, .long hs])).length) Slot.unset).toArray = ls at hl ⊢
  have hl : lv_has ls 6 [(0, .ref aC), (1, .long hs)] := hl
  refine lv_lload_n hx hb dX6_mixParts_0 rfl (lv_at hl 1 rfl) ?_
  refine lv_lstore_n (lv' := [(3, .long hs), (0, .ref aC), (1, .long hs)]) hx hb dX6_mixParts_1 rfl hl (by decide) rfl (fun ls hl => ?_)
  refine lv_iconst (v := 0) hx hb dX6_mixParts_2 (by decide) ?_
  refine lv_istore (lv' := [(5, .int 0), (3, .long hs), (0, .ref aC), (1, .long hs)]) hx hb dX6_mixParts_3 hl (by decide) rfl (fun ls hl => ?_)
  have k5 : ∀ (fuel : Nat) (i : Nat) (hfuel : n - i < fuel) (hi : i ≤ n) (H : Heap) (locs : List Loc) (ls : Array Slot), va_P (dC, dI) vwCl [(aC, .inr (6, [.ref aD, .ref aR, .ref aH, .ref aS, .ref aT, .ref aL, .ref aI, .int (nI il)])), (aD, .inr (2, [.ref aR, .ref aDL, .ref aDD, .int (nI n)])), (aDL, .inl (cyI, 12, .inl (fun j_ => nI (P j_))))] H → va_D A [(aC, .inr (6, [.ref aD, .ref aR, .ref aH, .ref aS, .ref aT, .ref aL, .ref aI, .int (nI il)])), (aD, .inr (2, [.ref aR, .ref aDL, .ref aDD, .int (nI n)])), (aDL, .inl (cyI, 12, .inl (fun j_ => nI (P j_))))] → va_S A s.heap H locs → lv_has ls 6 [(0, .ref aC), (1, .long hs), (3, .long (dgP F T cnt hs i)), (5, .int (nI i))] → W pM l eM (headSpec wsX6_mixParts ({ frames := 1, cells := 0, slots := 0, locals := 23 } : Room)).room s mM ([.ref aC, .long hs] : List Value).toArray blM mtM cM H locs 0 0 Q (F0 mM 5 ls []) := by
    intro fuel
    induction fuel with
    | zero => intro i hfuel; exact absurd hfuel (Nat.not_lt_zero _)
    | succ fuel ih5 =>
      intro i hfuel hi H locs ls hP hD hS hl
      refine lv_iload hx hb dX6_mixParts_5 (lv_at hl 3 rfl) ?_
      refine lv_aload_n hx hb dX6_mixParts_7 rfl (lv_at hl 0 rfl) ?_
      refine va_get (D := (dC, dI)) (ci := 6) (v := .ref aD) (C := RX6) (T := TX6) (N := 8) hx hb hts iX6 hown hK hP 0 rfl rfl 0 (by decide) w0 (fun _ h9 => h9) rfl dX6_mixParts_8 ?_
      refine va_get (D := (dC, dI)) (ci := 2) (v := .int (nI n)) (C := RX2) (T := TX2) (N := 4) hx hb hts iX2 hown hK hP 1 rfl rfl 3 (by decide) w1 (fun _ h9 => h9) rfl dX6_mixParts_11 ?_
      refine lv_icmp_ge (tgt := 39) hx hb dX6_mixParts_14 (by decide) (fun c14 => ?_) (fun c14 => ?_)
      · have c14 := n_le (a := n) (b := i) (by omega) (by omega) c14
        have e9 : i = n := (by omega)
        refine lv_lload_n hx hb dX6_mixParts_39 rfl (lv_at hl 2 rfl) ?_
        have r1 : (dgP F T cnt hs i) = (dgP F T cnt hs n) := by rw [e9]
        have hP9 : va_P (dC, dI) vwCl [(aC, .inr (6, [.ref aD, .ref aR, .ref aH, .ref aS, .ref aT, .ref aL, .ref aI, .int (nI il)])), (aD, .inr (2, [.ref aR, .ref aDL, .ref aDD, .int (nI n)])), (aDL, .inl (cyI, 12, .inl (fun j_ => nI (P j_))))] H := by exact hP.sub [0, 1, 2] rfl
        have hD9 : va_D A [(aC, .inr (6, [.ref aD, .ref aR, .ref aH, .ref aS, .ref aT, .ref aL, .ref aI, .int (nI il)])), (aD, .inr (2, [.ref aR, .ref aDL, .ref aDD, .int (nI n)])), (aDL, .inl (cyI, 12, .inl (fun j_ => nI (P j_))))] := by exact hD.sub [0, 1, 2] (by decide) rfl
        rw [hQe]
        exact W.lret (v := dgP F T cnt hs i) hx hb hr (fun t ht hW => ⟨⟨_, (), rfl, r1, by rw [ht]; exact hP9, va_K.moved hW.alike hK, hD9⟩, hS.F ht⟩) hS.2.2 dX6_mixParts_40
      · have c14 := n_nle (a := n) (b := i) (by omega) (by omega) c14
        refine lv_lload_n hx hb dX6_mixParts_17 rfl (lv_at hl 2 rfl) ?_
        refine lv_aload_n hx hb dX6_mixParts_18 rfl (lv_at hl 0 rfl) ?_
        refine va_get (D := (dC, dI)) (ci := 6) (v := .ref aD) (C := RX6) (T := TX6) (N := 8) hx hb hts iX6 hown hK hP 0 rfl rfl 0 (by decide) w0 (fun _ h9 => h9) rfl dX6_mixParts_19 ?_
        refine va_get (D := (dC, dI)) (ci := 2) (v := .ref aDL) (C := RX2) (T := TX2) (N := 4) hx hb hts iX2 hown hK hP 1 rfl rfl 1 (by decide) w2 (fun _ h9 => h9) rfl dX6_mixParts_22 ?_
        refine lv_iload hx hb dX6_mixParts_25 (lv_at hl 3 rfl) ?_
        have h2 : vp_in (nI i) 12 := by first | exact vp_in_nI (by omega) (by omega) | assumption
        refine va_iald hx hb hK hP 2 0 rfl rfl h2 dX6_mixParts_27 ?_
        refine lv_topi (fun x3 e4 => ?_)
        obtain rfl : x3 = (nI (P i)) := by rw [e4, nI_clamp (by omega)]
        clear e4
        refine lv_i2l (v := (nI (P i)).toInt64) hx hb dX6_mixParts_28 rfl ?_
        have hPc := hP.sub (ws' := []) [] rfl
        have hDc := hD.sub (ws' := []) [] (by decide) rfl
        have hFc := va_free (wc := []) hD hS hA [] rfl
        refine va_calll (va_runS (As := [.long (dgP F T cnt hs i), .long ((nI (P i)).toInt64)]) (rest := []) ⟨hx, hb, hml, hown, hts⟩ (c_X6_mix l dC dI cyI cyZ cyJ cyD H.size (dgP F T cnt hs i) ((nI (P i)).toInt64)) (va_cwS 2 hts gX6_mixParts_X6_mix rfl rfl rfl (by decide +kernel) ⟨Nat.le_of_ble_eq_true rfl, Nat.le_of_ble_eq_true rfl⟩) ⟨fun a U g mk q => by obtain ⟨q0, q1, qP, qK, qD⟩ := q; exact ⟨q0, q1, qP, va_K.moved (u := U) (U := U.calling g mk a) (Vm.Alike.refl U.vm) qK, qD⟩, fun U hU hW => ⟨rfl, by rw [hU], by rw [hU]; exact hPc, va_K.moved hW.alike hK, hDc.weaken (fun _ _ _ _ => trivial)⟩⟩ rfl rfl hl.1 rfl (lv_room (Nat.le_of_ble_eq_true rfl)) dX6_mixParts_29 ⟨Nat.le_of_ble_eq_true rfl, Nat.le_of_ble_eq_true rfl⟩) hS (fun q _ h => hFc q h) hFc (fun r u t H1 locs ht hvm hw hB hz1 hk1 hS => ?_)
        obtain rfl := hw
        obtain ⟨hP1, hK1, hD1⟩ := hB
        rw [ht] at hP1
        obtain ⟨hP, hD⟩ := va_join (wr := [(aC, .inr (6, [.ref aD, .ref aR, .ref aH, .ref aS, .ref aT, .ref aL, .ref aI, .int (nI il)])), (aD, .inr (2, [.ref aR, .ref aDL, .ref aDD, .int (nI n)])), (aDL, .inl (cyI, 12, .inl (fun j_ => nI (P j_))))]) (w1 := []) hP hD [] [0, 1, 2] rfl rfl (by decide) (by decide) hk1 hFc hP1 hD1
        clear hP1 hD1 hK1 hPc hDc hFc hk1 hz1 hvm ht u t
        generalize H1 = H at hP hS ⊢
        have hP : va_P (dC, dI) vwCl [(aC, .inr (6, [.ref aD, .ref aR, .ref aH, .ref aS, .ref aT, .ref aL, .ref aI, .int (nI il)])), (aD, .inr (2, [.ref aR, .ref aDL, .ref aDD, .int (nI n)])), (aDL, .inl (cyI, 12, .inl (fun j_ => nI (P j_))))] H := hP
        have hD : va_D A [(aC, .inr (6, [.ref aD, .ref aR, .ref aH, .ref aS, .ref aT, .ref aL, .ref aI, .int (nI il)])), (aD, .inr (2, [.ref aR, .ref aDL, .ref aDD, .int (nI n)])), (aDL, .inl (cyI, 12, .inl (fun j_ => nI (P j_))))] := hD
        refine lv_lstore_n (lv' := [(3, .long (31 * (dgP F T cnt hs i) + ((nI (P i)).toInt64))), (0, .ref aC), (1, .long hs), (5, .int (nI i))]) hx hb dX6_mixParts_32 rfl hl (by decide) rfl (fun ls hl => ?_)
        refine lv_iinc (v := nI (i + 1)) (lv' := [(5, .int (nI (i + 1))), (3, .long (31 * (dgP F T cnt hs i) + ((nI (P i)).toInt64))), (0, .ref aC), (1, .long hs)]) hx hb dX6_mixParts_33 hl (k := 3) rfl (nI_add i 1) (by decide) rfl (fun ls hl => ?_)
        refine lv_goto (tgt := 5) hx hb dX6_mixParts_36 (by decide) ?_
        have q5 : (dgP F T cnt hs (i + 1)) = (31 * (dgP F T cnt hs i) + ((nI (P i)).toInt64)) := by simp only [dgP]; rw [hPp i c14]
        exact ih5 (i + 1) (by omega) (by first | assumption | omega) _ _ _ (hP) (hD) hS (by first | (rw [q5]; exact lv_sub hl [2, 3, 1, 0] rfl) | (simp only [q5]; exact lv_sub hl [2, 3, 1, 0] rfl) | exact lv_sub hl [2, 3, 1, 0] rfl)
  have q6 : (dgP F T cnt hs 0) = hs := by rfl
  have q7 : (nI 0) = 0 := by first | rfl | simp [*] | (simp only [*]; done)
  exact k5 (n - 0 + 1) 0 (Nat.lt_succ_self _) (by first | assumption | omega) _ _ _ (hP) (hD) hS (by first | (rw [q6, q7]; exact lv_sub hl [2, 3, 1, 0] rfl) | (simp only [q6, q7]; exact lv_sub hl [2, 3, 1, 0] rfl) | exact lv_sub hl [2, 3, 1, 0] rfl)
set_option maxHeartbeats 4000000 in
set_option maxRecDepth 100000 in
theorem c_X6_mixInput (l : Launch) (dC : Nat → ClassId) (dI : Nat → Nat → Nat) (cyI cyZ cyJ cyD : ClassId) (aC aD aR aH aS aT aL aI : Nat) (zH : Nat) (il : Nat) (hs : Int64) (inp : Nat → Nat) (hlen : il ≤ 60) : Met l yX6_mixInput wsX6_mixInput ({ frames := 1, cells := 0, slots := 0, locals := 23 } : Room) (va_Pc [.ref aC, .long hs] (fun U => U.heap.size = zH ∧ va_P (dC, dI) vwCl [(aC, .inr (6, [.ref aD, .ref aR, .ref aH, .ref aS, .ref aT, .ref aL, .ref aI, .int (nI il)])), (aI, .inl (cyI, 60, .inl (fun j_ => nI (inp j_))))] U.heap ∧ va_K (dC, dI) vwCl [(cyI, .int), (cyZ, .boolean), (cyJ, .long), (cyD, .double)] U ∧ va_D (fun _ => True) [(aC, .inr (6, [.ref aD, .ref aR, .ref aH, .ref aS, .ref aT, .ref aL, .ref aI, .int (nI il)])), (aI, .inl (cyI, 60, .inl (fun j_ => nI (inp j_))))])) (va_Ql (fun (r : Int64) (_ : Unit) => r = dgI inp (31 * hs + (nI il).toInt64) il) (fun _ t => va_P (dC, dI) vwCl [(aC, .inr (6, [.ref aD, .ref aR, .ref aH, .ref aS, .ref aT, .ref aL, .ref aI, .int (nI il)])), (aI, .inl (cyI, 60, .inl (fun j_ => nI (inp j_))))] t.heap ∧ va_K (dC, dI) vwCl [(cyI, .int), (cyZ, .boolean), (cyJ, .long), (cyD, .double)] t ∧ va_D (va_A [(aC, .inr (6, [.ref aD, .ref aR, .ref aH, .ref aS, .ref aT, .ref aL, .ref aI, .int (nI il)])), (aI, .inl (cyI, 60, .inl (fun j_ => nI (inp j_))))] zH) [(aC, .inr (6, [.ref aD, .ref aR, .ref aH, .ref aS, .ref aT, .ref aL, .ref aI, .int (nI il)])), (aI, .inl (cyI, 60, .inl (fun j_ => nI (inp j_))))]) (va_A [(aC, .inr (6, [.ref aD, .ref aR, .ref aH, .ref aS, .ref aT, .ref aL, .ref aI, .int (nI il)])), (aI, .inl (cyI, 60, .inl (fun j_ => nI (inp j_))))] zH)) 0 0 (va_A [(aC, .inr (6, [.ref aD, .ref aR, .ref aH, .ref aS, .ref aT, .ref aL, .ref aI, .int (nI il)])), (aI, .inl (cyI, 60, .inl (fun j_ => nI (inp j_))))] zH) := by
  refine Met.ofW (cc := cX6_mixInput) (maxL := 6) (ret := (some .long)) (by decide) rfl ?_
  intro pM eM s mM args blM mtM cM s₁ BM hml hv
  obtain ⟨rfl, hsz, hP, hK, hD0⟩ := hv
  have hx := BM.exec
  have hb := BM.bytes
  have hr := BM.returns
  have hts := atoms_spec (ws := wsX6_mixInput) BM.pre
  have hown : s.vm.findClass RX6 = some mM.cls := findClass_of_methodNamed BM.named
  have hlocks := BM.notSynchronized
  have w0 := hts (.fieldLink RX6 59 "DimensionChecker" "inputLength" "I") (by decide +kernel)
  have w1 := hts (.fieldLink RX6 55 "DimensionChecker" "input" "[I") (by decide +kernel)
  have iX6 : ∀ w ∈ wsX60, w ∈ wsX6_mixInput := by decide +kernel
  subst hsz
  have hD := hD0.self (sz := s.heap.size)
  obtain ⟨Q, hQe⟩ : ∃ Q : State → Prop, Q = MQ blM (va_Ql (fun (r : Int64) (_ : Unit) => r = dgI inp (31 * hs + (nI il).toInt64) il) (fun _ t => va_P (dC, dI) vwCl [(aC, .inr (6, [.ref aD, .ref aR, .ref aH, .ref aS, .ref aT, .ref aL, .ref aI, .int (nI il)])), (aI, .inl (cyI, 60, .inl (fun j_ => nI (inp j_))))] t.heap ∧ va_K (dC, dI) vwCl [(cyI, .int), (cyZ, .boolean), (cyJ, .long), (cyD, .double)] t ∧ va_D (va_A [(aC, .inr (6, [.ref aD, .ref aR, .ref aH, .ref aS, .ref aT, .ref aL, .ref aI, .int (nI il)])), (aI, .inl (cyI, 60, .inl (fun j_ => nI (inp j_))))] s.heap.size) [(aC, .inr (6, [.ref aD, .ref aR, .ref aH, .ref aS, .ref aT, .ref aL, .ref aI, .int (nI il)])), (aI, .inl (cyI, 60, .inl (fun j_ => nI (inp j_))))]) (va_A [(aC, .inr (6, [.ref aD, .ref aR, .ref aH, .ref aS, .ref aT, .ref aL, .ref aI, .int (nI il)])), (aI, .inl (cyI, 60, .inl (fun j_ => nI (inp j_))))] s.heap.size)) ([.ref aC, .long hs] : List Value).toArray s 0 0 (va_A [(aC, .inr (6, [.ref aD, .ref aR, .ref aH, .ref aS, .ref aT, .ref aL, .ref aI, .int (nI il)])), (aI, .inl (cyI, 60, .inl (fun j_ => nI (inp j_))))] s.heap.size) := ⟨_, rfl⟩
  rw [← hQe]
  generalize hAe : va_A [(aC, .inr (6, [.ref aD, .ref aR, .ref aH, .ref aS, .ref aT, .ref aL, .ref aI, .int (nI il)])), (aI, .inl (cyI, 60, .inl (fun j_ => nI (inp j_))))] s.heap.size = A at hD hQe
  have hA : ∀ q : Nat, s.heap.size ≤ q → A q := fun q h => by rw [← hAe]; exact Or.inr h
  obtain ⟨H, hHe⟩ : ∃ H : Heap, H = s.heap := ⟨_, rfl⟩
  have hS : va_S A s.heap H [] := by rw [hHe]; exact va_S.rf
  rw [← hHe] at hP ⊢
  have hl := lv_entry ([.ref aC, .long hs]) (n := 6) (Nat.le_of_ble_eq_true rfl)
  rw [lg_entry_eq]
  generalize (lg_sl ([.ref aC, .long hs]) ++ List.replicate (6 - (lg_sl ([.ref aC, .long hs])).length) Slot.unset).toArray = ls at hl ⊢
  have hl : lv_has ls 6 [(0, .ref aC), (1, .long hs)] := hl
  refine lv_lload_n hx hb dX6_mixInput_0 rfl (lv_at hl 1 rfl) ?_
  refine lv_aload_n hx hb dX6_mixInput_1 rfl (lv_at hl 0 rfl) ?_
  refine va_get (D := (dC, dI)) (ci := 6) (v := .int (nI il)) (C := RX6) (T := TX6) (N := 8) hx hb hts iX6 hown hK hP 0 rfl rfl 7 (by decide) w0 (fun _ h9 => h9) rfl dX6_mixInput_2 ?_
  refine lv_i2l (v := (nI il).toInt64) hx hb dX6_mixInput_5 rfl ?_
  have hPc := hP.sub (ws' := []) [] rfl
  have hDc := hD.sub (ws' := []) [] (by decide) rfl
  have hFc := va_free (wc := []) hD hS hA [] rfl
  refine va_calll (va_runS (As := [.long hs, .long ((nI il).toInt64)]) (rest := []) ⟨hx, hb, hml, hown, hts⟩ (c_X6_mix l dC dI cyI cyZ cyJ cyD H.size hs ((nI il).toInt64)) (va_cwS 2 hts gX6_mixInput_X6_mix rfl rfl rfl (by decide +kernel) ⟨Nat.le_of_ble_eq_true rfl, Nat.le_of_ble_eq_true rfl⟩) ⟨fun a U g mk q => by obtain ⟨q0, q1, qP, qK, qD⟩ := q; exact ⟨q0, q1, qP, va_K.moved (u := U) (U := U.calling g mk a) (Vm.Alike.refl U.vm) qK, qD⟩, fun U hU hW => ⟨rfl, by rw [hU], by rw [hU]; exact hPc, va_K.moved hW.alike hK, hDc.weaken (fun _ _ _ _ => trivial)⟩⟩ rfl rfl hl.1 rfl (lv_room (Nat.le_of_ble_eq_true rfl)) dX6_mixInput_6 ⟨Nat.le_of_ble_eq_true rfl, Nat.le_of_ble_eq_true rfl⟩) hS (fun q _ h => hFc q h) hFc (fun r u t H1 locs ht hvm hw hB hz1 hk1 hS => ?_)
  obtain rfl := hw
  obtain ⟨hP1, hK1, hD1⟩ := hB
  rw [ht] at hP1
  obtain ⟨hP, hD⟩ := va_join (wr := [(aC, .inr (6, [.ref aD, .ref aR, .ref aH, .ref aS, .ref aT, .ref aL, .ref aI, .int (nI il)])), (aI, .inl (cyI, 60, .inl (fun j_ => nI (inp j_))))]) (w1 := []) hP hD [] [0, 1] rfl rfl (by decide) (by decide) hk1 hFc hP1 hD1
  clear hP1 hD1 hK1 hPc hDc hFc hk1 hz1 hvm ht u t
  generalize H1 = H at hP hS ⊢
  have hP : va_P (dC, dI) vwCl [(aC, .inr (6, [.ref aD, .ref aR, .ref aH, .ref aS, .ref aT, .ref aL, .ref aI, .int (nI il)])), (aI, .inl (cyI, 60, .inl (fun j_ => nI (inp j_))))] H := hP
  have hD : va_D A [(aC, .inr (6, [.ref aD, .ref aR, .ref aH, .ref aS, .ref aT, .ref aL, .ref aI, .int (nI il)])), (aI, .inl (cyI, 60, .inl (fun j_ => nI (inp j_))))] := hD
  refine lv_lstore_n (lv' := [(3, .long (31 * hs + ((nI il).toInt64))), (0, .ref aC), (1, .long hs)]) hx hb dX6_mixInput_9 rfl hl (by decide) rfl (fun ls hl => ?_)
  refine lv_iconst (v := 0) hx hb dX6_mixInput_10 (by decide) ?_
  refine lv_istore (lv' := [(5, .int 0), (3, .long (31 * hs + ((nI il).toInt64))), (0, .ref aC), (1, .long hs)]) hx hb dX6_mixInput_11 hl (by decide) rfl (fun ls hl => ?_)
  have k13 : ∀ (fuel : Nat) (i : Nat) (hfuel : il - i < fuel) (hi : i ≤ il) (H : Heap) (locs : List Loc) (ls : Array Slot), va_P (dC, dI) vwCl [(aC, .inr (6, [.ref aD, .ref aR, .ref aH, .ref aS, .ref aT, .ref aL, .ref aI, .int (nI il)])), (aI, .inl (cyI, 60, .inl (fun j_ => nI (inp j_))))] H → va_D A [(aC, .inr (6, [.ref aD, .ref aR, .ref aH, .ref aS, .ref aT, .ref aL, .ref aI, .int (nI il)])), (aI, .inl (cyI, 60, .inl (fun j_ => nI (inp j_))))] → va_S A s.heap H locs → lv_has ls 6 [(0, .ref aC), (1, .long hs), (3, .long (dgI inp (31 * hs + (nI il).toInt64) i)), (5, .int (nI i))] → W pM l eM (headSpec wsX6_mixInput ({ frames := 1, cells := 0, slots := 0, locals := 23 } : Room)).room s mM ([.ref aC, .long hs] : List Value).toArray blM mtM cM H locs 0 0 Q (F0 mM 13 ls []) := by
    intro fuel
    induction fuel with
    | zero => intro i hfuel; exact absurd hfuel (Nat.not_lt_zero _)
    | succ fuel ih13 =>
      intro i hfuel hi H locs ls hP hD hS hl
      refine lv_iload hx hb dX6_mixInput_13 (lv_at hl 3 rfl) ?_
      refine lv_aload_n hx hb dX6_mixInput_15 rfl (lv_at hl 0 rfl) ?_
      refine va_get (D := (dC, dI)) (ci := 6) (v := .int (nI il)) (C := RX6) (T := TX6) (N := 8) hx hb hts iX6 hown hK hP 0 rfl rfl 7 (by decide) w0 (fun _ h9 => h9) rfl dX6_mixInput_16 ?_
      refine lv_icmp_ge (tgt := 41) hx hb dX6_mixInput_19 (by decide) (fun c19 => ?_) (fun c19 => ?_)
      · have c19 := n_le (a := il) (b := i) (by omega) (by omega) c19
        have e9 : i = il := (by omega)
        refine lv_lload_n hx hb dX6_mixInput_41 rfl (lv_at hl 2 rfl) ?_
        have r1 : (dgI inp (31 * hs + (nI il).toInt64) i) = (dgI inp (31 * hs + (nI il).toInt64) il) := by rw [e9]
        have hP9 : va_P (dC, dI) vwCl [(aC, .inr (6, [.ref aD, .ref aR, .ref aH, .ref aS, .ref aT, .ref aL, .ref aI, .int (nI il)])), (aI, .inl (cyI, 60, .inl (fun j_ => nI (inp j_))))] H := by exact hP.sub [0, 1] rfl
        have hD9 : va_D A [(aC, .inr (6, [.ref aD, .ref aR, .ref aH, .ref aS, .ref aT, .ref aL, .ref aI, .int (nI il)])), (aI, .inl (cyI, 60, .inl (fun j_ => nI (inp j_))))] := by exact hD.sub [0, 1] (by decide) rfl
        rw [hQe]
        exact W.lret (v := dgI inp (31 * hs + (nI il).toInt64) i) hx hb hr (fun t ht hW => ⟨⟨_, (), rfl, r1, by rw [ht]; exact hP9, va_K.moved hW.alike hK, hD9⟩, hS.F ht⟩) hS.2.2 dX6_mixInput_42
      · have c19 := n_nle (a := il) (b := i) (by omega) (by omega) c19
        refine lv_lload_n hx hb dX6_mixInput_22 rfl (lv_at hl 2 rfl) ?_
        refine lv_aload_n hx hb dX6_mixInput_23 rfl (lv_at hl 0 rfl) ?_
        refine va_get (D := (dC, dI)) (ci := 6) (v := .ref aI) (C := RX6) (T := TX6) (N := 8) hx hb hts iX6 hown hK hP 0 rfl rfl 6 (by decide) w1 (fun _ h9 => h9) rfl dX6_mixInput_24 ?_
        refine lv_iload hx hb dX6_mixInput_27 (lv_at hl 3 rfl) ?_
        have h2 : vp_in (nI i) 60 := by first | exact vp_in_nI (by omega) (by omega) | assumption
        refine va_iald hx hb hK hP 1 0 rfl rfl h2 dX6_mixInput_29 ?_
        refine lv_topi (fun x3 e4 => ?_)
        obtain rfl : x3 = (nI (inp i)) := by rw [e4, nI_clamp (by omega)]
        clear e4
        refine lv_i2l (v := (nI (inp i)).toInt64) hx hb dX6_mixInput_30 rfl ?_
        have hPc := hP.sub (ws' := []) [] rfl
        have hDc := hD.sub (ws' := []) [] (by decide) rfl
        have hFc := va_free (wc := []) hD hS hA [] rfl
        refine va_calll (va_runS (As := [.long (dgI inp (31 * hs + (nI il).toInt64) i), .long ((nI (inp i)).toInt64)]) (rest := []) ⟨hx, hb, hml, hown, hts⟩ (c_X6_mix l dC dI cyI cyZ cyJ cyD H.size (dgI inp (31 * hs + (nI il).toInt64) i) ((nI (inp i)).toInt64)) (va_cwS 2 hts gX6_mixInput_X6_mix rfl rfl rfl (by decide +kernel) ⟨Nat.le_of_ble_eq_true rfl, Nat.le_of_ble_eq_true rfl⟩) ⟨fun a U g mk q => by obtain ⟨q0, q1, qP, qK, qD⟩ := q; exact ⟨q0, q1, qP, va_K.moved (u := U) (U := U.calling g mk a) (Vm.Alike.refl U.vm) qK, qD⟩, fun U hU hW => ⟨rfl, by rw [hU], by rw [hU]; exact hPc, va_K.moved hW.alike hK, hDc.weaken (fun _ _ _ _ => trivial)⟩⟩ rfl rfl hl.1 rfl (lv_room (Nat.le_of_ble_eq_true rfl)) dX6_mixInput_31 ⟨Nat.le_of_ble_eq_true rfl, Nat.le_of_ble_eq_true rfl⟩) hS (fun q _ h => hFc q h) hFc (fun r u t H1 locs ht hvm hw hB hz1 hk1 hS => ?_)
        obtain rfl := hw
        obtain ⟨hP1, hK1, hD1⟩ := hB
        rw [ht] at hP1
        obtain ⟨hP, hD⟩ := va_join (wr := [(aC, .inr (6, [.ref aD, .ref aR, .ref aH, .ref aS, .ref aT, .ref aL, .ref aI, .int (nI il)])), (aI, .inl (cyI, 60, .inl (fun j_ => nI (inp j_))))]) (w1 := []) hP hD [] [0, 1] rfl rfl (by decide) (by decide) hk1 hFc hP1 hD1
        clear hP1 hD1 hK1 hPc hDc hFc hk1 hz1 hvm ht u t
        generalize H1 = H at hP hS ⊢
        have hP : va_P (dC, dI) vwCl [(aC, .inr (6, [.ref aD, .ref aR, .ref aH, .ref aS, .ref aT, .ref aL, .ref aI, .int (nI il)])), (aI, .inl (cyI, 60, .inl (fun j_ => nI (inp j_))))] H := hP
        have hD : va_D A [(aC, .inr (6, [.ref aD, .ref aR, .ref aH, .ref aS, .ref aT, .ref aL, .ref aI, .int (nI il)])), (aI, .inl (cyI, 60, .inl (fun j_ => nI (inp j_))))] := hD
        refine lv_lstore_n (lv' := [(3, .long (31 * (dgI inp (31 * hs + (nI il).toInt64) i) + ((nI (inp i)).toInt64))), (0, .ref aC), (1, .long hs), (5, .int (nI i))]) hx hb dX6_mixInput_34 rfl hl (by decide) rfl (fun ls hl => ?_)
        refine lv_iinc (v := nI (i + 1)) (lv' := [(5, .int (nI (i + 1))), (3, .long (31 * (dgI inp (31 * hs + (nI il).toInt64) i) + ((nI (inp i)).toInt64))), (0, .ref aC), (1, .long hs)]) hx hb dX6_mixInput_35 hl (k := 3) rfl (nI_add i 1) (by decide) rfl (fun ls hl => ?_)
        refine lv_goto (tgt := 13) hx hb dX6_mixInput_38 (by decide) ?_
        have q5 : (dgI inp (31 * hs + (nI il).toInt64) (i + 1)) = (31 * (dgI inp (31 * hs + (nI il).toInt64) i) + ((nI (inp i)).toInt64)) := by rfl
        exact ih13 (i + 1) (by omega) (by first | assumption | omega) _ _ _ (hP) (hD) hS (by first | (rw [q5]; exact lv_sub hl [2, 3, 1, 0] rfl) | (simp only [q5]; exact lv_sub hl [2, 3, 1, 0] rfl) | exact lv_sub hl [2, 3, 1, 0] rfl)
  have q6 : (dgI inp (31 * hs + (nI il).toInt64) 0) = (31 * hs + ((nI il).toInt64)) := by rfl
  have q7 : (nI 0) = 0 := by first | rfl | simp [*] | (simp only [*]; done)
  exact k13 (il - 0 + 1) 0 (Nat.lt_succ_self _) (by first | assumption | omega) _ _ _ (hP) (hD) hS (by first | (rw [q6, q7]; exact lv_sub hl [2, 3, 1, 0] rfl) | (simp only [q6, q7]; exact lv_sub hl [2, 3, 1, 0] rfl) | exact lv_sub hl [2, 3, 1, 0] rfl)
set_option maxHeartbeats 4000000 in
set_option maxRecDepth 100000 in
theorem c_X6_mixChain (l : Launch) (dC : Nat → ClassId) (dI : Nat → Nat → Nat) (cyI cyZ cyJ cyD : ClassId) (aC aD aR aH aS aT aL aI aHW aHL aRF aRT aRN aRL aRU : Nat) (zH : Nat) (il : Nat) (hs : Int64) (len : Nat) (hN : Int32) (hL : Int32) (hG : Int32) (L : Nat → Nat) (lo : Nat → Int32) (up : Nat → Int32) (cnt : Nat) (hlen : len ≤ 12) (hL0 : ∀ k_q, k_q < len → L k_q < 20) (hwd : ∀ k_q, k_q < len → up (L k_q) - lo (L k_q) = nI (wdN lo up (L k_q)) ∧ wdN lo up (L k_q) ≤ 1998) : Met l yX6_mixChain wsX6_mixChain ({ frames := 3, cells := 0, slots := 0, locals := 66 } : Room) (va_Pc [.ref aC, .long hs] (fun U => U.heap.size = zH ∧ va_P (dC, dI) vwCl [(aC, .inr (6, [.ref aD, .ref aR, .ref aH, .ref aS, .ref aT, .ref aL, .ref aI, .int (nI il)])), (aH, .inr (0, [.ref aD, .ref aR, .ref aHW, .ref aHL, .int (nI len), .int hN, .int hL, .int hG])), (aHL, .inl (cyI, 12, .inl (fun j_ => nI (L j_)))), (aR, .inr (1, [.ref aRF, .ref aRT, .ref aRN, .ref aRL, .ref aRU, .int (nI cnt)])), (aRL, .inl (cyI, 20, .inl lo)), (aRU, .inl (cyI, 20, .inl up))] U.heap ∧ va_K (dC, dI) vwCl [(cyI, .int), (cyZ, .boolean), (cyJ, .long), (cyD, .double)] U ∧ va_D (fun _ => True) [(aC, .inr (6, [.ref aD, .ref aR, .ref aH, .ref aS, .ref aT, .ref aL, .ref aI, .int (nI il)])), (aH, .inr (0, [.ref aD, .ref aR, .ref aHW, .ref aHL, .int (nI len), .int hN, .int hL, .int hG])), (aHL, .inl (cyI, 12, .inl (fun j_ => nI (L j_)))), (aR, .inr (1, [.ref aRF, .ref aRT, .ref aRN, .ref aRL, .ref aRU, .int (nI cnt)])), (aRL, .inl (cyI, 20, .inl lo)), (aRU, .inl (cyI, 20, .inl up))])) (va_Ql (fun (r : Int64) (_ : Unit) => r = 31 * (31 * (31 * (31 * (31 * hs + hN.toInt64) + hL.toInt64) + hG.toInt64) + (nI (rtS (sqN L lo up len) 13)).toInt64) + (wdst L lo up len).toInt64) (fun _ t => va_P (dC, dI) vwCl [(aC, .inr (6, [.ref aD, .ref aR, .ref aH, .ref aS, .ref aT, .ref aL, .ref aI, .int (nI il)])), (aH, .inr (0, [.ref aD, .ref aR, .ref aHW, .ref aHL, .int (nI len), .int hN, .int hL, .int hG])), (aHL, .inl (cyI, 12, .inl (fun j_ => nI (L j_)))), (aR, .inr (1, [.ref aRF, .ref aRT, .ref aRN, .ref aRL, .ref aRU, .int (nI cnt)])), (aRL, .inl (cyI, 20, .inl lo)), (aRU, .inl (cyI, 20, .inl up))] t.heap ∧ va_K (dC, dI) vwCl [(cyI, .int), (cyZ, .boolean), (cyJ, .long), (cyD, .double)] t ∧ va_D (va_A [(aC, .inr (6, [.ref aD, .ref aR, .ref aH, .ref aS, .ref aT, .ref aL, .ref aI, .int (nI il)])), (aH, .inr (0, [.ref aD, .ref aR, .ref aHW, .ref aHL, .int (nI len), .int hN, .int hL, .int hG])), (aHL, .inl (cyI, 12, .inl (fun j_ => nI (L j_)))), (aR, .inr (1, [.ref aRF, .ref aRT, .ref aRN, .ref aRL, .ref aRU, .int (nI cnt)])), (aRL, .inl (cyI, 20, .inl lo)), (aRU, .inl (cyI, 20, .inl up))] zH) [(aC, .inr (6, [.ref aD, .ref aR, .ref aH, .ref aS, .ref aT, .ref aL, .ref aI, .int (nI il)])), (aH, .inr (0, [.ref aD, .ref aR, .ref aHW, .ref aHL, .int (nI len), .int hN, .int hL, .int hG])), (aHL, .inl (cyI, 12, .inl (fun j_ => nI (L j_)))), (aR, .inr (1, [.ref aRF, .ref aRT, .ref aRN, .ref aRL, .ref aRU, .int (nI cnt)])), (aRL, .inl (cyI, 20, .inl lo)), (aRU, .inl (cyI, 20, .inl up))]) (va_A [(aC, .inr (6, [.ref aD, .ref aR, .ref aH, .ref aS, .ref aT, .ref aL, .ref aI, .int (nI il)])), (aH, .inr (0, [.ref aD, .ref aR, .ref aHW, .ref aHL, .int (nI len), .int hN, .int hL, .int hG])), (aHL, .inl (cyI, 12, .inl (fun j_ => nI (L j_)))), (aR, .inr (1, [.ref aRF, .ref aRT, .ref aRN, .ref aRL, .ref aRU, .int (nI cnt)])), (aRL, .inl (cyI, 20, .inl lo)), (aRU, .inl (cyI, 20, .inl up))] zH)) 0 0 (va_A [(aC, .inr (6, [.ref aD, .ref aR, .ref aH, .ref aS, .ref aT, .ref aL, .ref aI, .int (nI il)])), (aH, .inr (0, [.ref aD, .ref aR, .ref aHW, .ref aHL, .int (nI len), .int hN, .int hL, .int hG])), (aHL, .inl (cyI, 12, .inl (fun j_ => nI (L j_)))), (aR, .inr (1, [.ref aRF, .ref aRT, .ref aRN, .ref aRL, .ref aRU, .int (nI cnt)])), (aRL, .inl (cyI, 20, .inl lo)), (aRU, .inl (cyI, 20, .inl up))] zH) := by
  refine Met.ofW (cc := cX6_mixChain) (maxL := 5) (ret := (some .long)) (by decide) rfl ?_
  intro pM eM s mM args blM mtM cM s₁ BM hml hv
  obtain ⟨rfl, hsz, hP, hK, hD0⟩ := hv
  have hx := BM.exec
  have hb := BM.bytes
  have hr := BM.returns
  have hts := atoms_spec (ws := wsX6_mixChain) BM.pre
  have hown : s.vm.findClass RX6 = some mM.cls := findClass_of_methodNamed BM.named
  have hlocks := BM.notSynchronized
  have w0 := hts (.fieldLink RX6 28 "DimensionChecker" "chain" "LDimensionChecker$Chain;") (by decide +kernel)
  have w1 := hts (.fieldLink RX6 206 "DimensionChecker$Chain" "nominal" "I") (by decide +kernel)
  have w2 := hts (.fieldLink RX6 208 "DimensionChecker$Chain" "least" "I") (by decide +kernel)
  have w3 := hts (.fieldLink RX6 211 "DimensionChecker$Chain" "greatest" "I") (by decide +kernel)
  have iX6 : ∀ w ∈ wsX60, w ∈ wsX6_mixChain := by decide +kernel
  have iX0 : ∀ w ∈ wsX00, w ∈ wsX6_mixChain := by decide +kernel
  subst hsz
  have hD := hD0.self (sz := s.heap.size)
  obtain ⟨Q, hQe⟩ : ∃ Q : State → Prop, Q = MQ blM (va_Ql (fun (r : Int64) (_ : Unit) => r = 31 * (31 * (31 * (31 * (31 * hs + hN.toInt64) + hL.toInt64) + hG.toInt64) + (nI (rtS (sqN L lo up len) 13)).toInt64) + (wdst L lo up len).toInt64) (fun _ t => va_P (dC, dI) vwCl [(aC, .inr (6, [.ref aD, .ref aR, .ref aH, .ref aS, .ref aT, .ref aL, .ref aI, .int (nI il)])), (aH, .inr (0, [.ref aD, .ref aR, .ref aHW, .ref aHL, .int (nI len), .int hN, .int hL, .int hG])), (aHL, .inl (cyI, 12, .inl (fun j_ => nI (L j_)))), (aR, .inr (1, [.ref aRF, .ref aRT, .ref aRN, .ref aRL, .ref aRU, .int (nI cnt)])), (aRL, .inl (cyI, 20, .inl lo)), (aRU, .inl (cyI, 20, .inl up))] t.heap ∧ va_K (dC, dI) vwCl [(cyI, .int), (cyZ, .boolean), (cyJ, .long), (cyD, .double)] t ∧ va_D (va_A [(aC, .inr (6, [.ref aD, .ref aR, .ref aH, .ref aS, .ref aT, .ref aL, .ref aI, .int (nI il)])), (aH, .inr (0, [.ref aD, .ref aR, .ref aHW, .ref aHL, .int (nI len), .int hN, .int hL, .int hG])), (aHL, .inl (cyI, 12, .inl (fun j_ => nI (L j_)))), (aR, .inr (1, [.ref aRF, .ref aRT, .ref aRN, .ref aRL, .ref aRU, .int (nI cnt)])), (aRL, .inl (cyI, 20, .inl lo)), (aRU, .inl (cyI, 20, .inl up))] s.heap.size) [(aC, .inr (6, [.ref aD, .ref aR, .ref aH, .ref aS, .ref aT, .ref aL, .ref aI, .int (nI il)])), (aH, .inr (0, [.ref aD, .ref aR, .ref aHW, .ref aHL, .int (nI len), .int hN, .int hL, .int hG])), (aHL, .inl (cyI, 12, .inl (fun j_ => nI (L j_)))), (aR, .inr (1, [.ref aRF, .ref aRT, .ref aRN, .ref aRL, .ref aRU, .int (nI cnt)])), (aRL, .inl (cyI, 20, .inl lo)), (aRU, .inl (cyI, 20, .inl up))]) (va_A [(aC, .inr (6, [.ref aD, .ref aR, .ref aH, .ref aS, .ref aT, .ref aL, .ref aI, .int (nI il)])), (aH, .inr (0, [.ref aD, .ref aR, .ref aHW, .ref aHL, .int (nI len), .int hN, .int hL, .int hG])), (aHL, .inl (cyI, 12, .inl (fun j_ => nI (L j_)))), (aR, .inr (1, [.ref aRF, .ref aRT, .ref aRN, .ref aRL, .ref aRU, .int (nI cnt)])), (aRL, .inl (cyI, 20, .inl lo)), (aRU, .inl (cyI, 20, .inl up))] s.heap.size)) ([.ref aC, .long hs] : List Value).toArray s 0 0 (va_A [(aC, .inr (6, [.ref aD, .ref aR, .ref aH, .ref aS, .ref aT, .ref aL, .ref aI, .int (nI il)])), (aH, .inr (0, [.ref aD, .ref aR, .ref aHW, .ref aHL, .int (nI len), .int hN, .int hL, .int hG])), (aHL, .inl (cyI, 12, .inl (fun j_ => nI (L j_)))), (aR, .inr (1, [.ref aRF, .ref aRT, .ref aRN, .ref aRL, .ref aRU, .int (nI cnt)])), (aRL, .inl (cyI, 20, .inl lo)), (aRU, .inl (cyI, 20, .inl up))] s.heap.size) := ⟨_, rfl⟩
  rw [← hQe]
  generalize hAe : va_A [(aC, .inr (6, [.ref aD, .ref aR, .ref aH, .ref aS, .ref aT, .ref aL, .ref aI, .int (nI il)])), (aH, .inr (0, [.ref aD, .ref aR, .ref aHW, .ref aHL, .int (nI len), .int hN, .int hL, .int hG])), (aHL, .inl (cyI, 12, .inl (fun j_ => nI (L j_)))), (aR, .inr (1, [.ref aRF, .ref aRT, .ref aRN, .ref aRL, .ref aRU, .int (nI cnt)])), (aRL, .inl (cyI, 20, .inl lo)), (aRU, .inl (cyI, 20, .inl up))] s.heap.size = A at hD hQe
  have hA : ∀ q : Nat, s.heap.size ≤ q → A q := fun q h => by rw [← hAe]; exact Or.inr h
  obtain ⟨H, hHe⟩ : ∃ H : Heap, H = s.heap := ⟨_, rfl⟩
  have hS : va_S A s.heap H [] := by rw [hHe]; exact va_S.rf
  rw [← hHe] at hP ⊢
  have hl := lv_entry ([.ref aC, .long hs]) (n := 5) (Nat.le_of_ble_eq_true rfl)
  rw [lg_entry_eq]
  generalize (lg_sl ([.ref aC, .long hs]) ++ List.replicate (5 - (lg_sl ([.ref aC, .long hs])).length) Slot.unset).toArray = ls at hl ⊢
  have hl : lv_has ls 5 [(0, .ref aC), (1, .long hs)] := hl
  refine lv_lload_n hx hb dX6_mixChain_0 rfl (lv_at hl 1 rfl) ?_
  refine lv_aload_n hx hb dX6_mixChain_1 rfl (lv_at hl 0 rfl) ?_
  refine va_get (D := (dC, dI)) (ci := 6) (v := .ref aH) (C := RX6) (T := TX6) (N := 8) hx hb hts iX6 hown hK hP 0 rfl rfl 2 (by decide) w0 (fun _ h9 => h9) rfl dX6_mixChain_2 ?_
  refine va_get (D := (dC, dI)) (ci := 0) (v := .int hN) (C := RX0) (T := TX0) (N := 8) hx hb hts iX0 hown hK hP 1 rfl rfl 5 (by decide) w1 (fun _ h9 => h9) rfl dX6_mixChain_5 ?_
  refine lv_i2l (v := hN.toInt64) hx hb dX6_mixChain_8 rfl ?_
  have hPc := hP.sub (ws' := []) [] rfl
  have hDc := hD.sub (ws' := []) [] (by decide) rfl
  have hFc := va_free (wc := []) hD hS hA [] rfl
  refine va_calll (va_runS (As := [.long hs, .long hN.toInt64]) (rest := []) ⟨hx, hb, hml, hown, hts⟩ (c_X6_mix l dC dI cyI cyZ cyJ cyD H.size hs hN.toInt64) (va_cwS 2 hts gX6_mixChain_X6_mix rfl rfl rfl (by decide +kernel) ⟨Nat.le_of_ble_eq_true rfl, Nat.le_of_ble_eq_true rfl⟩) ⟨fun a U g mk q => by obtain ⟨q0, q1, qP, qK, qD⟩ := q; exact ⟨q0, q1, qP, va_K.moved (u := U) (U := U.calling g mk a) (Vm.Alike.refl U.vm) qK, qD⟩, fun U hU hW => ⟨rfl, by rw [hU], by rw [hU]; exact hPc, va_K.moved hW.alike hK, hDc.weaken (fun _ _ _ _ => trivial)⟩⟩ rfl rfl hl.1 rfl (lv_room (Nat.le_of_ble_eq_true rfl)) dX6_mixChain_9 ⟨Nat.le_of_ble_eq_true rfl, Nat.le_of_ble_eq_true rfl⟩) hS (fun q _ h => hFc q h) hFc (fun r u t H1 locs ht hvm hw hB hz1 hk1 hS => ?_)
  obtain rfl := hw
  obtain ⟨hP1, hK1, hD1⟩ := hB
  rw [ht] at hP1
  obtain ⟨hP, hD⟩ := va_join (wr := [(aC, .inr (6, [.ref aD, .ref aR, .ref aH, .ref aS, .ref aT, .ref aL, .ref aI, .int (nI il)])), (aH, .inr (0, [.ref aD, .ref aR, .ref aHW, .ref aHL, .int (nI len), .int hN, .int hL, .int hG])), (aHL, .inl (cyI, 12, .inl (fun j_ => nI (L j_)))), (aR, .inr (1, [.ref aRF, .ref aRT, .ref aRN, .ref aRL, .ref aRU, .int (nI cnt)])), (aRL, .inl (cyI, 20, .inl lo)), (aRU, .inl (cyI, 20, .inl up))]) (w1 := []) hP hD [] [0, 1, 2, 3, 4, 5] rfl rfl (by decide) (by decide) hk1 hFc hP1 hD1
  clear hP1 hD1 hK1 hPc hDc hFc hk1 hz1 hvm ht u t
  generalize H1 = H at hP hS ⊢
  have hP : va_P (dC, dI) vwCl [(aC, .inr (6, [.ref aD, .ref aR, .ref aH, .ref aS, .ref aT, .ref aL, .ref aI, .int (nI il)])), (aH, .inr (0, [.ref aD, .ref aR, .ref aHW, .ref aHL, .int (nI len), .int hN, .int hL, .int hG])), (aHL, .inl (cyI, 12, .inl (fun j_ => nI (L j_)))), (aR, .inr (1, [.ref aRF, .ref aRT, .ref aRN, .ref aRL, .ref aRU, .int (nI cnt)])), (aRL, .inl (cyI, 20, .inl lo)), (aRU, .inl (cyI, 20, .inl up))] H := hP
  have hD : va_D A [(aC, .inr (6, [.ref aD, .ref aR, .ref aH, .ref aS, .ref aT, .ref aL, .ref aI, .int (nI il)])), (aH, .inr (0, [.ref aD, .ref aR, .ref aHW, .ref aHL, .int (nI len), .int hN, .int hL, .int hG])), (aHL, .inl (cyI, 12, .inl (fun j_ => nI (L j_)))), (aR, .inr (1, [.ref aRF, .ref aRT, .ref aRN, .ref aRL, .ref aRU, .int (nI cnt)])), (aRL, .inl (cyI, 20, .inl lo)), (aRU, .inl (cyI, 20, .inl up))] := hD
  refine lv_lstore_n (lv' := [(3, .long (31 * hs + hN.toInt64)), (0, .ref aC), (1, .long hs)]) hx hb dX6_mixChain_12 rfl hl (by decide) rfl (fun ls hl => ?_)
  refine lv_lload_n hx hb dX6_mixChain_13 rfl (lv_at hl 0 rfl) ?_
  refine lv_aload_n hx hb dX6_mixChain_14 rfl (lv_at hl 1 rfl) ?_
  refine va_get (D := (dC, dI)) (ci := 6) (v := .ref aH) (C := RX6) (T := TX6) (N := 8) hx hb hts iX6 hown hK hP 0 rfl rfl 2 (by decide) w0 (fun _ h9 => h9) rfl dX6_mixChain_15 ?_
  refine va_get (D := (dC, dI)) (ci := 0) (v := .int hL) (C := RX0) (T := TX0) (N := 8) hx hb hts iX0 hown hK hP 1 rfl rfl 6 (by decide) w2 (fun _ h9 => h9) rfl dX6_mixChain_18 ?_
  refine lv_i2l (v := hL.toInt64) hx hb dX6_mixChain_21 rfl ?_
  have hPc := hP.sub (ws' := []) [] rfl
  have hDc := hD.sub (ws' := []) [] (by decide) rfl
  have hFc := va_free (wc := []) hD hS hA [] rfl
  refine va_calll (va_runS (As := [.long (31 * hs + hN.toInt64), .long hL.toInt64]) (rest := []) ⟨hx, hb, hml, hown, hts⟩ (c_X6_mix l dC dI cyI cyZ cyJ cyD H.size (31 * hs + hN.toInt64) hL.toInt64) (va_cwS 2 hts gX6_mixChain_X6_mix rfl rfl rfl (by decide +kernel) ⟨Nat.le_of_ble_eq_true rfl, Nat.le_of_ble_eq_true rfl⟩) ⟨fun a U g mk q => by obtain ⟨q0, q1, qP, qK, qD⟩ := q; exact ⟨q0, q1, qP, va_K.moved (u := U) (U := U.calling g mk a) (Vm.Alike.refl U.vm) qK, qD⟩, fun U hU hW => ⟨rfl, by rw [hU], by rw [hU]; exact hPc, va_K.moved hW.alike hK, hDc.weaken (fun _ _ _ _ => trivial)⟩⟩ rfl rfl hl.1 rfl (lv_room (Nat.le_of_ble_eq_true rfl)) dX6_mixChain_22 ⟨Nat.le_of_ble_eq_true rfl, Nat.le_of_ble_eq_true rfl⟩) hS (fun q _ h => hFc q h) hFc (fun r u t H1 locs ht hvm hw hB hz1 hk1 hS => ?_)
  obtain rfl := hw
  obtain ⟨hP1, hK1, hD1⟩ := hB
  rw [ht] at hP1
  obtain ⟨hP, hD⟩ := va_join (wr := [(aC, .inr (6, [.ref aD, .ref aR, .ref aH, .ref aS, .ref aT, .ref aL, .ref aI, .int (nI il)])), (aH, .inr (0, [.ref aD, .ref aR, .ref aHW, .ref aHL, .int (nI len), .int hN, .int hL, .int hG])), (aHL, .inl (cyI, 12, .inl (fun j_ => nI (L j_)))), (aR, .inr (1, [.ref aRF, .ref aRT, .ref aRN, .ref aRL, .ref aRU, .int (nI cnt)])), (aRL, .inl (cyI, 20, .inl lo)), (aRU, .inl (cyI, 20, .inl up))]) (w1 := []) hP hD [] [0, 1, 2, 3, 4, 5] rfl rfl (by decide) (by decide) hk1 hFc hP1 hD1
  clear hP1 hD1 hK1 hPc hDc hFc hk1 hz1 hvm ht u t
  generalize H1 = H at hP hS ⊢
  have hP : va_P (dC, dI) vwCl [(aC, .inr (6, [.ref aD, .ref aR, .ref aH, .ref aS, .ref aT, .ref aL, .ref aI, .int (nI il)])), (aH, .inr (0, [.ref aD, .ref aR, .ref aHW, .ref aHL, .int (nI len), .int hN, .int hL, .int hG])), (aHL, .inl (cyI, 12, .inl (fun j_ => nI (L j_)))), (aR, .inr (1, [.ref aRF, .ref aRT, .ref aRN, .ref aRL, .ref aRU, .int (nI cnt)])), (aRL, .inl (cyI, 20, .inl lo)), (aRU, .inl (cyI, 20, .inl up))] H := hP
  have hD : va_D A [(aC, .inr (6, [.ref aD, .ref aR, .ref aH, .ref aS, .ref aT, .ref aL, .ref aI, .int (nI il)])), (aH, .inr (0, [.ref aD, .ref aR, .ref aHW, .ref aHL, .int (nI len), .int hN, .int hL, .int hG])), (aHL, .inl (cyI, 12, .inl (fun j_ => nI (L j_)))), (aR, .inr (1, [.ref aRF, .ref aRT, .ref aRN, .ref aRL, .ref aRU, .int (nI cnt)])), (aRL, .inl (cyI, 20, .inl lo)), (aRU, .inl (cyI, 20, .inl up))] := hD
  refine lv_lstore_n (lv' := [(3, .long (31 * (31 * hs + hN.toInt64) + hL.toInt64)), (0, .ref aC), (1, .long hs)]) hx hb dX6_mixChain_25 rfl hl (by decide) rfl (fun ls hl => ?_)
  refine lv_lload_n hx hb dX6_mixChain_26 rfl (lv_at hl 0 rfl) ?_
  refine lv_aload_n hx hb dX6_mixChain_27 rfl (lv_at hl 1 rfl) ?_
  refine va_get (D := (dC, dI)) (ci := 6) (v := .ref aH) (C := RX6) (T := TX6) (N := 8) hx hb hts iX6 hown hK hP 0 rfl rfl 2 (by decide) w0 (fun _ h9 => h9) rfl dX6_mixChain_28 ?_
  refine va_get (D := (dC, dI)) (ci := 0) (v := .int hG) (C := RX0) (T := TX0) (N := 8) hx hb hts iX0 hown hK hP 1 rfl rfl 7 (by decide) w3 (fun _ h9 => h9) rfl dX6_mixChain_31 ?_
  refine lv_i2l (v := hG.toInt64) hx hb dX6_mixChain_34 rfl ?_
  have hPc := hP.sub (ws' := []) [] rfl
  have hDc := hD.sub (ws' := []) [] (by decide) rfl
  have hFc := va_free (wc := []) hD hS hA [] rfl
  refine va_calll (va_runS (As := [.long (31 * (31 * hs + hN.toInt64) + hL.toInt64), .long hG.toInt64]) (rest := []) ⟨hx, hb, hml, hown, hts⟩ (c_X6_mix l dC dI cyI cyZ cyJ cyD H.size (31 * (31 * hs + hN.toInt64) + hL.toInt64) hG.toInt64) (va_cwS 2 hts gX6_mixChain_X6_mix rfl rfl rfl (by decide +kernel) ⟨Nat.le_of_ble_eq_true rfl, Nat.le_of_ble_eq_true rfl⟩) ⟨fun a U g mk q => by obtain ⟨q0, q1, qP, qK, qD⟩ := q; exact ⟨q0, q1, qP, va_K.moved (u := U) (U := U.calling g mk a) (Vm.Alike.refl U.vm) qK, qD⟩, fun U hU hW => ⟨rfl, by rw [hU], by rw [hU]; exact hPc, va_K.moved hW.alike hK, hDc.weaken (fun _ _ _ _ => trivial)⟩⟩ rfl rfl hl.1 rfl (lv_room (Nat.le_of_ble_eq_true rfl)) dX6_mixChain_35 ⟨Nat.le_of_ble_eq_true rfl, Nat.le_of_ble_eq_true rfl⟩) hS (fun q _ h => hFc q h) hFc (fun r u t H1 locs ht hvm hw hB hz1 hk1 hS => ?_)
  obtain rfl := hw
  obtain ⟨hP1, hK1, hD1⟩ := hB
  rw [ht] at hP1
  obtain ⟨hP, hD⟩ := va_join (wr := [(aC, .inr (6, [.ref aD, .ref aR, .ref aH, .ref aS, .ref aT, .ref aL, .ref aI, .int (nI il)])), (aH, .inr (0, [.ref aD, .ref aR, .ref aHW, .ref aHL, .int (nI len), .int hN, .int hL, .int hG])), (aHL, .inl (cyI, 12, .inl (fun j_ => nI (L j_)))), (aR, .inr (1, [.ref aRF, .ref aRT, .ref aRN, .ref aRL, .ref aRU, .int (nI cnt)])), (aRL, .inl (cyI, 20, .inl lo)), (aRU, .inl (cyI, 20, .inl up))]) (w1 := []) hP hD [] [0, 1, 2, 3, 4, 5] rfl rfl (by decide) (by decide) hk1 hFc hP1 hD1
  clear hP1 hD1 hK1 hPc hDc hFc hk1 hz1 hvm ht u t
  generalize H1 = H at hP hS ⊢
  have hP : va_P (dC, dI) vwCl [(aC, .inr (6, [.ref aD, .ref aR, .ref aH, .ref aS, .ref aT, .ref aL, .ref aI, .int (nI il)])), (aH, .inr (0, [.ref aD, .ref aR, .ref aHW, .ref aHL, .int (nI len), .int hN, .int hL, .int hG])), (aHL, .inl (cyI, 12, .inl (fun j_ => nI (L j_)))), (aR, .inr (1, [.ref aRF, .ref aRT, .ref aRN, .ref aRL, .ref aRU, .int (nI cnt)])), (aRL, .inl (cyI, 20, .inl lo)), (aRU, .inl (cyI, 20, .inl up))] H := hP
  have hD : va_D A [(aC, .inr (6, [.ref aD, .ref aR, .ref aH, .ref aS, .ref aT, .ref aL, .ref aI, .int (nI il)])), (aH, .inr (0, [.ref aD, .ref aR, .ref aHW, .ref aHL, .int (nI len), .int hN, .int hL, .int hG])), (aHL, .inl (cyI, 12, .inl (fun j_ => nI (L j_)))), (aR, .inr (1, [.ref aRF, .ref aRT, .ref aRN, .ref aRL, .ref aRU, .int (nI cnt)])), (aRL, .inl (cyI, 20, .inl lo)), (aRU, .inl (cyI, 20, .inl up))] := hD
  refine lv_lstore_n (lv' := [(3, .long (31 * (31 * (31 * hs + hN.toInt64) + hL.toInt64) + hG.toInt64)), (0, .ref aC), (1, .long hs)]) hx hb dX6_mixChain_38 rfl hl (by decide) rfl (fun ls hl => ?_)
  refine lv_lload_n hx hb dX6_mixChain_39 rfl (lv_at hl 0 rfl) ?_
  refine lv_aload_n hx hb dX6_mixChain_40 rfl (lv_at hl 1 rfl) ?_
  refine va_get (D := (dC, dI)) (ci := 6) (v := .ref aH) (C := RX6) (T := TX6) (N := 8) hx hb hts iX6 hown hK hP 0 rfl rfl 2 (by decide) w0 (fun _ h9 => h9) rfl dX6_mixChain_41 ?_
  have g1 : len ≤ 12 := by first | assumption | omega | exact vp_in_nI (by omega) (by omega)
  have g2 : ∀ k_q, k_q < len → L k_q < 20 := by first | assumption | omega | exact vp_in_nI (by omega) (by omega)
  have g3 : ∀ k_q, k_q < len → up (L k_q) - lo (L k_q) = nI (wdN lo up (L k_q)) ∧ wdN lo up (L k_q) ≤ 1998 := by first | assumption | omega | exact vp_in_nI (by omega) (by omega)
  have hPc := hP.sub (ws' := [(aH, .inr (0, [.ref aD, .ref aR, .ref aHW, .ref aHL, .int (nI len), .int hN, .int hL, .int hG])), (aHL, .inl (cyI, 12, .inl (fun j_ => nI (L j_)))), (aR, .inr (1, [.ref aRF, .ref aRT, .ref aRN, .ref aRL, .ref aRU, .int (nI cnt)])), (aRL, .inl (cyI, 20, .inl lo)), (aRU, .inl (cyI, 20, .inl up))]) [1, 2, 3, 4, 5] rfl
  have hDc := hD.sub (ws' := [(aH, .inr (0, [.ref aD, .ref aR, .ref aHW, .ref aHL, .int (nI len), .int hN, .int hL, .int hG])), (aHL, .inl (cyI, 12, .inl (fun j_ => nI (L j_)))), (aR, .inr (1, [.ref aRF, .ref aRT, .ref aRN, .ref aRL, .ref aRU, .int (nI cnt)])), (aRL, .inl (cyI, 20, .inl lo)), (aRU, .inl (cyI, 20, .inl up))]) [1, 2, 3, 4, 5] (by decide) rfl
  have hFc := va_free (wc := [(aH, .inr (0, [.ref aD, .ref aR, .ref aHW, .ref aHL, .int (nI len), .int hN, .int hL, .int hG])), (aHL, .inl (cyI, 12, .inl (fun j_ => nI (L j_)))), (aR, .inr (1, [.ref aRF, .ref aRT, .ref aRN, .ref aRL, .ref aRU, .int (nI cnt)])), (aRL, .inl (cyI, 20, .inl lo)), (aRU, .inl (cyI, 20, .inl up))]) hD hS hA [1, 2, 3, 4, 5] rfl
  refine va_calli (va_runV (As := []) (rest := [.long (31 * (31 * (31 * hs + hN.toInt64) + hL.toInt64) + hG.toInt64)]) ⟨hx, hb, hml, hown, hts⟩ (c_X0_rootOfSquares l dC dI cyI cyZ cyJ cyD aH aD aR aHW aHL aRF aRT aRN aRL aRU H.size len hN hL hG L lo up cnt g1 g2 g3) (cwV 0 hts gX6_mixChain_X0_rootOfSquares rfl rfl rfl (by decide +kernel) ⟨Nat.le_of_ble_eq_true rfl, Nat.le_of_ble_eq_true rfl⟩) ⟨fun a U g mk q => by obtain ⟨q0, q1, qP, qK, qD⟩ := q; exact ⟨q0, q1, qP, va_K.moved (u := U) (U := U.calling g mk a) (Vm.Alike.refl U.vm) qK, qD⟩, va_recv hK hPc (ci := 0) (q0 := 0) rfl rfl, fun U hU hW => ⟨rfl, by rw [hU], by rw [hU]; exact hPc, va_K.moved hW.alike hK, hDc.weaken (fun _ _ _ _ => trivial)⟩⟩ rfl rfl hl.1 rfl (lv_room (Nat.le_of_ble_eq_true rfl)) dX6_mixChain_44 ⟨Nat.le_of_ble_eq_true rfl, Nat.le_of_ble_eq_true rfl⟩) hS (fun q _ h => hFc q h) hFc (fun r u t H1 locs ht hvm hw hB hz1 hk1 hS => ?_)
  obtain rfl := hw
  obtain ⟨hP1, hK1, hD1⟩ := hB
  rw [ht] at hP1
  obtain ⟨hP, hD⟩ := va_join (wr := [(aC, .inr (6, [.ref aD, .ref aR, .ref aH, .ref aS, .ref aT, .ref aL, .ref aI, .int (nI il)]))]) (w1 := [(aH, .inr (0, [.ref aD, .ref aR, .ref aHW, .ref aHL, .int (nI len), .int hN, .int hL, .int hG])), (aHL, .inl (cyI, 12, .inl (fun j_ => nI (L j_)))), (aR, .inr (1, [.ref aRF, .ref aRT, .ref aRN, .ref aRL, .ref aRU, .int (nI cnt)])), (aRL, .inl (cyI, 20, .inl lo)), (aRU, .inl (cyI, 20, .inl up))]) hP hD [1, 2, 3, 4, 5] [0] rfl rfl (by decide) (by decide) hk1 hFc hP1 hD1
  clear hP1 hD1 hK1 hPc hDc hFc hk1 hz1 hvm ht u t
  generalize H1 = H at hP hS ⊢
  have hP : va_P (dC, dI) vwCl [(aC, .inr (6, [.ref aD, .ref aR, .ref aH, .ref aS, .ref aT, .ref aL, .ref aI, .int (nI il)])), (aH, .inr (0, [.ref aD, .ref aR, .ref aHW, .ref aHL, .int (nI len), .int hN, .int hL, .int hG])), (aHL, .inl (cyI, 12, .inl (fun j_ => nI (L j_)))), (aR, .inr (1, [.ref aRF, .ref aRT, .ref aRN, .ref aRL, .ref aRU, .int (nI cnt)])), (aRL, .inl (cyI, 20, .inl lo)), (aRU, .inl (cyI, 20, .inl up))] H := hP
  have hD : va_D A [(aC, .inr (6, [.ref aD, .ref aR, .ref aH, .ref aS, .ref aT, .ref aL, .ref aI, .int (nI il)])), (aH, .inr (0, [.ref aD, .ref aR, .ref aHW, .ref aHL, .int (nI len), .int hN, .int hL, .int hG])), (aHL, .inl (cyI, 12, .inl (fun j_ => nI (L j_)))), (aR, .inr (1, [.ref aRF, .ref aRT, .ref aRN, .ref aRL, .ref aRU, .int (nI cnt)])), (aRL, .inl (cyI, 20, .inl lo)), (aRU, .inl (cyI, 20, .inl up))] := hD
  refine lv_i2l (v := (nI (rtS (sqN L lo up len) 13)).toInt64) hx hb dX6_mixChain_47 rfl ?_
  have hPc := hP.sub (ws' := []) [] rfl
  have hDc := hD.sub (ws' := []) [] (by decide) rfl
  have hFc := va_free (wc := []) hD hS hA [] rfl
  refine va_calll (va_runS (As := [.long (31 * (31 * (31 * hs + hN.toInt64) + hL.toInt64) + hG.toInt64), .long ((nI (rtS (sqN L lo up len) 13)).toInt64)]) (rest := []) ⟨hx, hb, hml, hown, hts⟩ (c_X6_mix l dC dI cyI cyZ cyJ cyD H.size (31 * (31 * (31 * hs + hN.toInt64) + hL.toInt64) + hG.toInt64) ((nI (rtS (sqN L lo up len) 13)).toInt64)) (va_cwS 2 hts gX6_mixChain_X6_mix rfl rfl rfl (by decide +kernel) ⟨Nat.le_of_ble_eq_true rfl, Nat.le_of_ble_eq_true rfl⟩) ⟨fun a U g mk q => by obtain ⟨q0, q1, qP, qK, qD⟩ := q; exact ⟨q0, q1, qP, va_K.moved (u := U) (U := U.calling g mk a) (Vm.Alike.refl U.vm) qK, qD⟩, fun U hU hW => ⟨rfl, by rw [hU], by rw [hU]; exact hPc, va_K.moved hW.alike hK, hDc.weaken (fun _ _ _ _ => trivial)⟩⟩ rfl rfl hl.1 rfl (lv_room (Nat.le_of_ble_eq_true rfl)) dX6_mixChain_48 ⟨Nat.le_of_ble_eq_true rfl, Nat.le_of_ble_eq_true rfl⟩) hS (fun q _ h => hFc q h) hFc (fun r u t H1 locs ht hvm hw hB hz1 hk1 hS => ?_)
  obtain rfl := hw
  obtain ⟨hP1, hK1, hD1⟩ := hB
  rw [ht] at hP1
  obtain ⟨hP, hD⟩ := va_join (wr := [(aC, .inr (6, [.ref aD, .ref aR, .ref aH, .ref aS, .ref aT, .ref aL, .ref aI, .int (nI il)])), (aH, .inr (0, [.ref aD, .ref aR, .ref aHW, .ref aHL, .int (nI len), .int hN, .int hL, .int hG])), (aHL, .inl (cyI, 12, .inl (fun j_ => nI (L j_)))), (aR, .inr (1, [.ref aRF, .ref aRT, .ref aRN, .ref aRL, .ref aRU, .int (nI cnt)])), (aRL, .inl (cyI, 20, .inl lo)), (aRU, .inl (cyI, 20, .inl up))]) (w1 := []) hP hD [] [0, 1, 2, 3, 4, 5] rfl rfl (by decide) (by decide) hk1 hFc hP1 hD1
  clear hP1 hD1 hK1 hPc hDc hFc hk1 hz1 hvm ht u t
  generalize H1 = H at hP hS ⊢
  have hP : va_P (dC, dI) vwCl [(aC, .inr (6, [.ref aD, .ref aR, .ref aH, .ref aS, .ref aT, .ref aL, .ref aI, .int (nI il)])), (aH, .inr (0, [.ref aD, .ref aR, .ref aHW, .ref aHL, .int (nI len), .int hN, .int hL, .int hG])), (aHL, .inl (cyI, 12, .inl (fun j_ => nI (L j_)))), (aR, .inr (1, [.ref aRF, .ref aRT, .ref aRN, .ref aRL, .ref aRU, .int (nI cnt)])), (aRL, .inl (cyI, 20, .inl lo)), (aRU, .inl (cyI, 20, .inl up))] H := hP
  have hD : va_D A [(aC, .inr (6, [.ref aD, .ref aR, .ref aH, .ref aS, .ref aT, .ref aL, .ref aI, .int (nI il)])), (aH, .inr (0, [.ref aD, .ref aR, .ref aHW, .ref aHL, .int (nI len), .int hN, .int hL, .int hG])), (aHL, .inl (cyI, 12, .inl (fun j_ => nI (L j_)))), (aR, .inr (1, [.ref aRF, .ref aRT, .ref aRN, .ref aRL, .ref aRU, .int (nI cnt)])), (aRL, .inl (cyI, 20, .inl lo)), (aRU, .inl (cyI, 20, .inl up))] := hD
  refine lv_lstore_n (lv' := [(3, .long (31 * (31 * (31 * (31 * hs + hN.toInt64) + hL.toInt64) + hG.toInt64) + ((nI (rtS (sqN L lo up len) 13)).toInt64))), (0, .ref aC), (1, .long hs)]) hx hb dX6_mixChain_51 rfl hl (by decide) rfl (fun ls hl => ?_)
  refine lv_lload_n hx hb dX6_mixChain_52 rfl (lv_at hl 0 rfl) ?_
  refine lv_aload_n hx hb dX6_mixChain_53 rfl (lv_at hl 1 rfl) ?_
  refine va_get (D := (dC, dI)) (ci := 6) (v := .ref aH) (C := RX6) (T := TX6) (N := 8) hx hb hts iX6 hown hK hP 0 rfl rfl 2 (by decide) w0 (fun _ h9 => h9) rfl dX6_mixChain_54 ?_
  have g4 : len ≤ 12 := by first | assumption | omega | exact vp_in_nI (by omega) (by omega)
  have g5 : ∀ k_q, k_q < len → L k_q < 20 := by first | assumption | omega | exact vp_in_nI (by omega) (by omega)
  have hPc := hP.sub (ws' := [(aH, .inr (0, [.ref aD, .ref aR, .ref aHW, .ref aHL, .int (nI len), .int hN, .int hL, .int hG])), (aHL, .inl (cyI, 12, .inl (fun j_ => nI (L j_)))), (aR, .inr (1, [.ref aRF, .ref aRT, .ref aRN, .ref aRL, .ref aRU, .int (nI cnt)])), (aRL, .inl (cyI, 20, .inl lo)), (aRU, .inl (cyI, 20, .inl up))]) [1, 2, 3, 4, 5] rfl
  have hDc := hD.sub (ws' := [(aH, .inr (0, [.ref aD, .ref aR, .ref aHW, .ref aHL, .int (nI len), .int hN, .int hL, .int hG])), (aHL, .inl (cyI, 12, .inl (fun j_ => nI (L j_)))), (aR, .inr (1, [.ref aRF, .ref aRT, .ref aRN, .ref aRL, .ref aRU, .int (nI cnt)])), (aRL, .inl (cyI, 20, .inl lo)), (aRU, .inl (cyI, 20, .inl up))]) [1, 2, 3, 4, 5] (by decide) rfl
  have hFc := va_free (wc := [(aH, .inr (0, [.ref aD, .ref aR, .ref aHW, .ref aHL, .int (nI len), .int hN, .int hL, .int hG])), (aHL, .inl (cyI, 12, .inl (fun j_ => nI (L j_)))), (aR, .inr (1, [.ref aRF, .ref aRT, .ref aRN, .ref aRL, .ref aRU, .int (nI cnt)])), (aRL, .inl (cyI, 20, .inl lo)), (aRU, .inl (cyI, 20, .inl up))]) hD hS hA [1, 2, 3, 4, 5] rfl
  refine va_calli (va_runV (As := []) (rest := [.long (31 * (31 * (31 * (31 * hs + hN.toInt64) + hL.toInt64) + hG.toInt64) + ((nI (rtS (sqN L lo up len) 13)).toInt64))]) ⟨hx, hb, hml, hown, hts⟩ (c_X0_widest l dC dI cyI cyZ cyJ cyD aH aD aR aHW aHL aRF aRT aRN aRL aRU H.size len hN hL hG L lo up cnt g4 g5) (cwV 0 hts gX6_mixChain_X0_widest rfl rfl rfl (by decide +kernel) ⟨Nat.le_of_ble_eq_true rfl, Nat.le_of_ble_eq_true rfl⟩) ⟨fun a U g mk q => by obtain ⟨q0, q1, qP, qK, qD⟩ := q; exact ⟨q0, q1, qP, va_K.moved (u := U) (U := U.calling g mk a) (Vm.Alike.refl U.vm) qK, qD⟩, va_recv hK hPc (ci := 0) (q0 := 0) rfl rfl, fun U hU hW => ⟨rfl, by rw [hU], by rw [hU]; exact hPc, va_K.moved hW.alike hK, hDc.weaken (fun _ _ _ _ => trivial)⟩⟩ rfl rfl hl.1 rfl (lv_room (Nat.le_of_ble_eq_true rfl)) dX6_mixChain_57 ⟨Nat.le_of_ble_eq_true rfl, Nat.le_of_ble_eq_true rfl⟩) hS (fun q _ h => hFc q h) hFc (fun r u t H1 locs ht hvm hw hB hz1 hk1 hS => ?_)
  obtain rfl := hw
  obtain ⟨hP1, hK1, hD1⟩ := hB
  rw [ht] at hP1
  obtain ⟨hP, hD⟩ := va_join (wr := [(aC, .inr (6, [.ref aD, .ref aR, .ref aH, .ref aS, .ref aT, .ref aL, .ref aI, .int (nI il)]))]) (w1 := [(aH, .inr (0, [.ref aD, .ref aR, .ref aHW, .ref aHL, .int (nI len), .int hN, .int hL, .int hG])), (aHL, .inl (cyI, 12, .inl (fun j_ => nI (L j_)))), (aR, .inr (1, [.ref aRF, .ref aRT, .ref aRN, .ref aRL, .ref aRU, .int (nI cnt)])), (aRL, .inl (cyI, 20, .inl lo)), (aRU, .inl (cyI, 20, .inl up))]) hP hD [1, 2, 3, 4, 5] [0] rfl rfl (by decide) (by decide) hk1 hFc hP1 hD1
  clear hP1 hD1 hK1 hPc hDc hFc hk1 hz1 hvm ht u t
  generalize H1 = H at hP hS ⊢
  have hP : va_P (dC, dI) vwCl [(aC, .inr (6, [.ref aD, .ref aR, .ref aH, .ref aS, .ref aT, .ref aL, .ref aI, .int (nI il)])), (aH, .inr (0, [.ref aD, .ref aR, .ref aHW, .ref aHL, .int (nI len), .int hN, .int hL, .int hG])), (aHL, .inl (cyI, 12, .inl (fun j_ => nI (L j_)))), (aR, .inr (1, [.ref aRF, .ref aRT, .ref aRN, .ref aRL, .ref aRU, .int (nI cnt)])), (aRL, .inl (cyI, 20, .inl lo)), (aRU, .inl (cyI, 20, .inl up))] H := hP
  have hD : va_D A [(aC, .inr (6, [.ref aD, .ref aR, .ref aH, .ref aS, .ref aT, .ref aL, .ref aI, .int (nI il)])), (aH, .inr (0, [.ref aD, .ref aR, .ref aHW, .ref aHL, .int (nI len), .int hN, .int hL, .int hG])), (aHL, .inl (cyI, 12, .inl (fun j_ => nI (L j_)))), (aR, .inr (1, [.ref aRF, .ref aRT, .ref aRN, .ref aRL, .ref aRU, .int (nI cnt)])), (aRL, .inl (cyI, 20, .inl lo)), (aRU, .inl (cyI, 20, .inl up))] := hD
  refine lv_i2l (v := (wdst L lo up len).toInt64) hx hb dX6_mixChain_60 rfl ?_
  have hPc := hP.sub (ws' := []) [] rfl
  have hDc := hD.sub (ws' := []) [] (by decide) rfl
  have hFc := va_free (wc := []) hD hS hA [] rfl
  refine va_calll (va_runS (As := [.long (31 * (31 * (31 * (31 * hs + hN.toInt64) + hL.toInt64) + hG.toInt64) + ((nI (rtS (sqN L lo up len) 13)).toInt64)), .long ((wdst L lo up len).toInt64)]) (rest := []) ⟨hx, hb, hml, hown, hts⟩ (c_X6_mix l dC dI cyI cyZ cyJ cyD H.size (31 * (31 * (31 * (31 * hs + hN.toInt64) + hL.toInt64) + hG.toInt64) + ((nI (rtS (sqN L lo up len) 13)).toInt64)) ((wdst L lo up len).toInt64)) (va_cwS 2 hts gX6_mixChain_X6_mix rfl rfl rfl (by decide +kernel) ⟨Nat.le_of_ble_eq_true rfl, Nat.le_of_ble_eq_true rfl⟩) ⟨fun a U g mk q => by obtain ⟨q0, q1, qP, qK, qD⟩ := q; exact ⟨q0, q1, qP, va_K.moved (u := U) (U := U.calling g mk a) (Vm.Alike.refl U.vm) qK, qD⟩, fun U hU hW => ⟨rfl, by rw [hU], by rw [hU]; exact hPc, va_K.moved hW.alike hK, hDc.weaken (fun _ _ _ _ => trivial)⟩⟩ rfl rfl hl.1 rfl (lv_room (Nat.le_of_ble_eq_true rfl)) dX6_mixChain_61 ⟨Nat.le_of_ble_eq_true rfl, Nat.le_of_ble_eq_true rfl⟩) hS (fun q _ h => hFc q h) hFc (fun r u t H1 locs ht hvm hw hB hz1 hk1 hS => ?_)
  obtain rfl := hw
  obtain ⟨hP1, hK1, hD1⟩ := hB
  rw [ht] at hP1
  obtain ⟨hP, hD⟩ := va_join (wr := [(aC, .inr (6, [.ref aD, .ref aR, .ref aH, .ref aS, .ref aT, .ref aL, .ref aI, .int (nI il)])), (aH, .inr (0, [.ref aD, .ref aR, .ref aHW, .ref aHL, .int (nI len), .int hN, .int hL, .int hG])), (aHL, .inl (cyI, 12, .inl (fun j_ => nI (L j_)))), (aR, .inr (1, [.ref aRF, .ref aRT, .ref aRN, .ref aRL, .ref aRU, .int (nI cnt)])), (aRL, .inl (cyI, 20, .inl lo)), (aRU, .inl (cyI, 20, .inl up))]) (w1 := []) hP hD [] [0, 1, 2, 3, 4, 5] rfl rfl (by decide) (by decide) hk1 hFc hP1 hD1
  clear hP1 hD1 hK1 hPc hDc hFc hk1 hz1 hvm ht u t
  generalize H1 = H at hP hS ⊢
  have hP : va_P (dC, dI) vwCl [(aC, .inr (6, [.ref aD, .ref aR, .ref aH, .ref aS, .ref aT, .ref aL, .ref aI, .int (nI il)])), (aH, .inr (0, [.ref aD, .ref aR, .ref aHW, .ref aHL, .int (nI len), .int hN, .int hL, .int hG])), (aHL, .inl (cyI, 12, .inl (fun j_ => nI (L j_)))), (aR, .inr (1, [.ref aRF, .ref aRT, .ref aRN, .ref aRL, .ref aRU, .int (nI cnt)])), (aRL, .inl (cyI, 20, .inl lo)), (aRU, .inl (cyI, 20, .inl up))] H := hP
  have hD : va_D A [(aC, .inr (6, [.ref aD, .ref aR, .ref aH, .ref aS, .ref aT, .ref aL, .ref aI, .int (nI il)])), (aH, .inr (0, [.ref aD, .ref aR, .ref aHW, .ref aHL, .int (nI len), .int hN, .int hL, .int hG])), (aHL, .inl (cyI, 12, .inl (fun j_ => nI (L j_)))), (aR, .inr (1, [.ref aRF, .ref aRT, .ref aRN, .ref aRL, .ref aRU, .int (nI cnt)])), (aRL, .inl (cyI, 20, .inl lo)), (aRU, .inl (cyI, 20, .inl up))] := hD
  have r6 : (31 * (31 * (31 * (31 * (31 * hs + hN.toInt64) + hL.toInt64) + hG.toInt64) + ((nI (rtS (sqN L lo up len) 13)).toInt64)) + ((wdst L lo up len).toInt64)) = (31 * (31 * (31 * (31 * (31 * hs + hN.toInt64) + hL.toInt64) + hG.toInt64) + (nI (rtS (sqN L lo up len) 13)).toInt64) + (wdst L lo up len).toInt64) := by first | rfl | simp [*]
  have hP9 : va_P (dC, dI) vwCl [(aC, .inr (6, [.ref aD, .ref aR, .ref aH, .ref aS, .ref aT, .ref aL, .ref aI, .int (nI il)])), (aH, .inr (0, [.ref aD, .ref aR, .ref aHW, .ref aHL, .int (nI len), .int hN, .int hL, .int hG])), (aHL, .inl (cyI, 12, .inl (fun j_ => nI (L j_)))), (aR, .inr (1, [.ref aRF, .ref aRT, .ref aRN, .ref aRL, .ref aRU, .int (nI cnt)])), (aRL, .inl (cyI, 20, .inl lo)), (aRU, .inl (cyI, 20, .inl up))] H := by exact hP.sub [0, 1, 2, 3, 4, 5] rfl
  have hD9 : va_D A [(aC, .inr (6, [.ref aD, .ref aR, .ref aH, .ref aS, .ref aT, .ref aL, .ref aI, .int (nI il)])), (aH, .inr (0, [.ref aD, .ref aR, .ref aHW, .ref aHL, .int (nI len), .int hN, .int hL, .int hG])), (aHL, .inl (cyI, 12, .inl (fun j_ => nI (L j_)))), (aR, .inr (1, [.ref aRF, .ref aRT, .ref aRN, .ref aRL, .ref aRU, .int (nI cnt)])), (aRL, .inl (cyI, 20, .inl lo)), (aRU, .inl (cyI, 20, .inl up))] := by exact hD.sub [0, 1, 2, 3, 4, 5] (by decide) rfl
  rw [hQe]
  exact W.lret (v := 31 * (31 * (31 * (31 * (31 * hs + hN.toInt64) + hL.toInt64) + hG.toInt64) + ((nI (rtS (sqN L lo up len) 13)).toInt64)) + ((wdst L lo up len).toInt64)) hx hb hr (fun t ht hW => ⟨⟨_, (), rfl, r6, by rw [ht]; exact hP9, va_K.moved hW.alike hK, hD9⟩, hS.F ht⟩) hS.2.2 dX6_mixChain_64
set_option maxHeartbeats 4000000 in
set_option maxRecDepth 100000 in
theorem c_X6_contradictsChain (l : Launch) (dC : Nat → ClassId) (dI : Nat → Nat → Nat) (cyI cyZ cyJ cyD : ClassId) (aC aD aR aH aS aT aL aI aHW aHL aDL aDD aRF aRT aRN aRL aRU : Nat) (zH : Nat) (il : Nat) (len : Nat) (hN : Int32) (hL : Int32) (hG : Int32) (n : Nat) (dd : Nat → Bool) (F : Nat → Nat) (T : Nat → Nat) (nm : Nat → Int32) (lo : Nat → Int32) (up : Nat → Int32) (cnt : Nat) (wy : Nat → Int32) (L : Nat → Nat) (d : Nat) (hn : n ≤ 12) (hc : cnt ≤ 20) (hF : ∀ d_q, d_q < cnt → F d_q < n) (hT : ∀ d_q, d_q < cnt → T d_q < n) (hdd : ∀ d_q, d_q < cnt → dd d_q = Dd F T d_q) (hd0 : d < cnt) : Met l yX6_contradictsChain wsX6_contradictsChain ({ frames := 3, cells := 0, slots := 0, locals := 73 } : Room) (va_Pc [.ref aC, .int (nI d)] (fun U => U.heap.size = zH ∧ va_P (dC, dI) vwCl [(aC, .inr (6, [.ref aD, .ref aR, .ref aH, .ref aS, .ref aT, .ref aL, .ref aI, .int (nI il)])), (aH, .inr (0, [.ref aD, .ref aR, .ref aHW, .ref aHL, .int (nI len), .int hN, .int hL, .int hG])), (aD, .inr (2, [.ref aR, .ref aDL, .ref aDD, .int (nI n)])), (aDD, .inl (cyZ, 20, .inl (fun j_ => bI (dd j_)))), (aR, .inr (1, [.ref aRF, .ref aRT, .ref aRN, .ref aRL, .ref aRU, .int (nI cnt)])), (aRF, .inl (cyI, 20, .inl (fun j_ => nI (F j_)))), (aRT, .inl (cyI, 20, .inl (fun j_ => nI (T j_)))), (aRN, .inl (cyI, 20, .inl nm)), (aRL, .inl (cyI, 20, .inl lo)), (aRU, .inl (cyI, 20, .inl up)), (aHW, .inl (cyI, 12, .inl wy)), (aHL, .inl (cyI, 12, .inl (fun j_ => nI (L j_))))] U.heap ∧ va_K (dC, dI) vwCl [(cyI, .int), (cyZ, .boolean), (cyJ, .long), (cyD, .double)] U ∧ va_D (fun _ => True) [(aC, .inr (6, [.ref aD, .ref aR, .ref aH, .ref aS, .ref aT, .ref aL, .ref aI, .int (nI il)])), (aH, .inr (0, [.ref aD, .ref aR, .ref aHW, .ref aHL, .int (nI len), .int hN, .int hL, .int hG])), (aD, .inr (2, [.ref aR, .ref aDL, .ref aDD, .int (nI n)])), (aDD, .inl (cyZ, 20, .inl (fun j_ => bI (dd j_)))), (aR, .inr (1, [.ref aRF, .ref aRT, .ref aRN, .ref aRL, .ref aRU, .int (nI cnt)])), (aRF, .inl (cyI, 20, .inl (fun j_ => nI (F j_)))), (aRT, .inl (cyI, 20, .inl (fun j_ => nI (T j_)))), (aRN, .inl (cyI, 20, .inl nm)), (aRL, .inl (cyI, 20, .inl lo)), (aRU, .inl (cyI, 20, .inl up)), (aHW, .inl (cyI, 12, .inl wy)), (aHL, .inl (cyI, 12, .inl (fun j_ => nI (L j_))))])) (va_Qi (fun (r : Int32) (_ : Unit) => r = bI (decide (nm d + up d < sL F T nm lo up n cnt (F d) (T d)) || decide (sG F T nm lo up n cnt (F d) (T d) < nm d + lo d))) (fun _ t => ∃ (wy2 : Nat → Int32), ∃ (L2 : Nat → Nat), ∃ (len2 : Nat), ∃ (hN2 : Int32), ∃ (hL2 : Int32), ∃ (hG2 : Int32), va_P (dC, dI) vwCl [(aC, .inr (6, [.ref aD, .ref aR, .ref aH, .ref aS, .ref aT, .ref aL, .ref aI, .int (nI il)])), (aH, .inr (0, [.ref aD, .ref aR, .ref aHW, .ref aHL, .int (nI len2), .int hN2, .int hL2, .int hG2])), (aD, .inr (2, [.ref aR, .ref aDL, .ref aDD, .int (nI n)])), (aDD, .inl (cyZ, 20, .inl (fun j_ => bI (dd j_)))), (aR, .inr (1, [.ref aRF, .ref aRT, .ref aRN, .ref aRL, .ref aRU, .int (nI cnt)])), (aRF, .inl (cyI, 20, .inl (fun j_ => nI (F j_)))), (aRT, .inl (cyI, 20, .inl (fun j_ => nI (T j_)))), (aRN, .inl (cyI, 20, .inl nm)), (aRL, .inl (cyI, 20, .inl lo)), (aRU, .inl (cyI, 20, .inl up)), (aHW, .inl (cyI, 12, .inl wy2)), (aHL, .inl (cyI, 12, .inl (fun j_ => nI (L2 j_))))] t.heap ∧ va_K (dC, dI) vwCl [(cyI, .int), (cyZ, .boolean), (cyJ, .long), (cyD, .double)] t ∧ va_D (va_A [(aC, .inr (6, [.ref aD, .ref aR, .ref aH, .ref aS, .ref aT, .ref aL, .ref aI, .int (nI il)])), (aH, .inr (0, [.ref aD, .ref aR, .ref aHW, .ref aHL, .int (nI len), .int hN, .int hL, .int hG])), (aD, .inr (2, [.ref aR, .ref aDL, .ref aDD, .int (nI n)])), (aDD, .inl (cyZ, 20, .inl (fun j_ => bI (dd j_)))), (aR, .inr (1, [.ref aRF, .ref aRT, .ref aRN, .ref aRL, .ref aRU, .int (nI cnt)])), (aRF, .inl (cyI, 20, .inl (fun j_ => nI (F j_)))), (aRT, .inl (cyI, 20, .inl (fun j_ => nI (T j_)))), (aRN, .inl (cyI, 20, .inl nm)), (aRL, .inl (cyI, 20, .inl lo)), (aRU, .inl (cyI, 20, .inl up)), (aHW, .inl (cyI, 12, .inl wy)), (aHL, .inl (cyI, 12, .inl (fun j_ => nI (L j_))))] zH) [(aC, .inr (6, [.ref aD, .ref aR, .ref aH, .ref aS, .ref aT, .ref aL, .ref aI, .int (nI il)])), (aH, .inr (0, [.ref aD, .ref aR, .ref aHW, .ref aHL, .int (nI len2), .int hN2, .int hL2, .int hG2])), (aD, .inr (2, [.ref aR, .ref aDL, .ref aDD, .int (nI n)])), (aDD, .inl (cyZ, 20, .inl (fun j_ => bI (dd j_)))), (aR, .inr (1, [.ref aRF, .ref aRT, .ref aRN, .ref aRL, .ref aRU, .int (nI cnt)])), (aRF, .inl (cyI, 20, .inl (fun j_ => nI (F j_)))), (aRT, .inl (cyI, 20, .inl (fun j_ => nI (T j_)))), (aRN, .inl (cyI, 20, .inl nm)), (aRL, .inl (cyI, 20, .inl lo)), (aRU, .inl (cyI, 20, .inl up)), (aHW, .inl (cyI, 12, .inl wy2)), (aHL, .inl (cyI, 12, .inl (fun j_ => nI (L2 j_))))]) (va_A [(aC, .inr (6, [.ref aD, .ref aR, .ref aH, .ref aS, .ref aT, .ref aL, .ref aI, .int (nI il)])), (aH, .inr (0, [.ref aD, .ref aR, .ref aHW, .ref aHL, .int (nI len), .int hN, .int hL, .int hG])), (aD, .inr (2, [.ref aR, .ref aDL, .ref aDD, .int (nI n)])), (aDD, .inl (cyZ, 20, .inl (fun j_ => bI (dd j_)))), (aR, .inr (1, [.ref aRF, .ref aRT, .ref aRN, .ref aRL, .ref aRU, .int (nI cnt)])), (aRF, .inl (cyI, 20, .inl (fun j_ => nI (F j_)))), (aRT, .inl (cyI, 20, .inl (fun j_ => nI (T j_)))), (aRN, .inl (cyI, 20, .inl nm)), (aRL, .inl (cyI, 20, .inl lo)), (aRU, .inl (cyI, 20, .inl up)), (aHW, .inl (cyI, 12, .inl wy)), (aHL, .inl (cyI, 12, .inl (fun j_ => nI (L j_))))] zH)) 0 0 (va_A [(aC, .inr (6, [.ref aD, .ref aR, .ref aH, .ref aS, .ref aT, .ref aL, .ref aI, .int (nI il)])), (aH, .inr (0, [.ref aD, .ref aR, .ref aHW, .ref aHL, .int (nI len), .int hN, .int hL, .int hG])), (aD, .inr (2, [.ref aR, .ref aDL, .ref aDD, .int (nI n)])), (aDD, .inl (cyZ, 20, .inl (fun j_ => bI (dd j_)))), (aR, .inr (1, [.ref aRF, .ref aRT, .ref aRN, .ref aRL, .ref aRU, .int (nI cnt)])), (aRF, .inl (cyI, 20, .inl (fun j_ => nI (F j_)))), (aRT, .inl (cyI, 20, .inl (fun j_ => nI (T j_)))), (aRN, .inl (cyI, 20, .inl nm)), (aRL, .inl (cyI, 20, .inl lo)), (aRU, .inl (cyI, 20, .inl up)), (aHW, .inl (cyI, 12, .inl wy)), (aHL, .inl (cyI, 12, .inl (fun j_ => nI (L j_))))] zH) := by
  refine Met.ofW (cc := cX6_contradictsChain) (maxL := 2) (ret := (some .boolean)) (by decide) rfl ?_
  intro pM eM s mM args blM mtM cM s₁ BM hml hv
  obtain ⟨rfl, hsz, hP, hK, hD0⟩ := hv
  have hx := BM.exec
  have hb := BM.bytes
  have hr := BM.returns
  have hts := atoms_spec (ws := wsX6_contradictsChain) BM.pre
  have hown : s.vm.findClass RX6 = some mM.cls := findClass_of_methodNamed BM.named
  have hlocks := BM.notSynchronized
  have w0 := hts (.fieldLink RX6 28 "DimensionChecker" "chain" "LDimensionChecker$Chain;") (by decide +kernel)
  have w1 := hts (.fieldLink RX6 22 "DimensionChecker" "rows" "LDimensionChecker$Dimensions;") (by decide +kernel)
  have w2 := hts (.fieldLink RX6 140 "DimensionChecker$Dimensions" "from" "[I") (by decide +kernel)
  have w3 := hts (.fieldLink RX6 143 "DimensionChecker$Dimensions" "to" "[I") (by decide +kernel)
  have w4 := hts (.fieldLink RX6 208 "DimensionChecker$Chain" "least" "I") (by decide +kernel)
  have w5 := hts (.fieldLink RX6 211 "DimensionChecker$Chain" "greatest" "I") (by decide +kernel)
  have iX6 : ∀ w ∈ wsX60, w ∈ wsX6_contradictsChain := by decide +kernel
  have iX1 : ∀ w ∈ wsX10, w ∈ wsX6_contradictsChain := by decide +kernel
  have iX0 : ∀ w ∈ wsX00, w ∈ wsX6_contradictsChain := by decide +kernel
  subst hsz
  have hD := hD0.self (sz := s.heap.size)
  obtain ⟨Q, hQe⟩ : ∃ Q : State → Prop, Q = MQ blM (va_Qi (fun (r : Int32) (_ : Unit) => r = bI (decide (nm d + up d < sL F T nm lo up n cnt (F d) (T d)) || decide (sG F T nm lo up n cnt (F d) (T d) < nm d + lo d))) (fun _ t => ∃ (wy2 : Nat → Int32), ∃ (L2 : Nat → Nat), ∃ (len2 : Nat), ∃ (hN2 : Int32), ∃ (hL2 : Int32), ∃ (hG2 : Int32), va_P (dC, dI) vwCl [(aC, .inr (6, [.ref aD, .ref aR, .ref aH, .ref aS, .ref aT, .ref aL, .ref aI, .int (nI il)])), (aH, .inr (0, [.ref aD, .ref aR, .ref aHW, .ref aHL, .int (nI len2), .int hN2, .int hL2, .int hG2])), (aD, .inr (2, [.ref aR, .ref aDL, .ref aDD, .int (nI n)])), (aDD, .inl (cyZ, 20, .inl (fun j_ => bI (dd j_)))), (aR, .inr (1, [.ref aRF, .ref aRT, .ref aRN, .ref aRL, .ref aRU, .int (nI cnt)])), (aRF, .inl (cyI, 20, .inl (fun j_ => nI (F j_)))), (aRT, .inl (cyI, 20, .inl (fun j_ => nI (T j_)))), (aRN, .inl (cyI, 20, .inl nm)), (aRL, .inl (cyI, 20, .inl lo)), (aRU, .inl (cyI, 20, .inl up)), (aHW, .inl (cyI, 12, .inl wy2)), (aHL, .inl (cyI, 12, .inl (fun j_ => nI (L2 j_))))] t.heap ∧ va_K (dC, dI) vwCl [(cyI, .int), (cyZ, .boolean), (cyJ, .long), (cyD, .double)] t ∧ va_D (va_A [(aC, .inr (6, [.ref aD, .ref aR, .ref aH, .ref aS, .ref aT, .ref aL, .ref aI, .int (nI il)])), (aH, .inr (0, [.ref aD, .ref aR, .ref aHW, .ref aHL, .int (nI len), .int hN, .int hL, .int hG])), (aD, .inr (2, [.ref aR, .ref aDL, .ref aDD, .int (nI n)])), (aDD, .inl (cyZ, 20, .inl (fun j_ => bI (dd j_)))), (aR, .inr (1, [.ref aRF, .ref aRT, .ref aRN, .ref aRL, .ref aRU, .int (nI cnt)])), (aRF, .inl (cyI, 20, .inl (fun j_ => nI (F j_)))), (aRT, .inl (cyI, 20, .inl (fun j_ => nI (T j_)))), (aRN, .inl (cyI, 20, .inl nm)), (aRL, .inl (cyI, 20, .inl lo)), (aRU, .inl (cyI, 20, .inl up)), (aHW, .inl (cyI, 12, .inl wy)), (aHL, .inl (cyI, 12, .inl (fun j_ => nI (L j_))))] s.heap.size) [(aC, .inr (6, [.ref aD, .ref aR, .ref aH, .ref aS, .ref aT, .ref aL, .ref aI, .int (nI il)])), (aH, .inr (0, [.ref aD, .ref aR, .ref aHW, .ref aHL, .int (nI len2), .int hN2, .int hL2, .int hG2])), (aD, .inr (2, [.ref aR, .ref aDL, .ref aDD, .int (nI n)])), (aDD, .inl (cyZ, 20, .inl (fun j_ => bI (dd j_)))), (aR, .inr (1, [.ref aRF, .ref aRT, .ref aRN, .ref aRL, .ref aRU, .int (nI cnt)])), (aRF, .inl (cyI, 20, .inl (fun j_ => nI (F j_)))), (aRT, .inl (cyI, 20, .inl (fun j_ => nI (T j_)))), (aRN, .inl (cyI, 20, .inl nm)), (aRL, .inl (cyI, 20, .inl lo)), (aRU, .inl (cyI, 20, .inl up)), (aHW, .inl (cyI, 12, .inl wy2)), (aHL, .inl (cyI, 12, .inl (fun j_ => nI (L2 j_))))]) (va_A [(aC, .inr (6, [.ref aD, .ref aR, .ref aH, .ref aS, .ref aT, .ref aL, .ref aI, .int (nI il)])), (aH, .inr (0, [.ref aD, .ref aR, .ref aHW, .ref aHL, .int (nI len), .int hN, .int hL, .int hG])), (aD, .inr (2, [.ref aR, .ref aDL, .ref aDD, .int (nI n)])), (aDD, .inl (cyZ, 20, .inl (fun j_ => bI (dd j_)))), (aR, .inr (1, [.ref aRF, .ref aRT, .ref aRN, .ref aRL, .ref aRU, .int (nI cnt)])), (aRF, .inl (cyI, 20, .inl (fun j_ => nI (F j_)))), (aRT, .inl (cyI, 20, .inl (fun j_ => nI (T j_)))), (aRN, .inl (cyI, 20, .inl nm)), (aRL, .inl (cyI, 20, .inl lo)), (aRU, .inl (cyI, 20, .inl up)), (aHW, .inl (cyI, 12, .inl wy)), (aHL, .inl (cyI, 12, .inl (fun j_ => nI (L j_))))] s.heap.size)) ([.ref aC, .int (nI d)] : List Value).toArray s 0 0 (va_A [(aC, .inr (6, [.ref aD, .ref aR, .ref aH, .ref aS, .ref aT, .ref aL, .ref aI, .int (nI il)])), (aH, .inr (0, [.ref aD, .ref aR, .ref aHW, .ref aHL, .int (nI len), .int hN, .int hL, .int hG])), (aD, .inr (2, [.ref aR, .ref aDL, .ref aDD, .int (nI n)])), (aDD, .inl (cyZ, 20, .inl (fun j_ => bI (dd j_)))), (aR, .inr (1, [.ref aRF, .ref aRT, .ref aRN, .ref aRL, .ref aRU, .int (nI cnt)])), (aRF, .inl (cyI, 20, .inl (fun j_ => nI (F j_)))), (aRT, .inl (cyI, 20, .inl (fun j_ => nI (T j_)))), (aRN, .inl (cyI, 20, .inl nm)), (aRL, .inl (cyI, 20, .inl lo)), (aRU, .inl (cyI, 20, .inl up)), (aHW, .inl (cyI, 12, .inl wy)), (aHL, .inl (cyI, 12, .inl (fun j_ => nI (L j_))))] s.heap.size) := ⟨_, rfl⟩
  rw [← hQe]
  generalize hAe : va_A [(aC, .inr (6, [.ref aD, .ref aR, .ref aH, .ref aS, .ref aT, .ref aL, .ref aI, .int (nI il)])), (aH, .inr (0, [.ref aD, .ref aR, .ref aHW, .ref aHL, .int (nI len), .int hN, .int hL, .int hG])), (aD, .inr (2, [.ref aR, .ref aDL, .ref aDD, .int (nI n)])), (aDD, .inl (cyZ, 20, .inl (fun j_ => bI (dd j_)))), (aR, .inr (1, [.ref aRF, .ref aRT, .ref aRN, .ref aRL, .ref aRU, .int (nI cnt)])), (aRF, .inl (cyI, 20, .inl (fun j_ => nI (F j_)))), (aRT, .inl (cyI, 20, .inl (fun j_ => nI (T j_)))), (aRN, .inl (cyI, 20, .inl nm)), (aRL, .inl (cyI, 20, .inl lo)), (aRU, .inl (cyI, 20, .inl up)), (aHW, .inl (cyI, 12, .inl wy)), (aHL, .inl (cyI, 12, .inl (fun j_ => nI (L j_))))] s.heap.size = A at hD hQe
  have hA : ∀ q : Nat, s.heap.size ≤ q → A q := fun q h => by rw [← hAe]; exact Or.inr h
  obtain ⟨H, hHe⟩ : ∃ H : Heap, H = s.heap := ⟨_, rfl⟩
  have hS : va_S A s.heap H [] := by rw [hHe]; exact va_S.rf
  rw [← hHe] at hP ⊢
  have hl := lv_entry ([.ref aC, .int (nI d)]) (n := 2) (Nat.le_of_ble_eq_true rfl)
  rw [lg_entry_eq]
  generalize (lg_sl ([.ref aC, .int (nI d)]) ++ List.replicate (2 - (lg_sl ([.ref aC, .int (nI d)])).length) Slot.unset).toArray = ls at hl ⊢
  have hl : lv_has ls 2 [(0, .ref aC), (1, .int (nI d))] := hl
  have hFz := hF d hd0
  have hTz := hT d hd0
  refine lv_aload_n hx hb dX6_contradictsChain_0 rfl (lv_at hl 0 rfl) ?_
  refine va_get (D := (dC, dI)) (ci := 6) (v := .ref aH) (C := RX6) (T := TX6) (N := 8) hx hb hts iX6 hown hK hP 0 rfl rfl 2 (by decide) w0 (fun _ h9 => h9) rfl dX6_contradictsChain_1 ?_
  refine lv_aload_n hx hb dX6_contradictsChain_4 rfl (lv_at hl 0 rfl) ?_
  refine va_get (D := (dC, dI)) (ci := 6) (v := .ref aR) (C := RX6) (T := TX6) (N := 8) hx hb hts iX6 hown hK hP 0 rfl rfl 1 (by decide) w1 (fun _ h9 => h9) rfl dX6_contradictsChain_5 ?_
  refine va_get (D := (dC, dI)) (ci := 1) (v := .ref aRF) (C := RX1) (T := TX1) (N := 6) hx hb hts iX1 hown hK hP 4 rfl rfl 0 (by decide) w2 (fun _ h9 => h9) rfl dX6_contradictsChain_8 ?_
  refine lv_iload_n hx hb dX6_contradictsChain_11 rfl (lv_at hl 1 rfl) ?_
  have h1 : vp_in (nI d) 20 := by first | exact vp_in_nI (by omega) (by omega) | assumption
  refine va_iald hx hb hK hP 5 0 rfl rfl h1 dX6_contradictsChain_12 ?_
  refine lv_topi (fun x2 e3 => ?_)
  obtain rfl : x2 = (nI (F d)) := by rw [e3, nI_clamp (by omega)]
  clear e3
  refine lv_aload_n hx hb dX6_contradictsChain_13 rfl (lv_at hl 0 rfl) ?_
  refine va_get (D := (dC, dI)) (ci := 6) (v := .ref aR) (C := RX6) (T := TX6) (N := 8) hx hb hts iX6 hown hK hP 0 rfl rfl 1 (by decide) w1 (fun _ h9 => h9) rfl dX6_contradictsChain_14 ?_
  refine va_get (D := (dC, dI)) (ci := 1) (v := .ref aRT) (C := RX1) (T := TX1) (N := 6) hx hb hts iX1 hown hK hP 4 rfl rfl 1 (by decide) w3 (fun _ h9 => h9) rfl dX6_contradictsChain_17 ?_
  refine lv_iload_n hx hb dX6_contradictsChain_20 rfl (lv_at hl 1 rfl) ?_
  have h4 : vp_in (nI d) 20 := by first | exact vp_in_nI (by omega) (by omega) | assumption
  refine va_iald hx hb hK hP 6 0 rfl rfl h4 dX6_contradictsChain_21 ?_
  refine lv_topi (fun x5 e6 => ?_)
  obtain rfl : x5 = (nI (T d)) := by rw [e6, nI_clamp (by omega)]
  clear e6
  have g7 : n ≤ 12 := by first | assumption | omega | exact vp_in_nI (by omega) (by omega)
  have g8 : cnt ≤ 20 := by first | assumption | omega | exact vp_in_nI (by omega) (by omega)
  have g9 : ∀ d_q, d_q < cnt → F d_q < n := by first | assumption | omega | exact vp_in_nI (by omega) (by omega)
  have g10 : ∀ d_q, d_q < cnt → T d_q < n := by first | assumption | omega | exact vp_in_nI (by omega) (by omega)
  have g11 : (F d) < n := by first | assumption | omega | exact vp_in_nI (by omega) (by omega)
  have g12 : (T d) < n := by first | assumption | omega | exact vp_in_nI (by omega) (by omega)
  have g13 : ∀ d_q, d_q < cnt → dd d_q = Dd F T d_q := by first | assumption | omega | exact vp_in_nI (by omega) (by omega)
  have hPc := hP.sub (ws' := [(aH, .inr (0, [.ref aD, .ref aR, .ref aHW, .ref aHL, .int (nI len), .int hN, .int hL, .int hG])), (aD, .inr (2, [.ref aR, .ref aDL, .ref aDD, .int (nI n)])), (aDD, .inl (cyZ, 20, .inl (fun j_ => bI (dd j_)))), (aR, .inr (1, [.ref aRF, .ref aRT, .ref aRN, .ref aRL, .ref aRU, .int (nI cnt)])), (aRF, .inl (cyI, 20, .inl (fun j_ => nI (F j_)))), (aRT, .inl (cyI, 20, .inl (fun j_ => nI (T j_)))), (aRN, .inl (cyI, 20, .inl nm)), (aRL, .inl (cyI, 20, .inl lo)), (aRU, .inl (cyI, 20, .inl up)), (aHW, .inl (cyI, 12, .inl wy)), (aHL, .inl (cyI, 12, .inl (fun j_ => nI (L j_))))]) [1, 2, 3, 4, 5, 6, 7, 8, 9, 10, 11] rfl
  have hDc := hD.sub (ws' := [(aH, .inr (0, [.ref aD, .ref aR, .ref aHW, .ref aHL, .int (nI len), .int hN, .int hL, .int hG])), (aD, .inr (2, [.ref aR, .ref aDL, .ref aDD, .int (nI n)])), (aDD, .inl (cyZ, 20, .inl (fun j_ => bI (dd j_)))), (aR, .inr (1, [.ref aRF, .ref aRT, .ref aRN, .ref aRL, .ref aRU, .int (nI cnt)])), (aRF, .inl (cyI, 20, .inl (fun j_ => nI (F j_)))), (aRT, .inl (cyI, 20, .inl (fun j_ => nI (T j_)))), (aRN, .inl (cyI, 20, .inl nm)), (aRL, .inl (cyI, 20, .inl lo)), (aRU, .inl (cyI, 20, .inl up)), (aHW, .inl (cyI, 12, .inl wy)), (aHL, .inl (cyI, 12, .inl (fun j_ => nI (L j_))))]) [1, 2, 3, 4, 5, 6, 7, 8, 9, 10, 11] (by decide) rfl
  have hFc := va_free (wc := [(aH, .inr (0, [.ref aD, .ref aR, .ref aHW, .ref aHL, .int (nI len), .int hN, .int hL, .int hG])), (aD, .inr (2, [.ref aR, .ref aDL, .ref aDD, .int (nI n)])), (aDD, .inl (cyZ, 20, .inl (fun j_ => bI (dd j_)))), (aR, .inr (1, [.ref aRF, .ref aRT, .ref aRN, .ref aRL, .ref aRU, .int (nI cnt)])), (aRF, .inl (cyI, 20, .inl (fun j_ => nI (F j_)))), (aRT, .inl (cyI, 20, .inl (fun j_ => nI (T j_)))), (aRN, .inl (cyI, 20, .inl nm)), (aRL, .inl (cyI, 20, .inl lo)), (aRU, .inl (cyI, 20, .inl up)), (aHW, .inl (cyI, 12, .inl wy)), (aHL, .inl (cyI, 12, .inl (fun j_ => nI (L j_))))]) hD hS hA [1, 2, 3, 4, 5, 6, 7, 8, 9, 10, 11] rfl
  refine va_calli (va_runV (As := [.int (nI (F d)), .int (nI (T d))]) (rest := []) ⟨hx, hb, hml, hown, hts⟩ (c_X0_findS l dC dI cyI cyZ cyJ cyD aH aD aR aHW aHL aDL aDD aRF aRT aRN aRL aRU H.size len hN hL hG n dd F T nm lo up cnt wy L (F d) (T d) g7 g8 g9 g10 g11 g12 g13) (cwV 2 hts gX6_contradictsChain_X0_find rfl rfl rfl (by decide +kernel) ⟨Nat.le_of_ble_eq_true rfl, Nat.le_of_ble_eq_true rfl⟩) ⟨fun a U g mk q => by obtain ⟨q0, q1, qP, qK, qD⟩ := q; exact ⟨q0, q1, qP, va_K.moved (u := U) (U := U.calling g mk a) (Vm.Alike.refl U.vm) qK, qD⟩, va_recv hK hPc (ci := 0) (q0 := 0) rfl rfl, fun U hU hW => ⟨rfl, by rw [hU], by rw [hU]; exact hPc, va_K.moved hW.alike hK, hDc.weaken (fun _ _ _ _ => trivial)⟩⟩ rfl rfl hl.1 rfl (lv_room (Nat.le_of_ble_eq_true rfl)) dX6_contradictsChain_22 ⟨Nat.le_of_ble_eq_true rfl, Nat.le_of_ble_eq_true rfl⟩) hS (fun q _ h => hFc q h) hFc (fun r u t H1 locs ht hvm hw hB hz1 hk1 hS => ?_)
  obtain rfl := hw
  obtain ⟨wy2_14, L2_15, p16, hP1, hK1, hD1⟩ := hB
  rw [ht] at hP1
  obtain ⟨hP, hD⟩ := va_join (wr := [(aC, .inr (6, [.ref aD, .ref aR, .ref aH, .ref aS, .ref aT, .ref aL, .ref aI, .int (nI il)]))]) (w1 := [(aH, .inr (0, [.ref aD, .ref aR, .ref aHW, .ref aHL, .int (nI (Kc F T n cnt (F d) (T d))), .int (sN F T nm n cnt (F d) (T d)), .int (sL F T nm lo up n cnt (F d) (T d)), .int (sG F T nm lo up n cnt (F d) (T d))])), (aD, .inr (2, [.ref aR, .ref aDL, .ref aDD, .int (nI n)])), (aDD, .inl (cyZ, 20, .inl (fun j_ => bI (dd j_)))), (aR, .inr (1, [.ref aRF, .ref aRT, .ref aRN, .ref aRL, .ref aRU, .int (nI cnt)])), (aRF, .inl (cyI, 20, .inl (fun j_ => nI (F j_)))), (aRT, .inl (cyI, 20, .inl (fun j_ => nI (T j_)))), (aRN, .inl (cyI, 20, .inl nm)), (aRL, .inl (cyI, 20, .inl lo)), (aRU, .inl (cyI, 20, .inl up)), (aHW, .inl (cyI, 12, .inl wy2_14)), (aHL, .inl (cyI, 12, .inl (fun j_ => nI (L2_15 j_))))]) hP hD [1, 2, 3, 4, 5, 6, 7, 8, 9, 10, 11] [0] rfl rfl (by decide) (by decide) hk1 hFc hP1 hD1
  clear hP1 hD1 hK1 hPc hDc hFc hk1 hz1 hvm ht u t
  generalize H1 = H at hP hS ⊢
  have hP : va_P (dC, dI) vwCl [(aC, .inr (6, [.ref aD, .ref aR, .ref aH, .ref aS, .ref aT, .ref aL, .ref aI, .int (nI il)])), (aH, .inr (0, [.ref aD, .ref aR, .ref aHW, .ref aHL, .int (nI (Kc F T n cnt (F d) (T d))), .int (sN F T nm n cnt (F d) (T d)), .int (sL F T nm lo up n cnt (F d) (T d)), .int (sG F T nm lo up n cnt (F d) (T d))])), (aD, .inr (2, [.ref aR, .ref aDL, .ref aDD, .int (nI n)])), (aDD, .inl (cyZ, 20, .inl (fun j_ => bI (dd j_)))), (aR, .inr (1, [.ref aRF, .ref aRT, .ref aRN, .ref aRL, .ref aRU, .int (nI cnt)])), (aRF, .inl (cyI, 20, .inl (fun j_ => nI (F j_)))), (aRT, .inl (cyI, 20, .inl (fun j_ => nI (T j_)))), (aRN, .inl (cyI, 20, .inl nm)), (aRL, .inl (cyI, 20, .inl lo)), (aRU, .inl (cyI, 20, .inl up)), (aHW, .inl (cyI, 12, .inl wy2_14)), (aHL, .inl (cyI, 12, .inl (fun j_ => nI (L2_15 j_))))] H := hP
  have hD : va_D A [(aC, .inr (6, [.ref aD, .ref aR, .ref aH, .ref aS, .ref aT, .ref aL, .ref aI, .int (nI il)])), (aH, .inr (0, [.ref aD, .ref aR, .ref aHW, .ref aHL, .int (nI (Kc F T n cnt (F d) (T d))), .int (sN F T nm n cnt (F d) (T d)), .int (sL F T nm lo up n cnt (F d) (T d)), .int (sG F T nm lo up n cnt (F d) (T d))])), (aD, .inr (2, [.ref aR, .ref aDL, .ref aDD, .int (nI n)])), (aDD, .inl (cyZ, 20, .inl (fun j_ => bI (dd j_)))), (aR, .inr (1, [.ref aRF, .ref aRT, .ref aRN, .ref aRL, .ref aRU, .int (nI cnt)])), (aRF, .inl (cyI, 20, .inl (fun j_ => nI (F j_)))), (aRT, .inl (cyI, 20, .inl (fun j_ => nI (T j_)))), (aRN, .inl (cyI, 20, .inl nm)), (aRL, .inl (cyI, 20, .inl lo)), (aRU, .inl (cyI, 20, .inl up)), (aHW, .inl (cyI, 12, .inl wy2_14)), (aHL, .inl (cyI, 12, .inl (fun j_ => nI (L2_15 j_))))] := hD
  refine lv_pop hx hb dX6_contradictsChain_25 rfl ?_
  refine lv_aload_n hx hb dX6_contradictsChain_26 rfl (lv_at hl 0 rfl) ?_
  refine va_get (D := (dC, dI)) (ci := 6) (v := .ref aR) (C := RX6) (T := TX6) (N := 8) hx hb hts iX6 hown hK hP 0 rfl rfl 1 (by decide) w1 (fun _ h9 => h9) rfl dX6_contradictsChain_27 ?_
  refine lv_iload_n hx hb dX6_contradictsChain_30 rfl (lv_at hl 1 rfl) ?_
  have g17 : d < 20 := by first | assumption | omega | exact vp_in_nI (by omega) (by omega)
  have hPc := hP.sub (ws' := [(aR, .inr (1, [.ref aRF, .ref aRT, .ref aRN, .ref aRL, .ref aRU, .int (nI cnt)])), (aRN, .inl (cyI, 20, .inl nm)), (aRU, .inl (cyI, 20, .inl up))]) [4, 7, 9] rfl
  have hDc := hD.sub (ws' := [(aR, .inr (1, [.ref aRF, .ref aRT, .ref aRN, .ref aRL, .ref aRU, .int (nI cnt)])), (aRN, .inl (cyI, 20, .inl nm)), (aRU, .inl (cyI, 20, .inl up))]) [4, 7, 9] (by decide) rfl
  have hFc := va_free (wc := [(aR, .inr (1, [.ref aRF, .ref aRT, .ref aRN, .ref aRL, .ref aRU, .int (nI cnt)])), (aRN, .inl (cyI, 20, .inl nm)), (aRU, .inl (cyI, 20, .inl up))]) hD hS hA [4, 7, 9] rfl
  refine va_calli (va_runV (As := [.int (nI d)]) (rest := []) ⟨hx, hb, hml, hown, hts⟩ (c_X1_greatestLimit l dC dI cyI cyZ cyJ cyD aR aRF aRT aRN aRL aRU H.size nm up cnt d g17) (cwV 1 hts gX6_contradictsChain_X1_greatestLimit rfl rfl rfl (by decide +kernel) ⟨Nat.le_of_ble_eq_true rfl, Nat.le_of_ble_eq_true rfl⟩) ⟨fun a U g mk q => by obtain ⟨q0, q1, qP, qK, qD⟩ := q; exact ⟨q0, q1, qP, va_K.moved (u := U) (U := U.calling g mk a) (Vm.Alike.refl U.vm) qK, qD⟩, va_recv hK hPc (ci := 1) (q0 := 0) rfl rfl, fun U hU hW => ⟨rfl, by rw [hU], by rw [hU]; exact hPc, va_K.moved hW.alike hK, hDc.weaken (fun _ _ _ _ => trivial)⟩⟩ rfl rfl hl.1 rfl (lv_room (Nat.le_of_ble_eq_true rfl)) dX6_contradictsChain_31 ⟨Nat.le_of_ble_eq_true rfl, Nat.le_of_ble_eq_true rfl⟩) hS (fun q _ h => hFc q h) hFc (fun r u t H1 locs ht hvm hw hB hz1 hk1 hS => ?_)
  obtain rfl := hw
  obtain ⟨hP1, hK1, hD1⟩ := hB
  rw [ht] at hP1
  obtain ⟨hP, hD⟩ := va_join (wr := [(aC, .inr (6, [.ref aD, .ref aR, .ref aH, .ref aS, .ref aT, .ref aL, .ref aI, .int (nI il)])), (aH, .inr (0, [.ref aD, .ref aR, .ref aHW, .ref aHL, .int (nI (Kc F T n cnt (F d) (T d))), .int (sN F T nm n cnt (F d) (T d)), .int (sL F T nm lo up n cnt (F d) (T d)), .int (sG F T nm lo up n cnt (F d) (T d))])), (aD, .inr (2, [.ref aR, .ref aDL, .ref aDD, .int (nI n)])), (aDD, .inl (cyZ, 20, .inl (fun j_ => bI (dd j_)))), (aRF, .inl (cyI, 20, .inl (fun j_ => nI (F j_)))), (aRT, .inl (cyI, 20, .inl (fun j_ => nI (T j_)))), (aRL, .inl (cyI, 20, .inl lo)), (aHW, .inl (cyI, 12, .inl wy2_14)), (aHL, .inl (cyI, 12, .inl (fun j_ => nI (L2_15 j_))))]) (w1 := [(aR, .inr (1, [.ref aRF, .ref aRT, .ref aRN, .ref aRL, .ref aRU, .int (nI cnt)])), (aRN, .inl (cyI, 20, .inl nm)), (aRU, .inl (cyI, 20, .inl up))]) hP hD [4, 7, 9] [0, 1, 2, 3, 5, 6, 8, 10, 11] rfl rfl (by decide) (by decide) hk1 hFc hP1 hD1
  clear hP1 hD1 hK1 hPc hDc hFc hk1 hz1 hvm ht u t
  generalize H1 = H at hP hS ⊢
  have hP : va_P (dC, dI) vwCl [(aC, .inr (6, [.ref aD, .ref aR, .ref aH, .ref aS, .ref aT, .ref aL, .ref aI, .int (nI il)])), (aH, .inr (0, [.ref aD, .ref aR, .ref aHW, .ref aHL, .int (nI (Kc F T n cnt (F d) (T d))), .int (sN F T nm n cnt (F d) (T d)), .int (sL F T nm lo up n cnt (F d) (T d)), .int (sG F T nm lo up n cnt (F d) (T d))])), (aD, .inr (2, [.ref aR, .ref aDL, .ref aDD, .int (nI n)])), (aDD, .inl (cyZ, 20, .inl (fun j_ => bI (dd j_)))), (aRF, .inl (cyI, 20, .inl (fun j_ => nI (F j_)))), (aRT, .inl (cyI, 20, .inl (fun j_ => nI (T j_)))), (aRL, .inl (cyI, 20, .inl lo)), (aHW, .inl (cyI, 12, .inl wy2_14)), (aHL, .inl (cyI, 12, .inl (fun j_ => nI (L2_15 j_)))), (aR, .inr (1, [.ref aRF, .ref aRT, .ref aRN, .ref aRL, .ref aRU, .int (nI cnt)])), (aRN, .inl (cyI, 20, .inl nm)), (aRU, .inl (cyI, 20, .inl up))] H := hP
  have hD : va_D A [(aC, .inr (6, [.ref aD, .ref aR, .ref aH, .ref aS, .ref aT, .ref aL, .ref aI, .int (nI il)])), (aH, .inr (0, [.ref aD, .ref aR, .ref aHW, .ref aHL, .int (nI (Kc F T n cnt (F d) (T d))), .int (sN F T nm n cnt (F d) (T d)), .int (sL F T nm lo up n cnt (F d) (T d)), .int (sG F T nm lo up n cnt (F d) (T d))])), (aD, .inr (2, [.ref aR, .ref aDL, .ref aDD, .int (nI n)])), (aDD, .inl (cyZ, 20, .inl (fun j_ => bI (dd j_)))), (aRF, .inl (cyI, 20, .inl (fun j_ => nI (F j_)))), (aRT, .inl (cyI, 20, .inl (fun j_ => nI (T j_)))), (aRL, .inl (cyI, 20, .inl lo)), (aHW, .inl (cyI, 12, .inl wy2_14)), (aHL, .inl (cyI, 12, .inl (fun j_ => nI (L2_15 j_)))), (aR, .inr (1, [.ref aRF, .ref aRT, .ref aRN, .ref aRL, .ref aRU, .int (nI cnt)])), (aRN, .inl (cyI, 20, .inl nm)), (aRU, .inl (cyI, 20, .inl up))] := hD
  refine lv_aload_n hx hb dX6_contradictsChain_34 rfl (lv_at hl 0 rfl) ?_
  refine va_get (D := (dC, dI)) (ci := 6) (v := .ref aH) (C := RX6) (T := TX6) (N := 8) hx hb hts iX6 hown hK hP 0 rfl rfl 2 (by decide) w0 (fun _ h9 => h9) rfl dX6_contradictsChain_35 ?_
  refine va_get (D := (dC, dI)) (ci := 0) (v := .int (sL F T nm lo up n cnt (F d) (T d))) (C := RX0) (T := TX0) (N := 8) hx hb hts iX0 hown hK hP 1 rfl rfl 6 (by decide) w4 (fun _ h9 => h9) rfl dX6_contradictsChain_38 ?_
  refine lv_icmp_lt (tgt := 62) hx hb dX6_contradictsChain_41 (by decide) (fun c41 => ?_) (fun c41 => ?_)
  · skip
    refine lv_iconst (v := 1) hx hb dX6_contradictsChain_62 (by decide) ?_
    refine lv_goto (tgt := 67) hx hb dX6_contradictsChain_63 (by decide) ?_
    have r18 : 1 = (bI (decide (nm d + up d < sL F T nm lo up n cnt (F d) (T d)) || decide (sG F T nm lo up n cnt (F d) (T d) < nm d + lo d))) := by first | (rw [decide_eq_true c41]; rfl) | (rw [decide_eq_false (Int32.not_lt.mpr c41), decide_eq_true c59]; rfl) | (rw [decide_eq_false c41, decide_eq_true c59]; rfl) | (rw [decide_eq_false c41, decide_eq_true (Int32.not_le.mp c59)]; rfl) | (rw [decide_eq_false c41, decide_eq_false (Int32.not_lt.mpr c59)]; rfl)
    have hP9 : va_P (dC, dI) vwCl [(aC, .inr (6, [.ref aD, .ref aR, .ref aH, .ref aS, .ref aT, .ref aL, .ref aI, .int (nI il)])), (aH, .inr (0, [.ref aD, .ref aR, .ref aHW, .ref aHL, .int (nI (Kc F T n cnt (F d) (T d))), .int (sN F T nm n cnt (F d) (T d)), .int (sL F T nm lo up n cnt (F d) (T d)), .int (sG F T nm lo up n cnt (F d) (T d))])), (aD, .inr (2, [.ref aR, .ref aDL, .ref aDD, .int (nI n)])), (aDD, .inl (cyZ, 20, .inl (fun j_ => bI (dd j_)))), (aR, .inr (1, [.ref aRF, .ref aRT, .ref aRN, .ref aRL, .ref aRU, .int (nI cnt)])), (aRF, .inl (cyI, 20, .inl (fun j_ => nI (F j_)))), (aRT, .inl (cyI, 20, .inl (fun j_ => nI (T j_)))), (aRN, .inl (cyI, 20, .inl nm)), (aRL, .inl (cyI, 20, .inl lo)), (aRU, .inl (cyI, 20, .inl up)), (aHW, .inl (cyI, 12, .inl wy2_14)), (aHL, .inl (cyI, 12, .inl (fun j_ => nI (L2_15 j_))))] H := by exact hP.sub [0, 1, 2, 3, 9, 4, 5, 10, 6, 11, 7, 8] rfl
    have hD9 : va_D A [(aC, .inr (6, [.ref aD, .ref aR, .ref aH, .ref aS, .ref aT, .ref aL, .ref aI, .int (nI il)])), (aH, .inr (0, [.ref aD, .ref aR, .ref aHW, .ref aHL, .int (nI (Kc F T n cnt (F d) (T d))), .int (sN F T nm n cnt (F d) (T d)), .int (sL F T nm lo up n cnt (F d) (T d)), .int (sG F T nm lo up n cnt (F d) (T d))])), (aD, .inr (2, [.ref aR, .ref aDL, .ref aDD, .int (nI n)])), (aDD, .inl (cyZ, 20, .inl (fun j_ => bI (dd j_)))), (aR, .inr (1, [.ref aRF, .ref aRT, .ref aRN, .ref aRL, .ref aRU, .int (nI cnt)])), (aRF, .inl (cyI, 20, .inl (fun j_ => nI (F j_)))), (aRT, .inl (cyI, 20, .inl (fun j_ => nI (T j_)))), (aRN, .inl (cyI, 20, .inl nm)), (aRL, .inl (cyI, 20, .inl lo)), (aRU, .inl (cyI, 20, .inl up)), (aHW, .inl (cyI, 12, .inl wy2_14)), (aHL, .inl (cyI, 12, .inl (fun j_ => nI (L2_15 j_))))] := by exact hD.sub [0, 1, 2, 3, 9, 4, 5, 10, 6, 11, 7, 8] (by decide) rfl
    rw [hQe]
    exact W.zret (v := 1) hx hb hr rfl (fun t ht hW => ⟨⟨_, (), rfl, r18, wy2_14, L2_15, (Kc F T n cnt (F d) (T d)), (sN F T nm n cnt (F d) (T d)), (sL F T nm lo up n cnt (F d) (T d)), (sG F T nm lo up n cnt (F d) (T d)), by rw [ht]; exact hP9, va_K.moved hW.alike hK, hD9⟩, hS.F ht⟩) hS.2.2 dX6_contradictsChain_67
  · skip
    refine lv_aload_n hx hb dX6_contradictsChain_44 rfl (lv_at hl 0 rfl) ?_
    refine va_get (D := (dC, dI)) (ci := 6) (v := .ref aR) (C := RX6) (T := TX6) (N := 8) hx hb hts iX6 hown hK hP 0 rfl rfl 1 (by decide) w1 (fun _ h9 => h9) rfl dX6_contradictsChain_45 ?_
    refine lv_iload_n hx hb dX6_contradictsChain_48 rfl (lv_at hl 1 rfl) ?_
    have g19 : d < 20 := by first | assumption | omega | exact vp_in_nI (by omega) (by omega)
    have hPc := hP.sub (ws' := [(aR, .inr (1, [.ref aRF, .ref aRT, .ref aRN, .ref aRL, .ref aRU, .int (nI cnt)])), (aRN, .inl (cyI, 20, .inl nm)), (aRL, .inl (cyI, 20, .inl lo))]) [9, 10, 6] rfl
    have hDc := hD.sub (ws' := [(aR, .inr (1, [.ref aRF, .ref aRT, .ref aRN, .ref aRL, .ref aRU, .int (nI cnt)])), (aRN, .inl (cyI, 20, .inl nm)), (aRL, .inl (cyI, 20, .inl lo))]) [9, 10, 6] (by decide) rfl
    have hFc := va_free (wc := [(aR, .inr (1, [.ref aRF, .ref aRT, .ref aRN, .ref aRL, .ref aRU, .int (nI cnt)])), (aRN, .inl (cyI, 20, .inl nm)), (aRL, .inl (cyI, 20, .inl lo))]) hD hS hA [9, 10, 6] rfl
    refine va_calli (va_runV (As := [.int (nI d)]) (rest := []) ⟨hx, hb, hml, hown, hts⟩ (c_X1_leastLimit l dC dI cyI cyZ cyJ cyD aR aRF aRT aRN aRL aRU H.size nm lo cnt d g19) (cwV 1 hts gX6_contradictsChain_X1_leastLimit rfl rfl rfl (by decide +kernel) ⟨Nat.le_of_ble_eq_true rfl, Nat.le_of_ble_eq_true rfl⟩) ⟨fun a U g mk q => by obtain ⟨q0, q1, qP, qK, qD⟩ := q; exact ⟨q0, q1, qP, va_K.moved (u := U) (U := U.calling g mk a) (Vm.Alike.refl U.vm) qK, qD⟩, va_recv hK hPc (ci := 1) (q0 := 0) rfl rfl, fun U hU hW => ⟨rfl, by rw [hU], by rw [hU]; exact hPc, va_K.moved hW.alike hK, hDc.weaken (fun _ _ _ _ => trivial)⟩⟩ rfl rfl hl.1 rfl (lv_room (Nat.le_of_ble_eq_true rfl)) dX6_contradictsChain_49 ⟨Nat.le_of_ble_eq_true rfl, Nat.le_of_ble_eq_true rfl⟩) hS (fun q _ h => hFc q h) hFc (fun r u t H1 locs ht hvm hw hB hz1 hk1 hS => ?_)
    obtain rfl := hw
    obtain ⟨hP1, hK1, hD1⟩ := hB
    rw [ht] at hP1
    obtain ⟨hP, hD⟩ := va_join (wr := [(aC, .inr (6, [.ref aD, .ref aR, .ref aH, .ref aS, .ref aT, .ref aL, .ref aI, .int (nI il)])), (aH, .inr (0, [.ref aD, .ref aR, .ref aHW, .ref aHL, .int (nI (Kc F T n cnt (F d) (T d))), .int (sN F T nm n cnt (F d) (T d)), .int (sL F T nm lo up n cnt (F d) (T d)), .int (sG F T nm lo up n cnt (F d) (T d))])), (aD, .inr (2, [.ref aR, .ref aDL, .ref aDD, .int (nI n)])), (aDD, .inl (cyZ, 20, .inl (fun j_ => bI (dd j_)))), (aRF, .inl (cyI, 20, .inl (fun j_ => nI (F j_)))), (aRT, .inl (cyI, 20, .inl (fun j_ => nI (T j_)))), (aHW, .inl (cyI, 12, .inl wy2_14)), (aHL, .inl (cyI, 12, .inl (fun j_ => nI (L2_15 j_)))), (aRU, .inl (cyI, 20, .inl up))]) (w1 := [(aR, .inr (1, [.ref aRF, .ref aRT, .ref aRN, .ref aRL, .ref aRU, .int (nI cnt)])), (aRN, .inl (cyI, 20, .inl nm)), (aRL, .inl (cyI, 20, .inl lo))]) hP hD [9, 10, 6] [0, 1, 2, 3, 4, 5, 7, 8, 11] rfl rfl (by decide) (by decide) hk1 hFc hP1 hD1
    clear hP1 hD1 hK1 hPc hDc hFc hk1 hz1 hvm ht u t
    generalize H1 = H at hP hS ⊢
    have hP : va_P (dC, dI) vwCl [(aC, .inr (6, [.ref aD, .ref aR, .ref aH, .ref aS, .ref aT, .ref aL, .ref aI, .int (nI il)])), (aH, .inr (0, [.ref aD, .ref aR, .ref aHW, .ref aHL, .int (nI (Kc F T n cnt (F d) (T d))), .int (sN F T nm n cnt (F d) (T d)), .int (sL F T nm lo up n cnt (F d) (T d)), .int (sG F T nm lo up n cnt (F d) (T d))])), (aD, .inr (2, [.ref aR, .ref aDL, .ref aDD, .int (nI n)])), (aDD, .inl (cyZ, 20, .inl (fun j_ => bI (dd j_)))), (aRF, .inl (cyI, 20, .inl (fun j_ => nI (F j_)))), (aRT, .inl (cyI, 20, .inl (fun j_ => nI (T j_)))), (aHW, .inl (cyI, 12, .inl wy2_14)), (aHL, .inl (cyI, 12, .inl (fun j_ => nI (L2_15 j_)))), (aRU, .inl (cyI, 20, .inl up)), (aR, .inr (1, [.ref aRF, .ref aRT, .ref aRN, .ref aRL, .ref aRU, .int (nI cnt)])), (aRN, .inl (cyI, 20, .inl nm)), (aRL, .inl (cyI, 20, .inl lo))] H := hP
    have hD : va_D A [(aC, .inr (6, [.ref aD, .ref aR, .ref aH, .ref aS, .ref aT, .ref aL, .ref aI, .int (nI il)])), (aH, .inr (0, [.ref aD, .ref aR, .ref aHW, .ref aHL, .int (nI (Kc F T n cnt (F d) (T d))), .int (sN F T nm n cnt (F d) (T d)), .int (sL F T nm lo up n cnt (F d) (T d)), .int (sG F T nm lo up n cnt (F d) (T d))])), (aD, .inr (2, [.ref aR, .ref aDL, .ref aDD, .int (nI n)])), (aDD, .inl (cyZ, 20, .inl (fun j_ => bI (dd j_)))), (aRF, .inl (cyI, 20, .inl (fun j_ => nI (F j_)))), (aRT, .inl (cyI, 20, .inl (fun j_ => nI (T j_)))), (aHW, .inl (cyI, 12, .inl wy2_14)), (aHL, .inl (cyI, 12, .inl (fun j_ => nI (L2_15 j_)))), (aRU, .inl (cyI, 20, .inl up)), (aR, .inr (1, [.ref aRF, .ref aRT, .ref aRN, .ref aRL, .ref aRU, .int (nI cnt)])), (aRN, .inl (cyI, 20, .inl nm)), (aRL, .inl (cyI, 20, .inl lo))] := hD
    refine lv_aload_n hx hb dX6_contradictsChain_52 rfl (lv_at hl 0 rfl) ?_
    refine va_get (D := (dC, dI)) (ci := 6) (v := .ref aH) (C := RX6) (T := TX6) (N := 8) hx hb hts iX6 hown hK hP 0 rfl rfl 2 (by decide) w0 (fun _ h9 => h9) rfl dX6_contradictsChain_53 ?_
    refine va_get (D := (dC, dI)) (ci := 0) (v := .int (sG F T nm lo up n cnt (F d) (T d))) (C := RX0) (T := TX0) (N := 8) hx hb hts iX0 hown hK hP 1 rfl rfl 7 (by decide) w5 (fun _ h9 => h9) rfl dX6_contradictsChain_56 ?_
    refine lv_icmp_le (tgt := 66) hx hb dX6_contradictsChain_59 (by decide) (fun c59 => ?_) (fun c59 => ?_)
    · skip
      refine lv_iconst (v := 0) hx hb dX6_contradictsChain_66 (by decide) ?_
      have r20 : 0 = (bI (decide (nm d + up d < sL F T nm lo up n cnt (F d) (T d)) || decide (sG F T nm lo up n cnt (F d) (T d) < nm d + lo d))) := by first | (rw [decide_eq_true c41]; rfl) | (rw [decide_eq_false (Int32.not_lt.mpr c41), decide_eq_true c59]; rfl) | (rw [decide_eq_false c41, decide_eq_true c59]; rfl) | (rw [decide_eq_false c41, decide_eq_true (Int32.not_le.mp c59)]; rfl) | (rw [decide_eq_false c41, decide_eq_false (Int32.not_lt.mpr c59)]; rfl)
      have hP9 : va_P (dC, dI) vwCl [(aC, .inr (6, [.ref aD, .ref aR, .ref aH, .ref aS, .ref aT, .ref aL, .ref aI, .int (nI il)])), (aH, .inr (0, [.ref aD, .ref aR, .ref aHW, .ref aHL, .int (nI (Kc F T n cnt (F d) (T d))), .int (sN F T nm n cnt (F d) (T d)), .int (sL F T nm lo up n cnt (F d) (T d)), .int (sG F T nm lo up n cnt (F d) (T d))])), (aD, .inr (2, [.ref aR, .ref aDL, .ref aDD, .int (nI n)])), (aDD, .inl (cyZ, 20, .inl (fun j_ => bI (dd j_)))), (aR, .inr (1, [.ref aRF, .ref aRT, .ref aRN, .ref aRL, .ref aRU, .int (nI cnt)])), (aRF, .inl (cyI, 20, .inl (fun j_ => nI (F j_)))), (aRT, .inl (cyI, 20, .inl (fun j_ => nI (T j_)))), (aRN, .inl (cyI, 20, .inl nm)), (aRL, .inl (cyI, 20, .inl lo)), (aRU, .inl (cyI, 20, .inl up)), (aHW, .inl (cyI, 12, .inl wy2_14)), (aHL, .inl (cyI, 12, .inl (fun j_ => nI (L2_15 j_))))] H := by exact hP.sub [0, 1, 2, 3, 9, 4, 5, 10, 11, 8, 6, 7] rfl
      have hD9 : va_D A [(aC, .inr (6, [.ref aD, .ref aR, .ref aH, .ref aS, .ref aT, .ref aL, .ref aI, .int (nI il)])), (aH, .inr (0, [.ref aD, .ref aR, .ref aHW, .ref aHL, .int (nI (Kc F T n cnt (F d) (T d))), .int (sN F T nm n cnt (F d) (T d)), .int (sL F T nm lo up n cnt (F d) (T d)), .int (sG F T nm lo up n cnt (F d) (T d))])), (aD, .inr (2, [.ref aR, .ref aDL, .ref aDD, .int (nI n)])), (aDD, .inl (cyZ, 20, .inl (fun j_ => bI (dd j_)))), (aR, .inr (1, [.ref aRF, .ref aRT, .ref aRN, .ref aRL, .ref aRU, .int (nI cnt)])), (aRF, .inl (cyI, 20, .inl (fun j_ => nI (F j_)))), (aRT, .inl (cyI, 20, .inl (fun j_ => nI (T j_)))), (aRN, .inl (cyI, 20, .inl nm)), (aRL, .inl (cyI, 20, .inl lo)), (aRU, .inl (cyI, 20, .inl up)), (aHW, .inl (cyI, 12, .inl wy2_14)), (aHL, .inl (cyI, 12, .inl (fun j_ => nI (L2_15 j_))))] := by exact hD.sub [0, 1, 2, 3, 9, 4, 5, 10, 11, 8, 6, 7] (by decide) rfl
      rw [hQe]
      exact W.zret (v := 0) hx hb hr rfl (fun t ht hW => ⟨⟨_, (), rfl, r20, wy2_14, L2_15, (Kc F T n cnt (F d) (T d)), (sN F T nm n cnt (F d) (T d)), (sL F T nm lo up n cnt (F d) (T d)), (sG F T nm lo up n cnt (F d) (T d)), by rw [ht]; exact hP9, va_K.moved hW.alike hK, hD9⟩, hS.F ht⟩) hS.2.2 dX6_contradictsChain_67
    · skip
      refine lv_iconst (v := 1) hx hb dX6_contradictsChain_62 (by decide) ?_
      refine lv_goto (tgt := 67) hx hb dX6_contradictsChain_63 (by decide) ?_
      have r21 : 1 = (bI (decide (nm d + up d < sL F T nm lo up n cnt (F d) (T d)) || decide (sG F T nm lo up n cnt (F d) (T d) < nm d + lo d))) := by first | (rw [decide_eq_true c41]; rfl) | (rw [decide_eq_false (Int32.not_lt.mpr c41), decide_eq_true c59]; rfl) | (rw [decide_eq_false c41, decide_eq_true c59]; rfl) | (rw [decide_eq_false c41, decide_eq_true (Int32.not_le.mp c59)]; rfl) | (rw [decide_eq_false c41, decide_eq_false (Int32.not_lt.mpr c59)]; rfl)
      have hP9 : va_P (dC, dI) vwCl [(aC, .inr (6, [.ref aD, .ref aR, .ref aH, .ref aS, .ref aT, .ref aL, .ref aI, .int (nI il)])), (aH, .inr (0, [.ref aD, .ref aR, .ref aHW, .ref aHL, .int (nI (Kc F T n cnt (F d) (T d))), .int (sN F T nm n cnt (F d) (T d)), .int (sL F T nm lo up n cnt (F d) (T d)), .int (sG F T nm lo up n cnt (F d) (T d))])), (aD, .inr (2, [.ref aR, .ref aDL, .ref aDD, .int (nI n)])), (aDD, .inl (cyZ, 20, .inl (fun j_ => bI (dd j_)))), (aR, .inr (1, [.ref aRF, .ref aRT, .ref aRN, .ref aRL, .ref aRU, .int (nI cnt)])), (aRF, .inl (cyI, 20, .inl (fun j_ => nI (F j_)))), (aRT, .inl (cyI, 20, .inl (fun j_ => nI (T j_)))), (aRN, .inl (cyI, 20, .inl nm)), (aRL, .inl (cyI, 20, .inl lo)), (aRU, .inl (cyI, 20, .inl up)), (aHW, .inl (cyI, 12, .inl wy2_14)), (aHL, .inl (cyI, 12, .inl (fun j_ => nI (L2_15 j_))))] H := by exact hP.sub [0, 1, 2, 3, 9, 4, 5, 10, 11, 8, 6, 7] rfl
      have hD9 : va_D A [(aC, .inr (6, [.ref aD, .ref aR, .ref aH, .ref aS, .ref aT, .ref aL, .ref aI, .int (nI il)])), (aH, .inr (0, [.ref aD, .ref aR, .ref aHW, .ref aHL, .int (nI (Kc F T n cnt (F d) (T d))), .int (sN F T nm n cnt (F d) (T d)), .int (sL F T nm lo up n cnt (F d) (T d)), .int (sG F T nm lo up n cnt (F d) (T d))])), (aD, .inr (2, [.ref aR, .ref aDL, .ref aDD, .int (nI n)])), (aDD, .inl (cyZ, 20, .inl (fun j_ => bI (dd j_)))), (aR, .inr (1, [.ref aRF, .ref aRT, .ref aRN, .ref aRL, .ref aRU, .int (nI cnt)])), (aRF, .inl (cyI, 20, .inl (fun j_ => nI (F j_)))), (aRT, .inl (cyI, 20, .inl (fun j_ => nI (T j_)))), (aRN, .inl (cyI, 20, .inl nm)), (aRL, .inl (cyI, 20, .inl lo)), (aRU, .inl (cyI, 20, .inl up)), (aHW, .inl (cyI, 12, .inl wy2_14)), (aHL, .inl (cyI, 12, .inl (fun j_ => nI (L2_15 j_))))] := by exact hD.sub [0, 1, 2, 3, 9, 4, 5, 10, 11, 8, 6, 7] (by decide) rfl
      rw [hQe]
      exact W.zret (v := 1) hx hb hr rfl (fun t ht hW => ⟨⟨_, (), rfl, r21, wy2_14, L2_15, (Kc F T n cnt (F d) (T d)), (sN F T nm n cnt (F d) (T d)), (sL F T nm lo up n cnt (F d) (T d)), (sG F T nm lo up n cnt (F d) (T d)), by rw [ht]; exact hP9, va_K.moved hW.alike hK, hD9⟩, hS.F ht⟩) hS.2.2 dX6_contradictsChain_67
