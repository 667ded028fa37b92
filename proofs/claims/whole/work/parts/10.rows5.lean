
def chB (w lo up : Nat → Int32) (d : Nat) : Bool := decide (¬ w d = -1) && decide (¬ w d = up d - lo d)
def grS (w : Nat → Int32) (x : Int32) : Nat → (Nat → Int32) × Int32
  | 0 => (w, x)
  | i + 1 => if ¬ (grS w x i).2 ≤ 0 ∧ ¬ (grS w x i).1 i = -1 then (upd (grS w x i).1 i ((grS w x i).1 i + 1), (grS w x i).2 + (-1)) else grS w x i
theorem grS_stop {w : Nat → Int32} {x : Int32} {i n : Nat} (h : (grS w x i).2 ≤ 0) (hn : i ≤ n) : grS w x n = grS w x i := by
  induction n with
  | zero => rw [show i = 0 by omega]
  | succ n ih =>
    by_cases e : i = n + 1
    · rw [e]
    · have h1 := ih (by omega)
      conv => lhs; unfold grS
      rw [h1, if_neg (fun q => q.1 h)]
def dvS (L : Nat → Nat) (lo up : Nat → Int32) (x s : Int32) (w : Nat → Int32) : Nat → (Nat → Int32) × Int32
  | 0 => (w, x)
  | k + 1 => (upd (dvS L lo up x s w k).1 (L k) (x * (up (L k) - lo (L k)) / s), (dvS L lo up x s w k).2 - x * (up (L k) - lo (L k)) / s)

set_option maxHeartbeats 4000000 in
set_option maxRecDepth 100000 in
theorem c_X4_changes (l : Launch) (dC : Nat → ClassId) (dI : Nat → Nat → Nat) (cyI cyZ cyJ cyD : ClassId) (aS aH aR aSN aRF aRT aRN aRL aRU : Nat) (zH : Nat) (w : Nat → Int32) (lo : Nat → Int32) (up : Nat → Int32) (cnt : Nat) (d : Nat) (hd : d < 20) : Met l yX4_changes wsX4_changes ({ frames := 1, cells := 0, slots := 0, locals := 21 } : Room) (va_Pc [.ref aS, .int (nI d)] (fun U => U.heap.size = zH ∧ va_P (dC, dI) vwCl [(aS, .inr (4, [.ref aH, .ref aR, .ref aSN])), (aSN, .inl (cyI, 20, .inl w)), (aR, .inr (1, [.ref aRF, .ref aRT, .ref aRN, .ref aRL, .ref aRU, .int (nI cnt)])), (aRL, .inl (cyI, 20, .inl lo)), (aRU, .inl (cyI, 20, .inl up))] U.heap ∧ va_K (dC, dI) vwCl [(cyI, .int), (cyZ, .boolean), (cyJ, .long), (cyD, .double)] U ∧ va_D (fun _ => True) [(aS, .inr (4, [.ref aH, .ref aR, .ref aSN])), (aSN, .inl (cyI, 20, .inl w)), (aR, .inr (1, [.ref aRF, .ref aRT, .ref aRN, .ref aRL, .ref aRU, .int (nI cnt)])), (aRL, .inl (cyI, 20, .inl lo)), (aRU, .inl (cyI, 20, .inl up))])) (va_Qi (fun (r : Int32) (_ : Unit) => r = bI (chB w lo up d)) (fun _ t => va_P (dC, dI) vwCl [(aS, .inr (4, [.ref aH, .ref aR, .ref aSN])), (aSN, .inl (cyI, 20, .inl w)), (aR, .inr (1, [.ref aRF, .ref aRT, .ref aRN, .ref aRL, .ref aRU, .int (nI cnt)])), (aRL, .inl (cyI, 20, .inl lo)), (aRU, .inl (cyI, 20, .inl up))] t.heap ∧ va_K (dC, dI) vwCl [(cyI, .int), (cyZ, .boolean), (cyJ, .long), (cyD, .double)] t ∧ va_D (va_A [(aS, .inr (4, [.ref aH, .ref aR, .ref aSN])), (aSN, .inl (cyI, 20, .inl w)), (aR, .inr (1, [.ref aRF, .ref aRT, .ref aRN, .ref aRL, .ref aRU, .int (nI cnt)])), (aRL, .inl (cyI, 20, .inl lo)), (aRU, .inl (cyI, 20, .inl up))] zH) [(aS, .inr (4, [.ref aH, .ref aR, .ref aSN])), (aSN, .inl (cyI, 20, .inl w)), (aR, .inr (1, [.ref aRF, .ref aRT, .ref aRN, .ref aRL, .ref aRU, .int (nI cnt)])), (aRL, .inl (cyI, 20, .inl lo)), (aRU, .inl (cyI, 20, .inl up))]) (va_A [(aS, .inr (4, [.ref aH, .ref aR, .ref aSN])), (aSN, .inl (cyI, 20, .inl w)), (aR, .inr (1, [.ref aRF, .ref aRT, .ref aRN, .ref aRL, .ref aRU, .int (nI cnt)])), (aRL, .inl (cyI, 20, .inl lo)), (aRU, .inl (cyI, 20, .inl up))] zH)) 0 0 (va_A [(aS, .inr (4, [.ref aH, .ref aR, .ref aSN])), (aSN, .inl (cyI, 20, .inl w)), (aR, .inr (1, [.ref aRF, .ref aRT, .ref aRN, .ref aRL, .ref aRU, .int (nI cnt)])), (aRL, .inl (cyI, 20, .inl lo)), (aRU, .inl (cyI, 20, .inl up))] zH) := by
  refine Met.ofW (cc := cX4_changes) (maxL := 2) (ret := (some .boolean)) (by decide) rfl ?_
  intro pM eM s mM args blM mtM cM s₁ BM hml hv
  obtain ⟨rfl, hsz, hP, hK, hD0⟩ := hv
  have hx := BM.exec
  have hb := BM.bytes
  have hr := BM.returns
  have hts := atoms_spec (ws := wsX4_changes) BM.pre
  have hown : s.vm.findClass RX4 = some mM.cls := findClass_of_methodNamed BM.named
  have hlocks := BM.notSynchronized
  have w0 := hts (.fieldLink RX4 9 "DimensionChecker$Shares" "newWidth" "[I") (by decide +kernel)
  have w1 := hts (.fieldLink RX4 25 "DimensionChecker$Shares" "rows" "LDimensionChecker$Dimensions;") (by decide +kernel)
  have iX4 : ∀ w ∈ wsX40, w ∈ wsX4_changes := by decide +kernel
  subst hsz
  have hD := hD0.self (sz := s.heap.size)
  obtain ⟨Q, hQe⟩ : ∃ Q : State → Prop, Q = MQ blM (va_Qi (fun (r : Int32) (_ : Unit) => r = bI (chB w lo up d)) (fun _ t => va_P (dC, dI) vwCl [(aS, .inr (4, [.ref aH, .ref aR, .ref aSN])), (aSN, .inl (cyI, 20, .inl w)), (aR, .inr (1, [.ref aRF, .ref aRT, .ref aRN, .ref aRL, .ref aRU, .int (nI cnt)])), (aRL, .inl (cyI, 20, .inl lo)), (aRU, .inl (cyI, 20, .inl up))] t.heap ∧ va_K (dC, dI) vwCl [(cyI, .int), (cyZ, .boolean), (cyJ, .long), (cyD, .double)] t ∧ va_D (va_A [(aS, .inr (4, [.ref aH, .ref aR, .ref aSN])), (aSN, .inl (cyI, 20, .inl w)), (aR, .inr (1, [.ref aRF, .ref aRT, .ref aRN, .ref aRL, .ref aRU, .int (nI cnt)])), (aRL, .inl (cyI, 20, .inl lo)), (aRU, .inl (cyI, 20, .inl up))] s.heap.size) [(aS, .inr (4, [.ref aH, .ref aR, .ref aSN])), (aSN, .inl (cyI, 20, .inl w)), (aR, .inr (1, [.ref aRF, .ref aRT, .ref aRN, .ref aRL, .ref aRU, .int (nI cnt)])), (aRL, .inl (cyI, 20, .inl lo)), (aRU, .inl (cyI, 20, .inl up))]) (va_A [(aS, .inr (4, [.ref aH, .ref aR, .ref aSN])), (aSN, .inl (cyI, 20, .inl w)), (aR, .inr (1, [.ref aRF, .ref aRT, .ref aRN, .ref aRL, .ref aRU, .int (nI cnt)])), (aRL, .inl (cyI, 20, .inl lo)), (aRU, .inl (cyI, 20, .inl up))] s.heap.size)) ([.ref aS, .int (nI d)] : List Value).toArray s 0 0 (va_A [(aS, .inr (4, [.ref aH, .ref aR, .ref aSN])), (aSN, .inl (cyI, 20, .inl w)), (aR, .inr (1, [.ref aRF, .ref aRT, .ref aRN, .ref aRL, .ref aRU, .int (nI cnt)])), (aRL, .inl (cyI, 20, .inl lo)), (aRU, .inl (cyI, 20, .inl up))] s.heap.size) := ⟨_, rfl⟩
  rw [← hQe]
  generalize hAe : va_A [(aS, .inr (4, [.ref aH, .ref aR, .ref aSN])), (aSN, .inl (cyI, 20, .inl w)), (aR, .inr (1, [.ref aRF, .ref aRT, .ref aRN, .ref aRL, .ref aRU, .int (nI cnt)])), (aRL, .inl (cyI, 20, .inl lo)), (aRU, .inl (cyI, 20, .inl up))] s.heap.size = A at hD hQe
  have hA : ∀ q : Nat, s.heap.size ≤ q → A q := fun q h => by rw [← hAe]; exact Or.inr h
  obtain ⟨H, hHe⟩ : ∃ H : Heap, H = s.heap := ⟨_, rfl⟩
  have hS : va_S A s.heap H [] := by rw [hHe]; exact va_S.rf
  rw [← hHe] at hP ⊢
  have hl := lv_entry ([.ref aS, .int (nI d)]) (n := 2) (Nat.le_of_ble_eq_true rfl)
  rw [lg_entry_eq]
  generalize (lg_sl ([.ref aS, .int (nI d)]) ++ List.replicate (2 - (lg_sl ([.ref aS, .int (nI d)])).length) Slot.unset).toArray = ls at hl ⊢
  have hl : lv_has ls 2 [(0, .ref aS), (1, .int (nI d))] := hl
  refine lv_aload_n hx hb dX4_changes_0 rfl (lv_at hl 0 rfl) ?_
  refine va_get (D := (dC, dI)) (ci := 4) (v := .ref aSN) (C := RX4) (T := TX4) (N := 3) hx hb hts iX4 hown hK hP 0 rfl rfl 2 (by decide) w0 (fun _ h9 => h9) rfl dX4_changes_1 ?_
  refine lv_iload_n hx hb dX4_changes_4 rfl (lv_at hl 1 rfl) ?_
  have h1 : vp_in (nI d) 20 := by first | exact vp_in_nI (by omega) (by omega) | assumption
  refine va_iald hx hb hK hP 1 0 rfl rfl h1 dX4_changes_5 ?_
  refine lv_topi (fun x2 e3 => ?_)
  obtain rfl : x2 = (w d) := by rw [e3, nI_clamp (by omega)]
  clear e3
  refine lv_iconst (v := (-1)) hx hb dX4_changes_6 (by decide) ?_
  refine lv_icmp_eq (tgt := 31) hx hb dX4_changes_7 (by decide) (fun c7 => ?_) (fun c7 => ?_)
  · skip
    refine lv_iconst (v := 0) hx hb dX4_changes_31 (by decide) ?_
    have r4 : 0 = (bI (chB w lo up d)) := by simp [chB, bI, *]
    have hP9 : va_P (dC, dI) vwCl [(aS, .inr (4, [.ref aH, .ref aR, .ref aSN])), (aSN, .inl (cyI, 20, .inl w)), (aR, .inr (1, [.ref aRF, .ref aRT, .ref aRN, .ref aRL, .ref aRU, .int (nI cnt)])), (aRL, .inl (cyI, 20, .inl lo)), (aRU, .inl (cyI, 20, .inl up))] H := by exact hP.sub [0, 1, 2, 3, 4] rfl
    have hD9 : va_D A [(aS, .inr (4, [.ref aH, .ref aR, .ref aSN])), (aSN, .inl (cyI, 20, .inl w)), (aR, .inr (1, [.ref aRF, .ref aRT, .ref aRN, .ref aRL, .ref aRU, .int (nI cnt)])), (aRL, .inl (cyI, 20, .inl lo)), (aRU, .inl (cyI, 20, .inl up))] := by exact hD.sub [0, 1, 2, 3, 4] (by decide) rfl
    subst hAe
    subst hQe
    exact W.zret (v := 0) hx hb hr rfl (fun t ht hW => ⟨⟨_, (), rfl, r4, by rw [ht]; exact hP9, va_K.moved hW.alike hK, hD9⟩, hS.F ht⟩) hS.2.2 dX4_changes_32
  · skip
    refine lv_aload_n hx hb dX4_changes_10 rfl (lv_at hl 0 rfl) ?_
    refine va_get (D := (dC, dI)) (ci := 4) (v := .ref aSN) (C := RX4) (T := TX4) (N := 3) hx hb hts iX4 hown hK hP 0 rfl rfl 2 (by decide) w0 (fun _ h9 => h9) rfl dX4_changes_11 ?_
    refine lv_iload_n hx hb dX4_changes_14 rfl (lv_at hl 1 rfl) ?_
    have h5 : vp_in (nI d) 20 := by first | exact vp_in_nI (by omega) (by omega) | assumption
    refine va_iald hx hb hK hP 1 0 rfl rfl h5 dX4_changes_15 ?_
    refine lv_topi (fun x6 e7 => ?_)
    obtain rfl : x6 = (w d) := by rw [e7, nI_clamp (by omega)]
    clear e7
    refine lv_aload_n hx hb dX4_changes_16 rfl (lv_at hl 0 rfl) ?_
    refine va_get (D := (dC, dI)) (ci := 4) (v := .ref aR) (C := RX4) (T := TX4) (N := 3) hx hb hts iX4 hown hK hP 0 rfl rfl 1 (by decide) w1 (fun _ h9 => h9) rfl dX4_changes_17 ?_
    refine lv_iload_n hx hb dX4_changes_20 rfl (lv_at hl 1 rfl) ?_
    have g8 : d < 20 := by first | assumption | omega | exact vp_in_nI (by omega) (by omega)
    have hPc := hP.sub (ws' := [(aR, .inr (1, [.ref aRF, .ref aRT, .ref aRN, .ref aRL, .ref aRU, .int (nI cnt)])), (aRL, .inl (cyI, 20, .inl lo)), (aRU, .inl (cyI, 20, .inl up))]) [2, 3, 4] rfl
    have hDc := hD.sub (ws' := [(aR, .inr (1, [.ref aRF, .ref aRT, .ref aRN, .ref aRL, .ref aRU, .int (nI cnt)])), (aRL, .inl (cyI, 20, .inl lo)), (aRU, .inl (cyI, 20, .inl up))]) [2, 3, 4] (by decide) rfl
    have hFc := va_free (wc := [(aR, .inr (1, [.ref aRF, .ref aRT, .ref aRN, .ref aRL, .ref aRU, .int (nI cnt)])), (aRL, .inl (cyI, 20, .inl lo)), (aRU, .inl (cyI, 20, .inl up))]) hD hS hA [2, 3, 4] rfl
    refine va_calli (va_runV (As := [.int (nI d)]) (rest := [.int (w d)]) ⟨hx, hb, hml, hown, hts⟩ (c_X1_width l dC dI cyI cyZ cyJ cyD aR aRF aRT aRN aRL aRU H.size lo up cnt d g8) (cwV 1 hts gX4_changes_X1_width rfl rfl rfl (by decide +kernel) ⟨Nat.le_of_ble_eq_true rfl, Nat.le_of_ble_eq_true rfl⟩) ⟨fun a U g mk q => by obtain ⟨q0, q1, qP, qK, qD⟩ := q; exact ⟨q0, q1, qP, va_K.moved (u := U) (U := U.calling g mk a) (Vm.Alike.refl U.vm) qK, qD⟩, va_recv hK hPc (ci := 1) (q0 := 0) rfl rfl, fun U hU hW => ⟨rfl, by rw [hU], by rw [hU]; exact hPc, va_K.moved hW.alike hK, hDc.weaken (fun _ _ _ _ => trivial)⟩⟩ rfl rfl hl.1 rfl (lv_room (Nat.le_of_ble_eq_true rfl)) dX4_changes_21 ⟨Nat.le_of_ble_eq_true rfl, Nat.le_of_ble_eq_true rfl⟩) hS (fun q _ h => hFc q h) hFc (fun r u t H1 locs ht hvm hw hB hz1 hk1 hS => ?_)
    obtain rfl := hw
    obtain ⟨hP1, hK1, hD1⟩ := hB
    rw [ht] at hP1
    obtain ⟨hP, hD⟩ := va_join (wr := [(aS, .inr (4, [.ref aH, .ref aR, .ref aSN])), (aSN, .inl (cyI, 20, .inl w))]) (w1 := [(aR, .inr (1, [.ref aRF, .ref aRT, .ref aRN, .ref aRL, .ref aRU, .int (nI cnt)])), (aRL, .inl (cyI, 20, .inl lo)), (aRU, .inl (cyI, 20, .inl up))]) hP hD [2, 3, 4] [0, 1] rfl rfl (by decide) (by decide) hk1 hFc hP1 hD1
    clear hP1 hD1 hK1 hPc hDc hFc hk1 hz1 hvm ht u t
    generalize H1 = H at hP hS ⊢
    have hP : va_P (dC, dI) vwCl [(aS, .inr (4, [.ref aH, .ref aR, .ref aSN])), (aSN, .inl (cyI, 20, .inl w)), (aR, .inr (1, [.ref aRF, .ref aRT, .ref aRN, .ref aRL, .ref aRU, .int (nI cnt)])), (aRL, .inl (cyI, 20, .inl lo)), (aRU, .inl (cyI, 20, .inl up))] H := hP
    have hD : va_D A [(aS, .inr (4, [.ref aH, .ref aR, .ref aSN])), (aSN, .inl (cyI, 20, .inl w)), (aR, .inr (1, [.ref aRF, .ref aRT, .ref aRN, .ref aRL, .ref aRU, .int (nI cnt)])), (aRL, .inl (cyI, 20, .inl lo)), (aRU, .inl (cyI, 20, .inl up))] := hD
    refine lv_icmp_eq (tgt := 31) hx hb dX4_changes_24 (by decide) (fun c24 => ?_) (fun c24 => ?_)
    · skip
      refine lv_iconst (v := 0) hx hb dX4_changes_31 (by decide) ?_
      have r9 : 0 = (bI (chB w lo up d)) := by simp [chB, bI, *]
      have hP9 : va_P (dC, dI) vwCl [(aS, .inr (4, [.ref aH, .ref aR, .ref aSN])), (aSN, .inl (cyI, 20, .inl w)), (aR, .inr (1, [.ref aRF, .ref aRT, .ref aRN, .ref aRL, .ref aRU, .int (nI cnt)])), (aRL, .inl (cyI, 20, .inl lo)), (aRU, .inl (cyI, 20, .inl up))] H := by exact hP.sub [0, 1, 2, 3, 4] rfl
      have hD9 : va_D A [(aS, .inr (4, [.ref aH, .ref aR, .ref aSN])), (aSN, .inl (cyI, 20, .inl w)), (aR, .inr (1, [.ref aRF, .ref aRT, .ref aRN, .ref aRL, .ref aRU, .int (nI cnt)])), (aRL, .inl (cyI, 20, .inl lo)), (aRU, .inl (cyI, 20, .inl up))] := by exact hD.sub [0, 1, 2, 3, 4] (by decide) rfl
      subst hAe
      subst hQe
      exact W.zret (v := 0) hx hb hr rfl (fun t ht hW => ⟨⟨_, (), rfl, r9, by rw [ht]; exact hP9, va_K.moved hW.alike hK, hD9⟩, hS.F ht⟩) hS.2.2 dX4_changes_32
    · skip
      refine lv_iconst (v := 1) hx hb dX4_changes_27 (by decide) ?_
      refine lv_goto (tgt := 32) hx hb dX4_changes_28 (by decide) ?_
      have r10 : 1 = (bI (chB w lo up d)) := by simp [chB, bI, *]
      have hP9 : va_P (dC, dI) vwCl [(aS, .inr (4, [.ref aH, .ref aR, .ref aSN])), (aSN, .inl (cyI, 20, .inl w)), (aR, .inr (1, [.ref aRF, .ref aRT, .ref aRN, .ref aRL, .ref aRU, .int (nI cnt)])), (aRL, .inl (cyI, 20, .inl lo)), (aRU, .inl (cyI, 20, .inl up))] H := by exact hP.sub [0, 1, 2, 3, 4] rfl
      have hD9 : va_D A [(aS, .inr (4, [.ref aH, .ref aR, .ref aSN])), (aSN, .inl (cyI, 20, .inl w)), (aR, .inr (1, [.ref aRF, .ref aRT, .ref aRN, .ref aRL, .ref aRU, .int (nI cnt)])), (aRL, .inl (cyI, 20, .inl lo)), (aRU, .inl (cyI, 20, .inl up))] := by exact hD.sub [0, 1, 2, 3, 4] (by decide) rfl
      subst hAe
      subst hQe
      exact W.zret (v := 1) hx hb hr rfl (fun t ht hW => ⟨⟨_, (), rfl, r10, by rw [ht]; exact hP9, va_K.moved hW.alike hK, hD9⟩, hS.F ht⟩) hS.2.2 dX4_changes_32
set_option maxHeartbeats 4000000 in
set_option maxRecDepth 100000 in
theorem c_X4_newLower (l : Launch) (dC : Nat → ClassId) (dI : Nat → Nat → Nat) (cyI cyZ cyJ cyD : ClassId) (aS aH aR aSN aRF aRT aRN aRL aRU : Nat) (zH : Nat) (w : Nat → Int32) (lo : Nat → Int32) (up : Nat → Int32) (cnt : Nat) (d : Nat) (hd : d < 20) : Met l yX4_newLower wsX4_newLower ({ frames := 1, cells := 0, slots := 0, locals := 24 } : Room) (va_Pc [.ref aS, .int (nI d)] (fun U => U.heap.size = zH ∧ va_P (dC, dI) vwCl [(aS, .inr (4, [.ref aH, .ref aR, .ref aSN])), (aSN, .inl (cyI, 20, .inl w)), (aR, .inr (1, [.ref aRF, .ref aRT, .ref aRN, .ref aRL, .ref aRU, .int (nI cnt)])), (aRL, .inl (cyI, 20, .inl lo)), (aRU, .inl (cyI, 20, .inl up))] U.heap ∧ va_K (dC, dI) vwCl [(cyI, .int), (cyZ, .boolean), (cyJ, .long), (cyD, .double)] U ∧ va_D (fun _ => True) [(aS, .inr (4, [.ref aH, .ref aR, .ref aSN])), (aSN, .inl (cyI, 20, .inl w)), (aR, .inr (1, [.ref aRF, .ref aRT, .ref aRN, .ref aRL, .ref aRU, .int (nI cnt)])), (aRL, .inl (cyI, 20, .inl lo)), (aRU, .inl (cyI, 20, .inl up))])) (va_Qi (fun (r : Int32) (_ : Unit) => r = flD (lo d + up d - w d) 2) (fun _ t => va_P (dC, dI) vwCl [(aS, .inr (4, [.ref aH, .ref aR, .ref aSN])), (aSN, .inl (cyI, 20, .inl w)), (aR, .inr (1, [.ref aRF, .ref aRT, .ref aRN, .ref aRL, .ref aRU, .int (nI cnt)])), (aRL, .inl (cyI, 20, .inl lo)), (aRU, .inl (cyI, 20, .inl up))] t.heap ∧ va_K (dC, dI) vwCl [(cyI, .int), (cyZ, .boolean), (cyJ, .long), (cyD, .double)] t ∧ va_D (va_A [(aS, .inr (4, [.ref aH, .ref aR, .ref aSN])), (aSN, .inl (cyI, 20, .inl w)), (aR, .inr (1, [.ref aRF, .ref aRT, .ref aRN, .ref aRL, .ref aRU, .int (nI cnt)])), (aRL, .inl (cyI, 20, .inl lo)), (aRU, .inl (cyI, 20, .inl up))] zH) [(aS, .inr (4, [.ref aH, .ref aR, .ref aSN])), (aSN, .inl (cyI, 20, .inl w)), (aR, .inr (1, [.ref aRF, .ref aRT, .ref aRN, .ref aRL, .ref aRU, .int (nI cnt)])), (aRL, .inl (cyI, 20, .inl lo)), (aRU, .inl (cyI, 20, .inl up))]) (va_A [(aS, .inr (4, [.ref aH, .ref aR, .ref aSN])), (aSN, .inl (cyI, 20, .inl w)), (aR, .inr (1, [.ref aRF, .ref aRT, .ref aRN, .ref aRL, .ref aRU, .int (nI cnt)])), (aRL, .inl (cyI, 20, .inl lo)), (aRU, .inl (cyI, 20, .inl up))] zH)) 0 0 (va_A [(aS, .inr (4, [.ref aH, .ref aR, .ref aSN])), (aSN, .inl (cyI, 20, .inl w)), (aR, .inr (1, [.ref aRF, .ref aRT, .ref aRN, .ref aRL, .ref aRU, .int (nI cnt)])), (aRL, .inl (cyI, 20, .inl lo)), (aRU, .inl (cyI, 20, .inl up))] zH) := by
  refine Met.ofW (cc := cX4_newLower) (maxL := 2) (ret := (some .int)) (by decide) rfl ?_
  intro pM eM s mM args blM mtM cM s₁ BM hml hv
  obtain ⟨rfl, hsz, hP, hK, hD0⟩ := hv
  have hx := BM.exec
  have hb := BM.bytes
  have hr := BM.returns
  have hts := atoms_spec (ws := wsX4_newLower) BM.pre
  have hown : s.vm.findClass RX4 = some mM.cls := findClass_of_methodNamed BM.named
  have hlocks := BM.notSynchronized
  have w0 := hts (.fieldLink RX4 25 "DimensionChecker$Shares" "rows" "LDimensionChecker$Dimensions;") (by decide +kernel)
  have w1 := hts (.fieldLink RX4 56 "DimensionChecker$Dimensions" "lower" "[I") (by decide +kernel)
  have w2 := hts (.fieldLink RX4 59 "DimensionChecker$Dimensions" "upper" "[I") (by decide +kernel)
  have w3 := hts (.fieldLink RX4 9 "DimensionChecker$Shares" "newWidth" "[I") (by decide +kernel)
  have iX4 : ∀ w ∈ wsX40, w ∈ wsX4_newLower := by decide +kernel
  have iX1 : ∀ w ∈ wsX10, w ∈ wsX4_newLower := by decide +kernel
  subst hsz
  have hD := hD0.self (sz := s.heap.size)
  obtain ⟨Q, hQe⟩ : ∃ Q : State → Prop, Q = MQ blM (va_Qi (fun (r : Int32) (_ : Unit) => r = flD (lo d + up d - w d) 2) (fun _ t => va_P (dC, dI) vwCl [(aS, .inr (4, [.ref aH, .ref aR, .ref aSN])), (aSN, .inl (cyI, 20, .inl w)), (aR, .inr (1, [.ref aRF, .ref aRT, .ref aRN, .ref aRL, .ref aRU, .int (nI cnt)])), (aRL, .inl (cyI, 20, .inl lo)), (aRU, .inl (cyI, 20, .inl up))] t.heap ∧ va_K (dC, dI) vwCl [(cyI, .int), (cyZ, .boolean), (cyJ, .long), (cyD, .double)] t ∧ va_D (va_A [(aS, .inr (4, [.ref aH, .ref aR, .ref aSN])), (aSN, .inl (cyI, 20, .inl w)), (aR, .inr (1, [.ref aRF, .ref aRT, .ref aRN, .ref aRL, .ref aRU, .int (nI cnt)])), (aRL, .inl (cyI, 20, .inl lo)), (aRU, .inl (cyI, 20, .inl up))] s.heap.size) [(aS, .inr (4, [.ref aH, .ref aR, .ref aSN])), (aSN, .inl (cyI, 20, .inl w)), (aR, .inr (1, [.ref aRF, .ref aRT, .ref aRN, .ref aRL, .ref aRU, .int (nI cnt)])), (aRL, .inl (cyI, 20, .inl lo)), (aRU, .inl (cyI, 20, .inl up))]) (va_A [(aS, .inr (4, [.ref aH, .ref aR, .ref aSN])), (aSN, .inl (cyI, 20, .inl w)), (aR, .inr (1, [.ref aRF, .ref aRT, .ref aRN, .ref aRL, .ref aRU, .int (nI cnt)])), (aRL, .inl (cyI, 20, .inl lo)), (aRU, .inl (cyI, 20, .inl up))] s.heap.size)) ([.ref aS, .int (nI d)] : List Value).toArray s 0 0 (va_A [(aS, .inr (4, [.ref aH, .ref aR, .ref aSN])), (aSN, .inl (cyI, 20, .inl w)), (aR, .inr (1, [.ref aRF, .ref aRT, .ref aRN, .ref aRL, .ref aRU, .int (nI cnt)])), (aRL, .inl (cyI, 20, .inl lo)), (aRU, .inl (cyI, 20, .inl up))] s.heap.size) := ⟨_, rfl⟩
  rw [← hQe]
  generalize hAe : va_A [(aS, .inr (4, [.ref aH, .ref aR, .ref aSN])), (aSN, .inl (cyI, 20, .inl w)), (aR, .inr (1, [.ref aRF, .ref aRT, .ref aRN, .ref aRL, .ref aRU, .int (nI cnt)])), (aRL, .inl (cyI, 20, .inl lo)), (aRU, .inl (cyI, 20, .inl up))] s.heap.size = A at hD hQe
  have hA : ∀ q : Nat, s.heap.size ≤ q → A q := fun q h => by rw [← hAe]; exact Or.inr h
  obtain ⟨H, hHe⟩ : ∃ H : Heap, H = s.heap := ⟨_, rfl⟩
  have hS : va_S A s.heap H [] := by rw [hHe]; exact va_S.rf
  rw [← hHe] at hP ⊢
  have hl := lv_entry ([.ref aS, .int (nI d)]) (n := 2) (Nat.le_of_ble_eq_true rfl)
  rw [lg_entry_eq]
  generalize (lg_sl ([.ref aS, .int (nI d)]) ++ List.replicate (2 - (lg_sl ([.ref aS, .int (nI d)])).length) Slot.unset).toArray = ls at hl ⊢
  have hl : lv_has ls 2 [(0, .ref aS), (1, .int (nI d))] := hl
  refine lv_aload_n hx hb dX4_newLower_0 rfl (lv_at hl 0 rfl) ?_
  refine va_get (D := (dC, dI)) (ci := 4) (v := .ref aR) (C := RX4) (T := TX4) (N := 3) hx hb hts iX4 hown hK hP 0 rfl rfl 1 (by decide) w0 (fun _ h9 => h9) rfl dX4_newLower_1 ?_
  refine va_get (D := (dC, dI)) (ci := 1) (v := .ref aRL) (C := RX1) (T := TX1) (N := 6) hx hb hts iX1 hown hK hP 2 rfl rfl 3 (by decide) w1 (fun _ h9 => h9) rfl dX4_newLower_4 ?_
  refine lv_iload_n hx hb dX4_newLower_7 rfl (lv_at hl 1 rfl) ?_
  have h1 : vp_in (nI d) 20 := by first | exact vp_in_nI (by omega) (by omega) | assumption
  refine va_iald hx hb hK hP 3 0 rfl rfl h1 dX4_newLower_8 ?_
  refine lv_topi (fun x2 e3 => ?_)
  obtain rfl : x2 = (lo d) := by rw [e3, nI_clamp (by omega)]
  clear e3
  refine lv_aload_n hx hb dX4_newLower_9 rfl (lv_at hl 0 rfl) ?_
  refine va_get (D := (dC, dI)) (ci := 4) (v := .ref aR) (C := RX4) (T := TX4) (N := 3) hx hb hts iX4 hown hK hP 0 rfl rfl 1 (by decide) w0 (fun _ h9 => h9) rfl dX4_newLower_10 ?_
  refine va_get (D := (dC, dI)) (ci := 1) (v := .ref aRU) (C := RX1) (T := TX1) (N := 6) hx hb hts iX1 hown hK hP 2 rfl rfl 4 (by decide) w2 (fun _ h9 => h9) rfl dX4_newLower_13 ?_
  refine lv_iload_n hx hb dX4_newLower_16 rfl (lv_at hl 1 rfl) ?_
  have h4 : vp_in (nI d) 20 := by first | exact vp_in_nI (by omega) (by omega) | assumption
  refine va_iald hx hb hK hP 4 0 rfl rfl h4 dX4_newLower_17 ?_
  refine lv_topi (fun x5 e6 => ?_)
  obtain rfl : x5 = (up d) := by rw [e6, nI_clamp (by omega)]
  clear e6
  refine lv_iadd hx hb dX4_newLower_18 ?_
  refine lv_aload_n hx hb dX4_newLower_19 rfl (lv_at hl 0 rfl) ?_
  refine va_get (D := (dC, dI)) (ci := 4) (v := .ref aSN) (C := RX4) (T := TX4) (N := 3) hx hb hts iX4 hown hK hP 0 rfl rfl 2 (by decide) w3 (fun _ h9 => h9) rfl dX4_newLower_20 ?_
  refine lv_iload_n hx hb dX4_newLower_23 rfl (lv_at hl 1 rfl) ?_
  have h7 : vp_in (nI d) 20 := by first | exact vp_in_nI (by omega) (by omega) | assumption
  refine va_iald hx hb hK hP 1 0 rfl rfl h7 dX4_newLower_24 ?_
  refine lv_topi (fun x8 e9 => ?_)
  obtain rfl : x8 = (w d) := by rw [e9, nI_clamp (by omega)]
  clear e9
  refine lv_isub hx hb dX4_newLower_25 ?_
  refine lv_iconst (v := 2) hx hb dX4_newLower_26 (by decide) ?_
  have g10 : ¬ (2 : Int32) = 0 := by decide
  have hPc := hP.sub (ws' := []) [] rfl
  have hDc := hD.sub (ws' := []) [] (by decide) rfl
  have hFc := va_free (wc := []) hD hS hA [] rfl
  refine va_calli (va_runS (As := [.int (((lo d) + (up d)) - (w d)), .int 2]) (rest := []) ⟨hx, hb, hml, hown, hts⟩ (c_J9_floorDiv_7cf53 l dC dI cyI cyZ cyJ cyD H.size (((lo d) + (up d)) - (w d)) 2 g10) (va_cwS 2 hts gX4_newLower_J9_floorDiv_7cf53 rfl rfl rfl (by decide +kernel) ⟨Nat.le_of_ble_eq_true rfl, Nat.le_of_ble_eq_true rfl⟩) ⟨fun a U g mk q => by obtain ⟨q0, q1, qP, qK, qD⟩ := q; exact ⟨q0, q1, qP, va_K.moved (u := U) (U := U.calling g mk a) (Vm.Alike.refl U.vm) qK, qD⟩, fun U hU hW => ⟨rfl, by rw [hU], by rw [hU]; exact hPc, va_K.moved hW.alike hK, hDc.weaken (fun _ _ _ _ => trivial)⟩⟩ rfl rfl hl.1 rfl (lv_room (Nat.le_of_ble_eq_true rfl)) dX4_newLower_27 ⟨Nat.le_of_ble_eq_true rfl, Nat.le_of_ble_eq_true rfl⟩) hS (fun q _ h => hFc q h) hFc (fun r u t H1 locs ht hvm hw hB hz1 hk1 hS => ?_)
  obtain rfl := hw
  obtain ⟨hP1, hK1, hD1⟩ := hB
  rw [ht] at hP1
  obtain ⟨hP, hD⟩ := va_join (wr := [(aS, .inr (4, [.ref aH, .ref aR, .ref aSN])), (aSN, .inl (cyI, 20, .inl w)), (aR, .inr (1, [.ref aRF, .ref aRT, .ref aRN, .ref aRL, .ref aRU, .int (nI cnt)])), (aRL, .inl (cyI, 20, .inl lo)), (aRU, .inl (cyI, 20, .inl up))]) (w1 := []) hP hD [] [0, 1, 2, 3, 4] rfl rfl (by decide) (by decide) hk1 hFc hP1 hD1
  clear hP1 hD1 hK1 hPc hDc hFc hk1 hz1 hvm ht u t
  generalize H1 = H at hP hS ⊢
  have hP : va_P (dC, dI) vwCl [(aS, .inr (4, [.ref aH, .ref aR, .ref aSN])), (aSN, .inl (cyI, 20, .inl w)), (aR, .inr (1, [.ref aRF, .ref aRT, .ref aRN, .ref aRL, .ref aRU, .int (nI cnt)])), (aRL, .inl (cyI, 20, .inl lo)), (aRU, .inl (cyI, 20, .inl up))] H := hP
  have hD : va_D A [(aS, .inr (4, [.ref aH, .ref aR, .ref aSN])), (aSN, .inl (cyI, 20, .inl w)), (aR, .inr (1, [.ref aRF, .ref aRT, .ref aRN, .ref aRL, .ref aRU, .int (nI cnt)])), (aRL, .inl (cyI, 20, .inl lo)), (aRU, .inl (cyI, 20, .inl up))] := hD
  have r11 : (flD (((lo d) + (up d)) - (w d)) 2) = (flD (lo d + up d - w d) 2) := by first | rfl | simp [*]
  have hP9 : va_P (dC, dI) vwCl [(aS, .inr (4, [.ref aH, .ref aR, .ref aSN])), (aSN, .inl (cyI, 20, .inl w)), (aR, .inr (1, [.ref aRF, .ref aRT, .ref aRN, .ref aRL, .ref aRU, .int (nI cnt)])), (aRL, .inl (cyI, 20, .inl lo)), (aRU, .inl (cyI, 20, .inl up))] H := by exact hP.sub [0, 1, 2, 3, 4] rfl
  have hD9 : va_D A [(aS, .inr (4, [.ref aH, .ref aR, .ref aSN])), (aSN, .inl (cyI, 20, .inl w)), (aR, .inr (1, [.ref aRF, .ref aRT, .ref aRN, .ref aRL, .ref aRU, .int (nI cnt)])), (aRL, .inl (cyI, 20, .inl lo)), (aRU, .inl (cyI, 20, .inl up))] := by exact hD.sub [0, 1, 2, 3, 4] (by decide) rfl
  rw [hQe]
  exact W.iret (v := flD (((lo d) + (up d)) - (w d)) 2) hx hb hr (fun t ht hW => ⟨⟨_, (), rfl, r11, by rw [ht]; exact hP9, va_K.moved hW.alike hK, hD9⟩, hS.F ht⟩) hS.2.2 dX4_newLower_30
set_option maxHeartbeats 4000000 in
set_option maxRecDepth 100000 in
theorem c_X4_giveRest (l : Launch) (dC : Nat → ClassId) (dI : Nat → Nat → Nat) (cyI cyZ cyJ cyD : ClassId) (aS aH aR aSN aRF aRT aRN aRL aRU : Nat) (zH : Nat) (w : Nat → Int32) (cnt : Nat) (x : Int32) (hc : cnt ≤ 20) : Met l yX4_giveRest wsX4_giveRest ({ frames := 0, cells := 0, slots := 0, locals := 0 } : Room) (va_Pc [.ref aS, .int x] (fun U => U.heap.size = zH ∧ va_P (dC, dI) vwCl [(aS, .inr (4, [.ref aH, .ref aR, .ref aSN])), (aSN, .inl (cyI, 20, .inl w)), (aR, .inr (1, [.ref aRF, .ref aRT, .ref aRN, .ref aRL, .ref aRU, .int (nI cnt)]))] U.heap ∧ va_K (dC, dI) vwCl [(cyI, .int), (cyZ, .boolean), (cyJ, .long), (cyD, .double)] U ∧ va_D (fun _ => True) [(aS, .inr (4, [.ref aH, .ref aR, .ref aSN])), (aSN, .inl (cyI, 20, .inl w)), (aR, .inr (1, [.ref aRF, .ref aRT, .ref aRN, .ref aRL, .ref aRU, .int (nI cnt)]))])) (va_Qv (fun _ : Unit => True) (fun _ t => va_P (dC, dI) vwCl [(aS, .inr (4, [.ref aH, .ref aR, .ref aSN])), (aSN, .inl (cyI, 20, .inl ((grS w x cnt).1))), (aR, .inr (1, [.ref aRF, .ref aRT, .ref aRN, .ref aRL, .ref aRU, .int (nI cnt)]))] t.heap ∧ va_K (dC, dI) vwCl [(cyI, .int), (cyZ, .boolean), (cyJ, .long), (cyD, .double)] t ∧ va_D (va_A [(aS, .inr (4, [.ref aH, .ref aR, .ref aSN])), (aSN, .inl (cyI, 20, .inl w)), (aR, .inr (1, [.ref aRF, .ref aRT, .ref aRN, .ref aRL, .ref aRU, .int (nI cnt)]))] zH) [(aS, .inr (4, [.ref aH, .ref aR, .ref aSN])), (aSN, .inl (cyI, 20, .inl ((grS w x cnt).1))), (aR, .inr (1, [.ref aRF, .ref aRT, .ref aRN, .ref aRL, .ref aRU, .int (nI cnt)]))]) (va_A [(aS, .inr (4, [.ref aH, .ref aR, .ref aSN])), (aSN, .inl (cyI, 20, .inl w)), (aR, .inr (1, [.ref aRF, .ref aRT, .ref aRN, .ref aRL, .ref aRU, .int (nI cnt)]))] zH)) 0 0 (va_A [(aS, .inr (4, [.ref aH, .ref aR, .ref aSN])), (aSN, .inl (cyI, 20, .inl w)), (aR, .inr (1, [.ref aRF, .ref aRT, .ref aRN, .ref aRL, .ref aRU, .int (nI cnt)]))] zH) := by
  refine Met.ofW (cc := cX4_giveRest) (maxL := 4) (ret := none) (by decide) rfl ?_
  intro pM eM s mM args blM mtM cM s₁ BM hml hv
  obtain ⟨rfl, hsz, hP, hK, hD0⟩ := hv
  have hx := BM.exec
  have hb := BM.bytes
  have hr := BM.returns
  have hts := atoms_spec (ws := wsX4_giveRest) BM.pre
  have hown : s.vm.findClass RX4 = some mM.cls := findClass_of_methodNamed BM.named
  have hlocks := BM.notSynchronized
  have w0 := hts (.fieldLink RX4 25 "DimensionChecker$Shares" "rows" "LDimensionChecker$Dimensions;") (by decide +kernel)
  have w1 := hts (.fieldLink RX4 53 "DimensionChecker$Dimensions" "count" "I") (by decide +kernel)
  have w2 := hts (.fieldLink RX4 9 "DimensionChecker$Shares" "newWidth" "[I") (by decide +kernel)
  have iX4 : ∀ w ∈ wsX40, w ∈ wsX4_giveRest := by decide +kernel
  have iX1 : ∀ w ∈ wsX10, w ∈ wsX4_giveRest := by decide +kernel
  subst hsz
  have hD := hD0.self (sz := s.heap.size)
  obtain ⟨Q, hQe⟩ : ∃ Q : State → Prop, Q = MQ blM (va_Qv (fun _ : Unit => True) (fun _ t => va_P (dC, dI) vwCl [(aS, .inr (4, [.ref aH, .ref aR, .ref aSN])), (aSN, .inl (cyI, 20, .inl ((grS w x cnt).1))), (aR, .inr (1, [.ref aRF, .ref aRT, .ref aRN, .ref aRL, .ref aRU, .int (nI cnt)]))] t.heap ∧ va_K (dC, dI) vwCl [(cyI, .int), (cyZ, .boolean), (cyJ, .long), (cyD, .double)] t ∧ va_D (va_A [(aS, .inr (4, [.ref aH, .ref aR, .ref aSN])), (aSN, .inl (cyI, 20, .inl w)), (aR, .inr (1, [.ref aRF, .ref aRT, .ref aRN, .ref aRL, .ref aRU, .int (nI cnt)]))] s.heap.size) [(aS, .inr (4, [.ref aH, .ref aR, .ref aSN])), (aSN, .inl (cyI, 20, .inl ((grS w x cnt).1))), (aR, .inr (1, [.ref aRF, .ref aRT, .ref aRN, .ref aRL, .ref aRU, .int (nI cnt)]))]) (va_A [(aS, .inr (4, [.ref aH, .ref aR, .ref aSN])), (aSN, .inl (cyI, 20, .inl w)), (aR, .inr (1, [.ref aRF, .ref aRT, .ref aRN, .ref aRL, .ref aRU, .int (nI cnt)]))] s.heap.size)) ([.ref aS, .int x] : List Value).toArray s 0 0 (va_A [(aS, .inr (4, [.ref aH, .ref aR, .ref aSN])), (aSN, .inl (cyI, 20, .inl w)), (aR, .inr (1, [.ref aRF, .ref aRT, .ref aRN, .ref aRL, .ref aRU, .int (nI cnt)]))] s.heap.size) := ⟨_, rfl⟩
  rw [← hQe]
  generalize hAe : va_A [(aS, .inr (4, [.ref aH, .ref aR, .ref aSN])), (aSN, .inl (cyI, 20, .inl w)), (aR, .inr (1, [.ref aRF, .ref aRT, .ref aRN, .ref aRL, .ref aRU, .int (nI cnt)]))] s.heap.size = A at hD hQe
  have hA : ∀ q : Nat, s.heap.size ≤ q → A q := fun q h => by rw [← hAe]; exact Or.inr h
  obtain ⟨H, hHe⟩ : ∃ H : Heap, H = s.heap := ⟨_, rfl⟩
  have hS : va_S A s.heap H [] := by rw [hHe]; exact va_S.rf
  rw [← hHe] at hP ⊢
  have hl := lv_entry ([.ref aS, .int x]) (n := 4) (Nat.le_of_ble_eq_true rfl)
  rw [lg_entry_eq]
  generalize (lg_sl ([.ref aS, .int x]) ++ List.replicate (4 - (lg_sl ([.ref aS, .int x])).length) Slot.unset).toArray = ls at hl ⊢
  have hl : lv_has ls 4 [(0, .ref aS), (1, .int x)] := hl
  refine lv_iload_n hx hb dX4_giveRest_0 rfl (lv_at hl 1 rfl) ?_
  refine lv_istore_n (lv' := [(2, .int x), (0, .ref aS), (1, .int x)]) hx hb dX4_giveRest_1 rfl hl (by decide) rfl (fun ls hl => ?_)
  refine lv_iconst (v := 0) hx hb dX4_giveRest_2 (by decide) ?_
  refine lv_istore_n (lv' := [(3, .int 0), (2, .int x), (0, .ref aS), (1, .int x)]) hx hb dX4_giveRest_3 rfl hl (by decide) rfl (fun ls hl => ?_)
  have k4 : ∀ (fuel : Nat) (i : Nat) (hfuel : cnt - i < fuel) (hi : i ≤ cnt) (H : Heap) (locs : List Loc) (ls : Array Slot), va_P (dC, dI) vwCl [(aS, .inr (4, [.ref aH, .ref aR, .ref aSN])), (aSN, .inl (cyI, 20, .inl ((grS w x i).1))), (aR, .inr (1, [.ref aRF, .ref aRT, .ref aRN, .ref aRL, .ref aRU, .int (nI cnt)]))] H → va_D A [(aS, .inr (4, [.ref aH, .ref aR, .ref aSN])), (aSN, .inl (cyI, 20, .inl ((grS w x i).1))), (aR, .inr (1, [.ref aRF, .ref aRT, .ref aRN, .ref aRL, .ref aRU, .int (nI cnt)]))] → va_S A s.heap H locs → lv_has ls 4 [(0, .ref aS), (1, .int x), (2, .int ((grS w x i).2)), (3, .int (nI i))] → W pM l eM (headSpec wsX4_giveRest ({ frames := 0, cells := 0, slots := 0, locals := 0 } : Room)).room s mM ([.ref aS, .int x] : List Value).toArray blM mtM cM H locs 0 0 Q (F0 mM 4 ls []) := by
    intro fuel
    induction fuel with
    | zero => intro i hfuel; exact absurd hfuel (Nat.not_lt_zero _)
    | succ fuel ih4 =>
      intro i hfuel hi H locs ls hP hD hS hl
      refine lv_iload_n hx hb dX4_giveRest_4 rfl (lv_at hl 3 rfl) ?_
      refine lv_aload_n hx hb dX4_giveRest_5 rfl (lv_at hl 0 rfl) ?_
      refine va_get (D := (dC, dI)) (ci := 4) (v := .ref aR) (C := RX4) (T := TX4) (N := 3) hx hb hts iX4 hown hK hP 0 rfl rfl 1 (by decide) w0 (fun _ h9 => h9) rfl dX4_giveRest_6 ?_
      refine va_get (D := (dC, dI)) (ci := 1) (v := .int (nI cnt)) (C := RX1) (T := TX1) (N := 6) hx hb hts iX1 hown hK hP 2 rfl rfl 5 (by decide) w1 (fun _ h9 => h9) rfl dX4_giveRest_9 ?_
      refine lv_icmp_ge (tgt := 48) hx hb dX4_giveRest_12 (by decide) (fun c12 => ?_) (fun c12 => ?_)
      · have c12 := n_le (a := cnt) (b := i) (by omega) (by omega) c12
        have hfin : grS w x cnt = grS w x i := by rw [show i = cnt by omega]
        have q1 : ((grS w x cnt).1) = ((grS w x i).1) := by rw [hfin]
        have hP9 : va_P (dC, dI) vwCl [(aS, .inr (4, [.ref aH, .ref aR, .ref aSN])), (aSN, .inl (cyI, 20, .inl ((grS w x cnt).1))), (aR, .inr (1, [.ref aRF, .ref aRT, .ref aRN, .ref aRL, .ref aRU, .int (nI cnt)]))] H := by first | (rw [q1]; exact hP.sub [0, 1, 2] rfl) | (simp only [q1]; exact hP.sub [0, 1, 2] rfl) | exact hP.sub [0, 1, 2] rfl
        have hD9 : va_D A [(aS, .inr (4, [.ref aH, .ref aR, .ref aSN])), (aSN, .inl (cyI, 20, .inl ((grS w x cnt).1))), (aR, .inr (1, [.ref aRF, .ref aRT, .ref aRN, .ref aRL, .ref aRU, .int (nI cnt)]))] := by first | (rw [q1]; exact hD.sub [0, 1, 2] (by decide) rfl) | (simp only [q1]; exact hD.sub [0, 1, 2] (by decide) rfl) | exact hD.sub [0, 1, 2] (by decide) rfl
        subst hAe
        subst hQe
        exact W.vret hx hb hr (fun t ht hW => ⟨⟨(), rfl, trivial, by rw [ht]; exact hP9, va_K.moved hW.alike hK, hD9⟩, hS.F ht⟩) hS.2.2 dX4_giveRest_48
      · have c12 := n_nle (a := cnt) (b := i) (by omega) (by omega) c12
        refine lv_iload_n hx hb dX4_giveRest_15 rfl (lv_at hl 2 rfl) ?_
        refine lv_if_le (tgt := 48) hx hb dX4_giveRest_16 (by decide) (fun c16 => ?_) (fun c16 => ?_)
        · have hfin : grS w x cnt = grS w x i := grS_stop c16 hi
          have q2 : ((grS w x cnt).1) = ((grS w x i).1) := by rw [hfin]
          have hP9 : va_P (dC, dI) vwCl [(aS, .inr (4, [.ref aH, .ref aR, .ref aSN])), (aSN, .inl (cyI, 20, .inl ((grS w x cnt).1))), (aR, .inr (1, [.ref aRF, .ref aRT, .ref aRN, .ref aRL, .ref aRU, .int (nI cnt)]))] H := by first | (rw [q2]; exact hP.sub [0, 1, 2] rfl) | (simp only [q2]; exact hP.sub [0, 1, 2] rfl) | exact hP.sub [0, 1, 2] rfl
          have hD9 : va_D A [(aS, .inr (4, [.ref aH, .ref aR, .ref aSN])), (aSN, .inl (cyI, 20, .inl ((grS w x cnt).1))), (aR, .inr (1, [.ref aRF, .ref aRT, .ref aRN, .ref aRL, .ref aRU, .int (nI cnt)]))] := by first | (rw [q2]; exact hD.sub [0, 1, 2] (by decide) rfl) | (simp only [q2]; exact hD.sub [0, 1, 2] (by decide) rfl) | exact hD.sub [0, 1, 2] (by decide) rfl
          subst hAe
          subst hQe
          exact W.vret hx hb hr (fun t ht hW => ⟨⟨(), rfl, trivial, by rw [ht]; exact hP9, va_K.moved hW.alike hK, hD9⟩, hS.F ht⟩) hS.2.2 dX4_giveRest_48
        · skip
          refine lv_aload_n hx hb dX4_giveRest_19 rfl (lv_at hl 0 rfl) ?_
          refine va_get (D := (dC, dI)) (ci := 4) (v := .ref aSN) (C := RX4) (T := TX4) (N := 3) hx hb hts iX4 hown hK hP 0 rfl rfl 2 (by decide) w2 (fun _ h9 => h9) rfl dX4_giveRest_20 ?_
          refine lv_iload_n hx hb dX4_giveRest_23 rfl (lv_at hl 3 rfl) ?_
          have h3 : vp_in (nI i) 20 := by first | exact vp_in_nI (by omega) (by omega) | assumption
          refine va_iald hx hb hK hP 1 0 rfl rfl h3 dX4_giveRest_24 ?_
          refine lv_topi (fun x4 e5 => ?_)
          obtain rfl : x4 = (((grS w x i).1) i) := by rw [e5, nI_clamp (by omega)]
          clear e5
          refine lv_iconst (v := (-1)) hx hb dX4_giveRest_25 (by decide) ?_
          refine lv_icmp_eq (tgt := 42) hx hb dX4_giveRest_26 (by decide) (fun c26 => ?_) (fun c26 => ?_)
          · skip
            refine lv_iinc (v := nI (i + 1)) (lv' := [(3, .int (nI (i + 1))), (0, .ref aS), (1, .int x), (2, .int ((grS w x i).2))]) hx hb dX4_giveRest_42 hl (k := 3) rfl (nI_add i 1) (by decide) rfl (fun ls hl => ?_)
            refine lv_goto (tgt := 4) hx hb dX4_giveRest_45 (by decide) ?_
            have q6 : ((grS w x (i + 1)).1) = ((grS w x i).1) := by simp [grS, *]
            have q7 : ((grS w x (i + 1)).2) = ((grS w x i).2) := by simp [grS, *]
            exact ih4 (i + 1) (by omega) (by first | assumption | omega) _ _ _ (by first | (rw [q6]; exact hP) | (simp only [q6]; exact hP) | exact hP) (by first | (rw [q6]; exact hD) | (simp only [q6]; exact hD) | exact hD) hS (by first | (rw [q7]; exact lv_sub hl [1, 2, 3, 0] rfl) | (simp only [q7]; exact lv_sub hl [1, 2, 3, 0] rfl) | exact lv_sub hl [1, 2, 3, 0] rfl)
          · skip
            refine lv_aload_n hx hb dX4_giveRest_29 rfl (lv_at hl 0 rfl) ?_
            refine va_get (D := (dC, dI)) (ci := 4) (v := .ref aSN) (C := RX4) (T := TX4) (N := 3) hx hb hts iX4 hown hK hP 0 rfl rfl 2 (by decide) w2 (fun _ h9 => h9) rfl dX4_giveRest_30 ?_
            refine lv_iload_n hx hb dX4_giveRest_33 rfl (lv_at hl 3 rfl) ?_
            refine lv_dup2_11 hx hb dX4_giveRest_34 rfl rfl ?_
            have h8 : vp_in (nI i) 20 := by first | exact vp_in_nI (by omega) (by omega) | assumption
            refine va_iald hx hb hK hP 1 0 rfl rfl h8 dX4_giveRest_35 ?_
            refine lv_topi (fun x9 e10 => ?_)
            obtain rfl : x9 = (((grS w x i).1) i) := by rw [e10, nI_clamp (by omega)]
            clear e10
            refine lv_iconst (v := 1) hx hb dX4_giveRest_36 (by decide) ?_
            refine lv_iadd hx hb dX4_giveRest_37 ?_
            have h11 : vp_in (nI i) 20 := by first | exact vp_in_nI (by omega) (by omega) | assumption
            refine va_iast hx hb hK hP hD hS 1 0 rfl rfl h11 dX4_giveRest_38 (fun H locs hP hD hS => ?_)
            rw [nI_clamp (by omega)] at hP hD
            have hP : va_P (dC, dI) vwCl [(aS, .inr (4, [.ref aH, .ref aR, .ref aSN])), (aSN, .inl (cyI, 20, .inl (upd ((grS w x i).1) i ((((grS w x i).1) i) + 1)))), (aR, .inr (1, [.ref aRF, .ref aRT, .ref aRN, .ref aRL, .ref aRU, .int (nI cnt)]))] H := hP
            have hD : va_D A [(aS, .inr (4, [.ref aH, .ref aR, .ref aSN])), (aSN, .inl (cyI, 20, .inl (upd ((grS w x i).1) i ((((grS w x i).1) i) + 1)))), (aR, .inr (1, [.ref aRF, .ref aRT, .ref aRN, .ref aRL, .ref aRU, .int (nI cnt)]))] := hD
            refine lv_iinc (v := ((grS w x i).2) + (-1)) (lv' := [(2, .int (((grS w x i).2) + (-1))), (0, .ref aS), (1, .int x), (3, .int (nI i))]) hx hb dX4_giveRest_39 hl (k := 2) rfl (rfl) (by decide) rfl (fun ls hl => ?_)
            refine lv_iinc (v := nI (i + 1)) (lv' := [(3, .int (nI (i + 1))), (2, .int (((grS w x i).2) + (-1))), (0, .ref aS), (1, .int x)]) hx hb dX4_giveRest_42 hl (k := 3) rfl (nI_add i 1) (by decide) rfl (fun ls hl => ?_)
            refine lv_goto (tgt := 4) hx hb dX4_giveRest_45 (by decide) ?_
            have q12 : ((grS w x (i + 1)).1) = (upd ((grS w x i).1) i ((((grS w x i).1) i) + 1)) := by simp [grS, *]
            have q13 : ((grS w x (i + 1)).2) = (((grS w x i).2) + (-1)) := by simp [grS, *]
            exact ih4 (i + 1) (by omega) (by first | assumption | omega) _ _ _ (by first | (rw [q12]; exact hP) | (simp only [q12]; exact hP) | exact hP) (by first | (rw [q12]; exact hD) | (simp only [q12]; exact hD) | exact hD) hS (by first | (rw [q13]; exact lv_sub hl [2, 3, 1, 0] rfl) | (simp only [q13]; exact lv_sub hl [2, 3, 1, 0] rfl) | exact lv_sub hl [2, 3, 1, 0] rfl)
  have q14 : ((grS w x 0).1) = w := by rfl
  have q15 : ((grS w x 0).2) = x := by rfl
  have q16 : (nI 0) = 0 := by first | rfl | simp [*] | (simp only [*]; done)
  exact k4 (cnt - 0 + 1) 0 (Nat.lt_succ_self _) (by first | assumption | omega) _ _ _ (by first | (rw [q14]; exact hP) | (simp only [q14]; exact hP) | exact hP) (by first | (rw [q14]; exact hD) | (simp only [q14]; exact hD) | exact hD) hS (by first | (rw [q15, q16]; exact lv_sub hl [2, 3, 1, 0] rfl) | (simp only [q15, q16]; exact lv_sub hl [2, 3, 1, 0] rfl) | exact lv_sub hl [2, 3, 1, 0] rfl)
set_option maxHeartbeats 4000000 in
set_option maxRecDepth 100000 in
theorem c_X4_divide (l : Launch) (dC : Nat → ClassId) (dI : Nat → Nat → Nat) (cyI cyZ cyJ cyD : ClassId) (aS aH aR aSN aD aHW aHL aRF aRT aRN aRL aRU : Nat) (zH : Nat) (w : Nat → Int32) (len : Nat) (hN : Int32) (hL : Int32) (hG : Int32) (L : Nat → Nat) (lo : Nat → Int32) (up : Nat → Int32) (cnt : Nat) (x : Int32) (hc : cnt ≤ 20) (hlen : len ≤ 12) (hL0 : ∀ k_q, k_q < len → L k_q < 20) : Met l yX4_divide wsX4_divide ({ frames := 2, cells := 0, slots := 0, locals := 43 } : Room) (va_Pc [.ref aS, .int x] (fun U => U.heap.size = zH ∧ va_P (dC, dI) vwCl [(aS, .inr (4, [.ref aH, .ref aR, .ref aSN])), (aSN, .inl (cyI, 20, .inl w)), (aH, .inr (0, [.ref aD, .ref aR, .ref aHW, .ref aHL, .int (nI len), .int hN, .int hL, .int hG])), (aHL, .inl (cyI, 12, .inl (fun j_ => nI (L j_)))), (aR, .inr (1, [.ref aRF, .ref aRT, .ref aRN, .ref aRL, .ref aRU, .int (nI cnt)])), (aRL, .inl (cyI, 20, .inl lo)), (aRU, .inl (cyI, 20, .inl up))] U.heap ∧ va_K (dC, dI) vwCl [(cyI, .int), (cyZ, .boolean), (cyJ, .long), (cyD, .double)] U ∧ va_D (fun _ => True) [(aS, .inr (4, [.ref aH, .ref aR, .ref aSN])), (aSN, .inl (cyI, 20, .inl w)), (aH, .inr (0, [.ref aD, .ref aR, .ref aHW, .ref aHL, .int (nI len), .int hN, .int hL, .int hG])), (aHL, .inl (cyI, 12, .inl (fun j_ => nI (L j_)))), (aR, .inr (1, [.ref aRF, .ref aRT, .ref aRN, .ref aRL, .ref aRU, .int (nI cnt)])), (aRL, .inl (cyI, 20, .inl lo)), (aRU, .inl (cyI, 20, .inl up))])) (va_Qi (fun (r : Int32) (_ : Unit) => r = bI (decide (¬ wsm L lo up len = 0))) (fun _ t => va_P (dC, dI) vwCl [(aS, .inr (4, [.ref aH, .ref aR, .ref aSN])), (aSN, .inl (cyI, 20, .inl (if wsm L lo up len = 0 then w else (grS (dvS L lo up x (wsm L lo up len) (flI w (-1) 20) len).1 (dvS L lo up x (wsm L lo up len) (flI w (-1) 20) len).2 cnt).1))), (aH, .inr (0, [.ref aD, .ref aR, .ref aHW, .ref aHL, .int (nI len), .int hN, .int hL, .int hG])), (aHL, .inl (cyI, 12, .inl (fun j_ => nI (L j_)))), (aR, .inr (1, [.ref aRF, .ref aRT, .ref aRN, .ref aRL, .ref aRU, .int (nI cnt)])), (aRL, .inl (cyI, 20, .inl lo)), (aRU, .inl (cyI, 20, .inl up))] t.heap ∧ va_K (dC, dI) vwCl [(cyI, .int), (cyZ, .boolean), (cyJ, .long), (cyD, .double)] t ∧ va_D (va_A [(aS, .inr (4, [.ref aH, .ref aR, .ref aSN])), (aSN, .inl (cyI, 20, .inl w)), (aH, .inr (0, [.ref aD, .ref aR, .ref aHW, .ref aHL, .int (nI len), .int hN, .int hL, .int hG])), (aHL, .inl (cyI, 12, .inl (fun j_ => nI (L j_)))), (aR, .inr (1, [.ref aRF, .ref aRT, .ref aRN, .ref aRL, .ref aRU, .int (nI cnt)])), (aRL, .inl (cyI, 20, .inl lo)), (aRU, .inl (cyI, 20, .inl up))] zH) [(aS, .inr (4, [.ref aH, .ref aR, .ref aSN])), (aSN, .inl (cyI, 20, .inl (if wsm L lo up len = 0 then w else (grS (dvS L lo up x (wsm L lo up len) (flI w (-1) 20) len).1 (dvS L lo up x (wsm L lo up len) (flI w (-1) 20) len).2 cnt).1))), (aH, .inr (0, [.ref aD, .ref aR, .ref aHW, .ref aHL, .int (nI len), .int hN, .int hL, .int hG])), (aHL, .inl (cyI, 12, .inl (fun j_ => nI (L j_)))), (aR, .inr (1, [.ref aRF, .ref aRT, .ref aRN, .ref aRL, .ref aRU, .int (nI cnt)])), (aRL, .inl (cyI, 20, .inl lo)), (aRU, .inl (cyI, 20, .inl up))]) (va_A [(aS, .inr (4, [.ref aH, .ref aR, .ref aSN])), (aSN, .inl (cyI, 20, .inl w)), (aH, .inr (0, [.ref aD, .ref aR, .ref aHW, .ref aHL, .int (nI len), .int hN, .int hL, .int hG])), (aHL, .inl (cyI, 12, .inl (fun j_ => nI (L j_)))), (aR, .inr (1, [.ref aRF, .ref aRT, .ref aRN, .ref aRL, .ref aRU, .int (nI cnt)])), (aRL, .inl (cyI, 20, .inl lo)), (aRU, .inl (cyI, 20, .inl up))] zH)) 0 0 (va_A [(aS, .inr (4, [.ref aH, .ref aR, .ref aSN])), (aSN, .inl (cyI, 20, .inl w)), (aH, .inr (0, [.ref aD, .ref aR, .ref aHW, .ref aHL, .int (nI len), .int hN, .int hL, .int hG])), (aHL, .inl (cyI, 12, .inl (fun j_ => nI (L j_)))), (aR, .inr (1, [.ref aRF, .ref aRT, .ref aRN, .ref aRL, .ref aRU, .int (nI cnt)])), (aRL, .inl (cyI, 20, .inl lo)), (aRU, .inl (cyI, 20, .inl up))] zH) := by
  refine Met.ofW (cc := cX4_divide) (maxL := 6) (ret := (some .boolean)) (by decide) rfl ?_
  intro pM eM s mM args blM mtM cM s₁ BM hml hv
  obtain ⟨rfl, hsz, hP, hK, hD0⟩ := hv
  have hx := BM.exec
  have hb := BM.bytes
  have hr := BM.returns
  have hts := atoms_spec (ws := wsX4_divide) BM.pre
  have hown : s.vm.findClass RX4 = some mM.cls := findClass_of_methodNamed BM.named
  have hlocks := BM.notSynchronized
  have w0 := hts (.fieldLink RX4 15 "DimensionChecker$Shares" "chain" "LDimensionChecker$Chain;") (by decide +kernel)
  have w1 := hts (.fieldLink RX4 9 "DimensionChecker$Shares" "newWidth" "[I") (by decide +kernel)
  have w2 := hts (.fieldLink RX4 36 "DimensionChecker$Chain" "length" "I") (by decide +kernel)
  have w3 := hts (.fieldLink RX4 40 "DimensionChecker$Chain" "links" "[I") (by decide +kernel)
  have w4 := hts (.fieldLink RX4 25 "DimensionChecker$Shares" "rows" "LDimensionChecker$Dimensions;") (by decide +kernel)
  have iX4 : ∀ w ∈ wsX40, w ∈ wsX4_divide := by decide +kernel
  have iX0 : ∀ w ∈ wsX00, w ∈ wsX4_divide := by decide +kernel
  subst hsz
  have hD := hD0.self (sz := s.heap.size)
  obtain ⟨Q, hQe⟩ : ∃ Q : State → Prop, Q = MQ blM (va_Qi (fun (r : Int32) (_ : Unit) => r = bI (decide (¬ wsm L lo up len = 0))) (fun _ t => va_P (dC, dI) vwCl [(aS, .inr (4, [.ref aH, .ref aR, .ref aSN])), (aSN, .inl (cyI, 20, .inl (if wsm L lo up len = 0 then w else (grS (dvS L lo up x (wsm L lo up len) (flI w (-1) 20) len).1 (dvS L lo up x (wsm L lo up len) (flI w (-1) 20) len).2 cnt).1))), (aH, .inr (0, [.ref aD, .ref aR, .ref aHW, .ref aHL, .int (nI len), .int hN, .int hL, .int hG])), (aHL, .inl (cyI, 12, .inl (fun j_ => nI (L j_)))), (aR, .inr (1, [.ref aRF, .ref aRT, .ref aRN, .ref aRL, .ref aRU, .int (nI cnt)])), (aRL, .inl (cyI, 20, .inl lo)), (aRU, .inl (cyI, 20, .inl up))] t.heap ∧ va_K (dC, dI) vwCl [(cyI, .int), (cyZ, .boolean), (cyJ, .long), (cyD, .double)] t ∧ va_D (va_A [(aS, .inr (4, [.ref aH, .ref aR, .ref aSN])), (aSN, .inl (cyI, 20, .inl w)), (aH, .inr (0, [.ref aD, .ref aR, .ref aHW, .ref aHL, .int (nI len), .int hN, .int hL, .int hG])), (aHL, .inl (cyI, 12, .inl (fun j_ => nI (L j_)))), (aR, .inr (1, [.ref aRF, .ref aRT, .ref aRN, .ref aRL, .ref aRU, .int (nI cnt)])), (aRL, .inl (cyI, 20, .inl lo)), (aRU, .inl (cyI, 20, .inl up))] s.heap.size) [(aS, .inr (4, [.ref aH, .ref aR, .ref aSN])), (aSN, .inl (cyI, 20, .inl (if wsm L lo up len = 0 then w else (grS (dvS L lo up x (wsm L lo up len) (flI w (-1) 20) len).1 (dvS L lo up x (wsm L lo up len) (flI w (-1) 20) len).2 cnt).1))), (aH, .inr (0, [.ref aD, .ref aR, .ref aHW, .ref aHL, .int (nI len), .int hN, .int hL, .int hG])), (aHL, .inl (cyI, 12, .inl (fun j_ => nI (L j_)))), (aR, .inr (1, [.ref aRF, .ref aRT, .ref aRN, .ref aRL, .ref aRU, .int (nI cnt)])), (aRL, .inl (cyI, 20, .inl lo)), (aRU, .inl (cyI, 20, .inl up))]) (va_A [(aS, .inr (4, [.ref aH, .ref aR, .ref aSN])), (aSN, .inl (cyI, 20, .inl w)), (aH, .inr (0, [.ref aD, .ref aR, .ref aHW, .ref aHL, .int (nI len), .int hN, .int hL, .int hG])), (aHL, .inl (cyI, 12, .inl (fun j_ => nI (L j_)))), (aR, .inr (1, [.ref aRF, .ref aRT, .ref aRN, .ref aRL, .ref aRU, .int (nI cnt)])), (aRL, .inl (cyI, 20, .inl lo)), (aRU, .inl (cyI, 20, .inl up))] s.heap.size)) ([.ref aS, .int x] : List Value).toArray s 0 0 (va_A [(aS, .inr (4, [.ref aH, .ref aR, .ref aSN])), (aSN, .inl (cyI, 20, .inl w)), (aH, .inr (0, [.ref aD, .ref aR, .ref aHW, .ref aHL, .int (nI len), .int hN, .int hL, .int hG])), (aHL, .inl (cyI, 12, .inl (fun j_ => nI (L j_)))), (aR, .inr (1, [.ref aRF, .ref aRT, .ref aRN, .ref aRL, .ref aRU, .int (nI cnt)])), (aRL, .inl (cyI, 20, .inl lo)), (aRU, .inl (cyI, 20, .inl up))] s.heap.size) := ⟨_, rfl⟩
  rw [← hQe]
  generalize hAe : va_A [(aS, .inr (4, [.ref aH, .ref aR, .ref aSN])), (aSN, .inl (cyI, 20, .inl w)), (aH, .inr (0, [.ref aD, .ref aR, .ref aHW, .ref aHL, .int (nI len), .int hN, .int hL, .int hG])), (aHL, .inl (cyI, 12, .inl (fun j_ => nI (L j_)))), (aR, .inr (1, [.ref aRF, .ref aRT, .ref aRN, .ref aRL, .ref aRU, .int (nI cnt)])), (aRL, .inl (cyI, 20, .inl lo)), (aRU, .inl (cyI, 20, .inl up))] s.heap.size = A at hD hQe
  have hA : ∀ q : Nat, s.heap.size ≤ q → A q := fun q h => by rw [← hAe]; exact Or.inr h
  obtain ⟨H, hHe⟩ : ∃ H : Heap, H = s.heap := ⟨_, rfl⟩
  have hS : va_S A s.heap H [] := by rw [hHe]; exact va_S.rf
  rw [← hHe] at hP ⊢
  have hl := lv_entry ([.ref aS, .int x]) (n := 6) (Nat.le_of_ble_eq_true rfl)
  rw [lg_entry_eq]
  generalize (lg_sl ([.ref aS, .int x]) ++ List.replicate (6 - (lg_sl ([.ref aS, .int x])).length) Slot.unset).toArray = ls at hl ⊢
  have hl : lv_has ls 6 [(0, .ref aS), (1, .int x)] := hl
  refine lv_aload_n hx hb dX4_divide_0 rfl (lv_at hl 0 rfl) ?_
  refine va_get (D := (dC, dI)) (ci := 4) (v := .ref aH) (C := RX4) (T := TX4) (N := 3) hx hb hts iX4 hown hK hP 0 rfl rfl 0 (by decide) w0 (fun _ h9 => h9) rfl dX4_divide_1 ?_
  have g1 : len ≤ 12 := by first | assumption | omega | exact vp_in_nI (by omega) (by omega)
  have g2 : ∀ k_q, k_q < len → L k_q < 20 := by first | assumption | omega | exact vp_in_nI (by omega) (by omega)
  have hPc := hP.sub (ws' := [(aH, .inr (0, [.ref aD, .ref aR, .ref aHW, .ref aHL, .int (nI len), .int hN, .int hL, .int hG])), (aHL, .inl (cyI, 12, .inl (fun j_ => nI (L j_)))), (aR, .inr (1, [.ref aRF, .ref aRT, .ref aRN, .ref aRL, .ref aRU, .int (nI cnt)])), (aRL, .inl (cyI, 20, .inl lo)), (aRU, .inl (cyI, 20, .inl up))]) [2, 3, 4, 5, 6] rfl
  have hDc := hD.sub (ws' := [(aH, .inr (0, [.ref aD, .ref aR, .ref aHW, .ref aHL, .int (nI len), .int hN, .int hL, .int hG])), (aHL, .inl (cyI, 12, .inl (fun j_ => nI (L j_)))), (aR, .inr (1, [.ref aRF, .ref aRT, .ref aRN, .ref aRL, .ref aRU, .int (nI cnt)])), (aRL, .inl (cyI, 20, .inl lo)), (aRU, .inl (cyI, 20, .inl up))]) [2, 3, 4, 5, 6] (by decide) rfl
  have hFc := va_free (wc := [(aH, .inr (0, [.ref aD, .ref aR, .ref aHW, .ref aHL, .int (nI len), .int hN, .int hL, .int hG])), (aHL, .inl (cyI, 12, .inl (fun j_ => nI (L j_)))), (aR, .inr (1, [.ref aRF, .ref aRT, .ref aRN, .ref aRL, .ref aRU, .int (nI cnt)])), (aRL, .inl (cyI, 20, .inl lo)), (aRU, .inl (cyI, 20, .inl up))]) hD hS hA [2, 3, 4, 5, 6] rfl
  refine va_calli (va_runV (As := []) (rest := []) ⟨hx, hb, hml, hown, hts⟩ (c_X0_widthSum l dC dI cyI cyZ cyJ cyD aH aD aR aHW aHL aRF aRT aRN aRL aRU H.size len hN hL hG L lo up cnt g1 g2) (cwV 0 hts gX4_divide_X0_widthSum rfl rfl rfl (by decide +kernel) ⟨Nat.le_of_ble_eq_true rfl, Nat.le_of_ble_eq_true rfl⟩) ⟨fun a U g mk q => by obtain ⟨q0, q1, qP, qK, qD⟩ := q; exact ⟨q0, q1, qP, va_K.moved (u := U) (U := U.calling g mk a) (Vm.Alike.refl U.vm) qK, qD⟩, va_recv hK hPc (ci := 0) (q0 := 0) rfl rfl, fun U hU hW => ⟨rfl, by rw [hU], by rw [hU]; exact hPc, va_K.moved hW.alike hK, hDc.weaken (fun _ _ _ _ => trivial)⟩⟩ rfl rfl hl.1 rfl (lv_room (Nat.le_of_ble_eq_true rfl)) dX4_divide_4 ⟨Nat.le_of_ble_eq_true rfl, Nat.le_of_ble_eq_true rfl⟩) hS (fun q _ h => hFc q h) hFc (fun r u t H1 locs ht hvm hw hB hz1 hk1 hS => ?_)
  obtain rfl := hw
  obtain ⟨hP1, hK1, hD1⟩ := hB
  rw [ht] at hP1
  obtain ⟨hP, hD⟩ := va_join (wr := [(aS, .inr (4, [.ref aH, .ref aR, .ref aSN])), (aSN, .inl (cyI, 20, .inl w))]) (w1 := [(aH, .inr (0, [.ref aD, .ref aR, .ref aHW, .ref aHL, .int (nI len), .int hN, .int hL, .int hG])), (aHL, .inl (cyI, 12, .inl (fun j_ => nI (L j_)))), (aR, .inr (1, [.ref aRF, .ref aRT, .ref aRN, .ref aRL, .ref aRU, .int (nI cnt)])), (aRL, .inl (cyI, 20, .inl lo)), (aRU, .inl (cyI, 20, .inl up))]) hP hD [2, 3, 4, 5, 6] [0, 1] rfl rfl (by decide) (by decide) hk1 hFc hP1 hD1
  clear hP1 hD1 hK1 hPc hDc hFc hk1 hz1 hvm ht u t
  generalize H1 = H at hP hS ⊢
  have hP : va_P (dC, dI) vwCl [(aS, .inr (4, [.ref aH, .ref aR, .ref aSN])), (aSN, .inl (cyI, 20, .inl w)), (aH, .inr (0, [.ref aD, .ref aR, .ref aHW, .ref aHL, .int (nI len), .int hN, .int hL, .int hG])), (aHL, .inl (cyI, 12, .inl (fun j_ => nI (L j_)))), (aR, .inr (1, [.ref aRF, .ref aRT, .ref aRN, .ref aRL, .ref aRU, .int (nI cnt)])), (aRL, .inl (cyI, 20, .inl lo)), (aRU, .inl (cyI, 20, .inl up))] H := hP
  have hD : va_D A [(aS, .inr (4, [.ref aH, .ref aR, .ref aSN])), (aSN, .inl (cyI, 20, .inl w)), (aH, .inr (0, [.ref aD, .ref aR, .ref aHW, .ref aHL, .int (nI len), .int hN, .int hL, .int hG])), (aHL, .inl (cyI, 12, .inl (fun j_ => nI (L j_)))), (aR, .inr (1, [.ref aRF, .ref aRT, .ref aRN, .ref aRL, .ref aRU, .int (nI cnt)])), (aRL, .inl (cyI, 20, .inl lo)), (aRU, .inl (cyI, 20, .inl up))] := hD
  refine lv_istore_n (lv' := [(2, .int (wsm L lo up len)), (0, .ref aS), (1, .int x)]) hx hb dX4_divide_7 rfl hl (by decide) rfl (fun ls hl => ?_)
  refine lv_iload_n hx hb dX4_divide_8 rfl (lv_at hl 0 rfl) ?_
  refine lv_if_ne (tgt := 14) hx hb dX4_divide_9 (by decide) (fun c9 => ?_) (fun c9 => ?_)
  · skip
    refine lv_aload_n hx hb dX4_divide_14 rfl (lv_at hl 1 rfl) ?_
    refine va_get (D := (dC, dI)) (ci := 4) (v := .ref aSN) (C := RX4) (T := TX4) (N := 3) hx hb hts iX4 hown hK hP 0 rfl rfl 2 (by decide) w1 (fun _ h9 => h9) rfl dX4_divide_15 ?_
    refine lv_iconst (v := (-1)) hx hb dX4_divide_18 (by decide) ?_
    have g3 : 20 < 1000 := by decide
    have hPc := hP.sub (ws' := [(aSN, .inl (cyI, 20, .inl w))]) [1] rfl
    have hDc := hD.sub (ws' := [(aSN, .inl (cyI, 20, .inl w))]) [1] (by decide) rfl
    have hFc := va_free (wc := [(aSN, .inl (cyI, 20, .inl w))]) hD hS hA [1] rfl
    refine va_callv (va_runS (As := [.ref aSN, .int (-1)]) (rest := []) ⟨hx, hb, hml, hown, hts⟩ (c_J7_fill_53178 l dC dI cyI cyZ cyJ cyD aSN H.size 20 w (-1) g3) (va_cwS 2 hts gX4_divide_J7_fill_53178 rfl rfl rfl (by decide +kernel) ⟨Nat.le_of_ble_eq_true rfl, Nat.le_of_ble_eq_true rfl⟩) ⟨fun a U g mk q => by obtain ⟨q0, q1, qP, qK, qD⟩ := q; exact ⟨q0, q1, qP, va_K.moved (u := U) (U := U.calling g mk a) (Vm.Alike.refl U.vm) qK, qD⟩, fun U hU hW => ⟨rfl, by rw [hU], by rw [hU]; exact hPc, va_K.moved hW.alike hK, hDc.weaken (fun _ _ _ _ => trivial)⟩⟩ rfl rfl hl.1 rfl (lv_room (Nat.le_of_ble_eq_true rfl)) dX4_divide_19 ⟨Nat.le_of_ble_eq_true rfl, Nat.le_of_ble_eq_true rfl⟩) hS (fun q _ h => hFc q h) hFc (fun  u t H1 locs ht hvm hw hB hz1 hk1 hS => ?_)
    obtain ⟨hP1, hK1, hD1⟩ := hB
    rw [ht] at hP1
    obtain ⟨hP, hD⟩ := va_join (wr := [(aS, .inr (4, [.ref aH, .ref aR, .ref aSN])), (aH, .inr (0, [.ref aD, .ref aR, .ref aHW, .ref aHL, .int (nI len), .int hN, .int hL, .int hG])), (aHL, .inl (cyI, 12, .inl (fun j_ => nI (L j_)))), (aR, .inr (1, [.ref aRF, .ref aRT, .ref aRN, .ref aRL, .ref aRU, .int (nI cnt)])), (aRL, .inl (cyI, 20, .inl lo)), (aRU, .inl (cyI, 20, .inl up))]) (w1 := [(aSN, .inl (cyI, 20, .inl (flI w (-1) 20)))]) hP hD [1] [0, 2, 3, 4, 5, 6] rfl rfl (by decide) (by decide) hk1 hFc hP1 hD1
    clear hP1 hD1 hK1 hPc hDc hFc hk1 hz1 hvm ht u t
    generalize H1 = H at hP hS ⊢
    have hP : va_P (dC, dI) vwCl [(aS, .inr (4, [.ref aH, .ref aR, .ref aSN])), (aH, .inr (0, [.ref aD, .ref aR, .ref aHW, .ref aHL, .int (nI len), .int hN, .int hL, .int hG])), (aHL, .inl (cyI, 12, .inl (fun j_ => nI (L j_)))), (aR, .inr (1, [.ref aRF, .ref aRT, .ref aRN, .ref aRL, .ref aRU, .int (nI cnt)])), (aRL, .inl (cyI, 20, .inl lo)), (aRU, .inl (cyI, 20, .inl up)), (aSN, .inl (cyI, 20, .inl (flI w (-1) 20)))] H := hP
    have hD : va_D A [(aS, .inr (4, [.ref aH, .ref aR, .ref aSN])), (aH, .inr (0, [.ref aD, .ref aR, .ref aHW, .ref aHL, .int (nI len), .int hN, .int hL, .int hG])), (aHL, .inl (cyI, 12, .inl (fun j_ => nI (L j_)))), (aR, .inr (1, [.ref aRF, .ref aRT, .ref aRN, .ref aRL, .ref aRU, .int (nI cnt)])), (aRL, .inl (cyI, 20, .inl lo)), (aRU, .inl (cyI, 20, .inl up)), (aSN, .inl (cyI, 20, .inl (flI w (-1) 20)))] := hD
    refine lv_iload_n hx hb dX4_divide_22 rfl (lv_at hl 2 rfl) ?_
    refine lv_istore_n (lv' := [(3, .int x), (2, .int (wsm L lo up len)), (0, .ref aS), (1, .int x)]) hx hb dX4_divide_23 rfl hl (by decide) rfl (fun ls hl => ?_)
    refine lv_iconst (v := 0) hx hb dX4_divide_24 (by decide) ?_
    refine lv_istore (lv' := [(4, .int 0), (3, .int x), (2, .int (wsm L lo up len)), (0, .ref aS), (1, .int x)]) hx hb dX4_divide_25 hl (by decide) rfl (fun ls hl => ?_)
    have k27 : ∀ (fuel : Nat) (i : Nat) (hfuel : len - i < fuel) (hi : i ≤ len) (H : Heap) (locs : List Loc) (ls : Array Slot), va_P (dC, dI) vwCl [(aS, .inr (4, [.ref aH, .ref aR, .ref aSN])), (aSN, .inl (cyI, 20, .inl ((dvS L lo up x (wsm L lo up len) (flI w (-1) 20) i).1))), (aH, .inr (0, [.ref aD, .ref aR, .ref aHW, .ref aHL, .int (nI len), .int hN, .int hL, .int hG])), (aHL, .inl (cyI, 12, .inl (fun j_ => nI (L j_)))), (aR, .inr (1, [.ref aRF, .ref aRT, .ref aRN, .ref aRL, .ref aRU, .int (nI cnt)])), (aRL, .inl (cyI, 20, .inl lo)), (aRU, .inl (cyI, 20, .inl up))] H → va_D A [(aS, .inr (4, [.ref aH, .ref aR, .ref aSN])), (aSN, .inl (cyI, 20, .inl ((dvS L lo up x (wsm L lo up len) (flI w (-1) 20) i).1))), (aH, .inr (0, [.ref aD, .ref aR, .ref aHW, .ref aHL, .int (nI len), .int hN, .int hL, .int hG])), (aHL, .inl (cyI, 12, .inl (fun j_ => nI (L j_)))), (aR, .inr (1, [.ref aRF, .ref aRT, .ref aRN, .ref aRL, .ref aRU, .int (nI cnt)])), (aRL, .inl (cyI, 20, .inl lo)), (aRU, .inl (cyI, 20, .inl up))] → va_S A s.heap H locs → lv_has ls 6 [(0, .ref aS), (1, .int x), (2, .int (wsm L lo up len)), (3, .int ((dvS L lo up x (wsm L lo up len) (flI w (-1) 20) i).2)), (4, .int (nI i))] → W pM l eM (headSpec wsX4_divide ({ frames := 2, cells := 0, slots := 0, locals := 43 } : Room)).room s mM ([.ref aS, .int x] : List Value).toArray blM mtM cM H locs 0 0 Q (F0 mM 27 ls []) := by
      intro fuel
      induction fuel with
      | zero => intro i hfuel; exact absurd hfuel (Nat.not_lt_zero _)
      | succ fuel ih27 =>
        intro i hfuel hi H locs ls hP hD hS hl
        refine lv_iload hx hb dX4_divide_27 (lv_at hl 4 rfl) ?_
        refine lv_aload_n hx hb dX4_divide_29 rfl (lv_at hl 0 rfl) ?_
        refine va_get (D := (dC, dI)) (ci := 4) (v := .ref aH) (C := RX4) (T := TX4) (N := 3) hx hb hts iX4 hown hK hP 0 rfl rfl 0 (by decide) w0 (fun _ h9 => h9) rfl dX4_divide_30 ?_
        refine va_get (D := (dC, dI)) (ci := 0) (v := .int (nI len)) (C := RX0) (T := TX0) (N := 8) hx hb hts iX0 hown hK hP 2 rfl rfl 4 (by decide) w2 (fun _ h9 => h9) rfl dX4_divide_33 ?_
        refine lv_icmp_ge (tgt := 87) hx hb dX4_divide_36 (by decide) (fun c36 => ?_) (fun c36 => ?_)
        · have c36 := n_le (a := len) (b := i) (by omega) (by omega) c36
          have eli : i = len := by omega
          refine lv_aload_n hx hb dX4_divide_87 rfl (lv_at hl 0 rfl) ?_
          refine lv_iload_n hx hb dX4_divide_88 rfl (lv_at hl 3 rfl) ?_
          have g4 : cnt ≤ 20 := by first | assumption | omega | exact vp_in_nI (by omega) (by omega)
          have hPc := hP.sub (ws' := [(aS, .inr (4, [.ref aH, .ref aR, .ref aSN])), (aSN, .inl (cyI, 20, .inl ((dvS L lo up x (wsm L lo up len) (flI w (-1) 20) i).1))), (aR, .inr (1, [.ref aRF, .ref aRT, .ref aRN, .ref aRL, .ref aRU, .int (nI cnt)]))]) [0, 1, 4] rfl
          have hDc := hD.sub (ws' := [(aS, .inr (4, [.ref aH, .ref aR, .ref aSN])), (aSN, .inl (cyI, 20, .inl ((dvS L lo up x (wsm L lo up len) (flI w (-1) 20) i).1))), (aR, .inr (1, [.ref aRF, .ref aRT, .ref aRN, .ref aRL, .ref aRU, .int (nI cnt)]))]) [0, 1, 4] (by decide) rfl
          have hFc := va_free (wc := [(aS, .inr (4, [.ref aH, .ref aR, .ref aSN])), (aSN, .inl (cyI, 20, .inl ((dvS L lo up x (wsm L lo up len) (flI w (-1) 20) i).1))), (aR, .inr (1, [.ref aRF, .ref aRT, .ref aRN, .ref aRL, .ref aRU, .int (nI cnt)]))]) hD hS hA [0, 1, 4] rfl
          refine va_callv (va_runV (As := [.int ((dvS L lo up x (wsm L lo up len) (flI w (-1) 20) i).2)]) (rest := []) ⟨hx, hb, hml, hown, hts⟩ (c_X4_giveRest l dC dI cyI cyZ cyJ cyD aS aH aR aSN aRF aRT aRN aRL aRU H.size ((dvS L lo up x (wsm L lo up len) (flI w (-1) 20) i).1) cnt ((dvS L lo up x (wsm L lo up len) (flI w (-1) 20) i).2) g4) (cwV 1 hts gX4_divide_X4_giveRest rfl rfl rfl (by decide +kernel) ⟨Nat.le_of_ble_eq_true rfl, Nat.le_of_ble_eq_true rfl⟩) ⟨fun a U g mk q => by obtain ⟨q0, q1, qP, qK, qD⟩ := q; exact ⟨q0, q1, qP, va_K.moved (u := U) (U := U.calling g mk a) (Vm.Alike.refl U.vm) qK, qD⟩, va_recv hK hPc (ci := 4) (q0 := 0) rfl rfl, fun U hU hW => ⟨rfl, by rw [hU], by rw [hU]; exact hPc, va_K.moved hW.alike hK, hDc.weaken (fun _ _ _ _ => trivial)⟩⟩ rfl rfl hl.1 rfl (lv_room (Nat.le_of_ble_eq_true rfl)) dX4_divide_89 ⟨Nat.le_of_ble_eq_true rfl, Nat.le_of_ble_eq_true rfl⟩) hS (fun q _ h => hFc q h) hFc (fun  u t H1 locs ht hvm hw hB hz1 hk1 hS => ?_)
          obtain ⟨hP1, hK1, hD1⟩ := hB
          rw [ht] at hP1
          obtain ⟨hP, hD⟩ := va_join (wr := [(aH, .inr (0, [.ref aD, .ref aR, .ref aHW, .ref aHL, .int (nI len), .int hN, .int hL, .int hG])), (aHL, .inl (cyI, 12, .inl (fun j_ => nI (L j_)))), (aRL, .inl (cyI, 20, .inl lo)), (aRU, .inl (cyI, 20, .inl up))]) (w1 := [(aS, .inr (4, [.ref aH, .ref aR, .ref aSN])), (aSN, .inl (cyI, 20, .inl ((grS ((dvS L lo up x (wsm L lo up len) (flI w (-1) 20) i).1) ((dvS L lo up x (wsm L lo up len) (flI w (-1) 20) i).2) cnt).1))), (aR, .inr (1, [.ref aRF, .ref aRT, .ref aRN, .ref aRL, .ref aRU, .int (nI cnt)]))]) hP hD [0, 1, 4] [2, 3, 5, 6] rfl rfl (by decide) (by decide) hk1 hFc hP1 hD1
          clear hP1 hD1 hK1 hPc hDc hFc hk1 hz1 hvm ht u t
          generalize H1 = H at hP hS ⊢
          have hP : va_P (dC, dI) vwCl [(aH, .inr (0, [.ref aD, .ref aR, .ref aHW, .ref aHL, .int (nI len), .int hN, .int hL, .int hG])), (aHL, .inl (cyI, 12, .inl (fun j_ => nI (L j_)))), (aRL, .inl (cyI, 20, .inl lo)), (aRU, .inl (cyI, 20, .inl up)), (aS, .inr (4, [.ref aH, .ref aR, .ref aSN])), (aSN, .inl (cyI, 20, .inl ((grS ((dvS L lo up x (wsm L lo up len) (flI w (-1) 20) i).1) ((dvS L lo up x (wsm L lo up len) (flI w (-1) 20) i).2) cnt).1))), (aR, .inr (1, [.ref aRF, .ref aRT, .ref aRN, .ref aRL, .ref aRU, .int (nI cnt)]))] H := hP
          have hD : va_D A [(aH, .inr (0, [.ref aD, .ref aR, .ref aHW, .ref aHL, .int (nI len), .int hN, .int hL, .int hG])), (aHL, .inl (cyI, 12, .inl (fun j_ => nI (L j_)))), (aRL, .inl (cyI, 20, .inl lo)), (aRU, .inl (cyI, 20, .inl up)), (aS, .inr (4, [.ref aH, .ref aR, .ref aSN])), (aSN, .inl (cyI, 20, .inl ((grS ((dvS L lo up x (wsm L lo up len) (flI w (-1) 20) i).1) ((dvS L lo up x (wsm L lo up len) (flI w (-1) 20) i).2) cnt).1))), (aR, .inr (1, [.ref aRF, .ref aRT, .ref aRN, .ref aRL, .ref aRU, .int (nI cnt)]))] := hD
          refine lv_iconst (v := 1) hx hb dX4_divide_92 (by decide) ?_
          have r5 : 1 = (bI (decide (¬ wsm L lo up len = 0))) := by simp [bI, *]
          have q6 : (if wsm L lo up len = 0 then w else (grS (dvS L lo up x (wsm L lo up len) (flI w (-1) 20) len).1 (dvS L lo up x (wsm L lo up len) (flI w (-1) 20) len).2 cnt).1) = ((grS ((dvS L lo up x (wsm L lo up len) (flI w (-1) 20) i).1) ((dvS L lo up x (wsm L lo up len) (flI w (-1) 20) i).2) cnt).1) := by rw [if_neg c9, eli]
          have hP9 : va_P (dC, dI) vwCl [(aS, .inr (4, [.ref aH, .ref aR, .ref aSN])), (aSN, .inl (cyI, 20, .inl (if wsm L lo up len = 0 then w else (grS (dvS L lo up x (wsm L lo up len) (flI w (-1) 20) len).1 (dvS L lo up x (wsm L lo up len) (flI w (-1) 20) len).2 cnt).1))), (aH, .inr (0, [.ref aD, .ref aR, .ref aHW, .ref aHL, .int (nI len), .int hN, .int hL, .int hG])), (aHL, .inl (cyI, 12, .inl (fun j_ => nI (L j_)))), (aR, .inr (1, [.ref aRF, .ref aRT, .ref aRN, .ref aRL, .ref aRU, .int (nI cnt)])), (aRL, .inl (cyI, 20, .inl lo)), (aRU, .inl (cyI, 20, .inl up))] H := by first | (rw [q6]; exact hP.sub [4, 5, 0, 1, 6, 2, 3] rfl) | (simp only [q6]; exact hP.sub [4, 5, 0, 1, 6, 2, 3] rfl) | exact hP.sub [4, 5, 0, 1, 6, 2, 3] rfl
          have hD9 : va_D A [(aS, .inr (4, [.ref aH, .ref aR, .ref aSN])), (aSN, .inl (cyI, 20, .inl (if wsm L lo up len = 0 then w else (grS (dvS L lo up x (wsm L lo up len) (flI w (-1) 20) len).1 (dvS L lo up x (wsm L lo up len) (flI w (-1) 20) len).2 cnt).1))), (aH, .inr (0, [.ref aD, .ref aR, .ref aHW, .ref aHL, .int (nI len), .int hN, .int hL, .int hG])), (aHL, .inl (cyI, 12, .inl (fun j_ => nI (L j_)))), (aR, .inr (1, [.ref aRF, .ref aRT, .ref aRN, .ref aRL, .ref aRU, .int (nI cnt)])), (aRL, .inl (cyI, 20, .inl lo)), (aRU, .inl (cyI, 20, .inl up))] := by first | (rw [q6]; exact hD.sub [4, 5, 0, 1, 6, 2, 3] (by decide) rfl) | (simp only [q6]; exact hD.sub [4, 5, 0, 1, 6, 2, 3] (by decide) rfl) | exact hD.sub [4, 5, 0, 1, 6, 2, 3] (by decide) rfl
          subst hAe
          subst hQe
          exact W.zret (v := 1) hx hb hr rfl (fun t ht hW => ⟨⟨_, (), rfl, r5, by rw [ht]; exact hP9, va_K.moved hW.alike hK, hD9⟩, hS.F ht⟩) hS.2.2 dX4_divide_93
        · have c36 := n_nle (a := len) (b := i) (by omega) (by omega) c36
          have hLi := hL0 i c36
          refine lv_aload_n hx hb dX4_divide_39 rfl (lv_at hl 0 rfl) ?_
          refine va_get (D := (dC, dI)) (ci := 4) (v := .ref aH) (C := RX4) (T := TX4) (N := 3) hx hb hts iX4 hown hK hP 0 rfl rfl 0 (by decide) w0 (fun _ h9 => h9) rfl dX4_divide_40 ?_
          refine va_get (D := (dC, dI)) (ci := 0) (v := .ref aHL) (C := RX0) (T := TX0) (N := 8) hx hb hts iX0 hown hK hP 2 rfl rfl 3 (by decide) w3 (fun _ h9 => h9) rfl dX4_divide_43 ?_
          refine lv_iload hx hb dX4_divide_46 (lv_at hl 4 rfl) ?_
          have h7 : vp_in (nI i) 12 := by first | exact vp_in_nI (by omega) (by omega) | assumption
          refine va_iald hx hb hK hP 3 0 rfl rfl h7 dX4_divide_48 ?_
          refine lv_topi (fun x8 e9 => ?_)
          obtain rfl : x8 = (nI (L i)) := by rw [e9, nI_clamp (by omega)]
          clear e9
          refine lv_istore (lv' := [(5, .int (nI (L i))), (0, .ref aS), (1, .int x), (2, .int (wsm L lo up len)), (3, .int ((dvS L lo up x (wsm L lo up len) (flI w (-1) 20) i).2)), (4, .int (nI i))]) hx hb dX4_divide_49 hl (by decide) rfl (fun ls hl => ?_)
          refine lv_aload_n hx hb dX4_divide_51 rfl (lv_at hl 1 rfl) ?_
          refine va_get (D := (dC, dI)) (ci := 4) (v := .ref aSN) (C := RX4) (T := TX4) (N := 3) hx hb hts iX4 hown hK hP 0 rfl rfl 2 (by decide) w1 (fun _ h9 => h9) rfl dX4_divide_52 ?_
          refine lv_iload hx hb dX4_divide_55 (lv_at hl 0 rfl) ?_
          refine lv_iload_n hx hb dX4_divide_57 rfl (lv_at hl 2 rfl) ?_
          refine lv_aload_n hx hb dX4_divide_58 rfl (lv_at hl 1 rfl) ?_
          refine va_get (D := (dC, dI)) (ci := 4) (v := .ref aR) (C := RX4) (T := TX4) (N := 3) hx hb hts iX4 hown hK hP 0 rfl rfl 1 (by decide) w4 (fun _ h9 => h9) rfl dX4_divide_59 ?_
          refine lv_iload hx hb dX4_divide_62 (lv_at hl 0 rfl) ?_
          have g10 : (L i) < 20 := by first | assumption | omega | exact vp_in_nI (by omega) (by omega)
          have hPc := hP.sub (ws' := [(aR, .inr (1, [.ref aRF, .ref aRT, .ref aRN, .ref aRL, .ref aRU, .int (nI cnt)])), (aRL, .inl (cyI, 20, .inl lo)), (aRU, .inl (cyI, 20, .inl up))]) [4, 5, 6] rfl
          have hDc := hD.sub (ws' := [(aR, .inr (1, [.ref aRF, .ref aRT, .ref aRN, .ref aRL, .ref aRU, .int (nI cnt)])), (aRL, .inl (cyI, 20, .inl lo)), (aRU, .inl (cyI, 20, .inl up))]) [4, 5, 6] (by decide) rfl
          have hFc := va_free (wc := [(aR, .inr (1, [.ref aRF, .ref aRT, .ref aRN, .ref aRL, .ref aRU, .int (nI cnt)])), (aRL, .inl (cyI, 20, .inl lo)), (aRU, .inl (cyI, 20, .inl up))]) hD hS hA [4, 5, 6] rfl
          refine va_calli (va_runV (As := [.int (nI (L i))]) (rest := [.int x, .int (nI (L i)), .ref aSN]) ⟨hx, hb, hml, hown, hts⟩ (c_X1_width l dC dI cyI cyZ cyJ cyD aR aRF aRT aRN aRL aRU H.size lo up cnt (L i) g10) (cwV 1 hts gX4_divide_X1_width rfl rfl rfl (by decide +kernel) ⟨Nat.le_of_ble_eq_true rfl, Nat.le_of_ble_eq_true rfl⟩) ⟨fun a U g mk q => by obtain ⟨q0, q1, qP, qK, qD⟩ := q; exact ⟨q0, q1, qP, va_K.moved (u := U) (U := U.calling g mk a) (Vm.Alike.refl U.vm) qK, qD⟩, va_recv hK hPc (ci := 1) (q0 := 0) rfl rfl, fun U hU hW => ⟨rfl, by rw [hU], by rw [hU]; exact hPc, va_K.moved hW.alike hK, hDc.weaken (fun _ _ _ _ => trivial)⟩⟩ rfl rfl hl.1 rfl (lv_room (Nat.le_of_ble_eq_true rfl)) dX4_divide_64 ⟨Nat.le_of_ble_eq_true rfl, Nat.le_of_ble_eq_true rfl⟩) hS (fun q _ h => hFc q h) hFc (fun r u t H1 locs ht hvm hw hB hz1 hk1 hS => ?_)
          obtain rfl := hw
          obtain ⟨hP1, hK1, hD1⟩ := hB
          rw [ht] at hP1
          obtain ⟨hP, hD⟩ := va_join (wr := [(aS, .inr (4, [.ref aH, .ref aR, .ref aSN])), (aSN, .inl (cyI, 20, .inl ((dvS L lo up x (wsm L lo up len) (flI w (-1) 20) i).1))), (aH, .inr (0, [.ref aD, .ref aR, .ref aHW, .ref aHL, .int (nI len), .int hN, .int hL, .int hG])), (aHL, .inl (cyI, 12, .inl (fun j_ => nI (L j_))))]) (w1 := [(aR, .inr (1, [.ref aRF, .ref aRT, .ref aRN, .ref aRL, .ref aRU, .int (nI cnt)])), (aRL, .inl (cyI, 20, .inl lo)), (aRU, .inl (cyI, 20, .inl up))]) hP hD [4, 5, 6] [0, 1, 2, 3] rfl rfl (by decide) (by decide) hk1 hFc hP1 hD1
          clear hP1 hD1 hK1 hPc hDc hFc hk1 hz1 hvm ht u t
          generalize H1 = H at hP hS ⊢
          have hP : va_P (dC, dI) vwCl [(aS, .inr (4, [.ref aH, .ref aR, .ref aSN])), (aSN, .inl (cyI, 20, .inl ((dvS L lo up x (wsm L lo up len) (flI w (-1) 20) i).1))), (aH, .inr (0, [.ref aD, .ref aR, .ref aHW, .ref aHL, .int (nI len), .int hN, .int hL, .int hG])), (aHL, .inl (cyI, 12, .inl (fun j_ => nI (L j_)))), (aR, .inr (1, [.ref aRF, .ref aRT, .ref aRN, .ref aRL, .ref aRU, .int (nI cnt)])), (aRL, .inl (cyI, 20, .inl lo)), (aRU, .inl (cyI, 20, .inl up))] H := hP
          have hD : va_D A [(aS, .inr (4, [.ref aH, .ref aR, .ref aSN])), (aSN, .inl (cyI, 20, .inl ((dvS L lo up x (wsm L lo up len) (flI w (-1) 20) i).1))), (aH, .inr (0, [.ref aD, .ref aR, .ref aHW, .ref aHL, .int (nI len), .int hN, .int hL, .int hG])), (aHL, .inl (cyI, 12, .inl (fun j_ => nI (L j_)))), (aR, .inr (1, [.ref aRF, .ref aRT, .ref aRN, .ref aRL, .ref aRU, .int (nI cnt)])), (aRL, .inl (cyI, 20, .inl lo)), (aRU, .inl (cyI, 20, .inl up))] := hD
          refine lv_imul hx hb dX4_divide_67 ?_
          refine lv_iload_n hx hb dX4_divide_68 rfl (lv_at hl 3 rfl) ?_
          have h11 : ¬ (wsm L lo up len : Int32) = 0 := by exact c9
          refine lv_idiv hx hb dX4_divide_69 h11 ?_
          have h12 : vp_in (nI (L i)) 20 := by first | exact vp_in_nI (by omega) (by omega) | assumption
          refine va_iast hx hb hK hP hD hS 1 0 rfl rfl h12 dX4_divide_70 (fun H locs hP hD hS => ?_)
          rw [nI_clamp (by omega)] at hP hD
          have hP : va_P (dC, dI) vwCl [(aS, .inr (4, [.ref aH, .ref aR, .ref aSN])), (aSN, .inl (cyI, 20, .inl (upd ((dvS L lo up x (wsm L lo up len) (flI w (-1) 20) i).1) (L i) ((x * (up (L i) - lo (L i))) / (wsm L lo up len))))), (aH, .inr (0, [.ref aD, .ref aR, .ref aHW, .ref aHL, .int (nI len), .int hN, .int hL, .int hG])), (aHL, .inl (cyI, 12, .inl (fun j_ => nI (L j_)))), (aR, .inr (1, [.ref aRF, .ref aRT, .ref aRN, .ref aRL, .ref aRU, .int (nI cnt)])), (aRL, .inl (cyI, 20, .inl lo)), (aRU, .inl (cyI, 20, .inl up))] H := hP
          have hD : va_D A [(aS, .inr (4, [.ref aH, .ref aR, .ref aSN])), (aSN, .inl (cyI, 20, .inl (upd ((dvS L lo up x (wsm L lo up len) (flI w (-1) 20) i).1) (L i) ((x * (up (L i) - lo (L i))) / (wsm L lo up len))))), (aH, .inr (0, [.ref aD, .ref aR, .ref aHW, .ref aHL, .int (nI len), .int hN, .int hL, .int hG])), (aHL, .inl (cyI, 12, .inl (fun j_ => nI (L j_)))), (aR, .inr (1, [.ref aRF, .ref aRT, .ref aRN, .ref aRL, .ref aRU, .int (nI cnt)])), (aRL, .inl (cyI, 20, .inl lo)), (aRU, .inl (cyI, 20, .inl up))] := hD
          refine lv_iload_n hx hb dX4_divide_71 rfl (lv_at hl 4 rfl) ?_
          refine lv_aload_n hx hb dX4_divide_72 rfl (lv_at hl 1 rfl) ?_
          refine va_get (D := (dC, dI)) (ci := 4) (v := .ref aSN) (C := RX4) (T := TX4) (N := 3) hx hb hts iX4 hown hK hP 0 rfl rfl 2 (by decide) w1 (fun _ h9 => h9) rfl dX4_divide_73 ?_
          refine lv_iload hx hb dX4_divide_76 (lv_at hl 0 rfl) ?_
          have h13 : vp_in (nI (L i)) 20 := by first | exact vp_in_nI (by omega) (by omega) | assumption
          refine va_iald hx hb hK hP 1 0 rfl rfl h13 dX4_divide_78 ?_
          refine lv_topi (fun x14 e15 => ?_)
          obtain rfl : x14 = ((upd ((dvS L lo up x (wsm L lo up len) (flI w (-1) 20) i).1) (L i) ((x * (up (L i) - lo (L i))) / (wsm L lo up len))) (L i)) := by rw [e15, nI_clamp (by omega)]
          clear e15
          refine lv_isub hx hb dX4_divide_79 ?_
          refine lv_istore_n (lv' := [(3, .int (((dvS L lo up x (wsm L lo up len) (flI w (-1) 20) i).2) - ((upd ((dvS L lo up x (wsm L lo up len) (flI w (-1) 20) i).1) (L i) ((x * (up (L i) - lo (L i))) / (wsm L lo up len))) (L i)))), (5, .int (nI (L i))), (0, .ref aS), (1, .int x), (2, .int (wsm L lo up len)), (4, .int (nI i))]) hx hb dX4_divide_80 rfl hl (by decide) rfl (fun ls hl => ?_)
          refine lv_iinc (v := nI (i + 1)) (lv' := [(4, .int (nI (i + 1))), (3, .int (((dvS L lo up x (wsm L lo up len) (flI w (-1) 20) i).2) - ((upd ((dvS L lo up x (wsm L lo up len) (flI w (-1) 20) i).1) (L i) ((x * (up (L i) - lo (L i))) / (wsm L lo up len))) (L i)))), (5, .int (nI (L i))), (0, .ref aS), (1, .int x), (2, .int (wsm L lo up len))]) hx hb dX4_divide_81 hl (k := 5) rfl (nI_add i 1) (by decide) rfl (fun ls hl => ?_)
          refine lv_goto (tgt := 27) hx hb dX4_divide_84 (by decide) ?_
          have q16 : ((dvS L lo up x (wsm L lo up len) (flI w (-1) 20) (i + 1)).1) = (upd ((dvS L lo up x (wsm L lo up len) (flI w (-1) 20) i).1) (L i) ((x * (up (L i) - lo (L i))) / (wsm L lo up len))) := by rfl
          have q17 : ((dvS L lo up x (wsm L lo up len) (flI w (-1) 20) (i + 1)).2) = (((dvS L lo up x (wsm L lo up len) (flI w (-1) 20) i).2) - ((upd ((dvS L lo up x (wsm L lo up len) (flI w (-1) 20) i).1) (L i) ((x * (up (L i) - lo (L i))) / (wsm L lo up len))) (L i))) := by simp [dvS, upd]
          exact ih27 (i + 1) (by omega) (by first | assumption | omega) _ _ _ (by first | (rw [q16]; exact hP) | (simp only [q16]; exact hP) | exact hP) (by first | (rw [q16]; exact hD) | (simp only [q16]; exact hD) | exact hD) hS (by first | (rw [q17]; exact lv_sub hl [3, 4, 5, 1, 0] rfl) | (simp only [q17]; exact lv_sub hl [3, 4, 5, 1, 0] rfl) | exact lv_sub hl [3, 4, 5, 1, 0] rfl)
    have q18 : ((dvS L lo up x (wsm L lo up len) (flI w (-1) 20) 0).1) = (flI w (-1) 20) := by rfl
    have q19 : ((dvS L lo up x (wsm L lo up len) (flI w (-1) 20) 0).2) = x := by rfl
    have q20 : (nI 0) = 0 := by first | rfl | simp [*] | (simp only [*]; done)
    exact k27 (len - 0 + 1) 0 (Nat.lt_succ_self _) (by first | assumption | omega) _ _ _ (by first | (rw [q18]; exact hP.sub [0, 6, 1, 2, 3, 4, 5] rfl) | (simp only [q18]; exact hP.sub [0, 6, 1, 2, 3, 4, 5] rfl) | exact hP.sub [0, 6, 1, 2, 3, 4, 5] rfl) (by first | (rw [q18]; exact hD.sub [0, 6, 1, 2, 3, 4, 5] (by decide) rfl) | (simp only [q18]; exact hD.sub [0, 6, 1, 2, 3, 4, 5] (by decide) rfl) | exact hD.sub [0, 6, 1, 2, 3, 4, 5] (by decide) rfl) hS (by first | (rw [q19, q20]; exact lv_sub hl [3, 4, 2, 1, 0] rfl) | (simp only [q19, q20]; exact lv_sub hl [3, 4, 2, 1, 0] rfl) | exact lv_sub hl [3, 4, 2, 1, 0] rfl)
  · skip
    refine lv_iconst (v := 0) hx hb dX4_divide_12 (by decide) ?_
    have r21 : 0 = (bI (decide (¬ wsm L lo up len = 0))) := by simp [bI, *]
    have q22 : (if wsm L lo up len = 0 then w else (grS (dvS L lo up x (wsm L lo up len) (flI w (-1) 20) len).1 (dvS L lo up x (wsm L lo up len) (flI w (-1) 20) len).2 cnt).1) = w := by rw [if_pos c9]
    have hP9 : va_P (dC, dI) vwCl [(aS, .inr (4, [.ref aH, .ref aR, .ref aSN])), (aSN, .inl (cyI, 20, .inl (if wsm L lo up len = 0 then w else (grS (dvS L lo up x (wsm L lo up len) (flI w (-1) 20) len).1 (dvS L lo up x (wsm L lo up len) (flI w (-1) 20) len).2 cnt).1))), (aH, .inr (0, [.ref aD, .ref aR, .ref aHW, .ref aHL, .int (nI len), .int hN, .int hL, .int hG])), (aHL, .inl (cyI, 12, .inl (fun j_ => nI (L j_)))), (aR, .inr (1, [.ref aRF, .ref aRT, .ref aRN, .ref aRL, .ref aRU, .int (nI cnt)])), (aRL, .inl (cyI, 20, .inl lo)), (aRU, .inl (cyI, 20, .inl up))] H := by first | (rw [q22]; exact hP.sub [0, 1, 2, 3, 4, 5, 6] rfl) | (simp only [q22]; exact hP.sub [0, 1, 2, 3, 4, 5, 6] rfl) | exact hP.sub [0, 1, 2, 3, 4, 5, 6] rfl
    have hD9 : va_D A [(aS, .inr (4, [.ref aH, .ref aR, .ref aSN])), (aSN, .inl (cyI, 20, .inl (if wsm L lo up len = 0 then w else (grS (dvS L lo up x (wsm L lo up len) (flI w (-1) 20) len).1 (dvS L lo up x (wsm L lo up len) (flI w (-1) 20) len).2 cnt).1))), (aH, .inr (0, [.ref aD, .ref aR, .ref aHW, .ref aHL, .int (nI len), .int hN, .int hL, .int hG])), (aHL, .inl (cyI, 12, .inl (fun j_ => nI (L j_)))), (aR, .inr (1, [.ref aRF, .ref aRT, .ref aRN, .ref aRL, .ref aRU, .int (nI cnt)])), (aRL, .inl (cyI, 20, .inl lo)), (aRU, .inl (cyI, 20, .inl up))] := by first | (rw [q22]; exact hD.sub [0, 1, 2, 3, 4, 5, 6] (by decide) rfl) | (simp only [q22]; exact hD.sub [0, 1, 2, 3, 4, 5, 6] (by decide) rfl) | exact hD.sub [0, 1, 2, 3, 4, 5, 6] (by decide) rfl
    subst hAe
    subst hQe
    exact W.zret (v := 0) hx hb hr rfl (fun t ht hW => ⟨⟨_, (), rfl, r21, by rw [ht]; exact hP9, va_K.moved hW.alike hK, hD9⟩, hS.F ht⟩) hS.2.2 dX4_divide_13
