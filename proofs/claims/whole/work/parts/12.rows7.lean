
abbrev RS : Type := Nat × Nat × Nat × Nat × Bool × Nat × (Nat → Nat) × (Nat → Nat) × (Nat → Int32) × (Nat → Int32) × (Nat → Int32)
def dgB (c dg mo : Nat) : Bool := decide (48 ≤ c ∧ c ≤ 57 ∧ dg < mo)
def numV (ng : Bool) (sz : Nat) : Int32 := match ng with
  | true => -nI sz
  | false => nI sz
theorem a65_f {c : Nat} (_ : c < 128) (h : ¬ nI c - 65 < 0) : 65 ≤ c := by
  rcases Nat.lt_or_ge c 65 with q | q
  · exact absurd (pk_sneg (a := c) (b := 65) (by decide) q) h
  · exact q
theorem a65_t {c : Nat} (_ : c < 128) (h : nI c - 65 < 0) : c < 65 := by
  rcases Nat.lt_or_ge c 65 with q | q
  · exact q
  · rw [show nI c - 65 = nI (c - 65) from pk_sub q] at h
    exact absurd h (nI_pos (by omega))
def tkA (n : Nat) : RS → Nat → Option RS
  | (_, _, dg, sz, ng, k, F, T, nm, lo, up), c => if 65 ≤ c ∧ c - 65 < n ∧ k < 20 then some (1, k, dg, sz, ng, k + 1, updN F k (c - 65), updN T k (c - 65), upd nm k 0, upd lo k 0, upd up k 0) else none
def tkB (n : Nat) : RS → Nat → Option RS
  | (_, row, dg, sz, ng, k, F, T, nm, lo, up), c => if 65 ≤ c ∧ c - 65 < n ∧ ¬ c - 65 = F row then some (2, row, dg, sz, ng, k, F, updN T row (c - 65), nm, lo, up) else none
def tkN : RS → Nat → Option RS
  | (pl, row, dg, sz, ng, k, F, T, nm, lo, up), c => if dgB c dg 5 = true then some (pl, row, dg + 1, sz * 10 + c - 48, ng, k, F, T, upd nm row (numV ng (sz * 10 + c - 48)), lo, up) else if 0 < dg ∧ c = 91 then some (5, row, dg, sz, ng, k, F, T, nm, lo, up) else if 0 < dg ∧ k < 20 ∧ c = 59 then some (0, row, dg, sz, ng, k, F, T, nm, lo, up) else none
def tkL : RS → Nat → Option RS
  | (pl, row, dg, sz, ng, k, F, T, nm, lo, up), c => if dgB c dg 3 = true then some (pl, row, dg + 1, sz * 10 + c - 48, ng, k, F, T, nm, upd lo row (numV ng (sz * 10 + c - 48)), up) else if 0 < dg ∧ c = 44 then some (7, row, dg, sz, ng, k, F, T, nm, lo, up) else none
def tkU : RS → Nat → Option RS
  | (pl, row, dg, sz, ng, k, F, T, nm, lo, up), c => if dgB c dg 3 = true then some (pl, row, dg + 1, sz * 10 + c - 48, ng, k, F, T, nm, lo, upd up row (numV ng (sz * 10 + c - 48))) else if 0 < dg ∧ ¬ up row - lo row < 0 ∧ c = 93 then some (9, row, dg, sz, ng, k, F, T, nm, lo, up) else none
def tkD (nx : Nat) : RS → Nat → Option RS
  | (_, row, _, _, _, k, F, T, nm, lo, up), c => if c = 43 ∨ c = 45 then some (nx, row, 0, 0, decide (c = 45), k, F, T, nm, lo, up) else none
def tkS : RS → Nat → Option RS
  | (_, row, _, _, _, k, F, T, nm, lo, up), c => if c = 45 then some (4, row, 0, 0, true, k, F, T, nm, lo, up) else tkN (4, row, 0, 0, false, k, F, T, nm, lo, up) c

set_option maxHeartbeats 4000000 in
set_option maxRecDepth 100000 in
theorem c_X3_endsList (l : Launch) (dC : Nat → ClassId) (dI : Nat → Nat → Nat) (cyI cyZ cyJ cyD : ClassId) (aL aQ : Nat) (zH : Nat) (n : Nat) (pl : Nat) (row : Nat) (dg : Nat) (sz : Nat) (ng : Bool) (hpl : pl ≤ 9) (hdg : dg ≤ 5) : Met l yX3_endsList wsX3_endsList ({ frames := 0, cells := 0, slots := 0, locals := 0 } : Room) (va_Pc [.ref aL] (fun U => U.heap.size = zH ∧ va_P (dC, dI) vwCl [(aL, .inr (3, [.ref aQ, .int (nI n), .int (nI pl), .int (nI row), .int (nI dg), .int (nI sz), .int (bI ng)]))] U.heap ∧ va_K (dC, dI) vwCl [(cyI, .int), (cyZ, .boolean), (cyJ, .long), (cyD, .double)] U ∧ va_D (fun _ => True) [(aL, .inr (3, [.ref aQ, .int (nI n), .int (nI pl), .int (nI row), .int (nI dg), .int (nI sz), .int (bI ng)]))])) (va_Qi (fun (r : Int32) (_ : Unit) => r = bI (decide (pl = 9) || (decide (pl = 4) && decide (0 < dg)))) (fun _ t => va_P (dC, dI) vwCl [(aL, .inr (3, [.ref aQ, .int (nI n), .int (nI pl), .int (nI row), .int (nI dg), .int (nI sz), .int (bI ng)]))] t.heap ∧ va_K (dC, dI) vwCl [(cyI, .int), (cyZ, .boolean), (cyJ, .long), (cyD, .double)] t ∧ va_D (va_A [(aL, .inr (3, [.ref aQ, .int (nI n), .int (nI pl), .int (nI row), .int (nI dg), .int (nI sz), .int (bI ng)]))] zH) [(aL, .inr (3, [.ref aQ, .int (nI n), .int (nI pl), .int (nI row), .int (nI dg), .int (nI sz), .int (bI ng)]))]) (va_A [(aL, .inr (3, [.ref aQ, .int (nI n), .int (nI pl), .int (nI row), .int (nI dg), .int (nI sz), .int (bI ng)]))] zH)) 0 0 (va_A [(aL, .inr (3, [.ref aQ, .int (nI n), .int (nI pl), .int (nI row), .int (nI dg), .int (nI sz), .int (bI ng)]))] zH) := by
  refine Met.ofW (cc := cX3_endsList) (maxL := 1) (ret := (some .boolean)) (by decide) rfl ?_
  intro pM eM s mM args blM mtM cM s₁ BM hml hv
  obtain ⟨rfl, hsz, hP, hK, hD0⟩ := hv
  have hx := BM.exec
  have hb := BM.bytes
  have hr := BM.returns
  have hts := atoms_spec (ws := wsX3_endsList) BM.pre
  have hown : s.vm.findClass RX3 = some mM.cls := findClass_of_methodNamed BM.named
  have hlocks := BM.notSynchronized
  have w0 := hts (.fieldLink RX3 22 "DimensionChecker$ListReader" "place" "I") (by decide +kernel)
  have w1 := hts (.fieldLink RX3 28 "DimensionChecker$ListReader" "digits" "I") (by decide +kernel)
  have iX3 : ∀ w ∈ wsX30, w ∈ wsX3_endsList := by decide +kernel
  subst hsz
  have hD := hD0.self (sz := s.heap.size)
  obtain ⟨Q, hQe⟩ : ∃ Q : State → Prop, Q = MQ blM (va_Qi (fun (r : Int32) (_ : Unit) => r = bI (decide (pl = 9) || (decide (pl = 4) && decide (0 < dg)))) (fun _ t => va_P (dC, dI) vwCl [(aL, .inr (3, [.ref aQ, .int (nI n), .int (nI pl), .int (nI row), .int (nI dg), .int (nI sz), .int (bI ng)]))] t.heap ∧ va_K (dC, dI) vwCl [(cyI, .int), (cyZ, .boolean), (cyJ, .long), (cyD, .double)] t ∧ va_D (va_A [(aL, .inr (3, [.ref aQ, .int (nI n), .int (nI pl), .int (nI row), .int (nI dg), .int (nI sz), .int (bI ng)]))] s.heap.size) [(aL, .inr (3, [.ref aQ, .int (nI n), .int (nI pl), .int (nI row), .int (nI dg), .int (nI sz), .int (bI ng)]))]) (va_A [(aL, .inr (3, [.ref aQ, .int (nI n), .int (nI pl), .int (nI row), .int (nI dg), .int (nI sz), .int (bI ng)]))] s.heap.size)) ([.ref aL] : List Value).toArray s 0 0 (va_A [(aL, .inr (3, [.ref aQ, .int (nI n), .int (nI pl), .int (nI row), .int (nI dg), .int (nI sz), .int (bI ng)]))] s.heap.size) := ⟨_, rfl⟩
  rw [← hQe]
  generalize hAe : va_A [(aL, .inr (3, [.ref aQ, .int (nI n), .int (nI pl), .int (nI row), .int (nI dg), .int (nI sz), .int (bI ng)]))] s.heap.size = A at hD hQe
  have hA : ∀ q : Nat, s.heap.size ≤ q → A q := fun q h => by rw [← hAe]; exact Or.inr h
  obtain ⟨H, hHe⟩ : ∃ H : Heap, H = s.heap := ⟨_, rfl⟩
  have hS : va_S A s.heap H [] := by rw [hHe]; exact va_S.rf
  rw [← hHe] at hP ⊢
  have hl := lv_entry ([.ref aL]) (n := 1) (Nat.le_of_ble_eq_true rfl)
  rw [lg_entry_eq]
  generalize (lg_sl ([.ref aL]) ++ List.replicate (1 - (lg_sl ([.ref aL])).length) Slot.unset).toArray = ls at hl ⊢
  have hl : lv_has ls 1 [(0, .ref aL)] := hl
  refine lv_aload_n hx hb dX3_endsList_0 rfl (lv_at hl 0 rfl) ?_
  refine va_get (D := (dC, dI)) (ci := 3) (v := .int (nI pl)) (C := RX3) (T := TX3) (N := 7) hx hb hts iX3 hown hK hP 0 rfl rfl 2 (by decide) w0 (fun _ h9 => h9) rfl dX3_endsList_1 ?_
  refine lv_bipush (v := 9) hx hb dX3_endsList_4 (by decide) ?_
  refine lv_icmp_eq (tgt := 24) hx hb dX3_endsList_6 (by decide) (fun c6 => ?_) (fun c6 => ?_)
  · have c6 := n_eq (a := pl) (b := 9) (by omega) (by omega) c6
    refine lv_iconst (v := 1) hx hb dX3_endsList_24 (by decide) ?_
    refine lv_goto (tgt := 29) hx hb dX3_endsList_25 (by decide) ?_
    have r1 : 1 = (bI (decide (pl = 9) || (decide (pl = 4) && decide (0 < dg)))) := by simp [bI, *]
    have hP9 : va_P (dC, dI) vwCl [(aL, .inr (3, [.ref aQ, .int (nI n), .int (nI pl), .int (nI row), .int (nI dg), .int (nI sz), .int (bI ng)]))] H := by exact hP.sub [0] rfl
    have hD9 : va_D A [(aL, .inr (3, [.ref aQ, .int (nI n), .int (nI pl), .int (nI row), .int (nI dg), .int (nI sz), .int (bI ng)]))] := by exact hD.sub [0] (by decide) rfl
    subst hAe
    subst hQe
    exact W.zret (v := 1) hx hb hr rfl (fun t ht hW => ⟨⟨_, (), rfl, r1, by rw [ht]; exact hP9, va_K.moved hW.alike hK, hD9⟩, hS.F ht⟩) hS.2.2 dX3_endsList_29
  · have c6 := n_ne (a := pl) (b := 9) (by omega) (by omega) c6
    refine lv_aload_n hx hb dX3_endsList_9 rfl (lv_at hl 0 rfl) ?_
    refine va_get (D := (dC, dI)) (ci := 3) (v := .int (nI pl)) (C := RX3) (T := TX3) (N := 7) hx hb hts iX3 hown hK hP 0 rfl rfl 2 (by decide) w0 (fun _ h9 => h9) rfl dX3_endsList_10 ?_
    refine lv_iconst (v := 4) hx hb dX3_endsList_13 (by decide) ?_
    refine lv_icmp_ne (tgt := 28) hx hb dX3_endsList_14 (by decide) (fun c14 => ?_) (fun c14 => ?_)
    · have c14 := n_ne (a := pl) (b := 4) (by omega) (by omega) c14
      refine lv_iconst (v := 0) hx hb dX3_endsList_28 (by decide) ?_
      have r2 : 0 = (bI (decide (pl = 9) || (decide (pl = 4) && decide (0 < dg)))) := by simp [bI, *]
      have hP9 : va_P (dC, dI) vwCl [(aL, .inr (3, [.ref aQ, .int (nI n), .int (nI pl), .int (nI row), .int (nI dg), .int (nI sz), .int (bI ng)]))] H := by exact hP.sub [0] rfl
      have hD9 : va_D A [(aL, .inr (3, [.ref aQ, .int (nI n), .int (nI pl), .int (nI row), .int (nI dg), .int (nI sz), .int (bI ng)]))] := by exact hD.sub [0] (by decide) rfl
      subst hAe
      subst hQe
      exact W.zret (v := 0) hx hb hr rfl (fun t ht hW => ⟨⟨_, (), rfl, r2, by rw [ht]; exact hP9, va_K.moved hW.alike hK, hD9⟩, hS.F ht⟩) hS.2.2 dX3_endsList_29
    · have c14 := n_eq (a := pl) (b := 4) (by omega) (by omega) c14
      refine lv_aload_n hx hb dX3_endsList_17 rfl (lv_at hl 0 rfl) ?_
      refine va_get (D := (dC, dI)) (ci := 3) (v := .int (nI dg)) (C := RX3) (T := TX3) (N := 7) hx hb hts iX3 hown hK hP 0 rfl rfl 4 (by decide) w1 (fun _ h9 => h9) rfl dX3_endsList_18 ?_
      refine lv_if_le (tgt := 28) hx hb dX3_endsList_21 (by decide) (fun c21 => ?_) (fun c21 => ?_)
      · have c21 := n_le (a := dg) (b := 0) (by omega) (by omega) c21
        have c21 : ¬ 0 < dg := by omega
        refine lv_iconst (v := 0) hx hb dX3_endsList_28 (by decide) ?_
        have r3 : 0 = (bI (decide (pl = 9) || (decide (pl = 4) && decide (0 < dg)))) := by simp [bI, *]
        have hP9 : va_P (dC, dI) vwCl [(aL, .inr (3, [.ref aQ, .int (nI n), .int (nI pl), .int (nI row), .int (nI dg), .int (nI sz), .int (bI ng)]))] H := by exact hP.sub [0] rfl
        have hD9 : va_D A [(aL, .inr (3, [.ref aQ, .int (nI n), .int (nI pl), .int (nI row), .int (nI dg), .int (nI sz), .int (bI ng)]))] := by exact hD.sub [0] (by decide) rfl
        subst hAe
        subst hQe
        exact W.zret (v := 0) hx hb hr rfl (fun t ht hW => ⟨⟨_, (), rfl, r3, by rw [ht]; exact hP9, va_K.moved hW.alike hK, hD9⟩, hS.F ht⟩) hS.2.2 dX3_endsList_29
      · have c21 := n_nle (a := dg) (b := 0) (by omega) (by omega) c21
        refine lv_iconst (v := 1) hx hb dX3_endsList_24 (by decide) ?_
        refine lv_goto (tgt := 29) hx hb dX3_endsList_25 (by decide) ?_
        have r4 : 1 = (bI (decide (pl = 9) || (decide (pl = 4) && decide (0 < dg)))) := by simp [bI, *]
        have hP9 : va_P (dC, dI) vwCl [(aL, .inr (3, [.ref aQ, .int (nI n), .int (nI pl), .int (nI row), .int (nI dg), .int (nI sz), .int (bI ng)]))] H := by exact hP.sub [0] rfl
        have hD9 : va_D A [(aL, .inr (3, [.ref aQ, .int (nI n), .int (nI pl), .int (nI row), .int (nI dg), .int (nI sz), .int (bI ng)]))] := by exact hD.sub [0] (by decide) rfl
        subst hAe
        subst hQe
        exact W.zret (v := 1) hx hb hr rfl (fun t ht hW => ⟨⟨_, (), rfl, r4, by rw [ht]; exact hP9, va_K.moved hW.alike hK, hD9⟩, hS.F ht⟩) hS.2.2 dX3_endsList_29
set_option maxHeartbeats 4000000 in
set_option maxRecDepth 100000 in
theorem c_X3_beginNumber (l : Launch) (dC : Nat → ClassId) (dI : Nat → Nat → Nat) (cyI cyZ cyJ cyD : ClassId) (aL aQ : Nat) (zH : Nat) (n : Nat) (pl : Nat) (row : Nat) (dg : Nat) (sz : Nat) (ng : Bool) (b : Bool) (nx : Nat) : Met l yX3_beginNumber wsX3_beginNumber ({ frames := 0, cells := 0, slots := 0, locals := 0 } : Room) (va_Pc [.ref aL, .int (bI b), .int (nI nx)] (fun U => U.heap.size = zH ∧ va_P (dC, dI) vwCl [(aL, .inr (3, [.ref aQ, .int (nI n), .int (nI pl), .int (nI row), .int (nI dg), .int (nI sz), .int (bI ng)]))] U.heap ∧ va_K (dC, dI) vwCl [(cyI, .int), (cyZ, .boolean), (cyJ, .long), (cyD, .double)] U ∧ va_D (fun _ => True) [(aL, .inr (3, [.ref aQ, .int (nI n), .int (nI pl), .int (nI row), .int (nI dg), .int (nI sz), .int (bI ng)]))])) (va_Qv (fun _ : Unit => True) (fun _ t => va_P (dC, dI) vwCl [(aL, .inr (3, [.ref aQ, .int (nI n), .int (nI nx), .int (nI row), .int (nI 0), .int (nI 0), .int (bI b)]))] t.heap ∧ va_K (dC, dI) vwCl [(cyI, .int), (cyZ, .boolean), (cyJ, .long), (cyD, .double)] t ∧ va_D (va_A [(aL, .inr (3, [.ref aQ, .int (nI n), .int (nI pl), .int (nI row), .int (nI dg), .int (nI sz), .int (bI ng)]))] zH) [(aL, .inr (3, [.ref aQ, .int (nI n), .int (nI nx), .int (nI row), .int (nI 0), .int (nI 0), .int (bI b)]))]) (va_A [(aL, .inr (3, [.ref aQ, .int (nI n), .int (nI pl), .int (nI row), .int (nI dg), .int (nI sz), .int (bI ng)]))] zH)) 0 0 (va_A [(aL, .inr (3, [.ref aQ, .int (nI n), .int (nI pl), .int (nI row), .int (nI dg), .int (nI sz), .int (bI ng)]))] zH) := by
  refine Met.ofW (cc := cX3_beginNumber) (maxL := 3) (ret := none) (by decide) rfl ?_
  intro pM eM s mM args blM mtM cM s₁ BM hml hv
  obtain ⟨rfl, hsz, hP, hK, hD0⟩ := hv
  have hx := BM.exec
  have hb := BM.bytes
  have hr := BM.returns
  have hts := atoms_spec (ws := wsX3_beginNumber) BM.pre
  have hown : s.vm.findClass RX3 = some mM.cls := findClass_of_methodNamed BM.named
  have hlocks := BM.notSynchronized
  have w0 := hts (.fieldLink RX3 34 "DimensionChecker$ListReader" "negative" "Z") (by decide +kernel)
  have w1 := hts (.fieldLink RX3 28 "DimensionChecker$ListReader" "digits" "I") (by decide +kernel)
  have w2 := hts (.fieldLink RX3 31 "DimensionChecker$ListReader" "size" "I") (by decide +kernel)
  have w3 := hts (.fieldLink RX3 22 "DimensionChecker$ListReader" "place" "I") (by decide +kernel)
  have iX3 : ∀ w ∈ wsX30, w ∈ wsX3_beginNumber := by decide +kernel
  subst hsz
  have hD := hD0.self (sz := s.heap.size)
  obtain ⟨Q, hQe⟩ : ∃ Q : State → Prop, Q = MQ blM (va_Qv (fun _ : Unit => True) (fun _ t => va_P (dC, dI) vwCl [(aL, .inr (3, [.ref aQ, .int (nI n), .int (nI nx), .int (nI row), .int (nI 0), .int (nI 0), .int (bI b)]))] t.heap ∧ va_K (dC, dI) vwCl [(cyI, .int), (cyZ, .boolean), (cyJ, .long), (cyD, .double)] t ∧ va_D (va_A [(aL, .inr (3, [.ref aQ, .int (nI n), .int (nI pl), .int (nI row), .int (nI dg), .int (nI sz), .int (bI ng)]))] s.heap.size) [(aL, .inr (3, [.ref aQ, .int (nI n), .int (nI nx), .int (nI row), .int (nI 0), .int (nI 0), .int (bI b)]))]) (va_A [(aL, .inr (3, [.ref aQ, .int (nI n), .int (nI pl), .int (nI row), .int (nI dg), .int (nI sz), .int (bI ng)]))] s.heap.size)) ([.ref aL, .int (bI b), .int (nI nx)] : List Value).toArray s 0 0 (va_A [(aL, .inr (3, [.ref aQ, .int (nI n), .int (nI pl), .int (nI row), .int (nI dg), .int (nI sz), .int (bI ng)]))] s.heap.size) := ⟨_, rfl⟩
  rw [← hQe]
  generalize hAe : va_A [(aL, .inr (3, [.ref aQ, .int (nI n), .int (nI pl), .int (nI row), .int (nI dg), .int (nI sz), .int (bI ng)]))] s.heap.size = A at hD hQe
  have hA : ∀ q : Nat, s.heap.size ≤ q → A q := fun q h => by rw [← hAe]; exact Or.inr h
  obtain ⟨H, hHe⟩ : ∃ H : Heap, H = s.heap := ⟨_, rfl⟩
  have hS : va_S A s.heap H [] := by rw [hHe]; exact va_S.rf
  rw [← hHe] at hP ⊢
  have hl := lv_entry ([.ref aL, .int (bI b), .int (nI nx)]) (n := 3) (Nat.le_of_ble_eq_true rfl)
  rw [lg_entry_eq]
  generalize (lg_sl ([.ref aL, .int (bI b), .int (nI nx)]) ++ List.replicate (3 - (lg_sl ([.ref aL, .int (bI b), .int (nI nx)])).length) Slot.unset).toArray = ls at hl ⊢
  have hl : lv_has ls 3 [(0, .ref aL), (1, .int (bI b)), (2, .int (nI nx))] := hl
  refine lv_aload_n hx hb dX3_beginNumber_0 rfl (lv_at hl 0 rfl) ?_
  refine lv_iload_n hx hb dX3_beginNumber_1 rfl (lv_at hl 1 rfl) ?_
  refine va_put (D := (dC, dI)) (ci := 3) (v := .int (bI b)) (ty := .boolean) (C := RX3) (T := TX3) (N := 7) hx hb hts iX3 tyX3 tyX3_ok nmX3 hown hK hP hD hS 0 rfl rfl 6 (by decide) w0 (fun _ h9 => h9) rfl (by decide +kernel) (bI_nar _) (bI_fit _) (Nat.le_of_ble_eq_true rfl) dX3_beginNumber_2 (fun H locs hP hD hS => ?_)
  have hP : va_P (dC, dI) vwCl [(aL, .inr (3, [.ref aQ, .int (nI n), .int (nI pl), .int (nI row), .int (nI dg), .int (nI sz), .int (bI b)]))] H := hP
  have hD : va_D A [(aL, .inr (3, [.ref aQ, .int (nI n), .int (nI pl), .int (nI row), .int (nI dg), .int (nI sz), .int (bI b)]))] := hD
  refine lv_aload_n hx hb dX3_beginNumber_5 rfl (lv_at hl 0 rfl) ?_
  refine lv_iconst (v := 0) hx hb dX3_beginNumber_6 (by decide) ?_
  refine va_put (D := (dC, dI)) (ci := 3) (v := .int 0) (ty := .int) (C := RX3) (T := TX3) (N := 7) hx hb hts iX3 tyX3 tyX3_ok nmX3 hown hK hP hD hS 0 rfl rfl 4 (by decide) w1 (fun _ h9 => h9) rfl (by decide +kernel) rfl rfl (Nat.le_of_ble_eq_true rfl) dX3_beginNumber_7 (fun H locs hP hD hS => ?_)
  have hP : va_P (dC, dI) vwCl [(aL, .inr (3, [.ref aQ, .int (nI n), .int (nI pl), .int (nI row), .int 0, .int (nI sz), .int (bI b)]))] H := hP
  have hD : va_D A [(aL, .inr (3, [.ref aQ, .int (nI n), .int (nI pl), .int (nI row), .int 0, .int (nI sz), .int (bI b)]))] := hD
  refine lv_aload_n hx hb dX3_beginNumber_10 rfl (lv_at hl 0 rfl) ?_
  refine lv_iconst (v := 0) hx hb dX3_beginNumber_11 (by decide) ?_
  refine va_put (D := (dC, dI)) (ci := 3) (v := .int 0) (ty := .int) (C := RX3) (T := TX3) (N := 7) hx hb hts iX3 tyX3 tyX3_ok nmX3 hown hK hP hD hS 0 rfl rfl 5 (by decide) w2 (fun _ h9 => h9) rfl (by decide +kernel) rfl rfl (Nat.le_of_ble_eq_true rfl) dX3_beginNumber_12 (fun H locs hP hD hS => ?_)
  have hP : va_P (dC, dI) vwCl [(aL, .inr (3, [.ref aQ, .int (nI n), .int (nI pl), .int (nI row), .int 0, .int 0, .int (bI b)]))] H := hP
  have hD : va_D A [(aL, .inr (3, [.ref aQ, .int (nI n), .int (nI pl), .int (nI row), .int 0, .int 0, .int (bI b)]))] := hD
  refine lv_aload_n hx hb dX3_beginNumber_15 rfl (lv_at hl 0 rfl) ?_
  refine lv_iload_n hx hb dX3_beginNumber_16 rfl (lv_at hl 2 rfl) ?_
  refine va_put (D := (dC, dI)) (ci := 3) (v := .int (nI nx)) (ty := .int) (C := RX3) (T := TX3) (N := 7) hx hb hts iX3 tyX3 tyX3_ok nmX3 hown hK hP hD hS 0 rfl rfl 2 (by decide) w3 (fun _ h9 => h9) rfl (by decide +kernel) rfl rfl (Nat.le_of_ble_eq_true rfl) dX3_beginNumber_17 (fun H locs hP hD hS => ?_)
  have hP : va_P (dC, dI) vwCl [(aL, .inr (3, [.ref aQ, .int (nI n), .int (nI nx), .int (nI row), .int 0, .int 0, .int (bI b)]))] H := hP
  have hD : va_D A [(aL, .inr (3, [.ref aQ, .int (nI n), .int (nI nx), .int (nI row), .int 0, .int 0, .int (bI b)]))] := hD
  have q1 : (nI 0) = 0 := by first | rfl | simp [*] | (simp only [*]; done)
  have q2 : (nI 0) = 0 := by first | rfl | simp [*] | (simp only [*]; done)
  have hP9 : va_P (dC, dI) vwCl [(aL, .inr (3, [.ref aQ, .int (nI n), .int (nI nx), .int (nI row), .int (nI 0), .int (nI 0), .int (bI b)]))] H := by first | (rw [q1, q2]; exact hP.sub [0] rfl) | (simp only [q1, q2]; exact hP.sub [0] rfl) | exact hP.sub [0] rfl
  have hD9 : va_D A [(aL, .inr (3, [.ref aQ, .int (nI n), .int (nI nx), .int (nI row), .int (nI 0), .int (nI 0), .int (bI b)]))] := by first | (rw [q1, q2]; exact hD.sub [0] (by decide) rfl) | (simp only [q1, q2]; exact hD.sub [0] (by decide) rfl) | exact hD.sub [0] (by decide) rfl
  subst hAe
  subst hQe
  exact W.vret hx hb hr (fun t ht hW => ⟨⟨(), rfl, trivial, by rw [ht]; exact hP9, va_K.moved hW.alike hK, hD9⟩, hS.F ht⟩) hS.2.2 dX3_beginNumber_20
set_option maxHeartbeats 4000000 in
set_option maxRecDepth 100000 in
theorem c_X3_takeSign (l : Launch) (dC : Nat → ClassId) (dI : Nat → Nat → Nat) (cyI cyZ cyJ cyD : ClassId) (aL aQ : Nat) (zH : Nat) (n : Nat) (pl : Nat) (row : Nat) (dg : Nat) (sz : Nat) (ng : Bool) (c : Nat) (sg : Nat) (nx : Nat) (hc : c < 128) (hsg : sg < 128) : Met l yX3_takeSign wsX3_takeSign ({ frames := 0, cells := 0, slots := 0, locals := 0 } : Room) (va_Pc [.ref aL, .int (nI c), .int (nI sg), .int (nI nx)] (fun U => U.heap.size = zH ∧ va_P (dC, dI) vwCl [(aL, .inr (3, [.ref aQ, .int (nI n), .int (nI pl), .int (nI row), .int (nI dg), .int (nI sz), .int (bI ng)]))] U.heap ∧ va_K (dC, dI) vwCl [(cyI, .int), (cyZ, .boolean), (cyJ, .long), (cyD, .double)] U ∧ va_D (fun _ => True) [(aL, .inr (3, [.ref aQ, .int (nI n), .int (nI pl), .int (nI row), .int (nI dg), .int (nI sz), .int (bI ng)]))])) (va_Qi (fun (r : Int32) (_ : Unit) => r = bI (decide (c = sg))) (fun _ t => va_P (dC, dI) vwCl [(aL, .inr (3, [.ref aQ, .int (nI n), .int (nI (if c = sg then nx else pl)), .int (nI row), .int (nI dg), .int (nI sz), .int (bI ng)]))] t.heap ∧ va_K (dC, dI) vwCl [(cyI, .int), (cyZ, .boolean), (cyJ, .long), (cyD, .double)] t ∧ va_D (va_A [(aL, .inr (3, [.ref aQ, .int (nI n), .int (nI pl), .int (nI row), .int (nI dg), .int (nI sz), .int (bI ng)]))] zH) [(aL, .inr (3, [.ref aQ, .int (nI n), .int (nI (if c = sg then nx else pl)), .int (nI row), .int (nI dg), .int (nI sz), .int (bI ng)]))]) (va_A [(aL, .inr (3, [.ref aQ, .int (nI n), .int (nI pl), .int (nI row), .int (nI dg), .int (nI sz), .int (bI ng)]))] zH)) 0 0 (va_A [(aL, .inr (3, [.ref aQ, .int (nI n), .int (nI pl), .int (nI row), .int (nI dg), .int (nI sz), .int (bI ng)]))] zH) := by
  refine Met.ofW (cc := cX3_takeSign) (maxL := 4) (ret := (some .boolean)) (by decide) rfl ?_
  intro pM eM s mM args blM mtM cM s₁ BM hml hv
  obtain ⟨rfl, hsz, hP, hK, hD0⟩ := hv
  have hx := BM.exec
  have hb := BM.bytes
  have hr := BM.returns
  have hts := atoms_spec (ws := wsX3_takeSign) BM.pre
  have hown : s.vm.findClass RX3 = some mM.cls := findClass_of_methodNamed BM.named
  have hlocks := BM.notSynchronized
  have w0 := hts (.fieldLink RX3 22 "DimensionChecker$ListReader" "place" "I") (by decide +kernel)
  have iX3 : ∀ w ∈ wsX30, w ∈ wsX3_takeSign := by decide +kernel
  subst hsz
  have hD := hD0.self (sz := s.heap.size)
  obtain ⟨Q, hQe⟩ : ∃ Q : State → Prop, Q = MQ blM (va_Qi (fun (r : Int32) (_ : Unit) => r = bI (decide (c = sg))) (fun _ t => va_P (dC, dI) vwCl [(aL, .inr (3, [.ref aQ, .int (nI n), .int (nI (if c = sg then nx else pl)), .int (nI row), .int (nI dg), .int (nI sz), .int (bI ng)]))] t.heap ∧ va_K (dC, dI) vwCl [(cyI, .int), (cyZ, .boolean), (cyJ, .long), (cyD, .double)] t ∧ va_D (va_A [(aL, .inr (3, [.ref aQ, .int (nI n), .int (nI pl), .int (nI row), .int (nI dg), .int (nI sz), .int (bI ng)]))] s.heap.size) [(aL, .inr (3, [.ref aQ, .int (nI n), .int (nI (if c = sg then nx else pl)), .int (nI row), .int (nI dg), .int (nI sz), .int (bI ng)]))]) (va_A [(aL, .inr (3, [.ref aQ, .int (nI n), .int (nI pl), .int (nI row), .int (nI dg), .int (nI sz), .int (bI ng)]))] s.heap.size)) ([.ref aL, .int (nI c), .int (nI sg), .int (nI nx)] : List Value).toArray s 0 0 (va_A [(aL, .inr (3, [.ref aQ, .int (nI n), .int (nI pl), .int (nI row), .int (nI dg), .int (nI sz), .int (bI ng)]))] s.heap.size) := ⟨_, rfl⟩
  rw [← hQe]
  generalize hAe : va_A [(aL, .inr (3, [.ref aQ, .int (nI n), .int (nI pl), .int (nI row), .int (nI dg), .int (nI sz), .int (bI ng)]))] s.heap.size = A at hD hQe
  have hA : ∀ q : Nat, s.heap.size ≤ q → A q := fun q h => by rw [← hAe]; exact Or.inr h
  obtain ⟨H, hHe⟩ : ∃ H : Heap, H = s.heap := ⟨_, rfl⟩
  have hS : va_S A s.heap H [] := by rw [hHe]; exact va_S.rf
  rw [← hHe] at hP ⊢
  have hl := lv_entry ([.ref aL, .int (nI c), .int (nI sg), .int (nI nx)]) (n := 4) (Nat.le_of_ble_eq_true rfl)
  rw [lg_entry_eq]
  generalize (lg_sl ([.ref aL, .int (nI c), .int (nI sg), .int (nI nx)]) ++ List.replicate (4 - (lg_sl ([.ref aL, .int (nI c), .int (nI sg), .int (nI nx)])).length) Slot.unset).toArray = ls at hl ⊢
  have hl : lv_has ls 4 [(0, .ref aL), (1, .int (nI c)), (2, .int (nI sg)), (3, .int (nI nx))] := hl
  refine lv_iload_n hx hb dX3_takeSign_0 rfl (lv_at hl 1 rfl) ?_
  refine lv_iload_n hx hb dX3_takeSign_1 rfl (lv_at hl 2 rfl) ?_
  refine lv_icmp_eq (tgt := 7) hx hb dX3_takeSign_2 (by decide) (fun c2 => ?_) (fun c2 => ?_)
  · have c2 := n_eq (a := c) (b := sg) (by omega) (by omega) c2
    refine lv_aload_n hx hb dX3_takeSign_7 rfl (lv_at hl 0 rfl) ?_
    refine lv_iload_n hx hb dX3_takeSign_8 rfl (lv_at hl 3 rfl) ?_
    refine va_put (D := (dC, dI)) (ci := 3) (v := .int (nI nx)) (ty := .int) (C := RX3) (T := TX3) (N := 7) hx hb hts iX3 tyX3 tyX3_ok nmX3 hown hK hP hD hS 0 rfl rfl 2 (by decide) w0 (fun _ h9 => h9) rfl (by decide +kernel) rfl rfl (Nat.le_of_ble_eq_true rfl) dX3_takeSign_9 (fun H locs hP hD hS => ?_)
    have hP : va_P (dC, dI) vwCl [(aL, .inr (3, [.ref aQ, .int (nI n), .int (nI nx), .int (nI row), .int (nI dg), .int (nI sz), .int (bI ng)]))] H := hP
    have hD : va_D A [(aL, .inr (3, [.ref aQ, .int (nI n), .int (nI nx), .int (nI row), .int (nI dg), .int (nI sz), .int (bI ng)]))] := hD
    refine lv_iconst (v := 1) hx hb dX3_takeSign_12 (by decide) ?_
    have r1 : 1 = (bI (decide (c = sg))) := by simp [bI, c2]
    have q2 : (nI (if c = sg then nx else pl)) = (nI nx) := by simp [c2]
    have hP9 : va_P (dC, dI) vwCl [(aL, .inr (3, [.ref aQ, .int (nI n), .int (nI (if c = sg then nx else pl)), .int (nI row), .int (nI dg), .int (nI sz), .int (bI ng)]))] H := by first | (rw [q2]; exact hP.sub [0] rfl) | (simp only [q2]; exact hP.sub [0] rfl) | exact hP.sub [0] rfl
    have hD9 : va_D A [(aL, .inr (3, [.ref aQ, .int (nI n), .int (nI (if c = sg then nx else pl)), .int (nI row), .int (nI dg), .int (nI sz), .int (bI ng)]))] := by first | (rw [q2]; exact hD.sub [0] (by decide) rfl) | (simp only [q2]; exact hD.sub [0] (by decide) rfl) | exact hD.sub [0] (by decide) rfl
    subst hAe
    subst hQe
    exact W.zret (v := 1) hx hb hr rfl (fun t ht hW => ⟨⟨_, (), rfl, r1, by rw [ht]; exact hP9, va_K.moved hW.alike hK, hD9⟩, hS.F ht⟩) hS.2.2 dX3_takeSign_13
  · have c2 := n_ne (a := c) (b := sg) (by omega) (by omega) c2
    refine lv_iconst (v := 0) hx hb dX3_takeSign_5 (by decide) ?_
    have r3 : 0 = (bI (decide (c = sg))) := by simp [bI, c2]
    have q4 : (nI (if c = sg then nx else pl)) = (nI pl) := by simp [c2]
    have hP9 : va_P (dC, dI) vwCl [(aL, .inr (3, [.ref aQ, .int (nI n), .int (nI (if c = sg then nx else pl)), .int (nI row), .int (nI dg), .int (nI sz), .int (bI ng)]))] H := by first | (rw [q4]; exact hP.sub [0] rfl) | (simp only [q4]; exact hP.sub [0] rfl) | exact hP.sub [0] rfl
    have hD9 : va_D A [(aL, .inr (3, [.ref aQ, .int (nI n), .int (nI (if c = sg then nx else pl)), .int (nI row), .int (nI dg), .int (nI sz), .int (bI ng)]))] := by first | (rw [q4]; exact hD.sub [0] (by decide) rfl) | (simp only [q4]; exact hD.sub [0] (by decide) rfl) | exact hD.sub [0] (by decide) rfl
    subst hAe
    subst hQe
    exact W.zret (v := 0) hx hb hr rfl (fun t ht hW => ⟨⟨_, (), rfl, r3, by rw [ht]; exact hP9, va_K.moved hW.alike hK, hD9⟩, hS.F ht⟩) hS.2.2 dX3_takeSign_6
set_option maxHeartbeats 4000000 in
set_option maxRecDepth 100000 in
theorem c_X3_takeDigit (l : Launch) (dC : Nat → ClassId) (dI : Nat → Nat → Nat) (cyI cyZ cyJ cyD : ClassId) (aL aQ : Nat) (zH : Nat) (n : Nat) (pl : Nat) (row : Nat) (dg : Nat) (sz : Nat) (ng : Bool) (c : Nat) (mo : Nat) (hc : c < 128) (hmo : mo ≤ 5) (hdg : dg ≤ 5) (hsz : sz < 100000) : Met l yX3_takeDigit wsX3_takeDigit ({ frames := 0, cells := 0, slots := 0, locals := 0 } : Room) (va_Pc [.ref aL, .int (nI c), .int (nI mo)] (fun U => U.heap.size = zH ∧ va_P (dC, dI) vwCl [(aL, .inr (3, [.ref aQ, .int (nI n), .int (nI pl), .int (nI row), .int (nI dg), .int (nI sz), .int (bI ng)]))] U.heap ∧ va_K (dC, dI) vwCl [(cyI, .int), (cyZ, .boolean), (cyJ, .long), (cyD, .double)] U ∧ va_D (fun _ => True) [(aL, .inr (3, [.ref aQ, .int (nI n), .int (nI pl), .int (nI row), .int (nI dg), .int (nI sz), .int (bI ng)]))])) (va_Qi (fun (r : Int32) (_ : Unit) => r = bI (dgB c dg mo)) (fun _ t => va_P (dC, dI) vwCl [(aL, .inr (3, [.ref aQ, .int (nI n), .int (nI pl), .int (nI row), .int (nI (if dgB c dg mo = true then dg + 1 else dg)), .int (nI (if dgB c dg mo = true then sz * 10 + c - 48 else sz)), .int (bI ng)]))] t.heap ∧ va_K (dC, dI) vwCl [(cyI, .int), (cyZ, .boolean), (cyJ, .long), (cyD, .double)] t ∧ va_D (va_A [(aL, .inr (3, [.ref aQ, .int (nI n), .int (nI pl), .int (nI row), .int (nI dg), .int (nI sz), .int (bI ng)]))] zH) [(aL, .inr (3, [.ref aQ, .int (nI n), .int (nI pl), .int (nI row), .int (nI (if dgB c dg mo = true then dg + 1 else dg)), .int (nI (if dgB c dg mo = true then sz * 10 + c - 48 else sz)), .int (bI ng)]))]) (va_A [(aL, .inr (3, [.ref aQ, .int (nI n), .int (nI pl), .int (nI row), .int (nI dg), .int (nI sz), .int (bI ng)]))] zH)) 0 0 (va_A [(aL, .inr (3, [.ref aQ, .int (nI n), .int (nI pl), .int (nI row), .int (nI dg), .int (nI sz), .int (bI ng)]))] zH) := by
  refine Met.ofW (cc := cX3_takeDigit) (maxL := 3) (ret := (some .boolean)) (by decide) rfl ?_
  intro pM eM s mM args blM mtM cM s₁ BM hml hv
  obtain ⟨rfl, hsz, hP, hK, hD0⟩ := hv
  have hx := BM.exec
  have hb := BM.bytes
  have hr := BM.returns
  have hts := atoms_spec (ws := wsX3_takeDigit) BM.pre
  have hown : s.vm.findClass RX3 = some mM.cls := findClass_of_methodNamed BM.named
  have hlocks := BM.notSynchronized
  have w0 := hts (.fieldLink RX3 28 "DimensionChecker$ListReader" "digits" "I") (by decide +kernel)
  have w1 := hts (.fieldLink RX3 31 "DimensionChecker$ListReader" "size" "I") (by decide +kernel)
  have iX3 : ∀ w ∈ wsX30, w ∈ wsX3_takeDigit := by decide +kernel
  subst hsz
  have hD := hD0.self (sz := s.heap.size)
  obtain ⟨Q, hQe⟩ : ∃ Q : State → Prop, Q = MQ blM (va_Qi (fun (r : Int32) (_ : Unit) => r = bI (dgB c dg mo)) (fun _ t => va_P (dC, dI) vwCl [(aL, .inr (3, [.ref aQ, .int (nI n), .int (nI pl), .int (nI row), .int (nI (if dgB c dg mo = true then dg + 1 else dg)), .int (nI (if dgB c dg mo = true then sz * 10 + c - 48 else sz)), .int (bI ng)]))] t.heap ∧ va_K (dC, dI) vwCl [(cyI, .int), (cyZ, .boolean), (cyJ, .long), (cyD, .double)] t ∧ va_D (va_A [(aL, .inr (3, [.ref aQ, .int (nI n), .int (nI pl), .int (nI row), .int (nI dg), .int (nI sz), .int (bI ng)]))] s.heap.size) [(aL, .inr (3, [.ref aQ, .int (nI n), .int (nI pl), .int (nI row), .int (nI (if dgB c dg mo = true then dg + 1 else dg)), .int (nI (if dgB c dg mo = true then sz * 10 + c - 48 else sz)), .int (bI ng)]))]) (va_A [(aL, .inr (3, [.ref aQ, .int (nI n), .int (nI pl), .int (nI row), .int (nI dg), .int (nI sz), .int (bI ng)]))] s.heap.size)) ([.ref aL, .int (nI c), .int (nI mo)] : List Value).toArray s 0 0 (va_A [(aL, .inr (3, [.ref aQ, .int (nI n), .int (nI pl), .int (nI row), .int (nI dg), .int (nI sz), .int (bI ng)]))] s.heap.size) := ⟨_, rfl⟩
  rw [← hQe]
  generalize hAe : va_A [(aL, .inr (3, [.ref aQ, .int (nI n), .int (nI pl), .int (nI row), .int (nI dg), .int (nI sz), .int (bI ng)]))] s.heap.size = A at hD hQe
  have hA : ∀ q : Nat, s.heap.size ≤ q → A q := fun q h => by rw [← hAe]; exact Or.inr h
  obtain ⟨H, hHe⟩ : ∃ H : Heap, H = s.heap := ⟨_, rfl⟩
  have hS : va_S A s.heap H [] := by rw [hHe]; exact va_S.rf
  rw [← hHe] at hP ⊢
  have hl := lv_entry ([.ref aL, .int (nI c), .int (nI mo)]) (n := 3) (Nat.le_of_ble_eq_true rfl)
  rw [lg_entry_eq]
  generalize (lg_sl ([.ref aL, .int (nI c), .int (nI mo)]) ++ List.replicate (3 - (lg_sl ([.ref aL, .int (nI c), .int (nI mo)])).length) Slot.unset).toArray = ls at hl ⊢
  have hl : lv_has ls 3 [(0, .ref aL), (1, .int (nI c)), (2, .int (nI mo))] := hl
  refine lv_iload_n hx hb dX3_takeDigit_0 rfl (lv_at hl 1 rfl) ?_
  refine lv_bipush (v := 48) hx hb dX3_takeDigit_1 (by decide) ?_
  refine lv_icmp_lt (tgt := 20) hx hb dX3_takeDigit_3 (by decide) (fun c3 => ?_) (fun c3 => ?_)
  · have c3 := n_lt (a := c) (b := 48) (by omega) (by omega) c3
    have hdB : dgB c dg mo = false := by simp [dgB]; omega
    refine lv_iconst (v := 0) hx hb dX3_takeDigit_20 (by decide) ?_
    have r1 : 0 = (bI (dgB c dg mo)) := by rw [hdB]; rfl
    have q2 : (nI (if dgB c dg mo = true then dg + 1 else dg)) = (nI dg) := by rw [hdB]; rfl
    have q3 : (nI (if dgB c dg mo = true then sz * 10 + c - 48 else sz)) = (nI sz) := by rw [hdB]; rfl
    have hP9 : va_P (dC, dI) vwCl [(aL, .inr (3, [.ref aQ, .int (nI n), .int (nI pl), .int (nI row), .int (nI (if dgB c dg mo = true then dg + 1 else dg)), .int (nI (if dgB c dg mo = true then sz * 10 + c - 48 else sz)), .int (bI ng)]))] H := by first | (rw [q2, q3]; exact hP.sub [0] rfl) | (simp only [q2, q3]; exact hP.sub [0] rfl) | exact hP.sub [0] rfl
    have hD9 : va_D A [(aL, .inr (3, [.ref aQ, .int (nI n), .int (nI pl), .int (nI row), .int (nI (if dgB c dg mo = true then dg + 1 else dg)), .int (nI (if dgB c dg mo = true then sz * 10 + c - 48 else sz)), .int (bI ng)]))] := by first | (rw [q2, q3]; exact hD.sub [0] (by decide) rfl) | (simp only [q2, q3]; exact hD.sub [0] (by decide) rfl) | exact hD.sub [0] (by decide) rfl
    subst hAe
    subst hQe
    exact W.zret (v := 0) hx hb hr rfl (fun t ht hW => ⟨⟨_, (), rfl, r1, by rw [ht]; exact hP9, va_K.moved hW.alike hK, hD9⟩, hS.F ht⟩) hS.2.2 dX3_takeDigit_21
  · have c3 := n_nlt (a := c) (b := 48) (by omega) (by omega) c3
    refine lv_iload_n hx hb dX3_takeDigit_6 rfl (lv_at hl 1 rfl) ?_
    refine lv_bipush (v := 57) hx hb dX3_takeDigit_7 (by decide) ?_
    refine lv_icmp_gt (tgt := 20) hx hb dX3_takeDigit_9 (by decide) (fun c9 => ?_) (fun c9 => ?_)
    · have c9 := n_lt (a := 57) (b := c) (by omega) (by omega) c9
      have hdB : dgB c dg mo = false := by simp [dgB]; omega
      refine lv_iconst (v := 0) hx hb dX3_takeDigit_20 (by decide) ?_
      have r4 : 0 = (bI (dgB c dg mo)) := by rw [hdB]; rfl
      have q5 : (nI (if dgB c dg mo = true then dg + 1 else dg)) = (nI dg) := by rw [hdB]; rfl
      have q6 : (nI (if dgB c dg mo = true then sz * 10 + c - 48 else sz)) = (nI sz) := by rw [hdB]; rfl
      have hP9 : va_P (dC, dI) vwCl [(aL, .inr (3, [.ref aQ, .int (nI n), .int (nI pl), .int (nI row), .int (nI (if dgB c dg mo = true then dg + 1 else dg)), .int (nI (if dgB c dg mo = true then sz * 10 + c - 48 else sz)), .int (bI ng)]))] H := by first | (rw [q5, q6]; exact hP.sub [0] rfl) | (simp only [q5, q6]; exact hP.sub [0] rfl) | exact hP.sub [0] rfl
      have hD9 : va_D A [(aL, .inr (3, [.ref aQ, .int (nI n), .int (nI pl), .int (nI row), .int (nI (if dgB c dg mo = true then dg + 1 else dg)), .int (nI (if dgB c dg mo = true then sz * 10 + c - 48 else sz)), .int (bI ng)]))] := by first | (rw [q5, q6]; exact hD.sub [0] (by decide) rfl) | (simp only [q5, q6]; exact hD.sub [0] (by decide) rfl) | exact hD.sub [0] (by decide) rfl
      subst hAe
      subst hQe
      exact W.zret (v := 0) hx hb hr rfl (fun t ht hW => ⟨⟨_, (), rfl, r4, by rw [ht]; exact hP9, va_K.moved hW.alike hK, hD9⟩, hS.F ht⟩) hS.2.2 dX3_takeDigit_21
    · have c9 := n_nlt (a := 57) (b := c) (by omega) (by omega) c9
      refine lv_aload_n hx hb dX3_takeDigit_12 rfl (lv_at hl 0 rfl) ?_
      refine va_get (D := (dC, dI)) (ci := 3) (v := .int (nI dg)) (C := RX3) (T := TX3) (N := 7) hx hb hts iX3 hown hK hP 0 rfl rfl 4 (by decide) w0 (fun _ h9 => h9) rfl dX3_takeDigit_13 ?_
      refine lv_iload_n hx hb dX3_takeDigit_16 rfl (lv_at hl 2 rfl) ?_
      refine lv_icmp_lt (tgt := 22) hx hb dX3_takeDigit_17 (by decide) (fun c17 => ?_) (fun c17 => ?_)
      · have c17 := n_lt (a := dg) (b := mo) (by omega) (by omega) c17
        have hdB : dgB c dg mo = true := by simp [dgB]; omega
        refine lv_aload_n hx hb dX3_takeDigit_22 rfl (lv_at hl 0 rfl) ?_
        refine lv_dup hx hb dX3_takeDigit_23 rfl ?_
        refine va_get (D := (dC, dI)) (ci := 3) (v := .int (nI dg)) (C := RX3) (T := TX3) (N := 7) hx hb hts iX3 hown hK hP 0 rfl rfl 4 (by decide) w0 (fun _ h9 => h9) rfl dX3_takeDigit_24 ?_
        refine lv_iconst (v := 1) hx hb dX3_takeDigit_27 (by decide) ?_
        refine lv_iadd hx hb dX3_takeDigit_28 ?_
        refine lv_topi (fun x7 e8 => ?_)
        obtain rfl : x7 = (nI (dg + 1)) := by rw [e8]; exact nI_add dg 1
        clear e8
        refine va_put (D := (dC, dI)) (ci := 3) (v := .int (nI (dg + 1))) (ty := .int) (C := RX3) (T := TX3) (N := 7) hx hb hts iX3 tyX3 tyX3_ok nmX3 hown hK hP hD hS 0 rfl rfl 4 (by decide) w0 (fun _ h9 => h9) rfl (by decide +kernel) rfl rfl (Nat.le_of_ble_eq_true rfl) dX3_takeDigit_29 (fun H locs hP hD hS => ?_)
        have hP : va_P (dC, dI) vwCl [(aL, .inr (3, [.ref aQ, .int (nI n), .int (nI pl), .int (nI row), .int (nI (dg + 1)), .int (nI sz), .int (bI ng)]))] H := hP
        have hD : va_D A [(aL, .inr (3, [.ref aQ, .int (nI n), .int (nI pl), .int (nI row), .int (nI (dg + 1)), .int (nI sz), .int (bI ng)]))] := hD
        refine lv_aload_n hx hb dX3_takeDigit_32 rfl (lv_at hl 0 rfl) ?_
        refine lv_aload_n hx hb dX3_takeDigit_33 rfl (lv_at hl 0 rfl) ?_
        refine va_get (D := (dC, dI)) (ci := 3) (v := .int (nI sz)) (C := RX3) (T := TX3) (N := 7) hx hb hts iX3 hown hK hP 0 rfl rfl 5 (by decide) w1 (fun _ h9 => h9) rfl dX3_takeDigit_34 ?_
        refine lv_bipush (v := 10) hx hb dX3_takeDigit_37 (by decide) ?_
        refine lv_imul hx hb dX3_takeDigit_39 ?_
        refine lv_topi (fun x9 e10 => ?_)
        obtain rfl : x9 = (nI (sz * 10)) := by rw [e10]; exact pk_mul sz 10
        clear e10
        refine lv_iload_n hx hb dX3_takeDigit_40 rfl (lv_at hl 1 rfl) ?_
        refine lv_iadd hx hb dX3_takeDigit_41 ?_
        refine lv_topi (fun x11 e12 => ?_)
        obtain rfl : x11 = (nI ((sz * 10) + c)) := by rw [e12]; exact nI_add (sz * 10) c
        clear e12
        refine lv_bipush (v := 48) hx hb dX3_takeDigit_42 (by decide) ?_
        refine lv_isub hx hb dX3_takeDigit_44 ?_
        refine lv_topi (fun x13 e14 => ?_)
        obtain rfl : x13 = (nI (((sz * 10) + c) - 48)) := by rw [e14]; exact pk_sub (a := (sz * 10) + c) (b := 48) (by omega)
        clear e14
        refine va_put (D := (dC, dI)) (ci := 3) (v := .int (nI (((sz * 10) + c) - 48))) (ty := .int) (C := RX3) (T := TX3) (N := 7) hx hb hts iX3 tyX3 tyX3_ok nmX3 hown hK hP hD hS 0 rfl rfl 5 (by decide) w1 (fun _ h9 => h9) rfl (by decide +kernel) rfl rfl (Nat.le_of_ble_eq_true rfl) dX3_takeDigit_45 (fun H locs hP hD hS => ?_)
        have hP : va_P (dC, dI) vwCl [(aL, .inr (3, [.ref aQ, .int (nI n), .int (nI pl), .int (nI row), .int (nI (dg + 1)), .int (nI (((sz * 10) + c) - 48)), .int (bI ng)]))] H := hP
        have hD : va_D A [(aL, .inr (3, [.ref aQ, .int (nI n), .int (nI pl), .int (nI row), .int (nI (dg + 1)), .int (nI (((sz * 10) + c) - 48)), .int (bI ng)]))] := hD
        refine lv_iconst (v := 1) hx hb dX3_takeDigit_48 (by decide) ?_
        have r15 : 1 = (bI (dgB c dg mo)) := by rw [hdB]; rfl
        have q16 : (nI (if dgB c dg mo = true then dg + 1 else dg)) = (nI (dg + 1)) := by rw [hdB]; rfl
        have q17 : (nI (if dgB c dg mo = true then sz * 10 + c - 48 else sz)) = (nI (((sz * 10) + c) - 48)) := by rw [hdB]; rfl
        have hP9 : va_P (dC, dI) vwCl [(aL, .inr (3, [.ref aQ, .int (nI n), .int (nI pl), .int (nI row), .int (nI (if dgB c dg mo = true then dg + 1 else dg)), .int (nI (if dgB c dg mo = true then sz * 10 + c - 48 else sz)), .int (bI ng)]))] H := by first | (rw [q16, q17]; exact hP.sub [0] rfl) | (simp only [q16, q17]; exact hP.sub [0] rfl) | exact hP.sub [0] rfl
        have hD9 : va_D A [(aL, .inr (3, [.ref aQ, .int (nI n), .int (nI pl), .int (nI row), .int (nI (if dgB c dg mo = true then dg + 1 else dg)), .int (nI (if dgB c dg mo = true then sz * 10 + c - 48 else sz)), .int (bI ng)]))] := by first | (rw [q16, q17]; exact hD.sub [0] (by decide) rfl) | (simp only [q16, q17]; exact hD.sub [0] (by decide) rfl) | exact hD.sub [0] (by decide) rfl
        subst hAe
        subst hQe
        exact W.zret (v := 1) hx hb hr rfl (fun t ht hW => ⟨⟨_, (), rfl, r15, by rw [ht]; exact hP9, va_K.moved hW.alike hK, hD9⟩, hS.F ht⟩) hS.2.2 dX3_takeDigit_49
      · have c17 := n_nlt (a := dg) (b := mo) (by omega) (by omega) c17
        have hdB : dgB c dg mo = false := by simp [dgB]; omega
        refine lv_iconst (v := 0) hx hb dX3_takeDigit_20 (by decide) ?_
        have r18 : 0 = (bI (dgB c dg mo)) := by rw [hdB]; rfl
        have q19 : (nI (if dgB c dg mo = true then dg + 1 else dg)) = (nI dg) := by rw [hdB]; rfl
        have q20 : (nI (if dgB c dg mo = true then sz * 10 + c - 48 else sz)) = (nI sz) := by rw [hdB]; rfl
        have hP9 : va_P (dC, dI) vwCl [(aL, .inr (3, [.ref aQ, .int (nI n), .int (nI pl), .int (nI row), .int (nI (if dgB c dg mo = true then dg + 1 else dg)), .int (nI (if dgB c dg mo = true then sz * 10 + c - 48 else sz)), .int (bI ng)]))] H := by first | (rw [q19, q20]; exact hP.sub [0] rfl) | (simp only [q19, q20]; exact hP.sub [0] rfl) | exact hP.sub [0] rfl
        have hD9 : va_D A [(aL, .inr (3, [.ref aQ, .int (nI n), .int (nI pl), .int (nI row), .int (nI (if dgB c dg mo = true then dg + 1 else dg)), .int (nI (if dgB c dg mo = true then sz * 10 + c - 48 else sz)), .int (bI ng)]))] := by first | (rw [q19, q20]; exact hD.sub [0] (by decide) rfl) | (simp only [q19, q20]; exact hD.sub [0] (by decide) rfl) | exact hD.sub [0] (by decide) rfl
        subst hAe
        subst hQe
        exact W.zret (v := 0) hx hb hr rfl (fun t ht hW => ⟨⟨_, (), rfl, r18, by rw [ht]; exact hP9, va_K.moved hW.alike hK, hD9⟩, hS.F ht⟩) hS.2.2 dX3_takeDigit_21
set_option maxHeartbeats 4000000 in
set_option maxRecDepth 100000 in
theorem c_X3_number (l : Launch) (dC : Nat → ClassId) (dI : Nat → Nat → Nat) (cyI cyZ cyJ cyD : ClassId) (aL aQ : Nat) (zH : Nat) (n : Nat) (pl : Nat) (row : Nat) (dg : Nat) (sz : Nat) (ng : Bool) : Met l yX3_number wsX3_number ({ frames := 0, cells := 0, slots := 0, locals := 0 } : Room) (va_Pc [.ref aL] (fun U => U.heap.size = zH ∧ va_P (dC, dI) vwCl [(aL, .inr (3, [.ref aQ, .int (nI n), .int (nI pl), .int (nI row), .int (nI dg), .int (nI sz), .int (bI ng)]))] U.heap ∧ va_K (dC, dI) vwCl [(cyI, .int), (cyZ, .boolean), (cyJ, .long), (cyD, .double)] U ∧ va_D (fun _ => True) [(aL, .inr (3, [.ref aQ, .int (nI n), .int (nI pl), .int (nI row), .int (nI dg), .int (nI sz), .int (bI ng)]))])) (va_Qi (fun (r : Int32) (_ : Unit) => r = numV ng sz) (fun _ t => va_P (dC, dI) vwCl [(aL, .inr (3, [.ref aQ, .int (nI n), .int (nI pl), .int (nI row), .int (nI dg), .int (nI sz), .int (bI ng)]))] t.heap ∧ va_K (dC, dI) vwCl [(cyI, .int), (cyZ, .boolean), (cyJ, .long), (cyD, .double)] t ∧ va_D (va_A [(aL, .inr (3, [.ref aQ, .int (nI n), .int (nI pl), .int (nI row), .int (nI dg), .int (nI sz), .int (bI ng)]))] zH) [(aL, .inr (3, [.ref aQ, .int (nI n), .int (nI pl), .int (nI row), .int (nI dg), .int (nI sz), .int (bI ng)]))]) (va_A [(aL, .inr (3, [.ref aQ, .int (nI n), .int (nI pl), .int (nI row), .int (nI dg), .int (nI sz), .int (bI ng)]))] zH)) 0 0 (va_A [(aL, .inr (3, [.ref aQ, .int (nI n), .int (nI pl), .int (nI row), .int (nI dg), .int (nI sz), .int (bI ng)]))] zH) := by
  refine Met.ofW (cc := cX3_number) (maxL := 1) (ret := (some .int)) (by decide) rfl ?_
  intro pM eM s mM args blM mtM cM s₁ BM hml hv
  obtain ⟨rfl, hsz, hP, hK, hD0⟩ := hv
  have hx := BM.exec
  have hb := BM.bytes
  have hr := BM.returns
  have hts := atoms_spec (ws := wsX3_number) BM.pre
  have hown : s.vm.findClass RX3 = some mM.cls := findClass_of_methodNamed BM.named
  have hlocks := BM.notSynchronized
  have w0 := hts (.fieldLink RX3 34 "DimensionChecker$ListReader" "negative" "Z") (by decide +kernel)
  have w1 := hts (.fieldLink RX3 31 "DimensionChecker$ListReader" "size" "I") (by decide +kernel)
  have iX3 : ∀ w ∈ wsX30, w ∈ wsX3_number := by decide +kernel
  subst hsz
  have hD := hD0.self (sz := s.heap.size)
  obtain ⟨Q, hQe⟩ : ∃ Q : State → Prop, Q = MQ blM (va_Qi (fun (r : Int32) (_ : Unit) => r = numV ng sz) (fun _ t => va_P (dC, dI) vwCl [(aL, .inr (3, [.ref aQ, .int (nI n), .int (nI pl), .int (nI row), .int (nI dg), .int (nI sz), .int (bI ng)]))] t.heap ∧ va_K (dC, dI) vwCl [(cyI, .int), (cyZ, .boolean), (cyJ, .long), (cyD, .double)] t ∧ va_D (va_A [(aL, .inr (3, [.ref aQ, .int (nI n), .int (nI pl), .int (nI row), .int (nI dg), .int (nI sz), .int (bI ng)]))] s.heap.size) [(aL, .inr (3, [.ref aQ, .int (nI n), .int (nI pl), .int (nI row), .int (nI dg), .int (nI sz), .int (bI ng)]))]) (va_A [(aL, .inr (3, [.ref aQ, .int (nI n), .int (nI pl), .int (nI row), .int (nI dg), .int (nI sz), .int (bI ng)]))] s.heap.size)) ([.ref aL] : List Value).toArray s 0 0 (va_A [(aL, .inr (3, [.ref aQ, .int (nI n), .int (nI pl), .int (nI row), .int (nI dg), .int (nI sz), .int (bI ng)]))] s.heap.size) := ⟨_, rfl⟩
  rw [← hQe]
  generalize hAe : va_A [(aL, .inr (3, [.ref aQ, .int (nI n), .int (nI pl), .int (nI row), .int (nI dg), .int (nI sz), .int (bI ng)]))] s.heap.size = A at hD hQe
  have hA : ∀ q : Nat, s.heap.size ≤ q → A q := fun q h => by rw [← hAe]; exact Or.inr h
  obtain ⟨H, hHe⟩ : ∃ H : Heap, H = s.heap := ⟨_, rfl⟩
  have hS : va_S A s.heap H [] := by rw [hHe]; exact va_S.rf
  rw [← hHe] at hP ⊢
  have hl := lv_entry ([.ref aL]) (n := 1) (Nat.le_of_ble_eq_true rfl)
  rw [lg_entry_eq]
  generalize (lg_sl ([.ref aL]) ++ List.replicate (1 - (lg_sl ([.ref aL])).length) Slot.unset).toArray = ls at hl ⊢
  have hl : lv_has ls 1 [(0, .ref aL)] := hl
  refine lv_aload_n hx hb dX3_number_0 rfl (lv_at hl 0 rfl) ?_
  refine va_get (D := (dC, dI)) (ci := 3) (v := .int (bI ng)) (C := RX3) (T := TX3) (N := 7) hx hb hts iX3 hown hK hP 0 rfl rfl 6 (by decide) w0 (fun _ h9 => h9) rfl dX3_number_1 ?_
  refine lv_if_eq (tgt := 15) hx hb dX3_number_4 (by decide) (fun c4 => ?_) (fun c4 => ?_)
  · have c4 : ng = false := bI_0 c4
    refine lv_aload_n hx hb dX3_number_15 rfl (lv_at hl 0 rfl) ?_
    refine va_get (D := (dC, dI)) (ci := 3) (v := .int (nI sz)) (C := RX3) (T := TX3) (N := 7) hx hb hts iX3 hown hK hP 0 rfl rfl 5 (by decide) w1 (fun _ h9 => h9) rfl dX3_number_16 ?_
    have r1 : (nI sz) = (numV ng sz) := by rw [c4]; rfl
    have hP9 : va_P (dC, dI) vwCl [(aL, .inr (3, [.ref aQ, .int (nI n), .int (nI pl), .int (nI row), .int (nI dg), .int (nI sz), .int (bI ng)]))] H := by exact hP.sub [0] rfl
    have hD9 : va_D A [(aL, .inr (3, [.ref aQ, .int (nI n), .int (nI pl), .int (nI row), .int (nI dg), .int (nI sz), .int (bI ng)]))] := by exact hD.sub [0] (by decide) rfl
    subst hAe
    subst hQe
    exact W.iret (v := nI sz) hx hb hr (fun t ht hW => ⟨⟨_, (), rfl, r1, by rw [ht]; exact hP9, va_K.moved hW.alike hK, hD9⟩, hS.F ht⟩) hS.2.2 dX3_number_19
  · have c4 : ng = true := bI_n0 c4
    refine lv_aload_n hx hb dX3_number_7 rfl (lv_at hl 0 rfl) ?_
    refine va_get (D := (dC, dI)) (ci := 3) (v := .int (nI sz)) (C := RX3) (T := TX3) (N := 7) hx hb hts iX3 hown hK hP 0 rfl rfl 5 (by decide) w1 (fun _ h9 => h9) rfl dX3_number_8 ?_
    refine lv_ineg hx hb dX3_number_11 ?_
    refine lv_goto (tgt := 19) hx hb dX3_number_12 (by decide) ?_
    have r2 : (-(nI sz)) = (numV ng sz) := by rw [c4]; rfl
    have hP9 : va_P (dC, dI) vwCl [(aL, .inr (3, [.ref aQ, .int (nI n), .int (nI pl), .int (nI row), .int (nI dg), .int (nI sz), .int (bI ng)]))] H := by exact hP.sub [0] rfl
    have hD9 : va_D A [(aL, .inr (3, [.ref aQ, .int (nI n), .int (nI pl), .int (nI row), .int (nI dg), .int (nI sz), .int (bI ng)]))] := by exact hD.sub [0] (by decide) rfl
    subst hAe
    subst hQe
    exact W.iret (v := -(nI sz)) hx hb hr (fun t ht hW => ⟨⟨_, (), rfl, r2, by rw [ht]; exact hP9, va_K.moved hW.alike hK, hD9⟩, hS.F ht⟩) hS.2.2 dX3_number_19
set_option maxHeartbeats 4000000 in
set_option maxRecDepth 100000 in
theorem c_X3_takeSemicolon (l : Launch) (dC : Nat → ClassId) (dI : Nat → Nat → Nat) (cyI cyZ cyJ cyD : ClassId) (aL aQ aQF aQT aQN aQL aQU : Nat) (zH : Nat) (n : Nat) (pl : Nat) (row : Nat) (dg : Nat) (sz : Nat) (ng : Bool) (cnt2 : Nat) (c : Nat) (hc : c < 128) (hk : cnt2 ≤ 20) : Met l yX3_takeSemicolon wsX3_takeSemicolon ({ frames := 1, cells := 0, slots := 0, locals := 23 } : Room) (va_Pc [.ref aL, .int (nI c)] (fun U => U.heap.size = zH ∧ va_P (dC, dI) vwCl [(aL, .inr (3, [.ref aQ, .int (nI n), .int (nI pl), .int (nI row), .int (nI dg), .int (nI sz), .int (bI ng)])), (aQ, .inr (1, [.ref aQF, .ref aQT, .ref aQN, .ref aQL, .ref aQU, .int (nI cnt2)]))] U.heap ∧ va_K (dC, dI) vwCl [(cyI, .int), (cyZ, .boolean), (cyJ, .long), (cyD, .double)] U ∧ va_D (fun _ => True) [(aL, .inr (3, [.ref aQ, .int (nI n), .int (nI pl), .int (nI row), .int (nI dg), .int (nI sz), .int (bI ng)])), (aQ, .inr (1, [.ref aQF, .ref aQT, .ref aQN, .ref aQL, .ref aQU, .int (nI cnt2)]))])) (va_Qi (fun (r : Int32) (_ : Unit) => r = bI (decide (cnt2 < 20 ∧ c = 59))) (fun _ t => va_P (dC, dI) vwCl [(aL, .inr (3, [.ref aQ, .int (nI n), .int (nI (if cnt2 < 20 ∧ c = 59 then 0 else pl)), .int (nI row), .int (nI dg), .int (nI sz), .int (bI ng)])), (aQ, .inr (1, [.ref aQF, .ref aQT, .ref aQN, .ref aQL, .ref aQU, .int (nI cnt2)]))] t.heap ∧ va_K (dC, dI) vwCl [(cyI, .int), (cyZ, .boolean), (cyJ, .long), (cyD, .double)] t ∧ va_D (va_A [(aL, .inr (3, [.ref aQ, .int (nI n), .int (nI pl), .int (nI row), .int (nI dg), .int (nI sz), .int (bI ng)])), (aQ, .inr (1, [.ref aQF, .ref aQT, .ref aQN, .ref aQL, .ref aQU, .int (nI cnt2)]))] zH) [(aL, .inr (3, [.ref aQ, .int (nI n), .int (nI (if cnt2 < 20 ∧ c = 59 then 0 else pl)), .int (nI row), .int (nI dg), .int (nI sz), .int (bI ng)])), (aQ, .inr (1, [.ref aQF, .ref aQT, .ref aQN, .ref aQL, .ref aQU, .int (nI cnt2)]))]) (va_A [(aL, .inr (3, [.ref aQ, .int (nI n), .int (nI pl), .int (nI row), .int (nI dg), .int (nI sz), .int (bI ng)])), (aQ, .inr (1, [.ref aQF, .ref aQT, .ref aQN, .ref aQL, .ref aQU, .int (nI cnt2)]))] zH)) 0 0 (va_A [(aL, .inr (3, [.ref aQ, .int (nI n), .int (nI pl), .int (nI row), .int (nI dg), .int (nI sz), .int (bI ng)])), (aQ, .inr (1, [.ref aQF, .ref aQT, .ref aQN, .ref aQL, .ref aQU, .int (nI cnt2)]))] zH) := by
  refine Met.ofW (cc := cX3_takeSemicolon) (maxL := 2) (ret := (some .boolean)) (by decide) rfl ?_
  intro pM eM s mM args blM mtM cM s₁ BM hml hv
  obtain ⟨rfl, hsz, hP, hK, hD0⟩ := hv
  have hx := BM.exec
  have hb := BM.bytes
  have hr := BM.returns
  have hts := atoms_spec (ws := wsX3_takeSemicolon) BM.pre
  have hown : s.vm.findClass RX3 = some mM.cls := findClass_of_methodNamed BM.named
  have hlocks := BM.notSynchronized
  have w0 := hts (.fieldLink RX3 12 "DimensionChecker$ListReader" "rows" "LDimensionChecker$Dimensions;") (by decide +kernel)
  have w1 := hts (.fieldLink RX3 38 "DimensionChecker$Dimensions" "count" "I") (by decide +kernel)
  have iX3 : ∀ w ∈ wsX30, w ∈ wsX3_takeSemicolon := by decide +kernel
  have iX1 : ∀ w ∈ wsX10, w ∈ wsX3_takeSemicolon := by decide +kernel
  subst hsz
  have hD := hD0.self (sz := s.heap.size)
  obtain ⟨Q, hQe⟩ : ∃ Q : State → Prop, Q = MQ blM (va_Qi (fun (r : Int32) (_ : Unit) => r = bI (decide (cnt2 < 20 ∧ c = 59))) (fun _ t => va_P (dC, dI) vwCl [(aL, .inr (3, [.ref aQ, .int (nI n), .int (nI (if cnt2 < 20 ∧ c = 59 then 0 else pl)), .int (nI row), .int (nI dg), .int (nI sz), .int (bI ng)])), (aQ, .inr (1, [.ref aQF, .ref aQT, .ref aQN, .ref aQL, .ref aQU, .int (nI cnt2)]))] t.heap ∧ va_K (dC, dI) vwCl [(cyI, .int), (cyZ, .boolean), (cyJ, .long), (cyD, .double)] t ∧ va_D (va_A [(aL, .inr (3, [.ref aQ, .int (nI n), .int (nI pl), .int (nI row), .int (nI dg), .int (nI sz), .int (bI ng)])), (aQ, .inr (1, [.ref aQF, .ref aQT, .ref aQN, .ref aQL, .ref aQU, .int (nI cnt2)]))] s.heap.size) [(aL, .inr (3, [.ref aQ, .int (nI n), .int (nI (if cnt2 < 20 ∧ c = 59 then 0 else pl)), .int (nI row), .int (nI dg), .int (nI sz), .int (bI ng)])), (aQ, .inr (1, [.ref aQF, .ref aQT, .ref aQN, .ref aQL, .ref aQU, .int (nI cnt2)]))]) (va_A [(aL, .inr (3, [.ref aQ, .int (nI n), .int (nI pl), .int (nI row), .int (nI dg), .int (nI sz), .int (bI ng)])), (aQ, .inr (1, [.ref aQF, .ref aQT, .ref aQN, .ref aQL, .ref aQU, .int (nI cnt2)]))] s.heap.size)) ([.ref aL, .int (nI c)] : List Value).toArray s 0 0 (va_A [(aL, .inr (3, [.ref aQ, .int (nI n), .int (nI pl), .int (nI row), .int (nI dg), .int (nI sz), .int (bI ng)])), (aQ, .inr (1, [.ref aQF, .ref aQT, .ref aQN, .ref aQL, .ref aQU, .int (nI cnt2)]))] s.heap.size) := ⟨_, rfl⟩
  rw [← hQe]
  generalize hAe : va_A [(aL, .inr (3, [.ref aQ, .int (nI n), .int (nI pl), .int (nI row), .int (nI dg), .int (nI sz), .int (bI ng)])), (aQ, .inr (1, [.ref aQF, .ref aQT, .ref aQN, .ref aQL, .ref aQU, .int (nI cnt2)]))] s.heap.size = A at hD hQe
  have hA : ∀ q : Nat, s.heap.size ≤ q → A q := fun q h => by rw [← hAe]; exact Or.inr h
  obtain ⟨H, hHe⟩ : ∃ H : Heap, H = s.heap := ⟨_, rfl⟩
  have hS : va_S A s.heap H [] := by rw [hHe]; exact va_S.rf
  rw [← hHe] at hP ⊢
  have hl := lv_entry ([.ref aL, .int (nI c)]) (n := 2) (Nat.le_of_ble_eq_true rfl)
  rw [lg_entry_eq]
  generalize (lg_sl ([.ref aL, .int (nI c)]) ++ List.replicate (2 - (lg_sl ([.ref aL, .int (nI c)])).length) Slot.unset).toArray = ls at hl ⊢
  have hl : lv_has ls 2 [(0, .ref aL), (1, .int (nI c))] := hl
  refine lv_aload_n hx hb dX3_takeSemicolon_0 rfl (lv_at hl 0 rfl) ?_
  refine va_get (D := (dC, dI)) (ci := 3) (v := .ref aQ) (C := RX3) (T := TX3) (N := 7) hx hb hts iX3 hown hK hP 0 rfl rfl 0 (by decide) w0 (fun _ h9 => h9) rfl dX3_takeSemicolon_1 ?_
  refine va_get (D := (dC, dI)) (ci := 1) (v := .int (nI cnt2)) (C := RX1) (T := TX1) (N := 6) hx hb hts iX1 hown hK hP 1 rfl rfl 5 (by decide) w1 (fun _ h9 => h9) rfl dX3_takeSemicolon_4 ?_
  refine lv_bipush (v := 20) hx hb dX3_takeSemicolon_7 (by decide) ?_
  refine lv_icmp_ge (tgt := 27) hx hb dX3_takeSemicolon_9 (by decide) (fun c9 => ?_) (fun c9 => ?_)
  · have c9 := n_le (a := 20) (b := cnt2) (by omega) (by omega) c9
    have hz : ¬ (cnt2 < 20 ∧ c = 59) := by omega
    refine lv_iconst (v := 0) hx hb dX3_takeSemicolon_27 (by decide) ?_
    have r1 : 0 = (bI (decide (cnt2 < 20 ∧ c = 59))) := by simp [bI, hz]
    have q2 : (nI (if cnt2 < 20 ∧ c = 59 then 0 else pl)) = (nI pl) := by first | (rw [if_pos hz, if_pos hz.2]) | (rw [if_neg hz]; done) | (rw [if_neg hz, if_neg (by simpa using c20)])
    have hP9 : va_P (dC, dI) vwCl [(aL, .inr (3, [.ref aQ, .int (nI n), .int (nI (if cnt2 < 20 ∧ c = 59 then 0 else pl)), .int (nI row), .int (nI dg), .int (nI sz), .int (bI ng)])), (aQ, .inr (1, [.ref aQF, .ref aQT, .ref aQN, .ref aQL, .ref aQU, .int (nI cnt2)]))] H := by first | (rw [q2]; exact hP.sub [0, 1] rfl) | (simp only [q2]; exact hP.sub [0, 1] rfl) | exact hP.sub [0, 1] rfl
    have hD9 : va_D A [(aL, .inr (3, [.ref aQ, .int (nI n), .int (nI (if cnt2 < 20 ∧ c = 59 then 0 else pl)), .int (nI row), .int (nI dg), .int (nI sz), .int (bI ng)])), (aQ, .inr (1, [.ref aQF, .ref aQT, .ref aQN, .ref aQL, .ref aQU, .int (nI cnt2)]))] := by first | (rw [q2]; exact hD.sub [0, 1] (by decide) rfl) | (simp only [q2]; exact hD.sub [0, 1] (by decide) rfl) | exact hD.sub [0, 1] (by decide) rfl
    subst hAe
    subst hQe
    exact W.zret (v := 0) hx hb hr rfl (fun t ht hW => ⟨⟨_, (), rfl, r1, by rw [ht]; exact hP9, va_K.moved hW.alike hK, hD9⟩, hS.F ht⟩) hS.2.2 dX3_takeSemicolon_28
  · have c9 := n_nle (a := 20) (b := cnt2) (by omega) (by omega) c9
    refine lv_aload_n hx hb dX3_takeSemicolon_12 rfl (lv_at hl 0 rfl) ?_
    refine lv_iload_n hx hb dX3_takeSemicolon_13 rfl (lv_at hl 1 rfl) ?_
    refine lv_bipush (v := 59) hx hb dX3_takeSemicolon_14 (by decide) ?_
    refine lv_iconst (v := 0) hx hb dX3_takeSemicolon_16 (by decide) ?_
    have g3 : c < 128 := by first | assumption | omega | exact vp_in_nI (by omega) (by omega)
    have g4 : 59 < 128 := by first | assumption | omega | exact vp_in_nI (by omega) (by omega)
    have hPc := hP.sub (ws' := [(aL, .inr (3, [.ref aQ, .int (nI n), .int (nI pl), .int (nI row), .int (nI dg), .int (nI sz), .int (bI ng)]))]) [0] rfl
    have hDc := hD.sub (ws' := [(aL, .inr (3, [.ref aQ, .int (nI n), .int (nI pl), .int (nI row), .int (nI dg), .int (nI sz), .int (bI ng)]))]) [0] (by decide) rfl
    have hFc := va_free (wc := [(aL, .inr (3, [.ref aQ, .int (nI n), .int (nI pl), .int (nI row), .int (nI dg), .int (nI sz), .int (bI ng)]))]) hD hS hA [0] rfl
    refine va_calli (va_runV (As := [.int (nI c), .int 59, .int 0]) (rest := []) ⟨hx, hb, hml, hown, hts⟩ (c_X3_takeSign l dC dI cyI cyZ cyJ cyD aL aQ H.size n pl row dg sz ng c 59 0 g3 g4) (cwV 3 hts gX3_takeSemicolon_X3_takeSign rfl rfl rfl (by decide +kernel) ⟨Nat.le_of_ble_eq_true rfl, Nat.le_of_ble_eq_true rfl⟩) ⟨fun a U g mk q => by obtain ⟨q0, q1, qP, qK, qD⟩ := q; exact ⟨q0, q1, qP, va_K.moved (u := U) (U := U.calling g mk a) (Vm.Alike.refl U.vm) qK, qD⟩, va_recv hK hPc (ci := 3) (q0 := 0) rfl rfl, fun U hU hW => ⟨rfl, by rw [hU], by rw [hU]; exact hPc, va_K.moved hW.alike hK, hDc.weaken (fun _ _ _ _ => trivial)⟩⟩ rfl rfl hl.1 rfl (lv_room (Nat.le_of_ble_eq_true rfl)) dX3_takeSemicolon_17 ⟨Nat.le_of_ble_eq_true rfl, Nat.le_of_ble_eq_true rfl⟩) hS (fun q _ h => hFc q h) hFc (fun r u t H1 locs ht hvm hw hB hz1 hk1 hS => ?_)
    obtain rfl := hw
    obtain ⟨hP1, hK1, hD1⟩ := hB
    rw [ht] at hP1
    obtain ⟨hP, hD⟩ := va_join (wr := [(aQ, .inr (1, [.ref aQF, .ref aQT, .ref aQN, .ref aQL, .ref aQU, .int (nI cnt2)]))]) (w1 := [(aL, .inr (3, [.ref aQ, .int (nI n), .int (nI (if c = 59 then 0 else pl)), .int (nI row), .int (nI dg), .int (nI sz), .int (bI ng)]))]) hP hD [0] [1] rfl rfl (by decide) (by decide) hk1 hFc hP1 hD1
    clear hP1 hD1 hK1 hPc hDc hFc hk1 hz1 hvm ht u t
    generalize H1 = H at hP hS ⊢
    have hP : va_P (dC, dI) vwCl [(aQ, .inr (1, [.ref aQF, .ref aQT, .ref aQN, .ref aQL, .ref aQU, .int (nI cnt2)])), (aL, .inr (3, [.ref aQ, .int (nI n), .int (nI (if c = 59 then 0 else pl)), .int (nI row), .int (nI dg), .int (nI sz), .int (bI ng)]))] H := hP
    have hD : va_D A [(aQ, .inr (1, [.ref aQF, .ref aQT, .ref aQN, .ref aQL, .ref aQU, .int (nI cnt2)])), (aL, .inr (3, [.ref aQ, .int (nI n), .int (nI (if c = 59 then 0 else pl)), .int (nI row), .int (nI dg), .int (nI sz), .int (bI ng)]))] := hD
    refine lv_if_eq (tgt := 27) hx hb dX3_takeSemicolon_20 (by decide) (fun c20 => ?_) (fun c20 => ?_)
    · have c20 : (decide (c = 59)) = false := bI_0 c20
      have hz : ¬ (cnt2 < 20 ∧ c = 59) := by simp at c20; omega
      refine lv_iconst (v := 0) hx hb dX3_takeSemicolon_27 (by decide) ?_
      have r5 : 0 = (bI (decide (cnt2 < 20 ∧ c = 59))) := by simp [bI, hz]
      have q6 : (nI (if cnt2 < 20 ∧ c = 59 then 0 else pl)) = (nI (if c = 59 then 0 else pl)) := by first | (rw [if_pos hz, if_pos hz.2]) | (rw [if_neg hz]; done) | (rw [if_neg hz, if_neg (by simpa using c20)])
      have hP9 : va_P (dC, dI) vwCl [(aL, .inr (3, [.ref aQ, .int (nI n), .int (nI (if cnt2 < 20 ∧ c = 59 then 0 else pl)), .int (nI row), .int (nI dg), .int (nI sz), .int (bI ng)])), (aQ, .inr (1, [.ref aQF, .ref aQT, .ref aQN, .ref aQL, .ref aQU, .int (nI cnt2)]))] H := by first | (rw [q6]; exact hP.sub [1, 0] rfl) | (simp only [q6]; exact hP.sub [1, 0] rfl) | exact hP.sub [1, 0] rfl
      have hD9 : va_D A [(aL, .inr (3, [.ref aQ, .int (nI n), .int (nI (if cnt2 < 20 ∧ c = 59 then 0 else pl)), .int (nI row), .int (nI dg), .int (nI sz), .int (bI ng)])), (aQ, .inr (1, [.ref aQF, .ref aQT, .ref aQN, .ref aQL, .ref aQU, .int (nI cnt2)]))] := by first | (rw [q6]; exact hD.sub [1, 0] (by decide) rfl) | (simp only [q6]; exact hD.sub [1, 0] (by decide) rfl) | exact hD.sub [1, 0] (by decide) rfl
      subst hAe
      subst hQe
      exact W.zret (v := 0) hx hb hr rfl (fun t ht hW => ⟨⟨_, (), rfl, r5, by rw [ht]; exact hP9, va_K.moved hW.alike hK, hD9⟩, hS.F ht⟩) hS.2.2 dX3_takeSemicolon_28
    · have c20 : (decide (c = 59)) = true := bI_n0 c20
      have hz : (cnt2 < 20 ∧ c = 59) := by simp at c20; omega
      refine lv_iconst (v := 1) hx hb dX3_takeSemicolon_23 (by decide) ?_
      refine lv_goto (tgt := 28) hx hb dX3_takeSemicolon_24 (by decide) ?_
      have r7 : 1 = (bI (decide (cnt2 < 20 ∧ c = 59))) := by simp [bI, hz]
      have q8 : (nI (if cnt2 < 20 ∧ c = 59 then 0 else pl)) = (nI (if c = 59 then 0 else pl)) := by first | (rw [if_pos hz, if_pos hz.2]) | (rw [if_neg hz]; done) | (rw [if_neg hz, if_neg (by simpa using c20)])
      have hP9 : va_P (dC, dI) vwCl [(aL, .inr (3, [.ref aQ, .int (nI n), .int (nI (if cnt2 < 20 ∧ c = 59 then 0 else pl)), .int (nI row), .int (nI dg), .int (nI sz), .int (bI ng)])), (aQ, .inr (1, [.ref aQF, .ref aQT, .ref aQN, .ref aQL, .ref aQU, .int (nI cnt2)]))] H := by first | (rw [q8]; exact hP.sub [1, 0] rfl) | (simp only [q8]; exact hP.sub [1, 0] rfl) | exact hP.sub [1, 0] rfl
      have hD9 : va_D A [(aL, .inr (3, [.ref aQ, .int (nI n), .int (nI (if cnt2 < 20 ∧ c = 59 then 0 else pl)), .int (nI row), .int (nI dg), .int (nI sz), .int (bI ng)])), (aQ, .inr (1, [.ref aQF, .ref aQT, .ref aQN, .ref aQL, .ref aQU, .int (nI cnt2)]))] := by first | (rw [q8]; exact hD.sub [1, 0] (by decide) rfl) | (simp only [q8]; exact hD.sub [1, 0] (by decide) rfl) | exact hD.sub [1, 0] (by decide) rfl
      subst hAe
      subst hQe
      exact W.zret (v := 1) hx hb hr rfl (fun t ht hW => ⟨⟨_, (), rfl, r7, by rw [ht]; exact hP9, va_K.moved hW.alike hK, hD9⟩, hS.F ht⟩) hS.2.2 dX3_takeSemicolon_28
set_option maxHeartbeats 4000000 in
set_option maxRecDepth 100000 in
theorem c_X3_takeFirstFace (l : Launch) (dC : Nat → ClassId) (dI : Nat → Nat → Nat) (cyI cyZ cyJ cyD : ClassId) (aL aQ aQF aQT aQN aQL aQU : Nat) (zH : Nat) (n : Nat) (pl : Nat) (row : Nat) (dg : Nat) (sz : Nat) (ng : Bool) (F2 : Nat → Nat) (T2 : Nat → Nat) (nm2 : Nat → Int32) (lo2 : Nat → Int32) (up2 : Nat → Int32) (cnt2 : Nat) (c : Nat) (hc : c < 128) (hn : n ≤ 12) (hk : cnt2 ≤ 20) : Met l yX3_takeFirstFace wsX3_takeFirstFace ({ frames := 1, cells := 0, slots := 0, locals := 26 } : Room) (va_Pc [.ref aL, .int (nI c - 65)] (fun U => U.heap.size = zH ∧ va_P (dC, dI) vwCl [(aL, .inr (3, [.ref aQ, .int (nI n), .int (nI pl), .int (nI row), .int (nI dg), .int (nI sz), .int (bI ng)])), (aQ, .inr (1, [.ref aQF, .ref aQT, .ref aQN, .ref aQL, .ref aQU, .int (nI cnt2)])), (aQF, .inl (cyI, 20, .inl (fun j_ => nI (F2 j_)))), (aQT, .inl (cyI, 20, .inl (fun j_ => nI (T2 j_)))), (aQN, .inl (cyI, 20, .inl nm2)), (aQL, .inl (cyI, 20, .inl lo2)), (aQU, .inl (cyI, 20, .inl up2))] U.heap ∧ va_K (dC, dI) vwCl [(cyI, .int), (cyZ, .boolean), (cyJ, .long), (cyD, .double)] U ∧ va_D (fun _ => True) [(aL, .inr (3, [.ref aQ, .int (nI n), .int (nI pl), .int (nI row), .int (nI dg), .int (nI sz), .int (bI ng)])), (aQ, .inr (1, [.ref aQF, .ref aQT, .ref aQN, .ref aQL, .ref aQU, .int (nI cnt2)])), (aQF, .inl (cyI, 20, .inl (fun j_ => nI (F2 j_)))), (aQT, .inl (cyI, 20, .inl (fun j_ => nI (T2 j_)))), (aQN, .inl (cyI, 20, .inl nm2)), (aQL, .inl (cyI, 20, .inl lo2)), (aQU, .inl (cyI, 20, .inl up2))])) (va_Qi (fun (r : Int32) (_ : Unit) => r = bI ((tkA n (pl, row, dg, sz, ng, cnt2, F2, T2, nm2, lo2, up2) c).isSome)) (fun _ t => ∃ (pl3 : Nat), ∃ (row3 : Nat), ∃ (dg3 : Nat), ∃ (sz3 : Nat), ∃ (ng3 : Bool), ∃ (cnt3 : Nat), ∃ (F3 : Nat → Nat), ∃ (T3 : Nat → Nat), ∃ (nm3 : Nat → Int32), ∃ (lo3 : Nat → Int32), ∃ (up3 : Nat → Int32), (tkA n (pl, row, dg, sz, ng, cnt2, F2, T2, nm2, lo2, up2) c = none ∨ tkA n (pl, row, dg, sz, ng, cnt2, F2, T2, nm2, lo2, up2) c = some (pl3, row3, dg3, sz3, ng3, cnt3, F3, T3, nm3, lo3, up3)) ∧ va_P (dC, dI) vwCl [(aL, .inr (3, [.ref aQ, .int (nI n), .int (nI pl3), .int (nI row3), .int (nI dg3), .int (nI sz3), .int (bI ng3)])), (aQ, .inr (1, [.ref aQF, .ref aQT, .ref aQN, .ref aQL, .ref aQU, .int (nI cnt3)])), (aQF, .inl (cyI, 20, .inl (fun j_ => nI (F3 j_)))), (aQT, .inl (cyI, 20, .inl (fun j_ => nI (T3 j_)))), (aQN, .inl (cyI, 20, .inl nm3)), (aQL, .inl (cyI, 20, .inl lo3)), (aQU, .inl (cyI, 20, .inl up3))] t.heap ∧ va_K (dC, dI) vwCl [(cyI, .int), (cyZ, .boolean), (cyJ, .long), (cyD, .double)] t ∧ va_D (va_A [(aL, .inr (3, [.ref aQ, .int (nI n), .int (nI pl), .int (nI row), .int (nI dg), .int (nI sz), .int (bI ng)])), (aQ, .inr (1, [.ref aQF, .ref aQT, .ref aQN, .ref aQL, .ref aQU, .int (nI cnt2)])), (aQF, .inl (cyI, 20, .inl (fun j_ => nI (F2 j_)))), (aQT, .inl (cyI, 20, .inl (fun j_ => nI (T2 j_)))), (aQN, .inl (cyI, 20, .inl nm2)), (aQL, .inl (cyI, 20, .inl lo2)), (aQU, .inl (cyI, 20, .inl up2))] zH) [(aL, .inr (3, [.ref aQ, .int (nI n), .int (nI pl3), .int (nI row3), .int (nI dg3), .int (nI sz3), .int (bI ng3)])), (aQ, .inr (1, [.ref aQF, .ref aQT, .ref aQN, .ref aQL, .ref aQU, .int (nI cnt3)])), (aQF, .inl (cyI, 20, .inl (fun j_ => nI (F3 j_)))), (aQT, .inl (cyI, 20, .inl (fun j_ => nI (T3 j_)))), (aQN, .inl (cyI, 20, .inl nm3)), (aQL, .inl (cyI, 20, .inl lo3)), (aQU, .inl (cyI, 20, .inl up3))]) (va_A [(aL, .inr (3, [.ref aQ, .int (nI n), .int (nI pl), .int (nI row), .int (nI dg), .int (nI sz), .int (bI ng)])), (aQ, .inr (1, [.ref aQF, .ref aQT, .ref aQN, .ref aQL, .ref aQU, .int (nI cnt2)])), (aQF, .inl (cyI, 20, .inl (fun j_ => nI (F2 j_)))), (aQT, .inl (cyI, 20, .inl (fun j_ => nI (T2 j_)))), (aQN, .inl (cyI, 20, .inl nm2)), (aQL, .inl (cyI, 20, .inl lo2)), (aQU, .inl (cyI, 20, .inl up2))] zH)) 0 0 (va_A [(aL, .inr (3, [.ref aQ, .int (nI n), .int (nI pl), .int (nI row), .int (nI dg), .int (nI sz), .int (bI ng)])), (aQ, .inr (1, [.ref aQF, .ref aQT, .ref aQN, .ref aQL, .ref aQU, .int (nI cnt2)])), (aQF, .inl (cyI, 20, .inl (fun j_ => nI (F2 j_)))), (aQT, .inl (cyI, 20, .inl (fun j_ => nI (T2 j_)))), (aQN, .inl (cyI, 20, .inl nm2)), (aQL, .inl (cyI, 20, .inl lo2)), (aQU, .inl (cyI, 20, .inl up2))] zH) := by
  refine Met.ofW (cc := cX3_takeFirstFace) (maxL := 2) (ret := (some .boolean)) (by decide) rfl ?_
  intro pM eM s mM args blM mtM cM s₁ BM hml hv
  obtain ⟨rfl, hsz, hP, hK, hD0⟩ := hv
  have hx := BM.exec
  have hb := BM.bytes
  have hr := BM.returns
  have hts := atoms_spec (ws := wsX3_takeFirstFace) BM.pre
  have hown : s.vm.findClass RX3 = some mM.cls := findClass_of_methodNamed BM.named
  have hlocks := BM.notSynchronized
  have w0 := hts (.fieldLink RX3 18 "DimensionChecker$ListReader" "faces" "I") (by decide +kernel)
  have w1 := hts (.fieldLink RX3 12 "DimensionChecker$ListReader" "rows" "LDimensionChecker$Dimensions;") (by decide +kernel)
  have w2 := hts (.fieldLink RX3 38 "DimensionChecker$Dimensions" "count" "I") (by decide +kernel)
  have w3 := hts (.fieldLink RX3 25 "DimensionChecker$ListReader" "row" "I") (by decide +kernel)
  have w4 := hts (.fieldLink RX3 22 "DimensionChecker$ListReader" "place" "I") (by decide +kernel)
  have iX3 : ∀ w ∈ wsX30, w ∈ wsX3_takeFirstFace := by decide +kernel
  have iX1 : ∀ w ∈ wsX10, w ∈ wsX3_takeFirstFace := by decide +kernel
  subst hsz
  have hD := hD0.self (sz := s.heap.size)
  obtain ⟨Q, hQe⟩ : ∃ Q : State → Prop, Q = MQ blM (va_Qi (fun (r : Int32) (_ : Unit) => r = bI ((tkA n (pl, row, dg, sz, ng, cnt2, F2, T2, nm2, lo2, up2) c).isSome)) (fun _ t => ∃ (pl3 : Nat), ∃ (row3 : Nat), ∃ (dg3 : Nat), ∃ (sz3 : Nat), ∃ (ng3 : Bool), ∃ (cnt3 : Nat), ∃ (F3 : Nat → Nat), ∃ (T3 : Nat → Nat), ∃ (nm3 : Nat → Int32), ∃ (lo3 : Nat → Int32), ∃ (up3 : Nat → Int32), (tkA n (pl, row, dg, sz, ng, cnt2, F2, T2, nm2, lo2, up2) c = none ∨ tkA n (pl, row, dg, sz, ng, cnt2, F2, T2, nm2, lo2, up2) c = some (pl3, row3, dg3, sz3, ng3, cnt3, F3, T3, nm3, lo3, up3)) ∧ va_P (dC, dI) vwCl [(aL, .inr (3, [.ref aQ, .int (nI n), .int (nI pl3), .int (nI row3), .int (nI dg3), .int (nI sz3), .int (bI ng3)])), (aQ, .inr (1, [.ref aQF, .ref aQT, .ref aQN, .ref aQL, .ref aQU, .int (nI cnt3)])), (aQF, .inl (cyI, 20, .inl (fun j_ => nI (F3 j_)))), (aQT, .inl (cyI, 20, .inl (fun j_ => nI (T3 j_)))), (aQN, .inl (cyI, 20, .inl nm3)), (aQL, .inl (cyI, 20, .inl lo3)), (aQU, .inl (cyI, 20, .inl up3))] t.heap ∧ va_K (dC, dI) vwCl [(cyI, .int), (cyZ, .boolean), (cyJ, .long), (cyD, .double)] t ∧ va_D (va_A [(aL, .inr (3, [.ref aQ, .int (nI n), .int (nI pl), .int (nI row), .int (nI dg), .int (nI sz), .int (bI ng)])), (aQ, .inr (1, [.ref aQF, .ref aQT, .ref aQN, .ref aQL, .ref aQU, .int (nI cnt2)])), (aQF, .inl (cyI, 20, .inl (fun j_ => nI (F2 j_)))), (aQT, .inl (cyI, 20, .inl (fun j_ => nI (T2 j_)))), (aQN, .inl (cyI, 20, .inl nm2)), (aQL, .inl (cyI, 20, .inl lo2)), (aQU, .inl (cyI, 20, .inl up2))] s.heap.size) [(aL, .inr (3, [.ref aQ, .int (nI n), .int (nI pl3), .int (nI row3), .int (nI dg3), .int (nI sz3), .int (bI ng3)])), (aQ, .inr (1, [.ref aQF, .ref aQT, .ref aQN, .ref aQL, .ref aQU, .int (nI cnt3)])), (aQF, .inl (cyI, 20, .inl (fun j_ => nI (F3 j_)))), (aQT, .inl (cyI, 20, .inl (fun j_ => nI (T3 j_)))), (aQN, .inl (cyI, 20, .inl nm3)), (aQL, .inl (cyI, 20, .inl lo3)), (aQU, .inl (cyI, 20, .inl up3))]) (va_A [(aL, .inr (3, [.ref aQ, .int (nI n), .int (nI pl), .int (nI row), .int (nI dg), .int (nI sz), .int (bI ng)])), (aQ, .inr (1, [.ref aQF, .ref aQT, .ref aQN, .ref aQL, .ref aQU, .int (nI cnt2)])), (aQF, .inl (cyI, 20, .inl (fun j_ => nI (F2 j_)))), (aQT, .inl (cyI, 20, .inl (fun j_ => nI (T2 j_)))), (aQN, .inl (cyI, 20, .inl nm2)), (aQL, .inl (cyI, 20, .inl lo2)), (aQU, .inl (cyI, 20, .inl up2))] s.heap.size)) ([.ref aL, .int (nI c - 65)] : List Value).toArray s 0 0 (va_A [(aL, .inr (3, [.ref aQ, .int (nI n), .int (nI pl), .int (nI row), .int (nI dg), .int (nI sz), .int (bI ng)])), (aQ, .inr (1, [.ref aQF, .ref aQT, .ref aQN, .ref aQL, .ref aQU, .int (nI cnt2)])), (aQF, .inl (cyI, 20, .inl (fun j_ => nI (F2 j_)))), (aQT, .inl (cyI, 20, .inl (fun j_ => nI (T2 j_)))), (aQN, .inl (cyI, 20, .inl nm2)), (aQL, .inl (cyI, 20, .inl lo2)), (aQU, .inl (cyI, 20, .inl up2))] s.heap.size) := ⟨_, rfl⟩
  rw [← hQe]
  generalize hAe : va_A [(aL, .inr (3, [.ref aQ, .int (nI n), .int (nI pl), .int (nI row), .int (nI dg), .int (nI sz), .int (bI ng)])), (aQ, .inr (1, [.ref aQF, .ref aQT, .ref aQN, .ref aQL, .ref aQU, .int (nI cnt2)])), (aQF, .inl (cyI, 20, .inl (fun j_ => nI (F2 j_)))), (aQT, .inl (cyI, 20, .inl (fun j_ => nI (T2 j_)))), (aQN, .inl (cyI, 20, .inl nm2)), (aQL, .inl (cyI, 20, .inl lo2)), (aQU, .inl (cyI, 20, .inl up2))] s.heap.size = A at hD hQe
  have hA : ∀ q : Nat, s.heap.size ≤ q → A q := fun q h => by rw [← hAe]; exact Or.inr h
  obtain ⟨H, hHe⟩ : ∃ H : Heap, H = s.heap := ⟨_, rfl⟩
  have hS : va_S A s.heap H [] := by rw [hHe]; exact va_S.rf
  rw [← hHe] at hP ⊢
  have hl := lv_entry ([.ref aL, .int (nI c - 65)]) (n := 2) (Nat.le_of_ble_eq_true rfl)
  rw [lg_entry_eq]
  generalize (lg_sl ([.ref aL, .int (nI c - 65)]) ++ List.replicate (2 - (lg_sl ([.ref aL, .int (nI c - 65)])).length) Slot.unset).toArray = ls at hl ⊢
  have hl : lv_has ls 2 [(0, .ref aL), (1, .int (nI c - 65))] := hl
  refine lv_iload_n hx hb dX3_takeFirstFace_0 rfl (lv_at hl 1 rfl) ?_
  refine lv_if_lt (tgt := 24) hx hb dX3_takeFirstFace_1 (by decide) (fun c1 => ?_) (fun c1 => ?_)
  · have hc1 := a65_t hc c1
    have hz : tkA n (pl, row, dg, sz, ng, cnt2, F2, T2, nm2, lo2, up2) c = none := by simp [tkA]; omega
    refine lv_iconst (v := 0) hx hb dX3_takeFirstFace_24 (by decide) ?_
    have r1 : 0 = (bI ((tkA n (pl, row, dg, sz, ng, cnt2, F2, T2, nm2, lo2, up2) c).isSome)) := by rw [hz]; rfl
    have hP9 : va_P (dC, dI) vwCl [(aL, .inr (3, [.ref aQ, .int (nI n), .int (nI pl), .int (nI row), .int (nI dg), .int (nI sz), .int (bI ng)])), (aQ, .inr (1, [.ref aQF, .ref aQT, .ref aQN, .ref aQL, .ref aQU, .int (nI cnt2)])), (aQF, .inl (cyI, 20, .inl (fun j_ => nI (F2 j_)))), (aQT, .inl (cyI, 20, .inl (fun j_ => nI (T2 j_)))), (aQN, .inl (cyI, 20, .inl nm2)), (aQL, .inl (cyI, 20, .inl lo2)), (aQU, .inl (cyI, 20, .inl up2))] H := by exact hP.sub [0, 1, 2, 3, 4, 5, 6] rfl
    have hD9 : va_D A [(aL, .inr (3, [.ref aQ, .int (nI n), .int (nI pl), .int (nI row), .int (nI dg), .int (nI sz), .int (bI ng)])), (aQ, .inr (1, [.ref aQF, .ref aQT, .ref aQN, .ref aQL, .ref aQU, .int (nI cnt2)])), (aQF, .inl (cyI, 20, .inl (fun j_ => nI (F2 j_)))), (aQT, .inl (cyI, 20, .inl (fun j_ => nI (T2 j_)))), (aQN, .inl (cyI, 20, .inl nm2)), (aQL, .inl (cyI, 20, .inl lo2)), (aQU, .inl (cyI, 20, .inl up2))] := by exact hD.sub [0, 1, 2, 3, 4, 5, 6] (by decide) rfl
    have p2 : tkA n (pl, row, dg, sz, ng, cnt2, F2, T2, nm2, lo2, up2) c = none ∨ tkA n (pl, row, dg, sz, ng, cnt2, F2, T2, nm2, lo2, up2) c = some (pl, row, dg, sz, ng, cnt2, F2, T2, nm2, lo2, up2) := by exact Or.inl hz
    subst hAe
    subst hQe
    exact W.zret (v := 0) hx hb hr rfl (fun t ht hW => ⟨⟨_, (), rfl, r1, pl, row, dg, sz, ng, cnt2, F2, T2, nm2, lo2, up2, p2, by rw [ht]; exact hP9, va_K.moved hW.alike hK, hD9⟩, hS.F ht⟩) hS.2.2 dX3_takeFirstFace_25
  · have hc1 := a65_f hc c1
    refine lv_iload_n hx hb dX3_takeFirstFace_4 rfl (lv_at hl 1 rfl) ?_
    refine lv_topi (fun x3 e4 => ?_)
    obtain rfl : x3 = (nI (c - 65)) := by rw [e4]; exact pk_sub hc1
    clear e4
    refine lv_aload_n hx hb dX3_takeFirstFace_5 rfl (lv_at hl 0 rfl) ?_
    refine va_get (D := (dC, dI)) (ci := 3) (v := .int (nI n)) (C := RX3) (T := TX3) (N := 7) hx hb hts iX3 hown hK hP 0 rfl rfl 1 (by decide) w0 (fun _ h9 => h9) rfl dX3_takeFirstFace_6 ?_
    refine lv_icmp_ge (tgt := 24) hx hb dX3_takeFirstFace_9 (by decide) (fun c9 => ?_) (fun c9 => ?_)
    · have c9 := n_le (a := n) (b := c - 65) (by omega) (by omega) c9
      have hz : tkA n (pl, row, dg, sz, ng, cnt2, F2, T2, nm2, lo2, up2) c = none := by simp [tkA]; omega
      refine lv_iconst (v := 0) hx hb dX3_takeFirstFace_24 (by decide) ?_
      have r5 : 0 = (bI ((tkA n (pl, row, dg, sz, ng, cnt2, F2, T2, nm2, lo2, up2) c).isSome)) := by rw [hz]; rfl
      have hP9 : va_P (dC, dI) vwCl [(aL, .inr (3, [.ref aQ, .int (nI n), .int (nI pl), .int (nI row), .int (nI dg), .int (nI sz), .int (bI ng)])), (aQ, .inr (1, [.ref aQF, .ref aQT, .ref aQN, .ref aQL, .ref aQU, .int (nI cnt2)])), (aQF, .inl (cyI, 20, .inl (fun j_ => nI (F2 j_)))), (aQT, .inl (cyI, 20, .inl (fun j_ => nI (T2 j_)))), (aQN, .inl (cyI, 20, .inl nm2)), (aQL, .inl (cyI, 20, .inl lo2)), (aQU, .inl (cyI, 20, .inl up2))] H := by exact hP.sub [0, 1, 2, 3, 4, 5, 6] rfl
      have hD9 : va_D A [(aL, .inr (3, [.ref aQ, .int (nI n), .int (nI pl), .int (nI row), .int (nI dg), .int (nI sz), .int (bI ng)])), (aQ, .inr (1, [.ref aQF, .ref aQT, .ref aQN, .ref aQL, .ref aQU, .int (nI cnt2)])), (aQF, .inl (cyI, 20, .inl (fun j_ => nI (F2 j_)))), (aQT, .inl (cyI, 20, .inl (fun j_ => nI (T2 j_)))), (aQN, .inl (cyI, 20, .inl nm2)), (aQL, .inl (cyI, 20, .inl lo2)), (aQU, .inl (cyI, 20, .inl up2))] := by exact hD.sub [0, 1, 2, 3, 4, 5, 6] (by decide) rfl
      have p6 : tkA n (pl, row, dg, sz, ng, cnt2, F2, T2, nm2, lo2, up2) c = none ∨ tkA n (pl, row, dg, sz, ng, cnt2, F2, T2, nm2, lo2, up2) c = some (pl, row, dg, sz, ng, cnt2, F2, T2, nm2, lo2, up2) := by exact Or.inl hz
      subst hAe
      subst hQe
      exact W.zret (v := 0) hx hb hr rfl (fun t ht hW => ⟨⟨_, (), rfl, r5, pl, row, dg, sz, ng, cnt2, F2, T2, nm2, lo2, up2, p6, by rw [ht]; exact hP9, va_K.moved hW.alike hK, hD9⟩, hS.F ht⟩) hS.2.2 dX3_takeFirstFace_25
    · have c9 := n_nle (a := n) (b := c - 65) (by omega) (by omega) c9
      refine lv_aload_n hx hb dX3_takeFirstFace_12 rfl (lv_at hl 0 rfl) ?_
      refine va_get (D := (dC, dI)) (ci := 3) (v := .ref aQ) (C := RX3) (T := TX3) (N := 7) hx hb hts iX3 hown hK hP 0 rfl rfl 0 (by decide) w1 (fun _ h9 => h9) rfl dX3_takeFirstFace_13 ?_
      refine va_get (D := (dC, dI)) (ci := 1) (v := .int (nI cnt2)) (C := RX1) (T := TX1) (N := 6) hx hb hts iX1 hown hK hP 1 rfl rfl 5 (by decide) w2 (fun _ h9 => h9) rfl dX3_takeFirstFace_16 ?_
      refine lv_bipush (v := 20) hx hb dX3_takeFirstFace_19 (by decide) ?_
      refine lv_icmp_lt (tgt := 26) hx hb dX3_takeFirstFace_21 (by decide) (fun c21 => ?_) (fun c21 => ?_)
      · have c21 := n_lt (a := cnt2) (b := 20) (by omega) (by omega) c21
        have hz3 : 65 ≤ c ∧ c - 65 < n ∧ cnt2 < 20 := by omega
        refine lv_aload_n hx hb dX3_takeFirstFace_26 rfl (lv_at hl 0 rfl) ?_
        refine lv_aload_n hx hb dX3_takeFirstFace_27 rfl (lv_at hl 0 rfl) ?_
        refine va_get (D := (dC, dI)) (ci := 3) (v := .ref aQ) (C := RX3) (T := TX3) (N := 7) hx hb hts iX3 hown hK hP 0 rfl rfl 0 (by decide) w1 (fun _ h9 => h9) rfl dX3_takeFirstFace_28 ?_
        refine va_get (D := (dC, dI)) (ci := 1) (v := .int (nI cnt2)) (C := RX1) (T := TX1) (N := 6) hx hb hts iX1 hown hK hP 1 rfl rfl 5 (by decide) w2 (fun _ h9 => h9) rfl dX3_takeFirstFace_31 ?_
        refine va_put (D := (dC, dI)) (ci := 3) (v := .int (nI cnt2)) (ty := .int) (C := RX3) (T := TX3) (N := 7) hx hb hts iX3 tyX3 tyX3_ok nmX3 hown hK hP hD hS 0 rfl rfl 3 (by decide) w3 (fun _ h9 => h9) rfl (by decide +kernel) rfl rfl (Nat.le_of_ble_eq_true rfl) dX3_takeFirstFace_34 (fun H locs hP hD hS => ?_)
        have hP : va_P (dC, dI) vwCl [(aL, .inr (3, [.ref aQ, .int (nI n), .int (nI pl), .int (nI cnt2), .int (nI dg), .int (nI sz), .int (bI ng)])), (aQ, .inr (1, [.ref aQF, .ref aQT, .ref aQN, .ref aQL, .ref aQU, .int (nI cnt2)])), (aQF, .inl (cyI, 20, .inl (fun j_ => nI (F2 j_)))), (aQT, .inl (cyI, 20, .inl (fun j_ => nI (T2 j_)))), (aQN, .inl (cyI, 20, .inl nm2)), (aQL, .inl (cyI, 20, .inl lo2)), (aQU, .inl (cyI, 20, .inl up2))] H := hP
        have hD : va_D A [(aL, .inr (3, [.ref aQ, .int (nI n), .int (nI pl), .int (nI cnt2), .int (nI dg), .int (nI sz), .int (bI ng)])), (aQ, .inr (1, [.ref aQF, .ref aQT, .ref aQN, .ref aQL, .ref aQU, .int (nI cnt2)])), (aQF, .inl (cyI, 20, .inl (fun j_ => nI (F2 j_)))), (aQT, .inl (cyI, 20, .inl (fun j_ => nI (T2 j_)))), (aQN, .inl (cyI, 20, .inl nm2)), (aQL, .inl (cyI, 20, .inl lo2)), (aQU, .inl (cyI, 20, .inl up2))] := hD
        refine lv_aload_n hx hb dX3_takeFirstFace_37 rfl (lv_at hl 0 rfl) ?_
        refine va_get (D := (dC, dI)) (ci := 3) (v := .ref aQ) (C := RX3) (T := TX3) (N := 7) hx hb hts iX3 hown hK hP 0 rfl rfl 0 (by decide) w1 (fun _ h9 => h9) rfl dX3_takeFirstFace_38 ?_
        refine lv_aload_n hx hb dX3_takeFirstFace_41 rfl (lv_at hl 0 rfl) ?_
        refine va_get (D := (dC, dI)) (ci := 3) (v := .int (nI cnt2)) (C := RX3) (T := TX3) (N := 7) hx hb hts iX3 hown hK hP 0 rfl rfl 3 (by decide) w3 (fun _ h9 => h9) rfl dX3_takeFirstFace_42 ?_
        refine lv_iconst (v := 1) hx hb dX3_takeFirstFace_45 (by decide) ?_
        refine lv_iadd hx hb dX3_takeFirstFace_46 ?_
        refine lv_topi (fun x7 e8 => ?_)
        obtain rfl : x7 = (nI (cnt2 + 1)) := by rw [e8]; exact nI_add cnt2 1
        clear e8
        refine va_put (D := (dC, dI)) (ci := 1) (v := .int (nI (cnt2 + 1))) (ty := .int) (C := RX1) (T := TX1) (N := 6) hx hb hts iX1 tyX1 tyX1_ok nmX1 hown hK hP hD hS 1 rfl rfl 5 (by decide) w2 (fun _ h9 => h9) rfl (by decide +kernel) rfl rfl (Nat.le_of_ble_eq_true rfl) dX3_takeFirstFace_47 (fun H locs hP hD hS => ?_)
        have hP : va_P (dC, dI) vwCl [(aL, .inr (3, [.ref aQ, .int (nI n), .int (nI pl), .int (nI cnt2), .int (nI dg), .int (nI sz), .int (bI ng)])), (aQ, .inr (1, [.ref aQF, .ref aQT, .ref aQN, .ref aQL, .ref aQU, .int (nI (cnt2 + 1))])), (aQF, .inl (cyI, 20, .inl (fun j_ => nI (F2 j_)))), (aQT, .inl (cyI, 20, .inl (fun j_ => nI (T2 j_)))), (aQN, .inl (cyI, 20, .inl nm2)), (aQL, .inl (cyI, 20, .inl lo2)), (aQU, .inl (cyI, 20, .inl up2))] H := hP
        have hD : va_D A [(aL, .inr (3, [.ref aQ, .int (nI n), .int (nI pl), .int (nI cnt2), .int (nI dg), .int (nI sz), .int (bI ng)])), (aQ, .inr (1, [.ref aQF, .ref aQT, .ref aQN, .ref aQL, .ref aQU, .int (nI (cnt2 + 1))])), (aQF, .inl (cyI, 20, .inl (fun j_ => nI (F2 j_)))), (aQT, .inl (cyI, 20, .inl (fun j_ => nI (T2 j_)))), (aQN, .inl (cyI, 20, .inl nm2)), (aQL, .inl (cyI, 20, .inl lo2)), (aQU, .inl (cyI, 20, .inl up2))] := hD
        refine lv_aload_n hx hb dX3_takeFirstFace_50 rfl (lv_at hl 0 rfl) ?_
        refine va_get (D := (dC, dI)) (ci := 3) (v := .ref aQ) (C := RX3) (T := TX3) (N := 7) hx hb hts iX3 hown hK hP 0 rfl rfl 0 (by decide) w1 (fun _ h9 => h9) rfl dX3_takeFirstFace_51 ?_
        refine lv_aload_n hx hb dX3_takeFirstFace_54 rfl (lv_at hl 0 rfl) ?_
        refine va_get (D := (dC, dI)) (ci := 3) (v := .int (nI cnt2)) (C := RX3) (T := TX3) (N := 7) hx hb hts iX3 hown hK hP 0 rfl rfl 3 (by decide) w3 (fun _ h9 => h9) rfl dX3_takeFirstFace_55 ?_
        refine lv_iload_n hx hb dX3_takeFirstFace_58 rfl (lv_at hl 1 rfl) ?_
        refine lv_topi (fun x9 e10 => ?_)
        obtain rfl : x9 = (nI (c - 65)) := by rw [e10]; exact pk_sub hc1
        clear e10
        refine lv_iload_n hx hb dX3_takeFirstFace_59 rfl (lv_at hl 1 rfl) ?_
        refine lv_topi (fun x11 e12 => ?_)
        obtain rfl : x11 = (nI (c - 65)) := by rw [e12]; exact pk_sub hc1
        clear e12
        refine lv_iconst (v := 0) hx hb dX3_takeFirstFace_60 (by decide) ?_
        refine lv_iconst (v := 0) hx hb dX3_takeFirstFace_61 (by decide) ?_
        refine lv_iconst (v := 0) hx hb dX3_takeFirstFace_62 (by decide) ?_
        have g13 : cnt2 < 20 := by omega
        have hPc := hP.sub (ws' := [(aQ, .inr (1, [.ref aQF, .ref aQT, .ref aQN, .ref aQL, .ref aQU, .int (nI (cnt2 + 1))])), (aQF, .inl (cyI, 20, .inl (fun j_ => nI (F2 j_)))), (aQT, .inl (cyI, 20, .inl (fun j_ => nI (T2 j_)))), (aQN, .inl (cyI, 20, .inl nm2)), (aQL, .inl (cyI, 20, .inl lo2)), (aQU, .inl (cyI, 20, .inl up2))]) [1, 2, 3, 4, 5, 6] rfl
        have hDc := hD.sub (ws' := [(aQ, .inr (1, [.ref aQF, .ref aQT, .ref aQN, .ref aQL, .ref aQU, .int (nI (cnt2 + 1))])), (aQF, .inl (cyI, 20, .inl (fun j_ => nI (F2 j_)))), (aQT, .inl (cyI, 20, .inl (fun j_ => nI (T2 j_)))), (aQN, .inl (cyI, 20, .inl nm2)), (aQL, .inl (cyI, 20, .inl lo2)), (aQU, .inl (cyI, 20, .inl up2))]) [1, 2, 3, 4, 5, 6] (by decide) rfl
        have hFc := va_free (wc := [(aQ, .inr (1, [.ref aQF, .ref aQT, .ref aQN, .ref aQL, .ref aQU, .int (nI (cnt2 + 1))])), (aQF, .inl (cyI, 20, .inl (fun j_ => nI (F2 j_)))), (aQT, .inl (cyI, 20, .inl (fun j_ => nI (T2 j_)))), (aQN, .inl (cyI, 20, .inl nm2)), (aQL, .inl (cyI, 20, .inl lo2)), (aQU, .inl (cyI, 20, .inl up2))]) hD hS hA [1, 2, 3, 4, 5, 6] rfl
        refine va_callv (va_runV (As := [.int (nI cnt2), .int (nI (c - 65)), .int (nI (c - 65)), .int 0, .int 0, .int 0]) (rest := []) ⟨hx, hb, hml, hown, hts⟩ (c_X1_put l dC dI cyI cyZ cyJ cyD aQ aQF aQT aQN aQL aQU H.size F2 T2 nm2 lo2 up2 (cnt2 + 1) cnt2 (c - 65) (c - 65) 0 0 0 g13) (cwV 6 hts gX3_takeFirstFace_X1_put rfl rfl rfl (by decide +kernel) ⟨Nat.le_of_ble_eq_true rfl, Nat.le_of_ble_eq_true rfl⟩) ⟨fun a U g mk q => by obtain ⟨q0, q1, qP, qK, qD⟩ := q; exact ⟨q0, q1, qP, va_K.moved (u := U) (U := U.calling g mk a) (Vm.Alike.refl U.vm) qK, qD⟩, va_recv hK hPc (ci := 1) (q0 := 0) rfl rfl, fun U hU hW => ⟨rfl, by rw [hU], by rw [hU]; exact hPc, va_K.moved hW.alike hK, hDc.weaken (fun _ _ _ _ => trivial)⟩⟩ rfl rfl hl.1 rfl (lv_room (Nat.le_of_ble_eq_true rfl)) dX3_takeFirstFace_63 ⟨Nat.le_of_ble_eq_true rfl, Nat.le_of_ble_eq_true rfl⟩) hS (fun q _ h => hFc q h) hFc (fun  u t H1 locs ht hvm hw hB hz1 hk1 hS => ?_)
        obtain ⟨hP1, hK1, hD1⟩ := hB
        rw [ht] at hP1
        obtain ⟨hP, hD⟩ := va_join (wr := [(aL, .inr (3, [.ref aQ, .int (nI n), .int (nI pl), .int (nI cnt2), .int (nI dg), .int (nI sz), .int (bI ng)]))]) (w1 := [(aQ, .inr (1, [.ref aQF, .ref aQT, .ref aQN, .ref aQL, .ref aQU, .int (nI (cnt2 + 1))])), (aQF, .inl (cyI, 20, .inl (fun j_ => nI ((updN F2 cnt2 (c - 65)) j_)))), (aQT, .inl (cyI, 20, .inl (fun j_ => nI ((updN T2 cnt2 (c - 65)) j_)))), (aQN, .inl (cyI, 20, .inl (upd nm2 cnt2 0))), (aQL, .inl (cyI, 20, .inl (upd lo2 cnt2 0))), (aQU, .inl (cyI, 20, .inl (upd up2 cnt2 0)))]) hP hD [1, 2, 3, 4, 5, 6] [0] rfl rfl (by decide) (by decide) hk1 hFc hP1 hD1
        clear hP1 hD1 hK1 hPc hDc hFc hk1 hz1 hvm ht u t
        generalize H1 = H at hP hS ⊢
        have hP : va_P (dC, dI) vwCl [(aL, .inr (3, [.ref aQ, .int (nI n), .int (nI pl), .int (nI cnt2), .int (nI dg), .int (nI sz), .int (bI ng)])), (aQ, .inr (1, [.ref aQF, .ref aQT, .ref aQN, .ref aQL, .ref aQU, .int (nI (cnt2 + 1))])), (aQF, .inl (cyI, 20, .inl (fun j_ => nI ((updN F2 cnt2 (c - 65)) j_)))), (aQT, .inl (cyI, 20, .inl (fun j_ => nI ((updN T2 cnt2 (c - 65)) j_)))), (aQN, .inl (cyI, 20, .inl (upd nm2 cnt2 0))), (aQL, .inl (cyI, 20, .inl (upd lo2 cnt2 0))), (aQU, .inl (cyI, 20, .inl (upd up2 cnt2 0)))] H := hP
        have hD : va_D A [(aL, .inr (3, [.ref aQ, .int (nI n), .int (nI pl), .int (nI cnt2), .int (nI dg), .int (nI sz), .int (bI ng)])), (aQ, .inr (1, [.ref aQF, .ref aQT, .ref aQN, .ref aQL, .ref aQU, .int (nI (cnt2 + 1))])), (aQF, .inl (cyI, 20, .inl (fun j_ => nI ((updN F2 cnt2 (c - 65)) j_)))), (aQT, .inl (cyI, 20, .inl (fun j_ => nI ((updN T2 cnt2 (c - 65)) j_)))), (aQN, .inl (cyI, 20, .inl (upd nm2 cnt2 0))), (aQL, .inl (cyI, 20, .inl (upd lo2 cnt2 0))), (aQU, .inl (cyI, 20, .inl (upd up2 cnt2 0)))] := hD
        refine lv_aload_n hx hb dX3_takeFirstFace_66 rfl (lv_at hl 0 rfl) ?_
        refine lv_iconst (v := 1) hx hb dX3_takeFirstFace_67 (by decide) ?_
        refine va_put (D := (dC, dI)) (ci := 3) (v := .int 1) (ty := .int) (C := RX3) (T := TX3) (N := 7) hx hb hts iX3 tyX3 tyX3_ok nmX3 hown hK hP hD hS 0 rfl rfl 2 (by decide) w4 (fun _ h9 => h9) rfl (by decide +kernel) rfl rfl (Nat.le_of_ble_eq_true rfl) dX3_takeFirstFace_68 (fun H locs hP hD hS => ?_)
        have hP : va_P (dC, dI) vwCl [(aL, .inr (3, [.ref aQ, .int (nI n), .int 1, .int (nI cnt2), .int (nI dg), .int (nI sz), .int (bI ng)])), (aQ, .inr (1, [.ref aQF, .ref aQT, .ref aQN, .ref aQL, .ref aQU, .int (nI (cnt2 + 1))])), (aQF, .inl (cyI, 20, .inl (fun j_ => nI ((updN F2 cnt2 (c - 65)) j_)))), (aQT, .inl (cyI, 20, .inl (fun j_ => nI ((updN T2 cnt2 (c - 65)) j_)))), (aQN, .inl (cyI, 20, .inl (upd nm2 cnt2 0))), (aQL, .inl (cyI, 20, .inl (upd lo2 cnt2 0))), (aQU, .inl (cyI, 20, .inl (upd up2 cnt2 0)))] H := hP
        have hD : va_D A [(aL, .inr (3, [.ref aQ, .int (nI n), .int 1, .int (nI cnt2), .int (nI dg), .int (nI sz), .int (bI ng)])), (aQ, .inr (1, [.ref aQF, .ref aQT, .ref aQN, .ref aQL, .ref aQU, .int (nI (cnt2 + 1))])), (aQF, .inl (cyI, 20, .inl (fun j_ => nI ((updN F2 cnt2 (c - 65)) j_)))), (aQT, .inl (cyI, 20, .inl (fun j_ => nI ((updN T2 cnt2 (c - 65)) j_)))), (aQN, .inl (cyI, 20, .inl (upd nm2 cnt2 0))), (aQL, .inl (cyI, 20, .inl (upd lo2 cnt2 0))), (aQU, .inl (cyI, 20, .inl (upd up2 cnt2 0)))] := hD
        refine lv_iconst (v := 1) hx hb dX3_takeFirstFace_71 (by decide) ?_
        have r14 : 1 = (bI ((tkA n (pl, row, dg, sz, ng, cnt2, F2, T2, nm2, lo2, up2) c).isSome)) := by simp [tkA, hz3, bI]
        have q15 : (nI 1) = 1 := by first | rfl | simp [*] | (simp only [*]; done)
        have hP9 : va_P (dC, dI) vwCl [(aL, .inr (3, [.ref aQ, .int (nI n), .int (nI 1), .int (nI cnt2), .int (nI dg), .int (nI sz), .int (bI ng)])), (aQ, .inr (1, [.ref aQF, .ref aQT, .ref aQN, .ref aQL, .ref aQU, .int (nI (cnt2 + 1))])), (aQF, .inl (cyI, 20, .inl (fun j_ => nI ((updN F2 cnt2 (c - 65)) j_)))), (aQT, .inl (cyI, 20, .inl (fun j_ => nI ((updN T2 cnt2 (c - 65)) j_)))), (aQN, .inl (cyI, 20, .inl (upd nm2 cnt2 0))), (aQL, .inl (cyI, 20, .inl (upd lo2 cnt2 0))), (aQU, .inl (cyI, 20, .inl (upd up2 cnt2 0)))] H := by first | (rw [q15]; exact hP.sub [0, 1, 2, 3, 4, 5, 6] rfl) | (simp only [q15]; exact hP.sub [0, 1, 2, 3, 4, 5, 6] rfl) | exact hP.sub [0, 1, 2, 3, 4, 5, 6] rfl
        have hD9 : va_D A [(aL, .inr (3, [.ref aQ, .int (nI n), .int (nI 1), .int (nI cnt2), .int (nI dg), .int (nI sz), .int (bI ng)])), (aQ, .inr (1, [.ref aQF, .ref aQT, .ref aQN, .ref aQL, .ref aQU, .int (nI (cnt2 + 1))])), (aQF, .inl (cyI, 20, .inl (fun j_ => nI ((updN F2 cnt2 (c - 65)) j_)))), (aQT, .inl (cyI, 20, .inl (fun j_ => nI ((updN T2 cnt2 (c - 65)) j_)))), (aQN, .inl (cyI, 20, .inl (upd nm2 cnt2 0))), (aQL, .inl (cyI, 20, .inl (upd lo2 cnt2 0))), (aQU, .inl (cyI, 20, .inl (upd up2 cnt2 0)))] := by first | (rw [q15]; exact hD.sub [0, 1, 2, 3, 4, 5, 6] (by decide) rfl) | (simp only [q15]; exact hD.sub [0, 1, 2, 3, 4, 5, 6] (by decide) rfl) | exact hD.sub [0, 1, 2, 3, 4, 5, 6] (by decide) rfl
        have p16 : tkA n (pl, row, dg, sz, ng, cnt2, F2, T2, nm2, lo2, up2) c = none ∨ tkA n (pl, row, dg, sz, ng, cnt2, F2, T2, nm2, lo2, up2) c = some (1, cnt2, dg, sz, ng, (cnt2 + 1), (updN F2 cnt2 (c - 65)), (updN T2 cnt2 (c - 65)), (upd nm2 cnt2 0), (upd lo2 cnt2 0), (upd up2 cnt2 0)) := by exact Or.inr (by simp [tkA, hz3])
        subst hAe
        subst hQe
        exact W.zret (v := 1) hx hb hr rfl (fun t ht hW => ⟨⟨_, (), rfl, r14, 1, cnt2, dg, sz, ng, (cnt2 + 1), (updN F2 cnt2 (c - 65)), (updN T2 cnt2 (c - 65)), (upd nm2 cnt2 0), (upd lo2 cnt2 0), (upd up2 cnt2 0), p16, by rw [ht]; exact hP9, va_K.moved hW.alike hK, hD9⟩, hS.F ht⟩) hS.2.2 dX3_takeFirstFace_72
      · have c21 := n_nlt (a := cnt2) (b := 20) (by omega) (by omega) c21
        have hz : tkA n (pl, row, dg, sz, ng, cnt2, F2, T2, nm2, lo2, up2) c = none := by simp [tkA]; omega
        refine lv_iconst (v := 0) hx hb dX3_takeFirstFace_24 (by decide) ?_
        have r17 : 0 = (bI ((tkA n (pl, row, dg, sz, ng, cnt2, F2, T2, nm2, lo2, up2) c).isSome)) := by rw [hz]; rfl
        have hP9 : va_P (dC, dI) vwCl [(aL, .inr (3, [.ref aQ, .int (nI n), .int (nI pl), .int (nI row), .int (nI dg), .int (nI sz), .int (bI ng)])), (aQ, .inr (1, [.ref aQF, .ref aQT, .ref aQN, .ref aQL, .ref aQU, .int (nI cnt2)])), (aQF, .inl (cyI, 20, .inl (fun j_ => nI (F2 j_)))), (aQT, .inl (cyI, 20, .inl (fun j_ => nI (T2 j_)))), (aQN, .inl (cyI, 20, .inl nm2)), (aQL, .inl (cyI, 20, .inl lo2)), (aQU, .inl (cyI, 20, .inl up2))] H := by exact hP.sub [0, 1, 2, 3, 4, 5, 6] rfl
        have hD9 : va_D A [(aL, .inr (3, [.ref aQ, .int (nI n), .int (nI pl), .int (nI row), .int (nI dg), .int (nI sz), .int (bI ng)])), (aQ, .inr (1, [.ref aQF, .ref aQT, .ref aQN, .ref aQL, .ref aQU, .int (nI cnt2)])), (aQF, .inl (cyI, 20, .inl (fun j_ => nI (F2 j_)))), (aQT, .inl (cyI, 20, .inl (fun j_ => nI (T2 j_)))), (aQN, .inl (cyI, 20, .inl nm2)), (aQL, .inl (cyI, 20, .inl lo2)), (aQU, .inl (cyI, 20, .inl up2))] := by exact hD.sub [0, 1, 2, 3, 4, 5, 6] (by decide) rfl
        have p18 : tkA n (pl, row, dg, sz, ng, cnt2, F2, T2, nm2, lo2, up2) c = none ∨ tkA n (pl, row, dg, sz, ng, cnt2, F2, T2, nm2, lo2, up2) c = some (pl, row, dg, sz, ng, cnt2, F2, T2, nm2, lo2, up2) := by exact Or.inl hz
        subst hAe
        subst hQe
        exact W.zret (v := 0) hx hb hr rfl (fun t ht hW => ⟨⟨_, (), rfl, r17, pl, row, dg, sz, ng, cnt2, F2, T2, nm2, lo2, up2, p18, by rw [ht]; exact hP9, va_K.moved hW.alike hK, hD9⟩, hS.F ht⟩) hS.2.2 dX3_takeFirstFace_25
set_option maxHeartbeats 4000000 in
set_option maxRecDepth 100000 in
theorem c_X3_takeSecondFace (l : Launch) (dC : Nat → ClassId) (dI : Nat → Nat → Nat) (cyI cyZ cyJ cyD : ClassId) (aL aQ aQF aQT aQN aQL aQU : Nat) (zH : Nat) (n : Nat) (pl : Nat) (row : Nat) (dg : Nat) (sz : Nat) (ng : Bool) (F2 : Nat → Nat) (T2 : Nat → Nat) (nm2 : Nat → Int32) (lo2 : Nat → Int32) (up2 : Nat → Int32) (cnt2 : Nat) (c : Nat) (hc : c < 128) (hn : n ≤ 12) (hrow : row < 20) (hFr : F2 row < 12) : Met l yX3_takeSecondFace wsX3_takeSecondFace ({ frames := 0, cells := 0, slots := 0, locals := 0 } : Room) (va_Pc [.ref aL, .int (nI c - 65)] (fun U => U.heap.size = zH ∧ va_P (dC, dI) vwCl [(aL, .inr (3, [.ref aQ, .int (nI n), .int (nI pl), .int (nI row), .int (nI dg), .int (nI sz), .int (bI ng)])), (aQ, .inr (1, [.ref aQF, .ref aQT, .ref aQN, .ref aQL, .ref aQU, .int (nI cnt2)])), (aQF, .inl (cyI, 20, .inl (fun j_ => nI (F2 j_)))), (aQT, .inl (cyI, 20, .inl (fun j_ => nI (T2 j_)))), (aQN, .inl (cyI, 20, .inl nm2)), (aQL, .inl (cyI, 20, .inl lo2)), (aQU, .inl (cyI, 20, .inl up2))] U.heap ∧ va_K (dC, dI) vwCl [(cyI, .int), (cyZ, .boolean), (cyJ, .long), (cyD, .double)] U ∧ va_D (fun _ => True) [(aL, .inr (3, [.ref aQ, .int (nI n), .int (nI pl), .int (nI row), .int (nI dg), .int (nI sz), .int (bI ng)])), (aQ, .inr (1, [.ref aQF, .ref aQT, .ref aQN, .ref aQL, .ref aQU, .int (nI cnt2)])), (aQF, .inl (cyI, 20, .inl (fun j_ => nI (F2 j_)))), (aQT, .inl (cyI, 20, .inl (fun j_ => nI (T2 j_)))), (aQN, .inl (cyI, 20, .inl nm2)), (aQL, .inl (cyI, 20, .inl lo2)), (aQU, .inl (cyI, 20, .inl up2))])) (va_Qi (fun (r : Int32) (_ : Unit) => r = bI ((tkB n (pl, row, dg, sz, ng, cnt2, F2, T2, nm2, lo2, up2) c).isSome)) (fun _ t => ∃ (pl3 : Nat), ∃ (row3 : Nat), ∃ (dg3 : Nat), ∃ (sz3 : Nat), ∃ (ng3 : Bool), ∃ (cnt3 : Nat), ∃ (F3 : Nat → Nat), ∃ (T3 : Nat → Nat), ∃ (nm3 : Nat → Int32), ∃ (lo3 : Nat → Int32), ∃ (up3 : Nat → Int32), (tkB n (pl, row, dg, sz, ng, cnt2, F2, T2, nm2, lo2, up2) c = none ∨ tkB n (pl, row, dg, sz, ng, cnt2, F2, T2, nm2, lo2, up2) c = some (pl3, row3, dg3, sz3, ng3, cnt3, F3, T3, nm3, lo3, up3)) ∧ va_P (dC, dI) vwCl [(aL, .inr (3, [.ref aQ, .int (nI n), .int (nI pl3), .int (nI row3), .int (nI dg3), .int (nI sz3), .int (bI ng3)])), (aQ, .inr (1, [.ref aQF, .ref aQT, .ref aQN, .ref aQL, .ref aQU, .int (nI cnt3)])), (aQF, .inl (cyI, 20, .inl (fun j_ => nI (F3 j_)))), (aQT, .inl (cyI, 20, .inl (fun j_ => nI (T3 j_)))), (aQN, .inl (cyI, 20, .inl nm3)), (aQL, .inl (cyI, 20, .inl lo3)), (aQU, .inl (cyI, 20, .inl up3))] t.heap ∧ va_K (dC, dI) vwCl [(cyI, .int), (cyZ, .boolean), (cyJ, .long), (cyD, .double)] t ∧ va_D (va_A [(aL, .inr (3, [.ref aQ, .int (nI n), .int (nI pl), .int (nI row), .int (nI dg), .int (nI sz), .int (bI ng)])), (aQ, .inr (1, [.ref aQF, .ref aQT, .ref aQN, .ref aQL, .ref aQU, .int (nI cnt2)])), (aQF, .inl (cyI, 20, .inl (fun j_ => nI (F2 j_)))), (aQT, .inl (cyI, 20, .inl (fun j_ => nI (T2 j_)))), (aQN, .inl (cyI, 20, .inl nm2)), (aQL, .inl (cyI, 20, .inl lo2)), (aQU, .inl (cyI, 20, .inl up2))] zH) [(aL, .inr (3, [.ref aQ, .int (nI n), .int (nI pl3), .int (nI row3), .int (nI dg3), .int (nI sz3), .int (bI ng3)])), (aQ, .inr (1, [.ref aQF, .ref aQT, .ref aQN, .ref aQL, .ref aQU, .int (nI cnt3)])), (aQF, .inl (cyI, 20, .inl (fun j_ => nI (F3 j_)))), (aQT, .inl (cyI, 20, .inl (fun j_ => nI (T3 j_)))), (aQN, .inl (cyI, 20, .inl nm3)), (aQL, .inl (cyI, 20, .inl lo3)), (aQU, .inl (cyI, 20, .inl up3))]) (va_A [(aL, .inr (3, [.ref aQ, .int (nI n), .int (nI pl), .int (nI row), .int (nI dg), .int (nI sz), .int (bI ng)])), (aQ, .inr (1, [.ref aQF, .ref aQT, .ref aQN, .ref aQL, .ref aQU, .int (nI cnt2)])), (aQF, .inl (cyI, 20, .inl (fun j_ => nI (F2 j_)))), (aQT, .inl (cyI, 20, .inl (fun j_ => nI (T2 j_)))), (aQN, .inl (cyI, 20, .inl nm2)), (aQL, .inl (cyI, 20, .inl lo2)), (aQU, .inl (cyI, 20, .inl up2))] zH)) 0 0 (va_A [(aL, .inr (3, [.ref aQ, .int (nI n), .int (nI pl), .int (nI row), .int (nI dg), .int (nI sz), .int (bI ng)])), (aQ, .inr (1, [.ref aQF, .ref aQT, .ref aQN, .ref aQL, .ref aQU, .int (nI cnt2)])), (aQF, .inl (cyI, 20, .inl (fun j_ => nI (F2 j_)))), (aQT, .inl (cyI, 20, .inl (fun j_ => nI (T2 j_)))), (aQN, .inl (cyI, 20, .inl nm2)), (aQL, .inl (cyI, 20, .inl lo2)), (aQU, .inl (cyI, 20, .inl up2))] zH) := by
  refine Met.ofW (cc := cX3_takeSecondFace) (maxL := 2) (ret := (some .boolean)) (by decide) rfl ?_
  intro pM eM s mM args blM mtM cM s₁ BM hml hv
  obtain ⟨rfl, hsz, hP, hK, hD0⟩ := hv
  have hx := BM.exec
  have hb := BM.bytes
  have hr := BM.returns
  have hts := atoms_spec (ws := wsX3_takeSecondFace) BM.pre
  have hown : s.vm.findClass RX3 = some mM.cls := findClass_of_methodNamed BM.named
  have hlocks := BM.notSynchronized
  have w0 := hts (.fieldLink RX3 18 "DimensionChecker$ListReader" "faces" "I") (by decide +kernel)
  have w1 := hts (.fieldLink RX3 12 "DimensionChecker$ListReader" "rows" "LDimensionChecker$Dimensions;") (by decide +kernel)
  have w2 := hts (.fieldLink RX3 78 "DimensionChecker$Dimensions" "from" "[I") (by decide +kernel)
  have w3 := hts (.fieldLink RX3 25 "DimensionChecker$ListReader" "row" "I") (by decide +kernel)
  have w4 := hts (.fieldLink RX3 82 "DimensionChecker$Dimensions" "to" "[I") (by decide +kernel)
  have w5 := hts (.fieldLink RX3 22 "DimensionChecker$ListReader" "place" "I") (by decide +kernel)
  have iX3 : ∀ w ∈ wsX30, w ∈ wsX3_takeSecondFace := by decide +kernel
  have iX1 : ∀ w ∈ wsX10, w ∈ wsX3_takeSecondFace := by decide +kernel
  subst hsz
  have hD := hD0.self (sz := s.heap.size)
  obtain ⟨Q, hQe⟩ : ∃ Q : State → Prop, Q = MQ blM (va_Qi (fun (r : Int32) (_ : Unit) => r = bI ((tkB n (pl, row, dg, sz, ng, cnt2, F2, T2, nm2, lo2, up2) c).isSome)) (fun _ t => ∃ (pl3 : Nat), ∃ (row3 : Nat), ∃ (dg3 : Nat), ∃ (sz3 : Nat), ∃ (ng3 : Bool), ∃ (cnt3 : Nat), ∃ (F3 : Nat → Nat), ∃ (T3 : Nat → Nat), ∃ (nm3 : Nat → Int32), ∃ (lo3 : Nat → Int32), ∃ (up3 : Nat → Int32), (tkB n (pl, row, dg, sz, ng, cnt2, F2, T2, nm2, lo2, up2) c = none ∨ tkB n (pl, row, dg, sz, ng, cnt2, F2, T2, nm2, lo2, up2) c = some (pl3, row3, dg3, sz3, ng3, cnt3, F3, T3, nm3, lo3, up3)) ∧ va_P (dC, dI) vwCl [(aL, .inr (3, [.ref aQ, .int (nI n), .int (nI pl3), .int (nI row3), .int (nI dg3), .int (nI sz3), .int (bI ng3)])), (aQ, .inr (1, [.ref aQF, .ref aQT, .ref aQN, .ref aQL, .ref aQU, .int (nI cnt3)])), (aQF, .inl (cyI, 20, .inl (fun j_ => nI (F3 j_)))), (aQT, .inl (cyI, 20, .inl (fun j_ => nI (T3 j_)))), (aQN, .inl (cyI, 20, .inl nm3)), (aQL, .inl (cyI, 20, .inl lo3)), (aQU, .inl (cyI, 20, .inl up3))] t.heap ∧ va_K (dC, dI) vwCl [(cyI, .int), (cyZ, .boolean), (cyJ, .long), (cyD, .double)] t ∧ va_D (va_A [(aL, .inr (3, [.ref aQ, .int (nI n), .int (nI pl), .int (nI row), .int (nI dg), .int (nI sz), .int (bI ng)])), (aQ, .inr (1, [.ref aQF, .ref aQT, .ref aQN, .ref aQL, .ref aQU, .int (nI cnt2)])), (aQF, .inl (cyI, 20, .inl (fun j_ => nI (F2 j_)))), (aQT, .inl (cyI, 20, .inl (fun j_ => nI (T2 j_)))), (aQN, .inl (cyI, 20, .inl nm2)), (aQL, .inl (cyI, 20, .inl lo2)), (aQU, .inl (cyI, 20, .inl up2))] s.heap.size) [(aL, .inr (3, [.ref aQ, .int (nI n), .int (nI pl3), .int (nI row3), .int (nI dg3), .int (nI sz3), .int (bI ng3)])), (aQ, .inr (1, [.ref aQF, .ref aQT, .ref aQN, .ref aQL, .ref aQU, .int (nI cnt3)])), (aQF, .inl (cyI, 20, .inl (fun j_ => nI (F3 j_)))), (aQT, .inl (cyI, 20, .inl (fun j_ => nI (T3 j_)))), (aQN, .inl (cyI, 20, .inl nm3)), (aQL, .inl (cyI, 20, .inl lo3)), (aQU, .inl (cyI, 20, .inl up3))]) (va_A [(aL, .inr (3, [.ref aQ, .int (nI n), .int (nI pl), .int (nI row), .int (nI dg), .int (nI sz), .int (bI ng)])), (aQ, .inr (1, [.ref aQF, .ref aQT, .ref aQN, .ref aQL, .ref aQU, .int (nI cnt2)])), (aQF, .inl (cyI, 20, .inl (fun j_ => nI (F2 j_)))), (aQT, .inl (cyI, 20, .inl (fun j_ => nI (T2 j_)))), (aQN, .inl (cyI, 20, .inl nm2)), (aQL, .inl (cyI, 20, .inl lo2)), (aQU, .inl (cyI, 20, .inl up2))] s.heap.size)) ([.ref aL, .int (nI c - 65)] : List Value).toArray s 0 0 (va_A [(aL, .inr (3, [.ref aQ, .int (nI n), .int (nI pl), .int (nI row), .int (nI dg), .int (nI sz), .int (bI ng)])), (aQ, .inr (1, [.ref aQF, .ref aQT, .ref aQN, .ref aQL, .ref aQU, .int (nI cnt2)])), (aQF, .inl (cyI, 20, .inl (fun j_ => nI (F2 j_)))), (aQT, .inl (cyI, 20, .inl (fun j_ => nI (T2 j_)))), (aQN, .inl (cyI, 20, .inl nm2)), (aQL, .inl (cyI, 20, .inl lo2)), (aQU, .inl (cyI, 20, .inl up2))] s.heap.size) := ⟨_, rfl⟩
  rw [← hQe]
  generalize hAe : va_A [(aL, .inr (3, [.ref aQ, .int (nI n), .int (nI pl), .int (nI row), .int (nI dg), .int (nI sz), .int (bI ng)])), (aQ, .inr (1, [.ref aQF, .ref aQT, .ref aQN, .ref aQL, .ref aQU, .int (nI cnt2)])), (aQF, .inl (cyI, 20, .inl (fun j_ => nI (F2 j_)))), (aQT, .inl (cyI, 20, .inl (fun j_ => nI (T2 j_)))), (aQN, .inl (cyI, 20, .inl nm2)), (aQL, .inl (cyI, 20, .inl lo2)), (aQU, .inl (cyI, 20, .inl up2))] s.heap.size = A at hD hQe
  have hA : ∀ q : Nat, s.heap.size ≤ q → A q := fun q h => by rw [← hAe]; exact Or.inr h
  obtain ⟨H, hHe⟩ : ∃ H : Heap, H = s.heap := ⟨_, rfl⟩
  have hS : va_S A s.heap H [] := by rw [hHe]; exact va_S.rf
  rw [← hHe] at hP ⊢
  have hl := lv_entry ([.ref aL, .int (nI c - 65)]) (n := 2) (Nat.le_of_ble_eq_true rfl)
  rw [lg_entry_eq]
  generalize (lg_sl ([.ref aL, .int (nI c - 65)]) ++ List.replicate (2 - (lg_sl ([.ref aL, .int (nI c - 65)])).length) Slot.unset).toArray = ls at hl ⊢
  have hl : lv_has ls 2 [(0, .ref aL), (1, .int (nI c - 65))] := hl
  refine lv_iload_n hx hb dX3_takeSecondFace_0 rfl (lv_at hl 1 rfl) ?_
  refine lv_if_lt (tgt := 28) hx hb dX3_takeSecondFace_1 (by decide) (fun c1 => ?_) (fun c1 => ?_)
  · have hc1 := a65_t hc c1
    have hz : tkB n (pl, row, dg, sz, ng, cnt2, F2, T2, nm2, lo2, up2) c = none := by simp [tkB]; omega
    refine lv_iconst (v := 0) hx hb dX3_takeSecondFace_28 (by decide) ?_
    have r1 : 0 = (bI ((tkB n (pl, row, dg, sz, ng, cnt2, F2, T2, nm2, lo2, up2) c).isSome)) := by rw [hz]; rfl
    have hP9 : va_P (dC, dI) vwCl [(aL, .inr (3, [.ref aQ, .int (nI n), .int (nI pl), .int (nI row), .int (nI dg), .int (nI sz), .int (bI ng)])), (aQ, .inr (1, [.ref aQF, .ref aQT, .ref aQN, .ref aQL, .ref aQU, .int (nI cnt2)])), (aQF, .inl (cyI, 20, .inl (fun j_ => nI (F2 j_)))), (aQT, .inl (cyI, 20, .inl (fun j_ => nI (T2 j_)))), (aQN, .inl (cyI, 20, .inl nm2)), (aQL, .inl (cyI, 20, .inl lo2)), (aQU, .inl (cyI, 20, .inl up2))] H := by exact hP.sub [0, 1, 2, 3, 4, 5, 6] rfl
    have hD9 : va_D A [(aL, .inr (3, [.ref aQ, .int (nI n), .int (nI pl), .int (nI row), .int (nI dg), .int (nI sz), .int (bI ng)])), (aQ, .inr (1, [.ref aQF, .ref aQT, .ref aQN, .ref aQL, .ref aQU, .int (nI cnt2)])), (aQF, .inl (cyI, 20, .inl (fun j_ => nI (F2 j_)))), (aQT, .inl (cyI, 20, .inl (fun j_ => nI (T2 j_)))), (aQN, .inl (cyI, 20, .inl nm2)), (aQL, .inl (cyI, 20, .inl lo2)), (aQU, .inl (cyI, 20, .inl up2))] := by exact hD.sub [0, 1, 2, 3, 4, 5, 6] (by decide) rfl
    have p2 : tkB n (pl, row, dg, sz, ng, cnt2, F2, T2, nm2, lo2, up2) c = none ∨ tkB n (pl, row, dg, sz, ng, cnt2, F2, T2, nm2, lo2, up2) c = some (pl, row, dg, sz, ng, cnt2, F2, T2, nm2, lo2, up2) := by exact Or.inl hz
    subst hAe
    subst hQe
    exact W.zret (v := 0) hx hb hr rfl (fun t ht hW => ⟨⟨_, (), rfl, r1, pl, row, dg, sz, ng, cnt2, F2, T2, nm2, lo2, up2, p2, by rw [ht]; exact hP9, va_K.moved hW.alike hK, hD9⟩, hS.F ht⟩) hS.2.2 dX3_takeSecondFace_29
  · have hc1 := a65_f hc c1
    refine lv_iload_n hx hb dX3_takeSecondFace_4 rfl (lv_at hl 1 rfl) ?_
    refine lv_topi (fun x3 e4 => ?_)
    obtain rfl : x3 = (nI (c - 65)) := by rw [e4]; exact pk_sub hc1
    clear e4
    refine lv_aload_n hx hb dX3_takeSecondFace_5 rfl (lv_at hl 0 rfl) ?_
    refine va_get (D := (dC, dI)) (ci := 3) (v := .int (nI n)) (C := RX3) (T := TX3) (N := 7) hx hb hts iX3 hown hK hP 0 rfl rfl 1 (by decide) w0 (fun _ h9 => h9) rfl dX3_takeSecondFace_6 ?_
    refine lv_icmp_ge (tgt := 28) hx hb dX3_takeSecondFace_9 (by decide) (fun c9 => ?_) (fun c9 => ?_)
    · have c9 := n_le (a := n) (b := c - 65) (by omega) (by omega) c9
      have hz : tkB n (pl, row, dg, sz, ng, cnt2, F2, T2, nm2, lo2, up2) c = none := by simp [tkB]; omega
      refine lv_iconst (v := 0) hx hb dX3_takeSecondFace_28 (by decide) ?_
      have r5 : 0 = (bI ((tkB n (pl, row, dg, sz, ng, cnt2, F2, T2, nm2, lo2, up2) c).isSome)) := by rw [hz]; rfl
      have hP9 : va_P (dC, dI) vwCl [(aL, .inr (3, [.ref aQ, .int (nI n), .int (nI pl), .int (nI row), .int (nI dg), .int (nI sz), .int (bI ng)])), (aQ, .inr (1, [.ref aQF, .ref aQT, .ref aQN, .ref aQL, .ref aQU, .int (nI cnt2)])), (aQF, .inl (cyI, 20, .inl (fun j_ => nI (F2 j_)))), (aQT, .inl (cyI, 20, .inl (fun j_ => nI (T2 j_)))), (aQN, .inl (cyI, 20, .inl nm2)), (aQL, .inl (cyI, 20, .inl lo2)), (aQU, .inl (cyI, 20, .inl up2))] H := by exact hP.sub [0, 1, 2, 3, 4, 5, 6] rfl
      have hD9 : va_D A [(aL, .inr (3, [.ref aQ, .int (nI n), .int (nI pl), .int (nI row), .int (nI dg), .int (nI sz), .int (bI ng)])), (aQ, .inr (1, [.ref aQF, .ref aQT, .ref aQN, .ref aQL, .ref aQU, .int (nI cnt2)])), (aQF, .inl (cyI, 20, .inl (fun j_ => nI (F2 j_)))), (aQT, .inl (cyI, 20, .inl (fun j_ => nI (T2 j_)))), (aQN, .inl (cyI, 20, .inl nm2)), (aQL, .inl (cyI, 20, .inl lo2)), (aQU, .inl (cyI, 20, .inl up2))] := by exact hD.sub [0, 1, 2, 3, 4, 5, 6] (by decide) rfl
      have p6 : tkB n (pl, row, dg, sz, ng, cnt2, F2, T2, nm2, lo2, up2) c = none ∨ tkB n (pl, row, dg, sz, ng, cnt2, F2, T2, nm2, lo2, up2) c = some (pl, row, dg, sz, ng, cnt2, F2, T2, nm2, lo2, up2) := by exact Or.inl hz
      subst hAe
      subst hQe
      exact W.zret (v := 0) hx hb hr rfl (fun t ht hW => ⟨⟨_, (), rfl, r5, pl, row, dg, sz, ng, cnt2, F2, T2, nm2, lo2, up2, p6, by rw [ht]; exact hP9, va_K.moved hW.alike hK, hD9⟩, hS.F ht⟩) hS.2.2 dX3_takeSecondFace_29
    · have c9 := n_nle (a := n) (b := c - 65) (by omega) (by omega) c9
      refine lv_iload_n hx hb dX3_takeSecondFace_12 rfl (lv_at hl 1 rfl) ?_
      refine lv_topi (fun x7 e8 => ?_)
      obtain rfl : x7 = (nI (c - 65)) := by rw [e8]; exact pk_sub hc1
      clear e8
      refine lv_aload_n hx hb dX3_takeSecondFace_13 rfl (lv_at hl 0 rfl) ?_
      refine va_get (D := (dC, dI)) (ci := 3) (v := .ref aQ) (C := RX3) (T := TX3) (N := 7) hx hb hts iX3 hown hK hP 0 rfl rfl 0 (by decide) w1 (fun _ h9 => h9) rfl dX3_takeSecondFace_14 ?_
      refine va_get (D := (dC, dI)) (ci := 1) (v := .ref aQF) (C := RX1) (T := TX1) (N := 6) hx hb hts iX1 hown hK hP 1 rfl rfl 0 (by decide) w2 (fun _ h9 => h9) rfl dX3_takeSecondFace_17 ?_
      refine lv_aload_n hx hb dX3_takeSecondFace_20 rfl (lv_at hl 0 rfl) ?_
      refine va_get (D := (dC, dI)) (ci := 3) (v := .int (nI row)) (C := RX3) (T := TX3) (N := 7) hx hb hts iX3 hown hK hP 0 rfl rfl 3 (by decide) w3 (fun _ h9 => h9) rfl dX3_takeSecondFace_21 ?_
      have h9 : vp_in (nI row) 20 := by first | exact vp_in_nI (by omega) (by omega) | assumption
      refine va_iald hx hb hK hP 2 0 rfl rfl h9 dX3_takeSecondFace_24 ?_
      refine lv_topi (fun x10 e11 => ?_)
      obtain rfl : x10 = (nI (F2 row)) := by rw [e11, nI_clamp (by omega)]
      clear e11
      refine lv_icmp_ne (tgt := 30) hx hb dX3_takeSecondFace_25 (by decide) (fun c25 => ?_) (fun c25 => ?_)
      · have c25 := n_ne (a := c - 65) (b := F2 row) (by omega) (by omega) c25
        have hz3 : 65 ≤ c ∧ c - 65 < n ∧ ¬ c - 65 = F2 row := by omega
        refine lv_aload_n hx hb dX3_takeSecondFace_30 rfl (lv_at hl 0 rfl) ?_
        refine va_get (D := (dC, dI)) (ci := 3) (v := .ref aQ) (C := RX3) (T := TX3) (N := 7) hx hb hts iX3 hown hK hP 0 rfl rfl 0 (by decide) w1 (fun _ h9 => h9) rfl dX3_takeSecondFace_31 ?_
        refine va_get (D := (dC, dI)) (ci := 1) (v := .ref aQT) (C := RX1) (T := TX1) (N := 6) hx hb hts iX1 hown hK hP 1 rfl rfl 1 (by decide) w4 (fun _ h9 => h9) rfl dX3_takeSecondFace_34 ?_
        refine lv_aload_n hx hb dX3_takeSecondFace_37 rfl (lv_at hl 0 rfl) ?_
        refine va_get (D := (dC, dI)) (ci := 3) (v := .int (nI row)) (C := RX3) (T := TX3) (N := 7) hx hb hts iX3 hown hK hP 0 rfl rfl 3 (by decide) w3 (fun _ h9 => h9) rfl dX3_takeSecondFace_38 ?_
        refine lv_iload_n hx hb dX3_takeSecondFace_41 rfl (lv_at hl 1 rfl) ?_
        refine lv_topi (fun x12 e13 => ?_)
        obtain rfl : x12 = (nI (c - 65)) := by rw [e13]; exact pk_sub hc1
        clear e13
        have h14 : vp_in (nI row) 20 := by first | exact vp_in_nI (by omega) (by omega) | assumption
        refine va_iast hx hb hK hP hD hS 3 0 rfl rfl h14 dX3_takeSecondFace_42 (fun H locs hP hD hS => ?_)
        rw [nI_clamp (by omega)] at hP hD
        have ub : upd (fun j_ => nI (T2 j_)) row (nI (c - 65)) = (fun j_ => nI ((updN T2 row (c - 65)) j_)) := updN_z _ _ _
        have hP : va_P (dC, dI) vwCl [(aL, .inr (3, [.ref aQ, .int (nI n), .int (nI pl), .int (nI row), .int (nI dg), .int (nI sz), .int (bI ng)])), (aQ, .inr (1, [.ref aQF, .ref aQT, .ref aQN, .ref aQL, .ref aQU, .int (nI cnt2)])), (aQF, .inl (cyI, 20, .inl (fun j_ => nI (F2 j_)))), (aQT, .inl (cyI, 20, .inl (fun j_ => nI ((updN T2 row (c - 65)) j_)))), (aQN, .inl (cyI, 20, .inl nm2)), (aQL, .inl (cyI, 20, .inl lo2)), (aQU, .inl (cyI, 20, .inl up2))] H := by rw [← ub]; exact hP
        have hD : va_D A [(aL, .inr (3, [.ref aQ, .int (nI n), .int (nI pl), .int (nI row), .int (nI dg), .int (nI sz), .int (bI ng)])), (aQ, .inr (1, [.ref aQF, .ref aQT, .ref aQN, .ref aQL, .ref aQU, .int (nI cnt2)])), (aQF, .inl (cyI, 20, .inl (fun j_ => nI (F2 j_)))), (aQT, .inl (cyI, 20, .inl (fun j_ => nI ((updN T2 row (c - 65)) j_)))), (aQN, .inl (cyI, 20, .inl nm2)), (aQL, .inl (cyI, 20, .inl lo2)), (aQU, .inl (cyI, 20, .inl up2))] := by rw [← ub]; exact hD
        refine lv_aload_n hx hb dX3_takeSecondFace_43 rfl (lv_at hl 0 rfl) ?_
        refine lv_iconst (v := 2) hx hb dX3_takeSecondFace_44 (by decide) ?_
        refine va_put (D := (dC, dI)) (ci := 3) (v := .int 2) (ty := .int) (C := RX3) (T := TX3) (N := 7) hx hb hts iX3 tyX3 tyX3_ok nmX3 hown hK hP hD hS 0 rfl rfl 2 (by decide) w5 (fun _ h9 => h9) rfl (by decide +kernel) rfl rfl (Nat.le_of_ble_eq_true rfl) dX3_takeSecondFace_45 (fun H locs hP hD hS => ?_)
        have hP : va_P (dC, dI) vwCl [(aL, .inr (3, [.ref aQ, .int (nI n), .int 2, .int (nI row), .int (nI dg), .int (nI sz), .int (bI ng)])), (aQ, .inr (1, [.ref aQF, .ref aQT, .ref aQN, .ref aQL, .ref aQU, .int (nI cnt2)])), (aQF, .inl (cyI, 20, .inl (fun j_ => nI (F2 j_)))), (aQT, .inl (cyI, 20, .inl (fun j_ => nI ((updN T2 row (c - 65)) j_)))), (aQN, .inl (cyI, 20, .inl nm2)), (aQL, .inl (cyI, 20, .inl lo2)), (aQU, .inl (cyI, 20, .inl up2))] H := hP
        have hD : va_D A [(aL, .inr (3, [.ref aQ, .int (nI n), .int 2, .int (nI row), .int (nI dg), .int (nI sz), .int (bI ng)])), (aQ, .inr (1, [.ref aQF, .ref aQT, .ref aQN, .ref aQL, .ref aQU, .int (nI cnt2)])), (aQF, .inl (cyI, 20, .inl (fun j_ => nI (F2 j_)))), (aQT, .inl (cyI, 20, .inl (fun j_ => nI ((updN T2 row (c - 65)) j_)))), (aQN, .inl (cyI, 20, .inl nm2)), (aQL, .inl (cyI, 20, .inl lo2)), (aQU, .inl (cyI, 20, .inl up2))] := hD
        refine lv_iconst (v := 1) hx hb dX3_takeSecondFace_48 (by decide) ?_
        have r15 : 1 = (bI ((tkB n (pl, row, dg, sz, ng, cnt2, F2, T2, nm2, lo2, up2) c).isSome)) := by simp [tkB, hz3, bI]
        have q16 : (nI 2) = 2 := by first | rfl | simp [*] | (simp only [*]; done)
        have hP9 : va_P (dC, dI) vwCl [(aL, .inr (3, [.ref aQ, .int (nI n), .int (nI 2), .int (nI row), .int (nI dg), .int (nI sz), .int (bI ng)])), (aQ, .inr (1, [.ref aQF, .ref aQT, .ref aQN, .ref aQL, .ref aQU, .int (nI cnt2)])), (aQF, .inl (cyI, 20, .inl (fun j_ => nI (F2 j_)))), (aQT, .inl (cyI, 20, .inl (fun j_ => nI ((updN T2 row (c - 65)) j_)))), (aQN, .inl (cyI, 20, .inl nm2)), (aQL, .inl (cyI, 20, .inl lo2)), (aQU, .inl (cyI, 20, .inl up2))] H := by first | (rw [q16]; exact hP.sub [0, 1, 2, 3, 4, 5, 6] rfl) | (simp only [q16]; exact hP.sub [0, 1, 2, 3, 4, 5, 6] rfl) | exact hP.sub [0, 1, 2, 3, 4, 5, 6] rfl
        have hD9 : va_D A [(aL, .inr (3, [.ref aQ, .int (nI n), .int (nI 2), .int (nI row), .int (nI dg), .int (nI sz), .int (bI ng)])), (aQ, .inr (1, [.ref aQF, .ref aQT, .ref aQN, .ref aQL, .ref aQU, .int (nI cnt2)])), (aQF, .inl (cyI, 20, .inl (fun j_ => nI (F2 j_)))), (aQT, .inl (cyI, 20, .inl (fun j_ => nI ((updN T2 row (c - 65)) j_)))), (aQN, .inl (cyI, 20, .inl nm2)), (aQL, .inl (cyI, 20, .inl lo2)), (aQU, .inl (cyI, 20, .inl up2))] := by first | (rw [q16]; exact hD.sub [0, 1, 2, 3, 4, 5, 6] (by decide) rfl) | (simp only [q16]; exact hD.sub [0, 1, 2, 3, 4, 5, 6] (by decide) rfl) | exact hD.sub [0, 1, 2, 3, 4, 5, 6] (by decide) rfl
        have p17 : tkB n (pl, row, dg, sz, ng, cnt2, F2, T2, nm2, lo2, up2) c = none ∨ tkB n (pl, row, dg, sz, ng, cnt2, F2, T2, nm2, lo2, up2) c = some (2, row, dg, sz, ng, cnt2, F2, (updN T2 row (c - 65)), nm2, lo2, up2) := by exact Or.inr (by simp [tkB, hz3])
        subst hAe
        subst hQe
        exact W.zret (v := 1) hx hb hr rfl (fun t ht hW => ⟨⟨_, (), rfl, r15, 2, row, dg, sz, ng, cnt2, F2, (updN T2 row (c - 65)), nm2, lo2, up2, p17, by rw [ht]; exact hP9, va_K.moved hW.alike hK, hD9⟩, hS.F ht⟩) hS.2.2 dX3_takeSecondFace_49
      · have c25 := n_eq (a := c - 65) (b := F2 row) (by omega) (by omega) c25
        have hz : tkB n (pl, row, dg, sz, ng, cnt2, F2, T2, nm2, lo2, up2) c = none := by simp [tkB]; omega
        refine lv_iconst (v := 0) hx hb dX3_takeSecondFace_28 (by decide) ?_
        have r18 : 0 = (bI ((tkB n (pl, row, dg, sz, ng, cnt2, F2, T2, nm2, lo2, up2) c).isSome)) := by rw [hz]; rfl
        have hP9 : va_P (dC, dI) vwCl [(aL, .inr (3, [.ref aQ, .int (nI n), .int (nI pl), .int (nI row), .int (nI dg), .int (nI sz), .int (bI ng)])), (aQ, .inr (1, [.ref aQF, .ref aQT, .ref aQN, .ref aQL, .ref aQU, .int (nI cnt2)])), (aQF, .inl (cyI, 20, .inl (fun j_ => nI (F2 j_)))), (aQT, .inl (cyI, 20, .inl (fun j_ => nI (T2 j_)))), (aQN, .inl (cyI, 20, .inl nm2)), (aQL, .inl (cyI, 20, .inl lo2)), (aQU, .inl (cyI, 20, .inl up2))] H := by exact hP.sub [0, 1, 2, 3, 4, 5, 6] rfl
        have hD9 : va_D A [(aL, .inr (3, [.ref aQ, .int (nI n), .int (nI pl), .int (nI row), .int (nI dg), .int (nI sz), .int (bI ng)])), (aQ, .inr (1, [.ref aQF, .ref aQT, .ref aQN, .ref aQL, .ref aQU, .int (nI cnt2)])), (aQF, .inl (cyI, 20, .inl (fun j_ => nI (F2 j_)))), (aQT, .inl (cyI, 20, .inl (fun j_ => nI (T2 j_)))), (aQN, .inl (cyI, 20, .inl nm2)), (aQL, .inl (cyI, 20, .inl lo2)), (aQU, .inl (cyI, 20, .inl up2))] := by exact hD.sub [0, 1, 2, 3, 4, 5, 6] (by decide) rfl
        have p19 : tkB n (pl, row, dg, sz, ng, cnt2, F2, T2, nm2, lo2, up2) c = none ∨ tkB n (pl, row, dg, sz, ng, cnt2, F2, T2, nm2, lo2, up2) c = some (pl, row, dg, sz, ng, cnt2, F2, T2, nm2, lo2, up2) := by exact Or.inl hz
        subst hAe
        subst hQe
        exact W.zret (v := 0) hx hb hr rfl (fun t ht hW => ⟨⟨_, (), rfl, r18, pl, row, dg, sz, ng, cnt2, F2, T2, nm2, lo2, up2, p19, by rw [ht]; exact hP9, va_K.moved hW.alike hK, hD9⟩, hS.F ht⟩) hS.2.2 dX3_takeSecondFace_29
set_option maxHeartbeats 4000000 in
set_option maxRecDepth 100000 in
theorem c_X3_takeInNominal (l : Launch) (dC : Nat → ClassId) (dI : Nat → Nat → Nat) (cyI cyZ cyJ cyD : ClassId) (aL aQ aQF aQT aQN aQL aQU : Nat) (zH : Nat) (n : Nat) (pl : Nat) (row : Nat) (dg : Nat) (sz : Nat) (ng : Bool) (F2 : Nat → Nat) (T2 : Nat → Nat) (nm2 : Nat → Int32) (lo2 : Nat → Int32) (up2 : Nat → Int32) (cnt2 : Nat) (c : Nat) (hc : c < 128) (hk : cnt2 ≤ 20) (hrow : row < 20) (hdg : dg ≤ 5) (hsz : sz < 100000) : Met l yX3_takeInNominal wsX3_takeInNominal ({ frames := 2, cells := 0, slots := 0, locals := 44 } : Room) (va_Pc [.ref aL, .int (nI c)] (fun U => U.heap.size = zH ∧ va_P (dC, dI) vwCl [(aL, .inr (3, [.ref aQ, .int (nI n), .int (nI pl), .int (nI row), .int (nI dg), .int (nI sz), .int (bI ng)])), (aQ, .inr (1, [.ref aQF, .ref aQT, .ref aQN, .ref aQL, .ref aQU, .int (nI cnt2)])), (aQF, .inl (cyI, 20, .inl (fun j_ => nI (F2 j_)))), (aQT, .inl (cyI, 20, .inl (fun j_ => nI (T2 j_)))), (aQN, .inl (cyI, 20, .inl nm2)), (aQL, .inl (cyI, 20, .inl lo2)), (aQU, .inl (cyI, 20, .inl up2))] U.heap ∧ va_K (dC, dI) vwCl [(cyI, .int), (cyZ, .boolean), (cyJ, .long), (cyD, .double)] U ∧ va_D (fun _ => True) [(aL, .inr (3, [.ref aQ, .int (nI n), .int (nI pl), .int (nI row), .int (nI dg), .int (nI sz), .int (bI ng)])), (aQ, .inr (1, [.ref aQF, .ref aQT, .ref aQN, .ref aQL, .ref aQU, .int (nI cnt2)])), (aQF, .inl (cyI, 20, .inl (fun j_ => nI (F2 j_)))), (aQT, .inl (cyI, 20, .inl (fun j_ => nI (T2 j_)))), (aQN, .inl (cyI, 20, .inl nm2)), (aQL, .inl (cyI, 20, .inl lo2)), (aQU, .inl (cyI, 20, .inl up2))])) (va_Qi (fun (r : Int32) (_ : Unit) => r = bI ((tkN (pl, row, dg, sz, ng, cnt2, F2, T2, nm2, lo2, up2) c).isSome)) (fun _ t => ∃ (pl3 : Nat), ∃ (row3 : Nat), ∃ (dg3 : Nat), ∃ (sz3 : Nat), ∃ (ng3 : Bool), ∃ (cnt3 : Nat), ∃ (F3 : Nat → Nat), ∃ (T3 : Nat → Nat), ∃ (nm3 : Nat → Int32), ∃ (lo3 : Nat → Int32), ∃ (up3 : Nat → Int32), (tkN (pl, row, dg, sz, ng, cnt2, F2, T2, nm2, lo2, up2) c = none ∨ tkN (pl, row, dg, sz, ng, cnt2, F2, T2, nm2, lo2, up2) c = some (pl3, row3, dg3, sz3, ng3, cnt3, F3, T3, nm3, lo3, up3)) ∧ va_P (dC, dI) vwCl [(aL, .inr (3, [.ref aQ, .int (nI n), .int (nI pl3), .int (nI row3), .int (nI dg3), .int (nI sz3), .int (bI ng3)])), (aQ, .inr (1, [.ref aQF, .ref aQT, .ref aQN, .ref aQL, .ref aQU, .int (nI cnt3)])), (aQF, .inl (cyI, 20, .inl (fun j_ => nI (F3 j_)))), (aQT, .inl (cyI, 20, .inl (fun j_ => nI (T3 j_)))), (aQN, .inl (cyI, 20, .inl nm3)), (aQL, .inl (cyI, 20, .inl lo3)), (aQU, .inl (cyI, 20, .inl up3))] t.heap ∧ va_K (dC, dI) vwCl [(cyI, .int), (cyZ, .boolean), (cyJ, .long), (cyD, .double)] t ∧ va_D (va_A [(aL, .inr (3, [.ref aQ, .int (nI n), .int (nI pl), .int (nI row), .int (nI dg), .int (nI sz), .int (bI ng)])), (aQ, .inr (1, [.ref aQF, .ref aQT, .ref aQN, .ref aQL, .ref aQU, .int (nI cnt2)])), (aQF, .inl (cyI, 20, .inl (fun j_ => nI (F2 j_)))), (aQT, .inl (cyI, 20, .inl (fun j_ => nI (T2 j_)))), (aQN, .inl (cyI, 20, .inl nm2)), (aQL, .inl (cyI, 20, .inl lo2)), (aQU, .inl (cyI, 20, .inl up2))] zH) [(aL, .inr (3, [.ref aQ, .int (nI n), .int (nI pl3), .int (nI row3), .int (nI dg3), .int (nI sz3), .int (bI ng3)])), (aQ, .inr (1, [.ref aQF, .ref aQT, .ref aQN, .ref aQL, .ref aQU, .int (nI cnt3)])), (aQF, .inl (cyI, 20, .inl (fun j_ => nI (F3 j_)))), (aQT, .inl (cyI, 20, .inl (fun j_ => nI (T3 j_)))), (aQN, .inl (cyI, 20, .inl nm3)), (aQL, .inl (cyI, 20, .inl lo3)), (aQU, .inl (cyI, 20, .inl up3))]) (va_A [(aL, .inr (3, [.ref aQ, .int (nI n), .int (nI pl), .int (nI row), .int (nI dg), .int (nI sz), .int (bI ng)])), (aQ, .inr (1, [.ref aQF, .ref aQT, .ref aQN, .ref aQL, .ref aQU, .int (nI cnt2)])), (aQF, .inl (cyI, 20, .inl (fun j_ => nI (F2 j_)))), (aQT, .inl (cyI, 20, .inl (fun j_ => nI (T2 j_)))), (aQN, .inl (cyI, 20, .inl nm2)), (aQL, .inl (cyI, 20, .inl lo2)), (aQU, .inl (cyI, 20, .inl up2))] zH)) 0 0 (va_A [(aL, .inr (3, [.ref aQ, .int (nI n), .int (nI pl), .int (nI row), .int (nI dg), .int (nI sz), .int (bI ng)])), (aQ, .inr (1, [.ref aQF, .ref aQT, .ref aQN, .ref aQL, .ref aQU, .int (nI cnt2)])), (aQF, .inl (cyI, 20, .inl (fun j_ => nI (F2 j_)))), (aQT, .inl (cyI, 20, .inl (fun j_ => nI (T2 j_)))), (aQN, .inl (cyI, 20, .inl nm2)), (aQL, .inl (cyI, 20, .inl lo2)), (aQU, .inl (cyI, 20, .inl up2))] zH) := by
  refine Met.ofW (cc := cX3_takeInNominal) (maxL := 2) (ret := (some .boolean)) (by decide) rfl ?_
  intro pM eM s mM args blM mtM cM s₁ BM hml hv
  obtain ⟨rfl, hsz, hP, hK, hD0⟩ := hv
  have hx := BM.exec
  have hb := BM.bytes
  have hr := BM.returns
  have hts := atoms_spec (ws := wsX3_takeInNominal) BM.pre
  have hown : s.vm.findClass RX3 = some mM.cls := findClass_of_methodNamed BM.named
  have hlocks := BM.notSynchronized
  have w0 := hts (.fieldLink RX3 28 "DimensionChecker$ListReader" "digits" "I") (by decide +kernel)
  have w1 := hts (.fieldLink RX3 12 "DimensionChecker$ListReader" "rows" "LDimensionChecker$Dimensions;") (by decide +kernel)
  have w2 := hts (.fieldLink RX3 92 "DimensionChecker$Dimensions" "nominal" "[I") (by decide +kernel)
  have w3 := hts (.fieldLink RX3 25 "DimensionChecker$ListReader" "row" "I") (by decide +kernel)
  have iX3 : ∀ w ∈ wsX30, w ∈ wsX3_takeInNominal := by decide +kernel
  have iX1 : ∀ w ∈ wsX10, w ∈ wsX3_takeInNominal := by decide +kernel
  subst hsz
  have hD := hD0.self (sz := s.heap.size)
  obtain ⟨Q, hQe⟩ : ∃ Q : State → Prop, Q = MQ blM (va_Qi (fun (r : Int32) (_ : Unit) => r = bI ((tkN (pl, row, dg, sz, ng, cnt2, F2, T2, nm2, lo2, up2) c).isSome)) (fun _ t => ∃ (pl3 : Nat), ∃ (row3 : Nat), ∃ (dg3 : Nat), ∃ (sz3 : Nat), ∃ (ng3 : Bool), ∃ (cnt3 : Nat), ∃ (F3 : Nat → Nat), ∃ (T3 : Nat → Nat), ∃ (nm3 : Nat → Int32), ∃ (lo3 : Nat → Int32), ∃ (up3 : Nat → Int32), (tkN (pl, row, dg, sz, ng, cnt2, F2, T2, nm2, lo2, up2) c = none ∨ tkN (pl, row, dg, sz, ng, cnt2, F2, T2, nm2, lo2, up2) c = some (pl3, row3, dg3, sz3, ng3, cnt3, F3, T3, nm3, lo3, up3)) ∧ va_P (dC, dI) vwCl [(aL, .inr (3, [.ref aQ, .int (nI n), .int (nI pl3), .int (nI row3), .int (nI dg3), .int (nI sz3), .int (bI ng3)])), (aQ, .inr (1, [.ref aQF, .ref aQT, .ref aQN, .ref aQL, .ref aQU, .int (nI cnt3)])), (aQF, .inl (cyI, 20, .inl (fun j_ => nI (F3 j_)))), (aQT, .inl (cyI, 20, .inl (fun j_ => nI (T3 j_)))), (aQN, .inl (cyI, 20, .inl nm3)), (aQL, .inl (cyI, 20, .inl lo3)), (aQU, .inl (cyI, 20, .inl up3))] t.heap ∧ va_K (dC, dI) vwCl [(cyI, .int), (cyZ, .boolean), (cyJ, .long), (cyD, .double)] t ∧ va_D (va_A [(aL, .inr (3, [.ref aQ, .int (nI n), .int (nI pl), .int (nI row), .int (nI dg), .int (nI sz), .int (bI ng)])), (aQ, .inr (1, [.ref aQF, .ref aQT, .ref aQN, .ref aQL, .ref aQU, .int (nI cnt2)])), (aQF, .inl (cyI, 20, .inl (fun j_ => nI (F2 j_)))), (aQT, .inl (cyI, 20, .inl (fun j_ => nI (T2 j_)))), (aQN, .inl (cyI, 20, .inl nm2)), (aQL, .inl (cyI, 20, .inl lo2)), (aQU, .inl (cyI, 20, .inl up2))] s.heap.size) [(aL, .inr (3, [.ref aQ, .int (nI n), .int (nI pl3), .int (nI row3), .int (nI dg3), .int (nI sz3), .int (bI ng3)])), (aQ, .inr (1, [.ref aQF, .ref aQT, .ref aQN, .ref aQL, .ref aQU, .int (nI cnt3)])), (aQF, .inl (cyI, 20, .inl (fun j_ => nI (F3 j_)))), (aQT, .inl (cyI, 20, .inl (fun j_ => nI (T3 j_)))), (aQN, .inl (cyI, 20, .inl nm3)), (aQL, .inl (cyI, 20, .inl lo3)), (aQU, .inl (cyI, 20, .inl up3))]) (va_A [(aL, .inr (3, [.ref aQ, .int (nI n), .int (nI pl), .int (nI row), .int (nI dg), .int (nI sz), .int (bI ng)])), (aQ, .inr (1, [.ref aQF, .ref aQT, .ref aQN, .ref aQL, .ref aQU, .int (nI cnt2)])), (aQF, .inl (cyI, 20, .inl (fun j_ => nI (F2 j_)))), (aQT, .inl (cyI, 20, .inl (fun j_ => nI (T2 j_)))), (aQN, .inl (cyI, 20, .inl nm2)), (aQL, .inl (cyI, 20, .inl lo2)), (aQU, .inl (cyI, 20, .inl up2))] s.heap.size)) ([.ref aL, .int (nI c)] : List Value).toArray s 0 0 (va_A [(aL, .inr (3, [.ref aQ, .int (nI n), .int (nI pl), .int (nI row), .int (nI dg), .int (nI sz), .int (bI ng)])), (aQ, .inr (1, [.ref aQF, .ref aQT, .ref aQN, .ref aQL, .ref aQU, .int (nI cnt2)])), (aQF, .inl (cyI, 20, .inl (fun j_ => nI (F2 j_)))), (aQT, .inl (cyI, 20, .inl (fun j_ => nI (T2 j_)))), (aQN, .inl (cyI, 20, .inl nm2)), (aQL, .inl (cyI, 20, .inl lo2)), (aQU, .inl (cyI, 20, .inl up2))] s.heap.size) := ⟨_, rfl⟩
  rw [← hQe]
  generalize hAe : va_A [(aL, .inr (3, [.ref aQ, .int (nI n), .int (nI pl), .int (nI row), .int (nI dg), .int (nI sz), .int (bI ng)])), (aQ, .inr (1, [.ref aQF, .ref aQT, .ref aQN, .ref aQL, .ref aQU, .int (nI cnt2)])), (aQF, .inl (cyI, 20, .inl (fun j_ => nI (F2 j_)))), (aQT, .inl (cyI, 20, .inl (fun j_ => nI (T2 j_)))), (aQN, .inl (cyI, 20, .inl nm2)), (aQL, .inl (cyI, 20, .inl lo2)), (aQU, .inl (cyI, 20, .inl up2))] s.heap.size = A at hD hQe
  have hA : ∀ q : Nat, s.heap.size ≤ q → A q := fun q h => by rw [← hAe]; exact Or.inr h
  obtain ⟨H, hHe⟩ : ∃ H : Heap, H = s.heap := ⟨_, rfl⟩
  have hS : va_S A s.heap H [] := by rw [hHe]; exact va_S.rf
  rw [← hHe] at hP ⊢
  have hl := lv_entry ([.ref aL, .int (nI c)]) (n := 2) (Nat.le_of_ble_eq_true rfl)
  rw [lg_entry_eq]
  generalize (lg_sl ([.ref aL, .int (nI c)]) ++ List.replicate (2 - (lg_sl ([.ref aL, .int (nI c)])).length) Slot.unset).toArray = ls at hl ⊢
  have hl : lv_has ls 2 [(0, .ref aL), (1, .int (nI c))] := hl
  refine lv_aload_n hx hb dX3_takeInNominal_0 rfl (lv_at hl 0 rfl) ?_
  refine lv_iload_n hx hb dX3_takeInNominal_1 rfl (lv_at hl 1 rfl) ?_
  refine lv_iconst (v := 5) hx hb dX3_takeInNominal_2 (by decide) ?_
  have g1 : c < 128 := by first | assumption | omega | exact vp_in_nI (by omega) (by omega)
  have g2 : 5 ≤ 5 := by first | assumption | omega | exact vp_in_nI (by omega) (by omega)
  have g3 : dg ≤ 5 := by first | assumption | omega | exact vp_in_nI (by omega) (by omega)
  have g4 : sz < 100000 := by first | assumption | omega | exact vp_in_nI (by omega) (by omega)
  have hPc := hP.sub (ws' := [(aL, .inr (3, [.ref aQ, .int (nI n), .int (nI pl), .int (nI row), .int (nI dg), .int (nI sz), .int (bI ng)]))]) [0] rfl
  have hDc := hD.sub (ws' := [(aL, .inr (3, [.ref aQ, .int (nI n), .int (nI pl), .int (nI row), .int (nI dg), .int (nI sz), .int (bI ng)]))]) [0] (by decide) rfl
  have hFc := va_free (wc := [(aL, .inr (3, [.ref aQ, .int (nI n), .int (nI pl), .int (nI row), .int (nI dg), .int (nI sz), .int (bI ng)]))]) hD hS hA [0] rfl
  refine va_calli (va_runV (As := [.int (nI c), .int 5]) (rest := []) ⟨hx, hb, hml, hown, hts⟩ (c_X3_takeDigit l dC dI cyI cyZ cyJ cyD aL aQ H.size n pl row dg sz ng c 5 g1 g2 g3 g4) (cwV 2 hts gX3_takeInNominal_X3_takeDigit rfl rfl rfl (by decide +kernel) ⟨Nat.le_of_ble_eq_true rfl, Nat.le_of_ble_eq_true rfl⟩) ⟨fun a U g mk q => by obtain ⟨q0, q1, qP, qK, qD⟩ := q; exact ⟨q0, q1, qP, va_K.moved (u := U) (U := U.calling g mk a) (Vm.Alike.refl U.vm) qK, qD⟩, va_recv hK hPc (ci := 3) (q0 := 0) rfl rfl, fun U hU hW => ⟨rfl, by rw [hU], by rw [hU]; exact hPc, va_K.moved hW.alike hK, hDc.weaken (fun _ _ _ _ => trivial)⟩⟩ rfl rfl hl.1 rfl (lv_room (Nat.le_of_ble_eq_true rfl)) dX3_takeInNominal_3 ⟨Nat.le_of_ble_eq_true rfl, Nat.le_of_ble_eq_true rfl⟩) hS (fun q _ h => hFc q h) hFc (fun r u t H1 locs ht hvm hw hB hz1 hk1 hS => ?_)
  obtain rfl := hw
  obtain ⟨hP1, hK1, hD1⟩ := hB
  rw [ht] at hP1
  obtain ⟨hP, hD⟩ := va_join (wr := [(aQ, .inr (1, [.ref aQF, .ref aQT, .ref aQN, .ref aQL, .ref aQU, .int (nI cnt2)])), (aQF, .inl (cyI, 20, .inl (fun j_ => nI (F2 j_)))), (aQT, .inl (cyI, 20, .inl (fun j_ => nI (T2 j_)))), (aQN, .inl (cyI, 20, .inl nm2)), (aQL, .inl (cyI, 20, .inl lo2)), (aQU, .inl (cyI, 20, .inl up2))]) (w1 := [(aL, .inr (3, [.ref aQ, .int (nI n), .int (nI pl), .int (nI row), .int (nI (if dgB c dg 5 = true then dg + 1 else dg)), .int (nI (if dgB c dg 5 = true then sz * 10 + c - 48 else sz)), .int (bI ng)]))]) hP hD [0] [1, 2, 3, 4, 5, 6] rfl rfl (by decide) (by decide) hk1 hFc hP1 hD1
  clear hP1 hD1 hK1 hPc hDc hFc hk1 hz1 hvm ht u t
  generalize H1 = H at hP hS ⊢
  have hP : va_P (dC, dI) vwCl [(aQ, .inr (1, [.ref aQF, .ref aQT, .ref aQN, .ref aQL, .ref aQU, .int (nI cnt2)])), (aQF, .inl (cyI, 20, .inl (fun j_ => nI (F2 j_)))), (aQT, .inl (cyI, 20, .inl (fun j_ => nI (T2 j_)))), (aQN, .inl (cyI, 20, .inl nm2)), (aQL, .inl (cyI, 20, .inl lo2)), (aQU, .inl (cyI, 20, .inl up2)), (aL, .inr (3, [.ref aQ, .int (nI n), .int (nI pl), .int (nI row), .int (nI (if dgB c dg 5 = true then dg + 1 else dg)), .int (nI (if dgB c dg 5 = true then sz * 10 + c - 48 else sz)), .int (bI ng)]))] H := hP
  have hD : va_D A [(aQ, .inr (1, [.ref aQF, .ref aQT, .ref aQN, .ref aQL, .ref aQU, .int (nI cnt2)])), (aQF, .inl (cyI, 20, .inl (fun j_ => nI (F2 j_)))), (aQT, .inl (cyI, 20, .inl (fun j_ => nI (T2 j_)))), (aQN, .inl (cyI, 20, .inl nm2)), (aQL, .inl (cyI, 20, .inl lo2)), (aQU, .inl (cyI, 20, .inl up2)), (aL, .inr (3, [.ref aQ, .int (nI n), .int (nI pl), .int (nI row), .int (nI (if dgB c dg 5 = true then dg + 1 else dg)), .int (nI (if dgB c dg 5 = true then sz * 10 + c - 48 else sz)), .int (bI ng)]))] := hD
  refine lv_if_eq (tgt := 27) hx hb dX3_takeInNominal_6 (by decide) (fun c6 => ?_) (fun c6 => ?_)
  · have c6 : (dgB c dg 5) = false := bI_0 c6
    have q5 : (if dgB c dg 5 = true then dg + 1 else dg) = dg := by rw [c6]; rfl
    rw [q5] at hP hD
    have q6 : (if dgB c dg 5 = true then sz * 10 + c - 48 else sz) = sz := by rw [c6]; rfl
    rw [q6] at hP hD
    have hP : va_P (dC, dI) vwCl [(aQ, .inr (1, [.ref aQF, .ref aQT, .ref aQN, .ref aQL, .ref aQU, .int (nI cnt2)])), (aQF, .inl (cyI, 20, .inl (fun j_ => nI (F2 j_)))), (aQT, .inl (cyI, 20, .inl (fun j_ => nI (T2 j_)))), (aQN, .inl (cyI, 20, .inl nm2)), (aQL, .inl (cyI, 20, .inl lo2)), (aQU, .inl (cyI, 20, .inl up2)), (aL, .inr (3, [.ref aQ, .int (nI n), .int (nI pl), .int (nI row), .int (nI dg), .int (nI sz), .int (bI ng)]))] H := hP
    have hD : va_D A [(aQ, .inr (1, [.ref aQF, .ref aQT, .ref aQN, .ref aQL, .ref aQU, .int (nI cnt2)])), (aQF, .inl (cyI, 20, .inl (fun j_ => nI (F2 j_)))), (aQT, .inl (cyI, 20, .inl (fun j_ => nI (T2 j_)))), (aQN, .inl (cyI, 20, .inl nm2)), (aQL, .inl (cyI, 20, .inl lo2)), (aQU, .inl (cyI, 20, .inl up2)), (aL, .inr (3, [.ref aQ, .int (nI n), .int (nI pl), .int (nI row), .int (nI dg), .int (nI sz), .int (bI ng)]))] := hD
    refine lv_aload_n hx hb dX3_takeInNominal_27 rfl (lv_at hl 0 rfl) ?_
    refine va_get (D := (dC, dI)) (ci := 3) (v := .int (nI dg)) (C := RX3) (T := TX3) (N := 7) hx hb hts iX3 hown hK hP 6 rfl rfl 4 (by decide) w0 (fun _ h9 => h9) rfl dX3_takeInNominal_28 ?_
    refine lv_if_le (tgt := 57) hx hb dX3_takeInNominal_31 (by decide) (fun c31 => ?_) (fun c31 => ?_)
    · have c31 := n_le (a := dg) (b := 0) (by omega) (by omega) c31
      have hz : tkN (pl, row, dg, sz, ng, cnt2, F2, T2, nm2, lo2, up2) c = none := by simp only [tkN]; rw [if_neg (by rw [c6]; exact Bool.false_ne_true), if_neg (by omega), if_neg (by omega)]
      refine lv_iconst (v := 0) hx hb dX3_takeInNominal_57 (by decide) ?_
      have r7 : 0 = (bI ((tkN (pl, row, dg, sz, ng, cnt2, F2, T2, nm2, lo2, up2) c).isSome)) := by rw [hz]; rfl
      have hP9 : va_P (dC, dI) vwCl [(aL, .inr (3, [.ref aQ, .int (nI n), .int (nI pl), .int (nI row), .int (nI dg), .int (nI sz), .int (bI ng)])), (aQ, .inr (1, [.ref aQF, .ref aQT, .ref aQN, .ref aQL, .ref aQU, .int (nI cnt2)])), (aQF, .inl (cyI, 20, .inl (fun j_ => nI (F2 j_)))), (aQT, .inl (cyI, 20, .inl (fun j_ => nI (T2 j_)))), (aQN, .inl (cyI, 20, .inl nm2)), (aQL, .inl (cyI, 20, .inl lo2)), (aQU, .inl (cyI, 20, .inl up2))] H := by exact hP.sub [6, 0, 1, 2, 3, 4, 5] rfl
      have hD9 : va_D A [(aL, .inr (3, [.ref aQ, .int (nI n), .int (nI pl), .int (nI row), .int (nI dg), .int (nI sz), .int (bI ng)])), (aQ, .inr (1, [.ref aQF, .ref aQT, .ref aQN, .ref aQL, .ref aQU, .int (nI cnt2)])), (aQF, .inl (cyI, 20, .inl (fun j_ => nI (F2 j_)))), (aQT, .inl (cyI, 20, .inl (fun j_ => nI (T2 j_)))), (aQN, .inl (cyI, 20, .inl nm2)), (aQL, .inl (cyI, 20, .inl lo2)), (aQU, .inl (cyI, 20, .inl up2))] := by exact hD.sub [6, 0, 1, 2, 3, 4, 5] (by decide) rfl
      have p8 : tkN (pl, row, dg, sz, ng, cnt2, F2, T2, nm2, lo2, up2) c = none ∨ tkN (pl, row, dg, sz, ng, cnt2, F2, T2, nm2, lo2, up2) c = some (pl, row, dg, sz, ng, cnt2, F2, T2, nm2, lo2, up2) := by first | exact Or.inl hz | exact Or.inr hz
      subst hAe
      subst hQe
      exact W.zret (v := 0) hx hb hr rfl (fun t ht hW => ⟨⟨_, (), rfl, r7, pl, row, dg, sz, ng, cnt2, F2, T2, nm2, lo2, up2, p8, by rw [ht]; exact hP9, va_K.moved hW.alike hK, hD9⟩, hS.F ht⟩) hS.2.2 dX3_takeInNominal_58
    · have c31 := n_nle (a := dg) (b := 0) (by omega) (by omega) c31
      refine lv_aload_n hx hb dX3_takeInNominal_34 rfl (lv_at hl 0 rfl) ?_
      refine lv_iload_n hx hb dX3_takeInNominal_35 rfl (lv_at hl 1 rfl) ?_
      refine lv_bipush (v := 91) hx hb dX3_takeInNominal_36 (by decide) ?_
      refine lv_iconst (v := 5) hx hb dX3_takeInNominal_38 (by decide) ?_
      have g9 : c < 128 := by first | assumption | omega | exact vp_in_nI (by omega) (by omega)
      have g10 : 91 < 128 := by first | assumption | omega | exact vp_in_nI (by omega) (by omega)
      have hPc := hP.sub (ws' := [(aL, .inr (3, [.ref aQ, .int (nI n), .int (nI pl), .int (nI row), .int (nI dg), .int (nI sz), .int (bI ng)]))]) [6] rfl
      have hDc := hD.sub (ws' := [(aL, .inr (3, [.ref aQ, .int (nI n), .int (nI pl), .int (nI row), .int (nI dg), .int (nI sz), .int (bI ng)]))]) [6] (by decide) rfl
      have hFc := va_free (wc := [(aL, .inr (3, [.ref aQ, .int (nI n), .int (nI pl), .int (nI row), .int (nI dg), .int (nI sz), .int (bI ng)]))]) hD hS hA [6] rfl
      refine va_calli (va_runV (As := [.int (nI c), .int 91, .int 5]) (rest := []) ⟨hx, hb, hml, hown, hts⟩ (c_X3_takeSign l dC dI cyI cyZ cyJ cyD aL aQ H.size n pl row dg sz ng c 91 5 g9 g10) (cwV 3 hts gX3_takeInNominal_X3_takeSign rfl rfl rfl (by decide +kernel) ⟨Nat.le_of_ble_eq_true rfl, Nat.le_of_ble_eq_true rfl⟩) ⟨fun a U g mk q => by obtain ⟨q0, q1, qP, qK, qD⟩ := q; exact ⟨q0, q1, qP, va_K.moved (u := U) (U := U.calling g mk a) (Vm.Alike.refl U.vm) qK, qD⟩, va_recv hK hPc (ci := 3) (q0 := 0) rfl rfl, fun U hU hW => ⟨rfl, by rw [hU], by rw [hU]; exact hPc, va_K.moved hW.alike hK, hDc.weaken (fun _ _ _ _ => trivial)⟩⟩ rfl rfl hl.1 rfl (lv_room (Nat.le_of_ble_eq_true rfl)) dX3_takeInNominal_39 ⟨Nat.le_of_ble_eq_true rfl, Nat.le_of_ble_eq_true rfl⟩) hS (fun q _ h => hFc q h) hFc (fun r u t H1 locs ht hvm hw hB hz1 hk1 hS => ?_)
      obtain rfl := hw
      obtain ⟨hP1, hK1, hD1⟩ := hB
      rw [ht] at hP1
      obtain ⟨hP, hD⟩ := va_join (wr := [(aQ, .inr (1, [.ref aQF, .ref aQT, .ref aQN, .ref aQL, .ref aQU, .int (nI cnt2)])), (aQF, .inl (cyI, 20, .inl (fun j_ => nI (F2 j_)))), (aQT, .inl (cyI, 20, .inl (fun j_ => nI (T2 j_)))), (aQN, .inl (cyI, 20, .inl nm2)), (aQL, .inl (cyI, 20, .inl lo2)), (aQU, .inl (cyI, 20, .inl up2))]) (w1 := [(aL, .inr (3, [.ref aQ, .int (nI n), .int (nI (if c = 91 then 5 else pl)), .int (nI row), .int (nI dg), .int (nI sz), .int (bI ng)]))]) hP hD [6] [0, 1, 2, 3, 4, 5] rfl rfl (by decide) (by decide) hk1 hFc hP1 hD1
      clear hP1 hD1 hK1 hPc hDc hFc hk1 hz1 hvm ht u t
      generalize H1 = H at hP hS ⊢
      have hP : va_P (dC, dI) vwCl [(aQ, .inr (1, [.ref aQF, .ref aQT, .ref aQN, .ref aQL, .ref aQU, .int (nI cnt2)])), (aQF, .inl (cyI, 20, .inl (fun j_ => nI (F2 j_)))), (aQT, .inl (cyI, 20, .inl (fun j_ => nI (T2 j_)))), (aQN, .inl (cyI, 20, .inl nm2)), (aQL, .inl (cyI, 20, .inl lo2)), (aQU, .inl (cyI, 20, .inl up2)), (aL, .inr (3, [.ref aQ, .int (nI n), .int (nI (if c = 91 then 5 else pl)), .int (nI row), .int (nI dg), .int (nI sz), .int (bI ng)]))] H := hP
      have hD : va_D A [(aQ, .inr (1, [.ref aQF, .ref aQT, .ref aQN, .ref aQL, .ref aQU, .int (nI cnt2)])), (aQF, .inl (cyI, 20, .inl (fun j_ => nI (F2 j_)))), (aQT, .inl (cyI, 20, .inl (fun j_ => nI (T2 j_)))), (aQN, .inl (cyI, 20, .inl nm2)), (aQL, .inl (cyI, 20, .inl lo2)), (aQU, .inl (cyI, 20, .inl up2)), (aL, .inr (3, [.ref aQ, .int (nI n), .int (nI (if c = 91 then 5 else pl)), .int (nI row), .int (nI dg), .int (nI sz), .int (bI ng)]))] := hD
      refine lv_if_ne (tgt := 53) hx hb dX3_takeInNominal_42 (by decide) (fun c42 => ?_) (fun c42 => ?_)
      · have c42 : (decide (c = 91)) = true := bI_n0 c42
        have c42 := of_decide_eq_true c42
        have hz : tkN (pl, row, dg, sz, ng, cnt2, F2, T2, nm2, lo2, up2) c = some (5, row, dg, sz, ng, cnt2, F2, T2, nm2, lo2, up2) := by simp only [tkN]; rw [if_neg (by rw [c6]; exact Bool.false_ne_true), if_pos ⟨c31, c42⟩]
        have q11 : (if c = 91 then 5 else pl) = 5 := by rw [if_pos c42]
        rw [q11] at hP hD
        have hP : va_P (dC, dI) vwCl [(aQ, .inr (1, [.ref aQF, .ref aQT, .ref aQN, .ref aQL, .ref aQU, .int (nI cnt2)])), (aQF, .inl (cyI, 20, .inl (fun j_ => nI (F2 j_)))), (aQT, .inl (cyI, 20, .inl (fun j_ => nI (T2 j_)))), (aQN, .inl (cyI, 20, .inl nm2)), (aQL, .inl (cyI, 20, .inl lo2)), (aQU, .inl (cyI, 20, .inl up2)), (aL, .inr (3, [.ref aQ, .int (nI n), .int (nI 5), .int (nI row), .int (nI dg), .int (nI sz), .int (bI ng)]))] H := hP
        have hD : va_D A [(aQ, .inr (1, [.ref aQF, .ref aQT, .ref aQN, .ref aQL, .ref aQU, .int (nI cnt2)])), (aQF, .inl (cyI, 20, .inl (fun j_ => nI (F2 j_)))), (aQT, .inl (cyI, 20, .inl (fun j_ => nI (T2 j_)))), (aQN, .inl (cyI, 20, .inl nm2)), (aQL, .inl (cyI, 20, .inl lo2)), (aQU, .inl (cyI, 20, .inl up2)), (aL, .inr (3, [.ref aQ, .int (nI n), .int (nI 5), .int (nI row), .int (nI dg), .int (nI sz), .int (bI ng)]))] := hD
        refine lv_iconst (v := 1) hx hb dX3_takeInNominal_53 (by decide) ?_
        refine lv_goto (tgt := 58) hx hb dX3_takeInNominal_54 (by decide) ?_
        have r12 : 1 = (bI ((tkN (pl, row, dg, sz, ng, cnt2, F2, T2, nm2, lo2, up2) c).isSome)) := by rw [hz]; rfl
        have hP9 : va_P (dC, dI) vwCl [(aL, .inr (3, [.ref aQ, .int (nI n), .int (nI 5), .int (nI row), .int (nI dg), .int (nI sz), .int (bI ng)])), (aQ, .inr (1, [.ref aQF, .ref aQT, .ref aQN, .ref aQL, .ref aQU, .int (nI cnt2)])), (aQF, .inl (cyI, 20, .inl (fun j_ => nI (F2 j_)))), (aQT, .inl (cyI, 20, .inl (fun j_ => nI (T2 j_)))), (aQN, .inl (cyI, 20, .inl nm2)), (aQL, .inl (cyI, 20, .inl lo2)), (aQU, .inl (cyI, 20, .inl up2))] H := by exact hP.sub [6, 0, 1, 2, 3, 4, 5] rfl
        have hD9 : va_D A [(aL, .inr (3, [.ref aQ, .int (nI n), .int (nI 5), .int (nI row), .int (nI dg), .int (nI sz), .int (bI ng)])), (aQ, .inr (1, [.ref aQF, .ref aQT, .ref aQN, .ref aQL, .ref aQU, .int (nI cnt2)])), (aQF, .inl (cyI, 20, .inl (fun j_ => nI (F2 j_)))), (aQT, .inl (cyI, 20, .inl (fun j_ => nI (T2 j_)))), (aQN, .inl (cyI, 20, .inl nm2)), (aQL, .inl (cyI, 20, .inl lo2)), (aQU, .inl (cyI, 20, .inl up2))] := by exact hD.sub [6, 0, 1, 2, 3, 4, 5] (by decide) rfl
        have p13 : tkN (pl, row, dg, sz, ng, cnt2, F2, T2, nm2, lo2, up2) c = none ∨ tkN (pl, row, dg, sz, ng, cnt2, F2, T2, nm2, lo2, up2) c = some (5, row, dg, sz, ng, cnt2, F2, T2, nm2, lo2, up2) := by first | exact Or.inl hz | exact Or.inr hz
        subst hAe
        subst hQe
        exact W.zret (v := 1) hx hb hr rfl (fun t ht hW => ⟨⟨_, (), rfl, r12, 5, row, dg, sz, ng, cnt2, F2, T2, nm2, lo2, up2, p13, by rw [ht]; exact hP9, va_K.moved hW.alike hK, hD9⟩, hS.F ht⟩) hS.2.2 dX3_takeInNominal_58
      · have c42 : (decide (c = 91)) = false := bI_0 c42
        have c42 := of_decide_eq_false c42
        have q14 : (if c = 91 then 5 else pl) = pl := by rw [if_neg c42]
        rw [q14] at hP hD
        have hP : va_P (dC, dI) vwCl [(aQ, .inr (1, [.ref aQF, .ref aQT, .ref aQN, .ref aQL, .ref aQU, .int (nI cnt2)])), (aQF, .inl (cyI, 20, .inl (fun j_ => nI (F2 j_)))), (aQT, .inl (cyI, 20, .inl (fun j_ => nI (T2 j_)))), (aQN, .inl (cyI, 20, .inl nm2)), (aQL, .inl (cyI, 20, .inl lo2)), (aQU, .inl (cyI, 20, .inl up2)), (aL, .inr (3, [.ref aQ, .int (nI n), .int (nI pl), .int (nI row), .int (nI dg), .int (nI sz), .int (bI ng)]))] H := hP
        have hD : va_D A [(aQ, .inr (1, [.ref aQF, .ref aQT, .ref aQN, .ref aQL, .ref aQU, .int (nI cnt2)])), (aQF, .inl (cyI, 20, .inl (fun j_ => nI (F2 j_)))), (aQT, .inl (cyI, 20, .inl (fun j_ => nI (T2 j_)))), (aQN, .inl (cyI, 20, .inl nm2)), (aQL, .inl (cyI, 20, .inl lo2)), (aQU, .inl (cyI, 20, .inl up2)), (aL, .inr (3, [.ref aQ, .int (nI n), .int (nI pl), .int (nI row), .int (nI dg), .int (nI sz), .int (bI ng)]))] := hD
        refine lv_aload_n hx hb dX3_takeInNominal_45 rfl (lv_at hl 0 rfl) ?_
        refine lv_iload_n hx hb dX3_takeInNominal_46 rfl (lv_at hl 1 rfl) ?_
        have g15 : c < 128 := by first | assumption | omega | exact vp_in_nI (by omega) (by omega)
        have g16 : cnt2 ≤ 20 := by first | assumption | omega | exact vp_in_nI (by omega) (by omega)
        have hPc := hP.sub (ws' := [(aL, .inr (3, [.ref aQ, .int (nI n), .int (nI pl), .int (nI row), .int (nI dg), .int (nI sz), .int (bI ng)])), (aQ, .inr (1, [.ref aQF, .ref aQT, .ref aQN, .ref aQL, .ref aQU, .int (nI cnt2)]))]) [6, 0] rfl
        have hDc := hD.sub (ws' := [(aL, .inr (3, [.ref aQ, .int (nI n), .int (nI pl), .int (nI row), .int (nI dg), .int (nI sz), .int (bI ng)])), (aQ, .inr (1, [.ref aQF, .ref aQT, .ref aQN, .ref aQL, .ref aQU, .int (nI cnt2)]))]) [6, 0] (by decide) rfl
        have hFc := va_free (wc := [(aL, .inr (3, [.ref aQ, .int (nI n), .int (nI pl), .int (nI row), .int (nI dg), .int (nI sz), .int (bI ng)])), (aQ, .inr (1, [.ref aQF, .ref aQT, .ref aQN, .ref aQL, .ref aQU, .int (nI cnt2)]))]) hD hS hA [6, 0] rfl
        refine va_calli (va_runV (As := [.int (nI c)]) (rest := []) ⟨hx, hb, hml, hown, hts⟩ (c_X3_takeSemicolon l dC dI cyI cyZ cyJ cyD aL aQ aQF aQT aQN aQL aQU H.size n pl row dg sz ng cnt2 c g15 g16) (cwV 1 hts gX3_takeInNominal_X3_takeSemicolon rfl rfl rfl (by decide +kernel) ⟨Nat.le_of_ble_eq_true rfl, Nat.le_of_ble_eq_true rfl⟩) ⟨fun a U g mk q => by obtain ⟨q0, q1, qP, qK, qD⟩ := q; exact ⟨q0, q1, qP, va_K.moved (u := U) (U := U.calling g mk a) (Vm.Alike.refl U.vm) qK, qD⟩, va_recv hK hPc (ci := 3) (q0 := 0) rfl rfl, fun U hU hW => ⟨rfl, by rw [hU], by rw [hU]; exact hPc, va_K.moved hW.alike hK, hDc.weaken (fun _ _ _ _ => trivial)⟩⟩ rfl rfl hl.1 rfl (lv_room (Nat.le_of_ble_eq_true rfl)) dX3_takeInNominal_47 ⟨Nat.le_of_ble_eq_true rfl, Nat.le_of_ble_eq_true rfl⟩) hS (fun q _ h => hFc q h) hFc (fun r u t H1 locs ht hvm hw hB hz1 hk1 hS => ?_)
        obtain rfl := hw
        obtain ⟨hP1, hK1, hD1⟩ := hB
        rw [ht] at hP1
        obtain ⟨hP, hD⟩ := va_join (wr := [(aQF, .inl (cyI, 20, .inl (fun j_ => nI (F2 j_)))), (aQT, .inl (cyI, 20, .inl (fun j_ => nI (T2 j_)))), (aQN, .inl (cyI, 20, .inl nm2)), (aQL, .inl (cyI, 20, .inl lo2)), (aQU, .inl (cyI, 20, .inl up2))]) (w1 := [(aL, .inr (3, [.ref aQ, .int (nI n), .int (nI (if cnt2 < 20 ∧ c = 59 then 0 else pl)), .int (nI row), .int (nI dg), .int (nI sz), .int (bI ng)])), (aQ, .inr (1, [.ref aQF, .ref aQT, .ref aQN, .ref aQL, .ref aQU, .int (nI cnt2)]))]) hP hD [6, 0] [1, 2, 3, 4, 5] rfl rfl (by decide) (by decide) hk1 hFc hP1 hD1
        clear hP1 hD1 hK1 hPc hDc hFc hk1 hz1 hvm ht u t
        generalize H1 = H at hP hS ⊢
        have hP : va_P (dC, dI) vwCl [(aQF, .inl (cyI, 20, .inl (fun j_ => nI (F2 j_)))), (aQT, .inl (cyI, 20, .inl (fun j_ => nI (T2 j_)))), (aQN, .inl (cyI, 20, .inl nm2)), (aQL, .inl (cyI, 20, .inl lo2)), (aQU, .inl (cyI, 20, .inl up2)), (aL, .inr (3, [.ref aQ, .int (nI n), .int (nI (if cnt2 < 20 ∧ c = 59 then 0 else pl)), .int (nI row), .int (nI dg), .int (nI sz), .int (bI ng)])), (aQ, .inr (1, [.ref aQF, .ref aQT, .ref aQN, .ref aQL, .ref aQU, .int (nI cnt2)]))] H := hP
        have hD : va_D A [(aQF, .inl (cyI, 20, .inl (fun j_ => nI (F2 j_)))), (aQT, .inl (cyI, 20, .inl (fun j_ => nI (T2 j_)))), (aQN, .inl (cyI, 20, .inl nm2)), (aQL, .inl (cyI, 20, .inl lo2)), (aQU, .inl (cyI, 20, .inl up2)), (aL, .inr (3, [.ref aQ, .int (nI n), .int (nI (if cnt2 < 20 ∧ c = 59 then 0 else pl)), .int (nI row), .int (nI dg), .int (nI sz), .int (bI ng)])), (aQ, .inr (1, [.ref aQF, .ref aQT, .ref aQN, .ref aQL, .ref aQU, .int (nI cnt2)]))] := hD
        refine lv_if_eq (tgt := 57) hx hb dX3_takeInNominal_50 (by decide) (fun c50 => ?_) (fun c50 => ?_)
        · have c50 : (decide (cnt2 < 20 ∧ c = 59)) = false := bI_0 c50
          have c50 := of_decide_eq_false c50
          have hz : tkN (pl, row, dg, sz, ng, cnt2, F2, T2, nm2, lo2, up2) c = none := by simp only [tkN]; rw [if_neg (by rw [c6]; exact Bool.false_ne_true), if_neg (fun q => c42 q.2), if_neg (fun q => c50 q.2)]
          have q17 : (if cnt2 < 20 ∧ c = 59 then 0 else pl) = pl := by rw [if_neg c50]
          rw [q17] at hP hD
          have hP : va_P (dC, dI) vwCl [(aQF, .inl (cyI, 20, .inl (fun j_ => nI (F2 j_)))), (aQT, .inl (cyI, 20, .inl (fun j_ => nI (T2 j_)))), (aQN, .inl (cyI, 20, .inl nm2)), (aQL, .inl (cyI, 20, .inl lo2)), (aQU, .inl (cyI, 20, .inl up2)), (aL, .inr (3, [.ref aQ, .int (nI n), .int (nI pl), .int (nI row), .int (nI dg), .int (nI sz), .int (bI ng)])), (aQ, .inr (1, [.ref aQF, .ref aQT, .ref aQN, .ref aQL, .ref aQU, .int (nI cnt2)]))] H := hP
          have hD : va_D A [(aQF, .inl (cyI, 20, .inl (fun j_ => nI (F2 j_)))), (aQT, .inl (cyI, 20, .inl (fun j_ => nI (T2 j_)))), (aQN, .inl (cyI, 20, .inl nm2)), (aQL, .inl (cyI, 20, .inl lo2)), (aQU, .inl (cyI, 20, .inl up2)), (aL, .inr (3, [.ref aQ, .int (nI n), .int (nI pl), .int (nI row), .int (nI dg), .int (nI sz), .int (bI ng)])), (aQ, .inr (1, [.ref aQF, .ref aQT, .ref aQN, .ref aQL, .ref aQU, .int (nI cnt2)]))] := hD
          refine lv_iconst (v := 0) hx hb dX3_takeInNominal_57 (by decide) ?_
          have r18 : 0 = (bI ((tkN (pl, row, dg, sz, ng, cnt2, F2, T2, nm2, lo2, up2) c).isSome)) := by rw [hz]; rfl
          have hP9 : va_P (dC, dI) vwCl [(aL, .inr (3, [.ref aQ, .int (nI n), .int (nI pl), .int (nI row), .int (nI dg), .int (nI sz), .int (bI ng)])), (aQ, .inr (1, [.ref aQF, .ref aQT, .ref aQN, .ref aQL, .ref aQU, .int (nI cnt2)])), (aQF, .inl (cyI, 20, .inl (fun j_ => nI (F2 j_)))), (aQT, .inl (cyI, 20, .inl (fun j_ => nI (T2 j_)))), (aQN, .inl (cyI, 20, .inl nm2)), (aQL, .inl (cyI, 20, .inl lo2)), (aQU, .inl (cyI, 20, .inl up2))] H := by exact hP.sub [5, 6, 0, 1, 2, 3, 4] rfl
          have hD9 : va_D A [(aL, .inr (3, [.ref aQ, .int (nI n), .int (nI pl), .int (nI row), .int (nI dg), .int (nI sz), .int (bI ng)])), (aQ, .inr (1, [.ref aQF, .ref aQT, .ref aQN, .ref aQL, .ref aQU, .int (nI cnt2)])), (aQF, .inl (cyI, 20, .inl (fun j_ => nI (F2 j_)))), (aQT, .inl (cyI, 20, .inl (fun j_ => nI (T2 j_)))), (aQN, .inl (cyI, 20, .inl nm2)), (aQL, .inl (cyI, 20, .inl lo2)), (aQU, .inl (cyI, 20, .inl up2))] := by exact hD.sub [5, 6, 0, 1, 2, 3, 4] (by decide) rfl
          have p19 : tkN (pl, row, dg, sz, ng, cnt2, F2, T2, nm2, lo2, up2) c = none ∨ tkN (pl, row, dg, sz, ng, cnt2, F2, T2, nm2, lo2, up2) c = some (pl, row, dg, sz, ng, cnt2, F2, T2, nm2, lo2, up2) := by first | exact Or.inl hz | exact Or.inr hz
          subst hAe
          subst hQe
          exact W.zret (v := 0) hx hb hr rfl (fun t ht hW => ⟨⟨_, (), rfl, r18, pl, row, dg, sz, ng, cnt2, F2, T2, nm2, lo2, up2, p19, by rw [ht]; exact hP9, va_K.moved hW.alike hK, hD9⟩, hS.F ht⟩) hS.2.2 dX3_takeInNominal_58
        · have c50 : (decide (cnt2 < 20 ∧ c = 59)) = true := bI_n0 c50
          have c50 := of_decide_eq_true c50
          have hz : tkN (pl, row, dg, sz, ng, cnt2, F2, T2, nm2, lo2, up2) c = some (0, row, dg, sz, ng, cnt2, F2, T2, nm2, lo2, up2) := by simp only [tkN]; rw [if_neg (by rw [c6]; exact Bool.false_ne_true), if_neg (fun q => c42 q.2), if_pos ⟨c31, c50⟩]
          have q20 : (if cnt2 < 20 ∧ c = 59 then 0 else pl) = 0 := by rw [if_pos c50]
          rw [q20] at hP hD
          have hP : va_P (dC, dI) vwCl [(aQF, .inl (cyI, 20, .inl (fun j_ => nI (F2 j_)))), (aQT, .inl (cyI, 20, .inl (fun j_ => nI (T2 j_)))), (aQN, .inl (cyI, 20, .inl nm2)), (aQL, .inl (cyI, 20, .inl lo2)), (aQU, .inl (cyI, 20, .inl up2)), (aL, .inr (3, [.ref aQ, .int (nI n), .int (nI 0), .int (nI row), .int (nI dg), .int (nI sz), .int (bI ng)])), (aQ, .inr (1, [.ref aQF, .ref aQT, .ref aQN, .ref aQL, .ref aQU, .int (nI cnt2)]))] H := hP
          have hD : va_D A [(aQF, .inl (cyI, 20, .inl (fun j_ => nI (F2 j_)))), (aQT, .inl (cyI, 20, .inl (fun j_ => nI (T2 j_)))), (aQN, .inl (cyI, 20, .inl nm2)), (aQL, .inl (cyI, 20, .inl lo2)), (aQU, .inl (cyI, 20, .inl up2)), (aL, .inr (3, [.ref aQ, .int (nI n), .int (nI 0), .int (nI row), .int (nI dg), .int (nI sz), .int (bI ng)])), (aQ, .inr (1, [.ref aQF, .ref aQT, .ref aQN, .ref aQL, .ref aQU, .int (nI cnt2)]))] := hD
          refine lv_iconst (v := 1) hx hb dX3_takeInNominal_53 (by decide) ?_
          refine lv_goto (tgt := 58) hx hb dX3_takeInNominal_54 (by decide) ?_
          have r21 : 1 = (bI ((tkN (pl, row, dg, sz, ng, cnt2, F2, T2, nm2, lo2, up2) c).isSome)) := by rw [hz]; rfl
          have hP9 : va_P (dC, dI) vwCl [(aL, .inr (3, [.ref aQ, .int (nI n), .int (nI 0), .int (nI row), .int (nI dg), .int (nI sz), .int (bI ng)])), (aQ, .inr (1, [.ref aQF, .ref aQT, .ref aQN, .ref aQL, .ref aQU, .int (nI cnt2)])), (aQF, .inl (cyI, 20, .inl (fun j_ => nI (F2 j_)))), (aQT, .inl (cyI, 20, .inl (fun j_ => nI (T2 j_)))), (aQN, .inl (cyI, 20, .inl nm2)), (aQL, .inl (cyI, 20, .inl lo2)), (aQU, .inl (cyI, 20, .inl up2))] H := by exact hP.sub [5, 6, 0, 1, 2, 3, 4] rfl
          have hD9 : va_D A [(aL, .inr (3, [.ref aQ, .int (nI n), .int (nI 0), .int (nI row), .int (nI dg), .int (nI sz), .int (bI ng)])), (aQ, .inr (1, [.ref aQF, .ref aQT, .ref aQN, .ref aQL, .ref aQU, .int (nI cnt2)])), (aQF, .inl (cyI, 20, .inl (fun j_ => nI (F2 j_)))), (aQT, .inl (cyI, 20, .inl (fun j_ => nI (T2 j_)))), (aQN, .inl (cyI, 20, .inl nm2)), (aQL, .inl (cyI, 20, .inl lo2)), (aQU, .inl (cyI, 20, .inl up2))] := by exact hD.sub [5, 6, 0, 1, 2, 3, 4] (by decide) rfl
          have p22 : tkN (pl, row, dg, sz, ng, cnt2, F2, T2, nm2, lo2, up2) c = none ∨ tkN (pl, row, dg, sz, ng, cnt2, F2, T2, nm2, lo2, up2) c = some (0, row, dg, sz, ng, cnt2, F2, T2, nm2, lo2, up2) := by first | exact Or.inl hz | exact Or.inr hz
          subst hAe
          subst hQe
          exact W.zret (v := 1) hx hb hr rfl (fun t ht hW => ⟨⟨_, (), rfl, r21, 0, row, dg, sz, ng, cnt2, F2, T2, nm2, lo2, up2, p22, by rw [ht]; exact hP9, va_K.moved hW.alike hK, hD9⟩, hS.F ht⟩) hS.2.2 dX3_takeInNominal_58
  · have c6 : (dgB c dg 5) = true := bI_n0 c6
    have hz : tkN (pl, row, dg, sz, ng, cnt2, F2, T2, nm2, lo2, up2) c = some (pl, row, dg + 1, sz * 10 + c - 48, ng, cnt2, F2, T2, upd nm2 row (numV ng (sz * 10 + c - 48)), lo2, up2) := by simp only [tkN]; rw [if_pos c6]
    have q23 : (if dgB c dg 5 = true then dg + 1 else dg) = (dg + 1) := by rw [c6]; rfl
    rw [q23] at hP hD
    have q24 : (if dgB c dg 5 = true then sz * 10 + c - 48 else sz) = (sz * 10 + c - 48) := by rw [c6]; rfl
    rw [q24] at hP hD
    have hP : va_P (dC, dI) vwCl [(aQ, .inr (1, [.ref aQF, .ref aQT, .ref aQN, .ref aQL, .ref aQU, .int (nI cnt2)])), (aQF, .inl (cyI, 20, .inl (fun j_ => nI (F2 j_)))), (aQT, .inl (cyI, 20, .inl (fun j_ => nI (T2 j_)))), (aQN, .inl (cyI, 20, .inl nm2)), (aQL, .inl (cyI, 20, .inl lo2)), (aQU, .inl (cyI, 20, .inl up2)), (aL, .inr (3, [.ref aQ, .int (nI n), .int (nI pl), .int (nI row), .int (nI (dg + 1)), .int (nI (sz * 10 + c - 48)), .int (bI ng)]))] H := hP
    have hD : va_D A [(aQ, .inr (1, [.ref aQF, .ref aQT, .ref aQN, .ref aQL, .ref aQU, .int (nI cnt2)])), (aQF, .inl (cyI, 20, .inl (fun j_ => nI (F2 j_)))), (aQT, .inl (cyI, 20, .inl (fun j_ => nI (T2 j_)))), (aQN, .inl (cyI, 20, .inl nm2)), (aQL, .inl (cyI, 20, .inl lo2)), (aQU, .inl (cyI, 20, .inl up2)), (aL, .inr (3, [.ref aQ, .int (nI n), .int (nI pl), .int (nI row), .int (nI (dg + 1)), .int (nI (sz * 10 + c - 48)), .int (bI ng)]))] := hD
    refine lv_aload_n hx hb dX3_takeInNominal_9 rfl (lv_at hl 0 rfl) ?_
    refine va_get (D := (dC, dI)) (ci := 3) (v := .ref aQ) (C := RX3) (T := TX3) (N := 7) hx hb hts iX3 hown hK hP 6 rfl rfl 0 (by decide) w1 (fun _ h9 => h9) rfl dX3_takeInNominal_10 ?_
    refine va_get (D := (dC, dI)) (ci := 1) (v := .ref aQN) (C := RX1) (T := TX1) (N := 6) hx hb hts iX1 hown hK hP 0 rfl rfl 2 (by decide) w2 (fun _ h9 => h9) rfl dX3_takeInNominal_13 ?_
    refine lv_aload_n hx hb dX3_takeInNominal_16 rfl (lv_at hl 0 rfl) ?_
    refine va_get (D := (dC, dI)) (ci := 3) (v := .int (nI row)) (C := RX3) (T := TX3) (N := 7) hx hb hts iX3 hown hK hP 6 rfl rfl 3 (by decide) w3 (fun _ h9 => h9) rfl dX3_takeInNominal_17 ?_
    refine lv_aload_n hx hb dX3_takeInNominal_20 rfl (lv_at hl 0 rfl) ?_
    have hPc := hP.sub (ws' := [(aL, .inr (3, [.ref aQ, .int (nI n), .int (nI pl), .int (nI row), .int (nI (dg + 1)), .int (nI (sz * 10 + c - 48)), .int (bI ng)]))]) [6] rfl
    have hDc := hD.sub (ws' := [(aL, .inr (3, [.ref aQ, .int (nI n), .int (nI pl), .int (nI row), .int (nI (dg + 1)), .int (nI (sz * 10 + c - 48)), .int (bI ng)]))]) [6] (by decide) rfl
    have hFc := va_free (wc := [(aL, .inr (3, [.ref aQ, .int (nI n), .int (nI pl), .int (nI row), .int (nI (dg + 1)), .int (nI (sz * 10 + c - 48)), .int (bI ng)]))]) hD hS hA [6] rfl
    refine va_calli (va_runV (As := []) (rest := [.int (nI row), .ref aQN]) ⟨hx, hb, hml, hown, hts⟩ (c_X3_number l dC dI cyI cyZ cyJ cyD aL aQ H.size n pl row (dg + 1) (sz * 10 + c - 48) ng) (cwV 0 hts gX3_takeInNominal_X3_number rfl rfl rfl (by decide +kernel) ⟨Nat.le_of_ble_eq_true rfl, Nat.le_of_ble_eq_true rfl⟩) ⟨fun a U g mk q => by obtain ⟨q0, q1, qP, qK, qD⟩ := q; exact ⟨q0, q1, qP, va_K.moved (u := U) (U := U.calling g mk a) (Vm.Alike.refl U.vm) qK, qD⟩, va_recv hK hPc (ci := 3) (q0 := 0) rfl rfl, fun U hU hW => ⟨rfl, by rw [hU], by rw [hU]; exact hPc, va_K.moved hW.alike hK, hDc.weaken (fun _ _ _ _ => trivial)⟩⟩ rfl rfl hl.1 rfl (lv_room (Nat.le_of_ble_eq_true rfl)) dX3_takeInNominal_21 ⟨Nat.le_of_ble_eq_true rfl, Nat.le_of_ble_eq_true rfl⟩) hS (fun q _ h => hFc q h) hFc (fun r u t H1 locs ht hvm hw hB hz1 hk1 hS => ?_)
    obtain rfl := hw
    obtain ⟨hP1, hK1, hD1⟩ := hB
    rw [ht] at hP1
    obtain ⟨hP, hD⟩ := va_join (wr := [(aQ, .inr (1, [.ref aQF, .ref aQT, .ref aQN, .ref aQL, .ref aQU, .int (nI cnt2)])), (aQF, .inl (cyI, 20, .inl (fun j_ => nI (F2 j_)))), (aQT, .inl (cyI, 20, .inl (fun j_ => nI (T2 j_)))), (aQN, .inl (cyI, 20, .inl nm2)), (aQL, .inl (cyI, 20, .inl lo2)), (aQU, .inl (cyI, 20, .inl up2))]) (w1 := [(aL, .inr (3, [.ref aQ, .int (nI n), .int (nI pl), .int (nI row), .int (nI (dg + 1)), .int (nI (sz * 10 + c - 48)), .int (bI ng)]))]) hP hD [6] [0, 1, 2, 3, 4, 5] rfl rfl (by decide) (by decide) hk1 hFc hP1 hD1
    clear hP1 hD1 hK1 hPc hDc hFc hk1 hz1 hvm ht u t
    generalize H1 = H at hP hS ⊢
    have hP : va_P (dC, dI) vwCl [(aQ, .inr (1, [.ref aQF, .ref aQT, .ref aQN, .ref aQL, .ref aQU, .int (nI cnt2)])), (aQF, .inl (cyI, 20, .inl (fun j_ => nI (F2 j_)))), (aQT, .inl (cyI, 20, .inl (fun j_ => nI (T2 j_)))), (aQN, .inl (cyI, 20, .inl nm2)), (aQL, .inl (cyI, 20, .inl lo2)), (aQU, .inl (cyI, 20, .inl up2)), (aL, .inr (3, [.ref aQ, .int (nI n), .int (nI pl), .int (nI row), .int (nI (dg + 1)), .int (nI (sz * 10 + c - 48)), .int (bI ng)]))] H := hP
    have hD : va_D A [(aQ, .inr (1, [.ref aQF, .ref aQT, .ref aQN, .ref aQL, .ref aQU, .int (nI cnt2)])), (aQF, .inl (cyI, 20, .inl (fun j_ => nI (F2 j_)))), (aQT, .inl (cyI, 20, .inl (fun j_ => nI (T2 j_)))), (aQN, .inl (cyI, 20, .inl nm2)), (aQL, .inl (cyI, 20, .inl lo2)), (aQU, .inl (cyI, 20, .inl up2)), (aL, .inr (3, [.ref aQ, .int (nI n), .int (nI pl), .int (nI row), .int (nI (dg + 1)), .int (nI (sz * 10 + c - 48)), .int (bI ng)]))] := hD
    have h25 : vp_in (nI row) 20 := by first | exact vp_in_nI (by omega) (by omega) | assumption
    refine va_iast hx hb hK hP hD hS 3 0 rfl rfl h25 dX3_takeInNominal_24 (fun H locs hP hD hS => ?_)
    rw [nI_clamp (by omega)] at hP hD
    have hP : va_P (dC, dI) vwCl [(aQ, .inr (1, [.ref aQF, .ref aQT, .ref aQN, .ref aQL, .ref aQU, .int (nI cnt2)])), (aQF, .inl (cyI, 20, .inl (fun j_ => nI (F2 j_)))), (aQT, .inl (cyI, 20, .inl (fun j_ => nI (T2 j_)))), (aQN, .inl (cyI, 20, .inl (upd nm2 row (numV ng (sz * 10 + c - 48))))), (aQL, .inl (cyI, 20, .inl lo2)), (aQU, .inl (cyI, 20, .inl up2)), (aL, .inr (3, [.ref aQ, .int (nI n), .int (nI pl), .int (nI row), .int (nI (dg + 1)), .int (nI (sz * 10 + c - 48)), .int (bI ng)]))] H := hP
    have hD : va_D A [(aQ, .inr (1, [.ref aQF, .ref aQT, .ref aQN, .ref aQL, .ref aQU, .int (nI cnt2)])), (aQF, .inl (cyI, 20, .inl (fun j_ => nI (F2 j_)))), (aQT, .inl (cyI, 20, .inl (fun j_ => nI (T2 j_)))), (aQN, .inl (cyI, 20, .inl (upd nm2 row (numV ng (sz * 10 + c - 48))))), (aQL, .inl (cyI, 20, .inl lo2)), (aQU, .inl (cyI, 20, .inl up2)), (aL, .inr (3, [.ref aQ, .int (nI n), .int (nI pl), .int (nI row), .int (nI (dg + 1)), .int (nI (sz * 10 + c - 48)), .int (bI ng)]))] := hD
    refine lv_iconst (v := 1) hx hb dX3_takeInNominal_25 (by decide) ?_
    have r26 : 1 = (bI ((tkN (pl, row, dg, sz, ng, cnt2, F2, T2, nm2, lo2, up2) c).isSome)) := by rw [hz]; rfl
    have hP9 : va_P (dC, dI) vwCl [(aL, .inr (3, [.ref aQ, .int (nI n), .int (nI pl), .int (nI row), .int (nI (dg + 1)), .int (nI (sz * 10 + c - 48)), .int (bI ng)])), (aQ, .inr (1, [.ref aQF, .ref aQT, .ref aQN, .ref aQL, .ref aQU, .int (nI cnt2)])), (aQF, .inl (cyI, 20, .inl (fun j_ => nI (F2 j_)))), (aQT, .inl (cyI, 20, .inl (fun j_ => nI (T2 j_)))), (aQN, .inl (cyI, 20, .inl (upd nm2 row (numV ng (sz * 10 + c - 48))))), (aQL, .inl (cyI, 20, .inl lo2)), (aQU, .inl (cyI, 20, .inl up2))] H := by exact hP.sub [6, 0, 1, 2, 3, 4, 5] rfl
    have hD9 : va_D A [(aL, .inr (3, [.ref aQ, .int (nI n), .int (nI pl), .int (nI row), .int (nI (dg + 1)), .int (nI (sz * 10 + c - 48)), .int (bI ng)])), (aQ, .inr (1, [.ref aQF, .ref aQT, .ref aQN, .ref aQL, .ref aQU, .int (nI cnt2)])), (aQF, .inl (cyI, 20, .inl (fun j_ => nI (F2 j_)))), (aQT, .inl (cyI, 20, .inl (fun j_ => nI (T2 j_)))), (aQN, .inl (cyI, 20, .inl (upd nm2 row (numV ng (sz * 10 + c - 48))))), (aQL, .inl (cyI, 20, .inl lo2)), (aQU, .inl (cyI, 20, .inl up2))] := by exact hD.sub [6, 0, 1, 2, 3, 4, 5] (by decide) rfl
    have p27 : tkN (pl, row, dg, sz, ng, cnt2, F2, T2, nm2, lo2, up2) c = none ∨ tkN (pl, row, dg, sz, ng, cnt2, F2, T2, nm2, lo2, up2) c = some (pl, row, (dg + 1), (sz * 10 + c - 48), ng, cnt2, F2, T2, (upd nm2 row (numV ng (sz * 10 + c - 48))), lo2, up2) := by first | exact Or.inl hz | exact Or.inr hz
    subst hAe
    subst hQe
    exact W.zret (v := 1) hx hb hr rfl (fun t ht hW => ⟨⟨_, (), rfl, r26, pl, row, (dg + 1), (sz * 10 + c - 48), ng, cnt2, F2, T2, (upd nm2 row (numV ng (sz * 10 + c - 48))), lo2, up2, p27, by rw [ht]; exact hP9, va_K.moved hW.alike hK, hD9⟩, hS.F ht⟩) hS.2.2 dX3_takeInNominal_26
set_option maxHeartbeats 4000000 in
set_option maxRecDepth 100000 in
theorem c_X3_takeInLower (l : Launch) (dC : Nat → ClassId) (dI : Nat → Nat → Nat) (cyI cyZ cyJ cyD : ClassId) (aL aQ aQF aQT aQN aQL aQU : Nat) (zH : Nat) (n : Nat) (pl : Nat) (row : Nat) (dg : Nat) (sz : Nat) (ng : Bool) (F2 : Nat → Nat) (T2 : Nat → Nat) (nm2 : Nat → Int32) (lo2 : Nat → Int32) (up2 : Nat → Int32) (cnt2 : Nat) (c : Nat) (hc : c < 128) (hk : cnt2 ≤ 20) (hrow : row < 20) (hdg : dg ≤ 5) (hsz : sz < 100000) : Met l yX3_takeInLower wsX3_takeInLower ({ frames := 1, cells := 0, slots := 0, locals := 23 } : Room) (va_Pc [.ref aL, .int (nI c)] (fun U => U.heap.size = zH ∧ va_P (dC, dI) vwCl [(aL, .inr (3, [.ref aQ, .int (nI n), .int (nI pl), .int (nI row), .int (nI dg), .int (nI sz), .int (bI ng)])), (aQ, .inr (1, [.ref aQF, .ref aQT, .ref aQN, .ref aQL, .ref aQU, .int (nI cnt2)])), (aQF, .inl (cyI, 20, .inl (fun j_ => nI (F2 j_)))), (aQT, .inl (cyI, 20, .inl (fun j_ => nI (T2 j_)))), (aQN, .inl (cyI, 20, .inl nm2)), (aQL, .inl (cyI, 20, .inl lo2)), (aQU, .inl (cyI, 20, .inl up2))] U.heap ∧ va_K (dC, dI) vwCl [(cyI, .int), (cyZ, .boolean), (cyJ, .long), (cyD, .double)] U ∧ va_D (fun _ => True) [(aL, .inr (3, [.ref aQ, .int (nI n), .int (nI pl), .int (nI row), .int (nI dg), .int (nI sz), .int (bI ng)])), (aQ, .inr (1, [.ref aQF, .ref aQT, .ref aQN, .ref aQL, .ref aQU, .int (nI cnt2)])), (aQF, .inl (cyI, 20, .inl (fun j_ => nI (F2 j_)))), (aQT, .inl (cyI, 20, .inl (fun j_ => nI (T2 j_)))), (aQN, .inl (cyI, 20, .inl nm2)), (aQL, .inl (cyI, 20, .inl lo2)), (aQU, .inl (cyI, 20, .inl up2))])) (va_Qi (fun (r : Int32) (_ : Unit) => r = bI ((tkL (pl, row, dg, sz, ng, cnt2, F2, T2, nm2, lo2, up2) c).isSome)) (fun _ t => ∃ (pl3 : Nat), ∃ (row3 : Nat), ∃ (dg3 : Nat), ∃ (sz3 : Nat), ∃ (ng3 : Bool), ∃ (cnt3 : Nat), ∃ (F3 : Nat → Nat), ∃ (T3 : Nat → Nat), ∃ (nm3 : Nat → Int32), ∃ (lo3 : Nat → Int32), ∃ (up3 : Nat → Int32), (tkL (pl, row, dg, sz, ng, cnt2, F2, T2, nm2, lo2, up2) c = none ∨ tkL (pl, row, dg, sz, ng, cnt2, F2, T2, nm2, lo2, up2) c = some (pl3, row3, dg3, sz3, ng3, cnt3, F3, T3, nm3, lo3, up3)) ∧ va_P (dC, dI) vwCl [(aL, .inr (3, [.ref aQ, .int (nI n), .int (nI pl3), .int (nI row3), .int (nI dg3), .int (nI sz3), .int (bI ng3)])), (aQ, .inr (1, [.ref aQF, .ref aQT, .ref aQN, .ref aQL, .ref aQU, .int (nI cnt3)])), (aQF, .inl (cyI, 20, .inl (fun j_ => nI (F3 j_)))), (aQT, .inl (cyI, 20, .inl (fun j_ => nI (T3 j_)))), (aQN, .inl (cyI, 20, .inl nm3)), (aQL, .inl (cyI, 20, .inl lo3)), (aQU, .inl (cyI, 20, .inl up3))] t.heap ∧ va_K (dC, dI) vwCl [(cyI, .int), (cyZ, .boolean), (cyJ, .long), (cyD, .double)] t ∧ va_D (va_A [(aL, .inr (3, [.ref aQ, .int (nI n), .int (nI pl), .int (nI row), .int (nI dg), .int (nI sz), .int (bI ng)])), (aQ, .inr (1, [.ref aQF, .ref aQT, .ref aQN, .ref aQL, .ref aQU, .int (nI cnt2)])), (aQF, .inl (cyI, 20, .inl (fun j_ => nI (F2 j_)))), (aQT, .inl (cyI, 20, .inl (fun j_ => nI (T2 j_)))), (aQN, .inl (cyI, 20, .inl nm2)), (aQL, .inl (cyI, 20, .inl lo2)), (aQU, .inl (cyI, 20, .inl up2))] zH) [(aL, .inr (3, [.ref aQ, .int (nI n), .int (nI pl3), .int (nI row3), .int (nI dg3), .int (nI sz3), .int (bI ng3)])), (aQ, .inr (1, [.ref aQF, .ref aQT, .ref aQN, .ref aQL, .ref aQU, .int (nI cnt3)])), (aQF, .inl (cyI, 20, .inl (fun j_ => nI (F3 j_)))), (aQT, .inl (cyI, 20, .inl (fun j_ => nI (T3 j_)))), (aQN, .inl (cyI, 20, .inl nm3)), (aQL, .inl (cyI, 20, .inl lo3)), (aQU, .inl (cyI, 20, .inl up3))]) (va_A [(aL, .inr (3, [.ref aQ, .int (nI n), .int (nI pl), .int (nI row), .int (nI dg), .int (nI sz), .int (bI ng)])), (aQ, .inr (1, [.ref aQF, .ref aQT, .ref aQN, .ref aQL, .ref aQU, .int (nI cnt2)])), (aQF, .inl (cyI, 20, .inl (fun j_ => nI (F2 j_)))), (aQT, .inl (cyI, 20, .inl (fun j_ => nI (T2 j_)))), (aQN, .inl (cyI, 20, .inl nm2)), (aQL, .inl (cyI, 20, .inl lo2)), (aQU, .inl (cyI, 20, .inl up2))] zH)) 0 0 (va_A [(aL, .inr (3, [.ref aQ, .int (nI n), .int (nI pl), .int (nI row), .int (nI dg), .int (nI sz), .int (bI ng)])), (aQ, .inr (1, [.ref aQF, .ref aQT, .ref aQN, .ref aQL, .ref aQU, .int (nI cnt2)])), (aQF, .inl (cyI, 20, .inl (fun j_ => nI (F2 j_)))), (aQT, .inl (cyI, 20, .inl (fun j_ => nI (T2 j_)))), (aQN, .inl (cyI, 20, .inl nm2)), (aQL, .inl (cyI, 20, .inl lo2)), (aQU, .inl (cyI, 20, .inl up2))] zH) := by
  refine Met.ofW (cc := cX3_takeInLower) (maxL := 2) (ret := (some .boolean)) (by decide) rfl ?_
  intro pM eM s mM args blM mtM cM s₁ BM hml hv
  obtain ⟨rfl, hsz, hP, hK, hD0⟩ := hv
  have hx := BM.exec
  have hb := BM.bytes
  have hr := BM.returns
  have hts := atoms_spec (ws := wsX3_takeInLower) BM.pre
  have hown : s.vm.findClass RX3 = some mM.cls := findClass_of_methodNamed BM.named
  have hlocks := BM.notSynchronized
  have w0 := hts (.fieldLink RX3 28 "DimensionChecker$ListReader" "digits" "I") (by decide +kernel)
  have w1 := hts (.fieldLink RX3 12 "DimensionChecker$ListReader" "rows" "LDimensionChecker$Dimensions;") (by decide +kernel)
  have w2 := hts (.fieldLink RX3 99 "DimensionChecker$Dimensions" "lower" "[I") (by decide +kernel)
  have w3 := hts (.fieldLink RX3 25 "DimensionChecker$ListReader" "row" "I") (by decide +kernel)
  have iX3 : ∀ w ∈ wsX30, w ∈ wsX3_takeInLower := by decide +kernel
  have iX1 : ∀ w ∈ wsX10, w ∈ wsX3_takeInLower := by decide +kernel
  subst hsz
  have hD := hD0.self (sz := s.heap.size)
  obtain ⟨Q, hQe⟩ : ∃ Q : State → Prop, Q = MQ blM (va_Qi (fun (r : Int32) (_ : Unit) => r = bI ((tkL (pl, row, dg, sz, ng, cnt2, F2, T2, nm2, lo2, up2) c).isSome)) (fun _ t => ∃ (pl3 : Nat), ∃ (row3 : Nat), ∃ (dg3 : Nat), ∃ (sz3 : Nat), ∃ (ng3 : Bool), ∃ (cnt3 : Nat), ∃ (F3 : Nat → Nat), ∃ (T3 : Nat → Nat), ∃ (nm3 : Nat → Int32), ∃ (lo3 : Nat → Int32), ∃ (up3 : Nat → Int32), (tkL (pl, row, dg, sz, ng, cnt2, F2, T2, nm2, lo2, up2) c = none ∨ tkL (pl, row, dg, sz, ng, cnt2, F2, T2, nm2, lo2, up2) c = some (pl3, row3, dg3, sz3, ng3, cnt3, F3, T3, nm3, lo3, up3)) ∧ va_P (dC, dI) vwCl [(aL, .inr (3, [.ref aQ, .int (nI n), .int (nI pl3), .int (nI row3), .int (nI dg3), .int (nI sz3), .int (bI ng3)])), (aQ, .inr (1, [.ref aQF, .ref aQT, .ref aQN, .ref aQL, .ref aQU, .int (nI cnt3)])), (aQF, .inl (cyI, 20, .inl (fun j_ => nI (F3 j_)))), (aQT, .inl (cyI, 20, .inl (fun j_ => nI (T3 j_)))), (aQN, .inl (cyI, 20, .inl nm3)), (aQL, .inl (cyI, 20, .inl lo3)), (aQU, .inl (cyI, 20, .inl up3))] t.heap ∧ va_K (dC, dI) vwCl [(cyI, .int), (cyZ, .boolean), (cyJ, .long), (cyD, .double)] t ∧ va_D (va_A [(aL, .inr (3, [.ref aQ, .int (nI n), .int (nI pl), .int (nI row), .int (nI dg), .int (nI sz), .int (bI ng)])), (aQ, .inr (1, [.ref aQF, .ref aQT, .ref aQN, .ref aQL, .ref aQU, .int (nI cnt2)])), (aQF, .inl (cyI, 20, .inl (fun j_ => nI (F2 j_)))), (aQT, .inl (cyI, 20, .inl (fun j_ => nI (T2 j_)))), (aQN, .inl (cyI, 20, .inl nm2)), (aQL, .inl (cyI, 20, .inl lo2)), (aQU, .inl (cyI, 20, .inl up2))] s.heap.size) [(aL, .inr (3, [.ref aQ, .int (nI n), .int (nI pl3), .int (nI row3), .int (nI dg3), .int (nI sz3), .int (bI ng3)])), (aQ, .inr (1, [.ref aQF, .ref aQT, .ref aQN, .ref aQL, .ref aQU, .int (nI cnt3)])), (aQF, .inl (cyI, 20, .inl (fun j_ => nI (F3 j_)))), (aQT, .inl (cyI, 20, .inl (fun j_ => nI (T3 j_)))), (aQN, .inl (cyI, 20, .inl nm3)), (aQL, .inl (cyI, 20, .inl lo3)), (aQU, .inl (cyI, 20, .inl up3))]) (va_A [(aL, .inr (3, [.ref aQ, .int (nI n), .int (nI pl), .int (nI row), .int (nI dg), .int (nI sz), .int (bI ng)])), (aQ, .inr (1, [.ref aQF, .ref aQT, .ref aQN, .ref aQL, .ref aQU, .int (nI cnt2)])), (aQF, .inl (cyI, 20, .inl (fun j_ => nI (F2 j_)))), (aQT, .inl (cyI, 20, .inl (fun j_ => nI (T2 j_)))), (aQN, .inl (cyI, 20, .inl nm2)), (aQL, .inl (cyI, 20, .inl lo2)), (aQU, .inl (cyI, 20, .inl up2))] s.heap.size)) ([.ref aL, .int (nI c)] : List Value).toArray s 0 0 (va_A [(aL, .inr (3, [.ref aQ, .int (nI n), .int (nI pl), .int (nI row), .int (nI dg), .int (nI sz), .int (bI ng)])), (aQ, .inr (1, [.ref aQF, .ref aQT, .ref aQN, .ref aQL, .ref aQU, .int (nI cnt2)])), (aQF, .inl (cyI, 20, .inl (fun j_ => nI (F2 j_)))), (aQT, .inl (cyI, 20, .inl (fun j_ => nI (T2 j_)))), (aQN, .inl (cyI, 20, .inl nm2)), (aQL, .inl (cyI, 20, .inl lo2)), (aQU, .inl (cyI, 20, .inl up2))] s.heap.size) := ⟨_, rfl⟩
  rw [← hQe]
  generalize hAe : va_A [(aL, .inr (3, [.ref aQ, .int (nI n), .int (nI pl), .int (nI row), .int (nI dg), .int (nI sz), .int (bI ng)])), (aQ, .inr (1, [.ref aQF, .ref aQT, .ref aQN, .ref aQL, .ref aQU, .int (nI cnt2)])), (aQF, .inl (cyI, 20, .inl (fun j_ => nI (F2 j_)))), (aQT, .inl (cyI, 20, .inl (fun j_ => nI (T2 j_)))), (aQN, .inl (cyI, 20, .inl nm2)), (aQL, .inl (cyI, 20, .inl lo2)), (aQU, .inl (cyI, 20, .inl up2))] s.heap.size = A at hD hQe
  have hA : ∀ q : Nat, s.heap.size ≤ q → A q := fun q h => by rw [← hAe]; exact Or.inr h
  obtain ⟨H, hHe⟩ : ∃ H : Heap, H = s.heap := ⟨_, rfl⟩
  have hS : va_S A s.heap H [] := by rw [hHe]; exact va_S.rf
  rw [← hHe] at hP ⊢
  have hl := lv_entry ([.ref aL, .int (nI c)]) (n := 2) (Nat.le_of_ble_eq_true rfl)
  rw [lg_entry_eq]
  generalize (lg_sl ([.ref aL, .int (nI c)]) ++ List.replicate (2 - (lg_sl ([.ref aL, .int (nI c)])).length) Slot.unset).toArray = ls at hl ⊢
  have hl : lv_has ls 2 [(0, .ref aL), (1, .int (nI c))] := hl
  refine lv_aload_n hx hb dX3_takeInLower_0 rfl (lv_at hl 0 rfl) ?_
  refine lv_iload_n hx hb dX3_takeInLower_1 rfl (lv_at hl 1 rfl) ?_
  refine lv_iconst (v := 3) hx hb dX3_takeInLower_2 (by decide) ?_
  have g1 : c < 128 := by first | assumption | omega | exact vp_in_nI (by omega) (by omega)
  have g2 : 3 ≤ 5 := by first | assumption | omega | exact vp_in_nI (by omega) (by omega)
  have g3 : dg ≤ 5 := by first | assumption | omega | exact vp_in_nI (by omega) (by omega)
  have g4 : sz < 100000 := by first | assumption | omega | exact vp_in_nI (by omega) (by omega)
  have hPc := hP.sub (ws' := [(aL, .inr (3, [.ref aQ, .int (nI n), .int (nI pl), .int (nI row), .int (nI dg), .int (nI sz), .int (bI ng)]))]) [0] rfl
  have hDc := hD.sub (ws' := [(aL, .inr (3, [.ref aQ, .int (nI n), .int (nI pl), .int (nI row), .int (nI dg), .int (nI sz), .int (bI ng)]))]) [0] (by decide) rfl
  have hFc := va_free (wc := [(aL, .inr (3, [.ref aQ, .int (nI n), .int (nI pl), .int (nI row), .int (nI dg), .int (nI sz), .int (bI ng)]))]) hD hS hA [0] rfl
  refine va_calli (va_runV (As := [.int (nI c), .int 3]) (rest := []) ⟨hx, hb, hml, hown, hts⟩ (c_X3_takeDigit l dC dI cyI cyZ cyJ cyD aL aQ H.size n pl row dg sz ng c 3 g1 g2 g3 g4) (cwV 2 hts gX3_takeInLower_X3_takeDigit rfl rfl rfl (by decide +kernel) ⟨Nat.le_of_ble_eq_true rfl, Nat.le_of_ble_eq_true rfl⟩) ⟨fun a U g mk q => by obtain ⟨q0, q1, qP, qK, qD⟩ := q; exact ⟨q0, q1, qP, va_K.moved (u := U) (U := U.calling g mk a) (Vm.Alike.refl U.vm) qK, qD⟩, va_recv hK hPc (ci := 3) (q0 := 0) rfl rfl, fun U hU hW => ⟨rfl, by rw [hU], by rw [hU]; exact hPc, va_K.moved hW.alike hK, hDc.weaken (fun _ _ _ _ => trivial)⟩⟩ rfl rfl hl.1 rfl (lv_room (Nat.le_of_ble_eq_true rfl)) dX3_takeInLower_3 ⟨Nat.le_of_ble_eq_true rfl, Nat.le_of_ble_eq_true rfl⟩) hS (fun q _ h => hFc q h) hFc (fun r u t H1 locs ht hvm hw hB hz1 hk1 hS => ?_)
  obtain rfl := hw
  obtain ⟨hP1, hK1, hD1⟩ := hB
  rw [ht] at hP1
  obtain ⟨hP, hD⟩ := va_join (wr := [(aQ, .inr (1, [.ref aQF, .ref aQT, .ref aQN, .ref aQL, .ref aQU, .int (nI cnt2)])), (aQF, .inl (cyI, 20, .inl (fun j_ => nI (F2 j_)))), (aQT, .inl (cyI, 20, .inl (fun j_ => nI (T2 j_)))), (aQN, .inl (cyI, 20, .inl nm2)), (aQL, .inl (cyI, 20, .inl lo2)), (aQU, .inl (cyI, 20, .inl up2))]) (w1 := [(aL, .inr (3, [.ref aQ, .int (nI n), .int (nI pl), .int (nI row), .int (nI (if dgB c dg 3 = true then dg + 1 else dg)), .int (nI (if dgB c dg 3 = true then sz * 10 + c - 48 else sz)), .int (bI ng)]))]) hP hD [0] [1, 2, 3, 4, 5, 6] rfl rfl (by decide) (by decide) hk1 hFc hP1 hD1
  clear hP1 hD1 hK1 hPc hDc hFc hk1 hz1 hvm ht u t
  generalize H1 = H at hP hS ⊢
  have hP : va_P (dC, dI) vwCl [(aQ, .inr (1, [.ref aQF, .ref aQT, .ref aQN, .ref aQL, .ref aQU, .int (nI cnt2)])), (aQF, .inl (cyI, 20, .inl (fun j_ => nI (F2 j_)))), (aQT, .inl (cyI, 20, .inl (fun j_ => nI (T2 j_)))), (aQN, .inl (cyI, 20, .inl nm2)), (aQL, .inl (cyI, 20, .inl lo2)), (aQU, .inl (cyI, 20, .inl up2)), (aL, .inr (3, [.ref aQ, .int (nI n), .int (nI pl), .int (nI row), .int (nI (if dgB c dg 3 = true then dg + 1 else dg)), .int (nI (if dgB c dg 3 = true then sz * 10 + c - 48 else sz)), .int (bI ng)]))] H := hP
  have hD : va_D A [(aQ, .inr (1, [.ref aQF, .ref aQT, .ref aQN, .ref aQL, .ref aQU, .int (nI cnt2)])), (aQF, .inl (cyI, 20, .inl (fun j_ => nI (F2 j_)))), (aQT, .inl (cyI, 20, .inl (fun j_ => nI (T2 j_)))), (aQN, .inl (cyI, 20, .inl nm2)), (aQL, .inl (cyI, 20, .inl lo2)), (aQU, .inl (cyI, 20, .inl up2)), (aL, .inr (3, [.ref aQ, .int (nI n), .int (nI pl), .int (nI row), .int (nI (if dgB c dg 3 = true then dg + 1 else dg)), .int (nI (if dgB c dg 3 = true then sz * 10 + c - 48 else sz)), .int (bI ng)]))] := hD
  refine lv_if_eq (tgt := 27) hx hb dX3_takeInLower_6 (by decide) (fun c6 => ?_) (fun c6 => ?_)
  · have c6 : (dgB c dg 3) = false := bI_0 c6
    have q5 : (if dgB c dg 3 = true then dg + 1 else dg) = dg := by rw [c6]; rfl
    rw [q5] at hP hD
    have q6 : (if dgB c dg 3 = true then sz * 10 + c - 48 else sz) = sz := by rw [c6]; rfl
    rw [q6] at hP hD
    have hP : va_P (dC, dI) vwCl [(aQ, .inr (1, [.ref aQF, .ref aQT, .ref aQN, .ref aQL, .ref aQU, .int (nI cnt2)])), (aQF, .inl (cyI, 20, .inl (fun j_ => nI (F2 j_)))), (aQT, .inl (cyI, 20, .inl (fun j_ => nI (T2 j_)))), (aQN, .inl (cyI, 20, .inl nm2)), (aQL, .inl (cyI, 20, .inl lo2)), (aQU, .inl (cyI, 20, .inl up2)), (aL, .inr (3, [.ref aQ, .int (nI n), .int (nI pl), .int (nI row), .int (nI dg), .int (nI sz), .int (bI ng)]))] H := hP
    have hD : va_D A [(aQ, .inr (1, [.ref aQF, .ref aQT, .ref aQN, .ref aQL, .ref aQU, .int (nI cnt2)])), (aQF, .inl (cyI, 20, .inl (fun j_ => nI (F2 j_)))), (aQT, .inl (cyI, 20, .inl (fun j_ => nI (T2 j_)))), (aQN, .inl (cyI, 20, .inl nm2)), (aQL, .inl (cyI, 20, .inl lo2)), (aQU, .inl (cyI, 20, .inl up2)), (aL, .inr (3, [.ref aQ, .int (nI n), .int (nI pl), .int (nI row), .int (nI dg), .int (nI sz), .int (bI ng)]))] := hD
    refine lv_aload_n hx hb dX3_takeInLower_27 rfl (lv_at hl 0 rfl) ?_
    refine va_get (D := (dC, dI)) (ci := 3) (v := .int (nI dg)) (C := RX3) (T := TX3) (N := 7) hx hb hts iX3 hown hK hP 6 rfl rfl 4 (by decide) w0 (fun _ h9 => h9) rfl dX3_takeInLower_28 ?_
    refine lv_if_le (tgt := 50) hx hb dX3_takeInLower_31 (by decide) (fun c31 => ?_) (fun c31 => ?_)
    · have c31 := n_le (a := dg) (b := 0) (by omega) (by omega) c31
      have hz : tkL (pl, row, dg, sz, ng, cnt2, F2, T2, nm2, lo2, up2) c = none := by simp only [tkL]; rw [if_neg (by rw [c6]; exact Bool.false_ne_true), if_neg (by omega)]
      refine lv_iconst (v := 0) hx hb dX3_takeInLower_50 (by decide) ?_
      have r7 : 0 = (bI ((tkL (pl, row, dg, sz, ng, cnt2, F2, T2, nm2, lo2, up2) c).isSome)) := by rw [hz]; rfl
      have hP9 : va_P (dC, dI) vwCl [(aL, .inr (3, [.ref aQ, .int (nI n), .int (nI pl), .int (nI row), .int (nI dg), .int (nI sz), .int (bI ng)])), (aQ, .inr (1, [.ref aQF, .ref aQT, .ref aQN, .ref aQL, .ref aQU, .int (nI cnt2)])), (aQF, .inl (cyI, 20, .inl (fun j_ => nI (F2 j_)))), (aQT, .inl (cyI, 20, .inl (fun j_ => nI (T2 j_)))), (aQN, .inl (cyI, 20, .inl nm2)), (aQL, .inl (cyI, 20, .inl lo2)), (aQU, .inl (cyI, 20, .inl up2))] H := by exact hP.sub [6, 0, 1, 2, 3, 4, 5] rfl
      have hD9 : va_D A [(aL, .inr (3, [.ref aQ, .int (nI n), .int (nI pl), .int (nI row), .int (nI dg), .int (nI sz), .int (bI ng)])), (aQ, .inr (1, [.ref aQF, .ref aQT, .ref aQN, .ref aQL, .ref aQU, .int (nI cnt2)])), (aQF, .inl (cyI, 20, .inl (fun j_ => nI (F2 j_)))), (aQT, .inl (cyI, 20, .inl (fun j_ => nI (T2 j_)))), (aQN, .inl (cyI, 20, .inl nm2)), (aQL, .inl (cyI, 20, .inl lo2)), (aQU, .inl (cyI, 20, .inl up2))] := by exact hD.sub [6, 0, 1, 2, 3, 4, 5] (by decide) rfl
      have p8 : tkL (pl, row, dg, sz, ng, cnt2, F2, T2, nm2, lo2, up2) c = none ∨ tkL (pl, row, dg, sz, ng, cnt2, F2, T2, nm2, lo2, up2) c = some (pl, row, dg, sz, ng, cnt2, F2, T2, nm2, lo2, up2) := by first | exact Or.inl hz | exact Or.inr hz
      subst hAe
      subst hQe
      exact W.zret (v := 0) hx hb hr rfl (fun t ht hW => ⟨⟨_, (), rfl, r7, pl, row, dg, sz, ng, cnt2, F2, T2, nm2, lo2, up2, p8, by rw [ht]; exact hP9, va_K.moved hW.alike hK, hD9⟩, hS.F ht⟩) hS.2.2 dX3_takeInLower_51
    · have c31 := n_nle (a := dg) (b := 0) (by omega) (by omega) c31
      refine lv_aload_n hx hb dX3_takeInLower_34 rfl (lv_at hl 0 rfl) ?_
      refine lv_iload_n hx hb dX3_takeInLower_35 rfl (lv_at hl 1 rfl) ?_
      refine lv_bipush (v := 44) hx hb dX3_takeInLower_36 (by decide) ?_
      refine lv_bipush (v := 7) hx hb dX3_takeInLower_38 (by decide) ?_
      have g9 : c < 128 := by first | assumption | omega | exact vp_in_nI (by omega) (by omega)
      have g10 : 44 < 128 := by first | assumption | omega | exact vp_in_nI (by omega) (by omega)
      have hPc := hP.sub (ws' := [(aL, .inr (3, [.ref aQ, .int (nI n), .int (nI pl), .int (nI row), .int (nI dg), .int (nI sz), .int (bI ng)]))]) [6] rfl
      have hDc := hD.sub (ws' := [(aL, .inr (3, [.ref aQ, .int (nI n), .int (nI pl), .int (nI row), .int (nI dg), .int (nI sz), .int (bI ng)]))]) [6] (by decide) rfl
      have hFc := va_free (wc := [(aL, .inr (3, [.ref aQ, .int (nI n), .int (nI pl), .int (nI row), .int (nI dg), .int (nI sz), .int (bI ng)]))]) hD hS hA [6] rfl
      refine va_calli (va_runV (As := [.int (nI c), .int 44, .int 7]) (rest := []) ⟨hx, hb, hml, hown, hts⟩ (c_X3_takeSign l dC dI cyI cyZ cyJ cyD aL aQ H.size n pl row dg sz ng c 44 7 g9 g10) (cwV 3 hts gX3_takeInLower_X3_takeSign rfl rfl rfl (by decide +kernel) ⟨Nat.le_of_ble_eq_true rfl, Nat.le_of_ble_eq_true rfl⟩) ⟨fun a U g mk q => by obtain ⟨q0, q1, qP, qK, qD⟩ := q; exact ⟨q0, q1, qP, va_K.moved (u := U) (U := U.calling g mk a) (Vm.Alike.refl U.vm) qK, qD⟩, va_recv hK hPc (ci := 3) (q0 := 0) rfl rfl, fun U hU hW => ⟨rfl, by rw [hU], by rw [hU]; exact hPc, va_K.moved hW.alike hK, hDc.weaken (fun _ _ _ _ => trivial)⟩⟩ rfl rfl hl.1 rfl (lv_room (Nat.le_of_ble_eq_true rfl)) dX3_takeInLower_40 ⟨Nat.le_of_ble_eq_true rfl, Nat.le_of_ble_eq_true rfl⟩) hS (fun q _ h => hFc q h) hFc (fun r u t H1 locs ht hvm hw hB hz1 hk1 hS => ?_)
      obtain rfl := hw
      obtain ⟨hP1, hK1, hD1⟩ := hB
      rw [ht] at hP1
      obtain ⟨hP, hD⟩ := va_join (wr := [(aQ, .inr (1, [.ref aQF, .ref aQT, .ref aQN, .ref aQL, .ref aQU, .int (nI cnt2)])), (aQF, .inl (cyI, 20, .inl (fun j_ => nI (F2 j_)))), (aQT, .inl (cyI, 20, .inl (fun j_ => nI (T2 j_)))), (aQN, .inl (cyI, 20, .inl nm2)), (aQL, .inl (cyI, 20, .inl lo2)), (aQU, .inl (cyI, 20, .inl up2))]) (w1 := [(aL, .inr (3, [.ref aQ, .int (nI n), .int (nI (if c = 44 then 7 else pl)), .int (nI row), .int (nI dg), .int (nI sz), .int (bI ng)]))]) hP hD [6] [0, 1, 2, 3, 4, 5] rfl rfl (by decide) (by decide) hk1 hFc hP1 hD1
      clear hP1 hD1 hK1 hPc hDc hFc hk1 hz1 hvm ht u t
      generalize H1 = H at hP hS ⊢
      have hP : va_P (dC, dI) vwCl [(aQ, .inr (1, [.ref aQF, .ref aQT, .ref aQN, .ref aQL, .ref aQU, .int (nI cnt2)])), (aQF, .inl (cyI, 20, .inl (fun j_ => nI (F2 j_)))), (aQT, .inl (cyI, 20, .inl (fun j_ => nI (T2 j_)))), (aQN, .inl (cyI, 20, .inl nm2)), (aQL, .inl (cyI, 20, .inl lo2)), (aQU, .inl (cyI, 20, .inl up2)), (aL, .inr (3, [.ref aQ, .int (nI n), .int (nI (if c = 44 then 7 else pl)), .int (nI row), .int (nI dg), .int (nI sz), .int (bI ng)]))] H := hP
      have hD : va_D A [(aQ, .inr (1, [.ref aQF, .ref aQT, .ref aQN, .ref aQL, .ref aQU, .int (nI cnt2)])), (aQF, .inl (cyI, 20, .inl (fun j_ => nI (F2 j_)))), (aQT, .inl (cyI, 20, .inl (fun j_ => nI (T2 j_)))), (aQN, .inl (cyI, 20, .inl nm2)), (aQL, .inl (cyI, 20, .inl lo2)), (aQU, .inl (cyI, 20, .inl up2)), (aL, .inr (3, [.ref aQ, .int (nI n), .int (nI (if c = 44 then 7 else pl)), .int (nI row), .int (nI dg), .int (nI sz), .int (bI ng)]))] := hD
      refine lv_if_eq (tgt := 50) hx hb dX3_takeInLower_43 (by decide) (fun c43 => ?_) (fun c43 => ?_)
      · have c43 : (decide (c = 44)) = false := bI_0 c43
        have c43 := of_decide_eq_false c43
        have hz : tkL (pl, row, dg, sz, ng, cnt2, F2, T2, nm2, lo2, up2) c = none := by simp only [tkL]; rw [if_neg (by rw [c6]; exact Bool.false_ne_true), if_neg (fun q => c43 q.2)]
        have q11 : (if c = 44 then 7 else pl) = pl := by rw [if_neg c43]
        rw [q11] at hP hD
        have hP : va_P (dC, dI) vwCl [(aQ, .inr (1, [.ref aQF, .ref aQT, .ref aQN, .ref aQL, .ref aQU, .int (nI cnt2)])), (aQF, .inl (cyI, 20, .inl (fun j_ => nI (F2 j_)))), (aQT, .inl (cyI, 20, .inl (fun j_ => nI (T2 j_)))), (aQN, .inl (cyI, 20, .inl nm2)), (aQL, .inl (cyI, 20, .inl lo2)), (aQU, .inl (cyI, 20, .inl up2)), (aL, .inr (3, [.ref aQ, .int (nI n), .int (nI pl), .int (nI row), .int (nI dg), .int (nI sz), .int (bI ng)]))] H := hP
        have hD : va_D A [(aQ, .inr (1, [.ref aQF, .ref aQT, .ref aQN, .ref aQL, .ref aQU, .int (nI cnt2)])), (aQF, .inl (cyI, 20, .inl (fun j_ => nI (F2 j_)))), (aQT, .inl (cyI, 20, .inl (fun j_ => nI (T2 j_)))), (aQN, .inl (cyI, 20, .inl nm2)), (aQL, .inl (cyI, 20, .inl lo2)), (aQU, .inl (cyI, 20, .inl up2)), (aL, .inr (3, [.ref aQ, .int (nI n), .int (nI pl), .int (nI row), .int (nI dg), .int (nI sz), .int (bI ng)]))] := hD
        refine lv_iconst (v := 0) hx hb dX3_takeInLower_50 (by decide) ?_
        have r12 : 0 = (bI ((tkL (pl, row, dg, sz, ng, cnt2, F2, T2, nm2, lo2, up2) c).isSome)) := by rw [hz]; rfl
        have hP9 : va_P (dC, dI) vwCl [(aL, .inr (3, [.ref aQ, .int (nI n), .int (nI pl), .int (nI row), .int (nI dg), .int (nI sz), .int (bI ng)])), (aQ, .inr (1, [.ref aQF, .ref aQT, .ref aQN, .ref aQL, .ref aQU, .int (nI cnt2)])), (aQF, .inl (cyI, 20, .inl (fun j_ => nI (F2 j_)))), (aQT, .inl (cyI, 20, .inl (fun j_ => nI (T2 j_)))), (aQN, .inl (cyI, 20, .inl nm2)), (aQL, .inl (cyI, 20, .inl lo2)), (aQU, .inl (cyI, 20, .inl up2))] H := by exact hP.sub [6, 0, 1, 2, 3, 4, 5] rfl
        have hD9 : va_D A [(aL, .inr (3, [.ref aQ, .int (nI n), .int (nI pl), .int (nI row), .int (nI dg), .int (nI sz), .int (bI ng)])), (aQ, .inr (1, [.ref aQF, .ref aQT, .ref aQN, .ref aQL, .ref aQU, .int (nI cnt2)])), (aQF, .inl (cyI, 20, .inl (fun j_ => nI (F2 j_)))), (aQT, .inl (cyI, 20, .inl (fun j_ => nI (T2 j_)))), (aQN, .inl (cyI, 20, .inl nm2)), (aQL, .inl (cyI, 20, .inl lo2)), (aQU, .inl (cyI, 20, .inl up2))] := by exact hD.sub [6, 0, 1, 2, 3, 4, 5] (by decide) rfl
        have p13 : tkL (pl, row, dg, sz, ng, cnt2, F2, T2, nm2, lo2, up2) c = none ∨ tkL (pl, row, dg, sz, ng, cnt2, F2, T2, nm2, lo2, up2) c = some (pl, row, dg, sz, ng, cnt2, F2, T2, nm2, lo2, up2) := by first | exact Or.inl hz | exact Or.inr hz
        subst hAe
        subst hQe
        exact W.zret (v := 0) hx hb hr rfl (fun t ht hW => ⟨⟨_, (), rfl, r12, pl, row, dg, sz, ng, cnt2, F2, T2, nm2, lo2, up2, p13, by rw [ht]; exact hP9, va_K.moved hW.alike hK, hD9⟩, hS.F ht⟩) hS.2.2 dX3_takeInLower_51
      · have c43 : (decide (c = 44)) = true := bI_n0 c43
        have c43 := of_decide_eq_true c43
        have hz : tkL (pl, row, dg, sz, ng, cnt2, F2, T2, nm2, lo2, up2) c = some (7, row, dg, sz, ng, cnt2, F2, T2, nm2, lo2, up2) := by simp only [tkL]; rw [if_neg (by rw [c6]; exact Bool.false_ne_true), if_pos ⟨c31, c43⟩]
        have q14 : (if c = 44 then 7 else pl) = 7 := by rw [if_pos c43]
        rw [q14] at hP hD
        have hP : va_P (dC, dI) vwCl [(aQ, .inr (1, [.ref aQF, .ref aQT, .ref aQN, .ref aQL, .ref aQU, .int (nI cnt2)])), (aQF, .inl (cyI, 20, .inl (fun j_ => nI (F2 j_)))), (aQT, .inl (cyI, 20, .inl (fun j_ => nI (T2 j_)))), (aQN, .inl (cyI, 20, .inl nm2)), (aQL, .inl (cyI, 20, .inl lo2)), (aQU, .inl (cyI, 20, .inl up2)), (aL, .inr (3, [.ref aQ, .int (nI n), .int (nI 7), .int (nI row), .int (nI dg), .int (nI sz), .int (bI ng)]))] H := hP
        have hD : va_D A [(aQ, .inr (1, [.ref aQF, .ref aQT, .ref aQN, .ref aQL, .ref aQU, .int (nI cnt2)])), (aQF, .inl (cyI, 20, .inl (fun j_ => nI (F2 j_)))), (aQT, .inl (cyI, 20, .inl (fun j_ => nI (T2 j_)))), (aQN, .inl (cyI, 20, .inl nm2)), (aQL, .inl (cyI, 20, .inl lo2)), (aQU, .inl (cyI, 20, .inl up2)), (aL, .inr (3, [.ref aQ, .int (nI n), .int (nI 7), .int (nI row), .int (nI dg), .int (nI sz), .int (bI ng)]))] := hD
        refine lv_iconst (v := 1) hx hb dX3_takeInLower_46 (by decide) ?_
        refine lv_goto (tgt := 51) hx hb dX3_takeInLower_47 (by decide) ?_
        have r15 : 1 = (bI ((tkL (pl, row, dg, sz, ng, cnt2, F2, T2, nm2, lo2, up2) c).isSome)) := by rw [hz]; rfl
        have hP9 : va_P (dC, dI) vwCl [(aL, .inr (3, [.ref aQ, .int (nI n), .int (nI 7), .int (nI row), .int (nI dg), .int (nI sz), .int (bI ng)])), (aQ, .inr (1, [.ref aQF, .ref aQT, .ref aQN, .ref aQL, .ref aQU, .int (nI cnt2)])), (aQF, .inl (cyI, 20, .inl (fun j_ => nI (F2 j_)))), (aQT, .inl (cyI, 20, .inl (fun j_ => nI (T2 j_)))), (aQN, .inl (cyI, 20, .inl nm2)), (aQL, .inl (cyI, 20, .inl lo2)), (aQU, .inl (cyI, 20, .inl up2))] H := by exact hP.sub [6, 0, 1, 2, 3, 4, 5] rfl
        have hD9 : va_D A [(aL, .inr (3, [.ref aQ, .int (nI n), .int (nI 7), .int (nI row), .int (nI dg), .int (nI sz), .int (bI ng)])), (aQ, .inr (1, [.ref aQF, .ref aQT, .ref aQN, .ref aQL, .ref aQU, .int (nI cnt2)])), (aQF, .inl (cyI, 20, .inl (fun j_ => nI (F2 j_)))), (aQT, .inl (cyI, 20, .inl (fun j_ => nI (T2 j_)))), (aQN, .inl (cyI, 20, .inl nm2)), (aQL, .inl (cyI, 20, .inl lo2)), (aQU, .inl (cyI, 20, .inl up2))] := by exact hD.sub [6, 0, 1, 2, 3, 4, 5] (by decide) rfl
        have p16 : tkL (pl, row, dg, sz, ng, cnt2, F2, T2, nm2, lo2, up2) c = none ∨ tkL (pl, row, dg, sz, ng, cnt2, F2, T2, nm2, lo2, up2) c = some (7, row, dg, sz, ng, cnt2, F2, T2, nm2, lo2, up2) := by first | exact Or.inl hz | exact Or.inr hz
        subst hAe
        subst hQe
        exact W.zret (v := 1) hx hb hr rfl (fun t ht hW => ⟨⟨_, (), rfl, r15, 7, row, dg, sz, ng, cnt2, F2, T2, nm2, lo2, up2, p16, by rw [ht]; exact hP9, va_K.moved hW.alike hK, hD9⟩, hS.F ht⟩) hS.2.2 dX3_takeInLower_51
  · have c6 : (dgB c dg 3) = true := bI_n0 c6
    have hz : tkL (pl, row, dg, sz, ng, cnt2, F2, T2, nm2, lo2, up2) c = some (pl, row, dg + 1, sz * 10 + c - 48, ng, cnt2, F2, T2, nm2, upd lo2 row (numV ng (sz * 10 + c - 48)), up2) := by simp only [tkL]; rw [if_pos c6]
    have q17 : (if dgB c dg 3 = true then dg + 1 else dg) = (dg + 1) := by rw [c6]; rfl
    rw [q17] at hP hD
    have q18 : (if dgB c dg 3 = true then sz * 10 + c - 48 else sz) = (sz * 10 + c - 48) := by rw [c6]; rfl
    rw [q18] at hP hD
    have hP : va_P (dC, dI) vwCl [(aQ, .inr (1, [.ref aQF, .ref aQT, .ref aQN, .ref aQL, .ref aQU, .int (nI cnt2)])), (aQF, .inl (cyI, 20, .inl (fun j_ => nI (F2 j_)))), (aQT, .inl (cyI, 20, .inl (fun j_ => nI (T2 j_)))), (aQN, .inl (cyI, 20, .inl nm2)), (aQL, .inl (cyI, 20, .inl lo2)), (aQU, .inl (cyI, 20, .inl up2)), (aL, .inr (3, [.ref aQ, .int (nI n), .int (nI pl), .int (nI row), .int (nI (dg + 1)), .int (nI (sz * 10 + c - 48)), .int (bI ng)]))] H := hP
    have hD : va_D A [(aQ, .inr (1, [.ref aQF, .ref aQT, .ref aQN, .ref aQL, .ref aQU, .int (nI cnt2)])), (aQF, .inl (cyI, 20, .inl (fun j_ => nI (F2 j_)))), (aQT, .inl (cyI, 20, .inl (fun j_ => nI (T2 j_)))), (aQN, .inl (cyI, 20, .inl nm2)), (aQL, .inl (cyI, 20, .inl lo2)), (aQU, .inl (cyI, 20, .inl up2)), (aL, .inr (3, [.ref aQ, .int (nI n), .int (nI pl), .int (nI row), .int (nI (dg + 1)), .int (nI (sz * 10 + c - 48)), .int (bI ng)]))] := hD
    refine lv_aload_n hx hb dX3_takeInLower_9 rfl (lv_at hl 0 rfl) ?_
    refine va_get (D := (dC, dI)) (ci := 3) (v := .ref aQ) (C := RX3) (T := TX3) (N := 7) hx hb hts iX3 hown hK hP 6 rfl rfl 0 (by decide) w1 (fun _ h9 => h9) rfl dX3_takeInLower_10 ?_
    refine va_get (D := (dC, dI)) (ci := 1) (v := .ref aQL) (C := RX1) (T := TX1) (N := 6) hx hb hts iX1 hown hK hP 0 rfl rfl 3 (by decide) w2 (fun _ h9 => h9) rfl dX3_takeInLower_13 ?_
    refine lv_aload_n hx hb dX3_takeInLower_16 rfl (lv_at hl 0 rfl) ?_
    refine va_get (D := (dC, dI)) (ci := 3) (v := .int (nI row)) (C := RX3) (T := TX3) (N := 7) hx hb hts iX3 hown hK hP 6 rfl rfl 3 (by decide) w3 (fun _ h9 => h9) rfl dX3_takeInLower_17 ?_
    refine lv_aload_n hx hb dX3_takeInLower_20 rfl (lv_at hl 0 rfl) ?_
    have hPc := hP.sub (ws' := [(aL, .inr (3, [.ref aQ, .int (nI n), .int (nI pl), .int (nI row), .int (nI (dg + 1)), .int (nI (sz * 10 + c - 48)), .int (bI ng)]))]) [6] rfl
    have hDc := hD.sub (ws' := [(aL, .inr (3, [.ref aQ, .int (nI n), .int (nI pl), .int (nI row), .int (nI (dg + 1)), .int (nI (sz * 10 + c - 48)), .int (bI ng)]))]) [6] (by decide) rfl
    have hFc := va_free (wc := [(aL, .inr (3, [.ref aQ, .int (nI n), .int (nI pl), .int (nI row), .int (nI (dg + 1)), .int (nI (sz * 10 + c - 48)), .int (bI ng)]))]) hD hS hA [6] rfl
    refine va_calli (va_runV (As := []) (rest := [.int (nI row), .ref aQL]) ⟨hx, hb, hml, hown, hts⟩ (c_X3_number l dC dI cyI cyZ cyJ cyD aL aQ H.size n pl row (dg + 1) (sz * 10 + c - 48) ng) (cwV 0 hts gX3_takeInLower_X3_number rfl rfl rfl (by decide +kernel) ⟨Nat.le_of_ble_eq_true rfl, Nat.le_of_ble_eq_true rfl⟩) ⟨fun a U g mk q => by obtain ⟨q0, q1, qP, qK, qD⟩ := q; exact ⟨q0, q1, qP, va_K.moved (u := U) (U := U.calling g mk a) (Vm.Alike.refl U.vm) qK, qD⟩, va_recv hK hPc (ci := 3) (q0 := 0) rfl rfl, fun U hU hW => ⟨rfl, by rw [hU], by rw [hU]; exact hPc, va_K.moved hW.alike hK, hDc.weaken (fun _ _ _ _ => trivial)⟩⟩ rfl rfl hl.1 rfl (lv_room (Nat.le_of_ble_eq_true rfl)) dX3_takeInLower_21 ⟨Nat.le_of_ble_eq_true rfl, Nat.le_of_ble_eq_true rfl⟩) hS (fun q _ h => hFc q h) hFc (fun r u t H1 locs ht hvm hw hB hz1 hk1 hS => ?_)
    obtain rfl := hw
    obtain ⟨hP1, hK1, hD1⟩ := hB
    rw [ht] at hP1
    obtain ⟨hP, hD⟩ := va_join (wr := [(aQ, .inr (1, [.ref aQF, .ref aQT, .ref aQN, .ref aQL, .ref aQU, .int (nI cnt2)])), (aQF, .inl (cyI, 20, .inl (fun j_ => nI (F2 j_)))), (aQT, .inl (cyI, 20, .inl (fun j_ => nI (T2 j_)))), (aQN, .inl (cyI, 20, .inl nm2)), (aQL, .inl (cyI, 20, .inl lo2)), (aQU, .inl (cyI, 20, .inl up2))]) (w1 := [(aL, .inr (3, [.ref aQ, .int (nI n), .int (nI pl), .int (nI row), .int (nI (dg + 1)), .int (nI (sz * 10 + c - 48)), .int (bI ng)]))]) hP hD [6] [0, 1, 2, 3, 4, 5] rfl rfl (by decide) (by decide) hk1 hFc hP1 hD1
    clear hP1 hD1 hK1 hPc hDc hFc hk1 hz1 hvm ht u t
    generalize H1 = H at hP hS ⊢
    have hP : va_P (dC, dI) vwCl [(aQ, .inr (1, [.ref aQF, .ref aQT, .ref aQN, .ref aQL, .ref aQU, .int (nI cnt2)])), (aQF, .inl (cyI, 20, .inl (fun j_ => nI (F2 j_)))), (aQT, .inl (cyI, 20, .inl (fun j_ => nI (T2 j_)))), (aQN, .inl (cyI, 20, .inl nm2)), (aQL, .inl (cyI, 20, .inl lo2)), (aQU, .inl (cyI, 20, .inl up2)), (aL, .inr (3, [.ref aQ, .int (nI n), .int (nI pl), .int (nI row), .int (nI (dg + 1)), .int (nI (sz * 10 + c - 48)), .int (bI ng)]))] H := hP
    have hD : va_D A [(aQ, .inr (1, [.ref aQF, .ref aQT, .ref aQN, .ref aQL, .ref aQU, .int (nI cnt2)])), (aQF, .inl (cyI, 20, .inl (fun j_ => nI (F2 j_)))), (aQT, .inl (cyI, 20, .inl (fun j_ => nI (T2 j_)))), (aQN, .inl (cyI, 20, .inl nm2)), (aQL, .inl (cyI, 20, .inl lo2)), (aQU, .inl (cyI, 20, .inl up2)), (aL, .inr (3, [.ref aQ, .int (nI n), .int (nI pl), .int (nI row), .int (nI (dg + 1)), .int (nI (sz * 10 + c - 48)), .int (bI ng)]))] := hD
    have h19 : vp_in (nI row) 20 := by first | exact vp_in_nI (by omega) (by omega) | assumption
    refine va_iast hx hb hK hP hD hS 4 0 rfl rfl h19 dX3_takeInLower_24 (fun H locs hP hD hS => ?_)
    rw [nI_clamp (by omega)] at hP hD
    have hP : va_P (dC, dI) vwCl [(aQ, .inr (1, [.ref aQF, .ref aQT, .ref aQN, .ref aQL, .ref aQU, .int (nI cnt2)])), (aQF, .inl (cyI, 20, .inl (fun j_ => nI (F2 j_)))), (aQT, .inl (cyI, 20, .inl (fun j_ => nI (T2 j_)))), (aQN, .inl (cyI, 20, .inl nm2)), (aQL, .inl (cyI, 20, .inl (upd lo2 row (numV ng (sz * 10 + c - 48))))), (aQU, .inl (cyI, 20, .inl up2)), (aL, .inr (3, [.ref aQ, .int (nI n), .int (nI pl), .int (nI row), .int (nI (dg + 1)), .int (nI (sz * 10 + c - 48)), .int (bI ng)]))] H := hP
    have hD : va_D A [(aQ, .inr (1, [.ref aQF, .ref aQT, .ref aQN, .ref aQL, .ref aQU, .int (nI cnt2)])), (aQF, .inl (cyI, 20, .inl (fun j_ => nI (F2 j_)))), (aQT, .inl (cyI, 20, .inl (fun j_ => nI (T2 j_)))), (aQN, .inl (cyI, 20, .inl nm2)), (aQL, .inl (cyI, 20, .inl (upd lo2 row (numV ng (sz * 10 + c - 48))))), (aQU, .inl (cyI, 20, .inl up2)), (aL, .inr (3, [.ref aQ, .int (nI n), .int (nI pl), .int (nI row), .int (nI (dg + 1)), .int (nI (sz * 10 + c - 48)), .int (bI ng)]))] := hD
    refine lv_iconst (v := 1) hx hb dX3_takeInLower_25 (by decide) ?_
    have r20 : 1 = (bI ((tkL (pl, row, dg, sz, ng, cnt2, F2, T2, nm2, lo2, up2) c).isSome)) := by rw [hz]; rfl
    have hP9 : va_P (dC, dI) vwCl [(aL, .inr (3, [.ref aQ, .int (nI n), .int (nI pl), .int (nI row), .int (nI (dg + 1)), .int (nI (sz * 10 + c - 48)), .int (bI ng)])), (aQ, .inr (1, [.ref aQF, .ref aQT, .ref aQN, .ref aQL, .ref aQU, .int (nI cnt2)])), (aQF, .inl (cyI, 20, .inl (fun j_ => nI (F2 j_)))), (aQT, .inl (cyI, 20, .inl (fun j_ => nI (T2 j_)))), (aQN, .inl (cyI, 20, .inl nm2)), (aQL, .inl (cyI, 20, .inl (upd lo2 row (numV ng (sz * 10 + c - 48))))), (aQU, .inl (cyI, 20, .inl up2))] H := by exact hP.sub [6, 0, 1, 2, 3, 4, 5] rfl
    have hD9 : va_D A [(aL, .inr (3, [.ref aQ, .int (nI n), .int (nI pl), .int (nI row), .int (nI (dg + 1)), .int (nI (sz * 10 + c - 48)), .int (bI ng)])), (aQ, .inr (1, [.ref aQF, .ref aQT, .ref aQN, .ref aQL, .ref aQU, .int (nI cnt2)])), (aQF, .inl (cyI, 20, .inl (fun j_ => nI (F2 j_)))), (aQT, .inl (cyI, 20, .inl (fun j_ => nI (T2 j_)))), (aQN, .inl (cyI, 20, .inl nm2)), (aQL, .inl (cyI, 20, .inl (upd lo2 row (numV ng (sz * 10 + c - 48))))), (aQU, .inl (cyI, 20, .inl up2))] := by exact hD.sub [6, 0, 1, 2, 3, 4, 5] (by decide) rfl
    have p21 : tkL (pl, row, dg, sz, ng, cnt2, F2, T2, nm2, lo2, up2) c = none ∨ tkL (pl, row, dg, sz, ng, cnt2, F2, T2, nm2, lo2, up2) c = some (pl, row, (dg + 1), (sz * 10 + c - 48), ng, cnt2, F2, T2, nm2, (upd lo2 row (numV ng (sz * 10 + c - 48))), up2) := by first | exact Or.inl hz | exact Or.inr hz
    subst hAe
    subst hQe
    exact W.zret (v := 1) hx hb hr rfl (fun t ht hW => ⟨⟨_, (), rfl, r20, pl, row, (dg + 1), (sz * 10 + c - 48), ng, cnt2, F2, T2, nm2, (upd lo2 row (numV ng (sz * 10 + c - 48))), up2, p21, by rw [ht]; exact hP9, va_K.moved hW.alike hK, hD9⟩, hS.F ht⟩) hS.2.2 dX3_takeInLower_26
set_option maxHeartbeats 4000000 in
set_option maxRecDepth 100000 in
theorem c_X3_takeInUpper (l : Launch) (dC : Nat → ClassId) (dI : Nat → Nat → Nat) (cyI cyZ cyJ cyD : ClassId) (aL aQ aQF aQT aQN aQL aQU : Nat) (zH : Nat) (n : Nat) (pl : Nat) (row : Nat) (dg : Nat) (sz : Nat) (ng : Bool) (F2 : Nat → Nat) (T2 : Nat → Nat) (nm2 : Nat → Int32) (lo2 : Nat → Int32) (up2 : Nat → Int32) (cnt2 : Nat) (c : Nat) (hc : c < 128) (hk : cnt2 ≤ 20) (hrow : row < 20) (hdg : dg ≤ 5) (hsz : sz < 100000) : Met l yX3_takeInUpper wsX3_takeInUpper ({ frames := 1, cells := 0, slots := 0, locals := 23 } : Room) (va_Pc [.ref aL, .int (nI c)] (fun U => U.heap.size = zH ∧ va_P (dC, dI) vwCl [(aL, .inr (3, [.ref aQ, .int (nI n), .int (nI pl), .int (nI row), .int (nI dg), .int (nI sz), .int (bI ng)])), (aQ, .inr (1, [.ref aQF, .ref aQT, .ref aQN, .ref aQL, .ref aQU, .int (nI cnt2)])), (aQF, .inl (cyI, 20, .inl (fun j_ => nI (F2 j_)))), (aQT, .inl (cyI, 20, .inl (fun j_ => nI (T2 j_)))), (aQN, .inl (cyI, 20, .inl nm2)), (aQL, .inl (cyI, 20, .inl lo2)), (aQU, .inl (cyI, 20, .inl up2))] U.heap ∧ va_K (dC, dI) vwCl [(cyI, .int), (cyZ, .boolean), (cyJ, .long), (cyD, .double)] U ∧ va_D (fun _ => True) [(aL, .inr (3, [.ref aQ, .int (nI n), .int (nI pl), .int (nI row), .int (nI dg), .int (nI sz), .int (bI ng)])), (aQ, .inr (1, [.ref aQF, .ref aQT, .ref aQN, .ref aQL, .ref aQU, .int (nI cnt2)])), (aQF, .inl (cyI, 20, .inl (fun j_ => nI (F2 j_)))), (aQT, .inl (cyI, 20, .inl (fun j_ => nI (T2 j_)))), (aQN, .inl (cyI, 20, .inl nm2)), (aQL, .inl (cyI, 20, .inl lo2)), (aQU, .inl (cyI, 20, .inl up2))])) (va_Qi (fun (r : Int32) (_ : Unit) => r = bI ((tkU (pl, row, dg, sz, ng, cnt2, F2, T2, nm2, lo2, up2) c).isSome)) (fun _ t => ∃ (pl3 : Nat), ∃ (row3 : Nat), ∃ (dg3 : Nat), ∃ (sz3 : Nat), ∃ (ng3 : Bool), ∃ (cnt3 : Nat), ∃ (F3 : Nat → Nat), ∃ (T3 : Nat → Nat), ∃ (nm3 : Nat → Int32), ∃ (lo3 : Nat → Int32), ∃ (up3 : Nat → Int32), (tkU (pl, row, dg, sz, ng, cnt2, F2, T2, nm2, lo2, up2) c = none ∨ tkU (pl, row, dg, sz, ng, cnt2, F2, T2, nm2, lo2, up2) c = some (pl3, row3, dg3, sz3, ng3, cnt3, F3, T3, nm3, lo3, up3)) ∧ va_P (dC, dI) vwCl [(aL, .inr (3, [.ref aQ, .int (nI n), .int (nI pl3), .int (nI row3), .int (nI dg3), .int (nI sz3), .int (bI ng3)])), (aQ, .inr (1, [.ref aQF, .ref aQT, .ref aQN, .ref aQL, .ref aQU, .int (nI cnt3)])), (aQF, .inl (cyI, 20, .inl (fun j_ => nI (F3 j_)))), (aQT, .inl (cyI, 20, .inl (fun j_ => nI (T3 j_)))), (aQN, .inl (cyI, 20, .inl nm3)), (aQL, .inl (cyI, 20, .inl lo3)), (aQU, .inl (cyI, 20, .inl up3))] t.heap ∧ va_K (dC, dI) vwCl [(cyI, .int), (cyZ, .boolean), (cyJ, .long), (cyD, .double)] t ∧ va_D (va_A [(aL, .inr (3, [.ref aQ, .int (nI n), .int (nI pl), .int (nI row), .int (nI dg), .int (nI sz), .int (bI ng)])), (aQ, .inr (1, [.ref aQF, .ref aQT, .ref aQN, .ref aQL, .ref aQU, .int (nI cnt2)])), (aQF, .inl (cyI, 20, .inl (fun j_ => nI (F2 j_)))), (aQT, .inl (cyI, 20, .inl (fun j_ => nI (T2 j_)))), (aQN, .inl (cyI, 20, .inl nm2)), (aQL, .inl (cyI, 20, .inl lo2)), (aQU, .inl (cyI, 20, .inl up2))] zH) [(aL, .inr (3, [.ref aQ, .int (nI n), .int (nI pl3), .int (nI row3), .int (nI dg3), .int (nI sz3), .int (bI ng3)])), (aQ, .inr (1, [.ref aQF, .ref aQT, .ref aQN, .ref aQL, .ref aQU, .int (nI cnt3)])), (aQF, .inl (cyI, 20, .inl (fun j_ => nI (F3 j_)))), (aQT, .inl (cyI, 20, .inl (fun j_ => nI (T3 j_)))), (aQN, .inl (cyI, 20, .inl nm3)), (aQL, .inl (cyI, 20, .inl lo3)), (aQU, .inl (cyI, 20, .inl up3))]) (va_A [(aL, .inr (3, [.ref aQ, .int (nI n), .int (nI pl), .int (nI row), .int (nI dg), .int (nI sz), .int (bI ng)])), (aQ, .inr (1, [.ref aQF, .ref aQT, .ref aQN, .ref aQL, .ref aQU, .int (nI cnt2)])), (aQF, .inl (cyI, 20, .inl (fun j_ => nI (F2 j_)))), (aQT, .inl (cyI, 20, .inl (fun j_ => nI (T2 j_)))), (aQN, .inl (cyI, 20, .inl nm2)), (aQL, .inl (cyI, 20, .inl lo2)), (aQU, .inl (cyI, 20, .inl up2))] zH)) 0 0 (va_A [(aL, .inr (3, [.ref aQ, .int (nI n), .int (nI pl), .int (nI row), .int (nI dg), .int (nI sz), .int (bI ng)])), (aQ, .inr (1, [.ref aQF, .ref aQT, .ref aQN, .ref aQL, .ref aQU, .int (nI cnt2)])), (aQF, .inl (cyI, 20, .inl (fun j_ => nI (F2 j_)))), (aQT, .inl (cyI, 20, .inl (fun j_ => nI (T2 j_)))), (aQN, .inl (cyI, 20, .inl nm2)), (aQL, .inl (cyI, 20, .inl lo2)), (aQU, .inl (cyI, 20, .inl up2))] zH) := by
  refine Met.ofW (cc := cX3_takeInUpper) (maxL := 2) (ret := (some .boolean)) (by decide) rfl ?_
  intro pM eM s mM args blM mtM cM s₁ BM hml hv
  obtain ⟨rfl, hsz, hP, hK, hD0⟩ := hv
  have hx := BM.exec
  have hb := BM.bytes
  have hr := BM.returns
  have hts := atoms_spec (ws := wsX3_takeInUpper) BM.pre
  have hown : s.vm.findClass RX3 = some mM.cls := findClass_of_methodNamed BM.named
  have hlocks := BM.notSynchronized
  have w0 := hts (.fieldLink RX3 28 "DimensionChecker$ListReader" "digits" "I") (by decide +kernel)
  have w1 := hts (.fieldLink RX3 12 "DimensionChecker$ListReader" "rows" "LDimensionChecker$Dimensions;") (by decide +kernel)
  have w2 := hts (.fieldLink RX3 25 "DimensionChecker$ListReader" "row" "I") (by decide +kernel)
  have w3 := hts (.fieldLink RX3 102 "DimensionChecker$Dimensions" "upper" "[I") (by decide +kernel)
  have iX3 : ∀ w ∈ wsX30, w ∈ wsX3_takeInUpper := by decide +kernel
  have iX1 : ∀ w ∈ wsX10, w ∈ wsX3_takeInUpper := by decide +kernel
  subst hsz
  have hD := hD0.self (sz := s.heap.size)
  obtain ⟨Q, hQe⟩ : ∃ Q : State → Prop, Q = MQ blM (va_Qi (fun (r : Int32) (_ : Unit) => r = bI ((tkU (pl, row, dg, sz, ng, cnt2, F2, T2, nm2, lo2, up2) c).isSome)) (fun _ t => ∃ (pl3 : Nat), ∃ (row3 : Nat), ∃ (dg3 : Nat), ∃ (sz3 : Nat), ∃ (ng3 : Bool), ∃ (cnt3 : Nat), ∃ (F3 : Nat → Nat), ∃ (T3 : Nat → Nat), ∃ (nm3 : Nat → Int32), ∃ (lo3 : Nat → Int32), ∃ (up3 : Nat → Int32), (tkU (pl, row, dg, sz, ng, cnt2, F2, T2, nm2, lo2, up2) c = none ∨ tkU (pl, row, dg, sz, ng, cnt2, F2, T2, nm2, lo2, up2) c = some (pl3, row3, dg3, sz3, ng3, cnt3, F3, T3, nm3, lo3, up3)) ∧ va_P (dC, dI) vwCl [(aL, .inr (3, [.ref aQ, .int (nI n), .int (nI pl3), .int (nI row3), .int (nI dg3), .int (nI sz3), .int (bI ng3)])), (aQ, .inr (1, [.ref aQF, .ref aQT, .ref aQN, .ref aQL, .ref aQU, .int (nI cnt3)])), (aQF, .inl (cyI, 20, .inl (fun j_ => nI (F3 j_)))), (aQT, .inl (cyI, 20, .inl (fun j_ => nI (T3 j_)))), (aQN, .inl (cyI, 20, .inl nm3)), (aQL, .inl (cyI, 20, .inl lo3)), (aQU, .inl (cyI, 20, .inl up3))] t.heap ∧ va_K (dC, dI) vwCl [(cyI, .int), (cyZ, .boolean), (cyJ, .long), (cyD, .double)] t ∧ va_D (va_A [(aL, .inr (3, [.ref aQ, .int (nI n), .int (nI pl), .int (nI row), .int (nI dg), .int (nI sz), .int (bI ng)])), (aQ, .inr (1, [.ref aQF, .ref aQT, .ref aQN, .ref aQL, .ref aQU, .int (nI cnt2)])), (aQF, .inl (cyI, 20, .inl (fun j_ => nI (F2 j_)))), (aQT, .inl (cyI, 20, .inl (fun j_ => nI (T2 j_)))), (aQN, .inl (cyI, 20, .inl nm2)), (aQL, .inl (cyI, 20, .inl lo2)), (aQU, .inl (cyI, 20, .inl up2))] s.heap.size) [(aL, .inr (3, [.ref aQ, .int (nI n), .int (nI pl3), .int (nI row3), .int (nI dg3), .int (nI sz3), .int (bI ng3)])), (aQ, .inr (1, [.ref aQF, .ref aQT, .ref aQN, .ref aQL, .ref aQU, .int (nI cnt3)])), (aQF, .inl (cyI, 20, .inl (fun j_ => nI (F3 j_)))), (aQT, .inl (cyI, 20, .inl (fun j_ => nI (T3 j_)))), (aQN, .inl (cyI, 20, .inl nm3)), (aQL, .inl (cyI, 20, .inl lo3)), (aQU, .inl (cyI, 20, .inl up3))]) (va_A [(aL, .inr (3, [.ref aQ, .int (nI n), .int (nI pl), .int (nI row), .int (nI dg), .int (nI sz), .int (bI ng)])), (aQ, .inr (1, [.ref aQF, .ref aQT, .ref aQN, .ref aQL, .ref aQU, .int (nI cnt2)])), (aQF, .inl (cyI, 20, .inl (fun j_ => nI (F2 j_)))), (aQT, .inl (cyI, 20, .inl (fun j_ => nI (T2 j_)))), (aQN, .inl (cyI, 20, .inl nm2)), (aQL, .inl (cyI, 20, .inl lo2)), (aQU, .inl (cyI, 20, .inl up2))] s.heap.size)) ([.ref aL, .int (nI c)] : List Value).toArray s 0 0 (va_A [(aL, .inr (3, [.ref aQ, .int (nI n), .int (nI pl), .int (nI row), .int (nI dg), .int (nI sz), .int (bI ng)])), (aQ, .inr (1, [.ref aQF, .ref aQT, .ref aQN, .ref aQL, .ref aQU, .int (nI cnt2)])), (aQF, .inl (cyI, 20, .inl (fun j_ => nI (F2 j_)))), (aQT, .inl (cyI, 20, .inl (fun j_ => nI (T2 j_)))), (aQN, .inl (cyI, 20, .inl nm2)), (aQL, .inl (cyI, 20, .inl lo2)), (aQU, .inl (cyI, 20, .inl up2))] s.heap.size) := ⟨_, rfl⟩
  rw [← hQe]
  generalize hAe : va_A [(aL, .inr (3, [.ref aQ, .int (nI n), .int (nI pl), .int (nI row), .int (nI dg), .int (nI sz), .int (bI ng)])), (aQ, .inr (1, [.ref aQF, .ref aQT, .ref aQN, .ref aQL, .ref aQU, .int (nI cnt2)])), (aQF, .inl (cyI, 20, .inl (fun j_ => nI (F2 j_)))), (aQT, .inl (cyI, 20, .inl (fun j_ => nI (T2 j_)))), (aQN, .inl (cyI, 20, .inl nm2)), (aQL, .inl (cyI, 20, .inl lo2)), (aQU, .inl (cyI, 20, .inl up2))] s.heap.size = A at hD hQe
  have hA : ∀ q : Nat, s.heap.size ≤ q → A q := fun q h => by rw [← hAe]; exact Or.inr h
  obtain ⟨H, hHe⟩ : ∃ H : Heap, H = s.heap := ⟨_, rfl⟩
  have hS : va_S A s.heap H [] := by rw [hHe]; exact va_S.rf
  rw [← hHe] at hP ⊢
  have hl := lv_entry ([.ref aL, .int (nI c)]) (n := 2) (Nat.le_of_ble_eq_true rfl)
  rw [lg_entry_eq]
  generalize (lg_sl ([.ref aL, .int (nI c)]) ++ List.replicate (2 - (lg_sl ([.ref aL, .int (nI c)])).length) Slot.unset).toArray = ls at hl ⊢
  have hl : lv_has ls 2 [(0, .ref aL), (1, .int (nI c))] := hl
  refine lv_aload_n hx hb dX3_takeInUpper_0 rfl (lv_at hl 0 rfl) ?_
  refine lv_iload_n hx hb dX3_takeInUpper_1 rfl (lv_at hl 1 rfl) ?_
  refine lv_iconst (v := 3) hx hb dX3_takeInUpper_2 (by decide) ?_
  have g1 : c < 128 := by first | assumption | omega | exact vp_in_nI (by omega) (by omega)
  have g2 : 3 ≤ 5 := by first | assumption | omega | exact vp_in_nI (by omega) (by omega)
  have g3 : dg ≤ 5 := by first | assumption | omega | exact vp_in_nI (by omega) (by omega)
  have g4 : sz < 100000 := by first | assumption | omega | exact vp_in_nI (by omega) (by omega)
  have hPc := hP.sub (ws' := [(aL, .inr (3, [.ref aQ, .int (nI n), .int (nI pl), .int (nI row), .int (nI dg), .int (nI sz), .int (bI ng)]))]) [0] rfl
  have hDc := hD.sub (ws' := [(aL, .inr (3, [.ref aQ, .int (nI n), .int (nI pl), .int (nI row), .int (nI dg), .int (nI sz), .int (bI ng)]))]) [0] (by decide) rfl
  have hFc := va_free (wc := [(aL, .inr (3, [.ref aQ, .int (nI n), .int (nI pl), .int (nI row), .int (nI dg), .int (nI sz), .int (bI ng)]))]) hD hS hA [0] rfl
  refine va_calli (va_runV (As := [.int (nI c), .int 3]) (rest := []) ⟨hx, hb, hml, hown, hts⟩ (c_X3_takeDigit l dC dI cyI cyZ cyJ cyD aL aQ H.size n pl row dg sz ng c 3 g1 g2 g3 g4) (cwV 2 hts gX3_takeInUpper_X3_takeDigit rfl rfl rfl (by decide +kernel) ⟨Nat.le_of_ble_eq_true rfl, Nat.le_of_ble_eq_true rfl⟩) ⟨fun a U g mk q => by obtain ⟨q0, q1, qP, qK, qD⟩ := q; exact ⟨q0, q1, qP, va_K.moved (u := U) (U := U.calling g mk a) (Vm.Alike.refl U.vm) qK, qD⟩, va_recv hK hPc (ci := 3) (q0 := 0) rfl rfl, fun U hU hW => ⟨rfl, by rw [hU], by rw [hU]; exact hPc, va_K.moved hW.alike hK, hDc.weaken (fun _ _ _ _ => trivial)⟩⟩ rfl rfl hl.1 rfl (lv_room (Nat.le_of_ble_eq_true rfl)) dX3_takeInUpper_3 ⟨Nat.le_of_ble_eq_true rfl, Nat.le_of_ble_eq_true rfl⟩) hS (fun q _ h => hFc q h) hFc (fun r u t H1 locs ht hvm hw hB hz1 hk1 hS => ?_)
  obtain rfl := hw
  obtain ⟨hP1, hK1, hD1⟩ := hB
  rw [ht] at hP1
  obtain ⟨hP, hD⟩ := va_join (wr := [(aQ, .inr (1, [.ref aQF, .ref aQT, .ref aQN, .ref aQL, .ref aQU, .int (nI cnt2)])), (aQF, .inl (cyI, 20, .inl (fun j_ => nI (F2 j_)))), (aQT, .inl (cyI, 20, .inl (fun j_ => nI (T2 j_)))), (aQN, .inl (cyI, 20, .inl nm2)), (aQL, .inl (cyI, 20, .inl lo2)), (aQU, .inl (cyI, 20, .inl up2))]) (w1 := [(aL, .inr (3, [.ref aQ, .int (nI n), .int (nI pl), .int (nI row), .int (nI (if dgB c dg 3 = true then dg + 1 else dg)), .int (nI (if dgB c dg 3 = true then sz * 10 + c - 48 else sz)), .int (bI ng)]))]) hP hD [0] [1, 2, 3, 4, 5, 6] rfl rfl (by decide) (by decide) hk1 hFc hP1 hD1
  clear hP1 hD1 hK1 hPc hDc hFc hk1 hz1 hvm ht u t
  generalize H1 = H at hP hS ⊢
  have hP : va_P (dC, dI) vwCl [(aQ, .inr (1, [.ref aQF, .ref aQT, .ref aQN, .ref aQL, .ref aQU, .int (nI cnt2)])), (aQF, .inl (cyI, 20, .inl (fun j_ => nI (F2 j_)))), (aQT, .inl (cyI, 20, .inl (fun j_ => nI (T2 j_)))), (aQN, .inl (cyI, 20, .inl nm2)), (aQL, .inl (cyI, 20, .inl lo2)), (aQU, .inl (cyI, 20, .inl up2)), (aL, .inr (3, [.ref aQ, .int (nI n), .int (nI pl), .int (nI row), .int (nI (if dgB c dg 3 = true then dg + 1 else dg)), .int (nI (if dgB c dg 3 = true then sz * 10 + c - 48 else sz)), .int (bI ng)]))] H := hP
  have hD : va_D A [(aQ, .inr (1, [.ref aQF, .ref aQT, .ref aQN, .ref aQL, .ref aQU, .int (nI cnt2)])), (aQF, .inl (cyI, 20, .inl (fun j_ => nI (F2 j_)))), (aQT, .inl (cyI, 20, .inl (fun j_ => nI (T2 j_)))), (aQN, .inl (cyI, 20, .inl nm2)), (aQL, .inl (cyI, 20, .inl lo2)), (aQU, .inl (cyI, 20, .inl up2)), (aL, .inr (3, [.ref aQ, .int (nI n), .int (nI pl), .int (nI row), .int (nI (if dgB c dg 3 = true then dg + 1 else dg)), .int (nI (if dgB c dg 3 = true then sz * 10 + c - 48 else sz)), .int (bI ng)]))] := hD
  refine lv_if_eq (tgt := 27) hx hb dX3_takeInUpper_6 (by decide) (fun c6 => ?_) (fun c6 => ?_)
  · have c6 : (dgB c dg 3) = false := bI_0 c6
    have q5 : (if dgB c dg 3 = true then dg + 1 else dg) = dg := by rw [c6]; rfl
    rw [q5] at hP hD
    have q6 : (if dgB c dg 3 = true then sz * 10 + c - 48 else sz) = sz := by rw [c6]; rfl
    rw [q6] at hP hD
    have hP : va_P (dC, dI) vwCl [(aQ, .inr (1, [.ref aQF, .ref aQT, .ref aQN, .ref aQL, .ref aQU, .int (nI cnt2)])), (aQF, .inl (cyI, 20, .inl (fun j_ => nI (F2 j_)))), (aQT, .inl (cyI, 20, .inl (fun j_ => nI (T2 j_)))), (aQN, .inl (cyI, 20, .inl nm2)), (aQL, .inl (cyI, 20, .inl lo2)), (aQU, .inl (cyI, 20, .inl up2)), (aL, .inr (3, [.ref aQ, .int (nI n), .int (nI pl), .int (nI row), .int (nI dg), .int (nI sz), .int (bI ng)]))] H := hP
    have hD : va_D A [(aQ, .inr (1, [.ref aQF, .ref aQT, .ref aQN, .ref aQL, .ref aQU, .int (nI cnt2)])), (aQF, .inl (cyI, 20, .inl (fun j_ => nI (F2 j_)))), (aQT, .inl (cyI, 20, .inl (fun j_ => nI (T2 j_)))), (aQN, .inl (cyI, 20, .inl nm2)), (aQL, .inl (cyI, 20, .inl lo2)), (aQU, .inl (cyI, 20, .inl up2)), (aL, .inr (3, [.ref aQ, .int (nI n), .int (nI pl), .int (nI row), .int (nI dg), .int (nI sz), .int (bI ng)]))] := hD
    refine lv_aload_n hx hb dX3_takeInUpper_27 rfl (lv_at hl 0 rfl) ?_
    refine va_get (D := (dC, dI)) (ci := 3) (v := .int (nI dg)) (C := RX3) (T := TX3) (N := 7) hx hb hts iX3 hown hK hP 6 rfl rfl 4 (by decide) w0 (fun _ h9 => h9) rfl dX3_takeInUpper_28 ?_
    refine lv_if_le (tgt := 64) hx hb dX3_takeInUpper_31 (by decide) (fun c31 => ?_) (fun c31 => ?_)
    · have c31 := n_le (a := dg) (b := 0) (by omega) (by omega) c31
      have hz : tkU (pl, row, dg, sz, ng, cnt2, F2, T2, nm2, lo2, up2) c = none := by simp only [tkU]; rw [if_neg (by rw [c6]; exact Bool.false_ne_true), if_neg (by omega)]
      refine lv_iconst (v := 0) hx hb dX3_takeInUpper_64 (by decide) ?_
      have r7 : 0 = (bI ((tkU (pl, row, dg, sz, ng, cnt2, F2, T2, nm2, lo2, up2) c).isSome)) := by rw [hz]; rfl
      have hP9 : va_P (dC, dI) vwCl [(aL, .inr (3, [.ref aQ, .int (nI n), .int (nI pl), .int (nI row), .int (nI dg), .int (nI sz), .int (bI ng)])), (aQ, .inr (1, [.ref aQF, .ref aQT, .ref aQN, .ref aQL, .ref aQU, .int (nI cnt2)])), (aQF, .inl (cyI, 20, .inl (fun j_ => nI (F2 j_)))), (aQT, .inl (cyI, 20, .inl (fun j_ => nI (T2 j_)))), (aQN, .inl (cyI, 20, .inl nm2)), (aQL, .inl (cyI, 20, .inl lo2)), (aQU, .inl (cyI, 20, .inl up2))] H := by exact hP.sub [6, 0, 1, 2, 3, 4, 5] rfl
      have hD9 : va_D A [(aL, .inr (3, [.ref aQ, .int (nI n), .int (nI pl), .int (nI row), .int (nI dg), .int (nI sz), .int (bI ng)])), (aQ, .inr (1, [.ref aQF, .ref aQT, .ref aQN, .ref aQL, .ref aQU, .int (nI cnt2)])), (aQF, .inl (cyI, 20, .inl (fun j_ => nI (F2 j_)))), (aQT, .inl (cyI, 20, .inl (fun j_ => nI (T2 j_)))), (aQN, .inl (cyI, 20, .inl nm2)), (aQL, .inl (cyI, 20, .inl lo2)), (aQU, .inl (cyI, 20, .inl up2))] := by exact hD.sub [6, 0, 1, 2, 3, 4, 5] (by decide) rfl
      have p8 : tkU (pl, row, dg, sz, ng, cnt2, F2, T2, nm2, lo2, up2) c = none ∨ tkU (pl, row, dg, sz, ng, cnt2, F2, T2, nm2, lo2, up2) c = some (pl, row, dg, sz, ng, cnt2, F2, T2, nm2, lo2, up2) := by first | exact Or.inl hz | exact Or.inr hz
      subst hAe
      subst hQe
      exact W.zret (v := 0) hx hb hr rfl (fun t ht hW => ⟨⟨_, (), rfl, r7, pl, row, dg, sz, ng, cnt2, F2, T2, nm2, lo2, up2, p8, by rw [ht]; exact hP9, va_K.moved hW.alike hK, hD9⟩, hS.F ht⟩) hS.2.2 dX3_takeInUpper_65
    · have c31 := n_nle (a := dg) (b := 0) (by omega) (by omega) c31
      refine lv_aload_n hx hb dX3_takeInUpper_34 rfl (lv_at hl 0 rfl) ?_
      refine va_get (D := (dC, dI)) (ci := 3) (v := .ref aQ) (C := RX3) (T := TX3) (N := 7) hx hb hts iX3 hown hK hP 6 rfl rfl 0 (by decide) w1 (fun _ h9 => h9) rfl dX3_takeInUpper_35 ?_
      refine lv_aload_n hx hb dX3_takeInUpper_38 rfl (lv_at hl 0 rfl) ?_
      refine va_get (D := (dC, dI)) (ci := 3) (v := .int (nI row)) (C := RX3) (T := TX3) (N := 7) hx hb hts iX3 hown hK hP 6 rfl rfl 3 (by decide) w2 (fun _ h9 => h9) rfl dX3_takeInUpper_39 ?_
      have g9 : row < 20 := by first | assumption | omega | exact vp_in_nI (by omega) (by omega)
      have hPc := hP.sub (ws' := [(aQ, .inr (1, [.ref aQF, .ref aQT, .ref aQN, .ref aQL, .ref aQU, .int (nI cnt2)])), (aQL, .inl (cyI, 20, .inl lo2)), (aQU, .inl (cyI, 20, .inl up2))]) [0, 4, 5] rfl
      have hDc := hD.sub (ws' := [(aQ, .inr (1, [.ref aQF, .ref aQT, .ref aQN, .ref aQL, .ref aQU, .int (nI cnt2)])), (aQL, .inl (cyI, 20, .inl lo2)), (aQU, .inl (cyI, 20, .inl up2))]) [0, 4, 5] (by decide) rfl
      have hFc := va_free (wc := [(aQ, .inr (1, [.ref aQF, .ref aQT, .ref aQN, .ref aQL, .ref aQU, .int (nI cnt2)])), (aQL, .inl (cyI, 20, .inl lo2)), (aQU, .inl (cyI, 20, .inl up2))]) hD hS hA [0, 4, 5] rfl
      refine va_calli (va_runV (As := [.int (nI row)]) (rest := []) ⟨hx, hb, hml, hown, hts⟩ (c_X1_width l dC dI cyI cyZ cyJ cyD aQ aQF aQT aQN aQL aQU H.size lo2 up2 cnt2 row g9) (cwV 1 hts gX3_takeInUpper_X1_width rfl rfl rfl (by decide +kernel) ⟨Nat.le_of_ble_eq_true rfl, Nat.le_of_ble_eq_true rfl⟩) ⟨fun a U g mk q => by obtain ⟨q0, q1, qP, qK, qD⟩ := q; exact ⟨q0, q1, qP, va_K.moved (u := U) (U := U.calling g mk a) (Vm.Alike.refl U.vm) qK, qD⟩, va_recv hK hPc (ci := 1) (q0 := 0) rfl rfl, fun U hU hW => ⟨rfl, by rw [hU], by rw [hU]; exact hPc, va_K.moved hW.alike hK, hDc.weaken (fun _ _ _ _ => trivial)⟩⟩ rfl rfl hl.1 rfl (lv_room (Nat.le_of_ble_eq_true rfl)) dX3_takeInUpper_42 ⟨Nat.le_of_ble_eq_true rfl, Nat.le_of_ble_eq_true rfl⟩) hS (fun q _ h => hFc q h) hFc (fun r u t H1 locs ht hvm hw hB hz1 hk1 hS => ?_)
      obtain rfl := hw
      obtain ⟨hP1, hK1, hD1⟩ := hB
      rw [ht] at hP1
      obtain ⟨hP, hD⟩ := va_join (wr := [(aQF, .inl (cyI, 20, .inl (fun j_ => nI (F2 j_)))), (aQT, .inl (cyI, 20, .inl (fun j_ => nI (T2 j_)))), (aQN, .inl (cyI, 20, .inl nm2)), (aL, .inr (3, [.ref aQ, .int (nI n), .int (nI pl), .int (nI row), .int (nI dg), .int (nI sz), .int (bI ng)]))]) (w1 := [(aQ, .inr (1, [.ref aQF, .ref aQT, .ref aQN, .ref aQL, .ref aQU, .int (nI cnt2)])), (aQL, .inl (cyI, 20, .inl lo2)), (aQU, .inl (cyI, 20, .inl up2))]) hP hD [0, 4, 5] [1, 2, 3, 6] rfl rfl (by decide) (by decide) hk1 hFc hP1 hD1
      clear hP1 hD1 hK1 hPc hDc hFc hk1 hz1 hvm ht u t
      generalize H1 = H at hP hS ⊢
      have hP : va_P (dC, dI) vwCl [(aQF, .inl (cyI, 20, .inl (fun j_ => nI (F2 j_)))), (aQT, .inl (cyI, 20, .inl (fun j_ => nI (T2 j_)))), (aQN, .inl (cyI, 20, .inl nm2)), (aL, .inr (3, [.ref aQ, .int (nI n), .int (nI pl), .int (nI row), .int (nI dg), .int (nI sz), .int (bI ng)])), (aQ, .inr (1, [.ref aQF, .ref aQT, .ref aQN, .ref aQL, .ref aQU, .int (nI cnt2)])), (aQL, .inl (cyI, 20, .inl lo2)), (aQU, .inl (cyI, 20, .inl up2))] H := hP
      have hD : va_D A [(aQF, .inl (cyI, 20, .inl (fun j_ => nI (F2 j_)))), (aQT, .inl (cyI, 20, .inl (fun j_ => nI (T2 j_)))), (aQN, .inl (cyI, 20, .inl nm2)), (aL, .inr (3, [.ref aQ, .int (nI n), .int (nI pl), .int (nI row), .int (nI dg), .int (nI sz), .int (bI ng)])), (aQ, .inr (1, [.ref aQF, .ref aQT, .ref aQN, .ref aQL, .ref aQU, .int (nI cnt2)])), (aQL, .inl (cyI, 20, .inl lo2)), (aQU, .inl (cyI, 20, .inl up2))] := hD
      refine lv_if_lt (tgt := 64) hx hb dX3_takeInUpper_45 (by decide) (fun c45 => ?_) (fun c45 => ?_)
      · have hz : tkU (pl, row, dg, sz, ng, cnt2, F2, T2, nm2, lo2, up2) c = none := by simp only [tkU]; rw [if_neg (by rw [c6]; exact Bool.false_ne_true), if_neg (fun q => q.2.1 c45)]
        refine lv_iconst (v := 0) hx hb dX3_takeInUpper_64 (by decide) ?_
        have r10 : 0 = (bI ((tkU (pl, row, dg, sz, ng, cnt2, F2, T2, nm2, lo2, up2) c).isSome)) := by rw [hz]; rfl
        have hP9 : va_P (dC, dI) vwCl [(aL, .inr (3, [.ref aQ, .int (nI n), .int (nI pl), .int (nI row), .int (nI dg), .int (nI sz), .int (bI ng)])), (aQ, .inr (1, [.ref aQF, .ref aQT, .ref aQN, .ref aQL, .ref aQU, .int (nI cnt2)])), (aQF, .inl (cyI, 20, .inl (fun j_ => nI (F2 j_)))), (aQT, .inl (cyI, 20, .inl (fun j_ => nI (T2 j_)))), (aQN, .inl (cyI, 20, .inl nm2)), (aQL, .inl (cyI, 20, .inl lo2)), (aQU, .inl (cyI, 20, .inl up2))] H := by exact hP.sub [3, 4, 0, 1, 2, 5, 6] rfl
        have hD9 : va_D A [(aL, .inr (3, [.ref aQ, .int (nI n), .int (nI pl), .int (nI row), .int (nI dg), .int (nI sz), .int (bI ng)])), (aQ, .inr (1, [.ref aQF, .ref aQT, .ref aQN, .ref aQL, .ref aQU, .int (nI cnt2)])), (aQF, .inl (cyI, 20, .inl (fun j_ => nI (F2 j_)))), (aQT, .inl (cyI, 20, .inl (fun j_ => nI (T2 j_)))), (aQN, .inl (cyI, 20, .inl nm2)), (aQL, .inl (cyI, 20, .inl lo2)), (aQU, .inl (cyI, 20, .inl up2))] := by exact hD.sub [3, 4, 0, 1, 2, 5, 6] (by decide) rfl
        have p11 : tkU (pl, row, dg, sz, ng, cnt2, F2, T2, nm2, lo2, up2) c = none ∨ tkU (pl, row, dg, sz, ng, cnt2, F2, T2, nm2, lo2, up2) c = some (pl, row, dg, sz, ng, cnt2, F2, T2, nm2, lo2, up2) := by first | exact Or.inl hz | exact Or.inr hz
        subst hAe
        subst hQe
        exact W.zret (v := 0) hx hb hr rfl (fun t ht hW => ⟨⟨_, (), rfl, r10, pl, row, dg, sz, ng, cnt2, F2, T2, nm2, lo2, up2, p11, by rw [ht]; exact hP9, va_K.moved hW.alike hK, hD9⟩, hS.F ht⟩) hS.2.2 dX3_takeInUpper_65
      · skip
        refine lv_aload_n hx hb dX3_takeInUpper_48 rfl (lv_at hl 0 rfl) ?_
        refine lv_iload_n hx hb dX3_takeInUpper_49 rfl (lv_at hl 1 rfl) ?_
        refine lv_bipush (v := 93) hx hb dX3_takeInUpper_50 (by decide) ?_
        refine lv_bipush (v := 9) hx hb dX3_takeInUpper_52 (by decide) ?_
        have g12 : c < 128 := by first | assumption | omega | exact vp_in_nI (by omega) (by omega)
        have g13 : 93 < 128 := by first | assumption | omega | exact vp_in_nI (by omega) (by omega)
        have hPc := hP.sub (ws' := [(aL, .inr (3, [.ref aQ, .int (nI n), .int (nI pl), .int (nI row), .int (nI dg), .int (nI sz), .int (bI ng)]))]) [3] rfl
        have hDc := hD.sub (ws' := [(aL, .inr (3, [.ref aQ, .int (nI n), .int (nI pl), .int (nI row), .int (nI dg), .int (nI sz), .int (bI ng)]))]) [3] (by decide) rfl
        have hFc := va_free (wc := [(aL, .inr (3, [.ref aQ, .int (nI n), .int (nI pl), .int (nI row), .int (nI dg), .int (nI sz), .int (bI ng)]))]) hD hS hA [3] rfl
        refine va_calli (va_runV (As := [.int (nI c), .int 93, .int 9]) (rest := []) ⟨hx, hb, hml, hown, hts⟩ (c_X3_takeSign l dC dI cyI cyZ cyJ cyD aL aQ H.size n pl row dg sz ng c 93 9 g12 g13) (cwV 3 hts gX3_takeInUpper_X3_takeSign rfl rfl rfl (by decide +kernel) ⟨Nat.le_of_ble_eq_true rfl, Nat.le_of_ble_eq_true rfl⟩) ⟨fun a U g mk q => by obtain ⟨q0, q1, qP, qK, qD⟩ := q; exact ⟨q0, q1, qP, va_K.moved (u := U) (U := U.calling g mk a) (Vm.Alike.refl U.vm) qK, qD⟩, va_recv hK hPc (ci := 3) (q0 := 0) rfl rfl, fun U hU hW => ⟨rfl, by rw [hU], by rw [hU]; exact hPc, va_K.moved hW.alike hK, hDc.weaken (fun _ _ _ _ => trivial)⟩⟩ rfl rfl hl.1 rfl (lv_room (Nat.le_of_ble_eq_true rfl)) dX3_takeInUpper_54 ⟨Nat.le_of_ble_eq_true rfl, Nat.le_of_ble_eq_true rfl⟩) hS (fun q _ h => hFc q h) hFc (fun r u t H1 locs ht hvm hw hB hz1 hk1 hS => ?_)
        obtain rfl := hw
        obtain ⟨hP1, hK1, hD1⟩ := hB
        rw [ht] at hP1
        obtain ⟨hP, hD⟩ := va_join (wr := [(aQF, .inl (cyI, 20, .inl (fun j_ => nI (F2 j_)))), (aQT, .inl (cyI, 20, .inl (fun j_ => nI (T2 j_)))), (aQN, .inl (cyI, 20, .inl nm2)), (aQ, .inr (1, [.ref aQF, .ref aQT, .ref aQN, .ref aQL, .ref aQU, .int (nI cnt2)])), (aQL, .inl (cyI, 20, .inl lo2)), (aQU, .inl (cyI, 20, .inl up2))]) (w1 := [(aL, .inr (3, [.ref aQ, .int (nI n), .int (nI (if c = 93 then 9 else pl)), .int (nI row), .int (nI dg), .int (nI sz), .int (bI ng)]))]) hP hD [3] [0, 1, 2, 4, 5, 6] rfl rfl (by decide) (by decide) hk1 hFc hP1 hD1
        clear hP1 hD1 hK1 hPc hDc hFc hk1 hz1 hvm ht u t
        generalize H1 = H at hP hS ⊢
        have hP : va_P (dC, dI) vwCl [(aQF, .inl (cyI, 20, .inl (fun j_ => nI (F2 j_)))), (aQT, .inl (cyI, 20, .inl (fun j_ => nI (T2 j_)))), (aQN, .inl (cyI, 20, .inl nm2)), (aQ, .inr (1, [.ref aQF, .ref aQT, .ref aQN, .ref aQL, .ref aQU, .int (nI cnt2)])), (aQL, .inl (cyI, 20, .inl lo2)), (aQU, .inl (cyI, 20, .inl up2)), (aL, .inr (3, [.ref aQ, .int (nI n), .int (nI (if c = 93 then 9 else pl)), .int (nI row), .int (nI dg), .int (nI sz), .int (bI ng)]))] H := hP
        have hD : va_D A [(aQF, .inl (cyI, 20, .inl (fun j_ => nI (F2 j_)))), (aQT, .inl (cyI, 20, .inl (fun j_ => nI (T2 j_)))), (aQN, .inl (cyI, 20, .inl nm2)), (aQ, .inr (1, [.ref aQF, .ref aQT, .ref aQN, .ref aQL, .ref aQU, .int (nI cnt2)])), (aQL, .inl (cyI, 20, .inl lo2)), (aQU, .inl (cyI, 20, .inl up2)), (aL, .inr (3, [.ref aQ, .int (nI n), .int (nI (if c = 93 then 9 else pl)), .int (nI row), .int (nI dg), .int (nI sz), .int (bI ng)]))] := hD
        refine lv_if_eq (tgt := 64) hx hb dX3_takeInUpper_57 (by decide) (fun c57 => ?_) (fun c57 => ?_)
        · have c57 : (decide (c = 93)) = false := bI_0 c57
          have c57 := of_decide_eq_false c57
          have hz : tkU (pl, row, dg, sz, ng, cnt2, F2, T2, nm2, lo2, up2) c = none := by simp only [tkU]; rw [if_neg (by rw [c6]; exact Bool.false_ne_true), if_neg (fun q => c57 q.2.2)]
          have q14 : (if c = 93 then 9 else pl) = pl := by rw [if_neg c57]
          rw [q14] at hP hD
          have hP : va_P (dC, dI) vwCl [(aQF, .inl (cyI, 20, .inl (fun j_ => nI (F2 j_)))), (aQT, .inl (cyI, 20, .inl (fun j_ => nI (T2 j_)))), (aQN, .inl (cyI, 20, .inl nm2)), (aQ, .inr (1, [.ref aQF, .ref aQT, .ref aQN, .ref aQL, .ref aQU, .int (nI cnt2)])), (aQL, .inl (cyI, 20, .inl lo2)), (aQU, .inl (cyI, 20, .inl up2)), (aL, .inr (3, [.ref aQ, .int (nI n), .int (nI pl), .int (nI row), .int (nI dg), .int (nI sz), .int (bI ng)]))] H := hP
          have hD : va_D A [(aQF, .inl (cyI, 20, .inl (fun j_ => nI (F2 j_)))), (aQT, .inl (cyI, 20, .inl (fun j_ => nI (T2 j_)))), (aQN, .inl (cyI, 20, .inl nm2)), (aQ, .inr (1, [.ref aQF, .ref aQT, .ref aQN, .ref aQL, .ref aQU, .int (nI cnt2)])), (aQL, .inl (cyI, 20, .inl lo2)), (aQU, .inl (cyI, 20, .inl up2)), (aL, .inr (3, [.ref aQ, .int (nI n), .int (nI pl), .int (nI row), .int (nI dg), .int (nI sz), .int (bI ng)]))] := hD
          refine lv_iconst (v := 0) hx hb dX3_takeInUpper_64 (by decide) ?_
          have r15 : 0 = (bI ((tkU (pl, row, dg, sz, ng, cnt2, F2, T2, nm2, lo2, up2) c).isSome)) := by rw [hz]; rfl
          have hP9 : va_P (dC, dI) vwCl [(aL, .inr (3, [.ref aQ, .int (nI n), .int (nI pl), .int (nI row), .int (nI dg), .int (nI sz), .int (bI ng)])), (aQ, .inr (1, [.ref aQF, .ref aQT, .ref aQN, .ref aQL, .ref aQU, .int (nI cnt2)])), (aQF, .inl (cyI, 20, .inl (fun j_ => nI (F2 j_)))), (aQT, .inl (cyI, 20, .inl (fun j_ => nI (T2 j_)))), (aQN, .inl (cyI, 20, .inl nm2)), (aQL, .inl (cyI, 20, .inl lo2)), (aQU, .inl (cyI, 20, .inl up2))] H := by exact hP.sub [6, 3, 0, 1, 2, 4, 5] rfl
          have hD9 : va_D A [(aL, .inr (3, [.ref aQ, .int (nI n), .int (nI pl), .int (nI row), .int (nI dg), .int (nI sz), .int (bI ng)])), (aQ, .inr (1, [.ref aQF, .ref aQT, .ref aQN, .ref aQL, .ref aQU, .int (nI cnt2)])), (aQF, .inl (cyI, 20, .inl (fun j_ => nI (F2 j_)))), (aQT, .inl (cyI, 20, .inl (fun j_ => nI (T2 j_)))), (aQN, .inl (cyI, 20, .inl nm2)), (aQL, .inl (cyI, 20, .inl lo2)), (aQU, .inl (cyI, 20, .inl up2))] := by exact hD.sub [6, 3, 0, 1, 2, 4, 5] (by decide) rfl
          have p16 : tkU (pl, row, dg, sz, ng, cnt2, F2, T2, nm2, lo2, up2) c = none ∨ tkU (pl, row, dg, sz, ng, cnt2, F2, T2, nm2, lo2, up2) c = some (pl, row, dg, sz, ng, cnt2, F2, T2, nm2, lo2, up2) := by first | exact Or.inl hz | exact Or.inr hz
          subst hAe
          subst hQe
          exact W.zret (v := 0) hx hb hr rfl (fun t ht hW => ⟨⟨_, (), rfl, r15, pl, row, dg, sz, ng, cnt2, F2, T2, nm2, lo2, up2, p16, by rw [ht]; exact hP9, va_K.moved hW.alike hK, hD9⟩, hS.F ht⟩) hS.2.2 dX3_takeInUpper_65
        · have c57 : (decide (c = 93)) = true := bI_n0 c57
          have c57 := of_decide_eq_true c57
          have hz : tkU (pl, row, dg, sz, ng, cnt2, F2, T2, nm2, lo2, up2) c = some (9, row, dg, sz, ng, cnt2, F2, T2, nm2, lo2, up2) := by simp only [tkU]; rw [if_neg (by rw [c6]; exact Bool.false_ne_true), if_pos ⟨c31, c45, c57⟩]
          have q17 : (if c = 93 then 9 else pl) = 9 := by rw [if_pos c57]
          rw [q17] at hP hD
          have hP : va_P (dC, dI) vwCl [(aQF, .inl (cyI, 20, .inl (fun j_ => nI (F2 j_)))), (aQT, .inl (cyI, 20, .inl (fun j_ => nI (T2 j_)))), (aQN, .inl (cyI, 20, .inl nm2)), (aQ, .inr (1, [.ref aQF, .ref aQT, .ref aQN, .ref aQL, .ref aQU, .int (nI cnt2)])), (aQL, .inl (cyI, 20, .inl lo2)), (aQU, .inl (cyI, 20, .inl up2)), (aL, .inr (3, [.ref aQ, .int (nI n), .int (nI 9), .int (nI row), .int (nI dg), .int (nI sz), .int (bI ng)]))] H := hP
          have hD : va_D A [(aQF, .inl (cyI, 20, .inl (fun j_ => nI (F2 j_)))), (aQT, .inl (cyI, 20, .inl (fun j_ => nI (T2 j_)))), (aQN, .inl (cyI, 20, .inl nm2)), (aQ, .inr (1, [.ref aQF, .ref aQT, .ref aQN, .ref aQL, .ref aQU, .int (nI cnt2)])), (aQL, .inl (cyI, 20, .inl lo2)), (aQU, .inl (cyI, 20, .inl up2)), (aL, .inr (3, [.ref aQ, .int (nI n), .int (nI 9), .int (nI row), .int (nI dg), .int (nI sz), .int (bI ng)]))] := hD
          refine lv_iconst (v := 1) hx hb dX3_takeInUpper_60 (by decide) ?_
          refine lv_goto (tgt := 65) hx hb dX3_takeInUpper_61 (by decide) ?_
          have r18 : 1 = (bI ((tkU (pl, row, dg, sz, ng, cnt2, F2, T2, nm2, lo2, up2) c).isSome)) := by rw [hz]; rfl
          have hP9 : va_P (dC, dI) vwCl [(aL, .inr (3, [.ref aQ, .int (nI n), .int (nI 9), .int (nI row), .int (nI dg), .int (nI sz), .int (bI ng)])), (aQ, .inr (1, [.ref aQF, .ref aQT, .ref aQN, .ref aQL, .ref aQU, .int (nI cnt2)])), (aQF, .inl (cyI, 20, .inl (fun j_ => nI (F2 j_)))), (aQT, .inl (cyI, 20, .inl (fun j_ => nI (T2 j_)))), (aQN, .inl (cyI, 20, .inl nm2)), (aQL, .inl (cyI, 20, .inl lo2)), (aQU, .inl (cyI, 20, .inl up2))] H := by exact hP.sub [6, 3, 0, 1, 2, 4, 5] rfl
          have hD9 : va_D A [(aL, .inr (3, [.ref aQ, .int (nI n), .int (nI 9), .int (nI row), .int (nI dg), .int (nI sz), .int (bI ng)])), (aQ, .inr (1, [.ref aQF, .ref aQT, .ref aQN, .ref aQL, .ref aQU, .int (nI cnt2)])), (aQF, .inl (cyI, 20, .inl (fun j_ => nI (F2 j_)))), (aQT, .inl (cyI, 20, .inl (fun j_ => nI (T2 j_)))), (aQN, .inl (cyI, 20, .inl nm2)), (aQL, .inl (cyI, 20, .inl lo2)), (aQU, .inl (cyI, 20, .inl up2))] := by exact hD.sub [6, 3, 0, 1, 2, 4, 5] (by decide) rfl
          have p19 : tkU (pl, row, dg, sz, ng, cnt2, F2, T2, nm2, lo2, up2) c = none ∨ tkU (pl, row, dg, sz, ng, cnt2, F2, T2, nm2, lo2, up2) c = some (9, row, dg, sz, ng, cnt2, F2, T2, nm2, lo2, up2) := by first | exact Or.inl hz | exact Or.inr hz
          subst hAe
          subst hQe
          exact W.zret (v := 1) hx hb hr rfl (fun t ht hW => ⟨⟨_, (), rfl, r18, 9, row, dg, sz, ng, cnt2, F2, T2, nm2, lo2, up2, p19, by rw [ht]; exact hP9, va_K.moved hW.alike hK, hD9⟩, hS.F ht⟩) hS.2.2 dX3_takeInUpper_65
  · have c6 : (dgB c dg 3) = true := bI_n0 c6
    have hz : tkU (pl, row, dg, sz, ng, cnt2, F2, T2, nm2, lo2, up2) c = some (pl, row, dg + 1, sz * 10 + c - 48, ng, cnt2, F2, T2, nm2, lo2, upd up2 row (numV ng (sz * 10 + c - 48))) := by simp only [tkU]; rw [if_pos c6]
    have q20 : (if dgB c dg 3 = true then dg + 1 else dg) = (dg + 1) := by rw [c6]; rfl
    rw [q20] at hP hD
    have q21 : (if dgB c dg 3 = true then sz * 10 + c - 48 else sz) = (sz * 10 + c - 48) := by rw [c6]; rfl
    rw [q21] at hP hD
    have hP : va_P (dC, dI) vwCl [(aQ, .inr (1, [.ref aQF, .ref aQT, .ref aQN, .ref aQL, .ref aQU, .int (nI cnt2)])), (aQF, .inl (cyI, 20, .inl (fun j_ => nI (F2 j_)))), (aQT, .inl (cyI, 20, .inl (fun j_ => nI (T2 j_)))), (aQN, .inl (cyI, 20, .inl nm2)), (aQL, .inl (cyI, 20, .inl lo2)), (aQU, .inl (cyI, 20, .inl up2)), (aL, .inr (3, [.ref aQ, .int (nI n), .int (nI pl), .int (nI row), .int (nI (dg + 1)), .int (nI (sz * 10 + c - 48)), .int (bI ng)]))] H := hP
    have hD : va_D A [(aQ, .inr (1, [.ref aQF, .ref aQT, .ref aQN, .ref aQL, .ref aQU, .int (nI cnt2)])), (aQF, .inl (cyI, 20, .inl (fun j_ => nI (F2 j_)))), (aQT, .inl (cyI, 20, .inl (fun j_ => nI (T2 j_)))), (aQN, .inl (cyI, 20, .inl nm2)), (aQL, .inl (cyI, 20, .inl lo2)), (aQU, .inl (cyI, 20, .inl up2)), (aL, .inr (3, [.ref aQ, .int (nI n), .int (nI pl), .int (nI row), .int (nI (dg + 1)), .int (nI (sz * 10 + c - 48)), .int (bI ng)]))] := hD
    refine lv_aload_n hx hb dX3_takeInUpper_9 rfl (lv_at hl 0 rfl) ?_
    refine va_get (D := (dC, dI)) (ci := 3) (v := .ref aQ) (C := RX3) (T := TX3) (N := 7) hx hb hts iX3 hown hK hP 6 rfl rfl 0 (by decide) w1 (fun _ h9 => h9) rfl dX3_takeInUpper_10 ?_
    refine va_get (D := (dC, dI)) (ci := 1) (v := .ref aQU) (C := RX1) (T := TX1) (N := 6) hx hb hts iX1 hown hK hP 0 rfl rfl 4 (by decide) w3 (fun _ h9 => h9) rfl dX3_takeInUpper_13 ?_
    refine lv_aload_n hx hb dX3_takeInUpper_16 rfl (lv_at hl 0 rfl) ?_
    refine va_get (D := (dC, dI)) (ci := 3) (v := .int (nI row)) (C := RX3) (T := TX3) (N := 7) hx hb hts iX3 hown hK hP 6 rfl rfl 3 (by decide) w2 (fun _ h9 => h9) rfl dX3_takeInUpper_17 ?_
    refine lv_aload_n hx hb dX3_takeInUpper_20 rfl (lv_at hl 0 rfl) ?_
    have hPc := hP.sub (ws' := [(aL, .inr (3, [.ref aQ, .int (nI n), .int (nI pl), .int (nI row), .int (nI (dg + 1)), .int (nI (sz * 10 + c - 48)), .int (bI ng)]))]) [6] rfl
    have hDc := hD.sub (ws' := [(aL, .inr (3, [.ref aQ, .int (nI n), .int (nI pl), .int (nI row), .int (nI (dg + 1)), .int (nI (sz * 10 + c - 48)), .int (bI ng)]))]) [6] (by decide) rfl
    have hFc := va_free (wc := [(aL, .inr (3, [.ref aQ, .int (nI n), .int (nI pl), .int (nI row), .int (nI (dg + 1)), .int (nI (sz * 10 + c - 48)), .int (bI ng)]))]) hD hS hA [6] rfl
    refine va_calli (va_runV (As := []) (rest := [.int (nI row), .ref aQU]) ⟨hx, hb, hml, hown, hts⟩ (c_X3_number l dC dI cyI cyZ cyJ cyD aL aQ H.size n pl row (dg + 1) (sz * 10 + c - 48) ng) (cwV 0 hts gX3_takeInUpper_X3_number rfl rfl rfl (by decide +kernel) ⟨Nat.le_of_ble_eq_true rfl, Nat.le_of_ble_eq_true rfl⟩) ⟨fun a U g mk q => by obtain ⟨q0, q1, qP, qK, qD⟩ := q; exact ⟨q0, q1, qP, va_K.moved (u := U) (U := U.calling g mk a) (Vm.Alike.refl U.vm) qK, qD⟩, va_recv hK hPc (ci := 3) (q0 := 0) rfl rfl, fun U hU hW => ⟨rfl, by rw [hU], by rw [hU]; exact hPc, va_K.moved hW.alike hK, hDc.weaken (fun _ _ _ _ => trivial)⟩⟩ rfl rfl hl.1 rfl (lv_room (Nat.le_of_ble_eq_true rfl)) dX3_takeInUpper_21 ⟨Nat.le_of_ble_eq_true rfl, Nat.le_of_ble_eq_true rfl⟩) hS (fun q _ h => hFc q h) hFc (fun r u t H1 locs ht hvm hw hB hz1 hk1 hS => ?_)
    obtain rfl := hw
    obtain ⟨hP1, hK1, hD1⟩ := hB
    rw [ht] at hP1
    obtain ⟨hP, hD⟩ := va_join (wr := [(aQ, .inr (1, [.ref aQF, .ref aQT, .ref aQN, .ref aQL, .ref aQU, .int (nI cnt2)])), (aQF, .inl (cyI, 20, .inl (fun j_ => nI (F2 j_)))), (aQT, .inl (cyI, 20, .inl (fun j_ => nI (T2 j_)))), (aQN, .inl (cyI, 20, .inl nm2)), (aQL, .inl (cyI, 20, .inl lo2)), (aQU, .inl (cyI, 20, .inl up2))]) (w1 := [(aL, .inr (3, [.ref aQ, .int (nI n), .int (nI pl), .int (nI row), .int (nI (dg + 1)), .int (nI (sz * 10 + c - 48)), .int (bI ng)]))]) hP hD [6] [0, 1, 2, 3, 4, 5] rfl rfl (by decide) (by decide) hk1 hFc hP1 hD1
    clear hP1 hD1 hK1 hPc hDc hFc hk1 hz1 hvm ht u t
    generalize H1 = H at hP hS ⊢
    have hP : va_P (dC, dI) vwCl [(aQ, .inr (1, [.ref aQF, .ref aQT, .ref aQN, .ref aQL, .ref aQU, .int (nI cnt2)])), (aQF, .inl (cyI, 20, .inl (fun j_ => nI (F2 j_)))), (aQT, .inl (cyI, 20, .inl (fun j_ => nI (T2 j_)))), (aQN, .inl (cyI, 20, .inl nm2)), (aQL, .inl (cyI, 20, .inl lo2)), (aQU, .inl (cyI, 20, .inl up2)), (aL, .inr (3, [.ref aQ, .int (nI n), .int (nI pl), .int (nI row), .int (nI (dg + 1)), .int (nI (sz * 10 + c - 48)), .int (bI ng)]))] H := hP
    have hD : va_D A [(aQ, .inr (1, [.ref aQF, .ref aQT, .ref aQN, .ref aQL, .ref aQU, .int (nI cnt2)])), (aQF, .inl (cyI, 20, .inl (fun j_ => nI (F2 j_)))), (aQT, .inl (cyI, 20, .inl (fun j_ => nI (T2 j_)))), (aQN, .inl (cyI, 20, .inl nm2)), (aQL, .inl (cyI, 20, .inl lo2)), (aQU, .inl (cyI, 20, .inl up2)), (aL, .inr (3, [.ref aQ, .int (nI n), .int (nI pl), .int (nI row), .int (nI (dg + 1)), .int (nI (sz * 10 + c - 48)), .int (bI ng)]))] := hD
    have h22 : vp_in (nI row) 20 := by first | exact vp_in_nI (by omega) (by omega) | assumption
    refine va_iast hx hb hK hP hD hS 5 0 rfl rfl h22 dX3_takeInUpper_24 (fun H locs hP hD hS => ?_)
    rw [nI_clamp (by omega)] at hP hD
    have hP : va_P (dC, dI) vwCl [(aQ, .inr (1, [.ref aQF, .ref aQT, .ref aQN, .ref aQL, .ref aQU, .int (nI cnt2)])), (aQF, .inl (cyI, 20, .inl (fun j_ => nI (F2 j_)))), (aQT, .inl (cyI, 20, .inl (fun j_ => nI (T2 j_)))), (aQN, .inl (cyI, 20, .inl nm2)), (aQL, .inl (cyI, 20, .inl lo2)), (aQU, .inl (cyI, 20, .inl (upd up2 row (numV ng (sz * 10 + c - 48))))), (aL, .inr (3, [.ref aQ, .int (nI n), .int (nI pl), .int (nI row), .int (nI (dg + 1)), .int (nI (sz * 10 + c - 48)), .int (bI ng)]))] H := hP
    have hD : va_D A [(aQ, .inr (1, [.ref aQF, .ref aQT, .ref aQN, .ref aQL, .ref aQU, .int (nI cnt2)])), (aQF, .inl (cyI, 20, .inl (fun j_ => nI (F2 j_)))), (aQT, .inl (cyI, 20, .inl (fun j_ => nI (T2 j_)))), (aQN, .inl (cyI, 20, .inl nm2)), (aQL, .inl (cyI, 20, .inl lo2)), (aQU, .inl (cyI, 20, .inl (upd up2 row (numV ng (sz * 10 + c - 48))))), (aL, .inr (3, [.ref aQ, .int (nI n), .int (nI pl), .int (nI row), .int (nI (dg + 1)), .int (nI (sz * 10 + c - 48)), .int (bI ng)]))] := hD
    refine lv_iconst (v := 1) hx hb dX3_takeInUpper_25 (by decide) ?_
    have r23 : 1 = (bI ((tkU (pl, row, dg, sz, ng, cnt2, F2, T2, nm2, lo2, up2) c).isSome)) := by rw [hz]; rfl
    have hP9 : va_P (dC, dI) vwCl [(aL, .inr (3, [.ref aQ, .int (nI n), .int (nI pl), .int (nI row), .int (nI (dg + 1)), .int (nI (sz * 10 + c - 48)), .int (bI ng)])), (aQ, .inr (1, [.ref aQF, .ref aQT, .ref aQN, .ref aQL, .ref aQU, .int (nI cnt2)])), (aQF, .inl (cyI, 20, .inl (fun j_ => nI (F2 j_)))), (aQT, .inl (cyI, 20, .inl (fun j_ => nI (T2 j_)))), (aQN, .inl (cyI, 20, .inl nm2)), (aQL, .inl (cyI, 20, .inl lo2)), (aQU, .inl (cyI, 20, .inl (upd up2 row (numV ng (sz * 10 + c - 48)))))] H := by exact hP.sub [6, 0, 1, 2, 3, 4, 5] rfl
    have hD9 : va_D A [(aL, .inr (3, [.ref aQ, .int (nI n), .int (nI pl), .int (nI row), .int (nI (dg + 1)), .int (nI (sz * 10 + c - 48)), .int (bI ng)])), (aQ, .inr (1, [.ref aQF, .ref aQT, .ref aQN, .ref aQL, .ref aQU, .int (nI cnt2)])), (aQF, .inl (cyI, 20, .inl (fun j_ => nI (F2 j_)))), (aQT, .inl (cyI, 20, .inl (fun j_ => nI (T2 j_)))), (aQN, .inl (cyI, 20, .inl nm2)), (aQL, .inl (cyI, 20, .inl lo2)), (aQU, .inl (cyI, 20, .inl (upd up2 row (numV ng (sz * 10 + c - 48)))))] := by exact hD.sub [6, 0, 1, 2, 3, 4, 5] (by decide) rfl
    have p24 : tkU (pl, row, dg, sz, ng, cnt2, F2, T2, nm2, lo2, up2) c = none ∨ tkU (pl, row, dg, sz, ng, cnt2, F2, T2, nm2, lo2, up2) c = some (pl, row, (dg + 1), (sz * 10 + c - 48), ng, cnt2, F2, T2, nm2, lo2, (upd up2 row (numV ng (sz * 10 + c - 48)))) := by first | exact Or.inl hz | exact Or.inr hz
    subst hAe
    subst hQe
    exact W.zret (v := 1) hx hb hr rfl (fun t ht hW => ⟨⟨_, (), rfl, r23, pl, row, (dg + 1), (sz * 10 + c - 48), ng, cnt2, F2, T2, nm2, lo2, (upd up2 row (numV ng (sz * 10 + c - 48))), p24, by rw [ht]; exact hP9, va_K.moved hW.alike hK, hD9⟩, hS.F ht⟩) hS.2.2 dX3_takeInUpper_26
set_option maxHeartbeats 4000000 in
set_option maxRecDepth 100000 in
theorem c_X3_takeDeviationSign (l : Launch) (dC : Nat → ClassId) (dI : Nat → Nat → Nat) (cyI cyZ cyJ cyD : ClassId) (aL aQ aQF aQT aQN aQL aQU : Nat) (zH : Nat) (n : Nat) (pl : Nat) (row : Nat) (dg : Nat) (sz : Nat) (ng : Bool) (F2 : Nat → Nat) (T2 : Nat → Nat) (nm2 : Nat → Int32) (lo2 : Nat → Int32) (up2 : Nat → Int32) (cnt2 : Nat) (c : Nat) (nx : Nat) (hc : c < 128) : Met l yX3_takeDeviationSign wsX3_takeDeviationSign ({ frames := 1, cells := 0, slots := 0, locals := 22 } : Room) (va_Pc [.ref aL, .int (nI c), .int (nI nx)] (fun U => U.heap.size = zH ∧ va_P (dC, dI) vwCl [(aL, .inr (3, [.ref aQ, .int (nI n), .int (nI pl), .int (nI row), .int (nI dg), .int (nI sz), .int (bI ng)])), (aQ, .inr (1, [.ref aQF, .ref aQT, .ref aQN, .ref aQL, .ref aQU, .int (nI cnt2)])), (aQF, .inl (cyI, 20, .inl (fun j_ => nI (F2 j_)))), (aQT, .inl (cyI, 20, .inl (fun j_ => nI (T2 j_)))), (aQN, .inl (cyI, 20, .inl nm2)), (aQL, .inl (cyI, 20, .inl lo2)), (aQU, .inl (cyI, 20, .inl up2))] U.heap ∧ va_K (dC, dI) vwCl [(cyI, .int), (cyZ, .boolean), (cyJ, .long), (cyD, .double)] U ∧ va_D (fun _ => True) [(aL, .inr (3, [.ref aQ, .int (nI n), .int (nI pl), .int (nI row), .int (nI dg), .int (nI sz), .int (bI ng)])), (aQ, .inr (1, [.ref aQF, .ref aQT, .ref aQN, .ref aQL, .ref aQU, .int (nI cnt2)])), (aQF, .inl (cyI, 20, .inl (fun j_ => nI (F2 j_)))), (aQT, .inl (cyI, 20, .inl (fun j_ => nI (T2 j_)))), (aQN, .inl (cyI, 20, .inl nm2)), (aQL, .inl (cyI, 20, .inl lo2)), (aQU, .inl (cyI, 20, .inl up2))])) (va_Qi (fun (r : Int32) (_ : Unit) => r = bI ((tkD nx (pl, row, dg, sz, ng, cnt2, F2, T2, nm2, lo2, up2) c).isSome)) (fun _ t => ∃ (pl3 : Nat), ∃ (row3 : Nat), ∃ (dg3 : Nat), ∃ (sz3 : Nat), ∃ (ng3 : Bool), ∃ (cnt3 : Nat), ∃ (F3 : Nat → Nat), ∃ (T3 : Nat → Nat), ∃ (nm3 : Nat → Int32), ∃ (lo3 : Nat → Int32), ∃ (up3 : Nat → Int32), (tkD nx (pl, row, dg, sz, ng, cnt2, F2, T2, nm2, lo2, up2) c = none ∨ tkD nx (pl, row, dg, sz, ng, cnt2, F2, T2, nm2, lo2, up2) c = some (pl3, row3, dg3, sz3, ng3, cnt3, F3, T3, nm3, lo3, up3)) ∧ va_P (dC, dI) vwCl [(aL, .inr (3, [.ref aQ, .int (nI n), .int (nI pl3), .int (nI row3), .int (nI dg3), .int (nI sz3), .int (bI ng3)])), (aQ, .inr (1, [.ref aQF, .ref aQT, .ref aQN, .ref aQL, .ref aQU, .int (nI cnt3)])), (aQF, .inl (cyI, 20, .inl (fun j_ => nI (F3 j_)))), (aQT, .inl (cyI, 20, .inl (fun j_ => nI (T3 j_)))), (aQN, .inl (cyI, 20, .inl nm3)), (aQL, .inl (cyI, 20, .inl lo3)), (aQU, .inl (cyI, 20, .inl up3))] t.heap ∧ va_K (dC, dI) vwCl [(cyI, .int), (cyZ, .boolean), (cyJ, .long), (cyD, .double)] t ∧ va_D (va_A [(aL, .inr (3, [.ref aQ, .int (nI n), .int (nI pl), .int (nI row), .int (nI dg), .int (nI sz), .int (bI ng)])), (aQ, .inr (1, [.ref aQF, .ref aQT, .ref aQN, .ref aQL, .ref aQU, .int (nI cnt2)])), (aQF, .inl (cyI, 20, .inl (fun j_ => nI (F2 j_)))), (aQT, .inl (cyI, 20, .inl (fun j_ => nI (T2 j_)))), (aQN, .inl (cyI, 20, .inl nm2)), (aQL, .inl (cyI, 20, .inl lo2)), (aQU, .inl (cyI, 20, .inl up2))] zH) [(aL, .inr (3, [.ref aQ, .int (nI n), .int (nI pl3), .int (nI row3), .int (nI dg3), .int (nI sz3), .int (bI ng3)])), (aQ, .inr (1, [.ref aQF, .ref aQT, .ref aQN, .ref aQL, .ref aQU, .int (nI cnt3)])), (aQF, .inl (cyI, 20, .inl (fun j_ => nI (F3 j_)))), (aQT, .inl (cyI, 20, .inl (fun j_ => nI (T3 j_)))), (aQN, .inl (cyI, 20, .inl nm3)), (aQL, .inl (cyI, 20, .inl lo3)), (aQU, .inl (cyI, 20, .inl up3))]) (va_A [(aL, .inr (3, [.ref aQ, .int (nI n), .int (nI pl), .int (nI row), .int (nI dg), .int (nI sz), .int (bI ng)])), (aQ, .inr (1, [.ref aQF, .ref aQT, .ref aQN, .ref aQL, .ref aQU, .int (nI cnt2)])), (aQF, .inl (cyI, 20, .inl (fun j_ => nI (F2 j_)))), (aQT, .inl (cyI, 20, .inl (fun j_ => nI (T2 j_)))), (aQN, .inl (cyI, 20, .inl nm2)), (aQL, .inl (cyI, 20, .inl lo2)), (aQU, .inl (cyI, 20, .inl up2))] zH)) 0 0 (va_A [(aL, .inr (3, [.ref aQ, .int (nI n), .int (nI pl), .int (nI row), .int (nI dg), .int (nI sz), .int (bI ng)])), (aQ, .inr (1, [.ref aQF, .ref aQT, .ref aQN, .ref aQL, .ref aQU, .int (nI cnt2)])), (aQF, .inl (cyI, 20, .inl (fun j_ => nI (F2 j_)))), (aQT, .inl (cyI, 20, .inl (fun j_ => nI (T2 j_)))), (aQN, .inl (cyI, 20, .inl nm2)), (aQL, .inl (cyI, 20, .inl lo2)), (aQU, .inl (cyI, 20, .inl up2))] zH) := by
  refine Met.ofW (cc := cX3_takeDeviationSign) (maxL := 3) (ret := (some .boolean)) (by decide) rfl ?_
  intro pM eM s mM args blM mtM cM s₁ BM hml hv
  obtain ⟨rfl, hsz, hP, hK, hD0⟩ := hv
  have hx := BM.exec
  have hb := BM.bytes
  have hr := BM.returns
  have hts := atoms_spec (ws := wsX3_takeDeviationSign) BM.pre
  have hown : s.vm.findClass RX3 = some mM.cls := findClass_of_methodNamed BM.named
  have hlocks := BM.notSynchronized
  subst hsz
  have hD := hD0.self (sz := s.heap.size)
  obtain ⟨Q, hQe⟩ : ∃ Q : State → Prop, Q = MQ blM (va_Qi (fun (r : Int32) (_ : Unit) => r = bI ((tkD nx (pl, row, dg, sz, ng, cnt2, F2, T2, nm2, lo2, up2) c).isSome)) (fun _ t => ∃ (pl3 : Nat), ∃ (row3 : Nat), ∃ (dg3 : Nat), ∃ (sz3 : Nat), ∃ (ng3 : Bool), ∃ (cnt3 : Nat), ∃ (F3 : Nat → Nat), ∃ (T3 : Nat → Nat), ∃ (nm3 : Nat → Int32), ∃ (lo3 : Nat → Int32), ∃ (up3 : Nat → Int32), (tkD nx (pl, row, dg, sz, ng, cnt2, F2, T2, nm2, lo2, up2) c = none ∨ tkD nx (pl, row, dg, sz, ng, cnt2, F2, T2, nm2, lo2, up2) c = some (pl3, row3, dg3, sz3, ng3, cnt3, F3, T3, nm3, lo3, up3)) ∧ va_P (dC, dI) vwCl [(aL, .inr (3, [.ref aQ, .int (nI n), .int (nI pl3), .int (nI row3), .int (nI dg3), .int (nI sz3), .int (bI ng3)])), (aQ, .inr (1, [.ref aQF, .ref aQT, .ref aQN, .ref aQL, .ref aQU, .int (nI cnt3)])), (aQF, .inl (cyI, 20, .inl (fun j_ => nI (F3 j_)))), (aQT, .inl (cyI, 20, .inl (fun j_ => nI (T3 j_)))), (aQN, .inl (cyI, 20, .inl nm3)), (aQL, .inl (cyI, 20, .inl lo3)), (aQU, .inl (cyI, 20, .inl up3))] t.heap ∧ va_K (dC, dI) vwCl [(cyI, .int), (cyZ, .boolean), (cyJ, .long), (cyD, .double)] t ∧ va_D (va_A [(aL, .inr (3, [.ref aQ, .int (nI n), .int (nI pl), .int (nI row), .int (nI dg), .int (nI sz), .int (bI ng)])), (aQ, .inr (1, [.ref aQF, .ref aQT, .ref aQN, .ref aQL, .ref aQU, .int (nI cnt2)])), (aQF, .inl (cyI, 20, .inl (fun j_ => nI (F2 j_)))), (aQT, .inl (cyI, 20, .inl (fun j_ => nI (T2 j_)))), (aQN, .inl (cyI, 20, .inl nm2)), (aQL, .inl (cyI, 20, .inl lo2)), (aQU, .inl (cyI, 20, .inl up2))] s.heap.size) [(aL, .inr (3, [.ref aQ, .int (nI n), .int (nI pl3), .int (nI row3), .int (nI dg3), .int (nI sz3), .int (bI ng3)])), (aQ, .inr (1, [.ref aQF, .ref aQT, .ref aQN, .ref aQL, .ref aQU, .int (nI cnt3)])), (aQF, .inl (cyI, 20, .inl (fun j_ => nI (F3 j_)))), (aQT, .inl (cyI, 20, .inl (fun j_ => nI (T3 j_)))), (aQN, .inl (cyI, 20, .inl nm3)), (aQL, .inl (cyI, 20, .inl lo3)), (aQU, .inl (cyI, 20, .inl up3))]) (va_A [(aL, .inr (3, [.ref aQ, .int (nI n), .int (nI pl), .int (nI row), .int (nI dg), .int (nI sz), .int (bI ng)])), (aQ, .inr (1, [.ref aQF, .ref aQT, .ref aQN, .ref aQL, .ref aQU, .int (nI cnt2)])), (aQF, .inl (cyI, 20, .inl (fun j_ => nI (F2 j_)))), (aQT, .inl (cyI, 20, .inl (fun j_ => nI (T2 j_)))), (aQN, .inl (cyI, 20, .inl nm2)), (aQL, .inl (cyI, 20, .inl lo2)), (aQU, .inl (cyI, 20, .inl up2))] s.heap.size)) ([.ref aL, .int (nI c), .int (nI nx)] : List Value).toArray s 0 0 (va_A [(aL, .inr (3, [.ref aQ, .int (nI n), .int (nI pl), .int (nI row), .int (nI dg), .int (nI sz), .int (bI ng)])), (aQ, .inr (1, [.ref aQF, .ref aQT, .ref aQN, .ref aQL, .ref aQU, .int (nI cnt2)])), (aQF, .inl (cyI, 20, .inl (fun j_ => nI (F2 j_)))), (aQT, .inl (cyI, 20, .inl (fun j_ => nI (T2 j_)))), (aQN, .inl (cyI, 20, .inl nm2)), (aQL, .inl (cyI, 20, .inl lo2)), (aQU, .inl (cyI, 20, .inl up2))] s.heap.size) := ⟨_, rfl⟩
  rw [← hQe]
  generalize hAe : va_A [(aL, .inr (3, [.ref aQ, .int (nI n), .int (nI pl), .int (nI row), .int (nI dg), .int (nI sz), .int (bI ng)])), (aQ, .inr (1, [.ref aQF, .ref aQT, .ref aQN, .ref aQL, .ref aQU, .int (nI cnt2)])), (aQF, .inl (cyI, 20, .inl (fun j_ => nI (F2 j_)))), (aQT, .inl (cyI, 20, .inl (fun j_ => nI (T2 j_)))), (aQN, .inl (cyI, 20, .inl nm2)), (aQL, .inl (cyI, 20, .inl lo2)), (aQU, .inl (cyI, 20, .inl up2))] s.heap.size = A at hD hQe
  have hA : ∀ q : Nat, s.heap.size ≤ q → A q := fun q h => by rw [← hAe]; exact Or.inr h
  obtain ⟨H, hHe⟩ : ∃ H : Heap, H = s.heap := ⟨_, rfl⟩
  have hS : va_S A s.heap H [] := by rw [hHe]; exact va_S.rf
  rw [← hHe] at hP ⊢
  have hl := lv_entry ([.ref aL, .int (nI c), .int (nI nx)]) (n := 3) (Nat.le_of_ble_eq_true rfl)
  rw [lg_entry_eq]
  generalize (lg_sl ([.ref aL, .int (nI c), .int (nI nx)]) ++ List.replicate (3 - (lg_sl ([.ref aL, .int (nI c), .int (nI nx)])).length) Slot.unset).toArray = ls at hl ⊢
  have hl : lv_has ls 3 [(0, .ref aL), (1, .int (nI c)), (2, .int (nI nx))] := hl
  refine lv_iload_n hx hb dX3_takeDeviationSign_0 rfl (lv_at hl 1 rfl) ?_
  refine lv_bipush (v := 43) hx hb dX3_takeDeviationSign_1 (by decide) ?_
  refine lv_icmp_eq (tgt := 14) hx hb dX3_takeDeviationSign_3 (by decide) (fun c3 => ?_) (fun c3 => ?_)
  · have c3 := n_eq (a := c) (b := 43) (by omega) (by omega) c3
    refine lv_aload_n hx hb dX3_takeDeviationSign_14 rfl (lv_at hl 0 rfl) ?_
    refine lv_iload_n hx hb dX3_takeDeviationSign_15 rfl (lv_at hl 1 rfl) ?_
    refine lv_bipush (v := 45) hx hb dX3_takeDeviationSign_16 (by decide) ?_
    have k26 : ∀ (b8 : Bool) (hb8 : b8 = decide (c = 45)) (H : Heap) (locs : List Loc) (ls : Array Slot), va_P (dC, dI) vwCl [(aL, .inr (3, [.ref aQ, .int (nI n), .int (nI pl), .int (nI row), .int (nI dg), .int (nI sz), .int (bI ng)])), (aQ, .inr (1, [.ref aQF, .ref aQT, .ref aQN, .ref aQL, .ref aQU, .int (nI cnt2)])), (aQF, .inl (cyI, 20, .inl (fun j_ => nI (F2 j_)))), (aQT, .inl (cyI, 20, .inl (fun j_ => nI (T2 j_)))), (aQN, .inl (cyI, 20, .inl nm2)), (aQL, .inl (cyI, 20, .inl lo2)), (aQU, .inl (cyI, 20, .inl up2))] H → va_D A [(aL, .inr (3, [.ref aQ, .int (nI n), .int (nI pl), .int (nI row), .int (nI dg), .int (nI sz), .int (bI ng)])), (aQ, .inr (1, [.ref aQF, .ref aQT, .ref aQN, .ref aQL, .ref aQU, .int (nI cnt2)])), (aQF, .inl (cyI, 20, .inl (fun j_ => nI (F2 j_)))), (aQT, .inl (cyI, 20, .inl (fun j_ => nI (T2 j_)))), (aQN, .inl (cyI, 20, .inl nm2)), (aQL, .inl (cyI, 20, .inl lo2)), (aQU, .inl (cyI, 20, .inl up2))] → va_S A s.heap H locs → lv_has ls 3 [(0, .ref aL), (1, .int (nI c)), (2, .int (nI nx))] → W pM l eM (headSpec wsX3_takeDeviationSign ({ frames := 1, cells := 0, slots := 0, locals := 22 } : Room)).room s mM ([.ref aL, .int (nI c), .int (nI nx)] : List Value).toArray blM mtM cM H locs 0 0 Q (F0 mM 26 ls [.int (bI b8), .ref aL]) := by
      intro b8 hb8 H locs ls hP hD hS hl
      have hz : tkD nx (pl, row, dg, sz, ng, cnt2, F2, T2, nm2, lo2, up2) c = some (nx, row, 0, 0, b8, cnt2, F2, T2, nm2, lo2, up2) := by simp only [tkD]; rw [if_pos (by omega), hb8]
      refine lv_iload_n hx hb dX3_takeDeviationSign_26 rfl (lv_at hl 2 rfl) ?_
      have hPc := hP.sub (ws' := [(aL, .inr (3, [.ref aQ, .int (nI n), .int (nI pl), .int (nI row), .int (nI dg), .int (nI sz), .int (bI ng)]))]) [0] rfl
      have hDc := hD.sub (ws' := [(aL, .inr (3, [.ref aQ, .int (nI n), .int (nI pl), .int (nI row), .int (nI dg), .int (nI sz), .int (bI ng)]))]) [0] (by decide) rfl
      have hFc := va_free (wc := [(aL, .inr (3, [.ref aQ, .int (nI n), .int (nI pl), .int (nI row), .int (nI dg), .int (nI sz), .int (bI ng)]))]) hD hS hA [0] rfl
      refine va_callv (va_runV (As := [.int (bI b8), .int (nI nx)]) (rest := []) ⟨hx, hb, hml, hown, hts⟩ (c_X3_beginNumber l dC dI cyI cyZ cyJ cyD aL aQ H.size n pl row dg sz ng b8 nx) (cwV 2 hts gX3_takeDeviationSign_X3_beginNumber rfl rfl rfl (by decide +kernel) ⟨Nat.le_of_ble_eq_true rfl, Nat.le_of_ble_eq_true rfl⟩) ⟨fun a U g mk q => by obtain ⟨q0, q1, qP, qK, qD⟩ := q; exact ⟨q0, q1, qP, va_K.moved (u := U) (U := U.calling g mk a) (Vm.Alike.refl U.vm) qK, qD⟩, va_recv hK hPc (ci := 3) (q0 := 0) rfl rfl, fun U hU hW => ⟨rfl, by rw [hU], by rw [hU]; exact hPc, va_K.moved hW.alike hK, hDc.weaken (fun _ _ _ _ => trivial)⟩⟩ rfl rfl hl.1 rfl (lv_room (Nat.le_of_ble_eq_true rfl)) dX3_takeDeviationSign_27 ⟨Nat.le_of_ble_eq_true rfl, Nat.le_of_ble_eq_true rfl⟩) hS (fun q _ h => hFc q h) hFc (fun  u t H1 locs ht hvm hw hB hz1 hk1 hS => ?_)
      obtain ⟨hP1, hK1, hD1⟩ := hB
      rw [ht] at hP1
      obtain ⟨hP, hD⟩ := va_join (wr := [(aQ, .inr (1, [.ref aQF, .ref aQT, .ref aQN, .ref aQL, .ref aQU, .int (nI cnt2)])), (aQF, .inl (cyI, 20, .inl (fun j_ => nI (F2 j_)))), (aQT, .inl (cyI, 20, .inl (fun j_ => nI (T2 j_)))), (aQN, .inl (cyI, 20, .inl nm2)), (aQL, .inl (cyI, 20, .inl lo2)), (aQU, .inl (cyI, 20, .inl up2))]) (w1 := [(aL, .inr (3, [.ref aQ, .int (nI n), .int (nI nx), .int (nI row), .int (nI 0), .int (nI 0), .int (bI b8)]))]) hP hD [0] [1, 2, 3, 4, 5, 6] rfl rfl (by decide) (by decide) hk1 hFc hP1 hD1
      clear hP1 hD1 hK1 hPc hDc hFc hk1 hz1 hvm ht u t
      generalize H1 = H at hP hS ⊢
      have hP : va_P (dC, dI) vwCl [(aQ, .inr (1, [.ref aQF, .ref aQT, .ref aQN, .ref aQL, .ref aQU, .int (nI cnt2)])), (aQF, .inl (cyI, 20, .inl (fun j_ => nI (F2 j_)))), (aQT, .inl (cyI, 20, .inl (fun j_ => nI (T2 j_)))), (aQN, .inl (cyI, 20, .inl nm2)), (aQL, .inl (cyI, 20, .inl lo2)), (aQU, .inl (cyI, 20, .inl up2)), (aL, .inr (3, [.ref aQ, .int (nI n), .int (nI nx), .int (nI row), .int (nI 0), .int (nI 0), .int (bI b8)]))] H := hP
      have hD : va_D A [(aQ, .inr (1, [.ref aQF, .ref aQT, .ref aQN, .ref aQL, .ref aQU, .int (nI cnt2)])), (aQF, .inl (cyI, 20, .inl (fun j_ => nI (F2 j_)))), (aQT, .inl (cyI, 20, .inl (fun j_ => nI (T2 j_)))), (aQN, .inl (cyI, 20, .inl nm2)), (aQL, .inl (cyI, 20, .inl lo2)), (aQU, .inl (cyI, 20, .inl up2)), (aL, .inr (3, [.ref aQ, .int (nI n), .int (nI nx), .int (nI row), .int (nI 0), .int (nI 0), .int (bI b8)]))] := hD
      refine lv_iconst (v := 1) hx hb dX3_takeDeviationSign_30 (by decide) ?_
      have r1 : 1 = (bI ((tkD nx (pl, row, dg, sz, ng, cnt2, F2, T2, nm2, lo2, up2) c).isSome)) := by rw [hz]; rfl
      have hP9 : va_P (dC, dI) vwCl [(aL, .inr (3, [.ref aQ, .int (nI n), .int (nI nx), .int (nI row), .int (nI 0), .int (nI 0), .int (bI b8)])), (aQ, .inr (1, [.ref aQF, .ref aQT, .ref aQN, .ref aQL, .ref aQU, .int (nI cnt2)])), (aQF, .inl (cyI, 20, .inl (fun j_ => nI (F2 j_)))), (aQT, .inl (cyI, 20, .inl (fun j_ => nI (T2 j_)))), (aQN, .inl (cyI, 20, .inl nm2)), (aQL, .inl (cyI, 20, .inl lo2)), (aQU, .inl (cyI, 20, .inl up2))] H := by exact hP.sub [6, 0, 1, 2, 3, 4, 5] rfl
      have hD9 : va_D A [(aL, .inr (3, [.ref aQ, .int (nI n), .int (nI nx), .int (nI row), .int (nI 0), .int (nI 0), .int (bI b8)])), (aQ, .inr (1, [.ref aQF, .ref aQT, .ref aQN, .ref aQL, .ref aQU, .int (nI cnt2)])), (aQF, .inl (cyI, 20, .inl (fun j_ => nI (F2 j_)))), (aQT, .inl (cyI, 20, .inl (fun j_ => nI (T2 j_)))), (aQN, .inl (cyI, 20, .inl nm2)), (aQL, .inl (cyI, 20, .inl lo2)), (aQU, .inl (cyI, 20, .inl up2))] := by exact hD.sub [6, 0, 1, 2, 3, 4, 5] (by decide) rfl
      have p2 : tkD nx (pl, row, dg, sz, ng, cnt2, F2, T2, nm2, lo2, up2) c = none ∨ tkD nx (pl, row, dg, sz, ng, cnt2, F2, T2, nm2, lo2, up2) c = some (nx, row, 0, 0, b8, cnt2, F2, T2, nm2, lo2, up2) := by first | exact Or.inl hz | exact Or.inr hz
      subst hAe
      subst hQe
      exact W.zret (v := 1) hx hb hr rfl (fun t ht hW => ⟨⟨_, (), rfl, r1, nx, row, 0, 0, b8, cnt2, F2, T2, nm2, lo2, up2, p2, by rw [ht]; exact hP9, va_K.moved hW.alike hK, hD9⟩, hS.F ht⟩) hS.2.2 dX3_takeDeviationSign_31
    refine lv_icmp_ne (tgt := 25) hx hb dX3_takeDeviationSign_18 (by decide) (fun c18 => ?_) (fun c18 => ?_)
    · have c18 := n_ne (a := c) (b := 45) (by omega) (by omega) c18
      refine lv_iconst (v := 0) hx hb dX3_takeDeviationSign_25 (by decide) ?_
      have q3 : (bI (decide (c = 45))) = 0 := by simp [c18, bI]
      refine W.eq (g2 := F0 mM 26 ls [.int (bI (decide (c = 45))), .ref aL]) (by rw [q3]) ?_
      exact k26 (decide (c = 45)) (by rfl) _ _ _ (hP) (hD) hS (lv_sub hl [0, 1, 2] rfl)
    · have c18 := n_eq (a := c) (b := 45) (by omega) (by omega) c18
      refine lv_iconst (v := 1) hx hb dX3_takeDeviationSign_21 (by decide) ?_
      refine lv_goto (tgt := 26) hx hb dX3_takeDeviationSign_22 (by decide) ?_
      have q4 : (bI (decide (c = 45))) = 1 := by simp [c18, bI]
      refine W.eq (g2 := F0 mM 26 ls [.int (bI (decide (c = 45))), .ref aL]) (by rw [q4]) ?_
      exact k26 (decide (c = 45)) (by rfl) _ _ _ (hP) (hD) hS (lv_sub hl [0, 1, 2] rfl)
  · have c3 := n_ne (a := c) (b := 43) (by omega) (by omega) c3
    refine lv_iload_n hx hb dX3_takeDeviationSign_6 rfl (lv_at hl 1 rfl) ?_
    refine lv_bipush (v := 45) hx hb dX3_takeDeviationSign_7 (by decide) ?_
    refine lv_icmp_eq (tgt := 14) hx hb dX3_takeDeviationSign_9 (by decide) (fun c9 => ?_) (fun c9 => ?_)
    · have c9 := n_eq (a := c) (b := 45) (by omega) (by omega) c9
      refine lv_aload_n hx hb dX3_takeDeviationSign_14 rfl (lv_at hl 0 rfl) ?_
      refine lv_iload_n hx hb dX3_takeDeviationSign_15 rfl (lv_at hl 1 rfl) ?_
      refine lv_bipush (v := 45) hx hb dX3_takeDeviationSign_16 (by decide) ?_
      have k26 : ∀ (b8 : Bool) (hb8 : b8 = decide (c = 45)) (H : Heap) (locs : List Loc) (ls : Array Slot), va_P (dC, dI) vwCl [(aL, .inr (3, [.ref aQ, .int (nI n), .int (nI pl), .int (nI row), .int (nI dg), .int (nI sz), .int (bI ng)])), (aQ, .inr (1, [.ref aQF, .ref aQT, .ref aQN, .ref aQL, .ref aQU, .int (nI cnt2)])), (aQF, .inl (cyI, 20, .inl (fun j_ => nI (F2 j_)))), (aQT, .inl (cyI, 20, .inl (fun j_ => nI (T2 j_)))), (aQN, .inl (cyI, 20, .inl nm2)), (aQL, .inl (cyI, 20, .inl lo2)), (aQU, .inl (cyI, 20, .inl up2))] H → va_D A [(aL, .inr (3, [.ref aQ, .int (nI n), .int (nI pl), .int (nI row), .int (nI dg), .int (nI sz), .int (bI ng)])), (aQ, .inr (1, [.ref aQF, .ref aQT, .ref aQN, .ref aQL, .ref aQU, .int (nI cnt2)])), (aQF, .inl (cyI, 20, .inl (fun j_ => nI (F2 j_)))), (aQT, .inl (cyI, 20, .inl (fun j_ => nI (T2 j_)))), (aQN, .inl (cyI, 20, .inl nm2)), (aQL, .inl (cyI, 20, .inl lo2)), (aQU, .inl (cyI, 20, .inl up2))] → va_S A s.heap H locs → lv_has ls 3 [(0, .ref aL), (1, .int (nI c)), (2, .int (nI nx))] → W pM l eM (headSpec wsX3_takeDeviationSign ({ frames := 1, cells := 0, slots := 0, locals := 22 } : Room)).room s mM ([.ref aL, .int (nI c), .int (nI nx)] : List Value).toArray blM mtM cM H locs 0 0 Q (F0 mM 26 ls [.int (bI b8), .ref aL]) := by
        intro b8 hb8 H locs ls hP hD hS hl
        have hz : tkD nx (pl, row, dg, sz, ng, cnt2, F2, T2, nm2, lo2, up2) c = some (nx, row, 0, 0, b8, cnt2, F2, T2, nm2, lo2, up2) := by simp only [tkD]; rw [if_pos (by omega), hb8]
        refine lv_iload_n hx hb dX3_takeDeviationSign_26 rfl (lv_at hl 2 rfl) ?_
        have hPc := hP.sub (ws' := [(aL, .inr (3, [.ref aQ, .int (nI n), .int (nI pl), .int (nI row), .int (nI dg), .int (nI sz), .int (bI ng)]))]) [0] rfl
        have hDc := hD.sub (ws' := [(aL, .inr (3, [.ref aQ, .int (nI n), .int (nI pl), .int (nI row), .int (nI dg), .int (nI sz), .int (bI ng)]))]) [0] (by decide) rfl
        have hFc := va_free (wc := [(aL, .inr (3, [.ref aQ, .int (nI n), .int (nI pl), .int (nI row), .int (nI dg), .int (nI sz), .int (bI ng)]))]) hD hS hA [0] rfl
        refine va_callv (va_runV (As := [.int (bI b8), .int (nI nx)]) (rest := []) ⟨hx, hb, hml, hown, hts⟩ (c_X3_beginNumber l dC dI cyI cyZ cyJ cyD aL aQ H.size n pl row dg sz ng b8 nx) (cwV 2 hts gX3_takeDeviationSign_X3_beginNumber rfl rfl rfl (by decide +kernel) ⟨Nat.le_of_ble_eq_true rfl, Nat.le_of_ble_eq_true rfl⟩) ⟨fun a U g mk q => by obtain ⟨q0, q1, qP, qK, qD⟩ := q; exact ⟨q0, q1, qP, va_K.moved (u := U) (U := U.calling g mk a) (Vm.Alike.refl U.vm) qK, qD⟩, va_recv hK hPc (ci := 3) (q0 := 0) rfl rfl, fun U hU hW => ⟨rfl, by rw [hU], by rw [hU]; exact hPc, va_K.moved hW.alike hK, hDc.weaken (fun _ _ _ _ => trivial)⟩⟩ rfl rfl hl.1 rfl (lv_room (Nat.le_of_ble_eq_true rfl)) dX3_takeDeviationSign_27 ⟨Nat.le_of_ble_eq_true rfl, Nat.le_of_ble_eq_true rfl⟩) hS (fun q _ h => hFc q h) hFc (fun  u t H1 locs ht hvm hw hB hz1 hk1 hS => ?_)
        obtain ⟨hP1, hK1, hD1⟩ := hB
        rw [ht] at hP1
        obtain ⟨hP, hD⟩ := va_join (wr := [(aQ, .inr (1, [.ref aQF, .ref aQT, .ref aQN, .ref aQL, .ref aQU, .int (nI cnt2)])), (aQF, .inl (cyI, 20, .inl (fun j_ => nI (F2 j_)))), (aQT, .inl (cyI, 20, .inl (fun j_ => nI (T2 j_)))), (aQN, .inl (cyI, 20, .inl nm2)), (aQL, .inl (cyI, 20, .inl lo2)), (aQU, .inl (cyI, 20, .inl up2))]) (w1 := [(aL, .inr (3, [.ref aQ, .int (nI n), .int (nI nx), .int (nI row), .int (nI 0), .int (nI 0), .int (bI b8)]))]) hP hD [0] [1, 2, 3, 4, 5, 6] rfl rfl (by decide) (by decide) hk1 hFc hP1 hD1
        clear hP1 hD1 hK1 hPc hDc hFc hk1 hz1 hvm ht u t
        generalize H1 = H at hP hS ⊢
        have hP : va_P (dC, dI) vwCl [(aQ, .inr (1, [.ref aQF, .ref aQT, .ref aQN, .ref aQL, .ref aQU, .int (nI cnt2)])), (aQF, .inl (cyI, 20, .inl (fun j_ => nI (F2 j_)))), (aQT, .inl (cyI, 20, .inl (fun j_ => nI (T2 j_)))), (aQN, .inl (cyI, 20, .inl nm2)), (aQL, .inl (cyI, 20, .inl lo2)), (aQU, .inl (cyI, 20, .inl up2)), (aL, .inr (3, [.ref aQ, .int (nI n), .int (nI nx), .int (nI row), .int (nI 0), .int (nI 0), .int (bI b8)]))] H := hP
        have hD : va_D A [(aQ, .inr (1, [.ref aQF, .ref aQT, .ref aQN, .ref aQL, .ref aQU, .int (nI cnt2)])), (aQF, .inl (cyI, 20, .inl (fun j_ => nI (F2 j_)))), (aQT, .inl (cyI, 20, .inl (fun j_ => nI (T2 j_)))), (aQN, .inl (cyI, 20, .inl nm2)), (aQL, .inl (cyI, 20, .inl lo2)), (aQU, .inl (cyI, 20, .inl up2)), (aL, .inr (3, [.ref aQ, .int (nI n), .int (nI nx), .int (nI row), .int (nI 0), .int (nI 0), .int (bI b8)]))] := hD
        refine lv_iconst (v := 1) hx hb dX3_takeDeviationSign_30 (by decide) ?_
        have r5 : 1 = (bI ((tkD nx (pl, row, dg, sz, ng, cnt2, F2, T2, nm2, lo2, up2) c).isSome)) := by rw [hz]; rfl
        have hP9 : va_P (dC, dI) vwCl [(aL, .inr (3, [.ref aQ, .int (nI n), .int (nI nx), .int (nI row), .int (nI 0), .int (nI 0), .int (bI b8)])), (aQ, .inr (1, [.ref aQF, .ref aQT, .ref aQN, .ref aQL, .ref aQU, .int (nI cnt2)])), (aQF, .inl (cyI, 20, .inl (fun j_ => nI (F2 j_)))), (aQT, .inl (cyI, 20, .inl (fun j_ => nI (T2 j_)))), (aQN, .inl (cyI, 20, .inl nm2)), (aQL, .inl (cyI, 20, .inl lo2)), (aQU, .inl (cyI, 20, .inl up2))] H := by exact hP.sub [6, 0, 1, 2, 3, 4, 5] rfl
        have hD9 : va_D A [(aL, .inr (3, [.ref aQ, .int (nI n), .int (nI nx), .int (nI row), .int (nI 0), .int (nI 0), .int (bI b8)])), (aQ, .inr (1, [.ref aQF, .ref aQT, .ref aQN, .ref aQL, .ref aQU, .int (nI cnt2)])), (aQF, .inl (cyI, 20, .inl (fun j_ => nI (F2 j_)))), (aQT, .inl (cyI, 20, .inl (fun j_ => nI (T2 j_)))), (aQN, .inl (cyI, 20, .inl nm2)), (aQL, .inl (cyI, 20, .inl lo2)), (aQU, .inl (cyI, 20, .inl up2))] := by exact hD.sub [6, 0, 1, 2, 3, 4, 5] (by decide) rfl
        have p6 : tkD nx (pl, row, dg, sz, ng, cnt2, F2, T2, nm2, lo2, up2) c = none ∨ tkD nx (pl, row, dg, sz, ng, cnt2, F2, T2, nm2, lo2, up2) c = some (nx, row, 0, 0, b8, cnt2, F2, T2, nm2, lo2, up2) := by first | exact Or.inl hz | exact Or.inr hz
        subst hAe
        subst hQe
        exact W.zret (v := 1) hx hb hr rfl (fun t ht hW => ⟨⟨_, (), rfl, r5, nx, row, 0, 0, b8, cnt2, F2, T2, nm2, lo2, up2, p6, by rw [ht]; exact hP9, va_K.moved hW.alike hK, hD9⟩, hS.F ht⟩) hS.2.2 dX3_takeDeviationSign_31
      refine lv_icmp_ne (tgt := 25) hx hb dX3_takeDeviationSign_18 (by decide) (fun c18 => ?_) (fun c18 => ?_)
      · have c18 := n_ne (a := c) (b := 45) (by omega) (by omega) c18
        refine lv_iconst (v := 0) hx hb dX3_takeDeviationSign_25 (by decide) ?_
        have q7 : (bI (decide (c = 45))) = 0 := by simp [c18, bI]
        refine W.eq (g2 := F0 mM 26 ls [.int (bI (decide (c = 45))), .ref aL]) (by rw [q7]) ?_
        exact k26 (decide (c = 45)) (by rfl) _ _ _ (hP) (hD) hS (lv_sub hl [0, 1, 2] rfl)
      · have c18 := n_eq (a := c) (b := 45) (by omega) (by omega) c18
        refine lv_iconst (v := 1) hx hb dX3_takeDeviationSign_21 (by decide) ?_
        refine lv_goto (tgt := 26) hx hb dX3_takeDeviationSign_22 (by decide) ?_
        have q8 : (bI (decide (c = 45))) = 1 := by simp [c18, bI]
        refine W.eq (g2 := F0 mM 26 ls [.int (bI (decide (c = 45))), .ref aL]) (by rw [q8]) ?_
        exact k26 (decide (c = 45)) (by rfl) _ _ _ (hP) (hD) hS (lv_sub hl [0, 1, 2] rfl)
    · have c9 := n_ne (a := c) (b := 45) (by omega) (by omega) c9
      have hz : tkD nx (pl, row, dg, sz, ng, cnt2, F2, T2, nm2, lo2, up2) c = none := by simp only [tkD]; rw [if_neg (by omega)]
      refine lv_iconst (v := 0) hx hb dX3_takeDeviationSign_12 (by decide) ?_
      have r9 : 0 = (bI ((tkD nx (pl, row, dg, sz, ng, cnt2, F2, T2, nm2, lo2, up2) c).isSome)) := by rw [hz]; rfl
      have hP9 : va_P (dC, dI) vwCl [(aL, .inr (3, [.ref aQ, .int (nI n), .int (nI pl), .int (nI row), .int (nI dg), .int (nI sz), .int (bI ng)])), (aQ, .inr (1, [.ref aQF, .ref aQT, .ref aQN, .ref aQL, .ref aQU, .int (nI cnt2)])), (aQF, .inl (cyI, 20, .inl (fun j_ => nI (F2 j_)))), (aQT, .inl (cyI, 20, .inl (fun j_ => nI (T2 j_)))), (aQN, .inl (cyI, 20, .inl nm2)), (aQL, .inl (cyI, 20, .inl lo2)), (aQU, .inl (cyI, 20, .inl up2))] H := by exact hP.sub [0, 1, 2, 3, 4, 5, 6] rfl
      have hD9 : va_D A [(aL, .inr (3, [.ref aQ, .int (nI n), .int (nI pl), .int (nI row), .int (nI dg), .int (nI sz), .int (bI ng)])), (aQ, .inr (1, [.ref aQF, .ref aQT, .ref aQN, .ref aQL, .ref aQU, .int (nI cnt2)])), (aQF, .inl (cyI, 20, .inl (fun j_ => nI (F2 j_)))), (aQT, .inl (cyI, 20, .inl (fun j_ => nI (T2 j_)))), (aQN, .inl (cyI, 20, .inl nm2)), (aQL, .inl (cyI, 20, .inl lo2)), (aQU, .inl (cyI, 20, .inl up2))] := by exact hD.sub [0, 1, 2, 3, 4, 5, 6] (by decide) rfl
      have p10 : tkD nx (pl, row, dg, sz, ng, cnt2, F2, T2, nm2, lo2, up2) c = none ∨ tkD nx (pl, row, dg, sz, ng, cnt2, F2, T2, nm2, lo2, up2) c = some (pl, row, dg, sz, ng, cnt2, F2, T2, nm2, lo2, up2) := by first | exact Or.inl hz | exact Or.inr hz
      subst hAe
      subst hQe
      exact W.zret (v := 0) hx hb hr rfl (fun t ht hW => ⟨⟨_, (), rfl, r9, pl, row, dg, sz, ng, cnt2, F2, T2, nm2, lo2, up2, p10, by rw [ht]; exact hP9, va_K.moved hW.alike hK, hD9⟩, hS.F ht⟩) hS.2.2 dX3_takeDeviationSign_13
set_option maxHeartbeats 4000000 in
set_option maxRecDepth 100000 in
theorem c_X3_takeNominalStart (l : Launch) (dC : Nat → ClassId) (dI : Nat → Nat → Nat) (cyI cyZ cyJ cyD : ClassId) (aL aQ aQF aQT aQN aQL aQU : Nat) (zH : Nat) (n : Nat) (pl : Nat) (row : Nat) (dg : Nat) (sz : Nat) (ng : Bool) (F2 : Nat → Nat) (T2 : Nat → Nat) (nm2 : Nat → Int32) (lo2 : Nat → Int32) (up2 : Nat → Int32) (cnt2 : Nat) (c : Nat) (hc : c < 128) (hk : cnt2 ≤ 20) (hrow : row < 20) : Met l yX3_takeNominalStart wsX3_takeNominalStart ({ frames := 3, cells := 0, slots := 0, locals := 65 } : Room) (va_Pc [.ref aL, .int (nI c)] (fun U => U.heap.size = zH ∧ va_P (dC, dI) vwCl [(aL, .inr (3, [.ref aQ, .int (nI n), .int (nI pl), .int (nI row), .int (nI dg), .int (nI sz), .int (bI ng)])), (aQ, .inr (1, [.ref aQF, .ref aQT, .ref aQN, .ref aQL, .ref aQU, .int (nI cnt2)])), (aQF, .inl (cyI, 20, .inl (fun j_ => nI (F2 j_)))), (aQT, .inl (cyI, 20, .inl (fun j_ => nI (T2 j_)))), (aQN, .inl (cyI, 20, .inl nm2)), (aQL, .inl (cyI, 20, .inl lo2)), (aQU, .inl (cyI, 20, .inl up2))] U.heap ∧ va_K (dC, dI) vwCl [(cyI, .int), (cyZ, .boolean), (cyJ, .long), (cyD, .double)] U ∧ va_D (fun _ => True) [(aL, .inr (3, [.ref aQ, .int (nI n), .int (nI pl), .int (nI row), .int (nI dg), .int (nI sz), .int (bI ng)])), (aQ, .inr (1, [.ref aQF, .ref aQT, .ref aQN, .ref aQL, .ref aQU, .int (nI cnt2)])), (aQF, .inl (cyI, 20, .inl (fun j_ => nI (F2 j_)))), (aQT, .inl (cyI, 20, .inl (fun j_ => nI (T2 j_)))), (aQN, .inl (cyI, 20, .inl nm2)), (aQL, .inl (cyI, 20, .inl lo2)), (aQU, .inl (cyI, 20, .inl up2))])) (va_Qi (fun (r : Int32) (_ : Unit) => r = bI ((tkS (pl, row, dg, sz, ng, cnt2, F2, T2, nm2, lo2, up2) c).isSome)) (fun _ t => ∃ (pl3 : Nat), ∃ (row3 : Nat), ∃ (dg3 : Nat), ∃ (sz3 : Nat), ∃ (ng3 : Bool), ∃ (cnt3 : Nat), ∃ (F3 : Nat → Nat), ∃ (T3 : Nat → Nat), ∃ (nm3 : Nat → Int32), ∃ (lo3 : Nat → Int32), ∃ (up3 : Nat → Int32), (tkS (pl, row, dg, sz, ng, cnt2, F2, T2, nm2, lo2, up2) c = none ∨ tkS (pl, row, dg, sz, ng, cnt2, F2, T2, nm2, lo2, up2) c = some (pl3, row3, dg3, sz3, ng3, cnt3, F3, T3, nm3, lo3, up3)) ∧ va_P (dC, dI) vwCl [(aL, .inr (3, [.ref aQ, .int (nI n), .int (nI pl3), .int (nI row3), .int (nI dg3), .int (nI sz3), .int (bI ng3)])), (aQ, .inr (1, [.ref aQF, .ref aQT, .ref aQN, .ref aQL, .ref aQU, .int (nI cnt3)])), (aQF, .inl (cyI, 20, .inl (fun j_ => nI (F3 j_)))), (aQT, .inl (cyI, 20, .inl (fun j_ => nI (T3 j_)))), (aQN, .inl (cyI, 20, .inl nm3)), (aQL, .inl (cyI, 20, .inl lo3)), (aQU, .inl (cyI, 20, .inl up3))] t.heap ∧ va_K (dC, dI) vwCl [(cyI, .int), (cyZ, .boolean), (cyJ, .long), (cyD, .double)] t ∧ va_D (va_A [(aL, .inr (3, [.ref aQ, .int (nI n), .int (nI pl), .int (nI row), .int (nI dg), .int (nI sz), .int (bI ng)])), (aQ, .inr (1, [.ref aQF, .ref aQT, .ref aQN, .ref aQL, .ref aQU, .int (nI cnt2)])), (aQF, .inl (cyI, 20, .inl (fun j_ => nI (F2 j_)))), (aQT, .inl (cyI, 20, .inl (fun j_ => nI (T2 j_)))), (aQN, .inl (cyI, 20, .inl nm2)), (aQL, .inl (cyI, 20, .inl lo2)), (aQU, .inl (cyI, 20, .inl up2))] zH) [(aL, .inr (3, [.ref aQ, .int (nI n), .int (nI pl3), .int (nI row3), .int (nI dg3), .int (nI sz3), .int (bI ng3)])), (aQ, .inr (1, [.ref aQF, .ref aQT, .ref aQN, .ref aQL, .ref aQU, .int (nI cnt3)])), (aQF, .inl (cyI, 20, .inl (fun j_ => nI (F3 j_)))), (aQT, .inl (cyI, 20, .inl (fun j_ => nI (T3 j_)))), (aQN, .inl (cyI, 20, .inl nm3)), (aQL, .inl (cyI, 20, .inl lo3)), (aQU, .inl (cyI, 20, .inl up3))]) (va_A [(aL, .inr (3, [.ref aQ, .int (nI n), .int (nI pl), .int (nI row), .int (nI dg), .int (nI sz), .int (bI ng)])), (aQ, .inr (1, [.ref aQF, .ref aQT, .ref aQN, .ref aQL, .ref aQU, .int (nI cnt2)])), (aQF, .inl (cyI, 20, .inl (fun j_ => nI (F2 j_)))), (aQT, .inl (cyI, 20, .inl (fun j_ => nI (T2 j_)))), (aQN, .inl (cyI, 20, .inl nm2)), (aQL, .inl (cyI, 20, .inl lo2)), (aQU, .inl (cyI, 20, .inl up2))] zH)) 0 0 (va_A [(aL, .inr (3, [.ref aQ, .int (nI n), .int (nI pl), .int (nI row), .int (nI dg), .int (nI sz), .int (bI ng)])), (aQ, .inr (1, [.ref aQF, .ref aQT, .ref aQN, .ref aQL, .ref aQU, .int (nI cnt2)])), (aQF, .inl (cyI, 20, .inl (fun j_ => nI (F2 j_)))), (aQT, .inl (cyI, 20, .inl (fun j_ => nI (T2 j_)))), (aQN, .inl (cyI, 20, .inl nm2)), (aQL, .inl (cyI, 20, .inl lo2)), (aQU, .inl (cyI, 20, .inl up2))] zH) := by
  refine Met.ofW (cc := cX3_takeNominalStart) (maxL := 2) (ret := (some .boolean)) (by decide) rfl ?_
  intro pM eM s mM args blM mtM cM s₁ BM hml hv
  obtain ⟨rfl, hsz, hP, hK, hD0⟩ := hv
  have hx := BM.exec
  have hb := BM.bytes
  have hr := BM.returns
  have hts := atoms_spec (ws := wsX3_takeNominalStart) BM.pre
  have hown : s.vm.findClass RX3 = some mM.cls := findClass_of_methodNamed BM.named
  have hlocks := BM.notSynchronized
  subst hsz
  have hD := hD0.self (sz := s.heap.size)
  obtain ⟨Q, hQe⟩ : ∃ Q : State → Prop, Q = MQ blM (va_Qi (fun (r : Int32) (_ : Unit) => r = bI ((tkS (pl, row, dg, sz, ng, cnt2, F2, T2, nm2, lo2, up2) c).isSome)) (fun _ t => ∃ (pl3 : Nat), ∃ (row3 : Nat), ∃ (dg3 : Nat), ∃ (sz3 : Nat), ∃ (ng3 : Bool), ∃ (cnt3 : Nat), ∃ (F3 : Nat → Nat), ∃ (T3 : Nat → Nat), ∃ (nm3 : Nat → Int32), ∃ (lo3 : Nat → Int32), ∃ (up3 : Nat → Int32), (tkS (pl, row, dg, sz, ng, cnt2, F2, T2, nm2, lo2, up2) c = none ∨ tkS (pl, row, dg, sz, ng, cnt2, F2, T2, nm2, lo2, up2) c = some (pl3, row3, dg3, sz3, ng3, cnt3, F3, T3, nm3, lo3, up3)) ∧ va_P (dC, dI) vwCl [(aL, .inr (3, [.ref aQ, .int (nI n), .int (nI pl3), .int (nI row3), .int (nI dg3), .int (nI sz3), .int (bI ng3)])), (aQ, .inr (1, [.ref aQF, .ref aQT, .ref aQN, .ref aQL, .ref aQU, .int (nI cnt3)])), (aQF, .inl (cyI, 20, .inl (fun j_ => nI (F3 j_)))), (aQT, .inl (cyI, 20, .inl (fun j_ => nI (T3 j_)))), (aQN, .inl (cyI, 20, .inl nm3)), (aQL, .inl (cyI, 20, .inl lo3)), (aQU, .inl (cyI, 20, .inl up3))] t.heap ∧ va_K (dC, dI) vwCl [(cyI, .int), (cyZ, .boolean), (cyJ, .long), (cyD, .double)] t ∧ va_D (va_A [(aL, .inr (3, [.ref aQ, .int (nI n), .int (nI pl), .int (nI row), .int (nI dg), .int (nI sz), .int (bI ng)])), (aQ, .inr (1, [.ref aQF, .ref aQT, .ref aQN, .ref aQL, .ref aQU, .int (nI cnt2)])), (aQF, .inl (cyI, 20, .inl (fun j_ => nI (F2 j_)))), (aQT, .inl (cyI, 20, .inl (fun j_ => nI (T2 j_)))), (aQN, .inl (cyI, 20, .inl nm2)), (aQL, .inl (cyI, 20, .inl lo2)), (aQU, .inl (cyI, 20, .inl up2))] s.heap.size) [(aL, .inr (3, [.ref aQ, .int (nI n), .int (nI pl3), .int (nI row3), .int (nI dg3), .int (nI sz3), .int (bI ng3)])), (aQ, .inr (1, [.ref aQF, .ref aQT, .ref aQN, .ref aQL, .ref aQU, .int (nI cnt3)])), (aQF, .inl (cyI, 20, .inl (fun j_ => nI (F3 j_)))), (aQT, .inl (cyI, 20, .inl (fun j_ => nI (T3 j_)))), (aQN, .inl (cyI, 20, .inl nm3)), (aQL, .inl (cyI, 20, .inl lo3)), (aQU, .inl (cyI, 20, .inl up3))]) (va_A [(aL, .inr (3, [.ref aQ, .int (nI n), .int (nI pl), .int (nI row), .int (nI dg), .int (nI sz), .int (bI ng)])), (aQ, .inr (1, [.ref aQF, .ref aQT, .ref aQN, .ref aQL, .ref aQU, .int (nI cnt2)])), (aQF, .inl (cyI, 20, .inl (fun j_ => nI (F2 j_)))), (aQT, .inl (cyI, 20, .inl (fun j_ => nI (T2 j_)))), (aQN, .inl (cyI, 20, .inl nm2)), (aQL, .inl (cyI, 20, .inl lo2)), (aQU, .inl (cyI, 20, .inl up2))] s.heap.size)) ([.ref aL, .int (nI c)] : List Value).toArray s 0 0 (va_A [(aL, .inr (3, [.ref aQ, .int (nI n), .int (nI pl), .int (nI row), .int (nI dg), .int (nI sz), .int (bI ng)])), (aQ, .inr (1, [.ref aQF, .ref aQT, .ref aQN, .ref aQL, .ref aQU, .int (nI cnt2)])), (aQF, .inl (cyI, 20, .inl (fun j_ => nI (F2 j_)))), (aQT, .inl (cyI, 20, .inl (fun j_ => nI (T2 j_)))), (aQN, .inl (cyI, 20, .inl nm2)), (aQL, .inl (cyI, 20, .inl lo2)), (aQU, .inl (cyI, 20, .inl up2))] s.heap.size) := ⟨_, rfl⟩
  rw [← hQe]
  generalize hAe : va_A [(aL, .inr (3, [.ref aQ, .int (nI n), .int (nI pl), .int (nI row), .int (nI dg), .int (nI sz), .int (bI ng)])), (aQ, .inr (1, [.ref aQF, .ref aQT, .ref aQN, .ref aQL, .ref aQU, .int (nI cnt2)])), (aQF, .inl (cyI, 20, .inl (fun j_ => nI (F2 j_)))), (aQT, .inl (cyI, 20, .inl (fun j_ => nI (T2 j_)))), (aQN, .inl (cyI, 20, .inl nm2)), (aQL, .inl (cyI, 20, .inl lo2)), (aQU, .inl (cyI, 20, .inl up2))] s.heap.size = A at hD hQe
  have hA : ∀ q : Nat, s.heap.size ≤ q → A q := fun q h => by rw [← hAe]; exact Or.inr h
  obtain ⟨H, hHe⟩ : ∃ H : Heap, H = s.heap := ⟨_, rfl⟩
  have hS : va_S A s.heap H [] := by rw [hHe]; exact va_S.rf
  rw [← hHe] at hP ⊢
  have hl := lv_entry ([.ref aL, .int (nI c)]) (n := 2) (Nat.le_of_ble_eq_true rfl)
  rw [lg_entry_eq]
  generalize (lg_sl ([.ref aL, .int (nI c)]) ++ List.replicate (2 - (lg_sl ([.ref aL, .int (nI c)])).length) Slot.unset).toArray = ls at hl ⊢
  have hl : lv_has ls 2 [(0, .ref aL), (1, .int (nI c))] := hl
  refine lv_aload_n hx hb dX3_takeNominalStart_0 rfl (lv_at hl 0 rfl) ?_
  refine lv_iload_n hx hb dX3_takeNominalStart_1 rfl (lv_at hl 1 rfl) ?_
  refine lv_bipush (v := 45) hx hb dX3_takeNominalStart_2 (by decide) ?_
  have k12 : ∀ (b8 : Bool) (hb8 : b8 = decide (c = 45)) (H : Heap) (locs : List Loc) (ls : Array Slot), va_P (dC, dI) vwCl [(aL, .inr (3, [.ref aQ, .int (nI n), .int (nI pl), .int (nI row), .int (nI dg), .int (nI sz), .int (bI ng)])), (aQ, .inr (1, [.ref aQF, .ref aQT, .ref aQN, .ref aQL, .ref aQU, .int (nI cnt2)])), (aQF, .inl (cyI, 20, .inl (fun j_ => nI (F2 j_)))), (aQT, .inl (cyI, 20, .inl (fun j_ => nI (T2 j_)))), (aQN, .inl (cyI, 20, .inl nm2)), (aQL, .inl (cyI, 20, .inl lo2)), (aQU, .inl (cyI, 20, .inl up2))] H → va_D A [(aL, .inr (3, [.ref aQ, .int (nI n), .int (nI pl), .int (nI row), .int (nI dg), .int (nI sz), .int (bI ng)])), (aQ, .inr (1, [.ref aQF, .ref aQT, .ref aQN, .ref aQL, .ref aQU, .int (nI cnt2)])), (aQF, .inl (cyI, 20, .inl (fun j_ => nI (F2 j_)))), (aQT, .inl (cyI, 20, .inl (fun j_ => nI (T2 j_)))), (aQN, .inl (cyI, 20, .inl nm2)), (aQL, .inl (cyI, 20, .inl lo2)), (aQU, .inl (cyI, 20, .inl up2))] → va_S A s.heap H locs → lv_has ls 2 [(0, .ref aL), (1, .int (nI c))] → W pM l eM (headSpec wsX3_takeNominalStart ({ frames := 3, cells := 0, slots := 0, locals := 65 } : Room)).room s mM ([.ref aL, .int (nI c)] : List Value).toArray blM mtM cM H locs 0 0 Q (F0 mM 12 ls [.int (bI b8), .ref aL]) := by
    intro b8 hb8 H locs ls hP hD hS hl
    refine lv_iconst (v := 4) hx hb dX3_takeNominalStart_12 (by decide) ?_
    have hPc := hP.sub (ws' := [(aL, .inr (3, [.ref aQ, .int (nI n), .int (nI pl), .int (nI row), .int (nI dg), .int (nI sz), .int (bI ng)]))]) [0] rfl
    have hDc := hD.sub (ws' := [(aL, .inr (3, [.ref aQ, .int (nI n), .int (nI pl), .int (nI row), .int (nI dg), .int (nI sz), .int (bI ng)]))]) [0] (by decide) rfl
    have hFc := va_free (wc := [(aL, .inr (3, [.ref aQ, .int (nI n), .int (nI pl), .int (nI row), .int (nI dg), .int (nI sz), .int (bI ng)]))]) hD hS hA [0] rfl
    refine va_callv (va_runV (As := [.int (bI b8), .int 4]) (rest := []) ⟨hx, hb, hml, hown, hts⟩ (c_X3_beginNumber l dC dI cyI cyZ cyJ cyD aL aQ H.size n pl row dg sz ng b8 4) (cwV 2 hts gX3_takeNominalStart_X3_beginNumber rfl rfl rfl (by decide +kernel) ⟨Nat.le_of_ble_eq_true rfl, Nat.le_of_ble_eq_true rfl⟩) ⟨fun a U g mk q => by obtain ⟨q0, q1, qP, qK, qD⟩ := q; exact ⟨q0, q1, qP, va_K.moved (u := U) (U := U.calling g mk a) (Vm.Alike.refl U.vm) qK, qD⟩, va_recv hK hPc (ci := 3) (q0 := 0) rfl rfl, fun U hU hW => ⟨rfl, by rw [hU], by rw [hU]; exact hPc, va_K.moved hW.alike hK, hDc.weaken (fun _ _ _ _ => trivial)⟩⟩ rfl rfl hl.1 rfl (lv_room (Nat.le_of_ble_eq_true rfl)) dX3_takeNominalStart_13 ⟨Nat.le_of_ble_eq_true rfl, Nat.le_of_ble_eq_true rfl⟩) hS (fun q _ h => hFc q h) hFc (fun  u t H1 locs ht hvm hw hB hz1 hk1 hS => ?_)
    obtain ⟨hP1, hK1, hD1⟩ := hB
    rw [ht] at hP1
    obtain ⟨hP, hD⟩ := va_join (wr := [(aQ, .inr (1, [.ref aQF, .ref aQT, .ref aQN, .ref aQL, .ref aQU, .int (nI cnt2)])), (aQF, .inl (cyI, 20, .inl (fun j_ => nI (F2 j_)))), (aQT, .inl (cyI, 20, .inl (fun j_ => nI (T2 j_)))), (aQN, .inl (cyI, 20, .inl nm2)), (aQL, .inl (cyI, 20, .inl lo2)), (aQU, .inl (cyI, 20, .inl up2))]) (w1 := [(aL, .inr (3, [.ref aQ, .int (nI n), .int (nI 4), .int (nI row), .int (nI 0), .int (nI 0), .int (bI b8)]))]) hP hD [0] [1, 2, 3, 4, 5, 6] rfl rfl (by decide) (by decide) hk1 hFc hP1 hD1
    clear hP1 hD1 hK1 hPc hDc hFc hk1 hz1 hvm ht u t
    generalize H1 = H at hP hS ⊢
    have hP : va_P (dC, dI) vwCl [(aQ, .inr (1, [.ref aQF, .ref aQT, .ref aQN, .ref aQL, .ref aQU, .int (nI cnt2)])), (aQF, .inl (cyI, 20, .inl (fun j_ => nI (F2 j_)))), (aQT, .inl (cyI, 20, .inl (fun j_ => nI (T2 j_)))), (aQN, .inl (cyI, 20, .inl nm2)), (aQL, .inl (cyI, 20, .inl lo2)), (aQU, .inl (cyI, 20, .inl up2)), (aL, .inr (3, [.ref aQ, .int (nI n), .int (nI 4), .int (nI row), .int (nI 0), .int (nI 0), .int (bI b8)]))] H := hP
    have hD : va_D A [(aQ, .inr (1, [.ref aQF, .ref aQT, .ref aQN, .ref aQL, .ref aQU, .int (nI cnt2)])), (aQF, .inl (cyI, 20, .inl (fun j_ => nI (F2 j_)))), (aQT, .inl (cyI, 20, .inl (fun j_ => nI (T2 j_)))), (aQN, .inl (cyI, 20, .inl nm2)), (aQL, .inl (cyI, 20, .inl lo2)), (aQU, .inl (cyI, 20, .inl up2)), (aL, .inr (3, [.ref aQ, .int (nI n), .int (nI 4), .int (nI row), .int (nI 0), .int (nI 0), .int (bI b8)]))] := hD
    refine lv_iload_n hx hb dX3_takeNominalStart_16 rfl (lv_at hl 1 rfl) ?_
    refine lv_bipush (v := 45) hx hb dX3_takeNominalStart_17 (by decide) ?_
    refine lv_icmp_eq (tgt := 30) hx hb dX3_takeNominalStart_19 (by decide) (fun c19 => ?_) (fun c19 => ?_)
    · have c19 := n_eq (a := c) (b := 45) (by omega) (by omega) c19
      have hz : tkS (pl, row, dg, sz, ng, cnt2, F2, T2, nm2, lo2, up2) c = some (4, row, 0, 0, b8, cnt2, F2, T2, nm2, lo2, up2) := by simp only [tkS]; rw [if_pos c19, hb8]; simp [c19]
      refine lv_iconst (v := 1) hx hb dX3_takeNominalStart_30 (by decide) ?_
      refine lv_goto (tgt := 35) hx hb dX3_takeNominalStart_31 (by decide) ?_
      have r1 : 1 = (bI ((tkS (pl, row, dg, sz, ng, cnt2, F2, T2, nm2, lo2, up2) c).isSome)) := by first | (rw [hz]; rfl) | (rw [hz0, c27]; rfl)
      have hP9 : va_P (dC, dI) vwCl [(aL, .inr (3, [.ref aQ, .int (nI n), .int (nI 4), .int (nI row), .int (nI 0), .int (nI 0), .int (bI b8)])), (aQ, .inr (1, [.ref aQF, .ref aQT, .ref aQN, .ref aQL, .ref aQU, .int (nI cnt2)])), (aQF, .inl (cyI, 20, .inl (fun j_ => nI (F2 j_)))), (aQT, .inl (cyI, 20, .inl (fun j_ => nI (T2 j_)))), (aQN, .inl (cyI, 20, .inl nm2)), (aQL, .inl (cyI, 20, .inl lo2)), (aQU, .inl (cyI, 20, .inl up2))] H := by exact hP.sub [6, 0, 1, 2, 3, 4, 5] rfl
      have hD9 : va_D A [(aL, .inr (3, [.ref aQ, .int (nI n), .int (nI 4), .int (nI row), .int (nI 0), .int (nI 0), .int (bI b8)])), (aQ, .inr (1, [.ref aQF, .ref aQT, .ref aQN, .ref aQL, .ref aQU, .int (nI cnt2)])), (aQF, .inl (cyI, 20, .inl (fun j_ => nI (F2 j_)))), (aQT, .inl (cyI, 20, .inl (fun j_ => nI (T2 j_)))), (aQN, .inl (cyI, 20, .inl nm2)), (aQL, .inl (cyI, 20, .inl lo2)), (aQU, .inl (cyI, 20, .inl up2))] := by exact hD.sub [6, 0, 1, 2, 3, 4, 5] (by decide) rfl
      have p2 : tkS (pl, row, dg, sz, ng, cnt2, F2, T2, nm2, lo2, up2) c = none ∨ tkS (pl, row, dg, sz, ng, cnt2, F2, T2, nm2, lo2, up2) c = some (4, row, 0, 0, b8, cnt2, F2, T2, nm2, lo2, up2) := by first | exact Or.inr hz | (rw [hz0]; exact hpN)
      subst hAe
      subst hQe
      exact W.zret (v := 1) hx hb hr rfl (fun t ht hW => ⟨⟨_, (), rfl, r1, 4, row, 0, 0, b8, cnt2, F2, T2, nm2, lo2, up2, p2, by rw [ht]; exact hP9, va_K.moved hW.alike hK, hD9⟩, hS.F ht⟩) hS.2.2 dX3_takeNominalStart_35
    · have c19 := n_ne (a := c) (b := 45) (by omega) (by omega) c19
      have hz0 : tkS (pl, row, dg, sz, ng, cnt2, F2, T2, nm2, lo2, up2) c = tkN (4, row, 0, 0, b8, cnt2, F2, T2, nm2, lo2, up2) c := by simp only [tkS]; rw [if_neg c19, hb8]; simp [c19]
      refine lv_aload_n hx hb dX3_takeNominalStart_22 rfl (lv_at hl 0 rfl) ?_
      refine lv_iload_n hx hb dX3_takeNominalStart_23 rfl (lv_at hl 1 rfl) ?_
      have g3 : c < 128 := by first | assumption | omega | exact vp_in_nI (by omega) (by omega)
      have g4 : cnt2 ≤ 20 := by first | assumption | omega | exact vp_in_nI (by omega) (by omega)
      have g5 : row < 20 := by first | assumption | omega | exact vp_in_nI (by omega) (by omega)
      have g6 : 0 ≤ 5 := by first | assumption | omega | exact vp_in_nI (by omega) (by omega)
      have g7 : 0 < 100000 := by first | assumption | omega | exact vp_in_nI (by omega) (by omega)
      have hPc := hP.sub (ws' := [(aL, .inr (3, [.ref aQ, .int (nI n), .int (nI 4), .int (nI row), .int (nI 0), .int (nI 0), .int (bI b8)])), (aQ, .inr (1, [.ref aQF, .ref aQT, .ref aQN, .ref aQL, .ref aQU, .int (nI cnt2)])), (aQF, .inl (cyI, 20, .inl (fun j_ => nI (F2 j_)))), (aQT, .inl (cyI, 20, .inl (fun j_ => nI (T2 j_)))), (aQN, .inl (cyI, 20, .inl nm2)), (aQL, .inl (cyI, 20, .inl lo2)), (aQU, .inl (cyI, 20, .inl up2))]) [6, 0, 1, 2, 3, 4, 5] rfl
      have hDc := hD.sub (ws' := [(aL, .inr (3, [.ref aQ, .int (nI n), .int (nI 4), .int (nI row), .int (nI 0), .int (nI 0), .int (bI b8)])), (aQ, .inr (1, [.ref aQF, .ref aQT, .ref aQN, .ref aQL, .ref aQU, .int (nI cnt2)])), (aQF, .inl (cyI, 20, .inl (fun j_ => nI (F2 j_)))), (aQT, .inl (cyI, 20, .inl (fun j_ => nI (T2 j_)))), (aQN, .inl (cyI, 20, .inl nm2)), (aQL, .inl (cyI, 20, .inl lo2)), (aQU, .inl (cyI, 20, .inl up2))]) [6, 0, 1, 2, 3, 4, 5] (by decide) rfl
      have hFc := va_free (wc := [(aL, .inr (3, [.ref aQ, .int (nI n), .int (nI 4), .int (nI row), .int (nI 0), .int (nI 0), .int (bI b8)])), (aQ, .inr (1, [.ref aQF, .ref aQT, .ref aQN, .ref aQL, .ref aQU, .int (nI cnt2)])), (aQF, .inl (cyI, 20, .inl (fun j_ => nI (F2 j_)))), (aQT, .inl (cyI, 20, .inl (fun j_ => nI (T2 j_)))), (aQN, .inl (cyI, 20, .inl nm2)), (aQL, .inl (cyI, 20, .inl lo2)), (aQU, .inl (cyI, 20, .inl up2))]) hD hS hA [6, 0, 1, 2, 3, 4, 5] rfl
      refine va_calli (va_runV (As := [.int (nI c)]) (rest := []) ⟨hx, hb, hml, hown, hts⟩ (c_X3_takeInNominal l dC dI cyI cyZ cyJ cyD aL aQ aQF aQT aQN aQL aQU H.size n 4 row 0 0 b8 F2 T2 nm2 lo2 up2 cnt2 c g3 g4 g5 g6 g7) (cwV 1 hts gX3_takeNominalStart_X3_takeInNominal rfl rfl rfl (by decide +kernel) ⟨Nat.le_of_ble_eq_true rfl, Nat.le_of_ble_eq_true rfl⟩) ⟨fun a U g mk q => by obtain ⟨q0, q1, qP, qK, qD⟩ := q; exact ⟨q0, q1, qP, va_K.moved (u := U) (U := U.calling g mk a) (Vm.Alike.refl U.vm) qK, qD⟩, va_recv hK hPc (ci := 3) (q0 := 0) rfl rfl, fun U hU hW => ⟨rfl, by rw [hU], by rw [hU]; exact hPc, va_K.moved hW.alike hK, hDc.weaken (fun _ _ _ _ => trivial)⟩⟩ rfl rfl hl.1 rfl (lv_room (Nat.le_of_ble_eq_true rfl)) dX3_takeNominalStart_24 ⟨Nat.le_of_ble_eq_true rfl, Nat.le_of_ble_eq_true rfl⟩) hS (fun q _ h => hFc q h) hFc (fun r u t H1 locs ht hvm hw hB hz1 hk1 hS => ?_)
      obtain rfl := hw
      obtain ⟨pl3_8, row3_9, dg3_10, sz3_11, ng3_12, cnt3_13, F3_14, T3_15, nm3_16, lo3_17, up3_18, hpN, hP1, hK1, hD1⟩ := hB
      rw [ht] at hP1
      obtain ⟨hP, hD⟩ := va_join (wr := []) (w1 := [(aL, .inr (3, [.ref aQ, .int (nI n), .int (nI pl3_8), .int (nI row3_9), .int (nI dg3_10), .int (nI sz3_11), .int (bI ng3_12)])), (aQ, .inr (1, [.ref aQF, .ref aQT, .ref aQN, .ref aQL, .ref aQU, .int (nI cnt3_13)])), (aQF, .inl (cyI, 20, .inl (fun j_ => nI (F3_14 j_)))), (aQT, .inl (cyI, 20, .inl (fun j_ => nI (T3_15 j_)))), (aQN, .inl (cyI, 20, .inl nm3_16)), (aQL, .inl (cyI, 20, .inl lo3_17)), (aQU, .inl (cyI, 20, .inl up3_18))]) hP hD [6, 0, 1, 2, 3, 4, 5] [] rfl rfl (by decide) (by decide) hk1 hFc hP1 hD1
      clear hP1 hD1 hK1 hPc hDc hFc hk1 hz1 hvm ht u t
      generalize H1 = H at hP hS ⊢
      have hP : va_P (dC, dI) vwCl [(aL, .inr (3, [.ref aQ, .int (nI n), .int (nI pl3_8), .int (nI row3_9), .int (nI dg3_10), .int (nI sz3_11), .int (bI ng3_12)])), (aQ, .inr (1, [.ref aQF, .ref aQT, .ref aQN, .ref aQL, .ref aQU, .int (nI cnt3_13)])), (aQF, .inl (cyI, 20, .inl (fun j_ => nI (F3_14 j_)))), (aQT, .inl (cyI, 20, .inl (fun j_ => nI (T3_15 j_)))), (aQN, .inl (cyI, 20, .inl nm3_16)), (aQL, .inl (cyI, 20, .inl lo3_17)), (aQU, .inl (cyI, 20, .inl up3_18))] H := hP
      have hD : va_D A [(aL, .inr (3, [.ref aQ, .int (nI n), .int (nI pl3_8), .int (nI row3_9), .int (nI dg3_10), .int (nI sz3_11), .int (bI ng3_12)])), (aQ, .inr (1, [.ref aQF, .ref aQT, .ref aQN, .ref aQL, .ref aQU, .int (nI cnt3_13)])), (aQF, .inl (cyI, 20, .inl (fun j_ => nI (F3_14 j_)))), (aQT, .inl (cyI, 20, .inl (fun j_ => nI (T3_15 j_)))), (aQN, .inl (cyI, 20, .inl nm3_16)), (aQL, .inl (cyI, 20, .inl lo3_17)), (aQU, .inl (cyI, 20, .inl up3_18))] := hD
      refine lv_if_eq (tgt := 34) hx hb dX3_takeNominalStart_27 (by decide) (fun c27 => ?_) (fun c27 => ?_)
      · have c27 : ((tkN (4, row, 0, 0, b8, cnt2, F2, T2, nm2, lo2, up2) c).isSome) = false := bI_0 c27
        refine lv_iconst (v := 0) hx hb dX3_takeNominalStart_34 (by decide) ?_
        have r20 : 0 = (bI ((tkS (pl, row, dg, sz, ng, cnt2, F2, T2, nm2, lo2, up2) c).isSome)) := by first | (rw [hz]; rfl) | (rw [hz0, c27]; rfl)
        have hP9 : va_P (dC, dI) vwCl [(aL, .inr (3, [.ref aQ, .int (nI n), .int (nI pl3_8), .int (nI row3_9), .int (nI dg3_10), .int (nI sz3_11), .int (bI ng3_12)])), (aQ, .inr (1, [.ref aQF, .ref aQT, .ref aQN, .ref aQL, .ref aQU, .int (nI cnt3_13)])), (aQF, .inl (cyI, 20, .inl (fun j_ => nI (F3_14 j_)))), (aQT, .inl (cyI, 20, .inl (fun j_ => nI (T3_15 j_)))), (aQN, .inl (cyI, 20, .inl nm3_16)), (aQL, .inl (cyI, 20, .inl lo3_17)), (aQU, .inl (cyI, 20, .inl up3_18))] H := by exact hP.sub [0, 1, 2, 3, 4, 5, 6] rfl
        have hD9 : va_D A [(aL, .inr (3, [.ref aQ, .int (nI n), .int (nI pl3_8), .int (nI row3_9), .int (nI dg3_10), .int (nI sz3_11), .int (bI ng3_12)])), (aQ, .inr (1, [.ref aQF, .ref aQT, .ref aQN, .ref aQL, .ref aQU, .int (nI cnt3_13)])), (aQF, .inl (cyI, 20, .inl (fun j_ => nI (F3_14 j_)))), (aQT, .inl (cyI, 20, .inl (fun j_ => nI (T3_15 j_)))), (aQN, .inl (cyI, 20, .inl nm3_16)), (aQL, .inl (cyI, 20, .inl lo3_17)), (aQU, .inl (cyI, 20, .inl up3_18))] := by exact hD.sub [0, 1, 2, 3, 4, 5, 6] (by decide) rfl
        have p21 : tkS (pl, row, dg, sz, ng, cnt2, F2, T2, nm2, lo2, up2) c = none ∨ tkS (pl, row, dg, sz, ng, cnt2, F2, T2, nm2, lo2, up2) c = some (pl3_8, row3_9, dg3_10, sz3_11, ng3_12, cnt3_13, F3_14, T3_15, nm3_16, lo3_17, up3_18) := by first | exact Or.inr hz | (rw [hz0]; exact hpN)
        subst hAe
        subst hQe
        exact W.zret (v := 0) hx hb hr rfl (fun t ht hW => ⟨⟨_, (), rfl, r20, pl3_8, row3_9, dg3_10, sz3_11, ng3_12, cnt3_13, F3_14, T3_15, nm3_16, lo3_17, up3_18, p21, by rw [ht]; exact hP9, va_K.moved hW.alike hK, hD9⟩, hS.F ht⟩) hS.2.2 dX3_takeNominalStart_35
      · have c27 : ((tkN (4, row, 0, 0, b8, cnt2, F2, T2, nm2, lo2, up2) c).isSome) = true := bI_n0 c27
        refine lv_iconst (v := 1) hx hb dX3_takeNominalStart_30 (by decide) ?_
        refine lv_goto (tgt := 35) hx hb dX3_takeNominalStart_31 (by decide) ?_
        have r22 : 1 = (bI ((tkS (pl, row, dg, sz, ng, cnt2, F2, T2, nm2, lo2, up2) c).isSome)) := by first | (rw [hz]; rfl) | (rw [hz0, c27]; rfl)
        have hP9 : va_P (dC, dI) vwCl [(aL, .inr (3, [.ref aQ, .int (nI n), .int (nI pl3_8), .int (nI row3_9), .int (nI dg3_10), .int (nI sz3_11), .int (bI ng3_12)])), (aQ, .inr (1, [.ref aQF, .ref aQT, .ref aQN, .ref aQL, .ref aQU, .int (nI cnt3_13)])), (aQF, .inl (cyI, 20, .inl (fun j_ => nI (F3_14 j_)))), (aQT, .inl (cyI, 20, .inl (fun j_ => nI (T3_15 j_)))), (aQN, .inl (cyI, 20, .inl nm3_16)), (aQL, .inl (cyI, 20, .inl lo3_17)), (aQU, .inl (cyI, 20, .inl up3_18))] H := by exact hP.sub [0, 1, 2, 3, 4, 5, 6] rfl
        have hD9 : va_D A [(aL, .inr (3, [.ref aQ, .int (nI n), .int (nI pl3_8), .int (nI row3_9), .int (nI dg3_10), .int (nI sz3_11), .int (bI ng3_12)])), (aQ, .inr (1, [.ref aQF, .ref aQT, .ref aQN, .ref aQL, .ref aQU, .int (nI cnt3_13)])), (aQF, .inl (cyI, 20, .inl (fun j_ => nI (F3_14 j_)))), (aQT, .inl (cyI, 20, .inl (fun j_ => nI (T3_15 j_)))), (aQN, .inl (cyI, 20, .inl nm3_16)), (aQL, .inl (cyI, 20, .inl lo3_17)), (aQU, .inl (cyI, 20, .inl up3_18))] := by exact hD.sub [0, 1, 2, 3, 4, 5, 6] (by decide) rfl
        have p23 : tkS (pl, row, dg, sz, ng, cnt2, F2, T2, nm2, lo2, up2) c = none ∨ tkS (pl, row, dg, sz, ng, cnt2, F2, T2, nm2, lo2, up2) c = some (pl3_8, row3_9, dg3_10, sz3_11, ng3_12, cnt3_13, F3_14, T3_15, nm3_16, lo3_17, up3_18) := by first | exact Or.inr hz | (rw [hz0]; exact hpN)
        subst hAe
        subst hQe
        exact W.zret (v := 1) hx hb hr rfl (fun t ht hW => ⟨⟨_, (), rfl, r22, pl3_8, row3_9, dg3_10, sz3_11, ng3_12, cnt3_13, F3_14, T3_15, nm3_16, lo3_17, up3_18, p23, by rw [ht]; exact hP9, va_K.moved hW.alike hK, hD9⟩, hS.F ht⟩) hS.2.2 dX3_takeNominalStart_35
  refine lv_icmp_ne (tgt := 11) hx hb dX3_takeNominalStart_4 (by decide) (fun c4 => ?_) (fun c4 => ?_)
  · have c4 := n_ne (a := c) (b := 45) (by omega) (by omega) c4
    refine lv_iconst (v := 0) hx hb dX3_takeNominalStart_11 (by decide) ?_
    have q24 : (bI (decide (c = 45))) = 0 := by simp [c4, bI]
    refine W.eq (g2 := F0 mM 12 ls [.int (bI (decide (c = 45))), .ref aL]) (by rw [q24]) ?_
    exact k12 (decide (c = 45)) (by rfl) _ _ _ (hP) (hD) hS (lv_sub hl [0, 1] rfl)
  · have c4 := n_eq (a := c) (b := 45) (by omega) (by omega) c4
    refine lv_iconst (v := 1) hx hb dX3_takeNominalStart_7 (by decide) ?_
    refine lv_goto (tgt := 12) hx hb dX3_takeNominalStart_8 (by decide) ?_
    have q25 : (bI (decide (c = 45))) = 1 := by simp [c4, bI]
    refine W.eq (g2 := F0 mM 12 ls [.int (bI (decide (c = 45))), .ref aL]) (by rw [q25]) ?_
    exact k12 (decide (c = 45)) (by rfl) _ _ _ (hP) (hD) hS (lv_sub hl [0, 1] rfl)
