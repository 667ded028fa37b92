
def wtn (x y z : Int32) : Bool := decide (¬ x < y) && decide (¬ z < x)
def inB (x : Int32) (n : Nat) : Bool := decide (¬ x < 0) && decide (¬ nI n ≤ x)
theorem inB_vp {x : Int32} {n : Nat} (h : inB x n = true) (hn : n < 2 ^ 31) : vp_in x n := by
  simp only [inB, Bool.and_eq_true, decide_eq_true_eq] at h
  obtain ⟨j, hj, rfl⟩ := nI_of h.1
  exact vp_in_nI (n_nle hn hj h.2) hn
theorem wtn_in {x : Int32} {n : Nat} (hn : n < 1000) : wtn x 0 (nI n - 1) = inB x n := by
  unfold wtn inB
  have h1 : (nI n - 1).toInt = (n : Int) - 1 := pk_sub_toInt (a := n) (b := 1) (by omega) (by decide)
  have h2 : (nI n).toInt = (n : Int) := nI_toInt (by omega)
  have h3 : (nI n - 1 < x) ↔ (nI n ≤ x) := by
    rw [Int32.lt_iff_toInt_lt, Int32.le_iff_toInt_le, h1, h2]; omega
  simp only [h3]
theorem wtn_nat {x : Int32} {k : Nat} (hk : k < 2 ^ 31) {z : Int32} (h : wtn x (nI k) z = true) : x = nI x.toNatClampNeg := by
  simp only [wtn, Bool.and_eq_true, decide_eq_true_eq] at h
  have h0 : ¬ x < 0 := by
    intro q
    apply h.1
    rw [Int32.lt_iff_toInt_lt] at q ⊢
    rw [nI_toInt hk]
    have : (0 : Int32).toInt = 0 := rfl
    omega
  obtain ⟨j, hj, rfl⟩ := nI_of h0
  rw [nI_clamp hj]
def mdevB (x y : Int32) : Bool := wtn x (-999) 999 && (wtn y (-999) 999 && decide (¬ y < x))
theorem mdev (x y : Int32) : mdevB x y = devB x y := by
  unfold mdevB devB wtn
  rw [Bool.eq_iff_iff]
  simp only [Bool.and_eq_true, decide_eq_true_eq, Int32.lt_iff_toInt_lt]
  have h1 : (-999 : Int32).toInt = -999 := by decide
  have h2 : (999 : Int32).toInt = 999 := by decide
  rw [h1, h2]
  omega
def sfC (x : Int32) : Int32 := if wtn x 2 12 = true then 0 else 1
def nomB (x : Int32) : Bool := wtn x (-99999) 99999
def adC (n cnt : Nat) (a b x y z : Int32) : Int32 := if ¬ (inB a n = true ∧ inB b n = true) then 1 else if ¬ (decide (¬ a = b) && (nomB x && devB y z)) = true then 2 else if cnt = 20 then 3 else 0
theorem adC_le {n cnt : Nat} {a b x y z : Int32} (h : adC n cnt a b x y z ≤ 0) : adC n cnt a b x y z = 0 := by
  unfold adC at h ⊢
  split
  · rename_i q; rw [if_pos q] at h; exact absurd h (by decide)
  · rename_i q; rw [if_neg q] at h
    split
    · rename_i q; rw [if_pos q] at h; exact absurd h (by decide)
    · rename_i q; rw [if_neg q] at h
      split
      · rename_i q; rw [if_pos q] at h; exact absurd h (by decide)
      · rfl
theorem adC_0 {n cnt : Nat} {a b x y z : Int32} (h : adC n cnt a b x y z = 0) : inB a n = true ∧ inB b n = true ∧ ¬ cnt = 20 := by
  unfold adC at h
  split at h
  · exact absurd h (by decide)
  · rename_i q
    have q := Classical.not_not.mp q
    split at h
    · exact absurd h (by decide)
    · split at h
      · exact absurd h (by decide)
      · rename_i r; exact ⟨q.1, q.2, r⟩

set_option maxHeartbeats 4000000 in
set_option maxRecDepth 100000 in
theorem c_X7_within (l : Launch) (dC : Nat → ClassId) (dI : Nat → Nat → Nat) (cyI cyZ cyJ cyD : ClassId) (zH : Nat) (x : Int32) (y : Int32) (z : Int32) : Met l yX7_within wsX7_within ({ frames := 0, cells := 0, slots := 0, locals := 0 } : Room) (va_Pc [.int x, .int y, .int z] (fun U => U.heap.size = zH ∧ va_P (dC, dI) vwCl [] U.heap ∧ va_K (dC, dI) vwCl [(cyI, .int), (cyZ, .boolean), (cyJ, .long), (cyD, .double)] U ∧ va_D (fun _ => True) [])) (va_Qi (fun (r : Int32) (_ : Unit) => r = bI (wtn x y z)) (fun _ t => va_P (dC, dI) vwCl [] t.heap ∧ va_K (dC, dI) vwCl [(cyI, .int), (cyZ, .boolean), (cyJ, .long), (cyD, .double)] t ∧ va_D (va_A [] zH) []) (va_A [] zH)) 0 0 (va_A [] zH) := by
  refine Met.ofW (cc := cX7_within) (maxL := 3) (ret := (some .boolean)) (by decide) rfl ?_
  intro pM eM s mM args blM mtM cM s₁ BM hml hv
  obtain ⟨rfl, hsz, hP, hK, hD0⟩ := hv
  have hx := BM.exec
  have hb := BM.bytes
  have hr := BM.returns
  have hts := atoms_spec (ws := wsX7_within) BM.pre
  have hown : s.vm.findClass RX7 = some mM.cls := findClass_of_methodNamed BM.named
  have hlocks := BM.notSynchronized
  subst hsz
  have hD := hD0.self (sz := s.heap.size)
  obtain ⟨Q, hQe⟩ : ∃ Q : State → Prop, Q = MQ blM (va_Qi (fun (r : Int32) (_ : Unit) => r = bI (wtn x y z)) (fun _ t => va_P (dC, dI) vwCl [] t.heap ∧ va_K (dC, dI) vwCl [(cyI, .int), (cyZ, .boolean), (cyJ, .long), (cyD, .double)] t ∧ va_D (va_A [] s.heap.size) []) (va_A [] s.heap.size)) ([.int x, .int y, .int z] : List Value).toArray s 0 0 (va_A [] s.heap.size) := ⟨_, rfl⟩
  rw [← hQe]
  generalize hAe : va_A [] s.heap.size = A at hD hQe
  have hA : ∀ q : Nat, s.heap.size ≤ q → A q := fun q h => by rw [← hAe]; exact Or.inr h
  obtain ⟨H, hHe⟩ : ∃ H : Heap, H = s.heap := ⟨_, rfl⟩
  have hS : va_S A s.heap H [] := by rw [hHe]; exact va_S.rf
  rw [← hHe] at hP ⊢
  have hl := lv_entry ([.int x, .int y, .int z]) (n := 3) (Nat.le_of_ble_eq_true rfl)
  rw [lg_entry_eq]
  generalize (lg_sl ([.int x, .int y, .int z]) ++ List.replicate (3 - (lg_sl ([.int x, .int y, .int z])).length) Slot.unset).toArray = ls at hl ⊢
  have hl : lv_has ls 3 [(0, .int x), (1, .int y), (2, .int z)] := hl
  refine lv_iload_n hx hb dX7_within_0 rfl (lv_at hl 0 rfl) ?_
  refine lv_iload_n hx hb dX7_within_1 rfl (lv_at hl 1 rfl) ?_
  refine lv_icmp_lt (tgt := 14) hx hb dX7_within_2 (by decide) (fun c2 => ?_) (fun c2 => ?_)
  · skip
    refine lv_iconst (v := 0) hx hb dX7_within_14 (by decide) ?_
    have r1 : 0 = (bI (wtn x y z)) := by simp [wtn, bI, *]
    have hP9 : va_P (dC, dI) vwCl [] H := by exact hP.sub [] rfl
    have hD9 : va_D A [] := by exact hD.sub [] (by decide) rfl
    rw [hQe]
    exact W.zret (v := 0) hx hb hr rfl (fun t ht hW => ⟨⟨_, (), rfl, r1, by rw [ht]; exact hP9, va_K.moved hW.alike hK, hD9⟩, hS.F ht⟩) hS.2.2 dX7_within_15
  · skip
    refine lv_iload_n hx hb dX7_within_5 rfl (lv_at hl 0 rfl) ?_
    refine lv_iload_n hx hb dX7_within_6 rfl (lv_at hl 2 rfl) ?_
    refine lv_icmp_gt (tgt := 14) hx hb dX7_within_7 (by decide) (fun c7 => ?_) (fun c7 => ?_)
    · skip
      refine lv_iconst (v := 0) hx hb dX7_within_14 (by decide) ?_
      have r2 : 0 = (bI (wtn x y z)) := by simp [wtn, bI, *]
      have hP9 : va_P (dC, dI) vwCl [] H := by exact hP.sub [] rfl
      have hD9 : va_D A [] := by exact hD.sub [] (by decide) rfl
      rw [hQe]
      exact W.zret (v := 0) hx hb hr rfl (fun t ht hW => ⟨⟨_, (), rfl, r2, by rw [ht]; exact hP9, va_K.moved hW.alike hK, hD9⟩, hS.F ht⟩) hS.2.2 dX7_within_15
    · skip
      refine lv_iconst (v := 1) hx hb dX7_within_10 (by decide) ?_
      refine lv_goto (tgt := 15) hx hb dX7_within_11 (by decide) ?_
      have r3 : 1 = (bI (wtn x y z)) := by simp [wtn, bI, *]
      have hP9 : va_P (dC, dI) vwCl [] H := by exact hP.sub [] rfl
      have hD9 : va_D A [] := by exact hD.sub [] (by decide) rfl
      rw [hQe]
      exact W.zret (v := 1) hx hb hr rfl (fun t ht hW => ⟨⟨_, (), rfl, r3, by rw [ht]; exact hP9, va_K.moved hW.alike hK, hD9⟩, hS.F ht⟩) hS.2.2 dX7_within_15
set_option maxHeartbeats 4000000 in
set_option maxRecDepth 100000 in
theorem c_X7_areDeviations (l : Launch) (dC : Nat → ClassId) (dI : Nat → Nat → Nat) (cyI cyZ cyJ cyD : ClassId) (zH : Nat) (x : Int32) (y : Int32) : Met l yX7_areDeviations wsX7_areDeviations ({ frames := 1, cells := 0, slots := 0, locals := 22 } : Room) (va_Pc [.int x, .int y] (fun U => U.heap.size = zH ∧ va_P (dC, dI) vwCl [] U.heap ∧ va_K (dC, dI) vwCl [(cyI, .int), (cyZ, .boolean), (cyJ, .long), (cyD, .double)] U ∧ va_D (fun _ => True) [])) (va_Qi (fun (r : Int32) (_ : Unit) => r = bI (devB x y)) (fun _ t => va_P (dC, dI) vwCl [] t.heap ∧ va_K (dC, dI) vwCl [(cyI, .int), (cyZ, .boolean), (cyJ, .long), (cyD, .double)] t ∧ va_D (va_A [] zH) []) (va_A [] zH)) 0 0 (va_A [] zH) := by
  refine Met.ofW (cc := cX7_areDeviations) (maxL := 2) (ret := (some .boolean)) (by decide) rfl ?_
  intro pM eM s mM args blM mtM cM s₁ BM hml hv
  obtain ⟨rfl, hsz, hP, hK, hD0⟩ := hv
  have hx := BM.exec
  have hb := BM.bytes
  have hr := BM.returns
  have hts := atoms_spec (ws := wsX7_areDeviations) BM.pre
  have hown : s.vm.findClass RX7 = some mM.cls := findClass_of_methodNamed BM.named
  have hlocks := BM.notSynchronized
  subst hsz
  have hD := hD0.self (sz := s.heap.size)
  obtain ⟨Q, hQe⟩ : ∃ Q : State → Prop, Q = MQ blM (va_Qi (fun (r : Int32) (_ : Unit) => r = bI (devB x y)) (fun _ t => va_P (dC, dI) vwCl [] t.heap ∧ va_K (dC, dI) vwCl [(cyI, .int), (cyZ, .boolean), (cyJ, .long), (cyD, .double)] t ∧ va_D (va_A [] s.heap.size) []) (va_A [] s.heap.size)) ([.int x, .int y] : List Value).toArray s 0 0 (va_A [] s.heap.size) := ⟨_, rfl⟩
  rw [← hQe]
  generalize hAe : va_A [] s.heap.size = A at hD hQe
  have hA : ∀ q : Nat, s.heap.size ≤ q → A q := fun q h => by rw [← hAe]; exact Or.inr h
  obtain ⟨H, hHe⟩ : ∃ H : Heap, H = s.heap := ⟨_, rfl⟩
  have hS : va_S A s.heap H [] := by rw [hHe]; exact va_S.rf
  rw [← hHe] at hP ⊢
  have hl := lv_entry ([.int x, .int y]) (n := 2) (Nat.le_of_ble_eq_true rfl)
  rw [lg_entry_eq]
  generalize (lg_sl ([.int x, .int y]) ++ List.replicate (2 - (lg_sl ([.int x, .int y])).length) Slot.unset).toArray = ls at hl ⊢
  have hl : lv_has ls 2 [(0, .int x), (1, .int y)] := hl
  refine lv_iload_n hx hb dX7_areDeviations_0 rfl (lv_at hl 0 rfl) ?_
  refine lv_sipush (v := (-999)) hx hb dX7_areDeviations_1 (by decide) ?_
  refine lv_sipush (v := 999) hx hb dX7_areDeviations_4 (by decide) ?_
  have hPc := hP.sub (ws' := []) [] rfl
  have hDc := hD.sub (ws' := []) [] (by decide) rfl
  have hFc := va_free (wc := []) hD hS hA [] rfl
  refine va_calli (va_runS (As := [.int x, .int (-999), .int 999]) (rest := []) ⟨hx, hb, hml, hown, hts⟩ (c_X7_within l dC dI cyI cyZ cyJ cyD H.size x (-999) 999) (va_cwS 3 hts gX7_areDeviations_X7_within rfl rfl rfl (by decide +kernel) ⟨Nat.le_of_ble_eq_true rfl, Nat.le_of_ble_eq_true rfl⟩) ⟨fun a U g mk q => by obtain ⟨q0, q1, qP, qK, qD⟩ := q; exact ⟨q0, q1, qP, va_K.moved (u := U) (U := U.calling g mk a) (Vm.Alike.refl U.vm) qK, qD⟩, fun U hU hW => ⟨rfl, by rw [hU], by rw [hU]; exact hPc, va_K.moved hW.alike hK, hDc.weaken (fun _ _ _ _ => trivial)⟩⟩ rfl rfl hl.1 rfl (lv_room (Nat.le_of_ble_eq_true rfl)) dX7_areDeviations_7 ⟨Nat.le_of_ble_eq_true rfl, Nat.le_of_ble_eq_true rfl⟩) hS (fun q _ h => hFc q h) hFc (fun r u t H1 locs ht hvm hw hB hz1 hk1 hS => ?_)
  obtain rfl := hw
  obtain ⟨hP1, hK1, hD1⟩ := hB
  rw [ht] at hP1
  obtain ⟨hP, hD⟩ := va_join (wr := []) (w1 := []) hP hD [] [] rfl rfl (by decide) (by decide) hk1 hFc hP1 hD1
  clear hP1 hD1 hK1 hPc hDc hFc hk1 hz1 hvm ht u t
  generalize H1 = H at hP hS ⊢
  have hP : va_P (dC, dI) vwCl [] H := hP
  have hD : va_D A [] := hD
  refine lv_if_eq (tgt := 35) hx hb dX7_areDeviations_10 (by decide) (fun c10 => ?_) (fun c10 => ?_)
  · have c10 : (wtn x (-999) 999) = false := bI_0 c10
    refine lv_iconst (v := 0) hx hb dX7_areDeviations_35 (by decide) ?_
    have r1 : 0 = (bI (devB x y)) := by rw [← mdev]; simp [mdevB, bI, *]
    have hP9 : va_P (dC, dI) vwCl [] H := by exact hP.sub [] rfl
    have hD9 : va_D A [] := by exact hD.sub [] (by decide) rfl
    rw [hQe]
    exact W.zret (v := 0) hx hb hr rfl (fun t ht hW => ⟨⟨_, (), rfl, r1, by rw [ht]; exact hP9, va_K.moved hW.alike hK, hD9⟩, hS.F ht⟩) hS.2.2 dX7_areDeviations_36
  · have c10 : (wtn x (-999) 999) = true := bI_n0 c10
    refine lv_iload_n hx hb dX7_areDeviations_13 rfl (lv_at hl 1 rfl) ?_
    refine lv_sipush (v := (-999)) hx hb dX7_areDeviations_14 (by decide) ?_
    refine lv_sipush (v := 999) hx hb dX7_areDeviations_17 (by decide) ?_
    have hPc := hP.sub (ws' := []) [] rfl
    have hDc := hD.sub (ws' := []) [] (by decide) rfl
    have hFc := va_free (wc := []) hD hS hA [] rfl
    refine va_calli (va_runS (As := [.int y, .int (-999), .int 999]) (rest := []) ⟨hx, hb, hml, hown, hts⟩ (c_X7_within l dC dI cyI cyZ cyJ cyD H.size y (-999) 999) (va_cwS 3 hts gX7_areDeviations_X7_within rfl rfl rfl (by decide +kernel) ⟨Nat.le_of_ble_eq_true rfl, Nat.le_of_ble_eq_true rfl⟩) ⟨fun a U g mk q => by obtain ⟨q0, q1, qP, qK, qD⟩ := q; exact ⟨q0, q1, qP, va_K.moved (u := U) (U := U.calling g mk a) (Vm.Alike.refl U.vm) qK, qD⟩, fun U hU hW => ⟨rfl, by rw [hU], by rw [hU]; exact hPc, va_K.moved hW.alike hK, hDc.weaken (fun _ _ _ _ => trivial)⟩⟩ rfl rfl hl.1 rfl (lv_room (Nat.le_of_ble_eq_true rfl)) dX7_areDeviations_20 ⟨Nat.le_of_ble_eq_true rfl, Nat.le_of_ble_eq_true rfl⟩) hS (fun q _ h => hFc q h) hFc (fun r u t H1 locs ht hvm hw hB hz1 hk1 hS => ?_)
    obtain rfl := hw
    obtain ⟨hP1, hK1, hD1⟩ := hB
    rw [ht] at hP1
    obtain ⟨hP, hD⟩ := va_join (wr := []) (w1 := []) hP hD [] [] rfl rfl (by decide) (by decide) hk1 hFc hP1 hD1
    clear hP1 hD1 hK1 hPc hDc hFc hk1 hz1 hvm ht u t
    generalize H1 = H at hP hS ⊢
    have hP : va_P (dC, dI) vwCl [] H := hP
    have hD : va_D A [] := hD
    refine lv_if_eq (tgt := 35) hx hb dX7_areDeviations_23 (by decide) (fun c23 => ?_) (fun c23 => ?_)
    · have c23 : (wtn y (-999) 999) = false := bI_0 c23
      refine lv_iconst (v := 0) hx hb dX7_areDeviations_35 (by decide) ?_
      have r2 : 0 = (bI (devB x y)) := by rw [← mdev]; simp [mdevB, bI, *]
      have hP9 : va_P (dC, dI) vwCl [] H := by exact hP.sub [] rfl
      have hD9 : va_D A [] := by exact hD.sub [] (by decide) rfl
      rw [hQe]
      exact W.zret (v := 0) hx hb hr rfl (fun t ht hW => ⟨⟨_, (), rfl, r2, by rw [ht]; exact hP9, va_K.moved hW.alike hK, hD9⟩, hS.F ht⟩) hS.2.2 dX7_areDeviations_36
    · have c23 : (wtn y (-999) 999) = true := bI_n0 c23
      refine lv_iload_n hx hb dX7_areDeviations_26 rfl (lv_at hl 0 rfl) ?_
      refine lv_iload_n hx hb dX7_areDeviations_27 rfl (lv_at hl 1 rfl) ?_
      refine lv_icmp_gt (tgt := 35) hx hb dX7_areDeviations_28 (by decide) (fun c28 => ?_) (fun c28 => ?_)
      · skip
        refine lv_iconst (v := 0) hx hb dX7_areDeviations_35 (by decide) ?_
        have r3 : 0 = (bI (devB x y)) := by rw [← mdev]; simp [mdevB, bI, *]
        have hP9 : va_P (dC, dI) vwCl [] H := by exact hP.sub [] rfl
        have hD9 : va_D A [] := by exact hD.sub [] (by decide) rfl
        rw [hQe]
        exact W.zret (v := 0) hx hb hr rfl (fun t ht hW => ⟨⟨_, (), rfl, r3, by rw [ht]; exact hP9, va_K.moved hW.alike hK, hD9⟩, hS.F ht⟩) hS.2.2 dX7_areDeviations_36
      · skip
        refine lv_iconst (v := 1) hx hb dX7_areDeviations_31 (by decide) ?_
        refine lv_goto (tgt := 36) hx hb dX7_areDeviations_32 (by decide) ?_
        have r4 : 1 = (bI (devB x y)) := by rw [← mdev]; simp [mdevB, bI, *]
        have hP9 : va_P (dC, dI) vwCl [] H := by exact hP.sub [] rfl
        have hD9 : va_D A [] := by exact hD.sub [] (by decide) rfl
        rw [hQe]
        exact W.zret (v := 1) hx hb hr rfl (fun t ht hW => ⟨⟨_, (), rfl, r4, by rw [ht]; exact hP9, va_K.moved hW.alike hK, hD9⟩, hS.F ht⟩) hS.2.2 dX7_areDeviations_36
set_option maxHeartbeats 4000000 in
set_option maxRecDepth 100000 in
theorem c_X7_thrown (l : Launch) (dC : Nat → ClassId) (dI : Nat → Nat → Nat) (cyI cyZ cyJ cyD : ClassId) (aM aMF aMT aMN aML aMU aMB aMf aMt aMn aMl aMu aMP aMD aMC aMO aMY aMS : Nat) (zH : Nat) (th : Int32) (n : Nat) (cnt : Nat) (ml : Nat) (sg : Nat) (rm : Nat) (mdg : Nat) (mnb : Nat) (mng : Bool) (lk : Nat) (gn : Int32) (gl : Int32) (gg : Int32) (nn : Int32) (nl : Int32) (nu : Int32) (hs : Int64) : Met l yX7_thrown wsX7_thrown ({ frames := 0, cells := 0, slots := 0, locals := 0 } : Room) (va_Pc [.ref aM] (fun U => U.heap.size = zH ∧ va_P (dC, dI) vwCl [(aM, .inr (7, [.int th, .int (nI n), .int (nI cnt), .ref aMF, .ref aMT, .ref aMN, .ref aML, .ref aMU, .int (nI ml), .ref aMB, .int (nI sg), .int (nI rm), .int (nI mdg), .int (nI mnb), .int (bI mng), .ref aMf, .ref aMt, .ref aMn, .ref aMl, .ref aMu, .ref aMP, .ref aMD, .int (nI lk), .ref aMC, .ref aMO, .int gn, .int gl, .int gg, .ref aMY, .int nn, .int nl, .int nu, .ref aMS, .long hs]))] U.heap ∧ va_K (dC, dI) vwCl [(cyI, .int), (cyZ, .boolean), (cyJ, .long), (cyD, .double)] U ∧ va_D (fun _ => True) [(aM, .inr (7, [.int th, .int (nI n), .int (nI cnt), .ref aMF, .ref aMT, .ref aMN, .ref aML, .ref aMU, .int (nI ml), .ref aMB, .int (nI sg), .int (nI rm), .int (nI mdg), .int (nI mnb), .int (bI mng), .ref aMf, .ref aMt, .ref aMn, .ref aMl, .ref aMu, .ref aMP, .ref aMD, .int (nI lk), .ref aMC, .ref aMO, .int gn, .int gl, .int gg, .ref aMY, .int nn, .int nl, .int nu, .ref aMS, .long hs]))])) (va_Qi (fun (r : Int32) (_ : Unit) => r = th) (fun _ t => va_P (dC, dI) vwCl [(aM, .inr (7, [.int th, .int (nI n), .int (nI cnt), .ref aMF, .ref aMT, .ref aMN, .ref aML, .ref aMU, .int (nI ml), .ref aMB, .int (nI sg), .int (nI rm), .int (nI mdg), .int (nI mnb), .int (bI mng), .ref aMf, .ref aMt, .ref aMn, .ref aMl, .ref aMu, .ref aMP, .ref aMD, .int (nI lk), .ref aMC, .ref aMO, .int gn, .int gl, .int gg, .ref aMY, .int nn, .int nl, .int nu, .ref aMS, .long hs]))] t.heap ∧ va_K (dC, dI) vwCl [(cyI, .int), (cyZ, .boolean), (cyJ, .long), (cyD, .double)] t ∧ va_D (va_A [(aM, .inr (7, [.int th, .int (nI n), .int (nI cnt), .ref aMF, .ref aMT, .ref aMN, .ref aML, .ref aMU, .int (nI ml), .ref aMB, .int (nI sg), .int (nI rm), .int (nI mdg), .int (nI mnb), .int (bI mng), .ref aMf, .ref aMt, .ref aMn, .ref aMl, .ref aMu, .ref aMP, .ref aMD, .int (nI lk), .ref aMC, .ref aMO, .int gn, .int gl, .int gg, .ref aMY, .int nn, .int nl, .int nu, .ref aMS, .long hs]))] zH) [(aM, .inr (7, [.int th, .int (nI n), .int (nI cnt), .ref aMF, .ref aMT, .ref aMN, .ref aML, .ref aMU, .int (nI ml), .ref aMB, .int (nI sg), .int (nI rm), .int (nI mdg), .int (nI mnb), .int (bI mng), .ref aMf, .ref aMt, .ref aMn, .ref aMl, .ref aMu, .ref aMP, .ref aMD, .int (nI lk), .ref aMC, .ref aMO, .int gn, .int gl, .int gg, .ref aMY, .int nn, .int nl, .int nu, .ref aMS, .long hs]))]) (va_A [(aM, .inr (7, [.int th, .int (nI n), .int (nI cnt), .ref aMF, .ref aMT, .ref aMN, .ref aML, .ref aMU, .int (nI ml), .ref aMB, .int (nI sg), .int (nI rm), .int (nI mdg), .int (nI mnb), .int (bI mng), .ref aMf, .ref aMt, .ref aMn, .ref aMl, .ref aMu, .ref aMP, .ref aMD, .int (nI lk), .ref aMC, .ref aMO, .int gn, .int gl, .int gg, .ref aMY, .int nn, .int nl, .int nu, .ref aMS, .long hs]))] zH)) 0 0 (va_A [(aM, .inr (7, [.int th, .int (nI n), .int (nI cnt), .ref aMF, .ref aMT, .ref aMN, .ref aML, .ref aMU, .int (nI ml), .ref aMB, .int (nI sg), .int (nI rm), .int (nI mdg), .int (nI mnb), .int (bI mng), .ref aMf, .ref aMt, .ref aMn, .ref aMl, .ref aMu, .ref aMP, .ref aMD, .int (nI lk), .ref aMC, .ref aMO, .int gn, .int gl, .int gg, .ref aMY, .int nn, .int nl, .int nu, .ref aMS, .long hs]))] zH) := by
  refine Met.ofW (cc := cX7_thrown) (maxL := 1) (ret := (some .int)) (by decide) rfl ?_
  intro pM eM s mM args blM mtM cM s₁ BM hml hv
  obtain ⟨rfl, hsz, hP, hK, hD0⟩ := hv
  have hx := BM.exec
  have hb := BM.bytes
  have hr := BM.returns
  have hts := atoms_spec (ws := wsX7_thrown) BM.pre
  have hown : s.vm.findClass RX7 = some mM.cls := findClass_of_methodNamed BM.named
  have hlocks := BM.notSynchronized
  have w0 := hts (.fieldLink RX7 67 "DimensionCheckerModel" "thrown" "I") (by decide +kernel)
  have iX7 : ∀ w ∈ wsX70, w ∈ wsX7_thrown := by decide +kernel
  subst hsz
  have hD := hD0.self (sz := s.heap.size)
  obtain ⟨Q, hQe⟩ : ∃ Q : State → Prop, Q = MQ blM (va_Qi (fun (r : Int32) (_ : Unit) => r = th) (fun _ t => va_P (dC, dI) vwCl [(aM, .inr (7, [.int th, .int (nI n), .int (nI cnt), .ref aMF, .ref aMT, .ref aMN, .ref aML, .ref aMU, .int (nI ml), .ref aMB, .int (nI sg), .int (nI rm), .int (nI mdg), .int (nI mnb), .int (bI mng), .ref aMf, .ref aMt, .ref aMn, .ref aMl, .ref aMu, .ref aMP, .ref aMD, .int (nI lk), .ref aMC, .ref aMO, .int gn, .int gl, .int gg, .ref aMY, .int nn, .int nl, .int nu, .ref aMS, .long hs]))] t.heap ∧ va_K (dC, dI) vwCl [(cyI, .int), (cyZ, .boolean), (cyJ, .long), (cyD, .double)] t ∧ va_D (va_A [(aM, .inr (7, [.int th, .int (nI n), .int (nI cnt), .ref aMF, .ref aMT, .ref aMN, .ref aML, .ref aMU, .int (nI ml), .ref aMB, .int (nI sg), .int (nI rm), .int (nI mdg), .int (nI mnb), .int (bI mng), .ref aMf, .ref aMt, .ref aMn, .ref aMl, .ref aMu, .ref aMP, .ref aMD, .int (nI lk), .ref aMC, .ref aMO, .int gn, .int gl, .int gg, .ref aMY, .int nn, .int nl, .int nu, .ref aMS, .long hs]))] s.heap.size) [(aM, .inr (7, [.int th, .int (nI n), .int (nI cnt), .ref aMF, .ref aMT, .ref aMN, .ref aML, .ref aMU, .int (nI ml), .ref aMB, .int (nI sg), .int (nI rm), .int (nI mdg), .int (nI mnb), .int (bI mng), .ref aMf, .ref aMt, .ref aMn, .ref aMl, .ref aMu, .ref aMP, .ref aMD, .int (nI lk), .ref aMC, .ref aMO, .int gn, .int gl, .int gg, .ref aMY, .int nn, .int nl, .int nu, .ref aMS, .long hs]))]) (va_A [(aM, .inr (7, [.int th, .int (nI n), .int (nI cnt), .ref aMF, .ref aMT, .ref aMN, .ref aML, .ref aMU, .int (nI ml), .ref aMB, .int (nI sg), .int (nI rm), .int (nI mdg), .int (nI mnb), .int (bI mng), .ref aMf, .ref aMt, .ref aMn, .ref aMl, .ref aMu, .ref aMP, .ref aMD, .int (nI lk), .ref aMC, .ref aMO, .int gn, .int gl, .int gg, .ref aMY, .int nn, .int nl, .int nu, .ref aMS, .long hs]))] s.heap.size)) ([.ref aM] : List Value).toArray s 0 0 (va_A [(aM, .inr (7, [.int th, .int (nI n), .int (nI cnt), .ref aMF, .ref aMT, .ref aMN, .ref aML, .ref aMU, .int (nI ml), .ref aMB, .int (nI sg), .int (nI rm), .int (nI mdg), .int (nI mnb), .int (bI mng), .ref aMf, .ref aMt, .ref aMn, .ref aMl, .ref aMu, .ref aMP, .ref aMD, .int (nI lk), .ref aMC, .ref aMO, .int gn, .int gl, .int gg, .ref aMY, .int nn, .int nl, .int nu, .ref aMS, .long hs]))] s.heap.size) := ⟨_, rfl⟩
  rw [← hQe]
  generalize hAe : va_A [(aM, .inr (7, [.int th, .int (nI n), .int (nI cnt), .ref aMF, .ref aMT, .ref aMN, .ref aML, .ref aMU, .int (nI ml), .ref aMB, .int (nI sg), .int (nI rm), .int (nI mdg), .int (nI mnb), .int (bI mng), .ref aMf, .ref aMt, .ref aMn, .ref aMl, .ref aMu, .ref aMP, .ref aMD, .int (nI lk), .ref aMC, .ref aMO, .int gn, .int gl, .int gg, .ref aMY, .int nn, .int nl, .int nu, .ref aMS, .long hs]))] s.heap.size = A at hD hQe
  have hA : ∀ q : Nat, s.heap.size ≤ q → A q := fun q h => by rw [← hAe]; exact Or.inr h
  obtain ⟨H, hHe⟩ : ∃ H : Heap, H = s.heap := ⟨_, rfl⟩
  have hS : va_S A s.heap H [] := by rw [hHe]; exact va_S.rf
  rw [← hHe] at hP ⊢
  have hl := lv_entry ([.ref aM]) (n := 1) (Nat.le_of_ble_eq_true rfl)
  rw [lg_entry_eq]
  generalize (lg_sl ([.ref aM]) ++ List.replicate (1 - (lg_sl ([.ref aM])).length) Slot.unset).toArray = ls at hl ⊢
  have hl : lv_has ls 1 [(0, .ref aM)] := hl
  refine lv_aload_n hx hb dX7_thrown_0 rfl (lv_at hl 0 rfl) ?_
  refine va_get (D := (dC, dI)) (ci := 7) (v := .int th) (C := RX7) (T := TX7) (N := 34) hx hb hts iX7 hown hK hP 0 rfl rfl 0 (by decide) w0 (fun _ h9 => h9) rfl dX7_thrown_1 ?_
  have r1 : th = th := by rfl
  have hP9 : va_P (dC, dI) vwCl [(aM, .inr (7, [.int th, .int (nI n), .int (nI cnt), .ref aMF, .ref aMT, .ref aMN, .ref aML, .ref aMU, .int (nI ml), .ref aMB, .int (nI sg), .int (nI rm), .int (nI mdg), .int (nI mnb), .int (bI mng), .ref aMf, .ref aMt, .ref aMn, .ref aMl, .ref aMu, .ref aMP, .ref aMD, .int (nI lk), .ref aMC, .ref aMO, .int gn, .int gl, .int gg, .ref aMY, .int nn, .int nl, .int nu, .ref aMS, .long hs]))] H := by exact hP.sub [0] rfl
  have hD9 : va_D A [(aM, .inr (7, [.int th, .int (nI n), .int (nI cnt), .ref aMF, .ref aMT, .ref aMN, .ref aML, .ref aMU, .int (nI ml), .ref aMB, .int (nI sg), .int (nI rm), .int (nI mdg), .int (nI mnb), .int (bI mng), .ref aMf, .ref aMt, .ref aMn, .ref aMl, .ref aMu, .ref aMP, .ref aMD, .int (nI lk), .ref aMC, .ref aMO, .int gn, .int gl, .int gg, .ref aMY, .int nn, .int nl, .int nu, .ref aMS, .long hs]))] := by exact hD.sub [0] (by decide) rfl
  rw [hQe]
  exact W.iret (v := th) hx hb hr (fun t ht hW => ⟨⟨_, (), rfl, r1, by rw [ht]; exact hP9, va_K.moved hW.alike hK, hD9⟩, hS.F ht⟩) hS.2.2 dX7_thrown_4
set_option maxHeartbeats 4000000 in
set_option maxRecDepth 100000 in
theorem c_X7_isFace (l : Launch) (dC : Nat → ClassId) (dI : Nat → Nat → Nat) (cyI cyZ cyJ cyD : ClassId) (aM aMF aMT aMN aML aMU aMB aMf aMt aMn aMl aMu aMP aMD aMC aMO aMY aMS : Nat) (zH : Nat) (th : Int32) (n : Nat) (cnt : Nat) (ml : Nat) (sg : Nat) (rm : Nat) (mdg : Nat) (mnb : Nat) (mng : Bool) (lk : Nat) (gn : Int32) (gl : Int32) (gg : Int32) (nn : Int32) (nl : Int32) (nu : Int32) (hs : Int64) (x : Int32) (hn1 : n < 1000) : Met l yX7_isFace wsX7_isFace ({ frames := 1, cells := 0, slots := 0, locals := 22 } : Room) (va_Pc [.ref aM, .int x] (fun U => U.heap.size = zH ∧ va_P (dC, dI) vwCl [(aM, .inr (7, [.int th, .int (nI n), .int (nI cnt), .ref aMF, .ref aMT, .ref aMN, .ref aML, .ref aMU, .int (nI ml), .ref aMB, .int (nI sg), .int (nI rm), .int (nI mdg), .int (nI mnb), .int (bI mng), .ref aMf, .ref aMt, .ref aMn, .ref aMl, .ref aMu, .ref aMP, .ref aMD, .int (nI lk), .ref aMC, .ref aMO, .int gn, .int gl, .int gg, .ref aMY, .int nn, .int nl, .int nu, .ref aMS, .long hs]))] U.heap ∧ va_K (dC, dI) vwCl [(cyI, .int), (cyZ, .boolean), (cyJ, .long), (cyD, .double)] U ∧ va_D (fun _ => True) [(aM, .inr (7, [.int th, .int (nI n), .int (nI cnt), .ref aMF, .ref aMT, .ref aMN, .ref aML, .ref aMU, .int (nI ml), .ref aMB, .int (nI sg), .int (nI rm), .int (nI mdg), .int (nI mnb), .int (bI mng), .ref aMf, .ref aMt, .ref aMn, .ref aMl, .ref aMu, .ref aMP, .ref aMD, .int (nI lk), .ref aMC, .ref aMO, .int gn, .int gl, .int gg, .ref aMY, .int nn, .int nl, .int nu, .ref aMS, .long hs]))])) (va_Qi (fun (r : Int32) (_ : Unit) => r = bI (inB x n)) (fun _ t => va_P (dC, dI) vwCl [(aM, .inr (7, [.int th, .int (nI n), .int (nI cnt), .ref aMF, .ref aMT, .ref aMN, .ref aML, .ref aMU, .int (nI ml), .ref aMB, .int (nI sg), .int (nI rm), .int (nI mdg), .int (nI mnb), .int (bI mng), .ref aMf, .ref aMt, .ref aMn, .ref aMl, .ref aMu, .ref aMP, .ref aMD, .int (nI lk), .ref aMC, .ref aMO, .int gn, .int gl, .int gg, .ref aMY, .int nn, .int nl, .int nu, .ref aMS, .long hs]))] t.heap ∧ va_K (dC, dI) vwCl [(cyI, .int), (cyZ, .boolean), (cyJ, .long), (cyD, .double)] t ∧ va_D (va_A [(aM, .inr (7, [.int th, .int (nI n), .int (nI cnt), .ref aMF, .ref aMT, .ref aMN, .ref aML, .ref aMU, .int (nI ml), .ref aMB, .int (nI sg), .int (nI rm), .int (nI mdg), .int (nI mnb), .int (bI mng), .ref aMf, .ref aMt, .ref aMn, .ref aMl, .ref aMu, .ref aMP, .ref aMD, .int (nI lk), .ref aMC, .ref aMO, .int gn, .int gl, .int gg, .ref aMY, .int nn, .int nl, .int nu, .ref aMS, .long hs]))] zH) [(aM, .inr (7, [.int th, .int (nI n), .int (nI cnt), .ref aMF, .ref aMT, .ref aMN, .ref aML, .ref aMU, .int (nI ml), .ref aMB, .int (nI sg), .int (nI rm), .int (nI mdg), .int (nI mnb), .int (bI mng), .ref aMf, .ref aMt, .ref aMn, .ref aMl, .ref aMu, .ref aMP, .ref aMD, .int (nI lk), .ref aMC, .ref aMO, .int gn, .int gl, .int gg, .ref aMY, .int nn, .int nl, .int nu, .ref aMS, .long hs]))]) (va_A [(aM, .inr (7, [.int th, .int (nI n), .int (nI cnt), .ref aMF, .ref aMT, .ref aMN, .ref aML, .ref aMU, .int (nI ml), .ref aMB, .int (nI sg), .int (nI rm), .int (nI mdg), .int (nI mnb), .int (bI mng), .ref aMf, .ref aMt, .ref aMn, .ref aMl, .ref aMu, .ref aMP, .ref aMD, .int (nI lk), .ref aMC, .ref aMO, .int gn, .int gl, .int gg, .ref aMY, .int nn, .int nl, .int nu, .ref aMS, .long hs]))] zH)) 0 0 (va_A [(aM, .inr (7, [.int th, .int (nI n), .int (nI cnt), .ref aMF, .ref aMT, .ref aMN, .ref aML, .ref aMU, .int (nI ml), .ref aMB, .int (nI sg), .int (nI rm), .int (nI mdg), .int (nI mnb), .int (bI mng), .ref aMf, .ref aMt, .ref aMn, .ref aMl, .ref aMu, .ref aMP, .ref aMD, .int (nI lk), .ref aMC, .ref aMO, .int gn, .int gl, .int gg, .ref aMY, .int nn, .int nl, .int nu, .ref aMS, .long hs]))] zH) := by
  refine Met.ofW (cc := cX7_isFace) (maxL := 2) (ret := (some .boolean)) (by decide) rfl ?_
  intro pM eM s mM args blM mtM cM s₁ BM hml hv
  obtain ⟨rfl, hsz, hP, hK, hD0⟩ := hv
  have hx := BM.exec
  have hb := BM.bytes
  have hr := BM.returns
  have hts := atoms_spec (ws := wsX7_isFace) BM.pre
  have hown : s.vm.findClass RX7 = some mM.cls := findClass_of_methodNamed BM.named
  have hlocks := BM.notSynchronized
  have w0 := hts (.fieldLink RX7 7 "DimensionCheckerModel" "faces" "I") (by decide +kernel)
  have iX7 : ∀ w ∈ wsX70, w ∈ wsX7_isFace := by decide +kernel
  subst hsz
  have hD := hD0.self (sz := s.heap.size)
  obtain ⟨Q, hQe⟩ : ∃ Q : State → Prop, Q = MQ blM (va_Qi (fun (r : Int32) (_ : Unit) => r = bI (inB x n)) (fun _ t => va_P (dC, dI) vwCl [(aM, .inr (7, [.int th, .int (nI n), .int (nI cnt), .ref aMF, .ref aMT, .ref aMN, .ref aML, .ref aMU, .int (nI ml), .ref aMB, .int (nI sg), .int (nI rm), .int (nI mdg), .int (nI mnb), .int (bI mng), .ref aMf, .ref aMt, .ref aMn, .ref aMl, .ref aMu, .ref aMP, .ref aMD, .int (nI lk), .ref aMC, .ref aMO, .int gn, .int gl, .int gg, .ref aMY, .int nn, .int nl, .int nu, .ref aMS, .long hs]))] t.heap ∧ va_K (dC, dI) vwCl [(cyI, .int), (cyZ, .boolean), (cyJ, .long), (cyD, .double)] t ∧ va_D (va_A [(aM, .inr (7, [.int th, .int (nI n), .int (nI cnt), .ref aMF, .ref aMT, .ref aMN, .ref aML, .ref aMU, .int (nI ml), .ref aMB, .int (nI sg), .int (nI rm), .int (nI mdg), .int (nI mnb), .int (bI mng), .ref aMf, .ref aMt, .ref aMn, .ref aMl, .ref aMu, .ref aMP, .ref aMD, .int (nI lk), .ref aMC, .ref aMO, .int gn, .int gl, .int gg, .ref aMY, .int nn, .int nl, .int nu, .ref aMS, .long hs]))] s.heap.size) [(aM, .inr (7, [.int th, .int (nI n), .int (nI cnt), .ref aMF, .ref aMT, .ref aMN, .ref aML, .ref aMU, .int (nI ml), .ref aMB, .int (nI sg), .int (nI rm), .int (nI mdg), .int (nI mnb), .int (bI mng), .ref aMf, .ref aMt, .ref aMn, .ref aMl, .ref aMu, .ref aMP, .ref aMD, .int (nI lk), .ref aMC, .ref aMO, .int gn, .int gl, .int gg, .ref aMY, .int nn, .int nl, .int nu, .ref aMS, .long hs]))]) (va_A [(aM, .inr (7, [.int th, .int (nI n), .int (nI cnt), .ref aMF, .ref aMT, .ref aMN, .ref aML, .ref aMU, .int (nI ml), .ref aMB, .int (nI sg), .int (nI rm), .int (nI mdg), .int (nI mnb), .int (bI mng), .ref aMf, .ref aMt, .ref aMn, .ref aMl, .ref aMu, .ref aMP, .ref aMD, .int (nI lk), .ref aMC, .ref aMO, .int gn, .int gl, .int gg, .ref aMY, .int nn, .int nl, .int nu, .ref aMS, .long hs]))] s.heap.size)) ([.ref aM, .int x] : List Value).toArray s 0 0 (va_A [(aM, .inr (7, [.int th, .int (nI n), .int (nI cnt), .ref aMF, .ref aMT, .ref aMN, .ref aML, .ref aMU, .int (nI ml), .ref aMB, .int (nI sg), .int (nI rm), .int (nI mdg), .int (nI mnb), .int (bI mng), .ref aMf, .ref aMt, .ref aMn, .ref aMl, .ref aMu, .ref aMP, .ref aMD, .int (nI lk), .ref aMC, .ref aMO, .int gn, .int gl, .int gg, .ref aMY, .int nn, .int nl, .int nu, .ref aMS, .long hs]))] s.heap.size) := ⟨_, rfl⟩
  rw [← hQe]
  generalize hAe : va_A [(aM, .inr (7, [.int th, .int (nI n), .int (nI cnt), .ref aMF, .ref aMT, .ref aMN, .ref aML, .ref aMU, .int (nI ml), .ref aMB, .int (nI sg), .int (nI rm), .int (nI mdg), .int (nI mnb), .int (bI mng), .ref aMf, .ref aMt, .ref aMn, .ref aMl, .ref aMu, .ref aMP, .ref aMD, .int (nI lk), .ref aMC, .ref aMO, .int gn, .int gl, .int gg, .ref aMY, .int nn, .int nl, .int nu, .ref aMS, .long hs]))] s.heap.size = A at hD hQe
  have hA : ∀ q : Nat, s.heap.size ≤ q → A q := fun q h => by rw [← hAe]; exact Or.inr h
  obtain ⟨H, hHe⟩ : ∃ H : Heap, H = s.heap := ⟨_, rfl⟩
  have hS : va_S A s.heap H [] := by rw [hHe]; exact va_S.rf
  rw [← hHe] at hP ⊢
  have hl := lv_entry ([.ref aM, .int x]) (n := 2) (Nat.le_of_ble_eq_true rfl)
  rw [lg_entry_eq]
  generalize (lg_sl ([.ref aM, .int x]) ++ List.replicate (2 - (lg_sl ([.ref aM, .int x])).length) Slot.unset).toArray = ls at hl ⊢
  have hl : lv_has ls 2 [(0, .ref aM), (1, .int x)] := hl
  refine lv_iload_n hx hb dX7_isFace_0 rfl (lv_at hl 1 rfl) ?_
  refine lv_iconst (v := 0) hx hb dX7_isFace_1 (by decide) ?_
  refine lv_aload_n hx hb dX7_isFace_2 rfl (lv_at hl 0 rfl) ?_
  refine va_get (D := (dC, dI)) (ci := 7) (v := .int (nI n)) (C := RX7) (T := TX7) (N := 34) hx hb hts iX7 hown hK hP 0 rfl rfl 1 (by decide) w0 (fun _ h9 => h9) rfl dX7_isFace_3 ?_
  refine lv_iconst (v := 1) hx hb dX7_isFace_6 (by decide) ?_
  refine lv_isub hx hb dX7_isFace_7 ?_
  have hPc := hP.sub (ws' := []) [] rfl
  have hDc := hD.sub (ws' := []) [] (by decide) rfl
  have hFc := va_free (wc := []) hD hS hA [] rfl
  refine va_calli (va_runS (As := [.int x, .int 0, .int ((nI n) - 1)]) (rest := []) ⟨hx, hb, hml, hown, hts⟩ (c_X7_within l dC dI cyI cyZ cyJ cyD H.size x 0 ((nI n) - 1)) (va_cwS 3 hts gX7_isFace_X7_within rfl rfl rfl (by decide +kernel) ⟨Nat.le_of_ble_eq_true rfl, Nat.le_of_ble_eq_true rfl⟩) ⟨fun a U g mk q => by obtain ⟨q0, q1, qP, qK, qD⟩ := q; exact ⟨q0, q1, qP, va_K.moved (u := U) (U := U.calling g mk a) (Vm.Alike.refl U.vm) qK, qD⟩, fun U hU hW => ⟨rfl, by rw [hU], by rw [hU]; exact hPc, va_K.moved hW.alike hK, hDc.weaken (fun _ _ _ _ => trivial)⟩⟩ rfl rfl hl.1 rfl (lv_room (Nat.le_of_ble_eq_true rfl)) dX7_isFace_8 ⟨Nat.le_of_ble_eq_true rfl, Nat.le_of_ble_eq_true rfl⟩) hS (fun q _ h => hFc q h) hFc (fun r u t H1 locs ht hvm hw hB hz1 hk1 hS => ?_)
  obtain rfl := hw
  obtain ⟨hP1, hK1, hD1⟩ := hB
  rw [ht] at hP1
  obtain ⟨hP, hD⟩ := va_join (wr := [(aM, .inr (7, [.int th, .int (nI n), .int (nI cnt), .ref aMF, .ref aMT, .ref aMN, .ref aML, .ref aMU, .int (nI ml), .ref aMB, .int (nI sg), .int (nI rm), .int (nI mdg), .int (nI mnb), .int (bI mng), .ref aMf, .ref aMt, .ref aMn, .ref aMl, .ref aMu, .ref aMP, .ref aMD, .int (nI lk), .ref aMC, .ref aMO, .int gn, .int gl, .int gg, .ref aMY, .int nn, .int nl, .int nu, .ref aMS, .long hs]))]) (w1 := []) hP hD [] [0] rfl rfl (by decide) (by decide) hk1 hFc hP1 hD1
  clear hP1 hD1 hK1 hPc hDc hFc hk1 hz1 hvm ht u t
  generalize H1 = H at hP hS ⊢
  have hP : va_P (dC, dI) vwCl [(aM, .inr (7, [.int th, .int (nI n), .int (nI cnt), .ref aMF, .ref aMT, .ref aMN, .ref aML, .ref aMU, .int (nI ml), .ref aMB, .int (nI sg), .int (nI rm), .int (nI mdg), .int (nI mnb), .int (bI mng), .ref aMf, .ref aMt, .ref aMn, .ref aMl, .ref aMu, .ref aMP, .ref aMD, .int (nI lk), .ref aMC, .ref aMO, .int gn, .int gl, .int gg, .ref aMY, .int nn, .int nl, .int nu, .ref aMS, .long hs]))] H := hP
  have hD : va_D A [(aM, .inr (7, [.int th, .int (nI n), .int (nI cnt), .ref aMF, .ref aMT, .ref aMN, .ref aML, .ref aMU, .int (nI ml), .ref aMB, .int (nI sg), .int (nI rm), .int (nI mdg), .int (nI mnb), .int (bI mng), .ref aMf, .ref aMt, .ref aMn, .ref aMl, .ref aMu, .ref aMP, .ref aMD, .int (nI lk), .ref aMC, .ref aMO, .int gn, .int gl, .int gg, .ref aMY, .int nn, .int nl, .int nu, .ref aMS, .long hs]))] := hD
  have r1 : (bI (wtn x 0 ((nI n) - 1))) = (bI (inB x n)) := by rw [wtn_in hn1]
  have hP9 : va_P (dC, dI) vwCl [(aM, .inr (7, [.int th, .int (nI n), .int (nI cnt), .ref aMF, .ref aMT, .ref aMN, .ref aML, .ref aMU, .int (nI ml), .ref aMB, .int (nI sg), .int (nI rm), .int (nI mdg), .int (nI mnb), .int (bI mng), .ref aMf, .ref aMt, .ref aMn, .ref aMl, .ref aMu, .ref aMP, .ref aMD, .int (nI lk), .ref aMC, .ref aMO, .int gn, .int gl, .int gg, .ref aMY, .int nn, .int nl, .int nu, .ref aMS, .long hs]))] H := by exact hP.sub [0] rfl
  have hD9 : va_D A [(aM, .inr (7, [.int th, .int (nI n), .int (nI cnt), .ref aMF, .ref aMT, .ref aMN, .ref aML, .ref aMU, .int (nI ml), .ref aMB, .int (nI sg), .int (nI rm), .int (nI mdg), .int (nI mnb), .int (bI mng), .ref aMf, .ref aMt, .ref aMn, .ref aMl, .ref aMu, .ref aMP, .ref aMD, .int (nI lk), .ref aMC, .ref aMO, .int gn, .int gl, .int gg, .ref aMY, .int nn, .int nl, .int nu, .ref aMS, .long hs]))] := by exact hD.sub [0] (by decide) rfl
  rw [hQe]
  exact W.zret (v := bI (wtn x 0 ((nI n) - 1))) hx hb hr (bI_nar _) (fun t ht hW => ⟨⟨_, (), rfl, r1, by rw [ht]; exact hP9, va_K.moved hW.alike hK, hD9⟩, hS.F ht⟩) hS.2.2 dX7_isFace_11
set_option maxHeartbeats 4000000 in
set_option maxRecDepth 100000 in
theorem c_X7_isDimension (l : Launch) (dC : Nat → ClassId) (dI : Nat → Nat → Nat) (cyI cyZ cyJ cyD : ClassId) (aM aMF aMT aMN aML aMU aMB aMf aMt aMn aMl aMu aMP aMD aMC aMO aMY aMS : Nat) (zH : Nat) (th : Int32) (n : Nat) (cnt : Nat) (ml : Nat) (sg : Nat) (rm : Nat) (mdg : Nat) (mnb : Nat) (mng : Bool) (lk : Nat) (gn : Int32) (gl : Int32) (gg : Int32) (nn : Int32) (nl : Int32) (nu : Int32) (hs : Int64) (x : Int32) (hc1 : cnt < 1000) : Met l yX7_isDimension wsX7_isDimension ({ frames := 1, cells := 0, slots := 0, locals := 22 } : Room) (va_Pc [.ref aM, .int x] (fun U => U.heap.size = zH ∧ va_P (dC, dI) vwCl [(aM, .inr (7, [.int th, .int (nI n), .int (nI cnt), .ref aMF, .ref aMT, .ref aMN, .ref aML, .ref aMU, .int (nI ml), .ref aMB, .int (nI sg), .int (nI rm), .int (nI mdg), .int (nI mnb), .int (bI mng), .ref aMf, .ref aMt, .ref aMn, .ref aMl, .ref aMu, .ref aMP, .ref aMD, .int (nI lk), .ref aMC, .ref aMO, .int gn, .int gl, .int gg, .ref aMY, .int nn, .int nl, .int nu, .ref aMS, .long hs]))] U.heap ∧ va_K (dC, dI) vwCl [(cyI, .int), (cyZ, .boolean), (cyJ, .long), (cyD, .double)] U ∧ va_D (fun _ => True) [(aM, .inr (7, [.int th, .int (nI n), .int (nI cnt), .ref aMF, .ref aMT, .ref aMN, .ref aML, .ref aMU, .int (nI ml), .ref aMB, .int (nI sg), .int (nI rm), .int (nI mdg), .int (nI mnb), .int (bI mng), .ref aMf, .ref aMt, .ref aMn, .ref aMl, .ref aMu, .ref aMP, .ref aMD, .int (nI lk), .ref aMC, .ref aMO, .int gn, .int gl, .int gg, .ref aMY, .int nn, .int nl, .int nu, .ref aMS, .long hs]))])) (va_Qi (fun (r : Int32) (_ : Unit) => r = bI (inB x cnt)) (fun _ t => va_P (dC, dI) vwCl [(aM, .inr (7, [.int th, .int (nI n), .int (nI cnt), .ref aMF, .ref aMT, .ref aMN, .ref aML, .ref aMU, .int (nI ml), .ref aMB, .int (nI sg), .int (nI rm), .int (nI mdg), .int (nI mnb), .int (bI mng), .ref aMf, .ref aMt, .ref aMn, .ref aMl, .ref aMu, .ref aMP, .ref aMD, .int (nI lk), .ref aMC, .ref aMO, .int gn, .int gl, .int gg, .ref aMY, .int nn, .int nl, .int nu, .ref aMS, .long hs]))] t.heap ∧ va_K (dC, dI) vwCl [(cyI, .int), (cyZ, .boolean), (cyJ, .long), (cyD, .double)] t ∧ va_D (va_A [(aM, .inr (7, [.int th, .int (nI n), .int (nI cnt), .ref aMF, .ref aMT, .ref aMN, .ref aML, .ref aMU, .int (nI ml), .ref aMB, .int (nI sg), .int (nI rm), .int (nI mdg), .int (nI mnb), .int (bI mng), .ref aMf, .ref aMt, .ref aMn, .ref aMl, .ref aMu, .ref aMP, .ref aMD, .int (nI lk), .ref aMC, .ref aMO, .int gn, .int gl, .int gg, .ref aMY, .int nn, .int nl, .int nu, .ref aMS, .long hs]))] zH) [(aM, .inr (7, [.int th, .int (nI n), .int (nI cnt), .ref aMF, .ref aMT, .ref aMN, .ref aML, .ref aMU, .int (nI ml), .ref aMB, .int (nI sg), .int (nI rm), .int (nI mdg), .int (nI mnb), .int (bI mng), .ref aMf, .ref aMt, .ref aMn, .ref aMl, .ref aMu, .ref aMP, .ref aMD, .int (nI lk), .ref aMC, .ref aMO, .int gn, .int gl, .int gg, .ref aMY, .int nn, .int nl, .int nu, .ref aMS, .long hs]))]) (va_A [(aM, .inr (7, [.int th, .int (nI n), .int (nI cnt), .ref aMF, .ref aMT, .ref aMN, .ref aML, .ref aMU, .int (nI ml), .ref aMB, .int (nI sg), .int (nI rm), .int (nI mdg), .int (nI mnb), .int (bI mng), .ref aMf, .ref aMt, .ref aMn, .ref aMl, .ref aMu, .ref aMP, .ref aMD, .int (nI lk), .ref aMC, .ref aMO, .int gn, .int gl, .int gg, .ref aMY, .int nn, .int nl, .int nu, .ref aMS, .long hs]))] zH)) 0 0 (va_A [(aM, .inr (7, [.int th, .int (nI n), .int (nI cnt), .ref aMF, .ref aMT, .ref aMN, .ref aML, .ref aMU, .int (nI ml), .ref aMB, .int (nI sg), .int (nI rm), .int (nI mdg), .int (nI mnb), .int (bI mng), .ref aMf, .ref aMt, .ref aMn, .ref aMl, .ref aMu, .ref aMP, .ref aMD, .int (nI lk), .ref aMC, .ref aMO, .int gn, .int gl, .int gg, .ref aMY, .int nn, .int nl, .int nu, .ref aMS, .long hs]))] zH) := by
  refine Met.ofW (cc := cX7_isDimension) (maxL := 2) (ret := (some .boolean)) (by decide) rfl ?_
  intro pM eM s mM args blM mtM cM s₁ BM hml hv
  obtain ⟨rfl, hsz, hP, hK, hD0⟩ := hv
  have hx := BM.exec
  have hb := BM.bytes
  have hr := BM.returns
  have hts := atoms_spec (ws := wsX7_isDimension) BM.pre
  have hown : s.vm.findClass RX7 = some mM.cls := findClass_of_methodNamed BM.named
  have hlocks := BM.notSynchronized
  have w0 := hts (.fieldLink RX7 74 "DimensionCheckerModel" "many" "I") (by decide +kernel)
  have iX7 : ∀ w ∈ wsX70, w ∈ wsX7_isDimension := by decide +kernel
  subst hsz
  have hD := hD0.self (sz := s.heap.size)
  obtain ⟨Q, hQe⟩ : ∃ Q : State → Prop, Q = MQ blM (va_Qi (fun (r : Int32) (_ : Unit) => r = bI (inB x cnt)) (fun _ t => va_P (dC, dI) vwCl [(aM, .inr (7, [.int th, .int (nI n), .int (nI cnt), .ref aMF, .ref aMT, .ref aMN, .ref aML, .ref aMU, .int (nI ml), .ref aMB, .int (nI sg), .int (nI rm), .int (nI mdg), .int (nI mnb), .int (bI mng), .ref aMf, .ref aMt, .ref aMn, .ref aMl, .ref aMu, .ref aMP, .ref aMD, .int (nI lk), .ref aMC, .ref aMO, .int gn, .int gl, .int gg, .ref aMY, .int nn, .int nl, .int nu, .ref aMS, .long hs]))] t.heap ∧ va_K (dC, dI) vwCl [(cyI, .int), (cyZ, .boolean), (cyJ, .long), (cyD, .double)] t ∧ va_D (va_A [(aM, .inr (7, [.int th, .int (nI n), .int (nI cnt), .ref aMF, .ref aMT, .ref aMN, .ref aML, .ref aMU, .int (nI ml), .ref aMB, .int (nI sg), .int (nI rm), .int (nI mdg), .int (nI mnb), .int (bI mng), .ref aMf, .ref aMt, .ref aMn, .ref aMl, .ref aMu, .ref aMP, .ref aMD, .int (nI lk), .ref aMC, .ref aMO, .int gn, .int gl, .int gg, .ref aMY, .int nn, .int nl, .int nu, .ref aMS, .long hs]))] s.heap.size) [(aM, .inr (7, [.int th, .int (nI n), .int (nI cnt), .ref aMF, .ref aMT, .ref aMN, .ref aML, .ref aMU, .int (nI ml), .ref aMB, .int (nI sg), .int (nI rm), .int (nI mdg), .int (nI mnb), .int (bI mng), .ref aMf, .ref aMt, .ref aMn, .ref aMl, .ref aMu, .ref aMP, .ref aMD, .int (nI lk), .ref aMC, .ref aMO, .int gn, .int gl, .int gg, .ref aMY, .int nn, .int nl, .int nu, .ref aMS, .long hs]))]) (va_A [(aM, .inr (7, [.int th, .int (nI n), .int (nI cnt), .ref aMF, .ref aMT, .ref aMN, .ref aML, .ref aMU, .int (nI ml), .ref aMB, .int (nI sg), .int (nI rm), .int (nI mdg), .int (nI mnb), .int (bI mng), .ref aMf, .ref aMt, .ref aMn, .ref aMl, .ref aMu, .ref aMP, .ref aMD, .int (nI lk), .ref aMC, .ref aMO, .int gn, .int gl, .int gg, .ref aMY, .int nn, .int nl, .int nu, .ref aMS, .long hs]))] s.heap.size)) ([.ref aM, .int x] : List Value).toArray s 0 0 (va_A [(aM, .inr (7, [.int th, .int (nI n), .int (nI cnt), .ref aMF, .ref aMT, .ref aMN, .ref aML, .ref aMU, .int (nI ml), .ref aMB, .int (nI sg), .int (nI rm), .int (nI mdg), .int (nI mnb), .int (bI mng), .ref aMf, .ref aMt, .ref aMn, .ref aMl, .ref aMu, .ref aMP, .ref aMD, .int (nI lk), .ref aMC, .ref aMO, .int gn, .int gl, .int gg, .ref aMY, .int nn, .int nl, .int nu, .ref aMS, .long hs]))] s.heap.size) := ⟨_, rfl⟩
  rw [← hQe]
  generalize hAe : va_A [(aM, .inr (7, [.int th, .int (nI n), .int (nI cnt), .ref aMF, .ref aMT, .ref aMN, .ref aML, .ref aMU, .int (nI ml), .ref aMB, .int (nI sg), .int (nI rm), .int (nI mdg), .int (nI mnb), .int (bI mng), .ref aMf, .ref aMt, .ref aMn, .ref aMl, .ref aMu, .ref aMP, .ref aMD, .int (nI lk), .ref aMC, .ref aMO, .int gn, .int gl, .int gg, .ref aMY, .int nn, .int nl, .int nu, .ref aMS, .long hs]))] s.heap.size = A at hD hQe
  have hA : ∀ q : Nat, s.heap.size ≤ q → A q := fun q h => by rw [← hAe]; exact Or.inr h
  obtain ⟨H, hHe⟩ : ∃ H : Heap, H = s.heap := ⟨_, rfl⟩
  have hS : va_S A s.heap H [] := by rw [hHe]; exact va_S.rf
  rw [← hHe] at hP ⊢
  have hl := lv_entry ([.ref aM, .int x]) (n := 2) (Nat.le_of_ble_eq_true rfl)
  rw [lg_entry_eq]
  generalize (lg_sl ([.ref aM, .int x]) ++ List.replicate (2 - (lg_sl ([.ref aM, .int x])).length) Slot.unset).toArray = ls at hl ⊢
  have hl : lv_has ls 2 [(0, .ref aM), (1, .int x)] := hl
  refine lv_iload_n hx hb dX7_isDimension_0 rfl (lv_at hl 1 rfl) ?_
  refine lv_iconst (v := 0) hx hb dX7_isDimension_1 (by decide) ?_
  refine lv_aload_n hx hb dX7_isDimension_2 rfl (lv_at hl 0 rfl) ?_
  refine va_get (D := (dC, dI)) (ci := 7) (v := .int (nI cnt)) (C := RX7) (T := TX7) (N := 34) hx hb hts iX7 hown hK hP 0 rfl rfl 2 (by decide) w0 (fun _ h9 => h9) rfl dX7_isDimension_3 ?_
  refine lv_iconst (v := 1) hx hb dX7_isDimension_6 (by decide) ?_
  refine lv_isub hx hb dX7_isDimension_7 ?_
  have hPc := hP.sub (ws' := []) [] rfl
  have hDc := hD.sub (ws' := []) [] (by decide) rfl
  have hFc := va_free (wc := []) hD hS hA [] rfl
  refine va_calli (va_runS (As := [.int x, .int 0, .int ((nI cnt) - 1)]) (rest := []) ⟨hx, hb, hml, hown, hts⟩ (c_X7_within l dC dI cyI cyZ cyJ cyD H.size x 0 ((nI cnt) - 1)) (va_cwS 3 hts gX7_isDimension_X7_within rfl rfl rfl (by decide +kernel) ⟨Nat.le_of_ble_eq_true rfl, Nat.le_of_ble_eq_true rfl⟩) ⟨fun a U g mk q => by obtain ⟨q0, q1, qP, qK, qD⟩ := q; exact ⟨q0, q1, qP, va_K.moved (u := U) (U := U.calling g mk a) (Vm.Alike.refl U.vm) qK, qD⟩, fun U hU hW => ⟨rfl, by rw [hU], by rw [hU]; exact hPc, va_K.moved hW.alike hK, hDc.weaken (fun _ _ _ _ => trivial)⟩⟩ rfl rfl hl.1 rfl (lv_room (Nat.le_of_ble_eq_true rfl)) dX7_isDimension_8 ⟨Nat.le_of_ble_eq_true rfl, Nat.le_of_ble_eq_true rfl⟩) hS (fun q _ h => hFc q h) hFc (fun r u t H1 locs ht hvm hw hB hz1 hk1 hS => ?_)
  obtain rfl := hw
  obtain ⟨hP1, hK1, hD1⟩ := hB
  rw [ht] at hP1
  obtain ⟨hP, hD⟩ := va_join (wr := [(aM, .inr (7, [.int th, .int (nI n), .int (nI cnt), .ref aMF, .ref aMT, .ref aMN, .ref aML, .ref aMU, .int (nI ml), .ref aMB, .int (nI sg), .int (nI rm), .int (nI mdg), .int (nI mnb), .int (bI mng), .ref aMf, .ref aMt, .ref aMn, .ref aMl, .ref aMu, .ref aMP, .ref aMD, .int (nI lk), .ref aMC, .ref aMO, .int gn, .int gl, .int gg, .ref aMY, .int nn, .int nl, .int nu, .ref aMS, .long hs]))]) (w1 := []) hP hD [] [0] rfl rfl (by decide) (by decide) hk1 hFc hP1 hD1
  clear hP1 hD1 hK1 hPc hDc hFc hk1 hz1 hvm ht u t
  generalize H1 = H at hP hS ⊢
  have hP : va_P (dC, dI) vwCl [(aM, .inr (7, [.int th, .int (nI n), .int (nI cnt), .ref aMF, .ref aMT, .ref aMN, .ref aML, .ref aMU, .int (nI ml), .ref aMB, .int (nI sg), .int (nI rm), .int (nI mdg), .int (nI mnb), .int (bI mng), .ref aMf, .ref aMt, .ref aMn, .ref aMl, .ref aMu, .ref aMP, .ref aMD, .int (nI lk), .ref aMC, .ref aMO, .int gn, .int gl, .int gg, .ref aMY, .int nn, .int nl, .int nu, .ref aMS, .long hs]))] H := hP
  have hD : va_D A [(aM, .inr (7, [.int th, .int (nI n), .int (nI cnt), .ref aMF, .ref aMT, .ref aMN, .ref aML, .ref aMU, .int (nI ml), .ref aMB, .int (nI sg), .int (nI rm), .int (nI mdg), .int (nI mnb), .int (bI mng), .ref aMf, .ref aMt, .ref aMn, .ref aMl, .ref aMu, .ref aMP, .ref aMD, .int (nI lk), .ref aMC, .ref aMO, .int gn, .int gl, .int gg, .ref aMY, .int nn, .int nl, .int nu, .ref aMS, .long hs]))] := hD
  have r1 : (bI (wtn x 0 ((nI cnt) - 1))) = (bI (inB x cnt)) := by rw [wtn_in hc1]
  have hP9 : va_P (dC, dI) vwCl [(aM, .inr (7, [.int th, .int (nI n), .int (nI cnt), .ref aMF, .ref aMT, .ref aMN, .ref aML, .ref aMU, .int (nI ml), .ref aMB, .int (nI sg), .int (nI rm), .int (nI mdg), .int (nI mnb), .int (bI mng), .ref aMf, .ref aMt, .ref aMn, .ref aMl, .ref aMu, .ref aMP, .ref aMD, .int (nI lk), .ref aMC, .ref aMO, .int gn, .int gl, .int gg, .ref aMY, .int nn, .int nl, .int nu, .ref aMS, .long hs]))] H := by exact hP.sub [0] rfl
  have hD9 : va_D A [(aM, .inr (7, [.int th, .int (nI n), .int (nI cnt), .ref aMF, .ref aMT, .ref aMN, .ref aML, .ref aMU, .int (nI ml), .ref aMB, .int (nI sg), .int (nI rm), .int (nI mdg), .int (nI mnb), .int (bI mng), .ref aMf, .ref aMt, .ref aMn, .ref aMl, .ref aMu, .ref aMP, .ref aMD, .int (nI lk), .ref aMC, .ref aMO, .int gn, .int gl, .int gg, .ref aMY, .int nn, .int nl, .int nu, .ref aMS, .long hs]))] := by exact hD.sub [0] (by decide) rfl
  rw [hQe]
  exact W.zret (v := bI (wtn x 0 ((nI cnt) - 1))) hx hb hr (bI_nar _) (fun t ht hW => ⟨⟨_, (), rfl, r1, by rw [ht]; exact hP9, va_K.moved hW.alike hK, hD9⟩, hS.F ht⟩) hS.2.2 dX7_isDimension_11
set_option maxHeartbeats 4000000 in
set_option maxRecDepth 100000 in
theorem c_X7_width (l : Launch) (dC : Nat → ClassId) (dI : Nat → Nat → Nat) (cyI cyZ cyJ cyD : ClassId) (aM aMF aMT aMN aML aMU aMB aMf aMt aMn aMl aMu aMP aMD aMC aMO aMY aMS : Nat) (zH : Nat) (th : Int32) (n : Nat) (cnt : Nat) (ml : Nat) (sg : Nat) (rm : Nat) (mdg : Nat) (mnb : Nat) (mng : Bool) (lk : Nat) (gn : Int32) (gl : Int32) (gg : Int32) (nn : Int32) (nl : Int32) (nu : Int32) (hs : Int64) (lo : Nat → Int32) (up : Nat → Int32) (d : Nat) (hd : d < 20) : Met l yX7_width wsX7_width ({ frames := 0, cells := 0, slots := 0, locals := 0 } : Room) (va_Pc [.ref aM, .int (nI d)] (fun U => U.heap.size = zH ∧ va_P (dC, dI) vwCl [(aM, .inr (7, [.int th, .int (nI n), .int (nI cnt), .ref aMF, .ref aMT, .ref aMN, .ref aML, .ref aMU, .int (nI ml), .ref aMB, .int (nI sg), .int (nI rm), .int (nI mdg), .int (nI mnb), .int (bI mng), .ref aMf, .ref aMt, .ref aMn, .ref aMl, .ref aMu, .ref aMP, .ref aMD, .int (nI lk), .ref aMC, .ref aMO, .int gn, .int gl, .int gg, .ref aMY, .int nn, .int nl, .int nu, .ref aMS, .long hs])), (aML, .inl (cyI, 20, .inl lo)), (aMU, .inl (cyI, 20, .inl up))] U.heap ∧ va_K (dC, dI) vwCl [(cyI, .int), (cyZ, .boolean), (cyJ, .long), (cyD, .double)] U ∧ va_D (fun _ => True) [(aM, .inr (7, [.int th, .int (nI n), .int (nI cnt), .ref aMF, .ref aMT, .ref aMN, .ref aML, .ref aMU, .int (nI ml), .ref aMB, .int (nI sg), .int (nI rm), .int (nI mdg), .int (nI mnb), .int (bI mng), .ref aMf, .ref aMt, .ref aMn, .ref aMl, .ref aMu, .ref aMP, .ref aMD, .int (nI lk), .ref aMC, .ref aMO, .int gn, .int gl, .int gg, .ref aMY, .int nn, .int nl, .int nu, .ref aMS, .long hs])), (aML, .inl (cyI, 20, .inl lo)), (aMU, .inl (cyI, 20, .inl up))])) (va_Qi (fun (r : Int32) (_ : Unit) => r = up d - lo d) (fun _ t => va_P (dC, dI) vwCl [(aM, .inr (7, [.int th, .int (nI n), .int (nI cnt), .ref aMF, .ref aMT, .ref aMN, .ref aML, .ref aMU, .int (nI ml), .ref aMB, .int (nI sg), .int (nI rm), .int (nI mdg), .int (nI mnb), .int (bI mng), .ref aMf, .ref aMt, .ref aMn, .ref aMl, .ref aMu, .ref aMP, .ref aMD, .int (nI lk), .ref aMC, .ref aMO, .int gn, .int gl, .int gg, .ref aMY, .int nn, .int nl, .int nu, .ref aMS, .long hs])), (aML, .inl (cyI, 20, .inl lo)), (aMU, .inl (cyI, 20, .inl up))] t.heap ∧ va_K (dC, dI) vwCl [(cyI, .int), (cyZ, .boolean), (cyJ, .long), (cyD, .double)] t ∧ va_D (va_A [(aM, .inr (7, [.int th, .int (nI n), .int (nI cnt), .ref aMF, .ref aMT, .ref aMN, .ref aML, .ref aMU, .int (nI ml), .ref aMB, .int (nI sg), .int (nI rm), .int (nI mdg), .int (nI mnb), .int (bI mng), .ref aMf, .ref aMt, .ref aMn, .ref aMl, .ref aMu, .ref aMP, .ref aMD, .int (nI lk), .ref aMC, .ref aMO, .int gn, .int gl, .int gg, .ref aMY, .int nn, .int nl, .int nu, .ref aMS, .long hs])), (aML, .inl (cyI, 20, .inl lo)), (aMU, .inl (cyI, 20, .inl up))] zH) [(aM, .inr (7, [.int th, .int (nI n), .int (nI cnt), .ref aMF, .ref aMT, .ref aMN, .ref aML, .ref aMU, .int (nI ml), .ref aMB, .int (nI sg), .int (nI rm), .int (nI mdg), .int (nI mnb), .int (bI mng), .ref aMf, .ref aMt, .ref aMn, .ref aMl, .ref aMu, .ref aMP, .ref aMD, .int (nI lk), .ref aMC, .ref aMO, .int gn, .int gl, .int gg, .ref aMY, .int nn, .int nl, .int nu, .ref aMS, .long hs])), (aML, .inl (cyI, 20, .inl lo)), (aMU, .inl (cyI, 20, .inl up))]) (va_A [(aM, .inr (7, [.int th, .int (nI n), .int (nI cnt), .ref aMF, .ref aMT, .ref aMN, .ref aML, .ref aMU, .int (nI ml), .ref aMB, .int (nI sg), .int (nI rm), .int (nI mdg), .int (nI mnb), .int (bI mng), .ref aMf, .ref aMt, .ref aMn, .ref aMl, .ref aMu, .ref aMP, .ref aMD, .int (nI lk), .ref aMC, .ref aMO, .int gn, .int gl, .int gg, .ref aMY, .int nn, .int nl, .int nu, .ref aMS, .long hs])), (aML, .inl (cyI, 20, .inl lo)), (aMU, .inl (cyI, 20, .inl up))] zH)) 0 0 (va_A [(aM, .inr (7, [.int th, .int (nI n), .int (nI cnt), .ref aMF, .ref aMT, .ref aMN, .ref aML, .ref aMU, .int (nI ml), .ref aMB, .int (nI sg), .int (nI rm), .int (nI mdg), .int (nI mnb), .int (bI mng), .ref aMf, .ref aMt, .ref aMn, .ref aMl, .ref aMu, .ref aMP, .ref aMD, .int (nI lk), .ref aMC, .ref aMO, .int gn, .int gl, .int gg, .ref aMY, .int nn, .int nl, .int nu, .ref aMS, .long hs])), (aML, .inl (cyI, 20, .inl lo)), (aMU, .inl (cyI, 20, .inl up))] zH) := by
  refine Met.ofW (cc := cX7_width) (maxL := 2) (ret := (some .int)) (by decide) rfl ?_
  intro pM eM s mM args blM mtM cM s₁ BM hml hv
  obtain ⟨rfl, hsz, hP, hK, hD0⟩ := hv
  have hx := BM.exec
  have hb := BM.bytes
  have hr := BM.returns
  have hts := atoms_spec (ws := wsX7_width) BM.pre
  have hown : s.vm.findClass RX7 = some mM.cls := findClass_of_methodNamed BM.named
  have hlocks := BM.notSynchronized
  have w0 := hts (.fieldLink RX7 26 "DimensionCheckerModel" "upper" "[I") (by decide +kernel)
  have w1 := hts (.fieldLink RX7 23 "DimensionCheckerModel" "lower" "[I") (by decide +kernel)
  have iX7 : ∀ w ∈ wsX70, w ∈ wsX7_width := by decide +kernel
  subst hsz
  have hD := hD0.self (sz := s.heap.size)
  obtain ⟨Q, hQe⟩ : ∃ Q : State → Prop, Q = MQ blM (va_Qi (fun (r : Int32) (_ : Unit) => r = up d - lo d) (fun _ t => va_P (dC, dI) vwCl [(aM, .inr (7, [.int th, .int (nI n), .int (nI cnt), .ref aMF, .ref aMT, .ref aMN, .ref aML, .ref aMU, .int (nI ml), .ref aMB, .int (nI sg), .int (nI rm), .int (nI mdg), .int (nI mnb), .int (bI mng), .ref aMf, .ref aMt, .ref aMn, .ref aMl, .ref aMu, .ref aMP, .ref aMD, .int (nI lk), .ref aMC, .ref aMO, .int gn, .int gl, .int gg, .ref aMY, .int nn, .int nl, .int nu, .ref aMS, .long hs])), (aML, .inl (cyI, 20, .inl lo)), (aMU, .inl (cyI, 20, .inl up))] t.heap ∧ va_K (dC, dI) vwCl [(cyI, .int), (cyZ, .boolean), (cyJ, .long), (cyD, .double)] t ∧ va_D (va_A [(aM, .inr (7, [.int th, .int (nI n), .int (nI cnt), .ref aMF, .ref aMT, .ref aMN, .ref aML, .ref aMU, .int (nI ml), .ref aMB, .int (nI sg), .int (nI rm), .int (nI mdg), .int (nI mnb), .int (bI mng), .ref aMf, .ref aMt, .ref aMn, .ref aMl, .ref aMu, .ref aMP, .ref aMD, .int (nI lk), .ref aMC, .ref aMO, .int gn, .int gl, .int gg, .ref aMY, .int nn, .int nl, .int nu, .ref aMS, .long hs])), (aML, .inl (cyI, 20, .inl lo)), (aMU, .inl (cyI, 20, .inl up))] s.heap.size) [(aM, .inr (7, [.int th, .int (nI n), .int (nI cnt), .ref aMF, .ref aMT, .ref aMN, .ref aML, .ref aMU, .int (nI ml), .ref aMB, .int (nI sg), .int (nI rm), .int (nI mdg), .int (nI mnb), .int (bI mng), .ref aMf, .ref aMt, .ref aMn, .ref aMl, .ref aMu, .ref aMP, .ref aMD, .int (nI lk), .ref aMC, .ref aMO, .int gn, .int gl, .int gg, .ref aMY, .int nn, .int nl, .int nu, .ref aMS, .long hs])), (aML, .inl (cyI, 20, .inl lo)), (aMU, .inl (cyI, 20, .inl up))]) (va_A [(aM, .inr (7, [.int th, .int (nI n), .int (nI cnt), .ref aMF, .ref aMT, .ref aMN, .ref aML, .ref aMU, .int (nI ml), .ref aMB, .int (nI sg), .int (nI rm), .int (nI mdg), .int (nI mnb), .int (bI mng), .ref aMf, .ref aMt, .ref aMn, .ref aMl, .ref aMu, .ref aMP, .ref aMD, .int (nI lk), .ref aMC, .ref aMO, .int gn, .int gl, .int gg, .ref aMY, .int nn, .int nl, .int nu, .ref aMS, .long hs])), (aML, .inl (cyI, 20, .inl lo)), (aMU, .inl (cyI, 20, .inl up))] s.heap.size)) ([.ref aM, .int (nI d)] : List Value).toArray s 0 0 (va_A [(aM, .inr (7, [.int th, .int (nI n), .int (nI cnt), .ref aMF, .ref aMT, .ref aMN, .ref aML, .ref aMU, .int (nI ml), .ref aMB, .int (nI sg), .int (nI rm), .int (nI mdg), .int (nI mnb), .int (bI mng), .ref aMf, .ref aMt, .ref aMn, .ref aMl, .ref aMu, .ref aMP, .ref aMD, .int (nI lk), .ref aMC, .ref aMO, .int gn, .int gl, .int gg, .ref aMY, .int nn, .int nl, .int nu, .ref aMS, .long hs])), (aML, .inl (cyI, 20, .inl lo)), (aMU, .inl (cyI, 20, .inl up))] s.heap.size) := ⟨_, rfl⟩
  rw [← hQe]
  generalize hAe : va_A [(aM, .inr (7, [.int th, .int (nI n), .int (nI cnt), .ref aMF, .ref aMT, .ref aMN, .ref aML, .ref aMU, .int (nI ml), .ref aMB, .int (nI sg), .int (nI rm), .int (nI mdg), .int (nI mnb), .int (bI mng), .ref aMf, .ref aMt, .ref aMn, .ref aMl, .ref aMu, .ref aMP, .ref aMD, .int (nI lk), .ref aMC, .ref aMO, .int gn, .int gl, .int gg, .ref aMY, .int nn, .int nl, .int nu, .ref aMS, .long hs])), (aML, .inl (cyI, 20, .inl lo)), (aMU, .inl (cyI, 20, .inl up))] s.heap.size = A at hD hQe
  have hA : ∀ q : Nat, s.heap.size ≤ q → A q := fun q h => by rw [← hAe]; exact Or.inr h
  obtain ⟨H, hHe⟩ : ∃ H : Heap, H = s.heap := ⟨_, rfl⟩
  have hS : va_S A s.heap H [] := by rw [hHe]; exact va_S.rf
  rw [← hHe] at hP ⊢
  have hl := lv_entry ([.ref aM, .int (nI d)]) (n := 2) (Nat.le_of_ble_eq_true rfl)
  rw [lg_entry_eq]
  generalize (lg_sl ([.ref aM, .int (nI d)]) ++ List.replicate (2 - (lg_sl ([.ref aM, .int (nI d)])).length) Slot.unset).toArray = ls at hl ⊢
  have hl : lv_has ls 2 [(0, .ref aM), (1, .int (nI d))] := hl
  refine lv_aload_n hx hb dX7_width_0 rfl (lv_at hl 0 rfl) ?_
  refine va_get (D := (dC, dI)) (ci := 7) (v := .ref aMU) (C := RX7) (T := TX7) (N := 34) hx hb hts iX7 hown hK hP 0 rfl rfl 7 (by decide) w0 (fun _ h9 => h9) rfl dX7_width_1 ?_
  refine lv_iload_n hx hb dX7_width_4 rfl (lv_at hl 1 rfl) ?_
  have h1 : vp_in (nI d) 20 := by first | exact vp_in_nI (by omega) (by omega) | assumption
  refine va_iald hx hb hK hP 2 0 rfl rfl h1 dX7_width_5 ?_
  refine lv_topi (fun x2 e3 => ?_)
  obtain rfl : x2 = (up d) := by rw [e3, nI_clamp (by omega)]
  clear e3
  refine lv_aload_n hx hb dX7_width_6 rfl (lv_at hl 0 rfl) ?_
  refine va_get (D := (dC, dI)) (ci := 7) (v := .ref aML) (C := RX7) (T := TX7) (N := 34) hx hb hts iX7 hown hK hP 0 rfl rfl 6 (by decide) w1 (fun _ h9 => h9) rfl dX7_width_7 ?_
  refine lv_iload_n hx hb dX7_width_10 rfl (lv_at hl 1 rfl) ?_
  have h4 : vp_in (nI d) 20 := by first | exact vp_in_nI (by omega) (by omega) | assumption
  refine va_iald hx hb hK hP 1 0 rfl rfl h4 dX7_width_11 ?_
  refine lv_topi (fun x5 e6 => ?_)
  obtain rfl : x5 = (lo d) := by rw [e6, nI_clamp (by omega)]
  clear e6
  refine lv_isub hx hb dX7_width_12 ?_
  have r7 : ((up d) - (lo d)) = (up d - lo d) := by first | rfl | simp [*]
  have hP9 : va_P (dC, dI) vwCl [(aM, .inr (7, [.int th, .int (nI n), .int (nI cnt), .ref aMF, .ref aMT, .ref aMN, .ref aML, .ref aMU, .int (nI ml), .ref aMB, .int (nI sg), .int (nI rm), .int (nI mdg), .int (nI mnb), .int (bI mng), .ref aMf, .ref aMt, .ref aMn, .ref aMl, .ref aMu, .ref aMP, .ref aMD, .int (nI lk), .ref aMC, .ref aMO, .int gn, .int gl, .int gg, .ref aMY, .int nn, .int nl, .int nu, .ref aMS, .long hs])), (aML, .inl (cyI, 20, .inl lo)), (aMU, .inl (cyI, 20, .inl up))] H := by exact hP.sub [0, 1, 2] rfl
  have hD9 : va_D A [(aM, .inr (7, [.int th, .int (nI n), .int (nI cnt), .ref aMF, .ref aMT, .ref aMN, .ref aML, .ref aMU, .int (nI ml), .ref aMB, .int (nI sg), .int (nI rm), .int (nI mdg), .int (nI mnb), .int (bI mng), .ref aMf, .ref aMt, .ref aMn, .ref aMl, .ref aMu, .ref aMP, .ref aMD, .int (nI lk), .ref aMC, .ref aMO, .int gn, .int gl, .int gg, .ref aMY, .int nn, .int nl, .int nu, .ref aMS, .long hs])), (aML, .inl (cyI, 20, .inl lo)), (aMU, .inl (cyI, 20, .inl up))] := by exact hD.sub [0, 1, 2] (by decide) rfl
  rw [hQe]
  exact W.iret (v := (up d) - (lo d)) hx hb hr (fun t ht hW => ⟨⟨_, (), rfl, r7, by rw [ht]; exact hP9, va_K.moved hW.alike hK, hD9⟩, hS.F ht⟩) hS.2.2 dX7_width_13
set_option maxHeartbeats 4000000 in
set_option maxRecDepth 100000 in
theorem c_X7_put (l : Launch) (dC : Nat → ClassId) (dI : Nat → Nat → Nat) (cyI cyZ cyJ cyD : ClassId) (aM aMF aMT aMN aML aMU aMB aMf aMt aMn aMl aMu aMP aMD aMC aMO aMY aMS : Nat) (zH : Nat) (th : Int32) (n : Nat) (cnt : Nat) (ml : Nat) (sg : Nat) (rm : Nat) (mdg : Nat) (mnb : Nat) (mng : Bool) (lk : Nat) (gn : Int32) (gl : Int32) (gg : Int32) (nn : Int32) (nl : Int32) (nu : Int32) (hs : Int64) (F : Nat → Nat) (T : Nat → Nat) (nm : Nat → Int32) (lo : Nat → Int32) (up : Nat → Int32) (a : Nat) (b : Nat) (x : Int32) (y : Int32) (z : Int32) (hc : cnt < 20) : Met l yX7_put wsX7_put ({ frames := 0, cells := 0, slots := 0, locals := 0 } : Room) (va_Pc [.ref aM, .int (nI a), .int (nI b), .int x, .int y, .int z] (fun U => U.heap.size = zH ∧ va_P (dC, dI) vwCl [(aM, .inr (7, [.int th, .int (nI n), .int (nI cnt), .ref aMF, .ref aMT, .ref aMN, .ref aML, .ref aMU, .int (nI ml), .ref aMB, .int (nI sg), .int (nI rm), .int (nI mdg), .int (nI mnb), .int (bI mng), .ref aMf, .ref aMt, .ref aMn, .ref aMl, .ref aMu, .ref aMP, .ref aMD, .int (nI lk), .ref aMC, .ref aMO, .int gn, .int gl, .int gg, .ref aMY, .int nn, .int nl, .int nu, .ref aMS, .long hs])), (aMF, .inl (cyI, 20, .inl (fun j_ => nI (F j_)))), (aMT, .inl (cyI, 20, .inl (fun j_ => nI (T j_)))), (aMN, .inl (cyI, 20, .inl nm)), (aML, .inl (cyI, 20, .inl lo)), (aMU, .inl (cyI, 20, .inl up))] U.heap ∧ va_K (dC, dI) vwCl [(cyI, .int), (cyZ, .boolean), (cyJ, .long), (cyD, .double)] U ∧ va_D (fun _ => True) [(aM, .inr (7, [.int th, .int (nI n), .int (nI cnt), .ref aMF, .ref aMT, .ref aMN, .ref aML, .ref aMU, .int (nI ml), .ref aMB, .int (nI sg), .int (nI rm), .int (nI mdg), .int (nI mnb), .int (bI mng), .ref aMf, .ref aMt, .ref aMn, .ref aMl, .ref aMu, .ref aMP, .ref aMD, .int (nI lk), .ref aMC, .ref aMO, .int gn, .int gl, .int gg, .ref aMY, .int nn, .int nl, .int nu, .ref aMS, .long hs])), (aMF, .inl (cyI, 20, .inl (fun j_ => nI (F j_)))), (aMT, .inl (cyI, 20, .inl (fun j_ => nI (T j_)))), (aMN, .inl (cyI, 20, .inl nm)), (aML, .inl (cyI, 20, .inl lo)), (aMU, .inl (cyI, 20, .inl up))])) (va_Qv (fun _ : Unit => True) (fun _ t => va_P (dC, dI) vwCl [(aM, .inr (7, [.int th, .int (nI n), .int (nI (cnt + 1)), .ref aMF, .ref aMT, .ref aMN, .ref aML, .ref aMU, .int (nI ml), .ref aMB, .int (nI sg), .int (nI rm), .int (nI mdg), .int (nI mnb), .int (bI mng), .ref aMf, .ref aMt, .ref aMn, .ref aMl, .ref aMu, .ref aMP, .ref aMD, .int (nI lk), .ref aMC, .ref aMO, .int gn, .int gl, .int gg, .ref aMY, .int nn, .int nl, .int nu, .ref aMS, .long hs])), (aMF, .inl (cyI, 20, .inl (fun j_ => nI ((updN F cnt a) j_)))), (aMT, .inl (cyI, 20, .inl (fun j_ => nI ((updN T cnt b) j_)))), (aMN, .inl (cyI, 20, .inl (upd nm cnt x))), (aML, .inl (cyI, 20, .inl (upd lo cnt y))), (aMU, .inl (cyI, 20, .inl (upd up cnt z)))] t.heap ∧ va_K (dC, dI) vwCl [(cyI, .int), (cyZ, .boolean), (cyJ, .long), (cyD, .double)] t ∧ va_D (va_A [(aM, .inr (7, [.int th, .int (nI n), .int (nI cnt), .ref aMF, .ref aMT, .ref aMN, .ref aML, .ref aMU, .int (nI ml), .ref aMB, .int (nI sg), .int (nI rm), .int (nI mdg), .int (nI mnb), .int (bI mng), .ref aMf, .ref aMt, .ref aMn, .ref aMl, .ref aMu, .ref aMP, .ref aMD, .int (nI lk), .ref aMC, .ref aMO, .int gn, .int gl, .int gg, .ref aMY, .int nn, .int nl, .int nu, .ref aMS, .long hs])), (aMF, .inl (cyI, 20, .inl (fun j_ => nI (F j_)))), (aMT, .inl (cyI, 20, .inl (fun j_ => nI (T j_)))), (aMN, .inl (cyI, 20, .inl nm)), (aML, .inl (cyI, 20, .inl lo)), (aMU, .inl (cyI, 20, .inl up))] zH) [(aM, .inr (7, [.int th, .int (nI n), .int (nI (cnt + 1)), .ref aMF, .ref aMT, .ref aMN, .ref aML, .ref aMU, .int (nI ml), .ref aMB, .int (nI sg), .int (nI rm), .int (nI mdg), .int (nI mnb), .int (bI mng), .ref aMf, .ref aMt, .ref aMn, .ref aMl, .ref aMu, .ref aMP, .ref aMD, .int (nI lk), .ref aMC, .ref aMO, .int gn, .int gl, .int gg, .ref aMY, .int nn, .int nl, .int nu, .ref aMS, .long hs])), (aMF, .inl (cyI, 20, .inl (fun j_ => nI ((updN F cnt a) j_)))), (aMT, .inl (cyI, 20, .inl (fun j_ => nI ((updN T cnt b) j_)))), (aMN, .inl (cyI, 20, .inl (upd nm cnt x))), (aML, .inl (cyI, 20, .inl (upd lo cnt y))), (aMU, .inl (cyI, 20, .inl (upd up cnt z)))]) (va_A [(aM, .inr (7, [.int th, .int (nI n), .int (nI cnt), .ref aMF, .ref aMT, .ref aMN, .ref aML, .ref aMU, .int (nI ml), .ref aMB, .int (nI sg), .int (nI rm), .int (nI mdg), .int (nI mnb), .int (bI mng), .ref aMf, .ref aMt, .ref aMn, .ref aMl, .ref aMu, .ref aMP, .ref aMD, .int (nI lk), .ref aMC, .ref aMO, .int gn, .int gl, .int gg, .ref aMY, .int nn, .int nl, .int nu, .ref aMS, .long hs])), (aMF, .inl (cyI, 20, .inl (fun j_ => nI (F j_)))), (aMT, .inl (cyI, 20, .inl (fun j_ => nI (T j_)))), (aMN, .inl (cyI, 20, .inl nm)), (aML, .inl (cyI, 20, .inl lo)), (aMU, .inl (cyI, 20, .inl up))] zH)) 0 0 (va_A [(aM, .inr (7, [.int th, .int (nI n), .int (nI cnt), .ref aMF, .ref aMT, .ref aMN, .ref aML, .ref aMU, .int (nI ml), .ref aMB, .int (nI sg), .int (nI rm), .int (nI mdg), .int (nI mnb), .int (bI mng), .ref aMf, .ref aMt, .ref aMn, .ref aMl, .ref aMu, .ref aMP, .ref aMD, .int (nI lk), .ref aMC, .ref aMO, .int gn, .int gl, .int gg, .ref aMY, .int nn, .int nl, .int nu, .ref aMS, .long hs])), (aMF, .inl (cyI, 20, .inl (fun j_ => nI (F j_)))), (aMT, .inl (cyI, 20, .inl (fun j_ => nI (T j_)))), (aMN, .inl (cyI, 20, .inl nm)), (aML, .inl (cyI, 20, .inl lo)), (aMU, .inl (cyI, 20, .inl up))] zH) := by
  refine Met.ofW (cc := cX7_put) (maxL := 6) (ret := none) (by decide) rfl ?_
  intro pM eM s mM args blM mtM cM s₁ BM hml hv
  obtain ⟨rfl, hsz, hP, hK, hD0⟩ := hv
  have hx := BM.exec
  have hb := BM.bytes
  have hr := BM.returns
  have hts := atoms_spec (ws := wsX7_put) BM.pre
  have hown : s.vm.findClass RX7 = some mM.cls := findClass_of_methodNamed BM.named
  have hlocks := BM.notSynchronized
  have w0 := hts (.fieldLink RX7 13 "DimensionCheckerModel" "from" "[I") (by decide +kernel)
  have w1 := hts (.fieldLink RX7 74 "DimensionCheckerModel" "many" "I") (by decide +kernel)
  have w2 := hts (.fieldLink RX7 17 "DimensionCheckerModel" "to" "[I") (by decide +kernel)
  have w3 := hts (.fieldLink RX7 20 "DimensionCheckerModel" "nominal" "[I") (by decide +kernel)
  have w4 := hts (.fieldLink RX7 23 "DimensionCheckerModel" "lower" "[I") (by decide +kernel)
  have w5 := hts (.fieldLink RX7 26 "DimensionCheckerModel" "upper" "[I") (by decide +kernel)
  have iX7 : ∀ w ∈ wsX70, w ∈ wsX7_put := by decide +kernel
  subst hsz
  have hD := hD0.self (sz := s.heap.size)
  obtain ⟨Q, hQe⟩ : ∃ Q : State → Prop, Q = MQ blM (va_Qv (fun _ : Unit => True) (fun _ t => va_P (dC, dI) vwCl [(aM, .inr (7, [.int th, .int (nI n), .int (nI (cnt + 1)), .ref aMF, .ref aMT, .ref aMN, .ref aML, .ref aMU, .int (nI ml), .ref aMB, .int (nI sg), .int (nI rm), .int (nI mdg), .int (nI mnb), .int (bI mng), .ref aMf, .ref aMt, .ref aMn, .ref aMl, .ref aMu, .ref aMP, .ref aMD, .int (nI lk), .ref aMC, .ref aMO, .int gn, .int gl, .int gg, .ref aMY, .int nn, .int nl, .int nu, .ref aMS, .long hs])), (aMF, .inl (cyI, 20, .inl (fun j_ => nI ((updN F cnt a) j_)))), (aMT, .inl (cyI, 20, .inl (fun j_ => nI ((updN T cnt b) j_)))), (aMN, .inl (cyI, 20, .inl (upd nm cnt x))), (aML, .inl (cyI, 20, .inl (upd lo cnt y))), (aMU, .inl (cyI, 20, .inl (upd up cnt z)))] t.heap ∧ va_K (dC, dI) vwCl [(cyI, .int), (cyZ, .boolean), (cyJ, .long), (cyD, .double)] t ∧ va_D (va_A [(aM, .inr (7, [.int th, .int (nI n), .int (nI cnt), .ref aMF, .ref aMT, .ref aMN, .ref aML, .ref aMU, .int (nI ml), .ref aMB, .int (nI sg), .int (nI rm), .int (nI mdg), .int (nI mnb), .int (bI mng), .ref aMf, .ref aMt, .ref aMn, .ref aMl, .ref aMu, .ref aMP, .ref aMD, .int (nI lk), .ref aMC, .ref aMO, .int gn, .int gl, .int gg, .ref aMY, .int nn, .int nl, .int nu, .ref aMS, .long hs])), (aMF, .inl (cyI, 20, .inl (fun j_ => nI (F j_)))), (aMT, .inl (cyI, 20, .inl (fun j_ => nI (T j_)))), (aMN, .inl (cyI, 20, .inl nm)), (aML, .inl (cyI, 20, .inl lo)), (aMU, .inl (cyI, 20, .inl up))] s.heap.size) [(aM, .inr (7, [.int th, .int (nI n), .int (nI (cnt + 1)), .ref aMF, .ref aMT, .ref aMN, .ref aML, .ref aMU, .int (nI ml), .ref aMB, .int (nI sg), .int (nI rm), .int (nI mdg), .int (nI mnb), .int (bI mng), .ref aMf, .ref aMt, .ref aMn, .ref aMl, .ref aMu, .ref aMP, .ref aMD, .int (nI lk), .ref aMC, .ref aMO, .int gn, .int gl, .int gg, .ref aMY, .int nn, .int nl, .int nu, .ref aMS, .long hs])), (aMF, .inl (cyI, 20, .inl (fun j_ => nI ((updN F cnt a) j_)))), (aMT, .inl (cyI, 20, .inl (fun j_ => nI ((updN T cnt b) j_)))), (aMN, .inl (cyI, 20, .inl (upd nm cnt x))), (aML, .inl (cyI, 20, .inl (upd lo cnt y))), (aMU, .inl (cyI, 20, .inl (upd up cnt z)))]) (va_A [(aM, .inr (7, [.int th, .int (nI n), .int (nI cnt), .ref aMF, .ref aMT, .ref aMN, .ref aML, .ref aMU, .int (nI ml), .ref aMB, .int (nI sg), .int (nI rm), .int (nI mdg), .int (nI mnb), .int (bI mng), .ref aMf, .ref aMt, .ref aMn, .ref aMl, .ref aMu, .ref aMP, .ref aMD, .int (nI lk), .ref aMC, .ref aMO, .int gn, .int gl, .int gg, .ref aMY, .int nn, .int nl, .int nu, .ref aMS, .long hs])), (aMF, .inl (cyI, 20, .inl (fun j_ => nI (F j_)))), (aMT, .inl (cyI, 20, .inl (fun j_ => nI (T j_)))), (aMN, .inl (cyI, 20, .inl nm)), (aML, .inl (cyI, 20, .inl lo)), (aMU, .inl (cyI, 20, .inl up))] s.heap.size)) ([.ref aM, .int (nI a), .int (nI b), .int x, .int y, .int z] : List Value).toArray s 0 0 (va_A [(aM, .inr (7, [.int th, .int (nI n), .int (nI cnt), .ref aMF, .ref aMT, .ref aMN, .ref aML, .ref aMU, .int (nI ml), .ref aMB, .int (nI sg), .int (nI rm), .int (nI mdg), .int (nI mnb), .int (bI mng), .ref aMf, .ref aMt, .ref aMn, .ref aMl, .ref aMu, .ref aMP, .ref aMD, .int (nI lk), .ref aMC, .ref aMO, .int gn, .int gl, .int gg, .ref aMY, .int nn, .int nl, .int nu, .ref aMS, .long hs])), (aMF, .inl (cyI, 20, .inl (fun j_ => nI (F j_)))), (aMT, .inl (cyI, 20, .inl (fun j_ => nI (T j_)))), (aMN, .inl (cyI, 20, .inl nm)), (aML, .inl (cyI, 20, .inl lo)), (aMU, .inl (cyI, 20, .inl up))] s.heap.size) := ⟨_, rfl⟩
  rw [← hQe]
  generalize hAe : va_A [(aM, .inr (7, [.int th, .int (nI n), .int (nI cnt), .ref aMF, .ref aMT, .ref aMN, .ref aML, .ref aMU, .int (nI ml), .ref aMB, .int (nI sg), .int (nI rm), .int (nI mdg), .int (nI mnb), .int (bI mng), .ref aMf, .ref aMt, .ref aMn, .ref aMl, .ref aMu, .ref aMP, .ref aMD, .int (nI lk), .ref aMC, .ref aMO, .int gn, .int gl, .int gg, .ref aMY, .int nn, .int nl, .int nu, .ref aMS, .long hs])), (aMF, .inl (cyI, 20, .inl (fun j_ => nI (F j_)))), (aMT, .inl (cyI, 20, .inl (fun j_ => nI (T j_)))), (aMN, .inl (cyI, 20, .inl nm)), (aML, .inl (cyI, 20, .inl lo)), (aMU, .inl (cyI, 20, .inl up))] s.heap.size = A at hD hQe
  have hA : ∀ q : Nat, s.heap.size ≤ q → A q := fun q h => by rw [← hAe]; exact Or.inr h
  obtain ⟨H, hHe⟩ : ∃ H : Heap, H = s.heap := ⟨_, rfl⟩
  have hS : va_S A s.heap H [] := by rw [hHe]; exact va_S.rf
  rw [← hHe] at hP ⊢
  have hl := lv_entry ([.ref aM, .int (nI a), .int (nI b), .int x, .int y, .int z]) (n := 6) (Nat.le_of_ble_eq_true rfl)
  rw [lg_entry_eq]
  generalize (lg_sl ([.ref aM, .int (nI a), .int (nI b), .int x, .int y, .int z]) ++ List.replicate (6 - (lg_sl ([.ref aM, .int (nI a), .int (nI b), .int x, .int y, .int z])).length) Slot.unset).toArray = ls at hl ⊢
  have hl : lv_has ls 6 [(0, .ref aM), (1, .int (nI a)), (2, .int (nI b)), (3, .int x), (4, .int y), (5, .int z)] := hl
  refine lv_aload_n hx hb dX7_put_0 rfl (lv_at hl 0 rfl) ?_
  refine va_get (D := (dC, dI)) (ci := 7) (v := .ref aMF) (C := RX7) (T := TX7) (N := 34) hx hb hts iX7 hown hK hP 0 rfl rfl 3 (by decide) w0 (fun _ h9 => h9) rfl dX7_put_1 ?_
  refine lv_aload_n hx hb dX7_put_4 rfl (lv_at hl 0 rfl) ?_
  refine va_get (D := (dC, dI)) (ci := 7) (v := .int (nI cnt)) (C := RX7) (T := TX7) (N := 34) hx hb hts iX7 hown hK hP 0 rfl rfl 2 (by decide) w1 (fun _ h9 => h9) rfl dX7_put_5 ?_
  refine lv_iload_n hx hb dX7_put_8 rfl (lv_at hl 1 rfl) ?_
  have h1 : vp_in (nI cnt) 20 := by first | exact vp_in_nI (by omega) (by omega) | assumption
  refine va_iast hx hb hK hP hD hS 1 0 rfl rfl h1 dX7_put_9 (fun H locs hP hD hS => ?_)
  rw [nI_clamp (by omega)] at hP hD
  have ub : upd (fun j_ => nI (F j_)) cnt (nI a) = (fun j_ => nI ((updN F cnt a) j_)) := updN_z _ _ _
  have hP : va_P (dC, dI) vwCl [(aM, .inr (7, [.int th, .int (nI n), .int (nI cnt), .ref aMF, .ref aMT, .ref aMN, .ref aML, .ref aMU, .int (nI ml), .ref aMB, .int (nI sg), .int (nI rm), .int (nI mdg), .int (nI mnb), .int (bI mng), .ref aMf, .ref aMt, .ref aMn, .ref aMl, .ref aMu, .ref aMP, .ref aMD, .int (nI lk), .ref aMC, .ref aMO, .int gn, .int gl, .int gg, .ref aMY, .int nn, .int nl, .int nu, .ref aMS, .long hs])), (aMF, .inl (cyI, 20, .inl (fun j_ => nI ((updN F cnt a) j_)))), (aMT, .inl (cyI, 20, .inl (fun j_ => nI (T j_)))), (aMN, .inl (cyI, 20, .inl nm)), (aML, .inl (cyI, 20, .inl lo)), (aMU, .inl (cyI, 20, .inl up))] H := by rw [← ub]; exact hP
  have hD : va_D A [(aM, .inr (7, [.int th, .int (nI n), .int (nI cnt), .ref aMF, .ref aMT, .ref aMN, .ref aML, .ref aMU, .int (nI ml), .ref aMB, .int (nI sg), .int (nI rm), .int (nI mdg), .int (nI mnb), .int (bI mng), .ref aMf, .ref aMt, .ref aMn, .ref aMl, .ref aMu, .ref aMP, .ref aMD, .int (nI lk), .ref aMC, .ref aMO, .int gn, .int gl, .int gg, .ref aMY, .int nn, .int nl, .int nu, .ref aMS, .long hs])), (aMF, .inl (cyI, 20, .inl (fun j_ => nI ((updN F cnt a) j_)))), (aMT, .inl (cyI, 20, .inl (fun j_ => nI (T j_)))), (aMN, .inl (cyI, 20, .inl nm)), (aML, .inl (cyI, 20, .inl lo)), (aMU, .inl (cyI, 20, .inl up))] := by rw [← ub]; exact hD
  refine lv_aload_n hx hb dX7_put_10 rfl (lv_at hl 0 rfl) ?_
  refine va_get (D := (dC, dI)) (ci := 7) (v := .ref aMT) (C := RX7) (T := TX7) (N := 34) hx hb hts iX7 hown hK hP 0 rfl rfl 4 (by decide) w2 (fun _ h9 => h9) rfl dX7_put_11 ?_
  refine lv_aload_n hx hb dX7_put_14 rfl (lv_at hl 0 rfl) ?_
  refine va_get (D := (dC, dI)) (ci := 7) (v := .int (nI cnt)) (C := RX7) (T := TX7) (N := 34) hx hb hts iX7 hown hK hP 0 rfl rfl 2 (by decide) w1 (fun _ h9 => h9) rfl dX7_put_15 ?_
  refine lv_iload_n hx hb dX7_put_18 rfl (lv_at hl 2 rfl) ?_
  have h2 : vp_in (nI cnt) 20 := by first | exact vp_in_nI (by omega) (by omega) | assumption
  refine va_iast hx hb hK hP hD hS 2 0 rfl rfl h2 dX7_put_19 (fun H locs hP hD hS => ?_)
  rw [nI_clamp (by omega)] at hP hD
  have ub : upd (fun j_ => nI (T j_)) cnt (nI b) = (fun j_ => nI ((updN T cnt b) j_)) := updN_z _ _ _
  have hP : va_P (dC, dI) vwCl [(aM, .inr (7, [.int th, .int (nI n), .int (nI cnt), .ref aMF, .ref aMT, .ref aMN, .ref aML, .ref aMU, .int (nI ml), .ref aMB, .int (nI sg), .int (nI rm), .int (nI mdg), .int (nI mnb), .int (bI mng), .ref aMf, .ref aMt, .ref aMn, .ref aMl, .ref aMu, .ref aMP, .ref aMD, .int (nI lk), .ref aMC, .ref aMO, .int gn, .int gl, .int gg, .ref aMY, .int nn, .int nl, .int nu, .ref aMS, .long hs])), (aMF, .inl (cyI, 20, .inl (fun j_ => nI ((updN F cnt a) j_)))), (aMT, .inl (cyI, 20, .inl (fun j_ => nI ((updN T cnt b) j_)))), (aMN, .inl (cyI, 20, .inl nm)), (aML, .inl (cyI, 20, .inl lo)), (aMU, .inl (cyI, 20, .inl up))] H := by rw [← ub]; exact hP
  have hD : va_D A [(aM, .inr (7, [.int th, .int (nI n), .int (nI cnt), .ref aMF, .ref aMT, .ref aMN, .ref aML, .ref aMU, .int (nI ml), .ref aMB, .int (nI sg), .int (nI rm), .int (nI mdg), .int (nI mnb), .int (bI mng), .ref aMf, .ref aMt, .ref aMn, .ref aMl, .ref aMu, .ref aMP, .ref aMD, .int (nI lk), .ref aMC, .ref aMO, .int gn, .int gl, .int gg, .ref aMY, .int nn, .int nl, .int nu, .ref aMS, .long hs])), (aMF, .inl (cyI, 20, .inl (fun j_ => nI ((updN F cnt a) j_)))), (aMT, .inl (cyI, 20, .inl (fun j_ => nI ((updN T cnt b) j_)))), (aMN, .inl (cyI, 20, .inl nm)), (aML, .inl (cyI, 20, .inl lo)), (aMU, .inl (cyI, 20, .inl up))] := by rw [← ub]; exact hD
  refine lv_aload_n hx hb dX7_put_20 rfl (lv_at hl 0 rfl) ?_
  refine va_get (D := (dC, dI)) (ci := 7) (v := .ref aMN) (C := RX7) (T := TX7) (N := 34) hx hb hts iX7 hown hK hP 0 rfl rfl 5 (by decide) w3 (fun _ h9 => h9) rfl dX7_put_21 ?_
  refine lv_aload_n hx hb dX7_put_24 rfl (lv_at hl 0 rfl) ?_
  refine va_get (D := (dC, dI)) (ci := 7) (v := .int (nI cnt)) (C := RX7) (T := TX7) (N := 34) hx hb hts iX7 hown hK hP 0 rfl rfl 2 (by decide) w1 (fun _ h9 => h9) rfl dX7_put_25 ?_
  refine lv_iload_n hx hb dX7_put_28 rfl (lv_at hl 3 rfl) ?_
  have h3 : vp_in (nI cnt) 20 := by first | exact vp_in_nI (by omega) (by omega) | assumption
  refine va_iast hx hb hK hP hD hS 3 0 rfl rfl h3 dX7_put_29 (fun H locs hP hD hS => ?_)
  rw [nI_clamp (by omega)] at hP hD
  have hP : va_P (dC, dI) vwCl [(aM, .inr (7, [.int th, .int (nI n), .int (nI cnt), .ref aMF, .ref aMT, .ref aMN, .ref aML, .ref aMU, .int (nI ml), .ref aMB, .int (nI sg), .int (nI rm), .int (nI mdg), .int (nI mnb), .int (bI mng), .ref aMf, .ref aMt, .ref aMn, .ref aMl, .ref aMu, .ref aMP, .ref aMD, .int (nI lk), .ref aMC, .ref aMO, .int gn, .int gl, .int gg, .ref aMY, .int nn, .int nl, .int nu, .ref aMS, .long hs])), (aMF, .inl (cyI, 20, .inl (fun j_ => nI ((updN F cnt a) j_)))), (aMT, .inl (cyI, 20, .inl (fun j_ => nI ((updN T cnt b) j_)))), (aMN, .inl (cyI, 20, .inl (upd nm cnt x))), (aML, .inl (cyI, 20, .inl lo)), (aMU, .inl (cyI, 20, .inl up))] H := hP
  have hD : va_D A [(aM, .inr (7, [.int th, .int (nI n), .int (nI cnt), .ref aMF, .ref aMT, .ref aMN, .ref aML, .ref aMU, .int (nI ml), .ref aMB, .int (nI sg), .int (nI rm), .int (nI mdg), .int (nI mnb), .int (bI mng), .ref aMf, .ref aMt, .ref aMn, .ref aMl, .ref aMu, .ref aMP, .ref aMD, .int (nI lk), .ref aMC, .ref aMO, .int gn, .int gl, .int gg, .ref aMY, .int nn, .int nl, .int nu, .ref aMS, .long hs])), (aMF, .inl (cyI, 20, .inl (fun j_ => nI ((updN F cnt a) j_)))), (aMT, .inl (cyI, 20, .inl (fun j_ => nI ((updN T cnt b) j_)))), (aMN, .inl (cyI, 20, .inl (upd nm cnt x))), (aML, .inl (cyI, 20, .inl lo)), (aMU, .inl (cyI, 20, .inl up))] := hD
  refine lv_aload_n hx hb dX7_put_30 rfl (lv_at hl 0 rfl) ?_
  refine va_get (D := (dC, dI)) (ci := 7) (v := .ref aML) (C := RX7) (T := TX7) (N := 34) hx hb hts iX7 hown hK hP 0 rfl rfl 6 (by decide) w4 (fun _ h9 => h9) rfl dX7_put_31 ?_
  refine lv_aload_n hx hb dX7_put_34 rfl (lv_at hl 0 rfl) ?_
  refine va_get (D := (dC, dI)) (ci := 7) (v := .int (nI cnt)) (C := RX7) (T := TX7) (N := 34) hx hb hts iX7 hown hK hP 0 rfl rfl 2 (by decide) w1 (fun _ h9 => h9) rfl dX7_put_35 ?_
  refine lv_iload hx hb dX7_put_38 (lv_at hl 4 rfl) ?_
  have h4 : vp_in (nI cnt) 20 := by first | exact vp_in_nI (by omega) (by omega) | assumption
  refine va_iast hx hb hK hP hD hS 4 0 rfl rfl h4 dX7_put_40 (fun H locs hP hD hS => ?_)
  rw [nI_clamp (by omega)] at hP hD
  have hP : va_P (dC, dI) vwCl [(aM, .inr (7, [.int th, .int (nI n), .int (nI cnt), .ref aMF, .ref aMT, .ref aMN, .ref aML, .ref aMU, .int (nI ml), .ref aMB, .int (nI sg), .int (nI rm), .int (nI mdg), .int (nI mnb), .int (bI mng), .ref aMf, .ref aMt, .ref aMn, .ref aMl, .ref aMu, .ref aMP, .ref aMD, .int (nI lk), .ref aMC, .ref aMO, .int gn, .int gl, .int gg, .ref aMY, .int nn, .int nl, .int nu, .ref aMS, .long hs])), (aMF, .inl (cyI, 20, .inl (fun j_ => nI ((updN F cnt a) j_)))), (aMT, .inl (cyI, 20, .inl (fun j_ => nI ((updN T cnt b) j_)))), (aMN, .inl (cyI, 20, .inl (upd nm cnt x))), (aML, .inl (cyI, 20, .inl (upd lo cnt y))), (aMU, .inl (cyI, 20, .inl up))] H := hP
  have hD : va_D A [(aM, .inr (7, [.int th, .int (nI n), .int (nI cnt), .ref aMF, .ref aMT, .ref aMN, .ref aML, .ref aMU, .int (nI ml), .ref aMB, .int (nI sg), .int (nI rm), .int (nI mdg), .int (nI mnb), .int (bI mng), .ref aMf, .ref aMt, .ref aMn, .ref aMl, .ref aMu, .ref aMP, .ref aMD, .int (nI lk), .ref aMC, .ref aMO, .int gn, .int gl, .int gg, .ref aMY, .int nn, .int nl, .int nu, .ref aMS, .long hs])), (aMF, .inl (cyI, 20, .inl (fun j_ => nI ((updN F cnt a) j_)))), (aMT, .inl (cyI, 20, .inl (fun j_ => nI ((updN T cnt b) j_)))), (aMN, .inl (cyI, 20, .inl (upd nm cnt x))), (aML, .inl (cyI, 20, .inl (upd lo cnt y))), (aMU, .inl (cyI, 20, .inl up))] := hD
  refine lv_aload_n hx hb dX7_put_41 rfl (lv_at hl 0 rfl) ?_
  refine va_get (D := (dC, dI)) (ci := 7) (v := .ref aMU) (C := RX7) (T := TX7) (N := 34) hx hb hts iX7 hown hK hP 0 rfl rfl 7 (by decide) w5 (fun _ h9 => h9) rfl dX7_put_42 ?_
  refine lv_aload_n hx hb dX7_put_45 rfl (lv_at hl 0 rfl) ?_
  refine va_get (D := (dC, dI)) (ci := 7) (v := .int (nI cnt)) (C := RX7) (T := TX7) (N := 34) hx hb hts iX7 hown hK hP 0 rfl rfl 2 (by decide) w1 (fun _ h9 => h9) rfl dX7_put_46 ?_
  refine lv_iload hx hb dX7_put_49 (lv_at hl 5 rfl) ?_
  have h5 : vp_in (nI cnt) 20 := by first | exact vp_in_nI (by omega) (by omega) | assumption
  refine va_iast hx hb hK hP hD hS 5 0 rfl rfl h5 dX7_put_51 (fun H locs hP hD hS => ?_)
  rw [nI_clamp (by omega)] at hP hD
  have hP : va_P (dC, dI) vwCl [(aM, .inr (7, [.int th, .int (nI n), .int (nI cnt), .ref aMF, .ref aMT, .ref aMN, .ref aML, .ref aMU, .int (nI ml), .ref aMB, .int (nI sg), .int (nI rm), .int (nI mdg), .int (nI mnb), .int (bI mng), .ref aMf, .ref aMt, .ref aMn, .ref aMl, .ref aMu, .ref aMP, .ref aMD, .int (nI lk), .ref aMC, .ref aMO, .int gn, .int gl, .int gg, .ref aMY, .int nn, .int nl, .int nu, .ref aMS, .long hs])), (aMF, .inl (cyI, 20, .inl (fun j_ => nI ((updN F cnt a) j_)))), (aMT, .inl (cyI, 20, .inl (fun j_ => nI ((updN T cnt b) j_)))), (aMN, .inl (cyI, 20, .inl (upd nm cnt x))), (aML, .inl (cyI, 20, .inl (upd lo cnt y))), (aMU, .inl (cyI, 20, .inl (upd up cnt z)))] H := hP
  have hD : va_D A [(aM, .inr (7, [.int th, .int (nI n), .int (nI cnt), .ref aMF, .ref aMT, .ref aMN, .ref aML, .ref aMU, .int (nI ml), .ref aMB, .int (nI sg), .int (nI rm), .int (nI mdg), .int (nI mnb), .int (bI mng), .ref aMf, .ref aMt, .ref aMn, .ref aMl, .ref aMu, .ref aMP, .ref aMD, .int (nI lk), .ref aMC, .ref aMO, .int gn, .int gl, .int gg, .ref aMY, .int nn, .int nl, .int nu, .ref aMS, .long hs])), (aMF, .inl (cyI, 20, .inl (fun j_ => nI ((updN F cnt a) j_)))), (aMT, .inl (cyI, 20, .inl (fun j_ => nI ((updN T cnt b) j_)))), (aMN, .inl (cyI, 20, .inl (upd nm cnt x))), (aML, .inl (cyI, 20, .inl (upd lo cnt y))), (aMU, .inl (cyI, 20, .inl (upd up cnt z)))] := hD
  refine lv_aload_n hx hb dX7_put_52 rfl (lv_at hl 0 rfl) ?_
  refine lv_dup hx hb dX7_put_53 rfl ?_
  refine va_get (D := (dC, dI)) (ci := 7) (v := .int (nI cnt)) (C := RX7) (T := TX7) (N := 34) hx hb hts iX7 hown hK hP 0 rfl rfl 2 (by decide) w1 (fun _ h9 => h9) rfl dX7_put_54 ?_
  refine lv_iconst (v := 1) hx hb dX7_put_57 (by decide) ?_
  refine lv_iadd hx hb dX7_put_58 ?_
  refine lv_topi (fun x6 e7 => ?_)
  obtain rfl : x6 = (nI (cnt + 1)) := by rw [e7]; exact nI_add cnt 1
  clear e7
  refine va_put (D := (dC, dI)) (ci := 7) (v := .int (nI (cnt + 1))) (ty := .int) (C := RX7) (T := TX7) (N := 34) hx hb hts iX7 tyX7 tyX7_ok nmX7 hown hK hP hD hS 0 rfl rfl 2 (by decide) w1 (fun _ h9 => h9) rfl (by decide +kernel) rfl rfl (Nat.le_of_ble_eq_true rfl) dX7_put_59 (fun H locs hP hD hS => ?_)
  have hP : va_P (dC, dI) vwCl [(aM, .inr (7, [.int th, .int (nI n), .int (nI (cnt + 1)), .ref aMF, .ref aMT, .ref aMN, .ref aML, .ref aMU, .int (nI ml), .ref aMB, .int (nI sg), .int (nI rm), .int (nI mdg), .int (nI mnb), .int (bI mng), .ref aMf, .ref aMt, .ref aMn, .ref aMl, .ref aMu, .ref aMP, .ref aMD, .int (nI lk), .ref aMC, .ref aMO, .int gn, .int gl, .int gg, .ref aMY, .int nn, .int nl, .int nu, .ref aMS, .long hs])), (aMF, .inl (cyI, 20, .inl (fun j_ => nI ((updN F cnt a) j_)))), (aMT, .inl (cyI, 20, .inl (fun j_ => nI ((updN T cnt b) j_)))), (aMN, .inl (cyI, 20, .inl (upd nm cnt x))), (aML, .inl (cyI, 20, .inl (upd lo cnt y))), (aMU, .inl (cyI, 20, .inl (upd up cnt z)))] H := hP
  have hD : va_D A [(aM, .inr (7, [.int th, .int (nI n), .int (nI (cnt + 1)), .ref aMF, .ref aMT, .ref aMN, .ref aML, .ref aMU, .int (nI ml), .ref aMB, .int (nI sg), .int (nI rm), .int (nI mdg), .int (nI mnb), .int (bI mng), .ref aMf, .ref aMt, .ref aMn, .ref aMl, .ref aMu, .ref aMP, .ref aMD, .int (nI lk), .ref aMC, .ref aMO, .int gn, .int gl, .int gg, .ref aMY, .int nn, .int nl, .int nu, .ref aMS, .long hs])), (aMF, .inl (cyI, 20, .inl (fun j_ => nI ((updN F cnt a) j_)))), (aMT, .inl (cyI, 20, .inl (fun j_ => nI ((updN T cnt b) j_)))), (aMN, .inl (cyI, 20, .inl (upd nm cnt x))), (aML, .inl (cyI, 20, .inl (upd lo cnt y))), (aMU, .inl (cyI, 20, .inl (upd up cnt z)))] := hD
  have hP9 : va_P (dC, dI) vwCl [(aM, .inr (7, [.int th, .int (nI n), .int (nI (cnt + 1)), .ref aMF, .ref aMT, .ref aMN, .ref aML, .ref aMU, .int (nI ml), .ref aMB, .int (nI sg), .int (nI rm), .int (nI mdg), .int (nI mnb), .int (bI mng), .ref aMf, .ref aMt, .ref aMn, .ref aMl, .ref aMu, .ref aMP, .ref aMD, .int (nI lk), .ref aMC, .ref aMO, .int gn, .int gl, .int gg, .ref aMY, .int nn, .int nl, .int nu, .ref aMS, .long hs])), (aMF, .inl (cyI, 20, .inl (fun j_ => nI ((updN F cnt a) j_)))), (aMT, .inl (cyI, 20, .inl (fun j_ => nI ((updN T cnt b) j_)))), (aMN, .inl (cyI, 20, .inl (upd nm cnt x))), (aML, .inl (cyI, 20, .inl (upd lo cnt y))), (aMU, .inl (cyI, 20, .inl (upd up cnt z)))] H := by exact hP.sub [0, 1, 2, 3, 4, 5] rfl
  have hD9 : va_D A [(aM, .inr (7, [.int th, .int (nI n), .int (nI (cnt + 1)), .ref aMF, .ref aMT, .ref aMN, .ref aML, .ref aMU, .int (nI ml), .ref aMB, .int (nI sg), .int (nI rm), .int (nI mdg), .int (nI mnb), .int (bI mng), .ref aMf, .ref aMt, .ref aMn, .ref aMl, .ref aMu, .ref aMP, .ref aMD, .int (nI lk), .ref aMC, .ref aMO, .int gn, .int gl, .int gg, .ref aMY, .int nn, .int nl, .int nu, .ref aMS, .long hs])), (aMF, .inl (cyI, 20, .inl (fun j_ => nI ((updN F cnt a) j_)))), (aMT, .inl (cyI, 20, .inl (fun j_ => nI ((updN T cnt b) j_)))), (aMN, .inl (cyI, 20, .inl (upd nm cnt x))), (aML, .inl (cyI, 20, .inl (upd lo cnt y))), (aMU, .inl (cyI, 20, .inl (upd up cnt z)))] := by exact hD.sub [0, 1, 2, 3, 4, 5] (by decide) rfl
  rw [hQe]
  exact W.vret hx hb hr (fun t ht hW => ⟨⟨(), rfl, trivial, by rw [ht]; exact hP9, va_K.moved hW.alike hK, hD9⟩, hS.F ht⟩) hS.2.2 dX7_put_62
set_option maxHeartbeats 4000000 in
set_option maxRecDepth 100000 in
theorem c_X7_setFaces (l : Launch) (dC : Nat → ClassId) (dI : Nat → Nat → Nat) (cyI cyZ cyJ cyD : ClassId) (aM aMF aMT aMN aML aMU aMB aMf aMt aMn aMl aMu aMP aMD aMC aMO aMY aMS : Nat) (zH : Nat) (th : Int32) (n : Nat) (cnt : Nat) (ml : Nat) (sg : Nat) (rm : Nat) (mdg : Nat) (mnb : Nat) (mng : Bool) (lk : Nat) (gn : Int32) (gl : Int32) (gg : Int32) (nn : Int32) (nl : Int32) (nu : Int32) (hs : Int64) (x : Int32) (hc : cnt ≤ 20) : Met l yX7_setFaces wsX7_setFaces ({ frames := 1, cells := 0, slots := 0, locals := 22 } : Room) (va_Pc [.ref aM, .int x] (fun U => U.heap.size = zH ∧ va_P (dC, dI) vwCl [(aM, .inr (7, [.int th, .int (nI n), .int (nI cnt), .ref aMF, .ref aMT, .ref aMN, .ref aML, .ref aMU, .int (nI ml), .ref aMB, .int (nI sg), .int (nI rm), .int (nI mdg), .int (nI mnb), .int (bI mng), .ref aMf, .ref aMt, .ref aMn, .ref aMl, .ref aMu, .ref aMP, .ref aMD, .int (nI lk), .ref aMC, .ref aMO, .int gn, .int gl, .int gg, .ref aMY, .int nn, .int nl, .int nu, .ref aMS, .long hs]))] U.heap ∧ va_K (dC, dI) vwCl [(cyI, .int), (cyZ, .boolean), (cyJ, .long), (cyD, .double)] U ∧ va_D (fun _ => True) [(aM, .inr (7, [.int th, .int (nI n), .int (nI cnt), .ref aMF, .ref aMT, .ref aMN, .ref aML, .ref aMU, .int (nI ml), .ref aMB, .int (nI sg), .int (nI rm), .int (nI mdg), .int (nI mnb), .int (bI mng), .ref aMf, .ref aMt, .ref aMn, .ref aMl, .ref aMu, .ref aMP, .ref aMD, .int (nI lk), .ref aMC, .ref aMO, .int gn, .int gl, .int gg, .ref aMY, .int nn, .int nl, .int nu, .ref aMS, .long hs]))])) (va_Qi (fun (r : Int32) (_ : Unit) => r = if sfC x = 0 then nI cnt else 0) (fun _ t => va_P (dC, dI) vwCl [(aM, .inr (7, [.int (sfC x), .int (nI (if sfC x = 0 then x.toNatClampNeg else n)), .int (nI (if sfC x = 0 then 0 else cnt)), .ref aMF, .ref aMT, .ref aMN, .ref aML, .ref aMU, .int (nI ml), .ref aMB, .int (nI sg), .int (nI rm), .int (nI mdg), .int (nI mnb), .int (bI mng), .ref aMf, .ref aMt, .ref aMn, .ref aMl, .ref aMu, .ref aMP, .ref aMD, .int (nI lk), .ref aMC, .ref aMO, .int gn, .int gl, .int gg, .ref aMY, .int nn, .int nl, .int nu, .ref aMS, .long hs]))] t.heap ∧ va_K (dC, dI) vwCl [(cyI, .int), (cyZ, .boolean), (cyJ, .long), (cyD, .double)] t ∧ va_D (va_A [(aM, .inr (7, [.int th, .int (nI n), .int (nI cnt), .ref aMF, .ref aMT, .ref aMN, .ref aML, .ref aMU, .int (nI ml), .ref aMB, .int (nI sg), .int (nI rm), .int (nI mdg), .int (nI mnb), .int (bI mng), .ref aMf, .ref aMt, .ref aMn, .ref aMl, .ref aMu, .ref aMP, .ref aMD, .int (nI lk), .ref aMC, .ref aMO, .int gn, .int gl, .int gg, .ref aMY, .int nn, .int nl, .int nu, .ref aMS, .long hs]))] zH) [(aM, .inr (7, [.int (sfC x), .int (nI (if sfC x = 0 then x.toNatClampNeg else n)), .int (nI (if sfC x = 0 then 0 else cnt)), .ref aMF, .ref aMT, .ref aMN, .ref aML, .ref aMU, .int (nI ml), .ref aMB, .int (nI sg), .int (nI rm), .int (nI mdg), .int (nI mnb), .int (bI mng), .ref aMf, .ref aMt, .ref aMn, .ref aMl, .ref aMu, .ref aMP, .ref aMD, .int (nI lk), .ref aMC, .ref aMO, .int gn, .int gl, .int gg, .ref aMY, .int nn, .int nl, .int nu, .ref aMS, .long hs]))]) (va_A [(aM, .inr (7, [.int th, .int (nI n), .int (nI cnt), .ref aMF, .ref aMT, .ref aMN, .ref aML, .ref aMU, .int (nI ml), .ref aMB, .int (nI sg), .int (nI rm), .int (nI mdg), .int (nI mnb), .int (bI mng), .ref aMf, .ref aMt, .ref aMn, .ref aMl, .ref aMu, .ref aMP, .ref aMD, .int (nI lk), .ref aMC, .ref aMO, .int gn, .int gl, .int gg, .ref aMY, .int nn, .int nl, .int nu, .ref aMS, .long hs]))] zH)) 0 0 (va_A [(aM, .inr (7, [.int th, .int (nI n), .int (nI cnt), .ref aMF, .ref aMT, .ref aMN, .ref aML, .ref aMU, .int (nI ml), .ref aMB, .int (nI sg), .int (nI rm), .int (nI mdg), .int (nI mnb), .int (bI mng), .ref aMf, .ref aMt, .ref aMn, .ref aMl, .ref aMu, .ref aMP, .ref aMD, .int (nI lk), .ref aMC, .ref aMO, .int gn, .int gl, .int gg, .ref aMY, .int nn, .int nl, .int nu, .ref aMS, .long hs]))] zH) := by
  refine Met.ofW (cc := cX7_setFaces) (maxL := 3) (ret := (some .int)) (by decide) rfl ?_
  intro pM eM s mM args blM mtM cM s₁ BM hml hv
  obtain ⟨rfl, hsz, hP, hK, hD0⟩ := hv
  have hx := BM.exec
  have hb := BM.bytes
  have hr := BM.returns
  have hts := atoms_spec (ws := wsX7_setFaces) BM.pre
  have hown : s.vm.findClass RX7 = some mM.cls := findClass_of_methodNamed BM.named
  have hlocks := BM.notSynchronized
  have w0 := hts (.fieldLink RX7 67 "DimensionCheckerModel" "thrown" "I") (by decide +kernel)
  have w1 := hts (.fieldLink RX7 74 "DimensionCheckerModel" "many" "I") (by decide +kernel)
  have w2 := hts (.fieldLink RX7 7 "DimensionCheckerModel" "faces" "I") (by decide +kernel)
  have iX7 : ∀ w ∈ wsX70, w ∈ wsX7_setFaces := by decide +kernel
  subst hsz
  have hD := hD0.self (sz := s.heap.size)
  obtain ⟨Q, hQe⟩ : ∃ Q : State → Prop, Q = MQ blM (va_Qi (fun (r : Int32) (_ : Unit) => r = if sfC x = 0 then nI cnt else 0) (fun _ t => va_P (dC, dI) vwCl [(aM, .inr (7, [.int (sfC x), .int (nI (if sfC x = 0 then x.toNatClampNeg else n)), .int (nI (if sfC x = 0 then 0 else cnt)), .ref aMF, .ref aMT, .ref aMN, .ref aML, .ref aMU, .int (nI ml), .ref aMB, .int (nI sg), .int (nI rm), .int (nI mdg), .int (nI mnb), .int (bI mng), .ref aMf, .ref aMt, .ref aMn, .ref aMl, .ref aMu, .ref aMP, .ref aMD, .int (nI lk), .ref aMC, .ref aMO, .int gn, .int gl, .int gg, .ref aMY, .int nn, .int nl, .int nu, .ref aMS, .long hs]))] t.heap ∧ va_K (dC, dI) vwCl [(cyI, .int), (cyZ, .boolean), (cyJ, .long), (cyD, .double)] t ∧ va_D (va_A [(aM, .inr (7, [.int th, .int (nI n), .int (nI cnt), .ref aMF, .ref aMT, .ref aMN, .ref aML, .ref aMU, .int (nI ml), .ref aMB, .int (nI sg), .int (nI rm), .int (nI mdg), .int (nI mnb), .int (bI mng), .ref aMf, .ref aMt, .ref aMn, .ref aMl, .ref aMu, .ref aMP, .ref aMD, .int (nI lk), .ref aMC, .ref aMO, .int gn, .int gl, .int gg, .ref aMY, .int nn, .int nl, .int nu, .ref aMS, .long hs]))] s.heap.size) [(aM, .inr (7, [.int (sfC x), .int (nI (if sfC x = 0 then x.toNatClampNeg else n)), .int (nI (if sfC x = 0 then 0 else cnt)), .ref aMF, .ref aMT, .ref aMN, .ref aML, .ref aMU, .int (nI ml), .ref aMB, .int (nI sg), .int (nI rm), .int (nI mdg), .int (nI mnb), .int (bI mng), .ref aMf, .ref aMt, .ref aMn, .ref aMl, .ref aMu, .ref aMP, .ref aMD, .int (nI lk), .ref aMC, .ref aMO, .int gn, .int gl, .int gg, .ref aMY, .int nn, .int nl, .int nu, .ref aMS, .long hs]))]) (va_A [(aM, .inr (7, [.int th, .int (nI n), .int (nI cnt), .ref aMF, .ref aMT, .ref aMN, .ref aML, .ref aMU, .int (nI ml), .ref aMB, .int (nI sg), .int (nI rm), .int (nI mdg), .int (nI mnb), .int (bI mng), .ref aMf, .ref aMt, .ref aMn, .ref aMl, .ref aMu, .ref aMP, .ref aMD, .int (nI lk), .ref aMC, .ref aMO, .int gn, .int gl, .int gg, .ref aMY, .int nn, .int nl, .int nu, .ref aMS, .long hs]))] s.heap.size)) ([.ref aM, .int x] : List Value).toArray s 0 0 (va_A [(aM, .inr (7, [.int th, .int (nI n), .int (nI cnt), .ref aMF, .ref aMT, .ref aMN, .ref aML, .ref aMU, .int (nI ml), .ref aMB, .int (nI sg), .int (nI rm), .int (nI mdg), .int (nI mnb), .int (bI mng), .ref aMf, .ref aMt, .ref aMn, .ref aMl, .ref aMu, .ref aMP, .ref aMD, .int (nI lk), .ref aMC, .ref aMO, .int gn, .int gl, .int gg, .ref aMY, .int nn, .int nl, .int nu, .ref aMS, .long hs]))] s.heap.size) := ⟨_, rfl⟩
  rw [← hQe]
  generalize hAe : va_A [(aM, .inr (7, [.int th, .int (nI n), .int (nI cnt), .ref aMF, .ref aMT, .ref aMN, .ref aML, .ref aMU, .int (nI ml), .ref aMB, .int (nI sg), .int (nI rm), .int (nI mdg), .int (nI mnb), .int (bI mng), .ref aMf, .ref aMt, .ref aMn, .ref aMl, .ref aMu, .ref aMP, .ref aMD, .int (nI lk), .ref aMC, .ref aMO, .int gn, .int gl, .int gg, .ref aMY, .int nn, .int nl, .int nu, .ref aMS, .long hs]))] s.heap.size = A at hD hQe
  have hA : ∀ q : Nat, s.heap.size ≤ q → A q := fun q h => by rw [← hAe]; exact Or.inr h
  obtain ⟨H, hHe⟩ : ∃ H : Heap, H = s.heap := ⟨_, rfl⟩
  have hS : va_S A s.heap H [] := by rw [hHe]; exact va_S.rf
  rw [← hHe] at hP ⊢
  have hl := lv_entry ([.ref aM, .int x]) (n := 3) (Nat.le_of_ble_eq_true rfl)
  rw [lg_entry_eq]
  generalize (lg_sl ([.ref aM, .int x]) ++ List.replicate (3 - (lg_sl ([.ref aM, .int x])).length) Slot.unset).toArray = ls at hl ⊢
  have hl : lv_has ls 3 [(0, .ref aM), (1, .int x)] := hl
  refine lv_aload_n hx hb dX7_setFaces_0 rfl (lv_at hl 0 rfl) ?_
  refine lv_iload_n hx hb dX7_setFaces_1 rfl (lv_at hl 1 rfl) ?_
  refine lv_iconst (v := 2) hx hb dX7_setFaces_2 (by decide) ?_
  refine lv_bipush (v := 12) hx hb dX7_setFaces_3 (by decide) ?_
  have hPc := hP.sub (ws' := []) [] rfl
  have hDc := hD.sub (ws' := []) [] (by decide) rfl
  have hFc := va_free (wc := []) hD hS hA [] rfl
  refine va_calli (va_runS (As := [.int x, .int 2, .int 12]) (rest := [.ref aM]) ⟨hx, hb, hml, hown, hts⟩ (c_X7_within l dC dI cyI cyZ cyJ cyD H.size x 2 12) (va_cwS 3 hts gX7_setFaces_X7_within rfl rfl rfl (by decide +kernel) ⟨Nat.le_of_ble_eq_true rfl, Nat.le_of_ble_eq_true rfl⟩) ⟨fun a U g mk q => by obtain ⟨q0, q1, qP, qK, qD⟩ := q; exact ⟨q0, q1, qP, va_K.moved (u := U) (U := U.calling g mk a) (Vm.Alike.refl U.vm) qK, qD⟩, fun U hU hW => ⟨rfl, by rw [hU], by rw [hU]; exact hPc, va_K.moved hW.alike hK, hDc.weaken (fun _ _ _ _ => trivial)⟩⟩ rfl rfl hl.1 rfl (lv_room (Nat.le_of_ble_eq_true rfl)) dX7_setFaces_5 ⟨Nat.le_of_ble_eq_true rfl, Nat.le_of_ble_eq_true rfl⟩) hS (fun q _ h => hFc q h) hFc (fun r u t H1 locs ht hvm hw hB hz1 hk1 hS => ?_)
  obtain rfl := hw
  obtain ⟨hP1, hK1, hD1⟩ := hB
  rw [ht] at hP1
  obtain ⟨hP, hD⟩ := va_join (wr := [(aM, .inr (7, [.int th, .int (nI n), .int (nI cnt), .ref aMF, .ref aMT, .ref aMN, .ref aML, .ref aMU, .int (nI ml), .ref aMB, .int (nI sg), .int (nI rm), .int (nI mdg), .int (nI mnb), .int (bI mng), .ref aMf, .ref aMt, .ref aMn, .ref aMl, .ref aMu, .ref aMP, .ref aMD, .int (nI lk), .ref aMC, .ref aMO, .int gn, .int gl, .int gg, .ref aMY, .int nn, .int nl, .int nu, .ref aMS, .long hs]))]) (w1 := []) hP hD [] [0] rfl rfl (by decide) (by decide) hk1 hFc hP1 hD1
  clear hP1 hD1 hK1 hPc hDc hFc hk1 hz1 hvm ht u t
  generalize H1 = H at hP hS ⊢
  have hP : va_P (dC, dI) vwCl [(aM, .inr (7, [.int th, .int (nI n), .int (nI cnt), .ref aMF, .ref aMT, .ref aMN, .ref aML, .ref aMU, .int (nI ml), .ref aMB, .int (nI sg), .int (nI rm), .int (nI mdg), .int (nI mnb), .int (bI mng), .ref aMf, .ref aMt, .ref aMn, .ref aMl, .ref aMu, .ref aMP, .ref aMD, .int (nI lk), .ref aMC, .ref aMO, .int gn, .int gl, .int gg, .ref aMY, .int nn, .int nl, .int nu, .ref aMS, .long hs]))] H := hP
  have hD : va_D A [(aM, .inr (7, [.int th, .int (nI n), .int (nI cnt), .ref aMF, .ref aMT, .ref aMN, .ref aML, .ref aMU, .int (nI ml), .ref aMB, .int (nI sg), .int (nI rm), .int (nI mdg), .int (nI mnb), .int (bI mng), .ref aMf, .ref aMt, .ref aMn, .ref aMl, .ref aMu, .ref aMP, .ref aMD, .int (nI lk), .ref aMC, .ref aMO, .int gn, .int gl, .int gg, .ref aMY, .int nn, .int nl, .int nu, .ref aMS, .long hs]))] := hD
  refine lv_if_eq (tgt := 15) hx hb dX7_setFaces_8 (by decide) (fun c8 => ?_) (fun c8 => ?_)
  · have c8 : (wtn x 2 12) = false := bI_0 c8
    have hz : sfC x = 1 := by simp [sfC, c8]
    refine lv_iconst (v := 1) hx hb dX7_setFaces_15 (by decide) ?_
    refine va_put (D := (dC, dI)) (ci := 7) (v := .int 1) (ty := .int) (C := RX7) (T := TX7) (N := 34) hx hb hts iX7 tyX7 tyX7_ok nmX7 hown hK hP hD hS 0 rfl rfl 0 (by decide) w0 (fun _ h9 => h9) rfl (by decide +kernel) rfl rfl (Nat.le_of_ble_eq_true rfl) dX7_setFaces_16 (fun H locs hP hD hS => ?_)
    have hP : va_P (dC, dI) vwCl [(aM, .inr (7, [.int 1, .int (nI n), .int (nI cnt), .ref aMF, .ref aMT, .ref aMN, .ref aML, .ref aMU, .int (nI ml), .ref aMB, .int (nI sg), .int (nI rm), .int (nI mdg), .int (nI mnb), .int (bI mng), .ref aMf, .ref aMt, .ref aMn, .ref aMl, .ref aMu, .ref aMP, .ref aMD, .int (nI lk), .ref aMC, .ref aMO, .int gn, .int gl, .int gg, .ref aMY, .int nn, .int nl, .int nu, .ref aMS, .long hs]))] H := hP
    have hD : va_D A [(aM, .inr (7, [.int 1, .int (nI n), .int (nI cnt), .ref aMF, .ref aMT, .ref aMN, .ref aML, .ref aMU, .int (nI ml), .ref aMB, .int (nI sg), .int (nI rm), .int (nI mdg), .int (nI mnb), .int (bI mng), .ref aMf, .ref aMt, .ref aMn, .ref aMl, .ref aMu, .ref aMP, .ref aMD, .int (nI lk), .ref aMC, .ref aMO, .int gn, .int gl, .int gg, .ref aMY, .int nn, .int nl, .int nu, .ref aMS, .long hs]))] := hD
    refine lv_aload_n hx hb dX7_setFaces_19 rfl (lv_at hl 0 rfl) ?_
    refine va_get (D := (dC, dI)) (ci := 7) (v := .int 1) (C := RX7) (T := TX7) (N := 34) hx hb hts iX7 hown hK hP 0 rfl rfl 0 (by decide) w0 (fun _ h9 => h9) rfl dX7_setFaces_20 ?_
    refine lv_if_le (tgt := 28) hx hb dX7_setFaces_23 (by decide) (fun c23 => ?_) (fun c23 => ?_)
    · exact absurd c23 (by decide)
    · skip
      refine lv_iconst (v := 0) hx hb dX7_setFaces_26 (by decide) ?_
      have r1 : 0 = (if sfC x = 0 then nI cnt else 0) := by simp [hz]
      have q2 : (sfC x) = 1 := by first | (simp [hz]; done) | (simp [hz]; rfl)
      have q3 : (nI (if sfC x = 0 then x.toNatClampNeg else n)) = (nI n) := by first | (simp [hz]; done) | (simp [hz]; rfl)
      have q4 : (nI (if sfC x = 0 then 0 else cnt)) = (nI cnt) := by first | (simp [hz]; done) | (simp [hz]; rfl)
      have hP9 : va_P (dC, dI) vwCl [(aM, .inr (7, [.int (sfC x), .int (nI (if sfC x = 0 then x.toNatClampNeg else n)), .int (nI (if sfC x = 0 then 0 else cnt)), .ref aMF, .ref aMT, .ref aMN, .ref aML, .ref aMU, .int (nI ml), .ref aMB, .int (nI sg), .int (nI rm), .int (nI mdg), .int (nI mnb), .int (bI mng), .ref aMf, .ref aMt, .ref aMn, .ref aMl, .ref aMu, .ref aMP, .ref aMD, .int (nI lk), .ref aMC, .ref aMO, .int gn, .int gl, .int gg, .ref aMY, .int nn, .int nl, .int nu, .ref aMS, .long hs]))] H := by first | (rw [q3, q4, q2]; exact hP.sub [0] rfl) | (simp only [q3, q4, q2]; exact hP.sub [0] rfl) | exact hP.sub [0] rfl
      have hD9 : va_D A [(aM, .inr (7, [.int (sfC x), .int (nI (if sfC x = 0 then x.toNatClampNeg else n)), .int (nI (if sfC x = 0 then 0 else cnt)), .ref aMF, .ref aMT, .ref aMN, .ref aML, .ref aMU, .int (nI ml), .ref aMB, .int (nI sg), .int (nI rm), .int (nI mdg), .int (nI mnb), .int (bI mng), .ref aMf, .ref aMt, .ref aMn, .ref aMl, .ref aMu, .ref aMP, .ref aMD, .int (nI lk), .ref aMC, .ref aMO, .int gn, .int gl, .int gg, .ref aMY, .int nn, .int nl, .int nu, .ref aMS, .long hs]))] := by first | (rw [q3, q4, q2]; exact hD.sub [0] (by decide) rfl) | (simp only [q3, q4, q2]; exact hD.sub [0] (by decide) rfl) | exact hD.sub [0] (by decide) rfl
      rw [hQe]
      exact W.iret (v := 0) hx hb hr (fun t ht hW => ⟨⟨_, (), rfl, r1, by rw [ht]; exact hP9, va_K.moved hW.alike hK, hD9⟩, hS.F ht⟩) hS.2.2 dX7_setFaces_27
  · have c8 : (wtn x 2 12) = true := bI_n0 c8
    have hz : sfC x = 0 := by simp [sfC, c8]
    have hx2 : x = nI x.toNatClampNeg := wtn_nat (by decide) c8
    refine lv_iconst (v := 0) hx hb dX7_setFaces_11 (by decide) ?_
    refine lv_goto (tgt := 16) hx hb dX7_setFaces_12 (by decide) ?_
    refine va_put (D := (dC, dI)) (ci := 7) (v := .int 0) (ty := .int) (C := RX7) (T := TX7) (N := 34) hx hb hts iX7 tyX7 tyX7_ok nmX7 hown hK hP hD hS 0 rfl rfl 0 (by decide) w0 (fun _ h9 => h9) rfl (by decide +kernel) rfl rfl (Nat.le_of_ble_eq_true rfl) dX7_setFaces_16 (fun H locs hP hD hS => ?_)
    have hP : va_P (dC, dI) vwCl [(aM, .inr (7, [.int 0, .int (nI n), .int (nI cnt), .ref aMF, .ref aMT, .ref aMN, .ref aML, .ref aMU, .int (nI ml), .ref aMB, .int (nI sg), .int (nI rm), .int (nI mdg), .int (nI mnb), .int (bI mng), .ref aMf, .ref aMt, .ref aMn, .ref aMl, .ref aMu, .ref aMP, .ref aMD, .int (nI lk), .ref aMC, .ref aMO, .int gn, .int gl, .int gg, .ref aMY, .int nn, .int nl, .int nu, .ref aMS, .long hs]))] H := hP
    have hD : va_D A [(aM, .inr (7, [.int 0, .int (nI n), .int (nI cnt), .ref aMF, .ref aMT, .ref aMN, .ref aML, .ref aMU, .int (nI ml), .ref aMB, .int (nI sg), .int (nI rm), .int (nI mdg), .int (nI mnb), .int (bI mng), .ref aMf, .ref aMt, .ref aMn, .ref aMl, .ref aMu, .ref aMP, .ref aMD, .int (nI lk), .ref aMC, .ref aMO, .int gn, .int gl, .int gg, .ref aMY, .int nn, .int nl, .int nu, .ref aMS, .long hs]))] := hD
    refine lv_aload_n hx hb dX7_setFaces_19 rfl (lv_at hl 0 rfl) ?_
    refine va_get (D := (dC, dI)) (ci := 7) (v := .int 0) (C := RX7) (T := TX7) (N := 34) hx hb hts iX7 hown hK hP 0 rfl rfl 0 (by decide) w0 (fun _ h9 => h9) rfl dX7_setFaces_20 ?_
    refine lv_if_le (tgt := 28) hx hb dX7_setFaces_23 (by decide) (fun c23 => ?_) (fun c23 => ?_)
    · skip
      refine lv_aload_n hx hb dX7_setFaces_28 rfl (lv_at hl 0 rfl) ?_
      refine va_get (D := (dC, dI)) (ci := 7) (v := .int (nI cnt)) (C := RX7) (T := TX7) (N := 34) hx hb hts iX7 hown hK hP 0 rfl rfl 2 (by decide) w1 (fun _ h9 => h9) rfl dX7_setFaces_29 ?_
      refine lv_istore_n (lv' := [(2, .int (nI cnt)), (0, .ref aM), (1, .int x)]) hx hb dX7_setFaces_32 rfl hl (by decide) rfl (fun ls hl => ?_)
      refine lv_aload_n hx hb dX7_setFaces_33 rfl (lv_at hl 1 rfl) ?_
      refine lv_iload_n hx hb dX7_setFaces_34 rfl (lv_at hl 2 rfl) ?_
      refine lv_topi (fun x5 e6 => ?_)
      obtain rfl : x5 = (nI x.toNatClampNeg) := by rw [e6]; exact hx2
      clear e6
      refine va_put (D := (dC, dI)) (ci := 7) (v := .int (nI x.toNatClampNeg)) (ty := .int) (C := RX7) (T := TX7) (N := 34) hx hb hts iX7 tyX7 tyX7_ok nmX7 hown hK hP hD hS 0 rfl rfl 1 (by decide) w2 (fun _ h9 => h9) rfl (by decide +kernel) rfl rfl (Nat.le_of_ble_eq_true rfl) dX7_setFaces_35 (fun H locs hP hD hS => ?_)
      have hP : va_P (dC, dI) vwCl [(aM, .inr (7, [.int 0, .int (nI x.toNatClampNeg), .int (nI cnt), .ref aMF, .ref aMT, .ref aMN, .ref aML, .ref aMU, .int (nI ml), .ref aMB, .int (nI sg), .int (nI rm), .int (nI mdg), .int (nI mnb), .int (bI mng), .ref aMf, .ref aMt, .ref aMn, .ref aMl, .ref aMu, .ref aMP, .ref aMD, .int (nI lk), .ref aMC, .ref aMO, .int gn, .int gl, .int gg, .ref aMY, .int nn, .int nl, .int nu, .ref aMS, .long hs]))] H := hP
      have hD : va_D A [(aM, .inr (7, [.int 0, .int (nI x.toNatClampNeg), .int (nI cnt), .ref aMF, .ref aMT, .ref aMN, .ref aML, .ref aMU, .int (nI ml), .ref aMB, .int (nI sg), .int (nI rm), .int (nI mdg), .int (nI mnb), .int (bI mng), .ref aMf, .ref aMt, .ref aMn, .ref aMl, .ref aMu, .ref aMP, .ref aMD, .int (nI lk), .ref aMC, .ref aMO, .int gn, .int gl, .int gg, .ref aMY, .int nn, .int nl, .int nu, .ref aMS, .long hs]))] := hD
      refine lv_aload_n hx hb dX7_setFaces_38 rfl (lv_at hl 1 rfl) ?_
      refine lv_iconst (v := 0) hx hb dX7_setFaces_39 (by decide) ?_
      refine va_put (D := (dC, dI)) (ci := 7) (v := .int 0) (ty := .int) (C := RX7) (T := TX7) (N := 34) hx hb hts iX7 tyX7 tyX7_ok nmX7 hown hK hP hD hS 0 rfl rfl 2 (by decide) w1 (fun _ h9 => h9) rfl (by decide +kernel) rfl rfl (Nat.le_of_ble_eq_true rfl) dX7_setFaces_40 (fun H locs hP hD hS => ?_)
      have hP : va_P (dC, dI) vwCl [(aM, .inr (7, [.int 0, .int (nI x.toNatClampNeg), .int 0, .ref aMF, .ref aMT, .ref aMN, .ref aML, .ref aMU, .int (nI ml), .ref aMB, .int (nI sg), .int (nI rm), .int (nI mdg), .int (nI mnb), .int (bI mng), .ref aMf, .ref aMt, .ref aMn, .ref aMl, .ref aMu, .ref aMP, .ref aMD, .int (nI lk), .ref aMC, .ref aMO, .int gn, .int gl, .int gg, .ref aMY, .int nn, .int nl, .int nu, .ref aMS, .long hs]))] H := hP
      have hD : va_D A [(aM, .inr (7, [.int 0, .int (nI x.toNatClampNeg), .int 0, .ref aMF, .ref aMT, .ref aMN, .ref aML, .ref aMU, .int (nI ml), .ref aMB, .int (nI sg), .int (nI rm), .int (nI mdg), .int (nI mnb), .int (bI mng), .ref aMf, .ref aMt, .ref aMn, .ref aMl, .ref aMu, .ref aMP, .ref aMD, .int (nI lk), .ref aMC, .ref aMO, .int gn, .int gl, .int gg, .ref aMY, .int nn, .int nl, .int nu, .ref aMS, .long hs]))] := hD
      refine lv_iload_n hx hb dX7_setFaces_43 rfl (lv_at hl 0 rfl) ?_
      have r7 : (nI cnt) = (if sfC x = 0 then nI cnt else 0) := by simp [hz]
      have q8 : (sfC x) = 0 := by first | (simp [hz]; done) | (simp [hz]; rfl)
      have q9 : (nI (if sfC x = 0 then x.toNatClampNeg else n)) = (nI x.toNatClampNeg) := by first | (simp [hz]; done) | (simp [hz]; rfl)
      have q10 : (nI (if sfC x = 0 then 0 else cnt)) = 0 := by first | (simp [hz]; done) | (simp [hz]; rfl)
      have hP9 : va_P (dC, dI) vwCl [(aM, .inr (7, [.int (sfC x), .int (nI (if sfC x = 0 then x.toNatClampNeg else n)), .int (nI (if sfC x = 0 then 0 else cnt)), .ref aMF, .ref aMT, .ref aMN, .ref aML, .ref aMU, .int (nI ml), .ref aMB, .int (nI sg), .int (nI rm), .int (nI mdg), .int (nI mnb), .int (bI mng), .ref aMf, .ref aMt, .ref aMn, .ref aMl, .ref aMu, .ref aMP, .ref aMD, .int (nI lk), .ref aMC, .ref aMO, .int gn, .int gl, .int gg, .ref aMY, .int nn, .int nl, .int nu, .ref aMS, .long hs]))] H := by first | (rw [q9, q10, q8]; exact hP.sub [0] rfl) | (simp only [q9, q10, q8]; exact hP.sub [0] rfl) | exact hP.sub [0] rfl
      have hD9 : va_D A [(aM, .inr (7, [.int (sfC x), .int (nI (if sfC x = 0 then x.toNatClampNeg else n)), .int (nI (if sfC x = 0 then 0 else cnt)), .ref aMF, .ref aMT, .ref aMN, .ref aML, .ref aMU, .int (nI ml), .ref aMB, .int (nI sg), .int (nI rm), .int (nI mdg), .int (nI mnb), .int (bI mng), .ref aMf, .ref aMt, .ref aMn, .ref aMl, .ref aMu, .ref aMP, .ref aMD, .int (nI lk), .ref aMC, .ref aMO, .int gn, .int gl, .int gg, .ref aMY, .int nn, .int nl, .int nu, .ref aMS, .long hs]))] := by first | (rw [q9, q10, q8]; exact hD.sub [0] (by decide) rfl) | (simp only [q9, q10, q8]; exact hD.sub [0] (by decide) rfl) | exact hD.sub [0] (by decide) rfl
      rw [hQe]
      exact W.iret (v := nI cnt) hx hb hr (fun t ht hW => ⟨⟨_, (), rfl, r7, by rw [ht]; exact hP9, va_K.moved hW.alike hK, hD9⟩, hS.F ht⟩) hS.2.2 dX7_setFaces_44
    · exact absurd c23 (by decide)
set_option maxHeartbeats 4000000 in
set_option maxRecDepth 100000 in
theorem c_X7_addDimension (l : Launch) (dC : Nat → ClassId) (dI : Nat → Nat → Nat) (cyI cyZ cyJ cyD : ClassId) (aM aMF aMT aMN aML aMU aMB aMf aMt aMn aMl aMu aMP aMD aMC aMO aMY aMS : Nat) (zH : Nat) (th : Int32) (n : Nat) (cnt : Nat) (ml : Nat) (sg : Nat) (rm : Nat) (mdg : Nat) (mnb : Nat) (mng : Bool) (lk : Nat) (gn : Int32) (gl : Int32) (gg : Int32) (nn : Int32) (nl : Int32) (nu : Int32) (hs : Int64) (F : Nat → Nat) (T : Nat → Nat) (nm : Nat → Int32) (lo : Nat → Int32) (up : Nat → Int32) (a : Int32) (b : Int32) (x : Int32) (y : Int32) (z : Int32) (hn : n ≤ 12) (hc : cnt ≤ 20) : Met l yX7_addDimension wsX7_addDimension ({ frames := 2, cells := 0, slots := 0, locals := 43 } : Room) (va_Pc [.ref aM, .int a, .int b, .int x, .int y, .int z] (fun U => U.heap.size = zH ∧ va_P (dC, dI) vwCl [(aM, .inr (7, [.int th, .int (nI n), .int (nI cnt), .ref aMF, .ref aMT, .ref aMN, .ref aML, .ref aMU, .int (nI ml), .ref aMB, .int (nI sg), .int (nI rm), .int (nI mdg), .int (nI mnb), .int (bI mng), .ref aMf, .ref aMt, .ref aMn, .ref aMl, .ref aMu, .ref aMP, .ref aMD, .int (nI lk), .ref aMC, .ref aMO, .int gn, .int gl, .int gg, .ref aMY, .int nn, .int nl, .int nu, .ref aMS, .long hs])), (aMF, .inl (cyI, 20, .inl (fun j_ => nI (F j_)))), (aMT, .inl (cyI, 20, .inl (fun j_ => nI (T j_)))), (aMN, .inl (cyI, 20, .inl nm)), (aML, .inl (cyI, 20, .inl lo)), (aMU, .inl (cyI, 20, .inl up))] U.heap ∧ va_K (dC, dI) vwCl [(cyI, .int), (cyZ, .boolean), (cyJ, .long), (cyD, .double)] U ∧ va_D (fun _ => True) [(aM, .inr (7, [.int th, .int (nI n), .int (nI cnt), .ref aMF, .ref aMT, .ref aMN, .ref aML, .ref aMU, .int (nI ml), .ref aMB, .int (nI sg), .int (nI rm), .int (nI mdg), .int (nI mnb), .int (bI mng), .ref aMf, .ref aMt, .ref aMn, .ref aMl, .ref aMu, .ref aMP, .ref aMD, .int (nI lk), .ref aMC, .ref aMO, .int gn, .int gl, .int gg, .ref aMY, .int nn, .int nl, .int nu, .ref aMS, .long hs])), (aMF, .inl (cyI, 20, .inl (fun j_ => nI (F j_)))), (aMT, .inl (cyI, 20, .inl (fun j_ => nI (T j_)))), (aMN, .inl (cyI, 20, .inl nm)), (aML, .inl (cyI, 20, .inl lo)), (aMU, .inl (cyI, 20, .inl up))])) (va_Qi (fun (r : Int32) (_ : Unit) => r = if adC n cnt a b x y z = 0 then nI cnt else 0) (fun _ t => va_P (dC, dI) vwCl [(aM, .inr (7, [.int (adC n cnt a b x y z), .int (nI n), .int (nI (if adC n cnt a b x y z = 0 then cnt + 1 else cnt)), .ref aMF, .ref aMT, .ref aMN, .ref aML, .ref aMU, .int (nI ml), .ref aMB, .int (nI sg), .int (nI rm), .int (nI mdg), .int (nI mnb), .int (bI mng), .ref aMf, .ref aMt, .ref aMn, .ref aMl, .ref aMu, .ref aMP, .ref aMD, .int (nI lk), .ref aMC, .ref aMO, .int gn, .int gl, .int gg, .ref aMY, .int nn, .int nl, .int nu, .ref aMS, .long hs])), (aMF, .inl (cyI, 20, .inl (fun j_ => nI ((if adC n cnt a b x y z = 0 then updN F cnt a.toNatClampNeg else F) j_)))), (aMT, .inl (cyI, 20, .inl (fun j_ => nI ((if adC n cnt a b x y z = 0 then updN T cnt b.toNatClampNeg else T) j_)))), (aMN, .inl (cyI, 20, .inl (if adC n cnt a b x y z = 0 then upd nm cnt x else nm))), (aML, .inl (cyI, 20, .inl (if adC n cnt a b x y z = 0 then upd lo cnt y else lo))), (aMU, .inl (cyI, 20, .inl (if adC n cnt a b x y z = 0 then upd up cnt z else up)))] t.heap ∧ va_K (dC, dI) vwCl [(cyI, .int), (cyZ, .boolean), (cyJ, .long), (cyD, .double)] t ∧ va_D (va_A [(aM, .inr (7, [.int th, .int (nI n), .int (nI cnt), .ref aMF, .ref aMT, .ref aMN, .ref aML, .ref aMU, .int (nI ml), .ref aMB, .int (nI sg), .int (nI rm), .int (nI mdg), .int (nI mnb), .int (bI mng), .ref aMf, .ref aMt, .ref aMn, .ref aMl, .ref aMu, .ref aMP, .ref aMD, .int (nI lk), .ref aMC, .ref aMO, .int gn, .int gl, .int gg, .ref aMY, .int nn, .int nl, .int nu, .ref aMS, .long hs])), (aMF, .inl (cyI, 20, .inl (fun j_ => nI (F j_)))), (aMT, .inl (cyI, 20, .inl (fun j_ => nI (T j_)))), (aMN, .inl (cyI, 20, .inl nm)), (aML, .inl (cyI, 20, .inl lo)), (aMU, .inl (cyI, 20, .inl up))] zH) [(aM, .inr (7, [.int (adC n cnt a b x y z), .int (nI n), .int (nI (if adC n cnt a b x y z = 0 then cnt + 1 else cnt)), .ref aMF, .ref aMT, .ref aMN, .ref aML, .ref aMU, .int (nI ml), .ref aMB, .int (nI sg), .int (nI rm), .int (nI mdg), .int (nI mnb), .int (bI mng), .ref aMf, .ref aMt, .ref aMn, .ref aMl, .ref aMu, .ref aMP, .ref aMD, .int (nI lk), .ref aMC, .ref aMO, .int gn, .int gl, .int gg, .ref aMY, .int nn, .int nl, .int nu, .ref aMS, .long hs])), (aMF, .inl (cyI, 20, .inl (fun j_ => nI ((if adC n cnt a b x y z = 0 then updN F cnt a.toNatClampNeg else F) j_)))), (aMT, .inl (cyI, 20, .inl (fun j_ => nI ((if adC n cnt a b x y z = 0 then updN T cnt b.toNatClampNeg else T) j_)))), (aMN, .inl (cyI, 20, .inl (if adC n cnt a b x y z = 0 then upd nm cnt x else nm))), (aML, .inl (cyI, 20, .inl (if adC n cnt a b x y z = 0 then upd lo cnt y else lo))), (aMU, .inl (cyI, 20, .inl (if adC n cnt a b x y z = 0 then upd up cnt z else up)))]) (va_A [(aM, .inr (7, [.int th, .int (nI n), .int (nI cnt), .ref aMF, .ref aMT, .ref aMN, .ref aML, .ref aMU, .int (nI ml), .ref aMB, .int (nI sg), .int (nI rm), .int (nI mdg), .int (nI mnb), .int (bI mng), .ref aMf, .ref aMt, .ref aMn, .ref aMl, .ref aMu, .ref aMP, .ref aMD, .int (nI lk), .ref aMC, .ref aMO, .int gn, .int gl, .int gg, .ref aMY, .int nn, .int nl, .int nu, .ref aMS, .long hs])), (aMF, .inl (cyI, 20, .inl (fun j_ => nI (F j_)))), (aMT, .inl (cyI, 20, .inl (fun j_ => nI (T j_)))), (aMN, .inl (cyI, 20, .inl nm)), (aML, .inl (cyI, 20, .inl lo)), (aMU, .inl (cyI, 20, .inl up))] zH)) 0 0 (va_A [(aM, .inr (7, [.int th, .int (nI n), .int (nI cnt), .ref aMF, .ref aMT, .ref aMN, .ref aML, .ref aMU, .int (nI ml), .ref aMB, .int (nI sg), .int (nI rm), .int (nI mdg), .int (nI mnb), .int (bI mng), .ref aMf, .ref aMt, .ref aMn, .ref aMl, .ref aMu, .ref aMP, .ref aMD, .int (nI lk), .ref aMC, .ref aMO, .int gn, .int gl, .int gg, .ref aMY, .int nn, .int nl, .int nu, .ref aMS, .long hs])), (aMF, .inl (cyI, 20, .inl (fun j_ => nI (F j_)))), (aMT, .inl (cyI, 20, .inl (fun j_ => nI (T j_)))), (aMN, .inl (cyI, 20, .inl nm)), (aML, .inl (cyI, 20, .inl lo)), (aMU, .inl (cyI, 20, .inl up))] zH) := by
  refine Met.ofW (cc := cX7_addDimension) (maxL := 7) (ret := (some .int)) (by decide) rfl ?_
  intro pM eM s mM args blM mtM cM s₁ BM hml hv
  obtain ⟨rfl, hsz, hP, hK, hD0⟩ := hv
  have hx := BM.exec
  have hb := BM.bytes
  have hr := BM.returns
  have hts := atoms_spec (ws := wsX7_addDimension) BM.pre
  have hown : s.vm.findClass RX7 = some mM.cls := findClass_of_methodNamed BM.named
  have hlocks := BM.notSynchronized
  have w0 := hts (.fieldLink RX7 67 "DimensionCheckerModel" "thrown" "I") (by decide +kernel)
  have w1 := hts (.fieldLink RX7 74 "DimensionCheckerModel" "many" "I") (by decide +kernel)
  have w2 := hts (.constant RX7 77 (-99999)) (by decide +kernel)
  have w3 := hts (.constant RX7 78 (99999)) (by decide +kernel)
  have iX7 : ∀ w ∈ wsX70, w ∈ wsX7_addDimension := by decide +kernel
  subst hsz
  have hD := hD0.self (sz := s.heap.size)
  obtain ⟨Q, hQe⟩ : ∃ Q : State → Prop, Q = MQ blM (va_Qi (fun (r : Int32) (_ : Unit) => r = if adC n cnt a b x y z = 0 then nI cnt else 0) (fun _ t => va_P (dC, dI) vwCl [(aM, .inr (7, [.int (adC n cnt a b x y z), .int (nI n), .int (nI (if adC n cnt a b x y z = 0 then cnt + 1 else cnt)), .ref aMF, .ref aMT, .ref aMN, .ref aML, .ref aMU, .int (nI ml), .ref aMB, .int (nI sg), .int (nI rm), .int (nI mdg), .int (nI mnb), .int (bI mng), .ref aMf, .ref aMt, .ref aMn, .ref aMl, .ref aMu, .ref aMP, .ref aMD, .int (nI lk), .ref aMC, .ref aMO, .int gn, .int gl, .int gg, .ref aMY, .int nn, .int nl, .int nu, .ref aMS, .long hs])), (aMF, .inl (cyI, 20, .inl (fun j_ => nI ((if adC n cnt a b x y z = 0 then updN F cnt a.toNatClampNeg else F) j_)))), (aMT, .inl (cyI, 20, .inl (fun j_ => nI ((if adC n cnt a b x y z = 0 then updN T cnt b.toNatClampNeg else T) j_)))), (aMN, .inl (cyI, 20, .inl (if adC n cnt a b x y z = 0 then upd nm cnt x else nm))), (aML, .inl (cyI, 20, .inl (if adC n cnt a b x y z = 0 then upd lo cnt y else lo))), (aMU, .inl (cyI, 20, .inl (if adC n cnt a b x y z = 0 then upd up cnt z else up)))] t.heap ∧ va_K (dC, dI) vwCl [(cyI, .int), (cyZ, .boolean), (cyJ, .long), (cyD, .double)] t ∧ va_D (va_A [(aM, .inr (7, [.int th, .int (nI n), .int (nI cnt), .ref aMF, .ref aMT, .ref aMN, .ref aML, .ref aMU, .int (nI ml), .ref aMB, .int (nI sg), .int (nI rm), .int (nI mdg), .int (nI mnb), .int (bI mng), .ref aMf, .ref aMt, .ref aMn, .ref aMl, .ref aMu, .ref aMP, .ref aMD, .int (nI lk), .ref aMC, .ref aMO, .int gn, .int gl, .int gg, .ref aMY, .int nn, .int nl, .int nu, .ref aMS, .long hs])), (aMF, .inl (cyI, 20, .inl (fun j_ => nI (F j_)))), (aMT, .inl (cyI, 20, .inl (fun j_ => nI (T j_)))), (aMN, .inl (cyI, 20, .inl nm)), (aML, .inl (cyI, 20, .inl lo)), (aMU, .inl (cyI, 20, .inl up))] s.heap.size) [(aM, .inr (7, [.int (adC n cnt a b x y z), .int (nI n), .int (nI (if adC n cnt a b x y z = 0 then cnt + 1 else cnt)), .ref aMF, .ref aMT, .ref aMN, .ref aML, .ref aMU, .int (nI ml), .ref aMB, .int (nI sg), .int (nI rm), .int (nI mdg), .int (nI mnb), .int (bI mng), .ref aMf, .ref aMt, .ref aMn, .ref aMl, .ref aMu, .ref aMP, .ref aMD, .int (nI lk), .ref aMC, .ref aMO, .int gn, .int gl, .int gg, .ref aMY, .int nn, .int nl, .int nu, .ref aMS, .long hs])), (aMF, .inl (cyI, 20, .inl (fun j_ => nI ((if adC n cnt a b x y z = 0 then updN F cnt a.toNatClampNeg else F) j_)))), (aMT, .inl (cyI, 20, .inl (fun j_ => nI ((if adC n cnt a b x y z = 0 then updN T cnt b.toNatClampNeg else T) j_)))), (aMN, .inl (cyI, 20, .inl (if adC n cnt a b x y z = 0 then upd nm cnt x else nm))), (aML, .inl (cyI, 20, .inl (if adC n cnt a b x y z = 0 then upd lo cnt y else lo))), (aMU, .inl (cyI, 20, .inl (if adC n cnt a b x y z = 0 then upd up cnt z else up)))]) (va_A [(aM, .inr (7, [.int th, .int (nI n), .int (nI cnt), .ref aMF, .ref aMT, .ref aMN, .ref aML, .ref aMU, .int (nI ml), .ref aMB, .int (nI sg), .int (nI rm), .int (nI mdg), .int (nI mnb), .int (bI mng), .ref aMf, .ref aMt, .ref aMn, .ref aMl, .ref aMu, .ref aMP, .ref aMD, .int (nI lk), .ref aMC, .ref aMO, .int gn, .int gl, .int gg, .ref aMY, .int nn, .int nl, .int nu, .ref aMS, .long hs])), (aMF, .inl (cyI, 20, .inl (fun j_ => nI (F j_)))), (aMT, .inl (cyI, 20, .inl (fun j_ => nI (T j_)))), (aMN, .inl (cyI, 20, .inl nm)), (aML, .inl (cyI, 20, .inl lo)), (aMU, .inl (cyI, 20, .inl up))] s.heap.size)) ([.ref aM, .int a, .int b, .int x, .int y, .int z] : List Value).toArray s 0 0 (va_A [(aM, .inr (7, [.int th, .int (nI n), .int (nI cnt), .ref aMF, .ref aMT, .ref aMN, .ref aML, .ref aMU, .int (nI ml), .ref aMB, .int (nI sg), .int (nI rm), .int (nI mdg), .int (nI mnb), .int (bI mng), .ref aMf, .ref aMt, .ref aMn, .ref aMl, .ref aMu, .ref aMP, .ref aMD, .int (nI lk), .ref aMC, .ref aMO, .int gn, .int gl, .int gg, .ref aMY, .int nn, .int nl, .int nu, .ref aMS, .long hs])), (aMF, .inl (cyI, 20, .inl (fun j_ => nI (F j_)))), (aMT, .inl (cyI, 20, .inl (fun j_ => nI (T j_)))), (aMN, .inl (cyI, 20, .inl nm)), (aML, .inl (cyI, 20, .inl lo)), (aMU, .inl (cyI, 20, .inl up))] s.heap.size) := ⟨_, rfl⟩
  rw [← hQe]
  generalize hAe : va_A [(aM, .inr (7, [.int th, .int (nI n), .int (nI cnt), .ref aMF, .ref aMT, .ref aMN, .ref aML, .ref aMU, .int (nI ml), .ref aMB, .int (nI sg), .int (nI rm), .int (nI mdg), .int (nI mnb), .int (bI mng), .ref aMf, .ref aMt, .ref aMn, .ref aMl, .ref aMu, .ref aMP, .ref aMD, .int (nI lk), .ref aMC, .ref aMO, .int gn, .int gl, .int gg, .ref aMY, .int nn, .int nl, .int nu, .ref aMS, .long hs])), (aMF, .inl (cyI, 20, .inl (fun j_ => nI (F j_)))), (aMT, .inl (cyI, 20, .inl (fun j_ => nI (T j_)))), (aMN, .inl (cyI, 20, .inl nm)), (aML, .inl (cyI, 20, .inl lo)), (aMU, .inl (cyI, 20, .inl up))] s.heap.size = A at hD hQe
  have hA : ∀ q : Nat, s.heap.size ≤ q → A q := fun q h => by rw [← hAe]; exact Or.inr h
  obtain ⟨H, hHe⟩ : ∃ H : Heap, H = s.heap := ⟨_, rfl⟩
  have hS : va_S A s.heap H [] := by rw [hHe]; exact va_S.rf
  rw [← hHe] at hP ⊢
  have hl := lv_entry ([.ref aM, .int a, .int b, .int x, .int y, .int z]) (n := 7) (Nat.le_of_ble_eq_true rfl)
  rw [lg_entry_eq]
  generalize (lg_sl ([.ref aM, .int a, .int b, .int x, .int y, .int z]) ++ List.replicate (7 - (lg_sl ([.ref aM, .int a, .int b, .int x, .int y, .int z])).length) Slot.unset).toArray = ls at hl ⊢
  have hl : lv_has ls 7 [(0, .ref aM), (1, .int a), (2, .int b), (3, .int x), (4, .int y), (5, .int z)] := hl
  refine lv_iload_n hx hb dX7_addDimension_0 rfl (lv_at hl 1 rfl) ?_
  refine lv_iload_n hx hb dX7_addDimension_1 rfl (lv_at hl 2 rfl) ?_
  have k31 : ∀ (b31 : Bool) (hb31 : b31 = (decide (¬ a = b) && (nomB x && devB y z))) (H : Heap) (locs : List Loc) (ls : Array Slot), va_P (dC, dI) vwCl [(aM, .inr (7, [.int th, .int (nI n), .int (nI cnt), .ref aMF, .ref aMT, .ref aMN, .ref aML, .ref aMU, .int (nI ml), .ref aMB, .int (nI sg), .int (nI rm), .int (nI mdg), .int (nI mnb), .int (bI mng), .ref aMf, .ref aMt, .ref aMn, .ref aMl, .ref aMu, .ref aMP, .ref aMD, .int (nI lk), .ref aMC, .ref aMO, .int gn, .int gl, .int gg, .ref aMY, .int nn, .int nl, .int nu, .ref aMS, .long hs])), (aMF, .inl (cyI, 20, .inl (fun j_ => nI (F j_)))), (aMT, .inl (cyI, 20, .inl (fun j_ => nI (T j_)))), (aMN, .inl (cyI, 20, .inl nm)), (aML, .inl (cyI, 20, .inl lo)), (aMU, .inl (cyI, 20, .inl up))] H → va_D A [(aM, .inr (7, [.int th, .int (nI n), .int (nI cnt), .ref aMF, .ref aMT, .ref aMN, .ref aML, .ref aMU, .int (nI ml), .ref aMB, .int (nI sg), .int (nI rm), .int (nI mdg), .int (nI mnb), .int (bI mng), .ref aMf, .ref aMt, .ref aMn, .ref aMl, .ref aMu, .ref aMP, .ref aMD, .int (nI lk), .ref aMC, .ref aMO, .int gn, .int gl, .int gg, .ref aMY, .int nn, .int nl, .int nu, .ref aMS, .long hs])), (aMF, .inl (cyI, 20, .inl (fun j_ => nI (F j_)))), (aMT, .inl (cyI, 20, .inl (fun j_ => nI (T j_)))), (aMN, .inl (cyI, 20, .inl nm)), (aML, .inl (cyI, 20, .inl lo)), (aMU, .inl (cyI, 20, .inl up))] → va_S A s.heap H locs → lv_has ls 7 [(0, .ref aM), (1, .int a), (2, .int b), (3, .int x), (4, .int y), (5, .int z)] → W pM l eM (headSpec wsX7_addDimension ({ frames := 2, cells := 0, slots := 0, locals := 43 } : Room)).room s mM ([.ref aM, .int a, .int b, .int x, .int y, .int z] : List Value).toArray blM mtM cM H locs 0 0 Q (F0 mM 31 ls [.int (bI b31)]) := by
    intro b31 hb31 H locs ls hP hD hS hl
    refine lv_istore (lv' := [(6, .int (bI b31)), (0, .ref aM), (1, .int a), (2, .int b), (3, .int x), (4, .int y), (5, .int z)]) hx hb dX7_addDimension_31 hl (by decide) rfl (fun ls hl => ?_)
    have k77 : ∀ (t77 : Int32) (h77 : t77 = adC n cnt a b x y z) (H : Heap) (locs : List Loc) (ls : Array Slot), va_P (dC, dI) vwCl [(aM, .inr (7, [.int th, .int (nI n), .int (nI cnt), .ref aMF, .ref aMT, .ref aMN, .ref aML, .ref aMU, .int (nI ml), .ref aMB, .int (nI sg), .int (nI rm), .int (nI mdg), .int (nI mnb), .int (bI mng), .ref aMf, .ref aMt, .ref aMn, .ref aMl, .ref aMu, .ref aMP, .ref aMD, .int (nI lk), .ref aMC, .ref aMO, .int gn, .int gl, .int gg, .ref aMY, .int nn, .int nl, .int nu, .ref aMS, .long hs])), (aMF, .inl (cyI, 20, .inl (fun j_ => nI (F j_)))), (aMT, .inl (cyI, 20, .inl (fun j_ => nI (T j_)))), (aMN, .inl (cyI, 20, .inl nm)), (aML, .inl (cyI, 20, .inl lo)), (aMU, .inl (cyI, 20, .inl up))] H → va_D A [(aM, .inr (7, [.int th, .int (nI n), .int (nI cnt), .ref aMF, .ref aMT, .ref aMN, .ref aML, .ref aMU, .int (nI ml), .ref aMB, .int (nI sg), .int (nI rm), .int (nI mdg), .int (nI mnb), .int (bI mng), .ref aMf, .ref aMt, .ref aMn, .ref aMl, .ref aMu, .ref aMP, .ref aMD, .int (nI lk), .ref aMC, .ref aMO, .int gn, .int gl, .int gg, .ref aMY, .int nn, .int nl, .int nu, .ref aMS, .long hs])), (aMF, .inl (cyI, 20, .inl (fun j_ => nI (F j_)))), (aMT, .inl (cyI, 20, .inl (fun j_ => nI (T j_)))), (aMN, .inl (cyI, 20, .inl nm)), (aML, .inl (cyI, 20, .inl lo)), (aMU, .inl (cyI, 20, .inl up))] → va_S A s.heap H locs → lv_has ls 7 [(6, .int (bI b31)), (0, .ref aM), (1, .int a), (2, .int b), (3, .int x), (4, .int y), (5, .int z)] → W pM l eM (headSpec wsX7_addDimension ({ frames := 2, cells := 0, slots := 0, locals := 43 } : Room)).room s mM ([.ref aM, .int a, .int b, .int x, .int y, .int z] : List Value).toArray blM mtM cM H locs 0 0 Q (F0 mM 77 ls [.int t77, .ref aM]) := by
      intro t77 h77 H locs ls hP hD hS hl
      refine va_put (D := (dC, dI)) (ci := 7) (v := .int t77) (ty := .int) (C := RX7) (T := TX7) (N := 34) hx hb hts iX7 tyX7 tyX7_ok nmX7 hown hK hP hD hS 0 rfl rfl 0 (by decide) w0 (fun _ h9 => h9) rfl (by decide +kernel) rfl rfl (Nat.le_of_ble_eq_true rfl) dX7_addDimension_77 (fun H locs hP hD hS => ?_)
      have hP : va_P (dC, dI) vwCl [(aM, .inr (7, [.int t77, .int (nI n), .int (nI cnt), .ref aMF, .ref aMT, .ref aMN, .ref aML, .ref aMU, .int (nI ml), .ref aMB, .int (nI sg), .int (nI rm), .int (nI mdg), .int (nI mnb), .int (bI mng), .ref aMf, .ref aMt, .ref aMn, .ref aMl, .ref aMu, .ref aMP, .ref aMD, .int (nI lk), .ref aMC, .ref aMO, .int gn, .int gl, .int gg, .ref aMY, .int nn, .int nl, .int nu, .ref aMS, .long hs])), (aMF, .inl (cyI, 20, .inl (fun j_ => nI (F j_)))), (aMT, .inl (cyI, 20, .inl (fun j_ => nI (T j_)))), (aMN, .inl (cyI, 20, .inl nm)), (aML, .inl (cyI, 20, .inl lo)), (aMU, .inl (cyI, 20, .inl up))] H := hP
      have hD : va_D A [(aM, .inr (7, [.int t77, .int (nI n), .int (nI cnt), .ref aMF, .ref aMT, .ref aMN, .ref aML, .ref aMU, .int (nI ml), .ref aMB, .int (nI sg), .int (nI rm), .int (nI mdg), .int (nI mnb), .int (bI mng), .ref aMf, .ref aMt, .ref aMn, .ref aMl, .ref aMu, .ref aMP, .ref aMD, .int (nI lk), .ref aMC, .ref aMO, .int gn, .int gl, .int gg, .ref aMY, .int nn, .int nl, .int nu, .ref aMS, .long hs])), (aMF, .inl (cyI, 20, .inl (fun j_ => nI (F j_)))), (aMT, .inl (cyI, 20, .inl (fun j_ => nI (T j_)))), (aMN, .inl (cyI, 20, .inl nm)), (aML, .inl (cyI, 20, .inl lo)), (aMU, .inl (cyI, 20, .inl up))] := hD
      refine lv_aload_n hx hb dX7_addDimension_80 rfl (lv_at hl 1 rfl) ?_
      refine va_get (D := (dC, dI)) (ci := 7) (v := .int t77) (C := RX7) (T := TX7) (N := 34) hx hb hts iX7 hown hK hP 0 rfl rfl 0 (by decide) w0 (fun _ h9 => h9) rfl dX7_addDimension_81 ?_
      refine lv_if_le (tgt := 89) hx hb dX7_addDimension_84 (by decide) (fun c84 => ?_) (fun c84 => ?_)
      · have hz : adC n cnt a b x y z = 0 := adC_le (h77 ▸ c84)
        obtain ⟨hA1, hB1, hcn⟩ := adC_0 hz
        have ha2 : a = nI a.toNatClampNeg := ix_eq (inB_vp hA1 (by omega)) (by omega)
        have hb2 : b = nI b.toNatClampNeg := ix_eq (inB_vp hB1 (by omega)) (by omega)
        refine lv_aload_n hx hb dX7_addDimension_89 rfl (lv_at hl 1 rfl) ?_
        refine lv_iload_n hx hb dX7_addDimension_90 rfl (lv_at hl 2 rfl) ?_
        refine lv_topi (fun x1 e2 => ?_)
        obtain rfl : x1 = (nI a.toNatClampNeg) := by rw [e2]; exact ha2
        clear e2
        refine lv_iload_n hx hb dX7_addDimension_91 rfl (lv_at hl 3 rfl) ?_
        refine lv_topi (fun x3 e4 => ?_)
        obtain rfl : x3 = (nI b.toNatClampNeg) := by rw [e4]; exact hb2
        clear e4
        refine lv_iload_n hx hb dX7_addDimension_92 rfl (lv_at hl 4 rfl) ?_
        refine lv_iload hx hb dX7_addDimension_93 (lv_at hl 5 rfl) ?_
        refine lv_iload hx hb dX7_addDimension_95 (lv_at hl 6 rfl) ?_
        have g5 : cnt < 20 := by first | assumption | omega | exact vp_in_nI (by omega) (by omega)
        have hPc := hP.sub (ws' := [(aM, .inr (7, [.int t77, .int (nI n), .int (nI cnt), .ref aMF, .ref aMT, .ref aMN, .ref aML, .ref aMU, .int (nI ml), .ref aMB, .int (nI sg), .int (nI rm), .int (nI mdg), .int (nI mnb), .int (bI mng), .ref aMf, .ref aMt, .ref aMn, .ref aMl, .ref aMu, .ref aMP, .ref aMD, .int (nI lk), .ref aMC, .ref aMO, .int gn, .int gl, .int gg, .ref aMY, .int nn, .int nl, .int nu, .ref aMS, .long hs])), (aMF, .inl (cyI, 20, .inl (fun j_ => nI (F j_)))), (aMT, .inl (cyI, 20, .inl (fun j_ => nI (T j_)))), (aMN, .inl (cyI, 20, .inl nm)), (aML, .inl (cyI, 20, .inl lo)), (aMU, .inl (cyI, 20, .inl up))]) [0, 1, 2, 3, 4, 5] rfl
        have hDc := hD.sub (ws' := [(aM, .inr (7, [.int t77, .int (nI n), .int (nI cnt), .ref aMF, .ref aMT, .ref aMN, .ref aML, .ref aMU, .int (nI ml), .ref aMB, .int (nI sg), .int (nI rm), .int (nI mdg), .int (nI mnb), .int (bI mng), .ref aMf, .ref aMt, .ref aMn, .ref aMl, .ref aMu, .ref aMP, .ref aMD, .int (nI lk), .ref aMC, .ref aMO, .int gn, .int gl, .int gg, .ref aMY, .int nn, .int nl, .int nu, .ref aMS, .long hs])), (aMF, .inl (cyI, 20, .inl (fun j_ => nI (F j_)))), (aMT, .inl (cyI, 20, .inl (fun j_ => nI (T j_)))), (aMN, .inl (cyI, 20, .inl nm)), (aML, .inl (cyI, 20, .inl lo)), (aMU, .inl (cyI, 20, .inl up))]) [0, 1, 2, 3, 4, 5] (by decide) rfl
        have hFc := va_free (wc := [(aM, .inr (7, [.int t77, .int (nI n), .int (nI cnt), .ref aMF, .ref aMT, .ref aMN, .ref aML, .ref aMU, .int (nI ml), .ref aMB, .int (nI sg), .int (nI rm), .int (nI mdg), .int (nI mnb), .int (bI mng), .ref aMf, .ref aMt, .ref aMn, .ref aMl, .ref aMu, .ref aMP, .ref aMD, .int (nI lk), .ref aMC, .ref aMO, .int gn, .int gl, .int gg, .ref aMY, .int nn, .int nl, .int nu, .ref aMS, .long hs])), (aMF, .inl (cyI, 20, .inl (fun j_ => nI (F j_)))), (aMT, .inl (cyI, 20, .inl (fun j_ => nI (T j_)))), (aMN, .inl (cyI, 20, .inl nm)), (aML, .inl (cyI, 20, .inl lo)), (aMU, .inl (cyI, 20, .inl up))]) hD hS hA [0, 1, 2, 3, 4, 5] rfl
        refine va_callv (va_runV (As := [.int (nI a.toNatClampNeg), .int (nI b.toNatClampNeg), .int x, .int y, .int z]) (rest := []) ⟨hx, hb, hml, hown, hts⟩ (c_X7_put l dC dI cyI cyZ cyJ cyD aM aMF aMT aMN aML aMU aMB aMf aMt aMn aMl aMu aMP aMD aMC aMO aMY aMS H.size t77 n cnt ml sg rm mdg mnb mng lk gn gl gg nn nl nu hs F T nm lo up a.toNatClampNeg b.toNatClampNeg x y z g5) (cwV 5 hts gX7_addDimension_X7_put rfl rfl rfl (by decide +kernel) ⟨Nat.le_of_ble_eq_true rfl, Nat.le_of_ble_eq_true rfl⟩) ⟨fun a U g mk q => by obtain ⟨q0, q1, qP, qK, qD⟩ := q; exact ⟨q0, q1, qP, va_K.moved (u := U) (U := U.calling g mk a) (Vm.Alike.refl U.vm) qK, qD⟩, va_recv hK hPc (ci := 7) (q0 := 0) rfl rfl, fun U hU hW => ⟨rfl, by rw [hU], by rw [hU]; exact hPc, va_K.moved hW.alike hK, hDc.weaken (fun _ _ _ _ => trivial)⟩⟩ rfl rfl hl.1 rfl (lv_room (Nat.le_of_ble_eq_true rfl)) dX7_addDimension_97 ⟨Nat.le_of_ble_eq_true rfl, Nat.le_of_ble_eq_true rfl⟩) hS (fun q _ h => hFc q h) hFc (fun  u t H1 locs ht hvm hw hB hz1 hk1 hS => ?_)
        obtain ⟨hP1, hK1, hD1⟩ := hB
        rw [ht] at hP1
        obtain ⟨hP, hD⟩ := va_join (wr := []) (w1 := [(aM, .inr (7, [.int t77, .int (nI n), .int (nI (cnt + 1)), .ref aMF, .ref aMT, .ref aMN, .ref aML, .ref aMU, .int (nI ml), .ref aMB, .int (nI sg), .int (nI rm), .int (nI mdg), .int (nI mnb), .int (bI mng), .ref aMf, .ref aMt, .ref aMn, .ref aMl, .ref aMu, .ref aMP, .ref aMD, .int (nI lk), .ref aMC, .ref aMO, .int gn, .int gl, .int gg, .ref aMY, .int nn, .int nl, .int nu, .ref aMS, .long hs])), (aMF, .inl (cyI, 20, .inl (fun j_ => nI ((updN F cnt a.toNatClampNeg) j_)))), (aMT, .inl (cyI, 20, .inl (fun j_ => nI ((updN T cnt b.toNatClampNeg) j_)))), (aMN, .inl (cyI, 20, .inl (upd nm cnt x))), (aML, .inl (cyI, 20, .inl (upd lo cnt y))), (aMU, .inl (cyI, 20, .inl (upd up cnt z)))]) hP hD [0, 1, 2, 3, 4, 5] [] rfl rfl (by decide) (by decide) hk1 hFc hP1 hD1
        clear hP1 hD1 hK1 hPc hDc hFc hk1 hz1 hvm ht u t
        generalize H1 = H at hP hS ⊢
        have hP : va_P (dC, dI) vwCl [(aM, .inr (7, [.int t77, .int (nI n), .int (nI (cnt + 1)), .ref aMF, .ref aMT, .ref aMN, .ref aML, .ref aMU, .int (nI ml), .ref aMB, .int (nI sg), .int (nI rm), .int (nI mdg), .int (nI mnb), .int (bI mng), .ref aMf, .ref aMt, .ref aMn, .ref aMl, .ref aMu, .ref aMP, .ref aMD, .int (nI lk), .ref aMC, .ref aMO, .int gn, .int gl, .int gg, .ref aMY, .int nn, .int nl, .int nu, .ref aMS, .long hs])), (aMF, .inl (cyI, 20, .inl (fun j_ => nI ((updN F cnt a.toNatClampNeg) j_)))), (aMT, .inl (cyI, 20, .inl (fun j_ => nI ((updN T cnt b.toNatClampNeg) j_)))), (aMN, .inl (cyI, 20, .inl (upd nm cnt x))), (aML, .inl (cyI, 20, .inl (upd lo cnt y))), (aMU, .inl (cyI, 20, .inl (upd up cnt z)))] H := hP
        have hD : va_D A [(aM, .inr (7, [.int t77, .int (nI n), .int (nI (cnt + 1)), .ref aMF, .ref aMT, .ref aMN, .ref aML, .ref aMU, .int (nI ml), .ref aMB, .int (nI sg), .int (nI rm), .int (nI mdg), .int (nI mnb), .int (bI mng), .ref aMf, .ref aMt, .ref aMn, .ref aMl, .ref aMu, .ref aMP, .ref aMD, .int (nI lk), .ref aMC, .ref aMO, .int gn, .int gl, .int gg, .ref aMY, .int nn, .int nl, .int nu, .ref aMS, .long hs])), (aMF, .inl (cyI, 20, .inl (fun j_ => nI ((updN F cnt a.toNatClampNeg) j_)))), (aMT, .inl (cyI, 20, .inl (fun j_ => nI ((updN T cnt b.toNatClampNeg) j_)))), (aMN, .inl (cyI, 20, .inl (upd nm cnt x))), (aML, .inl (cyI, 20, .inl (upd lo cnt y))), (aMU, .inl (cyI, 20, .inl (upd up cnt z)))] := hD
        refine lv_aload_n hx hb dX7_addDimension_100 rfl (lv_at hl 1 rfl) ?_
        refine va_get (D := (dC, dI)) (ci := 7) (v := .int (nI (cnt + 1))) (C := RX7) (T := TX7) (N := 34) hx hb hts iX7 hown hK hP 0 rfl rfl 2 (by decide) w1 (fun _ h9 => h9) rfl dX7_addDimension_101 ?_
        refine lv_iconst (v := 1) hx hb dX7_addDimension_104 (by decide) ?_
        refine lv_isub hx hb dX7_addDimension_105 ?_
        refine lv_topi (fun x6 e7 => ?_)
        obtain rfl : x6 = (nI ((cnt + 1) - 1)) := by rw [e7]; exact pk_sub (a := cnt + 1) (b := 1) (by omega)
        clear e7
        have r8 : (nI ((cnt + 1) - 1)) = (if adC n cnt a b x y z = 0 then nI cnt else 0) := by rw [if_pos hz]; congr 1
        have q9 : (adC n cnt a b x y z) = t77 := by rw [h77]
        have q10 : (nI (if adC n cnt a b x y z = 0 then cnt + 1 else cnt)) = (nI (cnt + 1)) := by first | (rw [if_pos hz]; done) | (rw [if_neg hz]; done)
        have q11 : (if adC n cnt a b x y z = 0 then updN F cnt a.toNatClampNeg else F) = (updN F cnt a.toNatClampNeg) := by first | (rw [if_pos hz]; done) | (rw [if_neg hz]; done)
        have q12 : (if adC n cnt a b x y z = 0 then updN T cnt b.toNatClampNeg else T) = (updN T cnt b.toNatClampNeg) := by first | (rw [if_pos hz]; done) | (rw [if_neg hz]; done)
        have q13 : (if adC n cnt a b x y z = 0 then upd nm cnt x else nm) = (upd nm cnt x) := by first | (rw [if_pos hz]; done) | (rw [if_neg hz]; done)
        have q14 : (if adC n cnt a b x y z = 0 then upd lo cnt y else lo) = (upd lo cnt y) := by first | (rw [if_pos hz]; done) | (rw [if_neg hz]; done)
        have q15 : (if adC n cnt a b x y z = 0 then upd up cnt z else up) = (upd up cnt z) := by first | (rw [if_pos hz]; done) | (rw [if_neg hz]; done)
        have hP9 : va_P (dC, dI) vwCl [(aM, .inr (7, [.int (adC n cnt a b x y z), .int (nI n), .int (nI (if adC n cnt a b x y z = 0 then cnt + 1 else cnt)), .ref aMF, .ref aMT, .ref aMN, .ref aML, .ref aMU, .int (nI ml), .ref aMB, .int (nI sg), .int (nI rm), .int (nI mdg), .int (nI mnb), .int (bI mng), .ref aMf, .ref aMt, .ref aMn, .ref aMl, .ref aMu, .ref aMP, .ref aMD, .int (nI lk), .ref aMC, .ref aMO, .int gn, .int gl, .int gg, .ref aMY, .int nn, .int nl, .int nu, .ref aMS, .long hs])), (aMF, .inl (cyI, 20, .inl (fun j_ => nI ((if adC n cnt a b x y z = 0 then updN F cnt a.toNatClampNeg else F) j_)))), (aMT, .inl (cyI, 20, .inl (fun j_ => nI ((if adC n cnt a b x y z = 0 then updN T cnt b.toNatClampNeg else T) j_)))), (aMN, .inl (cyI, 20, .inl (if adC n cnt a b x y z = 0 then upd nm cnt x else nm))), (aML, .inl (cyI, 20, .inl (if adC n cnt a b x y z = 0 then upd lo cnt y else lo))), (aMU, .inl (cyI, 20, .inl (if adC n cnt a b x y z = 0 then upd up cnt z else up)))] H := by first | (rw [q11, q12, q13, q14, q15, q10, q9]; exact hP.sub [0, 1, 2, 3, 4, 5] rfl) | (simp only [q11, q12, q13, q14, q15, q10, q9]; exact hP.sub [0, 1, 2, 3, 4, 5] rfl) | exact hP.sub [0, 1, 2, 3, 4, 5] rfl
        have hD9 : va_D A [(aM, .inr (7, [.int (adC n cnt a b x y z), .int (nI n), .int (nI (if adC n cnt a b x y z = 0 then cnt + 1 else cnt)), .ref aMF, .ref aMT, .ref aMN, .ref aML, .ref aMU, .int (nI ml), .ref aMB, .int (nI sg), .int (nI rm), .int (nI mdg), .int (nI mnb), .int (bI mng), .ref aMf, .ref aMt, .ref aMn, .ref aMl, .ref aMu, .ref aMP, .ref aMD, .int (nI lk), .ref aMC, .ref aMO, .int gn, .int gl, .int gg, .ref aMY, .int nn, .int nl, .int nu, .ref aMS, .long hs])), (aMF, .inl (cyI, 20, .inl (fun j_ => nI ((if adC n cnt a b x y z = 0 then updN F cnt a.toNatClampNeg else F) j_)))), (aMT, .inl (cyI, 20, .inl (fun j_ => nI ((if adC n cnt a b x y z = 0 then updN T cnt b.toNatClampNeg else T) j_)))), (aMN, .inl (cyI, 20, .inl (if adC n cnt a b x y z = 0 then upd nm cnt x else nm))), (aML, .inl (cyI, 20, .inl (if adC n cnt a b x y z = 0 then upd lo cnt y else lo))), (aMU, .inl (cyI, 20, .inl (if adC n cnt a b x y z = 0 then upd up cnt z else up)))] := by first | (rw [q11, q12, q13, q14, q15, q10, q9]; exact hD.sub [0, 1, 2, 3, 4, 5] (by decide) rfl) | (simp only [q11, q12, q13, q14, q15, q10, q9]; exact hD.sub [0, 1, 2, 3, 4, 5] (by decide) rfl) | exact hD.sub [0, 1, 2, 3, 4, 5] (by decide) rfl
        rw [hQe]
        exact W.iret (v := nI ((cnt + 1) - 1)) hx hb hr (fun t ht hW => ⟨⟨_, (), rfl, r8, by rw [ht]; exact hP9, va_K.moved hW.alike hK, hD9⟩, hS.F ht⟩) hS.2.2 dX7_addDimension_106
      · have hz : ¬ adC n cnt a b x y z = 0 := by rw [← h77]; intro q; exact c84 (by rw [q]; decide)
        refine lv_iconst (v := 0) hx hb dX7_addDimension_87 (by decide) ?_
        have r16 : 0 = (if adC n cnt a b x y z = 0 then nI cnt else 0) := by rw [if_neg hz]
        have q17 : (adC n cnt a b x y z) = t77 := by rw [h77]
        have q18 : (nI (if adC n cnt a b x y z = 0 then cnt + 1 else cnt)) = (nI cnt) := by first | (rw [if_pos hz]; done) | (rw [if_neg hz]; done)
        have q19 : (if adC n cnt a b x y z = 0 then updN F cnt a.toNatClampNeg else F) = F := by first | (rw [if_pos hz]; done) | (rw [if_neg hz]; done)
        have q20 : (if adC n cnt a b x y z = 0 then updN T cnt b.toNatClampNeg else T) = T := by first | (rw [if_pos hz]; done) | (rw [if_neg hz]; done)
        have q21 : (if adC n cnt a b x y z = 0 then upd nm cnt x else nm) = nm := by first | (rw [if_pos hz]; done) | (rw [if_neg hz]; done)
        have q22 : (if adC n cnt a b x y z = 0 then upd lo cnt y else lo) = lo := by first | (rw [if_pos hz]; done) | (rw [if_neg hz]; done)
        have q23 : (if adC n cnt a b x y z = 0 then upd up cnt z else up) = up := by first | (rw [if_pos hz]; done) | (rw [if_neg hz]; done)
        have hP9 : va_P (dC, dI) vwCl [(aM, .inr (7, [.int (adC n cnt a b x y z), .int (nI n), .int (nI (if adC n cnt a b x y z = 0 then cnt + 1 else cnt)), .ref aMF, .ref aMT, .ref aMN, .ref aML, .ref aMU, .int (nI ml), .ref aMB, .int (nI sg), .int (nI rm), .int (nI mdg), .int (nI mnb), .int (bI mng), .ref aMf, .ref aMt, .ref aMn, .ref aMl, .ref aMu, .ref aMP, .ref aMD, .int (nI lk), .ref aMC, .ref aMO, .int gn, .int gl, .int gg, .ref aMY, .int nn, .int nl, .int nu, .ref aMS, .long hs])), (aMF, .inl (cyI, 20, .inl (fun j_ => nI ((if adC n cnt a b x y z = 0 then updN F cnt a.toNatClampNeg else F) j_)))), (aMT, .inl (cyI, 20, .inl (fun j_ => nI ((if adC n cnt a b x y z = 0 then updN T cnt b.toNatClampNeg else T) j_)))), (aMN, .inl (cyI, 20, .inl (if adC n cnt a b x y z = 0 then upd nm cnt x else nm))), (aML, .inl (cyI, 20, .inl (if adC n cnt a b x y z = 0 then upd lo cnt y else lo))), (aMU, .inl (cyI, 20, .inl (if adC n cnt a b x y z = 0 then upd up cnt z else up)))] H := by first | (rw [q19, q20, q21, q22, q23, q18, q17]; exact hP.sub [0, 1, 2, 3, 4, 5] rfl) | (simp only [q19, q20, q21, q22, q23, q18, q17]; exact hP.sub [0, 1, 2, 3, 4, 5] rfl) | exact hP.sub [0, 1, 2, 3, 4, 5] rfl
        have hD9 : va_D A [(aM, .inr (7, [.int (adC n cnt a b x y z), .int (nI n), .int (nI (if adC n cnt a b x y z = 0 then cnt + 1 else cnt)), .ref aMF, .ref aMT, .ref aMN, .ref aML, .ref aMU, .int (nI ml), .ref aMB, .int (nI sg), .int (nI rm), .int (nI mdg), .int (nI mnb), .int (bI mng), .ref aMf, .ref aMt, .ref aMn, .ref aMl, .ref aMu, .ref aMP, .ref aMD, .int (nI lk), .ref aMC, .ref aMO, .int gn, .int gl, .int gg, .ref aMY, .int nn, .int nl, .int nu, .ref aMS, .long hs])), (aMF, .inl (cyI, 20, .inl (fun j_ => nI ((if adC n cnt a b x y z = 0 then updN F cnt a.toNatClampNeg else F) j_)))), (aMT, .inl (cyI, 20, .inl (fun j_ => nI ((if adC n cnt a b x y z = 0 then updN T cnt b.toNatClampNeg else T) j_)))), (aMN, .inl (cyI, 20, .inl (if adC n cnt a b x y z = 0 then upd nm cnt x else nm))), (aML, .inl (cyI, 20, .inl (if adC n cnt a b x y z = 0 then upd lo cnt y else lo))), (aMU, .inl (cyI, 20, .inl (if adC n cnt a b x y z = 0 then upd up cnt z else up)))] := by first | (rw [q19, q20, q21, q22, q23, q18, q17]; exact hD.sub [0, 1, 2, 3, 4, 5] (by decide) rfl) | (simp only [q19, q20, q21, q22, q23, q18, q17]; exact hD.sub [0, 1, 2, 3, 4, 5] (by decide) rfl) | exact hD.sub [0, 1, 2, 3, 4, 5] (by decide) rfl
        rw [hQe]
        exact W.iret (v := 0) hx hb hr (fun t ht hW => ⟨⟨_, (), rfl, r16, by rw [ht]; exact hP9, va_K.moved hW.alike hK, hD9⟩, hS.F ht⟩) hS.2.2 dX7_addDimension_88
    refine lv_aload_n hx hb dX7_addDimension_33 rfl (lv_at hl 1 rfl) ?_
    refine lv_aload_n hx hb dX7_addDimension_34 rfl (lv_at hl 1 rfl) ?_
    refine lv_iload_n hx hb dX7_addDimension_35 rfl (lv_at hl 2 rfl) ?_
    have g24 : n < 1000 := by first | assumption | omega | exact vp_in_nI (by omega) (by omega)
    have hPc := hP.sub (ws' := [(aM, .inr (7, [.int th, .int (nI n), .int (nI cnt), .ref aMF, .ref aMT, .ref aMN, .ref aML, .ref aMU, .int (nI ml), .ref aMB, .int (nI sg), .int (nI rm), .int (nI mdg), .int (nI mnb), .int (bI mng), .ref aMf, .ref aMt, .ref aMn, .ref aMl, .ref aMu, .ref aMP, .ref aMD, .int (nI lk), .ref aMC, .ref aMO, .int gn, .int gl, .int gg, .ref aMY, .int nn, .int nl, .int nu, .ref aMS, .long hs]))]) [0] rfl
    have hDc := hD.sub (ws' := [(aM, .inr (7, [.int th, .int (nI n), .int (nI cnt), .ref aMF, .ref aMT, .ref aMN, .ref aML, .ref aMU, .int (nI ml), .ref aMB, .int (nI sg), .int (nI rm), .int (nI mdg), .int (nI mnb), .int (bI mng), .ref aMf, .ref aMt, .ref aMn, .ref aMl, .ref aMu, .ref aMP, .ref aMD, .int (nI lk), .ref aMC, .ref aMO, .int gn, .int gl, .int gg, .ref aMY, .int nn, .int nl, .int nu, .ref aMS, .long hs]))]) [0] (by decide) rfl
    have hFc := va_free (wc := [(aM, .inr (7, [.int th, .int (nI n), .int (nI cnt), .ref aMF, .ref aMT, .ref aMN, .ref aML, .ref aMU, .int (nI ml), .ref aMB, .int (nI sg), .int (nI rm), .int (nI mdg), .int (nI mnb), .int (bI mng), .ref aMf, .ref aMt, .ref aMn, .ref aMl, .ref aMu, .ref aMP, .ref aMD, .int (nI lk), .ref aMC, .ref aMO, .int gn, .int gl, .int gg, .ref aMY, .int nn, .int nl, .int nu, .ref aMS, .long hs]))]) hD hS hA [0] rfl
    refine va_calli (va_runV (As := [.int a]) (rest := [.ref aM]) ⟨hx, hb, hml, hown, hts⟩ (c_X7_isFace l dC dI cyI cyZ cyJ cyD aM aMF aMT aMN aML aMU aMB aMf aMt aMn aMl aMu aMP aMD aMC aMO aMY aMS H.size th n cnt ml sg rm mdg mnb mng lk gn gl gg nn nl nu hs a g24) (cwV 1 hts gX7_addDimension_X7_isFace rfl rfl rfl (by decide +kernel) ⟨Nat.le_of_ble_eq_true rfl, Nat.le_of_ble_eq_true rfl⟩) ⟨fun a U g mk q => by obtain ⟨q0, q1, qP, qK, qD⟩ := q; exact ⟨q0, q1, qP, va_K.moved (u := U) (U := U.calling g mk a) (Vm.Alike.refl U.vm) qK, qD⟩, va_recv hK hPc (ci := 7) (q0 := 0) rfl rfl, fun U hU hW => ⟨rfl, by rw [hU], by rw [hU]; exact hPc, va_K.moved hW.alike hK, hDc.weaken (fun _ _ _ _ => trivial)⟩⟩ rfl rfl hl.1 rfl (lv_room (Nat.le_of_ble_eq_true rfl)) dX7_addDimension_36 ⟨Nat.le_of_ble_eq_true rfl, Nat.le_of_ble_eq_true rfl⟩) hS (fun q _ h => hFc q h) hFc (fun r u t H1 locs ht hvm hw hB hz1 hk1 hS => ?_)
    obtain rfl := hw
    obtain ⟨hP1, hK1, hD1⟩ := hB
    rw [ht] at hP1
    obtain ⟨hP, hD⟩ := va_join (wr := [(aMF, .inl (cyI, 20, .inl (fun j_ => nI (F j_)))), (aMT, .inl (cyI, 20, .inl (fun j_ => nI (T j_)))), (aMN, .inl (cyI, 20, .inl nm)), (aML, .inl (cyI, 20, .inl lo)), (aMU, .inl (cyI, 20, .inl up))]) (w1 := [(aM, .inr (7, [.int th, .int (nI n), .int (nI cnt), .ref aMF, .ref aMT, .ref aMN, .ref aML, .ref aMU, .int (nI ml), .ref aMB, .int (nI sg), .int (nI rm), .int (nI mdg), .int (nI mnb), .int (bI mng), .ref aMf, .ref aMt, .ref aMn, .ref aMl, .ref aMu, .ref aMP, .ref aMD, .int (nI lk), .ref aMC, .ref aMO, .int gn, .int gl, .int gg, .ref aMY, .int nn, .int nl, .int nu, .ref aMS, .long hs]))]) hP hD [0] [1, 2, 3, 4, 5] rfl rfl (by decide) (by decide) hk1 hFc hP1 hD1
    clear hP1 hD1 hK1 hPc hDc hFc hk1 hz1 hvm ht u t
    generalize H1 = H at hP hS ⊢
    have hP : va_P (dC, dI) vwCl [(aMF, .inl (cyI, 20, .inl (fun j_ => nI (F j_)))), (aMT, .inl (cyI, 20, .inl (fun j_ => nI (T j_)))), (aMN, .inl (cyI, 20, .inl nm)), (aML, .inl (cyI, 20, .inl lo)), (aMU, .inl (cyI, 20, .inl up)), (aM, .inr (7, [.int th, .int (nI n), .int (nI cnt), .ref aMF, .ref aMT, .ref aMN, .ref aML, .ref aMU, .int (nI ml), .ref aMB, .int (nI sg), .int (nI rm), .int (nI mdg), .int (nI mnb), .int (bI mng), .ref aMf, .ref aMt, .ref aMn, .ref aMl, .ref aMu, .ref aMP, .ref aMD, .int (nI lk), .ref aMC, .ref aMO, .int gn, .int gl, .int gg, .ref aMY, .int nn, .int nl, .int nu, .ref aMS, .long hs]))] H := hP
    have hD : va_D A [(aMF, .inl (cyI, 20, .inl (fun j_ => nI (F j_)))), (aMT, .inl (cyI, 20, .inl (fun j_ => nI (T j_)))), (aMN, .inl (cyI, 20, .inl nm)), (aML, .inl (cyI, 20, .inl lo)), (aMU, .inl (cyI, 20, .inl up)), (aM, .inr (7, [.int th, .int (nI n), .int (nI cnt), .ref aMF, .ref aMT, .ref aMN, .ref aML, .ref aMU, .int (nI ml), .ref aMB, .int (nI sg), .int (nI rm), .int (nI mdg), .int (nI mnb), .int (bI mng), .ref aMf, .ref aMt, .ref aMn, .ref aMl, .ref aMu, .ref aMP, .ref aMD, .int (nI lk), .ref aMC, .ref aMO, .int gn, .int gl, .int gg, .ref aMY, .int nn, .int nl, .int nu, .ref aMS, .long hs]))] := hD
    refine lv_if_eq (tgt := 50) hx hb dX7_addDimension_39 (by decide) (fun c39 => ?_) (fun c39 => ?_)
    · have c39 : (inB a n) = false := bI_0 c39
      refine lv_iconst (v := 1) hx hb dX7_addDimension_50 (by decide) ?_
      refine lv_goto (tgt := 77) hx hb dX7_addDimension_51 (by decide) ?_
      have q25 : (adC n cnt a b x y z) = 1 := by unfold adC; first | (rw [if_pos (fun q => absurd (c39.symm.trans q.1) Bool.false_ne_true)]; done) | (rw [if_pos (fun q => absurd (c47.symm.trans q.2) Bool.false_ne_true)]; done) | (rw [if_neg (fun q => q ⟨c39, c47⟩), if_pos (fun q => absurd (c56.symm.trans (hb31.trans q)) Bool.false_ne_true)]; done) | (rw [if_neg (fun q => q ⟨c39, c47⟩), if_neg (fun q => q (hb31 ▸ c56)), if_pos c69]; done) | (rw [if_neg (fun q => q ⟨c39, c47⟩), if_neg (fun q => q (hb31 ▸ c56)), if_neg c69]; done)
      refine W.eq (g2 := F0 mM 77 ls [.int (adC n cnt a b x y z), .ref aM]) (by rw [q25]) ?_
      exact k77 (adC n cnt a b x y z) (by rfl) _ _ _ (hP.sub [5, 0, 1, 2, 3, 4] rfl) (hD.sub [5, 0, 1, 2, 3, 4] (by decide) rfl) hS (lv_sub hl [0, 1, 2, 3, 4, 5, 6] rfl)
    · have c39 : (inB a n) = true := bI_n0 c39
      refine lv_aload_n hx hb dX7_addDimension_42 rfl (lv_at hl 1 rfl) ?_
      refine lv_iload_n hx hb dX7_addDimension_43 rfl (lv_at hl 3 rfl) ?_
      have g26 : n < 1000 := by first | assumption | omega | exact vp_in_nI (by omega) (by omega)
      have hPc := hP.sub (ws' := [(aM, .inr (7, [.int th, .int (nI n), .int (nI cnt), .ref aMF, .ref aMT, .ref aMN, .ref aML, .ref aMU, .int (nI ml), .ref aMB, .int (nI sg), .int (nI rm), .int (nI mdg), .int (nI mnb), .int (bI mng), .ref aMf, .ref aMt, .ref aMn, .ref aMl, .ref aMu, .ref aMP, .ref aMD, .int (nI lk), .ref aMC, .ref aMO, .int gn, .int gl, .int gg, .ref aMY, .int nn, .int nl, .int nu, .ref aMS, .long hs]))]) [5] rfl
      have hDc := hD.sub (ws' := [(aM, .inr (7, [.int th, .int (nI n), .int (nI cnt), .ref aMF, .ref aMT, .ref aMN, .ref aML, .ref aMU, .int (nI ml), .ref aMB, .int (nI sg), .int (nI rm), .int (nI mdg), .int (nI mnb), .int (bI mng), .ref aMf, .ref aMt, .ref aMn, .ref aMl, .ref aMu, .ref aMP, .ref aMD, .int (nI lk), .ref aMC, .ref aMO, .int gn, .int gl, .int gg, .ref aMY, .int nn, .int nl, .int nu, .ref aMS, .long hs]))]) [5] (by decide) rfl
      have hFc := va_free (wc := [(aM, .inr (7, [.int th, .int (nI n), .int (nI cnt), .ref aMF, .ref aMT, .ref aMN, .ref aML, .ref aMU, .int (nI ml), .ref aMB, .int (nI sg), .int (nI rm), .int (nI mdg), .int (nI mnb), .int (bI mng), .ref aMf, .ref aMt, .ref aMn, .ref aMl, .ref aMu, .ref aMP, .ref aMD, .int (nI lk), .ref aMC, .ref aMO, .int gn, .int gl, .int gg, .ref aMY, .int nn, .int nl, .int nu, .ref aMS, .long hs]))]) hD hS hA [5] rfl
      refine va_calli (va_runV (As := [.int b]) (rest := [.ref aM]) ⟨hx, hb, hml, hown, hts⟩ (c_X7_isFace l dC dI cyI cyZ cyJ cyD aM aMF aMT aMN aML aMU aMB aMf aMt aMn aMl aMu aMP aMD aMC aMO aMY aMS H.size th n cnt ml sg rm mdg mnb mng lk gn gl gg nn nl nu hs b g26) (cwV 1 hts gX7_addDimension_X7_isFace rfl rfl rfl (by decide +kernel) ⟨Nat.le_of_ble_eq_true rfl, Nat.le_of_ble_eq_true rfl⟩) ⟨fun a U g mk q => by obtain ⟨q0, q1, qP, qK, qD⟩ := q; exact ⟨q0, q1, qP, va_K.moved (u := U) (U := U.calling g mk a) (Vm.Alike.refl U.vm) qK, qD⟩, va_recv hK hPc (ci := 7) (q0 := 0) rfl rfl, fun U hU hW => ⟨rfl, by rw [hU], by rw [hU]; exact hPc, va_K.moved hW.alike hK, hDc.weaken (fun _ _ _ _ => trivial)⟩⟩ rfl rfl hl.1 rfl (lv_room (Nat.le_of_ble_eq_true rfl)) dX7_addDimension_44 ⟨Nat.le_of_ble_eq_true rfl, Nat.le_of_ble_eq_true rfl⟩) hS (fun q _ h => hFc q h) hFc (fun r u t H1 locs ht hvm hw hB hz1 hk1 hS => ?_)
      obtain rfl := hw
      obtain ⟨hP1, hK1, hD1⟩ := hB
      rw [ht] at hP1
      obtain ⟨hP, hD⟩ := va_join (wr := [(aMF, .inl (cyI, 20, .inl (fun j_ => nI (F j_)))), (aMT, .inl (cyI, 20, .inl (fun j_ => nI (T j_)))), (aMN, .inl (cyI, 20, .inl nm)), (aML, .inl (cyI, 20, .inl lo)), (aMU, .inl (cyI, 20, .inl up))]) (w1 := [(aM, .inr (7, [.int th, .int (nI n), .int (nI cnt), .ref aMF, .ref aMT, .ref aMN, .ref aML, .ref aMU, .int (nI ml), .ref aMB, .int (nI sg), .int (nI rm), .int (nI mdg), .int (nI mnb), .int (bI mng), .ref aMf, .ref aMt, .ref aMn, .ref aMl, .ref aMu, .ref aMP, .ref aMD, .int (nI lk), .ref aMC, .ref aMO, .int gn, .int gl, .int gg, .ref aMY, .int nn, .int nl, .int nu, .ref aMS, .long hs]))]) hP hD [5] [0, 1, 2, 3, 4] rfl rfl (by decide) (by decide) hk1 hFc hP1 hD1
      clear hP1 hD1 hK1 hPc hDc hFc hk1 hz1 hvm ht u t
      generalize H1 = H at hP hS ⊢
      have hP : va_P (dC, dI) vwCl [(aMF, .inl (cyI, 20, .inl (fun j_ => nI (F j_)))), (aMT, .inl (cyI, 20, .inl (fun j_ => nI (T j_)))), (aMN, .inl (cyI, 20, .inl nm)), (aML, .inl (cyI, 20, .inl lo)), (aMU, .inl (cyI, 20, .inl up)), (aM, .inr (7, [.int th, .int (nI n), .int (nI cnt), .ref aMF, .ref aMT, .ref aMN, .ref aML, .ref aMU, .int (nI ml), .ref aMB, .int (nI sg), .int (nI rm), .int (nI mdg), .int (nI mnb), .int (bI mng), .ref aMf, .ref aMt, .ref aMn, .ref aMl, .ref aMu, .ref aMP, .ref aMD, .int (nI lk), .ref aMC, .ref aMO, .int gn, .int gl, .int gg, .ref aMY, .int nn, .int nl, .int nu, .ref aMS, .long hs]))] H := hP
      have hD : va_D A [(aMF, .inl (cyI, 20, .inl (fun j_ => nI (F j_)))), (aMT, .inl (cyI, 20, .inl (fun j_ => nI (T j_)))), (aMN, .inl (cyI, 20, .inl nm)), (aML, .inl (cyI, 20, .inl lo)), (aMU, .inl (cyI, 20, .inl up)), (aM, .inr (7, [.int th, .int (nI n), .int (nI cnt), .ref aMF, .ref aMT, .ref aMN, .ref aML, .ref aMU, .int (nI ml), .ref aMB, .int (nI sg), .int (nI rm), .int (nI mdg), .int (nI mnb), .int (bI mng), .ref aMf, .ref aMt, .ref aMn, .ref aMl, .ref aMu, .ref aMP, .ref aMD, .int (nI lk), .ref aMC, .ref aMO, .int gn, .int gl, .int gg, .ref aMY, .int nn, .int nl, .int nu, .ref aMS, .long hs]))] := hD
      refine lv_if_ne (tgt := 54) hx hb dX7_addDimension_47 (by decide) (fun c47 => ?_) (fun c47 => ?_)
      · have c47 : (inB b n) = true := bI_n0 c47
        refine lv_iload hx hb dX7_addDimension_54 (lv_at hl 0 rfl) ?_
        refine lv_if_ne (tgt := 63) hx hb dX7_addDimension_56 (by decide) (fun c56 => ?_) (fun c56 => ?_)
        · have c56 : b31 = true := bI_n0 c56
          refine lv_aload_n hx hb dX7_addDimension_63 rfl (lv_at hl 1 rfl) ?_
          refine va_get (D := (dC, dI)) (ci := 7) (v := .int (nI cnt)) (C := RX7) (T := TX7) (N := 34) hx hb hts iX7 hown hK hP 5 rfl rfl 2 (by decide) w1 (fun _ h9 => h9) rfl dX7_addDimension_64 ?_
          refine lv_bipush (v := 20) hx hb dX7_addDimension_67 (by decide) ?_
          refine lv_icmp_ne (tgt := 76) hx hb dX7_addDimension_69 (by decide) (fun c69 => ?_) (fun c69 => ?_)
          · have c69 := n_ne (a := cnt) (b := 20) (by omega) (by omega) c69
            refine lv_iconst (v := 0) hx hb dX7_addDimension_76 (by decide) ?_
            have q27 : (adC n cnt a b x y z) = 0 := by unfold adC; first | (rw [if_pos (fun q => absurd (c39.symm.trans q.1) Bool.false_ne_true)]; done) | (rw [if_pos (fun q => absurd (c47.symm.trans q.2) Bool.false_ne_true)]; done) | (rw [if_neg (fun q => q ⟨c39, c47⟩), if_pos (fun q => absurd (c56.symm.trans (hb31.trans q)) Bool.false_ne_true)]; done) | (rw [if_neg (fun q => q ⟨c39, c47⟩), if_neg (fun q => q (hb31 ▸ c56)), if_pos c69]; done) | (rw [if_neg (fun q => q ⟨c39, c47⟩), if_neg (fun q => q (hb31 ▸ c56)), if_neg c69]; done)
            refine W.eq (g2 := F0 mM 77 ls [.int (adC n cnt a b x y z), .ref aM]) (by rw [q27]) ?_
            exact k77 (adC n cnt a b x y z) (by rfl) _ _ _ (hP.sub [5, 0, 1, 2, 3, 4] rfl) (hD.sub [5, 0, 1, 2, 3, 4] (by decide) rfl) hS (lv_sub hl [0, 1, 2, 3, 4, 5, 6] rfl)
          · have c69 := n_eq (a := cnt) (b := 20) (by omega) (by omega) c69
            refine lv_iconst (v := 3) hx hb dX7_addDimension_72 (by decide) ?_
            refine lv_goto (tgt := 77) hx hb dX7_addDimension_73 (by decide) ?_
            have q28 : (adC n cnt a b x y z) = 3 := by unfold adC; first | (rw [if_pos (fun q => absurd (c39.symm.trans q.1) Bool.false_ne_true)]; done) | (rw [if_pos (fun q => absurd (c47.symm.trans q.2) Bool.false_ne_true)]; done) | (rw [if_neg (fun q => q ⟨c39, c47⟩), if_pos (fun q => absurd (c56.symm.trans (hb31.trans q)) Bool.false_ne_true)]; done) | (rw [if_neg (fun q => q ⟨c39, c47⟩), if_neg (fun q => q (hb31 ▸ c56)), if_pos c69]; done) | (rw [if_neg (fun q => q ⟨c39, c47⟩), if_neg (fun q => q (hb31 ▸ c56)), if_neg c69]; done)
            refine W.eq (g2 := F0 mM 77 ls [.int (adC n cnt a b x y z), .ref aM]) (by rw [q28]) ?_
            exact k77 (adC n cnt a b x y z) (by rfl) _ _ _ (hP.sub [5, 0, 1, 2, 3, 4] rfl) (hD.sub [5, 0, 1, 2, 3, 4] (by decide) rfl) hS (lv_sub hl [0, 1, 2, 3, 4, 5, 6] rfl)
        · have c56 : b31 = false := bI_0 c56
          refine lv_iconst (v := 2) hx hb dX7_addDimension_59 (by decide) ?_
          refine lv_goto (tgt := 77) hx hb dX7_addDimension_60 (by decide) ?_
          have q29 : (adC n cnt a b x y z) = 2 := by unfold adC; first | (rw [if_pos (fun q => absurd (c39.symm.trans q.1) Bool.false_ne_true)]; done) | (rw [if_pos (fun q => absurd (c47.symm.trans q.2) Bool.false_ne_true)]; done) | (rw [if_neg (fun q => q ⟨c39, c47⟩), if_pos (fun q => absurd (c56.symm.trans (hb31.trans q)) Bool.false_ne_true)]; done) | (rw [if_neg (fun q => q ⟨c39, c47⟩), if_neg (fun q => q (hb31 ▸ c56)), if_pos c69]; done) | (rw [if_neg (fun q => q ⟨c39, c47⟩), if_neg (fun q => q (hb31 ▸ c56)), if_neg c69]; done)
          refine W.eq (g2 := F0 mM 77 ls [.int (adC n cnt a b x y z), .ref aM]) (by rw [q29]) ?_
          exact k77 (adC n cnt a b x y z) (by rfl) _ _ _ (hP.sub [5, 0, 1, 2, 3, 4] rfl) (hD.sub [5, 0, 1, 2, 3, 4] (by decide) rfl) hS (lv_sub hl [0, 1, 2, 3, 4, 5, 6] rfl)
      · have c47 : (inB b n) = false := bI_0 c47
        refine lv_iconst (v := 1) hx hb dX7_addDimension_50 (by decide) ?_
        refine lv_goto (tgt := 77) hx hb dX7_addDimension_51 (by decide) ?_
        have q30 : (adC n cnt a b x y z) = 1 := by unfold adC; first | (rw [if_pos (fun q => absurd (c39.symm.trans q.1) Bool.false_ne_true)]; done) | (rw [if_pos (fun q => absurd (c47.symm.trans q.2) Bool.false_ne_true)]; done) | (rw [if_neg (fun q => q ⟨c39, c47⟩), if_pos (fun q => absurd (c56.symm.trans (hb31.trans q)) Bool.false_ne_true)]; done) | (rw [if_neg (fun q => q ⟨c39, c47⟩), if_neg (fun q => q (hb31 ▸ c56)), if_pos c69]; done) | (rw [if_neg (fun q => q ⟨c39, c47⟩), if_neg (fun q => q (hb31 ▸ c56)), if_neg c69]; done)
        refine W.eq (g2 := F0 mM 77 ls [.int (adC n cnt a b x y z), .ref aM]) (by rw [q30]) ?_
        exact k77 (adC n cnt a b x y z) (by rfl) _ _ _ (hP.sub [5, 0, 1, 2, 3, 4] rfl) (hD.sub [5, 0, 1, 2, 3, 4] (by decide) rfl) hS (lv_sub hl [0, 1, 2, 3, 4, 5, 6] rfl)
  refine lv_icmp_eq (tgt := 30) hx hb dX7_addDimension_2 (by decide) (fun c2 => ?_) (fun c2 => ?_)
  · skip
    refine lv_iconst (v := 0) hx hb dX7_addDimension_30 (by decide) ?_
    have q31 : (bI (decide (¬ a = b) && (nomB x && devB y z))) = 0 := by first | (simp [c2, bI]; done) | (simp [c13, nomB, bI]; done) | (simp [c23, bI]; done) | simp [c2, nomB, c13, c23, bI]
    refine W.eq (g2 := F0 mM 31 ls [.int (bI (decide (¬ a = b) && (nomB x && devB y z)))]) (by rw [q31]) ?_
    exact k31 (decide (¬ a = b) && (nomB x && devB y z)) (by rfl) _ _ _ (hP) (hD) hS (lv_sub hl [0, 1, 2, 3, 4, 5] rfl)
  · skip
    refine lv_iload_n hx hb dX7_addDimension_5 rfl (lv_at hl 3 rfl) ?_
    refine lv_ldc (v := (-99999)) hx hb hown w2 dX7_addDimension_6 ?_
    refine lv_ldc (v := 99999) hx hb hown w3 dX7_addDimension_8 ?_
    have hPc := hP.sub (ws' := []) [] rfl
    have hDc := hD.sub (ws' := []) [] (by decide) rfl
    have hFc := va_free (wc := []) hD hS hA [] rfl
    refine va_calli (va_runS (As := [.int x, .int (-99999), .int 99999]) (rest := []) ⟨hx, hb, hml, hown, hts⟩ (c_X7_within l dC dI cyI cyZ cyJ cyD H.size x (-99999) 99999) (va_cwS 3 hts gX7_addDimension_X7_within rfl rfl rfl (by decide +kernel) ⟨Nat.le_of_ble_eq_true rfl, Nat.le_of_ble_eq_true rfl⟩) ⟨fun a U g mk q => by obtain ⟨q0, q1, qP, qK, qD⟩ := q; exact ⟨q0, q1, qP, va_K.moved (u := U) (U := U.calling g mk a) (Vm.Alike.refl U.vm) qK, qD⟩, fun U hU hW => ⟨rfl, by rw [hU], by rw [hU]; exact hPc, va_K.moved hW.alike hK, hDc.weaken (fun _ _ _ _ => trivial)⟩⟩ rfl rfl hl.1 rfl (lv_room (Nat.le_of_ble_eq_true rfl)) dX7_addDimension_10 ⟨Nat.le_of_ble_eq_true rfl, Nat.le_of_ble_eq_true rfl⟩) hS (fun q _ h => hFc q h) hFc (fun r u t H1 locs ht hvm hw hB hz1 hk1 hS => ?_)
    obtain rfl := hw
    obtain ⟨hP1, hK1, hD1⟩ := hB
    rw [ht] at hP1
    obtain ⟨hP, hD⟩ := va_join (wr := [(aM, .inr (7, [.int th, .int (nI n), .int (nI cnt), .ref aMF, .ref aMT, .ref aMN, .ref aML, .ref aMU, .int (nI ml), .ref aMB, .int (nI sg), .int (nI rm), .int (nI mdg), .int (nI mnb), .int (bI mng), .ref aMf, .ref aMt, .ref aMn, .ref aMl, .ref aMu, .ref aMP, .ref aMD, .int (nI lk), .ref aMC, .ref aMO, .int gn, .int gl, .int gg, .ref aMY, .int nn, .int nl, .int nu, .ref aMS, .long hs])), (aMF, .inl (cyI, 20, .inl (fun j_ => nI (F j_)))), (aMT, .inl (cyI, 20, .inl (fun j_ => nI (T j_)))), (aMN, .inl (cyI, 20, .inl nm)), (aML, .inl (cyI, 20, .inl lo)), (aMU, .inl (cyI, 20, .inl up))]) (w1 := []) hP hD [] [0, 1, 2, 3, 4, 5] rfl rfl (by decide) (by decide) hk1 hFc hP1 hD1
    clear hP1 hD1 hK1 hPc hDc hFc hk1 hz1 hvm ht u t
    generalize H1 = H at hP hS ⊢
    have hP : va_P (dC, dI) vwCl [(aM, .inr (7, [.int th, .int (nI n), .int (nI cnt), .ref aMF, .ref aMT, .ref aMN, .ref aML, .ref aMU, .int (nI ml), .ref aMB, .int (nI sg), .int (nI rm), .int (nI mdg), .int (nI mnb), .int (bI mng), .ref aMf, .ref aMt, .ref aMn, .ref aMl, .ref aMu, .ref aMP, .ref aMD, .int (nI lk), .ref aMC, .ref aMO, .int gn, .int gl, .int gg, .ref aMY, .int nn, .int nl, .int nu, .ref aMS, .long hs])), (aMF, .inl (cyI, 20, .inl (fun j_ => nI (F j_)))), (aMT, .inl (cyI, 20, .inl (fun j_ => nI (T j_)))), (aMN, .inl (cyI, 20, .inl nm)), (aML, .inl (cyI, 20, .inl lo)), (aMU, .inl (cyI, 20, .inl up))] H := hP
    have hD : va_D A [(aM, .inr (7, [.int th, .int (nI n), .int (nI cnt), .ref aMF, .ref aMT, .ref aMN, .ref aML, .ref aMU, .int (nI ml), .ref aMB, .int (nI sg), .int (nI rm), .int (nI mdg), .int (nI mnb), .int (bI mng), .ref aMf, .ref aMt, .ref aMn, .ref aMl, .ref aMu, .ref aMP, .ref aMD, .int (nI lk), .ref aMC, .ref aMO, .int gn, .int gl, .int gg, .ref aMY, .int nn, .int nl, .int nu, .ref aMS, .long hs])), (aMF, .inl (cyI, 20, .inl (fun j_ => nI (F j_)))), (aMT, .inl (cyI, 20, .inl (fun j_ => nI (T j_)))), (aMN, .inl (cyI, 20, .inl nm)), (aML, .inl (cyI, 20, .inl lo)), (aMU, .inl (cyI, 20, .inl up))] := hD
    refine lv_if_eq (tgt := 30) hx hb dX7_addDimension_13 (by decide) (fun c13 => ?_) (fun c13 => ?_)
    · have c13 : (wtn x (-99999) 99999) = false := bI_0 c13
      refine lv_iconst (v := 0) hx hb dX7_addDimension_30 (by decide) ?_
      have q32 : (bI (decide (¬ a = b) && (nomB x && devB y z))) = 0 := by first | (simp [c2, bI]; done) | (simp [c13, nomB, bI]; done) | (simp [c23, bI]; done) | simp [c2, nomB, c13, c23, bI]
      refine W.eq (g2 := F0 mM 31 ls [.int (bI (decide (¬ a = b) && (nomB x && devB y z)))]) (by rw [q32]) ?_
      exact k31 (decide (¬ a = b) && (nomB x && devB y z)) (by rfl) _ _ _ (hP) (hD) hS (lv_sub hl [0, 1, 2, 3, 4, 5] rfl)
    · have c13 : (wtn x (-99999) 99999) = true := bI_n0 c13
      refine lv_iload hx hb dX7_addDimension_16 (lv_at hl 4 rfl) ?_
      refine lv_iload hx hb dX7_addDimension_18 (lv_at hl 5 rfl) ?_
      have hPc := hP.sub (ws' := []) [] rfl
      have hDc := hD.sub (ws' := []) [] (by decide) rfl
      have hFc := va_free (wc := []) hD hS hA [] rfl
      refine va_calli (va_runS (As := [.int y, .int z]) (rest := []) ⟨hx, hb, hml, hown, hts⟩ (c_X7_areDeviations l dC dI cyI cyZ cyJ cyD H.size y z) (va_cwS 2 hts gX7_addDimension_X7_areDeviations rfl rfl rfl (by decide +kernel) ⟨Nat.le_of_ble_eq_true rfl, Nat.le_of_ble_eq_true rfl⟩) ⟨fun a U g mk q => by obtain ⟨q0, q1, qP, qK, qD⟩ := q; exact ⟨q0, q1, qP, va_K.moved (u := U) (U := U.calling g mk a) (Vm.Alike.refl U.vm) qK, qD⟩, fun U hU hW => ⟨rfl, by rw [hU], by rw [hU]; exact hPc, va_K.moved hW.alike hK, hDc.weaken (fun _ _ _ _ => trivial)⟩⟩ rfl rfl hl.1 rfl (lv_room (Nat.le_of_ble_eq_true rfl)) dX7_addDimension_20 ⟨Nat.le_of_ble_eq_true rfl, Nat.le_of_ble_eq_true rfl⟩) hS (fun q _ h => hFc q h) hFc (fun r u t H1 locs ht hvm hw hB hz1 hk1 hS => ?_)
      obtain rfl := hw
      obtain ⟨hP1, hK1, hD1⟩ := hB
      rw [ht] at hP1
      obtain ⟨hP, hD⟩ := va_join (wr := [(aM, .inr (7, [.int th, .int (nI n), .int (nI cnt), .ref aMF, .ref aMT, .ref aMN, .ref aML, .ref aMU, .int (nI ml), .ref aMB, .int (nI sg), .int (nI rm), .int (nI mdg), .int (nI mnb), .int (bI mng), .ref aMf, .ref aMt, .ref aMn, .ref aMl, .ref aMu, .ref aMP, .ref aMD, .int (nI lk), .ref aMC, .ref aMO, .int gn, .int gl, .int gg, .ref aMY, .int nn, .int nl, .int nu, .ref aMS, .long hs])), (aMF, .inl (cyI, 20, .inl (fun j_ => nI (F j_)))), (aMT, .inl (cyI, 20, .inl (fun j_ => nI (T j_)))), (aMN, .inl (cyI, 20, .inl nm)), (aML, .inl (cyI, 20, .inl lo)), (aMU, .inl (cyI, 20, .inl up))]) (w1 := []) hP hD [] [0, 1, 2, 3, 4, 5] rfl rfl (by decide) (by decide) hk1 hFc hP1 hD1
      clear hP1 hD1 hK1 hPc hDc hFc hk1 hz1 hvm ht u t
      generalize H1 = H at hP hS ⊢
      have hP : va_P (dC, dI) vwCl [(aM, .inr (7, [.int th, .int (nI n), .int (nI cnt), .ref aMF, .ref aMT, .ref aMN, .ref aML, .ref aMU, .int (nI ml), .ref aMB, .int (nI sg), .int (nI rm), .int (nI mdg), .int (nI mnb), .int (bI mng), .ref aMf, .ref aMt, .ref aMn, .ref aMl, .ref aMu, .ref aMP, .ref aMD, .int (nI lk), .ref aMC, .ref aMO, .int gn, .int gl, .int gg, .ref aMY, .int nn, .int nl, .int nu, .ref aMS, .long hs])), (aMF, .inl (cyI, 20, .inl (fun j_ => nI (F j_)))), (aMT, .inl (cyI, 20, .inl (fun j_ => nI (T j_)))), (aMN, .inl (cyI, 20, .inl nm)), (aML, .inl (cyI, 20, .inl lo)), (aMU, .inl (cyI, 20, .inl up))] H := hP
      have hD : va_D A [(aM, .inr (7, [.int th, .int (nI n), .int (nI cnt), .ref aMF, .ref aMT, .ref aMN, .ref aML, .ref aMU, .int (nI ml), .ref aMB, .int (nI sg), .int (nI rm), .int (nI mdg), .int (nI mnb), .int (bI mng), .ref aMf, .ref aMt, .ref aMn, .ref aMl, .ref aMu, .ref aMP, .ref aMD, .int (nI lk), .ref aMC, .ref aMO, .int gn, .int gl, .int gg, .ref aMY, .int nn, .int nl, .int nu, .ref aMS, .long hs])), (aMF, .inl (cyI, 20, .inl (fun j_ => nI (F j_)))), (aMT, .inl (cyI, 20, .inl (fun j_ => nI (T j_)))), (aMN, .inl (cyI, 20, .inl nm)), (aML, .inl (cyI, 20, .inl lo)), (aMU, .inl (cyI, 20, .inl up))] := hD
      refine lv_if_eq (tgt := 30) hx hb dX7_addDimension_23 (by decide) (fun c23 => ?_) (fun c23 => ?_)
      · have c23 : (devB y z) = false := bI_0 c23
        refine lv_iconst (v := 0) hx hb dX7_addDimension_30 (by decide) ?_
        have q33 : (bI (decide (¬ a = b) && (nomB x && devB y z))) = 0 := by first | (simp [c2, bI]; done) | (simp [c13, nomB, bI]; done) | (simp [c23, bI]; done) | simp [c2, nomB, c13, c23, bI]
        refine W.eq (g2 := F0 mM 31 ls [.int (bI (decide (¬ a = b) && (nomB x && devB y z)))]) (by rw [q33]) ?_
        exact k31 (decide (¬ a = b) && (nomB x && devB y z)) (by rfl) _ _ _ (hP) (hD) hS (lv_sub hl [0, 1, 2, 3, 4, 5] rfl)
      · have c23 : (devB y z) = true := bI_n0 c23
        refine lv_iconst (v := 1) hx hb dX7_addDimension_26 (by decide) ?_
        refine lv_goto (tgt := 31) hx hb dX7_addDimension_27 (by decide) ?_
        have q34 : (bI (decide (¬ a = b) && (nomB x && devB y z))) = 1 := by first | (simp [c2, bI]; done) | (simp [c13, nomB, bI]; done) | (simp [c23, bI]; done) | simp [c2, nomB, c13, c23, bI]
        refine W.eq (g2 := F0 mM 31 ls [.int (bI (decide (¬ a = b) && (nomB x && devB y z)))]) (by rw [q34]) ?_
        exact k31 (decide (¬ a = b) && (nomB x && devB y z)) (by rfl) _ _ _ (hP) (hD) hS (lv_sub hl [0, 1, 2, 3, 4, 5] rfl)
