
def devB (x y : Int32) : Bool := decide (¬ x < -999) && (decide (¬ y < x) && decide (¬ 999 < y))
def fitB (w lo up : Nat → Int32) : Nat → Bool
  | 0 => true
  | i + 1 => fitB w lo up i && (!(chB w lo up i) || devB (flD (lo i + up i - w i) 2) (flD (lo i + up i - w i) 2 + w i))
theorem fitB_stop {w lo up : Nat → Int32} {i n : Nat} (h : i < n) (h1 : chB w lo up i = true) (h2 : devB (flD (lo i + up i - w i) 2) (flD (lo i + up i - w i) 2 + w i) = false) : fitB w lo up n = false := by
  induction n with
  | zero => exact absurd h (Nat.not_lt_zero _)
  | succ n ih =>
    unfold fitB
    by_cases e : i = n
    · subst e; rw [h1, h2]; simp
    · rw [ih (by omega)]; rfl
/-- deviations with the new widths w, the first i dimensions done -/
def apS (w lo up : Nat → Int32) : Nat → (Nat → Int32) × (Nat → Int32)
  | 0 => (lo, up)
  | i + 1 => if chB w (apS w lo up i).1 (apS w lo up i).2 i = true then (upd (apS w lo up i).1 i (flD ((apS w lo up i).1 i + (apS w lo up i).2 i - w i) 2), upd (apS w lo up i).2 i (flD ((apS w lo up i).1 i + (apS w lo up i).2 i - w i) 2 + w i)) else apS w lo up i
def apC (w lo up : Nat → Int32) : Nat → Nat
  | 0 => 0
  | i + 1 => if chB w (apS w lo up i).1 (apS w lo up i).2 i = true then apC w lo up i + 1 else apC w lo up i
theorem apC_le (w lo up : Nat → Int32) : ∀ i, apC w lo up i ≤ i := by
  intro i
  induction i with
  | zero => exact Nat.le_refl _
  | succ i ih => unfold apC; split <;> omega
def cpN (f g : Nat → Nat) : Nat → Nat → Nat
  | 0 => f
  | d + 1 => updN (cpN f g d) d (g d)
def cpI (f g : Nat → Int32) : Nat → Nat → Int32
  | 0 => f
  | d + 1 => upd (cpI f g d) d (g d)
def rmN (f : Nat → Nat) (d : Nat) : Nat → Nat → Nat
  | 0 => f
  | k + 1 => updN (rmN f d k) (d + k) (rmN f d k (d + 1 + k))
def rmI (f : Nat → Int32) (d : Nat) : Nat → Nat → Int32
  | 0 => f
  | k + 1 => upd (rmI f d k) (d + k) (rmI f d k (d + 1 + k))
def fpI (P : Nat → Nat) : Nat → Nat → Nat
  | 0 => P
  | i + 1 => updN (fpI P i) i i
theorem fpI_at (P : Nat → Nat) : ∀ i j, fpI P i j = if j < i then j else P j := by
  intro i
  induction i with
  | zero => intro j; simp [fpI]
  | succ i ih =>
    intro j
    unfold fpI updN
    by_cases h : j = i
    · subst h; simp
    · rw [if_neg h, ih]
      have : j < i + 1 ↔ j < i := by omega
      simp [this]
def fpP (F T : Nat → Nat) (n : Nat) (P : Nat → Nat) : Nat → Nat → Nat
  | 0 => P
  | d + 1 => mvP (fpP F T n P d) (max (fpP F T n P d (F d)) (fpP F T n P d (T d))) (min (fpP F T n P d (F d)) (fpP F T n P d (T d))) n
def fpD (F T : Nat → Nat) (n : Nat) (P : Nat → Nat) (dd : Nat → Bool) : Nat → Nat → Bool
  | 0 => dd
  | d + 1 => updB (fpD F T n P dd d) d (decide (fpP F T n P d (F d) = fpP F T n P d (T d)))
theorem fpP_lt {F T : Nat → Nat} {n cnt : Nat} {P : Nat → Nat} (hF : ∀ d, d < cnt → F d < n) (hT : ∀ d, d < cnt → T d < n) : ∀ d, d ≤ cnt → ∀ i, i < n → fpP F T n (fpI P n) d i < n := by
  intro d
  induction d with
  | zero => intro _ i hi; show fpI P n i < n; rw [fpI_at, if_pos hi]; exact hi
  | succ d ih =>
    intro hd i hi
    have h1 := ih (by omega)
    have h2 := h1 _ (hF d (by omega))
    have h3 := h1 _ (hT d (by omega))
    have h4 := h1 i hi
    unfold fpP
    rw [mvP_at, if_pos hi]
    split <;> omega

set_option maxHeartbeats 4000000 in
set_option maxRecDepth 100000 in
theorem c_X6_areDeviations (l : Launch) (dC : Nat → ClassId) (dI : Nat → Nat → Nat) (cyI cyZ cyJ cyD : ClassId) (zH : Nat) (x : Int32) (y : Int32) : Met l yX6_areDeviations wsX6_areDeviations ({ frames := 0, cells := 0, slots := 0, locals := 0 } : Room) (va_Pc [.int x, .int y] (fun U => U.heap.size = zH ∧ va_P (dC, dI) vwCl [] U.heap ∧ va_K (dC, dI) vwCl [(cyI, .int), (cyZ, .boolean), (cyJ, .long), (cyD, .double)] U ∧ va_D (fun _ => True) [])) (va_Qi (fun (r : Int32) (_ : Unit) => r = bI (devB x y)) (fun _ t => va_P (dC, dI) vwCl [] t.heap ∧ va_K (dC, dI) vwCl [(cyI, .int), (cyZ, .boolean), (cyJ, .long), (cyD, .double)] t ∧ va_D (va_A [] zH) []) (va_A [] zH)) 0 0 (va_A [] zH) := by
  refine Met.ofW (cc := cX6_areDeviations) (maxL := 2) (ret := (some .boolean)) (by decide) rfl ?_
  intro pM eM s mM args blM mtM cM s₁ BM hml hv
  obtain ⟨rfl, hsz, hP, hK, hD0⟩ := hv
  have hx := BM.exec
  have hb := BM.bytes
  have hr := BM.returns
  have hts := atoms_spec (ws := wsX6_areDeviations) BM.pre
  have hown : s.vm.findClass RX6 = some mM.cls := findClass_of_methodNamed BM.named
  have hlocks := BM.notSynchronized
  subst hsz
  have hD := hD0.self (sz := s.heap.size)
  obtain ⟨Q, hQe⟩ : ∃ Q : State → Prop, Q = MQ blM (va_Qi (fun (r : Int32) (_ : Unit) => r = bI (devB x y)) (fun _ t => va_P (dC, dI) vwCl [] t.heap ∧ va_K (dC, dI) vwCl [(cyI, .int), (cyZ, .boolean), (cyJ, .long), (cyD, .double)] t ∧ va_D (va_A [] s.heap.size) []) (va_A [] s.heap.size)) ([.int x, .int y] : List Value).toArray s 0 0 (va_A [] s.heap.size) := ⟨_, rfl⟩
  rw [← hQe]
  generalize hAe : va_A [] s.heap.size = A at hD hQe
  have hA : ∀ q : Nat, s.heap.size ≤ q → A q := fun q h => by rw [← hAe]; exact Or.inr h
  obtain ⟨H, hHe⟩ : ∃ H : Heap, H = s.heap := ⟨_, rfl⟩
  have hS : va_S A s.heap H [] := by rw [hHe]; exact va_S.rf
  rw [← hHe] at hP ⊢
  have hl := lv_entry ([.int x, .int y]) (n := 2) (Nat.le_of_ble_eq_true rfl)
  rw [lg_entry_eq]
  generalize (lg_sl ([.int x, .int y]) ++ List.replicate (2 - (lg_sl ([.int x, .int y])).length) Slot.unset).toArray = ls at hl ⊢
  have hl : lv_has ls 2 [(0, .int x), (1, .int y)] := hl
  refine lv_iload_n hx hb dX6_areDeviations_0 rfl (lv_at hl 0 rfl) ?_
  refine lv_sipush (v := (-999)) hx hb dX6_areDeviations_1 (by decide) ?_
  refine lv_icmp_lt (tgt := 23) hx hb dX6_areDeviations_4 (by decide) (fun c4 => ?_) (fun c4 => ?_)
  · skip
    refine lv_iconst (v := 0) hx hb dX6_areDeviations_23 (by decide) ?_
    have r1 : 0 = (bI (devB x y)) := by simp [devB, bI, *]
    have hP9 : va_P (dC, dI) vwCl [] H := by exact hP.sub [] rfl
    have hD9 : va_D A [] := by exact hD.sub [] (by decide) rfl
    subst hAe
    subst hQe
    exact W.zret (v := 0) hx hb hr rfl (fun t ht hW => ⟨⟨_, (), rfl, r1, by rw [ht]; exact hP9, va_K.moved hW.alike hK, hD9⟩, hS.F ht⟩) hS.2.2 dX6_areDeviations_24
  · skip
    refine lv_iload_n hx hb dX6_areDeviations_7 rfl (lv_at hl 0 rfl) ?_
    refine lv_iload_n hx hb dX6_areDeviations_8 rfl (lv_at hl 1 rfl) ?_
    refine lv_icmp_gt (tgt := 23) hx hb dX6_areDeviations_9 (by decide) (fun c9 => ?_) (fun c9 => ?_)
    · skip
      refine lv_iconst (v := 0) hx hb dX6_areDeviations_23 (by decide) ?_
      have r2 : 0 = (bI (devB x y)) := by simp [devB, bI, *]
      have hP9 : va_P (dC, dI) vwCl [] H := by exact hP.sub [] rfl
      have hD9 : va_D A [] := by exact hD.sub [] (by decide) rfl
      subst hAe
      subst hQe
      exact W.zret (v := 0) hx hb hr rfl (fun t ht hW => ⟨⟨_, (), rfl, r2, by rw [ht]; exact hP9, va_K.moved hW.alike hK, hD9⟩, hS.F ht⟩) hS.2.2 dX6_areDeviations_24
    · skip
      refine lv_iload_n hx hb dX6_areDeviations_12 rfl (lv_at hl 1 rfl) ?_
      refine lv_sipush (v := 999) hx hb dX6_areDeviations_13 (by decide) ?_
      refine lv_icmp_gt (tgt := 23) hx hb dX6_areDeviations_16 (by decide) (fun c16 => ?_) (fun c16 => ?_)
      · skip
        refine lv_iconst (v := 0) hx hb dX6_areDeviations_23 (by decide) ?_
        have r3 : 0 = (bI (devB x y)) := by simp [devB, bI, *]
        have hP9 : va_P (dC, dI) vwCl [] H := by exact hP.sub [] rfl
        have hD9 : va_D A [] := by exact hD.sub [] (by decide) rfl
        subst hAe
        subst hQe
        exact W.zret (v := 0) hx hb hr rfl (fun t ht hW => ⟨⟨_, (), rfl, r3, by rw [ht]; exact hP9, va_K.moved hW.alike hK, hD9⟩, hS.F ht⟩) hS.2.2 dX6_areDeviations_24
      · skip
        refine lv_iconst (v := 1) hx hb dX6_areDeviations_19 (by decide) ?_
        refine lv_goto (tgt := 24) hx hb dX6_areDeviations_20 (by decide) ?_
        have r4 : 1 = (bI (devB x y)) := by simp [devB, bI, *]
        have hP9 : va_P (dC, dI) vwCl [] H := by exact hP.sub [] rfl
        have hD9 : va_D A [] := by exact hD.sub [] (by decide) rfl
        subst hAe
        subst hQe
        exact W.zret (v := 1) hx hb hr rfl (fun t ht hW => ⟨⟨_, (), rfl, r4, by rw [ht]; exact hP9, va_K.moved hW.alike hK, hD9⟩, hS.F ht⟩) hS.2.2 dX6_areDeviations_24
set_option maxHeartbeats 4000000 in
set_option maxRecDepth 100000 in
theorem c_X4_fit (l : Launch) (dC : Nat → ClassId) (dI : Nat → Nat → Nat) (cyI cyZ cyJ cyD : ClassId) (aS aH aR aSN aRF aRT aRN aRL aRU : Nat) (zH : Nat) (w : Nat → Int32) (lo : Nat → Int32) (up : Nat → Int32) (cnt : Nat) (hc : cnt ≤ 20) : Met l yX4_fit wsX4_fit ({ frames := 2, cells := 0, slots := 0, locals := 45 } : Room) (va_Pc [.ref aS] (fun U => U.heap.size = zH ∧ va_P (dC, dI) vwCl [(aS, .inr (4, [.ref aH, .ref aR, .ref aSN])), (aSN, .inl (cyI, 20, .inl w)), (aR, .inr (1, [.ref aRF, .ref aRT, .ref aRN, .ref aRL, .ref aRU, .int (nI cnt)])), (aRL, .inl (cyI, 20, .inl lo)), (aRU, .inl (cyI, 20, .inl up))] U.heap ∧ va_K (dC, dI) vwCl [(cyI, .int), (cyZ, .boolean), (cyJ, .long), (cyD, .double)] U ∧ va_D (fun _ => True) [(aS, .inr (4, [.ref aH, .ref aR, .ref aSN])), (aSN, .inl (cyI, 20, .inl w)), (aR, .inr (1, [.ref aRF, .ref aRT, .ref aRN, .ref aRL, .ref aRU, .int (nI cnt)])), (aRL, .inl (cyI, 20, .inl lo)), (aRU, .inl (cyI, 20, .inl up))] ∧ va_Nw (.methodLinkNest RX4 75 yX6_areDeviations RX6) U)) (va_Qi (fun (r : Int32) (_ : Unit) => r = bI (fitB w lo up cnt)) (fun _ t => va_P (dC, dI) vwCl [(aS, .inr (4, [.ref aH, .ref aR, .ref aSN])), (aSN, .inl (cyI, 20, .inl w)), (aR, .inr (1, [.ref aRF, .ref aRT, .ref aRN, .ref aRL, .ref aRU, .int (nI cnt)])), (aRL, .inl (cyI, 20, .inl lo)), (aRU, .inl (cyI, 20, .inl up))] t.heap ∧ va_K (dC, dI) vwCl [(cyI, .int), (cyZ, .boolean), (cyJ, .long), (cyD, .double)] t ∧ va_D (va_A [(aS, .inr (4, [.ref aH, .ref aR, .ref aSN])), (aSN, .inl (cyI, 20, .inl w)), (aR, .inr (1, [.ref aRF, .ref aRT, .ref aRN, .ref aRL, .ref aRU, .int (nI cnt)])), (aRL, .inl (cyI, 20, .inl lo)), (aRU, .inl (cyI, 20, .inl up))] zH) [(aS, .inr (4, [.ref aH, .ref aR, .ref aSN])), (aSN, .inl (cyI, 20, .inl w)), (aR, .inr (1, [.ref aRF, .ref aRT, .ref aRN, .ref aRL, .ref aRU, .int (nI cnt)])), (aRL, .inl (cyI, 20, .inl lo)), (aRU, .inl (cyI, 20, .inl up))]) (va_A [(aS, .inr (4, [.ref aH, .ref aR, .ref aSN])), (aSN, .inl (cyI, 20, .inl w)), (aR, .inr (1, [.ref aRF, .ref aRT, .ref aRN, .ref aRL, .ref aRU, .int (nI cnt)])), (aRL, .inl (cyI, 20, .inl lo)), (aRU, .inl (cyI, 20, .inl up))] zH)) 0 0 (va_A [(aS, .inr (4, [.ref aH, .ref aR, .ref aSN])), (aSN, .inl (cyI, 20, .inl w)), (aR, .inr (1, [.ref aRF, .ref aRT, .ref aRN, .ref aRL, .ref aRU, .int (nI cnt)])), (aRL, .inl (cyI, 20, .inl lo)), (aRU, .inl (cyI, 20, .inl up))] zH) := by
  refine Met.ofW (cc := cX4_fit) (maxL := 2) (ret := (some .boolean)) (by decide) rfl ?_
  intro pM eM s mM args blM mtM cM s₁ BM hml hv
  obtain ⟨rfl, hsz, hP, hK, hD0, nw75⟩ := hv
  have hx := BM.exec
  have hb := BM.bytes
  have hr := BM.returns
  have hts := atoms_spec (ws := wsX4_fit) BM.pre
  have hown : s.vm.findClass RX4 = some mM.cls := findClass_of_methodNamed BM.named
  have hlocks := BM.notSynchronized
  have w0 := hts (.fieldLink RX4 25 "DimensionChecker$Shares" "rows" "LDimensionChecker$Dimensions;") (by decide +kernel)
  have w1 := hts (.fieldLink RX4 53 "DimensionChecker$Dimensions" "count" "I") (by decide +kernel)
  have w2 := hts (.fieldLink RX4 9 "DimensionChecker$Shares" "newWidth" "[I") (by decide +kernel)
  have w3 := hts (.initialized RX6) (by decide +kernel)
  have w4 := hts (.static yX6_areDeviations) (by decide +kernel)
  have iX4 : ∀ w ∈ wsX40, w ∈ wsX4_fit := by decide +kernel
  have iX1 : ∀ w ∈ wsX10, w ∈ wsX4_fit := by decide +kernel
  subst hsz
  have hD := hD0.self (sz := s.heap.size)
  obtain ⟨Q, hQe⟩ : ∃ Q : State → Prop, Q = MQ blM (va_Qi (fun (r : Int32) (_ : Unit) => r = bI (fitB w lo up cnt)) (fun _ t => va_P (dC, dI) vwCl [(aS, .inr (4, [.ref aH, .ref aR, .ref aSN])), (aSN, .inl (cyI, 20, .inl w)), (aR, .inr (1, [.ref aRF, .ref aRT, .ref aRN, .ref aRL, .ref aRU, .int (nI cnt)])), (aRL, .inl (cyI, 20, .inl lo)), (aRU, .inl (cyI, 20, .inl up))] t.heap ∧ va_K (dC, dI) vwCl [(cyI, .int), (cyZ, .boolean), (cyJ, .long), (cyD, .double)] t ∧ va_D (va_A [(aS, .inr (4, [.ref aH, .ref aR, .ref aSN])), (aSN, .inl (cyI, 20, .inl w)), (aR, .inr (1, [.ref aRF, .ref aRT, .ref aRN, .ref aRL, .ref aRU, .int (nI cnt)])), (aRL, .inl (cyI, 20, .inl lo)), (aRU, .inl (cyI, 20, .inl up))] s.heap.size) [(aS, .inr (4, [.ref aH, .ref aR, .ref aSN])), (aSN, .inl (cyI, 20, .inl w)), (aR, .inr (1, [.ref aRF, .ref aRT, .ref aRN, .ref aRL, .ref aRU, .int (nI cnt)])), (aRL, .inl (cyI, 20, .inl lo)), (aRU, .inl (cyI, 20, .inl up))]) (va_A [(aS, .inr (4, [.ref aH, .ref aR, .ref aSN])), (aSN, .inl (cyI, 20, .inl w)), (aR, .inr (1, [.ref aRF, .ref aRT, .ref aRN, .ref aRL, .ref aRU, .int (nI cnt)])), (aRL, .inl (cyI, 20, .inl lo)), (aRU, .inl (cyI, 20, .inl up))] s.heap.size)) ([.ref aS] : List Value).toArray s 0 0 (va_A [(aS, .inr (4, [.ref aH, .ref aR, .ref aSN])), (aSN, .inl (cyI, 20, .inl w)), (aR, .inr (1, [.ref aRF, .ref aRT, .ref aRN, .ref aRL, .ref aRU, .int (nI cnt)])), (aRL, .inl (cyI, 20, .inl lo)), (aRU, .inl (cyI, 20, .inl up))] s.heap.size) := ⟨_, rfl⟩
  rw [← hQe]
  generalize hAe : va_A [(aS, .inr (4, [.ref aH, .ref aR, .ref aSN])), (aSN, .inl (cyI, 20, .inl w)), (aR, .inr (1, [.ref aRF, .ref aRT, .ref aRN, .ref aRL, .ref aRU, .int (nI cnt)])), (aRL, .inl (cyI, 20, .inl lo)), (aRU, .inl (cyI, 20, .inl up))] s.heap.size = A at hD hQe
  have hA : ∀ q : Nat, s.heap.size ≤ q → A q := fun q h => by rw [← hAe]; exact Or.inr h
  obtain ⟨H, hHe⟩ : ∃ H : Heap, H = s.heap := ⟨_, rfl⟩
  have hS : va_S A s.heap H [] := by rw [hHe]; exact va_S.rf
  rw [← hHe] at hP ⊢
  have hl := lv_entry ([.ref aS]) (n := 2) (Nat.le_of_ble_eq_true rfl)
  rw [lg_entry_eq]
  generalize (lg_sl ([.ref aS]) ++ List.replicate (2 - (lg_sl ([.ref aS])).length) Slot.unset).toArray = ls at hl ⊢
  have hl : lv_has ls 2 [(0, .ref aS)] := hl
  refine lv_iconst (v := 0) hx hb dX4_fit_0 (by decide) ?_
  refine lv_istore_n (lv' := [(1, .int 0), (0, .ref aS)]) hx hb dX4_fit_1 rfl hl (by decide) rfl (fun ls hl => ?_)
  have k2 : ∀ (fuel : Nat) (i : Nat) (hfuel : cnt - i < fuel) (hi : i ≤ cnt) (hok : fitB w lo up i = true) (H : Heap) (locs : List Loc) (ls : Array Slot), va_P (dC, dI) vwCl [(aS, .inr (4, [.ref aH, .ref aR, .ref aSN])), (aSN, .inl (cyI, 20, .inl w)), (aR, .inr (1, [.ref aRF, .ref aRT, .ref aRN, .ref aRL, .ref aRU, .int (nI cnt)])), (aRL, .inl (cyI, 20, .inl lo)), (aRU, .inl (cyI, 20, .inl up))] H → va_D A [(aS, .inr (4, [.ref aH, .ref aR, .ref aSN])), (aSN, .inl (cyI, 20, .inl w)), (aR, .inr (1, [.ref aRF, .ref aRT, .ref aRN, .ref aRL, .ref aRU, .int (nI cnt)])), (aRL, .inl (cyI, 20, .inl lo)), (aRU, .inl (cyI, 20, .inl up))] → va_S A s.heap H locs → lv_has ls 2 [(0, .ref aS), (1, .int (nI i))] → W pM l eM (headSpec wsX4_fit ({ frames := 2, cells := 0, slots := 0, locals := 45 } : Room)).room s mM ([.ref aS] : List Value).toArray blM mtM cM H locs 0 0 Q (F0 mM 2 ls []) := by
    intro fuel
    induction fuel with
    | zero => intro i hfuel; exact absurd hfuel (Nat.not_lt_zero _)
    | succ fuel ih2 =>
      intro i hfuel hi hok H locs ls hP hD hS hl
      refine lv_iload_n hx hb dX4_fit_2 rfl (lv_at hl 1 rfl) ?_
      refine lv_aload_n hx hb dX4_fit_3 rfl (lv_at hl 0 rfl) ?_
      refine va_get (D := (dC, dI)) (ci := 4) (v := .ref aR) (C := RX4) (T := TX4) (N := 3) hx hb hts iX4 hown hK hP 0 rfl rfl 1 (by decide) w0 (fun _ h9 => h9) rfl dX4_fit_4 ?_
      refine va_get (D := (dC, dI)) (ci := 1) (v := .int (nI cnt)) (C := RX1) (T := TX1) (N := 6) hx hb hts iX1 hown hK hP 2 rfl rfl 5 (by decide) w1 (fun _ h9 => h9) rfl dX4_fit_7 ?_
      refine lv_icmp_ge (tgt := 52) hx hb dX4_fit_10 (by decide) (fun c10 => ?_) (fun c10 => ?_)
      · have c10 := n_le (a := cnt) (b := i) (by omega) (by omega) c10
        refine lv_iconst (v := 1) hx hb dX4_fit_52 (by decide) ?_
        have r1 : 1 = (bI (fitB w lo up cnt)) := by have e9 : i = cnt := (by omega); rw [e9] at hok; rw [hok]; rfl
        have hP9 : va_P (dC, dI) vwCl [(aS, .inr (4, [.ref aH, .ref aR, .ref aSN])), (aSN, .inl (cyI, 20, .inl w)), (aR, .inr (1, [.ref aRF, .ref aRT, .ref aRN, .ref aRL, .ref aRU, .int (nI cnt)])), (aRL, .inl (cyI, 20, .inl lo)), (aRU, .inl (cyI, 20, .inl up))] H := by exact hP.sub [0, 1, 2, 3, 4] rfl
        have hD9 : va_D A [(aS, .inr (4, [.ref aH, .ref aR, .ref aSN])), (aSN, .inl (cyI, 20, .inl w)), (aR, .inr (1, [.ref aRF, .ref aRT, .ref aRN, .ref aRL, .ref aRU, .int (nI cnt)])), (aRL, .inl (cyI, 20, .inl lo)), (aRU, .inl (cyI, 20, .inl up))] := by exact hD.sub [0, 1, 2, 3, 4] (by decide) rfl
        subst hAe
        subst hQe
        exact W.zret (v := 1) hx hb hr rfl (fun t ht hW => ⟨⟨_, (), rfl, r1, by rw [ht]; exact hP9, va_K.moved hW.alike hK, hD9⟩, hS.F ht⟩) hS.2.2 dX4_fit_53
      · have c10 := n_nle (a := cnt) (b := i) (by omega) (by omega) c10
        refine lv_aload_n hx hb dX4_fit_13 rfl (lv_at hl 0 rfl) ?_
        refine lv_iload_n hx hb dX4_fit_14 rfl (lv_at hl 1 rfl) ?_
        have g2 : i < 20 := by first | assumption | omega | exact vp_in_nI (by omega) (by omega)
        have hPc := hP.sub (ws' := [(aS, .inr (4, [.ref aH, .ref aR, .ref aSN])), (aSN, .inl (cyI, 20, .inl w)), (aR, .inr (1, [.ref aRF, .ref aRT, .ref aRN, .ref aRL, .ref aRU, .int (nI cnt)])), (aRL, .inl (cyI, 20, .inl lo)), (aRU, .inl (cyI, 20, .inl up))]) [0, 1, 2, 3, 4] rfl
        have hDc := hD.sub (ws' := [(aS, .inr (4, [.ref aH, .ref aR, .ref aSN])), (aSN, .inl (cyI, 20, .inl w)), (aR, .inr (1, [.ref aRF, .ref aRT, .ref aRN, .ref aRL, .ref aRU, .int (nI cnt)])), (aRL, .inl (cyI, 20, .inl lo)), (aRU, .inl (cyI, 20, .inl up))]) [0, 1, 2, 3, 4] (by decide) rfl
        have hFc := va_free (wc := [(aS, .inr (4, [.ref aH, .ref aR, .ref aSN])), (aSN, .inl (cyI, 20, .inl w)), (aR, .inr (1, [.ref aRF, .ref aRT, .ref aRN, .ref aRL, .ref aRU, .int (nI cnt)])), (aRL, .inl (cyI, 20, .inl lo)), (aRU, .inl (cyI, 20, .inl up))]) hD hS hA [0, 1, 2, 3, 4] rfl
        refine va_calli (va_runV (As := [.int (nI i)]) (rest := []) ⟨hx, hb, hml, hown, hts⟩ (c_X4_changes l dC dI cyI cyZ cyJ cyD aS aH aR aSN aRF aRT aRN aRL aRU H.size w lo up cnt i g2) (cwV 1 hts gX4_fit_X4_changes rfl rfl rfl (by decide +kernel) ⟨Nat.le_of_ble_eq_true rfl, Nat.le_of_ble_eq_true rfl⟩) ⟨fun a U g mk q => by obtain ⟨q0, q1, qP, qK, qD⟩ := q; exact ⟨q0, q1, qP, va_K.moved (u := U) (U := U.calling g mk a) (Vm.Alike.refl U.vm) qK, qD⟩, va_recv hK hPc (ci := 4) (q0 := 0) rfl rfl, fun U hU hW => ⟨rfl, by rw [hU], by rw [hU]; exact hPc, va_K.moved hW.alike hK, hDc.weaken (fun _ _ _ _ => trivial)⟩⟩ rfl rfl hl.1 rfl (lv_room (Nat.le_of_ble_eq_true rfl)) dX4_fit_15 ⟨Nat.le_of_ble_eq_true rfl, Nat.le_of_ble_eq_true rfl⟩) hS (fun q _ h => hFc q h) hFc (fun r u t H1 locs ht hvm hw hB hz1 hk1 hS => ?_)
        obtain rfl := hw
        obtain ⟨hP1, hK1, hD1⟩ := hB
        rw [ht] at hP1
        obtain ⟨hP, hD⟩ := va_join (wr := []) (w1 := [(aS, .inr (4, [.ref aH, .ref aR, .ref aSN])), (aSN, .inl (cyI, 20, .inl w)), (aR, .inr (1, [.ref aRF, .ref aRT, .ref aRN, .ref aRL, .ref aRU, .int (nI cnt)])), (aRL, .inl (cyI, 20, .inl lo)), (aRU, .inl (cyI, 20, .inl up))]) hP hD [0, 1, 2, 3, 4] [] rfl rfl (by decide) (by decide) hk1 hFc hP1 hD1
        clear hP1 hD1 hK1 hPc hDc hFc hk1 hz1 hvm ht u t
        generalize H1 = H at hP hS ⊢
        have hP : va_P (dC, dI) vwCl [(aS, .inr (4, [.ref aH, .ref aR, .ref aSN])), (aSN, .inl (cyI, 20, .inl w)), (aR, .inr (1, [.ref aRF, .ref aRT, .ref aRN, .ref aRL, .ref aRU, .int (nI cnt)])), (aRL, .inl (cyI, 20, .inl lo)), (aRU, .inl (cyI, 20, .inl up))] H := hP
        have hD : va_D A [(aS, .inr (4, [.ref aH, .ref aR, .ref aSN])), (aSN, .inl (cyI, 20, .inl w)), (aR, .inr (1, [.ref aRF, .ref aRT, .ref aRN, .ref aRL, .ref aRU, .int (nI cnt)])), (aRL, .inl (cyI, 20, .inl lo)), (aRU, .inl (cyI, 20, .inl up))] := hD
        refine lv_if_eq (tgt := 46) hx hb dX4_fit_18 (by decide) (fun c18 => ?_) (fun c18 => ?_)
        · have c18 : (chB w lo up i) = false := bI_0 c18
          refine lv_iinc (v := nI (i + 1)) (lv' := [(1, .int (nI (i + 1))), (0, .ref aS)]) hx hb dX4_fit_46 hl (k := 1) rfl (nI_add i 1) (by decide) rfl (fun ls hl => ?_)
          refine lv_goto (tgt := 2) hx hb dX4_fit_49 (by decide) ?_
          exact ih2 (i + 1) (by omega) (by first | assumption | omega) (by simp [fitB, *]) _ _ _ (hP) (hD) hS (lv_sub hl [1, 0] rfl)
        · have c18 : (chB w lo up i) = true := bI_n0 c18
          refine lv_aload_n hx hb dX4_fit_21 rfl (lv_at hl 0 rfl) ?_
          refine lv_iload_n hx hb dX4_fit_22 rfl (lv_at hl 1 rfl) ?_
          have g3 : i < 20 := by first | assumption | omega | exact vp_in_nI (by omega) (by omega)
          have hPc := hP.sub (ws' := [(aS, .inr (4, [.ref aH, .ref aR, .ref aSN])), (aSN, .inl (cyI, 20, .inl w)), (aR, .inr (1, [.ref aRF, .ref aRT, .ref aRN, .ref aRL, .ref aRU, .int (nI cnt)])), (aRL, .inl (cyI, 20, .inl lo)), (aRU, .inl (cyI, 20, .inl up))]) [0, 1, 2, 3, 4] rfl
          have hDc := hD.sub (ws' := [(aS, .inr (4, [.ref aH, .ref aR, .ref aSN])), (aSN, .inl (cyI, 20, .inl w)), (aR, .inr (1, [.ref aRF, .ref aRT, .ref aRN, .ref aRL, .ref aRU, .int (nI cnt)])), (aRL, .inl (cyI, 20, .inl lo)), (aRU, .inl (cyI, 20, .inl up))]) [0, 1, 2, 3, 4] (by decide) rfl
          have hFc := va_free (wc := [(aS, .inr (4, [.ref aH, .ref aR, .ref aSN])), (aSN, .inl (cyI, 20, .inl w)), (aR, .inr (1, [.ref aRF, .ref aRT, .ref aRN, .ref aRL, .ref aRU, .int (nI cnt)])), (aRL, .inl (cyI, 20, .inl lo)), (aRU, .inl (cyI, 20, .inl up))]) hD hS hA [0, 1, 2, 3, 4] rfl
          refine va_calli (va_runV (As := [.int (nI i)]) (rest := []) ⟨hx, hb, hml, hown, hts⟩ (c_X4_newLower l dC dI cyI cyZ cyJ cyD aS aH aR aSN aRF aRT aRN aRL aRU H.size w lo up cnt i g3) (cwV 1 hts gX4_fit_X4_newLower rfl rfl rfl (by decide +kernel) ⟨Nat.le_of_ble_eq_true rfl, Nat.le_of_ble_eq_true rfl⟩) ⟨fun a U g mk q => by obtain ⟨q0, q1, qP, qK, qD⟩ := q; exact ⟨q0, q1, qP, va_K.moved (u := U) (U := U.calling g mk a) (Vm.Alike.refl U.vm) qK, qD⟩, va_recv hK hPc (ci := 4) (q0 := 0) rfl rfl, fun U hU hW => ⟨rfl, by rw [hU], by rw [hU]; exact hPc, va_K.moved hW.alike hK, hDc.weaken (fun _ _ _ _ => trivial)⟩⟩ rfl rfl hl.1 rfl (lv_room (Nat.le_of_ble_eq_true rfl)) dX4_fit_23 ⟨Nat.le_of_ble_eq_true rfl, Nat.le_of_ble_eq_true rfl⟩) hS (fun q _ h => hFc q h) hFc (fun r u t H1 locs ht hvm hw hB hz1 hk1 hS => ?_)
          obtain rfl := hw
          obtain ⟨hP1, hK1, hD1⟩ := hB
          rw [ht] at hP1
          obtain ⟨hP, hD⟩ := va_join (wr := []) (w1 := [(aS, .inr (4, [.ref aH, .ref aR, .ref aSN])), (aSN, .inl (cyI, 20, .inl w)), (aR, .inr (1, [.ref aRF, .ref aRT, .ref aRN, .ref aRL, .ref aRU, .int (nI cnt)])), (aRL, .inl (cyI, 20, .inl lo)), (aRU, .inl (cyI, 20, .inl up))]) hP hD [0, 1, 2, 3, 4] [] rfl rfl (by decide) (by decide) hk1 hFc hP1 hD1
          clear hP1 hD1 hK1 hPc hDc hFc hk1 hz1 hvm ht u t
          generalize H1 = H at hP hS ⊢
          have hP : va_P (dC, dI) vwCl [(aS, .inr (4, [.ref aH, .ref aR, .ref aSN])), (aSN, .inl (cyI, 20, .inl w)), (aR, .inr (1, [.ref aRF, .ref aRT, .ref aRN, .ref aRL, .ref aRU, .int (nI cnt)])), (aRL, .inl (cyI, 20, .inl lo)), (aRU, .inl (cyI, 20, .inl up))] H := hP
          have hD : va_D A [(aS, .inr (4, [.ref aH, .ref aR, .ref aSN])), (aSN, .inl (cyI, 20, .inl w)), (aR, .inr (1, [.ref aRF, .ref aRT, .ref aRN, .ref aRL, .ref aRU, .int (nI cnt)])), (aRL, .inl (cyI, 20, .inl lo)), (aRU, .inl (cyI, 20, .inl up))] := hD
          refine lv_aload_n hx hb dX4_fit_26 rfl (lv_at hl 0 rfl) ?_
          refine lv_iload_n hx hb dX4_fit_27 rfl (lv_at hl 1 rfl) ?_
          have g4 : i < 20 := by first | assumption | omega | exact vp_in_nI (by omega) (by omega)
          have hPc := hP.sub (ws' := [(aS, .inr (4, [.ref aH, .ref aR, .ref aSN])), (aSN, .inl (cyI, 20, .inl w)), (aR, .inr (1, [.ref aRF, .ref aRT, .ref aRN, .ref aRL, .ref aRU, .int (nI cnt)])), (aRL, .inl (cyI, 20, .inl lo)), (aRU, .inl (cyI, 20, .inl up))]) [0, 1, 2, 3, 4] rfl
          have hDc := hD.sub (ws' := [(aS, .inr (4, [.ref aH, .ref aR, .ref aSN])), (aSN, .inl (cyI, 20, .inl w)), (aR, .inr (1, [.ref aRF, .ref aRT, .ref aRN, .ref aRL, .ref aRU, .int (nI cnt)])), (aRL, .inl (cyI, 20, .inl lo)), (aRU, .inl (cyI, 20, .inl up))]) [0, 1, 2, 3, 4] (by decide) rfl
          have hFc := va_free (wc := [(aS, .inr (4, [.ref aH, .ref aR, .ref aSN])), (aSN, .inl (cyI, 20, .inl w)), (aR, .inr (1, [.ref aRF, .ref aRT, .ref aRN, .ref aRL, .ref aRU, .int (nI cnt)])), (aRL, .inl (cyI, 20, .inl lo)), (aRU, .inl (cyI, 20, .inl up))]) hD hS hA [0, 1, 2, 3, 4] rfl
          refine va_calli (va_runV (As := [.int (nI i)]) (rest := [.int (flD (lo i + up i - w i) 2)]) ⟨hx, hb, hml, hown, hts⟩ (c_X4_newLower l dC dI cyI cyZ cyJ cyD aS aH aR aSN aRF aRT aRN aRL aRU H.size w lo up cnt i g4) (cwV 1 hts gX4_fit_X4_newLower rfl rfl rfl (by decide +kernel) ⟨Nat.le_of_ble_eq_true rfl, Nat.le_of_ble_eq_true rfl⟩) ⟨fun a U g mk q => by obtain ⟨q0, q1, qP, qK, qD⟩ := q; exact ⟨q0, q1, qP, va_K.moved (u := U) (U := U.calling g mk a) (Vm.Alike.refl U.vm) qK, qD⟩, va_recv hK hPc (ci := 4) (q0 := 0) rfl rfl, fun U hU hW => ⟨rfl, by rw [hU], by rw [hU]; exact hPc, va_K.moved hW.alike hK, hDc.weaken (fun _ _ _ _ => trivial)⟩⟩ rfl rfl hl.1 rfl (lv_room (Nat.le_of_ble_eq_true rfl)) dX4_fit_28 ⟨Nat.le_of_ble_eq_true rfl, Nat.le_of_ble_eq_true rfl⟩) hS (fun q _ h => hFc q h) hFc (fun r u t H1 locs ht hvm hw hB hz1 hk1 hS => ?_)
          obtain rfl := hw
          obtain ⟨hP1, hK1, hD1⟩ := hB
          rw [ht] at hP1
          obtain ⟨hP, hD⟩ := va_join (wr := []) (w1 := [(aS, .inr (4, [.ref aH, .ref aR, .ref aSN])), (aSN, .inl (cyI, 20, .inl w)), (aR, .inr (1, [.ref aRF, .ref aRT, .ref aRN, .ref aRL, .ref aRU, .int (nI cnt)])), (aRL, .inl (cyI, 20, .inl lo)), (aRU, .inl (cyI, 20, .inl up))]) hP hD [0, 1, 2, 3, 4] [] rfl rfl (by decide) (by decide) hk1 hFc hP1 hD1
          clear hP1 hD1 hK1 hPc hDc hFc hk1 hz1 hvm ht u t
          generalize H1 = H at hP hS ⊢
          have hP : va_P (dC, dI) vwCl [(aS, .inr (4, [.ref aH, .ref aR, .ref aSN])), (aSN, .inl (cyI, 20, .inl w)), (aR, .inr (1, [.ref aRF, .ref aRT, .ref aRN, .ref aRL, .ref aRU, .int (nI cnt)])), (aRL, .inl (cyI, 20, .inl lo)), (aRU, .inl (cyI, 20, .inl up))] H := hP
          have hD : va_D A [(aS, .inr (4, [.ref aH, .ref aR, .ref aSN])), (aSN, .inl (cyI, 20, .inl w)), (aR, .inr (1, [.ref aRF, .ref aRT, .ref aRN, .ref aRL, .ref aRU, .int (nI cnt)])), (aRL, .inl (cyI, 20, .inl lo)), (aRU, .inl (cyI, 20, .inl up))] := hD
          refine lv_aload_n hx hb dX4_fit_31 rfl (lv_at hl 0 rfl) ?_
          refine va_get (D := (dC, dI)) (ci := 4) (v := .ref aSN) (C := RX4) (T := TX4) (N := 3) hx hb hts iX4 hown hK hP 0 rfl rfl 2 (by decide) w2 (fun _ h9 => h9) rfl dX4_fit_32 ?_
          refine lv_iload_n hx hb dX4_fit_35 rfl (lv_at hl 1 rfl) ?_
          have h5 : vp_in (nI i) 20 := by first | exact vp_in_nI (by omega) (by omega) | assumption
          refine va_iald hx hb hK hP 1 0 rfl rfl h5 dX4_fit_36 ?_
          refine lv_topi (fun x6 e7 => ?_)
          obtain rfl : x6 = (w i) := by rw [e7, nI_clamp (by omega)]
          clear e7
          refine lv_iadd hx hb dX4_fit_37 ?_
          have hPc := hP.sub (ws' := []) [] rfl
          have hDc := hD.sub (ws' := []) [] (by decide) rfl
          have hFc := va_free (wc := []) hD hS hA [] rfl
          refine va_calli (va_runSN (As := [.int (flD (lo i + up i - w i) 2), .int ((flD (lo i + up i - w i) 2) + (w i))]) (rest := []) ⟨hx, hb, hml, hown, hts⟩ (c_X6_areDeviations l dC dI cyI cyZ cyJ cyD H.size (flD (lo i + up i - w i) 2) ((flD (lo i + up i - w i) 2) + (w i))) ⟨va_cnB 2 hts gX4_fit_X6_areDeviations_n75 rfl rfl rfl nw75 w3 (by decide +kernel) ⟨Nat.le_of_ble_eq_true rfl, Nat.le_of_ble_eq_true rfl⟩, w4, trivial⟩ ⟨fun a U g mk q => by obtain ⟨q0, q1, qP, qK, qD⟩ := q; exact ⟨q0, q1, qP, va_K.moved (u := U) (U := U.calling g mk a) (Vm.Alike.refl U.vm) qK, qD⟩, fun U hU hW => ⟨rfl, by rw [hU], by rw [hU]; exact hPc, va_K.moved hW.alike hK, hDc.weaken (fun _ _ _ _ => trivial)⟩⟩ rfl rfl hl.1 rfl (lv_room (Nat.le_of_ble_eq_true rfl)) dX4_fit_38 ⟨Nat.le_of_ble_eq_true rfl, Nat.le_of_ble_eq_true rfl⟩) hS (fun q _ h => hFc q h) hFc (fun r u t H1 locs ht hvm hw hB hz1 hk1 hS => ?_)
          obtain rfl := hw
          obtain ⟨hP1, hK1, hD1⟩ := hB
          rw [ht] at hP1
          obtain ⟨hP, hD⟩ := va_join (wr := [(aS, .inr (4, [.ref aH, .ref aR, .ref aSN])), (aSN, .inl (cyI, 20, .inl w)), (aR, .inr (1, [.ref aRF, .ref aRT, .ref aRN, .ref aRL, .ref aRU, .int (nI cnt)])), (aRL, .inl (cyI, 20, .inl lo)), (aRU, .inl (cyI, 20, .inl up))]) (w1 := []) hP hD [] [0, 1, 2, 3, 4] rfl rfl (by decide) (by decide) hk1 hFc hP1 hD1
          clear hP1 hD1 hK1 hPc hDc hFc hk1 hz1 hvm ht u t
          generalize H1 = H at hP hS ⊢
          have hP : va_P (dC, dI) vwCl [(aS, .inr (4, [.ref aH, .ref aR, .ref aSN])), (aSN, .inl (cyI, 20, .inl w)), (aR, .inr (1, [.ref aRF, .ref aRT, .ref aRN, .ref aRL, .ref aRU, .int (nI cnt)])), (aRL, .inl (cyI, 20, .inl lo)), (aRU, .inl (cyI, 20, .inl up))] H := hP
          have hD : va_D A [(aS, .inr (4, [.ref aH, .ref aR, .ref aSN])), (aSN, .inl (cyI, 20, .inl w)), (aR, .inr (1, [.ref aRF, .ref aRT, .ref aRN, .ref aRL, .ref aRU, .int (nI cnt)])), (aRL, .inl (cyI, 20, .inl lo)), (aRU, .inl (cyI, 20, .inl up))] := hD
          refine lv_if_ne (tgt := 46) hx hb dX4_fit_41 (by decide) (fun c41 => ?_) (fun c41 => ?_)
          · have c41 : (devB (flD (lo i + up i - w i) 2) ((flD (lo i + up i - w i) 2) + (w i))) = true := bI_n0 c41
            refine lv_iinc (v := nI (i + 1)) (lv' := [(1, .int (nI (i + 1))), (0, .ref aS)]) hx hb dX4_fit_46 hl (k := 1) rfl (nI_add i 1) (by decide) rfl (fun ls hl => ?_)
            refine lv_goto (tgt := 2) hx hb dX4_fit_49 (by decide) ?_
            exact ih2 (i + 1) (by omega) (by first | assumption | omega) (by simp [fitB, *]) _ _ _ (hP) (hD) hS (lv_sub hl [1, 0] rfl)
          · have c41 : (devB (flD (lo i + up i - w i) 2) ((flD (lo i + up i - w i) 2) + (w i))) = false := bI_0 c41
            refine lv_iconst (v := 0) hx hb dX4_fit_44 (by decide) ?_
            have r8 : 0 = (bI (fitB w lo up cnt)) := by rw [fitB_stop (by omega) c18 c41]; rfl
            have hP9 : va_P (dC, dI) vwCl [(aS, .inr (4, [.ref aH, .ref aR, .ref aSN])), (aSN, .inl (cyI, 20, .inl w)), (aR, .inr (1, [.ref aRF, .ref aRT, .ref aRN, .ref aRL, .ref aRU, .int (nI cnt)])), (aRL, .inl (cyI, 20, .inl lo)), (aRU, .inl (cyI, 20, .inl up))] H := by exact hP.sub [0, 1, 2, 3, 4] rfl
            have hD9 : va_D A [(aS, .inr (4, [.ref aH, .ref aR, .ref aSN])), (aSN, .inl (cyI, 20, .inl w)), (aR, .inr (1, [.ref aRF, .ref aRT, .ref aRN, .ref aRL, .ref aRU, .int (nI cnt)])), (aRL, .inl (cyI, 20, .inl lo)), (aRU, .inl (cyI, 20, .inl up))] := by exact hD.sub [0, 1, 2, 3, 4] (by decide) rfl
            subst hAe
            subst hQe
            exact W.zret (v := 0) hx hb hr rfl (fun t ht hW => ⟨⟨_, (), rfl, r8, by rw [ht]; exact hP9, va_K.moved hW.alike hK, hD9⟩, hS.F ht⟩) hS.2.2 dX4_fit_45
  have q9 : (nI 0) = 0 := by first | rfl | simp [*] | (simp only [*]; done)
  exact k2 (cnt - 0 + 1) 0 (Nat.lt_succ_self _) (by first | assumption | omega) (by rfl) _ _ _ (hP) (hD) hS (by first | (rw [q9]; exact lv_sub hl [1, 0] rfl) | (simp only [q9]; exact lv_sub hl [1, 0] rfl) | exact lv_sub hl [1, 0] rfl)
set_option maxHeartbeats 4000000 in
set_option maxRecDepth 100000 in
theorem c_X4_apply (l : Launch) (dC : Nat → ClassId) (dI : Nat → Nat → Nat) (cyI cyZ cyJ cyD : ClassId) (aS aH aR aSN aRF aRT aRN aRL aRU : Nat) (zH : Nat) (w : Nat → Int32) (lo : Nat → Int32) (up : Nat → Int32) (cnt : Nat) (hc : cnt ≤ 20) : Met l yX4_apply wsX4_apply ({ frames := 2, cells := 0, slots := 0, locals := 45 } : Room) (va_Pc [.ref aS] (fun U => U.heap.size = zH ∧ va_P (dC, dI) vwCl [(aS, .inr (4, [.ref aH, .ref aR, .ref aSN])), (aSN, .inl (cyI, 20, .inl w)), (aR, .inr (1, [.ref aRF, .ref aRT, .ref aRN, .ref aRL, .ref aRU, .int (nI cnt)])), (aRL, .inl (cyI, 20, .inl lo)), (aRU, .inl (cyI, 20, .inl up))] U.heap ∧ va_K (dC, dI) vwCl [(cyI, .int), (cyZ, .boolean), (cyJ, .long), (cyD, .double)] U ∧ va_D (fun _ => True) [(aS, .inr (4, [.ref aH, .ref aR, .ref aSN])), (aSN, .inl (cyI, 20, .inl w)), (aR, .inr (1, [.ref aRF, .ref aRT, .ref aRN, .ref aRL, .ref aRU, .int (nI cnt)])), (aRL, .inl (cyI, 20, .inl lo)), (aRU, .inl (cyI, 20, .inl up))])) (va_Qi (fun (r : Int32) (_ : Unit) => r = nI (apC w lo up cnt)) (fun _ t => va_P (dC, dI) vwCl [(aS, .inr (4, [.ref aH, .ref aR, .ref aSN])), (aSN, .inl (cyI, 20, .inl w)), (aR, .inr (1, [.ref aRF, .ref aRT, .ref aRN, .ref aRL, .ref aRU, .int (nI cnt)])), (aRL, .inl (cyI, 20, .inl ((apS w lo up cnt).1))), (aRU, .inl (cyI, 20, .inl ((apS w lo up cnt).2)))] t.heap ∧ va_K (dC, dI) vwCl [(cyI, .int), (cyZ, .boolean), (cyJ, .long), (cyD, .double)] t ∧ va_D (va_A [(aS, .inr (4, [.ref aH, .ref aR, .ref aSN])), (aSN, .inl (cyI, 20, .inl w)), (aR, .inr (1, [.ref aRF, .ref aRT, .ref aRN, .ref aRL, .ref aRU, .int (nI cnt)])), (aRL, .inl (cyI, 20, .inl lo)), (aRU, .inl (cyI, 20, .inl up))] zH) [(aS, .inr (4, [.ref aH, .ref aR, .ref aSN])), (aSN, .inl (cyI, 20, .inl w)), (aR, .inr (1, [.ref aRF, .ref aRT, .ref aRN, .ref aRL, .ref aRU, .int (nI cnt)])), (aRL, .inl (cyI, 20, .inl ((apS w lo up cnt).1))), (aRU, .inl (cyI, 20, .inl ((apS w lo up cnt).2)))]) (va_A [(aS, .inr (4, [.ref aH, .ref aR, .ref aSN])), (aSN, .inl (cyI, 20, .inl w)), (aR, .inr (1, [.ref aRF, .ref aRT, .ref aRN, .ref aRL, .ref aRU, .int (nI cnt)])), (aRL, .inl (cyI, 20, .inl lo)), (aRU, .inl (cyI, 20, .inl up))] zH)) 0 0 (va_A [(aS, .inr (4, [.ref aH, .ref aR, .ref aSN])), (aSN, .inl (cyI, 20, .inl w)), (aR, .inr (1, [.ref aRF, .ref aRT, .ref aRN, .ref aRL, .ref aRU, .int (nI cnt)])), (aRL, .inl (cyI, 20, .inl lo)), (aRU, .inl (cyI, 20, .inl up))] zH) := by
  refine Met.ofW (cc := cX4_apply) (maxL := 4) (ret := (some .int)) (by decide) rfl ?_
  intro pM eM s mM args blM mtM cM s₁ BM hml hv
  obtain ⟨rfl, hsz, hP, hK, hD0⟩ := hv
  have hx := BM.exec
  have hb := BM.bytes
  have hr := BM.returns
  have hts := atoms_spec (ws := wsX4_apply) BM.pre
  have hown : s.vm.findClass RX4 = some mM.cls := findClass_of_methodNamed BM.named
  have hlocks := BM.notSynchronized
  have w0 := hts (.fieldLink RX4 25 "DimensionChecker$Shares" "rows" "LDimensionChecker$Dimensions;") (by decide +kernel)
  have w1 := hts (.fieldLink RX4 53 "DimensionChecker$Dimensions" "count" "I") (by decide +kernel)
  have w2 := hts (.fieldLink RX4 56 "DimensionChecker$Dimensions" "lower" "[I") (by decide +kernel)
  have w3 := hts (.fieldLink RX4 59 "DimensionChecker$Dimensions" "upper" "[I") (by decide +kernel)
  have w4 := hts (.fieldLink RX4 9 "DimensionChecker$Shares" "newWidth" "[I") (by decide +kernel)
  have iX4 : ∀ w ∈ wsX40, w ∈ wsX4_apply := by decide +kernel
  have iX1 : ∀ w ∈ wsX10, w ∈ wsX4_apply := by decide +kernel
  subst hsz
  have hD := hD0.self (sz := s.heap.size)
  obtain ⟨Q, hQe⟩ : ∃ Q : State → Prop, Q = MQ blM (va_Qi (fun (r : Int32) (_ : Unit) => r = nI (apC w lo up cnt)) (fun _ t => va_P (dC, dI) vwCl [(aS, .inr (4, [.ref aH, .ref aR, .ref aSN])), (aSN, .inl (cyI, 20, .inl w)), (aR, .inr (1, [.ref aRF, .ref aRT, .ref aRN, .ref aRL, .ref aRU, .int (nI cnt)])), (aRL, .inl (cyI, 20, .inl ((apS w lo up cnt).1))), (aRU, .inl (cyI, 20, .inl ((apS w lo up cnt).2)))] t.heap ∧ va_K (dC, dI) vwCl [(cyI, .int), (cyZ, .boolean), (cyJ, .long), (cyD, .double)] t ∧ va_D (va_A [(aS, .inr (4, [.ref aH, .ref aR, .ref aSN])), (aSN, .inl (cyI, 20, .inl w)), (aR, .inr (1, [.ref aRF, .ref aRT, .ref aRN, .ref aRL, .ref aRU, .int (nI cnt)])), (aRL, .inl (cyI, 20, .inl lo)), (aRU, .inl (cyI, 20, .inl up))] s.heap.size) [(aS, .inr (4, [.ref aH, .ref aR, .ref aSN])), (aSN, .inl (cyI, 20, .inl w)), (aR, .inr (1, [.ref aRF, .ref aRT, .ref aRN, .ref aRL, .ref aRU, .int (nI cnt)])), (aRL, .inl (cyI, 20, .inl ((apS w lo up cnt).1))), (aRU, .inl (cyI, 20, .inl ((apS w lo up cnt).2)))]) (va_A [(aS, .inr (4, [.ref aH, .ref aR, .ref aSN])), (aSN, .inl (cyI, 20, .inl w)), (aR, .inr (1, [.ref aRF, .ref aRT, .ref aRN, .ref aRL, .ref aRU, .int (nI cnt)])), (aRL, .inl (cyI, 20, .inl lo)), (aRU, .inl (cyI, 20, .inl up))] s.heap.size)) ([.ref aS] : List Value).toArray s 0 0 (va_A [(aS, .inr (4, [.ref aH, .ref aR, .ref aSN])), (aSN, .inl (cyI, 20, .inl w)), (aR, .inr (1, [.ref aRF, .ref aRT, .ref aRN, .ref aRL, .ref aRU, .int (nI cnt)])), (aRL, .inl (cyI, 20, .inl lo)), (aRU, .inl (cyI, 20, .inl up))] s.heap.size) := ⟨_, rfl⟩
  rw [← hQe]
  generalize hAe : va_A [(aS, .inr (4, [.ref aH, .ref aR, .ref aSN])), (aSN, .inl (cyI, 20, .inl w)), (aR, .inr (1, [.ref aRF, .ref aRT, .ref aRN, .ref aRL, .ref aRU, .int (nI cnt)])), (aRL, .inl (cyI, 20, .inl lo)), (aRU, .inl (cyI, 20, .inl up))] s.heap.size = A at hD hQe
  have hA : ∀ q : Nat, s.heap.size ≤ q → A q := fun q h => by rw [← hAe]; exact Or.inr h
  obtain ⟨H, hHe⟩ : ∃ H : Heap, H = s.heap := ⟨_, rfl⟩
  have hS : va_S A s.heap H [] := by rw [hHe]; exact va_S.rf
  rw [← hHe] at hP ⊢
  have hl := lv_entry ([.ref aS]) (n := 4) (Nat.le_of_ble_eq_true rfl)
  rw [lg_entry_eq]
  generalize (lg_sl ([.ref aS]) ++ List.replicate (4 - (lg_sl ([.ref aS])).length) Slot.unset).toArray = ls at hl ⊢
  have hl : lv_has ls 4 [(0, .ref aS)] := hl
  refine lv_iconst (v := 0) hx hb dX4_apply_0 (by decide) ?_
  refine lv_istore_n (lv' := [(1, .int 0), (0, .ref aS)]) hx hb dX4_apply_1 rfl hl (by decide) rfl (fun ls hl => ?_)
  refine lv_iconst (v := 0) hx hb dX4_apply_2 (by decide) ?_
  refine lv_istore_n (lv' := [(2, .int 0), (1, .int 0), (0, .ref aS)]) hx hb dX4_apply_3 rfl hl (by decide) rfl (fun ls hl => ?_)
  have k4 : ∀ (fuel : Nat) (i : Nat) (hfuel : cnt - i < fuel) (hi : i ≤ cnt) (H : Heap) (locs : List Loc) (ls : Array Slot), va_P (dC, dI) vwCl [(aS, .inr (4, [.ref aH, .ref aR, .ref aSN])), (aSN, .inl (cyI, 20, .inl w)), (aR, .inr (1, [.ref aRF, .ref aRT, .ref aRN, .ref aRL, .ref aRU, .int (nI cnt)])), (aRL, .inl (cyI, 20, .inl ((apS w lo up i).1))), (aRU, .inl (cyI, 20, .inl ((apS w lo up i).2)))] H → va_D A [(aS, .inr (4, [.ref aH, .ref aR, .ref aSN])), (aSN, .inl (cyI, 20, .inl w)), (aR, .inr (1, [.ref aRF, .ref aRT, .ref aRN, .ref aRL, .ref aRU, .int (nI cnt)])), (aRL, .inl (cyI, 20, .inl ((apS w lo up i).1))), (aRU, .inl (cyI, 20, .inl ((apS w lo up i).2)))] → va_S A s.heap H locs → lv_has ls 4 [(0, .ref aS), (1, .int (nI (apC w lo up i))), (2, .int (nI i))] → W pM l eM (headSpec wsX4_apply ({ frames := 2, cells := 0, slots := 0, locals := 45 } : Room)).room s mM ([.ref aS] : List Value).toArray blM mtM cM H locs 0 0 Q (F0 mM 4 ls []) := by
    intro fuel
    induction fuel with
    | zero => intro i hfuel; exact absurd hfuel (Nat.not_lt_zero _)
    | succ fuel ih4 =>
      intro i hfuel hi H locs ls hP hD hS hl
      refine lv_iload_n hx hb dX4_apply_4 rfl (lv_at hl 2 rfl) ?_
      refine lv_aload_n hx hb dX4_apply_5 rfl (lv_at hl 0 rfl) ?_
      refine va_get (D := (dC, dI)) (ci := 4) (v := .ref aR) (C := RX4) (T := TX4) (N := 3) hx hb hts iX4 hown hK hP 0 rfl rfl 1 (by decide) w0 (fun _ h9 => h9) rfl dX4_apply_6 ?_
      refine va_get (D := (dC, dI)) (ci := 1) (v := .int (nI cnt)) (C := RX1) (T := TX1) (N := 6) hx hb hts iX1 hown hK hP 2 rfl rfl 5 (by decide) w1 (fun _ h9 => h9) rfl dX4_apply_9 ?_
      refine lv_icmp_ge (tgt := 65) hx hb dX4_apply_12 (by decide) (fun c12 => ?_) (fun c12 => ?_)
      · have c12 := n_le (a := cnt) (b := i) (by omega) (by omega) c12
        have e9 : i = cnt := (by omega)
        refine lv_iload_n hx hb dX4_apply_65 rfl (lv_at hl 1 rfl) ?_
        have r1 : (nI (apC w lo up i)) = (nI (apC w lo up cnt)) := by rw [e9]
        have q2 : ((apS w lo up cnt).1) = ((apS w lo up i).1) := by rw [e9]
        have q3 : ((apS w lo up cnt).2) = ((apS w lo up i).2) := by rw [e9]
        have hP9 : va_P (dC, dI) vwCl [(aS, .inr (4, [.ref aH, .ref aR, .ref aSN])), (aSN, .inl (cyI, 20, .inl w)), (aR, .inr (1, [.ref aRF, .ref aRT, .ref aRN, .ref aRL, .ref aRU, .int (nI cnt)])), (aRL, .inl (cyI, 20, .inl ((apS w lo up cnt).1))), (aRU, .inl (cyI, 20, .inl ((apS w lo up cnt).2)))] H := by first | (rw [q2, q3]; exact hP.sub [0, 1, 2, 3, 4] rfl) | (simp only [q2, q3]; exact hP.sub [0, 1, 2, 3, 4] rfl) | exact hP.sub [0, 1, 2, 3, 4] rfl
        have hD9 : va_D A [(aS, .inr (4, [.ref aH, .ref aR, .ref aSN])), (aSN, .inl (cyI, 20, .inl w)), (aR, .inr (1, [.ref aRF, .ref aRT, .ref aRN, .ref aRL, .ref aRU, .int (nI cnt)])), (aRL, .inl (cyI, 20, .inl ((apS w lo up cnt).1))), (aRU, .inl (cyI, 20, .inl ((apS w lo up cnt).2)))] := by first | (rw [q2, q3]; exact hD.sub [0, 1, 2, 3, 4] (by decide) rfl) | (simp only [q2, q3]; exact hD.sub [0, 1, 2, 3, 4] (by decide) rfl) | exact hD.sub [0, 1, 2, 3, 4] (by decide) rfl
        subst hAe
        subst hQe
        exact W.iret (v := nI (apC w lo up i)) hx hb hr (fun t ht hW => ⟨⟨_, (), rfl, r1, by rw [ht]; exact hP9, va_K.moved hW.alike hK, hD9⟩, hS.F ht⟩) hS.2.2 dX4_apply_66
      · have c12 := n_nle (a := cnt) (b := i) (by omega) (by omega) c12
        have hap := apC_le w lo up i
        refine lv_aload_n hx hb dX4_apply_15 rfl (lv_at hl 0 rfl) ?_
        refine lv_iload_n hx hb dX4_apply_16 rfl (lv_at hl 2 rfl) ?_
        have g4 : i < 20 := by first | assumption | omega | exact vp_in_nI (by omega) (by omega)
        have hPc := hP.sub (ws' := [(aS, .inr (4, [.ref aH, .ref aR, .ref aSN])), (aSN, .inl (cyI, 20, .inl w)), (aR, .inr (1, [.ref aRF, .ref aRT, .ref aRN, .ref aRL, .ref aRU, .int (nI cnt)])), (aRL, .inl (cyI, 20, .inl ((apS w lo up i).1))), (aRU, .inl (cyI, 20, .inl ((apS w lo up i).2)))]) [0, 1, 2, 3, 4] rfl
        have hDc := hD.sub (ws' := [(aS, .inr (4, [.ref aH, .ref aR, .ref aSN])), (aSN, .inl (cyI, 20, .inl w)), (aR, .inr (1, [.ref aRF, .ref aRT, .ref aRN, .ref aRL, .ref aRU, .int (nI cnt)])), (aRL, .inl (cyI, 20, .inl ((apS w lo up i).1))), (aRU, .inl (cyI, 20, .inl ((apS w lo up i).2)))]) [0, 1, 2, 3, 4] (by decide) rfl
        have hFc := va_free (wc := [(aS, .inr (4, [.ref aH, .ref aR, .ref aSN])), (aSN, .inl (cyI, 20, .inl w)), (aR, .inr (1, [.ref aRF, .ref aRT, .ref aRN, .ref aRL, .ref aRU, .int (nI cnt)])), (aRL, .inl (cyI, 20, .inl ((apS w lo up i).1))), (aRU, .inl (cyI, 20, .inl ((apS w lo up i).2)))]) hD hS hA [0, 1, 2, 3, 4] rfl
        refine va_calli (va_runV (As := [.int (nI i)]) (rest := []) ⟨hx, hb, hml, hown, hts⟩ (c_X4_changes l dC dI cyI cyZ cyJ cyD aS aH aR aSN aRF aRT aRN aRL aRU H.size w ((apS w lo up i).1) ((apS w lo up i).2) cnt i g4) (cwV 1 hts gX4_apply_X4_changes rfl rfl rfl (by decide +kernel) ⟨Nat.le_of_ble_eq_true rfl, Nat.le_of_ble_eq_true rfl⟩) ⟨fun a U g mk q => by obtain ⟨q0, q1, qP, qK, qD⟩ := q; exact ⟨q0, q1, qP, va_K.moved (u := U) (U := U.calling g mk a) (Vm.Alike.refl U.vm) qK, qD⟩, va_recv hK hPc (ci := 4) (q0 := 0) rfl rfl, fun U hU hW => ⟨rfl, by rw [hU], by rw [hU]; exact hPc, va_K.moved hW.alike hK, hDc.weaken (fun _ _ _ _ => trivial)⟩⟩ rfl rfl hl.1 rfl (lv_room (Nat.le_of_ble_eq_true rfl)) dX4_apply_17 ⟨Nat.le_of_ble_eq_true rfl, Nat.le_of_ble_eq_true rfl⟩) hS (fun q _ h => hFc q h) hFc (fun r u t H1 locs ht hvm hw hB hz1 hk1 hS => ?_)
        obtain rfl := hw
        obtain ⟨hP1, hK1, hD1⟩ := hB
        rw [ht] at hP1
        obtain ⟨hP, hD⟩ := va_join (wr := []) (w1 := [(aS, .inr (4, [.ref aH, .ref aR, .ref aSN])), (aSN, .inl (cyI, 20, .inl w)), (aR, .inr (1, [.ref aRF, .ref aRT, .ref aRN, .ref aRL, .ref aRU, .int (nI cnt)])), (aRL, .inl (cyI, 20, .inl ((apS w lo up i).1))), (aRU, .inl (cyI, 20, .inl ((apS w lo up i).2)))]) hP hD [0, 1, 2, 3, 4] [] rfl rfl (by decide) (by decide) hk1 hFc hP1 hD1
        clear hP1 hD1 hK1 hPc hDc hFc hk1 hz1 hvm ht u t
        generalize H1 = H at hP hS ⊢
        have hP : va_P (dC, dI) vwCl [(aS, .inr (4, [.ref aH, .ref aR, .ref aSN])), (aSN, .inl (cyI, 20, .inl w)), (aR, .inr (1, [.ref aRF, .ref aRT, .ref aRN, .ref aRL, .ref aRU, .int (nI cnt)])), (aRL, .inl (cyI, 20, .inl ((apS w lo up i).1))), (aRU, .inl (cyI, 20, .inl ((apS w lo up i).2)))] H := hP
        have hD : va_D A [(aS, .inr (4, [.ref aH, .ref aR, .ref aSN])), (aSN, .inl (cyI, 20, .inl w)), (aR, .inr (1, [.ref aRF, .ref aRT, .ref aRN, .ref aRL, .ref aRU, .int (nI cnt)])), (aRL, .inl (cyI, 20, .inl ((apS w lo up i).1))), (aRU, .inl (cyI, 20, .inl ((apS w lo up i).2)))] := hD
        refine lv_if_eq (tgt := 59) hx hb dX4_apply_20 (by decide) (fun c20 => ?_) (fun c20 => ?_)
        · have c20 : (chB w ((apS w lo up i).1) ((apS w lo up i).2) i) = false := bI_0 c20
          refine lv_iinc (v := nI (i + 1)) (lv' := [(2, .int (nI (i + 1))), (0, .ref aS), (1, .int (nI (apC w lo up i)))]) hx hb dX4_apply_59 hl (k := 2) rfl (nI_add i 1) (by decide) rfl (fun ls hl => ?_)
          refine lv_goto (tgt := 4) hx hb dX4_apply_62 (by decide) ?_
          have q5 : ((apS w lo up (i + 1)).1) = ((apS w lo up i).1) := by simp [apS, *]
          have q6 : ((apS w lo up (i + 1)).2) = ((apS w lo up i).2) := by simp [apS, *]
          have q7 : (nI (apC w lo up (i + 1))) = (nI (apC w lo up i)) := by simp [apC, *]
          exact ih4 (i + 1) (by omega) (by first | assumption | omega) _ _ _ (by first | (rw [q5, q6]; exact hP) | (simp only [q5, q6]; exact hP) | exact hP) (by first | (rw [q5, q6]; exact hD) | (simp only [q5, q6]; exact hD) | exact hD) hS (by first | (rw [q7]; exact lv_sub hl [1, 2, 0] rfl) | (simp only [q7]; exact lv_sub hl [1, 2, 0] rfl) | exact lv_sub hl [1, 2, 0] rfl)
        · have c20 : (chB w ((apS w lo up i).1) ((apS w lo up i).2) i) = true := bI_n0 c20
          refine lv_aload_n hx hb dX4_apply_23 rfl (lv_at hl 0 rfl) ?_
          refine lv_iload_n hx hb dX4_apply_24 rfl (lv_at hl 2 rfl) ?_
          have g8 : i < 20 := by first | assumption | omega | exact vp_in_nI (by omega) (by omega)
          have hPc := hP.sub (ws' := [(aS, .inr (4, [.ref aH, .ref aR, .ref aSN])), (aSN, .inl (cyI, 20, .inl w)), (aR, .inr (1, [.ref aRF, .ref aRT, .ref aRN, .ref aRL, .ref aRU, .int (nI cnt)])), (aRL, .inl (cyI, 20, .inl ((apS w lo up i).1))), (aRU, .inl (cyI, 20, .inl ((apS w lo up i).2)))]) [0, 1, 2, 3, 4] rfl
          have hDc := hD.sub (ws' := [(aS, .inr (4, [.ref aH, .ref aR, .ref aSN])), (aSN, .inl (cyI, 20, .inl w)), (aR, .inr (1, [.ref aRF, .ref aRT, .ref aRN, .ref aRL, .ref aRU, .int (nI cnt)])), (aRL, .inl (cyI, 20, .inl ((apS w lo up i).1))), (aRU, .inl (cyI, 20, .inl ((apS w lo up i).2)))]) [0, 1, 2, 3, 4] (by decide) rfl
          have hFc := va_free (wc := [(aS, .inr (4, [.ref aH, .ref aR, .ref aSN])), (aSN, .inl (cyI, 20, .inl w)), (aR, .inr (1, [.ref aRF, .ref aRT, .ref aRN, .ref aRL, .ref aRU, .int (nI cnt)])), (aRL, .inl (cyI, 20, .inl ((apS w lo up i).1))), (aRU, .inl (cyI, 20, .inl ((apS w lo up i).2)))]) hD hS hA [0, 1, 2, 3, 4] rfl
          refine va_calli (va_runV (As := [.int (nI i)]) (rest := []) ⟨hx, hb, hml, hown, hts⟩ (c_X4_newLower l dC dI cyI cyZ cyJ cyD aS aH aR aSN aRF aRT aRN aRL aRU H.size w ((apS w lo up i).1) ((apS w lo up i).2) cnt i g8) (cwV 1 hts gX4_apply_X4_newLower rfl rfl rfl (by decide +kernel) ⟨Nat.le_of_ble_eq_true rfl, Nat.le_of_ble_eq_true rfl⟩) ⟨fun a U g mk q => by obtain ⟨q0, q1, qP, qK, qD⟩ := q; exact ⟨q0, q1, qP, va_K.moved (u := U) (U := U.calling g mk a) (Vm.Alike.refl U.vm) qK, qD⟩, va_recv hK hPc (ci := 4) (q0 := 0) rfl rfl, fun U hU hW => ⟨rfl, by rw [hU], by rw [hU]; exact hPc, va_K.moved hW.alike hK, hDc.weaken (fun _ _ _ _ => trivial)⟩⟩ rfl rfl hl.1 rfl (lv_room (Nat.le_of_ble_eq_true rfl)) dX4_apply_25 ⟨Nat.le_of_ble_eq_true rfl, Nat.le_of_ble_eq_true rfl⟩) hS (fun q _ h => hFc q h) hFc (fun r u t H1 locs ht hvm hw hB hz1 hk1 hS => ?_)
          obtain rfl := hw
          obtain ⟨hP1, hK1, hD1⟩ := hB
          rw [ht] at hP1
          obtain ⟨hP, hD⟩ := va_join (wr := []) (w1 := [(aS, .inr (4, [.ref aH, .ref aR, .ref aSN])), (aSN, .inl (cyI, 20, .inl w)), (aR, .inr (1, [.ref aRF, .ref aRT, .ref aRN, .ref aRL, .ref aRU, .int (nI cnt)])), (aRL, .inl (cyI, 20, .inl ((apS w lo up i).1))), (aRU, .inl (cyI, 20, .inl ((apS w lo up i).2)))]) hP hD [0, 1, 2, 3, 4] [] rfl rfl (by decide) (by decide) hk1 hFc hP1 hD1
          clear hP1 hD1 hK1 hPc hDc hFc hk1 hz1 hvm ht u t
          generalize H1 = H at hP hS ⊢
          have hP : va_P (dC, dI) vwCl [(aS, .inr (4, [.ref aH, .ref aR, .ref aSN])), (aSN, .inl (cyI, 20, .inl w)), (aR, .inr (1, [.ref aRF, .ref aRT, .ref aRN, .ref aRL, .ref aRU, .int (nI cnt)])), (aRL, .inl (cyI, 20, .inl ((apS w lo up i).1))), (aRU, .inl (cyI, 20, .inl ((apS w lo up i).2)))] H := hP
          have hD : va_D A [(aS, .inr (4, [.ref aH, .ref aR, .ref aSN])), (aSN, .inl (cyI, 20, .inl w)), (aR, .inr (1, [.ref aRF, .ref aRT, .ref aRN, .ref aRL, .ref aRU, .int (nI cnt)])), (aRL, .inl (cyI, 20, .inl ((apS w lo up i).1))), (aRU, .inl (cyI, 20, .inl ((apS w lo up i).2)))] := hD
          refine lv_istore_n (lv' := [(3, .int (flD (((apS w lo up i).1) i + ((apS w lo up i).2) i - w i) 2)), (0, .ref aS), (1, .int (nI (apC w lo up i))), (2, .int (nI i))]) hx hb dX4_apply_28 rfl hl (by decide) rfl (fun ls hl => ?_)
          refine lv_aload_n hx hb dX4_apply_29 rfl (lv_at hl 1 rfl) ?_
          refine va_get (D := (dC, dI)) (ci := 4) (v := .ref aR) (C := RX4) (T := TX4) (N := 3) hx hb hts iX4 hown hK hP 0 rfl rfl 1 (by decide) w0 (fun _ h9 => h9) rfl dX4_apply_30 ?_
          refine va_get (D := (dC, dI)) (ci := 1) (v := .ref aRL) (C := RX1) (T := TX1) (N := 6) hx hb hts iX1 hown hK hP 2 rfl rfl 3 (by decide) w2 (fun _ h9 => h9) rfl dX4_apply_33 ?_
          refine lv_iload_n hx hb dX4_apply_36 rfl (lv_at hl 3 rfl) ?_
          refine lv_iload_n hx hb dX4_apply_37 rfl (lv_at hl 0 rfl) ?_
          have h9 : vp_in (nI i) 20 := by first | exact vp_in_nI (by omega) (by omega) | assumption
          refine va_iast hx hb hK hP hD hS 3 0 rfl rfl h9 dX4_apply_38 (fun H locs hP hD hS => ?_)
          rw [nI_clamp (by omega)] at hP hD
          have hP : va_P (dC, dI) vwCl [(aS, .inr (4, [.ref aH, .ref aR, .ref aSN])), (aSN, .inl (cyI, 20, .inl w)), (aR, .inr (1, [.ref aRF, .ref aRT, .ref aRN, .ref aRL, .ref aRU, .int (nI cnt)])), (aRL, .inl (cyI, 20, .inl (upd ((apS w lo up i).1) i (flD (((apS w lo up i).1) i + ((apS w lo up i).2) i - w i) 2)))), (aRU, .inl (cyI, 20, .inl ((apS w lo up i).2)))] H := hP
          have hD : va_D A [(aS, .inr (4, [.ref aH, .ref aR, .ref aSN])), (aSN, .inl (cyI, 20, .inl w)), (aR, .inr (1, [.ref aRF, .ref aRT, .ref aRN, .ref aRL, .ref aRU, .int (nI cnt)])), (aRL, .inl (cyI, 20, .inl (upd ((apS w lo up i).1) i (flD (((apS w lo up i).1) i + ((apS w lo up i).2) i - w i) 2)))), (aRU, .inl (cyI, 20, .inl ((apS w lo up i).2)))] := hD
          refine lv_aload_n hx hb dX4_apply_39 rfl (lv_at hl 1 rfl) ?_
          refine va_get (D := (dC, dI)) (ci := 4) (v := .ref aR) (C := RX4) (T := TX4) (N := 3) hx hb hts iX4 hown hK hP 0 rfl rfl 1 (by decide) w0 (fun _ h9 => h9) rfl dX4_apply_40 ?_
          refine va_get (D := (dC, dI)) (ci := 1) (v := .ref aRU) (C := RX1) (T := TX1) (N := 6) hx hb hts iX1 hown hK hP 2 rfl rfl 4 (by decide) w3 (fun _ h9 => h9) rfl dX4_apply_43 ?_
          refine lv_iload_n hx hb dX4_apply_46 rfl (lv_at hl 3 rfl) ?_
          refine lv_iload_n hx hb dX4_apply_47 rfl (lv_at hl 0 rfl) ?_
          refine lv_aload_n hx hb dX4_apply_48 rfl (lv_at hl 1 rfl) ?_
          refine va_get (D := (dC, dI)) (ci := 4) (v := .ref aSN) (C := RX4) (T := TX4) (N := 3) hx hb hts iX4 hown hK hP 0 rfl rfl 2 (by decide) w4 (fun _ h9 => h9) rfl dX4_apply_49 ?_
          refine lv_iload_n hx hb dX4_apply_52 rfl (lv_at hl 3 rfl) ?_
          have h10 : vp_in (nI i) 20 := by first | exact vp_in_nI (by omega) (by omega) | assumption
          refine va_iald hx hb hK hP 1 0 rfl rfl h10 dX4_apply_53 ?_
          refine lv_topi (fun x11 e12 => ?_)
          obtain rfl : x11 = (w i) := by rw [e12, nI_clamp (by omega)]
          clear e12
          refine lv_iadd hx hb dX4_apply_54 ?_
          have h13 : vp_in (nI i) 20 := by first | exact vp_in_nI (by omega) (by omega) | assumption
          refine va_iast hx hb hK hP hD hS 4 0 rfl rfl h13 dX4_apply_55 (fun H locs hP hD hS => ?_)
          rw [nI_clamp (by omega)] at hP hD
          have hP : va_P (dC, dI) vwCl [(aS, .inr (4, [.ref aH, .ref aR, .ref aSN])), (aSN, .inl (cyI, 20, .inl w)), (aR, .inr (1, [.ref aRF, .ref aRT, .ref aRN, .ref aRL, .ref aRU, .int (nI cnt)])), (aRL, .inl (cyI, 20, .inl (upd ((apS w lo up i).1) i (flD (((apS w lo up i).1) i + ((apS w lo up i).2) i - w i) 2)))), (aRU, .inl (cyI, 20, .inl (upd ((apS w lo up i).2) i ((flD (((apS w lo up i).1) i + ((apS w lo up i).2) i - w i) 2) + (w i)))))] H := hP
          have hD : va_D A [(aS, .inr (4, [.ref aH, .ref aR, .ref aSN])), (aSN, .inl (cyI, 20, .inl w)), (aR, .inr (1, [.ref aRF, .ref aRT, .ref aRN, .ref aRL, .ref aRU, .int (nI cnt)])), (aRL, .inl (cyI, 20, .inl (upd ((apS w lo up i).1) i (flD (((apS w lo up i).1) i + ((apS w lo up i).2) i - w i) 2)))), (aRU, .inl (cyI, 20, .inl (upd ((apS w lo up i).2) i ((flD (((apS w lo up i).1) i + ((apS w lo up i).2) i - w i) 2) + (w i)))))] := hD
          refine lv_iinc (v := nI (apC w lo up i + 1)) (lv' := [(1, .int (nI (apC w lo up i + 1))), (3, .int (flD (((apS w lo up i).1) i + ((apS w lo up i).2) i - w i) 2)), (0, .ref aS), (2, .int (nI i))]) hx hb dX4_apply_56 hl (k := 2) rfl (nI_add (apC w lo up i) 1) (by decide) rfl (fun ls hl => ?_)
          refine lv_iinc (v := nI (i + 1)) (lv' := [(2, .int (nI (i + 1))), (1, .int (nI (apC w lo up i + 1))), (3, .int (flD (((apS w lo up i).1) i + ((apS w lo up i).2) i - w i) 2)), (0, .ref aS)]) hx hb dX4_apply_59 hl (k := 3) rfl (nI_add i 1) (by decide) rfl (fun ls hl => ?_)
          refine lv_goto (tgt := 4) hx hb dX4_apply_62 (by decide) ?_
          have q14 : ((apS w lo up (i + 1)).1) = (upd ((apS w lo up i).1) i (flD (((apS w lo up i).1) i + ((apS w lo up i).2) i - w i) 2)) := by simp [apS, *]
          have q15 : ((apS w lo up (i + 1)).2) = (upd ((apS w lo up i).2) i ((flD (((apS w lo up i).1) i + ((apS w lo up i).2) i - w i) 2) + (w i))) := by simp [apS, *]
          have q16 : (nI (apC w lo up (i + 1))) = (nI (apC w lo up i + 1)) := by simp [apC, *]
          exact ih4 (i + 1) (by omega) (by first | assumption | omega) _ _ _ (by first | (rw [q14, q15]; exact hP) | (simp only [q14, q15]; exact hP) | exact hP) (by first | (rw [q14, q15]; exact hD) | (simp only [q14, q15]; exact hD) | exact hD) hS (by first | (rw [q16]; exact lv_sub hl [3, 1, 0] rfl) | (simp only [q16]; exact lv_sub hl [3, 1, 0] rfl) | exact lv_sub hl [3, 1, 0] rfl)
  have q17 : ((apS w lo up 0).1) = lo := by rfl
  have q18 : ((apS w lo up 0).2) = up := by rfl
  have q19 : (nI (apC w lo up 0)) = 0 := by rfl
  have q20 : (nI 0) = 0 := by first | rfl | simp [*] | (simp only [*]; done)
  exact k4 (cnt - 0 + 1) 0 (Nat.lt_succ_self _) (by first | assumption | omega) _ _ _ (by first | (rw [q17, q18]; exact hP) | (simp only [q17, q18]; exact hP) | exact hP) (by first | (rw [q17, q18]; exact hD) | (simp only [q17, q18]; exact hD) | exact hD) hS (by first | (rw [q19, q20]; exact lv_sub hl [2, 1, 0] rfl) | (simp only [q19, q20]; exact lv_sub hl [2, 1, 0] rfl) | exact lv_sub hl [2, 1, 0] rfl)
set_option maxHeartbeats 4000000 in
set_option maxRecDepth 100000 in
theorem c_X1_copyAll (l : Launch) (dC : Nat → ClassId) (dI : Nat → Nat → Nat) (cyI cyZ cyJ cyD : ClassId) (aR aRF aRT aRN aRL aRU aQ aQF aQT aQN aQL aQU : Nat) (zH : Nat) (F : Nat → Nat) (T : Nat → Nat) (nm : Nat → Int32) (lo : Nat → Int32) (up : Nat → Int32) (cnt : Nat) (F2 : Nat → Nat) (T2 : Nat → Nat) (nm2 : Nat → Int32) (lo2 : Nat → Int32) (up2 : Nat → Int32) (cnt2 : Nat) (hc2 : cnt2 ≤ 20) : Met l yX1_copyAll wsX1_copyAll ({ frames := 2, cells := 0, slots := 0, locals := 49 } : Room) (va_Pc [.ref aR, .ref aQ] (fun U => U.heap.size = zH ∧ va_P (dC, dI) vwCl [(aR, .inr (1, [.ref aRF, .ref aRT, .ref aRN, .ref aRL, .ref aRU, .int (nI cnt)])), (aRF, .inl (cyI, 20, .inl (fun j_ => nI (F j_)))), (aRT, .inl (cyI, 20, .inl (fun j_ => nI (T j_)))), (aRN, .inl (cyI, 20, .inl nm)), (aRL, .inl (cyI, 20, .inl lo)), (aRU, .inl (cyI, 20, .inl up)), (aQ, .inr (1, [.ref aQF, .ref aQT, .ref aQN, .ref aQL, .ref aQU, .int (nI cnt2)])), (aQF, .inl (cyI, 20, .inl (fun j_ => nI (F2 j_)))), (aQT, .inl (cyI, 20, .inl (fun j_ => nI (T2 j_)))), (aQN, .inl (cyI, 20, .inl nm2)), (aQL, .inl (cyI, 20, .inl lo2)), (aQU, .inl (cyI, 20, .inl up2))] U.heap ∧ va_K (dC, dI) vwCl [(cyI, .int), (cyZ, .boolean), (cyJ, .long), (cyD, .double)] U ∧ va_D (fun _ => True) [(aR, .inr (1, [.ref aRF, .ref aRT, .ref aRN, .ref aRL, .ref aRU, .int (nI cnt)])), (aRF, .inl (cyI, 20, .inl (fun j_ => nI (F j_)))), (aRT, .inl (cyI, 20, .inl (fun j_ => nI (T j_)))), (aRN, .inl (cyI, 20, .inl nm)), (aRL, .inl (cyI, 20, .inl lo)), (aRU, .inl (cyI, 20, .inl up)), (aQ, .inr (1, [.ref aQF, .ref aQT, .ref aQN, .ref aQL, .ref aQU, .int (nI cnt2)])), (aQF, .inl (cyI, 20, .inl (fun j_ => nI (F2 j_)))), (aQT, .inl (cyI, 20, .inl (fun j_ => nI (T2 j_)))), (aQN, .inl (cyI, 20, .inl nm2)), (aQL, .inl (cyI, 20, .inl lo2)), (aQU, .inl (cyI, 20, .inl up2))])) (va_Qv (fun _ : Unit => True) (fun _ t => va_P (dC, dI) vwCl [(aR, .inr (1, [.ref aRF, .ref aRT, .ref aRN, .ref aRL, .ref aRU, .int (nI cnt2)])), (aRF, .inl (cyI, 20, .inl (fun j_ => nI ((cpN F F2 cnt2) j_)))), (aRT, .inl (cyI, 20, .inl (fun j_ => nI ((cpN T T2 cnt2) j_)))), (aRN, .inl (cyI, 20, .inl (cpI nm nm2 cnt2))), (aRL, .inl (cyI, 20, .inl (cpI lo lo2 cnt2))), (aRU, .inl (cyI, 20, .inl (cpI up up2 cnt2))), (aQ, .inr (1, [.ref aQF, .ref aQT, .ref aQN, .ref aQL, .ref aQU, .int (nI cnt2)])), (aQF, .inl (cyI, 20, .inl (fun j_ => nI (F2 j_)))), (aQT, .inl (cyI, 20, .inl (fun j_ => nI (T2 j_)))), (aQN, .inl (cyI, 20, .inl nm2)), (aQL, .inl (cyI, 20, .inl lo2)), (aQU, .inl (cyI, 20, .inl up2))] t.heap ∧ va_K (dC, dI) vwCl [(cyI, .int), (cyZ, .boolean), (cyJ, .long), (cyD, .double)] t ∧ va_D (va_A [(aR, .inr (1, [.ref aRF, .ref aRT, .ref aRN, .ref aRL, .ref aRU, .int (nI cnt)])), (aRF, .inl (cyI, 20, .inl (fun j_ => nI (F j_)))), (aRT, .inl (cyI, 20, .inl (fun j_ => nI (T j_)))), (aRN, .inl (cyI, 20, .inl nm)), (aRL, .inl (cyI, 20, .inl lo)), (aRU, .inl (cyI, 20, .inl up)), (aQ, .inr (1, [.ref aQF, .ref aQT, .ref aQN, .ref aQL, .ref aQU, .int (nI cnt2)])), (aQF, .inl (cyI, 20, .inl (fun j_ => nI (F2 j_)))), (aQT, .inl (cyI, 20, .inl (fun j_ => nI (T2 j_)))), (aQN, .inl (cyI, 20, .inl nm2)), (aQL, .inl (cyI, 20, .inl lo2)), (aQU, .inl (cyI, 20, .inl up2))] zH) [(aR, .inr (1, [.ref aRF, .ref aRT, .ref aRN, .ref aRL, .ref aRU, .int (nI cnt2)])), (aRF, .inl (cyI, 20, .inl (fun j_ => nI ((cpN F F2 cnt2) j_)))), (aRT, .inl (cyI, 20, .inl (fun j_ => nI ((cpN T T2 cnt2) j_)))), (aRN, .inl (cyI, 20, .inl (cpI nm nm2 cnt2))), (aRL, .inl (cyI, 20, .inl (cpI lo lo2 cnt2))), (aRU, .inl (cyI, 20, .inl (cpI up up2 cnt2))), (aQ, .inr (1, [.ref aQF, .ref aQT, .ref aQN, .ref aQL, .ref aQU, .int (nI cnt2)])), (aQF, .inl (cyI, 20, .inl (fun j_ => nI (F2 j_)))), (aQT, .inl (cyI, 20, .inl (fun j_ => nI (T2 j_)))), (aQN, .inl (cyI, 20, .inl nm2)), (aQL, .inl (cyI, 20, .inl lo2)), (aQU, .inl (cyI, 20, .inl up2))]) (va_A [(aR, .inr (1, [.ref aRF, .ref aRT, .ref aRN, .ref aRL, .ref aRU, .int (nI cnt)])), (aRF, .inl (cyI, 20, .inl (fun j_ => nI (F j_)))), (aRT, .inl (cyI, 20, .inl (fun j_ => nI (T j_)))), (aRN, .inl (cyI, 20, .inl nm)), (aRL, .inl (cyI, 20, .inl lo)), (aRU, .inl (cyI, 20, .inl up)), (aQ, .inr (1, [.ref aQF, .ref aQT, .ref aQN, .ref aQL, .ref aQU, .int (nI cnt2)])), (aQF, .inl (cyI, 20, .inl (fun j_ => nI (F2 j_)))), (aQT, .inl (cyI, 20, .inl (fun j_ => nI (T2 j_)))), (aQN, .inl (cyI, 20, .inl nm2)), (aQL, .inl (cyI, 20, .inl lo2)), (aQU, .inl (cyI, 20, .inl up2))] zH)) 0 0 (va_A [(aR, .inr (1, [.ref aRF, .ref aRT, .ref aRN, .ref aRL, .ref aRU, .int (nI cnt)])), (aRF, .inl (cyI, 20, .inl (fun j_ => nI (F j_)))), (aRT, .inl (cyI, 20, .inl (fun j_ => nI (T j_)))), (aRN, .inl (cyI, 20, .inl nm)), (aRL, .inl (cyI, 20, .inl lo)), (aRU, .inl (cyI, 20, .inl up)), (aQ, .inr (1, [.ref aQF, .ref aQT, .ref aQN, .ref aQL, .ref aQU, .int (nI cnt2)])), (aQF, .inl (cyI, 20, .inl (fun j_ => nI (F2 j_)))), (aQT, .inl (cyI, 20, .inl (fun j_ => nI (T2 j_)))), (aQN, .inl (cyI, 20, .inl nm2)), (aQL, .inl (cyI, 20, .inl lo2)), (aQU, .inl (cyI, 20, .inl up2))] zH) := by
  refine Met.ofW (cc := cX1_copyAll) (maxL := 3) (ret := none) (by decide) rfl ?_
  intro pM eM s mM args blM mtM cM s₁ BM hml hv
  obtain ⟨rfl, hsz, hP, hK, hD0⟩ := hv
  have hx := BM.exec
  have hb := BM.bytes
  have hr := BM.returns
  have hts := atoms_spec (ws := wsX1_copyAll) BM.pre
  have hown : s.vm.findClass RX1 = some mM.cls := findClass_of_methodNamed BM.named
  have hlocks := BM.notSynchronized
  have w0 := hts (.fieldLink RX1 27 "DimensionChecker$Dimensions" "count" "I") (by decide +kernel)
  have iX1 : ∀ w ∈ wsX10, w ∈ wsX1_copyAll := by decide +kernel
  subst hsz
  have hD := hD0.self (sz := s.heap.size)
  obtain ⟨Q, hQe⟩ : ∃ Q : State → Prop, Q = MQ blM (va_Qv (fun _ : Unit => True) (fun _ t => va_P (dC, dI) vwCl [(aR, .inr (1, [.ref aRF, .ref aRT, .ref aRN, .ref aRL, .ref aRU, .int (nI cnt2)])), (aRF, .inl (cyI, 20, .inl (fun j_ => nI ((cpN F F2 cnt2) j_)))), (aRT, .inl (cyI, 20, .inl (fun j_ => nI ((cpN T T2 cnt2) j_)))), (aRN, .inl (cyI, 20, .inl (cpI nm nm2 cnt2))), (aRL, .inl (cyI, 20, .inl (cpI lo lo2 cnt2))), (aRU, .inl (cyI, 20, .inl (cpI up up2 cnt2))), (aQ, .inr (1, [.ref aQF, .ref aQT, .ref aQN, .ref aQL, .ref aQU, .int (nI cnt2)])), (aQF, .inl (cyI, 20, .inl (fun j_ => nI (F2 j_)))), (aQT, .inl (cyI, 20, .inl (fun j_ => nI (T2 j_)))), (aQN, .inl (cyI, 20, .inl nm2)), (aQL, .inl (cyI, 20, .inl lo2)), (aQU, .inl (cyI, 20, .inl up2))] t.heap ∧ va_K (dC, dI) vwCl [(cyI, .int), (cyZ, .boolean), (cyJ, .long), (cyD, .double)] t ∧ va_D (va_A [(aR, .inr (1, [.ref aRF, .ref aRT, .ref aRN, .ref aRL, .ref aRU, .int (nI cnt)])), (aRF, .inl (cyI, 20, .inl (fun j_ => nI (F j_)))), (aRT, .inl (cyI, 20, .inl (fun j_ => nI (T j_)))), (aRN, .inl (cyI, 20, .inl nm)), (aRL, .inl (cyI, 20, .inl lo)), (aRU, .inl (cyI, 20, .inl up)), (aQ, .inr (1, [.ref aQF, .ref aQT, .ref aQN, .ref aQL, .ref aQU, .int (nI cnt2)])), (aQF, .inl (cyI, 20, .inl (fun j_ => nI (F2 j_)))), (aQT, .inl (cyI, 20, .inl (fun j_ => nI (T2 j_)))), (aQN, .inl (cyI, 20, .inl nm2)), (aQL, .inl (cyI, 20, .inl lo2)), (aQU, .inl (cyI, 20, .inl up2))] s.heap.size) [(aR, .inr (1, [.ref aRF, .ref aRT, .ref aRN, .ref aRL, .ref aRU, .int (nI cnt2)])), (aRF, .inl (cyI, 20, .inl (fun j_ => nI ((cpN F F2 cnt2) j_)))), (aRT, .inl (cyI, 20, .inl (fun j_ => nI ((cpN T T2 cnt2) j_)))), (aRN, .inl (cyI, 20, .inl (cpI nm nm2 cnt2))), (aRL, .inl (cyI, 20, .inl (cpI lo lo2 cnt2))), (aRU, .inl (cyI, 20, .inl (cpI up up2 cnt2))), (aQ, .inr (1, [.ref aQF, .ref aQT, .ref aQN, .ref aQL, .ref aQU, .int (nI cnt2)])), (aQF, .inl (cyI, 20, .inl (fun j_ => nI (F2 j_)))), (aQT, .inl (cyI, 20, .inl (fun j_ => nI (T2 j_)))), (aQN, .inl (cyI, 20, .inl nm2)), (aQL, .inl (cyI, 20, .inl lo2)), (aQU, .inl (cyI, 20, .inl up2))]) (va_A [(aR, .inr (1, [.ref aRF, .ref aRT, .ref aRN, .ref aRL, .ref aRU, .int (nI cnt)])), (aRF, .inl (cyI, 20, .inl (fun j_ => nI (F j_)))), (aRT, .inl (cyI, 20, .inl (fun j_ => nI (T j_)))), (aRN, .inl (cyI, 20, .inl nm)), (aRL, .inl (cyI, 20, .inl lo)), (aRU, .inl (cyI, 20, .inl up)), (aQ, .inr (1, [.ref aQF, .ref aQT, .ref aQN, .ref aQL, .ref aQU, .int (nI cnt2)])), (aQF, .inl (cyI, 20, .inl (fun j_ => nI (F2 j_)))), (aQT, .inl (cyI, 20, .inl (fun j_ => nI (T2 j_)))), (aQN, .inl (cyI, 20, .inl nm2)), (aQL, .inl (cyI, 20, .inl lo2)), (aQU, .inl (cyI, 20, .inl up2))] s.heap.size)) ([.ref aR, .ref aQ] : List Value).toArray s 0 0 (va_A [(aR, .inr (1, [.ref aRF, .ref aRT, .ref aRN, .ref aRL, .ref aRU, .int (nI cnt)])), (aRF, .inl (cyI, 20, .inl (fun j_ => nI (F j_)))), (aRT, .inl (cyI, 20, .inl (fun j_ => nI (T j_)))), (aRN, .inl (cyI, 20, .inl nm)), (aRL, .inl (cyI, 20, .inl lo)), (aRU, .inl (cyI, 20, .inl up)), (aQ, .inr (1, [.ref aQF, .ref aQT, .ref aQN, .ref aQL, .ref aQU, .int (nI cnt2)])), (aQF, .inl (cyI, 20, .inl (fun j_ => nI (F2 j_)))), (aQT, .inl (cyI, 20, .inl (fun j_ => nI (T2 j_)))), (aQN, .inl (cyI, 20, .inl nm2)), (aQL, .inl (cyI, 20, .inl lo2)), (aQU, .inl (cyI, 20, .inl up2))] s.heap.size) := ⟨_, rfl⟩
  rw [← hQe]
  generalize hAe : va_A [(aR, .inr (1, [.ref aRF, .ref aRT, .ref aRN, .ref aRL, .ref aRU, .int (nI cnt)])), (aRF, .inl (cyI, 20, .inl (fun j_ => nI (F j_)))), (aRT, .inl (cyI, 20, .inl (fun j_ => nI (T j_)))), (aRN, .inl (cyI, 20, .inl nm)), (aRL, .inl (cyI, 20, .inl lo)), (aRU, .inl (cyI, 20, .inl up)), (aQ, .inr (1, [.ref aQF, .ref aQT, .ref aQN, .ref aQL, .ref aQU, .int (nI cnt2)])), (aQF, .inl (cyI, 20, .inl (fun j_ => nI (F2 j_)))), (aQT, .inl (cyI, 20, .inl (fun j_ => nI (T2 j_)))), (aQN, .inl (cyI, 20, .inl nm2)), (aQL, .inl (cyI, 20, .inl lo2)), (aQU, .inl (cyI, 20, .inl up2))] s.heap.size = A at hD hQe
  have hA : ∀ q : Nat, s.heap.size ≤ q → A q := fun q h => by rw [← hAe]; exact Or.inr h
  obtain ⟨H, hHe⟩ : ∃ H : Heap, H = s.heap := ⟨_, rfl⟩
  have hS : va_S A s.heap H [] := by rw [hHe]; exact va_S.rf
  rw [← hHe] at hP ⊢
  have hl := lv_entry ([.ref aR, .ref aQ]) (n := 3) (Nat.le_of_ble_eq_true rfl)
  rw [lg_entry_eq]
  generalize (lg_sl ([.ref aR, .ref aQ]) ++ List.replicate (3 - (lg_sl ([.ref aR, .ref aQ])).length) Slot.unset).toArray = ls at hl ⊢
  have hl : lv_has ls 3 [(0, .ref aR), (1, .ref aQ)] := hl
  refine lv_aload_n hx hb dX1_copyAll_0 rfl (lv_at hl 0 rfl) ?_
  refine lv_aload_n hx hb dX1_copyAll_1 rfl (lv_at hl 1 rfl) ?_
  refine va_get (D := (dC, dI)) (ci := 1) (v := .int (nI cnt2)) (C := RX1) (T := TX1) (N := 6) hx hb hts iX1 hown hK hP 6 rfl rfl 5 (by decide) w0 (fun _ h9 => h9) rfl dX1_copyAll_2 ?_
  refine va_put (D := (dC, dI)) (ci := 1) (v := .int (nI cnt2)) (ty := .int) (C := RX1) (T := TX1) (N := 6) hx hb hts iX1 tyX1 tyX1_ok nmX1 hown hK hP hD hS 0 rfl rfl 5 (by decide) w0 (fun _ h9 => h9) rfl (by decide +kernel) rfl rfl (Nat.le_of_ble_eq_true rfl) dX1_copyAll_5 (fun H locs hP hD hS => ?_)
  have hP : va_P (dC, dI) vwCl [(aR, .inr (1, [.ref aRF, .ref aRT, .ref aRN, .ref aRL, .ref aRU, .int (nI cnt2)])), (aRF, .inl (cyI, 20, .inl (fun j_ => nI (F j_)))), (aRT, .inl (cyI, 20, .inl (fun j_ => nI (T j_)))), (aRN, .inl (cyI, 20, .inl nm)), (aRL, .inl (cyI, 20, .inl lo)), (aRU, .inl (cyI, 20, .inl up)), (aQ, .inr (1, [.ref aQF, .ref aQT, .ref aQN, .ref aQL, .ref aQU, .int (nI cnt2)])), (aQF, .inl (cyI, 20, .inl (fun j_ => nI (F2 j_)))), (aQT, .inl (cyI, 20, .inl (fun j_ => nI (T2 j_)))), (aQN, .inl (cyI, 20, .inl nm2)), (aQL, .inl (cyI, 20, .inl lo2)), (aQU, .inl (cyI, 20, .inl up2))] H := hP
  have hD : va_D A [(aR, .inr (1, [.ref aRF, .ref aRT, .ref aRN, .ref aRL, .ref aRU, .int (nI cnt2)])), (aRF, .inl (cyI, 20, .inl (fun j_ => nI (F j_)))), (aRT, .inl (cyI, 20, .inl (fun j_ => nI (T j_)))), (aRN, .inl (cyI, 20, .inl nm)), (aRL, .inl (cyI, 20, .inl lo)), (aRU, .inl (cyI, 20, .inl up)), (aQ, .inr (1, [.ref aQF, .ref aQT, .ref aQN, .ref aQL, .ref aQU, .int (nI cnt2)])), (aQF, .inl (cyI, 20, .inl (fun j_ => nI (F2 j_)))), (aQT, .inl (cyI, 20, .inl (fun j_ => nI (T2 j_)))), (aQN, .inl (cyI, 20, .inl nm2)), (aQL, .inl (cyI, 20, .inl lo2)), (aQU, .inl (cyI, 20, .inl up2))] := hD
  refine lv_iconst (v := 0) hx hb dX1_copyAll_8 (by decide) ?_
  refine lv_istore_n (lv' := [(2, .int 0), (0, .ref aR), (1, .ref aQ)]) hx hb dX1_copyAll_9 rfl hl (by decide) rfl (fun ls hl => ?_)
  have k10 : ∀ (fuel : Nat) (i : Nat) (hfuel : cnt2 - i < fuel) (hi : i ≤ cnt2) (H : Heap) (locs : List Loc) (ls : Array Slot), va_P (dC, dI) vwCl [(aR, .inr (1, [.ref aRF, .ref aRT, .ref aRN, .ref aRL, .ref aRU, .int (nI cnt2)])), (aRF, .inl (cyI, 20, .inl (fun j_ => nI ((cpN F F2 i) j_)))), (aRT, .inl (cyI, 20, .inl (fun j_ => nI ((cpN T T2 i) j_)))), (aRN, .inl (cyI, 20, .inl (cpI nm nm2 i))), (aRL, .inl (cyI, 20, .inl (cpI lo lo2 i))), (aRU, .inl (cyI, 20, .inl (cpI up up2 i))), (aQ, .inr (1, [.ref aQF, .ref aQT, .ref aQN, .ref aQL, .ref aQU, .int (nI cnt2)])), (aQF, .inl (cyI, 20, .inl (fun j_ => nI (F2 j_)))), (aQT, .inl (cyI, 20, .inl (fun j_ => nI (T2 j_)))), (aQN, .inl (cyI, 20, .inl nm2)), (aQL, .inl (cyI, 20, .inl lo2)), (aQU, .inl (cyI, 20, .inl up2))] H → va_D A [(aR, .inr (1, [.ref aRF, .ref aRT, .ref aRN, .ref aRL, .ref aRU, .int (nI cnt2)])), (aRF, .inl (cyI, 20, .inl (fun j_ => nI ((cpN F F2 i) j_)))), (aRT, .inl (cyI, 20, .inl (fun j_ => nI ((cpN T T2 i) j_)))), (aRN, .inl (cyI, 20, .inl (cpI nm nm2 i))), (aRL, .inl (cyI, 20, .inl (cpI lo lo2 i))), (aRU, .inl (cyI, 20, .inl (cpI up up2 i))), (aQ, .inr (1, [.ref aQF, .ref aQT, .ref aQN, .ref aQL, .ref aQU, .int (nI cnt2)])), (aQF, .inl (cyI, 20, .inl (fun j_ => nI (F2 j_)))), (aQT, .inl (cyI, 20, .inl (fun j_ => nI (T2 j_)))), (aQN, .inl (cyI, 20, .inl nm2)), (aQL, .inl (cyI, 20, .inl lo2)), (aQU, .inl (cyI, 20, .inl up2))] → va_S A s.heap H locs → lv_has ls 3 [(0, .ref aR), (1, .ref aQ), (2, .int (nI i))] → W pM l eM (headSpec wsX1_copyAll ({ frames := 2, cells := 0, slots := 0, locals := 49 } : Room)).room s mM ([.ref aR, .ref aQ] : List Value).toArray blM mtM cM H locs 0 0 Q (F0 mM 10 ls []) := by
    intro fuel
    induction fuel with
    | zero => intro i hfuel; exact absurd hfuel (Nat.not_lt_zero _)
    | succ fuel ih10 =>
      intro i hfuel hi H locs ls hP hD hS hl
      refine lv_iload_n hx hb dX1_copyAll_10 rfl (lv_at hl 2 rfl) ?_
      refine lv_aload_n hx hb dX1_copyAll_11 rfl (lv_at hl 0 rfl) ?_
      refine va_get (D := (dC, dI)) (ci := 1) (v := .int (nI cnt2)) (C := RX1) (T := TX1) (N := 6) hx hb hts iX1 hown hK hP 0 rfl rfl 5 (by decide) w0 (fun _ h9 => h9) rfl dX1_copyAll_12 ?_
      refine lv_icmp_ge (tgt := 31) hx hb dX1_copyAll_15 (by decide) (fun c15 => ?_) (fun c15 => ?_)
      · have c15 := n_le (a := cnt2) (b := i) (by omega) (by omega) c15
        have e9 : i = cnt2 := (by omega)
        have q1 : (cpN F F2 cnt2) = (cpN F F2 i) := by rw [e9]
        have q2 : (cpN T T2 cnt2) = (cpN T T2 i) := by rw [e9]
        have q3 : (cpI nm nm2 cnt2) = (cpI nm nm2 i) := by rw [e9]
        have q4 : (cpI lo lo2 cnt2) = (cpI lo lo2 i) := by rw [e9]
        have q5 : (cpI up up2 cnt2) = (cpI up up2 i) := by rw [e9]
        have hP9 : va_P (dC, dI) vwCl [(aR, .inr (1, [.ref aRF, .ref aRT, .ref aRN, .ref aRL, .ref aRU, .int (nI cnt2)])), (aRF, .inl (cyI, 20, .inl (fun j_ => nI ((cpN F F2 cnt2) j_)))), (aRT, .inl (cyI, 20, .inl (fun j_ => nI ((cpN T T2 cnt2) j_)))), (aRN, .inl (cyI, 20, .inl (cpI nm nm2 cnt2))), (aRL, .inl (cyI, 20, .inl (cpI lo lo2 cnt2))), (aRU, .inl (cyI, 20, .inl (cpI up up2 cnt2))), (aQ, .inr (1, [.ref aQF, .ref aQT, .ref aQN, .ref aQL, .ref aQU, .int (nI cnt2)])), (aQF, .inl (cyI, 20, .inl (fun j_ => nI (F2 j_)))), (aQT, .inl (cyI, 20, .inl (fun j_ => nI (T2 j_)))), (aQN, .inl (cyI, 20, .inl nm2)), (aQL, .inl (cyI, 20, .inl lo2)), (aQU, .inl (cyI, 20, .inl up2))] H := by first | (rw [q1, q2, q3, q4, q5]; exact hP.sub [0, 1, 2, 3, 4, 5, 6, 7, 8, 9, 10, 11] rfl) | (simp only [q1, q2, q3, q4, q5]; exact hP.sub [0, 1, 2, 3, 4, 5, 6, 7, 8, 9, 10, 11] rfl) | exact hP.sub [0, 1, 2, 3, 4, 5, 6, 7, 8, 9, 10, 11] rfl
        have hD9 : va_D A [(aR, .inr (1, [.ref aRF, .ref aRT, .ref aRN, .ref aRL, .ref aRU, .int (nI cnt2)])), (aRF, .inl (cyI, 20, .inl (fun j_ => nI ((cpN F F2 cnt2) j_)))), (aRT, .inl (cyI, 20, .inl (fun j_ => nI ((cpN T T2 cnt2) j_)))), (aRN, .inl (cyI, 20, .inl (cpI nm nm2 cnt2))), (aRL, .inl (cyI, 20, .inl (cpI lo lo2 cnt2))), (aRU, .inl (cyI, 20, .inl (cpI up up2 cnt2))), (aQ, .inr (1, [.ref aQF, .ref aQT, .ref aQN, .ref aQL, .ref aQU, .int (nI cnt2)])), (aQF, .inl (cyI, 20, .inl (fun j_ => nI (F2 j_)))), (aQT, .inl (cyI, 20, .inl (fun j_ => nI (T2 j_)))), (aQN, .inl (cyI, 20, .inl nm2)), (aQL, .inl (cyI, 20, .inl lo2)), (aQU, .inl (cyI, 20, .inl up2))] := by first | (rw [q1, q2, q3, q4, q5]; exact hD.sub [0, 1, 2, 3, 4, 5, 6, 7, 8, 9, 10, 11] (by decide) rfl) | (simp only [q1, q2, q3, q4, q5]; exact hD.sub [0, 1, 2, 3, 4, 5, 6, 7, 8, 9, 10, 11] (by decide) rfl) | exact hD.sub [0, 1, 2, 3, 4, 5, 6, 7, 8, 9, 10, 11] (by decide) rfl
        subst hAe
        subst hQe
        exact W.vret hx hb hr (fun t ht hW => ⟨⟨(), rfl, trivial, by rw [ht]; exact hP9, va_K.moved hW.alike hK, hD9⟩, hS.F ht⟩) hS.2.2 dX1_copyAll_31
      · have c15 := n_nle (a := cnt2) (b := i) (by omega) (by omega) c15
        refine lv_aload_n hx hb dX1_copyAll_18 rfl (lv_at hl 0 rfl) ?_
        refine lv_iload_n hx hb dX1_copyAll_19 rfl (lv_at hl 2 rfl) ?_
        refine lv_aload_n hx hb dX1_copyAll_20 rfl (lv_at hl 1 rfl) ?_
        refine lv_iload_n hx hb dX1_copyAll_21 rfl (lv_at hl 2 rfl) ?_
        have g6 : i < 20 := by first | assumption | omega | exact vp_in_nI (by omega) (by omega)
        have g7 : i < 20 := by first | assumption | omega | exact vp_in_nI (by omega) (by omega)
        have hPc := hP.sub (ws' := [(aR, .inr (1, [.ref aRF, .ref aRT, .ref aRN, .ref aRL, .ref aRU, .int (nI cnt2)])), (aRF, .inl (cyI, 20, .inl (fun j_ => nI ((cpN F F2 i) j_)))), (aRT, .inl (cyI, 20, .inl (fun j_ => nI ((cpN T T2 i) j_)))), (aRN, .inl (cyI, 20, .inl (cpI nm nm2 i))), (aRL, .inl (cyI, 20, .inl (cpI lo lo2 i))), (aRU, .inl (cyI, 20, .inl (cpI up up2 i))), (aQ, .inr (1, [.ref aQF, .ref aQT, .ref aQN, .ref aQL, .ref aQU, .int (nI cnt2)])), (aQF, .inl (cyI, 20, .inl (fun j_ => nI (F2 j_)))), (aQT, .inl (cyI, 20, .inl (fun j_ => nI (T2 j_)))), (aQN, .inl (cyI, 20, .inl nm2)), (aQL, .inl (cyI, 20, .inl lo2)), (aQU, .inl (cyI, 20, .inl up2))]) [0, 1, 2, 3, 4, 5, 6, 7, 8, 9, 10, 11] rfl
        have hDc := hD.sub (ws' := [(aR, .inr (1, [.ref aRF, .ref aRT, .ref aRN, .ref aRL, .ref aRU, .int (nI cnt2)])), (aRF, .inl (cyI, 20, .inl (fun j_ => nI ((cpN F F2 i) j_)))), (aRT, .inl (cyI, 20, .inl (fun j_ => nI ((cpN T T2 i) j_)))), (aRN, .inl (cyI, 20, .inl (cpI nm nm2 i))), (aRL, .inl (cyI, 20, .inl (cpI lo lo2 i))), (aRU, .inl (cyI, 20, .inl (cpI up up2 i))), (aQ, .inr (1, [.ref aQF, .ref aQT, .ref aQN, .ref aQL, .ref aQU, .int (nI cnt2)])), (aQF, .inl (cyI, 20, .inl (fun j_ => nI (F2 j_)))), (aQT, .inl (cyI, 20, .inl (fun j_ => nI (T2 j_)))), (aQN, .inl (cyI, 20, .inl nm2)), (aQL, .inl (cyI, 20, .inl lo2)), (aQU, .inl (cyI, 20, .inl up2))]) [0, 1, 2, 3, 4, 5, 6, 7, 8, 9, 10, 11] (by decide) rfl
        have hFc := va_free (wc := [(aR, .inr (1, [.ref aRF, .ref aRT, .ref aRN, .ref aRL, .ref aRU, .int (nI cnt2)])), (aRF, .inl (cyI, 20, .inl (fun j_ => nI ((cpN F F2 i) j_)))), (aRT, .inl (cyI, 20, .inl (fun j_ => nI ((cpN T T2 i) j_)))), (aRN, .inl (cyI, 20, .inl (cpI nm nm2 i))), (aRL, .inl (cyI, 20, .inl (cpI lo lo2 i))), (aRU, .inl (cyI, 20, .inl (cpI up up2 i))), (aQ, .inr (1, [.ref aQF, .ref aQT, .ref aQN, .ref aQL, .ref aQU, .int (nI cnt2)])), (aQF, .inl (cyI, 20, .inl (fun j_ => nI (F2 j_)))), (aQT, .inl (cyI, 20, .inl (fun j_ => nI (T2 j_)))), (aQN, .inl (cyI, 20, .inl nm2)), (aQL, .inl (cyI, 20, .inl lo2)), (aQU, .inl (cyI, 20, .inl up2))]) hD hS hA [0, 1, 2, 3, 4, 5, 6, 7, 8, 9, 10, 11] rfl
        refine va_callv (va_runV (As := [.int (nI i), .ref aQ, .int (nI i)]) (rest := []) ⟨hx, hb, hml, hown, hts⟩ (c_X1_copyRow l dC dI cyI cyZ cyJ cyD aR aRF aRT aRN aRL aRU aQ aQF aQT aQN aQL aQU H.size (cpN F F2 i) (cpN T T2 i) (cpI nm nm2 i) (cpI lo lo2 i) (cpI up up2 i) cnt2 F2 T2 nm2 lo2 up2 cnt2 i i g6 g7) (cwV 3 hts gX1_copyAll_X1_copyRow rfl rfl rfl (by decide +kernel) ⟨Nat.le_of_ble_eq_true rfl, Nat.le_of_ble_eq_true rfl⟩) ⟨fun a U g mk q => by obtain ⟨q0, q1, qP, qK, qD⟩ := q; exact ⟨q0, q1, qP, va_K.moved (u := U) (U := U.calling g mk a) (Vm.Alike.refl U.vm) qK, qD⟩, va_recv hK hPc (ci := 1) (q0 := 0) rfl rfl, fun U hU hW => ⟨rfl, by rw [hU], by rw [hU]; exact hPc, va_K.moved hW.alike hK, hDc.weaken (fun _ _ _ _ => trivial)⟩⟩ rfl rfl hl.1 rfl (lv_room (Nat.le_of_ble_eq_true rfl)) dX1_copyAll_22 ⟨Nat.le_of_ble_eq_true rfl, Nat.le_of_ble_eq_true rfl⟩) hS (fun q _ h => hFc q h) hFc (fun  u t H1 locs ht hvm hw hB hz1 hk1 hS => ?_)
        obtain ⟨hP1, hK1, hD1⟩ := hB
        rw [ht] at hP1
        obtain ⟨hP, hD⟩ := va_join (wr := []) (w1 := [(aR, .inr (1, [.ref aRF, .ref aRT, .ref aRN, .ref aRL, .ref aRU, .int (nI cnt2)])), (aRF, .inl (cyI, 20, .inl (fun j_ => nI ((updN (cpN F F2 i) i (F2 i)) j_)))), (aRT, .inl (cyI, 20, .inl (fun j_ => nI ((updN (cpN T T2 i) i (T2 i)) j_)))), (aRN, .inl (cyI, 20, .inl (upd (cpI nm nm2 i) i (nm2 i)))), (aRL, .inl (cyI, 20, .inl (upd (cpI lo lo2 i) i (lo2 i)))), (aRU, .inl (cyI, 20, .inl (upd (cpI up up2 i) i (up2 i)))), (aQ, .inr (1, [.ref aQF, .ref aQT, .ref aQN, .ref aQL, .ref aQU, .int (nI cnt2)])), (aQF, .inl (cyI, 20, .inl (fun j_ => nI (F2 j_)))), (aQT, .inl (cyI, 20, .inl (fun j_ => nI (T2 j_)))), (aQN, .inl (cyI, 20, .inl nm2)), (aQL, .inl (cyI, 20, .inl lo2)), (aQU, .inl (cyI, 20, .inl up2))]) hP hD [0, 1, 2, 3, 4, 5, 6, 7, 8, 9, 10, 11] [] rfl rfl (by decide) (by decide) hk1 hFc hP1 hD1
        clear hP1 hD1 hK1 hPc hDc hFc hk1 hz1 hvm ht u t
        generalize H1 = H at hP hS ⊢
        have hP : va_P (dC, dI) vwCl [(aR, .inr (1, [.ref aRF, .ref aRT, .ref aRN, .ref aRL, .ref aRU, .int (nI cnt2)])), (aRF, .inl (cyI, 20, .inl (fun j_ => nI ((updN (cpN F F2 i) i (F2 i)) j_)))), (aRT, .inl (cyI, 20, .inl (fun j_ => nI ((updN (cpN T T2 i) i (T2 i)) j_)))), (aRN, .inl (cyI, 20, .inl (upd (cpI nm nm2 i) i (nm2 i)))), (aRL, .inl (cyI, 20, .inl (upd (cpI lo lo2 i) i (lo2 i)))), (aRU, .inl (cyI, 20, .inl (upd (cpI up up2 i) i (up2 i)))), (aQ, .inr (1, [.ref aQF, .ref aQT, .ref aQN, .ref aQL, .ref aQU, .int (nI cnt2)])), (aQF, .inl (cyI, 20, .inl (fun j_ => nI (F2 j_)))), (aQT, .inl (cyI, 20, .inl (fun j_ => nI (T2 j_)))), (aQN, .inl (cyI, 20, .inl nm2)), (aQL, .inl (cyI, 20, .inl lo2)), (aQU, .inl (cyI, 20, .inl up2))] H := hP
        have hD : va_D A [(aR, .inr (1, [.ref aRF, .ref aRT, .ref aRN, .ref aRL, .ref aRU, .int (nI cnt2)])), (aRF, .inl (cyI, 20, .inl (fun j_ => nI ((updN (cpN F F2 i) i (F2 i)) j_)))), (aRT, .inl (cyI, 20, .inl (fun j_ => nI ((updN (cpN T T2 i) i (T2 i)) j_)))), (aRN, .inl (cyI, 20, .inl (upd (cpI nm nm2 i) i (nm2 i)))), (aRL, .inl (cyI, 20, .inl (upd (cpI lo lo2 i) i (lo2 i)))), (aRU, .inl (cyI, 20, .inl (upd (cpI up up2 i) i (up2 i)))), (aQ, .inr (1, [.ref aQF, .ref aQT, .ref aQN, .ref aQL, .ref aQU, .int (nI cnt2)])), (aQF, .inl (cyI, 20, .inl (fun j_ => nI (F2 j_)))), (aQT, .inl (cyI, 20, .inl (fun j_ => nI (T2 j_)))), (aQN, .inl (cyI, 20, .inl nm2)), (aQL, .inl (cyI, 20, .inl lo2)), (aQU, .inl (cyI, 20, .inl up2))] := hD
        refine lv_iinc (v := nI (i + 1)) (lv' := [(2, .int (nI (i + 1))), (0, .ref aR), (1, .ref aQ)]) hx hb dX1_copyAll_25 hl (k := 2) rfl (nI_add i 1) (by decide) rfl (fun ls hl => ?_)
        refine lv_goto (tgt := 10) hx hb dX1_copyAll_28 (by decide) ?_
        have q8 : (cpN F F2 (i + 1)) = (updN (cpN F F2 i) i (F2 i)) := by rfl
        have q9 : (cpN T T2 (i + 1)) = (updN (cpN T T2 i) i (T2 i)) := by rfl
        have q10 : (cpI nm nm2 (i + 1)) = (upd (cpI nm nm2 i) i (nm2 i)) := by rfl
        have q11 : (cpI lo lo2 (i + 1)) = (upd (cpI lo lo2 i) i (lo2 i)) := by rfl
        have q12 : (cpI up up2 (i + 1)) = (upd (cpI up up2 i) i (up2 i)) := by rfl
        exact ih10 (i + 1) (by omega) (by first | assumption | omega) _ _ _ (by first | (rw [q8, q9, q10, q11, q12]; exact hP) | (simp only [q8, q9, q10, q11, q12]; exact hP) | exact hP) (by first | (rw [q8, q9, q10, q11, q12]; exact hD) | (simp only [q8, q9, q10, q11, q12]; exact hD) | exact hD) hS (lv_sub hl [1, 2, 0] rfl)
  have q13 : (cpN F F2 0) = F := by rfl
  have q14 : (cpN T T2 0) = T := by rfl
  have q15 : (cpI nm nm2 0) = nm := by rfl
  have q16 : (cpI lo lo2 0) = lo := by rfl
  have q17 : (cpI up up2 0) = up := by rfl
  have q18 : (nI 0) = 0 := by rfl
  exact k10 (cnt2 - 0 + 1) 0 (Nat.lt_succ_self _) (by first | assumption | omega) _ _ _ (by first | (rw [q13, q14, q15, q16, q17]; exact hP) | (simp only [q13, q14, q15, q16, q17]; exact hP) | exact hP) (by first | (rw [q13, q14, q15, q16, q17]; exact hD) | (simp only [q13, q14, q15, q16, q17]; exact hD) | exact hD) hS (by first | (rw [q18]; exact lv_sub hl [1, 2, 0] rfl) | (simp only [q18]; exact lv_sub hl [1, 2, 0] rfl) | exact lv_sub hl [1, 2, 0] rfl)
set_option maxHeartbeats 4000000 in
set_option maxRecDepth 100000 in
theorem c_X1_removeAt (l : Launch) (dC : Nat → ClassId) (dI : Nat → Nat → Nat) (cyI cyZ cyJ cyD : ClassId) (aR aRF aRT aRN aRL aRU : Nat) (zH : Nat) (F : Nat → Nat) (T : Nat → Nat) (nm : Nat → Int32) (lo : Nat → Int32) (up : Nat → Int32) (cnt : Nat) (d : Nat) (hc : cnt ≤ 20) (hd : d < cnt) : Met l yX1_removeAt wsX1_removeAt ({ frames := 2, cells := 0, slots := 0, locals := 49 } : Room) (va_Pc [.ref aR, .int (nI d)] (fun U => U.heap.size = zH ∧ va_P (dC, dI) vwCl [(aR, .inr (1, [.ref aRF, .ref aRT, .ref aRN, .ref aRL, .ref aRU, .int (nI cnt)])), (aRF, .inl (cyI, 20, .inl (fun j_ => nI (F j_)))), (aRT, .inl (cyI, 20, .inl (fun j_ => nI (T j_)))), (aRN, .inl (cyI, 20, .inl nm)), (aRL, .inl (cyI, 20, .inl lo)), (aRU, .inl (cyI, 20, .inl up))] U.heap ∧ va_K (dC, dI) vwCl [(cyI, .int), (cyZ, .boolean), (cyJ, .long), (cyD, .double)] U ∧ va_D (fun _ => True) [(aR, .inr (1, [.ref aRF, .ref aRT, .ref aRN, .ref aRL, .ref aRU, .int (nI cnt)])), (aRF, .inl (cyI, 20, .inl (fun j_ => nI (F j_)))), (aRT, .inl (cyI, 20, .inl (fun j_ => nI (T j_)))), (aRN, .inl (cyI, 20, .inl nm)), (aRL, .inl (cyI, 20, .inl lo)), (aRU, .inl (cyI, 20, .inl up))])) (va_Qv (fun _ : Unit => True) (fun _ t => va_P (dC, dI) vwCl [(aR, .inr (1, [.ref aRF, .ref aRT, .ref aRN, .ref aRL, .ref aRU, .int (nI (cnt - 1))])), (aRF, .inl (cyI, 20, .inl (fun j_ => nI ((rmN F d (cnt - 1 - d)) j_)))), (aRT, .inl (cyI, 20, .inl (fun j_ => nI ((rmN T d (cnt - 1 - d)) j_)))), (aRN, .inl (cyI, 20, .inl (rmI nm d (cnt - 1 - d)))), (aRL, .inl (cyI, 20, .inl (rmI lo d (cnt - 1 - d)))), (aRU, .inl (cyI, 20, .inl (rmI up d (cnt - 1 - d))))] t.heap ∧ va_K (dC, dI) vwCl [(cyI, .int), (cyZ, .boolean), (cyJ, .long), (cyD, .double)] t ∧ va_D (va_A [(aR, .inr (1, [.ref aRF, .ref aRT, .ref aRN, .ref aRL, .ref aRU, .int (nI cnt)])), (aRF, .inl (cyI, 20, .inl (fun j_ => nI (F j_)))), (aRT, .inl (cyI, 20, .inl (fun j_ => nI (T j_)))), (aRN, .inl (cyI, 20, .inl nm)), (aRL, .inl (cyI, 20, .inl lo)), (aRU, .inl (cyI, 20, .inl up))] zH) [(aR, .inr (1, [.ref aRF, .ref aRT, .ref aRN, .ref aRL, .ref aRU, .int (nI (cnt - 1))])), (aRF, .inl (cyI, 20, .inl (fun j_ => nI ((rmN F d (cnt - 1 - d)) j_)))), (aRT, .inl (cyI, 20, .inl (fun j_ => nI ((rmN T d (cnt - 1 - d)) j_)))), (aRN, .inl (cyI, 20, .inl (rmI nm d (cnt - 1 - d)))), (aRL, .inl (cyI, 20, .inl (rmI lo d (cnt - 1 - d)))), (aRU, .inl (cyI, 20, .inl (rmI up d (cnt - 1 - d))))]) (va_A [(aR, .inr (1, [.ref aRF, .ref aRT, .ref aRN, .ref aRL, .ref aRU, .int (nI cnt)])), (aRF, .inl (cyI, 20, .inl (fun j_ => nI (F j_)))), (aRT, .inl (cyI, 20, .inl (fun j_ => nI (T j_)))), (aRN, .inl (cyI, 20, .inl nm)), (aRL, .inl (cyI, 20, .inl lo)), (aRU, .inl (cyI, 20, .inl up))] zH)) 0 0 (va_A [(aR, .inr (1, [.ref aRF, .ref aRT, .ref aRN, .ref aRL, .ref aRU, .int (nI cnt)])), (aRF, .inl (cyI, 20, .inl (fun j_ => nI (F j_)))), (aRT, .inl (cyI, 20, .inl (fun j_ => nI (T j_)))), (aRN, .inl (cyI, 20, .inl nm)), (aRL, .inl (cyI, 20, .inl lo)), (aRU, .inl (cyI, 20, .inl up))] zH) := by
  refine Met.ofW (cc := cX1_removeAt) (maxL := 3) (ret := none) (by decide) rfl ?_
  intro pM eM s mM args blM mtM cM s₁ BM hml hv
  obtain ⟨rfl, hsz, hP, hK, hD0⟩ := hv
  have hx := BM.exec
  have hb := BM.bytes
  have hr := BM.returns
  have hts := atoms_spec (ws := wsX1_removeAt) BM.pre
  have hown : s.vm.findClass RX1 = some mM.cls := findClass_of_methodNamed BM.named
  have hlocks := BM.notSynchronized
  have w0 := hts (.fieldLink RX1 27 "DimensionChecker$Dimensions" "count" "I") (by decide +kernel)
  have iX1 : ∀ w ∈ wsX10, w ∈ wsX1_removeAt := by decide +kernel
  subst hsz
  have hD := hD0.self (sz := s.heap.size)
  obtain ⟨Q, hQe⟩ : ∃ Q : State → Prop, Q = MQ blM (va_Qv (fun _ : Unit => True) (fun _ t => va_P (dC, dI) vwCl [(aR, .inr (1, [.ref aRF, .ref aRT, .ref aRN, .ref aRL, .ref aRU, .int (nI (cnt - 1))])), (aRF, .inl (cyI, 20, .inl (fun j_ => nI ((rmN F d (cnt - 1 - d)) j_)))), (aRT, .inl (cyI, 20, .inl (fun j_ => nI ((rmN T d (cnt - 1 - d)) j_)))), (aRN, .inl (cyI, 20, .inl (rmI nm d (cnt - 1 - d)))), (aRL, .inl (cyI, 20, .inl (rmI lo d (cnt - 1 - d)))), (aRU, .inl (cyI, 20, .inl (rmI up d (cnt - 1 - d))))] t.heap ∧ va_K (dC, dI) vwCl [(cyI, .int), (cyZ, .boolean), (cyJ, .long), (cyD, .double)] t ∧ va_D (va_A [(aR, .inr (1, [.ref aRF, .ref aRT, .ref aRN, .ref aRL, .ref aRU, .int (nI cnt)])), (aRF, .inl (cyI, 20, .inl (fun j_ => nI (F j_)))), (aRT, .inl (cyI, 20, .inl (fun j_ => nI (T j_)))), (aRN, .inl (cyI, 20, .inl nm)), (aRL, .inl (cyI, 20, .inl lo)), (aRU, .inl (cyI, 20, .inl up))] s.heap.size) [(aR, .inr (1, [.ref aRF, .ref aRT, .ref aRN, .ref aRL, .ref aRU, .int (nI (cnt - 1))])), (aRF, .inl (cyI, 20, .inl (fun j_ => nI ((rmN F d (cnt - 1 - d)) j_)))), (aRT, .inl (cyI, 20, .inl (fun j_ => nI ((rmN T d (cnt - 1 - d)) j_)))), (aRN, .inl (cyI, 20, .inl (rmI nm d (cnt - 1 - d)))), (aRL, .inl (cyI, 20, .inl (rmI lo d (cnt - 1 - d)))), (aRU, .inl (cyI, 20, .inl (rmI up d (cnt - 1 - d))))]) (va_A [(aR, .inr (1, [.ref aRF, .ref aRT, .ref aRN, .ref aRL, .ref aRU, .int (nI cnt)])), (aRF, .inl (cyI, 20, .inl (fun j_ => nI (F j_)))), (aRT, .inl (cyI, 20, .inl (fun j_ => nI (T j_)))), (aRN, .inl (cyI, 20, .inl nm)), (aRL, .inl (cyI, 20, .inl lo)), (aRU, .inl (cyI, 20, .inl up))] s.heap.size)) ([.ref aR, .int (nI d)] : List Value).toArray s 0 0 (va_A [(aR, .inr (1, [.ref aRF, .ref aRT, .ref aRN, .ref aRL, .ref aRU, .int (nI cnt)])), (aRF, .inl (cyI, 20, .inl (fun j_ => nI (F j_)))), (aRT, .inl (cyI, 20, .inl (fun j_ => nI (T j_)))), (aRN, .inl (cyI, 20, .inl nm)), (aRL, .inl (cyI, 20, .inl lo)), (aRU, .inl (cyI, 20, .inl up))] s.heap.size) := ⟨_, rfl⟩
  rw [← hQe]
  generalize hAe : va_A [(aR, .inr (1, [.ref aRF, .ref aRT, .ref aRN, .ref aRL, .ref aRU, .int (nI cnt)])), (aRF, .inl (cyI, 20, .inl (fun j_ => nI (F j_)))), (aRT, .inl (cyI, 20, .inl (fun j_ => nI (T j_)))), (aRN, .inl (cyI, 20, .inl nm)), (aRL, .inl (cyI, 20, .inl lo)), (aRU, .inl (cyI, 20, .inl up))] s.heap.size = A at hD hQe
  have hA : ∀ q : Nat, s.heap.size ≤ q → A q := fun q h => by rw [← hAe]; exact Or.inr h
  obtain ⟨H, hHe⟩ : ∃ H : Heap, H = s.heap := ⟨_, rfl⟩
  have hS : va_S A s.heap H [] := by rw [hHe]; exact va_S.rf
  rw [← hHe] at hP ⊢
  have hl := lv_entry ([.ref aR, .int (nI d)]) (n := 3) (Nat.le_of_ble_eq_true rfl)
  rw [lg_entry_eq]
  generalize (lg_sl ([.ref aR, .int (nI d)]) ++ List.replicate (3 - (lg_sl ([.ref aR, .int (nI d)])).length) Slot.unset).toArray = ls at hl ⊢
  have hl : lv_has ls 3 [(0, .ref aR), (1, .int (nI d))] := hl
  refine lv_iload_n hx hb dX1_removeAt_0 rfl (lv_at hl 1 rfl) ?_
  refine lv_iconst (v := 1) hx hb dX1_removeAt_1 (by decide) ?_
  refine lv_iadd hx hb dX1_removeAt_2 ?_
  refine lv_topi (fun x1 e2 => ?_)
  obtain rfl : x1 = (nI (d + 1)) := by rw [e2]; exact nI_add d 1
  clear e2
  refine lv_istore_n (lv' := [(2, .int (nI (d + 1))), (0, .ref aR), (1, .int (nI d))]) hx hb dX1_removeAt_3 rfl hl (by decide) rfl (fun ls hl => ?_)
  have k4 : ∀ (fuel : Nat) (k : Nat) (hfuel : cnt - k < fuel) (hk : k ≤ cnt - 1 - d) (H : Heap) (locs : List Loc) (ls : Array Slot), va_P (dC, dI) vwCl [(aR, .inr (1, [.ref aRF, .ref aRT, .ref aRN, .ref aRL, .ref aRU, .int (nI cnt)])), (aRF, .inl (cyI, 20, .inl (fun j_ => nI ((rmN F d k) j_)))), (aRT, .inl (cyI, 20, .inl (fun j_ => nI ((rmN T d k) j_)))), (aRN, .inl (cyI, 20, .inl (rmI nm d k))), (aRL, .inl (cyI, 20, .inl (rmI lo d k))), (aRU, .inl (cyI, 20, .inl (rmI up d k)))] H → va_D A [(aR, .inr (1, [.ref aRF, .ref aRT, .ref aRN, .ref aRL, .ref aRU, .int (nI cnt)])), (aRF, .inl (cyI, 20, .inl (fun j_ => nI ((rmN F d k) j_)))), (aRT, .inl (cyI, 20, .inl (fun j_ => nI ((rmN T d k) j_)))), (aRN, .inl (cyI, 20, .inl (rmI nm d k))), (aRL, .inl (cyI, 20, .inl (rmI lo d k))), (aRU, .inl (cyI, 20, .inl (rmI up d k)))] → va_S A s.heap H locs → lv_has ls 3 [(0, .ref aR), (1, .int (nI d)), (2, .int (nI (d + 1 + k)))] → W pM l eM (headSpec wsX1_removeAt ({ frames := 2, cells := 0, slots := 0, locals := 49 } : Room)).room s mM ([.ref aR, .int (nI d)] : List Value).toArray blM mtM cM H locs 0 0 Q (F0 mM 4 ls []) := by
    intro fuel
    induction fuel with
    | zero => intro k hfuel; exact absurd hfuel (Nat.not_lt_zero _)
    | succ fuel ih4 =>
      intro k hfuel hk H locs ls hP hD hS hl
      refine lv_iload_n hx hb dX1_removeAt_4 rfl (lv_at hl 2 rfl) ?_
      refine lv_aload_n hx hb dX1_removeAt_5 rfl (lv_at hl 0 rfl) ?_
      refine va_get (D := (dC, dI)) (ci := 1) (v := .int (nI cnt)) (C := RX1) (T := TX1) (N := 6) hx hb hts iX1 hown hK hP 0 rfl rfl 5 (by decide) w0 (fun _ h9 => h9) rfl dX1_removeAt_6 ?_
      refine lv_icmp_ge (tgt := 27) hx hb dX1_removeAt_9 (by decide) (fun c9 => ?_) (fun c9 => ?_)
      · have c9 := n_le (a := cnt) (b := d + 1 + k) (by omega) (by omega) c9
        have e9 : k = cnt - 1 - d := (by omega)
        refine lv_aload_n hx hb dX1_removeAt_27 rfl (lv_at hl 0 rfl) ?_
        refine lv_dup hx hb dX1_removeAt_28 rfl ?_
        refine va_get (D := (dC, dI)) (ci := 1) (v := .int (nI cnt)) (C := RX1) (T := TX1) (N := 6) hx hb hts iX1 hown hK hP 0 rfl rfl 5 (by decide) w0 (fun _ h9 => h9) rfl dX1_removeAt_29 ?_
        refine lv_iconst (v := 1) hx hb dX1_removeAt_32 (by decide) ?_
        refine lv_isub hx hb dX1_removeAt_33 ?_
        refine lv_topi (fun x3 e4 => ?_)
        obtain rfl : x3 = (nI (cnt - 1)) := by rw [e4]; exact pk_sub (a := cnt) (b := 1) (by omega)
        clear e4
        refine va_put (D := (dC, dI)) (ci := 1) (v := .int (nI (cnt - 1))) (ty := .int) (C := RX1) (T := TX1) (N := 6) hx hb hts iX1 tyX1 tyX1_ok nmX1 hown hK hP hD hS 0 rfl rfl 5 (by decide) w0 (fun _ h9 => h9) rfl (by decide +kernel) rfl rfl (Nat.le_of_ble_eq_true rfl) dX1_removeAt_34 (fun H locs hP hD hS => ?_)
        have hP : va_P (dC, dI) vwCl [(aR, .inr (1, [.ref aRF, .ref aRT, .ref aRN, .ref aRL, .ref aRU, .int (nI (cnt - 1))])), (aRF, .inl (cyI, 20, .inl (fun j_ => nI ((rmN F d k) j_)))), (aRT, .inl (cyI, 20, .inl (fun j_ => nI ((rmN T d k) j_)))), (aRN, .inl (cyI, 20, .inl (rmI nm d k))), (aRL, .inl (cyI, 20, .inl (rmI lo d k))), (aRU, .inl (cyI, 20, .inl (rmI up d k)))] H := hP
        have hD : va_D A [(aR, .inr (1, [.ref aRF, .ref aRT, .ref aRN, .ref aRL, .ref aRU, .int (nI (cnt - 1))])), (aRF, .inl (cyI, 20, .inl (fun j_ => nI ((rmN F d k) j_)))), (aRT, .inl (cyI, 20, .inl (fun j_ => nI ((rmN T d k) j_)))), (aRN, .inl (cyI, 20, .inl (rmI nm d k))), (aRL, .inl (cyI, 20, .inl (rmI lo d k))), (aRU, .inl (cyI, 20, .inl (rmI up d k)))] := hD
        have q5 : (rmN F d (cnt - 1 - d)) = (rmN F d k) := by rw [e9]
        have q6 : (rmN T d (cnt - 1 - d)) = (rmN T d k) := by rw [e9]
        have q7 : (rmI nm d (cnt - 1 - d)) = (rmI nm d k) := by rw [e9]
        have q8 : (rmI lo d (cnt - 1 - d)) = (rmI lo d k) := by rw [e9]
        have q9 : (rmI up d (cnt - 1 - d)) = (rmI up d k) := by rw [e9]
        have hP9 : va_P (dC, dI) vwCl [(aR, .inr (1, [.ref aRF, .ref aRT, .ref aRN, .ref aRL, .ref aRU, .int (nI (cnt - 1))])), (aRF, .inl (cyI, 20, .inl (fun j_ => nI ((rmN F d (cnt - 1 - d)) j_)))), (aRT, .inl (cyI, 20, .inl (fun j_ => nI ((rmN T d (cnt - 1 - d)) j_)))), (aRN, .inl (cyI, 20, .inl (rmI nm d (cnt - 1 - d)))), (aRL, .inl (cyI, 20, .inl (rmI lo d (cnt - 1 - d)))), (aRU, .inl (cyI, 20, .inl (rmI up d (cnt - 1 - d))))] H := by first | (rw [q5, q6, q7, q8, q9]; exact hP.sub [0, 1, 2, 3, 4, 5] rfl) | (simp only [q5, q6, q7, q8, q9]; exact hP.sub [0, 1, 2, 3, 4, 5] rfl) | exact hP.sub [0, 1, 2, 3, 4, 5] rfl
        have hD9 : va_D A [(aR, .inr (1, [.ref aRF, .ref aRT, .ref aRN, .ref aRL, .ref aRU, .int (nI (cnt - 1))])), (aRF, .inl (cyI, 20, .inl (fun j_ => nI ((rmN F d (cnt - 1 - d)) j_)))), (aRT, .inl (cyI, 20, .inl (fun j_ => nI ((rmN T d (cnt - 1 - d)) j_)))), (aRN, .inl (cyI, 20, .inl (rmI nm d (cnt - 1 - d)))), (aRL, .inl (cyI, 20, .inl (rmI lo d (cnt - 1 - d)))), (aRU, .inl (cyI, 20, .inl (rmI up d (cnt - 1 - d))))] := by first | (rw [q5, q6, q7, q8, q9]; exact hD.sub [0, 1, 2, 3, 4, 5] (by decide) rfl) | (simp only [q5, q6, q7, q8, q9]; exact hD.sub [0, 1, 2, 3, 4, 5] (by decide) rfl) | exact hD.sub [0, 1, 2, 3, 4, 5] (by decide) rfl
        subst hAe
        subst hQe
        exact W.vret hx hb hr (fun t ht hW => ⟨⟨(), rfl, trivial, by rw [ht]; exact hP9, va_K.moved hW.alike hK, hD9⟩, hS.F ht⟩) hS.2.2 dX1_removeAt_37
      · have c9 := n_nle (a := cnt) (b := d + 1 + k) (by omega) (by omega) c9
        refine lv_aload_n hx hb dX1_removeAt_12 rfl (lv_at hl 0 rfl) ?_
        refine lv_iload_n hx hb dX1_removeAt_13 rfl (lv_at hl 2 rfl) ?_
        refine lv_iconst (v := 1) hx hb dX1_removeAt_14 (by decide) ?_
        refine lv_isub hx hb dX1_removeAt_15 ?_
        refine lv_topi (fun x10 e11 => ?_)
        obtain rfl : x10 = (nI ((d + 1 + k) - 1)) := by rw [e11]; exact pk_sub (a := d + 1 + k) (b := 1) (by omega)
        clear e11
        refine lv_aload_n hx hb dX1_removeAt_16 rfl (lv_at hl 0 rfl) ?_
        refine lv_iload_n hx hb dX1_removeAt_17 rfl (lv_at hl 2 rfl) ?_
        have g12 : ((d + 1 + k) - 1) < 20 := by first | assumption | omega | exact vp_in_nI (by omega) (by omega)
        have g13 : (d + 1 + k) < 20 := by first | assumption | omega | exact vp_in_nI (by omega) (by omega)
        have hPc := hP.sub (ws' := [(aR, .inr (1, [.ref aRF, .ref aRT, .ref aRN, .ref aRL, .ref aRU, .int (nI cnt)])), (aRF, .inl (cyI, 20, .inl (fun j_ => nI ((rmN F d k) j_)))), (aRT, .inl (cyI, 20, .inl (fun j_ => nI ((rmN T d k) j_)))), (aRN, .inl (cyI, 20, .inl (rmI nm d k))), (aRL, .inl (cyI, 20, .inl (rmI lo d k))), (aRU, .inl (cyI, 20, .inl (rmI up d k)))]) [0, 1, 2, 3, 4, 5] rfl
        have hDc := hD.sub (ws' := [(aR, .inr (1, [.ref aRF, .ref aRT, .ref aRN, .ref aRL, .ref aRU, .int (nI cnt)])), (aRF, .inl (cyI, 20, .inl (fun j_ => nI ((rmN F d k) j_)))), (aRT, .inl (cyI, 20, .inl (fun j_ => nI ((rmN T d k) j_)))), (aRN, .inl (cyI, 20, .inl (rmI nm d k))), (aRL, .inl (cyI, 20, .inl (rmI lo d k))), (aRU, .inl (cyI, 20, .inl (rmI up d k)))]) [0, 1, 2, 3, 4, 5] (by decide) rfl
        have hFc := va_free (wc := [(aR, .inr (1, [.ref aRF, .ref aRT, .ref aRN, .ref aRL, .ref aRU, .int (nI cnt)])), (aRF, .inl (cyI, 20, .inl (fun j_ => nI ((rmN F d k) j_)))), (aRT, .inl (cyI, 20, .inl (fun j_ => nI ((rmN T d k) j_)))), (aRN, .inl (cyI, 20, .inl (rmI nm d k))), (aRL, .inl (cyI, 20, .inl (rmI lo d k))), (aRU, .inl (cyI, 20, .inl (rmI up d k)))]) hD hS hA [0, 1, 2, 3, 4, 5] rfl
        refine va_callv (va_runV (As := [.int (nI ((d + 1 + k) - 1)), .ref aR, .int (nI (d + 1 + k))]) (rest := []) ⟨hx, hb, hml, hown, hts⟩ (c_X1_copyRowSelf l dC dI cyI cyZ cyJ cyD aR aRF aRT aRN aRL aRU H.size (rmN F d k) (rmN T d k) (rmI nm d k) (rmI lo d k) (rmI up d k) cnt ((d + 1 + k) - 1) (d + 1 + k) g12 g13) (cwV 3 hts gX1_removeAt_X1_copyRow rfl rfl rfl (by decide +kernel) ⟨Nat.le_of_ble_eq_true rfl, Nat.le_of_ble_eq_true rfl⟩) ⟨fun a U g mk q => by obtain ⟨q0, q1, qP, qK, qD⟩ := q; exact ⟨q0, q1, qP, va_K.moved (u := U) (U := U.calling g mk a) (Vm.Alike.refl U.vm) qK, qD⟩, va_recv hK hPc (ci := 1) (q0 := 0) rfl rfl, fun U hU hW => ⟨rfl, by rw [hU], by rw [hU]; exact hPc, va_K.moved hW.alike hK, hDc.weaken (fun _ _ _ _ => trivial)⟩⟩ rfl rfl hl.1 rfl (lv_room (Nat.le_of_ble_eq_true rfl)) dX1_removeAt_18 ⟨Nat.le_of_ble_eq_true rfl, Nat.le_of_ble_eq_true rfl⟩) hS (fun q _ h => hFc q h) hFc (fun  u t H1 locs ht hvm hw hB hz1 hk1 hS => ?_)
        obtain ⟨hP1, hK1, hD1⟩ := hB
        rw [ht] at hP1
        obtain ⟨hP, hD⟩ := va_join (wr := []) (w1 := [(aR, .inr (1, [.ref aRF, .ref aRT, .ref aRN, .ref aRL, .ref aRU, .int (nI cnt)])), (aRF, .inl (cyI, 20, .inl (fun j_ => nI ((updN (rmN F d k) ((d + 1 + k) - 1) ((rmN F d k) (d + 1 + k))) j_)))), (aRT, .inl (cyI, 20, .inl (fun j_ => nI ((updN (rmN T d k) ((d + 1 + k) - 1) ((rmN T d k) (d + 1 + k))) j_)))), (aRN, .inl (cyI, 20, .inl (upd (rmI nm d k) ((d + 1 + k) - 1) ((rmI nm d k) (d + 1 + k))))), (aRL, .inl (cyI, 20, .inl (upd (rmI lo d k) ((d + 1 + k) - 1) ((rmI lo d k) (d + 1 + k))))), (aRU, .inl (cyI, 20, .inl (upd (rmI up d k) ((d + 1 + k) - 1) ((rmI up d k) (d + 1 + k)))))]) hP hD [0, 1, 2, 3, 4, 5] [] rfl rfl (by decide) (by decide) hk1 hFc hP1 hD1
        clear hP1 hD1 hK1 hPc hDc hFc hk1 hz1 hvm ht u t
        generalize H1 = H at hP hS ⊢
        have hP : va_P (dC, dI) vwCl [(aR, .inr (1, [.ref aRF, .ref aRT, .ref aRN, .ref aRL, .ref aRU, .int (nI cnt)])), (aRF, .inl (cyI, 20, .inl (fun j_ => nI ((updN (rmN F d k) ((d + 1 + k) - 1) ((rmN F d k) (d + 1 + k))) j_)))), (aRT, .inl (cyI, 20, .inl (fun j_ => nI ((updN (rmN T d k) ((d + 1 + k) - 1) ((rmN T d k) (d + 1 + k))) j_)))), (aRN, .inl (cyI, 20, .inl (upd (rmI nm d k) ((d + 1 + k) - 1) ((rmI nm d k) (d + 1 + k))))), (aRL, .inl (cyI, 20, .inl (upd (rmI lo d k) ((d + 1 + k) - 1) ((rmI lo d k) (d + 1 + k))))), (aRU, .inl (cyI, 20, .inl (upd (rmI up d k) ((d + 1 + k) - 1) ((rmI up d k) (d + 1 + k)))))] H := hP
        have hD : va_D A [(aR, .inr (1, [.ref aRF, .ref aRT, .ref aRN, .ref aRL, .ref aRU, .int (nI cnt)])), (aRF, .inl (cyI, 20, .inl (fun j_ => nI ((updN (rmN F d k) ((d + 1 + k) - 1) ((rmN F d k) (d + 1 + k))) j_)))), (aRT, .inl (cyI, 20, .inl (fun j_ => nI ((updN (rmN T d k) ((d + 1 + k) - 1) ((rmN T d k) (d + 1 + k))) j_)))), (aRN, .inl (cyI, 20, .inl (upd (rmI nm d k) ((d + 1 + k) - 1) ((rmI nm d k) (d + 1 + k))))), (aRL, .inl (cyI, 20, .inl (upd (rmI lo d k) ((d + 1 + k) - 1) ((rmI lo d k) (d + 1 + k))))), (aRU, .inl (cyI, 20, .inl (upd (rmI up d k) ((d + 1 + k) - 1) ((rmI up d k) (d + 1 + k)))))] := hD
        refine lv_iinc (v := nI (d + 1 + k + 1)) (lv' := [(2, .int (nI (d + 1 + k + 1))), (0, .ref aR), (1, .int (nI d))]) hx hb dX1_removeAt_21 hl (k := 2) rfl (nI_add (d + 1 + k) 1) (by decide) rfl (fun ls hl => ?_)
        refine lv_goto (tgt := 4) hx hb dX1_removeAt_24 (by decide) ?_
        have q14 : (rmN F d (k + 1)) = (updN (rmN F d k) ((d + 1 + k) - 1) ((rmN F d k) (d + 1 + k))) := by simp only [rmN, rmI, show d + 1 + k - 1 = d + k by omega]
        have q15 : (rmN T d (k + 1)) = (updN (rmN T d k) ((d + 1 + k) - 1) ((rmN T d k) (d + 1 + k))) := by simp only [rmN, rmI, show d + 1 + k - 1 = d + k by omega]
        have q16 : (rmI nm d (k + 1)) = (upd (rmI nm d k) ((d + 1 + k) - 1) ((rmI nm d k) (d + 1 + k))) := by simp only [rmN, rmI, show d + 1 + k - 1 = d + k by omega]
        have q17 : (rmI lo d (k + 1)) = (upd (rmI lo d k) ((d + 1 + k) - 1) ((rmI lo d k) (d + 1 + k))) := by simp only [rmN, rmI, show d + 1 + k - 1 = d + k by omega]
        have q18 : (rmI up d (k + 1)) = (upd (rmI up d k) ((d + 1 + k) - 1) ((rmI up d k) (d + 1 + k))) := by simp only [rmN, rmI, show d + 1 + k - 1 = d + k by omega]
        have q19 : (nI (d + 1 + (k + 1))) = (nI (d + 1 + k + 1)) := by congr 1
        exact ih4 (k + 1) (by omega) (by first | assumption | omega) _ _ _ (by first | (rw [q14, q15, q16, q17, q18]; exact hP) | (simp only [q14, q15, q16, q17, q18]; exact hP) | exact hP) (by first | (rw [q14, q15, q16, q17, q18]; exact hD) | (simp only [q14, q15, q16, q17, q18]; exact hD) | exact hD) hS (by first | (rw [q19]; exact lv_sub hl [1, 2, 0] rfl) | (simp only [q19]; exact lv_sub hl [1, 2, 0] rfl) | exact lv_sub hl [1, 2, 0] rfl)
  have q20 : (rmN F d 0) = F := by rfl
  have q21 : (rmN T d 0) = T := by rfl
  have q22 : (rmI nm d 0) = nm := by rfl
  have q23 : (rmI lo d 0) = lo := by rfl
  have q24 : (rmI up d 0) = up := by rfl
  have q25 : (nI (d + 1 + 0)) = (nI (d + 1)) := by rfl
  exact k4 (cnt - 0 + 1) 0 (Nat.lt_succ_self _) (by first | assumption | omega) _ _ _ (by first | (rw [q20, q21, q22, q23, q24]; exact hP) | (simp only [q20, q21, q22, q23, q24]; exact hP) | exact hP) (by first | (rw [q20, q21, q22, q23, q24]; exact hD) | (simp only [q20, q21, q22, q23, q24]; exact hD) | exact hD) hS (by first | (rw [q25]; exact lv_sub hl [1, 2, 0] rfl) | (simp only [q25]; exact lv_sub hl [1, 2, 0] rfl) | exact lv_sub hl [1, 2, 0] rfl)
set_option maxHeartbeats 4000000 in
set_option maxRecDepth 100000 in
theorem c_X2_findParts (l : Launch) (dC : Nat → ClassId) (dI : Nat → Nat → Nat) (cyI cyZ cyJ cyD : ClassId) (aD aR aDL aDD aRF aRT aRN aRL aRU : Nat) (zH : Nat) (n : Nat) (P : Nat → Nat) (dd : Nat → Bool) (F : Nat → Nat) (T : Nat → Nat) (cnt : Nat) (hn : n ≤ 12) (hc : cnt ≤ 20) (hF : ∀ d_q, d_q < cnt → F d_q < n) (hT : ∀ d_q, d_q < cnt → T d_q < n) : Met l yX2_findParts wsX2_findParts ({ frames := 1, cells := 0, slots := 0, locals := 24 } : Room) (va_Pc [.ref aD] (fun U => U.heap.size = zH ∧ va_P (dC, dI) vwCl [(aD, .inr (2, [.ref aR, .ref aDL, .ref aDD, .int (nI n)])), (aDL, .inl (cyI, 12, .inl (fun j_ => nI (P j_)))), (aDD, .inl (cyZ, 20, .inl (fun j_ => bI (dd j_)))), (aR, .inr (1, [.ref aRF, .ref aRT, .ref aRN, .ref aRL, .ref aRU, .int (nI cnt)])), (aRF, .inl (cyI, 20, .inl (fun j_ => nI (F j_)))), (aRT, .inl (cyI, 20, .inl (fun j_ => nI (T j_))))] U.heap ∧ va_K (dC, dI) vwCl [(cyI, .int), (cyZ, .boolean), (cyJ, .long), (cyD, .double)] U ∧ va_D (fun _ => True) [(aD, .inr (2, [.ref aR, .ref aDL, .ref aDD, .int (nI n)])), (aDL, .inl (cyI, 12, .inl (fun j_ => nI (P j_)))), (aDD, .inl (cyZ, 20, .inl (fun j_ => bI (dd j_)))), (aR, .inr (1, [.ref aRF, .ref aRT, .ref aRN, .ref aRL, .ref aRU, .int (nI cnt)])), (aRF, .inl (cyI, 20, .inl (fun j_ => nI (F j_)))), (aRT, .inl (cyI, 20, .inl (fun j_ => nI (T j_))))])) (va_Qv (fun _ : Unit => True) (fun _ t => va_P (dC, dI) vwCl [(aD, .inr (2, [.ref aR, .ref aDL, .ref aDD, .int (nI n)])), (aDL, .inl (cyI, 12, .inl (fun j_ => nI ((fpP F T n (fpI P n) cnt) j_)))), (aDD, .inl (cyZ, 20, .inl (fun j_ => bI ((fpD F T n (fpI P n) dd cnt) j_)))), (aR, .inr (1, [.ref aRF, .ref aRT, .ref aRN, .ref aRL, .ref aRU, .int (nI cnt)])), (aRF, .inl (cyI, 20, .inl (fun j_ => nI (F j_)))), (aRT, .inl (cyI, 20, .inl (fun j_ => nI (T j_))))] t.heap ∧ va_K (dC, dI) vwCl [(cyI, .int), (cyZ, .boolean), (cyJ, .long), (cyD, .double)] t ∧ va_D (va_A [(aD, .inr (2, [.ref aR, .ref aDL, .ref aDD, .int (nI n)])), (aDL, .inl (cyI, 12, .inl (fun j_ => nI (P j_)))), (aDD, .inl (cyZ, 20, .inl (fun j_ => bI (dd j_)))), (aR, .inr (1, [.ref aRF, .ref aRT, .ref aRN, .ref aRL, .ref aRU, .int (nI cnt)])), (aRF, .inl (cyI, 20, .inl (fun j_ => nI (F j_)))), (aRT, .inl (cyI, 20, .inl (fun j_ => nI (T j_))))] zH) [(aD, .inr (2, [.ref aR, .ref aDL, .ref aDD, .int (nI n)])), (aDL, .inl (cyI, 12, .inl (fun j_ => nI ((fpP F T n (fpI P n) cnt) j_)))), (aDD, .inl (cyZ, 20, .inl (fun j_ => bI ((fpD F T n (fpI P n) dd cnt) j_)))), (aR, .inr (1, [.ref aRF, .ref aRT, .ref aRN, .ref aRL, .ref aRU, .int (nI cnt)])), (aRF, .inl (cyI, 20, .inl (fun j_ => nI (F j_)))), (aRT, .inl (cyI, 20, .inl (fun j_ => nI (T j_))))]) (va_A [(aD, .inr (2, [.ref aR, .ref aDL, .ref aDD, .int (nI n)])), (aDL, .inl (cyI, 12, .inl (fun j_ => nI (P j_)))), (aDD, .inl (cyZ, 20, .inl (fun j_ => bI (dd j_)))), (aR, .inr (1, [.ref aRF, .ref aRT, .ref aRN, .ref aRL, .ref aRU, .int (nI cnt)])), (aRF, .inl (cyI, 20, .inl (fun j_ => nI (F j_)))), (aRT, .inl (cyI, 20, .inl (fun j_ => nI (T j_))))] zH)) 0 0 (va_A [(aD, .inr (2, [.ref aR, .ref aDL, .ref aDD, .int (nI n)])), (aDL, .inl (cyI, 12, .inl (fun j_ => nI (P j_)))), (aDD, .inl (cyZ, 20, .inl (fun j_ => bI (dd j_)))), (aR, .inr (1, [.ref aRF, .ref aRT, .ref aRN, .ref aRL, .ref aRU, .int (nI cnt)])), (aRF, .inl (cyI, 20, .inl (fun j_ => nI (F j_)))), (aRT, .inl (cyI, 20, .inl (fun j_ => nI (T j_))))] zH) := by
  refine Met.ofW (cc := cX2_findParts) (maxL := 4) (ret := none) (by decide) rfl ?_
  intro pM eM s mM args blM mtM cM s₁ BM hml hv
  obtain ⟨rfl, hsz, hP, hK, hD0⟩ := hv
  have hx := BM.exec
  have hb := BM.bytes
  have hr := BM.returns
  have hts := atoms_spec (ws := wsX2_findParts) BM.pre
  have hown : s.vm.findClass RX2 = some mM.cls := findClass_of_methodNamed BM.named
  have hlocks := BM.notSynchronized
  have w0 := hts (.fieldLink RX2 30 "DimensionChecker$Drawing" "faces" "I") (by decide +kernel)
  have w1 := hts (.fieldLink RX2 12 "DimensionChecker$Drawing" "rows" "LDimensionChecker$Dimensions;") (by decide +kernel)
  have w2 := hts (.fieldLink RX2 34 "DimensionChecker$Dimensions" "count" "I") (by decide +kernel)
  have w3 := hts (.fieldLink RX2 18 "DimensionChecker$Drawing" "lowestFace" "[I") (by decide +kernel)
  have w4 := hts (.fieldLink RX2 40 "DimensionChecker$Dimensions" "from" "[I") (by decide +kernel)
  have w5 := hts (.fieldLink RX2 43 "DimensionChecker$Dimensions" "to" "[I") (by decide +kernel)
  have w6 := hts (.fieldLink RX2 22 "DimensionChecker$Drawing" "doubled" "[Z") (by decide +kernel)
  have w7 := hts (.methodLink RX2 46 Lib.Math.max.name) (by decide +kernel)
  have w8 := hts (.static Lib.Math.max.name) (by decide +kernel)
  have w9 := hts (.initialized "java/lang/Math") (by decide +kernel)
  have w10 := hts (.code Lib.Math.max.name Lib.Math.max.code 2 (some .int)) (by decide +kernel)
  have w11 := hts (.methodLink RX2 52 Lib.Math.min.name) (by decide +kernel)
  have w12 := hts (.static Lib.Math.min.name) (by decide +kernel)
  have w13 := hts (.code Lib.Math.min.name Lib.Math.min.code 2 (some .int)) (by decide +kernel)
  have iX2 : ∀ w ∈ wsX20, w ∈ wsX2_findParts := by decide +kernel
  have iX1 : ∀ w ∈ wsX10, w ∈ wsX2_findParts := by decide +kernel
  subst hsz
  have hD := hD0.self (sz := s.heap.size)
  obtain ⟨Q, hQe⟩ : ∃ Q : State → Prop, Q = MQ blM (va_Qv (fun _ : Unit => True) (fun _ t => va_P (dC, dI) vwCl [(aD, .inr (2, [.ref aR, .ref aDL, .ref aDD, .int (nI n)])), (aDL, .inl (cyI, 12, .inl (fun j_ => nI ((fpP F T n (fpI P n) cnt) j_)))), (aDD, .inl (cyZ, 20, .inl (fun j_ => bI ((fpD F T n (fpI P n) dd cnt) j_)))), (aR, .inr (1, [.ref aRF, .ref aRT, .ref aRN, .ref aRL, .ref aRU, .int (nI cnt)])), (aRF, .inl (cyI, 20, .inl (fun j_ => nI (F j_)))), (aRT, .inl (cyI, 20, .inl (fun j_ => nI (T j_))))] t.heap ∧ va_K (dC, dI) vwCl [(cyI, .int), (cyZ, .boolean), (cyJ, .long), (cyD, .double)] t ∧ va_D (va_A [(aD, .inr (2, [.ref aR, .ref aDL, .ref aDD, .int (nI n)])), (aDL, .inl (cyI, 12, .inl (fun j_ => nI (P j_)))), (aDD, .inl (cyZ, 20, .inl (fun j_ => bI (dd j_)))), (aR, .inr (1, [.ref aRF, .ref aRT, .ref aRN, .ref aRL, .ref aRU, .int (nI cnt)])), (aRF, .inl (cyI, 20, .inl (fun j_ => nI (F j_)))), (aRT, .inl (cyI, 20, .inl (fun j_ => nI (T j_))))] s.heap.size) [(aD, .inr (2, [.ref aR, .ref aDL, .ref aDD, .int (nI n)])), (aDL, .inl (cyI, 12, .inl (fun j_ => nI ((fpP F T n (fpI P n) cnt) j_)))), (aDD, .inl (cyZ, 20, .inl (fun j_ => bI ((fpD F T n (fpI P n) dd cnt) j_)))), (aR, .inr (1, [.ref aRF, .ref aRT, .ref aRN, .ref aRL, .ref aRU, .int (nI cnt)])), (aRF, .inl (cyI, 20, .inl (fun j_ => nI (F j_)))), (aRT, .inl (cyI, 20, .inl (fun j_ => nI (T j_))))]) (va_A [(aD, .inr (2, [.ref aR, .ref aDL, .ref aDD, .int (nI n)])), (aDL, .inl (cyI, 12, .inl (fun j_ => nI (P j_)))), (aDD, .inl (cyZ, 20, .inl (fun j_ => bI (dd j_)))), (aR, .inr (1, [.ref aRF, .ref aRT, .ref aRN, .ref aRL, .ref aRU, .int (nI cnt)])), (aRF, .inl (cyI, 20, .inl (fun j_ => nI (F j_)))), (aRT, .inl (cyI, 20, .inl (fun j_ => nI (T j_))))] s.heap.size)) ([.ref aD] : List Value).toArray s 0 0 (va_A [(aD, .inr (2, [.ref aR, .ref aDL, .ref aDD, .int (nI n)])), (aDL, .inl (cyI, 12, .inl (fun j_ => nI (P j_)))), (aDD, .inl (cyZ, 20, .inl (fun j_ => bI (dd j_)))), (aR, .inr (1, [.ref aRF, .ref aRT, .ref aRN, .ref aRL, .ref aRU, .int (nI cnt)])), (aRF, .inl (cyI, 20, .inl (fun j_ => nI (F j_)))), (aRT, .inl (cyI, 20, .inl (fun j_ => nI (T j_))))] s.heap.size) := ⟨_, rfl⟩
  rw [← hQe]
  generalize hAe : va_A [(aD, .inr (2, [.ref aR, .ref aDL, .ref aDD, .int (nI n)])), (aDL, .inl (cyI, 12, .inl (fun j_ => nI (P j_)))), (aDD, .inl (cyZ, 20, .inl (fun j_ => bI (dd j_)))), (aR, .inr (1, [.ref aRF, .ref aRT, .ref aRN, .ref aRL, .ref aRU, .int (nI cnt)])), (aRF, .inl (cyI, 20, .inl (fun j_ => nI (F j_)))), (aRT, .inl (cyI, 20, .inl (fun j_ => nI (T j_))))] s.heap.size = A at hD hQe
  have hA : ∀ q : Nat, s.heap.size ≤ q → A q := fun q h => by rw [← hAe]; exact Or.inr h
  obtain ⟨H, hHe⟩ : ∃ H : Heap, H = s.heap := ⟨_, rfl⟩
  have hS : va_S A s.heap H [] := by rw [hHe]; exact va_S.rf
  rw [← hHe] at hP ⊢
  have hl := lv_entry ([.ref aD]) (n := 4) (Nat.le_of_ble_eq_true rfl)
  rw [lg_entry_eq]
  generalize (lg_sl ([.ref aD]) ++ List.replicate (4 - (lg_sl ([.ref aD])).length) Slot.unset).toArray = ls at hl ⊢
  have hl : lv_has ls 4 [(0, .ref aD)] := hl
  refine lv_iconst (v := 0) hx hb dX2_findParts_0 (by decide) ?_
  refine lv_istore_n (lv' := [(1, .int 0), (0, .ref aD)]) hx hb dX2_findParts_1 rfl hl (by decide) rfl (fun ls hl => ?_)
  have k2 : ∀ (fuel : Nat) (i : Nat) (hfuel : n - i < fuel) (hi : i ≤ n) (H : Heap) (locs : List Loc) (ls : Array Slot), va_P (dC, dI) vwCl [(aD, .inr (2, [.ref aR, .ref aDL, .ref aDD, .int (nI n)])), (aDL, .inl (cyI, 12, .inl (fun j_ => nI ((fpI P i) j_)))), (aDD, .inl (cyZ, 20, .inl (fun j_ => bI (dd j_)))), (aR, .inr (1, [.ref aRF, .ref aRT, .ref aRN, .ref aRL, .ref aRU, .int (nI cnt)])), (aRF, .inl (cyI, 20, .inl (fun j_ => nI (F j_)))), (aRT, .inl (cyI, 20, .inl (fun j_ => nI (T j_))))] H → va_D A [(aD, .inr (2, [.ref aR, .ref aDL, .ref aDD, .int (nI n)])), (aDL, .inl (cyI, 12, .inl (fun j_ => nI ((fpI P i) j_)))), (aDD, .inl (cyZ, 20, .inl (fun j_ => bI (dd j_)))), (aR, .inr (1, [.ref aRF, .ref aRT, .ref aRN, .ref aRL, .ref aRU, .int (nI cnt)])), (aRF, .inl (cyI, 20, .inl (fun j_ => nI (F j_)))), (aRT, .inl (cyI, 20, .inl (fun j_ => nI (T j_))))] → va_S A s.heap H locs → lv_has ls 4 [(0, .ref aD), (1, .int (nI i))] → W pM l eM (headSpec wsX2_findParts ({ frames := 1, cells := 0, slots := 0, locals := 24 } : Room)).room s mM ([.ref aD] : List Value).toArray blM mtM cM H locs 0 0 Q (F0 mM 2 ls []) := by
    intro fuel
    induction fuel with
    | zero => intro i hfuel; exact absurd hfuel (Nat.not_lt_zero _)
    | succ fuel ih2 =>
      intro i hfuel hi H locs ls hP hD hS hl
      refine lv_iload_n hx hb dX2_findParts_2 rfl (lv_at hl 1 rfl) ?_
      refine lv_aload_n hx hb dX2_findParts_3 rfl (lv_at hl 0 rfl) ?_
      refine va_get (D := (dC, dI)) (ci := 2) (v := .int (nI n)) (C := RX2) (T := TX2) (N := 4) hx hb hts iX2 hown hK hP 0 rfl rfl 3 (by decide) w0 (fun _ h9 => h9) rfl dX2_findParts_4 ?_
      refine lv_icmp_ge (tgt := 23) hx hb dX2_findParts_7 (by decide) (fun c7 => ?_) (fun c7 => ?_)
      · have c7 := n_le (a := n) (b := i) (by omega) (by omega) c7
        have e9 : i = n := (by omega)
        refine lv_iconst (v := 0) hx hb dX2_findParts_23 (by decide) ?_
        refine lv_istore_n (lv' := [(1, .int 0), (0, .ref aD)]) hx hb dX2_findParts_24 rfl hl (by decide) rfl (fun ls hl => ?_)
        have k25 : ∀ (fuel : Nat) (d : Nat) (hfuel : cnt - d < fuel) (hd0 : d ≤ cnt) (H : Heap) (locs : List Loc) (ls : Array Slot), va_P (dC, dI) vwCl [(aD, .inr (2, [.ref aR, .ref aDL, .ref aDD, .int (nI n)])), (aDL, .inl (cyI, 12, .inl (fun j_ => nI ((fpP F T n (fpI P n) d) j_)))), (aDD, .inl (cyZ, 20, .inl (fun j_ => bI ((fpD F T n (fpI P n) dd d) j_)))), (aR, .inr (1, [.ref aRF, .ref aRT, .ref aRN, .ref aRL, .ref aRU, .int (nI cnt)])), (aRF, .inl (cyI, 20, .inl (fun j_ => nI (F j_)))), (aRT, .inl (cyI, 20, .inl (fun j_ => nI (T j_))))] H → va_D A [(aD, .inr (2, [.ref aR, .ref aDL, .ref aDD, .int (nI n)])), (aDL, .inl (cyI, 12, .inl (fun j_ => nI ((fpP F T n (fpI P n) d) j_)))), (aDD, .inl (cyZ, 20, .inl (fun j_ => bI ((fpD F T n (fpI P n) dd d) j_)))), (aR, .inr (1, [.ref aRF, .ref aRT, .ref aRN, .ref aRL, .ref aRU, .int (nI cnt)])), (aRF, .inl (cyI, 20, .inl (fun j_ => nI (F j_)))), (aRT, .inl (cyI, 20, .inl (fun j_ => nI (T j_))))] → va_S A s.heap H locs → lv_has ls 4 [(0, .ref aD), (1, .int (nI d))] → W pM l eM (headSpec wsX2_findParts ({ frames := 1, cells := 0, slots := 0, locals := 24 } : Room)).room s mM ([.ref aD] : List Value).toArray blM mtM cM H locs 0 0 Q (F0 mM 25 ls []) := by
          intro fuel
          induction fuel with
          | zero => intro d hfuel; exact absurd hfuel (Nat.not_lt_zero _)
          | succ fuel ih25 =>
            intro d hfuel hd0 H locs ls hP hD hS hl
            refine lv_iload_n hx hb dX2_findParts_25 rfl (lv_at hl 1 rfl) ?_
            refine lv_aload_n hx hb dX2_findParts_26 rfl (lv_at hl 0 rfl) ?_
            refine va_get (D := (dC, dI)) (ci := 2) (v := .ref aR) (C := RX2) (T := TX2) (N := 4) hx hb hts iX2 hown hK hP 0 rfl rfl 0 (by decide) w1 (fun _ h9 => h9) rfl dX2_findParts_27 ?_
            refine va_get (D := (dC, dI)) (ci := 1) (v := .int (nI cnt)) (C := RX1) (T := TX1) (N := 6) hx hb hts iX1 hown hK hP 3 rfl rfl 5 (by decide) w2 (fun _ h9 => h9) rfl dX2_findParts_30 ?_
            refine lv_icmp_ge (tgt := 102) hx hb dX2_findParts_33 (by decide) (fun c33 => ?_) (fun c33 => ?_)
            · have c33 := n_le (a := cnt) (b := d) (by omega) (by omega) c33
              have e8 : d = cnt := (by omega)
              have q1 : (fpP F T n (fpI P n) cnt) = (fpP F T n (fpI P n) d) := by rw [e8]
              have q2 : (fpD F T n (fpI P n) dd cnt) = (fpD F T n (fpI P n) dd d) := by rw [e8]
              have hP9 : va_P (dC, dI) vwCl [(aD, .inr (2, [.ref aR, .ref aDL, .ref aDD, .int (nI n)])), (aDL, .inl (cyI, 12, .inl (fun j_ => nI ((fpP F T n (fpI P n) cnt) j_)))), (aDD, .inl (cyZ, 20, .inl (fun j_ => bI ((fpD F T n (fpI P n) dd cnt) j_)))), (aR, .inr (1, [.ref aRF, .ref aRT, .ref aRN, .ref aRL, .ref aRU, .int (nI cnt)])), (aRF, .inl (cyI, 20, .inl (fun j_ => nI (F j_)))), (aRT, .inl (cyI, 20, .inl (fun j_ => nI (T j_))))] H := by first | (rw [q1, q2]; exact hP.sub [0, 1, 2, 3, 4, 5] rfl) | (simp only [q1, q2]; exact hP.sub [0, 1, 2, 3, 4, 5] rfl) | exact hP.sub [0, 1, 2, 3, 4, 5] rfl
              have hD9 : va_D A [(aD, .inr (2, [.ref aR, .ref aDL, .ref aDD, .int (nI n)])), (aDL, .inl (cyI, 12, .inl (fun j_ => nI ((fpP F T n (fpI P n) cnt) j_)))), (aDD, .inl (cyZ, 20, .inl (fun j_ => bI ((fpD F T n (fpI P n) dd cnt) j_)))), (aR, .inr (1, [.ref aRF, .ref aRT, .ref aRN, .ref aRL, .ref aRU, .int (nI cnt)])), (aRF, .inl (cyI, 20, .inl (fun j_ => nI (F j_)))), (aRT, .inl (cyI, 20, .inl (fun j_ => nI (T j_))))] := by first | (rw [q1, q2]; exact hD.sub [0, 1, 2, 3, 4, 5] (by decide) rfl) | (simp only [q1, q2]; exact hD.sub [0, 1, 2, 3, 4, 5] (by decide) rfl) | exact hD.sub [0, 1, 2, 3, 4, 5] (by decide) rfl
              subst hAe
              subst hQe
              exact W.vret hx hb hr (fun t ht hW => ⟨⟨(), rfl, trivial, by rw [ht]; exact hP9, va_K.moved hW.alike hK, hD9⟩, hS.F ht⟩) hS.2.2 dX2_findParts_102
            · have c33 := n_nle (a := cnt) (b := d) (by omega) (by omega) c33
              have hF1 := hF d c33
              have hT1 := hT d c33
              have hlt := fpP_lt (P := P) hF hT d hd0
              have hFl := hlt _ hF1
              have hTl := hlt _ hT1
              refine lv_aload_n hx hb dX2_findParts_36 rfl (lv_at hl 0 rfl) ?_
              refine va_get (D := (dC, dI)) (ci := 2) (v := .ref aDL) (C := RX2) (T := TX2) (N := 4) hx hb hts iX2 hown hK hP 0 rfl rfl 1 (by decide) w3 (fun _ h9 => h9) rfl dX2_findParts_37 ?_
              refine lv_aload_n hx hb dX2_findParts_40 rfl (lv_at hl 0 rfl) ?_
              refine va_get (D := (dC, dI)) (ci := 2) (v := .ref aR) (C := RX2) (T := TX2) (N := 4) hx hb hts iX2 hown hK hP 0 rfl rfl 0 (by decide) w1 (fun _ h9 => h9) rfl dX2_findParts_41 ?_
              refine va_get (D := (dC, dI)) (ci := 1) (v := .ref aRF) (C := RX1) (T := TX1) (N := 6) hx hb hts iX1 hown hK hP 3 rfl rfl 0 (by decide) w4 (fun _ h9 => h9) rfl dX2_findParts_44 ?_
              refine lv_iload_n hx hb dX2_findParts_47 rfl (lv_at hl 1 rfl) ?_
              have h3 : vp_in (nI d) 20 := by first | exact vp_in_nI (by omega) (by omega) | assumption
              refine va_iald hx hb hK hP 4 0 rfl rfl h3 dX2_findParts_48 ?_
              refine lv_topi (fun x4 e5 => ?_)
              obtain rfl : x4 = (nI (F d)) := by rw [e5, nI_clamp (by omega)]
              clear e5
              have h6 : vp_in (nI (F d)) 12 := by first | exact vp_in_nI (by omega) (by omega) | assumption
              refine va_iald hx hb hK hP 1 0 rfl rfl h6 dX2_findParts_49 ?_
              refine lv_topi (fun x7 e8 => ?_)
              obtain rfl : x7 = (nI ((fpP F T n (fpI P n) d) (F d))) := by rw [e8, nI_clamp (by omega)]
              clear e8
              refine lv_istore_n (lv' := [(2, .int (nI ((fpP F T n (fpI P n) d) (F d)))), (0, .ref aD), (1, .int (nI d))]) hx hb dX2_findParts_50 rfl hl (by decide) rfl (fun ls hl => ?_)
              refine lv_aload_n hx hb dX2_findParts_51 rfl (lv_at hl 1 rfl) ?_
              refine va_get (D := (dC, dI)) (ci := 2) (v := .ref aDL) (C := RX2) (T := TX2) (N := 4) hx hb hts iX2 hown hK hP 0 rfl rfl 1 (by decide) w3 (fun _ h9 => h9) rfl dX2_findParts_52 ?_
              refine lv_aload_n hx hb dX2_findParts_55 rfl (lv_at hl 1 rfl) ?_
              refine va_get (D := (dC, dI)) (ci := 2) (v := .ref aR) (C := RX2) (T := TX2) (N := 4) hx hb hts iX2 hown hK hP 0 rfl rfl 0 (by decide) w1 (fun _ h9 => h9) rfl dX2_findParts_56 ?_
              refine va_get (D := (dC, dI)) (ci := 1) (v := .ref aRT) (C := RX1) (T := TX1) (N := 6) hx hb hts iX1 hown hK hP 3 rfl rfl 1 (by decide) w5 (fun _ h9 => h9) rfl dX2_findParts_59 ?_
              refine lv_iload_n hx hb dX2_findParts_62 rfl (lv_at hl 2 rfl) ?_
              have h9 : vp_in (nI d) 20 := by first | exact vp_in_nI (by omega) (by omega) | assumption
              refine va_iald hx hb hK hP 5 0 rfl rfl h9 dX2_findParts_63 ?_
              refine lv_topi (fun x10 e11 => ?_)
              obtain rfl : x10 = (nI (T d)) := by rw [e11, nI_clamp (by omega)]
              clear e11
              have h12 : vp_in (nI (T d)) 12 := by first | exact vp_in_nI (by omega) (by omega) | assumption
              refine va_iald hx hb hK hP 1 0 rfl rfl h12 dX2_findParts_64 ?_
              refine lv_topi (fun x13 e14 => ?_)
              obtain rfl : x13 = (nI ((fpP F T n (fpI P n) d) (T d))) := by rw [e14, nI_clamp (by omega)]
              clear e14
              refine lv_istore_n (lv' := [(3, .int (nI ((fpP F T n (fpI P n) d) (T d)))), (2, .int (nI ((fpP F T n (fpI P n) d) (F d)))), (0, .ref aD), (1, .int (nI d))]) hx hb dX2_findParts_65 rfl hl (by decide) rfl (fun ls hl => ?_)
              refine lv_aload_n hx hb dX2_findParts_66 rfl (lv_at hl 2 rfl) ?_
              refine va_get (D := (dC, dI)) (ci := 2) (v := .ref aDD) (C := RX2) (T := TX2) (N := 4) hx hb hts iX2 hown hK hP 0 rfl rfl 2 (by decide) w6 (fun _ h9 => h9) rfl dX2_findParts_67 ?_
              refine lv_iload_n hx hb dX2_findParts_70 rfl (lv_at hl 3 rfl) ?_
              refine lv_iload_n hx hb dX2_findParts_71 rfl (lv_at hl 1 rfl) ?_
              refine lv_iload_n hx hb dX2_findParts_72 rfl (lv_at hl 0 rfl) ?_
              have k81 : ∀ (b8 : Bool) (hb8 : b8 = decide (fpP F T n (fpI P n) d (F d) = fpP F T n (fpI P n) d (T d))) (H : Heap) (locs : List Loc) (ls : Array Slot), va_P (dC, dI) vwCl [(aD, .inr (2, [.ref aR, .ref aDL, .ref aDD, .int (nI n)])), (aDL, .inl (cyI, 12, .inl (fun j_ => nI ((fpP F T n (fpI P n) d) j_)))), (aDD, .inl (cyZ, 20, .inl (fun j_ => bI ((fpD F T n (fpI P n) dd d) j_)))), (aR, .inr (1, [.ref aRF, .ref aRT, .ref aRN, .ref aRL, .ref aRU, .int (nI cnt)])), (aRF, .inl (cyI, 20, .inl (fun j_ => nI (F j_)))), (aRT, .inl (cyI, 20, .inl (fun j_ => nI (T j_))))] H → va_D A [(aD, .inr (2, [.ref aR, .ref aDL, .ref aDD, .int (nI n)])), (aDL, .inl (cyI, 12, .inl (fun j_ => nI ((fpP F T n (fpI P n) d) j_)))), (aDD, .inl (cyZ, 20, .inl (fun j_ => bI ((fpD F T n (fpI P n) dd d) j_)))), (aR, .inr (1, [.ref aRF, .ref aRT, .ref aRN, .ref aRL, .ref aRU, .int (nI cnt)])), (aRF, .inl (cyI, 20, .inl (fun j_ => nI (F j_)))), (aRT, .inl (cyI, 20, .inl (fun j_ => nI (T j_))))] → va_S A s.heap H locs → lv_has ls 4 [(3, .int (nI ((fpP F T n (fpI P n) d) (T d)))), (2, .int (nI ((fpP F T n (fpI P n) d) (F d)))), (0, .ref aD), (1, .int (nI d))] → W pM l eM (headSpec wsX2_findParts ({ frames := 1, cells := 0, slots := 0, locals := 24 } : Room)).room s mM ([.ref aD] : List Value).toArray blM mtM cM H locs 0 0 Q (F0 mM 81 ls [.int (bI b8), .int (nI d), .ref aDD]) := by
                intro b8 hb8 H locs ls hP hD hS hl
                have h15 : vp_in (nI d) 20 := by first | exact vp_in_nI (by omega) (by omega) | assumption
                refine va_zast hx hb hK hP hD hS 2 1 rfl rfl h15 dX2_findParts_81 (fun H locs hP hD hS => ?_)
                rw [nI_clamp (by omega)] at hP hD
                have ub : upd (fun j_ => bI ((fpD F T n (fpI P n) dd d) j_)) d (vp_nar .boolean (bI b8)) = (fun j_ => bI ((updB (fpD F T n (fpI P n) dd d) d b8) j_)) := by first | exact updB_z _ _ _ | (cases b8 <;> exact updB_z _ _ _)
                have hP : va_P (dC, dI) vwCl [(aD, .inr (2, [.ref aR, .ref aDL, .ref aDD, .int (nI n)])), (aDL, .inl (cyI, 12, .inl (fun j_ => nI ((fpP F T n (fpI P n) d) j_)))), (aDD, .inl (cyZ, 20, .inl (fun j_ => bI ((updB (fpD F T n (fpI P n) dd d) d b8) j_)))), (aR, .inr (1, [.ref aRF, .ref aRT, .ref aRN, .ref aRL, .ref aRU, .int (nI cnt)])), (aRF, .inl (cyI, 20, .inl (fun j_ => nI (F j_)))), (aRT, .inl (cyI, 20, .inl (fun j_ => nI (T j_))))] H := by rw [← ub]; exact hP
                have hD : va_D A [(aD, .inr (2, [.ref aR, .ref aDL, .ref aDD, .int (nI n)])), (aDL, .inl (cyI, 12, .inl (fun j_ => nI ((fpP F T n (fpI P n) d) j_)))), (aDD, .inl (cyZ, 20, .inl (fun j_ => bI ((updB (fpD F T n (fpI P n) dd d) d b8) j_)))), (aR, .inr (1, [.ref aRF, .ref aRT, .ref aRN, .ref aRL, .ref aRU, .int (nI cnt)])), (aRF, .inl (cyI, 20, .inl (fun j_ => nI (F j_)))), (aRT, .inl (cyI, 20, .inl (fun j_ => nI (T j_))))] := by rw [← ub]; exact hD
                refine lv_aload_n hx hb dX2_findParts_82 rfl (lv_at hl 2 rfl) ?_
                refine lv_iload_n hx hb dX2_findParts_83 rfl (lv_at hl 1 rfl) ?_
                refine lv_iload_n hx hb dX2_findParts_84 rfl (lv_at hl 0 rfl) ?_
                refine va_mmax hx hb (by rw [hml]; exact hl.1.symm) hown w7 w8 w9 w10 (Nat.le_of_ble_eq_true rfl) (Nat.le_of_ble_eq_true rfl) (Nat.le_of_ble_eq_true rfl) (Nat.le_of_ble_eq_true rfl) dX2_findParts_85 ?_
                refine lv_topi (fun x17 e18 => ?_)
                obtain rfl : x17 = (nI (max ((fpP F T n (fpI P n) d) (F d)) ((fpP F T n (fpI P n) d) (T d)))) := by rw [e18]; exact mx_n (by omega) (by omega)
                clear e18
                refine lv_iload_n hx hb dX2_findParts_88 rfl (lv_at hl 1 rfl) ?_
                refine lv_iload_n hx hb dX2_findParts_89 rfl (lv_at hl 0 rfl) ?_
                refine va_mmin hx hb (by rw [hml]; exact hl.1.symm) hown w11 w12 w9 w13 (Nat.le_of_ble_eq_true rfl) (Nat.le_of_ble_eq_true rfl) (Nat.le_of_ble_eq_true rfl) (Nat.le_of_ble_eq_true rfl) dX2_findParts_90 ?_
                refine lv_topi (fun x20 e21 => ?_)
                obtain rfl : x20 = (nI (min ((fpP F T n (fpI P n) d) (F d)) ((fpP F T n (fpI P n) d) (T d)))) := by rw [e21]; exact mn_n (by omega) (by omega)
                clear e21
                have g22 : n ≤ 12 := by first | assumption | omega | exact vp_in_nI (by omega) (by omega)
                have g23 : (max ((fpP F T n (fpI P n) d) (F d)) ((fpP F T n (fpI P n) d) (T d))) < 12 := by omega
                have g24 : (min ((fpP F T n (fpI P n) d) (F d)) ((fpP F T n (fpI P n) d) (T d))) < 12 := by omega
                have g25 : ∀ i_q, i_q < n → (fpP F T n (fpI P n) d) i_q < 12 := by exact fun j hj => Nat.lt_of_lt_of_le (hlt j hj) hn
                have hPc := hP.sub (ws' := [(aD, .inr (2, [.ref aR, .ref aDL, .ref aDD, .int (nI n)])), (aDL, .inl (cyI, 12, .inl (fun j_ => nI ((fpP F T n (fpI P n) d) j_))))]) [0, 1] rfl
                have hDc := hD.sub (ws' := [(aD, .inr (2, [.ref aR, .ref aDL, .ref aDD, .int (nI n)])), (aDL, .inl (cyI, 12, .inl (fun j_ => nI ((fpP F T n (fpI P n) d) j_))))]) [0, 1] (by decide) rfl
                have hFc := va_free (wc := [(aD, .inr (2, [.ref aR, .ref aDL, .ref aDD, .int (nI n)])), (aDL, .inl (cyI, 12, .inl (fun j_ => nI ((fpP F T n (fpI P n) d) j_))))]) hD hS hA [0, 1] rfl
                refine va_callv (va_runV (As := [.int (nI (max ((fpP F T n (fpI P n) d) (F d)) ((fpP F T n (fpI P n) d) (T d)))), .int (nI (min ((fpP F T n (fpI P n) d) (F d)) ((fpP F T n (fpI P n) d) (T d))))]) (rest := []) ⟨hx, hb, hml, hown, hts⟩ (c_X2_movePart l dC dI cyI cyZ cyJ cyD aD aR aDL aDD H.size n (fpP F T n (fpI P n) d) (max ((fpP F T n (fpI P n) d) (F d)) ((fpP F T n (fpI P n) d) (T d))) (min ((fpP F T n (fpI P n) d) (F d)) ((fpP F T n (fpI P n) d) (T d))) g22 g23 g24 g25) (cwV 2 hts gX2_findParts_X2_movePart rfl rfl rfl (by decide +kernel) ⟨Nat.le_of_ble_eq_true rfl, Nat.le_of_ble_eq_true rfl⟩) ⟨fun a U g mk q => by obtain ⟨q0, q1, qP, qK, qD⟩ := q; exact ⟨q0, q1, qP, va_K.moved (u := U) (U := U.calling g mk a) (Vm.Alike.refl U.vm) qK, qD⟩, va_recv hK hPc (ci := 2) (q0 := 0) rfl rfl, fun U hU hW => ⟨rfl, by rw [hU], by rw [hU]; exact hPc, va_K.moved hW.alike hK, hDc.weaken (fun _ _ _ _ => trivial)⟩⟩ rfl rfl hl.1 rfl (lv_room (Nat.le_of_ble_eq_true rfl)) dX2_findParts_93 ⟨Nat.le_of_ble_eq_true rfl, Nat.le_of_ble_eq_true rfl⟩) hS (fun q _ h => hFc q h) hFc (fun  u t H1 locs ht hvm hw hB hz1 hk1 hS => ?_)
                obtain ⟨hP1, hK1, hD1⟩ := hB
                rw [ht] at hP1
                obtain ⟨hP, hD⟩ := va_join (wr := [(aDD, .inl (cyZ, 20, .inl (fun j_ => bI ((updB (fpD F T n (fpI P n) dd d) d b8) j_)))), (aR, .inr (1, [.ref aRF, .ref aRT, .ref aRN, .ref aRL, .ref aRU, .int (nI cnt)])), (aRF, .inl (cyI, 20, .inl (fun j_ => nI (F j_)))), (aRT, .inl (cyI, 20, .inl (fun j_ => nI (T j_))))]) (w1 := [(aD, .inr (2, [.ref aR, .ref aDL, .ref aDD, .int (nI n)])), (aDL, .inl (cyI, 12, .inl (fun j_ => nI ((mvP (fpP F T n (fpI P n) d) (max ((fpP F T n (fpI P n) d) (F d)) ((fpP F T n (fpI P n) d) (T d))) (min ((fpP F T n (fpI P n) d) (F d)) ((fpP F T n (fpI P n) d) (T d))) n) j_))))]) hP hD [0, 1] [2, 3, 4, 5] rfl rfl (by decide) (by decide) hk1 hFc hP1 hD1
                clear hP1 hD1 hK1 hPc hDc hFc hk1 hz1 hvm ht u t
                generalize H1 = H at hP hS ⊢
                have hP : va_P (dC, dI) vwCl [(aDD, .inl (cyZ, 20, .inl (fun j_ => bI ((updB (fpD F T n (fpI P n) dd d) d b8) j_)))), (aR, .inr (1, [.ref aRF, .ref aRT, .ref aRN, .ref aRL, .ref aRU, .int (nI cnt)])), (aRF, .inl (cyI, 20, .inl (fun j_ => nI (F j_)))), (aRT, .inl (cyI, 20, .inl (fun j_ => nI (T j_)))), (aD, .inr (2, [.ref aR, .ref aDL, .ref aDD, .int (nI n)])), (aDL, .inl (cyI, 12, .inl (fun j_ => nI ((mvP (fpP F T n (fpI P n) d) (max ((fpP F T n (fpI P n) d) (F d)) ((fpP F T n (fpI P n) d) (T d))) (min ((fpP F T n (fpI P n) d) (F d)) ((fpP F T n (fpI P n) d) (T d))) n) j_))))] H := hP
                have hD : va_D A [(aDD, .inl (cyZ, 20, .inl (fun j_ => bI ((updB (fpD F T n (fpI P n) dd d) d b8) j_)))), (aR, .inr (1, [.ref aRF, .ref aRT, .ref aRN, .ref aRL, .ref aRU, .int (nI cnt)])), (aRF, .inl (cyI, 20, .inl (fun j_ => nI (F j_)))), (aRT, .inl (cyI, 20, .inl (fun j_ => nI (T j_)))), (aD, .inr (2, [.ref aR, .ref aDL, .ref aDD, .int (nI n)])), (aDL, .inl (cyI, 12, .inl (fun j_ => nI ((mvP (fpP F T n (fpI P n) d) (max ((fpP F T n (fpI P n) d) (F d)) ((fpP F T n (fpI P n) d) (T d))) (min ((fpP F T n (fpI P n) d) (F d)) ((fpP F T n (fpI P n) d) (T d))) n) j_))))] := hD
                refine lv_iinc (v := nI (d + 1)) (lv' := [(1, .int (nI (d + 1))), (3, .int (nI ((fpP F T n (fpI P n) d) (T d)))), (2, .int (nI ((fpP F T n (fpI P n) d) (F d)))), (0, .ref aD)]) hx hb dX2_findParts_96 hl (k := 3) rfl (nI_add d 1) (by decide) rfl (fun ls hl => ?_)
                refine lv_goto (tgt := 25) hx hb dX2_findParts_99 (by decide) ?_
                have q26 : (fpP F T n (fpI P n) (d + 1)) = (mvP (fpP F T n (fpI P n) d) (max ((fpP F T n (fpI P n) d) (F d)) ((fpP F T n (fpI P n) d) (T d))) (min ((fpP F T n (fpI P n) d) (F d)) ((fpP F T n (fpI P n) d) (T d))) n) := by rfl
                have q27 : (fpD F T n (fpI P n) dd (d + 1)) = (updB (fpD F T n (fpI P n) dd d) d b8) := by simp only [fpD, hb8]
                exact ih25 (d + 1) (by omega) (by first | assumption | omega) _ _ _ (by first | (rw [q26, q27]; exact hP.sub [4, 5, 0, 1, 2, 3] rfl) | (simp only [q26, q27]; exact hP.sub [4, 5, 0, 1, 2, 3] rfl) | exact hP.sub [4, 5, 0, 1, 2, 3] rfl) (by first | (rw [q26, q27]; exact hD.sub [4, 5, 0, 1, 2, 3] (by decide) rfl) | (simp only [q26, q27]; exact hD.sub [4, 5, 0, 1, 2, 3] (by decide) rfl) | exact hD.sub [4, 5, 0, 1, 2, 3] (by decide) rfl) hS (lv_sub hl [3, 0] rfl)
              refine lv_icmp_ne (tgt := 80) hx hb dX2_findParts_73 (by decide) (fun c73 => ?_) (fun c73 => ?_)
              · have c73 := n_ne (a := (fpP F T n (fpI P n) d) (F d)) (b := (fpP F T n (fpI P n) d) (T d)) (by omega) (by omega) c73
                refine lv_iconst (v := 0) hx hb dX2_findParts_80 (by decide) ?_
                have q28 : (bI (decide (fpP F T n (fpI P n) d (F d) = fpP F T n (fpI P n) d (T d)))) = 0 := by simp [c73, bI]
                refine W.eq (g2 := F0 mM 81 ls [.int (bI (decide (fpP F T n (fpI P n) d (F d) = fpP F T n (fpI P n) d (T d)))), .int (nI d), .ref aDD]) (by rw [q28]) ?_
                exact k81 (decide (fpP F T n (fpI P n) d (F d) = fpP F T n (fpI P n) d (T d))) (by rfl) _ _ _ (hP) (hD) hS (lv_sub hl [0, 1, 2, 3] rfl)
              · have c73 := n_eq (a := (fpP F T n (fpI P n) d) (F d)) (b := (fpP F T n (fpI P n) d) (T d)) (by omega) (by omega) c73
                refine lv_iconst (v := 1) hx hb dX2_findParts_76 (by decide) ?_
                refine lv_goto (tgt := 81) hx hb dX2_findParts_77 (by decide) ?_
                have q29 : (bI (decide (fpP F T n (fpI P n) d (F d) = fpP F T n (fpI P n) d (T d)))) = 1 := by simp [c73, bI]
                refine W.eq (g2 := F0 mM 81 ls [.int (bI (decide (fpP F T n (fpI P n) d (F d) = fpP F T n (fpI P n) d (T d)))), .int (nI d), .ref aDD]) (by rw [q29]) ?_
                exact k81 (decide (fpP F T n (fpI P n) d (F d) = fpP F T n (fpI P n) d (T d))) (by rfl) _ _ _ (hP) (hD) hS (lv_sub hl [0, 1, 2, 3] rfl)
        have q30 : (fpP F T n (fpI P n) 0) = (fpI P i) := by first | rfl | (simp only [fpP]; rw [e9])
        have q31 : (fpD F T n (fpI P n) dd 0) = dd := by rfl
        have q32 : (nI 0) = 0 := by first | rfl | simp [*] | (simp only [*]; done)
        exact k25 (cnt - 0 + 1) 0 (Nat.lt_succ_self _) (by first | assumption | omega) _ _ _ (by first | (rw [q30, q31]; exact hP) | (simp only [q30, q31]; exact hP) | exact hP) (by first | (rw [q30, q31]; exact hD) | (simp only [q30, q31]; exact hD) | exact hD) hS (by first | (rw [q32]; exact lv_sub hl [1, 0] rfl) | (simp only [q32]; exact lv_sub hl [1, 0] rfl) | exact lv_sub hl [1, 0] rfl)
      · have c7 := n_nle (a := n) (b := i) (by omega) (by omega) c7
        refine lv_aload_n hx hb dX2_findParts_10 rfl (lv_at hl 0 rfl) ?_
        refine va_get (D := (dC, dI)) (ci := 2) (v := .ref aDL) (C := RX2) (T := TX2) (N := 4) hx hb hts iX2 hown hK hP 0 rfl rfl 1 (by decide) w3 (fun _ h9 => h9) rfl dX2_findParts_11 ?_
        refine lv_iload_n hx hb dX2_findParts_14 rfl (lv_at hl 1 rfl) ?_
        refine lv_iload_n hx hb dX2_findParts_15 rfl (lv_at hl 1 rfl) ?_
        have h33 : vp_in (nI i) 12 := by first | exact vp_in_nI (by omega) (by omega) | assumption
        refine va_iast hx hb hK hP hD hS 1 0 rfl rfl h33 dX2_findParts_16 (fun H locs hP hD hS => ?_)
        rw [nI_clamp (by omega)] at hP hD
        have ub : upd (fun j_ => nI ((fpI P i) j_)) i (nI i) = (fun j_ => nI ((updN (fpI P i) i i) j_)) := updN_z _ _ _
        have hP : va_P (dC, dI) vwCl [(aD, .inr (2, [.ref aR, .ref aDL, .ref aDD, .int (nI n)])), (aDL, .inl (cyI, 12, .inl (fun j_ => nI ((updN (fpI P i) i i) j_)))), (aDD, .inl (cyZ, 20, .inl (fun j_ => bI (dd j_)))), (aR, .inr (1, [.ref aRF, .ref aRT, .ref aRN, .ref aRL, .ref aRU, .int (nI cnt)])), (aRF, .inl (cyI, 20, .inl (fun j_ => nI (F j_)))), (aRT, .inl (cyI, 20, .inl (fun j_ => nI (T j_))))] H := by rw [← ub]; exact hP
        have hD : va_D A [(aD, .inr (2, [.ref aR, .ref aDL, .ref aDD, .int (nI n)])), (aDL, .inl (cyI, 12, .inl (fun j_ => nI ((updN (fpI P i) i i) j_)))), (aDD, .inl (cyZ, 20, .inl (fun j_ => bI (dd j_)))), (aR, .inr (1, [.ref aRF, .ref aRT, .ref aRN, .ref aRL, .ref aRU, .int (nI cnt)])), (aRF, .inl (cyI, 20, .inl (fun j_ => nI (F j_)))), (aRT, .inl (cyI, 20, .inl (fun j_ => nI (T j_))))] := by rw [← ub]; exact hD
        refine lv_iinc (v := nI (i + 1)) (lv' := [(1, .int (nI (i + 1))), (0, .ref aD)]) hx hb dX2_findParts_17 hl (k := 1) rfl (nI_add i 1) (by decide) rfl (fun ls hl => ?_)
        refine lv_goto (tgt := 2) hx hb dX2_findParts_20 (by decide) ?_
        have q34 : (fpI P (i + 1)) = (updN (fpI P i) i i) := by rfl
        exact ih2 (i + 1) (by omega) (by first | assumption | omega) _ _ _ (by first | (rw [q34]; exact hP) | (simp only [q34]; exact hP) | exact hP) (by first | (rw [q34]; exact hD) | (simp only [q34]; exact hD) | exact hD) hS (lv_sub hl [1, 0] rfl)
  have q35 : (fpI P 0) = P := by first | rfl | (simp only [fpP]; rw [e9])
  have q36 : (nI 0) = 0 := by first | rfl | simp [*] | (simp only [*]; done)
  exact k2 (n - 0 + 1) 0 (Nat.lt_succ_self _) (by first | assumption | omega) _ _ _ (by first | (rw [q35]; exact hP) | (simp only [q35]; exact hP) | exact hP) (by first | (rw [q35]; exact hD) | (simp only [q35]; exact hD) | exact hD) hS (by first | (rw [q36]; exact lv_sub hl [1, 0] rfl) | (simp only [q36]; exact lv_sub hl [1, 0] rfl) | exact lv_sub hl [1, 0] rfl)
set_option maxHeartbeats 4000000 in
set_option maxRecDepth 100000 in
theorem c_X2_begin (l : Launch) (dC : Nat → ClassId) (dI : Nat → Nat → Nat) (cyI cyZ cyJ cyD : ClassId) (aD aR aDL aDD aRF aRT aRN aRL aRU : Nat) (zH : Nat) (n : Nat) (P : Nat → Nat) (dd : Nat → Bool) (F : Nat → Nat) (T : Nat → Nat) (cnt : Nat) (n2 : Nat) (hn2 : n2 ≤ 12) : Met l yX2_begin wsX2_begin ({ frames := 2, cells := 0, slots := 0, locals := 47 } : Room) (va_Pc [.ref aD, .int (nI n2)] (fun U => U.heap.size = zH ∧ va_P (dC, dI) vwCl [(aD, .inr (2, [.ref aR, .ref aDL, .ref aDD, .int (nI n)])), (aDL, .inl (cyI, 12, .inl (fun j_ => nI (P j_)))), (aDD, .inl (cyZ, 20, .inl (fun j_ => bI (dd j_)))), (aR, .inr (1, [.ref aRF, .ref aRT, .ref aRN, .ref aRL, .ref aRU, .int (nI cnt)])), (aRF, .inl (cyI, 20, .inl (fun j_ => nI (F j_)))), (aRT, .inl (cyI, 20, .inl (fun j_ => nI (T j_))))] U.heap ∧ va_K (dC, dI) vwCl [(cyI, .int), (cyZ, .boolean), (cyJ, .long), (cyD, .double)] U ∧ va_D (fun _ => True) [(aD, .inr (2, [.ref aR, .ref aDL, .ref aDD, .int (nI n)])), (aDL, .inl (cyI, 12, .inl (fun j_ => nI (P j_)))), (aDD, .inl (cyZ, 20, .inl (fun j_ => bI (dd j_)))), (aR, .inr (1, [.ref aRF, .ref aRT, .ref aRN, .ref aRL, .ref aRU, .int (nI cnt)])), (aRF, .inl (cyI, 20, .inl (fun j_ => nI (F j_)))), (aRT, .inl (cyI, 20, .inl (fun j_ => nI (T j_))))])) (va_Qv (fun _ : Unit => True) (fun _ t => va_P (dC, dI) vwCl [(aD, .inr (2, [.ref aR, .ref aDL, .ref aDD, .int (nI n2)])), (aDL, .inl (cyI, 12, .inl (fun j_ => nI ((fpP F T n2 (fpI P n2) 0) j_)))), (aDD, .inl (cyZ, 20, .inl (fun j_ => bI ((fpD F T n2 (fpI P n2) dd 0) j_)))), (aR, .inr (1, [.ref aRF, .ref aRT, .ref aRN, .ref aRL, .ref aRU, .int (nI 0)])), (aRF, .inl (cyI, 20, .inl (fun j_ => nI (F j_)))), (aRT, .inl (cyI, 20, .inl (fun j_ => nI (T j_))))] t.heap ∧ va_K (dC, dI) vwCl [(cyI, .int), (cyZ, .boolean), (cyJ, .long), (cyD, .double)] t ∧ va_D (va_A [(aD, .inr (2, [.ref aR, .ref aDL, .ref aDD, .int (nI n)])), (aDL, .inl (cyI, 12, .inl (fun j_ => nI (P j_)))), (aDD, .inl (cyZ, 20, .inl (fun j_ => bI (dd j_)))), (aR, .inr (1, [.ref aRF, .ref aRT, .ref aRN, .ref aRL, .ref aRU, .int (nI cnt)])), (aRF, .inl (cyI, 20, .inl (fun j_ => nI (F j_)))), (aRT, .inl (cyI, 20, .inl (fun j_ => nI (T j_))))] zH) [(aD, .inr (2, [.ref aR, .ref aDL, .ref aDD, .int (nI n2)])), (aDL, .inl (cyI, 12, .inl (fun j_ => nI ((fpP F T n2 (fpI P n2) 0) j_)))), (aDD, .inl (cyZ, 20, .inl (fun j_ => bI ((fpD F T n2 (fpI P n2) dd 0) j_)))), (aR, .inr (1, [.ref aRF, .ref aRT, .ref aRN, .ref aRL, .ref aRU, .int (nI 0)])), (aRF, .inl (cyI, 20, .inl (fun j_ => nI (F j_)))), (aRT, .inl (cyI, 20, .inl (fun j_ => nI (T j_))))]) (va_A [(aD, .inr (2, [.ref aR, .ref aDL, .ref aDD, .int (nI n)])), (aDL, .inl (cyI, 12, .inl (fun j_ => nI (P j_)))), (aDD, .inl (cyZ, 20, .inl (fun j_ => bI (dd j_)))), (aR, .inr (1, [.ref aRF, .ref aRT, .ref aRN, .ref aRL, .ref aRU, .int (nI cnt)])), (aRF, .inl (cyI, 20, .inl (fun j_ => nI (F j_)))), (aRT, .inl (cyI, 20, .inl (fun j_ => nI (T j_))))] zH)) 0 0 (va_A [(aD, .inr (2, [.ref aR, .ref aDL, .ref aDD, .int (nI n)])), (aDL, .inl (cyI, 12, .inl (fun j_ => nI (P j_)))), (aDD, .inl (cyZ, 20, .inl (fun j_ => bI (dd j_)))), (aR, .inr (1, [.ref aRF, .ref aRT, .ref aRN, .ref aRL, .ref aRU, .int (nI cnt)])), (aRF, .inl (cyI, 20, .inl (fun j_ => nI (F j_)))), (aRT, .inl (cyI, 20, .inl (fun j_ => nI (T j_))))] zH) := by
  refine Met.ofW (cc := cX2_begin) (maxL := 2) (ret := none) (by decide) rfl ?_
  intro pM eM s mM args blM mtM cM s₁ BM hml hv
  obtain ⟨rfl, hsz, hP, hK, hD0⟩ := hv
  have hx := BM.exec
  have hb := BM.bytes
  have hr := BM.returns
  have hts := atoms_spec (ws := wsX2_begin) BM.pre
  have hown : s.vm.findClass RX2 = some mM.cls := findClass_of_methodNamed BM.named
  have hlocks := BM.notSynchronized
  have w0 := hts (.fieldLink RX2 30 "DimensionChecker$Drawing" "faces" "I") (by decide +kernel)
  have w1 := hts (.fieldLink RX2 12 "DimensionChecker$Drawing" "rows" "LDimensionChecker$Dimensions;") (by decide +kernel)
  have w2 := hts (.fieldLink RX2 34 "DimensionChecker$Dimensions" "count" "I") (by decide +kernel)
  have iX2 : ∀ w ∈ wsX20, w ∈ wsX2_begin := by decide +kernel
  have iX1 : ∀ w ∈ wsX10, w ∈ wsX2_begin := by decide +kernel
  subst hsz
  have hD := hD0.self (sz := s.heap.size)
  obtain ⟨Q, hQe⟩ : ∃ Q : State → Prop, Q = MQ blM (va_Qv (fun _ : Unit => True) (fun _ t => va_P (dC, dI) vwCl [(aD, .inr (2, [.ref aR, .ref aDL, .ref aDD, .int (nI n2)])), (aDL, .inl (cyI, 12, .inl (fun j_ => nI ((fpP F T n2 (fpI P n2) 0) j_)))), (aDD, .inl (cyZ, 20, .inl (fun j_ => bI ((fpD F T n2 (fpI P n2) dd 0) j_)))), (aR, .inr (1, [.ref aRF, .ref aRT, .ref aRN, .ref aRL, .ref aRU, .int (nI 0)])), (aRF, .inl (cyI, 20, .inl (fun j_ => nI (F j_)))), (aRT, .inl (cyI, 20, .inl (fun j_ => nI (T j_))))] t.heap ∧ va_K (dC, dI) vwCl [(cyI, .int), (cyZ, .boolean), (cyJ, .long), (cyD, .double)] t ∧ va_D (va_A [(aD, .inr (2, [.ref aR, .ref aDL, .ref aDD, .int (nI n)])), (aDL, .inl (cyI, 12, .inl (fun j_ => nI (P j_)))), (aDD, .inl (cyZ, 20, .inl (fun j_ => bI (dd j_)))), (aR, .inr (1, [.ref aRF, .ref aRT, .ref aRN, .ref aRL, .ref aRU, .int (nI cnt)])), (aRF, .inl (cyI, 20, .inl (fun j_ => nI (F j_)))), (aRT, .inl (cyI, 20, .inl (fun j_ => nI (T j_))))] s.heap.size) [(aD, .inr (2, [.ref aR, .ref aDL, .ref aDD, .int (nI n2)])), (aDL, .inl (cyI, 12, .inl (fun j_ => nI ((fpP F T n2 (fpI P n2) 0) j_)))), (aDD, .inl (cyZ, 20, .inl (fun j_ => bI ((fpD F T n2 (fpI P n2) dd 0) j_)))), (aR, .inr (1, [.ref aRF, .ref aRT, .ref aRN, .ref aRL, .ref aRU, .int (nI 0)])), (aRF, .inl (cyI, 20, .inl (fun j_ => nI (F j_)))), (aRT, .inl (cyI, 20, .inl (fun j_ => nI (T j_))))]) (va_A [(aD, .inr (2, [.ref aR, .ref aDL, .ref aDD, .int (nI n)])), (aDL, .inl (cyI, 12, .inl (fun j_ => nI (P j_)))), (aDD, .inl (cyZ, 20, .inl (fun j_ => bI (dd j_)))), (aR, .inr (1, [.ref aRF, .ref aRT, .ref aRN, .ref aRL, .ref aRU, .int (nI cnt)])), (aRF, .inl (cyI, 20, .inl (fun j_ => nI (F j_)))), (aRT, .inl (cyI, 20, .inl (fun j_ => nI (T j_))))] s.heap.size)) ([.ref aD, .int (nI n2)] : List Value).toArray s 0 0 (va_A [(aD, .inr (2, [.ref aR, .ref aDL, .ref aDD, .int (nI n)])), (aDL, .inl (cyI, 12, .inl (fun j_ => nI (P j_)))), (aDD, .inl (cyZ, 20, .inl (fun j_ => bI (dd j_)))), (aR, .inr (1, [.ref aRF, .ref aRT, .ref aRN, .ref aRL, .ref aRU, .int (nI cnt)])), (aRF, .inl (cyI, 20, .inl (fun j_ => nI (F j_)))), (aRT, .inl (cyI, 20, .inl (fun j_ => nI (T j_))))] s.heap.size) := ⟨_, rfl⟩
  rw [← hQe]
  generalize hAe : va_A [(aD, .inr (2, [.ref aR, .ref aDL, .ref aDD, .int (nI n)])), (aDL, .inl (cyI, 12, .inl (fun j_ => nI (P j_)))), (aDD, .inl (cyZ, 20, .inl (fun j_ => bI (dd j_)))), (aR, .inr (1, [.ref aRF, .ref aRT, .ref aRN, .ref aRL, .ref aRU, .int (nI cnt)])), (aRF, .inl (cyI, 20, .inl (fun j_ => nI (F j_)))), (aRT, .inl (cyI, 20, .inl (fun j_ => nI (T j_))))] s.heap.size = A at hD hQe
  have hA : ∀ q : Nat, s.heap.size ≤ q → A q := fun q h => by rw [← hAe]; exact Or.inr h
  obtain ⟨H, hHe⟩ : ∃ H : Heap, H = s.heap := ⟨_, rfl⟩
  have hS : va_S A s.heap H [] := by rw [hHe]; exact va_S.rf
  rw [← hHe] at hP ⊢
  have hl := lv_entry ([.ref aD, .int (nI n2)]) (n := 2) (Nat.le_of_ble_eq_true rfl)
  rw [lg_entry_eq]
  generalize (lg_sl ([.ref aD, .int (nI n2)]) ++ List.replicate (2 - (lg_sl ([.ref aD, .int (nI n2)])).length) Slot.unset).toArray = ls at hl ⊢
  have hl : lv_has ls 2 [(0, .ref aD), (1, .int (nI n2))] := hl
  refine lv_aload_n hx hb dX2_begin_0 rfl (lv_at hl 0 rfl) ?_
  refine lv_iload_n hx hb dX2_begin_1 rfl (lv_at hl 1 rfl) ?_
  refine va_put (D := (dC, dI)) (ci := 2) (v := .int (nI n2)) (ty := .int) (C := RX2) (T := TX2) (N := 4) hx hb hts iX2 tyX2 tyX2_ok nmX2 hown hK hP hD hS 0 rfl rfl 3 (by decide) w0 (fun _ h9 => h9) rfl (by decide +kernel) rfl rfl (Nat.le_of_ble_eq_true rfl) dX2_begin_2 (fun H locs hP hD hS => ?_)
  have hP : va_P (dC, dI) vwCl [(aD, .inr (2, [.ref aR, .ref aDL, .ref aDD, .int (nI n2)])), (aDL, .inl (cyI, 12, .inl (fun j_ => nI (P j_)))), (aDD, .inl (cyZ, 20, .inl (fun j_ => bI (dd j_)))), (aR, .inr (1, [.ref aRF, .ref aRT, .ref aRN, .ref aRL, .ref aRU, .int (nI cnt)])), (aRF, .inl (cyI, 20, .inl (fun j_ => nI (F j_)))), (aRT, .inl (cyI, 20, .inl (fun j_ => nI (T j_))))] H := hP
  have hD : va_D A [(aD, .inr (2, [.ref aR, .ref aDL, .ref aDD, .int (nI n2)])), (aDL, .inl (cyI, 12, .inl (fun j_ => nI (P j_)))), (aDD, .inl (cyZ, 20, .inl (fun j_ => bI (dd j_)))), (aR, .inr (1, [.ref aRF, .ref aRT, .ref aRN, .ref aRL, .ref aRU, .int (nI cnt)])), (aRF, .inl (cyI, 20, .inl (fun j_ => nI (F j_)))), (aRT, .inl (cyI, 20, .inl (fun j_ => nI (T j_))))] := hD
  refine lv_aload_n hx hb dX2_begin_5 rfl (lv_at hl 0 rfl) ?_
  refine va_get (D := (dC, dI)) (ci := 2) (v := .ref aR) (C := RX2) (T := TX2) (N := 4) hx hb hts iX2 hown hK hP 0 rfl rfl 0 (by decide) w1 (fun _ h9 => h9) rfl dX2_begin_6 ?_
  refine lv_iconst (v := 0) hx hb dX2_begin_9 (by decide) ?_
  refine va_put (D := (dC, dI)) (ci := 1) (v := .int 0) (ty := .int) (C := RX1) (T := TX1) (N := 6) hx hb hts iX1 tyX1 tyX1_ok nmX1 hown hK hP hD hS 3 rfl rfl 5 (by decide) w2 (fun _ h9 => h9) rfl (by decide +kernel) rfl rfl (Nat.le_of_ble_eq_true rfl) dX2_begin_10 (fun H locs hP hD hS => ?_)
  have hP : va_P (dC, dI) vwCl [(aD, .inr (2, [.ref aR, .ref aDL, .ref aDD, .int (nI n2)])), (aDL, .inl (cyI, 12, .inl (fun j_ => nI (P j_)))), (aDD, .inl (cyZ, 20, .inl (fun j_ => bI (dd j_)))), (aR, .inr (1, [.ref aRF, .ref aRT, .ref aRN, .ref aRL, .ref aRU, .int 0])), (aRF, .inl (cyI, 20, .inl (fun j_ => nI (F j_)))), (aRT, .inl (cyI, 20, .inl (fun j_ => nI (T j_))))] H := hP
  have hD : va_D A [(aD, .inr (2, [.ref aR, .ref aDL, .ref aDD, .int (nI n2)])), (aDL, .inl (cyI, 12, .inl (fun j_ => nI (P j_)))), (aDD, .inl (cyZ, 20, .inl (fun j_ => bI (dd j_)))), (aR, .inr (1, [.ref aRF, .ref aRT, .ref aRN, .ref aRL, .ref aRU, .int 0])), (aRF, .inl (cyI, 20, .inl (fun j_ => nI (F j_)))), (aRT, .inl (cyI, 20, .inl (fun j_ => nI (T j_))))] := hD
  refine lv_aload_n hx hb dX2_begin_13 rfl (lv_at hl 0 rfl) ?_
  have g1 : n2 ≤ 12 := by first | assumption | omega | exact vp_in_nI (by omega) (by omega)
  have g2 : 0 ≤ 20 := by first | assumption | omega | exact vp_in_nI (by omega) (by omega)
  have g3 : ∀ d_q, d_q < 0 → F d_q < n2 := by exact fun j h => absurd h (Nat.not_lt_zero _)
  have g4 : ∀ d_q, d_q < 0 → T d_q < n2 := by exact fun j h => absurd h (Nat.not_lt_zero _)
  have hPc := hP.sub (ws' := [(aD, .inr (2, [.ref aR, .ref aDL, .ref aDD, .int (nI n2)])), (aDL, .inl (cyI, 12, .inl (fun j_ => nI (P j_)))), (aDD, .inl (cyZ, 20, .inl (fun j_ => bI (dd j_)))), (aR, .inr (1, [.ref aRF, .ref aRT, .ref aRN, .ref aRL, .ref aRU, .int 0])), (aRF, .inl (cyI, 20, .inl (fun j_ => nI (F j_)))), (aRT, .inl (cyI, 20, .inl (fun j_ => nI (T j_))))]) [0, 1, 2, 3, 4, 5] rfl
  have hDc := hD.sub (ws' := [(aD, .inr (2, [.ref aR, .ref aDL, .ref aDD, .int (nI n2)])), (aDL, .inl (cyI, 12, .inl (fun j_ => nI (P j_)))), (aDD, .inl (cyZ, 20, .inl (fun j_ => bI (dd j_)))), (aR, .inr (1, [.ref aRF, .ref aRT, .ref aRN, .ref aRL, .ref aRU, .int 0])), (aRF, .inl (cyI, 20, .inl (fun j_ => nI (F j_)))), (aRT, .inl (cyI, 20, .inl (fun j_ => nI (T j_))))]) [0, 1, 2, 3, 4, 5] (by decide) rfl
  have hFc := va_free (wc := [(aD, .inr (2, [.ref aR, .ref aDL, .ref aDD, .int (nI n2)])), (aDL, .inl (cyI, 12, .inl (fun j_ => nI (P j_)))), (aDD, .inl (cyZ, 20, .inl (fun j_ => bI (dd j_)))), (aR, .inr (1, [.ref aRF, .ref aRT, .ref aRN, .ref aRL, .ref aRU, .int 0])), (aRF, .inl (cyI, 20, .inl (fun j_ => nI (F j_)))), (aRT, .inl (cyI, 20, .inl (fun j_ => nI (T j_))))]) hD hS hA [0, 1, 2, 3, 4, 5] rfl
  refine va_callv (va_runV (As := []) (rest := []) ⟨hx, hb, hml, hown, hts⟩ (c_X2_findParts l dC dI cyI cyZ cyJ cyD aD aR aDL aDD aRF aRT aRN aRL aRU H.size n2 P dd F T 0 g1 g2 g3 g4) (cwV 0 hts gX2_begin_X2_findParts rfl rfl rfl (by decide +kernel) ⟨Nat.le_of_ble_eq_true rfl, Nat.le_of_ble_eq_true rfl⟩) ⟨fun a U g mk q => by obtain ⟨q0, q1, qP, qK, qD⟩ := q; exact ⟨q0, q1, qP, va_K.moved (u := U) (U := U.calling g mk a) (Vm.Alike.refl U.vm) qK, qD⟩, va_recv hK hPc (ci := 2) (q0 := 0) rfl rfl, fun U hU hW => ⟨rfl, by rw [hU], by rw [hU]; exact hPc, va_K.moved hW.alike hK, hDc.weaken (fun _ _ _ _ => trivial)⟩⟩ rfl rfl hl.1 rfl (lv_room (Nat.le_of_ble_eq_true rfl)) dX2_begin_14 ⟨Nat.le_of_ble_eq_true rfl, Nat.le_of_ble_eq_true rfl⟩) hS (fun q _ h => hFc q h) hFc (fun  u t H1 locs ht hvm hw hB hz1 hk1 hS => ?_)
  obtain ⟨hP1, hK1, hD1⟩ := hB
  rw [ht] at hP1
  obtain ⟨hP, hD⟩ := va_join (wr := []) (w1 := [(aD, .inr (2, [.ref aR, .ref aDL, .ref aDD, .int (nI n2)])), (aDL, .inl (cyI, 12, .inl (fun j_ => nI ((fpP F T n2 (fpI P n2) 0) j_)))), (aDD, .inl (cyZ, 20, .inl (fun j_ => bI ((fpD F T n2 (fpI P n2) dd 0) j_)))), (aR, .inr (1, [.ref aRF, .ref aRT, .ref aRN, .ref aRL, .ref aRU, .int 0])), (aRF, .inl (cyI, 20, .inl (fun j_ => nI (F j_)))), (aRT, .inl (cyI, 20, .inl (fun j_ => nI (T j_))))]) hP hD [0, 1, 2, 3, 4, 5] [] rfl rfl (by decide) (by decide) hk1 hFc hP1 hD1
  clear hP1 hD1 hK1 hPc hDc hFc hk1 hz1 hvm ht u t
  generalize H1 = H at hP hS ⊢
  have hP : va_P (dC, dI) vwCl [(aD, .inr (2, [.ref aR, .ref aDL, .ref aDD, .int (nI n2)])), (aDL, .inl (cyI, 12, .inl (fun j_ => nI ((fpP F T n2 (fpI P n2) 0) j_)))), (aDD, .inl (cyZ, 20, .inl (fun j_ => bI ((fpD F T n2 (fpI P n2) dd 0) j_)))), (aR, .inr (1, [.ref aRF, .ref aRT, .ref aRN, .ref aRL, .ref aRU, .int 0])), (aRF, .inl (cyI, 20, .inl (fun j_ => nI (F j_)))), (aRT, .inl (cyI, 20, .inl (fun j_ => nI (T j_))))] H := hP
  have hD : va_D A [(aD, .inr (2, [.ref aR, .ref aDL, .ref aDD, .int (nI n2)])), (aDL, .inl (cyI, 12, .inl (fun j_ => nI ((fpP F T n2 (fpI P n2) 0) j_)))), (aDD, .inl (cyZ, 20, .inl (fun j_ => bI ((fpD F T n2 (fpI P n2) dd 0) j_)))), (aR, .inr (1, [.ref aRF, .ref aRT, .ref aRN, .ref aRL, .ref aRU, .int 0])), (aRF, .inl (cyI, 20, .inl (fun j_ => nI (F j_)))), (aRT, .inl (cyI, 20, .inl (fun j_ => nI (T j_))))] := hD
  have q5 : (nI 0) = 0 := by first | rfl | simp [*] | (simp only [*]; done)
  have hP9 : va_P (dC, dI) vwCl [(aD, .inr (2, [.ref aR, .ref aDL, .ref aDD, .int (nI n2)])), (aDL, .inl (cyI, 12, .inl (fun j_ => nI ((fpP F T n2 (fpI P n2) 0) j_)))), (aDD, .inl (cyZ, 20, .inl (fun j_ => bI ((fpD F T n2 (fpI P n2) dd 0) j_)))), (aR, .inr (1, [.ref aRF, .ref aRT, .ref aRN, .ref aRL, .ref aRU, .int (nI 0)])), (aRF, .inl (cyI, 20, .inl (fun j_ => nI (F j_)))), (aRT, .inl (cyI, 20, .inl (fun j_ => nI (T j_))))] H := by first | (rw [q5]; exact hP.sub [0, 1, 2, 3, 4, 5] rfl) | (simp only [q5]; exact hP.sub [0, 1, 2, 3, 4, 5] rfl) | exact hP.sub [0, 1, 2, 3, 4, 5] rfl
  have hD9 : va_D A [(aD, .inr (2, [.ref aR, .ref aDL, .ref aDD, .int (nI n2)])), (aDL, .inl (cyI, 12, .inl (fun j_ => nI ((fpP F T n2 (fpI P n2) 0) j_)))), (aDD, .inl (cyZ, 20, .inl (fun j_ => bI ((fpD F T n2 (fpI P n2) dd 0) j_)))), (aR, .inr (1, [.ref aRF, .ref aRT, .ref aRN, .ref aRL, .ref aRU, .int (nI 0)])), (aRF, .inl (cyI, 20, .inl (fun j_ => nI (F j_)))), (aRT, .inl (cyI, 20, .inl (fun j_ => nI (T j_))))] := by first | (rw [q5]; exact hD.sub [0, 1, 2, 3, 4, 5] (by decide) rfl) | (simp only [q5]; exact hD.sub [0, 1, 2, 3, 4, 5] (by decide) rfl) | exact hD.sub [0, 1, 2, 3, 4, 5] (by decide) rfl
  subst hAe
  subst hQe
  exact W.vret hx hb hr (fun t ht hW => ⟨⟨(), rfl, trivial, by rw [ht]; exact hP9, va_K.moved hW.alike hK, hD9⟩, hS.F ht⟩) hS.2.2 dX2_begin_17
