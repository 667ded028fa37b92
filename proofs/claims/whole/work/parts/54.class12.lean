
def tst : Nat → Int32
  | 0 => 300
  | 1 => 600
  | 2 => 3000
  | 3 => 12000
  | _ => 40000
theorem colN_of {x sz : Int32} {k : Nat} (hs : sz = if 0 ≤ x then x else 0 - x) (hk : k ≤ 5) (h1 : ∀ j, j < k → tst j < sz) (h2 : k = 5 ∨ sz ≤ tst k) : colN x = k := by
  have e : (if 0 ≤ x then x else -x) = sz := by
    rw [hs, Int32.zero_sub]
  unfold colN
  rw [e]
  rcases (show k = 0 ∨ k = 1 ∨ k = 2 ∨ k = 3 ∨ k = 4 ∨ k = 5 by omega) with rfl | rfl | rfl | rfl | rfl | rfl
  · rw [if_neg (Int32.not_lt.mpr (show sz ≤ (300 : Int32) from h2.resolve_left (by decide)))]
  · rw [if_pos (show (300 : Int32) < sz from h1 0 (by decide)), if_neg (Int32.not_lt.mpr (show sz ≤ (600 : Int32) from h2.resolve_left (by decide)))]
  · rw [if_pos (show (300 : Int32) < sz from h1 0 (by decide)), if_pos (show (600 : Int32) < sz from h1 1 (by decide)), if_neg (Int32.not_lt.mpr (show sz ≤ (3000 : Int32) from h2.resolve_left (by decide)))]
  · rw [if_pos (show (300 : Int32) < sz from h1 0 (by decide)), if_pos (show (600 : Int32) < sz from h1 1 (by decide)), if_pos (show (3000 : Int32) < sz from h1 2 (by decide)), if_neg (Int32.not_lt.mpr (show sz ≤ (12000 : Int32) from h2.resolve_left (by decide)))]
  · rw [if_pos (show (300 : Int32) < sz from h1 0 (by decide)), if_pos (show (600 : Int32) < sz from h1 1 (by decide)), if_pos (show (3000 : Int32) < sz from h1 2 (by decide)), if_pos (show (12000 : Int32) < sz from h1 3 (by decide)), if_neg (Int32.not_lt.mpr (show sz ≤ (40000 : Int32) from h2.resolve_left (by decide)))]
  · rw [if_pos (show (300 : Int32) < sz from h1 0 (by decide)), if_pos (show (600 : Int32) < sz from h1 1 (by decide)), if_pos (show (3000 : Int32) < sz from h1 2 (by decide)), if_pos (show (12000 : Int32) < sz from h1 3 (by decide)), if_pos (show (40000 : Int32) < sz from h1 4 (by decide))]
/-! the class's tables: statics that nobody writes -/
def tZ (nm : String) (N : Nat) (f : Nat → Int32) (A : Nat → Prop) (U : State) : Prop := ∃ t : Nat, va_Z RX6 nm "[I" (.ref t) A U U.heap ∧ va_T .int t N (fun j_ => .int (f j_)) A U U.heap
theorem tZ.to {nm : String} {N : Nat} {f : Nat → Int32} {A B : Nat → Prop} {s U : State} {H : Heap} (h : tZ nm N f A s) (hW : s.WarmedH U.vm) (hU : U.heap = H) (hk : ∀ q : Nat, q < s.heap.size → ¬ A q → H[q]? = s.heap[q]?) (hAB : ∀ q, B q → A q) : tZ nm N f B U := by
  obtain ⟨t, h1, h2⟩ := h
  subst hU
  exact ⟨t, va_Z.narrow (va_Z.moved hW.alike (h1.kept hk)) hAB, va_T.narrow (va_T.moved hW.alike (h2.kept hk)) hAB⟩
theorem tZ.same {nm : String} {N : Nat} {f : Nat → Int32} {A : Nat → Prop} {u U : State} (hv : U.vm = u.vm) (hh : U.heap = u.heap) (h : tZ nm N f A u) : tZ nm N f A U := by
  obtain ⟨t, h1, h2⟩ := h
  have ha : u.vm.Alike U.vm := by rw [hv]; exact Vm.Alike.refl _
  refine ⟨t, ?_, ?_⟩
  · rw [hh]; exact va_Z.moved ha h1
  · rw [hh]; exact va_T.moved ha h2
def tW (A : Nat → Prop) (U : State) : Prop := tZ "TOLERANCE_STEPS" 5 tst A U ∧ tZ "FINE" 6 (tolV 102) A U ∧ tZ "MEDIUM" 6 (tolV 109) A U ∧ tZ "COARSE" 6 (tolV 99) A U ∧ tZ "VERY_COARSE" 6 (tolV 118) A U
theorem tW.to {A B : Nat → Prop} {s U : State} {H : Heap} (h : tW A s) (hW : s.WarmedH U.vm) (hU : U.heap = H) (hk : ∀ q : Nat, q < s.heap.size → ¬ A q → H[q]? = s.heap[q]?) (hAB : ∀ q, B q → A q) : tW B U := ⟨h.1.to hW hU hk hAB, h.2.1.to hW hU hk hAB, h.2.2.1.to hW hU hk hAB, h.2.2.2.1.to hW hU hk hAB, h.2.2.2.2.to hW hU hk hAB⟩
theorem tW.same {A : Nat → Prop} {u U : State} (hv : U.vm = u.vm) (hh : U.heap = u.heap) (h : tW A u) : tW A U := ⟨h.1.same hv hh, h.2.1.same hv hh, h.2.2.1.same hv hh, h.2.2.2.1.same hv hh, h.2.2.2.2.same hv hh⟩
theorem tW.t0 {A : Nat → Prop} {U : State} (h : tW A U) : tZ "TOLERANCE_STEPS" 5 tst A U := h.1
theorem tW.t1 {A : Nat → Prop} {U : State} (h : tW A U) : tZ "FINE" 6 (tolV 102) A U := h.2.1
theorem tW.t2 {A : Nat → Prop} {U : State} (h : tW A U) : tZ "MEDIUM" 6 (tolV 109) A U := h.2.2.1
theorem tW.t3 {A : Nat → Prop} {U : State} (h : tW A U) : tZ "COARSE" 6 (tolV 99) A U := h.2.2.2.1
theorem tW.t4 {A : Nat → Prop} {U : State} (h : tW A U) : tZ "VERY_COARSE" 6 (tolV 118) A U := h.2.2.2.2

set_option maxHeartbeats 4000000 in
set_option maxRecDepth 100000 in
theorem c_X6_toleranceColumn (l : Launch) (dC : Nat → ClassId) (dI : Nat → Nat → Nat) (cyI cyZ cyJ cyD : ClassId) (zH : Nat) (x : Int32) : Met l yX6_toleranceColumn wsX6_toleranceColumn ({ frames := 1, cells := 0, slots := 0, locals := 24 } : Room) (va_Pc [.int x] (fun U => U.heap.size = zH ∧ va_P (dC, dI) vwCl [] U.heap ∧ va_K (dC, dI) vwCl [(cyI, .int), (cyZ, .boolean), (cyJ, .long), (cyD, .double)] U ∧ va_D (fun _ => True) [] ∧ tW (va_A [] zH) U)) (va_Qi (fun (r : Int32) (_ : Unit) => r = nI (colN x)) (fun _ t => va_P (dC, dI) vwCl [] t.heap ∧ va_K (dC, dI) vwCl [(cyI, .int), (cyZ, .boolean), (cyJ, .long), (cyD, .double)] t ∧ va_D (va_A [] zH) []) (va_A [] zH)) 0 0 (va_A [] zH) := by
  refine Met.ofW (cc := cX6_toleranceColumn) (maxL := 3) (ret := (some .int)) (by decide) rfl ?_
  intro pM eM s mM args blM mtM cM s₁ BM hml hv
  obtain ⟨rfl, hsz, hP, hK, hD0, htW⟩ := hv
  have hx := BM.exec
  have hb := BM.bytes
  have hr := BM.returns
  have hts := atoms_spec (ws := wsX6_toleranceColumn) BM.pre
  have hown : s.vm.findClass RX6 = some mM.cls := findClass_of_methodNamed BM.named
  have hlocks := BM.notSynchronized
  have w0 := hts (.methodLink RX6 294 Lib.Math.abs.name) (by decide +kernel)
  have w1 := hts (.static Lib.Math.abs.name) (by decide +kernel)
  have w2 := hts (.initialized "java/lang/Math") (by decide +kernel)
  have w3 := hts (.code Lib.Math.abs.name Lib.Math.abs.code 1 (some .int)) (by decide +kernel)
  have w4 := hts (.fieldLink RX6 299 "DimensionChecker" "TOLERANCE_STEPS" "[I") (by decide +kernel)
  subst hsz
  have hD := hD0.self (sz := s.heap.size)
  obtain ⟨Q, hQe⟩ : ∃ Q : State → Prop, Q = MQ blM (va_Qi (fun (r : Int32) (_ : Unit) => r = nI (colN x)) (fun _ t => va_P (dC, dI) vwCl [] t.heap ∧ va_K (dC, dI) vwCl [(cyI, .int), (cyZ, .boolean), (cyJ, .long), (cyD, .double)] t ∧ va_D (va_A [] s.heap.size) []) (va_A [] s.heap.size)) ([.int x] : List Value).toArray s 0 0 (va_A [] s.heap.size) := ⟨_, rfl⟩
  rw [← hQe]
  generalize hAe : va_A [] s.heap.size = A at hD hQe htW
  have hA : ∀ q : Nat, s.heap.size ≤ q → A q := fun q h => by rw [← hAe]; exact Or.inr h
  obtain ⟨H, hHe⟩ : ∃ H : Heap, H = s.heap := ⟨_, rfl⟩
  have hS : va_S A s.heap H [] := by rw [hHe]; exact va_S.rf
  rw [← hHe] at hP ⊢
  have hl := lv_entry ([.int x]) (n := 3) (Nat.le_of_ble_eq_true rfl)
  rw [lg_entry_eq]
  generalize (lg_sl ([.int x]) ++ List.replicate (3 - (lg_sl ([.int x])).length) Slot.unset).toArray = ls at hl ⊢
  have hl : lv_has ls 3 [(0, .int x)] := hl
  refine lv_iload_n hx hb dX6_toleranceColumn_0 rfl (lv_at hl 0 rfl) ?_
  refine va_mabs hx hb (by rw [hml]; exact hl.1.symm) hown w0 w1 w2 w3 (Nat.le_of_ble_eq_true rfl) (Nat.le_of_ble_eq_true rfl) (Nat.le_of_ble_eq_true rfl) (Nat.le_of_ble_eq_true rfl) dX6_toleranceColumn_1 ?_
  refine lv_istore_n (lv' := [(1, .int (if 0 ≤ x then x else 0 - x)), (0, .int x)]) hx hb dX6_toleranceColumn_4 rfl hl (by decide) rfl (fun ls hl => ?_)
  refine lv_iconst (v := 0) hx hb dX6_toleranceColumn_5 (by decide) ?_
  refine lv_istore_n (lv' := [(2, .int 0), (1, .int (if 0 ≤ x then x else 0 - x)), (0, .int x)]) hx hb dX6_toleranceColumn_6 rfl hl (by decide) rfl (fun ls hl => ?_)
  have k7 : ∀ (fuel : Nat) (k : Nat) (hfuel : 5 - k < fuel) (hk : k ≤ 5) (hk1 : ∀ j, j < k → tst j < (if 0 ≤ x then x else 0 - x)) (H : Heap) (locs : List Loc) (ls : Array Slot), va_P (dC, dI) vwCl [] H → va_D A [] → va_S A s.heap H locs → lv_has ls 3 [(0, .int x), (1, .int (if 0 ≤ x then x else 0 - x)), (2, .int (nI k))] → W pM l eM (headSpec wsX6_toleranceColumn ({ frames := 1, cells := 0, slots := 0, locals := 24 } : Room)).room s mM ([.int x] : List Value).toArray blM mtM cM H locs 0 0 Q (F0 mM 7 ls []) := by
    intro fuel
    induction fuel with
    | zero => intro k hfuel; exact absurd hfuel (Nat.not_lt_zero _)
    | succ fuel ih7 =>
      intro k hfuel hk hk1 H locs ls hP hD hS hl
      refine lv_iload_n hx hb dX6_toleranceColumn_7 rfl (lv_at hl 2 rfl) ?_
      obtain ⟨t2, hz3, ht4⟩ := tW.t0 htW
      refine va_gets (A := A) hx hb hz3 hS hown w4 (fun _ h9 => h9) dX6_toleranceColumn_8 ?_
      refine va_tlen (A := A) hx hb ht4 hS (v := nI 5) rfl dX6_toleranceColumn_11 ?_
      refine lv_icmp_ge (tgt := 30) hx hb dX6_toleranceColumn_12 (by decide) (fun c12 => ?_) (fun c12 => ?_)
      · have c12 := n_le (a := 5) (b := k) (by omega) (by omega) c12
        have hk5 : k = 5 := by omega
        refine lv_iload_n hx hb dX6_toleranceColumn_30 rfl (lv_at hl 2 rfl) ?_
        have r5 : (nI k) = (nI (colN x)) := by first | (rw [colN_of rfl hk hk1 (Or.inl hk5)]; done) | (rw [colN_of rfl hk hk1 (Or.inr c21)]; done)
        have hP9 : va_P (dC, dI) vwCl [] H := by exact hP.sub [] rfl
        have hD9 : va_D A [] := by exact hD.sub [] (by decide) rfl
        rw [hQe]
        exact W.iret (v := nI k) hx hb hr (fun t ht hW => ⟨⟨_, (), rfl, r5, by rw [ht]; exact hP9, va_K.moved hW.alike hK, hD9⟩, hS.F ht⟩) hS.2.2 dX6_toleranceColumn_31
      · have c12 := n_nle (a := 5) (b := k) (by omega) (by omega) c12
        refine lv_iload_n hx hb dX6_toleranceColumn_15 rfl (lv_at hl 1 rfl) ?_
        obtain ⟨t6, hz7, ht8⟩ := tW.t0 htW
        refine va_gets (A := A) hx hb hz7 hS hown w4 (fun _ h9 => h9) dX6_toleranceColumn_16 ?_
        refine lv_iload_n hx hb dX6_toleranceColumn_19 rfl (lv_at hl 2 rfl) ?_
        have h9 : vp_in (nI k) 5 := by first | exact vp_in_nI (by omega) (by omega) | assumption
        refine va_ti (A := A) hx hb ht8 hS h9 (v := .int (tst k)) (by rw [nI_clamp (by omega)]) dX6_toleranceColumn_20 ?_
        refine lv_icmp_le (tgt := 30) hx hb dX6_toleranceColumn_21 (by decide) (fun c21 => ?_) (fun c21 => ?_)
        · skip
          refine lv_iload_n hx hb dX6_toleranceColumn_30 rfl (lv_at hl 2 rfl) ?_
          have r10 : (nI k) = (nI (colN x)) := by first | (rw [colN_of rfl hk hk1 (Or.inl hk5)]; done) | (rw [colN_of rfl hk hk1 (Or.inr c21)]; done)
          have hP9 : va_P (dC, dI) vwCl [] H := by exact hP.sub [] rfl
          have hD9 : va_D A [] := by exact hD.sub [] (by decide) rfl
          rw [hQe]
          exact W.iret (v := nI k) hx hb hr (fun t ht hW => ⟨⟨_, (), rfl, r10, by rw [ht]; exact hP9, va_K.moved hW.alike hK, hD9⟩, hS.F ht⟩) hS.2.2 dX6_toleranceColumn_31
        · skip
          refine lv_iinc (v := nI (k + 1)) (lv' := [(2, .int (nI (k + 1))), (0, .int x), (1, .int (if 0 ≤ x then x else 0 - x))]) hx hb dX6_toleranceColumn_24 hl (k := 2) rfl (nI_add k 1) (by decide) rfl (fun ls hl => ?_)
          refine lv_goto (tgt := 7) hx hb dX6_toleranceColumn_27 (by decide) ?_
          exact ih7 (k + 1) (by omega) (by first | assumption | omega) (by intro j hj; by_cases e : j = k; (rw [e]; exact Int32.not_le.mp c21); exact hk1 j (by omega)) _ _ _ (hP) (hD) hS (lv_sub hl [1, 2, 0] rfl)
  have q11 : (nI 0) = 0 := by first | rfl | simp [*] | (simp only [*]; done)
  exact k7 (5 - 0 + 1) 0 (Nat.lt_succ_self _) (by first | assumption | omega) (by intro j hj; exact absurd hj (Nat.not_lt_zero _)) _ _ _ (hP) (hD) hS (by first | (rw [q11]; exact lv_sub hl [2, 1, 0] rfl) | (simp only [q11]; exact lv_sub hl [2, 1, 0] rfl) | exact lv_sub hl [2, 1, 0] rfl)
set_option maxHeartbeats 4000000 in
set_option maxRecDepth 100000 in
theorem c_X6_applyTolerances (l : Launch) (dC : Nat → ClassId) (dI : Nat → Nat → Nat) (cyI cyZ cyJ cyD : ClassId) (aC aD aR aH aS aT aL aI aRF aRT aRN aRL aRU at_ : Nat) (zH : Nat) (il : Nat) (nm : Nat → Int32) (lo : Nat → Int32) (up : Nat → Int32) (cnt : Nat) (g : Int32) (hc : cnt ≤ 20) : Met l yX6_applyTolerances wsX6_applyTolerances ({ frames := 2, cells := 0, slots := 0, locals := 46 } : Room) (va_Pc [.ref aC, .ref at_] (fun U => U.heap.size = zH ∧ va_P (dC, dI) vwCl [(aC, .inr (6, [.ref aD, .ref aR, .ref aH, .ref aS, .ref aT, .ref aL, .ref aI, .int (nI il)])), (aR, .inr (1, [.ref aRF, .ref aRT, .ref aRN, .ref aRL, .ref aRU, .int (nI cnt)])), (aRN, .inl (cyI, 20, .inl nm)), (aRL, .inl (cyI, 20, .inl lo)), (aRU, .inl (cyI, 20, .inl up))] U.heap ∧ va_K (dC, dI) vwCl [(cyI, .int), (cyZ, .boolean), (cyJ, .long), (cyD, .double)] U ∧ va_D (fun _ => True) [(aC, .inr (6, [.ref aD, .ref aR, .ref aH, .ref aS, .ref aT, .ref aL, .ref aI, .int (nI il)])), (aR, .inr (1, [.ref aRF, .ref aRT, .ref aRN, .ref aRL, .ref aRU, .int (nI cnt)])), (aRN, .inl (cyI, 20, .inl nm)), (aRL, .inl (cyI, 20, .inl lo)), (aRU, .inl (cyI, 20, .inl up))] ∧ tW (va_A [(aC, .inr (6, [.ref aD, .ref aR, .ref aH, .ref aS, .ref aT, .ref aL, .ref aI, .int (nI il)])), (aR, .inr (1, [.ref aRF, .ref aRT, .ref aRN, .ref aRL, .ref aRU, .int (nI cnt)])), (aRN, .inl (cyI, 20, .inl nm)), (aRL, .inl (cyI, 20, .inl lo)), (aRU, .inl (cyI, 20, .inl up))] zH) U ∧ va_T .int at_ 6 (fun j_ => .int (tolV g j_)) (va_A [(aC, .inr (6, [.ref aD, .ref aR, .ref aH, .ref aS, .ref aT, .ref aL, .ref aI, .int (nI il)])), (aR, .inr (1, [.ref aRF, .ref aRT, .ref aRN, .ref aRL, .ref aRU, .int (nI cnt)])), (aRN, .inl (cyI, 20, .inl nm)), (aRL, .inl (cyI, 20, .inl lo)), (aRU, .inl (cyI, 20, .inl up))] zH) U U.heap)) (va_Qi (fun (r : Int32) (_ : Unit) => r = nI (gnC g nm lo up cnt)) (fun _ t => va_P (dC, dI) vwCl [(aC, .inr (6, [.ref aD, .ref aR, .ref aH, .ref aS, .ref aT, .ref aL, .ref aI, .int (nI il)])), (aR, .inr (1, [.ref aRF, .ref aRT, .ref aRN, .ref aRL, .ref aRU, .int (nI cnt)])), (aRN, .inl (cyI, 20, .inl nm)), (aRL, .inl (cyI, 20, .inl ((gnS g nm lo up cnt).1))), (aRU, .inl (cyI, 20, .inl ((gnS g nm lo up cnt).2)))] t.heap ∧ va_K (dC, dI) vwCl [(cyI, .int), (cyZ, .boolean), (cyJ, .long), (cyD, .double)] t ∧ va_D (va_A [(aC, .inr (6, [.ref aD, .ref aR, .ref aH, .ref aS, .ref aT, .ref aL, .ref aI, .int (nI il)])), (aR, .inr (1, [.ref aRF, .ref aRT, .ref aRN, .ref aRL, .ref aRU, .int (nI cnt)])), (aRN, .inl (cyI, 20, .inl nm)), (aRL, .inl (cyI, 20, .inl lo)), (aRU, .inl (cyI, 20, .inl up))] zH) [(aC, .inr (6, [.ref aD, .ref aR, .ref aH, .ref aS, .ref aT, .ref aL, .ref aI, .int (nI il)])), (aR, .inr (1, [.ref aRF, .ref aRT, .ref aRN, .ref aRL, .ref aRU, .int (nI cnt)])), (aRN, .inl (cyI, 20, .inl nm)), (aRL, .inl (cyI, 20, .inl ((gnS g nm lo up cnt).1))), (aRU, .inl (cyI, 20, .inl ((gnS g nm lo up cnt).2)))]) (va_A [(aC, .inr (6, [.ref aD, .ref aR, .ref aH, .ref aS, .ref aT, .ref aL, .ref aI, .int (nI il)])), (aR, .inr (1, [.ref aRF, .ref aRT, .ref aRN, .ref aRL, .ref aRU, .int (nI cnt)])), (aRN, .inl (cyI, 20, .inl nm)), (aRL, .inl (cyI, 20, .inl lo)), (aRU, .inl (cyI, 20, .inl up))] zH)) 0 0 (va_A [(aC, .inr (6, [.ref aD, .ref aR, .ref aH, .ref aS, .ref aT, .ref aL, .ref aI, .int (nI il)])), (aR, .inr (1, [.ref aRF, .ref aRT, .ref aRN, .ref aRL, .ref aRU, .int (nI cnt)])), (aRN, .inl (cyI, 20, .inl nm)), (aRL, .inl (cyI, 20, .inl lo)), (aRU, .inl (cyI, 20, .inl up))] zH) := by
  refine Met.ofW (cc := cX6_applyTolerances) (maxL := 5) (ret := (some .int)) (by decide) rfl ?_
  intro pM eM s mM args blM mtM cM s₁ BM hml hv
  obtain ⟨rfl, hsz, hP, hK, hD0, htW, htA⟩ := hv
  have hx := BM.exec
  have hb := BM.bytes
  have hr := BM.returns
  have hts := atoms_spec (ws := wsX6_applyTolerances) BM.pre
  have hown : s.vm.findClass RX6 = some mM.cls := findClass_of_methodNamed BM.named
  have hlocks := BM.notSynchronized
  have w0 := hts (.fieldLink RX6 22 "DimensionChecker" "rows" "LDimensionChecker$Dimensions;") (by decide +kernel)
  have w1 := hts (.fieldLink RX6 70 "DimensionChecker$Dimensions" "count" "I") (by decide +kernel)
  have w2 := hts (.fieldLink RX6 116 "DimensionChecker$Dimensions" "lower" "[I") (by decide +kernel)
  have w3 := hts (.fieldLink RX6 119 "DimensionChecker$Dimensions" "upper" "[I") (by decide +kernel)
  have w4 := hts (.fieldLink RX6 146 "DimensionChecker$Dimensions" "nominal" "[I") (by decide +kernel)
  have iX6 : ∀ w ∈ wsX60, w ∈ wsX6_applyTolerances := by decide +kernel
  have iX1 : ∀ w ∈ wsX10, w ∈ wsX6_applyTolerances := by decide +kernel
  subst hsz
  have hD := hD0.self (sz := s.heap.size)
  obtain ⟨Q, hQe⟩ : ∃ Q : State → Prop, Q = MQ blM (va_Qi (fun (r : Int32) (_ : Unit) => r = nI (gnC g nm lo up cnt)) (fun _ t => va_P (dC, dI) vwCl [(aC, .inr (6, [.ref aD, .ref aR, .ref aH, .ref aS, .ref aT, .ref aL, .ref aI, .int (nI il)])), (aR, .inr (1, [.ref aRF, .ref aRT, .ref aRN, .ref aRL, .ref aRU, .int (nI cnt)])), (aRN, .inl (cyI, 20, .inl nm)), (aRL, .inl (cyI, 20, .inl ((gnS g nm lo up cnt).1))), (aRU, .inl (cyI, 20, .inl ((gnS g nm lo up cnt).2)))] t.heap ∧ va_K (dC, dI) vwCl [(cyI, .int), (cyZ, .boolean), (cyJ, .long), (cyD, .double)] t ∧ va_D (va_A [(aC, .inr (6, [.ref aD, .ref aR, .ref aH, .ref aS, .ref aT, .ref aL, .ref aI, .int (nI il)])), (aR, .inr (1, [.ref aRF, .ref aRT, .ref aRN, .ref aRL, .ref aRU, .int (nI cnt)])), (aRN, .inl (cyI, 20, .inl nm)), (aRL, .inl (cyI, 20, .inl lo)), (aRU, .inl (cyI, 20, .inl up))] s.heap.size) [(aC, .inr (6, [.ref aD, .ref aR, .ref aH, .ref aS, .ref aT, .ref aL, .ref aI, .int (nI il)])), (aR, .inr (1, [.ref aRF, .ref aRT, .ref aRN, .ref aRL, .ref aRU, .int (nI cnt)])), (aRN, .inl (cyI, 20, .inl nm)), (aRL, .inl (cyI, 20, .inl ((gnS g nm lo up cnt).1))), (aRU, .inl (cyI, 20, .inl ((gnS g nm lo up cnt).2)))]) (va_A [(aC, .inr (6, [.ref aD, .ref aR, .ref aH, .ref aS, .ref aT, .ref aL, .ref aI, .int (nI il)])), (aR, .inr (1, [.ref aRF, .ref aRT, .ref aRN, .ref aRL, .ref aRU, .int (nI cnt)])), (aRN, .inl (cyI, 20, .inl nm)), (aRL, .inl (cyI, 20, .inl lo)), (aRU, .inl (cyI, 20, .inl up))] s.heap.size)) ([.ref aC, .ref at_] : List Value).toArray s 0 0 (va_A [(aC, .inr (6, [.ref aD, .ref aR, .ref aH, .ref aS, .ref aT, .ref aL, .ref aI, .int (nI il)])), (aR, .inr (1, [.ref aRF, .ref aRT, .ref aRN, .ref aRL, .ref aRU, .int (nI cnt)])), (aRN, .inl (cyI, 20, .inl nm)), (aRL, .inl (cyI, 20, .inl lo)), (aRU, .inl (cyI, 20, .inl up))] s.heap.size) := ⟨_, rfl⟩
  rw [← hQe]
  generalize hAe : va_A [(aC, .inr (6, [.ref aD, .ref aR, .ref aH, .ref aS, .ref aT, .ref aL, .ref aI, .int (nI il)])), (aR, .inr (1, [.ref aRF, .ref aRT, .ref aRN, .ref aRL, .ref aRU, .int (nI cnt)])), (aRN, .inl (cyI, 20, .inl nm)), (aRL, .inl (cyI, 20, .inl lo)), (aRU, .inl (cyI, 20, .inl up))] s.heap.size = A at hD hQe htW htA
  have hA : ∀ q : Nat, s.heap.size ≤ q → A q := fun q h => by rw [← hAe]; exact Or.inr h
  obtain ⟨H, hHe⟩ : ∃ H : Heap, H = s.heap := ⟨_, rfl⟩
  have hS : va_S A s.heap H [] := by rw [hHe]; exact va_S.rf
  rw [← hHe] at hP ⊢
  have hl := lv_entry ([.ref aC, .ref at_]) (n := 5) (Nat.le_of_ble_eq_true rfl)
  rw [lg_entry_eq]
  generalize (lg_sl ([.ref aC, .ref at_]) ++ List.replicate (5 - (lg_sl ([.ref aC, .ref at_])).length) Slot.unset).toArray = ls at hl ⊢
  have hl : lv_has ls 5 [(0, .ref aC), (1, .ref at_)] := hl
  refine lv_iconst (v := 0) hx hb dX6_applyTolerances_0 (by decide) ?_
  refine lv_istore_n (lv' := [(2, .int 0), (0, .ref aC), (1, .ref at_)]) hx hb dX6_applyTolerances_1 rfl hl (by decide) rfl (fun ls hl => ?_)
  refine lv_iconst (v := 0) hx hb dX6_applyTolerances_2 (by decide) ?_
  refine lv_istore_n (lv' := [(3, .int 0), (2, .int 0), (0, .ref aC), (1, .ref at_)]) hx hb dX6_applyTolerances_3 rfl hl (by decide) rfl (fun ls hl => ?_)
  have k4 : ∀ (fuel : Nat) (d : Nat) (hfuel : cnt - d < fuel) (hd0 : d ≤ cnt) (H : Heap) (locs : List Loc) (ls : Array Slot), va_P (dC, dI) vwCl [(aC, .inr (6, [.ref aD, .ref aR, .ref aH, .ref aS, .ref aT, .ref aL, .ref aI, .int (nI il)])), (aR, .inr (1, [.ref aRF, .ref aRT, .ref aRN, .ref aRL, .ref aRU, .int (nI cnt)])), (aRN, .inl (cyI, 20, .inl nm)), (aRL, .inl (cyI, 20, .inl ((gnS g nm lo up d).1))), (aRU, .inl (cyI, 20, .inl ((gnS g nm lo up d).2)))] H → va_D A [(aC, .inr (6, [.ref aD, .ref aR, .ref aH, .ref aS, .ref aT, .ref aL, .ref aI, .int (nI il)])), (aR, .inr (1, [.ref aRF, .ref aRT, .ref aRN, .ref aRL, .ref aRU, .int (nI cnt)])), (aRN, .inl (cyI, 20, .inl nm)), (aRL, .inl (cyI, 20, .inl ((gnS g nm lo up d).1))), (aRU, .inl (cyI, 20, .inl ((gnS g nm lo up d).2)))] → va_S A s.heap H locs → lv_has ls 5 [(0, .ref aC), (1, .ref at_), (2, .int (nI (gnC g nm lo up d))), (3, .int (nI d))] → W pM l eM (headSpec wsX6_applyTolerances ({ frames := 2, cells := 0, slots := 0, locals := 46 } : Room)).room s mM ([.ref aC, .ref at_] : List Value).toArray blM mtM cM H locs 0 0 Q (F0 mM 4 ls []) := by
    intro fuel
    induction fuel with
    | zero => intro d hfuel; exact absurd hfuel (Nat.not_lt_zero _)
    | succ fuel ih4 =>
      intro d hfuel hd0 H locs ls hP hD hS hl
      refine lv_iload_n hx hb dX6_applyTolerances_4 rfl (lv_at hl 3 rfl) ?_
      refine lv_aload_n hx hb dX6_applyTolerances_5 rfl (lv_at hl 0 rfl) ?_
      refine va_get (D := (dC, dI)) (ci := 6) (v := .ref aR) (C := RX6) (T := TX6) (N := 8) hx hb hts iX6 hown hK hP 0 rfl rfl 1 (by decide) w0 (fun _ h9 => h9) rfl dX6_applyTolerances_6 ?_
      refine va_get (D := (dC, dI)) (ci := 1) (v := .int (nI cnt)) (C := RX1) (T := TX1) (N := 6) hx hb hts iX1 hown hK hP 1 rfl rfl 5 (by decide) w1 (fun _ h9 => h9) rfl dX6_applyTolerances_9 ?_
      refine lv_icmp_ge (tgt := 87) hx hb dX6_applyTolerances_12 (by decide) (fun c12 => ?_) (fun c12 => ?_)
      · have c12 := n_le (a := cnt) (b := d) (by omega) (by omega) c12
        have e9 : d = cnt := (by omega)
        refine lv_iload_n hx hb dX6_applyTolerances_87 rfl (lv_at hl 2 rfl) ?_
        have r1 : (nI (gnC g nm lo up d)) = (nI (gnC g nm lo up cnt)) := by rw [e9]
        have q2 : ((gnS g nm lo up cnt).1) = ((gnS g nm lo up d).1) := by rw [e9]
        have q3 : ((gnS g nm lo up cnt).2) = ((gnS g nm lo up d).2) := by rw [e9]
        have hP9 : va_P (dC, dI) vwCl [(aC, .inr (6, [.ref aD, .ref aR, .ref aH, .ref aS, .ref aT, .ref aL, .ref aI, .int (nI il)])), (aR, .inr (1, [.ref aRF, .ref aRT, .ref aRN, .ref aRL, .ref aRU, .int (nI cnt)])), (aRN, .inl (cyI, 20, .inl nm)), (aRL, .inl (cyI, 20, .inl ((gnS g nm lo up cnt).1))), (aRU, .inl (cyI, 20, .inl ((gnS g nm lo up cnt).2)))] H := by first | (rw [q2, q3]; exact hP.sub [0, 1, 2, 3, 4] rfl) | (simp only [q2, q3]; exact hP.sub [0, 1, 2, 3, 4] rfl) | exact hP.sub [0, 1, 2, 3, 4] rfl
        have hD9 : va_D A [(aC, .inr (6, [.ref aD, .ref aR, .ref aH, .ref aS, .ref aT, .ref aL, .ref aI, .int (nI il)])), (aR, .inr (1, [.ref aRF, .ref aRT, .ref aRN, .ref aRL, .ref aRU, .int (nI cnt)])), (aRN, .inl (cyI, 20, .inl nm)), (aRL, .inl (cyI, 20, .inl ((gnS g nm lo up cnt).1))), (aRU, .inl (cyI, 20, .inl ((gnS g nm lo up cnt).2)))] := by first | (rw [q2, q3]; exact hD.sub [0, 1, 2, 3, 4] (by decide) rfl) | (simp only [q2, q3]; exact hD.sub [0, 1, 2, 3, 4] (by decide) rfl) | exact hD.sub [0, 1, 2, 3, 4] (by decide) rfl
        rw [hQe]
        exact W.iret (v := nI (gnC g nm lo up d)) hx hb hr (fun t ht hW => ⟨⟨_, (), rfl, r1, by rw [ht]; exact hP9, va_K.moved hW.alike hK, hD9⟩, hS.F ht⟩) hS.2.2 dX6_applyTolerances_88
      · have c12 := n_nle (a := cnt) (b := d) (by omega) (by omega) c12
        have hgc := gnC_le g nm lo up d
        have hcl := colN_lt (nm d)
        refine lv_aload_n hx hb dX6_applyTolerances_15 rfl (lv_at hl 0 rfl) ?_
        refine va_get (D := (dC, dI)) (ci := 6) (v := .ref aR) (C := RX6) (T := TX6) (N := 8) hx hb hts iX6 hown hK hP 0 rfl rfl 1 (by decide) w0 (fun _ h9 => h9) rfl dX6_applyTolerances_16 ?_
        refine va_get (D := (dC, dI)) (ci := 1) (v := .ref aRL) (C := RX1) (T := TX1) (N := 6) hx hb hts iX1 hown hK hP 1 rfl rfl 3 (by decide) w2 (fun _ h9 => h9) rfl dX6_applyTolerances_19 ?_
        refine lv_iload_n hx hb dX6_applyTolerances_22 rfl (lv_at hl 3 rfl) ?_
        have h4 : vp_in (nI d) 20 := by first | exact vp_in_nI (by omega) (by omega) | assumption
        refine va_iald hx hb hK hP 3 0 rfl rfl h4 dX6_applyTolerances_23 ?_
        refine lv_topi (fun x5 e6 => ?_)
        obtain rfl : x5 = (((gnS g nm lo up d).1) d) := by rw [e6, nI_clamp (by omega)]
        clear e6
        refine lv_if_ne (tgt := 81) hx hb dX6_applyTolerances_24 (by decide) (fun c24 => ?_) (fun c24 => ?_)
        · skip
          refine lv_iinc (v := nI (d + 1)) (lv' := [(3, .int (nI (d + 1))), (0, .ref aC), (1, .ref at_), (2, .int (nI (gnC g nm lo up d)))]) hx hb dX6_applyTolerances_81 hl (k := 3) rfl (nI_add d 1) (by decide) rfl (fun ls hl => ?_)
          refine lv_goto (tgt := 4) hx hb dX6_applyTolerances_84 (by decide) ?_
          have q7 : ((gnS g nm lo up (d + 1)).1) = ((gnS g nm lo up d).1) := by simp only [gnS]; first | (rw [if_pos ⟨c24, c36⟩]; done) | (rw [if_neg (fun q => c24 q.1)]; done) | (rw [if_neg (fun q => c36 q.2)]; done)
          have q8 : ((gnS g nm lo up (d + 1)).2) = ((gnS g nm lo up d).2) := by simp only [gnS]; first | (rw [if_pos ⟨c24, c36⟩]; done) | (rw [if_neg (fun q => c24 q.1)]; done) | (rw [if_neg (fun q => c36 q.2)]; done)
          have q9 : (nI (gnC g nm lo up (d + 1))) = (nI (gnC g nm lo up d)) := by simp only [gnC]; first | (rw [if_pos ⟨c24, c36⟩]; done) | (rw [if_neg (fun q => c24 q.1)]; done) | (rw [if_neg (fun q => c36 q.2)]; done)
          exact ih4 (d + 1) (by omega) (by first | assumption | omega) _ _ _ (by first | (rw [q7, q8]; exact hP) | (simp only [q7, q8]; exact hP) | exact hP) (by first | (rw [q7, q8]; exact hD) | (simp only [q7, q8]; exact hD) | exact hD) hS (by first | (rw [q9]; exact lv_sub hl [1, 2, 3, 0] rfl) | (simp only [q9]; exact lv_sub hl [1, 2, 3, 0] rfl) | exact lv_sub hl [1, 2, 3, 0] rfl)
        · skip
          refine lv_aload_n hx hb dX6_applyTolerances_27 rfl (lv_at hl 0 rfl) ?_
          refine va_get (D := (dC, dI)) (ci := 6) (v := .ref aR) (C := RX6) (T := TX6) (N := 8) hx hb hts iX6 hown hK hP 0 rfl rfl 1 (by decide) w0 (fun _ h9 => h9) rfl dX6_applyTolerances_28 ?_
          refine va_get (D := (dC, dI)) (ci := 1) (v := .ref aRU) (C := RX1) (T := TX1) (N := 6) hx hb hts iX1 hown hK hP 1 rfl rfl 4 (by decide) w3 (fun _ h9 => h9) rfl dX6_applyTolerances_31 ?_
          refine lv_iload_n hx hb dX6_applyTolerances_34 rfl (lv_at hl 3 rfl) ?_
          have h10 : vp_in (nI d) 20 := by first | exact vp_in_nI (by omega) (by omega) | assumption
          refine va_iald hx hb hK hP 4 0 rfl rfl h10 dX6_applyTolerances_35 ?_
          refine lv_topi (fun x11 e12 => ?_)
          obtain rfl : x11 = (((gnS g nm lo up d).2) d) := by rw [e12, nI_clamp (by omega)]
          clear e12
          refine lv_if_ne (tgt := 81) hx hb dX6_applyTolerances_36 (by decide) (fun c36 => ?_) (fun c36 => ?_)
          · skip
            refine lv_iinc (v := nI (d + 1)) (lv' := [(3, .int (nI (d + 1))), (0, .ref aC), (1, .ref at_), (2, .int (nI (gnC g nm lo up d)))]) hx hb dX6_applyTolerances_81 hl (k := 3) rfl (nI_add d 1) (by decide) rfl (fun ls hl => ?_)
            refine lv_goto (tgt := 4) hx hb dX6_applyTolerances_84 (by decide) ?_
            have q13 : ((gnS g nm lo up (d + 1)).1) = ((gnS g nm lo up d).1) := by simp only [gnS]; first | (rw [if_pos ⟨c24, c36⟩]; done) | (rw [if_neg (fun q => c24 q.1)]; done) | (rw [if_neg (fun q => c36 q.2)]; done)
            have q14 : ((gnS g nm lo up (d + 1)).2) = ((gnS g nm lo up d).2) := by simp only [gnS]; first | (rw [if_pos ⟨c24, c36⟩]; done) | (rw [if_neg (fun q => c24 q.1)]; done) | (rw [if_neg (fun q => c36 q.2)]; done)
            have q15 : (nI (gnC g nm lo up (d + 1))) = (nI (gnC g nm lo up d)) := by simp only [gnC]; first | (rw [if_pos ⟨c24, c36⟩]; done) | (rw [if_neg (fun q => c24 q.1)]; done) | (rw [if_neg (fun q => c36 q.2)]; done)
            exact ih4 (d + 1) (by omega) (by first | assumption | omega) _ _ _ (by first | (rw [q13, q14]; exact hP) | (simp only [q13, q14]; exact hP) | exact hP) (by first | (rw [q13, q14]; exact hD) | (simp only [q13, q14]; exact hD) | exact hD) hS (by first | (rw [q15]; exact lv_sub hl [1, 2, 3, 0] rfl) | (simp only [q15]; exact lv_sub hl [1, 2, 3, 0] rfl) | exact lv_sub hl [1, 2, 3, 0] rfl)
          · skip
            refine lv_aload_n hx hb dX6_applyTolerances_39 rfl (lv_at hl 1 rfl) ?_
            refine lv_aload_n hx hb dX6_applyTolerances_40 rfl (lv_at hl 0 rfl) ?_
            refine va_get (D := (dC, dI)) (ci := 6) (v := .ref aR) (C := RX6) (T := TX6) (N := 8) hx hb hts iX6 hown hK hP 0 rfl rfl 1 (by decide) w0 (fun _ h9 => h9) rfl dX6_applyTolerances_41 ?_
            refine va_get (D := (dC, dI)) (ci := 1) (v := .ref aRN) (C := RX1) (T := TX1) (N := 6) hx hb hts iX1 hown hK hP 1 rfl rfl 2 (by decide) w4 (fun _ h9 => h9) rfl dX6_applyTolerances_44 ?_
            refine lv_iload_n hx hb dX6_applyTolerances_47 rfl (lv_at hl 3 rfl) ?_
            have h16 : vp_in (nI d) 20 := by first | exact vp_in_nI (by omega) (by omega) | assumption
            refine va_iald hx hb hK hP 2 0 rfl rfl h16 dX6_applyTolerances_48 ?_
            refine lv_topi (fun x17 e18 => ?_)
            obtain rfl : x17 = (nm d) := by rw [e18, nI_clamp (by omega)]
            clear e18
            have hPc := hP.sub (ws' := []) [] rfl
            have hDc := hD.sub (ws' := []) [] (by decide) rfl
            have hFc := va_free (wc := []) hD hS hA [] rfl
            refine va_calli (va_runS (As := [.int (nm d)]) (rest := [.ref at_]) ⟨hx, hb, hml, hown, hts⟩ (c_X6_toleranceColumn l dC dI cyI cyZ cyJ cyD H.size (nm d)) (va_cwS 1 hts gX6_applyTolerances_X6_toleranceColumn rfl rfl rfl (by decide +kernel) ⟨Nat.le_of_ble_eq_true rfl, Nat.le_of_ble_eq_true rfl⟩) ⟨fun a U g mk q => by obtain ⟨q0, q1, qP, qK, qD, e_tW⟩ := q; exact ⟨q0, q1, qP, va_K.moved (u := U) (U := U.calling g mk a) (Vm.Alike.refl U.vm) qK, qD, tW.same (u := U) (U := U.calling g mk a) rfl rfl e_tW⟩, fun U hU hW => ⟨rfl, by rw [hU], by rw [hU]; exact hPc, va_K.moved hW.alike hK, hDc.weaken (fun _ _ _ _ => trivial), htW.to hW hU (fun q h1 h2 => hS.2.1 q h1 h2) hFc⟩⟩ rfl rfl hl.1 rfl (lv_room (Nat.le_of_ble_eq_true rfl)) dX6_applyTolerances_49 ⟨Nat.le_of_ble_eq_true rfl, Nat.le_of_ble_eq_true rfl⟩) hS (fun q _ h => hFc q h) hFc (fun r u t H1 locs ht hvm hw hB hz1 hk1 hS => ?_)
            obtain rfl := hw
            obtain ⟨hP1, hK1, hD1⟩ := hB
            rw [ht] at hP1
            obtain ⟨hP, hD⟩ := va_join (wr := [(aC, .inr (6, [.ref aD, .ref aR, .ref aH, .ref aS, .ref aT, .ref aL, .ref aI, .int (nI il)])), (aR, .inr (1, [.ref aRF, .ref aRT, .ref aRN, .ref aRL, .ref aRU, .int (nI cnt)])), (aRN, .inl (cyI, 20, .inl nm)), (aRL, .inl (cyI, 20, .inl ((gnS g nm lo up d).1))), (aRU, .inl (cyI, 20, .inl ((gnS g nm lo up d).2)))]) (w1 := []) hP hD [] [0, 1, 2, 3, 4] rfl rfl (by decide) (by decide) hk1 hFc hP1 hD1
            clear hP1 hD1 hK1 hPc hDc hFc hk1 hz1 hvm ht u t
            generalize H1 = H at hP hS ⊢
            have hP : va_P (dC, dI) vwCl [(aC, .inr (6, [.ref aD, .ref aR, .ref aH, .ref aS, .ref aT, .ref aL, .ref aI, .int (nI il)])), (aR, .inr (1, [.ref aRF, .ref aRT, .ref aRN, .ref aRL, .ref aRU, .int (nI cnt)])), (aRN, .inl (cyI, 20, .inl nm)), (aRL, .inl (cyI, 20, .inl ((gnS g nm lo up d).1))), (aRU, .inl (cyI, 20, .inl ((gnS g nm lo up d).2)))] H := hP
            have hD : va_D A [(aC, .inr (6, [.ref aD, .ref aR, .ref aH, .ref aS, .ref aT, .ref aL, .ref aI, .int (nI il)])), (aR, .inr (1, [.ref aRF, .ref aRT, .ref aRN, .ref aRL, .ref aRU, .int (nI cnt)])), (aRN, .inl (cyI, 20, .inl nm)), (aRL, .inl (cyI, 20, .inl ((gnS g nm lo up d).1))), (aRU, .inl (cyI, 20, .inl ((gnS g nm lo up d).2)))] := hD
            have h19 : vp_in (nI (colN (nm d))) 6 := by first | exact vp_in_nI (by omega) (by omega) | assumption
            refine va_ti (A := A) hx hb htA hS h19 (v := .int (tolV g (colN (nm d)))) (by rw [nI_clamp (by omega)]) dX6_applyTolerances_52 ?_
            refine lv_istore (lv' := [(4, .int (tolV g (colN (nm d)))), (0, .ref aC), (1, .ref at_), (2, .int (nI (gnC g nm lo up d))), (3, .int (nI d))]) hx hb dX6_applyTolerances_53 hl (by decide) rfl (fun ls hl => ?_)
            refine lv_aload_n hx hb dX6_applyTolerances_55 rfl (lv_at hl 1 rfl) ?_
            refine va_get (D := (dC, dI)) (ci := 6) (v := .ref aR) (C := RX6) (T := TX6) (N := 8) hx hb hts iX6 hown hK hP 0 rfl rfl 1 (by decide) w0 (fun _ h9 => h9) rfl dX6_applyTolerances_56 ?_
            refine va_get (D := (dC, dI)) (ci := 1) (v := .ref aRL) (C := RX1) (T := TX1) (N := 6) hx hb hts iX1 hown hK hP 1 rfl rfl 3 (by decide) w2 (fun _ h9 => h9) rfl dX6_applyTolerances_59 ?_
            refine lv_iload_n hx hb dX6_applyTolerances_62 rfl (lv_at hl 4 rfl) ?_
            refine lv_iload hx hb dX6_applyTolerances_63 (lv_at hl 0 rfl) ?_
            refine lv_ineg hx hb dX6_applyTolerances_65 ?_
            have h20 : vp_in (nI d) 20 := by first | exact vp_in_nI (by omega) (by omega) | assumption
            refine va_iast hx hb hK hP hD hS 3 0 rfl rfl h20 dX6_applyTolerances_66 (fun H locs hP hD hS => ?_)
            rw [nI_clamp (by omega)] at hP hD
            have hP : va_P (dC, dI) vwCl [(aC, .inr (6, [.ref aD, .ref aR, .ref aH, .ref aS, .ref aT, .ref aL, .ref aI, .int (nI il)])), (aR, .inr (1, [.ref aRF, .ref aRT, .ref aRN, .ref aRL, .ref aRU, .int (nI cnt)])), (aRN, .inl (cyI, 20, .inl nm)), (aRL, .inl (cyI, 20, .inl (upd ((gnS g nm lo up d).1) d (-(tolV g (colN (nm d))))))), (aRU, .inl (cyI, 20, .inl ((gnS g nm lo up d).2)))] H := hP
            have hD : va_D A [(aC, .inr (6, [.ref aD, .ref aR, .ref aH, .ref aS, .ref aT, .ref aL, .ref aI, .int (nI il)])), (aR, .inr (1, [.ref aRF, .ref aRT, .ref aRN, .ref aRL, .ref aRU, .int (nI cnt)])), (aRN, .inl (cyI, 20, .inl nm)), (aRL, .inl (cyI, 20, .inl (upd ((gnS g nm lo up d).1) d (-(tolV g (colN (nm d))))))), (aRU, .inl (cyI, 20, .inl ((gnS g nm lo up d).2)))] := hD
            refine lv_aload_n hx hb dX6_applyTolerances_67 rfl (lv_at hl 1 rfl) ?_
            refine va_get (D := (dC, dI)) (ci := 6) (v := .ref aR) (C := RX6) (T := TX6) (N := 8) hx hb hts iX6 hown hK hP 0 rfl rfl 1 (by decide) w0 (fun _ h9 => h9) rfl dX6_applyTolerances_68 ?_
            refine va_get (D := (dC, dI)) (ci := 1) (v := .ref aRU) (C := RX1) (T := TX1) (N := 6) hx hb hts iX1 hown hK hP 1 rfl rfl 4 (by decide) w3 (fun _ h9 => h9) rfl dX6_applyTolerances_71 ?_
            refine lv_iload_n hx hb dX6_applyTolerances_74 rfl (lv_at hl 4 rfl) ?_
            refine lv_iload hx hb dX6_applyTolerances_75 (lv_at hl 0 rfl) ?_
            have h21 : vp_in (nI d) 20 := by first | exact vp_in_nI (by omega) (by omega) | assumption
            refine va_iast hx hb hK hP hD hS 4 0 rfl rfl h21 dX6_applyTolerances_77 (fun H locs hP hD hS => ?_)
            rw [nI_clamp (by omega)] at hP hD
            have hP : va_P (dC, dI) vwCl [(aC, .inr (6, [.ref aD, .ref aR, .ref aH, .ref aS, .ref aT, .ref aL, .ref aI, .int (nI il)])), (aR, .inr (1, [.ref aRF, .ref aRT, .ref aRN, .ref aRL, .ref aRU, .int (nI cnt)])), (aRN, .inl (cyI, 20, .inl nm)), (aRL, .inl (cyI, 20, .inl (upd ((gnS g nm lo up d).1) d (-(tolV g (colN (nm d))))))), (aRU, .inl (cyI, 20, .inl (upd ((gnS g nm lo up d).2) d (tolV g (colN (nm d))))))] H := hP
            have hD : va_D A [(aC, .inr (6, [.ref aD, .ref aR, .ref aH, .ref aS, .ref aT, .ref aL, .ref aI, .int (nI il)])), (aR, .inr (1, [.ref aRF, .ref aRT, .ref aRN, .ref aRL, .ref aRU, .int (nI cnt)])), (aRN, .inl (cyI, 20, .inl nm)), (aRL, .inl (cyI, 20, .inl (upd ((gnS g nm lo up d).1) d (-(tolV g (colN (nm d))))))), (aRU, .inl (cyI, 20, .inl (upd ((gnS g nm lo up d).2) d (tolV g (colN (nm d))))))] := hD
            refine lv_iinc (v := nI (gnC g nm lo up d + 1)) (lv' := [(2, .int (nI (gnC g nm lo up d + 1))), (4, .int (tolV g (colN (nm d)))), (0, .ref aC), (1, .ref at_), (3, .int (nI d))]) hx hb dX6_applyTolerances_78 hl (k := 3) rfl (nI_add (gnC g nm lo up d) 1) (by decide) rfl (fun ls hl => ?_)
            refine lv_iinc (v := nI (d + 1)) (lv' := [(3, .int (nI (d + 1))), (2, .int (nI (gnC g nm lo up d + 1))), (4, .int (tolV g (colN (nm d)))), (0, .ref aC), (1, .ref at_)]) hx hb dX6_applyTolerances_81 hl (k := 4) rfl (nI_add d 1) (by decide) rfl (fun ls hl => ?_)
            refine lv_goto (tgt := 4) hx hb dX6_applyTolerances_84 (by decide) ?_
            have q22 : ((gnS g nm lo up (d + 1)).1) = (upd ((gnS g nm lo up d).1) d (-(tolV g (colN (nm d))))) := by simp only [gnS]; first | (rw [if_pos ⟨c24, c36⟩]; done) | (rw [if_neg (fun q => c24 q.1)]; done) | (rw [if_neg (fun q => c36 q.2)]; done)
            have q23 : ((gnS g nm lo up (d + 1)).2) = (upd ((gnS g nm lo up d).2) d (tolV g (colN (nm d)))) := by simp only [gnS]; first | (rw [if_pos ⟨c24, c36⟩]; done) | (rw [if_neg (fun q => c24 q.1)]; done) | (rw [if_neg (fun q => c36 q.2)]; done)
            have q24 : (nI (gnC g nm lo up (d + 1))) = (nI (gnC g nm lo up d + 1)) := by simp only [gnC]; first | (rw [if_pos ⟨c24, c36⟩]; done) | (rw [if_neg (fun q => c24 q.1)]; done) | (rw [if_neg (fun q => c36 q.2)]; done)
            exact ih4 (d + 1) (by omega) (by first | assumption | omega) _ _ _ (by first | (rw [q22, q23]; exact hP) | (simp only [q22, q23]; exact hP) | exact hP) (by first | (rw [q22, q23]; exact hD) | (simp only [q22, q23]; exact hD) | exact hD) hS (by first | (rw [q24]; exact lv_sub hl [3, 4, 1, 0] rfl) | (simp only [q24]; exact lv_sub hl [3, 4, 1, 0] rfl) | exact lv_sub hl [3, 4, 1, 0] rfl)
  have q25 : ((gnS g nm lo up 0).1) = lo := by rfl
  have q26 : ((gnS g nm lo up 0).2) = up := by rfl
  have q27 : (nI (gnC g nm lo up 0)) = 0 := by rfl
  have q28 : (nI 0) = 0 := by first | rfl | simp [*] | (simp only [*]; done)
  exact k4 (cnt - 0 + 1) 0 (Nat.lt_succ_self _) (by first | assumption | omega) _ _ _ (by first | (rw [q25, q26]; exact hP) | (simp only [q25, q26]; exact hP) | exact hP) (by first | (rw [q25, q26]; exact hD) | (simp only [q25, q26]; exact hD) | exact hD) hS (by first | (rw [q27, q28]; exact lv_sub hl [2, 3, 1, 0] rfl) | (simp only [q27, q28]; exact lv_sub hl [2, 3, 1, 0] rfl) | exact lv_sub hl [2, 3, 1, 0] rfl)
set_option maxHeartbeats 4000000 in
set_option maxRecDepth 100000 in
theorem c_X6_general (l : Launch) (hst : l.stackTraces = false) (dC : Nat → ClassId) (dI : Nat → Nat → Nat) (cyI cyZ cyJ cyD : ClassId) (aC aD aR aH aS aT aL aI aRF aRT aRN aRL aRU : Nat) (zH : Nat) (il : Nat) (nm : Nat → Int32) (lo : Nat → Int32) (up : Nat → Int32) (cnt : Nat) (g : Int32) (hc : cnt ≤ 20) : vy_Met l yX6_general wsX6_general ({ frames := 6, cells := 1, slots := 6, locals := 90 } : Room) (va_Pc [.ref aC, .int g] (fun U => U.heap.size = zH ∧ va_P (dC, dI) vwCl [(aC, .inr (6, [.ref aD, .ref aR, .ref aH, .ref aS, .ref aT, .ref aL, .ref aI, .int (nI il)])), (aR, .inr (1, [.ref aRF, .ref aRT, .ref aRN, .ref aRL, .ref aRU, .int (nI cnt)])), (aRN, .inl (cyI, 20, .inl nm)), (aRL, .inl (cyI, 20, .inl lo)), (aRU, .inl (cyI, 20, .inl up))] U.heap ∧ va_K (dC, dI) vwCl [(cyI, .int), (cyZ, .boolean), (cyJ, .long), (cyD, .double)] U ∧ va_D (fun _ => True) [(aC, .inr (6, [.ref aD, .ref aR, .ref aH, .ref aS, .ref aT, .ref aL, .ref aI, .int (nI il)])), (aR, .inr (1, [.ref aRF, .ref aRT, .ref aRN, .ref aRL, .ref aRU, .int (nI cnt)])), (aRN, .inl (cyI, 20, .inl nm)), (aRL, .inl (cyI, 20, .inl lo)), (aRU, .inl (cyI, 20, .inl up))] ∧ tW (va_A [(aC, .inr (6, [.ref aD, .ref aR, .ref aH, .ref aS, .ref aT, .ref aL, .ref aI, .int (nI il)])), (aR, .inr (1, [.ref aRF, .ref aRT, .ref aRN, .ref aRL, .ref aRU, .int (nI cnt)])), (aRN, .inl (cyI, 20, .inl nm)), (aRL, .inl (cyI, 20, .inl lo)), (aRU, .inl (cyI, 20, .inl up))] zH) U ∧ xW (va_A [(aC, .inr (6, [.ref aD, .ref aR, .ref aH, .ref aS, .ref aT, .ref aL, .ref aI, .int (nI il)])), (aR, .inr (1, [.ref aRF, .ref aRT, .ref aRN, .ref aRL, .ref aRU, .int (nI cnt)])), (aRN, .inl (cyI, 20, .inl nm)), (aRL, .inl (cyI, 20, .inl lo)), (aRU, .inl (cyI, 20, .inl up))] zH) U)) (va_Qi (fun (r : Int32) (_ : Unit) => r = nI (gnC g nm lo up cnt)) (fun _ t => (gr4 g = true) ∧ va_P (dC, dI) vwCl [(aC, .inr (6, [.ref aD, .ref aR, .ref aH, .ref aS, .ref aT, .ref aL, .ref aI, .int (nI il)])), (aR, .inr (1, [.ref aRF, .ref aRT, .ref aRN, .ref aRL, .ref aRU, .int (nI cnt)])), (aRN, .inl (cyI, 20, .inl nm)), (aRL, .inl (cyI, 20, .inl ((gnS g nm lo up cnt).1))), (aRU, .inl (cyI, 20, .inl ((gnS g nm lo up cnt).2)))] t.heap ∧ va_K (dC, dI) vwCl [(cyI, .int), (cyZ, .boolean), (cyJ, .long), (cyD, .double)] t ∧ va_D (va_A [(aC, .inr (6, [.ref aD, .ref aR, .ref aH, .ref aS, .ref aT, .ref aL, .ref aI, .int (nI il)])), (aR, .inr (1, [.ref aRF, .ref aRT, .ref aRN, .ref aRL, .ref aRU, .int (nI cnt)])), (aRN, .inl (cyI, 20, .inl nm)), (aRL, .inl (cyI, 20, .inl lo)), (aRU, .inl (cyI, 20, .inl up))] zH) [(aC, .inr (6, [.ref aD, .ref aR, .ref aH, .ref aS, .ref aT, .ref aL, .ref aI, .int (nI il)])), (aR, .inr (1, [.ref aRF, .ref aRT, .ref aRN, .ref aRL, .ref aRU, .int (nI cnt)])), (aRN, .inl (cyI, 20, .inl nm)), (aRL, .inl (cyI, 20, .inl ((gnS g nm lo up cnt).1))), (aRU, .inl (cyI, 20, .inl ((gnS g nm lo up cnt).2)))]) (va_A [(aC, .inr (6, [.ref aD, .ref aR, .ref aH, .ref aS, .ref aT, .ref aL, .ref aI, .int (nI il)])), (aR, .inr (1, [.ref aRF, .ref aRT, .ref aRN, .ref aRL, .ref aRU, .int (nI cnt)])), (aRN, .inl (cyI, 20, .inl nm)), (aRL, .inl (cyI, 20, .inl lo)), (aRU, .inl (cyI, 20, .inl up))] zH)) (vx_X (fun _ : Unit => True) (fun E _ t => (E = xIA ∧ gr4 g = false) ∧ va_P (dC, dI) vwCl [(aC, .inr (6, [.ref aD, .ref aR, .ref aH, .ref aS, .ref aT, .ref aL, .ref aI, .int (nI il)])), (aR, .inr (1, [.ref aRF, .ref aRT, .ref aRN, .ref aRL, .ref aRU, .int (nI cnt)])), (aRN, .inl (cyI, 20, .inl nm)), (aRL, .inl (cyI, 20, .inl lo)), (aRU, .inl (cyI, 20, .inl up))] t.heap ∧ va_K (dC, dI) vwCl [(cyI, .int), (cyZ, .boolean), (cyJ, .long), (cyD, .double)] t ∧ va_D (va_A [(aC, .inr (6, [.ref aD, .ref aR, .ref aH, .ref aS, .ref aT, .ref aL, .ref aI, .int (nI il)])), (aR, .inr (1, [.ref aRF, .ref aRT, .ref aRN, .ref aRL, .ref aRU, .int (nI cnt)])), (aRN, .inl (cyI, 20, .inl nm)), (aRL, .inl (cyI, 20, .inl lo)), (aRU, .inl (cyI, 20, .inl up))] zH) [(aC, .inr (6, [.ref aD, .ref aR, .ref aH, .ref aS, .ref aT, .ref aL, .ref aI, .int (nI il)])), (aR, .inr (1, [.ref aRF, .ref aRT, .ref aRN, .ref aRL, .ref aRU, .int (nI cnt)])), (aRN, .inl (cyI, 20, .inl nm)), (aRL, .inl (cyI, 20, .inl lo)), (aRU, .inl (cyI, 20, .inl up))]) (va_A [(aC, .inr (6, [.ref aD, .ref aR, .ref aH, .ref aS, .ref aT, .ref aL, .ref aI, .int (nI il)])), (aR, .inr (1, [.ref aRF, .ref aRT, .ref aRN, .ref aRL, .ref aRU, .int (nI cnt)])), (aRN, .inl (cyI, 20, .inl nm)), (aRL, .inl (cyI, 20, .inl lo)), (aRU, .inl (cyI, 20, .inl up))] zH)) 1 6 (va_A [(aC, .inr (6, [.ref aD, .ref aR, .ref aH, .ref aS, .ref aT, .ref aL, .ref aI, .int (nI il)])), (aR, .inr (1, [.ref aRF, .ref aRT, .ref aRN, .ref aRL, .ref aRU, .int (nI cnt)])), (aRN, .inl (cyI, 20, .inl nm)), (aRL, .inl (cyI, 20, .inl lo)), (aRU, .inl (cyI, 20, .inl up))] zH) := by
  refine vy_ofW (cc := cX6_general) (maxL := 2) (ret := (some .int)) (by decide) rfl ?_
  intro pM eM s mM args blM mtM cM s₁ BM hml htab hv
  obtain ⟨rfl, hsz, hP, hK, hD0, htW, hXW⟩ := hv
  have hx := BM.exec
  have hb := BM.bytes
  have hr := BM.returns
  have hts := atoms_spec (ws := wsX6_general) BM.pre
  have hown : s.vm.findClass RX6 = some mM.cls := findClass_of_methodNamed BM.named
  have hlocks := BM.notSynchronized
  have w0 := hts (.fieldLink RX6 132 "DimensionChecker" "COARSE" "[I") (by decide +kernel)
  have w1 := hts (.fieldLink RX6 122 "DimensionChecker" "FINE" "[I") (by decide +kernel)
  have w2 := hts (.fieldLink RX6 129 "DimensionChecker" "MEDIUM" "[I") (by decide +kernel)
  have w3 := hts (.fieldLink RX6 135 "DimensionChecker" "VERY_COARSE" "[I") (by decide +kernel)
  have w4 := hts (.classLink RX6 63 "java/lang/IllegalArgumentException") (by decide +kernel)
  have w5 := hts (.initialized "java/lang/IllegalArgumentException") (by decide +kernel)
  subst hsz
  have hD := hD0.self (sz := s.heap.size)
  obtain ⟨Q, hQe⟩ : ∃ Q : State → Prop, Q = vy_MQ blM (va_Qi (fun (r : Int32) (_ : Unit) => r = nI (gnC g nm lo up cnt)) (fun _ t => (gr4 g = true) ∧ va_P (dC, dI) vwCl [(aC, .inr (6, [.ref aD, .ref aR, .ref aH, .ref aS, .ref aT, .ref aL, .ref aI, .int (nI il)])), (aR, .inr (1, [.ref aRF, .ref aRT, .ref aRN, .ref aRL, .ref aRU, .int (nI cnt)])), (aRN, .inl (cyI, 20, .inl nm)), (aRL, .inl (cyI, 20, .inl ((gnS g nm lo up cnt).1))), (aRU, .inl (cyI, 20, .inl ((gnS g nm lo up cnt).2)))] t.heap ∧ va_K (dC, dI) vwCl [(cyI, .int), (cyZ, .boolean), (cyJ, .long), (cyD, .double)] t ∧ va_D (va_A [(aC, .inr (6, [.ref aD, .ref aR, .ref aH, .ref aS, .ref aT, .ref aL, .ref aI, .int (nI il)])), (aR, .inr (1, [.ref aRF, .ref aRT, .ref aRN, .ref aRL, .ref aRU, .int (nI cnt)])), (aRN, .inl (cyI, 20, .inl nm)), (aRL, .inl (cyI, 20, .inl lo)), (aRU, .inl (cyI, 20, .inl up))] s.heap.size) [(aC, .inr (6, [.ref aD, .ref aR, .ref aH, .ref aS, .ref aT, .ref aL, .ref aI, .int (nI il)])), (aR, .inr (1, [.ref aRF, .ref aRT, .ref aRN, .ref aRL, .ref aRU, .int (nI cnt)])), (aRN, .inl (cyI, 20, .inl nm)), (aRL, .inl (cyI, 20, .inl ((gnS g nm lo up cnt).1))), (aRU, .inl (cyI, 20, .inl ((gnS g nm lo up cnt).2)))]) (va_A [(aC, .inr (6, [.ref aD, .ref aR, .ref aH, .ref aS, .ref aT, .ref aL, .ref aI, .int (nI il)])), (aR, .inr (1, [.ref aRF, .ref aRT, .ref aRN, .ref aRL, .ref aRU, .int (nI cnt)])), (aRN, .inl (cyI, 20, .inl nm)), (aRL, .inl (cyI, 20, .inl lo)), (aRU, .inl (cyI, 20, .inl up))] s.heap.size)) (vx_X (fun _ : Unit => True) (fun E _ t => (E = xIA ∧ gr4 g = false) ∧ va_P (dC, dI) vwCl [(aC, .inr (6, [.ref aD, .ref aR, .ref aH, .ref aS, .ref aT, .ref aL, .ref aI, .int (nI il)])), (aR, .inr (1, [.ref aRF, .ref aRT, .ref aRN, .ref aRL, .ref aRU, .int (nI cnt)])), (aRN, .inl (cyI, 20, .inl nm)), (aRL, .inl (cyI, 20, .inl lo)), (aRU, .inl (cyI, 20, .inl up))] t.heap ∧ va_K (dC, dI) vwCl [(cyI, .int), (cyZ, .boolean), (cyJ, .long), (cyD, .double)] t ∧ va_D (va_A [(aC, .inr (6, [.ref aD, .ref aR, .ref aH, .ref aS, .ref aT, .ref aL, .ref aI, .int (nI il)])), (aR, .inr (1, [.ref aRF, .ref aRT, .ref aRN, .ref aRL, .ref aRU, .int (nI cnt)])), (aRN, .inl (cyI, 20, .inl nm)), (aRL, .inl (cyI, 20, .inl lo)), (aRU, .inl (cyI, 20, .inl up))] s.heap.size) [(aC, .inr (6, [.ref aD, .ref aR, .ref aH, .ref aS, .ref aT, .ref aL, .ref aI, .int (nI il)])), (aR, .inr (1, [.ref aRF, .ref aRT, .ref aRN, .ref aRL, .ref aRU, .int (nI cnt)])), (aRN, .inl (cyI, 20, .inl nm)), (aRL, .inl (cyI, 20, .inl lo)), (aRU, .inl (cyI, 20, .inl up))]) (va_A [(aC, .inr (6, [.ref aD, .ref aR, .ref aH, .ref aS, .ref aT, .ref aL, .ref aI, .int (nI il)])), (aR, .inr (1, [.ref aRF, .ref aRT, .ref aRN, .ref aRL, .ref aRU, .int (nI cnt)])), (aRN, .inl (cyI, 20, .inl nm)), (aRL, .inl (cyI, 20, .inl lo)), (aRU, .inl (cyI, 20, .inl up))] s.heap.size)) ([.ref aC, .int g] : List Value).toArray s 1 6 (va_A [(aC, .inr (6, [.ref aD, .ref aR, .ref aH, .ref aS, .ref aT, .ref aL, .ref aI, .int (nI il)])), (aR, .inr (1, [.ref aRF, .ref aRT, .ref aRN, .ref aRL, .ref aRU, .int (nI cnt)])), (aRN, .inl (cyI, 20, .inl nm)), (aRL, .inl (cyI, 20, .inl lo)), (aRU, .inl (cyI, 20, .inl up))] s.heap.size) := ⟨_, rfl⟩
  rw [← hQe]
  generalize hAe : va_A [(aC, .inr (6, [.ref aD, .ref aR, .ref aH, .ref aS, .ref aT, .ref aL, .ref aI, .int (nI il)])), (aR, .inr (1, [.ref aRF, .ref aRT, .ref aRN, .ref aRL, .ref aRU, .int (nI cnt)])), (aRN, .inl (cyI, 20, .inl nm)), (aRL, .inl (cyI, 20, .inl lo)), (aRU, .inl (cyI, 20, .inl up))] s.heap.size = A at hD hQe htW hXW
  have hA : ∀ q : Nat, s.heap.size ≤ q → A q := fun q h => by rw [← hAe]; exact Or.inr h
  obtain ⟨H, hHe⟩ : ∃ H : Heap, H = s.heap := ⟨_, rfl⟩
  have hS : va_S A s.heap H [] := by rw [hHe]; exact va_S.rf
  rw [← hHe] at hP ⊢
  have hl := lv_entry ([.ref aC, .int g]) (n := 2) (Nat.le_of_ble_eq_true rfl)
  rw [lg_entry_eq]
  generalize (lg_sl ([.ref aC, .int g]) ++ List.replicate (2 - (lg_sl ([.ref aC, .int g])).length) Slot.unset).toArray = ls at hl ⊢
  have hl : lv_has ls 2 [(0, .ref aC), (1, .int g)] := hl
  refine lv_iload_n hx hb dX6_general_0 rfl (lv_at hl 1 rfl) ?_
  by_cases h1_99 : g = (99 : Int32)
  · refine lv_lookup (off := 59) (tgt := 60) hx hb dX6_general_1 (by decide) (by rw [h1_99]; decide) (by decide) ?_
    refine lv_aload_n hx hb dX6_general_60 rfl (lv_at hl 0 rfl) ?_
    obtain ⟨t1, hz2, ht3⟩ := tW.t3 htW
    refine va_gets (A := A) hx hb hz2 hS hown w0 (fun _ h9 => h9) dX6_general_61 ?_
    have g4 : cnt ≤ 20 := by first | assumption | omega | exact vp_in_nI (by omega) (by omega)
    have hPc := hP.sub (ws' := [(aC, .inr (6, [.ref aD, .ref aR, .ref aH, .ref aS, .ref aT, .ref aL, .ref aI, .int (nI il)])), (aR, .inr (1, [.ref aRF, .ref aRT, .ref aRN, .ref aRL, .ref aRU, .int (nI cnt)])), (aRN, .inl (cyI, 20, .inl nm)), (aRL, .inl (cyI, 20, .inl lo)), (aRU, .inl (cyI, 20, .inl up))]) [0, 1, 2, 3, 4] rfl
    have hDc := hD.sub (ws' := [(aC, .inr (6, [.ref aD, .ref aR, .ref aH, .ref aS, .ref aT, .ref aL, .ref aI, .int (nI il)])), (aR, .inr (1, [.ref aRF, .ref aRT, .ref aRN, .ref aRL, .ref aRU, .int (nI cnt)])), (aRN, .inl (cyI, 20, .inl nm)), (aRL, .inl (cyI, 20, .inl lo)), (aRU, .inl (cyI, 20, .inl up))]) [0, 1, 2, 3, 4] (by decide) rfl
    have hFc := va_free (wc := [(aC, .inr (6, [.ref aD, .ref aR, .ref aH, .ref aS, .ref aT, .ref aL, .ref aI, .int (nI il)])), (aR, .inr (1, [.ref aRF, .ref aRT, .ref aRN, .ref aRL, .ref aRU, .int (nI cnt)])), (aRN, .inl (cyI, 20, .inl nm)), (aRL, .inl (cyI, 20, .inl lo)), (aRU, .inl (cyI, 20, .inl up))]) hD hS hA [0, 1, 2, 3, 4] rfl
    refine va_calli (va_runV (As := [.ref t1]) (rest := []) ⟨hx, hb, hml, hown, hts⟩ (c_X6_applyTolerances l dC dI cyI cyZ cyJ cyD aC aD aR aH aS aT aL aI aRF aRT aRN aRL aRU t1 H.size il nm lo up cnt (99 : Int32) g4) (cwV 1 hts gX6_general_X6_applyTolerances rfl rfl rfl (by decide +kernel) ⟨Nat.le_of_ble_eq_true rfl, Nat.le_of_ble_eq_true rfl⟩) ⟨fun a U g mk q => by obtain ⟨q0, q1, qP, qK, qD, e_tW, e_tA⟩ := q; exact ⟨q0, q1, qP, va_K.moved (u := U) (U := U.calling g mk a) (Vm.Alike.refl U.vm) qK, qD, tW.same (u := U) (U := U.calling g mk a) rfl rfl e_tW, va_T.moved (u := U) (U := U.calling g mk a) (Vm.Alike.refl U.vm) e_tA⟩, va_recv hK hPc (ci := 6) (q0 := 0) rfl rfl, fun U hU hW => ⟨rfl, by rw [hU], by rw [hU]; exact hPc, va_K.moved hW.alike hK, hDc.weaken (fun _ _ _ _ => trivial), htW.to hW hU (fun q h1 h2 => hS.2.1 q h1 h2) hFc, by rw [hU]; exact va_T.narrow (va_T.moved hW.alike (va_T.kept ht3 (fun q h1 h2 => hS.2.1 q h1 h2))) hFc⟩⟩ rfl rfl hl.1 rfl (lv_room (Nat.le_of_ble_eq_true rfl)) dX6_general_64 ⟨Nat.le_of_ble_eq_true rfl, Nat.le_of_ble_eq_true rfl⟩) hS (fun q _ h => hFc q h) hFc (fun r u t H1 locs ht hvm hw hB hz1 hk1 hS => ?_)
    obtain rfl := hw
    obtain ⟨hP1, hK1, hD1⟩ := hB
    rw [ht] at hP1
    obtain ⟨hP, hD⟩ := va_join (wr := []) (w1 := [(aC, .inr (6, [.ref aD, .ref aR, .ref aH, .ref aS, .ref aT, .ref aL, .ref aI, .int (nI il)])), (aR, .inr (1, [.ref aRF, .ref aRT, .ref aRN, .ref aRL, .ref aRU, .int (nI cnt)])), (aRN, .inl (cyI, 20, .inl nm)), (aRL, .inl (cyI, 20, .inl ((gnS (99 : Int32) nm lo up cnt).1))), (aRU, .inl (cyI, 20, .inl ((gnS (99 : Int32) nm lo up cnt).2)))]) hP hD [0, 1, 2, 3, 4] [] rfl rfl (by decide) (by decide) hk1 hFc hP1 hD1
    clear hP1 hD1 hK1 hPc hDc hFc hk1 hz1 hvm ht u t
    generalize H1 = H at hP hS ⊢
    have hP : va_P (dC, dI) vwCl [(aC, .inr (6, [.ref aD, .ref aR, .ref aH, .ref aS, .ref aT, .ref aL, .ref aI, .int (nI il)])), (aR, .inr (1, [.ref aRF, .ref aRT, .ref aRN, .ref aRL, .ref aRU, .int (nI cnt)])), (aRN, .inl (cyI, 20, .inl nm)), (aRL, .inl (cyI, 20, .inl ((gnS (99 : Int32) nm lo up cnt).1))), (aRU, .inl (cyI, 20, .inl ((gnS (99 : Int32) nm lo up cnt).2)))] H := hP
    have hD : va_D A [(aC, .inr (6, [.ref aD, .ref aR, .ref aH, .ref aS, .ref aT, .ref aL, .ref aI, .int (nI il)])), (aR, .inr (1, [.ref aRF, .ref aRT, .ref aRN, .ref aRL, .ref aRU, .int (nI cnt)])), (aRN, .inl (cyI, 20, .inl nm)), (aRL, .inl (cyI, 20, .inl ((gnS (99 : Int32) nm lo up cnt).1))), (aRU, .inl (cyI, 20, .inl ((gnS (99 : Int32) nm lo up cnt).2)))] := hD
    have r5 : (nI (gnC (99 : Int32) nm lo up cnt)) = (nI (gnC g nm lo up cnt)) := by first | rw [h1_99] | rw [h1_102] | rw [h1_109] | rw [h1_118]
    have q6 : ((gnS g nm lo up cnt).1) = ((gnS (99 : Int32) nm lo up cnt).1) := by first | rw [h1_99] | rw [h1_102] | rw [h1_109] | rw [h1_118]
    have q7 : ((gnS g nm lo up cnt).2) = ((gnS (99 : Int32) nm lo up cnt).2) := by first | rw [h1_99] | rw [h1_102] | rw [h1_109] | rw [h1_118]
    have hP9 : va_P (dC, dI) vwCl [(aC, .inr (6, [.ref aD, .ref aR, .ref aH, .ref aS, .ref aT, .ref aL, .ref aI, .int (nI il)])), (aR, .inr (1, [.ref aRF, .ref aRT, .ref aRN, .ref aRL, .ref aRU, .int (nI cnt)])), (aRN, .inl (cyI, 20, .inl nm)), (aRL, .inl (cyI, 20, .inl ((gnS g nm lo up cnt).1))), (aRU, .inl (cyI, 20, .inl ((gnS g nm lo up cnt).2)))] H := by first | (rw [q6, q7]; exact hP.sub [0, 1, 2, 3, 4] rfl) | (simp only [q6, q7]; exact hP.sub [0, 1, 2, 3, 4] rfl) | exact hP.sub [0, 1, 2, 3, 4] rfl
    have hD9 : va_D A [(aC, .inr (6, [.ref aD, .ref aR, .ref aH, .ref aS, .ref aT, .ref aL, .ref aI, .int (nI il)])), (aR, .inr (1, [.ref aRF, .ref aRT, .ref aRN, .ref aRL, .ref aRU, .int (nI cnt)])), (aRN, .inl (cyI, 20, .inl nm)), (aRL, .inl (cyI, 20, .inl ((gnS g nm lo up cnt).1))), (aRU, .inl (cyI, 20, .inl ((gnS g nm lo up cnt).2)))] := by first | (rw [q6, q7]; exact hD.sub [0, 1, 2, 3, 4] (by decide) rfl) | (simp only [q6, q7]; exact hD.sub [0, 1, 2, 3, 4] (by decide) rfl) | exact hD.sub [0, 1, 2, 3, 4] (by decide) rfl
    have p8 : gr4 g = true := by first | exact gr4_t (Or.inl h1_102) | exact gr4_t (Or.inr (Or.inl h1_109)) | exact gr4_t (Or.inr (Or.inr (Or.inl h1_99))) | exact gr4_t (Or.inr (Or.inr (Or.inr h1_118)))
    rw [hQe]
    refine vy_ret ?_
    exact W.iret (v := nI (gnC (99 : Int32) nm lo up cnt)) hx hb hr (fun t ht hW => ⟨⟨_, (), rfl, r5, p8, by rw [ht]; exact hP9, va_K.moved hW.alike hK, hD9⟩, hS.F ht⟩) hS.2.2 dX6_general_67
  by_cases h1_102 : g = (102 : Int32)
  · refine lv_lookup (off := 43) (tgt := 44) hx hb dX6_general_1 (by decide) (by rw [h1_102]; decide) (by decide) ?_
    refine lv_aload_n hx hb dX6_general_44 rfl (lv_at hl 0 rfl) ?_
    obtain ⟨t9, hz10, ht11⟩ := tW.t1 htW
    refine va_gets (A := A) hx hb hz10 hS hown w1 (fun _ h9 => h9) dX6_general_45 ?_
    have g12 : cnt ≤ 20 := by first | assumption | omega | exact vp_in_nI (by omega) (by omega)
    have hPc := hP.sub (ws' := [(aC, .inr (6, [.ref aD, .ref aR, .ref aH, .ref aS, .ref aT, .ref aL, .ref aI, .int (nI il)])), (aR, .inr (1, [.ref aRF, .ref aRT, .ref aRN, .ref aRL, .ref aRU, .int (nI cnt)])), (aRN, .inl (cyI, 20, .inl nm)), (aRL, .inl (cyI, 20, .inl lo)), (aRU, .inl (cyI, 20, .inl up))]) [0, 1, 2, 3, 4] rfl
    have hDc := hD.sub (ws' := [(aC, .inr (6, [.ref aD, .ref aR, .ref aH, .ref aS, .ref aT, .ref aL, .ref aI, .int (nI il)])), (aR, .inr (1, [.ref aRF, .ref aRT, .ref aRN, .ref aRL, .ref aRU, .int (nI cnt)])), (aRN, .inl (cyI, 20, .inl nm)), (aRL, .inl (cyI, 20, .inl lo)), (aRU, .inl (cyI, 20, .inl up))]) [0, 1, 2, 3, 4] (by decide) rfl
    have hFc := va_free (wc := [(aC, .inr (6, [.ref aD, .ref aR, .ref aH, .ref aS, .ref aT, .ref aL, .ref aI, .int (nI il)])), (aR, .inr (1, [.ref aRF, .ref aRT, .ref aRN, .ref aRL, .ref aRU, .int (nI cnt)])), (aRN, .inl (cyI, 20, .inl nm)), (aRL, .inl (cyI, 20, .inl lo)), (aRU, .inl (cyI, 20, .inl up))]) hD hS hA [0, 1, 2, 3, 4] rfl
    refine va_calli (va_runV (As := [.ref t9]) (rest := []) ⟨hx, hb, hml, hown, hts⟩ (c_X6_applyTolerances l dC dI cyI cyZ cyJ cyD aC aD aR aH aS aT aL aI aRF aRT aRN aRL aRU t9 H.size il nm lo up cnt (102 : Int32) g12) (cwV 1 hts gX6_general_X6_applyTolerances rfl rfl rfl (by decide +kernel) ⟨Nat.le_of_ble_eq_true rfl, Nat.le_of_ble_eq_true rfl⟩) ⟨fun a U g mk q => by obtain ⟨q0, q1, qP, qK, qD, e_tW, e_tA⟩ := q; exact ⟨q0, q1, qP, va_K.moved (u := U) (U := U.calling g mk a) (Vm.Alike.refl U.vm) qK, qD, tW.same (u := U) (U := U.calling g mk a) rfl rfl e_tW, va_T.moved (u := U) (U := U.calling g mk a) (Vm.Alike.refl U.vm) e_tA⟩, va_recv hK hPc (ci := 6) (q0 := 0) rfl rfl, fun U hU hW => ⟨rfl, by rw [hU], by rw [hU]; exact hPc, va_K.moved hW.alike hK, hDc.weaken (fun _ _ _ _ => trivial), htW.to hW hU (fun q h1 h2 => hS.2.1 q h1 h2) hFc, by rw [hU]; exact va_T.narrow (va_T.moved hW.alike (va_T.kept ht11 (fun q h1 h2 => hS.2.1 q h1 h2))) hFc⟩⟩ rfl rfl hl.1 rfl (lv_room (Nat.le_of_ble_eq_true rfl)) dX6_general_48 ⟨Nat.le_of_ble_eq_true rfl, Nat.le_of_ble_eq_true rfl⟩) hS (fun q _ h => hFc q h) hFc (fun r u t H1 locs ht hvm hw hB hz1 hk1 hS => ?_)
    obtain rfl := hw
    obtain ⟨hP1, hK1, hD1⟩ := hB
    rw [ht] at hP1
    obtain ⟨hP, hD⟩ := va_join (wr := []) (w1 := [(aC, .inr (6, [.ref aD, .ref aR, .ref aH, .ref aS, .ref aT, .ref aL, .ref aI, .int (nI il)])), (aR, .inr (1, [.ref aRF, .ref aRT, .ref aRN, .ref aRL, .ref aRU, .int (nI cnt)])), (aRN, .inl (cyI, 20, .inl nm)), (aRL, .inl (cyI, 20, .inl ((gnS (102 : Int32) nm lo up cnt).1))), (aRU, .inl (cyI, 20, .inl ((gnS (102 : Int32) nm lo up cnt).2)))]) hP hD [0, 1, 2, 3, 4] [] rfl rfl (by decide) (by decide) hk1 hFc hP1 hD1
    clear hP1 hD1 hK1 hPc hDc hFc hk1 hz1 hvm ht u t
    generalize H1 = H at hP hS ⊢
    have hP : va_P (dC, dI) vwCl [(aC, .inr (6, [.ref aD, .ref aR, .ref aH, .ref aS, .ref aT, .ref aL, .ref aI, .int (nI il)])), (aR, .inr (1, [.ref aRF, .ref aRT, .ref aRN, .ref aRL, .ref aRU, .int (nI cnt)])), (aRN, .inl (cyI, 20, .inl nm)), (aRL, .inl (cyI, 20, .inl ((gnS (102 : Int32) nm lo up cnt).1))), (aRU, .inl (cyI, 20, .inl ((gnS (102 : Int32) nm lo up cnt).2)))] H := hP
    have hD : va_D A [(aC, .inr (6, [.ref aD, .ref aR, .ref aH, .ref aS, .ref aT, .ref aL, .ref aI, .int (nI il)])), (aR, .inr (1, [.ref aRF, .ref aRT, .ref aRN, .ref aRL, .ref aRU, .int (nI cnt)])), (aRN, .inl (cyI, 20, .inl nm)), (aRL, .inl (cyI, 20, .inl ((gnS (102 : Int32) nm lo up cnt).1))), (aRU, .inl (cyI, 20, .inl ((gnS (102 : Int32) nm lo up cnt).2)))] := hD
    have r13 : (nI (gnC (102 : Int32) nm lo up cnt)) = (nI (gnC g nm lo up cnt)) := by first | rw [h1_99] | rw [h1_102] | rw [h1_109] | rw [h1_118]
    have q14 : ((gnS g nm lo up cnt).1) = ((gnS (102 : Int32) nm lo up cnt).1) := by first | rw [h1_99] | rw [h1_102] | rw [h1_109] | rw [h1_118]
    have q15 : ((gnS g nm lo up cnt).2) = ((gnS (102 : Int32) nm lo up cnt).2) := by first | rw [h1_99] | rw [h1_102] | rw [h1_109] | rw [h1_118]
    have hP9 : va_P (dC, dI) vwCl [(aC, .inr (6, [.ref aD, .ref aR, .ref aH, .ref aS, .ref aT, .ref aL, .ref aI, .int (nI il)])), (aR, .inr (1, [.ref aRF, .ref aRT, .ref aRN, .ref aRL, .ref aRU, .int (nI cnt)])), (aRN, .inl (cyI, 20, .inl nm)), (aRL, .inl (cyI, 20, .inl ((gnS g nm lo up cnt).1))), (aRU, .inl (cyI, 20, .inl ((gnS g nm lo up cnt).2)))] H := by first | (rw [q14, q15]; exact hP.sub [0, 1, 2, 3, 4] rfl) | (simp only [q14, q15]; exact hP.sub [0, 1, 2, 3, 4] rfl) | exact hP.sub [0, 1, 2, 3, 4] rfl
    have hD9 : va_D A [(aC, .inr (6, [.ref aD, .ref aR, .ref aH, .ref aS, .ref aT, .ref aL, .ref aI, .int (nI il)])), (aR, .inr (1, [.ref aRF, .ref aRT, .ref aRN, .ref aRL, .ref aRU, .int (nI cnt)])), (aRN, .inl (cyI, 20, .inl nm)), (aRL, .inl (cyI, 20, .inl ((gnS g nm lo up cnt).1))), (aRU, .inl (cyI, 20, .inl ((gnS g nm lo up cnt).2)))] := by first | (rw [q14, q15]; exact hD.sub [0, 1, 2, 3, 4] (by decide) rfl) | (simp only [q14, q15]; exact hD.sub [0, 1, 2, 3, 4] (by decide) rfl) | exact hD.sub [0, 1, 2, 3, 4] (by decide) rfl
    have p16 : gr4 g = true := by first | exact gr4_t (Or.inl h1_102) | exact gr4_t (Or.inr (Or.inl h1_109)) | exact gr4_t (Or.inr (Or.inr (Or.inl h1_99))) | exact gr4_t (Or.inr (Or.inr (Or.inr h1_118)))
    rw [hQe]
    refine vy_ret ?_
    exact W.iret (v := nI (gnC (102 : Int32) nm lo up cnt)) hx hb hr (fun t ht hW => ⟨⟨_, (), rfl, r13, p16, by rw [ht]; exact hP9, va_K.moved hW.alike hK, hD9⟩, hS.F ht⟩) hS.2.2 dX6_general_51
  by_cases h1_109 : g = (109 : Int32)
  · refine lv_lookup (off := 51) (tgt := 52) hx hb dX6_general_1 (by decide) (by rw [h1_109]; decide) (by decide) ?_
    refine lv_aload_n hx hb dX6_general_52 rfl (lv_at hl 0 rfl) ?_
    obtain ⟨t17, hz18, ht19⟩ := tW.t2 htW
    refine va_gets (A := A) hx hb hz18 hS hown w2 (fun _ h9 => h9) dX6_general_53 ?_
    have g20 : cnt ≤ 20 := by first | assumption | omega | exact vp_in_nI (by omega) (by omega)
    have hPc := hP.sub (ws' := [(aC, .inr (6, [.ref aD, .ref aR, .ref aH, .ref aS, .ref aT, .ref aL, .ref aI, .int (nI il)])), (aR, .inr (1, [.ref aRF, .ref aRT, .ref aRN, .ref aRL, .ref aRU, .int (nI cnt)])), (aRN, .inl (cyI, 20, .inl nm)), (aRL, .inl (cyI, 20, .inl lo)), (aRU, .inl (cyI, 20, .inl up))]) [0, 1, 2, 3, 4] rfl
    have hDc := hD.sub (ws' := [(aC, .inr (6, [.ref aD, .ref aR, .ref aH, .ref aS, .ref aT, .ref aL, .ref aI, .int (nI il)])), (aR, .inr (1, [.ref aRF, .ref aRT, .ref aRN, .ref aRL, .ref aRU, .int (nI cnt)])), (aRN, .inl (cyI, 20, .inl nm)), (aRL, .inl (cyI, 20, .inl lo)), (aRU, .inl (cyI, 20, .inl up))]) [0, 1, 2, 3, 4] (by decide) rfl
    have hFc := va_free (wc := [(aC, .inr (6, [.ref aD, .ref aR, .ref aH, .ref aS, .ref aT, .ref aL, .ref aI, .int (nI il)])), (aR, .inr (1, [.ref aRF, .ref aRT, .ref aRN, .ref aRL, .ref aRU, .int (nI cnt)])), (aRN, .inl (cyI, 20, .inl nm)), (aRL, .inl (cyI, 20, .inl lo)), (aRU, .inl (cyI, 20, .inl up))]) hD hS hA [0, 1, 2, 3, 4] rfl
    refine va_calli (va_runV (As := [.ref t17]) (rest := []) ⟨hx, hb, hml, hown, hts⟩ (c_X6_applyTolerances l dC dI cyI cyZ cyJ cyD aC aD aR aH aS aT aL aI aRF aRT aRN aRL aRU t17 H.size il nm lo up cnt (109 : Int32) g20) (cwV 1 hts gX6_general_X6_applyTolerances rfl rfl rfl (by decide +kernel) ⟨Nat.le_of_ble_eq_true rfl, Nat.le_of_ble_eq_true rfl⟩) ⟨fun a U g mk q => by obtain ⟨q0, q1, qP, qK, qD, e_tW, e_tA⟩ := q; exact ⟨q0, q1, qP, va_K.moved (u := U) (U := U.calling g mk a) (Vm.Alike.refl U.vm) qK, qD, tW.same (u := U) (U := U.calling g mk a) rfl rfl e_tW, va_T.moved (u := U) (U := U.calling g mk a) (Vm.Alike.refl U.vm) e_tA⟩, va_recv hK hPc (ci := 6) (q0 := 0) rfl rfl, fun U hU hW => ⟨rfl, by rw [hU], by rw [hU]; exact hPc, va_K.moved hW.alike hK, hDc.weaken (fun _ _ _ _ => trivial), htW.to hW hU (fun q h1 h2 => hS.2.1 q h1 h2) hFc, by rw [hU]; exact va_T.narrow (va_T.moved hW.alike (va_T.kept ht19 (fun q h1 h2 => hS.2.1 q h1 h2))) hFc⟩⟩ rfl rfl hl.1 rfl (lv_room (Nat.le_of_ble_eq_true rfl)) dX6_general_56 ⟨Nat.le_of_ble_eq_true rfl, Nat.le_of_ble_eq_true rfl⟩) hS (fun q _ h => hFc q h) hFc (fun r u t H1 locs ht hvm hw hB hz1 hk1 hS => ?_)
    obtain rfl := hw
    obtain ⟨hP1, hK1, hD1⟩ := hB
    rw [ht] at hP1
    obtain ⟨hP, hD⟩ := va_join (wr := []) (w1 := [(aC, .inr (6, [.ref aD, .ref aR, .ref aH, .ref aS, .ref aT, .ref aL, .ref aI, .int (nI il)])), (aR, .inr (1, [.ref aRF, .ref aRT, .ref aRN, .ref aRL, .ref aRU, .int (nI cnt)])), (aRN, .inl (cyI, 20, .inl nm)), (aRL, .inl (cyI, 20, .inl ((gnS (109 : Int32) nm lo up cnt).1))), (aRU, .inl (cyI, 20, .inl ((gnS (109 : Int32) nm lo up cnt).2)))]) hP hD [0, 1, 2, 3, 4] [] rfl rfl (by decide) (by decide) hk1 hFc hP1 hD1
    clear hP1 hD1 hK1 hPc hDc hFc hk1 hz1 hvm ht u t
    generalize H1 = H at hP hS ⊢
    have hP : va_P (dC, dI) vwCl [(aC, .inr (6, [.ref aD, .ref aR, .ref aH, .ref aS, .ref aT, .ref aL, .ref aI, .int (nI il)])), (aR, .inr (1, [.ref aRF, .ref aRT, .ref aRN, .ref aRL, .ref aRU, .int (nI cnt)])), (aRN, .inl (cyI, 20, .inl nm)), (aRL, .inl (cyI, 20, .inl ((gnS (109 : Int32) nm lo up cnt).1))), (aRU, .inl (cyI, 20, .inl ((gnS (109 : Int32) nm lo up cnt).2)))] H := hP
    have hD : va_D A [(aC, .inr (6, [.ref aD, .ref aR, .ref aH, .ref aS, .ref aT, .ref aL, .ref aI, .int (nI il)])), (aR, .inr (1, [.ref aRF, .ref aRT, .ref aRN, .ref aRL, .ref aRU, .int (nI cnt)])), (aRN, .inl (cyI, 20, .inl nm)), (aRL, .inl (cyI, 20, .inl ((gnS (109 : Int32) nm lo up cnt).1))), (aRU, .inl (cyI, 20, .inl ((gnS (109 : Int32) nm lo up cnt).2)))] := hD
    have r21 : (nI (gnC (109 : Int32) nm lo up cnt)) = (nI (gnC g nm lo up cnt)) := by first | rw [h1_99] | rw [h1_102] | rw [h1_109] | rw [h1_118]
    have q22 : ((gnS g nm lo up cnt).1) = ((gnS (109 : Int32) nm lo up cnt).1) := by first | rw [h1_99] | rw [h1_102] | rw [h1_109] | rw [h1_118]
    have q23 : ((gnS g nm lo up cnt).2) = ((gnS (109 : Int32) nm lo up cnt).2) := by first | rw [h1_99] | rw [h1_102] | rw [h1_109] | rw [h1_118]
    have hP9 : va_P (dC, dI) vwCl [(aC, .inr (6, [.ref aD, .ref aR, .ref aH, .ref aS, .ref aT, .ref aL, .ref aI, .int (nI il)])), (aR, .inr (1, [.ref aRF, .ref aRT, .ref aRN, .ref aRL, .ref aRU, .int (nI cnt)])), (aRN, .inl (cyI, 20, .inl nm)), (aRL, .inl (cyI, 20, .inl ((gnS g nm lo up cnt).1))), (aRU, .inl (cyI, 20, .inl ((gnS g nm lo up cnt).2)))] H := by first | (rw [q22, q23]; exact hP.sub [0, 1, 2, 3, 4] rfl) | (simp only [q22, q23]; exact hP.sub [0, 1, 2, 3, 4] rfl) | exact hP.sub [0, 1, 2, 3, 4] rfl
    have hD9 : va_D A [(aC, .inr (6, [.ref aD, .ref aR, .ref aH, .ref aS, .ref aT, .ref aL, .ref aI, .int (nI il)])), (aR, .inr (1, [.ref aRF, .ref aRT, .ref aRN, .ref aRL, .ref aRU, .int (nI cnt)])), (aRN, .inl (cyI, 20, .inl nm)), (aRL, .inl (cyI, 20, .inl ((gnS g nm lo up cnt).1))), (aRU, .inl (cyI, 20, .inl ((gnS g nm lo up cnt).2)))] := by first | (rw [q22, q23]; exact hD.sub [0, 1, 2, 3, 4] (by decide) rfl) | (simp only [q22, q23]; exact hD.sub [0, 1, 2, 3, 4] (by decide) rfl) | exact hD.sub [0, 1, 2, 3, 4] (by decide) rfl
    have p24 : gr4 g = true := by first | exact gr4_t (Or.inl h1_102) | exact gr4_t (Or.inr (Or.inl h1_109)) | exact gr4_t (Or.inr (Or.inr (Or.inl h1_99))) | exact gr4_t (Or.inr (Or.inr (Or.inr h1_118)))
    rw [hQe]
    refine vy_ret ?_
    exact W.iret (v := nI (gnC (109 : Int32) nm lo up cnt)) hx hb hr (fun t ht hW => ⟨⟨_, (), rfl, r21, p24, by rw [ht]; exact hP9, va_K.moved hW.alike hK, hD9⟩, hS.F ht⟩) hS.2.2 dX6_general_59
  by_cases h1_118 : g = (118 : Int32)
  · refine lv_lookup (off := 67) (tgt := 68) hx hb dX6_general_1 (by decide) (by rw [h1_118]; decide) (by decide) ?_
    refine lv_aload_n hx hb dX6_general_68 rfl (lv_at hl 0 rfl) ?_
    obtain ⟨t25, hz26, ht27⟩ := tW.t4 htW
    refine va_gets (A := A) hx hb hz26 hS hown w3 (fun _ h9 => h9) dX6_general_69 ?_
    have g28 : cnt ≤ 20 := by first | assumption | omega | exact vp_in_nI (by omega) (by omega)
    have hPc := hP.sub (ws' := [(aC, .inr (6, [.ref aD, .ref aR, .ref aH, .ref aS, .ref aT, .ref aL, .ref aI, .int (nI il)])), (aR, .inr (1, [.ref aRF, .ref aRT, .ref aRN, .ref aRL, .ref aRU, .int (nI cnt)])), (aRN, .inl (cyI, 20, .inl nm)), (aRL, .inl (cyI, 20, .inl lo)), (aRU, .inl (cyI, 20, .inl up))]) [0, 1, 2, 3, 4] rfl
    have hDc := hD.sub (ws' := [(aC, .inr (6, [.ref aD, .ref aR, .ref aH, .ref aS, .ref aT, .ref aL, .ref aI, .int (nI il)])), (aR, .inr (1, [.ref aRF, .ref aRT, .ref aRN, .ref aRL, .ref aRU, .int (nI cnt)])), (aRN, .inl (cyI, 20, .inl nm)), (aRL, .inl (cyI, 20, .inl lo)), (aRU, .inl (cyI, 20, .inl up))]) [0, 1, 2, 3, 4] (by decide) rfl
    have hFc := va_free (wc := [(aC, .inr (6, [.ref aD, .ref aR, .ref aH, .ref aS, .ref aT, .ref aL, .ref aI, .int (nI il)])), (aR, .inr (1, [.ref aRF, .ref aRT, .ref aRN, .ref aRL, .ref aRU, .int (nI cnt)])), (aRN, .inl (cyI, 20, .inl nm)), (aRL, .inl (cyI, 20, .inl lo)), (aRU, .inl (cyI, 20, .inl up))]) hD hS hA [0, 1, 2, 3, 4] rfl
    refine va_calli (va_runV (As := [.ref t25]) (rest := []) ⟨hx, hb, hml, hown, hts⟩ (c_X6_applyTolerances l dC dI cyI cyZ cyJ cyD aC aD aR aH aS aT aL aI aRF aRT aRN aRL aRU t25 H.size il nm lo up cnt (118 : Int32) g28) (cwV 1 hts gX6_general_X6_applyTolerances rfl rfl rfl (by decide +kernel) ⟨Nat.le_of_ble_eq_true rfl, Nat.le_of_ble_eq_true rfl⟩) ⟨fun a U g mk q => by obtain ⟨q0, q1, qP, qK, qD, e_tW, e_tA⟩ := q; exact ⟨q0, q1, qP, va_K.moved (u := U) (U := U.calling g mk a) (Vm.Alike.refl U.vm) qK, qD, tW.same (u := U) (U := U.calling g mk a) rfl rfl e_tW, va_T.moved (u := U) (U := U.calling g mk a) (Vm.Alike.refl U.vm) e_tA⟩, va_recv hK hPc (ci := 6) (q0 := 0) rfl rfl, fun U hU hW => ⟨rfl, by rw [hU], by rw [hU]; exact hPc, va_K.moved hW.alike hK, hDc.weaken (fun _ _ _ _ => trivial), htW.to hW hU (fun q h1 h2 => hS.2.1 q h1 h2) hFc, by rw [hU]; exact va_T.narrow (va_T.moved hW.alike (va_T.kept ht27 (fun q h1 h2 => hS.2.1 q h1 h2))) hFc⟩⟩ rfl rfl hl.1 rfl (lv_room (Nat.le_of_ble_eq_true rfl)) dX6_general_72 ⟨Nat.le_of_ble_eq_true rfl, Nat.le_of_ble_eq_true rfl⟩) hS (fun q _ h => hFc q h) hFc (fun r u t H1 locs ht hvm hw hB hz1 hk1 hS => ?_)
    obtain rfl := hw
    obtain ⟨hP1, hK1, hD1⟩ := hB
    rw [ht] at hP1
    obtain ⟨hP, hD⟩ := va_join (wr := []) (w1 := [(aC, .inr (6, [.ref aD, .ref aR, .ref aH, .ref aS, .ref aT, .ref aL, .ref aI, .int (nI il)])), (aR, .inr (1, [.ref aRF, .ref aRT, .ref aRN, .ref aRL, .ref aRU, .int (nI cnt)])), (aRN, .inl (cyI, 20, .inl nm)), (aRL, .inl (cyI, 20, .inl ((gnS (118 : Int32) nm lo up cnt).1))), (aRU, .inl (cyI, 20, .inl ((gnS (118 : Int32) nm lo up cnt).2)))]) hP hD [0, 1, 2, 3, 4] [] rfl rfl (by decide) (by decide) hk1 hFc hP1 hD1
    clear hP1 hD1 hK1 hPc hDc hFc hk1 hz1 hvm ht u t
    generalize H1 = H at hP hS ⊢
    have hP : va_P (dC, dI) vwCl [(aC, .inr (6, [.ref aD, .ref aR, .ref aH, .ref aS, .ref aT, .ref aL, .ref aI, .int (nI il)])), (aR, .inr (1, [.ref aRF, .ref aRT, .ref aRN, .ref aRL, .ref aRU, .int (nI cnt)])), (aRN, .inl (cyI, 20, .inl nm)), (aRL, .inl (cyI, 20, .inl ((gnS (118 : Int32) nm lo up cnt).1))), (aRU, .inl (cyI, 20, .inl ((gnS (118 : Int32) nm lo up cnt).2)))] H := hP
    have hD : va_D A [(aC, .inr (6, [.ref aD, .ref aR, .ref aH, .ref aS, .ref aT, .ref aL, .ref aI, .int (nI il)])), (aR, .inr (1, [.ref aRF, .ref aRT, .ref aRN, .ref aRL, .ref aRU, .int (nI cnt)])), (aRN, .inl (cyI, 20, .inl nm)), (aRL, .inl (cyI, 20, .inl ((gnS (118 : Int32) nm lo up cnt).1))), (aRU, .inl (cyI, 20, .inl ((gnS (118 : Int32) nm lo up cnt).2)))] := hD
    have r29 : (nI (gnC (118 : Int32) nm lo up cnt)) = (nI (gnC g nm lo up cnt)) := by first | rw [h1_99] | rw [h1_102] | rw [h1_109] | rw [h1_118]
    have q30 : ((gnS g nm lo up cnt).1) = ((gnS (118 : Int32) nm lo up cnt).1) := by first | rw [h1_99] | rw [h1_102] | rw [h1_109] | rw [h1_118]
    have q31 : ((gnS g nm lo up cnt).2) = ((gnS (118 : Int32) nm lo up cnt).2) := by first | rw [h1_99] | rw [h1_102] | rw [h1_109] | rw [h1_118]
    have hP9 : va_P (dC, dI) vwCl [(aC, .inr (6, [.ref aD, .ref aR, .ref aH, .ref aS, .ref aT, .ref aL, .ref aI, .int (nI il)])), (aR, .inr (1, [.ref aRF, .ref aRT, .ref aRN, .ref aRL, .ref aRU, .int (nI cnt)])), (aRN, .inl (cyI, 20, .inl nm)), (aRL, .inl (cyI, 20, .inl ((gnS g nm lo up cnt).1))), (aRU, .inl (cyI, 20, .inl ((gnS g nm lo up cnt).2)))] H := by first | (rw [q30, q31]; exact hP.sub [0, 1, 2, 3, 4] rfl) | (simp only [q30, q31]; exact hP.sub [0, 1, 2, 3, 4] rfl) | exact hP.sub [0, 1, 2, 3, 4] rfl
    have hD9 : va_D A [(aC, .inr (6, [.ref aD, .ref aR, .ref aH, .ref aS, .ref aT, .ref aL, .ref aI, .int (nI il)])), (aR, .inr (1, [.ref aRF, .ref aRT, .ref aRN, .ref aRL, .ref aRU, .int (nI cnt)])), (aRN, .inl (cyI, 20, .inl nm)), (aRL, .inl (cyI, 20, .inl ((gnS g nm lo up cnt).1))), (aRU, .inl (cyI, 20, .inl ((gnS g nm lo up cnt).2)))] := by first | (rw [q30, q31]; exact hD.sub [0, 1, 2, 3, 4] (by decide) rfl) | (simp only [q30, q31]; exact hD.sub [0, 1, 2, 3, 4] (by decide) rfl) | exact hD.sub [0, 1, 2, 3, 4] (by decide) rfl
    have p32 : gr4 g = true := by first | exact gr4_t (Or.inl h1_102) | exact gr4_t (Or.inr (Or.inl h1_109)) | exact gr4_t (Or.inr (Or.inr (Or.inl h1_99))) | exact gr4_t (Or.inr (Or.inr (Or.inr h1_118)))
    rw [hQe]
    refine vy_ret ?_
    exact W.iret (v := nI (gnC (118 : Int32) nm lo up cnt)) hx hb hr (fun t ht hW => ⟨⟨_, (), rfl, r29, p32, by rw [ht]; exact hP9, va_K.moved hW.alike hK, hD9⟩, hS.F ht⟩) hS.2.2 dX6_general_75
  refine lv_lookup (off := 75) (tgt := 76) hx hb dX6_general_1 (by decide) (by show Op.lookupswitch.offset [(99, 59), (102, 43), (109, 51), (118, 67)] _ _ = _; rw [lv_osw h1_99 (by decide), lv_osw h1_102 (by decide), lv_osw h1_109 (by decide), lv_osw h1_118 (by decide)]; rfl) (by decide) ?_
  have hP9 : va_P (dC, dI) vwCl [(aC, .inr (6, [.ref aD, .ref aR, .ref aH, .ref aS, .ref aT, .ref aL, .ref aI, .int (nI il)])), (aR, .inr (1, [.ref aRF, .ref aRT, .ref aRN, .ref aRL, .ref aRU, .int (nI cnt)])), (aRN, .inl (cyI, 20, .inl nm)), (aRL, .inl (cyI, 20, .inl lo)), (aRU, .inl (cyI, 20, .inl up))] H := by exact hP.sub [0, 1, 2, 3, 4] rfl
  have hD9 : va_D A [(aC, .inr (6, [.ref aD, .ref aR, .ref aH, .ref aS, .ref aT, .ref aL, .ref aI, .int (nI il)])), (aR, .inr (1, [.ref aRF, .ref aRT, .ref aRN, .ref aRL, .ref aRU, .int (nI cnt)])), (aRN, .inl (cyI, 20, .inl nm)), (aRL, .inl (cyI, 20, .inl lo)), (aRU, .inl (cyI, 20, .inl up))] := by exact hD.sub [0, 1, 2, 3, 4] (by decide) rfl
  have p33 : xIA = xIA ∧ gr4 g = false := by exact ⟨rfl, decide_eq_false (fun q => q.elim h1_102 (fun q => q.elim h1_109 (fun q => q.elim h1_99 h1_118)))⟩
  rw [hQe]
  obtain ⟨sa9, hsa9⟩ := hXW.str 138 "not a grade" (by decide)
  have hgw : ∀ w ∈ (vx_atS RX6 67 "java/lang/IllegalArgumentException" ["java/lang/RuntimeException", "java/lang/Exception"]).filter goodWord, w ∈ wsX6_general := by decide +kernel
  refine vy_of ?_
  exact vx_throwS (A := A) (names := ["java/lang/RuntimeException", "java/lang/Exception"]) hx hb hst hown (by decide +kernel) (by decide +kernel) w4 w5 hsa9 (vx_hat (fun w h9 => hts w (hgw w h9)) xB_IA hXW.IA) xO_IA hXW.1 hXW.2.1 hS (by rw [hml]; exact hl.1) dX6_general_76 dX6_general_79 dX6_general_80 dX6_general_82 dX6_general_85 (fun x h9 => (htab x h9).elim) (Nat.le_of_ble_eq_true rfl) (Nat.le_of_ble_eq_true rfl) (Nat.le_of_ble_eq_true rfl) (Nat.le_of_ble_eq_true rfl) hlocks (fun t hal hz9 hk9 => ⟨(), trivial, ⟨p33, hP9.kept (fun k q hkq => hk9 _ (vx_lt hP9 hkq)), va_K.moved hal hK, hD9⟩, ⟨Nat.le_trans hS.1 hz9, fun q h1 h2 => (hk9 q (Nat.lt_of_lt_of_le h1 hS.1)).trans (hS.2.1 q h1 h2)⟩⟩) hS.2.2 (Nat.le_of_ble_eq_true rfl) (Nat.le_of_ble_eq_true rfl)
