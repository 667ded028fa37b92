
theorem inB_neg {x : Int32} {n : Nat} (h : x < 0) : inB x n = false := by unfold inB; rw [decide_eq_false (fun q => q h)]; rfl
theorem inB_big {x : Int32} {n : Nat} (h : nI n ≤ x) : inB x n = false := by unfold inB; rw [show decide (¬ nI n ≤ x) = false from decide_eq_false (fun q => q h), Bool.and_false]
theorem inB_yes {x : Int32} {n : Nat} (h1 : ¬ x < 0) (h2 : x < nI n) : inB x n = true := by unfold inB; rw [decide_eq_true h1, decide_eq_true (Int32.not_le.mpr h2)]; rfl

set_option maxHeartbeats 4000000 in
set_option maxRecDepth 100000 in
theorem c_X6_needFace (l : Launch) (hst : l.stackTraces = false) (dC : Nat → ClassId) (dI : Nat → Nat → Nat) (cyI cyZ cyJ cyD : ClassId) (aC aD aR aH aS aT aL aI aDL aDD : Nat) (zH : Nat) (il : Nat) (n : Nat) (x : Int32) (hn : n ≤ 12) : vy_Met l yX6_needFace wsX6_needFace ({ frames := 6, cells := 1, slots := 6, locals := 90 } : Room) (va_Pc [.ref aC, .int x] (fun U => U.heap.size = zH ∧ va_P (dC, dI) vwCl [(aC, .inr (6, [.ref aD, .ref aR, .ref aH, .ref aS, .ref aT, .ref aL, .ref aI, .int (nI il)])), (aD, .inr (2, [.ref aR, .ref aDL, .ref aDD, .int (nI n)]))] U.heap ∧ va_K (dC, dI) vwCl [(cyI, .int), (cyZ, .boolean), (cyJ, .long), (cyD, .double)] U ∧ va_D (fun _ => True) [(aC, .inr (6, [.ref aD, .ref aR, .ref aH, .ref aS, .ref aT, .ref aL, .ref aI, .int (nI il)])), (aD, .inr (2, [.ref aR, .ref aDL, .ref aDD, .int (nI n)]))] ∧ xW (va_A [(aC, .inr (6, [.ref aD, .ref aR, .ref aH, .ref aS, .ref aT, .ref aL, .ref aI, .int (nI il)])), (aD, .inr (2, [.ref aR, .ref aDL, .ref aDD, .int (nI n)]))] zH) U)) (va_Qv (fun _ : Unit => True) (fun _ t => (inB x n = true) ∧ va_P (dC, dI) vwCl [(aC, .inr (6, [.ref aD, .ref aR, .ref aH, .ref aS, .ref aT, .ref aL, .ref aI, .int (nI il)])), (aD, .inr (2, [.ref aR, .ref aDL, .ref aDD, .int (nI n)]))] t.heap ∧ va_K (dC, dI) vwCl [(cyI, .int), (cyZ, .boolean), (cyJ, .long), (cyD, .double)] t ∧ va_D (va_A [(aC, .inr (6, [.ref aD, .ref aR, .ref aH, .ref aS, .ref aT, .ref aL, .ref aI, .int (nI il)])), (aD, .inr (2, [.ref aR, .ref aDL, .ref aDD, .int (nI n)]))] zH) [(aC, .inr (6, [.ref aD, .ref aR, .ref aH, .ref aS, .ref aT, .ref aL, .ref aI, .int (nI il)])), (aD, .inr (2, [.ref aR, .ref aDL, .ref aDD, .int (nI n)]))]) (va_A [(aC, .inr (6, [.ref aD, .ref aR, .ref aH, .ref aS, .ref aT, .ref aL, .ref aI, .int (nI il)])), (aD, .inr (2, [.ref aR, .ref aDL, .ref aDD, .int (nI n)]))] zH)) (vx_X (fun _ : Unit => True) (fun E _ t => (E = xIO ∧ inB x n = false) ∧ va_P (dC, dI) vwCl [(aC, .inr (6, [.ref aD, .ref aR, .ref aH, .ref aS, .ref aT, .ref aL, .ref aI, .int (nI il)])), (aD, .inr (2, [.ref aR, .ref aDL, .ref aDD, .int (nI n)]))] t.heap ∧ va_K (dC, dI) vwCl [(cyI, .int), (cyZ, .boolean), (cyJ, .long), (cyD, .double)] t ∧ va_D (va_A [(aC, .inr (6, [.ref aD, .ref aR, .ref aH, .ref aS, .ref aT, .ref aL, .ref aI, .int (nI il)])), (aD, .inr (2, [.ref aR, .ref aDL, .ref aDD, .int (nI n)]))] zH) [(aC, .inr (6, [.ref aD, .ref aR, .ref aH, .ref aS, .ref aT, .ref aL, .ref aI, .int (nI il)])), (aD, .inr (2, [.ref aR, .ref aDL, .ref aDD, .int (nI n)]))]) (va_A [(aC, .inr (6, [.ref aD, .ref aR, .ref aH, .ref aS, .ref aT, .ref aL, .ref aI, .int (nI il)])), (aD, .inr (2, [.ref aR, .ref aDL, .ref aDD, .int (nI n)]))] zH)) 1 6 (va_A [(aC, .inr (6, [.ref aD, .ref aR, .ref aH, .ref aS, .ref aT, .ref aL, .ref aI, .int (nI il)])), (aD, .inr (2, [.ref aR, .ref aDL, .ref aDD, .int (nI n)]))] zH) := by
  refine vy_ofW (cc := cX6_needFace) (maxL := 2) (ret := none) (by decide) rfl ?_
  intro pM eM s mM args blM mtM cM s₁ BM hml htab hv
  obtain ⟨rfl, hsz, hP, hK, hD0, hXW⟩ := hv
  have hx := BM.exec
  have hb := BM.bytes
  have hr := BM.returns
  have hts := atoms_spec (ws := wsX6_needFace) BM.pre
  have hown : s.vm.findClass RX6 = some mM.cls := findClass_of_methodNamed BM.named
  have hlocks := BM.notSynchronized
  have w0 := hts (.classLink RX6 193 "java/lang/IndexOutOfBoundsException") (by decide +kernel)
  have w1 := hts (.initialized "java/lang/IndexOutOfBoundsException") (by decide +kernel)
  have w2 := hts (.fieldLink RX6 14 "DimensionChecker" "drawing" "LDimensionChecker$Drawing;") (by decide +kernel)
  have w3 := hts (.fieldLink RX6 155 "DimensionChecker$Drawing" "faces" "I") (by decide +kernel)
  have iX6 : ∀ w ∈ wsX60, w ∈ wsX6_needFace := by decide +kernel
  have iX2 : ∀ w ∈ wsX20, w ∈ wsX6_needFace := by decide +kernel
  subst hsz
  have hD := hD0.self (sz := s.heap.size)
  obtain ⟨Q, hQe⟩ : ∃ Q : State → Prop, Q = vy_MQ blM (va_Qv (fun _ : Unit => True) (fun _ t => (inB x n = true) ∧ va_P (dC, dI) vwCl [(aC, .inr (6, [.ref aD, .ref aR, .ref aH, .ref aS, .ref aT, .ref aL, .ref aI, .int (nI il)])), (aD, .inr (2, [.ref aR, .ref aDL, .ref aDD, .int (nI n)]))] t.heap ∧ va_K (dC, dI) vwCl [(cyI, .int), (cyZ, .boolean), (cyJ, .long), (cyD, .double)] t ∧ va_D (va_A [(aC, .inr (6, [.ref aD, .ref aR, .ref aH, .ref aS, .ref aT, .ref aL, .ref aI, .int (nI il)])), (aD, .inr (2, [.ref aR, .ref aDL, .ref aDD, .int (nI n)]))] s.heap.size) [(aC, .inr (6, [.ref aD, .ref aR, .ref aH, .ref aS, .ref aT, .ref aL, .ref aI, .int (nI il)])), (aD, .inr (2, [.ref aR, .ref aDL, .ref aDD, .int (nI n)]))]) (va_A [(aC, .inr (6, [.ref aD, .ref aR, .ref aH, .ref aS, .ref aT, .ref aL, .ref aI, .int (nI il)])), (aD, .inr (2, [.ref aR, .ref aDL, .ref aDD, .int (nI n)]))] s.heap.size)) (vx_X (fun _ : Unit => True) (fun E _ t => (E = xIO ∧ inB x n = false) ∧ va_P (dC, dI) vwCl [(aC, .inr (6, [.ref aD, .ref aR, .ref aH, .ref aS, .ref aT, .ref aL, .ref aI, .int (nI il)])), (aD, .inr (2, [.ref aR, .ref aDL, .ref aDD, .int (nI n)]))] t.heap ∧ va_K (dC, dI) vwCl [(cyI, .int), (cyZ, .boolean), (cyJ, .long), (cyD, .double)] t ∧ va_D (va_A [(aC, .inr (6, [.ref aD, .ref aR, .ref aH, .ref aS, .ref aT, .ref aL, .ref aI, .int (nI il)])), (aD, .inr (2, [.ref aR, .ref aDL, .ref aDD, .int (nI n)]))] s.heap.size) [(aC, .inr (6, [.ref aD, .ref aR, .ref aH, .ref aS, .ref aT, .ref aL, .ref aI, .int (nI il)])), (aD, .inr (2, [.ref aR, .ref aDL, .ref aDD, .int (nI n)]))]) (va_A [(aC, .inr (6, [.ref aD, .ref aR, .ref aH, .ref aS, .ref aT, .ref aL, .ref aI, .int (nI il)])), (aD, .inr (2, [.ref aR, .ref aDL, .ref aDD, .int (nI n)]))] s.heap.size)) ([.ref aC, .int x] : List Value).toArray s 1 6 (va_A [(aC, .inr (6, [.ref aD, .ref aR, .ref aH, .ref aS, .ref aT, .ref aL, .ref aI, .int (nI il)])), (aD, .inr (2, [.ref aR, .ref aDL, .ref aDD, .int (nI n)]))] s.heap.size) := ⟨_, rfl⟩
  rw [← hQe]
  generalize hAe : va_A [(aC, .inr (6, [.ref aD, .ref aR, .ref aH, .ref aS, .ref aT, .ref aL, .ref aI, .int (nI il)])), (aD, .inr (2, [.ref aR, .ref aDL, .ref aDD, .int (nI n)]))] s.heap.size = A at hD hQe hXW
  have hA : ∀ q : Nat, s.heap.size ≤ q → A q := fun q h => by rw [← hAe]; exact Or.inr h
  obtain ⟨H, hHe⟩ : ∃ H : Heap, H = s.heap := ⟨_, rfl⟩
  have hS : va_S A s.heap H [] := by rw [hHe]; exact va_S.rf
  rw [← hHe] at hP ⊢
  have hl := lv_entry ([.ref aC, .int x]) (n := 2) (Nat.le_of_ble_eq_true rfl)
  rw [lg_entry_eq]
  generalize (lg_sl ([.ref aC, .int x]) ++ List.replicate (2 - (lg_sl ([.ref aC, .int x])).length) Slot.unset).toArray = ls at hl ⊢
  have hl : lv_has ls 2 [(0, .ref aC), (1, .int x)] := hl
  refine lv_iload_n hx hb dX6_needFace_0 rfl (lv_at hl 1 rfl) ?_
  refine lv_if_lt (tgt := 15) hx hb dX6_needFace_1 (by decide) (fun c1 => ?_) (fun c1 => ?_)
  · skip
    have hP9 : va_P (dC, dI) vwCl [(aC, .inr (6, [.ref aD, .ref aR, .ref aH, .ref aS, .ref aT, .ref aL, .ref aI, .int (nI il)])), (aD, .inr (2, [.ref aR, .ref aDL, .ref aDD, .int (nI n)]))] H := by exact hP.sub [0, 1] rfl
    have hD9 : va_D A [(aC, .inr (6, [.ref aD, .ref aR, .ref aH, .ref aS, .ref aT, .ref aL, .ref aI, .int (nI il)])), (aD, .inr (2, [.ref aR, .ref aDL, .ref aDD, .int (nI n)]))] := by exact hD.sub [0, 1] (by decide) rfl
    have p1 : xIO = xIO ∧ inB x n = false := by first | exact ⟨rfl, inB_neg c1⟩ | exact ⟨rfl, inB_big c12⟩ | exact ⟨rfl, inB_big (Int32.not_lt.mp c12)⟩
    rw [hQe]
    obtain ⟨sa9, hsa9⟩ := hXW.str 287 "not a face" (by decide)
    have hgw : ∀ w ∈ (vx_atS RX6 197 "java/lang/IndexOutOfBoundsException" ["java/lang/RuntimeException", "java/lang/Exception"]).filter goodWord, w ∈ wsX6_needFace := by decide +kernel
    refine vy_of ?_
    exact vx_throwSW (A := A) (names := ["java/lang/RuntimeException", "java/lang/Exception"]) hx hb hst hown (by decide +kernel) (by decide +kernel) w0 w1 hsa9 (vx_hat (fun w h9 => hts w (hgw w h9)) xB_IO hXW.IO) xO_IO hXW.1 hXW.2.1 hS (by rw [hml]; exact hl.1) dX6_needFace_15 dX6_needFace_18 dX6_needFace_19 dX6_needFace_22 dX6_needFace_25 (fun x h9 => (htab x h9).elim) (Nat.le_of_ble_eq_true rfl) (Nat.le_of_ble_eq_true rfl) (Nat.le_of_ble_eq_true rfl) (Nat.le_of_ble_eq_true rfl) hlocks (fun t hal hz9 hk9 => ⟨(), trivial, ⟨p1, hP9.kept (fun k q hkq => hk9 _ (vx_lt hP9 hkq)), va_K.moved hal hK, hD9⟩, ⟨Nat.le_trans hS.1 hz9, fun q h1 h2 => (hk9 q (Nat.lt_of_lt_of_le h1 hS.1)).trans (hS.2.1 q h1 h2)⟩⟩) hS.2.2 (Nat.le_of_ble_eq_true rfl) (Nat.le_of_ble_eq_true rfl)
  · skip
    refine lv_iload_n hx hb dX6_needFace_4 rfl (lv_at hl 1 rfl) ?_
    refine lv_aload_n hx hb dX6_needFace_5 rfl (lv_at hl 0 rfl) ?_
    refine va_get (D := (dC, dI)) (ci := 6) (v := .ref aD) (C := RX6) (T := TX6) (N := 8) hx hb hts iX6 hown hK hP 0 rfl rfl 0 (by decide) w2 (fun _ h9 => h9) rfl dX6_needFace_6 ?_
    refine va_get (D := (dC, dI)) (ci := 2) (v := .int (nI n)) (C := RX2) (T := TX2) (N := 4) hx hb hts iX2 hown hK hP 1 rfl rfl 3 (by decide) w3 (fun _ h9 => h9) rfl dX6_needFace_9 ?_
    refine lv_icmp_lt (tgt := 26) hx hb dX6_needFace_12 (by decide) (fun c12 => ?_) (fun c12 => ?_)
    · skip
      have hP9 : va_P (dC, dI) vwCl [(aC, .inr (6, [.ref aD, .ref aR, .ref aH, .ref aS, .ref aT, .ref aL, .ref aI, .int (nI il)])), (aD, .inr (2, [.ref aR, .ref aDL, .ref aDD, .int (nI n)]))] H := by exact hP.sub [0, 1] rfl
      have hD9 : va_D A [(aC, .inr (6, [.ref aD, .ref aR, .ref aH, .ref aS, .ref aT, .ref aL, .ref aI, .int (nI il)])), (aD, .inr (2, [.ref aR, .ref aDL, .ref aDD, .int (nI n)]))] := by exact hD.sub [0, 1] (by decide) rfl
      have p2 : inB x n = true := by first | exact inB_yes c1 c12 | exact inB_yes (Int32.not_lt.mpr c1) c12
      rw [hQe]
      refine vy_ret ?_
      exact W.vret hx hb hr (fun t ht hW => ⟨⟨(), rfl, trivial, p2, by rw [ht]; exact hP9, va_K.moved hW.alike hK, hD9⟩, hS.F ht⟩) hS.2.2 dX6_needFace_26
    · skip
      have hP9 : va_P (dC, dI) vwCl [(aC, .inr (6, [.ref aD, .ref aR, .ref aH, .ref aS, .ref aT, .ref aL, .ref aI, .int (nI il)])), (aD, .inr (2, [.ref aR, .ref aDL, .ref aDD, .int (nI n)]))] H := by exact hP.sub [0, 1] rfl
      have hD9 : va_D A [(aC, .inr (6, [.ref aD, .ref aR, .ref aH, .ref aS, .ref aT, .ref aL, .ref aI, .int (nI il)])), (aD, .inr (2, [.ref aR, .ref aDL, .ref aDD, .int (nI n)]))] := by exact hD.sub [0, 1] (by decide) rfl
      have p3 : xIO = xIO ∧ inB x n = false := by first | exact ⟨rfl, inB_neg c1⟩ | exact ⟨rfl, inB_big c12⟩ | exact ⟨rfl, inB_big (Int32.not_lt.mp c12)⟩
      rw [hQe]
      obtain ⟨sa9, hsa9⟩ := hXW.str 287 "not a face" (by decide)
      have hgw : ∀ w ∈ (vx_atS RX6 197 "java/lang/IndexOutOfBoundsException" ["java/lang/RuntimeException", "java/lang/Exception"]).filter goodWord, w ∈ wsX6_needFace := by decide +kernel
      refine vy_of ?_
      exact vx_throwSW (A := A) (names := ["java/lang/RuntimeException", "java/lang/Exception"]) hx hb hst hown (by decide +kernel) (by decide +kernel) w0 w1 hsa9 (vx_hat (fun w h9 => hts w (hgw w h9)) xB_IO hXW.IO) xO_IO hXW.1 hXW.2.1 hS (by rw [hml]; exact hl.1) dX6_needFace_15 dX6_needFace_18 dX6_needFace_19 dX6_needFace_22 dX6_needFace_25 (fun x h9 => (htab x h9).elim) (Nat.le_of_ble_eq_true rfl) (Nat.le_of_ble_eq_true rfl) (Nat.le_of_ble_eq_true rfl) (Nat.le_of_ble_eq_true rfl) hlocks (fun t hal hz9 hk9 => ⟨(), trivial, ⟨p3, hP9.kept (fun k q hkq => hk9 _ (vx_lt hP9 hkq)), va_K.moved hal hK, hD9⟩, ⟨Nat.le_trans hS.1 hz9, fun q h1 h2 => (hk9 q (Nat.lt_of_lt_of_le h1 hS.1)).trans (hS.2.1 q h1 h2)⟩⟩) hS.2.2 (Nat.le_of_ble_eq_true rfl) (Nat.le_of_ble_eq_true rfl)
set_option maxHeartbeats 4000000 in
set_option maxRecDepth 100000 in
theorem c_X6_needDimension (l : Launch) (hst : l.stackTraces = false) (dC : Nat → ClassId) (dI : Nat → Nat → Nat) (cyI cyZ cyJ cyD : ClassId) (aC aD aR aH aS aT aL aI aRF aRT aRN aRL aRU : Nat) (zH : Nat) (il : Nat) (cnt : Nat) (x : Int32) (hc : cnt ≤ 20) : vy_Met l yX6_needDimension wsX6_needDimension ({ frames := 6, cells := 1, slots := 6, locals := 90 } : Room) (va_Pc [.ref aC, .int x] (fun U => U.heap.size = zH ∧ va_P (dC, dI) vwCl [(aC, .inr (6, [.ref aD, .ref aR, .ref aH, .ref aS, .ref aT, .ref aL, .ref aI, .int (nI il)])), (aR, .inr (1, [.ref aRF, .ref aRT, .ref aRN, .ref aRL, .ref aRU, .int (nI cnt)]))] U.heap ∧ va_K (dC, dI) vwCl [(cyI, .int), (cyZ, .boolean), (cyJ, .long), (cyD, .double)] U ∧ va_D (fun _ => True) [(aC, .inr (6, [.ref aD, .ref aR, .ref aH, .ref aS, .ref aT, .ref aL, .ref aI, .int (nI il)])), (aR, .inr (1, [.ref aRF, .ref aRT, .ref aRN, .ref aRL, .ref aRU, .int (nI cnt)]))] ∧ xW (va_A [(aC, .inr (6, [.ref aD, .ref aR, .ref aH, .ref aS, .ref aT, .ref aL, .ref aI, .int (nI il)])), (aR, .inr (1, [.ref aRF, .ref aRT, .ref aRN, .ref aRL, .ref aRU, .int (nI cnt)]))] zH) U)) (va_Qv (fun _ : Unit => True) (fun _ t => (inB x cnt = true) ∧ va_P (dC, dI) vwCl [(aC, .inr (6, [.ref aD, .ref aR, .ref aH, .ref aS, .ref aT, .ref aL, .ref aI, .int (nI il)])), (aR, .inr (1, [.ref aRF, .ref aRT, .ref aRN, .ref aRL, .ref aRU, .int (nI cnt)]))] t.heap ∧ va_K (dC, dI) vwCl [(cyI, .int), (cyZ, .boolean), (cyJ, .long), (cyD, .double)] t ∧ va_D (va_A [(aC, .inr (6, [.ref aD, .ref aR, .ref aH, .ref aS, .ref aT, .ref aL, .ref aI, .int (nI il)])), (aR, .inr (1, [.ref aRF, .ref aRT, .ref aRN, .ref aRL, .ref aRU, .int (nI cnt)]))] zH) [(aC, .inr (6, [.ref aD, .ref aR, .ref aH, .ref aS, .ref aT, .ref aL, .ref aI, .int (nI il)])), (aR, .inr (1, [.ref aRF, .ref aRT, .ref aRN, .ref aRL, .ref aRU, .int (nI cnt)]))]) (va_A [(aC, .inr (6, [.ref aD, .ref aR, .ref aH, .ref aS, .ref aT, .ref aL, .ref aI, .int (nI il)])), (aR, .inr (1, [.ref aRF, .ref aRT, .ref aRN, .ref aRL, .ref aRU, .int (nI cnt)]))] zH)) (vx_X (fun _ : Unit => True) (fun E _ t => (E = xIO ∧ inB x cnt = false) ∧ va_P (dC, dI) vwCl [(aC, .inr (6, [.ref aD, .ref aR, .ref aH, .ref aS, .ref aT, .ref aL, .ref aI, .int (nI il)])), (aR, .inr (1, [.ref aRF, .ref aRT, .ref aRN, .ref aRL, .ref aRU, .int (nI cnt)]))] t.heap ∧ va_K (dC, dI) vwCl [(cyI, .int), (cyZ, .boolean), (cyJ, .long), (cyD, .double)] t ∧ va_D (va_A [(aC, .inr (6, [.ref aD, .ref aR, .ref aH, .ref aS, .ref aT, .ref aL, .ref aI, .int (nI il)])), (aR, .inr (1, [.ref aRF, .ref aRT, .ref aRN, .ref aRL, .ref aRU, .int (nI cnt)]))] zH) [(aC, .inr (6, [.ref aD, .ref aR, .ref aH, .ref aS, .ref aT, .ref aL, .ref aI, .int (nI il)])), (aR, .inr (1, [.ref aRF, .ref aRT, .ref aRN, .ref aRL, .ref aRU, .int (nI cnt)]))]) (va_A [(aC, .inr (6, [.ref aD, .ref aR, .ref aH, .ref aS, .ref aT, .ref aL, .ref aI, .int (nI il)])), (aR, .inr (1, [.ref aRF, .ref aRT, .ref aRN, .ref aRL, .ref aRU, .int (nI cnt)]))] zH)) 1 6 (va_A [(aC, .inr (6, [.ref aD, .ref aR, .ref aH, .ref aS, .ref aT, .ref aL, .ref aI, .int (nI il)])), (aR, .inr (1, [.ref aRF, .ref aRT, .ref aRN, .ref aRL, .ref aRU, .int (nI cnt)]))] zH) := by
  refine vy_ofW (cc := cX6_needDimension) (maxL := 2) (ret := none) (by decide) rfl ?_
  intro pM eM s mM args blM mtM cM s₁ BM hml htab hv
  obtain ⟨rfl, hsz, hP, hK, hD0, hXW⟩ := hv
  have hx := BM.exec
  have hb := BM.bytes
  have hr := BM.returns
  have hts := atoms_spec (ws := wsX6_needDimension) BM.pre
  have hown : s.vm.findClass RX6 = some mM.cls := findClass_of_methodNamed BM.named
  have hlocks := BM.notSynchronized
  have w0 := hts (.classLink RX6 193 "java/lang/IndexOutOfBoundsException") (by decide +kernel)
  have w1 := hts (.initialized "java/lang/IndexOutOfBoundsException") (by decide +kernel)
  have w2 := hts (.fieldLink RX6 22 "DimensionChecker" "rows" "LDimensionChecker$Dimensions;") (by decide +kernel)
  have w3 := hts (.fieldLink RX6 70 "DimensionChecker$Dimensions" "count" "I") (by decide +kernel)
  have iX6 : ∀ w ∈ wsX60, w ∈ wsX6_needDimension := by decide +kernel
  have iX1 : ∀ w ∈ wsX10, w ∈ wsX6_needDimension := by decide +kernel
  subst hsz
  have hD := hD0.self (sz := s.heap.size)
  obtain ⟨Q, hQe⟩ : ∃ Q : State → Prop, Q = vy_MQ blM (va_Qv (fun _ : Unit => True) (fun _ t => (inB x cnt = true) ∧ va_P (dC, dI) vwCl [(aC, .inr (6, [.ref aD, .ref aR, .ref aH, .ref aS, .ref aT, .ref aL, .ref aI, .int (nI il)])), (aR, .inr (1, [.ref aRF, .ref aRT, .ref aRN, .ref aRL, .ref aRU, .int (nI cnt)]))] t.heap ∧ va_K (dC, dI) vwCl [(cyI, .int), (cyZ, .boolean), (cyJ, .long), (cyD, .double)] t ∧ va_D (va_A [(aC, .inr (6, [.ref aD, .ref aR, .ref aH, .ref aS, .ref aT, .ref aL, .ref aI, .int (nI il)])), (aR, .inr (1, [.ref aRF, .ref aRT, .ref aRN, .ref aRL, .ref aRU, .int (nI cnt)]))] s.heap.size) [(aC, .inr (6, [.ref aD, .ref aR, .ref aH, .ref aS, .ref aT, .ref aL, .ref aI, .int (nI il)])), (aR, .inr (1, [.ref aRF, .ref aRT, .ref aRN, .ref aRL, .ref aRU, .int (nI cnt)]))]) (va_A [(aC, .inr (6, [.ref aD, .ref aR, .ref aH, .ref aS, .ref aT, .ref aL, .ref aI, .int (nI il)])), (aR, .inr (1, [.ref aRF, .ref aRT, .ref aRN, .ref aRL, .ref aRU, .int (nI cnt)]))] s.heap.size)) (vx_X (fun _ : Unit => True) (fun E _ t => (E = xIO ∧ inB x cnt = false) ∧ va_P (dC, dI) vwCl [(aC, .inr (6, [.ref aD, .ref aR, .ref aH, .ref aS, .ref aT, .ref aL, .ref aI, .int (nI il)])), (aR, .inr (1, [.ref aRF, .ref aRT, .ref aRN, .ref aRL, .ref aRU, .int (nI cnt)]))] t.heap ∧ va_K (dC, dI) vwCl [(cyI, .int), (cyZ, .boolean), (cyJ, .long), (cyD, .double)] t ∧ va_D (va_A [(aC, .inr (6, [.ref aD, .ref aR, .ref aH, .ref aS, .ref aT, .ref aL, .ref aI, .int (nI il)])), (aR, .inr (1, [.ref aRF, .ref aRT, .ref aRN, .ref aRL, .ref aRU, .int (nI cnt)]))] s.heap.size) [(aC, .inr (6, [.ref aD, .ref aR, .ref aH, .ref aS, .ref aT, .ref aL, .ref aI, .int (nI il)])), (aR, .inr (1, [.ref aRF, .ref aRT, .ref aRN, .ref aRL, .ref aRU, .int (nI cnt)]))]) (va_A [(aC, .inr (6, [.ref aD, .ref aR, .ref aH, .ref aS, .ref aT, .ref aL, .ref aI, .int (nI il)])), (aR, .inr (1, [.ref aRF, .ref aRT, .ref aRN, .ref aRL, .ref aRU, .int (nI cnt)]))] s.heap.size)) ([.ref aC, .int x] : List Value).toArray s 1 6 (va_A [(aC, .inr (6, [.ref aD, .ref aR, .ref aH, .ref aS, .ref aT, .ref aL, .ref aI, .int (nI il)])), (aR, .inr (1, [.ref aRF, .ref aRT, .ref aRN, .ref aRL, .ref aRU, .int (nI cnt)]))] s.heap.size) := ⟨_, rfl⟩
  rw [← hQe]
  generalize hAe : va_A [(aC, .inr (6, [.ref aD, .ref aR, .ref aH, .ref aS, .ref aT, .ref aL, .ref aI, .int (nI il)])), (aR, .inr (1, [.ref aRF, .ref aRT, .ref aRN, .ref aRL, .ref aRU, .int (nI cnt)]))] s.heap.size = A at hD hQe hXW
  have hA : ∀ q : Nat, s.heap.size ≤ q → A q := fun q h => by rw [← hAe]; exact Or.inr h
  obtain ⟨H, hHe⟩ : ∃ H : Heap, H = s.heap := ⟨_, rfl⟩
  have hS : va_S A s.heap H [] := by rw [hHe]; exact va_S.rf
  rw [← hHe] at hP ⊢
  have hl := lv_entry ([.ref aC, .int x]) (n := 2) (Nat.le_of_ble_eq_true rfl)
  rw [lg_entry_eq]
  generalize (lg_sl ([.ref aC, .int x]) ++ List.replicate (2 - (lg_sl ([.ref aC, .int x])).length) Slot.unset).toArray = ls at hl ⊢
  have hl : lv_has ls 2 [(0, .ref aC), (1, .int x)] := hl
  refine lv_iload_n hx hb dX6_needDimension_0 rfl (lv_at hl 1 rfl) ?_
  refine lv_if_lt (tgt := 15) hx hb dX6_needDimension_1 (by decide) (fun c1 => ?_) (fun c1 => ?_)
  · skip
    have hP9 : va_P (dC, dI) vwCl [(aC, .inr (6, [.ref aD, .ref aR, .ref aH, .ref aS, .ref aT, .ref aL, .ref aI, .int (nI il)])), (aR, .inr (1, [.ref aRF, .ref aRT, .ref aRN, .ref aRL, .ref aRU, .int (nI cnt)]))] H := by exact hP.sub [0, 1] rfl
    have hD9 : va_D A [(aC, .inr (6, [.ref aD, .ref aR, .ref aH, .ref aS, .ref aT, .ref aL, .ref aI, .int (nI il)])), (aR, .inr (1, [.ref aRF, .ref aRT, .ref aRN, .ref aRL, .ref aRU, .int (nI cnt)]))] := by exact hD.sub [0, 1] (by decide) rfl
    have p1 : xIO = xIO ∧ inB x cnt = false := by first | exact ⟨rfl, inB_neg c1⟩ | exact ⟨rfl, inB_big c12⟩ | exact ⟨rfl, inB_big (Int32.not_lt.mp c12)⟩
    rw [hQe]
    obtain ⟨sa9, hsa9⟩ := hXW.str 90 "not a dimension" (by decide)
    have hgw : ∀ w ∈ (vx_atS RX6 197 "java/lang/IndexOutOfBoundsException" ["java/lang/RuntimeException", "java/lang/Exception"]).filter goodWord, w ∈ wsX6_needDimension := by decide +kernel
    refine vy_of ?_
    exact vx_throwS (A := A) (names := ["java/lang/RuntimeException", "java/lang/Exception"]) hx hb hst hown (by decide +kernel) (by decide +kernel) w0 w1 hsa9 (vx_hat (fun w h9 => hts w (hgw w h9)) xB_IO hXW.IO) xO_IO hXW.1 hXW.2.1 hS (by rw [hml]; exact hl.1) dX6_needDimension_15 dX6_needDimension_18 dX6_needDimension_19 dX6_needDimension_21 dX6_needDimension_24 (fun x h9 => (htab x h9).elim) (Nat.le_of_ble_eq_true rfl) (Nat.le_of_ble_eq_true rfl) (Nat.le_of_ble_eq_true rfl) (Nat.le_of_ble_eq_true rfl) hlocks (fun t hal hz9 hk9 => ⟨(), trivial, ⟨p1, hP9.kept (fun k q hkq => hk9 _ (vx_lt hP9 hkq)), va_K.moved hal hK, hD9⟩, ⟨Nat.le_trans hS.1 hz9, fun q h1 h2 => (hk9 q (Nat.lt_of_lt_of_le h1 hS.1)).trans (hS.2.1 q h1 h2)⟩⟩) hS.2.2 (Nat.le_of_ble_eq_true rfl) (Nat.le_of_ble_eq_true rfl)
  · skip
    refine lv_iload_n hx hb dX6_needDimension_4 rfl (lv_at hl 1 rfl) ?_
    refine lv_aload_n hx hb dX6_needDimension_5 rfl (lv_at hl 0 rfl) ?_
    refine va_get (D := (dC, dI)) (ci := 6) (v := .ref aR) (C := RX6) (T := TX6) (N := 8) hx hb hts iX6 hown hK hP 0 rfl rfl 1 (by decide) w2 (fun _ h9 => h9) rfl dX6_needDimension_6 ?_
    refine va_get (D := (dC, dI)) (ci := 1) (v := .int (nI cnt)) (C := RX1) (T := TX1) (N := 6) hx hb hts iX1 hown hK hP 1 rfl rfl 5 (by decide) w3 (fun _ h9 => h9) rfl dX6_needDimension_9 ?_
    refine lv_icmp_lt (tgt := 25) hx hb dX6_needDimension_12 (by decide) (fun c12 => ?_) (fun c12 => ?_)
    · skip
      have hP9 : va_P (dC, dI) vwCl [(aC, .inr (6, [.ref aD, .ref aR, .ref aH, .ref aS, .ref aT, .ref aL, .ref aI, .int (nI il)])), (aR, .inr (1, [.ref aRF, .ref aRT, .ref aRN, .ref aRL, .ref aRU, .int (nI cnt)]))] H := by exact hP.sub [0, 1] rfl
      have hD9 : va_D A [(aC, .inr (6, [.ref aD, .ref aR, .ref aH, .ref aS, .ref aT, .ref aL, .ref aI, .int (nI il)])), (aR, .inr (1, [.ref aRF, .ref aRT, .ref aRN, .ref aRL, .ref aRU, .int (nI cnt)]))] := by exact hD.sub [0, 1] (by decide) rfl
      have p2 : inB x cnt = true := by first | exact inB_yes c1 c12 | exact inB_yes (Int32.not_lt.mpr c1) c12
      rw [hQe]
      refine vy_ret ?_
      exact W.vret hx hb hr (fun t ht hW => ⟨⟨(), rfl, trivial, p2, by rw [ht]; exact hP9, va_K.moved hW.alike hK, hD9⟩, hS.F ht⟩) hS.2.2 dX6_needDimension_25
    · skip
      have hP9 : va_P (dC, dI) vwCl [(aC, .inr (6, [.ref aD, .ref aR, .ref aH, .ref aS, .ref aT, .ref aL, .ref aI, .int (nI il)])), (aR, .inr (1, [.ref aRF, .ref aRT, .ref aRN, .ref aRL, .ref aRU, .int (nI cnt)]))] H := by exact hP.sub [0, 1] rfl
      have hD9 : va_D A [(aC, .inr (6, [.ref aD, .ref aR, .ref aH, .ref aS, .ref aT, .ref aL, .ref aI, .int (nI il)])), (aR, .inr (1, [.ref aRF, .ref aRT, .ref aRN, .ref aRL, .ref aRU, .int (nI cnt)]))] := by exact hD.sub [0, 1] (by decide) rfl
      have p3 : xIO = xIO ∧ inB x cnt = false := by first | exact ⟨rfl, inB_neg c1⟩ | exact ⟨rfl, inB_big c12⟩ | exact ⟨rfl, inB_big (Int32.not_lt.mp c12)⟩
      rw [hQe]
      obtain ⟨sa9, hsa9⟩ := hXW.str 90 "not a dimension" (by decide)
      have hgw : ∀ w ∈ (vx_atS RX6 197 "java/lang/IndexOutOfBoundsException" ["java/lang/RuntimeException", "java/lang/Exception"]).filter goodWord, w ∈ wsX6_needDimension := by decide +kernel
      refine vy_of ?_
      exact vx_throwS (A := A) (names := ["java/lang/RuntimeException", "java/lang/Exception"]) hx hb hst hown (by decide +kernel) (by decide +kernel) w0 w1 hsa9 (vx_hat (fun w h9 => hts w (hgw w h9)) xB_IO hXW.IO) xO_IO hXW.1 hXW.2.1 hS (by rw [hml]; exact hl.1) dX6_needDimension_15 dX6_needDimension_18 dX6_needDimension_19 dX6_needDimension_21 dX6_needDimension_24 (fun x h9 => (htab x h9).elim) (Nat.le_of_ble_eq_true rfl) (Nat.le_of_ble_eq_true rfl) (Nat.le_of_ble_eq_true rfl) (Nat.le_of_ble_eq_true rfl) hlocks (fun t hal hz9 hk9 => ⟨(), trivial, ⟨p3, hP9.kept (fun k q hkq => hk9 _ (vx_lt hP9 hkq)), va_K.moved hal hK, hD9⟩, ⟨Nat.le_trans hS.1 hz9, fun q h1 h2 => (hk9 q (Nat.lt_of_lt_of_le h1 hS.1)).trans (hS.2.1 q h1 h2)⟩⟩) hS.2.2 (Nat.le_of_ble_eq_true rfl) (Nat.le_of_ble_eq_true rfl)
set_option maxHeartbeats 4000000 in
set_option maxRecDepth 100000 in
theorem c_X6_needFaces (l : Launch) (hst : l.stackTraces = false) (dC : Nat → ClassId) (dI : Nat → Nat → Nat) (cyI cyZ cyJ cyD : ClassId) (aC aD aR aH aS aT aL aI aDL aDD : Nat) (zH : Nat) (il : Nat) (n : Nat) (x : Int32) (y : Int32) (hn : n ≤ 12) : vy_Met l yX6_needFaces wsX6_needFaces ({ frames := 7, cells := 1, slots := 6, locals := 111 } : Room) (va_Pc [.ref aC, .int x, .int y] (fun U => U.heap.size = zH ∧ va_P (dC, dI) vwCl [(aC, .inr (6, [.ref aD, .ref aR, .ref aH, .ref aS, .ref aT, .ref aL, .ref aI, .int (nI il)])), (aD, .inr (2, [.ref aR, .ref aDL, .ref aDD, .int (nI n)]))] U.heap ∧ va_K (dC, dI) vwCl [(cyI, .int), (cyZ, .boolean), (cyJ, .long), (cyD, .double)] U ∧ va_D (fun _ => True) [(aC, .inr (6, [.ref aD, .ref aR, .ref aH, .ref aS, .ref aT, .ref aL, .ref aI, .int (nI il)])), (aD, .inr (2, [.ref aR, .ref aDL, .ref aDD, .int (nI n)]))] ∧ xW (va_A [(aC, .inr (6, [.ref aD, .ref aR, .ref aH, .ref aS, .ref aT, .ref aL, .ref aI, .int (nI il)])), (aD, .inr (2, [.ref aR, .ref aDL, .ref aDD, .int (nI n)]))] zH) U)) (va_Qv (fun _ : Unit => True) (fun _ t => (inB x n = true) ∧ (inB y n = true) ∧ va_P (dC, dI) vwCl [(aC, .inr (6, [.ref aD, .ref aR, .ref aH, .ref aS, .ref aT, .ref aL, .ref aI, .int (nI il)])), (aD, .inr (2, [.ref aR, .ref aDL, .ref aDD, .int (nI n)]))] t.heap ∧ va_K (dC, dI) vwCl [(cyI, .int), (cyZ, .boolean), (cyJ, .long), (cyD, .double)] t ∧ va_D (va_A [(aC, .inr (6, [.ref aD, .ref aR, .ref aH, .ref aS, .ref aT, .ref aL, .ref aI, .int (nI il)])), (aD, .inr (2, [.ref aR, .ref aDL, .ref aDD, .int (nI n)]))] zH) [(aC, .inr (6, [.ref aD, .ref aR, .ref aH, .ref aS, .ref aT, .ref aL, .ref aI, .int (nI il)])), (aD, .inr (2, [.ref aR, .ref aDL, .ref aDD, .int (nI n)]))]) (va_A [(aC, .inr (6, [.ref aD, .ref aR, .ref aH, .ref aS, .ref aT, .ref aL, .ref aI, .int (nI il)])), (aD, .inr (2, [.ref aR, .ref aDL, .ref aDD, .int (nI n)]))] zH)) (vx_X (fun _ : Unit => True) (fun E _ t => (E = xIO ∧ (inB x n && inB y n) = false) ∧ va_P (dC, dI) vwCl [(aC, .inr (6, [.ref aD, .ref aR, .ref aH, .ref aS, .ref aT, .ref aL, .ref aI, .int (nI il)])), (aD, .inr (2, [.ref aR, .ref aDL, .ref aDD, .int (nI n)]))] t.heap ∧ va_K (dC, dI) vwCl [(cyI, .int), (cyZ, .boolean), (cyJ, .long), (cyD, .double)] t ∧ va_D (va_A [(aC, .inr (6, [.ref aD, .ref aR, .ref aH, .ref aS, .ref aT, .ref aL, .ref aI, .int (nI il)])), (aD, .inr (2, [.ref aR, .ref aDL, .ref aDD, .int (nI n)]))] zH) [(aC, .inr (6, [.ref aD, .ref aR, .ref aH, .ref aS, .ref aT, .ref aL, .ref aI, .int (nI il)])), (aD, .inr (2, [.ref aR, .ref aDL, .ref aDD, .int (nI n)]))]) (va_A [(aC, .inr (6, [.ref aD, .ref aR, .ref aH, .ref aS, .ref aT, .ref aL, .ref aI, .int (nI il)])), (aD, .inr (2, [.ref aR, .ref aDL, .ref aDD, .int (nI n)]))] zH)) 1 6 (va_A [(aC, .inr (6, [.ref aD, .ref aR, .ref aH, .ref aS, .ref aT, .ref aL, .ref aI, .int (nI il)])), (aD, .inr (2, [.ref aR, .ref aDL, .ref aDD, .int (nI n)]))] zH) := by
  refine vy_ofW (cc := cX6_needFaces) (maxL := 3) (ret := none) (by decide) rfl ?_
  intro pM eM s mM args blM mtM cM s₁ BM hml htab hv
  obtain ⟨rfl, hsz, hP, hK, hD0, hXW⟩ := hv
  have hx := BM.exec
  have hb := BM.bytes
  have hr := BM.returns
  have hts := atoms_spec (ws := wsX6_needFaces) BM.pre
  have hown : s.vm.findClass RX6 = some mM.cls := findClass_of_methodNamed BM.named
  have hlocks := BM.notSynchronized
  subst hsz
  have hD := hD0.self (sz := s.heap.size)
  obtain ⟨Q, hQe⟩ : ∃ Q : State → Prop, Q = vy_MQ blM (va_Qv (fun _ : Unit => True) (fun _ t => (inB x n = true) ∧ (inB y n = true) ∧ va_P (dC, dI) vwCl [(aC, .inr (6, [.ref aD, .ref aR, .ref aH, .ref aS, .ref aT, .ref aL, .ref aI, .int (nI il)])), (aD, .inr (2, [.ref aR, .ref aDL, .ref aDD, .int (nI n)]))] t.heap ∧ va_K (dC, dI) vwCl [(cyI, .int), (cyZ, .boolean), (cyJ, .long), (cyD, .double)] t ∧ va_D (va_A [(aC, .inr (6, [.ref aD, .ref aR, .ref aH, .ref aS, .ref aT, .ref aL, .ref aI, .int (nI il)])), (aD, .inr (2, [.ref aR, .ref aDL, .ref aDD, .int (nI n)]))] s.heap.size) [(aC, .inr (6, [.ref aD, .ref aR, .ref aH, .ref aS, .ref aT, .ref aL, .ref aI, .int (nI il)])), (aD, .inr (2, [.ref aR, .ref aDL, .ref aDD, .int (nI n)]))]) (va_A [(aC, .inr (6, [.ref aD, .ref aR, .ref aH, .ref aS, .ref aT, .ref aL, .ref aI, .int (nI il)])), (aD, .inr (2, [.ref aR, .ref aDL, .ref aDD, .int (nI n)]))] s.heap.size)) (vx_X (fun _ : Unit => True) (fun E _ t => (E = xIO ∧ (inB x n && inB y n) = false) ∧ va_P (dC, dI) vwCl [(aC, .inr (6, [.ref aD, .ref aR, .ref aH, .ref aS, .ref aT, .ref aL, .ref aI, .int (nI il)])), (aD, .inr (2, [.ref aR, .ref aDL, .ref aDD, .int (nI n)]))] t.heap ∧ va_K (dC, dI) vwCl [(cyI, .int), (cyZ, .boolean), (cyJ, .long), (cyD, .double)] t ∧ va_D (va_A [(aC, .inr (6, [.ref aD, .ref aR, .ref aH, .ref aS, .ref aT, .ref aL, .ref aI, .int (nI il)])), (aD, .inr (2, [.ref aR, .ref aDL, .ref aDD, .int (nI n)]))] s.heap.size) [(aC, .inr (6, [.ref aD, .ref aR, .ref aH, .ref aS, .ref aT, .ref aL, .ref aI, .int (nI il)])), (aD, .inr (2, [.ref aR, .ref aDL, .ref aDD, .int (nI n)]))]) (va_A [(aC, .inr (6, [.ref aD, .ref aR, .ref aH, .ref aS, .ref aT, .ref aL, .ref aI, .int (nI il)])), (aD, .inr (2, [.ref aR, .ref aDL, .ref aDD, .int (nI n)]))] s.heap.size)) ([.ref aC, .int x, .int y] : List Value).toArray s 1 6 (va_A [(aC, .inr (6, [.ref aD, .ref aR, .ref aH, .ref aS, .ref aT, .ref aL, .ref aI, .int (nI il)])), (aD, .inr (2, [.ref aR, .ref aDL, .ref aDD, .int (nI n)]))] s.heap.size) := ⟨_, rfl⟩
  rw [← hQe]
  generalize hAe : va_A [(aC, .inr (6, [.ref aD, .ref aR, .ref aH, .ref aS, .ref aT, .ref aL, .ref aI, .int (nI il)])), (aD, .inr (2, [.ref aR, .ref aDL, .ref aDD, .int (nI n)]))] s.heap.size = A at hD hQe hXW
  have hA : ∀ q : Nat, s.heap.size ≤ q → A q := fun q h => by rw [← hAe]; exact Or.inr h
  obtain ⟨H, hHe⟩ : ∃ H : Heap, H = s.heap := ⟨_, rfl⟩
  have hS : va_S A s.heap H [] := by rw [hHe]; exact va_S.rf
  rw [← hHe] at hP ⊢
  have hl := lv_entry ([.ref aC, .int x, .int y]) (n := 3) (Nat.le_of_ble_eq_true rfl)
  rw [lg_entry_eq]
  generalize (lg_sl ([.ref aC, .int x, .int y]) ++ List.replicate (3 - (lg_sl ([.ref aC, .int x, .int y])).length) Slot.unset).toArray = ls at hl ⊢
  have hl : lv_has ls 3 [(0, .ref aC), (1, .int x), (2, .int y)] := hl
  refine lv_aload_n hx hb dX6_needFaces_0 rfl (lv_at hl 0 rfl) ?_
  refine lv_iload_n hx hb dX6_needFaces_1 rfl (lv_at hl 1 rfl) ?_
  have g1 : n ≤ 12 := by first | assumption | omega | exact vp_in_nI (by omega) (by omega)
  have hPc := hP.sub (ws' := [(aC, .inr (6, [.ref aD, .ref aR, .ref aH, .ref aS, .ref aT, .ref aL, .ref aI, .int (nI il)])), (aD, .inr (2, [.ref aR, .ref aDL, .ref aDD, .int (nI n)]))]) [0, 1] rfl
  have hDc := hD.sub (ws' := [(aC, .inr (6, [.ref aD, .ref aR, .ref aH, .ref aS, .ref aT, .ref aL, .ref aI, .int (nI il)])), (aD, .inr (2, [.ref aR, .ref aDL, .ref aDD, .int (nI n)]))]) [0, 1] (by decide) rfl
  have hFc := va_free (wc := [(aC, .inr (6, [.ref aD, .ref aR, .ref aH, .ref aS, .ref aT, .ref aL, .ref aI, .int (nI il)])), (aD, .inr (2, [.ref aR, .ref aDL, .ref aDD, .int (nI n)]))]) hD hS hA [0, 1] rfl
  refine vy_callv (vy_runV (As := [.int x]) (rest := []) ⟨hx, hb, hml, hown, hts⟩ (c_X6_needFace l hst dC dI cyI cyZ cyJ cyD aC aD aR aH aS aT aL aI aDL aDD H.size il n x g1) (cwV 1 hts gX6_needFaces_X6_needFace rfl rfl rfl (by decide +kernel) ⟨Nat.le_of_ble_eq_true rfl, Nat.le_of_ble_eq_true rfl⟩) ⟨fun a U g mk q => by obtain ⟨q0, q1, qP, qK, qD, e_x⟩ := q; exact ⟨q0, q1, qP, va_K.moved (u := U) (U := U.calling g mk a) (Vm.Alike.refl U.vm) qK, qD, xW.same (u := U) (U := U.calling g mk a) rfl rfl e_x⟩, va_recv hK hPc (ci := 6) (q0 := 0) rfl rfl, fun U hU hW => ⟨rfl, by rw [hU], by rw [hU]; exact hPc, va_K.moved hW.alike hK, hDc.weaken (fun _ _ _ _ => trivial), hXW.to hW hU (fun q h1 h2 => hS.2.1 q h1 h2) hFc⟩⟩ rfl rfl hl.1 rfl (lv_room (Nat.le_of_ble_eq_true rfl)) dX6_needFaces_2 ⟨Nat.le_of_ble_eq_true rfl, Nat.le_of_ble_eq_true rfl⟩) hS (fun q _ h => hFc q h) hFc (fun q _ h => hFc q h) (fun E9 ce9 q9 u t H1 locs ht hvm hw hB hz1 hk1 hS hce hcv hcl => ?_) (fun  u t H1 locs ht hvm hw hB hz1 hk1 hS => ?_)
  · obtain ⟨hxc, hP1, hK1, hD1⟩ := hB
    rw [ht] at hP1
    obtain ⟨hP, hD⟩ := va_join (wr := []) (w1 := [(aC, .inr (6, [.ref aD, .ref aR, .ref aH, .ref aS, .ref aT, .ref aL, .ref aI, .int (nI il)])), (aD, .inr (2, [.ref aR, .ref aDL, .ref aDD, .int (nI n)]))]) hP hD [0, 1] [] rfl rfl (by decide) (by decide) hk1 hFc hP1 hD1
    clear hP1 hD1 hK1 hPc hDc hFc hk1 hz1 hvm ht u t
    generalize H1 = H at hP hS hce ⊢
    have hP : va_P (dC, dI) vwCl [(aC, .inr (6, [.ref aD, .ref aR, .ref aH, .ref aS, .ref aT, .ref aL, .ref aI, .int (nI il)])), (aD, .inr (2, [.ref aR, .ref aDL, .ref aDD, .int (nI n)]))] H := hP
    have hD : va_D A [(aC, .inr (6, [.ref aD, .ref aR, .ref aH, .ref aS, .ref aT, .ref aL, .ref aI, .int (nI il)])), (aD, .inr (2, [.ref aR, .ref aDL, .ref aDD, .int (nI n)]))] := hD
    have hP9 : va_P (dC, dI) vwCl [(aC, .inr (6, [.ref aD, .ref aR, .ref aH, .ref aS, .ref aT, .ref aL, .ref aI, .int (nI il)])), (aD, .inr (2, [.ref aR, .ref aDL, .ref aDD, .int (nI n)]))] H := by exact hP.sub [0, 1] rfl
    have hD9 : va_D A [(aC, .inr (6, [.ref aD, .ref aR, .ref aH, .ref aS, .ref aT, .ref aL, .ref aI, .int (nI il)])), (aD, .inr (2, [.ref aR, .ref aDL, .ref aDD, .int (nI n)]))] := by exact hD.sub [0, 1] (by decide) rfl
    have p2 : E9 = xIO ∧ (inB x n && inB y n) = false := by exact ⟨hxc.1, by rw [hxc.2]; rfl⟩
    rw [hQe]
    refine vy_ofx ?_
    exact vx_out (fun x h9 => (htab x h9).elim) hlocks hce hcv hcl (fun t ht hal => ⟨(), trivial, ⟨p2, by rw [ht]; exact hP9, va_K.moved hal hK, hD9⟩, hS.F ht⟩) hS.2.2 (Nat.le_of_ble_eq_true rfl) (Nat.le_of_ble_eq_true rfl)
  obtain ⟨p3, hP1, hK1, hD1⟩ := hB
  rw [ht] at hP1
  obtain ⟨hP, hD⟩ := va_join (wr := []) (w1 := [(aC, .inr (6, [.ref aD, .ref aR, .ref aH, .ref aS, .ref aT, .ref aL, .ref aI, .int (nI il)])), (aD, .inr (2, [.ref aR, .ref aDL, .ref aDD, .int (nI n)]))]) hP hD [0, 1] [] rfl rfl (by decide) (by decide) hk1 hFc hP1 hD1
  clear hP1 hD1 hK1 hPc hDc hFc hk1 hz1 hvm ht u t
  generalize H1 = H at hP hS ⊢
  have hP : va_P (dC, dI) vwCl [(aC, .inr (6, [.ref aD, .ref aR, .ref aH, .ref aS, .ref aT, .ref aL, .ref aI, .int (nI il)])), (aD, .inr (2, [.ref aR, .ref aDL, .ref aDD, .int (nI n)]))] H := hP
  have hD : va_D A [(aC, .inr (6, [.ref aD, .ref aR, .ref aH, .ref aS, .ref aT, .ref aL, .ref aI, .int (nI il)])), (aD, .inr (2, [.ref aR, .ref aDL, .ref aDD, .int (nI n)]))] := hD
  refine lv_aload_n hx hb dX6_needFaces_5 rfl (lv_at hl 0 rfl) ?_
  refine lv_iload_n hx hb dX6_needFaces_6 rfl (lv_at hl 2 rfl) ?_
  have g4 : n ≤ 12 := by first | assumption | omega | exact vp_in_nI (by omega) (by omega)
  have hPc := hP.sub (ws' := [(aC, .inr (6, [.ref aD, .ref aR, .ref aH, .ref aS, .ref aT, .ref aL, .ref aI, .int (nI il)])), (aD, .inr (2, [.ref aR, .ref aDL, .ref aDD, .int (nI n)]))]) [0, 1] rfl
  have hDc := hD.sub (ws' := [(aC, .inr (6, [.ref aD, .ref aR, .ref aH, .ref aS, .ref aT, .ref aL, .ref aI, .int (nI il)])), (aD, .inr (2, [.ref aR, .ref aDL, .ref aDD, .int (nI n)]))]) [0, 1] (by decide) rfl
  have hFc := va_free (wc := [(aC, .inr (6, [.ref aD, .ref aR, .ref aH, .ref aS, .ref aT, .ref aL, .ref aI, .int (nI il)])), (aD, .inr (2, [.ref aR, .ref aDL, .ref aDD, .int (nI n)]))]) hD hS hA [0, 1] rfl
  refine vy_callv (vy_runV (As := [.int y]) (rest := []) ⟨hx, hb, hml, hown, hts⟩ (c_X6_needFace l hst dC dI cyI cyZ cyJ cyD aC aD aR aH aS aT aL aI aDL aDD H.size il n y g4) (cwV 1 hts gX6_needFaces_X6_needFace rfl rfl rfl (by decide +kernel) ⟨Nat.le_of_ble_eq_true rfl, Nat.le_of_ble_eq_true rfl⟩) ⟨fun a U g mk q => by obtain ⟨q0, q1, qP, qK, qD, e_x⟩ := q; exact ⟨q0, q1, qP, va_K.moved (u := U) (U := U.calling g mk a) (Vm.Alike.refl U.vm) qK, qD, xW.same (u := U) (U := U.calling g mk a) rfl rfl e_x⟩, va_recv hK hPc (ci := 6) (q0 := 0) rfl rfl, fun U hU hW => ⟨rfl, by rw [hU], by rw [hU]; exact hPc, va_K.moved hW.alike hK, hDc.weaken (fun _ _ _ _ => trivial), hXW.to hW hU (fun q h1 h2 => hS.2.1 q h1 h2) hFc⟩⟩ rfl rfl hl.1 rfl (lv_room (Nat.le_of_ble_eq_true rfl)) dX6_needFaces_7 ⟨Nat.le_of_ble_eq_true rfl, Nat.le_of_ble_eq_true rfl⟩) hS (fun q _ h => hFc q h) hFc (fun q _ h => hFc q h) (fun E9 ce9 q9 u t H1 locs ht hvm hw hB hz1 hk1 hS hce hcv hcl => ?_) (fun  u t H1 locs ht hvm hw hB hz1 hk1 hS => ?_)
  · obtain ⟨hxc, hP1, hK1, hD1⟩ := hB
    rw [ht] at hP1
    obtain ⟨hP, hD⟩ := va_join (wr := []) (w1 := [(aC, .inr (6, [.ref aD, .ref aR, .ref aH, .ref aS, .ref aT, .ref aL, .ref aI, .int (nI il)])), (aD, .inr (2, [.ref aR, .ref aDL, .ref aDD, .int (nI n)]))]) hP hD [0, 1] [] rfl rfl (by decide) (by decide) hk1 hFc hP1 hD1
    clear hP1 hD1 hK1 hPc hDc hFc hk1 hz1 hvm ht u t
    generalize H1 = H at hP hS hce ⊢
    have hP : va_P (dC, dI) vwCl [(aC, .inr (6, [.ref aD, .ref aR, .ref aH, .ref aS, .ref aT, .ref aL, .ref aI, .int (nI il)])), (aD, .inr (2, [.ref aR, .ref aDL, .ref aDD, .int (nI n)]))] H := hP
    have hD : va_D A [(aC, .inr (6, [.ref aD, .ref aR, .ref aH, .ref aS, .ref aT, .ref aL, .ref aI, .int (nI il)])), (aD, .inr (2, [.ref aR, .ref aDL, .ref aDD, .int (nI n)]))] := hD
    have hP9 : va_P (dC, dI) vwCl [(aC, .inr (6, [.ref aD, .ref aR, .ref aH, .ref aS, .ref aT, .ref aL, .ref aI, .int (nI il)])), (aD, .inr (2, [.ref aR, .ref aDL, .ref aDD, .int (nI n)]))] H := by exact hP.sub [0, 1] rfl
    have hD9 : va_D A [(aC, .inr (6, [.ref aD, .ref aR, .ref aH, .ref aS, .ref aT, .ref aL, .ref aI, .int (nI il)])), (aD, .inr (2, [.ref aR, .ref aDL, .ref aDD, .int (nI n)]))] := by exact hD.sub [0, 1] (by decide) rfl
    have p5 : E9 = xIO ∧ (inB x n && inB y n) = false := by exact ⟨hxc.1, by rw [hxc.2, Bool.and_false]⟩
    rw [hQe]
    refine vy_ofx ?_
    exact vx_out (fun x h9 => (htab x h9).elim) hlocks hce hcv hcl (fun t ht hal => ⟨(), trivial, ⟨p5, by rw [ht]; exact hP9, va_K.moved hal hK, hD9⟩, hS.F ht⟩) hS.2.2 (Nat.le_of_ble_eq_true rfl) (Nat.le_of_ble_eq_true rfl)
  obtain ⟨p6, hP1, hK1, hD1⟩ := hB
  rw [ht] at hP1
  obtain ⟨hP, hD⟩ := va_join (wr := []) (w1 := [(aC, .inr (6, [.ref aD, .ref aR, .ref aH, .ref aS, .ref aT, .ref aL, .ref aI, .int (nI il)])), (aD, .inr (2, [.ref aR, .ref aDL, .ref aDD, .int (nI n)]))]) hP hD [0, 1] [] rfl rfl (by decide) (by decide) hk1 hFc hP1 hD1
  clear hP1 hD1 hK1 hPc hDc hFc hk1 hz1 hvm ht u t
  generalize H1 = H at hP hS ⊢
  have hP : va_P (dC, dI) vwCl [(aC, .inr (6, [.ref aD, .ref aR, .ref aH, .ref aS, .ref aT, .ref aL, .ref aI, .int (nI il)])), (aD, .inr (2, [.ref aR, .ref aDL, .ref aDD, .int (nI n)]))] H := hP
  have hD : va_D A [(aC, .inr (6, [.ref aD, .ref aR, .ref aH, .ref aS, .ref aT, .ref aL, .ref aI, .int (nI il)])), (aD, .inr (2, [.ref aR, .ref aDL, .ref aDD, .int (nI n)]))] := hD
  have hP9 : va_P (dC, dI) vwCl [(aC, .inr (6, [.ref aD, .ref aR, .ref aH, .ref aS, .ref aT, .ref aL, .ref aI, .int (nI il)])), (aD, .inr (2, [.ref aR, .ref aDL, .ref aDD, .int (nI n)]))] H := by exact hP.sub [0, 1] rfl
  have hD9 : va_D A [(aC, .inr (6, [.ref aD, .ref aR, .ref aH, .ref aS, .ref aT, .ref aL, .ref aI, .int (nI il)])), (aD, .inr (2, [.ref aR, .ref aDL, .ref aDD, .int (nI n)]))] := by exact hD.sub [0, 1] (by decide) rfl
  have p7 : inB x n = true := by assumption
  have p8 : inB y n = true := by assumption
  rw [hQe]
  refine vy_ret ?_
  exact W.vret hx hb hr (fun t ht hW => ⟨⟨(), rfl, trivial, p7, p8, by rw [ht]; exact hP9, va_K.moved hW.alike hK, hD9⟩, hS.F ht⟩) hS.2.2 dX6_needFaces_10
