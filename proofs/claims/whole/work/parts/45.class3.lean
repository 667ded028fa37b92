

set_option maxHeartbeats 4000000 in
set_option maxRecDepth 100000 in
theorem c_X6_needFace (l : Launch) (hst : l.stackTraces = false) (dC : Nat → ClassId) (dI : Nat → Nat → Nat) (cyI cyZ cyJ cyD : ClassId) (aC aD aR aH aS aT aL aI aDL aDD : Nat) (zH : Nat) (il : Nat) (n : Nat) (x : Int32) (hn : n ≤ 12) : vy_Met l yX6_needFace wsX6_needFace ({ frames := 6, cells := 1, slots := 6, locals := 90 } : Room) (va_Pc [.ref aC, .int x] (fun U => U.heap.size = zH ∧ va_P (dC, dI) vwCl [(aC, .inr (6, [.ref aD, .ref aR, .ref aH, .ref aS, .ref aT, .ref aL, .ref aI, .int (nI il)])), (aD, .inr (2, [.ref aR, .ref aDL, .ref aDD, .int (nI n)]))] U.heap ∧ va_K (dC, dI) vwCl [(cyI, .int), (cyZ, .boolean), (cyJ, .long), (cyD, .double)] U ∧ va_D (fun _ => True) [(aC, .inr (6, [.ref aD, .ref aR, .ref aH, .ref aS, .ref aT, .ref aL, .ref aI, .int (nI il)])), (aD, .inr (2, [.ref aR, .ref aDL, .ref aDD, .int (nI n)]))] ∧ xW (va_A [(aC, .inr (6, [.ref aD, .ref aR, .ref aH, .ref aS, .ref aT, .ref aL, .ref aI, .int (nI il)])), (aD, .inr (2, [.ref aR, .ref aDL, .ref aDD, .int (nI n)]))] zH) U)) (va_Qv (fun _ : Unit => True) (fun _ t => (inB x n = true) ∧ va_P (dC, dI) vwCl [(aC, .inr (6, [.ref aD, .ref aR, .ref aH, .ref aS, .ref aT, .ref aL, .ref aI, .int (nI il)])), (aD, .inr (2, [.ref aR, .ref aDL, .ref aDD, .int (nI n)]))] t.heap ∧ va_K (dC, dI) vwCl [(cyI, .int), (cyZ, .boolean), (cyJ, .long), (cyD, .double)] t ∧ va_D (va_A [(aC, .inr (6, [.ref aD, .ref aR, .ref aH, .ref aS, .ref aT, .ref aL, .ref aI, .int (nI il)])), (aD, .inr (2, [.ref aR, .ref aDL, .ref aDD, .int (nI n)]))] zH) [(aC, .inr (6, [.ref aD, .ref aR, .ref aH, .ref aS, .ref aT, .ref aL, .ref aI, .int (nI il)])), (aD, .inr (2, [.ref aR, .ref aDL, .ref aDD, .int (nI n)]))]) (va_A [(aC, .inr (6, [.ref aD, .ref aR, .ref aH, .ref aS, .ref aT, .ref aL, .ref aI, .int (nI il)])), (aD, .inr (2, [.ref aR, .ref aDL, .ref aDD, .int (nI n)]))] zH)) (vx_X (fun _ : Unit => True) (fun E _ t => (E = xIO ∧ inB x n = false) ∧ va_P (dC, dI) vwCl [(aC, .inr (6, [.ref aD, .ref aR, .ref aH, .ref aS, .ref aT, .ref aL, .ref aI, .int (nI il)])), (aD, .inr (2, [.ref aR, .ref aDL, .ref aDD, .int (nI n)]))] t.heap ∧ va_K (dC, dI) vwCl [(cyI, .int), (cyZ, .boolean), (cyJ, .long), (cyD, .double)] t ∧ va_D (va_A [(aC, .inr (6, [.ref aD, .ref aR, .ref aH, .ref aS, .ref aT, .ref aL, .ref aI, .int (nI il)])), (aD, .inr (2, [.ref aR, .ref aDL, .ref aDD, .int (nI n)]))] zH) [(aC, .inr (6, [.ref aD, .ref aR, .ref aH, .ref aS, .ref aT, .ref aL, .ref aI, .int (nI il)])), (aD, .inr (2, [.ref aR, .ref aDL, .ref aDD, .int (nI n)]))]) (va_A [(aC, .inr (6, [.ref aD, .ref aR, .ref aH, .ref aS, .ref aT, .ref aL, .ref aI, .int (nI il)])), (aD, .inr (2, [.ref aR, .ref aDL, .ref aDD, .int (nI n)]))] zH)) 1 6 (va_A [(aC, .inr (6, [.ref aD, .ref aR, .ref aH, .ref aS, .ref aT, .ref aL, .ref aI, .int (nI il)])), (aD, .inr (2, [.ref aR, .ref aDL, .ref aDD, .int (nI n)]))] zH) := by
  refine vy_ofW (cc := cX6_needFace) (maxL := 2) (ret := none) (by decide) rfl ?_
  intro pM eM s mM args blM mtM cM s₁ BM hml htab hv
  obtain ⟨rfl, hsz, hP, hK, hD0, hXW⟩ := hv
  have hx := BM.exec
  have hb := BM.bytes
  have hr := BM.returns
  have hts := atoms_spec (ws := wsX6_needFace) BM.pre
  have hown : s.vm.findClass RX6 = some mM.cls := findClass_of_methodNamed BM.named
  have hlocks := BM.notSynchronized
  have w0 := hts (.classLink RX6 193 "java/lang/IndexOutOfBoundsException") (by decide +kernel)
  have w1 := hts (.initialized "java/lang/IndexOutOfBoundsException") (by decide +kernel)
  have w2 := hts (.fieldLink RX6 14 "DimensionChecker" "drawing" "LDimensionChecker$Drawing;") (by decide +kernel)
  have w3 := hts (.fieldLink RX6 155 "DimensionChecker$Drawing" "faces" "I") (by decide +kernel)
  have iX6 : ∀ w ∈ wsX60, w ∈ wsX6_needFace := by decide +kernel
  have iX2 : ∀ w ∈ wsX20, w ∈ wsX6_needFace := by decide +kernel
  subst hsz
  have hD := hD0.self (sz := s.heap.size)
  obtain ⟨Q, hQe⟩ : ∃ Q : State → Prop, Q = vy_MQ blM (va_Qv (fun _ : Unit => True) (fun _ t => (inB x n = true) ∧ va_P (dC, dI) vwCl [(aC, .inr (6, [.ref aD, .ref aR, .ref aH, .ref aS, .ref aT, .ref aL, .ref aI, .int (nI il)])), (aD, .inr (2, [.ref aR, .ref aDL, .ref aDD, .int (nI n)]))] t.heap ∧ va_K (dC, dI) vwCl [(cyI, .int), (cyZ, .boolean), (cyJ, .long), (cyD, .double)] t ∧ va_D (va_A [(aC, .inr (6, [.ref aD, .ref aR, .ref aH, .ref aS, .ref aT, .ref aL, .ref aI, .int (nI il)])), (aD, .inr (2, [.ref aR, .ref aDL, .ref aDD, .int (nI n)]))] s.heap.size) [(aC, .inr (6, [.ref aD, .ref aR, .ref aH, .ref aS, .ref aT, .ref aL, .ref aI, .int (nI il)])), (aD, .inr (2, [.ref aR, .ref aDL, .ref aDD, .int (nI n)]))]) (va_A [(aC, .inr (6, [.ref aD, .ref aR, .ref aH, .ref aS, .ref aT, .ref aL, .ref aI, .int (nI il)])), (aD, .inr (2, [.ref aR, .ref aDL, .ref aDD, .int (nI n)]))] s.heap.size)) (vx_X (fun _ : Unit => True) (fun E _ t => (E = xIO ∧ inB x n = false) ∧ va_P (dC, dI) vwCl [(aC, .inr (6, [.ref aD, .ref aR, .ref aH, .ref aS, .ref aT, .ref aL, .ref aI, .int (nI il)])), (aD, .inr (2, [.ref aR, .ref aDL, .ref aDD, .int (nI n)]))] t.heap ∧ va_K (dC, dI) vwCl [(cyI, .int), (cyZ, .boolean), (cyJ, .long), (cyD, .double)] t ∧ va_D (va_A [(aC, .inr (6, [.ref aD, .ref aR, .ref aH, .ref aS, .ref aT, .ref aL, .ref aI, .int (nI il)])), (aD, .inr (2, [.ref aR, .ref aDL, .ref aDD, .int (nI n)]))] s.heap.size) [(aC, .inr (6, [.ref aD, .ref aR, .ref aH, .ref aS, .ref aT, .ref aL, .ref aI, .int (nI il)])), (aD, .inr (2, [.ref aR, .ref aDL, .ref aDD, .int (nI n)]))]) (va_A [(aC, .inr (6, [.ref aD, .ref aR, .ref aH, .ref aS, .ref aT, .ref aL, .ref aI, .int (nI il)])), (aD, .inr (2, [.ref aR, .ref aDL, .ref aDD, .int (nI n)]))] s.heap.size)) ([.ref aC, .int x] : List Value).toArray s 1 6 (va_A [(aC, .inr (6, [.ref aD, .ref aR, .ref aH, .ref aS, .ref aT, .ref aL, .ref aI, .int (nI il)])), (aD, .inr (2, [.ref aR, .ref aDL, .ref aDD, .int (nI n)]))] s.heap.size) := ⟨_, rfl⟩
  rw [← hQe]
  generalize hAe : va_A [(aC, .inr (6, [.ref aD, .ref aR, .ref aH, .ref aS, .ref aT, .ref aL, .ref aI, .int (nI il)])), (aD, .inr (2, [.ref aR, .ref aDL, .ref aDD, .int (nI n)]))] s.heap.size = A at hD hQe hXW
  have hA : ∀ q : Nat, s.heap.size ≤ q → A q := fun q h => by rw [← hAe]; exact Or.inr h
  obtain ⟨H, hHe⟩ : ∃ H : Heap, H = s.heap := ⟨_, rfl⟩
  have hS : va_S A s.heap H [] := by rw [hHe]; exact va_S.rf
  rw [← hHe] at hP ⊢
  have hl := lv_entry ([.ref aC, .int x]) (n := 2) (Nat.le_of_ble_eq_true rfl)
  rw [lg_entry_eq]
  generalize (lg_sl ([.ref aC, .int x]) ++ List.replicate (2 - (lg_sl ([.ref aC, .int x])).length) Slot.unset).toArray = ls at hl ⊢
  have hl : lv_has ls 2 [(0, .ref aC), (1, .int x)] := hl
  refine lv_iload_n hx hb dX6_needFace_0 rfl (lv_at hl 1 rfl) ?_
  refine lv_if_lt (tgt := 15) hx hb dX6_needFace_1 (by decide) (fun c1 => ?_) (fun c1 => ?_)
  · skip
    have hP9 : va_P (dC, dI) vwCl [(aC, .inr (6, [.ref aD, .ref aR, .ref aH, .ref aS, .ref aT, .ref aL, .ref aI, .int (nI il)])), (aD, .inr (2, [.ref aR, .ref aDL, .ref aDD, .int (nI n)]))] H := by exact hP.sub [0, 1] rfl
    have hD9 : va_D A [(aC, .inr (6, [.ref aD, .ref aR, .ref aH, .ref aS, .ref aT, .ref aL, .ref aI, .int (nI il)])), (aD, .inr (2, [.ref aR, .ref aDL, .ref aDD, .int (nI n)]))] := by exact hD.sub [0, 1] (by decide) rfl
    have p1 : xIO = xIO ∧ inB x n = false := by first | exact ⟨rfl, inB_neg c1⟩ | exact ⟨rfl, inB_big c12⟩
    rw [hQe]
    obtain ⟨sa9, hsa9⟩ := hXW.str 287 "not a face" (by decide)
    have hgw : ∀ w ∈ (vx_atS RX6 197 "java/lang/IndexOutOfBoundsException" ["java/lang/RuntimeException", "java/lang/Exception"]).filter goodWord, w ∈ wsX6_needFace := by decide +kernel
    refine vy_of ?_
    exact vx_throwSW (A := A) (names := ["java/lang/RuntimeException", "java/lang/Exception"]) hx hb hst hown (by decide +kernel) (by decide +kernel) w0 w1 hsa9 (vx_hat (fun w h9 => hts w (hgw w h9)) xB_IO hXW.IO) xO_IO hXW.1 hXW.2.1 hS (by rw [hml]; exact hl.1) dX6_needFace_15 dX6_needFace_18 dX6_needFace_19 dX6_needFace_22 dX6_needFace_25 (fun x h9 => (htab x h9).elim) (Nat.le_of_ble_eq_true rfl) (Nat.le_of_ble_eq_true rfl) (Nat.le_of_ble_eq_true rfl) (Nat.le_of_ble_eq_true rfl) hlocks (fun t hal hz9 hk9 => ⟨(), trivial, ⟨p1, hP9.kept (fun k q hkq => hk9 _ (vx_lt hP9 hkq)), va_K.moved hal hK, hD9⟩, ⟨Nat.le_trans hS.1 hz9, fun q h1 h2 => (hk9 q (Nat.lt_of_lt_of_le h1 hS.1)).trans (hS.2.1 q h1 h2)⟩⟩) hS.2.2 (Nat.le_of_ble_eq_true rfl) (Nat.le_of_ble_eq_true rfl)
  · skip
    refine lv_iload_n hx hb dX6_needFace_4 rfl (lv_at hl 1 rfl) ?_
    refine lv_aload_n hx hb dX6_needFace_5 rfl (lv_at hl 0 rfl) ?_
    refine va_get (D := (dC, dI)) (ci := 6) (v := .ref aD) (C := RX6) (T := TX6) (N := 8) hx hb hts iX6 hown hK hP 0 rfl rfl 0 (by decide) w2 (fun _ h9 => h9) rfl dX6_needFace_6 ?_
    refine va_get (D := (dC, dI)) (ci := 2) (v := .int (nI n)) (C := RX2) (T := TX2) (N := 4) hx hb hts iX2 hown hK hP 1 rfl rfl 3 (by decide) w3 (fun _ h9 => h9) rfl dX6_needFace_9 ?_
    refine lv_icmp_lt (tgt := 26) hx hb dX6_needFace_12 (by decide) (fun c12 => ?_) (fun c12 => ?_)
    · skip
      have hP9 : va_P (dC, dI) vwCl [(aC, .inr (6, [.ref aD, .ref aR, .ref aH, .ref aS, .ref aT, .ref aL, .ref aI, .int (nI il)])), (aD, .inr (2, [.ref aR, .ref aDL, .ref aDD, .int (nI n)]))] H := by exact hP.sub [0, 1] rfl
      have hD9 : va_D A [(aC, .inr (6, [.ref aD, .ref aR, .ref aH, .ref aS, .ref aT, .ref aL, .ref aI, .int (nI il)])), (aD, .inr (2, [.ref aR, .ref aDL, .ref aDD, .int (nI n)]))] := by exact hD.sub [0, 1] (by decide) rfl
      have p2 : inB x n = true := by exact inB_yes c1 c12
      rw [hQe]
      refine vy_ret ?_
      exact W.vret hx hb hr (fun t ht hW => ⟨⟨(), rfl, trivial, p2, by rw [ht]; exact hP9, va_K.moved hW.alike hK, hD9⟩, hS.F ht⟩) hS.2.2 dX6_needFace_26
    · skip
      have hP9 : va_P (dC, dI) vwCl [(aC, .inr (6, [.ref aD, .ref aR, .ref aH, .ref aS, .ref aT, .ref aL, .ref aI, .int (nI il)])), (aD, .inr (2, [.ref aR, .ref aDL, .ref aDD, .int (nI n)]))] H := by exact hP.sub [0, 1] rfl
      have hD9 : va_D A [(aC, .inr (6, [.ref aD, .ref aR, .ref aH, .ref aS, .ref aT, .ref aL, .ref aI, .int (nI il)])), (aD, .inr (2, [.ref aR, .ref aDL, .ref aDD, .int (nI n)]))] := by exact hD.sub [0, 1] (by decide) rfl
      have p3 : xIO = xIO ∧ inB x n = false := by first | exact ⟨rfl, inB_neg c1⟩ | exact ⟨rfl, inB_big c12⟩
      rw [hQe]
      obtain ⟨sa9, hsa9⟩ := hXW.str 287 "not a face" (by decide)
      have hgw : ∀ w ∈ (vx_atS RX6 197 "java/lang/IndexOutOfBoundsException" ["java/lang/RuntimeException", "java/lang/Exception"]).filter goodWord, w ∈ wsX6_needFace := by decide +kernel
      refine vy_of ?_
      exact vx_throwSW (A := A) (names := ["java/lang/RuntimeException", "java/lang/Exception"]) hx hb hst hown (by decide +kernel) (by decide +kernel) w0 w1 hsa9 (vx_hat (fun w h9 => hts w (hgw w h9)) xB_IO hXW.IO) xO_IO hXW.1 hXW.2.1 hS (by rw [hml]; exact hl.1) dX6_needFace_15 dX6_needFace_18 dX6_needFace_19 dX6_needFace_22 dX6_needFace_25 (fun x h9 => (htab x h9).elim) (Nat.le_of_ble_eq_true rfl) (Nat.le_of_ble_eq_true rfl) (Nat.le_of_ble_eq_true rfl) (Nat.le_of_ble_eq_true rfl) hlocks (fun t hal hz9 hk9 => ⟨(), trivial, ⟨p3, hP9.kept (fun k q hkq => hk9 _ (vx_lt hP9 hkq)), va_K.moved hal hK, hD9⟩, ⟨Nat.le_trans hS.1 hz9, fun q h1 h2 => (hk9 q (Nat.lt_of_lt_of_le h1 hS.1)).trans (hS.2.1 q h1 h2)⟩⟩) hS.2.2 (Nat.le_of_ble_eq_true rfl) (Nat.le_of_ble_eq_true rfl)
