
def nrw (v : Nat → Int32) (a b : Nat) (x : Int32) : Nat → Int32 := upd v (a * 12 + b) (if x < v (a * 12 + b) then x else v (a * 12 + b))
def tdI (v : Nat → Int32) : Nat → Nat → Int32
  | 0 => v
  | i + 1 => upd (tdI v i) (i * 12 + i) 0
def tdD (F T : Nat → Nat) (nm lo up : Nat → Int32) (v : Nat → Int32) : Nat → Nat → Int32
  | 0 => v
  | d + 1 => nrw (nrw (tdD F T nm lo up v d) (F d) (T d) (nm d + up d)) (T d) (F d) (-(nm d + lo d))
def ntB (k a : Nat) (v : Nat → Int32) : Nat → Nat → Int32
  | 0 => v
  | b + 1 => if (ntB k a v b) (a * 12 + k) = 1000000000 ∨ (ntB k a v b) (k * 12 + b) = 1000000000 then ntB k a v b else nrw (ntB k a v b) a b ((ntB k a v b) (a * 12 + k) + (ntB k a v b) (k * 12 + b))
def ntA (n k : Nat) (v : Nat → Int32) : Nat → Nat → Int32
  | 0 => v
  | a + 1 => ntB k a (ntA n k v a) n
def rcB (v : Nat → Int32) : Nat → Bool
  | 0 => true
  | i + 1 => rcB v i && decide (0 ≤ v (i * 12 + i))
theorem rcB_stop {v : Nat → Int32} {i n : Nat} (h : i < n) (hv : ¬ 0 ≤ v (i * 12 + i)) : rcB v n = false := by
  induction n with
  | zero => exact absurd h (Nat.not_lt_zero _)
  | succ n ih =>
    unfold rcB
    by_cases e : i = n
    · subst e; simp [hv]
    · rw [ih (by omega)]; rfl
def stV (n : Nat) (v : Nat → Int32) : Nat → Nat → Int32
  | 0 => v
  | k + 1 => ntA n k (stV n v k) n
def stB (n : Nat) (v : Nat → Int32) : Nat → Bool
  | 0 => true
  | k + 1 => stB n v k && rcB (stV n v (k + 1)) n
theorem stB_stop {n : Nat} {v : Nat → Int32} {k m : Nat} (h : k < m) (_ : stB n v k = true) (hr : rcB (ntA n k (stV n v k) n) n = false) : stB n v m = false := by
  induction m with
  | zero => exact absurd h (Nat.not_lt_zero _)
  | succ m ih =>
    unfold stB
    by_cases e : k = m
    · subst e
      have : rcB (stV n v (k + 1)) n = false := hr
      rw [this, Bool.and_false]
    · rw [ih (by omega)]; rfl

set_option maxHeartbeats 4000000 in
set_option maxRecDepth 100000 in
theorem c_X5_cell (l : Launch) (dC : Nat → ClassId) (dI : Nat → Nat → Nat) (cyI cyZ cyJ cyD : ClassId) (zH : Nat) (a : Nat) (b : Nat) : Met l yX5_cell wsX5_cell ({ frames := 0, cells := 0, slots := 0, locals := 0 } : Room) (va_Pc [.int (nI a), .int (nI b)] (fun U => U.heap.size = zH ∧ va_P (dC, dI) vwCl [] U.heap ∧ va_K (dC, dI) vwCl [(cyI, .int), (cyZ, .boolean), (cyJ, .long), (cyD, .double)] U ∧ va_D (fun _ => True) [])) (va_Qi (fun (r : Int32) (_ : Unit) => r = nI (a * 12 + b)) (fun _ t => va_P (dC, dI) vwCl [] t.heap ∧ va_K (dC, dI) vwCl [(cyI, .int), (cyZ, .boolean), (cyJ, .long), (cyD, .double)] t ∧ va_D (va_A [] zH) []) (va_A [] zH)) 0 0 (va_A [] zH) := by
  refine Met.ofW (cc := cX5_cell) (maxL := 2) (ret := (some .int)) (by decide) rfl ?_
  intro pM eM s mM args blM mtM cM s₁ BM hml hv
  obtain ⟨rfl, hsz, hP, hK, hD0⟩ := hv
  have hx := BM.exec
  have hb := BM.bytes
  have hr := BM.returns
  have hts := atoms_spec (ws := wsX5_cell) BM.pre
  have hown : s.vm.findClass RX5 = some mM.cls := findClass_of_methodNamed BM.named
  have hlocks := BM.notSynchronized
  subst hsz
  have hD := hD0.self (sz := s.heap.size)
  obtain ⟨Q, hQe⟩ : ∃ Q : State → Prop, Q = MQ blM (va_Qi (fun (r : Int32) (_ : Unit) => r = nI (a * 12 + b)) (fun _ t => va_P (dC, dI) vwCl [] t.heap ∧ va_K (dC, dI) vwCl [(cyI, .int), (cyZ, .boolean), (cyJ, .long), (cyD, .double)] t ∧ va_D (va_A [] s.heap.size) []) (va_A [] s.heap.size)) ([.int (nI a), .int (nI b)] : List Value).toArray s 0 0 (va_A [] s.heap.size) := ⟨_, rfl⟩
  rw [← hQe]
  generalize hAe : va_A [] s.heap.size = A at hD hQe
  have hA : ∀ q : Nat, s.heap.size ≤ q → A q := fun q h => by rw [← hAe]; exact Or.inr h
  obtain ⟨H, hHe⟩ : ∃ H : Heap, H = s.heap := ⟨_, rfl⟩
  have hS : va_S A s.heap H [] := by rw [hHe]; exact va_S.rf
  rw [← hHe] at hP ⊢
  have hl := lv_entry ([.int (nI a), .int (nI b)]) (n := 2) (Nat.le_of_ble_eq_true rfl)
  rw [lg_entry_eq]
  generalize (lg_sl ([.int (nI a), .int (nI b)]) ++ List.replicate (2 - (lg_sl ([.int (nI a), .int (nI b)])).length) Slot.unset).toArray = ls at hl ⊢
  have hl : lv_has ls 2 [(0, .int (nI a)), (1, .int (nI b))] := hl
  refine lv_iload_n hx hb dX5_cell_0 rfl (lv_at hl 0 rfl) ?_
  refine lv_bipush (v := 12) hx hb dX5_cell_1 (by decide) ?_
  refine lv_imul hx hb dX5_cell_3 ?_
  refine lv_topi (fun x1 e2 => ?_)
  obtain rfl : x1 = (nI (a * 12)) := by rw [e2]; exact pk_mul a 12
  clear e2
  refine lv_iload_n hx hb dX5_cell_4 rfl (lv_at hl 1 rfl) ?_
  refine lv_iadd hx hb dX5_cell_5 ?_
  refine lv_topi (fun x3 e4 => ?_)
  obtain rfl : x3 = (nI ((a * 12) + b)) := by rw [e4]; exact nI_add (a * 12) b
  clear e4
  have r5 : (nI ((a * 12) + b)) = (nI (a * 12 + b)) := by first | rfl | simp [*]
  have hP9 : va_P (dC, dI) vwCl [] H := by exact hP.sub [] rfl
  have hD9 : va_D A [] := by exact hD.sub [] (by decide) rfl
  subst hAe
  subst hQe
  exact W.iret (v := nI ((a * 12) + b)) hx hb hr (fun t ht hW => ⟨⟨_, (), rfl, r5, by rw [ht]; exact hP9, va_K.moved hW.alike hK, hD9⟩, hS.F ht⟩) hS.2.2 dX5_cell_6
set_option maxHeartbeats 4000000 in
set_option maxRecDepth 100000 in
theorem c_X5_greatestGap (l : Launch) (dC : Nat → ClassId) (dI : Nat → Nat → Nat) (cyI cyZ cyJ cyD : ClassId) (aT aD aTM : Nat) (zH : Nat) (v : Nat → Int32) (a : Nat) (b : Nat) (ha : a < 12) (hb0 : b < 12) : Met l yX5_greatestGap wsX5_greatestGap ({ frames := 1, cells := 0, slots := 0, locals := 21 } : Room) (va_Pc [.ref aT, .int (nI a), .int (nI b)] (fun U => U.heap.size = zH ∧ va_P (dC, dI) vwCl [(aT, .inr (5, [.ref aD, .ref aTM])), (aTM, .inl (cyI, 144, .inl v))] U.heap ∧ va_K (dC, dI) vwCl [(cyI, .int), (cyZ, .boolean), (cyJ, .long), (cyD, .double)] U ∧ va_D (fun _ => True) [(aT, .inr (5, [.ref aD, .ref aTM])), (aTM, .inl (cyI, 144, .inl v))])) (va_Qi (fun (r : Int32) (_ : Unit) => r = v (a * 12 + b)) (fun _ t => va_P (dC, dI) vwCl [(aT, .inr (5, [.ref aD, .ref aTM])), (aTM, .inl (cyI, 144, .inl v))] t.heap ∧ va_K (dC, dI) vwCl [(cyI, .int), (cyZ, .boolean), (cyJ, .long), (cyD, .double)] t ∧ va_D (va_A [(aT, .inr (5, [.ref aD, .ref aTM])), (aTM, .inl (cyI, 144, .inl v))] zH) [(aT, .inr (5, [.ref aD, .ref aTM])), (aTM, .inl (cyI, 144, .inl v))]) (va_A [(aT, .inr (5, [.ref aD, .ref aTM])), (aTM, .inl (cyI, 144, .inl v))] zH)) 0 0 (va_A [(aT, .inr (5, [.ref aD, .ref aTM])), (aTM, .inl (cyI, 144, .inl v))] zH) := by
  refine Met.ofW (cc := cX5_greatestGap) (maxL := 3) (ret := (some .int)) (by decide) rfl ?_
  intro pM eM s mM args blM mtM cM s₁ BM hml hv
  obtain ⟨rfl, hsz, hP, hK, hD0⟩ := hv
  have hx := BM.exec
  have hb := BM.bytes
  have hr := BM.returns
  have hts := atoms_spec (ws := wsX5_greatestGap) BM.pre
  have hown : s.vm.findClass RX5 = some mM.cls := findClass_of_methodNamed BM.named
  have hlocks := BM.notSynchronized
  have w0 := hts (.fieldLink RX5 9 "DimensionChecker$TightLimits" "most" "[I") (by decide +kernel)
  have iX5 : ∀ w ∈ wsX50, w ∈ wsX5_greatestGap := by decide +kernel
  subst hsz
  have hD := hD0.self (sz := s.heap.size)
  obtain ⟨Q, hQe⟩ : ∃ Q : State → Prop, Q = MQ blM (va_Qi (fun (r : Int32) (_ : Unit) => r = v (a * 12 + b)) (fun _ t => va_P (dC, dI) vwCl [(aT, .inr (5, [.ref aD, .ref aTM])), (aTM, .inl (cyI, 144, .inl v))] t.heap ∧ va_K (dC, dI) vwCl [(cyI, .int), (cyZ, .boolean), (cyJ, .long), (cyD, .double)] t ∧ va_D (va_A [(aT, .inr (5, [.ref aD, .ref aTM])), (aTM, .inl (cyI, 144, .inl v))] s.heap.size) [(aT, .inr (5, [.ref aD, .ref aTM])), (aTM, .inl (cyI, 144, .inl v))]) (va_A [(aT, .inr (5, [.ref aD, .ref aTM])), (aTM, .inl (cyI, 144, .inl v))] s.heap.size)) ([.ref aT, .int (nI a), .int (nI b)] : List Value).toArray s 0 0 (va_A [(aT, .inr (5, [.ref aD, .ref aTM])), (aTM, .inl (cyI, 144, .inl v))] s.heap.size) := ⟨_, rfl⟩
  rw [← hQe]
  generalize hAe : va_A [(aT, .inr (5, [.ref aD, .ref aTM])), (aTM, .inl (cyI, 144, .inl v))] s.heap.size = A at hD hQe
  have hA : ∀ q : Nat, s.heap.size ≤ q → A q := fun q h => by rw [← hAe]; exact Or.inr h
  obtain ⟨H, hHe⟩ : ∃ H : Heap, H = s.heap := ⟨_, rfl⟩
  have hS : va_S A s.heap H [] := by rw [hHe]; exact va_S.rf
  rw [← hHe] at hP ⊢
  have hl := lv_entry ([.ref aT, .int (nI a), .int (nI b)]) (n := 3) (Nat.le_of_ble_eq_true rfl)
  rw [lg_entry_eq]
  generalize (lg_sl ([.ref aT, .int (nI a), .int (nI b)]) ++ List.replicate (3 - (lg_sl ([.ref aT, .int (nI a), .int (nI b)])).length) Slot.unset).toArray = ls at hl ⊢
  have hl : lv_has ls 3 [(0, .ref aT), (1, .int (nI a)), (2, .int (nI b))] := hl
  refine lv_aload_n hx hb dX5_greatestGap_0 rfl (lv_at hl 0 rfl) ?_
  refine va_get (D := (dC, dI)) (ci := 5) (v := .ref aTM) (C := RX5) (T := TX5) (N := 2) hx hb hts iX5 hown hK hP 0 rfl rfl 1 (by decide) w0 (fun _ h9 => h9) rfl dX5_greatestGap_1 ?_
  refine lv_iload_n hx hb dX5_greatestGap_4 rfl (lv_at hl 1 rfl) ?_
  refine lv_iload_n hx hb dX5_greatestGap_5 rfl (lv_at hl 2 rfl) ?_
  have hPc := hP.sub (ws' := []) [] rfl
  have hDc := hD.sub (ws' := []) [] (by decide) rfl
  have hFc := va_free (wc := []) hD hS hA [] rfl
  refine va_calli (va_runS (As := [.int (nI a), .int (nI b)]) (rest := [.ref aTM]) ⟨hx, hb, hml, hown, hts⟩ (c_X5_cell l dC dI cyI cyZ cyJ cyD H.size a b) (va_cwS 2 hts gX5_greatestGap_X5_cell rfl rfl rfl (by decide +kernel) ⟨Nat.le_of_ble_eq_true rfl, Nat.le_of_ble_eq_true rfl⟩) ⟨fun a U g mk q => by obtain ⟨q0, q1, qP, qK, qD⟩ := q; exact ⟨q0, q1, qP, va_K.moved (u := U) (U := U.calling g mk a) (Vm.Alike.refl U.vm) qK, qD⟩, fun U hU hW => ⟨rfl, by rw [hU], by rw [hU]; exact hPc, va_K.moved hW.alike hK, hDc.weaken (fun _ _ _ _ => trivial)⟩⟩ rfl rfl hl.1 rfl (lv_room (Nat.le_of_ble_eq_true rfl)) dX5_greatestGap_6 ⟨Nat.le_of_ble_eq_true rfl, Nat.le_of_ble_eq_true rfl⟩) hS (fun q _ h => hFc q h) hFc (fun r u t H1 locs ht hvm hw hB hz1 hk1 hS => ?_)
  obtain rfl := hw
  obtain ⟨hP1, hK1, hD1⟩ := hB
  rw [ht] at hP1
  obtain ⟨hP, hD⟩ := va_join (wr := [(aT, .inr (5, [.ref aD, .ref aTM])), (aTM, .inl (cyI, 144, .inl v))]) (w1 := []) hP hD [] [0, 1] rfl rfl (by decide) (by decide) hk1 hFc hP1 hD1
  clear hP1 hD1 hK1 hPc hDc hFc hk1 hz1 hvm ht u t
  generalize H1 = H at hP hS ⊢
  have hP : va_P (dC, dI) vwCl [(aT, .inr (5, [.ref aD, .ref aTM])), (aTM, .inl (cyI, 144, .inl v))] H := hP
  have hD : va_D A [(aT, .inr (5, [.ref aD, .ref aTM])), (aTM, .inl (cyI, 144, .inl v))] := hD
  have h1 : vp_in (nI (a * 12 + b)) 144 := by first | exact vp_in_nI (by omega) (by omega) | assumption
  refine va_iald hx hb hK hP 1 0 rfl rfl h1 dX5_greatestGap_9 ?_
  refine lv_topi (fun x2 e3 => ?_)
  obtain rfl : x2 = (v (a * 12 + b)) := by rw [e3, nI_clamp (by omega)]
  clear e3
  have r4 : (v (a * 12 + b)) = (v (a * 12 + b)) := by rfl
  have hP9 : va_P (dC, dI) vwCl [(aT, .inr (5, [.ref aD, .ref aTM])), (aTM, .inl (cyI, 144, .inl v))] H := by exact hP.sub [0, 1] rfl
  have hD9 : va_D A [(aT, .inr (5, [.ref aD, .ref aTM])), (aTM, .inl (cyI, 144, .inl v))] := by exact hD.sub [0, 1] (by decide) rfl
  subst hAe
  subst hQe
  exact W.iret (v := v (a * 12 + b)) hx hb hr (fun t ht hW => ⟨⟨_, (), rfl, r4, by rw [ht]; exact hP9, va_K.moved hW.alike hK, hD9⟩, hS.F ht⟩) hS.2.2 dX5_greatestGap_10
set_option maxHeartbeats 4000000 in
set_option maxRecDepth 100000 in
theorem c_X5_leastGap (l : Launch) (dC : Nat → ClassId) (dI : Nat → Nat → Nat) (cyI cyZ cyJ cyD : ClassId) (aT aD aTM : Nat) (zH : Nat) (v : Nat → Int32) (a : Nat) (b : Nat) (ha : a < 12) (hb0 : b < 12) : Met l yX5_leastGap wsX5_leastGap ({ frames := 1, cells := 0, slots := 0, locals := 21 } : Room) (va_Pc [.ref aT, .int (nI a), .int (nI b)] (fun U => U.heap.size = zH ∧ va_P (dC, dI) vwCl [(aT, .inr (5, [.ref aD, .ref aTM])), (aTM, .inl (cyI, 144, .inl v))] U.heap ∧ va_K (dC, dI) vwCl [(cyI, .int), (cyZ, .boolean), (cyJ, .long), (cyD, .double)] U ∧ va_D (fun _ => True) [(aT, .inr (5, [.ref aD, .ref aTM])), (aTM, .inl (cyI, 144, .inl v))])) (va_Qi (fun (r : Int32) (_ : Unit) => r = -(v (b * 12 + a))) (fun _ t => va_P (dC, dI) vwCl [(aT, .inr (5, [.ref aD, .ref aTM])), (aTM, .inl (cyI, 144, .inl v))] t.heap ∧ va_K (dC, dI) vwCl [(cyI, .int), (cyZ, .boolean), (cyJ, .long), (cyD, .double)] t ∧ va_D (va_A [(aT, .inr (5, [.ref aD, .ref aTM])), (aTM, .inl (cyI, 144, .inl v))] zH) [(aT, .inr (5, [.ref aD, .ref aTM])), (aTM, .inl (cyI, 144, .inl v))]) (va_A [(aT, .inr (5, [.ref aD, .ref aTM])), (aTM, .inl (cyI, 144, .inl v))] zH)) 0 0 (va_A [(aT, .inr (5, [.ref aD, .ref aTM])), (aTM, .inl (cyI, 144, .inl v))] zH) := by
  refine Met.ofW (cc := cX5_leastGap) (maxL := 3) (ret := (some .int)) (by decide) rfl ?_
  intro pM eM s mM args blM mtM cM s₁ BM hml hv
  obtain ⟨rfl, hsz, hP, hK, hD0⟩ := hv
  have hx := BM.exec
  have hb := BM.bytes
  have hr := BM.returns
  have hts := atoms_spec (ws := wsX5_leastGap) BM.pre
  have hown : s.vm.findClass RX5 = some mM.cls := findClass_of_methodNamed BM.named
  have hlocks := BM.notSynchronized
  have w0 := hts (.fieldLink RX5 9 "DimensionChecker$TightLimits" "most" "[I") (by decide +kernel)
  have iX5 : ∀ w ∈ wsX50, w ∈ wsX5_leastGap := by decide +kernel
  subst hsz
  have hD := hD0.self (sz := s.heap.size)
  obtain ⟨Q, hQe⟩ : ∃ Q : State → Prop, Q = MQ blM (va_Qi (fun (r : Int32) (_ : Unit) => r = -(v (b * 12 + a))) (fun _ t => va_P (dC, dI) vwCl [(aT, .inr (5, [.ref aD, .ref aTM])), (aTM, .inl (cyI, 144, .inl v))] t.heap ∧ va_K (dC, dI) vwCl [(cyI, .int), (cyZ, .boolean), (cyJ, .long), (cyD, .double)] t ∧ va_D (va_A [(aT, .inr (5, [.ref aD, .ref aTM])), (aTM, .inl (cyI, 144, .inl v))] s.heap.size) [(aT, .inr (5, [.ref aD, .ref aTM])), (aTM, .inl (cyI, 144, .inl v))]) (va_A [(aT, .inr (5, [.ref aD, .ref aTM])), (aTM, .inl (cyI, 144, .inl v))] s.heap.size)) ([.ref aT, .int (nI a), .int (nI b)] : List Value).toArray s 0 0 (va_A [(aT, .inr (5, [.ref aD, .ref aTM])), (aTM, .inl (cyI, 144, .inl v))] s.heap.size) := ⟨_, rfl⟩
  rw [← hQe]
  generalize hAe : va_A [(aT, .inr (5, [.ref aD, .ref aTM])), (aTM, .inl (cyI, 144, .inl v))] s.heap.size = A at hD hQe
  have hA : ∀ q : Nat, s.heap.size ≤ q → A q := fun q h => by rw [← hAe]; exact Or.inr h
  obtain ⟨H, hHe⟩ : ∃ H : Heap, H = s.heap := ⟨_, rfl⟩
  have hS : va_S A s.heap H [] := by rw [hHe]; exact va_S.rf
  rw [← hHe] at hP ⊢
  have hl := lv_entry ([.ref aT, .int (nI a), .int (nI b)]) (n := 3) (Nat.le_of_ble_eq_true rfl)
  rw [lg_entry_eq]
  generalize (lg_sl ([.ref aT, .int (nI a), .int (nI b)]) ++ List.replicate (3 - (lg_sl ([.ref aT, .int (nI a), .int (nI b)])).length) Slot.unset).toArray = ls at hl ⊢
  have hl : lv_has ls 3 [(0, .ref aT), (1, .int (nI a)), (2, .int (nI b))] := hl
  refine lv_aload_n hx hb dX5_leastGap_0 rfl (lv_at hl 0 rfl) ?_
  refine va_get (D := (dC, dI)) (ci := 5) (v := .ref aTM) (C := RX5) (T := TX5) (N := 2) hx hb hts iX5 hown hK hP 0 rfl rfl 1 (by decide) w0 (fun _ h9 => h9) rfl dX5_leastGap_1 ?_
  refine lv_iload_n hx hb dX5_leastGap_4 rfl (lv_at hl 2 rfl) ?_
  refine lv_iload_n hx hb dX5_leastGap_5 rfl (lv_at hl 1 rfl) ?_
  have hPc := hP.sub (ws' := []) [] rfl
  have hDc := hD.sub (ws' := []) [] (by decide) rfl
  have hFc := va_free (wc := []) hD hS hA [] rfl
  refine va_calli (va_runS (As := [.int (nI b), .int (nI a)]) (rest := [.ref aTM]) ⟨hx, hb, hml, hown, hts⟩ (c_X5_cell l dC dI cyI cyZ cyJ cyD H.size b a) (va_cwS 2 hts gX5_leastGap_X5_cell rfl rfl rfl (by decide +kernel) ⟨Nat.le_of_ble_eq_true rfl, Nat.le_of_ble_eq_true rfl⟩) ⟨fun a U g mk q => by obtain ⟨q0, q1, qP, qK, qD⟩ := q; exact ⟨q0, q1, qP, va_K.moved (u := U) (U := U.calling g mk a) (Vm.Alike.refl U.vm) qK, qD⟩, fun U hU hW => ⟨rfl, by rw [hU], by rw [hU]; exact hPc, va_K.moved hW.alike hK, hDc.weaken (fun _ _ _ _ => trivial)⟩⟩ rfl rfl hl.1 rfl (lv_room (Nat.le_of_ble_eq_true rfl)) dX5_leastGap_6 ⟨Nat.le_of_ble_eq_true rfl, Nat.le_of_ble_eq_true rfl⟩) hS (fun q _ h => hFc q h) hFc (fun r u t H1 locs ht hvm hw hB hz1 hk1 hS => ?_)
  obtain rfl := hw
  obtain ⟨hP1, hK1, hD1⟩ := hB
  rw [ht] at hP1
  obtain ⟨hP, hD⟩ := va_join (wr := [(aT, .inr (5, [.ref aD, .ref aTM])), (aTM, .inl (cyI, 144, .inl v))]) (w1 := []) hP hD [] [0, 1] rfl rfl (by decide) (by decide) hk1 hFc hP1 hD1
  clear hP1 hD1 hK1 hPc hDc hFc hk1 hz1 hvm ht u t
  generalize H1 = H at hP hS ⊢
  have hP : va_P (dC, dI) vwCl [(aT, .inr (5, [.ref aD, .ref aTM])), (aTM, .inl (cyI, 144, .inl v))] H := hP
  have hD : va_D A [(aT, .inr (5, [.ref aD, .ref aTM])), (aTM, .inl (cyI, 144, .inl v))] := hD
  have h1 : vp_in (nI (b * 12 + a)) 144 := by first | exact vp_in_nI (by omega) (by omega) | assumption
  refine va_iald hx hb hK hP 1 0 rfl rfl h1 dX5_leastGap_9 ?_
  refine lv_topi (fun x2 e3 => ?_)
  obtain rfl : x2 = (v (b * 12 + a)) := by rw [e3, nI_clamp (by omega)]
  clear e3
  refine lv_ineg hx hb dX5_leastGap_10 ?_
  have r4 : (-(v (b * 12 + a))) = (-(v (b * 12 + a))) := by rfl
  have hP9 : va_P (dC, dI) vwCl [(aT, .inr (5, [.ref aD, .ref aTM])), (aTM, .inl (cyI, 144, .inl v))] H := by exact hP.sub [0, 1] rfl
  have hD9 : va_D A [(aT, .inr (5, [.ref aD, .ref aTM])), (aTM, .inl (cyI, 144, .inl v))] := by exact hD.sub [0, 1] (by decide) rfl
  subst hAe
  subst hQe
  exact W.iret (v := -(v (b * 12 + a))) hx hb hr (fun t ht hW => ⟨⟨_, (), rfl, r4, by rw [ht]; exact hP9, va_K.moved hW.alike hK, hD9⟩, hS.F ht⟩) hS.2.2 dX5_leastGap_11
set_option maxHeartbeats 4000000 in
set_option maxRecDepth 100000 in
theorem c_X5_narrow (l : Launch) (dC : Nat → ClassId) (dI : Nat → Nat → Nat) (cyI cyZ cyJ cyD : ClassId) (aT aD aTM : Nat) (zH : Nat) (v : Nat → Int32) (a : Nat) (b : Nat) (x : Int32) (ha : a < 12) (hb0 : b < 12) : Met l yX5_narrow wsX5_narrow ({ frames := 1, cells := 0, slots := 0, locals := 24 } : Room) (va_Pc [.ref aT, .int (nI a), .int (nI b), .int x] (fun U => U.heap.size = zH ∧ va_P (dC, dI) vwCl [(aT, .inr (5, [.ref aD, .ref aTM])), (aTM, .inl (cyI, 144, .inl v))] U.heap ∧ va_K (dC, dI) vwCl [(cyI, .int), (cyZ, .boolean), (cyJ, .long), (cyD, .double)] U ∧ va_D (fun _ => True) [(aT, .inr (5, [.ref aD, .ref aTM])), (aTM, .inl (cyI, 144, .inl v))])) (va_Qv (fun _ : Unit => True) (fun _ t => va_P (dC, dI) vwCl [(aT, .inr (5, [.ref aD, .ref aTM])), (aTM, .inl (cyI, 144, .inl (nrw v a b x)))] t.heap ∧ va_K (dC, dI) vwCl [(cyI, .int), (cyZ, .boolean), (cyJ, .long), (cyD, .double)] t ∧ va_D (va_A [(aT, .inr (5, [.ref aD, .ref aTM])), (aTM, .inl (cyI, 144, .inl v))] zH) [(aT, .inr (5, [.ref aD, .ref aTM])), (aTM, .inl (cyI, 144, .inl (nrw v a b x)))]) (va_A [(aT, .inr (5, [.ref aD, .ref aTM])), (aTM, .inl (cyI, 144, .inl v))] zH)) 0 0 (va_A [(aT, .inr (5, [.ref aD, .ref aTM])), (aTM, .inl (cyI, 144, .inl v))] zH) := by
  refine Met.ofW (cc := cX5_narrow) (maxL := 5) (ret := none) (by decide) rfl ?_
  intro pM eM s mM args blM mtM cM s₁ BM hml hv
  obtain ⟨rfl, hsz, hP, hK, hD0⟩ := hv
  have hx := BM.exec
  have hb := BM.bytes
  have hr := BM.returns
  have hts := atoms_spec (ws := wsX5_narrow) BM.pre
  have hown : s.vm.findClass RX5 = some mM.cls := findClass_of_methodNamed BM.named
  have hlocks := BM.notSynchronized
  have w0 := hts (.fieldLink RX5 9 "DimensionChecker$TightLimits" "most" "[I") (by decide +kernel)
  have w1 := hts (.methodLink RX5 73 Lib.Math.min.name) (by decide +kernel)
  have w2 := hts (.static Lib.Math.min.name) (by decide +kernel)
  have w3 := hts (.initialized "java/lang/Math") (by decide +kernel)
  have w4 := hts (.code Lib.Math.min.name Lib.Math.min.code 2 (some .int)) (by decide +kernel)
  have iX5 : ∀ w ∈ wsX50, w ∈ wsX5_narrow := by decide +kernel
  subst hsz
  have hD := hD0.self (sz := s.heap.size)
  obtain ⟨Q, hQe⟩ : ∃ Q : State → Prop, Q = MQ blM (va_Qv (fun _ : Unit => True) (fun _ t => va_P (dC, dI) vwCl [(aT, .inr (5, [.ref aD, .ref aTM])), (aTM, .inl (cyI, 144, .inl (nrw v a b x)))] t.heap ∧ va_K (dC, dI) vwCl [(cyI, .int), (cyZ, .boolean), (cyJ, .long), (cyD, .double)] t ∧ va_D (va_A [(aT, .inr (5, [.ref aD, .ref aTM])), (aTM, .inl (cyI, 144, .inl v))] s.heap.size) [(aT, .inr (5, [.ref aD, .ref aTM])), (aTM, .inl (cyI, 144, .inl (nrw v a b x)))]) (va_A [(aT, .inr (5, [.ref aD, .ref aTM])), (aTM, .inl (cyI, 144, .inl v))] s.heap.size)) ([.ref aT, .int (nI a), .int (nI b), .int x] : List Value).toArray s 0 0 (va_A [(aT, .inr (5, [.ref aD, .ref aTM])), (aTM, .inl (cyI, 144, .inl v))] s.heap.size) := ⟨_, rfl⟩
  rw [← hQe]
  generalize hAe : va_A [(aT, .inr (5, [.ref aD, .ref aTM])), (aTM, .inl (cyI, 144, .inl v))] s.heap.size = A at hD hQe
  have hA : ∀ q : Nat, s.heap.size ≤ q → A q := fun q h => by rw [← hAe]; exact Or.inr h
  obtain ⟨H, hHe⟩ : ∃ H : Heap, H = s.heap := ⟨_, rfl⟩
  have hS : va_S A s.heap H [] := by rw [hHe]; exact va_S.rf
  rw [← hHe] at hP ⊢
  have hl := lv_entry ([.ref aT, .int (nI a), .int (nI b), .int x]) (n := 5) (Nat.le_of_ble_eq_true rfl)
  rw [lg_entry_eq]
  generalize (lg_sl ([.ref aT, .int (nI a), .int (nI b), .int x]) ++ List.replicate (5 - (lg_sl ([.ref aT, .int (nI a), .int (nI b), .int x])).length) Slot.unset).toArray = ls at hl ⊢
  have hl : lv_has ls 5 [(0, .ref aT), (1, .int (nI a)), (2, .int (nI b)), (3, .int x)] := hl
  refine lv_iload_n hx hb dX5_narrow_0 rfl (lv_at hl 1 rfl) ?_
  refine lv_iload_n hx hb dX5_narrow_1 rfl (lv_at hl 2 rfl) ?_
  have hPc := hP.sub (ws' := []) [] rfl
  have hDc := hD.sub (ws' := []) [] (by decide) rfl
  have hFc := va_free (wc := []) hD hS hA [] rfl
  refine va_calli (va_runS (As := [.int (nI a), .int (nI b)]) (rest := []) ⟨hx, hb, hml, hown, hts⟩ (c_X5_cell l dC dI cyI cyZ cyJ cyD H.size a b) (va_cwS 2 hts gX5_narrow_X5_cell rfl rfl rfl (by decide +kernel) ⟨Nat.le_of_ble_eq_true rfl, Nat.le_of_ble_eq_true rfl⟩) ⟨fun a U g mk q => by obtain ⟨q0, q1, qP, qK, qD⟩ := q; exact ⟨q0, q1, qP, va_K.moved (u := U) (U := U.calling g mk a) (Vm.Alike.refl U.vm) qK, qD⟩, fun U hU hW => ⟨rfl, by rw [hU], by rw [hU]; exact hPc, va_K.moved hW.alike hK, hDc.weaken (fun _ _ _ _ => trivial)⟩⟩ rfl rfl hl.1 rfl (lv_room (Nat.le_of_ble_eq_true rfl)) dX5_narrow_2 ⟨Nat.le_of_ble_eq_true rfl, Nat.le_of_ble_eq_true rfl⟩) hS (fun q _ h => hFc q h) hFc (fun r u t H1 locs ht hvm hw hB hz1 hk1 hS => ?_)
  obtain rfl := hw
  obtain ⟨hP1, hK1, hD1⟩ := hB
  rw [ht] at hP1
  obtain ⟨hP, hD⟩ := va_join (wr := [(aT, .inr (5, [.ref aD, .ref aTM])), (aTM, .inl (cyI, 144, .inl v))]) (w1 := []) hP hD [] [0, 1] rfl rfl (by decide) (by decide) hk1 hFc hP1 hD1
  clear hP1 hD1 hK1 hPc hDc hFc hk1 hz1 hvm ht u t
  generalize H1 = H at hP hS ⊢
  have hP : va_P (dC, dI) vwCl [(aT, .inr (5, [.ref aD, .ref aTM])), (aTM, .inl (cyI, 144, .inl v))] H := hP
  have hD : va_D A [(aT, .inr (5, [.ref aD, .ref aTM])), (aTM, .inl (cyI, 144, .inl v))] := hD
  refine lv_istore (lv' := [(4, .int (nI (a * 12 + b))), (0, .ref aT), (1, .int (nI a)), (2, .int (nI b)), (3, .int x)]) hx hb dX5_narrow_5 hl (by decide) rfl (fun ls hl => ?_)
  refine lv_aload_n hx hb dX5_narrow_7 rfl (lv_at hl 1 rfl) ?_
  refine va_get (D := (dC, dI)) (ci := 5) (v := .ref aTM) (C := RX5) (T := TX5) (N := 2) hx hb hts iX5 hown hK hP 0 rfl rfl 1 (by decide) w0 (fun _ h9 => h9) rfl dX5_narrow_8 ?_
  refine lv_iload hx hb dX5_narrow_11 (lv_at hl 0 rfl) ?_
  refine lv_aload_n hx hb dX5_narrow_13 rfl (lv_at hl 1 rfl) ?_
  refine va_get (D := (dC, dI)) (ci := 5) (v := .ref aTM) (C := RX5) (T := TX5) (N := 2) hx hb hts iX5 hown hK hP 0 rfl rfl 1 (by decide) w0 (fun _ h9 => h9) rfl dX5_narrow_14 ?_
  refine lv_iload hx hb dX5_narrow_17 (lv_at hl 0 rfl) ?_
  have h1 : vp_in (nI (a * 12 + b)) 144 := by first | exact vp_in_nI (by omega) (by omega) | assumption
  refine va_iald hx hb hK hP 1 0 rfl rfl h1 dX5_narrow_19 ?_
  refine lv_topi (fun x2 e3 => ?_)
  obtain rfl : x2 = (v (a * 12 + b)) := by rw [e3, nI_clamp (by omega)]
  clear e3
  refine lv_iload_n hx hb dX5_narrow_20 rfl (lv_at hl 4 rfl) ?_
  refine va_mmin hx hb (by rw [hml]; exact hl.1.symm) hown w1 w2 w3 w4 (Nat.le_of_ble_eq_true rfl) (Nat.le_of_ble_eq_true rfl) (Nat.le_of_ble_eq_true rfl) (Nat.le_of_ble_eq_true rfl) dX5_narrow_21 ?_
  have h5 : vp_in (nI (a * 12 + b)) 144 := by first | exact vp_in_nI (by omega) (by omega) | assumption
  refine va_iast hx hb hK hP hD hS 1 0 rfl rfl h5 dX5_narrow_24 (fun H locs hP hD hS => ?_)
  rw [nI_clamp (by omega)] at hP hD
  have hP : va_P (dC, dI) vwCl [(aT, .inr (5, [.ref aD, .ref aTM])), (aTM, .inl (cyI, 144, .inl (upd v (a * 12 + b) (if x < v (a * 12 + b) then x else v (a * 12 + b)))))] H := hP
  have hD : va_D A [(aT, .inr (5, [.ref aD, .ref aTM])), (aTM, .inl (cyI, 144, .inl (upd v (a * 12 + b) (if x < v (a * 12 + b) then x else v (a * 12 + b)))))] := hD
  have q6 : (nrw v a b x) = (upd v (a * 12 + b) (if x < v (a * 12 + b) then x else v (a * 12 + b))) := by rfl
  have hP9 : va_P (dC, dI) vwCl [(aT, .inr (5, [.ref aD, .ref aTM])), (aTM, .inl (cyI, 144, .inl (nrw v a b x)))] H := by first | (rw [q6]; exact hP.sub [0, 1] rfl) | (simp only [q6]; exact hP.sub [0, 1] rfl) | exact hP.sub [0, 1] rfl
  have hD9 : va_D A [(aT, .inr (5, [.ref aD, .ref aTM])), (aTM, .inl (cyI, 144, .inl (nrw v a b x)))] := by first | (rw [q6]; exact hD.sub [0, 1] (by decide) rfl) | (simp only [q6]; exact hD.sub [0, 1] (by decide) rfl) | exact hD.sub [0, 1] (by decide) rfl
  subst hAe
  subst hQe
  exact W.vret hx hb hr (fun t ht hW => ⟨⟨(), rfl, trivial, by rw [ht]; exact hP9, va_K.moved hW.alike hK, hD9⟩, hS.F ht⟩) hS.2.2 dX5_narrow_25
set_option maxHeartbeats 4000000 in
set_option maxRecDepth 100000 in
theorem c_X5_takeDimensions (l : Launch) (dC : Nat → ClassId) (dI : Nat → Nat → Nat) (cyI cyZ cyJ cyD : ClassId) (aT aD aTM aR aDL aDD aRF aRT aRN aRL aRU : Nat) (zH : Nat) (v : Nat → Int32) (n : Nat) (F : Nat → Nat) (T : Nat → Nat) (nm : Nat → Int32) (lo : Nat → Int32) (up : Nat → Int32) (cnt : Nat) (hn : n ≤ 12) (hc : cnt ≤ 20) (hF : ∀ d_q, d_q < cnt → F d_q < 12) (hT : ∀ d_q, d_q < cnt → T d_q < 12) : Met l yX5_takeDimensions wsX5_takeDimensions ({ frames := 2, cells := 0, slots := 0, locals := 48 } : Room) (va_Pc [.ref aT] (fun U => U.heap.size = zH ∧ va_P (dC, dI) vwCl [(aT, .inr (5, [.ref aD, .ref aTM])), (aTM, .inl (cyI, 144, .inl v)), (aD, .inr (2, [.ref aR, .ref aDL, .ref aDD, .int (nI n)])), (aR, .inr (1, [.ref aRF, .ref aRT, .ref aRN, .ref aRL, .ref aRU, .int (nI cnt)])), (aRF, .inl (cyI, 20, .inl (fun j_ => nI (F j_)))), (aRT, .inl (cyI, 20, .inl (fun j_ => nI (T j_)))), (aRN, .inl (cyI, 20, .inl nm)), (aRL, .inl (cyI, 20, .inl lo)), (aRU, .inl (cyI, 20, .inl up))] U.heap ∧ va_K (dC, dI) vwCl [(cyI, .int), (cyZ, .boolean), (cyJ, .long), (cyD, .double)] U ∧ va_D (fun _ => True) [(aT, .inr (5, [.ref aD, .ref aTM])), (aTM, .inl (cyI, 144, .inl v)), (aD, .inr (2, [.ref aR, .ref aDL, .ref aDD, .int (nI n)])), (aR, .inr (1, [.ref aRF, .ref aRT, .ref aRN, .ref aRL, .ref aRU, .int (nI cnt)])), (aRF, .inl (cyI, 20, .inl (fun j_ => nI (F j_)))), (aRT, .inl (cyI, 20, .inl (fun j_ => nI (T j_)))), (aRN, .inl (cyI, 20, .inl nm)), (aRL, .inl (cyI, 20, .inl lo)), (aRU, .inl (cyI, 20, .inl up))])) (va_Qv (fun _ : Unit => True) (fun _ t => va_P (dC, dI) vwCl [(aT, .inr (5, [.ref aD, .ref aTM])), (aTM, .inl (cyI, 144, .inl (tdD F T nm lo up (tdI (flI v 1000000000 144) n) cnt))), (aD, .inr (2, [.ref aR, .ref aDL, .ref aDD, .int (nI n)])), (aR, .inr (1, [.ref aRF, .ref aRT, .ref aRN, .ref aRL, .ref aRU, .int (nI cnt)])), (aRF, .inl (cyI, 20, .inl (fun j_ => nI (F j_)))), (aRT, .inl (cyI, 20, .inl (fun j_ => nI (T j_)))), (aRN, .inl (cyI, 20, .inl nm)), (aRL, .inl (cyI, 20, .inl lo)), (aRU, .inl (cyI, 20, .inl up))] t.heap ∧ va_K (dC, dI) vwCl [(cyI, .int), (cyZ, .boolean), (cyJ, .long), (cyD, .double)] t ∧ va_D (va_A [(aT, .inr (5, [.ref aD, .ref aTM])), (aTM, .inl (cyI, 144, .inl v)), (aD, .inr (2, [.ref aR, .ref aDL, .ref aDD, .int (nI n)])), (aR, .inr (1, [.ref aRF, .ref aRT, .ref aRN, .ref aRL, .ref aRU, .int (nI cnt)])), (aRF, .inl (cyI, 20, .inl (fun j_ => nI (F j_)))), (aRT, .inl (cyI, 20, .inl (fun j_ => nI (T j_)))), (aRN, .inl (cyI, 20, .inl nm)), (aRL, .inl (cyI, 20, .inl lo)), (aRU, .inl (cyI, 20, .inl up))] zH) [(aT, .inr (5, [.ref aD, .ref aTM])), (aTM, .inl (cyI, 144, .inl (tdD F T nm lo up (tdI (flI v 1000000000 144) n) cnt))), (aD, .inr (2, [.ref aR, .ref aDL, .ref aDD, .int (nI n)])), (aR, .inr (1, [.ref aRF, .ref aRT, .ref aRN, .ref aRL, .ref aRU, .int (nI cnt)])), (aRF, .inl (cyI, 20, .inl (fun j_ => nI (F j_)))), (aRT, .inl (cyI, 20, .inl (fun j_ => nI (T j_)))), (aRN, .inl (cyI, 20, .inl nm)), (aRL, .inl (cyI, 20, .inl lo)), (aRU, .inl (cyI, 20, .inl up))]) (va_A [(aT, .inr (5, [.ref aD, .ref aTM])), (aTM, .inl (cyI, 144, .inl v)), (aD, .inr (2, [.ref aR, .ref aDL, .ref aDD, .int (nI n)])), (aR, .inr (1, [.ref aRF, .ref aRT, .ref aRN, .ref aRL, .ref aRU, .int (nI cnt)])), (aRF, .inl (cyI, 20, .inl (fun j_ => nI (F j_)))), (aRT, .inl (cyI, 20, .inl (fun j_ => nI (T j_)))), (aRN, .inl (cyI, 20, .inl nm)), (aRL, .inl (cyI, 20, .inl lo)), (aRU, .inl (cyI, 20, .inl up))] zH)) 0 0 (va_A [(aT, .inr (5, [.ref aD, .ref aTM])), (aTM, .inl (cyI, 144, .inl v)), (aD, .inr (2, [.ref aR, .ref aDL, .ref aDD, .int (nI n)])), (aR, .inr (1, [.ref aRF, .ref aRT, .ref aRN, .ref aRL, .ref aRU, .int (nI cnt)])), (aRF, .inl (cyI, 20, .inl (fun j_ => nI (F j_)))), (aRT, .inl (cyI, 20, .inl (fun j_ => nI (T j_)))), (aRN, .inl (cyI, 20, .inl nm)), (aRL, .inl (cyI, 20, .inl lo)), (aRU, .inl (cyI, 20, .inl up))] zH) := by
  refine Met.ofW (cc := cX5_takeDimensions) (maxL := 3) (ret := none) (by decide) rfl ?_
  intro pM eM s mM args blM mtM cM s₁ BM hml hv
  obtain ⟨rfl, hsz, hP, hK, hD0⟩ := hv
  have hx := BM.exec
  have hb := BM.bytes
  have hr := BM.returns
  have hts := atoms_spec (ws := wsX5_takeDimensions) BM.pre
  have hown : s.vm.findClass RX5 = some mM.cls := findClass_of_methodNamed BM.named
  have hlocks := BM.notSynchronized
  have w0 := hts (.fieldLink RX5 9 "DimensionChecker$TightLimits" "most" "[I") (by decide +kernel)
  have w1 := hts (.constant RX5 40 (1000000000)) (by decide +kernel)
  have w2 := hts (.fieldLink RX5 15 "DimensionChecker$TightLimits" "drawing" "LDimensionChecker$Drawing;") (by decide +kernel)
  have w3 := hts (.fieldLink RX5 22 "DimensionChecker$Drawing" "faces" "I") (by decide +kernel)
  have w4 := hts (.fieldLink RX5 47 "DimensionChecker$Drawing" "rows" "LDimensionChecker$Dimensions;") (by decide +kernel)
  have w5 := hts (.fieldLink RX5 51 "DimensionChecker$Dimensions" "count" "I") (by decide +kernel)
  have w6 := hts (.fieldLink RX5 56 "DimensionChecker$Dimensions" "from" "[I") (by decide +kernel)
  have w7 := hts (.fieldLink RX5 59 "DimensionChecker$Dimensions" "to" "[I") (by decide +kernel)
  have iX5 : ∀ w ∈ wsX50, w ∈ wsX5_takeDimensions := by decide +kernel
  have iX2 : ∀ w ∈ wsX20, w ∈ wsX5_takeDimensions := by decide +kernel
  have iX1 : ∀ w ∈ wsX10, w ∈ wsX5_takeDimensions := by decide +kernel
  subst hsz
  have hD := hD0.self (sz := s.heap.size)
  obtain ⟨Q, hQe⟩ : ∃ Q : State → Prop, Q = MQ blM (va_Qv (fun _ : Unit => True) (fun _ t => va_P (dC, dI) vwCl [(aT, .inr (5, [.ref aD, .ref aTM])), (aTM, .inl (cyI, 144, .inl (tdD F T nm lo up (tdI (flI v 1000000000 144) n) cnt))), (aD, .inr (2, [.ref aR, .ref aDL, .ref aDD, .int (nI n)])), (aR, .inr (1, [.ref aRF, .ref aRT, .ref aRN, .ref aRL, .ref aRU, .int (nI cnt)])), (aRF, .inl (cyI, 20, .inl (fun j_ => nI (F j_)))), (aRT, .inl (cyI, 20, .inl (fun j_ => nI (T j_)))), (aRN, .inl (cyI, 20, .inl nm)), (aRL, .inl (cyI, 20, .inl lo)), (aRU, .inl (cyI, 20, .inl up))] t.heap ∧ va_K (dC, dI) vwCl [(cyI, .int), (cyZ, .boolean), (cyJ, .long), (cyD, .double)] t ∧ va_D (va_A [(aT, .inr (5, [.ref aD, .ref aTM])), (aTM, .inl (cyI, 144, .inl v)), (aD, .inr (2, [.ref aR, .ref aDL, .ref aDD, .int (nI n)])), (aR, .inr (1, [.ref aRF, .ref aRT, .ref aRN, .ref aRL, .ref aRU, .int (nI cnt)])), (aRF, .inl (cyI, 20, .inl (fun j_ => nI (F j_)))), (aRT, .inl (cyI, 20, .inl (fun j_ => nI (T j_)))), (aRN, .inl (cyI, 20, .inl nm)), (aRL, .inl (cyI, 20, .inl lo)), (aRU, .inl (cyI, 20, .inl up))] s.heap.size) [(aT, .inr (5, [.ref aD, .ref aTM])), (aTM, .inl (cyI, 144, .inl (tdD F T nm lo up (tdI (flI v 1000000000 144) n) cnt))), (aD, .inr (2, [.ref aR, .ref aDL, .ref aDD, .int (nI n)])), (aR, .inr (1, [.ref aRF, .ref aRT, .ref aRN, .ref aRL, .ref aRU, .int (nI cnt)])), (aRF, .inl (cyI, 20, .inl (fun j_ => nI (F j_)))), (aRT, .inl (cyI, 20, .inl (fun j_ => nI (T j_)))), (aRN, .inl (cyI, 20, .inl nm)), (aRL, .inl (cyI, 20, .inl lo)), (aRU, .inl (cyI, 20, .inl up))]) (va_A [(aT, .inr (5, [.ref aD, .ref aTM])), (aTM, .inl (cyI, 144, .inl v)), (aD, .inr (2, [.ref aR, .ref aDL, .ref aDD, .int (nI n)])), (aR, .inr (1, [.ref aRF, .ref aRT, .ref aRN, .ref aRL, .ref aRU, .int (nI cnt)])), (aRF, .inl (cyI, 20, .inl (fun j_ => nI (F j_)))), (aRT, .inl (cyI, 20, .inl (fun j_ => nI (T j_)))), (aRN, .inl (cyI, 20, .inl nm)), (aRL, .inl (cyI, 20, .inl lo)), (aRU, .inl (cyI, 20, .inl up))] s.heap.size)) ([.ref aT] : List Value).toArray s 0 0 (va_A [(aT, .inr (5, [.ref aD, .ref aTM])), (aTM, .inl (cyI, 144, .inl v)), (aD, .inr (2, [.ref aR, .ref aDL, .ref aDD, .int (nI n)])), (aR, .inr (1, [.ref aRF, .ref aRT, .ref aRN, .ref aRL, .ref aRU, .int (nI cnt)])), (aRF, .inl (cyI, 20, .inl (fun j_ => nI (F j_)))), (aRT, .inl (cyI, 20, .inl (fun j_ => nI (T j_)))), (aRN, .inl (cyI, 20, .inl nm)), (aRL, .inl (cyI, 20, .inl lo)), (aRU, .inl (cyI, 20, .inl up))] s.heap.size) := ⟨_, rfl⟩
  rw [← hQe]
  generalize hAe : va_A [(aT, .inr (5, [.ref aD, .ref aTM])), (aTM, .inl (cyI, 144, .inl v)), (aD, .inr (2, [.ref aR, .ref aDL, .ref aDD, .int (nI n)])), (aR, .inr (1, [.ref aRF, .ref aRT, .ref aRN, .ref aRL, .ref aRU, .int (nI cnt)])), (aRF, .inl (cyI, 20, .inl (fun j_ => nI (F j_)))), (aRT, .inl (cyI, 20, .inl (fun j_ => nI (T j_)))), (aRN, .inl (cyI, 20, .inl nm)), (aRL, .inl (cyI, 20, .inl lo)), (aRU, .inl (cyI, 20, .inl up))] s.heap.size = A at hD hQe
  have hA : ∀ q : Nat, s.heap.size ≤ q → A q := fun q h => by rw [← hAe]; exact Or.inr h
  obtain ⟨H, hHe⟩ : ∃ H : Heap, H = s.heap := ⟨_, rfl⟩
  have hS : va_S A s.heap H [] := by rw [hHe]; exact va_S.rf
  rw [← hHe] at hP ⊢
  have hl := lv_entry ([.ref aT]) (n := 3) (Nat.le_of_ble_eq_true rfl)
  rw [lg_entry_eq]
  generalize (lg_sl ([.ref aT]) ++ List.replicate (3 - (lg_sl ([.ref aT])).length) Slot.unset).toArray = ls at hl ⊢
  have hl : lv_has ls 3 [(0, .ref aT)] := hl
  refine lv_aload_n hx hb dX5_takeDimensions_0 rfl (lv_at hl 0 rfl) ?_
  refine va_get (D := (dC, dI)) (ci := 5) (v := .ref aTM) (C := RX5) (T := TX5) (N := 2) hx hb hts iX5 hown hK hP 0 rfl rfl 1 (by decide) w0 (fun _ h9 => h9) rfl dX5_takeDimensions_1 ?_
  refine lv_ldc (v := 1000000000) hx hb hown w1 dX5_takeDimensions_4 ?_
  have g1 : 144 < 1000 := by decide
  have hPc := hP.sub (ws' := [(aTM, .inl (cyI, 144, .inl v))]) [1] rfl
  have hDc := hD.sub (ws' := [(aTM, .inl (cyI, 144, .inl v))]) [1] (by decide) rfl
  have hFc := va_free (wc := [(aTM, .inl (cyI, 144, .inl v))]) hD hS hA [1] rfl
  refine va_callv (va_runS (As := [.ref aTM, .int 1000000000]) (rest := []) ⟨hx, hb, hml, hown, hts⟩ (c_J7_fill_53178 l dC dI cyI cyZ cyJ cyD aTM H.size 144 v 1000000000 g1) (va_cwS 2 hts gX5_takeDimensions_J7_fill_53178 rfl rfl rfl (by decide +kernel) ⟨Nat.le_of_ble_eq_true rfl, Nat.le_of_ble_eq_true rfl⟩) ⟨fun a U g mk q => by obtain ⟨q0, q1, qP, qK, qD⟩ := q; exact ⟨q0, q1, qP, va_K.moved (u := U) (U := U.calling g mk a) (Vm.Alike.refl U.vm) qK, qD⟩, fun U hU hW => ⟨rfl, by rw [hU], by rw [hU]; exact hPc, va_K.moved hW.alike hK, hDc.weaken (fun _ _ _ _ => trivial)⟩⟩ rfl rfl hl.1 rfl (lv_room (Nat.le_of_ble_eq_true rfl)) dX5_takeDimensions_6 ⟨Nat.le_of_ble_eq_true rfl, Nat.le_of_ble_eq_true rfl⟩) hS (fun q _ h => hFc q h) hFc (fun  u t H1 locs ht hvm hw hB hz1 hk1 hS => ?_)
  obtain ⟨hP1, hK1, hD1⟩ := hB
  rw [ht] at hP1
  obtain ⟨hP, hD⟩ := va_join (wr := [(aT, .inr (5, [.ref aD, .ref aTM])), (aD, .inr (2, [.ref aR, .ref aDL, .ref aDD, .int (nI n)])), (aR, .inr (1, [.ref aRF, .ref aRT, .ref aRN, .ref aRL, .ref aRU, .int (nI cnt)])), (aRF, .inl (cyI, 20, .inl (fun j_ => nI (F j_)))), (aRT, .inl (cyI, 20, .inl (fun j_ => nI (T j_)))), (aRN, .inl (cyI, 20, .inl nm)), (aRL, .inl (cyI, 20, .inl lo)), (aRU, .inl (cyI, 20, .inl up))]) (w1 := [(aTM, .inl (cyI, 144, .inl (flI v 1000000000 144)))]) hP hD [1] [0, 2, 3, 4, 5, 6, 7, 8] rfl rfl (by decide) (by decide) hk1 hFc hP1 hD1
  clear hP1 hD1 hK1 hPc hDc hFc hk1 hz1 hvm ht u t
  generalize H1 = H at hP hS ⊢
  have hP : va_P (dC, dI) vwCl [(aT, .inr (5, [.ref aD, .ref aTM])), (aD, .inr (2, [.ref aR, .ref aDL, .ref aDD, .int (nI n)])), (aR, .inr (1, [.ref aRF, .ref aRT, .ref aRN, .ref aRL, .ref aRU, .int (nI cnt)])), (aRF, .inl (cyI, 20, .inl (fun j_ => nI (F j_)))), (aRT, .inl (cyI, 20, .inl (fun j_ => nI (T j_)))), (aRN, .inl (cyI, 20, .inl nm)), (aRL, .inl (cyI, 20, .inl lo)), (aRU, .inl (cyI, 20, .inl up)), (aTM, .inl (cyI, 144, .inl (flI v 1000000000 144)))] H := hP
  have hD : va_D A [(aT, .inr (5, [.ref aD, .ref aTM])), (aD, .inr (2, [.ref aR, .ref aDL, .ref aDD, .int (nI n)])), (aR, .inr (1, [.ref aRF, .ref aRT, .ref aRN, .ref aRL, .ref aRU, .int (nI cnt)])), (aRF, .inl (cyI, 20, .inl (fun j_ => nI (F j_)))), (aRT, .inl (cyI, 20, .inl (fun j_ => nI (T j_)))), (aRN, .inl (cyI, 20, .inl nm)), (aRL, .inl (cyI, 20, .inl lo)), (aRU, .inl (cyI, 20, .inl up)), (aTM, .inl (cyI, 144, .inl (flI v 1000000000 144)))] := hD
  refine lv_iconst (v := 0) hx hb dX5_takeDimensions_9 (by decide) ?_
  refine lv_istore_n (lv' := [(1, .int 0), (0, .ref aT)]) hx hb dX5_takeDimensions_10 rfl hl (by decide) rfl (fun ls hl => ?_)
  have k11 : ∀ (fuel : Nat) (i : Nat) (hfuel : n - i < fuel) (hi : i ≤ n) (H : Heap) (locs : List Loc) (ls : Array Slot), va_P (dC, dI) vwCl [(aT, .inr (5, [.ref aD, .ref aTM])), (aTM, .inl (cyI, 144, .inl (tdI (flI v 1000000000 144) i))), (aD, .inr (2, [.ref aR, .ref aDL, .ref aDD, .int (nI n)])), (aR, .inr (1, [.ref aRF, .ref aRT, .ref aRN, .ref aRL, .ref aRU, .int (nI cnt)])), (aRF, .inl (cyI, 20, .inl (fun j_ => nI (F j_)))), (aRT, .inl (cyI, 20, .inl (fun j_ => nI (T j_)))), (aRN, .inl (cyI, 20, .inl nm)), (aRL, .inl (cyI, 20, .inl lo)), (aRU, .inl (cyI, 20, .inl up))] H → va_D A [(aT, .inr (5, [.ref aD, .ref aTM])), (aTM, .inl (cyI, 144, .inl (tdI (flI v 1000000000 144) i))), (aD, .inr (2, [.ref aR, .ref aDL, .ref aDD, .int (nI n)])), (aR, .inr (1, [.ref aRF, .ref aRT, .ref aRN, .ref aRL, .ref aRU, .int (nI cnt)])), (aRF, .inl (cyI, 20, .inl (fun j_ => nI (F j_)))), (aRT, .inl (cyI, 20, .inl (fun j_ => nI (T j_)))), (aRN, .inl (cyI, 20, .inl nm)), (aRL, .inl (cyI, 20, .inl lo)), (aRU, .inl (cyI, 20, .inl up))] → va_S A s.heap H locs → lv_has ls 3 [(0, .ref aT), (1, .int (nI i))] → W pM l eM (headSpec wsX5_takeDimensions ({ frames := 2, cells := 0, slots := 0, locals := 48 } : Room)).room s mM ([.ref aT] : List Value).toArray blM mtM cM H locs 0 0 Q (F0 mM 11 ls []) := by
    intro fuel
    induction fuel with
    | zero => intro i hfuel; exact absurd hfuel (Nat.not_lt_zero _)
    | succ fuel ih11 =>
      intro i hfuel hi H locs ls hP hD hS hl
      refine lv_iload_n hx hb dX5_takeDimensions_11 rfl (lv_at hl 1 rfl) ?_
      refine lv_aload_n hx hb dX5_takeDimensions_12 rfl (lv_at hl 0 rfl) ?_
      refine va_get (D := (dC, dI)) (ci := 5) (v := .ref aD) (C := RX5) (T := TX5) (N := 2) hx hb hts iX5 hown hK hP 0 rfl rfl 0 (by decide) w2 (fun _ h9 => h9) rfl dX5_takeDimensions_13 ?_
      refine va_get (D := (dC, dI)) (ci := 2) (v := .int (nI n)) (C := RX2) (T := TX2) (N := 4) hx hb hts iX2 hown hK hP 2 rfl rfl 3 (by decide) w3 (fun _ h9 => h9) rfl dX5_takeDimensions_16 ?_
      refine lv_icmp_ge (tgt := 39) hx hb dX5_takeDimensions_19 (by decide) (fun c19 => ?_) (fun c19 => ?_)
      · have c19 := n_le (a := n) (b := i) (by omega) (by omega) c19
        refine lv_aload_n hx hb dX5_takeDimensions_39 rfl (lv_at hl 0 rfl) ?_
        refine va_get (D := (dC, dI)) (ci := 5) (v := .ref aD) (C := RX5) (T := TX5) (N := 2) hx hb hts iX5 hown hK hP 0 rfl rfl 0 (by decide) w2 (fun _ h9 => h9) rfl dX5_takeDimensions_40 ?_
        refine va_get (D := (dC, dI)) (ci := 2) (v := .ref aR) (C := RX2) (T := TX2) (N := 4) hx hb hts iX2 hown hK hP 2 rfl rfl 0 (by decide) w4 (fun _ h9 => h9) rfl dX5_takeDimensions_43 ?_
        refine lv_astore_n (lv' := [(1, .ref aR), (0, .ref aT)]) hx hb dX5_takeDimensions_46 rfl hl (by decide) rfl (fun ls hl => ?_)
        refine lv_iconst (v := 0) hx hb dX5_takeDimensions_47 (by decide) ?_
        refine lv_istore_n (lv' := [(2, .int 0), (1, .ref aR), (0, .ref aT)]) hx hb dX5_takeDimensions_48 rfl hl (by decide) rfl (fun ls hl => ?_)
        have k49 : ∀ (fuel : Nat) (d : Nat) (hfuel : cnt - d < fuel) (hd0 : d ≤ cnt) (H : Heap) (locs : List Loc) (ls : Array Slot), va_P (dC, dI) vwCl [(aT, .inr (5, [.ref aD, .ref aTM])), (aTM, .inl (cyI, 144, .inl (tdD F T nm lo up (tdI (flI v 1000000000 144) n) d))), (aD, .inr (2, [.ref aR, .ref aDL, .ref aDD, .int (nI n)])), (aR, .inr (1, [.ref aRF, .ref aRT, .ref aRN, .ref aRL, .ref aRU, .int (nI cnt)])), (aRF, .inl (cyI, 20, .inl (fun j_ => nI (F j_)))), (aRT, .inl (cyI, 20, .inl (fun j_ => nI (T j_)))), (aRN, .inl (cyI, 20, .inl nm)), (aRL, .inl (cyI, 20, .inl lo)), (aRU, .inl (cyI, 20, .inl up))] H → va_D A [(aT, .inr (5, [.ref aD, .ref aTM])), (aTM, .inl (cyI, 144, .inl (tdD F T nm lo up (tdI (flI v 1000000000 144) n) d))), (aD, .inr (2, [.ref aR, .ref aDL, .ref aDD, .int (nI n)])), (aR, .inr (1, [.ref aRF, .ref aRT, .ref aRN, .ref aRL, .ref aRU, .int (nI cnt)])), (aRF, .inl (cyI, 20, .inl (fun j_ => nI (F j_)))), (aRT, .inl (cyI, 20, .inl (fun j_ => nI (T j_)))), (aRN, .inl (cyI, 20, .inl nm)), (aRL, .inl (cyI, 20, .inl lo)), (aRU, .inl (cyI, 20, .inl up))] → va_S A s.heap H locs → lv_has ls 3 [(0, .ref aT), (1, .ref aR), (2, .int (nI d))] → W pM l eM (headSpec wsX5_takeDimensions ({ frames := 2, cells := 0, slots := 0, locals := 48 } : Room)).room s mM ([.ref aT] : List Value).toArray blM mtM cM H locs 0 0 Q (F0 mM 49 ls []) := by
          intro fuel
          induction fuel with
          | zero => intro d hfuel; exact absurd hfuel (Nat.not_lt_zero _)
          | succ fuel ih49 =>
            intro d hfuel hd0 H locs ls hP hD hS hl
            refine lv_iload_n hx hb dX5_takeDimensions_49 rfl (lv_at hl 2 rfl) ?_
            refine lv_aload_n hx hb dX5_takeDimensions_50 rfl (lv_at hl 1 rfl) ?_
            refine va_get (D := (dC, dI)) (ci := 1) (v := .int (nI cnt)) (C := RX1) (T := TX1) (N := 6) hx hb hts iX1 hown hK hP 3 rfl rfl 5 (by decide) w5 (fun _ h9 => h9) rfl dX5_takeDimensions_51 ?_
            refine lv_icmp_ge (tgt := 106) hx hb dX5_takeDimensions_54 (by decide) (fun c54 => ?_) (fun c54 => ?_)
            · have c54 := n_le (a := cnt) (b := d) (by omega) (by omega) c54
              have q2 : (tdD F T nm lo up (tdI (flI v 1000000000 144) n) cnt) = (tdD F T nm lo up (tdI (flI v 1000000000 144) n) d) := by rw [show d = cnt by omega]
              have hP9 : va_P (dC, dI) vwCl [(aT, .inr (5, [.ref aD, .ref aTM])), (aTM, .inl (cyI, 144, .inl (tdD F T nm lo up (tdI (flI v 1000000000 144) n) cnt))), (aD, .inr (2, [.ref aR, .ref aDL, .ref aDD, .int (nI n)])), (aR, .inr (1, [.ref aRF, .ref aRT, .ref aRN, .ref aRL, .ref aRU, .int (nI cnt)])), (aRF, .inl (cyI, 20, .inl (fun j_ => nI (F j_)))), (aRT, .inl (cyI, 20, .inl (fun j_ => nI (T j_)))), (aRN, .inl (cyI, 20, .inl nm)), (aRL, .inl (cyI, 20, .inl lo)), (aRU, .inl (cyI, 20, .inl up))] H := by first | (rw [q2]; exact hP.sub [0, 1, 2, 3, 4, 5, 6, 7, 8] rfl) | (simp only [q2]; exact hP.sub [0, 1, 2, 3, 4, 5, 6, 7, 8] rfl) | exact hP.sub [0, 1, 2, 3, 4, 5, 6, 7, 8] rfl
              have hD9 : va_D A [(aT, .inr (5, [.ref aD, .ref aTM])), (aTM, .inl (cyI, 144, .inl (tdD F T nm lo up (tdI (flI v 1000000000 144) n) cnt))), (aD, .inr (2, [.ref aR, .ref aDL, .ref aDD, .int (nI n)])), (aR, .inr (1, [.ref aRF, .ref aRT, .ref aRN, .ref aRL, .ref aRU, .int (nI cnt)])), (aRF, .inl (cyI, 20, .inl (fun j_ => nI (F j_)))), (aRT, .inl (cyI, 20, .inl (fun j_ => nI (T j_)))), (aRN, .inl (cyI, 20, .inl nm)), (aRL, .inl (cyI, 20, .inl lo)), (aRU, .inl (cyI, 20, .inl up))] := by first | (rw [q2]; exact hD.sub [0, 1, 2, 3, 4, 5, 6, 7, 8] (by decide) rfl) | (simp only [q2]; exact hD.sub [0, 1, 2, 3, 4, 5, 6, 7, 8] (by decide) rfl) | exact hD.sub [0, 1, 2, 3, 4, 5, 6, 7, 8] (by decide) rfl
              subst hAe
              subst hQe
              exact W.vret hx hb hr (fun t ht hW => ⟨⟨(), rfl, trivial, by rw [ht]; exact hP9, va_K.moved hW.alike hK, hD9⟩, hS.F ht⟩) hS.2.2 dX5_takeDimensions_106
            · have c54 := n_nle (a := cnt) (b := d) (by omega) (by omega) c54
              have hF1 := hF d c54
              have hT1 := hT d c54
              refine lv_aload_n hx hb dX5_takeDimensions_57 rfl (lv_at hl 0 rfl) ?_
              refine lv_aload_n hx hb dX5_takeDimensions_58 rfl (lv_at hl 1 rfl) ?_
              refine va_get (D := (dC, dI)) (ci := 1) (v := .ref aRF) (C := RX1) (T := TX1) (N := 6) hx hb hts iX1 hown hK hP 3 rfl rfl 0 (by decide) w6 (fun _ h9 => h9) rfl dX5_takeDimensions_59 ?_
              refine lv_iload_n hx hb dX5_takeDimensions_62 rfl (lv_at hl 2 rfl) ?_
              have h3 : vp_in (nI d) 20 := by first | exact vp_in_nI (by omega) (by omega) | assumption
              refine va_iald hx hb hK hP 4 0 rfl rfl h3 dX5_takeDimensions_63 ?_
              refine lv_topi (fun x4 e5 => ?_)
              obtain rfl : x4 = (nI (F d)) := by rw [e5, nI_clamp (by omega)]
              clear e5
              refine lv_aload_n hx hb dX5_takeDimensions_64 rfl (lv_at hl 1 rfl) ?_
              refine va_get (D := (dC, dI)) (ci := 1) (v := .ref aRT) (C := RX1) (T := TX1) (N := 6) hx hb hts iX1 hown hK hP 3 rfl rfl 1 (by decide) w7 (fun _ h9 => h9) rfl dX5_takeDimensions_65 ?_
              refine lv_iload_n hx hb dX5_takeDimensions_68 rfl (lv_at hl 2 rfl) ?_
              have h6 : vp_in (nI d) 20 := by first | exact vp_in_nI (by omega) (by omega) | assumption
              refine va_iald hx hb hK hP 5 0 rfl rfl h6 dX5_takeDimensions_69 ?_
              refine lv_topi (fun x7 e8 => ?_)
              obtain rfl : x7 = (nI (T d)) := by rw [e8, nI_clamp (by omega)]
              clear e8
              refine lv_aload_n hx hb dX5_takeDimensions_70 rfl (lv_at hl 1 rfl) ?_
              refine lv_iload_n hx hb dX5_takeDimensions_71 rfl (lv_at hl 2 rfl) ?_
              have g9 : d < 20 := by first | assumption | omega | exact vp_in_nI (by omega) (by omega)
              have hPc := hP.sub (ws' := [(aR, .inr (1, [.ref aRF, .ref aRT, .ref aRN, .ref aRL, .ref aRU, .int (nI cnt)])), (aRN, .inl (cyI, 20, .inl nm)), (aRU, .inl (cyI, 20, .inl up))]) [3, 6, 8] rfl
              have hDc := hD.sub (ws' := [(aR, .inr (1, [.ref aRF, .ref aRT, .ref aRN, .ref aRL, .ref aRU, .int (nI cnt)])), (aRN, .inl (cyI, 20, .inl nm)), (aRU, .inl (cyI, 20, .inl up))]) [3, 6, 8] (by decide) rfl
              have hFc := va_free (wc := [(aR, .inr (1, [.ref aRF, .ref aRT, .ref aRN, .ref aRL, .ref aRU, .int (nI cnt)])), (aRN, .inl (cyI, 20, .inl nm)), (aRU, .inl (cyI, 20, .inl up))]) hD hS hA [3, 6, 8] rfl
              refine va_calli (va_runV (As := [.int (nI d)]) (rest := [.int (nI (T d)), .int (nI (F d)), .ref aT]) ⟨hx, hb, hml, hown, hts⟩ (c_X1_greatestLimit l dC dI cyI cyZ cyJ cyD aR aRF aRT aRN aRL aRU H.size nm up cnt d g9) (cwV 1 hts gX5_takeDimensions_X1_greatestLimit rfl rfl rfl (by decide +kernel) ⟨Nat.le_of_ble_eq_true rfl, Nat.le_of_ble_eq_true rfl⟩) ⟨fun a U g mk q => by obtain ⟨q0, q1, qP, qK, qD⟩ := q; exact ⟨q0, q1, qP, va_K.moved (u := U) (U := U.calling g mk a) (Vm.Alike.refl U.vm) qK, qD⟩, va_recv hK hPc (ci := 1) (q0 := 0) rfl rfl, fun U hU hW => ⟨rfl, by rw [hU], by rw [hU]; exact hPc, va_K.moved hW.alike hK, hDc.weaken (fun _ _ _ _ => trivial)⟩⟩ rfl rfl hl.1 rfl (lv_room (Nat.le_of_ble_eq_true rfl)) dX5_takeDimensions_72 ⟨Nat.le_of_ble_eq_true rfl, Nat.le_of_ble_eq_true rfl⟩) hS (fun q _ h => hFc q h) hFc (fun r u t H1 locs ht hvm hw hB hz1 hk1 hS => ?_)
              obtain rfl := hw
              obtain ⟨hP1, hK1, hD1⟩ := hB
              rw [ht] at hP1
              obtain ⟨hP, hD⟩ := va_join (wr := [(aT, .inr (5, [.ref aD, .ref aTM])), (aTM, .inl (cyI, 144, .inl (tdD F T nm lo up (tdI (flI v 1000000000 144) n) d))), (aD, .inr (2, [.ref aR, .ref aDL, .ref aDD, .int (nI n)])), (aRF, .inl (cyI, 20, .inl (fun j_ => nI (F j_)))), (aRT, .inl (cyI, 20, .inl (fun j_ => nI (T j_)))), (aRL, .inl (cyI, 20, .inl lo))]) (w1 := [(aR, .inr (1, [.ref aRF, .ref aRT, .ref aRN, .ref aRL, .ref aRU, .int (nI cnt)])), (aRN, .inl (cyI, 20, .inl nm)), (aRU, .inl (cyI, 20, .inl up))]) hP hD [3, 6, 8] [0, 1, 2, 4, 5, 7] rfl rfl (by decide) (by decide) hk1 hFc hP1 hD1
              clear hP1 hD1 hK1 hPc hDc hFc hk1 hz1 hvm ht u t
              generalize H1 = H at hP hS ⊢
              have hP : va_P (dC, dI) vwCl [(aT, .inr (5, [.ref aD, .ref aTM])), (aTM, .inl (cyI, 144, .inl (tdD F T nm lo up (tdI (flI v 1000000000 144) n) d))), (aD, .inr (2, [.ref aR, .ref aDL, .ref aDD, .int (nI n)])), (aRF, .inl (cyI, 20, .inl (fun j_ => nI (F j_)))), (aRT, .inl (cyI, 20, .inl (fun j_ => nI (T j_)))), (aRL, .inl (cyI, 20, .inl lo)), (aR, .inr (1, [.ref aRF, .ref aRT, .ref aRN, .ref aRL, .ref aRU, .int (nI cnt)])), (aRN, .inl (cyI, 20, .inl nm)), (aRU, .inl (cyI, 20, .inl up))] H := hP
              have hD : va_D A [(aT, .inr (5, [.ref aD, .ref aTM])), (aTM, .inl (cyI, 144, .inl (tdD F T nm lo up (tdI (flI v 1000000000 144) n) d))), (aD, .inr (2, [.ref aR, .ref aDL, .ref aDD, .int (nI n)])), (aRF, .inl (cyI, 20, .inl (fun j_ => nI (F j_)))), (aRT, .inl (cyI, 20, .inl (fun j_ => nI (T j_)))), (aRL, .inl (cyI, 20, .inl lo)), (aR, .inr (1, [.ref aRF, .ref aRT, .ref aRN, .ref aRL, .ref aRU, .int (nI cnt)])), (aRN, .inl (cyI, 20, .inl nm)), (aRU, .inl (cyI, 20, .inl up))] := hD
              have g10 : (F d) < 12 := by first | assumption | omega | exact vp_in_nI (by omega) (by omega)
              have g11 : (T d) < 12 := by first | assumption | omega | exact vp_in_nI (by omega) (by omega)
              have hPc := hP.sub (ws' := [(aT, .inr (5, [.ref aD, .ref aTM])), (aTM, .inl (cyI, 144, .inl (tdD F T nm lo up (tdI (flI v 1000000000 144) n) d)))]) [0, 1] rfl
              have hDc := hD.sub (ws' := [(aT, .inr (5, [.ref aD, .ref aTM])), (aTM, .inl (cyI, 144, .inl (tdD F T nm lo up (tdI (flI v 1000000000 144) n) d)))]) [0, 1] (by decide) rfl
              have hFc := va_free (wc := [(aT, .inr (5, [.ref aD, .ref aTM])), (aTM, .inl (cyI, 144, .inl (tdD F T nm lo up (tdI (flI v 1000000000 144) n) d)))]) hD hS hA [0, 1] rfl
              refine va_callv (va_runV (As := [.int (nI (F d)), .int (nI (T d)), .int (nm d + up d)]) (rest := []) ⟨hx, hb, hml, hown, hts⟩ (c_X5_narrow l dC dI cyI cyZ cyJ cyD aT aD aTM H.size (tdD F T nm lo up (tdI (flI v 1000000000 144) n) d) (F d) (T d) (nm d + up d) g10 g11) (cwV 3 hts gX5_takeDimensions_X5_narrow rfl rfl rfl (by decide +kernel) ⟨Nat.le_of_ble_eq_true rfl, Nat.le_of_ble_eq_true rfl⟩) ⟨fun a U g mk q => by obtain ⟨q0, q1, qP, qK, qD⟩ := q; exact ⟨q0, q1, qP, va_K.moved (u := U) (U := U.calling g mk a) (Vm.Alike.refl U.vm) qK, qD⟩, va_recv hK hPc (ci := 5) (q0 := 0) rfl rfl, fun U hU hW => ⟨rfl, by rw [hU], by rw [hU]; exact hPc, va_K.moved hW.alike hK, hDc.weaken (fun _ _ _ _ => trivial)⟩⟩ rfl rfl hl.1 rfl (lv_room (Nat.le_of_ble_eq_true rfl)) dX5_takeDimensions_75 ⟨Nat.le_of_ble_eq_true rfl, Nat.le_of_ble_eq_true rfl⟩) hS (fun q _ h => hFc q h) hFc (fun  u t H1 locs ht hvm hw hB hz1 hk1 hS => ?_)
              obtain ⟨hP1, hK1, hD1⟩ := hB
              rw [ht] at hP1
              obtain ⟨hP, hD⟩ := va_join (wr := [(aD, .inr (2, [.ref aR, .ref aDL, .ref aDD, .int (nI n)])), (aRF, .inl (cyI, 20, .inl (fun j_ => nI (F j_)))), (aRT, .inl (cyI, 20, .inl (fun j_ => nI (T j_)))), (aRL, .inl (cyI, 20, .inl lo)), (aR, .inr (1, [.ref aRF, .ref aRT, .ref aRN, .ref aRL, .ref aRU, .int (nI cnt)])), (aRN, .inl (cyI, 20, .inl nm)), (aRU, .inl (cyI, 20, .inl up))]) (w1 := [(aT, .inr (5, [.ref aD, .ref aTM])), (aTM, .inl (cyI, 144, .inl (nrw (tdD F T nm lo up (tdI (flI v 1000000000 144) n) d) (F d) (T d) (nm d + up d))))]) hP hD [0, 1] [2, 3, 4, 5, 6, 7, 8] rfl rfl (by decide) (by decide) hk1 hFc hP1 hD1
              clear hP1 hD1 hK1 hPc hDc hFc hk1 hz1 hvm ht u t
              generalize H1 = H at hP hS ⊢
              have hP : va_P (dC, dI) vwCl [(aD, .inr (2, [.ref aR, .ref aDL, .ref aDD, .int (nI n)])), (aRF, .inl (cyI, 20, .inl (fun j_ => nI (F j_)))), (aRT, .inl (cyI, 20, .inl (fun j_ => nI (T j_)))), (aRL, .inl (cyI, 20, .inl lo)), (aR, .inr (1, [.ref aRF, .ref aRT, .ref aRN, .ref aRL, .ref aRU, .int (nI cnt)])), (aRN, .inl (cyI, 20, .inl nm)), (aRU, .inl (cyI, 20, .inl up)), (aT, .inr (5, [.ref aD, .ref aTM])), (aTM, .inl (cyI, 144, .inl (nrw (tdD F T nm lo up (tdI (flI v 1000000000 144) n) d) (F d) (T d) (nm d + up d))))] H := hP
              have hD : va_D A [(aD, .inr (2, [.ref aR, .ref aDL, .ref aDD, .int (nI n)])), (aRF, .inl (cyI, 20, .inl (fun j_ => nI (F j_)))), (aRT, .inl (cyI, 20, .inl (fun j_ => nI (T j_)))), (aRL, .inl (cyI, 20, .inl lo)), (aR, .inr (1, [.ref aRF, .ref aRT, .ref aRN, .ref aRL, .ref aRU, .int (nI cnt)])), (aRN, .inl (cyI, 20, .inl nm)), (aRU, .inl (cyI, 20, .inl up)), (aT, .inr (5, [.ref aD, .ref aTM])), (aTM, .inl (cyI, 144, .inl (nrw (tdD F T nm lo up (tdI (flI v 1000000000 144) n) d) (F d) (T d) (nm d + up d))))] := hD
              refine lv_aload_n hx hb dX5_takeDimensions_78 rfl (lv_at hl 0 rfl) ?_
              refine lv_aload_n hx hb dX5_takeDimensions_79 rfl (lv_at hl 1 rfl) ?_
              refine va_get (D := (dC, dI)) (ci := 1) (v := .ref aRT) (C := RX1) (T := TX1) (N := 6) hx hb hts iX1 hown hK hP 4 rfl rfl 1 (by decide) w7 (fun _ h9 => h9) rfl dX5_takeDimensions_80 ?_
              refine lv_iload_n hx hb dX5_takeDimensions_83 rfl (lv_at hl 2 rfl) ?_
              have h12 : vp_in (nI d) 20 := by first | exact vp_in_nI (by omega) (by omega) | assumption
              refine va_iald hx hb hK hP 2 0 rfl rfl h12 dX5_takeDimensions_84 ?_
              refine lv_topi (fun x13 e14 => ?_)
              obtain rfl : x13 = (nI (T d)) := by rw [e14, nI_clamp (by omega)]
              clear e14
              refine lv_aload_n hx hb dX5_takeDimensions_85 rfl (lv_at hl 1 rfl) ?_
              refine va_get (D := (dC, dI)) (ci := 1) (v := .ref aRF) (C := RX1) (T := TX1) (N := 6) hx hb hts iX1 hown hK hP 4 rfl rfl 0 (by decide) w6 (fun _ h9 => h9) rfl dX5_takeDimensions_86 ?_
              refine lv_iload_n hx hb dX5_takeDimensions_89 rfl (lv_at hl 2 rfl) ?_
              have h15 : vp_in (nI d) 20 := by first | exact vp_in_nI (by omega) (by omega) | assumption
              refine va_iald hx hb hK hP 1 0 rfl rfl h15 dX5_takeDimensions_90 ?_
              refine lv_topi (fun x16 e17 => ?_)
              obtain rfl : x16 = (nI (F d)) := by rw [e17, nI_clamp (by omega)]
              clear e17
              refine lv_aload_n hx hb dX5_takeDimensions_91 rfl (lv_at hl 1 rfl) ?_
              refine lv_iload_n hx hb dX5_takeDimensions_92 rfl (lv_at hl 2 rfl) ?_
              have g18 : d < 20 := by first | assumption | omega | exact vp_in_nI (by omega) (by omega)
              have hPc := hP.sub (ws' := [(aR, .inr (1, [.ref aRF, .ref aRT, .ref aRN, .ref aRL, .ref aRU, .int (nI cnt)])), (aRN, .inl (cyI, 20, .inl nm)), (aRL, .inl (cyI, 20, .inl lo))]) [4, 5, 3] rfl
              have hDc := hD.sub (ws' := [(aR, .inr (1, [.ref aRF, .ref aRT, .ref aRN, .ref aRL, .ref aRU, .int (nI cnt)])), (aRN, .inl (cyI, 20, .inl nm)), (aRL, .inl (cyI, 20, .inl lo))]) [4, 5, 3] (by decide) rfl
              have hFc := va_free (wc := [(aR, .inr (1, [.ref aRF, .ref aRT, .ref aRN, .ref aRL, .ref aRU, .int (nI cnt)])), (aRN, .inl (cyI, 20, .inl nm)), (aRL, .inl (cyI, 20, .inl lo))]) hD hS hA [4, 5, 3] rfl
              refine va_calli (va_runV (As := [.int (nI d)]) (rest := [.int (nI (F d)), .int (nI (T d)), .ref aT]) ⟨hx, hb, hml, hown, hts⟩ (c_X1_leastLimit l dC dI cyI cyZ cyJ cyD aR aRF aRT aRN aRL aRU H.size nm lo cnt d g18) (cwV 1 hts gX5_takeDimensions_X1_leastLimit rfl rfl rfl (by decide +kernel) ⟨Nat.le_of_ble_eq_true rfl, Nat.le_of_ble_eq_true rfl⟩) ⟨fun a U g mk q => by obtain ⟨q0, q1, qP, qK, qD⟩ := q; exact ⟨q0, q1, qP, va_K.moved (u := U) (U := U.calling g mk a) (Vm.Alike.refl U.vm) qK, qD⟩, va_recv hK hPc (ci := 1) (q0 := 0) rfl rfl, fun U hU hW => ⟨rfl, by rw [hU], by rw [hU]; exact hPc, va_K.moved hW.alike hK, hDc.weaken (fun _ _ _ _ => trivial)⟩⟩ rfl rfl hl.1 rfl (lv_room (Nat.le_of_ble_eq_true rfl)) dX5_takeDimensions_93 ⟨Nat.le_of_ble_eq_true rfl, Nat.le_of_ble_eq_true rfl⟩) hS (fun q _ h => hFc q h) hFc (fun r u t H1 locs ht hvm hw hB hz1 hk1 hS => ?_)
              obtain rfl := hw
              obtain ⟨hP1, hK1, hD1⟩ := hB
              rw [ht] at hP1
              obtain ⟨hP, hD⟩ := va_join (wr := [(aD, .inr (2, [.ref aR, .ref aDL, .ref aDD, .int (nI n)])), (aRF, .inl (cyI, 20, .inl (fun j_ => nI (F j_)))), (aRT, .inl (cyI, 20, .inl (fun j_ => nI (T j_)))), (aRU, .inl (cyI, 20, .inl up)), (aT, .inr (5, [.ref aD, .ref aTM])), (aTM, .inl (cyI, 144, .inl (nrw (tdD F T nm lo up (tdI (flI v 1000000000 144) n) d) (F d) (T d) (nm d + up d))))]) (w1 := [(aR, .inr (1, [.ref aRF, .ref aRT, .ref aRN, .ref aRL, .ref aRU, .int (nI cnt)])), (aRN, .inl (cyI, 20, .inl nm)), (aRL, .inl (cyI, 20, .inl lo))]) hP hD [4, 5, 3] [0, 1, 2, 6, 7, 8] rfl rfl (by decide) (by decide) hk1 hFc hP1 hD1
              clear hP1 hD1 hK1 hPc hDc hFc hk1 hz1 hvm ht u t
              generalize H1 = H at hP hS ⊢
              have hP : va_P (dC, dI) vwCl [(aD, .inr (2, [.ref aR, .ref aDL, .ref aDD, .int (nI n)])), (aRF, .inl (cyI, 20, .inl (fun j_ => nI (F j_)))), (aRT, .inl (cyI, 20, .inl (fun j_ => nI (T j_)))), (aRU, .inl (cyI, 20, .inl up)), (aT, .inr (5, [.ref aD, .ref aTM])), (aTM, .inl (cyI, 144, .inl (nrw (tdD F T nm lo up (tdI (flI v 1000000000 144) n) d) (F d) (T d) (nm d + up d)))), (aR, .inr (1, [.ref aRF, .ref aRT, .ref aRN, .ref aRL, .ref aRU, .int (nI cnt)])), (aRN, .inl (cyI, 20, .inl nm)), (aRL, .inl (cyI, 20, .inl lo))] H := hP
              have hD : va_D A [(aD, .inr (2, [.ref aR, .ref aDL, .ref aDD, .int (nI n)])), (aRF, .inl (cyI, 20, .inl (fun j_ => nI (F j_)))), (aRT, .inl (cyI, 20, .inl (fun j_ => nI (T j_)))), (aRU, .inl (cyI, 20, .inl up)), (aT, .inr (5, [.ref aD, .ref aTM])), (aTM, .inl (cyI, 144, .inl (nrw (tdD F T nm lo up (tdI (flI v 1000000000 144) n) d) (F d) (T d) (nm d + up d)))), (aR, .inr (1, [.ref aRF, .ref aRT, .ref aRN, .ref aRL, .ref aRU, .int (nI cnt)])), (aRN, .inl (cyI, 20, .inl nm)), (aRL, .inl (cyI, 20, .inl lo))] := hD
              refine lv_ineg hx hb dX5_takeDimensions_96 ?_
              have g19 : (T d) < 12 := by first | assumption | omega | exact vp_in_nI (by omega) (by omega)
              have g20 : (F d) < 12 := by first | assumption | omega | exact vp_in_nI (by omega) (by omega)
              have hPc := hP.sub (ws' := [(aT, .inr (5, [.ref aD, .ref aTM])), (aTM, .inl (cyI, 144, .inl (nrw (tdD F T nm lo up (tdI (flI v 1000000000 144) n) d) (F d) (T d) (nm d + up d))))]) [4, 5] rfl
              have hDc := hD.sub (ws' := [(aT, .inr (5, [.ref aD, .ref aTM])), (aTM, .inl (cyI, 144, .inl (nrw (tdD F T nm lo up (tdI (flI v 1000000000 144) n) d) (F d) (T d) (nm d + up d))))]) [4, 5] (by decide) rfl
              have hFc := va_free (wc := [(aT, .inr (5, [.ref aD, .ref aTM])), (aTM, .inl (cyI, 144, .inl (nrw (tdD F T nm lo up (tdI (flI v 1000000000 144) n) d) (F d) (T d) (nm d + up d))))]) hD hS hA [4, 5] rfl
              refine va_callv (va_runV (As := [.int (nI (T d)), .int (nI (F d)), .int (-(nm d + lo d))]) (rest := []) ⟨hx, hb, hml, hown, hts⟩ (c_X5_narrow l dC dI cyI cyZ cyJ cyD aT aD aTM H.size (nrw (tdD F T nm lo up (tdI (flI v 1000000000 144) n) d) (F d) (T d) (nm d + up d)) (T d) (F d) (-(nm d + lo d)) g19 g20) (cwV 3 hts gX5_takeDimensions_X5_narrow rfl rfl rfl (by decide +kernel) ⟨Nat.le_of_ble_eq_true rfl, Nat.le_of_ble_eq_true rfl⟩) ⟨fun a U g mk q => by obtain ⟨q0, q1, qP, qK, qD⟩ := q; exact ⟨q0, q1, qP, va_K.moved (u := U) (U := U.calling g mk a) (Vm.Alike.refl U.vm) qK, qD⟩, va_recv hK hPc (ci := 5) (q0 := 0) rfl rfl, fun U hU hW => ⟨rfl, by rw [hU], by rw [hU]; exact hPc, va_K.moved hW.alike hK, hDc.weaken (fun _ _ _ _ => trivial)⟩⟩ rfl rfl hl.1 rfl (lv_room (Nat.le_of_ble_eq_true rfl)) dX5_takeDimensions_97 ⟨Nat.le_of_ble_eq_true rfl, Nat.le_of_ble_eq_true rfl⟩) hS (fun q _ h => hFc q h) hFc (fun  u t H1 locs ht hvm hw hB hz1 hk1 hS => ?_)
              obtain ⟨hP1, hK1, hD1⟩ := hB
              rw [ht] at hP1
              obtain ⟨hP, hD⟩ := va_join (wr := [(aD, .inr (2, [.ref aR, .ref aDL, .ref aDD, .int (nI n)])), (aRF, .inl (cyI, 20, .inl (fun j_ => nI (F j_)))), (aRT, .inl (cyI, 20, .inl (fun j_ => nI (T j_)))), (aRU, .inl (cyI, 20, .inl up)), (aR, .inr (1, [.ref aRF, .ref aRT, .ref aRN, .ref aRL, .ref aRU, .int (nI cnt)])), (aRN, .inl (cyI, 20, .inl nm)), (aRL, .inl (cyI, 20, .inl lo))]) (w1 := [(aT, .inr (5, [.ref aD, .ref aTM])), (aTM, .inl (cyI, 144, .inl (nrw (nrw (tdD F T nm lo up (tdI (flI v 1000000000 144) n) d) (F d) (T d) (nm d + up d)) (T d) (F d) (-(nm d + lo d)))))]) hP hD [4, 5] [0, 1, 2, 3, 6, 7, 8] rfl rfl (by decide) (by decide) hk1 hFc hP1 hD1
              clear hP1 hD1 hK1 hPc hDc hFc hk1 hz1 hvm ht u t
              generalize H1 = H at hP hS ⊢
              have hP : va_P (dC, dI) vwCl [(aD, .inr (2, [.ref aR, .ref aDL, .ref aDD, .int (nI n)])), (aRF, .inl (cyI, 20, .inl (fun j_ => nI (F j_)))), (aRT, .inl (cyI, 20, .inl (fun j_ => nI (T j_)))), (aRU, .inl (cyI, 20, .inl up)), (aR, .inr (1, [.ref aRF, .ref aRT, .ref aRN, .ref aRL, .ref aRU, .int (nI cnt)])), (aRN, .inl (cyI, 20, .inl nm)), (aRL, .inl (cyI, 20, .inl lo)), (aT, .inr (5, [.ref aD, .ref aTM])), (aTM, .inl (cyI, 144, .inl (nrw (nrw (tdD F T nm lo up (tdI (flI v 1000000000 144) n) d) (F d) (T d) (nm d + up d)) (T d) (F d) (-(nm d + lo d)))))] H := hP
              have hD : va_D A [(aD, .inr (2, [.ref aR, .ref aDL, .ref aDD, .int (nI n)])), (aRF, .inl (cyI, 20, .inl (fun j_ => nI (F j_)))), (aRT, .inl (cyI, 20, .inl (fun j_ => nI (T j_)))), (aRU, .inl (cyI, 20, .inl up)), (aR, .inr (1, [.ref aRF, .ref aRT, .ref aRN, .ref aRL, .ref aRU, .int (nI cnt)])), (aRN, .inl (cyI, 20, .inl nm)), (aRL, .inl (cyI, 20, .inl lo)), (aT, .inr (5, [.ref aD, .ref aTM])), (aTM, .inl (cyI, 144, .inl (nrw (nrw (tdD F T nm lo up (tdI (flI v 1000000000 144) n) d) (F d) (T d) (nm d + up d)) (T d) (F d) (-(nm d + lo d)))))] := hD
              refine lv_iinc (v := nI (d + 1)) (lv' := [(2, .int (nI (d + 1))), (0, .ref aT), (1, .ref aR)]) hx hb dX5_takeDimensions_100 hl (k := 2) rfl (nI_add d 1) (by decide) rfl (fun ls hl => ?_)
              refine lv_goto (tgt := 49) hx hb dX5_takeDimensions_103 (by decide) ?_
              have q21 : (tdD F T nm lo up (tdI (flI v 1000000000 144) n) (d + 1)) = (nrw (nrw (tdD F T nm lo up (tdI (flI v 1000000000 144) n) d) (F d) (T d) (nm d + up d)) (T d) (F d) (-(nm d + lo d))) := by rfl
              exact ih49 (d + 1) (by omega) (by first | assumption | omega) _ _ _ (by first | (rw [q21]; exact hP.sub [7, 8, 0, 4, 1, 2, 5, 6, 3] rfl) | (simp only [q21]; exact hP.sub [7, 8, 0, 4, 1, 2, 5, 6, 3] rfl) | exact hP.sub [7, 8, 0, 4, 1, 2, 5, 6, 3] rfl) (by first | (rw [q21]; exact hD.sub [7, 8, 0, 4, 1, 2, 5, 6, 3] (by decide) rfl) | (simp only [q21]; exact hD.sub [7, 8, 0, 4, 1, 2, 5, 6, 3] (by decide) rfl) | exact hD.sub [7, 8, 0, 4, 1, 2, 5, 6, 3] (by decide) rfl) hS (lv_sub hl [1, 2, 0] rfl)
        have q22 : (tdD F T nm lo up (tdI (flI v 1000000000 144) n) 0) = (tdI (flI v 1000000000 144) i) := by first | rfl | (simp only [tdD]; rw [show i = n by omega])
        have q23 : (nI 0) = 0 := by first | rfl | simp [*] | (simp only [*]; done)
        exact k49 (cnt - 0 + 1) 0 (Nat.lt_succ_self _) (by first | assumption | omega) _ _ _ (by first | (rw [q22]; exact hP) | (simp only [q22]; exact hP) | exact hP) (by first | (rw [q22]; exact hD) | (simp only [q22]; exact hD) | exact hD) hS (by first | (rw [q23]; exact lv_sub hl [2, 1, 0] rfl) | (simp only [q23]; exact lv_sub hl [2, 1, 0] rfl) | exact lv_sub hl [2, 1, 0] rfl)
      · have c19 := n_nle (a := n) (b := i) (by omega) (by omega) c19
        refine lv_aload_n hx hb dX5_takeDimensions_22 rfl (lv_at hl 0 rfl) ?_
        refine va_get (D := (dC, dI)) (ci := 5) (v := .ref aTM) (C := RX5) (T := TX5) (N := 2) hx hb hts iX5 hown hK hP 0 rfl rfl 1 (by decide) w0 (fun _ h9 => h9) rfl dX5_takeDimensions_23 ?_
        refine lv_iload_n hx hb dX5_takeDimensions_26 rfl (lv_at hl 1 rfl) ?_
        refine lv_iload_n hx hb dX5_takeDimensions_27 rfl (lv_at hl 1 rfl) ?_
        have hPc := hP.sub (ws' := []) [] rfl
        have hDc := hD.sub (ws' := []) [] (by decide) rfl
        have hFc := va_free (wc := []) hD hS hA [] rfl
        refine va_calli (va_runS (As := [.int (nI i), .int (nI i)]) (rest := [.ref aTM]) ⟨hx, hb, hml, hown, hts⟩ (c_X5_cell l dC dI cyI cyZ cyJ cyD H.size i i) (va_cwS 2 hts gX5_takeDimensions_X5_cell rfl rfl rfl (by decide +kernel) ⟨Nat.le_of_ble_eq_true rfl, Nat.le_of_ble_eq_true rfl⟩) ⟨fun a U g mk q => by obtain ⟨q0, q1, qP, qK, qD⟩ := q; exact ⟨q0, q1, qP, va_K.moved (u := U) (U := U.calling g mk a) (Vm.Alike.refl U.vm) qK, qD⟩, fun U hU hW => ⟨rfl, by rw [hU], by rw [hU]; exact hPc, va_K.moved hW.alike hK, hDc.weaken (fun _ _ _ _ => trivial)⟩⟩ rfl rfl hl.1 rfl (lv_room (Nat.le_of_ble_eq_true rfl)) dX5_takeDimensions_28 ⟨Nat.le_of_ble_eq_true rfl, Nat.le_of_ble_eq_true rfl⟩) hS (fun q _ h => hFc q h) hFc (fun r u t H1 locs ht hvm hw hB hz1 hk1 hS => ?_)
        obtain rfl := hw
        obtain ⟨hP1, hK1, hD1⟩ := hB
        rw [ht] at hP1
        obtain ⟨hP, hD⟩ := va_join (wr := [(aT, .inr (5, [.ref aD, .ref aTM])), (aTM, .inl (cyI, 144, .inl (tdI (flI v 1000000000 144) i))), (aD, .inr (2, [.ref aR, .ref aDL, .ref aDD, .int (nI n)])), (aR, .inr (1, [.ref aRF, .ref aRT, .ref aRN, .ref aRL, .ref aRU, .int (nI cnt)])), (aRF, .inl (cyI, 20, .inl (fun j_ => nI (F j_)))), (aRT, .inl (cyI, 20, .inl (fun j_ => nI (T j_)))), (aRN, .inl (cyI, 20, .inl nm)), (aRL, .inl (cyI, 20, .inl lo)), (aRU, .inl (cyI, 20, .inl up))]) (w1 := []) hP hD [] [0, 1, 2, 3, 4, 5, 6, 7, 8] rfl rfl (by decide) (by decide) hk1 hFc hP1 hD1
        clear hP1 hD1 hK1 hPc hDc hFc hk1 hz1 hvm ht u t
        generalize H1 = H at hP hS ⊢
        have hP : va_P (dC, dI) vwCl [(aT, .inr (5, [.ref aD, .ref aTM])), (aTM, .inl (cyI, 144, .inl (tdI (flI v 1000000000 144) i))), (aD, .inr (2, [.ref aR, .ref aDL, .ref aDD, .int (nI n)])), (aR, .inr (1, [.ref aRF, .ref aRT, .ref aRN, .ref aRL, .ref aRU, .int (nI cnt)])), (aRF, .inl (cyI, 20, .inl (fun j_ => nI (F j_)))), (aRT, .inl (cyI, 20, .inl (fun j_ => nI (T j_)))), (aRN, .inl (cyI, 20, .inl nm)), (aRL, .inl (cyI, 20, .inl lo)), (aRU, .inl (cyI, 20, .inl up))] H := hP
        have hD : va_D A [(aT, .inr (5, [.ref aD, .ref aTM])), (aTM, .inl (cyI, 144, .inl (tdI (flI v 1000000000 144) i))), (aD, .inr (2, [.ref aR, .ref aDL, .ref aDD, .int (nI n)])), (aR, .inr (1, [.ref aRF, .ref aRT, .ref aRN, .ref aRL, .ref aRU, .int (nI cnt)])), (aRF, .inl (cyI, 20, .inl (fun j_ => nI (F j_)))), (aRT, .inl (cyI, 20, .inl (fun j_ => nI (T j_)))), (aRN, .inl (cyI, 20, .inl nm)), (aRL, .inl (cyI, 20, .inl lo)), (aRU, .inl (cyI, 20, .inl up))] := hD
        refine lv_iconst (v := 0) hx hb dX5_takeDimensions_31 (by decide) ?_
        have h24 : vp_in (nI (i * 12 + i)) 144 := by first | exact vp_in_nI (by omega) (by omega) | assumption
        refine va_iast hx hb hK hP hD hS 1 0 rfl rfl h24 dX5_takeDimensions_32 (fun H locs hP hD hS => ?_)
        rw [nI_clamp (by omega)] at hP hD
        have hP : va_P (dC, dI) vwCl [(aT, .inr (5, [.ref aD, .ref aTM])), (aTM, .inl (cyI, 144, .inl (upd (tdI (flI v 1000000000 144) i) (i * 12 + i) 0))), (aD, .inr (2, [.ref aR, .ref aDL, .ref aDD, .int (nI n)])), (aR, .inr (1, [.ref aRF, .ref aRT, .ref aRN, .ref aRL, .ref aRU, .int (nI cnt)])), (aRF, .inl (cyI, 20, .inl (fun j_ => nI (F j_)))), (aRT, .inl (cyI, 20, .inl (fun j_ => nI (T j_)))), (aRN, .inl (cyI, 20, .inl nm)), (aRL, .inl (cyI, 20, .inl lo)), (aRU, .inl (cyI, 20, .inl up))] H := hP
        have hD : va_D A [(aT, .inr (5, [.ref aD, .ref aTM])), (aTM, .inl (cyI, 144, .inl (upd (tdI (flI v 1000000000 144) i) (i * 12 + i) 0))), (aD, .inr (2, [.ref aR, .ref aDL, .ref aDD, .int (nI n)])), (aR, .inr (1, [.ref aRF, .ref aRT, .ref aRN, .ref aRL, .ref aRU, .int (nI cnt)])), (aRF, .inl (cyI, 20, .inl (fun j_ => nI (F j_)))), (aRT, .inl (cyI, 20, .inl (fun j_ => nI (T j_)))), (aRN, .inl (cyI, 20, .inl nm)), (aRL, .inl (cyI, 20, .inl lo)), (aRU, .inl (cyI, 20, .inl up))] := hD
        refine lv_iinc (v := nI (i + 1)) (lv' := [(1, .int (nI (i + 1))), (0, .ref aT)]) hx hb dX5_takeDimensions_33 hl (k := 1) rfl (nI_add i 1) (by decide) rfl (fun ls hl => ?_)
        refine lv_goto (tgt := 11) hx hb dX5_takeDimensions_36 (by decide) ?_
        have q25 : (tdI (flI v 1000000000 144) (i + 1)) = (upd (tdI (flI v 1000000000 144) i) (i * 12 + i) 0) := by rfl
        exact ih11 (i + 1) (by omega) (by first | assumption | omega) _ _ _ (by first | (rw [q25]; exact hP) | (simp only [q25]; exact hP) | exact hP) (by first | (rw [q25]; exact hD) | (simp only [q25]; exact hD) | exact hD) hS (lv_sub hl [1, 0] rfl)
  have q26 : (tdI (flI v 1000000000 144) 0) = (flI v 1000000000 144) := by first | rfl | (simp only [tdD]; rw [show i = n by omega])
  have q27 : (nI 0) = 0 := by first | rfl | simp [*] | (simp only [*]; done)
  exact k11 (n - 0 + 1) 0 (Nat.lt_succ_self _) (by first | assumption | omega) _ _ _ (by first | (rw [q26]; exact hP.sub [0, 8, 1, 2, 3, 4, 5, 6, 7] rfl) | (simp only [q26]; exact hP.sub [0, 8, 1, 2, 3, 4, 5, 6, 7] rfl) | exact hP.sub [0, 8, 1, 2, 3, 4, 5, 6, 7] rfl) (by first | (rw [q26]; exact hD.sub [0, 8, 1, 2, 3, 4, 5, 6, 7] (by decide) rfl) | (simp only [q26]; exact hD.sub [0, 8, 1, 2, 3, 4, 5, 6, 7] (by decide) rfl) | exact hD.sub [0, 8, 1, 2, 3, 4, 5, 6, 7] (by decide) rfl) hS (by first | (rw [q27]; exact lv_sub hl [1, 0] rfl) | (simp only [q27]; exact lv_sub hl [1, 0] rfl) | exact lv_sub hl [1, 0] rfl)
set_option maxHeartbeats 4000000 in
set_option maxRecDepth 100000 in
theorem c_X5_narrowThrough (l : Launch) (dC : Nat → ClassId) (dI : Nat → Nat → Nat) (cyI cyZ cyJ cyD : ClassId) (aT aD aTM aR aDL aDD : Nat) (zH : Nat) (v : Nat → Int32) (n : Nat) (k : Nat) (hn : n ≤ 12) (hk : k < 12) : Met l yX5_narrowThrough wsX5_narrowThrough ({ frames := 2, cells := 0, slots := 0, locals := 48 } : Room) (va_Pc [.ref aT, .int (nI k)] (fun U => U.heap.size = zH ∧ va_P (dC, dI) vwCl [(aT, .inr (5, [.ref aD, .ref aTM])), (aTM, .inl (cyI, 144, .inl v)), (aD, .inr (2, [.ref aR, .ref aDL, .ref aDD, .int (nI n)]))] U.heap ∧ va_K (dC, dI) vwCl [(cyI, .int), (cyZ, .boolean), (cyJ, .long), (cyD, .double)] U ∧ va_D (fun _ => True) [(aT, .inr (5, [.ref aD, .ref aTM])), (aTM, .inl (cyI, 144, .inl v)), (aD, .inr (2, [.ref aR, .ref aDL, .ref aDD, .int (nI n)]))])) (va_Qv (fun _ : Unit => True) (fun _ t => va_P (dC, dI) vwCl [(aT, .inr (5, [.ref aD, .ref aTM])), (aTM, .inl (cyI, 144, .inl (ntA n k v n))), (aD, .inr (2, [.ref aR, .ref aDL, .ref aDD, .int (nI n)]))] t.heap ∧ va_K (dC, dI) vwCl [(cyI, .int), (cyZ, .boolean), (cyJ, .long), (cyD, .double)] t ∧ va_D (va_A [(aT, .inr (5, [.ref aD, .ref aTM])), (aTM, .inl (cyI, 144, .inl v)), (aD, .inr (2, [.ref aR, .ref aDL, .ref aDD, .int (nI n)]))] zH) [(aT, .inr (5, [.ref aD, .ref aTM])), (aTM, .inl (cyI, 144, .inl (ntA n k v n))), (aD, .inr (2, [.ref aR, .ref aDL, .ref aDD, .int (nI n)]))]) (va_A [(aT, .inr (5, [.ref aD, .ref aTM])), (aTM, .inl (cyI, 144, .inl v)), (aD, .inr (2, [.ref aR, .ref aDL, .ref aDD, .int (nI n)]))] zH)) 0 0 (va_A [(aT, .inr (5, [.ref aD, .ref aTM])), (aTM, .inl (cyI, 144, .inl v)), (aD, .inr (2, [.ref aR, .ref aDL, .ref aDD, .int (nI n)]))] zH) := by
  refine Met.ofW (cc := cX5_narrowThrough) (maxL := 6) (ret := none) (by decide) rfl ?_
  intro pM eM s mM args blM mtM cM s₁ BM hml hv
  obtain ⟨rfl, hsz, hP, hK, hD0⟩ := hv
  have hx := BM.exec
  have hb := BM.bytes
  have hr := BM.returns
  have hts := atoms_spec (ws := wsX5_narrowThrough) BM.pre
  have hown : s.vm.findClass RX5 = some mM.cls := findClass_of_methodNamed BM.named
  have hlocks := BM.notSynchronized
  have w0 := hts (.fieldLink RX5 15 "DimensionChecker$TightLimits" "drawing" "LDimensionChecker$Drawing;") (by decide +kernel)
  have w1 := hts (.fieldLink RX5 22 "DimensionChecker$Drawing" "faces" "I") (by decide +kernel)
  have w2 := hts (.fieldLink RX5 9 "DimensionChecker$TightLimits" "most" "[I") (by decide +kernel)
  have w3 := hts (.constant RX5 40 (1000000000)) (by decide +kernel)
  have iX5 : ∀ w ∈ wsX50, w ∈ wsX5_narrowThrough := by decide +kernel
  have iX2 : ∀ w ∈ wsX20, w ∈ wsX5_narrowThrough := by decide +kernel
  subst hsz
  have hD := hD0.self (sz := s.heap.size)
  obtain ⟨Q, hQe⟩ : ∃ Q : State → Prop, Q = MQ blM (va_Qv (fun _ : Unit => True) (fun _ t => va_P (dC, dI) vwCl [(aT, .inr (5, [.ref aD, .ref aTM])), (aTM, .inl (cyI, 144, .inl (ntA n k v n))), (aD, .inr (2, [.ref aR, .ref aDL, .ref aDD, .int (nI n)]))] t.heap ∧ va_K (dC, dI) vwCl [(cyI, .int), (cyZ, .boolean), (cyJ, .long), (cyD, .double)] t ∧ va_D (va_A [(aT, .inr (5, [.ref aD, .ref aTM])), (aTM, .inl (cyI, 144, .inl v)), (aD, .inr (2, [.ref aR, .ref aDL, .ref aDD, .int (nI n)]))] s.heap.size) [(aT, .inr (5, [.ref aD, .ref aTM])), (aTM, .inl (cyI, 144, .inl (ntA n k v n))), (aD, .inr (2, [.ref aR, .ref aDL, .ref aDD, .int (nI n)]))]) (va_A [(aT, .inr (5, [.ref aD, .ref aTM])), (aTM, .inl (cyI, 144, .inl v)), (aD, .inr (2, [.ref aR, .ref aDL, .ref aDD, .int (nI n)]))] s.heap.size)) ([.ref aT, .int (nI k)] : List Value).toArray s 0 0 (va_A [(aT, .inr (5, [.ref aD, .ref aTM])), (aTM, .inl (cyI, 144, .inl v)), (aD, .inr (2, [.ref aR, .ref aDL, .ref aDD, .int (nI n)]))] s.heap.size) := ⟨_, rfl⟩
  rw [← hQe]
  generalize hAe : va_A [(aT, .inr (5, [.ref aD, .ref aTM])), (aTM, .inl (cyI, 144, .inl v)), (aD, .inr (2, [.ref aR, .ref aDL, .ref aDD, .int (nI n)]))] s.heap.size = A at hD hQe
  have hA : ∀ q : Nat, s.heap.size ≤ q → A q := fun q h => by rw [← hAe]; exact Or.inr h
  obtain ⟨H, hHe⟩ : ∃ H : Heap, H = s.heap := ⟨_, rfl⟩
  have hS : va_S A s.heap H [] := by rw [hHe]; exact va_S.rf
  rw [← hHe] at hP ⊢
  have hl := lv_entry ([.ref aT, .int (nI k)]) (n := 6) (Nat.le_of_ble_eq_true rfl)
  rw [lg_entry_eq]
  generalize (lg_sl ([.ref aT, .int (nI k)]) ++ List.replicate (6 - (lg_sl ([.ref aT, .int (nI k)])).length) Slot.unset).toArray = ls at hl ⊢
  have hl : lv_has ls 6 [(0, .ref aT), (1, .int (nI k))] := hl
  refine lv_iconst (v := 0) hx hb dX5_narrowThrough_0 (by decide) ?_
  refine lv_istore_n (lv' := [(2, .int 0), (0, .ref aT), (1, .int (nI k))]) hx hb dX5_narrowThrough_1 rfl hl (by decide) rfl (fun ls hl => ?_)
  have k2 : ∀ (fuel : Nat) (a : Nat) (hfuel : n - a < fuel) (ha0 : a ≤ n) (H : Heap) (locs : List Loc) (ls : Array Slot), va_P (dC, dI) vwCl [(aT, .inr (5, [.ref aD, .ref aTM])), (aTM, .inl (cyI, 144, .inl (ntA n k v a))), (aD, .inr (2, [.ref aR, .ref aDL, .ref aDD, .int (nI n)]))] H → va_D A [(aT, .inr (5, [.ref aD, .ref aTM])), (aTM, .inl (cyI, 144, .inl (ntA n k v a))), (aD, .inr (2, [.ref aR, .ref aDL, .ref aDD, .int (nI n)]))] → va_S A s.heap H locs → lv_has ls 6 [(0, .ref aT), (1, .int (nI k)), (2, .int (nI a))] → W pM l eM (headSpec wsX5_narrowThrough ({ frames := 2, cells := 0, slots := 0, locals := 48 } : Room)).room s mM ([.ref aT, .int (nI k)] : List Value).toArray blM mtM cM H locs 0 0 Q (F0 mM 2 ls []) := by
    intro fuel
    induction fuel with
    | zero => intro a hfuel; exact absurd hfuel (Nat.not_lt_zero _)
    | succ fuel ih2 =>
      intro a hfuel ha0 H locs ls hP hD hS hl
      refine lv_iload_n hx hb dX5_narrowThrough_2 rfl (lv_at hl 2 rfl) ?_
      refine lv_aload_n hx hb dX5_narrowThrough_3 rfl (lv_at hl 0 rfl) ?_
      refine va_get (D := (dC, dI)) (ci := 5) (v := .ref aD) (C := RX5) (T := TX5) (N := 2) hx hb hts iX5 hown hK hP 0 rfl rfl 0 (by decide) w0 (fun _ h9 => h9) rfl dX5_narrowThrough_4 ?_
      refine va_get (D := (dC, dI)) (ci := 2) (v := .int (nI n)) (C := RX2) (T := TX2) (N := 4) hx hb hts iX2 hown hK hP 2 rfl rfl 3 (by decide) w1 (fun _ h9 => h9) rfl dX5_narrowThrough_7 ?_
      refine lv_icmp_ge (tgt := 87) hx hb dX5_narrowThrough_10 (by decide) (fun c10 => ?_) (fun c10 => ?_)
      · have c10 := n_le (a := n) (b := a) (by omega) (by omega) c10
        have q1 : (ntA n k v n) = (ntA n k v a) := by rw [show a = n by omega]
        have hP9 : va_P (dC, dI) vwCl [(aT, .inr (5, [.ref aD, .ref aTM])), (aTM, .inl (cyI, 144, .inl (ntA n k v n))), (aD, .inr (2, [.ref aR, .ref aDL, .ref aDD, .int (nI n)]))] H := by first | (rw [q1]; exact hP.sub [0, 1, 2] rfl) | (simp only [q1]; exact hP.sub [0, 1, 2] rfl) | exact hP.sub [0, 1, 2] rfl
        have hD9 : va_D A [(aT, .inr (5, [.ref aD, .ref aTM])), (aTM, .inl (cyI, 144, .inl (ntA n k v n))), (aD, .inr (2, [.ref aR, .ref aDL, .ref aDD, .int (nI n)]))] := by first | (rw [q1]; exact hD.sub [0, 1, 2] (by decide) rfl) | (simp only [q1]; exact hD.sub [0, 1, 2] (by decide) rfl) | exact hD.sub [0, 1, 2] (by decide) rfl
        subst hAe
        subst hQe
        exact W.vret hx hb hr (fun t ht hW => ⟨⟨(), rfl, trivial, by rw [ht]; exact hP9, va_K.moved hW.alike hK, hD9⟩, hS.F ht⟩) hS.2.2 dX5_narrowThrough_87
      · have c10 := n_nle (a := n) (b := a) (by omega) (by omega) c10
        refine lv_iconst (v := 0) hx hb dX5_narrowThrough_13 (by decide) ?_
        refine lv_istore_n (lv' := [(3, .int 0), (0, .ref aT), (1, .int (nI k)), (2, .int (nI a))]) hx hb dX5_narrowThrough_14 rfl hl (by decide) rfl (fun ls hl => ?_)
        have k15 : ∀ (fuel : Nat) (b : Nat) (hfuel : n - b < fuel) (hb1 : b ≤ n) (H : Heap) (locs : List Loc) (ls : Array Slot), va_P (dC, dI) vwCl [(aT, .inr (5, [.ref aD, .ref aTM])), (aTM, .inl (cyI, 144, .inl (ntB k a (ntA n k v a) b))), (aD, .inr (2, [.ref aR, .ref aDL, .ref aDD, .int (nI n)]))] H → va_D A [(aT, .inr (5, [.ref aD, .ref aTM])), (aTM, .inl (cyI, 144, .inl (ntB k a (ntA n k v a) b))), (aD, .inr (2, [.ref aR, .ref aDL, .ref aDD, .int (nI n)]))] → va_S A s.heap H locs → lv_has ls 6 [(0, .ref aT), (1, .int (nI k)), (2, .int (nI a)), (3, .int (nI b))] → W pM l eM (headSpec wsX5_narrowThrough ({ frames := 2, cells := 0, slots := 0, locals := 48 } : Room)).room s mM ([.ref aT, .int (nI k)] : List Value).toArray blM mtM cM H locs 0 0 Q (F0 mM 15 ls []) := by
          intro fuel
          induction fuel with
          | zero => intro b hfuel; exact absurd hfuel (Nat.not_lt_zero _)
          | succ fuel ih15 =>
            intro b hfuel hb1 H locs ls hP hD hS hl
            refine lv_iload_n hx hb dX5_narrowThrough_15 rfl (lv_at hl 3 rfl) ?_
            refine lv_aload_n hx hb dX5_narrowThrough_16 rfl (lv_at hl 0 rfl) ?_
            refine va_get (D := (dC, dI)) (ci := 5) (v := .ref aD) (C := RX5) (T := TX5) (N := 2) hx hb hts iX5 hown hK hP 0 rfl rfl 0 (by decide) w0 (fun _ h9 => h9) rfl dX5_narrowThrough_17 ?_
            refine va_get (D := (dC, dI)) (ci := 2) (v := .int (nI n)) (C := RX2) (T := TX2) (N := 4) hx hb hts iX2 hown hK hP 2 rfl rfl 3 (by decide) w1 (fun _ h9 => h9) rfl dX5_narrowThrough_20 ?_
            refine lv_icmp_ge (tgt := 81) hx hb dX5_narrowThrough_23 (by decide) (fun c23 => ?_) (fun c23 => ?_)
            · have c23 := n_le (a := n) (b := b) (by omega) (by omega) c23
              refine lv_iinc (v := nI (a + 1)) (lv' := [(2, .int (nI (a + 1))), (0, .ref aT), (1, .int (nI k)), (3, .int (nI b))]) hx hb dX5_narrowThrough_81 hl (k := 2) rfl (nI_add a 1) (by decide) rfl (fun ls hl => ?_)
              refine lv_goto (tgt := 2) hx hb dX5_narrowThrough_84 (by decide) ?_
              have q2 : (ntA n k v (a + 1)) = (ntB k a (ntA n k v a) b) := by simp only [ntA]; rw [show b = n by omega]
              exact ih2 (a + 1) (by omega) (by first | assumption | omega) _ _ _ (by first | (rw [q2]; exact hP) | (simp only [q2]; exact hP) | exact hP) (by first | (rw [q2]; exact hD) | (simp only [q2]; exact hD) | exact hD) hS (lv_sub hl [1, 2, 0] rfl)
            · have c23 := n_nle (a := n) (b := b) (by omega) (by omega) c23
              refine lv_aload_n hx hb dX5_narrowThrough_26 rfl (lv_at hl 0 rfl) ?_
              refine va_get (D := (dC, dI)) (ci := 5) (v := .ref aTM) (C := RX5) (T := TX5) (N := 2) hx hb hts iX5 hown hK hP 0 rfl rfl 1 (by decide) w2 (fun _ h9 => h9) rfl dX5_narrowThrough_27 ?_
              refine lv_iload_n hx hb dX5_narrowThrough_30 rfl (lv_at hl 2 rfl) ?_
              refine lv_iload_n hx hb dX5_narrowThrough_31 rfl (lv_at hl 1 rfl) ?_
              have hPc := hP.sub (ws' := []) [] rfl
              have hDc := hD.sub (ws' := []) [] (by decide) rfl
              have hFc := va_free (wc := []) hD hS hA [] rfl
              refine va_calli (va_runS (As := [.int (nI a), .int (nI k)]) (rest := [.ref aTM]) ⟨hx, hb, hml, hown, hts⟩ (c_X5_cell l dC dI cyI cyZ cyJ cyD H.size a k) (va_cwS 2 hts gX5_narrowThrough_X5_cell rfl rfl rfl (by decide +kernel) ⟨Nat.le_of_ble_eq_true rfl, Nat.le_of_ble_eq_true rfl⟩) ⟨fun a U g mk q => by obtain ⟨q0, q1, qP, qK, qD⟩ := q; exact ⟨q0, q1, qP, va_K.moved (u := U) (U := U.calling g mk a) (Vm.Alike.refl U.vm) qK, qD⟩, fun U hU hW => ⟨rfl, by rw [hU], by rw [hU]; exact hPc, va_K.moved hW.alike hK, hDc.weaken (fun _ _ _ _ => trivial)⟩⟩ rfl rfl hl.1 rfl (lv_room (Nat.le_of_ble_eq_true rfl)) dX5_narrowThrough_32 ⟨Nat.le_of_ble_eq_true rfl, Nat.le_of_ble_eq_true rfl⟩) hS (fun q _ h => hFc q h) hFc (fun r u t H1 locs ht hvm hw hB hz1 hk1 hS => ?_)
              obtain rfl := hw
              obtain ⟨hP1, hK1, hD1⟩ := hB
              rw [ht] at hP1
              obtain ⟨hP, hD⟩ := va_join (wr := [(aT, .inr (5, [.ref aD, .ref aTM])), (aTM, .inl (cyI, 144, .inl (ntB k a (ntA n k v a) b))), (aD, .inr (2, [.ref aR, .ref aDL, .ref aDD, .int (nI n)]))]) (w1 := []) hP hD [] [0, 1, 2] rfl rfl (by decide) (by decide) hk1 hFc hP1 hD1
              clear hP1 hD1 hK1 hPc hDc hFc hk1 hz1 hvm ht u t
              generalize H1 = H at hP hS ⊢
              have hP : va_P (dC, dI) vwCl [(aT, .inr (5, [.ref aD, .ref aTM])), (aTM, .inl (cyI, 144, .inl (ntB k a (ntA n k v a) b))), (aD, .inr (2, [.ref aR, .ref aDL, .ref aDD, .int (nI n)]))] H := hP
              have hD : va_D A [(aT, .inr (5, [.ref aD, .ref aTM])), (aTM, .inl (cyI, 144, .inl (ntB k a (ntA n k v a) b))), (aD, .inr (2, [.ref aR, .ref aDL, .ref aDD, .int (nI n)]))] := hD
              have h3 : vp_in (nI (a * 12 + k)) 144 := by first | exact vp_in_nI (by omega) (by omega) | assumption
              refine va_iald hx hb hK hP 1 0 rfl rfl h3 dX5_narrowThrough_35 ?_
              refine lv_topi (fun x4 e5 => ?_)
              obtain rfl : x4 = ((ntB k a (ntA n k v a) b) (a * 12 + k)) := by rw [e5, nI_clamp (by omega)]
              clear e5
              refine lv_istore (lv' := [(4, .int ((ntB k a (ntA n k v a) b) (a * 12 + k))), (0, .ref aT), (1, .int (nI k)), (2, .int (nI a)), (3, .int (nI b))]) hx hb dX5_narrowThrough_36 hl (by decide) rfl (fun ls hl => ?_)
              refine lv_aload_n hx hb dX5_narrowThrough_38 rfl (lv_at hl 1 rfl) ?_
              refine va_get (D := (dC, dI)) (ci := 5) (v := .ref aTM) (C := RX5) (T := TX5) (N := 2) hx hb hts iX5 hown hK hP 0 rfl rfl 1 (by decide) w2 (fun _ h9 => h9) rfl dX5_narrowThrough_39 ?_
              refine lv_iload_n hx hb dX5_narrowThrough_42 rfl (lv_at hl 2 rfl) ?_
              refine lv_iload_n hx hb dX5_narrowThrough_43 rfl (lv_at hl 4 rfl) ?_
              have hPc := hP.sub (ws' := []) [] rfl
              have hDc := hD.sub (ws' := []) [] (by decide) rfl
              have hFc := va_free (wc := []) hD hS hA [] rfl
              refine va_calli (va_runS (As := [.int (nI k), .int (nI b)]) (rest := [.ref aTM]) ⟨hx, hb, hml, hown, hts⟩ (c_X5_cell l dC dI cyI cyZ cyJ cyD H.size k b) (va_cwS 2 hts gX5_narrowThrough_X5_cell rfl rfl rfl (by decide +kernel) ⟨Nat.le_of_ble_eq_true rfl, Nat.le_of_ble_eq_true rfl⟩) ⟨fun a U g mk q => by obtain ⟨q0, q1, qP, qK, qD⟩ := q; exact ⟨q0, q1, qP, va_K.moved (u := U) (U := U.calling g mk a) (Vm.Alike.refl U.vm) qK, qD⟩, fun U hU hW => ⟨rfl, by rw [hU], by rw [hU]; exact hPc, va_K.moved hW.alike hK, hDc.weaken (fun _ _ _ _ => trivial)⟩⟩ rfl rfl hl.1 rfl (lv_room (Nat.le_of_ble_eq_true rfl)) dX5_narrowThrough_44 ⟨Nat.le_of_ble_eq_true rfl, Nat.le_of_ble_eq_true rfl⟩) hS (fun q _ h => hFc q h) hFc (fun r u t H1 locs ht hvm hw hB hz1 hk1 hS => ?_)
              obtain rfl := hw
              obtain ⟨hP1, hK1, hD1⟩ := hB
              rw [ht] at hP1
              obtain ⟨hP, hD⟩ := va_join (wr := [(aT, .inr (5, [.ref aD, .ref aTM])), (aTM, .inl (cyI, 144, .inl (ntB k a (ntA n k v a) b))), (aD, .inr (2, [.ref aR, .ref aDL, .ref aDD, .int (nI n)]))]) (w1 := []) hP hD [] [0, 1, 2] rfl rfl (by decide) (by decide) hk1 hFc hP1 hD1
              clear hP1 hD1 hK1 hPc hDc hFc hk1 hz1 hvm ht u t
              generalize H1 = H at hP hS ⊢
              have hP : va_P (dC, dI) vwCl [(aT, .inr (5, [.ref aD, .ref aTM])), (aTM, .inl (cyI, 144, .inl (ntB k a (ntA n k v a) b))), (aD, .inr (2, [.ref aR, .ref aDL, .ref aDD, .int (nI n)]))] H := hP
              have hD : va_D A [(aT, .inr (5, [.ref aD, .ref aTM])), (aTM, .inl (cyI, 144, .inl (ntB k a (ntA n k v a) b))), (aD, .inr (2, [.ref aR, .ref aDL, .ref aDD, .int (nI n)]))] := hD
              have h6 : vp_in (nI (k * 12 + b)) 144 := by first | exact vp_in_nI (by omega) (by omega) | assumption
              refine va_iald hx hb hK hP 1 0 rfl rfl h6 dX5_narrowThrough_47 ?_
              refine lv_topi (fun x7 e8 => ?_)
              obtain rfl : x7 = ((ntB k a (ntA n k v a) b) (k * 12 + b)) := by rw [e8, nI_clamp (by omega)]
              clear e8
              refine lv_istore (lv' := [(5, .int ((ntB k a (ntA n k v a) b) (k * 12 + b))), (4, .int ((ntB k a (ntA n k v a) b) (a * 12 + k))), (0, .ref aT), (1, .int (nI k)), (2, .int (nI a)), (3, .int (nI b))]) hx hb dX5_narrowThrough_48 hl (by decide) rfl (fun ls hl => ?_)
              refine lv_iload hx hb dX5_narrowThrough_50 (lv_at hl 1 rfl) ?_
              refine lv_ldc (v := 1000000000) hx hb hown w3 dX5_narrowThrough_52 ?_
              refine lv_icmp_eq (tgt := 75) hx hb dX5_narrowThrough_54 (by decide) (fun c54 => ?_) (fun c54 => ?_)
              · skip
                refine lv_iinc (v := nI (b + 1)) (lv' := [(3, .int (nI (b + 1))), (5, .int ((ntB k a (ntA n k v a) b) (k * 12 + b))), (4, .int ((ntB k a (ntA n k v a) b) (a * 12 + k))), (0, .ref aT), (1, .int (nI k)), (2, .int (nI a))]) hx hb dX5_narrowThrough_75 hl (k := 5) rfl (nI_add b 1) (by decide) rfl (fun ls hl => ?_)
                refine lv_goto (tgt := 15) hx hb dX5_narrowThrough_78 (by decide) ?_
                have q9 : (ntB k a (ntA n k v a) (b + 1)) = (ntB k a (ntA n k v a) b) := by simp [ntB, *]
                exact ih15 (b + 1) (by omega) (by first | assumption | omega) _ _ _ (by first | (rw [q9]; exact hP) | (simp only [q9]; exact hP) | exact hP) (by first | (rw [q9]; exact hD) | (simp only [q9]; exact hD) | exact hD) hS (lv_sub hl [3, 4, 5, 0] rfl)
              · skip
                refine lv_iload hx hb dX5_narrowThrough_57 (lv_at hl 0 rfl) ?_
                refine lv_ldc (v := 1000000000) hx hb hown w3 dX5_narrowThrough_59 ?_
                refine lv_icmp_eq (tgt := 75) hx hb dX5_narrowThrough_61 (by decide) (fun c61 => ?_) (fun c61 => ?_)
                · skip
                  refine lv_iinc (v := nI (b + 1)) (lv' := [(3, .int (nI (b + 1))), (5, .int ((ntB k a (ntA n k v a) b) (k * 12 + b))), (4, .int ((ntB k a (ntA n k v a) b) (a * 12 + k))), (0, .ref aT), (1, .int (nI k)), (2, .int (nI a))]) hx hb dX5_narrowThrough_75 hl (k := 5) rfl (nI_add b 1) (by decide) rfl (fun ls hl => ?_)
                  refine lv_goto (tgt := 15) hx hb dX5_narrowThrough_78 (by decide) ?_
                  have q10 : (ntB k a (ntA n k v a) (b + 1)) = (ntB k a (ntA n k v a) b) := by simp [ntB, *]
                  exact ih15 (b + 1) (by omega) (by first | assumption | omega) _ _ _ (by first | (rw [q10]; exact hP) | (simp only [q10]; exact hP) | exact hP) (by first | (rw [q10]; exact hD) | (simp only [q10]; exact hD) | exact hD) hS (lv_sub hl [3, 4, 5, 0] rfl)
                · skip
                  refine lv_aload_n hx hb dX5_narrowThrough_64 rfl (lv_at hl 2 rfl) ?_
                  refine lv_iload_n hx hb dX5_narrowThrough_65 rfl (lv_at hl 4 rfl) ?_
                  refine lv_iload_n hx hb dX5_narrowThrough_66 rfl (lv_at hl 5 rfl) ?_
                  refine lv_iload hx hb dX5_narrowThrough_67 (lv_at hl 1 rfl) ?_
                  refine lv_iload hx hb dX5_narrowThrough_69 (lv_at hl 0 rfl) ?_
                  refine lv_iadd hx hb dX5_narrowThrough_71 ?_
                  have g11 : a < 12 := by first | assumption | omega | exact vp_in_nI (by omega) (by omega)
                  have g12 : b < 12 := by first | assumption | omega | exact vp_in_nI (by omega) (by omega)
                  have hPc := hP.sub (ws' := [(aT, .inr (5, [.ref aD, .ref aTM])), (aTM, .inl (cyI, 144, .inl (ntB k a (ntA n k v a) b)))]) [0, 1] rfl
                  have hDc := hD.sub (ws' := [(aT, .inr (5, [.ref aD, .ref aTM])), (aTM, .inl (cyI, 144, .inl (ntB k a (ntA n k v a) b)))]) [0, 1] (by decide) rfl
                  have hFc := va_free (wc := [(aT, .inr (5, [.ref aD, .ref aTM])), (aTM, .inl (cyI, 144, .inl (ntB k a (ntA n k v a) b)))]) hD hS hA [0, 1] rfl
                  refine va_callv (va_runV (As := [.int (nI a), .int (nI b), .int (((ntB k a (ntA n k v a) b) (a * 12 + k)) + ((ntB k a (ntA n k v a) b) (k * 12 + b)))]) (rest := []) ⟨hx, hb, hml, hown, hts⟩ (c_X5_narrow l dC dI cyI cyZ cyJ cyD aT aD aTM H.size (ntB k a (ntA n k v a) b) a b (((ntB k a (ntA n k v a) b) (a * 12 + k)) + ((ntB k a (ntA n k v a) b) (k * 12 + b))) g11 g12) (cwV 3 hts gX5_narrowThrough_X5_narrow rfl rfl rfl (by decide +kernel) ⟨Nat.le_of_ble_eq_true rfl, Nat.le_of_ble_eq_true rfl⟩) ⟨fun a U g mk q => by obtain ⟨q0, q1, qP, qK, qD⟩ := q; exact ⟨q0, q1, qP, va_K.moved (u := U) (U := U.calling g mk a) (Vm.Alike.refl U.vm) qK, qD⟩, va_recv hK hPc (ci := 5) (q0 := 0) rfl rfl, fun U hU hW => ⟨rfl, by rw [hU], by rw [hU]; exact hPc, va_K.moved hW.alike hK, hDc.weaken (fun _ _ _ _ => trivial)⟩⟩ rfl rfl hl.1 rfl (lv_room (Nat.le_of_ble_eq_true rfl)) dX5_narrowThrough_72 ⟨Nat.le_of_ble_eq_true rfl, Nat.le_of_ble_eq_true rfl⟩) hS (fun q _ h => hFc q h) hFc (fun  u t H1 locs ht hvm hw hB hz1 hk1 hS => ?_)
                  obtain ⟨hP1, hK1, hD1⟩ := hB
                  rw [ht] at hP1
                  obtain ⟨hP, hD⟩ := va_join (wr := [(aD, .inr (2, [.ref aR, .ref aDL, .ref aDD, .int (nI n)]))]) (w1 := [(aT, .inr (5, [.ref aD, .ref aTM])), (aTM, .inl (cyI, 144, .inl (nrw (ntB k a (ntA n k v a) b) a b (((ntB k a (ntA n k v a) b) (a * 12 + k)) + ((ntB k a (ntA n k v a) b) (k * 12 + b))))))]) hP hD [0, 1] [2] rfl rfl (by decide) (by decide) hk1 hFc hP1 hD1
                  clear hP1 hD1 hK1 hPc hDc hFc hk1 hz1 hvm ht u t
                  generalize H1 = H at hP hS ⊢
                  have hP : va_P (dC, dI) vwCl [(aD, .inr (2, [.ref aR, .ref aDL, .ref aDD, .int (nI n)])), (aT, .inr (5, [.ref aD, .ref aTM])), (aTM, .inl (cyI, 144, .inl (nrw (ntB k a (ntA n k v a) b) a b (((ntB k a (ntA n k v a) b) (a * 12 + k)) + ((ntB k a (ntA n k v a) b) (k * 12 + b))))))] H := hP
                  have hD : va_D A [(aD, .inr (2, [.ref aR, .ref aDL, .ref aDD, .int (nI n)])), (aT, .inr (5, [.ref aD, .ref aTM])), (aTM, .inl (cyI, 144, .inl (nrw (ntB k a (ntA n k v a) b) a b (((ntB k a (ntA n k v a) b) (a * 12 + k)) + ((ntB k a (ntA n k v a) b) (k * 12 + b))))))] := hD
                  refine lv_iinc (v := nI (b + 1)) (lv' := [(3, .int (nI (b + 1))), (5, .int ((ntB k a (ntA n k v a) b) (k * 12 + b))), (4, .int ((ntB k a (ntA n k v a) b) (a * 12 + k))), (0, .ref aT), (1, .int (nI k)), (2, .int (nI a))]) hx hb dX5_narrowThrough_75 hl (k := 5) rfl (nI_add b 1) (by decide) rfl (fun ls hl => ?_)
                  refine lv_goto (tgt := 15) hx hb dX5_narrowThrough_78 (by decide) ?_
                  have q13 : (ntB k a (ntA n k v a) (b + 1)) = (nrw (ntB k a (ntA n k v a) b) a b (((ntB k a (ntA n k v a) b) (a * 12 + k)) + ((ntB k a (ntA n k v a) b) (k * 12 + b)))) := by simp [ntB, *]
                  exact ih15 (b + 1) (by omega) (by first | assumption | omega) _ _ _ (by first | (rw [q13]; exact hP.sub [1, 2, 0] rfl) | (simp only [q13]; exact hP.sub [1, 2, 0] rfl) | exact hP.sub [1, 2, 0] rfl) (by first | (rw [q13]; exact hD.sub [1, 2, 0] (by decide) rfl) | (simp only [q13]; exact hD.sub [1, 2, 0] (by decide) rfl) | exact hD.sub [1, 2, 0] (by decide) rfl) hS (lv_sub hl [3, 4, 5, 0] rfl)
        have q14 : (ntB k a (ntA n k v a) 0) = (ntA n k v a) := by rfl
        have q15 : (nI 0) = 0 := by first | rfl | simp [*] | (simp only [*]; done)
        exact k15 (n - 0 + 1) 0 (Nat.lt_succ_self _) (by first | assumption | omega) _ _ _ (by first | (rw [q14]; exact hP) | (simp only [q14]; exact hP) | exact hP) (by first | (rw [q14]; exact hD) | (simp only [q14]; exact hD) | exact hD) hS (by first | (rw [q15]; exact lv_sub hl [1, 2, 3, 0] rfl) | (simp only [q15]; exact lv_sub hl [1, 2, 3, 0] rfl) | exact lv_sub hl [1, 2, 3, 0] rfl)
  have q16 : (ntA n k v 0) = v := by rfl
  have q17 : (nI 0) = 0 := by first | rfl | simp [*] | (simp only [*]; done)
  exact k2 (n - 0 + 1) 0 (Nat.lt_succ_self _) (by first | assumption | omega) _ _ _ (by first | (rw [q16]; exact hP) | (simp only [q16]; exact hP) | exact hP) (by first | (rw [q16]; exact hD) | (simp only [q16]; exact hD) | exact hD) hS (by first | (rw [q17]; exact lv_sub hl [1, 2, 0] rfl) | (simp only [q17]; exact lv_sub hl [1, 2, 0] rfl) | exact lv_sub hl [1, 2, 0] rfl)
set_option maxHeartbeats 4000000 in
set_option maxRecDepth 100000 in
theorem c_X5_ringsClose (l : Launch) (dC : Nat → ClassId) (dI : Nat → Nat → Nat) (cyI cyZ cyJ cyD : ClassId) (aT aD aTM aR aDL aDD : Nat) (zH : Nat) (v : Nat → Int32) (n : Nat) (hn : n ≤ 12) : Met l yX5_ringsClose wsX5_ringsClose ({ frames := 1, cells := 0, slots := 0, locals := 21 } : Room) (va_Pc [.ref aT] (fun U => U.heap.size = zH ∧ va_P (dC, dI) vwCl [(aT, .inr (5, [.ref aD, .ref aTM])), (aTM, .inl (cyI, 144, .inl v)), (aD, .inr (2, [.ref aR, .ref aDL, .ref aDD, .int (nI n)]))] U.heap ∧ va_K (dC, dI) vwCl [(cyI, .int), (cyZ, .boolean), (cyJ, .long), (cyD, .double)] U ∧ va_D (fun _ => True) [(aT, .inr (5, [.ref aD, .ref aTM])), (aTM, .inl (cyI, 144, .inl v)), (aD, .inr (2, [.ref aR, .ref aDL, .ref aDD, .int (nI n)]))])) (va_Qi (fun (r : Int32) (_ : Unit) => r = bI (rcB v n)) (fun _ t => va_P (dC, dI) vwCl [(aT, .inr (5, [.ref aD, .ref aTM])), (aTM, .inl (cyI, 144, .inl v)), (aD, .inr (2, [.ref aR, .ref aDL, .ref aDD, .int (nI n)]))] t.heap ∧ va_K (dC, dI) vwCl [(cyI, .int), (cyZ, .boolean), (cyJ, .long), (cyD, .double)] t ∧ va_D (va_A [(aT, .inr (5, [.ref aD, .ref aTM])), (aTM, .inl (cyI, 144, .inl v)), (aD, .inr (2, [.ref aR, .ref aDL, .ref aDD, .int (nI n)]))] zH) [(aT, .inr (5, [.ref aD, .ref aTM])), (aTM, .inl (cyI, 144, .inl v)), (aD, .inr (2, [.ref aR, .ref aDL, .ref aDD, .int (nI n)]))]) (va_A [(aT, .inr (5, [.ref aD, .ref aTM])), (aTM, .inl (cyI, 144, .inl v)), (aD, .inr (2, [.ref aR, .ref aDL, .ref aDD, .int (nI n)]))] zH)) 0 0 (va_A [(aT, .inr (5, [.ref aD, .ref aTM])), (aTM, .inl (cyI, 144, .inl v)), (aD, .inr (2, [.ref aR, .ref aDL, .ref aDD, .int (nI n)]))] zH) := by
  refine Met.ofW (cc := cX5_ringsClose) (maxL := 2) (ret := (some .boolean)) (by decide) rfl ?_
  intro pM eM s mM args blM mtM cM s₁ BM hml hv
  obtain ⟨rfl, hsz, hP, hK, hD0⟩ := hv
  have hx := BM.exec
  have hb := BM.bytes
  have hr := BM.returns
  have hts := atoms_spec (ws := wsX5_ringsClose) BM.pre
  have hown : s.vm.findClass RX5 = some mM.cls := findClass_of_methodNamed BM.named
  have hlocks := BM.notSynchronized
  have w0 := hts (.fieldLink RX5 15 "DimensionChecker$TightLimits" "drawing" "LDimensionChecker$Drawing;") (by decide +kernel)
  have w1 := hts (.fieldLink RX5 22 "DimensionChecker$Drawing" "faces" "I") (by decide +kernel)
  have w2 := hts (.fieldLink RX5 9 "DimensionChecker$TightLimits" "most" "[I") (by decide +kernel)
  have iX5 : ∀ w ∈ wsX50, w ∈ wsX5_ringsClose := by decide +kernel
  have iX2 : ∀ w ∈ wsX20, w ∈ wsX5_ringsClose := by decide +kernel
  subst hsz
  have hD := hD0.self (sz := s.heap.size)
  obtain ⟨Q, hQe⟩ : ∃ Q : State → Prop, Q = MQ blM (va_Qi (fun (r : Int32) (_ : Unit) => r = bI (rcB v n)) (fun _ t => va_P (dC, dI) vwCl [(aT, .inr (5, [.ref aD, .ref aTM])), (aTM, .inl (cyI, 144, .inl v)), (aD, .inr (2, [.ref aR, .ref aDL, .ref aDD, .int (nI n)]))] t.heap ∧ va_K (dC, dI) vwCl [(cyI, .int), (cyZ, .boolean), (cyJ, .long), (cyD, .double)] t ∧ va_D (va_A [(aT, .inr (5, [.ref aD, .ref aTM])), (aTM, .inl (cyI, 144, .inl v)), (aD, .inr (2, [.ref aR, .ref aDL, .ref aDD, .int (nI n)]))] s.heap.size) [(aT, .inr (5, [.ref aD, .ref aTM])), (aTM, .inl (cyI, 144, .inl v)), (aD, .inr (2, [.ref aR, .ref aDL, .ref aDD, .int (nI n)]))]) (va_A [(aT, .inr (5, [.ref aD, .ref aTM])), (aTM, .inl (cyI, 144, .inl v)), (aD, .inr (2, [.ref aR, .ref aDL, .ref aDD, .int (nI n)]))] s.heap.size)) ([.ref aT] : List Value).toArray s 0 0 (va_A [(aT, .inr (5, [.ref aD, .ref aTM])), (aTM, .inl (cyI, 144, .inl v)), (aD, .inr (2, [.ref aR, .ref aDL, .ref aDD, .int (nI n)]))] s.heap.size) := ⟨_, rfl⟩
  rw [← hQe]
  generalize hAe : va_A [(aT, .inr (5, [.ref aD, .ref aTM])), (aTM, .inl (cyI, 144, .inl v)), (aD, .inr (2, [.ref aR, .ref aDL, .ref aDD, .int (nI n)]))] s.heap.size = A at hD hQe
  have hA : ∀ q : Nat, s.heap.size ≤ q → A q := fun q h => by rw [← hAe]; exact Or.inr h
  obtain ⟨H, hHe⟩ : ∃ H : Heap, H = s.heap := ⟨_, rfl⟩
  have hS : va_S A s.heap H [] := by rw [hHe]; exact va_S.rf
  rw [← hHe] at hP ⊢
  have hl := lv_entry ([.ref aT]) (n := 2) (Nat.le_of_ble_eq_true rfl)
  rw [lg_entry_eq]
  generalize (lg_sl ([.ref aT]) ++ List.replicate (2 - (lg_sl ([.ref aT])).length) Slot.unset).toArray = ls at hl ⊢
  have hl : lv_has ls 2 [(0, .ref aT)] := hl
  refine lv_iconst (v := 0) hx hb dX5_ringsClose_0 (by decide) ?_
  refine lv_istore_n (lv' := [(1, .int 0), (0, .ref aT)]) hx hb dX5_ringsClose_1 rfl hl (by decide) rfl (fun ls hl => ?_)
  have k2 : ∀ (fuel : Nat) (i : Nat) (hfuel : n - i < fuel) (hi : i ≤ n) (hrc : rcB v i = true) (H : Heap) (locs : List Loc) (ls : Array Slot), va_P (dC, dI) vwCl [(aT, .inr (5, [.ref aD, .ref aTM])), (aTM, .inl (cyI, 144, .inl v)), (aD, .inr (2, [.ref aR, .ref aDL, .ref aDD, .int (nI n)]))] H → va_D A [(aT, .inr (5, [.ref aD, .ref aTM])), (aTM, .inl (cyI, 144, .inl v)), (aD, .inr (2, [.ref aR, .ref aDL, .ref aDD, .int (nI n)]))] → va_S A s.heap H locs → lv_has ls 2 [(0, .ref aT), (1, .int (nI i))] → W pM l eM (headSpec wsX5_ringsClose ({ frames := 1, cells := 0, slots := 0, locals := 21 } : Room)).room s mM ([.ref aT] : List Value).toArray blM mtM cM H locs 0 0 Q (F0 mM 2 ls []) := by
    intro fuel
    induction fuel with
    | zero => intro i hfuel; exact absurd hfuel (Nat.not_lt_zero _)
    | succ fuel ih2 =>
      intro i hfuel hi hrc H locs ls hP hD hS hl
      refine lv_iload_n hx hb dX5_ringsClose_2 rfl (lv_at hl 1 rfl) ?_
      refine lv_aload_n hx hb dX5_ringsClose_3 rfl (lv_at hl 0 rfl) ?_
      refine va_get (D := (dC, dI)) (ci := 5) (v := .ref aD) (C := RX5) (T := TX5) (N := 2) hx hb hts iX5 hown hK hP 0 rfl rfl 0 (by decide) w0 (fun _ h9 => h9) rfl dX5_ringsClose_4 ?_
      refine va_get (D := (dC, dI)) (ci := 2) (v := .int (nI n)) (C := RX2) (T := TX2) (N := 4) hx hb hts iX2 hown hK hP 2 rfl rfl 3 (by decide) w1 (fun _ h9 => h9) rfl dX5_ringsClose_7 ?_
      refine lv_icmp_ge (tgt := 34) hx hb dX5_ringsClose_10 (by decide) (fun c10 => ?_) (fun c10 => ?_)
      · have c10 := n_le (a := n) (b := i) (by omega) (by omega) c10
        refine lv_iconst (v := 1) hx hb dX5_ringsClose_34 (by decide) ?_
        have r1 : 1 = (bI (rcB v n)) := by rw [show n = i by omega, hrc]; rfl
        have hP9 : va_P (dC, dI) vwCl [(aT, .inr (5, [.ref aD, .ref aTM])), (aTM, .inl (cyI, 144, .inl v)), (aD, .inr (2, [.ref aR, .ref aDL, .ref aDD, .int (nI n)]))] H := by exact hP.sub [0, 1, 2] rfl
        have hD9 : va_D A [(aT, .inr (5, [.ref aD, .ref aTM])), (aTM, .inl (cyI, 144, .inl v)), (aD, .inr (2, [.ref aR, .ref aDL, .ref aDD, .int (nI n)]))] := by exact hD.sub [0, 1, 2] (by decide) rfl
        subst hAe
        subst hQe
        exact W.zret (v := 1) hx hb hr rfl (fun t ht hW => ⟨⟨_, (), rfl, r1, by rw [ht]; exact hP9, va_K.moved hW.alike hK, hD9⟩, hS.F ht⟩) hS.2.2 dX5_ringsClose_35
      · have c10 := n_nle (a := n) (b := i) (by omega) (by omega) c10
        refine lv_aload_n hx hb dX5_ringsClose_13 rfl (lv_at hl 0 rfl) ?_
        refine va_get (D := (dC, dI)) (ci := 5) (v := .ref aTM) (C := RX5) (T := TX5) (N := 2) hx hb hts iX5 hown hK hP 0 rfl rfl 1 (by decide) w2 (fun _ h9 => h9) rfl dX5_ringsClose_14 ?_
        refine lv_iload_n hx hb dX5_ringsClose_17 rfl (lv_at hl 1 rfl) ?_
        refine lv_iload_n hx hb dX5_ringsClose_18 rfl (lv_at hl 1 rfl) ?_
        have hPc := hP.sub (ws' := []) [] rfl
        have hDc := hD.sub (ws' := []) [] (by decide) rfl
        have hFc := va_free (wc := []) hD hS hA [] rfl
        refine va_calli (va_runS (As := [.int (nI i), .int (nI i)]) (rest := [.ref aTM]) ⟨hx, hb, hml, hown, hts⟩ (c_X5_cell l dC dI cyI cyZ cyJ cyD H.size i i) (va_cwS 2 hts gX5_ringsClose_X5_cell rfl rfl rfl (by decide +kernel) ⟨Nat.le_of_ble_eq_true rfl, Nat.le_of_ble_eq_true rfl⟩) ⟨fun a U g mk q => by obtain ⟨q0, q1, qP, qK, qD⟩ := q; exact ⟨q0, q1, qP, va_K.moved (u := U) (U := U.calling g mk a) (Vm.Alike.refl U.vm) qK, qD⟩, fun U hU hW => ⟨rfl, by rw [hU], by rw [hU]; exact hPc, va_K.moved hW.alike hK, hDc.weaken (fun _ _ _ _ => trivial)⟩⟩ rfl rfl hl.1 rfl (lv_room (Nat.le_of_ble_eq_true rfl)) dX5_ringsClose_19 ⟨Nat.le_of_ble_eq_true rfl, Nat.le_of_ble_eq_true rfl⟩) hS (fun q _ h => hFc q h) hFc (fun r u t H1 locs ht hvm hw hB hz1 hk1 hS => ?_)
        obtain rfl := hw
        obtain ⟨hP1, hK1, hD1⟩ := hB
        rw [ht] at hP1
        obtain ⟨hP, hD⟩ := va_join (wr := [(aT, .inr (5, [.ref aD, .ref aTM])), (aTM, .inl (cyI, 144, .inl v)), (aD, .inr (2, [.ref aR, .ref aDL, .ref aDD, .int (nI n)]))]) (w1 := []) hP hD [] [0, 1, 2] rfl rfl (by decide) (by decide) hk1 hFc hP1 hD1
        clear hP1 hD1 hK1 hPc hDc hFc hk1 hz1 hvm ht u t
        generalize H1 = H at hP hS ⊢
        have hP : va_P (dC, dI) vwCl [(aT, .inr (5, [.ref aD, .ref aTM])), (aTM, .inl (cyI, 144, .inl v)), (aD, .inr (2, [.ref aR, .ref aDL, .ref aDD, .int (nI n)]))] H := hP
        have hD : va_D A [(aT, .inr (5, [.ref aD, .ref aTM])), (aTM, .inl (cyI, 144, .inl v)), (aD, .inr (2, [.ref aR, .ref aDL, .ref aDD, .int (nI n)]))] := hD
        have h2 : vp_in (nI (i * 12 + i)) 144 := by first | exact vp_in_nI (by omega) (by omega) | assumption
        refine va_iald hx hb hK hP 1 0 rfl rfl h2 dX5_ringsClose_22 ?_
        refine lv_topi (fun x3 e4 => ?_)
        obtain rfl : x3 = (v (i * 12 + i)) := by rw [e4, nI_clamp (by omega)]
        clear e4
        refine lv_if_ge (tgt := 28) hx hb dX5_ringsClose_23 (by decide) (fun c23 => ?_) (fun c23 => ?_)
        · skip
          refine lv_iinc (v := nI (i + 1)) (lv' := [(1, .int (nI (i + 1))), (0, .ref aT)]) hx hb dX5_ringsClose_28 hl (k := 1) rfl (nI_add i 1) (by decide) rfl (fun ls hl => ?_)
          refine lv_goto (tgt := 2) hx hb dX5_ringsClose_31 (by decide) ?_
          exact ih2 (i + 1) (by omega) (by first | assumption | omega) (by simp [rcB, *]) _ _ _ (hP) (hD) hS (lv_sub hl [1, 0] rfl)
        · skip
          refine lv_iconst (v := 0) hx hb dX5_ringsClose_26 (by decide) ?_
          have r5 : 0 = (bI (rcB v n)) := by rw [rcB_stop (by omega) c23]; rfl
          have hP9 : va_P (dC, dI) vwCl [(aT, .inr (5, [.ref aD, .ref aTM])), (aTM, .inl (cyI, 144, .inl v)), (aD, .inr (2, [.ref aR, .ref aDL, .ref aDD, .int (nI n)]))] H := by exact hP.sub [0, 1, 2] rfl
          have hD9 : va_D A [(aT, .inr (5, [.ref aD, .ref aTM])), (aTM, .inl (cyI, 144, .inl v)), (aD, .inr (2, [.ref aR, .ref aDL, .ref aDD, .int (nI n)]))] := by exact hD.sub [0, 1, 2] (by decide) rfl
          subst hAe
          subst hQe
          exact W.zret (v := 0) hx hb hr rfl (fun t ht hW => ⟨⟨_, (), rfl, r5, by rw [ht]; exact hP9, va_K.moved hW.alike hK, hD9⟩, hS.F ht⟩) hS.2.2 dX5_ringsClose_27
  have q6 : (nI 0) = 0 := by first | rfl | simp [*] | (simp only [*]; done)
  exact k2 (n - 0 + 1) 0 (Nat.lt_succ_self _) (by first | assumption | omega) (by rfl) _ _ _ (hP) (hD) hS (by first | (rw [q6]; exact lv_sub hl [1, 0] rfl) | (simp only [q6]; exact lv_sub hl [1, 0] rfl) | exact lv_sub hl [1, 0] rfl)
set_option maxHeartbeats 4000000 in
set_option maxRecDepth 100000 in
theorem c_X5_settle (l : Launch) (dC : Nat → ClassId) (dI : Nat → Nat → Nat) (cyI cyZ cyJ cyD : ClassId) (aT aD aTM aR aDL aDD aRF aRT aRN aRL aRU : Nat) (zH : Nat) (v : Nat → Int32) (n : Nat) (F : Nat → Nat) (T : Nat → Nat) (nm : Nat → Int32) (lo : Nat → Int32) (up : Nat → Int32) (cnt : Nat) (hn : n ≤ 12) (hc : cnt ≤ 20) (hF : ∀ d_q, d_q < cnt → F d_q < 12) (hT : ∀ d_q, d_q < cnt → T d_q < 12) : Met l yX5_settle wsX5_settle ({ frames := 3, cells := 0, slots := 0, locals := 73 } : Room) (va_Pc [.ref aT] (fun U => U.heap.size = zH ∧ va_P (dC, dI) vwCl [(aT, .inr (5, [.ref aD, .ref aTM])), (aTM, .inl (cyI, 144, .inl v)), (aD, .inr (2, [.ref aR, .ref aDL, .ref aDD, .int (nI n)])), (aR, .inr (1, [.ref aRF, .ref aRT, .ref aRN, .ref aRL, .ref aRU, .int (nI cnt)])), (aRF, .inl (cyI, 20, .inl (fun j_ => nI (F j_)))), (aRT, .inl (cyI, 20, .inl (fun j_ => nI (T j_)))), (aRN, .inl (cyI, 20, .inl nm)), (aRL, .inl (cyI, 20, .inl lo)), (aRU, .inl (cyI, 20, .inl up))] U.heap ∧ va_K (dC, dI) vwCl [(cyI, .int), (cyZ, .boolean), (cyJ, .long), (cyD, .double)] U ∧ va_D (fun _ => True) [(aT, .inr (5, [.ref aD, .ref aTM])), (aTM, .inl (cyI, 144, .inl v)), (aD, .inr (2, [.ref aR, .ref aDL, .ref aDD, .int (nI n)])), (aR, .inr (1, [.ref aRF, .ref aRT, .ref aRN, .ref aRL, .ref aRU, .int (nI cnt)])), (aRF, .inl (cyI, 20, .inl (fun j_ => nI (F j_)))), (aRT, .inl (cyI, 20, .inl (fun j_ => nI (T j_)))), (aRN, .inl (cyI, 20, .inl nm)), (aRL, .inl (cyI, 20, .inl lo)), (aRU, .inl (cyI, 20, .inl up))])) (va_Qi (fun (r : Int32) (_ : Unit) => r = bI (stB n (tdD F T nm lo up (tdI (flI v 1000000000 144) n) cnt) n)) (fun _ t => ∃ (v2 : Nat → Int32), (stB n (tdD F T nm lo up (tdI (flI v 1000000000 144) n) cnt) n = true → v2 = stV n (tdD F T nm lo up (tdI (flI v 1000000000 144) n) cnt) n) ∧ va_P (dC, dI) vwCl [(aT, .inr (5, [.ref aD, .ref aTM])), (aTM, .inl (cyI, 144, .inl v2)), (aD, .inr (2, [.ref aR, .ref aDL, .ref aDD, .int (nI n)])), (aR, .inr (1, [.ref aRF, .ref aRT, .ref aRN, .ref aRL, .ref aRU, .int (nI cnt)])), (aRF, .inl (cyI, 20, .inl (fun j_ => nI (F j_)))), (aRT, .inl (cyI, 20, .inl (fun j_ => nI (T j_)))), (aRN, .inl (cyI, 20, .inl nm)), (aRL, .inl (cyI, 20, .inl lo)), (aRU, .inl (cyI, 20, .inl up))] t.heap ∧ va_K (dC, dI) vwCl [(cyI, .int), (cyZ, .boolean), (cyJ, .long), (cyD, .double)] t ∧ va_D (va_A [(aT, .inr (5, [.ref aD, .ref aTM])), (aTM, .inl (cyI, 144, .inl v)), (aD, .inr (2, [.ref aR, .ref aDL, .ref aDD, .int (nI n)])), (aR, .inr (1, [.ref aRF, .ref aRT, .ref aRN, .ref aRL, .ref aRU, .int (nI cnt)])), (aRF, .inl (cyI, 20, .inl (fun j_ => nI (F j_)))), (aRT, .inl (cyI, 20, .inl (fun j_ => nI (T j_)))), (aRN, .inl (cyI, 20, .inl nm)), (aRL, .inl (cyI, 20, .inl lo)), (aRU, .inl (cyI, 20, .inl up))] zH) [(aT, .inr (5, [.ref aD, .ref aTM])), (aTM, .inl (cyI, 144, .inl v2)), (aD, .inr (2, [.ref aR, .ref aDL, .ref aDD, .int (nI n)])), (aR, .inr (1, [.ref aRF, .ref aRT, .ref aRN, .ref aRL, .ref aRU, .int (nI cnt)])), (aRF, .inl (cyI, 20, .inl (fun j_ => nI (F j_)))), (aRT, .inl (cyI, 20, .inl (fun j_ => nI (T j_)))), (aRN, .inl (cyI, 20, .inl nm)), (aRL, .inl (cyI, 20, .inl lo)), (aRU, .inl (cyI, 20, .inl up))]) (va_A [(aT, .inr (5, [.ref aD, .ref aTM])), (aTM, .inl (cyI, 144, .inl v)), (aD, .inr (2, [.ref aR, .ref aDL, .ref aDD, .int (nI n)])), (aR, .inr (1, [.ref aRF, .ref aRT, .ref aRN, .ref aRL, .ref aRU, .int (nI cnt)])), (aRF, .inl (cyI, 20, .inl (fun j_ => nI (F j_)))), (aRT, .inl (cyI, 20, .inl (fun j_ => nI (T j_)))), (aRN, .inl (cyI, 20, .inl nm)), (aRL, .inl (cyI, 20, .inl lo)), (aRU, .inl (cyI, 20, .inl up))] zH)) 0 0 (va_A [(aT, .inr (5, [.ref aD, .ref aTM])), (aTM, .inl (cyI, 144, .inl v)), (aD, .inr (2, [.ref aR, .ref aDL, .ref aDD, .int (nI n)])), (aR, .inr (1, [.ref aRF, .ref aRT, .ref aRN, .ref aRL, .ref aRU, .int (nI cnt)])), (aRF, .inl (cyI, 20, .inl (fun j_ => nI (F j_)))), (aRT, .inl (cyI, 20, .inl (fun j_ => nI (T j_)))), (aRN, .inl (cyI, 20, .inl nm)), (aRL, .inl (cyI, 20, .inl lo)), (aRU, .inl (cyI, 20, .inl up))] zH) := by
  refine Met.ofW (cc := cX5_settle) (maxL := 2) (ret := (some .boolean)) (by decide) rfl ?_
  intro pM eM s mM args blM mtM cM s₁ BM hml hv
  obtain ⟨rfl, hsz, hP, hK, hD0⟩ := hv
  have hx := BM.exec
  have hb := BM.bytes
  have hr := BM.returns
  have hts := atoms_spec (ws := wsX5_settle) BM.pre
  have hown : s.vm.findClass RX5 = some mM.cls := findClass_of_methodNamed BM.named
  have hlocks := BM.notSynchronized
  have w0 := hts (.fieldLink RX5 15 "DimensionChecker$TightLimits" "drawing" "LDimensionChecker$Drawing;") (by decide +kernel)
  have w1 := hts (.fieldLink RX5 22 "DimensionChecker$Drawing" "faces" "I") (by decide +kernel)
  have iX5 : ∀ w ∈ wsX50, w ∈ wsX5_settle := by decide +kernel
  have iX2 : ∀ w ∈ wsX20, w ∈ wsX5_settle := by decide +kernel
  subst hsz
  have hD := hD0.self (sz := s.heap.size)
  obtain ⟨Q, hQe⟩ : ∃ Q : State → Prop, Q = MQ blM (va_Qi (fun (r : Int32) (_ : Unit) => r = bI (stB n (tdD F T nm lo up (tdI (flI v 1000000000 144) n) cnt) n)) (fun _ t => ∃ (v2 : Nat → Int32), (stB n (tdD F T nm lo up (tdI (flI v 1000000000 144) n) cnt) n = true → v2 = stV n (tdD F T nm lo up (tdI (flI v 1000000000 144) n) cnt) n) ∧ va_P (dC, dI) vwCl [(aT, .inr (5, [.ref aD, .ref aTM])), (aTM, .inl (cyI, 144, .inl v2)), (aD, .inr (2, [.ref aR, .ref aDL, .ref aDD, .int (nI n)])), (aR, .inr (1, [.ref aRF, .ref aRT, .ref aRN, .ref aRL, .ref aRU, .int (nI cnt)])), (aRF, .inl (cyI, 20, .inl (fun j_ => nI (F j_)))), (aRT, .inl (cyI, 20, .inl (fun j_ => nI (T j_)))), (aRN, .inl (cyI, 20, .inl nm)), (aRL, .inl (cyI, 20, .inl lo)), (aRU, .inl (cyI, 20, .inl up))] t.heap ∧ va_K (dC, dI) vwCl [(cyI, .int), (cyZ, .boolean), (cyJ, .long), (cyD, .double)] t ∧ va_D (va_A [(aT, .inr (5, [.ref aD, .ref aTM])), (aTM, .inl (cyI, 144, .inl v)), (aD, .inr (2, [.ref aR, .ref aDL, .ref aDD, .int (nI n)])), (aR, .inr (1, [.ref aRF, .ref aRT, .ref aRN, .ref aRL, .ref aRU, .int (nI cnt)])), (aRF, .inl (cyI, 20, .inl (fun j_ => nI (F j_)))), (aRT, .inl (cyI, 20, .inl (fun j_ => nI (T j_)))), (aRN, .inl (cyI, 20, .inl nm)), (aRL, .inl (cyI, 20, .inl lo)), (aRU, .inl (cyI, 20, .inl up))] s.heap.size) [(aT, .inr (5, [.ref aD, .ref aTM])), (aTM, .inl (cyI, 144, .inl v2)), (aD, .inr (2, [.ref aR, .ref aDL, .ref aDD, .int (nI n)])), (aR, .inr (1, [.ref aRF, .ref aRT, .ref aRN, .ref aRL, .ref aRU, .int (nI cnt)])), (aRF, .inl (cyI, 20, .inl (fun j_ => nI (F j_)))), (aRT, .inl (cyI, 20, .inl (fun j_ => nI (T j_)))), (aRN, .inl (cyI, 20, .inl nm)), (aRL, .inl (cyI, 20, .inl lo)), (aRU, .inl (cyI, 20, .inl up))]) (va_A [(aT, .inr (5, [.ref aD, .ref aTM])), (aTM, .inl (cyI, 144, .inl v)), (aD, .inr (2, [.ref aR, .ref aDL, .ref aDD, .int (nI n)])), (aR, .inr (1, [.ref aRF, .ref aRT, .ref aRN, .ref aRL, .ref aRU, .int (nI cnt)])), (aRF, .inl (cyI, 20, .inl (fun j_ => nI (F j_)))), (aRT, .inl (cyI, 20, .inl (fun j_ => nI (T j_)))), (aRN, .inl (cyI, 20, .inl nm)), (aRL, .inl (cyI, 20, .inl lo)), (aRU, .inl (cyI, 20, .inl up))] s.heap.size)) ([.ref aT] : List Value).toArray s 0 0 (va_A [(aT, .inr (5, [.ref aD, .ref aTM])), (aTM, .inl (cyI, 144, .inl v)), (aD, .inr (2, [.ref aR, .ref aDL, .ref aDD, .int (nI n)])), (aR, .inr (1, [.ref aRF, .ref aRT, .ref aRN, .ref aRL, .ref aRU, .int (nI cnt)])), (aRF, .inl (cyI, 20, .inl (fun j_ => nI (F j_)))), (aRT, .inl (cyI, 20, .inl (fun j_ => nI (T j_)))), (aRN, .inl (cyI, 20, .inl nm)), (aRL, .inl (cyI, 20, .inl lo)), (aRU, .inl (cyI, 20, .inl up))] s.heap.size) := ⟨_, rfl⟩
  rw [← hQe]
  generalize hAe : va_A [(aT, .inr (5, [.ref aD, .ref aTM])), (aTM, .inl (cyI, 144, .inl v)), (aD, .inr (2, [.ref aR, .ref aDL, .ref aDD, .int (nI n)])), (aR, .inr (1, [.ref aRF, .ref aRT, .ref aRN, .ref aRL, .ref aRU, .int (nI cnt)])), (aRF, .inl (cyI, 20, .inl (fun j_ => nI (F j_)))), (aRT, .inl (cyI, 20, .inl (fun j_ => nI (T j_)))), (aRN, .inl (cyI, 20, .inl nm)), (aRL, .inl (cyI, 20, .inl lo)), (aRU, .inl (cyI, 20, .inl up))] s.heap.size = A at hD hQe
  have hA : ∀ q : Nat, s.heap.size ≤ q → A q := fun q h => by rw [← hAe]; exact Or.inr h
  obtain ⟨H, hHe⟩ : ∃ H : Heap, H = s.heap := ⟨_, rfl⟩
  have hS : va_S A s.heap H [] := by rw [hHe]; exact va_S.rf
  rw [← hHe] at hP ⊢
  have hl := lv_entry ([.ref aT]) (n := 2) (Nat.le_of_ble_eq_true rfl)
  rw [lg_entry_eq]
  generalize (lg_sl ([.ref aT]) ++ List.replicate (2 - (lg_sl ([.ref aT])).length) Slot.unset).toArray = ls at hl ⊢
  have hl : lv_has ls 2 [(0, .ref aT)] := hl
  refine lv_aload_n hx hb dX5_settle_0 rfl (lv_at hl 0 rfl) ?_
  have g1 : n ≤ 12 := by first | assumption | omega | exact vp_in_nI (by omega) (by omega)
  have g2 : cnt ≤ 20 := by first | assumption | omega | exact vp_in_nI (by omega) (by omega)
  have g3 : ∀ d_q, d_q < cnt → F d_q < 12 := by first | assumption | omega | exact vp_in_nI (by omega) (by omega)
  have g4 : ∀ d_q, d_q < cnt → T d_q < 12 := by first | assumption | omega | exact vp_in_nI (by omega) (by omega)
  have hPc := hP.sub (ws' := [(aT, .inr (5, [.ref aD, .ref aTM])), (aTM, .inl (cyI, 144, .inl v)), (aD, .inr (2, [.ref aR, .ref aDL, .ref aDD, .int (nI n)])), (aR, .inr (1, [.ref aRF, .ref aRT, .ref aRN, .ref aRL, .ref aRU, .int (nI cnt)])), (aRF, .inl (cyI, 20, .inl (fun j_ => nI (F j_)))), (aRT, .inl (cyI, 20, .inl (fun j_ => nI (T j_)))), (aRN, .inl (cyI, 20, .inl nm)), (aRL, .inl (cyI, 20, .inl lo)), (aRU, .inl (cyI, 20, .inl up))]) [0, 1, 2, 3, 4, 5, 6, 7, 8] rfl
  have hDc := hD.sub (ws' := [(aT, .inr (5, [.ref aD, .ref aTM])), (aTM, .inl (cyI, 144, .inl v)), (aD, .inr (2, [.ref aR, .ref aDL, .ref aDD, .int (nI n)])), (aR, .inr (1, [.ref aRF, .ref aRT, .ref aRN, .ref aRL, .ref aRU, .int (nI cnt)])), (aRF, .inl (cyI, 20, .inl (fun j_ => nI (F j_)))), (aRT, .inl (cyI, 20, .inl (fun j_ => nI (T j_)))), (aRN, .inl (cyI, 20, .inl nm)), (aRL, .inl (cyI, 20, .inl lo)), (aRU, .inl (cyI, 20, .inl up))]) [0, 1, 2, 3, 4, 5, 6, 7, 8] (by decide) rfl
  have hFc := va_free (wc := [(aT, .inr (5, [.ref aD, .ref aTM])), (aTM, .inl (cyI, 144, .inl v)), (aD, .inr (2, [.ref aR, .ref aDL, .ref aDD, .int (nI n)])), (aR, .inr (1, [.ref aRF, .ref aRT, .ref aRN, .ref aRL, .ref aRU, .int (nI cnt)])), (aRF, .inl (cyI, 20, .inl (fun j_ => nI (F j_)))), (aRT, .inl (cyI, 20, .inl (fun j_ => nI (T j_)))), (aRN, .inl (cyI, 20, .inl nm)), (aRL, .inl (cyI, 20, .inl lo)), (aRU, .inl (cyI, 20, .inl up))]) hD hS hA [0, 1, 2, 3, 4, 5, 6, 7, 8] rfl
  refine va_callv (va_runV (As := []) (rest := []) ⟨hx, hb, hml, hown, hts⟩ (c_X5_takeDimensions l dC dI cyI cyZ cyJ cyD aT aD aTM aR aDL aDD aRF aRT aRN aRL aRU H.size v n F T nm lo up cnt g1 g2 g3 g4) (cwV 0 hts gX5_settle_X5_takeDimensions rfl rfl rfl (by decide +kernel) ⟨Nat.le_of_ble_eq_true rfl, Nat.le_of_ble_eq_true rfl⟩) ⟨fun a U g mk q => by obtain ⟨q0, q1, qP, qK, qD⟩ := q; exact ⟨q0, q1, qP, va_K.moved (u := U) (U := U.calling g mk a) (Vm.Alike.refl U.vm) qK, qD⟩, va_recv hK hPc (ci := 5) (q0 := 0) rfl rfl, fun U hU hW => ⟨rfl, by rw [hU], by rw [hU]; exact hPc, va_K.moved hW.alike hK, hDc.weaken (fun _ _ _ _ => trivial)⟩⟩ rfl rfl hl.1 rfl (lv_room (Nat.le_of_ble_eq_true rfl)) dX5_settle_1 ⟨Nat.le_of_ble_eq_true rfl, Nat.le_of_ble_eq_true rfl⟩) hS (fun q _ h => hFc q h) hFc (fun  u t H1 locs ht hvm hw hB hz1 hk1 hS => ?_)
  obtain ⟨hP1, hK1, hD1⟩ := hB
  rw [ht] at hP1
  obtain ⟨hP, hD⟩ := va_join (wr := []) (w1 := [(aT, .inr (5, [.ref aD, .ref aTM])), (aTM, .inl (cyI, 144, .inl (tdD F T nm lo up (tdI (flI v 1000000000 144) n) cnt))), (aD, .inr (2, [.ref aR, .ref aDL, .ref aDD, .int (nI n)])), (aR, .inr (1, [.ref aRF, .ref aRT, .ref aRN, .ref aRL, .ref aRU, .int (nI cnt)])), (aRF, .inl (cyI, 20, .inl (fun j_ => nI (F j_)))), (aRT, .inl (cyI, 20, .inl (fun j_ => nI (T j_)))), (aRN, .inl (cyI, 20, .inl nm)), (aRL, .inl (cyI, 20, .inl lo)), (aRU, .inl (cyI, 20, .inl up))]) hP hD [0, 1, 2, 3, 4, 5, 6, 7, 8] [] rfl rfl (by decide) (by decide) hk1 hFc hP1 hD1
  clear hP1 hD1 hK1 hPc hDc hFc hk1 hz1 hvm ht u t
  generalize H1 = H at hP hS ⊢
  have hP : va_P (dC, dI) vwCl [(aT, .inr (5, [.ref aD, .ref aTM])), (aTM, .inl (cyI, 144, .inl (tdD F T nm lo up (tdI (flI v 1000000000 144) n) cnt))), (aD, .inr (2, [.ref aR, .ref aDL, .ref aDD, .int (nI n)])), (aR, .inr (1, [.ref aRF, .ref aRT, .ref aRN, .ref aRL, .ref aRU, .int (nI cnt)])), (aRF, .inl (cyI, 20, .inl (fun j_ => nI (F j_)))), (aRT, .inl (cyI, 20, .inl (fun j_ => nI (T j_)))), (aRN, .inl (cyI, 20, .inl nm)), (aRL, .inl (cyI, 20, .inl lo)), (aRU, .inl (cyI, 20, .inl up))] H := hP
  have hD : va_D A [(aT, .inr (5, [.ref aD, .ref aTM])), (aTM, .inl (cyI, 144, .inl (tdD F T nm lo up (tdI (flI v 1000000000 144) n) cnt))), (aD, .inr (2, [.ref aR, .ref aDL, .ref aDD, .int (nI n)])), (aR, .inr (1, [.ref aRF, .ref aRT, .ref aRN, .ref aRL, .ref aRU, .int (nI cnt)])), (aRF, .inl (cyI, 20, .inl (fun j_ => nI (F j_)))), (aRT, .inl (cyI, 20, .inl (fun j_ => nI (T j_)))), (aRN, .inl (cyI, 20, .inl nm)), (aRL, .inl (cyI, 20, .inl lo)), (aRU, .inl (cyI, 20, .inl up))] := hD
  refine lv_iconst (v := 0) hx hb dX5_settle_4 (by decide) ?_
  refine lv_istore_n (lv' := [(1, .int 0), (0, .ref aT)]) hx hb dX5_settle_5 rfl hl (by decide) rfl (fun ls hl => ?_)
  have k6 : ∀ (fuel : Nat) (k : Nat) (hfuel : n - k < fuel) (hk : k ≤ n) (hst : stB n (tdD F T nm lo up (tdI (flI v 1000000000 144) n) cnt) k = true) (H : Heap) (locs : List Loc) (ls : Array Slot), va_P (dC, dI) vwCl [(aT, .inr (5, [.ref aD, .ref aTM])), (aTM, .inl (cyI, 144, .inl (stV n (tdD F T nm lo up (tdI (flI v 1000000000 144) n) cnt) k))), (aD, .inr (2, [.ref aR, .ref aDL, .ref aDD, .int (nI n)])), (aR, .inr (1, [.ref aRF, .ref aRT, .ref aRN, .ref aRL, .ref aRU, .int (nI cnt)])), (aRF, .inl (cyI, 20, .inl (fun j_ => nI (F j_)))), (aRT, .inl (cyI, 20, .inl (fun j_ => nI (T j_)))), (aRN, .inl (cyI, 20, .inl nm)), (aRL, .inl (cyI, 20, .inl lo)), (aRU, .inl (cyI, 20, .inl up))] H → va_D A [(aT, .inr (5, [.ref aD, .ref aTM])), (aTM, .inl (cyI, 144, .inl (stV n (tdD F T nm lo up (tdI (flI v 1000000000 144) n) cnt) k))), (aD, .inr (2, [.ref aR, .ref aDL, .ref aDD, .int (nI n)])), (aR, .inr (1, [.ref aRF, .ref aRT, .ref aRN, .ref aRL, .ref aRU, .int (nI cnt)])), (aRF, .inl (cyI, 20, .inl (fun j_ => nI (F j_)))), (aRT, .inl (cyI, 20, .inl (fun j_ => nI (T j_)))), (aRN, .inl (cyI, 20, .inl nm)), (aRL, .inl (cyI, 20, .inl lo)), (aRU, .inl (cyI, 20, .inl up))] → va_S A s.heap H locs → lv_has ls 2 [(0, .ref aT), (1, .int (nI k))] → W pM l eM (headSpec wsX5_settle ({ frames := 3, cells := 0, slots := 0, locals := 73 } : Room)).room s mM ([.ref aT] : List Value).toArray blM mtM cM H locs 0 0 Q (F0 mM 6 ls []) := by
    intro fuel
    induction fuel with
    | zero => intro k hfuel; exact absurd hfuel (Nat.not_lt_zero _)
    | succ fuel ih6 =>
      intro k hfuel hk hst H locs ls hP hD hS hl
      refine lv_iload_n hx hb dX5_settle_6 rfl (lv_at hl 1 rfl) ?_
      refine lv_aload_n hx hb dX5_settle_7 rfl (lv_at hl 0 rfl) ?_
      refine va_get (D := (dC, dI)) (ci := 5) (v := .ref aD) (C := RX5) (T := TX5) (N := 2) hx hb hts iX5 hown hK hP 0 rfl rfl 0 (by decide) w0 (fun _ h9 => h9) rfl dX5_settle_8 ?_
      refine va_get (D := (dC, dI)) (ci := 2) (v := .int (nI n)) (C := RX2) (T := TX2) (N := 4) hx hb hts iX2 hown hK hP 2 rfl rfl 3 (by decide) w1 (fun _ h9 => h9) rfl dX5_settle_11 ?_
      refine lv_icmp_ge (tgt := 37) hx hb dX5_settle_14 (by decide) (fun c14 => ?_) (fun c14 => ?_)
      · have c14 := n_le (a := n) (b := k) (by omega) (by omega) c14
        refine lv_iconst (v := 1) hx hb dX5_settle_37 (by decide) ?_
        have r5 : 1 = (bI (stB n (tdD F T nm lo up (tdI (flI v 1000000000 144) n) cnt) n)) := by have e9 : k = n := (by omega); rw [e9] at hst; rw [hst]; rfl
        have hP9 : va_P (dC, dI) vwCl [(aT, .inr (5, [.ref aD, .ref aTM])), (aTM, .inl (cyI, 144, .inl (stV n (tdD F T nm lo up (tdI (flI v 1000000000 144) n) cnt) k))), (aD, .inr (2, [.ref aR, .ref aDL, .ref aDD, .int (nI n)])), (aR, .inr (1, [.ref aRF, .ref aRT, .ref aRN, .ref aRL, .ref aRU, .int (nI cnt)])), (aRF, .inl (cyI, 20, .inl (fun j_ => nI (F j_)))), (aRT, .inl (cyI, 20, .inl (fun j_ => nI (T j_)))), (aRN, .inl (cyI, 20, .inl nm)), (aRL, .inl (cyI, 20, .inl lo)), (aRU, .inl (cyI, 20, .inl up))] H := by exact hP.sub [0, 1, 2, 3, 4, 5, 6, 7, 8] rfl
        have hD9 : va_D A [(aT, .inr (5, [.ref aD, .ref aTM])), (aTM, .inl (cyI, 144, .inl (stV n (tdD F T nm lo up (tdI (flI v 1000000000 144) n) cnt) k))), (aD, .inr (2, [.ref aR, .ref aDL, .ref aDD, .int (nI n)])), (aR, .inr (1, [.ref aRF, .ref aRT, .ref aRN, .ref aRL, .ref aRU, .int (nI cnt)])), (aRF, .inl (cyI, 20, .inl (fun j_ => nI (F j_)))), (aRT, .inl (cyI, 20, .inl (fun j_ => nI (T j_)))), (aRN, .inl (cyI, 20, .inl nm)), (aRL, .inl (cyI, 20, .inl lo)), (aRU, .inl (cyI, 20, .inl up))] := by exact hD.sub [0, 1, 2, 3, 4, 5, 6, 7, 8] (by decide) rfl
        have p6 : stB n (tdD F T nm lo up (tdI (flI v 1000000000 144) n) cnt) n = true → (stV n (tdD F T nm lo up (tdI (flI v 1000000000 144) n) cnt) k) = stV n (tdD F T nm lo up (tdI (flI v 1000000000 144) n) cnt) n := by intro _; rw [show k = n by omega]
        subst hAe
        subst hQe
        exact W.zret (v := 1) hx hb hr rfl (fun t ht hW => ⟨⟨_, (), rfl, r5, (stV n (tdD F T nm lo up (tdI (flI v 1000000000 144) n) cnt) k), p6, by rw [ht]; exact hP9, va_K.moved hW.alike hK, hD9⟩, hS.F ht⟩) hS.2.2 dX5_settle_38
      · have c14 := n_nle (a := n) (b := k) (by omega) (by omega) c14
        refine lv_aload_n hx hb dX5_settle_17 rfl (lv_at hl 0 rfl) ?_
        refine lv_iload_n hx hb dX5_settle_18 rfl (lv_at hl 1 rfl) ?_
        have g7 : n ≤ 12 := by first | assumption | omega | exact vp_in_nI (by omega) (by omega)
        have g8 : k < 12 := by first | assumption | omega | exact vp_in_nI (by omega) (by omega)
        have hPc := hP.sub (ws' := [(aT, .inr (5, [.ref aD, .ref aTM])), (aTM, .inl (cyI, 144, .inl (stV n (tdD F T nm lo up (tdI (flI v 1000000000 144) n) cnt) k))), (aD, .inr (2, [.ref aR, .ref aDL, .ref aDD, .int (nI n)]))]) [0, 1, 2] rfl
        have hDc := hD.sub (ws' := [(aT, .inr (5, [.ref aD, .ref aTM])), (aTM, .inl (cyI, 144, .inl (stV n (tdD F T nm lo up (tdI (flI v 1000000000 144) n) cnt) k))), (aD, .inr (2, [.ref aR, .ref aDL, .ref aDD, .int (nI n)]))]) [0, 1, 2] (by decide) rfl
        have hFc := va_free (wc := [(aT, .inr (5, [.ref aD, .ref aTM])), (aTM, .inl (cyI, 144, .inl (stV n (tdD F T nm lo up (tdI (flI v 1000000000 144) n) cnt) k))), (aD, .inr (2, [.ref aR, .ref aDL, .ref aDD, .int (nI n)]))]) hD hS hA [0, 1, 2] rfl
        refine va_callv (va_runV (As := [.int (nI k)]) (rest := []) ⟨hx, hb, hml, hown, hts⟩ (c_X5_narrowThrough l dC dI cyI cyZ cyJ cyD aT aD aTM aR aDL aDD H.size (stV n (tdD F T nm lo up (tdI (flI v 1000000000 144) n) cnt) k) n k g7 g8) (cwV 1 hts gX5_settle_X5_narrowThrough rfl rfl rfl (by decide +kernel) ⟨Nat.le_of_ble_eq_true rfl, Nat.le_of_ble_eq_true rfl⟩) ⟨fun a U g mk q => by obtain ⟨q0, q1, qP, qK, qD⟩ := q; exact ⟨q0, q1, qP, va_K.moved (u := U) (U := U.calling g mk a) (Vm.Alike.refl U.vm) qK, qD⟩, va_recv hK hPc (ci := 5) (q0 := 0) rfl rfl, fun U hU hW => ⟨rfl, by rw [hU], by rw [hU]; exact hPc, va_K.moved hW.alike hK, hDc.weaken (fun _ _ _ _ => trivial)⟩⟩ rfl rfl hl.1 rfl (lv_room (Nat.le_of_ble_eq_true rfl)) dX5_settle_19 ⟨Nat.le_of_ble_eq_true rfl, Nat.le_of_ble_eq_true rfl⟩) hS (fun q _ h => hFc q h) hFc (fun  u t H1 locs ht hvm hw hB hz1 hk1 hS => ?_)
        obtain ⟨hP1, hK1, hD1⟩ := hB
        rw [ht] at hP1
        obtain ⟨hP, hD⟩ := va_join (wr := [(aR, .inr (1, [.ref aRF, .ref aRT, .ref aRN, .ref aRL, .ref aRU, .int (nI cnt)])), (aRF, .inl (cyI, 20, .inl (fun j_ => nI (F j_)))), (aRT, .inl (cyI, 20, .inl (fun j_ => nI (T j_)))), (aRN, .inl (cyI, 20, .inl nm)), (aRL, .inl (cyI, 20, .inl lo)), (aRU, .inl (cyI, 20, .inl up))]) (w1 := [(aT, .inr (5, [.ref aD, .ref aTM])), (aTM, .inl (cyI, 144, .inl (ntA n k (stV n (tdD F T nm lo up (tdI (flI v 1000000000 144) n) cnt) k) n))), (aD, .inr (2, [.ref aR, .ref aDL, .ref aDD, .int (nI n)]))]) hP hD [0, 1, 2] [3, 4, 5, 6, 7, 8] rfl rfl (by decide) (by decide) hk1 hFc hP1 hD1
        clear hP1 hD1 hK1 hPc hDc hFc hk1 hz1 hvm ht u t
        generalize H1 = H at hP hS ⊢
        have hP : va_P (dC, dI) vwCl [(aR, .inr (1, [.ref aRF, .ref aRT, .ref aRN, .ref aRL, .ref aRU, .int (nI cnt)])), (aRF, .inl (cyI, 20, .inl (fun j_ => nI (F j_)))), (aRT, .inl (cyI, 20, .inl (fun j_ => nI (T j_)))), (aRN, .inl (cyI, 20, .inl nm)), (aRL, .inl (cyI, 20, .inl lo)), (aRU, .inl (cyI, 20, .inl up)), (aT, .inr (5, [.ref aD, .ref aTM])), (aTM, .inl (cyI, 144, .inl (ntA n k (stV n (tdD F T nm lo up (tdI (flI v 1000000000 144) n) cnt) k) n))), (aD, .inr (2, [.ref aR, .ref aDL, .ref aDD, .int (nI n)]))] H := hP
        have hD : va_D A [(aR, .inr (1, [.ref aRF, .ref aRT, .ref aRN, .ref aRL, .ref aRU, .int (nI cnt)])), (aRF, .inl (cyI, 20, .inl (fun j_ => nI (F j_)))), (aRT, .inl (cyI, 20, .inl (fun j_ => nI (T j_)))), (aRN, .inl (cyI, 20, .inl nm)), (aRL, .inl (cyI, 20, .inl lo)), (aRU, .inl (cyI, 20, .inl up)), (aT, .inr (5, [.ref aD, .ref aTM])), (aTM, .inl (cyI, 144, .inl (ntA n k (stV n (tdD F T nm lo up (tdI (flI v 1000000000 144) n) cnt) k) n))), (aD, .inr (2, [.ref aR, .ref aDL, .ref aDD, .int (nI n)]))] := hD
        refine lv_aload_n hx hb dX5_settle_22 rfl (lv_at hl 0 rfl) ?_
        have g9 : n ≤ 12 := by first | assumption | omega | exact vp_in_nI (by omega) (by omega)
        have hPc := hP.sub (ws' := [(aT, .inr (5, [.ref aD, .ref aTM])), (aTM, .inl (cyI, 144, .inl (ntA n k (stV n (tdD F T nm lo up (tdI (flI v 1000000000 144) n) cnt) k) n))), (aD, .inr (2, [.ref aR, .ref aDL, .ref aDD, .int (nI n)]))]) [6, 7, 8] rfl
        have hDc := hD.sub (ws' := [(aT, .inr (5, [.ref aD, .ref aTM])), (aTM, .inl (cyI, 144, .inl (ntA n k (stV n (tdD F T nm lo up (tdI (flI v 1000000000 144) n) cnt) k) n))), (aD, .inr (2, [.ref aR, .ref aDL, .ref aDD, .int (nI n)]))]) [6, 7, 8] (by decide) rfl
        have hFc := va_free (wc := [(aT, .inr (5, [.ref aD, .ref aTM])), (aTM, .inl (cyI, 144, .inl (ntA n k (stV n (tdD F T nm lo up (tdI (flI v 1000000000 144) n) cnt) k) n))), (aD, .inr (2, [.ref aR, .ref aDL, .ref aDD, .int (nI n)]))]) hD hS hA [6, 7, 8] rfl
        refine va_calli (va_runV (As := []) (rest := []) ⟨hx, hb, hml, hown, hts⟩ (c_X5_ringsClose l dC dI cyI cyZ cyJ cyD aT aD aTM aR aDL aDD H.size (ntA n k (stV n (tdD F T nm lo up (tdI (flI v 1000000000 144) n) cnt) k) n) n g9) (cwV 0 hts gX5_settle_X5_ringsClose rfl rfl rfl (by decide +kernel) ⟨Nat.le_of_ble_eq_true rfl, Nat.le_of_ble_eq_true rfl⟩) ⟨fun a U g mk q => by obtain ⟨q0, q1, qP, qK, qD⟩ := q; exact ⟨q0, q1, qP, va_K.moved (u := U) (U := U.calling g mk a) (Vm.Alike.refl U.vm) qK, qD⟩, va_recv hK hPc (ci := 5) (q0 := 0) rfl rfl, fun U hU hW => ⟨rfl, by rw [hU], by rw [hU]; exact hPc, va_K.moved hW.alike hK, hDc.weaken (fun _ _ _ _ => trivial)⟩⟩ rfl rfl hl.1 rfl (lv_room (Nat.le_of_ble_eq_true rfl)) dX5_settle_23 ⟨Nat.le_of_ble_eq_true rfl, Nat.le_of_ble_eq_true rfl⟩) hS (fun q _ h => hFc q h) hFc (fun r u t H1 locs ht hvm hw hB hz1 hk1 hS => ?_)
        obtain rfl := hw
        obtain ⟨hP1, hK1, hD1⟩ := hB
        rw [ht] at hP1
        obtain ⟨hP, hD⟩ := va_join (wr := [(aR, .inr (1, [.ref aRF, .ref aRT, .ref aRN, .ref aRL, .ref aRU, .int (nI cnt)])), (aRF, .inl (cyI, 20, .inl (fun j_ => nI (F j_)))), (aRT, .inl (cyI, 20, .inl (fun j_ => nI (T j_)))), (aRN, .inl (cyI, 20, .inl nm)), (aRL, .inl (cyI, 20, .inl lo)), (aRU, .inl (cyI, 20, .inl up))]) (w1 := [(aT, .inr (5, [.ref aD, .ref aTM])), (aTM, .inl (cyI, 144, .inl (ntA n k (stV n (tdD F T nm lo up (tdI (flI v 1000000000 144) n) cnt) k) n))), (aD, .inr (2, [.ref aR, .ref aDL, .ref aDD, .int (nI n)]))]) hP hD [6, 7, 8] [0, 1, 2, 3, 4, 5] rfl rfl (by decide) (by decide) hk1 hFc hP1 hD1
        clear hP1 hD1 hK1 hPc hDc hFc hk1 hz1 hvm ht u t
        generalize H1 = H at hP hS ⊢
        have hP : va_P (dC, dI) vwCl [(aR, .inr (1, [.ref aRF, .ref aRT, .ref aRN, .ref aRL, .ref aRU, .int (nI cnt)])), (aRF, .inl (cyI, 20, .inl (fun j_ => nI (F j_)))), (aRT, .inl (cyI, 20, .inl (fun j_ => nI (T j_)))), (aRN, .inl (cyI, 20, .inl nm)), (aRL, .inl (cyI, 20, .inl lo)), (aRU, .inl (cyI, 20, .inl up)), (aT, .inr (5, [.ref aD, .ref aTM])), (aTM, .inl (cyI, 144, .inl (ntA n k (stV n (tdD F T nm lo up (tdI (flI v 1000000000 144) n) cnt) k) n))), (aD, .inr (2, [.ref aR, .ref aDL, .ref aDD, .int (nI n)]))] H := hP
        have hD : va_D A [(aR, .inr (1, [.ref aRF, .ref aRT, .ref aRN, .ref aRL, .ref aRU, .int (nI cnt)])), (aRF, .inl (cyI, 20, .inl (fun j_ => nI (F j_)))), (aRT, .inl (cyI, 20, .inl (fun j_ => nI (T j_)))), (aRN, .inl (cyI, 20, .inl nm)), (aRL, .inl (cyI, 20, .inl lo)), (aRU, .inl (cyI, 20, .inl up)), (aT, .inr (5, [.ref aD, .ref aTM])), (aTM, .inl (cyI, 144, .inl (ntA n k (stV n (tdD F T nm lo up (tdI (flI v 1000000000 144) n) cnt) k) n))), (aD, .inr (2, [.ref aR, .ref aDL, .ref aDD, .int (nI n)]))] := hD
        refine lv_if_ne (tgt := 31) hx hb dX5_settle_26 (by decide) (fun c26 => ?_) (fun c26 => ?_)
        · have c26 : (rcB (ntA n k (stV n (tdD F T nm lo up (tdI (flI v 1000000000 144) n) cnt) k) n) n) = true := bI_n0 c26
          refine lv_iinc (v := nI (k + 1)) (lv' := [(1, .int (nI (k + 1))), (0, .ref aT)]) hx hb dX5_settle_31 hl (k := 1) rfl (nI_add k 1) (by decide) rfl (fun ls hl => ?_)
          refine lv_goto (tgt := 6) hx hb dX5_settle_34 (by decide) ?_
          have q10 : (stV n (tdD F T nm lo up (tdI (flI v 1000000000 144) n) cnt) (k + 1)) = (ntA n k (stV n (tdD F T nm lo up (tdI (flI v 1000000000 144) n) cnt) k) n) := by rfl
          exact ih6 (k + 1) (by omega) (by first | assumption | omega) (by simp only [stB, hst, Bool.true_and]; exact c26) _ _ _ (by first | (rw [q10]; exact hP.sub [6, 7, 8, 0, 1, 2, 3, 4, 5] rfl) | (simp only [q10]; exact hP.sub [6, 7, 8, 0, 1, 2, 3, 4, 5] rfl) | exact hP.sub [6, 7, 8, 0, 1, 2, 3, 4, 5] rfl) (by first | (rw [q10]; exact hD.sub [6, 7, 8, 0, 1, 2, 3, 4, 5] (by decide) rfl) | (simp only [q10]; exact hD.sub [6, 7, 8, 0, 1, 2, 3, 4, 5] (by decide) rfl) | exact hD.sub [6, 7, 8, 0, 1, 2, 3, 4, 5] (by decide) rfl) hS (lv_sub hl [1, 0] rfl)
        · have c26 : (rcB (ntA n k (stV n (tdD F T nm lo up (tdI (flI v 1000000000 144) n) cnt) k) n) n) = false := bI_0 c26
          refine lv_iconst (v := 0) hx hb dX5_settle_29 (by decide) ?_
          have r11 : 0 = (bI (stB n (tdD F T nm lo up (tdI (flI v 1000000000 144) n) cnt) n)) := by rw [stB_stop (by omega) hst c26]; rfl
          have hP9 : va_P (dC, dI) vwCl [(aT, .inr (5, [.ref aD, .ref aTM])), (aTM, .inl (cyI, 144, .inl (ntA n k (stV n (tdD F T nm lo up (tdI (flI v 1000000000 144) n) cnt) k) n))), (aD, .inr (2, [.ref aR, .ref aDL, .ref aDD, .int (nI n)])), (aR, .inr (1, [.ref aRF, .ref aRT, .ref aRN, .ref aRL, .ref aRU, .int (nI cnt)])), (aRF, .inl (cyI, 20, .inl (fun j_ => nI (F j_)))), (aRT, .inl (cyI, 20, .inl (fun j_ => nI (T j_)))), (aRN, .inl (cyI, 20, .inl nm)), (aRL, .inl (cyI, 20, .inl lo)), (aRU, .inl (cyI, 20, .inl up))] H := by exact hP.sub [6, 7, 8, 0, 1, 2, 3, 4, 5] rfl
          have hD9 : va_D A [(aT, .inr (5, [.ref aD, .ref aTM])), (aTM, .inl (cyI, 144, .inl (ntA n k (stV n (tdD F T nm lo up (tdI (flI v 1000000000 144) n) cnt) k) n))), (aD, .inr (2, [.ref aR, .ref aDL, .ref aDD, .int (nI n)])), (aR, .inr (1, [.ref aRF, .ref aRT, .ref aRN, .ref aRL, .ref aRU, .int (nI cnt)])), (aRF, .inl (cyI, 20, .inl (fun j_ => nI (F j_)))), (aRT, .inl (cyI, 20, .inl (fun j_ => nI (T j_)))), (aRN, .inl (cyI, 20, .inl nm)), (aRL, .inl (cyI, 20, .inl lo)), (aRU, .inl (cyI, 20, .inl up))] := by exact hD.sub [6, 7, 8, 0, 1, 2, 3, 4, 5] (by decide) rfl
          have p12 : stB n (tdD F T nm lo up (tdI (flI v 1000000000 144) n) cnt) n = true → (ntA n k (stV n (tdD F T nm lo up (tdI (flI v 1000000000 144) n) cnt) k) n) = stV n (tdD F T nm lo up (tdI (flI v 1000000000 144) n) cnt) n := by intro h; rw [stB_stop (by omega) hst c26] at h; cases h
          subst hAe
          subst hQe
          exact W.zret (v := 0) hx hb hr rfl (fun t ht hW => ⟨⟨_, (), rfl, r11, (ntA n k (stV n (tdD F T nm lo up (tdI (flI v 1000000000 144) n) cnt) k) n), p12, by rw [ht]; exact hP9, va_K.moved hW.alike hK, hD9⟩, hS.F ht⟩) hS.2.2 dX5_settle_30
  have q13 : (stV n (tdD F T nm lo up (tdI (flI v 1000000000 144) n) cnt) 0) = (tdD F T nm lo up (tdI (flI v 1000000000 144) n) cnt) := by rfl
  have q14 : (nI 0) = 0 := by first | rfl | simp [*] | (simp only [*]; done)
  exact k6 (n - 0 + 1) 0 (Nat.lt_succ_self _) (by first | assumption | omega) (by rfl) _ _ _ (by first | (rw [q13]; exact hP) | (simp only [q13]; exact hP) | exact hP) (by first | (rw [q13]; exact hD) | (simp only [q13]; exact hD) | exact hD) hS (by first | (rw [q14]; exact lv_sub hl [1, 0] rfl) | (simp only [q14]; exact lv_sub hl [1, 0] rfl) | exact lv_sub hl [1, 0] rfl)
