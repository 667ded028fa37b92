
def sdC (i d : Bool) : Int32 := if ¬ i = true then 1 else if d = true then 0 else 2
theorem wtn_lt {x : Int32} {b : Nat} (hb : b < 2 ^ 31) (h : wtn x 0 (nI b) = true) : x.toNatClampNeg < b + 6 := by
  have h1 := wtn_nat (k := 0) (by decide) h
  simp only [wtn, Bool.and_eq_true, decide_eq_true_eq] at h
  obtain ⟨j, hj, e⟩ := nI_of h.1
  subst e
  rw [nI_clamp hj]
  have := n_nlt hb hj h.2
  omega
def apD (x : Int32) (ml : Nat) : Int32 := if ¬ wtn x 32 126 = true then 1 else if ml = 60 then 2 else 0
def colN (x : Int32) : Nat := if 300 < (if 0 ≤ x then x else -x) then (if 600 < (if 0 ≤ x then x else -x) then (if 3000 < (if 0 ≤ x then x else -x) then (if 12000 < (if 0 ≤ x then x else -x) then (if 40000 < (if 0 ≤ x then x else -x) then 5 else 4) else 3) else 2) else 1) else 0
theorem colN_lt (x : Int32) : colN x < 6 := by
  unfold colN
  repeat' split
  all_goals omega
def tolV (g : Int32) (k : Nat) : Int32 := if k = 0 then (if g = 102 then 5 else if g = 109 then 10 else if g = 99 then 20 else 50) else if k = 1 then (if g = 102 then 5 else if g = 109 then 10 else if g = 99 then 30 else 50) else if k = 2 then (if g = 102 then 10 else if g = 109 then 20 else if g = 99 then 50 else 100) else if k = 3 then (if g = 102 then 15 else if g = 109 then 30 else if g = 99 then 80 else 150) else if k = 4 then (if g = 102 then 20 else if g = 109 then 50 else if g = 99 then 120 else 250) else (if g = 102 then 30 else if g = 109 then 80 else if g = 99 then 200 else 400)
def gr4 (g : Int32) : Bool := decide (g = 102 ∨ g = 109 ∨ g = 99 ∨ g = 118)
theorem gr4_t {g : Int32} (h : g = 102 ∨ g = 109 ∨ g = 99 ∨ g = 118) : gr4 g = true := decide_eq_true h
theorem gr4_f {g : Int32} (h1 : ¬ g = 102) (h2 : ¬ g = 109) (h3 : ¬ g = 99) (h4 : ¬ g = 118) : ¬ gr4 g = true := fun q => (of_decide_eq_true q).elim h1 (fun z => z.elim h2 (fun z => z.elim h3 h4))
def gnS (g : Int32) (nm lo up : Nat → Int32) : Nat → (Nat → Int32) × (Nat → Int32)
  | 0 => (lo, up)
  | d + 1 => if (gnS g nm lo up d).1 d = 0 ∧ (gnS g nm lo up d).2 d = 0 then (upd (gnS g nm lo up d).1 d (-(tolV g (colN (nm d)))), upd (gnS g nm lo up d).2 d (tolV g (colN (nm d)))) else gnS g nm lo up d
def gnC (g : Int32) (nm lo up : Nat → Int32) : Nat → Nat
  | 0 => 0
  | d + 1 => if (gnS g nm lo up d).1 d = 0 ∧ (gnS g nm lo up d).2 d = 0 then gnC g nm lo up d + 1 else gnC g nm lo up d
theorem gnC_le (g : Int32) (nm lo up : Nat → Int32) : ∀ d, gnC g nm lo up d ≤ d := by
  intro d
  induction d with
  | zero => exact Nat.le_refl _
  | succ d ih => unfold gnC; split <;> omega

set_option maxHeartbeats 4000000 in
set_option maxRecDepth 100000 in
theorem c_X7_setDeviations (l : Launch) (dC : Nat → ClassId) (dI : Nat → Nat → Nat) (cyI cyZ cyJ cyD : ClassId) (aM aMF aMT aMN aML aMU aMB aMf aMt aMn aMl aMu aMP aMD aMC aMO aMY aMS : Nat) (zH : Nat) (th : Int32) (n : Nat) (cnt : Nat) (ml : Nat) (sg : Nat) (rm : Nat) (mdg : Nat) (mnb : Nat) (mng : Bool) (lk : Nat) (gn : Int32) (gl : Int32) (gg : Int32) (nn : Int32) (nl : Int32) (nu : Int32) (hs : Int64) (lo : Nat → Int32) (up : Nat → Int32) (z : Int32) (x : Int32) (y : Int32) (hc : cnt ≤ 20) : Met l yX7_setDeviations wsX7_setDeviations ({ frames := 2, cells := 0, slots := 0, locals := 43 } : Room) (va_Pc [.ref aM, .int z, .int x, .int y] (fun U => U.heap.size = zH ∧ va_P (dC, dI) vwCl [(aM, .inr (7, [.int th, .int (nI n), .int (nI cnt), .ref aMF, .ref aMT, .ref aMN, .ref aML, .ref aMU, .int (nI ml), .ref aMB, .int (nI sg), .int (nI rm), .int (nI mdg), .int (nI mnb), .int (bI mng), .ref aMf, .ref aMt, .ref aMn, .ref aMl, .ref aMu, .ref aMP, .ref aMD, .int (nI lk), .ref aMC, .ref aMO, .int gn, .int gl, .int gg, .ref aMY, .int nn, .int nl, .int nu, .ref aMS, .long hs])), (aML, .inl (cyI, 20, .inl lo)), (aMU, .inl (cyI, 20, .inl up))] U.heap ∧ va_K (dC, dI) vwCl [(cyI, .int), (cyZ, .boolean), (cyJ, .long), (cyD, .double)] U ∧ va_D (fun _ => True) [(aM, .inr (7, [.int th, .int (nI n), .int (nI cnt), .ref aMF, .ref aMT, .ref aMN, .ref aML, .ref aMU, .int (nI ml), .ref aMB, .int (nI sg), .int (nI rm), .int (nI mdg), .int (nI mnb), .int (bI mng), .ref aMf, .ref aMt, .ref aMn, .ref aMl, .ref aMu, .ref aMP, .ref aMD, .int (nI lk), .ref aMC, .ref aMO, .int gn, .int gl, .int gg, .ref aMY, .int nn, .int nl, .int nu, .ref aMS, .long hs])), (aML, .inl (cyI, 20, .inl lo)), (aMU, .inl (cyI, 20, .inl up))])) (va_Qi (fun (r : Int32) (_ : Unit) => r = if sdC (inB z cnt) (devB x y) = 0 then up z.toNatClampNeg - lo z.toNatClampNeg else 0) (fun _ t => va_P (dC, dI) vwCl [(aM, .inr (7, [.int (sdC (inB z cnt) (devB x y)), .int (nI n), .int (nI cnt), .ref aMF, .ref aMT, .ref aMN, .ref aML, .ref aMU, .int (nI ml), .ref aMB, .int (nI sg), .int (nI rm), .int (nI mdg), .int (nI mnb), .int (bI mng), .ref aMf, .ref aMt, .ref aMn, .ref aMl, .ref aMu, .ref aMP, .ref aMD, .int (nI lk), .ref aMC, .ref aMO, .int gn, .int gl, .int gg, .ref aMY, .int nn, .int nl, .int nu, .ref aMS, .long hs])), (aML, .inl (cyI, 20, .inl (if sdC (inB z cnt) (devB x y) = 0 then upd lo z.toNatClampNeg x else lo))), (aMU, .inl (cyI, 20, .inl (if sdC (inB z cnt) (devB x y) = 0 then upd up z.toNatClampNeg y else up)))] t.heap ∧ va_K (dC, dI) vwCl [(cyI, .int), (cyZ, .boolean), (cyJ, .long), (cyD, .double)] t ∧ va_D (va_A [(aM, .inr (7, [.int th, .int (nI n), .int (nI cnt), .ref aMF, .ref aMT, .ref aMN, .ref aML, .ref aMU, .int (nI ml), .ref aMB, .int (nI sg), .int (nI rm), .int (nI mdg), .int (nI mnb), .int (bI mng), .ref aMf, .ref aMt, .ref aMn, .ref aMl, .ref aMu, .ref aMP, .ref aMD, .int (nI lk), .ref aMC, .ref aMO, .int gn, .int gl, .int gg, .ref aMY, .int nn, .int nl, .int nu, .ref aMS, .long hs])), (aML, .inl (cyI, 20, .inl lo)), (aMU, .inl (cyI, 20, .inl up))] zH) [(aM, .inr (7, [.int (sdC (inB z cnt) (devB x y)), .int (nI n), .int (nI cnt), .ref aMF, .ref aMT, .ref aMN, .ref aML, .ref aMU, .int (nI ml), .ref aMB, .int (nI sg), .int (nI rm), .int (nI mdg), .int (nI mnb), .int (bI mng), .ref aMf, .ref aMt, .ref aMn, .ref aMl, .ref aMu, .ref aMP, .ref aMD, .int (nI lk), .ref aMC, .ref aMO, .int gn, .int gl, .int gg, .ref aMY, .int nn, .int nl, .int nu, .ref aMS, .long hs])), (aML, .inl (cyI, 20, .inl (if sdC (inB z cnt) (devB x y) = 0 then upd lo z.toNatClampNeg x else lo))), (aMU, .inl (cyI, 20, .inl (if sdC (inB z cnt) (devB x y) = 0 then upd up z.toNatClampNeg y else up)))]) (va_A [(aM, .inr (7, [.int th, .int (nI n), .int (nI cnt), .ref aMF, .ref aMT, .ref aMN, .ref aML, .ref aMU, .int (nI ml), .ref aMB, .int (nI sg), .int (nI rm), .int (nI mdg), .int (nI mnb), .int (bI mng), .ref aMf, .ref aMt, .ref aMn, .ref aMl, .ref aMu, .ref aMP, .ref aMD, .int (nI lk), .ref aMC, .ref aMO, .int gn, .int gl, .int gg, .ref aMY, .int nn, .int nl, .int nu, .ref aMS, .long hs])), (aML, .inl (cyI, 20, .inl lo)), (aMU, .inl (cyI, 20, .inl up))] zH)) 0 0 (va_A [(aM, .inr (7, [.int th, .int (nI n), .int (nI cnt), .ref aMF, .ref aMT, .ref aMN, .ref aML, .ref aMU, .int (nI ml), .ref aMB, .int (nI sg), .int (nI rm), .int (nI mdg), .int (nI mnb), .int (bI mng), .ref aMf, .ref aMt, .ref aMn, .ref aMl, .ref aMu, .ref aMP, .ref aMD, .int (nI lk), .ref aMC, .ref aMO, .int gn, .int gl, .int gg, .ref aMY, .int nn, .int nl, .int nu, .ref aMS, .long hs])), (aML, .inl (cyI, 20, .inl lo)), (aMU, .inl (cyI, 20, .inl up))] zH) := by
  refine Met.ofW (cc := cX7_setDeviations) (maxL := 5) (ret := (some .int)) (by decide) rfl ?_
  intro pM eM s mM args blM mtM cM s₁ BM hml hv
  obtain ⟨rfl, hsz, hP, hK, hD0⟩ := hv
  have hx := BM.exec
  have hb := BM.bytes
  have hr := BM.returns
  have hts := atoms_spec (ws := wsX7_setDeviations) BM.pre
  have hown : s.vm.findClass RX7 = some mM.cls := findClass_of_methodNamed BM.named
  have hlocks := BM.notSynchronized
  have w0 := hts (.fieldLink RX7 67 "DimensionCheckerModel" "thrown" "I") (by decide +kernel)
  have w1 := hts (.fieldLink RX7 23 "DimensionCheckerModel" "lower" "[I") (by decide +kernel)
  have w2 := hts (.fieldLink RX7 26 "DimensionCheckerModel" "upper" "[I") (by decide +kernel)
  have iX7 : ∀ w ∈ wsX70, w ∈ wsX7_setDeviations := by decide +kernel
  subst hsz
  have hD := hD0.self (sz := s.heap.size)
  obtain ⟨Q, hQe⟩ : ∃ Q : State → Prop, Q = MQ blM (va_Qi (fun (r : Int32) (_ : Unit) => r = if sdC (inB z cnt) (devB x y) = 0 then up z.toNatClampNeg - lo z.toNatClampNeg else 0) (fun _ t => va_P (dC, dI) vwCl [(aM, .inr (7, [.int (sdC (inB z cnt) (devB x y)), .int (nI n), .int (nI cnt), .ref aMF, .ref aMT, .ref aMN, .ref aML, .ref aMU, .int (nI ml), .ref aMB, .int (nI sg), .int (nI rm), .int (nI mdg), .int (nI mnb), .int (bI mng), .ref aMf, .ref aMt, .ref aMn, .ref aMl, .ref aMu, .ref aMP, .ref aMD, .int (nI lk), .ref aMC, .ref aMO, .int gn, .int gl, .int gg, .ref aMY, .int nn, .int nl, .int nu, .ref aMS, .long hs])), (aML, .inl (cyI, 20, .inl (if sdC (inB z cnt) (devB x y) = 0 then upd lo z.toNatClampNeg x else lo))), (aMU, .inl (cyI, 20, .inl (if sdC (inB z cnt) (devB x y) = 0 then upd up z.toNatClampNeg y else up)))] t.heap ∧ va_K (dC, dI) vwCl [(cyI, .int), (cyZ, .boolean), (cyJ, .long), (cyD, .double)] t ∧ va_D (va_A [(aM, .inr (7, [.int th, .int (nI n), .int (nI cnt), .ref aMF, .ref aMT, .ref aMN, .ref aML, .ref aMU, .int (nI ml), .ref aMB, .int (nI sg), .int (nI rm), .int (nI mdg), .int (nI mnb), .int (bI mng), .ref aMf, .ref aMt, .ref aMn, .ref aMl, .ref aMu, .ref aMP, .ref aMD, .int (nI lk), .ref aMC, .ref aMO, .int gn, .int gl, .int gg, .ref aMY, .int nn, .int nl, .int nu, .ref aMS, .long hs])), (aML, .inl (cyI, 20, .inl lo)), (aMU, .inl (cyI, 20, .inl up))] s.heap.size) [(aM, .inr (7, [.int (sdC (inB z cnt) (devB x y)), .int (nI n), .int (nI cnt), .ref aMF, .ref aMT, .ref aMN, .ref aML, .ref aMU, .int (nI ml), .ref aMB, .int (nI sg), .int (nI rm), .int (nI mdg), .int (nI mnb), .int (bI mng), .ref aMf, .ref aMt, .ref aMn, .ref aMl, .ref aMu, .ref aMP, .ref aMD, .int (nI lk), .ref aMC, .ref aMO, .int gn, .int gl, .int gg, .ref aMY, .int nn, .int nl, .int nu, .ref aMS, .long hs])), (aML, .inl (cyI, 20, .inl (if sdC (inB z cnt) (devB x y) = 0 then upd lo z.toNatClampNeg x else lo))), (aMU, .inl (cyI, 20, .inl (if sdC (inB z cnt) (devB x y) = 0 then upd up z.toNatClampNeg y else up)))]) (va_A [(aM, .inr (7, [.int th, .int (nI n), .int (nI cnt), .ref aMF, .ref aMT, .ref aMN, .ref aML, .ref aMU, .int (nI ml), .ref aMB, .int (nI sg), .int (nI rm), .int (nI mdg), .int (nI mnb), .int (bI mng), .ref aMf, .ref aMt, .ref aMn, .ref aMl, .ref aMu, .ref aMP, .ref aMD, .int (nI lk), .ref aMC, .ref aMO, .int gn, .int gl, .int gg, .ref aMY, .int nn, .int nl, .int nu, .ref aMS, .long hs])), (aML, .inl (cyI, 20, .inl lo)), (aMU, .inl (cyI, 20, .inl up))] s.heap.size)) ([.ref aM, .int z, .int x, .int y] : List Value).toArray s 0 0 (va_A [(aM, .inr (7, [.int th, .int (nI n), .int (nI cnt), .ref aMF, .ref aMT, .ref aMN, .ref aML, .ref aMU, .int (nI ml), .ref aMB, .int (nI sg), .int (nI rm), .int (nI mdg), .int (nI mnb), .int (bI mng), .ref aMf, .ref aMt, .ref aMn, .ref aMl, .ref aMu, .ref aMP, .ref aMD, .int (nI lk), .ref aMC, .ref aMO, .int gn, .int gl, .int gg, .ref aMY, .int nn, .int nl, .int nu, .ref aMS, .long hs])), (aML, .inl (cyI, 20, .inl lo)), (aMU, .inl (cyI, 20, .inl up))] s.heap.size) := ⟨_, rfl⟩
  rw [← hQe]
  generalize hAe : va_A [(aM, .inr (7, [.int th, .int (nI n), .int (nI cnt), .ref aMF, .ref aMT, .ref aMN, .ref aML, .ref aMU, .int (nI ml), .ref aMB, .int (nI sg), .int (nI rm), .int (nI mdg), .int (nI mnb), .int (bI mng), .ref aMf, .ref aMt, .ref aMn, .ref aMl, .ref aMu, .ref aMP, .ref aMD, .int (nI lk), .ref aMC, .ref aMO, .int gn, .int gl, .int gg, .ref aMY, .int nn, .int nl, .int nu, .ref aMS, .long hs])), (aML, .inl (cyI, 20, .inl lo)), (aMU, .inl (cyI, 20, .inl up))] s.heap.size = A at hD hQe
  have hA : ∀ q : Nat, s.heap.size ≤ q → A q := fun q h => by rw [← hAe]; exact Or.inr h
  obtain ⟨H, hHe⟩ : ∃ H : Heap, H = s.heap := ⟨_, rfl⟩
  have hS : va_S A s.heap H [] := by rw [hHe]; exact va_S.rf
  rw [← hHe] at hP ⊢
  have hl := lv_entry ([.ref aM, .int z, .int x, .int y]) (n := 5) (Nat.le_of_ble_eq_true rfl)
  rw [lg_entry_eq]
  generalize (lg_sl ([.ref aM, .int z, .int x, .int y]) ++ List.replicate (5 - (lg_sl ([.ref aM, .int z, .int x, .int y])).length) Slot.unset).toArray = ls at hl ⊢
  have hl : lv_has ls 5 [(0, .ref aM), (1, .int z), (2, .int x), (3, .int y)] := hl
  refine lv_aload_n hx hb dX7_setDeviations_0 rfl (lv_at hl 0 rfl) ?_
  refine lv_aload_n hx hb dX7_setDeviations_1 rfl (lv_at hl 0 rfl) ?_
  refine lv_iload_n hx hb dX7_setDeviations_2 rfl (lv_at hl 1 rfl) ?_
  have g1 : cnt < 1000 := by first | assumption | omega | exact vp_in_nI (by omega) (by omega)
  have hPc := hP.sub (ws' := [(aM, .inr (7, [.int th, .int (nI n), .int (nI cnt), .ref aMF, .ref aMT, .ref aMN, .ref aML, .ref aMU, .int (nI ml), .ref aMB, .int (nI sg), .int (nI rm), .int (nI mdg), .int (nI mnb), .int (bI mng), .ref aMf, .ref aMt, .ref aMn, .ref aMl, .ref aMu, .ref aMP, .ref aMD, .int (nI lk), .ref aMC, .ref aMO, .int gn, .int gl, .int gg, .ref aMY, .int nn, .int nl, .int nu, .ref aMS, .long hs]))]) [0] rfl
  have hDc := hD.sub (ws' := [(aM, .inr (7, [.int th, .int (nI n), .int (nI cnt), .ref aMF, .ref aMT, .ref aMN, .ref aML, .ref aMU, .int (nI ml), .ref aMB, .int (nI sg), .int (nI rm), .int (nI mdg), .int (nI mnb), .int (bI mng), .ref aMf, .ref aMt, .ref aMn, .ref aMl, .ref aMu, .ref aMP, .ref aMD, .int (nI lk), .ref aMC, .ref aMO, .int gn, .int gl, .int gg, .ref aMY, .int nn, .int nl, .int nu, .ref aMS, .long hs]))]) [0] (by decide) rfl
  have hFc := va_free (wc := [(aM, .inr (7, [.int th, .int (nI n), .int (nI cnt), .ref aMF, .ref aMT, .ref aMN, .ref aML, .ref aMU, .int (nI ml), .ref aMB, .int (nI sg), .int (nI rm), .int (nI mdg), .int (nI mnb), .int (bI mng), .ref aMf, .ref aMt, .ref aMn, .ref aMl, .ref aMu, .ref aMP, .ref aMD, .int (nI lk), .ref aMC, .ref aMO, .int gn, .int gl, .int gg, .ref aMY, .int nn, .int nl, .int nu, .ref aMS, .long hs]))]) hD hS hA [0] rfl
  refine va_calli (va_runV (As := [.int z]) (rest := [.ref aM]) ⟨hx, hb, hml, hown, hts⟩ (c_X7_isDimension l dC dI cyI cyZ cyJ cyD aM aMF aMT aMN aML aMU aMB aMf aMt aMn aMl aMu aMP aMD aMC aMO aMY aMS H.size th n cnt ml sg rm mdg mnb mng lk gn gl gg nn nl nu hs z g1) (cwV 1 hts gX7_setDeviations_X7_isDimension rfl rfl rfl (by decide +kernel) ⟨Nat.le_of_ble_eq_true rfl, Nat.le_of_ble_eq_true rfl⟩) ⟨fun a U g mk q => by obtain ⟨q0, q1, qP, qK, qD⟩ := q; exact ⟨q0, q1, qP, va_K.moved (u := U) (U := U.calling g mk a) (Vm.Alike.refl U.vm) qK, qD⟩, va_recv hK hPc (ci := 7) (q0 := 0) rfl rfl, fun U hU hW => ⟨rfl, by rw [hU], by rw [hU]; exact hPc, va_K.moved hW.alike hK, hDc.weaken (fun _ _ _ _ => trivial)⟩⟩ rfl rfl hl.1 rfl (lv_room (Nat.le_of_ble_eq_true rfl)) dX7_setDeviations_3 ⟨Nat.le_of_ble_eq_true rfl, Nat.le_of_ble_eq_true rfl⟩) hS (fun q _ h => hFc q h) hFc (fun r u t H1 locs ht hvm hw hB hz1 hk1 hS => ?_)
  obtain rfl := hw
  obtain ⟨hP1, hK1, hD1⟩ := hB
  rw [ht] at hP1
  obtain ⟨hP, hD⟩ := va_join (wr := [(aML, .inl (cyI, 20, .inl lo)), (aMU, .inl (cyI, 20, .inl up))]) (w1 := [(aM, .inr (7, [.int th, .int (nI n), .int (nI cnt), .ref aMF, .ref aMT, .ref aMN, .ref aML, .ref aMU, .int (nI ml), .ref aMB, .int (nI sg), .int (nI rm), .int (nI mdg), .int (nI mnb), .int (bI mng), .ref aMf, .ref aMt, .ref aMn, .ref aMl, .ref aMu, .ref aMP, .ref aMD, .int (nI lk), .ref aMC, .ref aMO, .int gn, .int gl, .int gg, .ref aMY, .int nn, .int nl, .int nu, .ref aMS, .long hs]))]) hP hD [0] [1, 2] rfl rfl (by decide) (by decide) hk1 hFc hP1 hD1
  clear hP1 hD1 hK1 hPc hDc hFc hk1 hz1 hvm ht u t
  generalize H1 = H at hP hS ⊢
  have hP : va_P (dC, dI) vwCl [(aML, .inl (cyI, 20, .inl lo)), (aMU, .inl (cyI, 20, .inl up)), (aM, .inr (7, [.int th, .int (nI n), .int (nI cnt), .ref aMF, .ref aMT, .ref aMN, .ref aML, .ref aMU, .int (nI ml), .ref aMB, .int (nI sg), .int (nI rm), .int (nI mdg), .int (nI mnb), .int (bI mng), .ref aMf, .ref aMt, .ref aMn, .ref aMl, .ref aMu, .ref aMP, .ref aMD, .int (nI lk), .ref aMC, .ref aMO, .int gn, .int gl, .int gg, .ref aMY, .int nn, .int nl, .int nu, .ref aMS, .long hs]))] H := hP
  have hD : va_D A [(aML, .inl (cyI, 20, .inl lo)), (aMU, .inl (cyI, 20, .inl up)), (aM, .inr (7, [.int th, .int (nI n), .int (nI cnt), .ref aMF, .ref aMT, .ref aMN, .ref aML, .ref aMU, .int (nI ml), .ref aMB, .int (nI sg), .int (nI rm), .int (nI mdg), .int (nI mnb), .int (bI mng), .ref aMf, .ref aMt, .ref aMn, .ref aMl, .ref aMu, .ref aMP, .ref aMD, .int (nI lk), .ref aMC, .ref aMO, .int gn, .int gl, .int gg, .ref aMY, .int nn, .int nl, .int nu, .ref aMS, .long hs]))] := hD
  refine lv_if_ne (tgt := 13) hx hb dX7_setDeviations_6 (by decide) (fun c6 => ?_) (fun c6 => ?_)
  · have c6 : (inB z cnt) = true := bI_n0 c6
    have hzl := ix_lt (inB_vp c6 (by omega))
    refine lv_iload_n hx hb dX7_setDeviations_13 rfl (lv_at hl 2 rfl) ?_
    refine lv_iload_n hx hb dX7_setDeviations_14 rfl (lv_at hl 3 rfl) ?_
    have hPc := hP.sub (ws' := []) [] rfl
    have hDc := hD.sub (ws' := []) [] (by decide) rfl
    have hFc := va_free (wc := []) hD hS hA [] rfl
    refine va_calli (va_runS (As := [.int x, .int y]) (rest := [.ref aM]) ⟨hx, hb, hml, hown, hts⟩ (c_X7_areDeviations l dC dI cyI cyZ cyJ cyD H.size x y) (va_cwS 2 hts gX7_setDeviations_X7_areDeviations rfl rfl rfl (by decide +kernel) ⟨Nat.le_of_ble_eq_true rfl, Nat.le_of_ble_eq_true rfl⟩) ⟨fun a U g mk q => by obtain ⟨q0, q1, qP, qK, qD⟩ := q; exact ⟨q0, q1, qP, va_K.moved (u := U) (U := U.calling g mk a) (Vm.Alike.refl U.vm) qK, qD⟩, fun U hU hW => ⟨rfl, by rw [hU], by rw [hU]; exact hPc, va_K.moved hW.alike hK, hDc.weaken (fun _ _ _ _ => trivial)⟩⟩ rfl rfl hl.1 rfl (lv_room (Nat.le_of_ble_eq_true rfl)) dX7_setDeviations_15 ⟨Nat.le_of_ble_eq_true rfl, Nat.le_of_ble_eq_true rfl⟩) hS (fun q _ h => hFc q h) hFc (fun r u t H1 locs ht hvm hw hB hz1 hk1 hS => ?_)
    obtain rfl := hw
    obtain ⟨hP1, hK1, hD1⟩ := hB
    rw [ht] at hP1
    obtain ⟨hP, hD⟩ := va_join (wr := [(aML, .inl (cyI, 20, .inl lo)), (aMU, .inl (cyI, 20, .inl up)), (aM, .inr (7, [.int th, .int (nI n), .int (nI cnt), .ref aMF, .ref aMT, .ref aMN, .ref aML, .ref aMU, .int (nI ml), .ref aMB, .int (nI sg), .int (nI rm), .int (nI mdg), .int (nI mnb), .int (bI mng), .ref aMf, .ref aMt, .ref aMn, .ref aMl, .ref aMu, .ref aMP, .ref aMD, .int (nI lk), .ref aMC, .ref aMO, .int gn, .int gl, .int gg, .ref aMY, .int nn, .int nl, .int nu, .ref aMS, .long hs]))]) (w1 := []) hP hD [] [0, 1, 2] rfl rfl (by decide) (by decide) hk1 hFc hP1 hD1
    clear hP1 hD1 hK1 hPc hDc hFc hk1 hz1 hvm ht u t
    generalize H1 = H at hP hS ⊢
    have hP : va_P (dC, dI) vwCl [(aML, .inl (cyI, 20, .inl lo)), (aMU, .inl (cyI, 20, .inl up)), (aM, .inr (7, [.int th, .int (nI n), .int (nI cnt), .ref aMF, .ref aMT, .ref aMN, .ref aML, .ref aMU, .int (nI ml), .ref aMB, .int (nI sg), .int (nI rm), .int (nI mdg), .int (nI mnb), .int (bI mng), .ref aMf, .ref aMt, .ref aMn, .ref aMl, .ref aMu, .ref aMP, .ref aMD, .int (nI lk), .ref aMC, .ref aMO, .int gn, .int gl, .int gg, .ref aMY, .int nn, .int nl, .int nu, .ref aMS, .long hs]))] H := hP
    have hD : va_D A [(aML, .inl (cyI, 20, .inl lo)), (aMU, .inl (cyI, 20, .inl up)), (aM, .inr (7, [.int th, .int (nI n), .int (nI cnt), .ref aMF, .ref aMT, .ref aMN, .ref aML, .ref aMU, .int (nI ml), .ref aMB, .int (nI sg), .int (nI rm), .int (nI mdg), .int (nI mnb), .int (bI mng), .ref aMf, .ref aMt, .ref aMn, .ref aMl, .ref aMu, .ref aMP, .ref aMD, .int (nI lk), .ref aMC, .ref aMO, .int gn, .int gl, .int gg, .ref aMY, .int nn, .int nl, .int nu, .ref aMS, .long hs]))] := hD
    refine lv_if_eq (tgt := 25) hx hb dX7_setDeviations_18 (by decide) (fun c18 => ?_) (fun c18 => ?_)
    · have c18 : (devB x y) = false := bI_0 c18
      have hz : sdC (inB z cnt) (devB x y) = 2 := by simp [sdC, c6, c18]
      refine lv_iconst (v := 2) hx hb dX7_setDeviations_25 (by decide) ?_
      refine va_put (D := (dC, dI)) (ci := 7) (v := .int 2) (ty := .int) (C := RX7) (T := TX7) (N := 34) hx hb hts iX7 tyX7 tyX7_ok nmX7 hown hK hP hD hS 2 rfl rfl 0 (by decide) w0 (fun _ h9 => h9) rfl (by decide +kernel) rfl rfl (Nat.le_of_ble_eq_true rfl) dX7_setDeviations_26 (fun H locs hP hD hS => ?_)
      have hP : va_P (dC, dI) vwCl [(aML, .inl (cyI, 20, .inl lo)), (aMU, .inl (cyI, 20, .inl up)), (aM, .inr (7, [.int 2, .int (nI n), .int (nI cnt), .ref aMF, .ref aMT, .ref aMN, .ref aML, .ref aMU, .int (nI ml), .ref aMB, .int (nI sg), .int (nI rm), .int (nI mdg), .int (nI mnb), .int (bI mng), .ref aMf, .ref aMt, .ref aMn, .ref aMl, .ref aMu, .ref aMP, .ref aMD, .int (nI lk), .ref aMC, .ref aMO, .int gn, .int gl, .int gg, .ref aMY, .int nn, .int nl, .int nu, .ref aMS, .long hs]))] H := hP
      have hD : va_D A [(aML, .inl (cyI, 20, .inl lo)), (aMU, .inl (cyI, 20, .inl up)), (aM, .inr (7, [.int 2, .int (nI n), .int (nI cnt), .ref aMF, .ref aMT, .ref aMN, .ref aML, .ref aMU, .int (nI ml), .ref aMB, .int (nI sg), .int (nI rm), .int (nI mdg), .int (nI mnb), .int (bI mng), .ref aMf, .ref aMt, .ref aMn, .ref aMl, .ref aMu, .ref aMP, .ref aMD, .int (nI lk), .ref aMC, .ref aMO, .int gn, .int gl, .int gg, .ref aMY, .int nn, .int nl, .int nu, .ref aMS, .long hs]))] := hD
      refine lv_aload_n hx hb dX7_setDeviations_29 rfl (lv_at hl 0 rfl) ?_
      refine va_get (D := (dC, dI)) (ci := 7) (v := .int 2) (C := RX7) (T := TX7) (N := 34) hx hb hts iX7 hown hK hP 2 rfl rfl 0 (by decide) w0 (fun _ h9 => h9) rfl dX7_setDeviations_30 ?_
      refine lv_if_le (tgt := 38) hx hb dX7_setDeviations_33 (by decide) (fun c33 => ?_) (fun c33 => ?_)
      · exact absurd c33 (by decide)
      · skip
        refine lv_iconst (v := 0) hx hb dX7_setDeviations_36 (by decide) ?_
        have r2 : 0 = (if sdC (inB z cnt) (devB x y) = 0 then up z.toNatClampNeg - lo z.toNatClampNeg else 0) := by first | (rw [if_pos hz]; done) | (rw [hz]; rfl)
        have q3 : (sdC (inB z cnt) (devB x y)) = 2 := by exact hz
        have q4 : (if sdC (inB z cnt) (devB x y) = 0 then upd lo z.toNatClampNeg x else lo) = lo := by first | (rw [if_pos hz]; done) | (rw [hz]; rfl)
        have q5 : (if sdC (inB z cnt) (devB x y) = 0 then upd up z.toNatClampNeg y else up) = up := by first | (rw [if_pos hz]; done) | (rw [hz]; rfl)
        have hP9 : va_P (dC, dI) vwCl [(aM, .inr (7, [.int (sdC (inB z cnt) (devB x y)), .int (nI n), .int (nI cnt), .ref aMF, .ref aMT, .ref aMN, .ref aML, .ref aMU, .int (nI ml), .ref aMB, .int (nI sg), .int (nI rm), .int (nI mdg), .int (nI mnb), .int (bI mng), .ref aMf, .ref aMt, .ref aMn, .ref aMl, .ref aMu, .ref aMP, .ref aMD, .int (nI lk), .ref aMC, .ref aMO, .int gn, .int gl, .int gg, .ref aMY, .int nn, .int nl, .int nu, .ref aMS, .long hs])), (aML, .inl (cyI, 20, .inl (if sdC (inB z cnt) (devB x y) = 0 then upd lo z.toNatClampNeg x else lo))), (aMU, .inl (cyI, 20, .inl (if sdC (inB z cnt) (devB x y) = 0 then upd up z.toNatClampNeg y else up)))] H := by first | (rw [q4, q5, q3]; exact hP.sub [2, 0, 1] rfl) | (simp only [q4, q5, q3]; exact hP.sub [2, 0, 1] rfl) | exact hP.sub [2, 0, 1] rfl
        have hD9 : va_D A [(aM, .inr (7, [.int (sdC (inB z cnt) (devB x y)), .int (nI n), .int (nI cnt), .ref aMF, .ref aMT, .ref aMN, .ref aML, .ref aMU, .int (nI ml), .ref aMB, .int (nI sg), .int (nI rm), .int (nI mdg), .int (nI mnb), .int (bI mng), .ref aMf, .ref aMt, .ref aMn, .ref aMl, .ref aMu, .ref aMP, .ref aMD, .int (nI lk), .ref aMC, .ref aMO, .int gn, .int gl, .int gg, .ref aMY, .int nn, .int nl, .int nu, .ref aMS, .long hs])), (aML, .inl (cyI, 20, .inl (if sdC (inB z cnt) (devB x y) = 0 then upd lo z.toNatClampNeg x else lo))), (aMU, .inl (cyI, 20, .inl (if sdC (inB z cnt) (devB x y) = 0 then upd up z.toNatClampNeg y else up)))] := by first | (rw [q4, q5, q3]; exact hD.sub [2, 0, 1] (by decide) rfl) | (simp only [q4, q5, q3]; exact hD.sub [2, 0, 1] (by decide) rfl) | exact hD.sub [2, 0, 1] (by decide) rfl
        rw [hQe]
        exact W.iret (v := 0) hx hb hr (fun t ht hW => ⟨⟨_, (), rfl, r2, by rw [ht]; exact hP9, va_K.moved hW.alike hK, hD9⟩, hS.F ht⟩) hS.2.2 dX7_setDeviations_37
    · have c18 : (devB x y) = true := bI_n0 c18
      have hz : sdC (inB z cnt) (devB x y) = 0 := by simp [sdC, c6, c18]
      refine lv_iconst (v := 0) hx hb dX7_setDeviations_21 (by decide) ?_
      refine lv_goto (tgt := 26) hx hb dX7_setDeviations_22 (by decide) ?_
      refine va_put (D := (dC, dI)) (ci := 7) (v := .int 0) (ty := .int) (C := RX7) (T := TX7) (N := 34) hx hb hts iX7 tyX7 tyX7_ok nmX7 hown hK hP hD hS 2 rfl rfl 0 (by decide) w0 (fun _ h9 => h9) rfl (by decide +kernel) rfl rfl (Nat.le_of_ble_eq_true rfl) dX7_setDeviations_26 (fun H locs hP hD hS => ?_)
      have hP : va_P (dC, dI) vwCl [(aML, .inl (cyI, 20, .inl lo)), (aMU, .inl (cyI, 20, .inl up)), (aM, .inr (7, [.int 0, .int (nI n), .int (nI cnt), .ref aMF, .ref aMT, .ref aMN, .ref aML, .ref aMU, .int (nI ml), .ref aMB, .int (nI sg), .int (nI rm), .int (nI mdg), .int (nI mnb), .int (bI mng), .ref aMf, .ref aMt, .ref aMn, .ref aMl, .ref aMu, .ref aMP, .ref aMD, .int (nI lk), .ref aMC, .ref aMO, .int gn, .int gl, .int gg, .ref aMY, .int nn, .int nl, .int nu, .ref aMS, .long hs]))] H := hP
      have hD : va_D A [(aML, .inl (cyI, 20, .inl lo)), (aMU, .inl (cyI, 20, .inl up)), (aM, .inr (7, [.int 0, .int (nI n), .int (nI cnt), .ref aMF, .ref aMT, .ref aMN, .ref aML, .ref aMU, .int (nI ml), .ref aMB, .int (nI sg), .int (nI rm), .int (nI mdg), .int (nI mnb), .int (bI mng), .ref aMf, .ref aMt, .ref aMn, .ref aMl, .ref aMu, .ref aMP, .ref aMD, .int (nI lk), .ref aMC, .ref aMO, .int gn, .int gl, .int gg, .ref aMY, .int nn, .int nl, .int nu, .ref aMS, .long hs]))] := hD
      refine lv_aload_n hx hb dX7_setDeviations_29 rfl (lv_at hl 0 rfl) ?_
      refine va_get (D := (dC, dI)) (ci := 7) (v := .int 0) (C := RX7) (T := TX7) (N := 34) hx hb hts iX7 hown hK hP 2 rfl rfl 0 (by decide) w0 (fun _ h9 => h9) rfl dX7_setDeviations_30 ?_
      refine lv_if_le (tgt := 38) hx hb dX7_setDeviations_33 (by decide) (fun c33 => ?_) (fun c33 => ?_)
      · skip
        refine lv_aload_n hx hb dX7_setDeviations_38 rfl (lv_at hl 0 rfl) ?_
        refine lv_iload_n hx hb dX7_setDeviations_39 rfl (lv_at hl 1 rfl) ?_
        refine lv_topi (fun x6 e7 => ?_)
        obtain rfl : x6 = (nI z.toNatClampNeg) := by rw [e7]; exact ix_eq (inB_vp c6 (by omega)) (by omega)
        clear e7
        have g8 : z.toNatClampNeg < 20 := by first | assumption | omega | exact vp_in_nI (by omega) (by omega)
        have hPc := hP.sub (ws' := [(aM, .inr (7, [.int 0, .int (nI n), .int (nI cnt), .ref aMF, .ref aMT, .ref aMN, .ref aML, .ref aMU, .int (nI ml), .ref aMB, .int (nI sg), .int (nI rm), .int (nI mdg), .int (nI mnb), .int (bI mng), .ref aMf, .ref aMt, .ref aMn, .ref aMl, .ref aMu, .ref aMP, .ref aMD, .int (nI lk), .ref aMC, .ref aMO, .int gn, .int gl, .int gg, .ref aMY, .int nn, .int nl, .int nu, .ref aMS, .long hs])), (aML, .inl (cyI, 20, .inl lo)), (aMU, .inl (cyI, 20, .inl up))]) [2, 0, 1] rfl
        have hDc := hD.sub (ws' := [(aM, .inr (7, [.int 0, .int (nI n), .int (nI cnt), .ref aMF, .ref aMT, .ref aMN, .ref aML, .ref aMU, .int (nI ml), .ref aMB, .int (nI sg), .int (nI rm), .int (nI mdg), .int (nI mnb), .int (bI mng), .ref aMf, .ref aMt, .ref aMn, .ref aMl, .ref aMu, .ref aMP, .ref aMD, .int (nI lk), .ref aMC, .ref aMO, .int gn, .int gl, .int gg, .ref aMY, .int nn, .int nl, .int nu, .ref aMS, .long hs])), (aML, .inl (cyI, 20, .inl lo)), (aMU, .inl (cyI, 20, .inl up))]) [2, 0, 1] (by decide) rfl
        have hFc := va_free (wc := [(aM, .inr (7, [.int 0, .int (nI n), .int (nI cnt), .ref aMF, .ref aMT, .ref aMN, .ref aML, .ref aMU, .int (nI ml), .ref aMB, .int (nI sg), .int (nI rm), .int (nI mdg), .int (nI mnb), .int (bI mng), .ref aMf, .ref aMt, .ref aMn, .ref aMl, .ref aMu, .ref aMP, .ref aMD, .int (nI lk), .ref aMC, .ref aMO, .int gn, .int gl, .int gg, .ref aMY, .int nn, .int nl, .int nu, .ref aMS, .long hs])), (aML, .inl (cyI, 20, .inl lo)), (aMU, .inl (cyI, 20, .inl up))]) hD hS hA [2, 0, 1] rfl
        refine va_calli (va_runV (As := [.int (nI z.toNatClampNeg)]) (rest := []) ⟨hx, hb, hml, hown, hts⟩ (c_X7_width l dC dI cyI cyZ cyJ cyD aM aMF aMT aMN aML aMU aMB aMf aMt aMn aMl aMu aMP aMD aMC aMO aMY aMS H.size 0 n cnt ml sg rm mdg mnb mng lk gn gl gg nn nl nu hs lo up z.toNatClampNeg g8) (cwV 1 hts gX7_setDeviations_X7_width rfl rfl rfl (by decide +kernel) ⟨Nat.le_of_ble_eq_true rfl, Nat.le_of_ble_eq_true rfl⟩) ⟨fun a U g mk q => by obtain ⟨q0, q1, qP, qK, qD⟩ := q; exact ⟨q0, q1, qP, va_K.moved (u := U) (U := U.calling g mk a) (Vm.Alike.refl U.vm) qK, qD⟩, va_recv hK hPc (ci := 7) (q0 := 0) rfl rfl, fun U hU hW => ⟨rfl, by rw [hU], by rw [hU]; exact hPc, va_K.moved hW.alike hK, hDc.weaken (fun _ _ _ _ => trivial)⟩⟩ rfl rfl hl.1 rfl (lv_room (Nat.le_of_ble_eq_true rfl)) dX7_setDeviations_40 ⟨Nat.le_of_ble_eq_true rfl, Nat.le_of_ble_eq_true rfl⟩) hS (fun q _ h => hFc q h) hFc (fun r u t H1 locs ht hvm hw hB hz1 hk1 hS => ?_)
        obtain rfl := hw
        obtain ⟨hP1, hK1, hD1⟩ := hB
        rw [ht] at hP1
        obtain ⟨hP, hD⟩ := va_join (wr := []) (w1 := [(aM, .inr (7, [.int 0, .int (nI n), .int (nI cnt), .ref aMF, .ref aMT, .ref aMN, .ref aML, .ref aMU, .int (nI ml), .ref aMB, .int (nI sg), .int (nI rm), .int (nI mdg), .int (nI mnb), .int (bI mng), .ref aMf, .ref aMt, .ref aMn, .ref aMl, .ref aMu, .ref aMP, .ref aMD, .int (nI lk), .ref aMC, .ref aMO, .int gn, .int gl, .int gg, .ref aMY, .int nn, .int nl, .int nu, .ref aMS, .long hs])), (aML, .inl (cyI, 20, .inl lo)), (aMU, .inl (cyI, 20, .inl up))]) hP hD [2, 0, 1] [] rfl rfl (by decide) (by decide) hk1 hFc hP1 hD1
        clear hP1 hD1 hK1 hPc hDc hFc hk1 hz1 hvm ht u t
        generalize H1 = H at hP hS ⊢
        have hP : va_P (dC, dI) vwCl [(aM, .inr (7, [.int 0, .int (nI n), .int (nI cnt), .ref aMF, .ref aMT, .ref aMN, .ref aML, .ref aMU, .int (nI ml), .ref aMB, .int (nI sg), .int (nI rm), .int (nI mdg), .int (nI mnb), .int (bI mng), .ref aMf, .ref aMt, .ref aMn, .ref aMl, .ref aMu, .ref aMP, .ref aMD, .int (nI lk), .ref aMC, .ref aMO, .int gn, .int gl, .int gg, .ref aMY, .int nn, .int nl, .int nu, .ref aMS, .long hs])), (aML, .inl (cyI, 20, .inl lo)), (aMU, .inl (cyI, 20, .inl up))] H := hP
        have hD : va_D A [(aM, .inr (7, [.int 0, .int (nI n), .int (nI cnt), .ref aMF, .ref aMT, .ref aMN, .ref aML, .ref aMU, .int (nI ml), .ref aMB, .int (nI sg), .int (nI rm), .int (nI mdg), .int (nI mnb), .int (bI mng), .ref aMf, .ref aMt, .ref aMn, .ref aMl, .ref aMu, .ref aMP, .ref aMD, .int (nI lk), .ref aMC, .ref aMO, .int gn, .int gl, .int gg, .ref aMY, .int nn, .int nl, .int nu, .ref aMS, .long hs])), (aML, .inl (cyI, 20, .inl lo)), (aMU, .inl (cyI, 20, .inl up))] := hD
        refine lv_istore (lv' := [(4, .int (up z.toNatClampNeg - lo z.toNatClampNeg)), (0, .ref aM), (1, .int z), (2, .int x), (3, .int y)]) hx hb dX7_setDeviations_43 hl (by decide) rfl (fun ls hl => ?_)
        refine lv_aload_n hx hb dX7_setDeviations_45 rfl (lv_at hl 1 rfl) ?_
        refine va_get (D := (dC, dI)) (ci := 7) (v := .ref aML) (C := RX7) (T := TX7) (N := 34) hx hb hts iX7 hown hK hP 0 rfl rfl 6 (by decide) w1 (fun _ h9 => h9) rfl dX7_setDeviations_46 ?_
        refine lv_iload_n hx hb dX7_setDeviations_49 rfl (lv_at hl 2 rfl) ?_
        refine lv_topi (fun x9 e10 => ?_)
        obtain rfl : x9 = (nI z.toNatClampNeg) := by rw [e10]; exact ix_eq (inB_vp c6 (by omega)) (by omega)
        clear e10
        refine lv_iload_n hx hb dX7_setDeviations_50 rfl (lv_at hl 3 rfl) ?_
        have h11 : vp_in (nI z.toNatClampNeg) 20 := by first | exact vp_in_nI (by omega) (by omega) | assumption
        refine va_iast hx hb hK hP hD hS 1 0 rfl rfl h11 dX7_setDeviations_51 (fun H locs hP hD hS => ?_)
        rw [nI_clamp (by omega)] at hP hD
        have hP : va_P (dC, dI) vwCl [(aM, .inr (7, [.int 0, .int (nI n), .int (nI cnt), .ref aMF, .ref aMT, .ref aMN, .ref aML, .ref aMU, .int (nI ml), .ref aMB, .int (nI sg), .int (nI rm), .int (nI mdg), .int (nI mnb), .int (bI mng), .ref aMf, .ref aMt, .ref aMn, .ref aMl, .ref aMu, .ref aMP, .ref aMD, .int (nI lk), .ref aMC, .ref aMO, .int gn, .int gl, .int gg, .ref aMY, .int nn, .int nl, .int nu, .ref aMS, .long hs])), (aML, .inl (cyI, 20, .inl (upd lo z.toNatClampNeg x))), (aMU, .inl (cyI, 20, .inl up))] H := hP
        have hD : va_D A [(aM, .inr (7, [.int 0, .int (nI n), .int (nI cnt), .ref aMF, .ref aMT, .ref aMN, .ref aML, .ref aMU, .int (nI ml), .ref aMB, .int (nI sg), .int (nI rm), .int (nI mdg), .int (nI mnb), .int (bI mng), .ref aMf, .ref aMt, .ref aMn, .ref aMl, .ref aMu, .ref aMP, .ref aMD, .int (nI lk), .ref aMC, .ref aMO, .int gn, .int gl, .int gg, .ref aMY, .int nn, .int nl, .int nu, .ref aMS, .long hs])), (aML, .inl (cyI, 20, .inl (upd lo z.toNatClampNeg x))), (aMU, .inl (cyI, 20, .inl up))] := hD
        refine lv_aload_n hx hb dX7_setDeviations_52 rfl (lv_at hl 1 rfl) ?_
        refine va_get (D := (dC, dI)) (ci := 7) (v := .ref aMU) (C := RX7) (T := TX7) (N := 34) hx hb hts iX7 hown hK hP 0 rfl rfl 7 (by decide) w2 (fun _ h9 => h9) rfl dX7_setDeviations_53 ?_
        refine lv_iload_n hx hb dX7_setDeviations_56 rfl (lv_at hl 2 rfl) ?_
        refine lv_topi (fun x12 e13 => ?_)
        obtain rfl : x12 = (nI z.toNatClampNeg) := by rw [e13]; exact ix_eq (inB_vp c6 (by omega)) (by omega)
        clear e13
        refine lv_iload_n hx hb dX7_setDeviations_57 rfl (lv_at hl 4 rfl) ?_
        have h14 : vp_in (nI z.toNatClampNeg) 20 := by first | exact vp_in_nI (by omega) (by omega) | assumption
        refine va_iast hx hb hK hP hD hS 2 0 rfl rfl h14 dX7_setDeviations_58 (fun H locs hP hD hS => ?_)
        rw [nI_clamp (by omega)] at hP hD
        have hP : va_P (dC, dI) vwCl [(aM, .inr (7, [.int 0, .int (nI n), .int (nI cnt), .ref aMF, .ref aMT, .ref aMN, .ref aML, .ref aMU, .int (nI ml), .ref aMB, .int (nI sg), .int (nI rm), .int (nI mdg), .int (nI mnb), .int (bI mng), .ref aMf, .ref aMt, .ref aMn, .ref aMl, .ref aMu, .ref aMP, .ref aMD, .int (nI lk), .ref aMC, .ref aMO, .int gn, .int gl, .int gg, .ref aMY, .int nn, .int nl, .int nu, .ref aMS, .long hs])), (aML, .inl (cyI, 20, .inl (upd lo z.toNatClampNeg x))), (aMU, .inl (cyI, 20, .inl (upd up z.toNatClampNeg y)))] H := hP
        have hD : va_D A [(aM, .inr (7, [.int 0, .int (nI n), .int (nI cnt), .ref aMF, .ref aMT, .ref aMN, .ref aML, .ref aMU, .int (nI ml), .ref aMB, .int (nI sg), .int (nI rm), .int (nI mdg), .int (nI mnb), .int (bI mng), .ref aMf, .ref aMt, .ref aMn, .ref aMl, .ref aMu, .ref aMP, .ref aMD, .int (nI lk), .ref aMC, .ref aMO, .int gn, .int gl, .int gg, .ref aMY, .int nn, .int nl, .int nu, .ref aMS, .long hs])), (aML, .inl (cyI, 20, .inl (upd lo z.toNatClampNeg x))), (aMU, .inl (cyI, 20, .inl (upd up z.toNatClampNeg y)))] := hD
        refine lv_iload hx hb dX7_setDeviations_59 (lv_at hl 0 rfl) ?_
        have r15 : (up z.toNatClampNeg - lo z.toNatClampNeg) = (if sdC (inB z cnt) (devB x y) = 0 then up z.toNatClampNeg - lo z.toNatClampNeg else 0) := by first | (rw [if_pos hz]; done) | (rw [hz]; rfl)
        have q16 : (sdC (inB z cnt) (devB x y)) = 0 := by exact hz
        have q17 : (if sdC (inB z cnt) (devB x y) = 0 then upd lo z.toNatClampNeg x else lo) = (upd lo z.toNatClampNeg x) := by first | (rw [if_pos hz]; done) | (rw [hz]; rfl)
        have q18 : (if sdC (inB z cnt) (devB x y) = 0 then upd up z.toNatClampNeg y else up) = (upd up z.toNatClampNeg y) := by first | (rw [if_pos hz]; done) | (rw [hz]; rfl)
        have hP9 : va_P (dC, dI) vwCl [(aM, .inr (7, [.int (sdC (inB z cnt) (devB x y)), .int (nI n), .int (nI cnt), .ref aMF, .ref aMT, .ref aMN, .ref aML, .ref aMU, .int (nI ml), .ref aMB, .int (nI sg), .int (nI rm), .int (nI mdg), .int (nI mnb), .int (bI mng), .ref aMf, .ref aMt, .ref aMn, .ref aMl, .ref aMu, .ref aMP, .ref aMD, .int (nI lk), .ref aMC, .ref aMO, .int gn, .int gl, .int gg, .ref aMY, .int nn, .int nl, .int nu, .ref aMS, .long hs])), (aML, .inl (cyI, 20, .inl (if sdC (inB z cnt) (devB x y) = 0 then upd lo z.toNatClampNeg x else lo))), (aMU, .inl (cyI, 20, .inl (if sdC (inB z cnt) (devB x y) = 0 then upd up z.toNatClampNeg y else up)))] H := by first | (rw [q17, q18, q16]; exact hP.sub [0, 1, 2] rfl) | (simp only [q17, q18, q16]; exact hP.sub [0, 1, 2] rfl) | exact hP.sub [0, 1, 2] rfl
        have hD9 : va_D A [(aM, .inr (7, [.int (sdC (inB z cnt) (devB x y)), .int (nI n), .int (nI cnt), .ref aMF, .ref aMT, .ref aMN, .ref aML, .ref aMU, .int (nI ml), .ref aMB, .int (nI sg), .int (nI rm), .int (nI mdg), .int (nI mnb), .int (bI mng), .ref aMf, .ref aMt, .ref aMn, .ref aMl, .ref aMu, .ref aMP, .ref aMD, .int (nI lk), .ref aMC, .ref aMO, .int gn, .int gl, .int gg, .ref aMY, .int nn, .int nl, .int nu, .ref aMS, .long hs])), (aML, .inl (cyI, 20, .inl (if sdC (inB z cnt) (devB x y) = 0 then upd lo z.toNatClampNeg x else lo))), (aMU, .inl (cyI, 20, .inl (if sdC (inB z cnt) (devB x y) = 0 then upd up z.toNatClampNeg y else up)))] := by first | (rw [q17, q18, q16]; exact hD.sub [0, 1, 2] (by decide) rfl) | (simp only [q17, q18, q16]; exact hD.sub [0, 1, 2] (by decide) rfl) | exact hD.sub [0, 1, 2] (by decide) rfl
        rw [hQe]
        exact W.iret (v := up z.toNatClampNeg - lo z.toNatClampNeg) hx hb hr (fun t ht hW => ⟨⟨_, (), rfl, r15, by rw [ht]; exact hP9, va_K.moved hW.alike hK, hD9⟩, hS.F ht⟩) hS.2.2 dX7_setDeviations_61
      · exact absurd c33 (by decide)
  · have c6 : (inB z cnt) = false := bI_0 c6
    have hz : sdC (inB z cnt) (devB x y) = 1 := by simp [sdC, c6]
    refine lv_iconst (v := 1) hx hb dX7_setDeviations_9 (by decide) ?_
    refine lv_goto (tgt := 26) hx hb dX7_setDeviations_10 (by decide) ?_
    refine va_put (D := (dC, dI)) (ci := 7) (v := .int 1) (ty := .int) (C := RX7) (T := TX7) (N := 34) hx hb hts iX7 tyX7 tyX7_ok nmX7 hown hK hP hD hS 2 rfl rfl 0 (by decide) w0 (fun _ h9 => h9) rfl (by decide +kernel) rfl rfl (Nat.le_of_ble_eq_true rfl) dX7_setDeviations_26 (fun H locs hP hD hS => ?_)
    have hP : va_P (dC, dI) vwCl [(aML, .inl (cyI, 20, .inl lo)), (aMU, .inl (cyI, 20, .inl up)), (aM, .inr (7, [.int 1, .int (nI n), .int (nI cnt), .ref aMF, .ref aMT, .ref aMN, .ref aML, .ref aMU, .int (nI ml), .ref aMB, .int (nI sg), .int (nI rm), .int (nI mdg), .int (nI mnb), .int (bI mng), .ref aMf, .ref aMt, .ref aMn, .ref aMl, .ref aMu, .ref aMP, .ref aMD, .int (nI lk), .ref aMC, .ref aMO, .int gn, .int gl, .int gg, .ref aMY, .int nn, .int nl, .int nu, .ref aMS, .long hs]))] H := hP
    have hD : va_D A [(aML, .inl (cyI, 20, .inl lo)), (aMU, .inl (cyI, 20, .inl up)), (aM, .inr (7, [.int 1, .int (nI n), .int (nI cnt), .ref aMF, .ref aMT, .ref aMN, .ref aML, .ref aMU, .int (nI ml), .ref aMB, .int (nI sg), .int (nI rm), .int (nI mdg), .int (nI mnb), .int (bI mng), .ref aMf, .ref aMt, .ref aMn, .ref aMl, .ref aMu, .ref aMP, .ref aMD, .int (nI lk), .ref aMC, .ref aMO, .int gn, .int gl, .int gg, .ref aMY, .int nn, .int nl, .int nu, .ref aMS, .long hs]))] := hD
    refine lv_aload_n hx hb dX7_setDeviations_29 rfl (lv_at hl 0 rfl) ?_
    refine va_get (D := (dC, dI)) (ci := 7) (v := .int 1) (C := RX7) (T := TX7) (N := 34) hx hb hts iX7 hown hK hP 2 rfl rfl 0 (by decide) w0 (fun _ h9 => h9) rfl dX7_setDeviations_30 ?_
    refine lv_if_le (tgt := 38) hx hb dX7_setDeviations_33 (by decide) (fun c33 => ?_) (fun c33 => ?_)
    · exact absurd c33 (by decide)
    · skip
      refine lv_iconst (v := 0) hx hb dX7_setDeviations_36 (by decide) ?_
      have r19 : 0 = (if sdC (inB z cnt) (devB x y) = 0 then up z.toNatClampNeg - lo z.toNatClampNeg else 0) := by first | (rw [if_pos hz]; done) | (rw [hz]; rfl)
      have q20 : (sdC (inB z cnt) (devB x y)) = 1 := by exact hz
      have q21 : (if sdC (inB z cnt) (devB x y) = 0 then upd lo z.toNatClampNeg x else lo) = lo := by first | (rw [if_pos hz]; done) | (rw [hz]; rfl)
      have q22 : (if sdC (inB z cnt) (devB x y) = 0 then upd up z.toNatClampNeg y else up) = up := by first | (rw [if_pos hz]; done) | (rw [hz]; rfl)
      have hP9 : va_P (dC, dI) vwCl [(aM, .inr (7, [.int (sdC (inB z cnt) (devB x y)), .int (nI n), .int (nI cnt), .ref aMF, .ref aMT, .ref aMN, .ref aML, .ref aMU, .int (nI ml), .ref aMB, .int (nI sg), .int (nI rm), .int (nI mdg), .int (nI mnb), .int (bI mng), .ref aMf, .ref aMt, .ref aMn, .ref aMl, .ref aMu, .ref aMP, .ref aMD, .int (nI lk), .ref aMC, .ref aMO, .int gn, .int gl, .int gg, .ref aMY, .int nn, .int nl, .int nu, .ref aMS, .long hs])), (aML, .inl (cyI, 20, .inl (if sdC (inB z cnt) (devB x y) = 0 then upd lo z.toNatClampNeg x else lo))), (aMU, .inl (cyI, 20, .inl (if sdC (inB z cnt) (devB x y) = 0 then upd up z.toNatClampNeg y else up)))] H := by first | (rw [q21, q22, q20]; exact hP.sub [2, 0, 1] rfl) | (simp only [q21, q22, q20]; exact hP.sub [2, 0, 1] rfl) | exact hP.sub [2, 0, 1] rfl
      have hD9 : va_D A [(aM, .inr (7, [.int (sdC (inB z cnt) (devB x y)), .int (nI n), .int (nI cnt), .ref aMF, .ref aMT, .ref aMN, .ref aML, .ref aMU, .int (nI ml), .ref aMB, .int (nI sg), .int (nI rm), .int (nI mdg), .int (nI mnb), .int (bI mng), .ref aMf, .ref aMt, .ref aMn, .ref aMl, .ref aMu, .ref aMP, .ref aMD, .int (nI lk), .ref aMC, .ref aMO, .int gn, .int gl, .int gg, .ref aMY, .int nn, .int nl, .int nu, .ref aMS, .long hs])), (aML, .inl (cyI, 20, .inl (if sdC (inB z cnt) (devB x y) = 0 then upd lo z.toNatClampNeg x else lo))), (aMU, .inl (cyI, 20, .inl (if sdC (inB z cnt) (devB x y) = 0 then upd up z.toNatClampNeg y else up)))] := by first | (rw [q21, q22, q20]; exact hD.sub [2, 0, 1] (by decide) rfl) | (simp only [q21, q22, q20]; exact hD.sub [2, 0, 1] (by decide) rfl) | exact hD.sub [2, 0, 1] (by decide) rfl
      rw [hQe]
      exact W.iret (v := 0) hx hb hr (fun t ht hW => ⟨⟨_, (), rfl, r19, by rw [ht]; exact hP9, va_K.moved hW.alike hK, hD9⟩, hS.F ht⟩) hS.2.2 dX7_setDeviations_37
set_option maxHeartbeats 4000000 in
set_option maxRecDepth 100000 in
theorem c_X7_property (l : Launch) (dC : Nat → ClassId) (dI : Nat → Nat → Nat) (cyI cyZ cyJ cyD : ClassId) (aM aMF aMT aMN aML aMU aMB aMf aMt aMn aMl aMu aMP aMD aMC aMO aMY aMS : Nat) (zH : Nat) (th : Int32) (n : Nat) (cnt : Nat) (ml : Nat) (sg : Nat) (rm : Nat) (mdg : Nat) (mnb : Nat) (mng : Bool) (lk : Nat) (gn : Int32) (gl : Int32) (gg : Int32) (nn : Int32) (nl : Int32) (nu : Int32) (hs : Int64) (F : Nat → Nat) (T : Nat → Nat) (nm : Nat → Int32) (lo : Nat → Int32) (up : Nat → Int32) (z : Int32) (x : Int32) (hc : cnt ≤ 20) : Met l yX7_property wsX7_property ({ frames := 2, cells := 0, slots := 0, locals := 43 } : Room) (va_Pc [.ref aM, .int z, .int x] (fun U => U.heap.size = zH ∧ va_P (dC, dI) vwCl [(aM, .inr (7, [.int th, .int (nI n), .int (nI cnt), .ref aMF, .ref aMT, .ref aMN, .ref aML, .ref aMU, .int (nI ml), .ref aMB, .int (nI sg), .int (nI rm), .int (nI mdg), .int (nI mnb), .int (bI mng), .ref aMf, .ref aMt, .ref aMn, .ref aMl, .ref aMu, .ref aMP, .ref aMD, .int (nI lk), .ref aMC, .ref aMO, .int gn, .int gl, .int gg, .ref aMY, .int nn, .int nl, .int nu, .ref aMS, .long hs])), (aMF, .inl (cyI, 20, .inl (fun j_ => nI (F j_)))), (aMT, .inl (cyI, 20, .inl (fun j_ => nI (T j_)))), (aMN, .inl (cyI, 20, .inl nm)), (aML, .inl (cyI, 20, .inl lo)), (aMU, .inl (cyI, 20, .inl up))] U.heap ∧ va_K (dC, dI) vwCl [(cyI, .int), (cyZ, .boolean), (cyJ, .long), (cyD, .double)] U ∧ va_D (fun _ => True) [(aM, .inr (7, [.int th, .int (nI n), .int (nI cnt), .ref aMF, .ref aMT, .ref aMN, .ref aML, .ref aMU, .int (nI ml), .ref aMB, .int (nI sg), .int (nI rm), .int (nI mdg), .int (nI mnb), .int (bI mng), .ref aMf, .ref aMt, .ref aMn, .ref aMl, .ref aMu, .ref aMP, .ref aMD, .int (nI lk), .ref aMC, .ref aMO, .int gn, .int gl, .int gg, .ref aMY, .int nn, .int nl, .int nu, .ref aMS, .long hs])), (aMF, .inl (cyI, 20, .inl (fun j_ => nI (F j_)))), (aMT, .inl (cyI, 20, .inl (fun j_ => nI (T j_)))), (aMN, .inl (cyI, 20, .inl nm)), (aML, .inl (cyI, 20, .inl lo)), (aMU, .inl (cyI, 20, .inl up))])) (va_Qi (fun (r : Int32) (_ : Unit) => r = if sdC (inB z cnt) (wtn x 0 4) = 0 then tld F T nm lo up z.toNatClampNeg x.toNatClampNeg else 0) (fun _ t => va_P (dC, dI) vwCl [(aM, .inr (7, [.int (sdC (inB z cnt) (wtn x 0 4)), .int (nI n), .int (nI cnt), .ref aMF, .ref aMT, .ref aMN, .ref aML, .ref aMU, .int (nI ml), .ref aMB, .int (nI sg), .int (nI rm), .int (nI mdg), .int (nI mnb), .int (bI mng), .ref aMf, .ref aMt, .ref aMn, .ref aMl, .ref aMu, .ref aMP, .ref aMD, .int (nI lk), .ref aMC, .ref aMO, .int gn, .int gl, .int gg, .ref aMY, .int nn, .int nl, .int nu, .ref aMS, .long hs])), (aMF, .inl (cyI, 20, .inl (fun j_ => nI (F j_)))), (aMT, .inl (cyI, 20, .inl (fun j_ => nI (T j_)))), (aMN, .inl (cyI, 20, .inl nm)), (aML, .inl (cyI, 20, .inl lo)), (aMU, .inl (cyI, 20, .inl up))] t.heap ∧ va_K (dC, dI) vwCl [(cyI, .int), (cyZ, .boolean), (cyJ, .long), (cyD, .double)] t ∧ va_D (va_A [(aM, .inr (7, [.int th, .int (nI n), .int (nI cnt), .ref aMF, .ref aMT, .ref aMN, .ref aML, .ref aMU, .int (nI ml), .ref aMB, .int (nI sg), .int (nI rm), .int (nI mdg), .int (nI mnb), .int (bI mng), .ref aMf, .ref aMt, .ref aMn, .ref aMl, .ref aMu, .ref aMP, .ref aMD, .int (nI lk), .ref aMC, .ref aMO, .int gn, .int gl, .int gg, .ref aMY, .int nn, .int nl, .int nu, .ref aMS, .long hs])), (aMF, .inl (cyI, 20, .inl (fun j_ => nI (F j_)))), (aMT, .inl (cyI, 20, .inl (fun j_ => nI (T j_)))), (aMN, .inl (cyI, 20, .inl nm)), (aML, .inl (cyI, 20, .inl lo)), (aMU, .inl (cyI, 20, .inl up))] zH) [(aM, .inr (7, [.int (sdC (inB z cnt) (wtn x 0 4)), .int (nI n), .int (nI cnt), .ref aMF, .ref aMT, .ref aMN, .ref aML, .ref aMU, .int (nI ml), .ref aMB, .int (nI sg), .int (nI rm), .int (nI mdg), .int (nI mnb), .int (bI mng), .ref aMf, .ref aMt, .ref aMn, .ref aMl, .ref aMu, .ref aMP, .ref aMD, .int (nI lk), .ref aMC, .ref aMO, .int gn, .int gl, .int gg, .ref aMY, .int nn, .int nl, .int nu, .ref aMS, .long hs])), (aMF, .inl (cyI, 20, .inl (fun j_ => nI (F j_)))), (aMT, .inl (cyI, 20, .inl (fun j_ => nI (T j_)))), (aMN, .inl (cyI, 20, .inl nm)), (aML, .inl (cyI, 20, .inl lo)), (aMU, .inl (cyI, 20, .inl up))]) (va_A [(aM, .inr (7, [.int th, .int (nI n), .int (nI cnt), .ref aMF, .ref aMT, .ref aMN, .ref aML, .ref aMU, .int (nI ml), .ref aMB, .int (nI sg), .int (nI rm), .int (nI mdg), .int (nI mnb), .int (bI mng), .ref aMf, .ref aMt, .ref aMn, .ref aMl, .ref aMu, .ref aMP, .ref aMD, .int (nI lk), .ref aMC, .ref aMO, .int gn, .int gl, .int gg, .ref aMY, .int nn, .int nl, .int nu, .ref aMS, .long hs])), (aMF, .inl (cyI, 20, .inl (fun j_ => nI (F j_)))), (aMT, .inl (cyI, 20, .inl (fun j_ => nI (T j_)))), (aMN, .inl (cyI, 20, .inl nm)), (aML, .inl (cyI, 20, .inl lo)), (aMU, .inl (cyI, 20, .inl up))] zH)) 0 0 (va_A [(aM, .inr (7, [.int th, .int (nI n), .int (nI cnt), .ref aMF, .ref aMT, .ref aMN, .ref aML, .ref aMU, .int (nI ml), .ref aMB, .int (nI sg), .int (nI rm), .int (nI mdg), .int (nI mnb), .int (bI mng), .ref aMf, .ref aMt, .ref aMn, .ref aMl, .ref aMu, .ref aMP, .ref aMD, .int (nI lk), .ref aMC, .ref aMO, .int gn, .int gl, .int gg, .ref aMY, .int nn, .int nl, .int nu, .ref aMS, .long hs])), (aMF, .inl (cyI, 20, .inl (fun j_ => nI (F j_)))), (aMT, .inl (cyI, 20, .inl (fun j_ => nI (T j_)))), (aMN, .inl (cyI, 20, .inl nm)), (aML, .inl (cyI, 20, .inl lo)), (aMU, .inl (cyI, 20, .inl up))] zH) := by
  refine Met.ofW (cc := cX7_property) (maxL := 3) (ret := (some .int)) (by decide) rfl ?_
  intro pM eM s mM args blM mtM cM s₁ BM hml hv
  obtain ⟨rfl, hsz, hP, hK, hD0⟩ := hv
  have hx := BM.exec
  have hb := BM.bytes
  have hr := BM.returns
  have hts := atoms_spec (ws := wsX7_property) BM.pre
  have hown : s.vm.findClass RX7 = some mM.cls := findClass_of_methodNamed BM.named
  have hlocks := BM.notSynchronized
  have w0 := hts (.fieldLink RX7 67 "DimensionCheckerModel" "thrown" "I") (by decide +kernel)
  have iX7 : ∀ w ∈ wsX70, w ∈ wsX7_property := by decide +kernel
  subst hsz
  have hD := hD0.self (sz := s.heap.size)
  obtain ⟨Q, hQe⟩ : ∃ Q : State → Prop, Q = MQ blM (va_Qi (fun (r : Int32) (_ : Unit) => r = if sdC (inB z cnt) (wtn x 0 4) = 0 then tld F T nm lo up z.toNatClampNeg x.toNatClampNeg else 0) (fun _ t => va_P (dC, dI) vwCl [(aM, .inr (7, [.int (sdC (inB z cnt) (wtn x 0 4)), .int (nI n), .int (nI cnt), .ref aMF, .ref aMT, .ref aMN, .ref aML, .ref aMU, .int (nI ml), .ref aMB, .int (nI sg), .int (nI rm), .int (nI mdg), .int (nI mnb), .int (bI mng), .ref aMf, .ref aMt, .ref aMn, .ref aMl, .ref aMu, .ref aMP, .ref aMD, .int (nI lk), .ref aMC, .ref aMO, .int gn, .int gl, .int gg, .ref aMY, .int nn, .int nl, .int nu, .ref aMS, .long hs])), (aMF, .inl (cyI, 20, .inl (fun j_ => nI (F j_)))), (aMT, .inl (cyI, 20, .inl (fun j_ => nI (T j_)))), (aMN, .inl (cyI, 20, .inl nm)), (aML, .inl (cyI, 20, .inl lo)), (aMU, .inl (cyI, 20, .inl up))] t.heap ∧ va_K (dC, dI) vwCl [(cyI, .int), (cyZ, .boolean), (cyJ, .long), (cyD, .double)] t ∧ va_D (va_A [(aM, .inr (7, [.int th, .int (nI n), .int (nI cnt), .ref aMF, .ref aMT, .ref aMN, .ref aML, .ref aMU, .int (nI ml), .ref aMB, .int (nI sg), .int (nI rm), .int (nI mdg), .int (nI mnb), .int (bI mng), .ref aMf, .ref aMt, .ref aMn, .ref aMl, .ref aMu, .ref aMP, .ref aMD, .int (nI lk), .ref aMC, .ref aMO, .int gn, .int gl, .int gg, .ref aMY, .int nn, .int nl, .int nu, .ref aMS, .long hs])), (aMF, .inl (cyI, 20, .inl (fun j_ => nI (F j_)))), (aMT, .inl (cyI, 20, .inl (fun j_ => nI (T j_)))), (aMN, .inl (cyI, 20, .inl nm)), (aML, .inl (cyI, 20, .inl lo)), (aMU, .inl (cyI, 20, .inl up))] s.heap.size) [(aM, .inr (7, [.int (sdC (inB z cnt) (wtn x 0 4)), .int (nI n), .int (nI cnt), .ref aMF, .ref aMT, .ref aMN, .ref aML, .ref aMU, .int (nI ml), .ref aMB, .int (nI sg), .int (nI rm), .int (nI mdg), .int (nI mnb), .int (bI mng), .ref aMf, .ref aMt, .ref aMn, .ref aMl, .ref aMu, .ref aMP, .ref aMD, .int (nI lk), .ref aMC, .ref aMO, .int gn, .int gl, .int gg, .ref aMY, .int nn, .int nl, .int nu, .ref aMS, .long hs])), (aMF, .inl (cyI, 20, .inl (fun j_ => nI (F j_)))), (aMT, .inl (cyI, 20, .inl (fun j_ => nI (T j_)))), (aMN, .inl (cyI, 20, .inl nm)), (aML, .inl (cyI, 20, .inl lo)), (aMU, .inl (cyI, 20, .inl up))]) (va_A [(aM, .inr (7, [.int th, .int (nI n), .int (nI cnt), .ref aMF, .ref aMT, .ref aMN, .ref aML, .ref aMU, .int (nI ml), .ref aMB, .int (nI sg), .int (nI rm), .int (nI mdg), .int (nI mnb), .int (bI mng), .ref aMf, .ref aMt, .ref aMn, .ref aMl, .ref aMu, .ref aMP, .ref aMD, .int (nI lk), .ref aMC, .ref aMO, .int gn, .int gl, .int gg, .ref aMY, .int nn, .int nl, .int nu, .ref aMS, .long hs])), (aMF, .inl (cyI, 20, .inl (fun j_ => nI (F j_)))), (aMT, .inl (cyI, 20, .inl (fun j_ => nI (T j_)))), (aMN, .inl (cyI, 20, .inl nm)), (aML, .inl (cyI, 20, .inl lo)), (aMU, .inl (cyI, 20, .inl up))] s.heap.size)) ([.ref aM, .int z, .int x] : List Value).toArray s 0 0 (va_A [(aM, .inr (7, [.int th, .int (nI n), .int (nI cnt), .ref aMF, .ref aMT, .ref aMN, .ref aML, .ref aMU, .int (nI ml), .ref aMB, .int (nI sg), .int (nI rm), .int (nI mdg), .int (nI mnb), .int (bI mng), .ref aMf, .ref aMt, .ref aMn, .ref aMl, .ref aMu, .ref aMP, .ref aMD, .int (nI lk), .ref aMC, .ref aMO, .int gn, .int gl, .int gg, .ref aMY, .int nn, .int nl, .int nu, .ref aMS, .long hs])), (aMF, .inl (cyI, 20, .inl (fun j_ => nI (F j_)))), (aMT, .inl (cyI, 20, .inl (fun j_ => nI (T j_)))), (aMN, .inl (cyI, 20, .inl nm)), (aML, .inl (cyI, 20, .inl lo)), (aMU, .inl (cyI, 20, .inl up))] s.heap.size) := ⟨_, rfl⟩
  rw [← hQe]
  generalize hAe : va_A [(aM, .inr (7, [.int th, .int (nI n), .int (nI cnt), .ref aMF, .ref aMT, .ref aMN, .ref aML, .ref aMU, .int (nI ml), .ref aMB, .int (nI sg), .int (nI rm), .int (nI mdg), .int (nI mnb), .int (bI mng), .ref aMf, .ref aMt, .ref aMn, .ref aMl, .ref aMu, .ref aMP, .ref aMD, .int (nI lk), .ref aMC, .ref aMO, .int gn, .int gl, .int gg, .ref aMY, .int nn, .int nl, .int nu, .ref aMS, .long hs])), (aMF, .inl (cyI, 20, .inl (fun j_ => nI (F j_)))), (aMT, .inl (cyI, 20, .inl (fun j_ => nI (T j_)))), (aMN, .inl (cyI, 20, .inl nm)), (aML, .inl (cyI, 20, .inl lo)), (aMU, .inl (cyI, 20, .inl up))] s.heap.size = A at hD hQe
  have hA : ∀ q : Nat, s.heap.size ≤ q → A q := fun q h => by rw [← hAe]; exact Or.inr h
  obtain ⟨H, hHe⟩ : ∃ H : Heap, H = s.heap := ⟨_, rfl⟩
  have hS : va_S A s.heap H [] := by rw [hHe]; exact va_S.rf
  rw [← hHe] at hP ⊢
  have hl := lv_entry ([.ref aM, .int z, .int x]) (n := 3) (Nat.le_of_ble_eq_true rfl)
  rw [lg_entry_eq]
  generalize (lg_sl ([.ref aM, .int z, .int x]) ++ List.replicate (3 - (lg_sl ([.ref aM, .int z, .int x])).length) Slot.unset).toArray = ls at hl ⊢
  have hl : lv_has ls 3 [(0, .ref aM), (1, .int z), (2, .int x)] := hl
  refine lv_aload_n hx hb dX7_property_0 rfl (lv_at hl 0 rfl) ?_
  refine lv_aload_n hx hb dX7_property_1 rfl (lv_at hl 0 rfl) ?_
  refine lv_iload_n hx hb dX7_property_2 rfl (lv_at hl 1 rfl) ?_
  have g1 : cnt < 1000 := by first | assumption | omega | exact vp_in_nI (by omega) (by omega)
  have hPc := hP.sub (ws' := [(aM, .inr (7, [.int th, .int (nI n), .int (nI cnt), .ref aMF, .ref aMT, .ref aMN, .ref aML, .ref aMU, .int (nI ml), .ref aMB, .int (nI sg), .int (nI rm), .int (nI mdg), .int (nI mnb), .int (bI mng), .ref aMf, .ref aMt, .ref aMn, .ref aMl, .ref aMu, .ref aMP, .ref aMD, .int (nI lk), .ref aMC, .ref aMO, .int gn, .int gl, .int gg, .ref aMY, .int nn, .int nl, .int nu, .ref aMS, .long hs]))]) [0] rfl
  have hDc := hD.sub (ws' := [(aM, .inr (7, [.int th, .int (nI n), .int (nI cnt), .ref aMF, .ref aMT, .ref aMN, .ref aML, .ref aMU, .int (nI ml), .ref aMB, .int (nI sg), .int (nI rm), .int (nI mdg), .int (nI mnb), .int (bI mng), .ref aMf, .ref aMt, .ref aMn, .ref aMl, .ref aMu, .ref aMP, .ref aMD, .int (nI lk), .ref aMC, .ref aMO, .int gn, .int gl, .int gg, .ref aMY, .int nn, .int nl, .int nu, .ref aMS, .long hs]))]) [0] (by decide) rfl
  have hFc := va_free (wc := [(aM, .inr (7, [.int th, .int (nI n), .int (nI cnt), .ref aMF, .ref aMT, .ref aMN, .ref aML, .ref aMU, .int (nI ml), .ref aMB, .int (nI sg), .int (nI rm), .int (nI mdg), .int (nI mnb), .int (bI mng), .ref aMf, .ref aMt, .ref aMn, .ref aMl, .ref aMu, .ref aMP, .ref aMD, .int (nI lk), .ref aMC, .ref aMO, .int gn, .int gl, .int gg, .ref aMY, .int nn, .int nl, .int nu, .ref aMS, .long hs]))]) hD hS hA [0] rfl
  refine va_calli (va_runV (As := [.int z]) (rest := [.ref aM]) ⟨hx, hb, hml, hown, hts⟩ (c_X7_isDimension l dC dI cyI cyZ cyJ cyD aM aMF aMT aMN aML aMU aMB aMf aMt aMn aMl aMu aMP aMD aMC aMO aMY aMS H.size th n cnt ml sg rm mdg mnb mng lk gn gl gg nn nl nu hs z g1) (cwV 1 hts gX7_property_X7_isDimension rfl rfl rfl (by decide +kernel) ⟨Nat.le_of_ble_eq_true rfl, Nat.le_of_ble_eq_true rfl⟩) ⟨fun a U g mk q => by obtain ⟨q0, q1, qP, qK, qD⟩ := q; exact ⟨q0, q1, qP, va_K.moved (u := U) (U := U.calling g mk a) (Vm.Alike.refl U.vm) qK, qD⟩, va_recv hK hPc (ci := 7) (q0 := 0) rfl rfl, fun U hU hW => ⟨rfl, by rw [hU], by rw [hU]; exact hPc, va_K.moved hW.alike hK, hDc.weaken (fun _ _ _ _ => trivial)⟩⟩ rfl rfl hl.1 rfl (lv_room (Nat.le_of_ble_eq_true rfl)) dX7_property_3 ⟨Nat.le_of_ble_eq_true rfl, Nat.le_of_ble_eq_true rfl⟩) hS (fun q _ h => hFc q h) hFc (fun r u t H1 locs ht hvm hw hB hz1 hk1 hS => ?_)
  obtain rfl := hw
  obtain ⟨hP1, hK1, hD1⟩ := hB
  rw [ht] at hP1
  obtain ⟨hP, hD⟩ := va_join (wr := [(aMF, .inl (cyI, 20, .inl (fun j_ => nI (F j_)))), (aMT, .inl (cyI, 20, .inl (fun j_ => nI (T j_)))), (aMN, .inl (cyI, 20, .inl nm)), (aML, .inl (cyI, 20, .inl lo)), (aMU, .inl (cyI, 20, .inl up))]) (w1 := [(aM, .inr (7, [.int th, .int (nI n), .int (nI cnt), .ref aMF, .ref aMT, .ref aMN, .ref aML, .ref aMU, .int (nI ml), .ref aMB, .int (nI sg), .int (nI rm), .int (nI mdg), .int (nI mnb), .int (bI mng), .ref aMf, .ref aMt, .ref aMn, .ref aMl, .ref aMu, .ref aMP, .ref aMD, .int (nI lk), .ref aMC, .ref aMO, .int gn, .int gl, .int gg, .ref aMY, .int nn, .int nl, .int nu, .ref aMS, .long hs]))]) hP hD [0] [1, 2, 3, 4, 5] rfl rfl (by decide) (by decide) hk1 hFc hP1 hD1
  clear hP1 hD1 hK1 hPc hDc hFc hk1 hz1 hvm ht u t
  generalize H1 = H at hP hS ⊢
  have hP : va_P (dC, dI) vwCl [(aMF, .inl (cyI, 20, .inl (fun j_ => nI (F j_)))), (aMT, .inl (cyI, 20, .inl (fun j_ => nI (T j_)))), (aMN, .inl (cyI, 20, .inl nm)), (aML, .inl (cyI, 20, .inl lo)), (aMU, .inl (cyI, 20, .inl up)), (aM, .inr (7, [.int th, .int (nI n), .int (nI cnt), .ref aMF, .ref aMT, .ref aMN, .ref aML, .ref aMU, .int (nI ml), .ref aMB, .int (nI sg), .int (nI rm), .int (nI mdg), .int (nI mnb), .int (bI mng), .ref aMf, .ref aMt, .ref aMn, .ref aMl, .ref aMu, .ref aMP, .ref aMD, .int (nI lk), .ref aMC, .ref aMO, .int gn, .int gl, .int gg, .ref aMY, .int nn, .int nl, .int nu, .ref aMS, .long hs]))] H := hP
  have hD : va_D A [(aMF, .inl (cyI, 20, .inl (fun j_ => nI (F j_)))), (aMT, .inl (cyI, 20, .inl (fun j_ => nI (T j_)))), (aMN, .inl (cyI, 20, .inl nm)), (aML, .inl (cyI, 20, .inl lo)), (aMU, .inl (cyI, 20, .inl up)), (aM, .inr (7, [.int th, .int (nI n), .int (nI cnt), .ref aMF, .ref aMT, .ref aMN, .ref aML, .ref aMU, .int (nI ml), .ref aMB, .int (nI sg), .int (nI rm), .int (nI mdg), .int (nI mnb), .int (bI mng), .ref aMf, .ref aMt, .ref aMn, .ref aMl, .ref aMu, .ref aMP, .ref aMD, .int (nI lk), .ref aMC, .ref aMO, .int gn, .int gl, .int gg, .ref aMY, .int nn, .int nl, .int nu, .ref aMS, .long hs]))] := hD
  refine lv_if_ne (tgt := 13) hx hb dX7_property_6 (by decide) (fun c6 => ?_) (fun c6 => ?_)
  · have c6 : (inB z cnt) = true := bI_n0 c6
    have hzl := ix_lt (inB_vp c6 (by omega))
    refine lv_iload_n hx hb dX7_property_13 rfl (lv_at hl 2 rfl) ?_
    refine lv_iconst (v := 0) hx hb dX7_property_14 (by decide) ?_
    refine lv_iconst (v := 4) hx hb dX7_property_15 (by decide) ?_
    have hPc := hP.sub (ws' := []) [] rfl
    have hDc := hD.sub (ws' := []) [] (by decide) rfl
    have hFc := va_free (wc := []) hD hS hA [] rfl
    refine va_calli (va_runS (As := [.int x, .int 0, .int 4]) (rest := [.ref aM]) ⟨hx, hb, hml, hown, hts⟩ (c_X7_within l dC dI cyI cyZ cyJ cyD H.size x 0 4) (va_cwS 3 hts gX7_property_X7_within rfl rfl rfl (by decide +kernel) ⟨Nat.le_of_ble_eq_true rfl, Nat.le_of_ble_eq_true rfl⟩) ⟨fun a U g mk q => by obtain ⟨q0, q1, qP, qK, qD⟩ := q; exact ⟨q0, q1, qP, va_K.moved (u := U) (U := U.calling g mk a) (Vm.Alike.refl U.vm) qK, qD⟩, fun U hU hW => ⟨rfl, by rw [hU], by rw [hU]; exact hPc, va_K.moved hW.alike hK, hDc.weaken (fun _ _ _ _ => trivial)⟩⟩ rfl rfl hl.1 rfl (lv_room (Nat.le_of_ble_eq_true rfl)) dX7_property_16 ⟨Nat.le_of_ble_eq_true rfl, Nat.le_of_ble_eq_true rfl⟩) hS (fun q _ h => hFc q h) hFc (fun r u t H1 locs ht hvm hw hB hz1 hk1 hS => ?_)
    obtain rfl := hw
    obtain ⟨hP1, hK1, hD1⟩ := hB
    rw [ht] at hP1
    obtain ⟨hP, hD⟩ := va_join (wr := [(aMF, .inl (cyI, 20, .inl (fun j_ => nI (F j_)))), (aMT, .inl (cyI, 20, .inl (fun j_ => nI (T j_)))), (aMN, .inl (cyI, 20, .inl nm)), (aML, .inl (cyI, 20, .inl lo)), (aMU, .inl (cyI, 20, .inl up)), (aM, .inr (7, [.int th, .int (nI n), .int (nI cnt), .ref aMF, .ref aMT, .ref aMN, .ref aML, .ref aMU, .int (nI ml), .ref aMB, .int (nI sg), .int (nI rm), .int (nI mdg), .int (nI mnb), .int (bI mng), .ref aMf, .ref aMt, .ref aMn, .ref aMl, .ref aMu, .ref aMP, .ref aMD, .int (nI lk), .ref aMC, .ref aMO, .int gn, .int gl, .int gg, .ref aMY, .int nn, .int nl, .int nu, .ref aMS, .long hs]))]) (w1 := []) hP hD [] [0, 1, 2, 3, 4, 5] rfl rfl (by decide) (by decide) hk1 hFc hP1 hD1
    clear hP1 hD1 hK1 hPc hDc hFc hk1 hz1 hvm ht u t
    generalize H1 = H at hP hS ⊢
    have hP : va_P (dC, dI) vwCl [(aMF, .inl (cyI, 20, .inl (fun j_ => nI (F j_)))), (aMT, .inl (cyI, 20, .inl (fun j_ => nI (T j_)))), (aMN, .inl (cyI, 20, .inl nm)), (aML, .inl (cyI, 20, .inl lo)), (aMU, .inl (cyI, 20, .inl up)), (aM, .inr (7, [.int th, .int (nI n), .int (nI cnt), .ref aMF, .ref aMT, .ref aMN, .ref aML, .ref aMU, .int (nI ml), .ref aMB, .int (nI sg), .int (nI rm), .int (nI mdg), .int (nI mnb), .int (bI mng), .ref aMf, .ref aMt, .ref aMn, .ref aMl, .ref aMu, .ref aMP, .ref aMD, .int (nI lk), .ref aMC, .ref aMO, .int gn, .int gl, .int gg, .ref aMY, .int nn, .int nl, .int nu, .ref aMS, .long hs]))] H := hP
    have hD : va_D A [(aMF, .inl (cyI, 20, .inl (fun j_ => nI (F j_)))), (aMT, .inl (cyI, 20, .inl (fun j_ => nI (T j_)))), (aMN, .inl (cyI, 20, .inl nm)), (aML, .inl (cyI, 20, .inl lo)), (aMU, .inl (cyI, 20, .inl up)), (aM, .inr (7, [.int th, .int (nI n), .int (nI cnt), .ref aMF, .ref aMT, .ref aMN, .ref aML, .ref aMU, .int (nI ml), .ref aMB, .int (nI sg), .int (nI rm), .int (nI mdg), .int (nI mnb), .int (bI mng), .ref aMf, .ref aMt, .ref aMn, .ref aMl, .ref aMu, .ref aMP, .ref aMD, .int (nI lk), .ref aMC, .ref aMO, .int gn, .int gl, .int gg, .ref aMY, .int nn, .int nl, .int nu, .ref aMS, .long hs]))] := hD
    refine lv_if_eq (tgt := 26) hx hb dX7_property_19 (by decide) (fun c19 => ?_) (fun c19 => ?_)
    · have c19 : (wtn x 0 4) = false := bI_0 c19
      have hz : sdC (inB z cnt) (wtn x 0 4) = 2 := by simp [sdC, c6, c19]
      refine lv_iconst (v := 2) hx hb dX7_property_26 (by decide) ?_
      refine va_put (D := (dC, dI)) (ci := 7) (v := .int 2) (ty := .int) (C := RX7) (T := TX7) (N := 34) hx hb hts iX7 tyX7 tyX7_ok nmX7 hown hK hP hD hS 5 rfl rfl 0 (by decide) w0 (fun _ h9 => h9) rfl (by decide +kernel) rfl rfl (Nat.le_of_ble_eq_true rfl) dX7_property_27 (fun H locs hP hD hS => ?_)
      have hP : va_P (dC, dI) vwCl [(aMF, .inl (cyI, 20, .inl (fun j_ => nI (F j_)))), (aMT, .inl (cyI, 20, .inl (fun j_ => nI (T j_)))), (aMN, .inl (cyI, 20, .inl nm)), (aML, .inl (cyI, 20, .inl lo)), (aMU, .inl (cyI, 20, .inl up)), (aM, .inr (7, [.int 2, .int (nI n), .int (nI cnt), .ref aMF, .ref aMT, .ref aMN, .ref aML, .ref aMU, .int (nI ml), .ref aMB, .int (nI sg), .int (nI rm), .int (nI mdg), .int (nI mnb), .int (bI mng), .ref aMf, .ref aMt, .ref aMn, .ref aMl, .ref aMu, .ref aMP, .ref aMD, .int (nI lk), .ref aMC, .ref aMO, .int gn, .int gl, .int gg, .ref aMY, .int nn, .int nl, .int nu, .ref aMS, .long hs]))] H := hP
      have hD : va_D A [(aMF, .inl (cyI, 20, .inl (fun j_ => nI (F j_)))), (aMT, .inl (cyI, 20, .inl (fun j_ => nI (T j_)))), (aMN, .inl (cyI, 20, .inl nm)), (aML, .inl (cyI, 20, .inl lo)), (aMU, .inl (cyI, 20, .inl up)), (aM, .inr (7, [.int 2, .int (nI n), .int (nI cnt), .ref aMF, .ref aMT, .ref aMN, .ref aML, .ref aMU, .int (nI ml), .ref aMB, .int (nI sg), .int (nI rm), .int (nI mdg), .int (nI mnb), .int (bI mng), .ref aMf, .ref aMt, .ref aMn, .ref aMl, .ref aMu, .ref aMP, .ref aMD, .int (nI lk), .ref aMC, .ref aMO, .int gn, .int gl, .int gg, .ref aMY, .int nn, .int nl, .int nu, .ref aMS, .long hs]))] := hD
      refine lv_aload_n hx hb dX7_property_30 rfl (lv_at hl 0 rfl) ?_
      refine va_get (D := (dC, dI)) (ci := 7) (v := .int 2) (C := RX7) (T := TX7) (N := 34) hx hb hts iX7 hown hK hP 5 rfl rfl 0 (by decide) w0 (fun _ h9 => h9) rfl dX7_property_31 ?_
      refine lv_if_le (tgt := 41) hx hb dX7_property_34 (by decide) (fun c34 => ?_) (fun c34 => ?_)
      · exact absurd c34 (by decide)
      · skip
        refine lv_iconst (v := 0) hx hb dX7_property_37 (by decide) ?_
        refine lv_goto (tgt := 47) hx hb dX7_property_38 (by decide) ?_
        have r2 : 0 = (if sdC (inB z cnt) (wtn x 0 4) = 0 then tld F T nm lo up z.toNatClampNeg x.toNatClampNeg else 0) := by first | (rw [if_pos hz]; done) | (rw [hz]; rfl)
        have q3 : (sdC (inB z cnt) (wtn x 0 4)) = 2 := by exact hz
        have hP9 : va_P (dC, dI) vwCl [(aM, .inr (7, [.int (sdC (inB z cnt) (wtn x 0 4)), .int (nI n), .int (nI cnt), .ref aMF, .ref aMT, .ref aMN, .ref aML, .ref aMU, .int (nI ml), .ref aMB, .int (nI sg), .int (nI rm), .int (nI mdg), .int (nI mnb), .int (bI mng), .ref aMf, .ref aMt, .ref aMn, .ref aMl, .ref aMu, .ref aMP, .ref aMD, .int (nI lk), .ref aMC, .ref aMO, .int gn, .int gl, .int gg, .ref aMY, .int nn, .int nl, .int nu, .ref aMS, .long hs])), (aMF, .inl (cyI, 20, .inl (fun j_ => nI (F j_)))), (aMT, .inl (cyI, 20, .inl (fun j_ => nI (T j_)))), (aMN, .inl (cyI, 20, .inl nm)), (aML, .inl (cyI, 20, .inl lo)), (aMU, .inl (cyI, 20, .inl up))] H := by first | (rw [q3]; exact hP.sub [5, 0, 1, 2, 3, 4] rfl) | (simp only [q3]; exact hP.sub [5, 0, 1, 2, 3, 4] rfl) | exact hP.sub [5, 0, 1, 2, 3, 4] rfl
        have hD9 : va_D A [(aM, .inr (7, [.int (sdC (inB z cnt) (wtn x 0 4)), .int (nI n), .int (nI cnt), .ref aMF, .ref aMT, .ref aMN, .ref aML, .ref aMU, .int (nI ml), .ref aMB, .int (nI sg), .int (nI rm), .int (nI mdg), .int (nI mnb), .int (bI mng), .ref aMf, .ref aMt, .ref aMn, .ref aMl, .ref aMu, .ref aMP, .ref aMD, .int (nI lk), .ref aMC, .ref aMO, .int gn, .int gl, .int gg, .ref aMY, .int nn, .int nl, .int nu, .ref aMS, .long hs])), (aMF, .inl (cyI, 20, .inl (fun j_ => nI (F j_)))), (aMT, .inl (cyI, 20, .inl (fun j_ => nI (T j_)))), (aMN, .inl (cyI, 20, .inl nm)), (aML, .inl (cyI, 20, .inl lo)), (aMU, .inl (cyI, 20, .inl up))] := by first | (rw [q3]; exact hD.sub [5, 0, 1, 2, 3, 4] (by decide) rfl) | (simp only [q3]; exact hD.sub [5, 0, 1, 2, 3, 4] (by decide) rfl) | exact hD.sub [5, 0, 1, 2, 3, 4] (by decide) rfl
        rw [hQe]
        exact W.iret (v := 0) hx hb hr (fun t ht hW => ⟨⟨_, (), rfl, r2, by rw [ht]; exact hP9, va_K.moved hW.alike hK, hD9⟩, hS.F ht⟩) hS.2.2 dX7_property_47
    · have c19 : (wtn x 0 4) = true := bI_n0 c19
      have hz : sdC (inB z cnt) (wtn x 0 4) = 0 := by simp [sdC, c6, c19]
      have hxn : x = nI x.toNatClampNeg := wtn_nat (k := 0) (by decide) c19
      have hxq : x.toNatClampNeg < 10 := wtn_lt (b := 4) (by decide) c19
      refine lv_iconst (v := 0) hx hb dX7_property_22 (by decide) ?_
      refine lv_goto (tgt := 27) hx hb dX7_property_23 (by decide) ?_
      refine va_put (D := (dC, dI)) (ci := 7) (v := .int 0) (ty := .int) (C := RX7) (T := TX7) (N := 34) hx hb hts iX7 tyX7 tyX7_ok nmX7 hown hK hP hD hS 5 rfl rfl 0 (by decide) w0 (fun _ h9 => h9) rfl (by decide +kernel) rfl rfl (Nat.le_of_ble_eq_true rfl) dX7_property_27 (fun H locs hP hD hS => ?_)
      have hP : va_P (dC, dI) vwCl [(aMF, .inl (cyI, 20, .inl (fun j_ => nI (F j_)))), (aMT, .inl (cyI, 20, .inl (fun j_ => nI (T j_)))), (aMN, .inl (cyI, 20, .inl nm)), (aML, .inl (cyI, 20, .inl lo)), (aMU, .inl (cyI, 20, .inl up)), (aM, .inr (7, [.int 0, .int (nI n), .int (nI cnt), .ref aMF, .ref aMT, .ref aMN, .ref aML, .ref aMU, .int (nI ml), .ref aMB, .int (nI sg), .int (nI rm), .int (nI mdg), .int (nI mnb), .int (bI mng), .ref aMf, .ref aMt, .ref aMn, .ref aMl, .ref aMu, .ref aMP, .ref aMD, .int (nI lk), .ref aMC, .ref aMO, .int gn, .int gl, .int gg, .ref aMY, .int nn, .int nl, .int nu, .ref aMS, .long hs]))] H := hP
      have hD : va_D A [(aMF, .inl (cyI, 20, .inl (fun j_ => nI (F j_)))), (aMT, .inl (cyI, 20, .inl (fun j_ => nI (T j_)))), (aMN, .inl (cyI, 20, .inl nm)), (aML, .inl (cyI, 20, .inl lo)), (aMU, .inl (cyI, 20, .inl up)), (aM, .inr (7, [.int 0, .int (nI n), .int (nI cnt), .ref aMF, .ref aMT, .ref aMN, .ref aML, .ref aMU, .int (nI ml), .ref aMB, .int (nI sg), .int (nI rm), .int (nI mdg), .int (nI mnb), .int (bI mng), .ref aMf, .ref aMt, .ref aMn, .ref aMl, .ref aMu, .ref aMP, .ref aMD, .int (nI lk), .ref aMC, .ref aMO, .int gn, .int gl, .int gg, .ref aMY, .int nn, .int nl, .int nu, .ref aMS, .long hs]))] := hD
      refine lv_aload_n hx hb dX7_property_30 rfl (lv_at hl 0 rfl) ?_
      refine va_get (D := (dC, dI)) (ci := 7) (v := .int 0) (C := RX7) (T := TX7) (N := 34) hx hb hts iX7 hown hK hP 5 rfl rfl 0 (by decide) w0 (fun _ h9 => h9) rfl dX7_property_31 ?_
      refine lv_if_le (tgt := 41) hx hb dX7_property_34 (by decide) (fun c34 => ?_) (fun c34 => ?_)
      · skip
        refine lv_aload_n hx hb dX7_property_41 rfl (lv_at hl 0 rfl) ?_
        refine lv_iload_n hx hb dX7_property_42 rfl (lv_at hl 1 rfl) ?_
        refine lv_topi (fun x4 e5 => ?_)
        obtain rfl : x4 = (nI z.toNatClampNeg) := by rw [e5]; exact ix_eq (inB_vp c6 (by omega)) (by omega)
        clear e5
        refine lv_iload_n hx hb dX7_property_43 rfl (lv_at hl 2 rfl) ?_
        refine lv_topi (fun x6 e7 => ?_)
        obtain rfl : x6 = (nI x.toNatClampNeg) := by rw [e7]; exact hxn
        clear e7
        have g8 : z.toNatClampNeg < 20 := by first | assumption | omega | exact vp_in_nI (by omega) (by omega)
        have g9 : x.toNatClampNeg < 10 := by first | assumption | omega | exact vp_in_nI (by omega) (by omega)
        have hPc := hP.sub (ws' := [(aM, .inr (7, [.int 0, .int (nI n), .int (nI cnt), .ref aMF, .ref aMT, .ref aMN, .ref aML, .ref aMU, .int (nI ml), .ref aMB, .int (nI sg), .int (nI rm), .int (nI mdg), .int (nI mnb), .int (bI mng), .ref aMf, .ref aMt, .ref aMn, .ref aMl, .ref aMu, .ref aMP, .ref aMD, .int (nI lk), .ref aMC, .ref aMO, .int gn, .int gl, .int gg, .ref aMY, .int nn, .int nl, .int nu, .ref aMS, .long hs])), (aMF, .inl (cyI, 20, .inl (fun j_ => nI (F j_)))), (aMT, .inl (cyI, 20, .inl (fun j_ => nI (T j_)))), (aMN, .inl (cyI, 20, .inl nm)), (aML, .inl (cyI, 20, .inl lo)), (aMU, .inl (cyI, 20, .inl up))]) [5, 0, 1, 2, 3, 4] rfl
        have hDc := hD.sub (ws' := [(aM, .inr (7, [.int 0, .int (nI n), .int (nI cnt), .ref aMF, .ref aMT, .ref aMN, .ref aML, .ref aMU, .int (nI ml), .ref aMB, .int (nI sg), .int (nI rm), .int (nI mdg), .int (nI mnb), .int (bI mng), .ref aMf, .ref aMt, .ref aMn, .ref aMl, .ref aMu, .ref aMP, .ref aMD, .int (nI lk), .ref aMC, .ref aMO, .int gn, .int gl, .int gg, .ref aMY, .int nn, .int nl, .int nu, .ref aMS, .long hs])), (aMF, .inl (cyI, 20, .inl (fun j_ => nI (F j_)))), (aMT, .inl (cyI, 20, .inl (fun j_ => nI (T j_)))), (aMN, .inl (cyI, 20, .inl nm)), (aML, .inl (cyI, 20, .inl lo)), (aMU, .inl (cyI, 20, .inl up))]) [5, 0, 1, 2, 3, 4] (by decide) rfl
        have hFc := va_free (wc := [(aM, .inr (7, [.int 0, .int (nI n), .int (nI cnt), .ref aMF, .ref aMT, .ref aMN, .ref aML, .ref aMU, .int (nI ml), .ref aMB, .int (nI sg), .int (nI rm), .int (nI mdg), .int (nI mnb), .int (bI mng), .ref aMf, .ref aMt, .ref aMn, .ref aMl, .ref aMu, .ref aMP, .ref aMD, .int (nI lk), .ref aMC, .ref aMO, .int gn, .int gl, .int gg, .ref aMY, .int nn, .int nl, .int nu, .ref aMS, .long hs])), (aMF, .inl (cyI, 20, .inl (fun j_ => nI (F j_)))), (aMT, .inl (cyI, 20, .inl (fun j_ => nI (T j_)))), (aMN, .inl (cyI, 20, .inl nm)), (aML, .inl (cyI, 20, .inl lo)), (aMU, .inl (cyI, 20, .inl up))]) hD hS hA [5, 0, 1, 2, 3, 4] rfl
        refine va_calli (va_runV (As := [.int (nI z.toNatClampNeg), .int (nI x.toNatClampNeg)]) (rest := []) ⟨hx, hb, hml, hown, hts⟩ (c_X7_told l dC dI cyI cyZ cyJ cyD aM aMF aMT aMN aML aMU aMB aMf aMt aMn aMl aMu aMP aMD aMC aMO aMY aMS H.size 0 n cnt ml sg rm mdg mnb mng lk gn gl gg nn nl nu hs F T nm lo up z.toNatClampNeg x.toNatClampNeg g8 g9) (cwV 2 hts gX7_property_X7_told rfl rfl rfl (by decide +kernel) ⟨Nat.le_of_ble_eq_true rfl, Nat.le_of_ble_eq_true rfl⟩) ⟨fun a U g mk q => by obtain ⟨q0, q1, qP, qK, qD⟩ := q; exact ⟨q0, q1, qP, va_K.moved (u := U) (U := U.calling g mk a) (Vm.Alike.refl U.vm) qK, qD⟩, va_recv hK hPc (ci := 7) (q0 := 0) rfl rfl, fun U hU hW => ⟨rfl, by rw [hU], by rw [hU]; exact hPc, va_K.moved hW.alike hK, hDc.weaken (fun _ _ _ _ => trivial)⟩⟩ rfl rfl hl.1 rfl (lv_room (Nat.le_of_ble_eq_true rfl)) dX7_property_44 ⟨Nat.le_of_ble_eq_true rfl, Nat.le_of_ble_eq_true rfl⟩) hS (fun q _ h => hFc q h) hFc (fun r u t H1 locs ht hvm hw hB hz1 hk1 hS => ?_)
        obtain rfl := hw
        obtain ⟨hP1, hK1, hD1⟩ := hB
        rw [ht] at hP1
        obtain ⟨hP, hD⟩ := va_join (wr := []) (w1 := [(aM, .inr (7, [.int 0, .int (nI n), .int (nI cnt), .ref aMF, .ref aMT, .ref aMN, .ref aML, .ref aMU, .int (nI ml), .ref aMB, .int (nI sg), .int (nI rm), .int (nI mdg), .int (nI mnb), .int (bI mng), .ref aMf, .ref aMt, .ref aMn, .ref aMl, .ref aMu, .ref aMP, .ref aMD, .int (nI lk), .ref aMC, .ref aMO, .int gn, .int gl, .int gg, .ref aMY, .int nn, .int nl, .int nu, .ref aMS, .long hs])), (aMF, .inl (cyI, 20, .inl (fun j_ => nI (F j_)))), (aMT, .inl (cyI, 20, .inl (fun j_ => nI (T j_)))), (aMN, .inl (cyI, 20, .inl nm)), (aML, .inl (cyI, 20, .inl lo)), (aMU, .inl (cyI, 20, .inl up))]) hP hD [5, 0, 1, 2, 3, 4] [] rfl rfl (by decide) (by decide) hk1 hFc hP1 hD1
        clear hP1 hD1 hK1 hPc hDc hFc hk1 hz1 hvm ht u t
        generalize H1 = H at hP hS ⊢
        have hP : va_P (dC, dI) vwCl [(aM, .inr (7, [.int 0, .int (nI n), .int (nI cnt), .ref aMF, .ref aMT, .ref aMN, .ref aML, .ref aMU, .int (nI ml), .ref aMB, .int (nI sg), .int (nI rm), .int (nI mdg), .int (nI mnb), .int (bI mng), .ref aMf, .ref aMt, .ref aMn, .ref aMl, .ref aMu, .ref aMP, .ref aMD, .int (nI lk), .ref aMC, .ref aMO, .int gn, .int gl, .int gg, .ref aMY, .int nn, .int nl, .int nu, .ref aMS, .long hs])), (aMF, .inl (cyI, 20, .inl (fun j_ => nI (F j_)))), (aMT, .inl (cyI, 20, .inl (fun j_ => nI (T j_)))), (aMN, .inl (cyI, 20, .inl nm)), (aML, .inl (cyI, 20, .inl lo)), (aMU, .inl (cyI, 20, .inl up))] H := hP
        have hD : va_D A [(aM, .inr (7, [.int 0, .int (nI n), .int (nI cnt), .ref aMF, .ref aMT, .ref aMN, .ref aML, .ref aMU, .int (nI ml), .ref aMB, .int (nI sg), .int (nI rm), .int (nI mdg), .int (nI mnb), .int (bI mng), .ref aMf, .ref aMt, .ref aMn, .ref aMl, .ref aMu, .ref aMP, .ref aMD, .int (nI lk), .ref aMC, .ref aMO, .int gn, .int gl, .int gg, .ref aMY, .int nn, .int nl, .int nu, .ref aMS, .long hs])), (aMF, .inl (cyI, 20, .inl (fun j_ => nI (F j_)))), (aMT, .inl (cyI, 20, .inl (fun j_ => nI (T j_)))), (aMN, .inl (cyI, 20, .inl nm)), (aML, .inl (cyI, 20, .inl lo)), (aMU, .inl (cyI, 20, .inl up))] := hD
        have r10 : (tld F T nm lo up z.toNatClampNeg x.toNatClampNeg) = (if sdC (inB z cnt) (wtn x 0 4) = 0 then tld F T nm lo up z.toNatClampNeg x.toNatClampNeg else 0) := by first | (rw [if_pos hz]; done) | (rw [hz]; rfl)
        have q11 : (sdC (inB z cnt) (wtn x 0 4)) = 0 := by exact hz
        have hP9 : va_P (dC, dI) vwCl [(aM, .inr (7, [.int (sdC (inB z cnt) (wtn x 0 4)), .int (nI n), .int (nI cnt), .ref aMF, .ref aMT, .ref aMN, .ref aML, .ref aMU, .int (nI ml), .ref aMB, .int (nI sg), .int (nI rm), .int (nI mdg), .int (nI mnb), .int (bI mng), .ref aMf, .ref aMt, .ref aMn, .ref aMl, .ref aMu, .ref aMP, .ref aMD, .int (nI lk), .ref aMC, .ref aMO, .int gn, .int gl, .int gg, .ref aMY, .int nn, .int nl, .int nu, .ref aMS, .long hs])), (aMF, .inl (cyI, 20, .inl (fun j_ => nI (F j_)))), (aMT, .inl (cyI, 20, .inl (fun j_ => nI (T j_)))), (aMN, .inl (cyI, 20, .inl nm)), (aML, .inl (cyI, 20, .inl lo)), (aMU, .inl (cyI, 20, .inl up))] H := by first | (rw [q11]; exact hP.sub [0, 1, 2, 3, 4, 5] rfl) | (simp only [q11]; exact hP.sub [0, 1, 2, 3, 4, 5] rfl) | exact hP.sub [0, 1, 2, 3, 4, 5] rfl
        have hD9 : va_D A [(aM, .inr (7, [.int (sdC (inB z cnt) (wtn x 0 4)), .int (nI n), .int (nI cnt), .ref aMF, .ref aMT, .ref aMN, .ref aML, .ref aMU, .int (nI ml), .ref aMB, .int (nI sg), .int (nI rm), .int (nI mdg), .int (nI mnb), .int (bI mng), .ref aMf, .ref aMt, .ref aMn, .ref aMl, .ref aMu, .ref aMP, .ref aMD, .int (nI lk), .ref aMC, .ref aMO, .int gn, .int gl, .int gg, .ref aMY, .int nn, .int nl, .int nu, .ref aMS, .long hs])), (aMF, .inl (cyI, 20, .inl (fun j_ => nI (F j_)))), (aMT, .inl (cyI, 20, .inl (fun j_ => nI (T j_)))), (aMN, .inl (cyI, 20, .inl nm)), (aML, .inl (cyI, 20, .inl lo)), (aMU, .inl (cyI, 20, .inl up))] := by first | (rw [q11]; exact hD.sub [0, 1, 2, 3, 4, 5] (by decide) rfl) | (simp only [q11]; exact hD.sub [0, 1, 2, 3, 4, 5] (by decide) rfl) | exact hD.sub [0, 1, 2, 3, 4, 5] (by decide) rfl
        rw [hQe]
        exact W.iret (v := tld F T nm lo up z.toNatClampNeg x.toNatClampNeg) hx hb hr (fun t ht hW => ⟨⟨_, (), rfl, r10, by rw [ht]; exact hP9, va_K.moved hW.alike hK, hD9⟩, hS.F ht⟩) hS.2.2 dX7_property_47
      · exact absurd c34 (by decide)
  · have c6 : (inB z cnt) = false := bI_0 c6
    have hz : sdC (inB z cnt) (wtn x 0 4) = 1 := by simp [sdC, c6]
    refine lv_iconst (v := 1) hx hb dX7_property_9 (by decide) ?_
    refine lv_goto (tgt := 27) hx hb dX7_property_10 (by decide) ?_
    refine va_put (D := (dC, dI)) (ci := 7) (v := .int 1) (ty := .int) (C := RX7) (T := TX7) (N := 34) hx hb hts iX7 tyX7 tyX7_ok nmX7 hown hK hP hD hS 5 rfl rfl 0 (by decide) w0 (fun _ h9 => h9) rfl (by decide +kernel) rfl rfl (Nat.le_of_ble_eq_true rfl) dX7_property_27 (fun H locs hP hD hS => ?_)
    have hP : va_P (dC, dI) vwCl [(aMF, .inl (cyI, 20, .inl (fun j_ => nI (F j_)))), (aMT, .inl (cyI, 20, .inl (fun j_ => nI (T j_)))), (aMN, .inl (cyI, 20, .inl nm)), (aML, .inl (cyI, 20, .inl lo)), (aMU, .inl (cyI, 20, .inl up)), (aM, .inr (7, [.int 1, .int (nI n), .int (nI cnt), .ref aMF, .ref aMT, .ref aMN, .ref aML, .ref aMU, .int (nI ml), .ref aMB, .int (nI sg), .int (nI rm), .int (nI mdg), .int (nI mnb), .int (bI mng), .ref aMf, .ref aMt, .ref aMn, .ref aMl, .ref aMu, .ref aMP, .ref aMD, .int (nI lk), .ref aMC, .ref aMO, .int gn, .int gl, .int gg, .ref aMY, .int nn, .int nl, .int nu, .ref aMS, .long hs]))] H := hP
    have hD : va_D A [(aMF, .inl (cyI, 20, .inl (fun j_ => nI (F j_)))), (aMT, .inl (cyI, 20, .inl (fun j_ => nI (T j_)))), (aMN, .inl (cyI, 20, .inl nm)), (aML, .inl (cyI, 20, .inl lo)), (aMU, .inl (cyI, 20, .inl up)), (aM, .inr (7, [.int 1, .int (nI n), .int (nI cnt), .ref aMF, .ref aMT, .ref aMN, .ref aML, .ref aMU, .int (nI ml), .ref aMB, .int (nI sg), .int (nI rm), .int (nI mdg), .int (nI mnb), .int (bI mng), .ref aMf, .ref aMt, .ref aMn, .ref aMl, .ref aMu, .ref aMP, .ref aMD, .int (nI lk), .ref aMC, .ref aMO, .int gn, .int gl, .int gg, .ref aMY, .int nn, .int nl, .int nu, .ref aMS, .long hs]))] := hD
    refine lv_aload_n hx hb dX7_property_30 rfl (lv_at hl 0 rfl) ?_
    refine va_get (D := (dC, dI)) (ci := 7) (v := .int 1) (C := RX7) (T := TX7) (N := 34) hx hb hts iX7 hown hK hP 5 rfl rfl 0 (by decide) w0 (fun _ h9 => h9) rfl dX7_property_31 ?_
    refine lv_if_le (tgt := 41) hx hb dX7_property_34 (by decide) (fun c34 => ?_) (fun c34 => ?_)
    · exact absurd c34 (by decide)
    · skip
      refine lv_iconst (v := 0) hx hb dX7_property_37 (by decide) ?_
      refine lv_goto (tgt := 47) hx hb dX7_property_38 (by decide) ?_
      have r12 : 0 = (if sdC (inB z cnt) (wtn x 0 4) = 0 then tld F T nm lo up z.toNatClampNeg x.toNatClampNeg else 0) := by first | (rw [if_pos hz]; done) | (rw [hz]; rfl)
      have q13 : (sdC (inB z cnt) (wtn x 0 4)) = 1 := by exact hz
      have hP9 : va_P (dC, dI) vwCl [(aM, .inr (7, [.int (sdC (inB z cnt) (wtn x 0 4)), .int (nI n), .int (nI cnt), .ref aMF, .ref aMT, .ref aMN, .ref aML, .ref aMU, .int (nI ml), .ref aMB, .int (nI sg), .int (nI rm), .int (nI mdg), .int (nI mnb), .int (bI mng), .ref aMf, .ref aMt, .ref aMn, .ref aMl, .ref aMu, .ref aMP, .ref aMD, .int (nI lk), .ref aMC, .ref aMO, .int gn, .int gl, .int gg, .ref aMY, .int nn, .int nl, .int nu, .ref aMS, .long hs])), (aMF, .inl (cyI, 20, .inl (fun j_ => nI (F j_)))), (aMT, .inl (cyI, 20, .inl (fun j_ => nI (T j_)))), (aMN, .inl (cyI, 20, .inl nm)), (aML, .inl (cyI, 20, .inl lo)), (aMU, .inl (cyI, 20, .inl up))] H := by first | (rw [q13]; exact hP.sub [5, 0, 1, 2, 3, 4] rfl) | (simp only [q13]; exact hP.sub [5, 0, 1, 2, 3, 4] rfl) | exact hP.sub [5, 0, 1, 2, 3, 4] rfl
      have hD9 : va_D A [(aM, .inr (7, [.int (sdC (inB z cnt) (wtn x 0 4)), .int (nI n), .int (nI cnt), .ref aMF, .ref aMT, .ref aMN, .ref aML, .ref aMU, .int (nI ml), .ref aMB, .int (nI sg), .int (nI rm), .int (nI mdg), .int (nI mnb), .int (bI mng), .ref aMf, .ref aMt, .ref aMn, .ref aMl, .ref aMu, .ref aMP, .ref aMD, .int (nI lk), .ref aMC, .ref aMO, .int gn, .int gl, .int gg, .ref aMY, .int nn, .int nl, .int nu, .ref aMS, .long hs])), (aMF, .inl (cyI, 20, .inl (fun j_ => nI (F j_)))), (aMT, .inl (cyI, 20, .inl (fun j_ => nI (T j_)))), (aMN, .inl (cyI, 20, .inl nm)), (aML, .inl (cyI, 20, .inl lo)), (aMU, .inl (cyI, 20, .inl up))] := by first | (rw [q13]; exact hD.sub [5, 0, 1, 2, 3, 4] (by decide) rfl) | (simp only [q13]; exact hD.sub [5, 0, 1, 2, 3, 4] (by decide) rfl) | exact hD.sub [5, 0, 1, 2, 3, 4] (by decide) rfl
      rw [hQe]
      exact W.iret (v := 0) hx hb hr (fun t ht hW => ⟨⟨_, (), rfl, r12, by rw [ht]; exact hP9, va_K.moved hW.alike hK, hD9⟩, hS.F ht⟩) hS.2.2 dX7_property_47
set_option maxHeartbeats 4000000 in
set_option maxRecDepth 100000 in
theorem c_X7_removeDimension (l : Launch) (dC : Nat → ClassId) (dI : Nat → Nat → Nat) (cyI cyZ cyJ cyD : ClassId) (aM aMF aMT aMN aML aMU aMB aMf aMt aMn aMl aMu aMP aMD aMC aMO aMY aMS : Nat) (zH : Nat) (th : Int32) (n : Nat) (cnt : Nat) (ml : Nat) (sg : Nat) (rm : Nat) (mdg : Nat) (mnb : Nat) (mng : Bool) (lk : Nat) (gn : Int32) (gl : Int32) (gg : Int32) (nn : Int32) (nl : Int32) (nu : Int32) (hs : Int64) (F : Nat → Nat) (T : Nat → Nat) (nm : Nat → Int32) (lo : Nat → Int32) (up : Nat → Int32) (z : Int32) (hc : cnt ≤ 20) : Met l yX7_removeDimension wsX7_removeDimension ({ frames := 2, cells := 0, slots := 0, locals := 43 } : Room) (va_Pc [.ref aM, .int z] (fun U => U.heap.size = zH ∧ va_P (dC, dI) vwCl [(aM, .inr (7, [.int th, .int (nI n), .int (nI cnt), .ref aMF, .ref aMT, .ref aMN, .ref aML, .ref aMU, .int (nI ml), .ref aMB, .int (nI sg), .int (nI rm), .int (nI mdg), .int (nI mnb), .int (bI mng), .ref aMf, .ref aMt, .ref aMn, .ref aMl, .ref aMu, .ref aMP, .ref aMD, .int (nI lk), .ref aMC, .ref aMO, .int gn, .int gl, .int gg, .ref aMY, .int nn, .int nl, .int nu, .ref aMS, .long hs])), (aMF, .inl (cyI, 20, .inl (fun j_ => nI (F j_)))), (aMT, .inl (cyI, 20, .inl (fun j_ => nI (T j_)))), (aMN, .inl (cyI, 20, .inl nm)), (aML, .inl (cyI, 20, .inl lo)), (aMU, .inl (cyI, 20, .inl up))] U.heap ∧ va_K (dC, dI) vwCl [(cyI, .int), (cyZ, .boolean), (cyJ, .long), (cyD, .double)] U ∧ va_D (fun _ => True) [(aM, .inr (7, [.int th, .int (nI n), .int (nI cnt), .ref aMF, .ref aMT, .ref aMN, .ref aML, .ref aMU, .int (nI ml), .ref aMB, .int (nI sg), .int (nI rm), .int (nI mdg), .int (nI mnb), .int (bI mng), .ref aMf, .ref aMt, .ref aMn, .ref aMl, .ref aMu, .ref aMP, .ref aMD, .int (nI lk), .ref aMC, .ref aMO, .int gn, .int gl, .int gg, .ref aMY, .int nn, .int nl, .int nu, .ref aMS, .long hs])), (aMF, .inl (cyI, 20, .inl (fun j_ => nI (F j_)))), (aMT, .inl (cyI, 20, .inl (fun j_ => nI (T j_)))), (aMN, .inl (cyI, 20, .inl nm)), (aML, .inl (cyI, 20, .inl lo)), (aMU, .inl (cyI, 20, .inl up))])) (va_Qi (fun (r : Int32) (_ : Unit) => r = if inB z cnt = true then nI (cnt - 1) else 0) (fun _ t => va_P (dC, dI) vwCl [(aM, .inr (7, [.int (if inB z cnt = true then (0 : Int32) else 1), .int (nI n), .int (nI (if inB z cnt = true then cnt - 1 else cnt)), .ref aMF, .ref aMT, .ref aMN, .ref aML, .ref aMU, .int (nI ml), .ref aMB, .int (nI sg), .int (nI rm), .int (nI mdg), .int (nI mnb), .int (bI mng), .ref aMf, .ref aMt, .ref aMn, .ref aMl, .ref aMu, .ref aMP, .ref aMD, .int (nI lk), .ref aMC, .ref aMO, .int gn, .int gl, .int gg, .ref aMY, .int nn, .int nl, .int nu, .ref aMS, .long hs])), (aMF, .inl (cyI, 20, .inl (fun j_ => nI ((if inB z cnt = true then rmN F z.toNatClampNeg (cnt - 1 - z.toNatClampNeg) else F) j_)))), (aMT, .inl (cyI, 20, .inl (fun j_ => nI ((if inB z cnt = true then rmN T z.toNatClampNeg (cnt - 1 - z.toNatClampNeg) else T) j_)))), (aMN, .inl (cyI, 20, .inl (if inB z cnt = true then rmI nm z.toNatClampNeg (cnt - 1 - z.toNatClampNeg) else nm))), (aML, .inl (cyI, 20, .inl (if inB z cnt = true then rmI lo z.toNatClampNeg (cnt - 1 - z.toNatClampNeg) else lo))), (aMU, .inl (cyI, 20, .inl (if inB z cnt = true then rmI up z.toNatClampNeg (cnt - 1 - z.toNatClampNeg) else up)))] t.heap ∧ va_K (dC, dI) vwCl [(cyI, .int), (cyZ, .boolean), (cyJ, .long), (cyD, .double)] t ∧ va_D (va_A [(aM, .inr (7, [.int th, .int (nI n), .int (nI cnt), .ref aMF, .ref aMT, .ref aMN, .ref aML, .ref aMU, .int (nI ml), .ref aMB, .int (nI sg), .int (nI rm), .int (nI mdg), .int (nI mnb), .int (bI mng), .ref aMf, .ref aMt, .ref aMn, .ref aMl, .ref aMu, .ref aMP, .ref aMD, .int (nI lk), .ref aMC, .ref aMO, .int gn, .int gl, .int gg, .ref aMY, .int nn, .int nl, .int nu, .ref aMS, .long hs])), (aMF, .inl (cyI, 20, .inl (fun j_ => nI (F j_)))), (aMT, .inl (cyI, 20, .inl (fun j_ => nI (T j_)))), (aMN, .inl (cyI, 20, .inl nm)), (aML, .inl (cyI, 20, .inl lo)), (aMU, .inl (cyI, 20, .inl up))] zH) [(aM, .inr (7, [.int (if inB z cnt = true then (0 : Int32) else 1), .int (nI n), .int (nI (if inB z cnt = true then cnt - 1 else cnt)), .ref aMF, .ref aMT, .ref aMN, .ref aML, .ref aMU, .int (nI ml), .ref aMB, .int (nI sg), .int (nI rm), .int (nI mdg), .int (nI mnb), .int (bI mng), .ref aMf, .ref aMt, .ref aMn, .ref aMl, .ref aMu, .ref aMP, .ref aMD, .int (nI lk), .ref aMC, .ref aMO, .int gn, .int gl, .int gg, .ref aMY, .int nn, .int nl, .int nu, .ref aMS, .long hs])), (aMF, .inl (cyI, 20, .inl (fun j_ => nI ((if inB z cnt = true then rmN F z.toNatClampNeg (cnt - 1 - z.toNatClampNeg) else F) j_)))), (aMT, .inl (cyI, 20, .inl (fun j_ => nI ((if inB z cnt = true then rmN T z.toNatClampNeg (cnt - 1 - z.toNatClampNeg) else T) j_)))), (aMN, .inl (cyI, 20, .inl (if inB z cnt = true then rmI nm z.toNatClampNeg (cnt - 1 - z.toNatClampNeg) else nm))), (aML, .inl (cyI, 20, .inl (if inB z cnt = true then rmI lo z.toNatClampNeg (cnt - 1 - z.toNatClampNeg) else lo))), (aMU, .inl (cyI, 20, .inl (if inB z cnt = true then rmI up z.toNatClampNeg (cnt - 1 - z.toNatClampNeg) else up)))]) (va_A [(aM, .inr (7, [.int th, .int (nI n), .int (nI cnt), .ref aMF, .ref aMT, .ref aMN, .ref aML, .ref aMU, .int (nI ml), .ref aMB, .int (nI sg), .int (nI rm), .int (nI mdg), .int (nI mnb), .int (bI mng), .ref aMf, .ref aMt, .ref aMn, .ref aMl, .ref aMu, .ref aMP, .ref aMD, .int (nI lk), .ref aMC, .ref aMO, .int gn, .int gl, .int gg, .ref aMY, .int nn, .int nl, .int nu, .ref aMS, .long hs])), (aMF, .inl (cyI, 20, .inl (fun j_ => nI (F j_)))), (aMT, .inl (cyI, 20, .inl (fun j_ => nI (T j_)))), (aMN, .inl (cyI, 20, .inl nm)), (aML, .inl (cyI, 20, .inl lo)), (aMU, .inl (cyI, 20, .inl up))] zH)) 0 0 (va_A [(aM, .inr (7, [.int th, .int (nI n), .int (nI cnt), .ref aMF, .ref aMT, .ref aMN, .ref aML, .ref aMU, .int (nI ml), .ref aMB, .int (nI sg), .int (nI rm), .int (nI mdg), .int (nI mnb), .int (bI mng), .ref aMf, .ref aMt, .ref aMn, .ref aMl, .ref aMu, .ref aMP, .ref aMD, .int (nI lk), .ref aMC, .ref aMO, .int gn, .int gl, .int gg, .ref aMY, .int nn, .int nl, .int nu, .ref aMS, .long hs])), (aMF, .inl (cyI, 20, .inl (fun j_ => nI (F j_)))), (aMT, .inl (cyI, 20, .inl (fun j_ => nI (T j_)))), (aMN, .inl (cyI, 20, .inl nm)), (aML, .inl (cyI, 20, .inl lo)), (aMU, .inl (cyI, 20, .inl up))] zH) := by
  refine Met.ofW (cc := cX7_removeDimension) (maxL := 3) (ret := (some .int)) (by decide) rfl ?_
  intro pM eM s mM args blM mtM cM s₁ BM hml hv
  obtain ⟨rfl, hsz, hP, hK, hD0⟩ := hv
  have hx := BM.exec
  have hb := BM.bytes
  have hr := BM.returns
  have hts := atoms_spec (ws := wsX7_removeDimension) BM.pre
  have hown : s.vm.findClass RX7 = some mM.cls := findClass_of_methodNamed BM.named
  have hlocks := BM.notSynchronized
  have w0 := hts (.fieldLink RX7 67 "DimensionCheckerModel" "thrown" "I") (by decide +kernel)
  have w1 := hts (.fieldLink RX7 74 "DimensionCheckerModel" "many" "I") (by decide +kernel)
  have w2 := hts (.fieldLink RX7 13 "DimensionCheckerModel" "from" "[I") (by decide +kernel)
  have w3 := hts (.fieldLink RX7 17 "DimensionCheckerModel" "to" "[I") (by decide +kernel)
  have w4 := hts (.fieldLink RX7 20 "DimensionCheckerModel" "nominal" "[I") (by decide +kernel)
  have w5 := hts (.fieldLink RX7 23 "DimensionCheckerModel" "lower" "[I") (by decide +kernel)
  have w6 := hts (.fieldLink RX7 26 "DimensionCheckerModel" "upper" "[I") (by decide +kernel)
  have iX7 : ∀ w ∈ wsX70, w ∈ wsX7_removeDimension := by decide +kernel
  subst hsz
  have hD := hD0.self (sz := s.heap.size)
  obtain ⟨Q, hQe⟩ : ∃ Q : State → Prop, Q = MQ blM (va_Qi (fun (r : Int32) (_ : Unit) => r = if inB z cnt = true then nI (cnt - 1) else 0) (fun _ t => va_P (dC, dI) vwCl [(aM, .inr (7, [.int (if inB z cnt = true then (0 : Int32) else 1), .int (nI n), .int (nI (if inB z cnt = true then cnt - 1 else cnt)), .ref aMF, .ref aMT, .ref aMN, .ref aML, .ref aMU, .int (nI ml), .ref aMB, .int (nI sg), .int (nI rm), .int (nI mdg), .int (nI mnb), .int (bI mng), .ref aMf, .ref aMt, .ref aMn, .ref aMl, .ref aMu, .ref aMP, .ref aMD, .int (nI lk), .ref aMC, .ref aMO, .int gn, .int gl, .int gg, .ref aMY, .int nn, .int nl, .int nu, .ref aMS, .long hs])), (aMF, .inl (cyI, 20, .inl (fun j_ => nI ((if inB z cnt = true then rmN F z.toNatClampNeg (cnt - 1 - z.toNatClampNeg) else F) j_)))), (aMT, .inl (cyI, 20, .inl (fun j_ => nI ((if inB z cnt = true then rmN T z.toNatClampNeg (cnt - 1 - z.toNatClampNeg) else T) j_)))), (aMN, .inl (cyI, 20, .inl (if inB z cnt = true then rmI nm z.toNatClampNeg (cnt - 1 - z.toNatClampNeg) else nm))), (aML, .inl (cyI, 20, .inl (if inB z cnt = true then rmI lo z.toNatClampNeg (cnt - 1 - z.toNatClampNeg) else lo))), (aMU, .inl (cyI, 20, .inl (if inB z cnt = true then rmI up z.toNatClampNeg (cnt - 1 - z.toNatClampNeg) else up)))] t.heap ∧ va_K (dC, dI) vwCl [(cyI, .int), (cyZ, .boolean), (cyJ, .long), (cyD, .double)] t ∧ va_D (va_A [(aM, .inr (7, [.int th, .int (nI n), .int (nI cnt), .ref aMF, .ref aMT, .ref aMN, .ref aML, .ref aMU, .int (nI ml), .ref aMB, .int (nI sg), .int (nI rm), .int (nI mdg), .int (nI mnb), .int (bI mng), .ref aMf, .ref aMt, .ref aMn, .ref aMl, .ref aMu, .ref aMP, .ref aMD, .int (nI lk), .ref aMC, .ref aMO, .int gn, .int gl, .int gg, .ref aMY, .int nn, .int nl, .int nu, .ref aMS, .long hs])), (aMF, .inl (cyI, 20, .inl (fun j_ => nI (F j_)))), (aMT, .inl (cyI, 20, .inl (fun j_ => nI (T j_)))), (aMN, .inl (cyI, 20, .inl nm)), (aML, .inl (cyI, 20, .inl lo)), (aMU, .inl (cyI, 20, .inl up))] s.heap.size) [(aM, .inr (7, [.int (if inB z cnt = true then (0 : Int32) else 1), .int (nI n), .int (nI (if inB z cnt = true then cnt - 1 else cnt)), .ref aMF, .ref aMT, .ref aMN, .ref aML, .ref aMU, .int (nI ml), .ref aMB, .int (nI sg), .int (nI rm), .int (nI mdg), .int (nI mnb), .int (bI mng), .ref aMf, .ref aMt, .ref aMn, .ref aMl, .ref aMu, .ref aMP, .ref aMD, .int (nI lk), .ref aMC, .ref aMO, .int gn, .int gl, .int gg, .ref aMY, .int nn, .int nl, .int nu, .ref aMS, .long hs])), (aMF, .inl (cyI, 20, .inl (fun j_ => nI ((if inB z cnt = true then rmN F z.toNatClampNeg (cnt - 1 - z.toNatClampNeg) else F) j_)))), (aMT, .inl (cyI, 20, .inl (fun j_ => nI ((if inB z cnt = true then rmN T z.toNatClampNeg (cnt - 1 - z.toNatClampNeg) else T) j_)))), (aMN, .inl (cyI, 20, .inl (if inB z cnt = true then rmI nm z.toNatClampNeg (cnt - 1 - z.toNatClampNeg) else nm))), (aML, .inl (cyI, 20, .inl (if inB z cnt = true then rmI lo z.toNatClampNeg (cnt - 1 - z.toNatClampNeg) else lo))), (aMU, .inl (cyI, 20, .inl (if inB z cnt = true then rmI up z.toNatClampNeg (cnt - 1 - z.toNatClampNeg) else up)))]) (va_A [(aM, .inr (7, [.int th, .int (nI n), .int (nI cnt), .ref aMF, .ref aMT, .ref aMN, .ref aML, .ref aMU, .int (nI ml), .ref aMB, .int (nI sg), .int (nI rm), .int (nI mdg), .int (nI mnb), .int (bI mng), .ref aMf, .ref aMt, .ref aMn, .ref aMl, .ref aMu, .ref aMP, .ref aMD, .int (nI lk), .ref aMC, .ref aMO, .int gn, .int gl, .int gg, .ref aMY, .int nn, .int nl, .int nu, .ref aMS, .long hs])), (aMF, .inl (cyI, 20, .inl (fun j_ => nI (F j_)))), (aMT, .inl (cyI, 20, .inl (fun j_ => nI (T j_)))), (aMN, .inl (cyI, 20, .inl nm)), (aML, .inl (cyI, 20, .inl lo)), (aMU, .inl (cyI, 20, .inl up))] s.heap.size)) ([.ref aM, .int z] : List Value).toArray s 0 0 (va_A [(aM, .inr (7, [.int th, .int (nI n), .int (nI cnt), .ref aMF, .ref aMT, .ref aMN, .ref aML, .ref aMU, .int (nI ml), .ref aMB, .int (nI sg), .int (nI rm), .int (nI mdg), .int (nI mnb), .int (bI mng), .ref aMf, .ref aMt, .ref aMn, .ref aMl, .ref aMu, .ref aMP, .ref aMD, .int (nI lk), .ref aMC, .ref aMO, .int gn, .int gl, .int gg, .ref aMY, .int nn, .int nl, .int nu, .ref aMS, .long hs])), (aMF, .inl (cyI, 20, .inl (fun j_ => nI (F j_)))), (aMT, .inl (cyI, 20, .inl (fun j_ => nI (T j_)))), (aMN, .inl (cyI, 20, .inl nm)), (aML, .inl (cyI, 20, .inl lo)), (aMU, .inl (cyI, 20, .inl up))] s.heap.size) := ⟨_, rfl⟩
  rw [← hQe]
  generalize hAe : va_A [(aM, .inr (7, [.int th, .int (nI n), .int (nI cnt), .ref aMF, .ref aMT, .ref aMN, .ref aML, .ref aMU, .int (nI ml), .ref aMB, .int (nI sg), .int (nI rm), .int (nI mdg), .int (nI mnb), .int (bI mng), .ref aMf, .ref aMt, .ref aMn, .ref aMl, .ref aMu, .ref aMP, .ref aMD, .int (nI lk), .ref aMC, .ref aMO, .int gn, .int gl, .int gg, .ref aMY, .int nn, .int nl, .int nu, .ref aMS, .long hs])), (aMF, .inl (cyI, 20, .inl (fun j_ => nI (F j_)))), (aMT, .inl (cyI, 20, .inl (fun j_ => nI (T j_)))), (aMN, .inl (cyI, 20, .inl nm)), (aML, .inl (cyI, 20, .inl lo)), (aMU, .inl (cyI, 20, .inl up))] s.heap.size = A at hD hQe
  have hA : ∀ q : Nat, s.heap.size ≤ q → A q := fun q h => by rw [← hAe]; exact Or.inr h
  obtain ⟨H, hHe⟩ : ∃ H : Heap, H = s.heap := ⟨_, rfl⟩
  have hS : va_S A s.heap H [] := by rw [hHe]; exact va_S.rf
  rw [← hHe] at hP ⊢
  have hl := lv_entry ([.ref aM, .int z]) (n := 3) (Nat.le_of_ble_eq_true rfl)
  rw [lg_entry_eq]
  generalize (lg_sl ([.ref aM, .int z]) ++ List.replicate (3 - (lg_sl ([.ref aM, .int z])).length) Slot.unset).toArray = ls at hl ⊢
  have hl : lv_has ls 3 [(0, .ref aM), (1, .int z)] := hl
  refine lv_aload_n hx hb dX7_removeDimension_0 rfl (lv_at hl 0 rfl) ?_
  refine lv_aload_n hx hb dX7_removeDimension_1 rfl (lv_at hl 0 rfl) ?_
  refine lv_iload_n hx hb dX7_removeDimension_2 rfl (lv_at hl 1 rfl) ?_
  have g1 : cnt < 1000 := by first | assumption | omega | exact vp_in_nI (by omega) (by omega)
  have hPc := hP.sub (ws' := [(aM, .inr (7, [.int th, .int (nI n), .int (nI cnt), .ref aMF, .ref aMT, .ref aMN, .ref aML, .ref aMU, .int (nI ml), .ref aMB, .int (nI sg), .int (nI rm), .int (nI mdg), .int (nI mnb), .int (bI mng), .ref aMf, .ref aMt, .ref aMn, .ref aMl, .ref aMu, .ref aMP, .ref aMD, .int (nI lk), .ref aMC, .ref aMO, .int gn, .int gl, .int gg, .ref aMY, .int nn, .int nl, .int nu, .ref aMS, .long hs]))]) [0] rfl
  have hDc := hD.sub (ws' := [(aM, .inr (7, [.int th, .int (nI n), .int (nI cnt), .ref aMF, .ref aMT, .ref aMN, .ref aML, .ref aMU, .int (nI ml), .ref aMB, .int (nI sg), .int (nI rm), .int (nI mdg), .int (nI mnb), .int (bI mng), .ref aMf, .ref aMt, .ref aMn, .ref aMl, .ref aMu, .ref aMP, .ref aMD, .int (nI lk), .ref aMC, .ref aMO, .int gn, .int gl, .int gg, .ref aMY, .int nn, .int nl, .int nu, .ref aMS, .long hs]))]) [0] (by decide) rfl
  have hFc := va_free (wc := [(aM, .inr (7, [.int th, .int (nI n), .int (nI cnt), .ref aMF, .ref aMT, .ref aMN, .ref aML, .ref aMU, .int (nI ml), .ref aMB, .int (nI sg), .int (nI rm), .int (nI mdg), .int (nI mnb), .int (bI mng), .ref aMf, .ref aMt, .ref aMn, .ref aMl, .ref aMu, .ref aMP, .ref aMD, .int (nI lk), .ref aMC, .ref aMO, .int gn, .int gl, .int gg, .ref aMY, .int nn, .int nl, .int nu, .ref aMS, .long hs]))]) hD hS hA [0] rfl
  refine va_calli (va_runV (As := [.int z]) (rest := [.ref aM]) ⟨hx, hb, hml, hown, hts⟩ (c_X7_isDimension l dC dI cyI cyZ cyJ cyD aM aMF aMT aMN aML aMU aMB aMf aMt aMn aMl aMu aMP aMD aMC aMO aMY aMS H.size th n cnt ml sg rm mdg mnb mng lk gn gl gg nn nl nu hs z g1) (cwV 1 hts gX7_removeDimension_X7_isDimension rfl rfl rfl (by decide +kernel) ⟨Nat.le_of_ble_eq_true rfl, Nat.le_of_ble_eq_true rfl⟩) ⟨fun a U g mk q => by obtain ⟨q0, q1, qP, qK, qD⟩ := q; exact ⟨q0, q1, qP, va_K.moved (u := U) (U := U.calling g mk a) (Vm.Alike.refl U.vm) qK, qD⟩, va_recv hK hPc (ci := 7) (q0 := 0) rfl rfl, fun U hU hW => ⟨rfl, by rw [hU], by rw [hU]; exact hPc, va_K.moved hW.alike hK, hDc.weaken (fun _ _ _ _ => trivial)⟩⟩ rfl rfl hl.1 rfl (lv_room (Nat.le_of_ble_eq_true rfl)) dX7_removeDimension_3 ⟨Nat.le_of_ble_eq_true rfl, Nat.le_of_ble_eq_true rfl⟩) hS (fun q _ h => hFc q h) hFc (fun r u t H1 locs ht hvm hw hB hz1 hk1 hS => ?_)
  obtain rfl := hw
  obtain ⟨hP1, hK1, hD1⟩ := hB
  rw [ht] at hP1
  obtain ⟨hP, hD⟩ := va_join (wr := [(aMF, .inl (cyI, 20, .inl (fun j_ => nI (F j_)))), (aMT, .inl (cyI, 20, .inl (fun j_ => nI (T j_)))), (aMN, .inl (cyI, 20, .inl nm)), (aML, .inl (cyI, 20, .inl lo)), (aMU, .inl (cyI, 20, .inl up))]) (w1 := [(aM, .inr (7, [.int th, .int (nI n), .int (nI cnt), .ref aMF, .ref aMT, .ref aMN, .ref aML, .ref aMU, .int (nI ml), .ref aMB, .int (nI sg), .int (nI rm), .int (nI mdg), .int (nI mnb), .int (bI mng), .ref aMf, .ref aMt, .ref aMn, .ref aMl, .ref aMu, .ref aMP, .ref aMD, .int (nI lk), .ref aMC, .ref aMO, .int gn, .int gl, .int gg, .ref aMY, .int nn, .int nl, .int nu, .ref aMS, .long hs]))]) hP hD [0] [1, 2, 3, 4, 5] rfl rfl (by decide) (by decide) hk1 hFc hP1 hD1
  clear hP1 hD1 hK1 hPc hDc hFc hk1 hz1 hvm ht u t
  generalize H1 = H at hP hS ⊢
  have hP : va_P (dC, dI) vwCl [(aMF, .inl (cyI, 20, .inl (fun j_ => nI (F j_)))), (aMT, .inl (cyI, 20, .inl (fun j_ => nI (T j_)))), (aMN, .inl (cyI, 20, .inl nm)), (aML, .inl (cyI, 20, .inl lo)), (aMU, .inl (cyI, 20, .inl up)), (aM, .inr (7, [.int th, .int (nI n), .int (nI cnt), .ref aMF, .ref aMT, .ref aMN, .ref aML, .ref aMU, .int (nI ml), .ref aMB, .int (nI sg), .int (nI rm), .int (nI mdg), .int (nI mnb), .int (bI mng), .ref aMf, .ref aMt, .ref aMn, .ref aMl, .ref aMu, .ref aMP, .ref aMD, .int (nI lk), .ref aMC, .ref aMO, .int gn, .int gl, .int gg, .ref aMY, .int nn, .int nl, .int nu, .ref aMS, .long hs]))] H := hP
  have hD : va_D A [(aMF, .inl (cyI, 20, .inl (fun j_ => nI (F j_)))), (aMT, .inl (cyI, 20, .inl (fun j_ => nI (T j_)))), (aMN, .inl (cyI, 20, .inl nm)), (aML, .inl (cyI, 20, .inl lo)), (aMU, .inl (cyI, 20, .inl up)), (aM, .inr (7, [.int th, .int (nI n), .int (nI cnt), .ref aMF, .ref aMT, .ref aMN, .ref aML, .ref aMU, .int (nI ml), .ref aMB, .int (nI sg), .int (nI rm), .int (nI mdg), .int (nI mnb), .int (bI mng), .ref aMf, .ref aMt, .ref aMn, .ref aMl, .ref aMu, .ref aMP, .ref aMD, .int (nI lk), .ref aMC, .ref aMO, .int gn, .int gl, .int gg, .ref aMY, .int nn, .int nl, .int nu, .ref aMS, .long hs]))] := hD
  refine lv_if_eq (tgt := 13) hx hb dX7_removeDimension_6 (by decide) (fun c6 => ?_) (fun c6 => ?_)
  · have c6 : (inB z cnt) = false := bI_0 c6
    have hz : ¬ inB z cnt = true := nbf c6
    refine lv_iconst (v := 1) hx hb dX7_removeDimension_13 (by decide) ?_
    refine va_put (D := (dC, dI)) (ci := 7) (v := .int 1) (ty := .int) (C := RX7) (T := TX7) (N := 34) hx hb hts iX7 tyX7 tyX7_ok nmX7 hown hK hP hD hS 5 rfl rfl 0 (by decide) w0 (fun _ h9 => h9) rfl (by decide +kernel) rfl rfl (Nat.le_of_ble_eq_true rfl) dX7_removeDimension_14 (fun H locs hP hD hS => ?_)
    have hP : va_P (dC, dI) vwCl [(aMF, .inl (cyI, 20, .inl (fun j_ => nI (F j_)))), (aMT, .inl (cyI, 20, .inl (fun j_ => nI (T j_)))), (aMN, .inl (cyI, 20, .inl nm)), (aML, .inl (cyI, 20, .inl lo)), (aMU, .inl (cyI, 20, .inl up)), (aM, .inr (7, [.int 1, .int (nI n), .int (nI cnt), .ref aMF, .ref aMT, .ref aMN, .ref aML, .ref aMU, .int (nI ml), .ref aMB, .int (nI sg), .int (nI rm), .int (nI mdg), .int (nI mnb), .int (bI mng), .ref aMf, .ref aMt, .ref aMn, .ref aMl, .ref aMu, .ref aMP, .ref aMD, .int (nI lk), .ref aMC, .ref aMO, .int gn, .int gl, .int gg, .ref aMY, .int nn, .int nl, .int nu, .ref aMS, .long hs]))] H := hP
    have hD : va_D A [(aMF, .inl (cyI, 20, .inl (fun j_ => nI (F j_)))), (aMT, .inl (cyI, 20, .inl (fun j_ => nI (T j_)))), (aMN, .inl (cyI, 20, .inl nm)), (aML, .inl (cyI, 20, .inl lo)), (aMU, .inl (cyI, 20, .inl up)), (aM, .inr (7, [.int 1, .int (nI n), .int (nI cnt), .ref aMF, .ref aMT, .ref aMN, .ref aML, .ref aMU, .int (nI ml), .ref aMB, .int (nI sg), .int (nI rm), .int (nI mdg), .int (nI mnb), .int (bI mng), .ref aMf, .ref aMt, .ref aMn, .ref aMl, .ref aMu, .ref aMP, .ref aMD, .int (nI lk), .ref aMC, .ref aMO, .int gn, .int gl, .int gg, .ref aMY, .int nn, .int nl, .int nu, .ref aMS, .long hs]))] := hD
    refine lv_aload_n hx hb dX7_removeDimension_17 rfl (lv_at hl 0 rfl) ?_
    refine va_get (D := (dC, dI)) (ci := 7) (v := .int 1) (C := RX7) (T := TX7) (N := 34) hx hb hts iX7 hown hK hP 5 rfl rfl 0 (by decide) w0 (fun _ h9 => h9) rfl dX7_removeDimension_18 ?_
    refine lv_if_le (tgt := 26) hx hb dX7_removeDimension_21 (by decide) (fun c21 => ?_) (fun c21 => ?_)
    · exact absurd c21 (by decide)
    · skip
      refine lv_iconst (v := 0) hx hb dX7_removeDimension_24 (by decide) ?_
      have r2 : 0 = (if inB z cnt = true then nI (cnt - 1) else 0) := by first | (rw [if_neg hz]; done) | (rw [if_pos c6]; done)
      have q3 : (if inB z cnt = true then (0 : Int32) else 1) = 1 := by first | (rw [if_neg hz]; done) | (rw [if_pos c6]; done) | (rw [if_pos c6, e9]; done)
      have q4 : (nI (if inB z cnt = true then cnt - 1 else cnt)) = (nI cnt) := by first | (rw [if_neg hz]; done) | (rw [if_pos c6]; done) | (rw [if_pos c6, e9]; done)
      have q5 : (if inB z cnt = true then rmN F z.toNatClampNeg (cnt - 1 - z.toNatClampNeg) else F) = F := by first | (rw [if_neg hz]; done) | (rw [if_pos c6]; done) | (rw [if_pos c6, e9]; done)
      have q6 : (if inB z cnt = true then rmN T z.toNatClampNeg (cnt - 1 - z.toNatClampNeg) else T) = T := by first | (rw [if_neg hz]; done) | (rw [if_pos c6]; done) | (rw [if_pos c6, e9]; done)
      have q7 : (if inB z cnt = true then rmI nm z.toNatClampNeg (cnt - 1 - z.toNatClampNeg) else nm) = nm := by first | (rw [if_neg hz]; done) | (rw [if_pos c6]; done) | (rw [if_pos c6, e9]; done)
      have q8 : (if inB z cnt = true then rmI lo z.toNatClampNeg (cnt - 1 - z.toNatClampNeg) else lo) = lo := by first | (rw [if_neg hz]; done) | (rw [if_pos c6]; done) | (rw [if_pos c6, e9]; done)
      have q9 : (if inB z cnt = true then rmI up z.toNatClampNeg (cnt - 1 - z.toNatClampNeg) else up) = up := by first | (rw [if_neg hz]; done) | (rw [if_pos c6]; done) | (rw [if_pos c6, e9]; done)
      have hP9 : va_P (dC, dI) vwCl [(aM, .inr (7, [.int (if inB z cnt = true then (0 : Int32) else 1), .int (nI n), .int (nI (if inB z cnt = true then cnt - 1 else cnt)), .ref aMF, .ref aMT, .ref aMN, .ref aML, .ref aMU, .int (nI ml), .ref aMB, .int (nI sg), .int (nI rm), .int (nI mdg), .int (nI mnb), .int (bI mng), .ref aMf, .ref aMt, .ref aMn, .ref aMl, .ref aMu, .ref aMP, .ref aMD, .int (nI lk), .ref aMC, .ref aMO, .int gn, .int gl, .int gg, .ref aMY, .int nn, .int nl, .int nu, .ref aMS, .long hs])), (aMF, .inl (cyI, 20, .inl (fun j_ => nI ((if inB z cnt = true then rmN F z.toNatClampNeg (cnt - 1 - z.toNatClampNeg) else F) j_)))), (aMT, .inl (cyI, 20, .inl (fun j_ => nI ((if inB z cnt = true then rmN T z.toNatClampNeg (cnt - 1 - z.toNatClampNeg) else T) j_)))), (aMN, .inl (cyI, 20, .inl (if inB z cnt = true then rmI nm z.toNatClampNeg (cnt - 1 - z.toNatClampNeg) else nm))), (aML, .inl (cyI, 20, .inl (if inB z cnt = true then rmI lo z.toNatClampNeg (cnt - 1 - z.toNatClampNeg) else lo))), (aMU, .inl (cyI, 20, .inl (if inB z cnt = true then rmI up z.toNatClampNeg (cnt - 1 - z.toNatClampNeg) else up)))] H := by first | (rw [q7, q8, q9, q5, q6, q4, q3]; exact hP.sub [5, 0, 1, 2, 3, 4] rfl) | (simp only [q7, q8, q9, q5, q6, q4, q3]; exact hP.sub [5, 0, 1, 2, 3, 4] rfl) | exact hP.sub [5, 0, 1, 2, 3, 4] rfl
      have hD9 : va_D A [(aM, .inr (7, [.int (if inB z cnt = true then (0 : Int32) else 1), .int (nI n), .int (nI (if inB z cnt = true then cnt - 1 else cnt)), .ref aMF, .ref aMT, .ref aMN, .ref aML, .ref aMU, .int (nI ml), .ref aMB, .int (nI sg), .int (nI rm), .int (nI mdg), .int (nI mnb), .int (bI mng), .ref aMf, .ref aMt, .ref aMn, .ref aMl, .ref aMu, .ref aMP, .ref aMD, .int (nI lk), .ref aMC, .ref aMO, .int gn, .int gl, .int gg, .ref aMY, .int nn, .int nl, .int nu, .ref aMS, .long hs])), (aMF, .inl (cyI, 20, .inl (fun j_ => nI ((if inB z cnt = true then rmN F z.toNatClampNeg (cnt - 1 - z.toNatClampNeg) else F) j_)))), (aMT, .inl (cyI, 20, .inl (fun j_ => nI ((if inB z cnt = true then rmN T z.toNatClampNeg (cnt - 1 - z.toNatClampNeg) else T) j_)))), (aMN, .inl (cyI, 20, .inl (if inB z cnt = true then rmI nm z.toNatClampNeg (cnt - 1 - z.toNatClampNeg) else nm))), (aML, .inl (cyI, 20, .inl (if inB z cnt = true then rmI lo z.toNatClampNeg (cnt - 1 - z.toNatClampNeg) else lo))), (aMU, .inl (cyI, 20, .inl (if inB z cnt = true then rmI up z.toNatClampNeg (cnt - 1 - z.toNatClampNeg) else up)))] := by first | (rw [q7, q8, q9, q5, q6, q4, q3]; exact hD.sub [5, 0, 1, 2, 3, 4] (by decide) rfl) | (simp only [q7, q8, q9, q5, q6, q4, q3]; exact hD.sub [5, 0, 1, 2, 3, 4] (by decide) rfl) | exact hD.sub [5, 0, 1, 2, 3, 4] (by decide) rfl
      rw [hQe]
      exact W.iret (v := 0) hx hb hr (fun t ht hW => ⟨⟨_, (), rfl, r2, by rw [ht]; exact hP9, va_K.moved hW.alike hK, hD9⟩, hS.F ht⟩) hS.2.2 dX7_removeDimension_25
  · have c6 : (inB z cnt) = true := bI_n0 c6
    have hzl := ix_lt (inB_vp c6 (by omega))
    refine lv_iconst (v := 0) hx hb dX7_removeDimension_9 (by decide) ?_
    refine lv_goto (tgt := 14) hx hb dX7_removeDimension_10 (by decide) ?_
    refine va_put (D := (dC, dI)) (ci := 7) (v := .int 0) (ty := .int) (C := RX7) (T := TX7) (N := 34) hx hb hts iX7 tyX7 tyX7_ok nmX7 hown hK hP hD hS 5 rfl rfl 0 (by decide) w0 (fun _ h9 => h9) rfl (by decide +kernel) rfl rfl (Nat.le_of_ble_eq_true rfl) dX7_removeDimension_14 (fun H locs hP hD hS => ?_)
    have hP : va_P (dC, dI) vwCl [(aMF, .inl (cyI, 20, .inl (fun j_ => nI (F j_)))), (aMT, .inl (cyI, 20, .inl (fun j_ => nI (T j_)))), (aMN, .inl (cyI, 20, .inl nm)), (aML, .inl (cyI, 20, .inl lo)), (aMU, .inl (cyI, 20, .inl up)), (aM, .inr (7, [.int 0, .int (nI n), .int (nI cnt), .ref aMF, .ref aMT, .ref aMN, .ref aML, .ref aMU, .int (nI ml), .ref aMB, .int (nI sg), .int (nI rm), .int (nI mdg), .int (nI mnb), .int (bI mng), .ref aMf, .ref aMt, .ref aMn, .ref aMl, .ref aMu, .ref aMP, .ref aMD, .int (nI lk), .ref aMC, .ref aMO, .int gn, .int gl, .int gg, .ref aMY, .int nn, .int nl, .int nu, .ref aMS, .long hs]))] H := hP
    have hD : va_D A [(aMF, .inl (cyI, 20, .inl (fun j_ => nI (F j_)))), (aMT, .inl (cyI, 20, .inl (fun j_ => nI (T j_)))), (aMN, .inl (cyI, 20, .inl nm)), (aML, .inl (cyI, 20, .inl lo)), (aMU, .inl (cyI, 20, .inl up)), (aM, .inr (7, [.int 0, .int (nI n), .int (nI cnt), .ref aMF, .ref aMT, .ref aMN, .ref aML, .ref aMU, .int (nI ml), .ref aMB, .int (nI sg), .int (nI rm), .int (nI mdg), .int (nI mnb), .int (bI mng), .ref aMf, .ref aMt, .ref aMn, .ref aMl, .ref aMu, .ref aMP, .ref aMD, .int (nI lk), .ref aMC, .ref aMO, .int gn, .int gl, .int gg, .ref aMY, .int nn, .int nl, .int nu, .ref aMS, .long hs]))] := hD
    refine lv_aload_n hx hb dX7_removeDimension_17 rfl (lv_at hl 0 rfl) ?_
    refine va_get (D := (dC, dI)) (ci := 7) (v := .int 0) (C := RX7) (T := TX7) (N := 34) hx hb hts iX7 hown hK hP 5 rfl rfl 0 (by decide) w0 (fun _ h9 => h9) rfl dX7_removeDimension_18 ?_
    refine lv_if_le (tgt := 26) hx hb dX7_removeDimension_21 (by decide) (fun c21 => ?_) (fun c21 => ?_)
    · skip
      refine lv_aload_n hx hb dX7_removeDimension_26 rfl (lv_at hl 0 rfl) ?_
      refine lv_dup hx hb dX7_removeDimension_27 rfl ?_
      refine va_get (D := (dC, dI)) (ci := 7) (v := .int (nI cnt)) (C := RX7) (T := TX7) (N := 34) hx hb hts iX7 hown hK hP 5 rfl rfl 2 (by decide) w1 (fun _ h9 => h9) rfl dX7_removeDimension_28 ?_
      refine lv_iconst (v := 1) hx hb dX7_removeDimension_31 (by decide) ?_
      refine lv_isub hx hb dX7_removeDimension_32 ?_
      refine lv_topi (fun x10 e11 => ?_)
      obtain rfl : x10 = (nI (cnt - 1)) := by rw [e11]; exact pk_sub (a := cnt) (b := 1) (by omega)
      clear e11
      refine va_put (D := (dC, dI)) (ci := 7) (v := .int (nI (cnt - 1))) (ty := .int) (C := RX7) (T := TX7) (N := 34) hx hb hts iX7 tyX7 tyX7_ok nmX7 hown hK hP hD hS 5 rfl rfl 2 (by decide) w1 (fun _ h9 => h9) rfl (by decide +kernel) rfl rfl (Nat.le_of_ble_eq_true rfl) dX7_removeDimension_33 (fun H locs hP hD hS => ?_)
      have hP : va_P (dC, dI) vwCl [(aMF, .inl (cyI, 20, .inl (fun j_ => nI (F j_)))), (aMT, .inl (cyI, 20, .inl (fun j_ => nI (T j_)))), (aMN, .inl (cyI, 20, .inl nm)), (aML, .inl (cyI, 20, .inl lo)), (aMU, .inl (cyI, 20, .inl up)), (aM, .inr (7, [.int 0, .int (nI n), .int (nI (cnt - 1)), .ref aMF, .ref aMT, .ref aMN, .ref aML, .ref aMU, .int (nI ml), .ref aMB, .int (nI sg), .int (nI rm), .int (nI mdg), .int (nI mnb), .int (bI mng), .ref aMf, .ref aMt, .ref aMn, .ref aMl, .ref aMu, .ref aMP, .ref aMD, .int (nI lk), .ref aMC, .ref aMO, .int gn, .int gl, .int gg, .ref aMY, .int nn, .int nl, .int nu, .ref aMS, .long hs]))] H := hP
      have hD : va_D A [(aMF, .inl (cyI, 20, .inl (fun j_ => nI (F j_)))), (aMT, .inl (cyI, 20, .inl (fun j_ => nI (T j_)))), (aMN, .inl (cyI, 20, .inl nm)), (aML, .inl (cyI, 20, .inl lo)), (aMU, .inl (cyI, 20, .inl up)), (aM, .inr (7, [.int 0, .int (nI n), .int (nI (cnt - 1)), .ref aMF, .ref aMT, .ref aMN, .ref aML, .ref aMU, .int (nI ml), .ref aMB, .int (nI sg), .int (nI rm), .int (nI mdg), .int (nI mnb), .int (bI mng), .ref aMf, .ref aMt, .ref aMn, .ref aMl, .ref aMu, .ref aMP, .ref aMD, .int (nI lk), .ref aMC, .ref aMO, .int gn, .int gl, .int gg, .ref aMY, .int nn, .int nl, .int nu, .ref aMS, .long hs]))] := hD
      refine lv_iload_n hx hb dX7_removeDimension_36 rfl (lv_at hl 1 rfl) ?_
      refine lv_topi (fun x12 e13 => ?_)
      obtain rfl : x12 = (nI z.toNatClampNeg) := by rw [e13]; exact ix_eq (inB_vp c6 (by omega)) (by omega)
      clear e13
      refine lv_istore_n (lv' := [(2, .int (nI z.toNatClampNeg)), (0, .ref aM), (1, .int z)]) hx hb dX7_removeDimension_37 rfl hl (by decide) rfl (fun ls hl => ?_)
      have k38 : ∀ (fuel : Nat) (k : Nat) (hfuel : cnt - k < fuel) (hk : k ≤ cnt - 1 - z.toNatClampNeg) (H : Heap) (locs : List Loc) (ls : Array Slot), va_P (dC, dI) vwCl [(aM, .inr (7, [.int 0, .int (nI n), .int (nI (cnt - 1)), .ref aMF, .ref aMT, .ref aMN, .ref aML, .ref aMU, .int (nI ml), .ref aMB, .int (nI sg), .int (nI rm), .int (nI mdg), .int (nI mnb), .int (bI mng), .ref aMf, .ref aMt, .ref aMn, .ref aMl, .ref aMu, .ref aMP, .ref aMD, .int (nI lk), .ref aMC, .ref aMO, .int gn, .int gl, .int gg, .ref aMY, .int nn, .int nl, .int nu, .ref aMS, .long hs])), (aMF, .inl (cyI, 20, .inl (fun j_ => nI ((rmN F z.toNatClampNeg k) j_)))), (aMT, .inl (cyI, 20, .inl (fun j_ => nI ((rmN T z.toNatClampNeg k) j_)))), (aMN, .inl (cyI, 20, .inl (rmI nm z.toNatClampNeg k))), (aML, .inl (cyI, 20, .inl (rmI lo z.toNatClampNeg k))), (aMU, .inl (cyI, 20, .inl (rmI up z.toNatClampNeg k)))] H → va_D A [(aM, .inr (7, [.int 0, .int (nI n), .int (nI (cnt - 1)), .ref aMF, .ref aMT, .ref aMN, .ref aML, .ref aMU, .int (nI ml), .ref aMB, .int (nI sg), .int (nI rm), .int (nI mdg), .int (nI mnb), .int (bI mng), .ref aMf, .ref aMt, .ref aMn, .ref aMl, .ref aMu, .ref aMP, .ref aMD, .int (nI lk), .ref aMC, .ref aMO, .int gn, .int gl, .int gg, .ref aMY, .int nn, .int nl, .int nu, .ref aMS, .long hs])), (aMF, .inl (cyI, 20, .inl (fun j_ => nI ((rmN F z.toNatClampNeg k) j_)))), (aMT, .inl (cyI, 20, .inl (fun j_ => nI ((rmN T z.toNatClampNeg k) j_)))), (aMN, .inl (cyI, 20, .inl (rmI nm z.toNatClampNeg k))), (aML, .inl (cyI, 20, .inl (rmI lo z.toNatClampNeg k))), (aMU, .inl (cyI, 20, .inl (rmI up z.toNatClampNeg k)))] → va_S A s.heap H locs → lv_has ls 3 [(0, .ref aM), (1, .int z), (2, .int (nI (z.toNatClampNeg + k)))] → W pM l eM (headSpec wsX7_removeDimension ({ frames := 2, cells := 0, slots := 0, locals := 43 } : Room)).room s mM ([.ref aM, .int z] : List Value).toArray blM mtM cM H locs 0 0 Q (F0 mM 38 ls []) := by
        intro fuel
        induction fuel with
        | zero => intro k hfuel; exact absurd hfuel (Nat.not_lt_zero _)
        | succ fuel ih38 =>
          intro k hfuel hk H locs ls hP hD hS hl
          refine lv_iload_n hx hb dX7_removeDimension_38 rfl (lv_at hl 2 rfl) ?_
          refine lv_aload_n hx hb dX7_removeDimension_39 rfl (lv_at hl 0 rfl) ?_
          refine va_get (D := (dC, dI)) (ci := 7) (v := .int (nI (cnt - 1))) (C := RX7) (T := TX7) (N := 34) hx hb hts iX7 hown hK hP 0 rfl rfl 2 (by decide) w1 (fun _ h9 => h9) rfl dX7_removeDimension_40 ?_
          refine lv_icmp_ge (tgt := 122) hx hb dX7_removeDimension_43 (by decide) (fun c43 => ?_) (fun c43 => ?_)
          · have c43 := n_le (a := cnt - 1) (b := z.toNatClampNeg + k) (by omega) (by omega) c43
            have e9 : k = cnt - 1 - z.toNatClampNeg := (by omega)
            refine lv_aload_n hx hb dX7_removeDimension_122 rfl (lv_at hl 0 rfl) ?_
            refine va_get (D := (dC, dI)) (ci := 7) (v := .int (nI (cnt - 1))) (C := RX7) (T := TX7) (N := 34) hx hb hts iX7 hown hK hP 0 rfl rfl 2 (by decide) w1 (fun _ h9 => h9) rfl dX7_removeDimension_123 ?_
            have r14 : (nI (cnt - 1)) = (if inB z cnt = true then nI (cnt - 1) else 0) := by first | (rw [if_neg hz]; done) | (rw [if_pos c6]; done)
            have q15 : (if inB z cnt = true then (0 : Int32) else 1) = 0 := by first | (rw [if_neg hz]; done) | (rw [if_pos c6]; done) | (rw [if_pos c6, e9]; done)
            have q16 : (nI (if inB z cnt = true then cnt - 1 else cnt)) = (nI (cnt - 1)) := by first | (rw [if_neg hz]; done) | (rw [if_pos c6]; done) | (rw [if_pos c6, e9]; done)
            have q17 : (if inB z cnt = true then rmN F z.toNatClampNeg (cnt - 1 - z.toNatClampNeg) else F) = (rmN F z.toNatClampNeg k) := by first | (rw [if_neg hz]; done) | (rw [if_pos c6]; done) | (rw [if_pos c6, e9]; done)
            have q18 : (if inB z cnt = true then rmN T z.toNatClampNeg (cnt - 1 - z.toNatClampNeg) else T) = (rmN T z.toNatClampNeg k) := by first | (rw [if_neg hz]; done) | (rw [if_pos c6]; done) | (rw [if_pos c6, e9]; done)
            have q19 : (if inB z cnt = true then rmI nm z.toNatClampNeg (cnt - 1 - z.toNatClampNeg) else nm) = (rmI nm z.toNatClampNeg k) := by first | (rw [if_neg hz]; done) | (rw [if_pos c6]; done) | (rw [if_pos c6, e9]; done)
            have q20 : (if inB z cnt = true then rmI lo z.toNatClampNeg (cnt - 1 - z.toNatClampNeg) else lo) = (rmI lo z.toNatClampNeg k) := by first | (rw [if_neg hz]; done) | (rw [if_pos c6]; done) | (rw [if_pos c6, e9]; done)
            have q21 : (if inB z cnt = true then rmI up z.toNatClampNeg (cnt - 1 - z.toNatClampNeg) else up) = (rmI up z.toNatClampNeg k) := by first | (rw [if_neg hz]; done) | (rw [if_pos c6]; done) | (rw [if_pos c6, e9]; done)
            have hP9 : va_P (dC, dI) vwCl [(aM, .inr (7, [.int (if inB z cnt = true then (0 : Int32) else 1), .int (nI n), .int (nI (if inB z cnt = true then cnt - 1 else cnt)), .ref aMF, .ref aMT, .ref aMN, .ref aML, .ref aMU, .int (nI ml), .ref aMB, .int (nI sg), .int (nI rm), .int (nI mdg), .int (nI mnb), .int (bI mng), .ref aMf, .ref aMt, .ref aMn, .ref aMl, .ref aMu, .ref aMP, .ref aMD, .int (nI lk), .ref aMC, .ref aMO, .int gn, .int gl, .int gg, .ref aMY, .int nn, .int nl, .int nu, .ref aMS, .long hs])), (aMF, .inl (cyI, 20, .inl (fun j_ => nI ((if inB z cnt = true then rmN F z.toNatClampNeg (cnt - 1 - z.toNatClampNeg) else F) j_)))), (aMT, .inl (cyI, 20, .inl (fun j_ => nI ((if inB z cnt = true then rmN T z.toNatClampNeg (cnt - 1 - z.toNatClampNeg) else T) j_)))), (aMN, .inl (cyI, 20, .inl (if inB z cnt = true then rmI nm z.toNatClampNeg (cnt - 1 - z.toNatClampNeg) else nm))), (aML, .inl (cyI, 20, .inl (if inB z cnt = true then rmI lo z.toNatClampNeg (cnt - 1 - z.toNatClampNeg) else lo))), (aMU, .inl (cyI, 20, .inl (if inB z cnt = true then rmI up z.toNatClampNeg (cnt - 1 - z.toNatClampNeg) else up)))] H := by first | (rw [q19, q20, q21, q17, q18, q16, q15]; exact hP.sub [0, 1, 2, 3, 4, 5] rfl) | (simp only [q19, q20, q21, q17, q18, q16, q15]; exact hP.sub [0, 1, 2, 3, 4, 5] rfl) | exact hP.sub [0, 1, 2, 3, 4, 5] rfl
            have hD9 : va_D A [(aM, .inr (7, [.int (if inB z cnt = true then (0 : Int32) else 1), .int (nI n), .int (nI (if inB z cnt = true then cnt - 1 else cnt)), .ref aMF, .ref aMT, .ref aMN, .ref aML, .ref aMU, .int (nI ml), .ref aMB, .int (nI sg), .int (nI rm), .int (nI mdg), .int (nI mnb), .int (bI mng), .ref aMf, .ref aMt, .ref aMn, .ref aMl, .ref aMu, .ref aMP, .ref aMD, .int (nI lk), .ref aMC, .ref aMO, .int gn, .int gl, .int gg, .ref aMY, .int nn, .int nl, .int nu, .ref aMS, .long hs])), (aMF, .inl (cyI, 20, .inl (fun j_ => nI ((if inB z cnt = true then rmN F z.toNatClampNeg (cnt - 1 - z.toNatClampNeg) else F) j_)))), (aMT, .inl (cyI, 20, .inl (fun j_ => nI ((if inB z cnt = true then rmN T z.toNatClampNeg (cnt - 1 - z.toNatClampNeg) else T) j_)))), (aMN, .inl (cyI, 20, .inl (if inB z cnt = true then rmI nm z.toNatClampNeg (cnt - 1 - z.toNatClampNeg) else nm))), (aML, .inl (cyI, 20, .inl (if inB z cnt = true then rmI lo z.toNatClampNeg (cnt - 1 - z.toNatClampNeg) else lo))), (aMU, .inl (cyI, 20, .inl (if inB z cnt = true then rmI up z.toNatClampNeg (cnt - 1 - z.toNatClampNeg) else up)))] := by first | (rw [q19, q20, q21, q17, q18, q16, q15]; exact hD.sub [0, 1, 2, 3, 4, 5] (by decide) rfl) | (simp only [q19, q20, q21, q17, q18, q16, q15]; exact hD.sub [0, 1, 2, 3, 4, 5] (by decide) rfl) | exact hD.sub [0, 1, 2, 3, 4, 5] (by decide) rfl
            rw [hQe]
            exact W.iret (v := nI (cnt - 1)) hx hb hr (fun t ht hW => ⟨⟨_, (), rfl, r14, by rw [ht]; exact hP9, va_K.moved hW.alike hK, hD9⟩, hS.F ht⟩) hS.2.2 dX7_removeDimension_126
          · have c43 := n_nle (a := cnt - 1) (b := z.toNatClampNeg + k) (by omega) (by omega) c43
            refine lv_aload_n hx hb dX7_removeDimension_46 rfl (lv_at hl 0 rfl) ?_
            refine va_get (D := (dC, dI)) (ci := 7) (v := .ref aMF) (C := RX7) (T := TX7) (N := 34) hx hb hts iX7 hown hK hP 0 rfl rfl 3 (by decide) w2 (fun _ h9 => h9) rfl dX7_removeDimension_47 ?_
            refine lv_iload_n hx hb dX7_removeDimension_50 rfl (lv_at hl 2 rfl) ?_
            refine lv_aload_n hx hb dX7_removeDimension_51 rfl (lv_at hl 0 rfl) ?_
            refine va_get (D := (dC, dI)) (ci := 7) (v := .ref aMF) (C := RX7) (T := TX7) (N := 34) hx hb hts iX7 hown hK hP 0 rfl rfl 3 (by decide) w2 (fun _ h9 => h9) rfl dX7_removeDimension_52 ?_
            refine lv_iload_n hx hb dX7_removeDimension_55 rfl (lv_at hl 2 rfl) ?_
            refine lv_iconst (v := 1) hx hb dX7_removeDimension_56 (by decide) ?_
            refine lv_iadd hx hb dX7_removeDimension_57 ?_
            refine lv_topi (fun x22 e23 => ?_)
            obtain rfl : x22 = (nI ((z.toNatClampNeg + k) + 1)) := by rw [e23]; exact nI_add (z.toNatClampNeg + k) 1
            clear e23
            have h24 : vp_in (nI ((z.toNatClampNeg + k) + 1)) 20 := by first | exact vp_in_nI (by omega) (by omega) | assumption
            refine va_iald hx hb hK hP 1 0 rfl rfl h24 dX7_removeDimension_58 ?_
            refine lv_topi (fun x25 e26 => ?_)
            obtain rfl : x25 = (nI ((rmN F z.toNatClampNeg k) ((z.toNatClampNeg + k) + 1))) := by rw [e26, nI_clamp (by omega)]
            clear e26
            have h27 : vp_in (nI (z.toNatClampNeg + k)) 20 := by first | exact vp_in_nI (by omega) (by omega) | assumption
            refine va_iast hx hb hK hP hD hS 1 0 rfl rfl h27 dX7_removeDimension_59 (fun H locs hP hD hS => ?_)
            rw [nI_clamp (by omega)] at hP hD
            have ub : upd (fun j_ => nI ((rmN F z.toNatClampNeg k) j_)) (z.toNatClampNeg + k) (nI ((rmN F z.toNatClampNeg k) ((z.toNatClampNeg + k) + 1))) = (fun j_ => nI ((updN (rmN F z.toNatClampNeg k) (z.toNatClampNeg + k) ((rmN F z.toNatClampNeg k) ((z.toNatClampNeg + k) + 1))) j_)) := updN_z _ _ _
            have hP : va_P (dC, dI) vwCl [(aM, .inr (7, [.int 0, .int (nI n), .int (nI (cnt - 1)), .ref aMF, .ref aMT, .ref aMN, .ref aML, .ref aMU, .int (nI ml), .ref aMB, .int (nI sg), .int (nI rm), .int (nI mdg), .int (nI mnb), .int (bI mng), .ref aMf, .ref aMt, .ref aMn, .ref aMl, .ref aMu, .ref aMP, .ref aMD, .int (nI lk), .ref aMC, .ref aMO, .int gn, .int gl, .int gg, .ref aMY, .int nn, .int nl, .int nu, .ref aMS, .long hs])), (aMF, .inl (cyI, 20, .inl (fun j_ => nI ((updN (rmN F z.toNatClampNeg k) (z.toNatClampNeg + k) ((rmN F z.toNatClampNeg k) ((z.toNatClampNeg + k) + 1))) j_)))), (aMT, .inl (cyI, 20, .inl (fun j_ => nI ((rmN T z.toNatClampNeg k) j_)))), (aMN, .inl (cyI, 20, .inl (rmI nm z.toNatClampNeg k))), (aML, .inl (cyI, 20, .inl (rmI lo z.toNatClampNeg k))), (aMU, .inl (cyI, 20, .inl (rmI up z.toNatClampNeg k)))] H := by rw [← ub]; exact hP
            have hD : va_D A [(aM, .inr (7, [.int 0, .int (nI n), .int (nI (cnt - 1)), .ref aMF, .ref aMT, .ref aMN, .ref aML, .ref aMU, .int (nI ml), .ref aMB, .int (nI sg), .int (nI rm), .int (nI mdg), .int (nI mnb), .int (bI mng), .ref aMf, .ref aMt, .ref aMn, .ref aMl, .ref aMu, .ref aMP, .ref aMD, .int (nI lk), .ref aMC, .ref aMO, .int gn, .int gl, .int gg, .ref aMY, .int nn, .int nl, .int nu, .ref aMS, .long hs])), (aMF, .inl (cyI, 20, .inl (fun j_ => nI ((updN (rmN F z.toNatClampNeg k) (z.toNatClampNeg + k) ((rmN F z.toNatClampNeg k) ((z.toNatClampNeg + k) + 1))) j_)))), (aMT, .inl (cyI, 20, .inl (fun j_ => nI ((rmN T z.toNatClampNeg k) j_)))), (aMN, .inl (cyI, 20, .inl (rmI nm z.toNatClampNeg k))), (aML, .inl (cyI, 20, .inl (rmI lo z.toNatClampNeg k))), (aMU, .inl (cyI, 20, .inl (rmI up z.toNatClampNeg k)))] := by rw [← ub]; exact hD
            refine lv_aload_n hx hb dX7_removeDimension_60 rfl (lv_at hl 0 rfl) ?_
            refine va_get (D := (dC, dI)) (ci := 7) (v := .ref aMT) (C := RX7) (T := TX7) (N := 34) hx hb hts iX7 hown hK hP 0 rfl rfl 4 (by decide) w3 (fun _ h9 => h9) rfl dX7_removeDimension_61 ?_
            refine lv_iload_n hx hb dX7_removeDimension_64 rfl (lv_at hl 2 rfl) ?_
            refine lv_aload_n hx hb dX7_removeDimension_65 rfl (lv_at hl 0 rfl) ?_
            refine va_get (D := (dC, dI)) (ci := 7) (v := .ref aMT) (C := RX7) (T := TX7) (N := 34) hx hb hts iX7 hown hK hP 0 rfl rfl 4 (by decide) w3 (fun _ h9 => h9) rfl dX7_removeDimension_66 ?_
            refine lv_iload_n hx hb dX7_removeDimension_69 rfl (lv_at hl 2 rfl) ?_
            refine lv_iconst (v := 1) hx hb dX7_removeDimension_70 (by decide) ?_
            refine lv_iadd hx hb dX7_removeDimension_71 ?_
            refine lv_topi (fun x28 e29 => ?_)
            obtain rfl : x28 = (nI ((z.toNatClampNeg + k) + 1)) := by rw [e29]; exact nI_add (z.toNatClampNeg + k) 1
            clear e29
            have h30 : vp_in (nI ((z.toNatClampNeg + k) + 1)) 20 := by first | exact vp_in_nI (by omega) (by omega) | assumption
            refine va_iald hx hb hK hP 2 0 rfl rfl h30 dX7_removeDimension_72 ?_
            refine lv_topi (fun x31 e32 => ?_)
            obtain rfl : x31 = (nI ((rmN T z.toNatClampNeg k) ((z.toNatClampNeg + k) + 1))) := by rw [e32, nI_clamp (by omega)]
            clear e32
            have h33 : vp_in (nI (z.toNatClampNeg + k)) 20 := by first | exact vp_in_nI (by omega) (by omega) | assumption
            refine va_iast hx hb hK hP hD hS 2 0 rfl rfl h33 dX7_removeDimension_73 (fun H locs hP hD hS => ?_)
            rw [nI_clamp (by omega)] at hP hD
            have ub : upd (fun j_ => nI ((rmN T z.toNatClampNeg k) j_)) (z.toNatClampNeg + k) (nI ((rmN T z.toNatClampNeg k) ((z.toNatClampNeg + k) + 1))) = (fun j_ => nI ((updN (rmN T z.toNatClampNeg k) (z.toNatClampNeg + k) ((rmN T z.toNatClampNeg k) ((z.toNatClampNeg + k) + 1))) j_)) := updN_z _ _ _
            have hP : va_P (dC, dI) vwCl [(aM, .inr (7, [.int 0, .int (nI n), .int (nI (cnt - 1)), .ref aMF, .ref aMT, .ref aMN, .ref aML, .ref aMU, .int (nI ml), .ref aMB, .int (nI sg), .int (nI rm), .int (nI mdg), .int (nI mnb), .int (bI mng), .ref aMf, .ref aMt, .ref aMn, .ref aMl, .ref aMu, .ref aMP, .ref aMD, .int (nI lk), .ref aMC, .ref aMO, .int gn, .int gl, .int gg, .ref aMY, .int nn, .int nl, .int nu, .ref aMS, .long hs])), (aMF, .inl (cyI, 20, .inl (fun j_ => nI ((updN (rmN F z.toNatClampNeg k) (z.toNatClampNeg + k) ((rmN F z.toNatClampNeg k) ((z.toNatClampNeg + k) + 1))) j_)))), (aMT, .inl (cyI, 20, .inl (fun j_ => nI ((updN (rmN T z.toNatClampNeg k) (z.toNatClampNeg + k) ((rmN T z.toNatClampNeg k) ((z.toNatClampNeg + k) + 1))) j_)))), (aMN, .inl (cyI, 20, .inl (rmI nm z.toNatClampNeg k))), (aML, .inl (cyI, 20, .inl (rmI lo z.toNatClampNeg k))), (aMU, .inl (cyI, 20, .inl (rmI up z.toNatClampNeg k)))] H := by rw [← ub]; exact hP
            have hD : va_D A [(aM, .inr (7, [.int 0, .int (nI n), .int (nI (cnt - 1)), .ref aMF, .ref aMT, .ref aMN, .ref aML, .ref aMU, .int (nI ml), .ref aMB, .int (nI sg), .int (nI rm), .int (nI mdg), .int (nI mnb), .int (bI mng), .ref aMf, .ref aMt, .ref aMn, .ref aMl, .ref aMu, .ref aMP, .ref aMD, .int (nI lk), .ref aMC, .ref aMO, .int gn, .int gl, .int gg, .ref aMY, .int nn, .int nl, .int nu, .ref aMS, .long hs])), (aMF, .inl (cyI, 20, .inl (fun j_ => nI ((updN (rmN F z.toNatClampNeg k) (z.toNatClampNeg + k) ((rmN F z.toNatClampNeg k) ((z.toNatClampNeg + k) + 1))) j_)))), (aMT, .inl (cyI, 20, .inl (fun j_ => nI ((updN (rmN T z.toNatClampNeg k) (z.toNatClampNeg + k) ((rmN T z.toNatClampNeg k) ((z.toNatClampNeg + k) + 1))) j_)))), (aMN, .inl (cyI, 20, .inl (rmI nm z.toNatClampNeg k))), (aML, .inl (cyI, 20, .inl (rmI lo z.toNatClampNeg k))), (aMU, .inl (cyI, 20, .inl (rmI up z.toNatClampNeg k)))] := by rw [← ub]; exact hD
            refine lv_aload_n hx hb dX7_removeDimension_74 rfl (lv_at hl 0 rfl) ?_
            refine va_get (D := (dC, dI)) (ci := 7) (v := .ref aMN) (C := RX7) (T := TX7) (N := 34) hx hb hts iX7 hown hK hP 0 rfl rfl 5 (by decide) w4 (fun _ h9 => h9) rfl dX7_removeDimension_75 ?_
            refine lv_iload_n hx hb dX7_removeDimension_78 rfl (lv_at hl 2 rfl) ?_
            refine lv_aload_n hx hb dX7_removeDimension_79 rfl (lv_at hl 0 rfl) ?_
            refine va_get (D := (dC, dI)) (ci := 7) (v := .ref aMN) (C := RX7) (T := TX7) (N := 34) hx hb hts iX7 hown hK hP 0 rfl rfl 5 (by decide) w4 (fun _ h9 => h9) rfl dX7_removeDimension_80 ?_
            refine lv_iload_n hx hb dX7_removeDimension_83 rfl (lv_at hl 2 rfl) ?_
            refine lv_iconst (v := 1) hx hb dX7_removeDimension_84 (by decide) ?_
            refine lv_iadd hx hb dX7_removeDimension_85 ?_
            refine lv_topi (fun x34 e35 => ?_)
            obtain rfl : x34 = (nI ((z.toNatClampNeg + k) + 1)) := by rw [e35]; exact nI_add (z.toNatClampNeg + k) 1
            clear e35
            have h36 : vp_in (nI ((z.toNatClampNeg + k) + 1)) 20 := by first | exact vp_in_nI (by omega) (by omega) | assumption
            refine va_iald hx hb hK hP 3 0 rfl rfl h36 dX7_removeDimension_86 ?_
            refine lv_topi (fun x37 e38 => ?_)
            obtain rfl : x37 = ((rmI nm z.toNatClampNeg k) ((z.toNatClampNeg + k) + 1)) := by rw [e38, nI_clamp (by omega)]
            clear e38
            have h39 : vp_in (nI (z.toNatClampNeg + k)) 20 := by first | exact vp_in_nI (by omega) (by omega) | assumption
            refine va_iast hx hb hK hP hD hS 3 0 rfl rfl h39 dX7_removeDimension_87 (fun H locs hP hD hS => ?_)
            rw [nI_clamp (by omega)] at hP hD
            have hP : va_P (dC, dI) vwCl [(aM, .inr (7, [.int 0, .int (nI n), .int (nI (cnt - 1)), .ref aMF, .ref aMT, .ref aMN, .ref aML, .ref aMU, .int (nI ml), .ref aMB, .int (nI sg), .int (nI rm), .int (nI mdg), .int (nI mnb), .int (bI mng), .ref aMf, .ref aMt, .ref aMn, .ref aMl, .ref aMu, .ref aMP, .ref aMD, .int (nI lk), .ref aMC, .ref aMO, .int gn, .int gl, .int gg, .ref aMY, .int nn, .int nl, .int nu, .ref aMS, .long hs])), (aMF, .inl (cyI, 20, .inl (fun j_ => nI ((updN (rmN F z.toNatClampNeg k) (z.toNatClampNeg + k) ((rmN F z.toNatClampNeg k) ((z.toNatClampNeg + k) + 1))) j_)))), (aMT, .inl (cyI, 20, .inl (fun j_ => nI ((updN (rmN T z.toNatClampNeg k) (z.toNatClampNeg + k) ((rmN T z.toNatClampNeg k) ((z.toNatClampNeg + k) + 1))) j_)))), (aMN, .inl (cyI, 20, .inl (upd (rmI nm z.toNatClampNeg k) (z.toNatClampNeg + k) ((rmI nm z.toNatClampNeg k) ((z.toNatClampNeg + k) + 1))))), (aML, .inl (cyI, 20, .inl (rmI lo z.toNatClampNeg k))), (aMU, .inl (cyI, 20, .inl (rmI up z.toNatClampNeg k)))] H := hP
            have hD : va_D A [(aM, .inr (7, [.int 0, .int (nI n), .int (nI (cnt - 1)), .ref aMF, .ref aMT, .ref aMN, .ref aML, .ref aMU, .int (nI ml), .ref aMB, .int (nI sg), .int (nI rm), .int (nI mdg), .int (nI mnb), .int (bI mng), .ref aMf, .ref aMt, .ref aMn, .ref aMl, .ref aMu, .ref aMP, .ref aMD, .int (nI lk), .ref aMC, .ref aMO, .int gn, .int gl, .int gg, .ref aMY, .int nn, .int nl, .int nu, .ref aMS, .long hs])), (aMF, .inl (cyI, 20, .inl (fun j_ => nI ((updN (rmN F z.toNatClampNeg k) (z.toNatClampNeg + k) ((rmN F z.toNatClampNeg k) ((z.toNatClampNeg + k) + 1))) j_)))), (aMT, .inl (cyI, 20, .inl (fun j_ => nI ((updN (rmN T z.toNatClampNeg k) (z.toNatClampNeg + k) ((rmN T z.toNatClampNeg k) ((z.toNatClampNeg + k) + 1))) j_)))), (aMN, .inl (cyI, 20, .inl (upd (rmI nm z.toNatClampNeg k) (z.toNatClampNeg + k) ((rmI nm z.toNatClampNeg k) ((z.toNatClampNeg + k) + 1))))), (aML, .inl (cyI, 20, .inl (rmI lo z.toNatClampNeg k))), (aMU, .inl (cyI, 20, .inl (rmI up z.toNatClampNeg k)))] := hD
            refine lv_aload_n hx hb dX7_removeDimension_88 rfl (lv_at hl 0 rfl) ?_
            refine va_get (D := (dC, dI)) (ci := 7) (v := .ref aML) (C := RX7) (T := TX7) (N := 34) hx hb hts iX7 hown hK hP 0 rfl rfl 6 (by decide) w5 (fun _ h9 => h9) rfl dX7_removeDimension_89 ?_
            refine lv_iload_n hx hb dX7_removeDimension_92 rfl (lv_at hl 2 rfl) ?_
            refine lv_aload_n hx hb dX7_removeDimension_93 rfl (lv_at hl 0 rfl) ?_
            refine va_get (D := (dC, dI)) (ci := 7) (v := .ref aML) (C := RX7) (T := TX7) (N := 34) hx hb hts iX7 hown hK hP 0 rfl rfl 6 (by decide) w5 (fun _ h9 => h9) rfl dX7_removeDimension_94 ?_
            refine lv_iload_n hx hb dX7_removeDimension_97 rfl (lv_at hl 2 rfl) ?_
            refine lv_iconst (v := 1) hx hb dX7_removeDimension_98 (by decide) ?_
            refine lv_iadd hx hb dX7_removeDimension_99 ?_
            refine lv_topi (fun x40 e41 => ?_)
            obtain rfl : x40 = (nI ((z.toNatClampNeg + k) + 1)) := by rw [e41]; exact nI_add (z.toNatClampNeg + k) 1
            clear e41
            have h42 : vp_in (nI ((z.toNatClampNeg + k) + 1)) 20 := by first | exact vp_in_nI (by omega) (by omega) | assumption
            refine va_iald hx hb hK hP 4 0 rfl rfl h42 dX7_removeDimension_100 ?_
            refine lv_topi (fun x43 e44 => ?_)
            obtain rfl : x43 = ((rmI lo z.toNatClampNeg k) ((z.toNatClampNeg + k) + 1)) := by rw [e44, nI_clamp (by omega)]
            clear e44
            have h45 : vp_in (nI (z.toNatClampNeg + k)) 20 := by first | exact vp_in_nI (by omega) (by omega) | assumption
            refine va_iast hx hb hK hP hD hS 4 0 rfl rfl h45 dX7_removeDimension_101 (fun H locs hP hD hS => ?_)
            rw [nI_clamp (by omega)] at hP hD
            have hP : va_P (dC, dI) vwCl [(aM, .inr (7, [.int 0, .int (nI n), .int (nI (cnt - 1)), .ref aMF, .ref aMT, .ref aMN, .ref aML, .ref aMU, .int (nI ml), .ref aMB, .int (nI sg), .int (nI rm), .int (nI mdg), .int (nI mnb), .int (bI mng), .ref aMf, .ref aMt, .ref aMn, .ref aMl, .ref aMu, .ref aMP, .ref aMD, .int (nI lk), .ref aMC, .ref aMO, .int gn, .int gl, .int gg, .ref aMY, .int nn, .int nl, .int nu, .ref aMS, .long hs])), (aMF, .inl (cyI, 20, .inl (fun j_ => nI ((updN (rmN F z.toNatClampNeg k) (z.toNatClampNeg + k) ((rmN F z.toNatClampNeg k) ((z.toNatClampNeg + k) + 1))) j_)))), (aMT, .inl (cyI, 20, .inl (fun j_ => nI ((updN (rmN T z.toNatClampNeg k) (z.toNatClampNeg + k) ((rmN T z.toNatClampNeg k) ((z.toNatClampNeg + k) + 1))) j_)))), (aMN, .inl (cyI, 20, .inl (upd (rmI nm z.toNatClampNeg k) (z.toNatClampNeg + k) ((rmI nm z.toNatClampNeg k) ((z.toNatClampNeg + k) + 1))))), (aML, .inl (cyI, 20, .inl (upd (rmI lo z.toNatClampNeg k) (z.toNatClampNeg + k) ((rmI lo z.toNatClampNeg k) ((z.toNatClampNeg + k) + 1))))), (aMU, .inl (cyI, 20, .inl (rmI up z.toNatClampNeg k)))] H := hP
            have hD : va_D A [(aM, .inr (7, [.int 0, .int (nI n), .int (nI (cnt - 1)), .ref aMF, .ref aMT, .ref aMN, .ref aML, .ref aMU, .int (nI ml), .ref aMB, .int (nI sg), .int (nI rm), .int (nI mdg), .int (nI mnb), .int (bI mng), .ref aMf, .ref aMt, .ref aMn, .ref aMl, .ref aMu, .ref aMP, .ref aMD, .int (nI lk), .ref aMC, .ref aMO, .int gn, .int gl, .int gg, .ref aMY, .int nn, .int nl, .int nu, .ref aMS, .long hs])), (aMF, .inl (cyI, 20, .inl (fun j_ => nI ((updN (rmN F z.toNatClampNeg k) (z.toNatClampNeg + k) ((rmN F z.toNatClampNeg k) ((z.toNatClampNeg + k) + 1))) j_)))), (aMT, .inl (cyI, 20, .inl (fun j_ => nI ((updN (rmN T z.toNatClampNeg k) (z.toNatClampNeg + k) ((rmN T z.toNatClampNeg k) ((z.toNatClampNeg + k) + 1))) j_)))), (aMN, .inl (cyI, 20, .inl (upd (rmI nm z.toNatClampNeg k) (z.toNatClampNeg + k) ((rmI nm z.toNatClampNeg k) ((z.toNatClampNeg + k) + 1))))), (aML, .inl (cyI, 20, .inl (upd (rmI lo z.toNatClampNeg k) (z.toNatClampNeg + k) ((rmI lo z.toNatClampNeg k) ((z.toNatClampNeg + k) + 1))))), (aMU, .inl (cyI, 20, .inl (rmI up z.toNatClampNeg k)))] := hD
            refine lv_aload_n hx hb dX7_removeDimension_102 rfl (lv_at hl 0 rfl) ?_
            refine va_get (D := (dC, dI)) (ci := 7) (v := .ref aMU) (C := RX7) (T := TX7) (N := 34) hx hb hts iX7 hown hK hP 0 rfl rfl 7 (by decide) w6 (fun _ h9 => h9) rfl dX7_removeDimension_103 ?_
            refine lv_iload_n hx hb dX7_removeDimension_106 rfl (lv_at hl 2 rfl) ?_
            refine lv_aload_n hx hb dX7_removeDimension_107 rfl (lv_at hl 0 rfl) ?_
            refine va_get (D := (dC, dI)) (ci := 7) (v := .ref aMU) (C := RX7) (T := TX7) (N := 34) hx hb hts iX7 hown hK hP 0 rfl rfl 7 (by decide) w6 (fun _ h9 => h9) rfl dX7_removeDimension_108 ?_
            refine lv_iload_n hx hb dX7_removeDimension_111 rfl (lv_at hl 2 rfl) ?_
            refine lv_iconst (v := 1) hx hb dX7_removeDimension_112 (by decide) ?_
            refine lv_iadd hx hb dX7_removeDimension_113 ?_
            refine lv_topi (fun x46 e47 => ?_)
            obtain rfl : x46 = (nI ((z.toNatClampNeg + k) + 1)) := by rw [e47]; exact nI_add (z.toNatClampNeg + k) 1
            clear e47
            have h48 : vp_in (nI ((z.toNatClampNeg + k) + 1)) 20 := by first | exact vp_in_nI (by omega) (by omega) | assumption
            refine va_iald hx hb hK hP 5 0 rfl rfl h48 dX7_removeDimension_114 ?_
            refine lv_topi (fun x49 e50 => ?_)
            obtain rfl : x49 = ((rmI up z.toNatClampNeg k) ((z.toNatClampNeg + k) + 1)) := by rw [e50, nI_clamp (by omega)]
            clear e50
            have h51 : vp_in (nI (z.toNatClampNeg + k)) 20 := by first | exact vp_in_nI (by omega) (by omega) | assumption
            refine va_iast hx hb hK hP hD hS 5 0 rfl rfl h51 dX7_removeDimension_115 (fun H locs hP hD hS => ?_)
            rw [nI_clamp (by omega)] at hP hD
            have hP : va_P (dC, dI) vwCl [(aM, .inr (7, [.int 0, .int (nI n), .int (nI (cnt - 1)), .ref aMF, .ref aMT, .ref aMN, .ref aML, .ref aMU, .int (nI ml), .ref aMB, .int (nI sg), .int (nI rm), .int (nI mdg), .int (nI mnb), .int (bI mng), .ref aMf, .ref aMt, .ref aMn, .ref aMl, .ref aMu, .ref aMP, .ref aMD, .int (nI lk), .ref aMC, .ref aMO, .int gn, .int gl, .int gg, .ref aMY, .int nn, .int nl, .int nu, .ref aMS, .long hs])), (aMF, .inl (cyI, 20, .inl (fun j_ => nI ((updN (rmN F z.toNatClampNeg k) (z.toNatClampNeg + k) ((rmN F z.toNatClampNeg k) ((z.toNatClampNeg + k) + 1))) j_)))), (aMT, .inl (cyI, 20, .inl (fun j_ => nI ((updN (rmN T z.toNatClampNeg k) (z.toNatClampNeg + k) ((rmN T z.toNatClampNeg k) ((z.toNatClampNeg + k) + 1))) j_)))), (aMN, .inl (cyI, 20, .inl (upd (rmI nm z.toNatClampNeg k) (z.toNatClampNeg + k) ((rmI nm z.toNatClampNeg k) ((z.toNatClampNeg + k) + 1))))), (aML, .inl (cyI, 20, .inl (upd (rmI lo z.toNatClampNeg k) (z.toNatClampNeg + k) ((rmI lo z.toNatClampNeg k) ((z.toNatClampNeg + k) + 1))))), (aMU, .inl (cyI, 20, .inl (upd (rmI up z.toNatClampNeg k) (z.toNatClampNeg + k) ((rmI up z.toNatClampNeg k) ((z.toNatClampNeg + k) + 1)))))] H := hP
            have hD : va_D A [(aM, .inr (7, [.int 0, .int (nI n), .int (nI (cnt - 1)), .ref aMF, .ref aMT, .ref aMN, .ref aML, .ref aMU, .int (nI ml), .ref aMB, .int (nI sg), .int (nI rm), .int (nI mdg), .int (nI mnb), .int (bI mng), .ref aMf, .ref aMt, .ref aMn, .ref aMl, .ref aMu, .ref aMP, .ref aMD, .int (nI lk), .ref aMC, .ref aMO, .int gn, .int gl, .int gg, .ref aMY, .int nn, .int nl, .int nu, .ref aMS, .long hs])), (aMF, .inl (cyI, 20, .inl (fun j_ => nI ((updN (rmN F z.toNatClampNeg k) (z.toNatClampNeg + k) ((rmN F z.toNatClampNeg k) ((z.toNatClampNeg + k) + 1))) j_)))), (aMT, .inl (cyI, 20, .inl (fun j_ => nI ((updN (rmN T z.toNatClampNeg k) (z.toNatClampNeg + k) ((rmN T z.toNatClampNeg k) ((z.toNatClampNeg + k) + 1))) j_)))), (aMN, .inl (cyI, 20, .inl (upd (rmI nm z.toNatClampNeg k) (z.toNatClampNeg + k) ((rmI nm z.toNatClampNeg k) ((z.toNatClampNeg + k) + 1))))), (aML, .inl (cyI, 20, .inl (upd (rmI lo z.toNatClampNeg k) (z.toNatClampNeg + k) ((rmI lo z.toNatClampNeg k) ((z.toNatClampNeg + k) + 1))))), (aMU, .inl (cyI, 20, .inl (upd (rmI up z.toNatClampNeg k) (z.toNatClampNeg + k) ((rmI up z.toNatClampNeg k) ((z.toNatClampNeg + k) + 1)))))] := hD
            refine lv_iinc (v := nI (z.toNatClampNeg + k + 1)) (lv' := [(2, .int (nI (z.toNatClampNeg + k + 1))), (0, .ref aM), (1, .int z)]) hx hb dX7_removeDimension_116 hl (k := 2) rfl (nI_add (z.toNatClampNeg + k) 1) (by decide) rfl (fun ls hl => ?_)
            refine lv_goto (tgt := 38) hx hb dX7_removeDimension_119 (by decide) ?_
            have q52 : (rmN F z.toNatClampNeg (k + 1)) = (updN (rmN F z.toNatClampNeg k) (z.toNatClampNeg + k) ((rmN F z.toNatClampNeg k) ((z.toNatClampNeg + k) + 1))) := by simp only [rmN, rmI, show z.toNatClampNeg + 1 + k = z.toNatClampNeg + k + 1 by omega]
            have q53 : (rmN T z.toNatClampNeg (k + 1)) = (updN (rmN T z.toNatClampNeg k) (z.toNatClampNeg + k) ((rmN T z.toNatClampNeg k) ((z.toNatClampNeg + k) + 1))) := by simp only [rmN, rmI, show z.toNatClampNeg + 1 + k = z.toNatClampNeg + k + 1 by omega]
            have q54 : (rmI nm z.toNatClampNeg (k + 1)) = (upd (rmI nm z.toNatClampNeg k) (z.toNatClampNeg + k) ((rmI nm z.toNatClampNeg k) ((z.toNatClampNeg + k) + 1))) := by simp only [rmN, rmI, show z.toNatClampNeg + 1 + k = z.toNatClampNeg + k + 1 by omega]
            have q55 : (rmI lo z.toNatClampNeg (k + 1)) = (upd (rmI lo z.toNatClampNeg k) (z.toNatClampNeg + k) ((rmI lo z.toNatClampNeg k) ((z.toNatClampNeg + k) + 1))) := by simp only [rmN, rmI, show z.toNatClampNeg + 1 + k = z.toNatClampNeg + k + 1 by omega]
            have q56 : (rmI up z.toNatClampNeg (k + 1)) = (upd (rmI up z.toNatClampNeg k) (z.toNatClampNeg + k) ((rmI up z.toNatClampNeg k) ((z.toNatClampNeg + k) + 1))) := by simp only [rmN, rmI, show z.toNatClampNeg + 1 + k = z.toNatClampNeg + k + 1 by omega]
            have q57 : (nI (z.toNatClampNeg + (k + 1))) = (nI (z.toNatClampNeg + k + 1)) := by congr 1
            exact ih38 (k + 1) (by omega) (by first | assumption | omega) _ _ _ (by first | (rw [q54, q55, q56, q52, q53]; exact hP) | (simp only [q54, q55, q56, q52, q53]; exact hP) | exact hP) (by first | (rw [q54, q55, q56, q52, q53]; exact hD) | (simp only [q54, q55, q56, q52, q53]; exact hD) | exact hD) hS (by first | (rw [q57]; exact lv_sub hl [1, 2, 0] rfl) | (simp only [q57]; exact lv_sub hl [1, 2, 0] rfl) | exact lv_sub hl [1, 2, 0] rfl)
      have q58 : (rmN F z.toNatClampNeg 0) = F := by rfl
      have q59 : (rmN T z.toNatClampNeg 0) = T := by rfl
      have q60 : (rmI nm z.toNatClampNeg 0) = nm := by rfl
      have q61 : (rmI lo z.toNatClampNeg 0) = lo := by rfl
      have q62 : (rmI up z.toNatClampNeg 0) = up := by rfl
      have q63 : (nI (z.toNatClampNeg + 0)) = (nI z.toNatClampNeg) := by rfl
      exact k38 (cnt - 0 + 1) 0 (Nat.lt_succ_self _) (by first | assumption | omega) _ _ _ (by first | (rw [q60, q61, q62, q58, q59]; exact hP.sub [5, 0, 1, 2, 3, 4] rfl) | (simp only [q60, q61, q62, q58, q59]; exact hP.sub [5, 0, 1, 2, 3, 4] rfl) | exact hP.sub [5, 0, 1, 2, 3, 4] rfl) (by first | (rw [q60, q61, q62, q58, q59]; exact hD.sub [5, 0, 1, 2, 3, 4] (by decide) rfl) | (simp only [q60, q61, q62, q58, q59]; exact hD.sub [5, 0, 1, 2, 3, 4] (by decide) rfl) | exact hD.sub [5, 0, 1, 2, 3, 4] (by decide) rfl) hS (by first | (rw [q63]; exact lv_sub hl [1, 2, 0] rfl) | (simp only [q63]; exact lv_sub hl [1, 2, 0] rfl) | exact lv_sub hl [1, 2, 0] rfl)
    · exact absurd c21 (by decide)
set_option maxHeartbeats 4000000 in
set_option maxRecDepth 100000 in
theorem c_X7_append (l : Launch) (dC : Nat → ClassId) (dI : Nat → Nat → Nat) (cyI cyZ cyJ cyD : ClassId) (aM aMF aMT aMN aML aMU aMB aMf aMt aMn aMl aMu aMP aMD aMC aMO aMY aMS : Nat) (zH : Nat) (th : Int32) (n : Nat) (cnt : Nat) (ml : Nat) (sg : Nat) (rm : Nat) (mdg : Nat) (mnb : Nat) (mng : Bool) (lk : Nat) (gn : Int32) (gl : Int32) (gg : Int32) (nn : Int32) (nl : Int32) (nu : Int32) (hs : Int64) (inp : Nat → Nat) (x : Int32) (hml : ml ≤ 60) : Met l yX7_append wsX7_append ({ frames := 1, cells := 0, slots := 0, locals := 22 } : Room) (va_Pc [.ref aM, .int x] (fun U => U.heap.size = zH ∧ va_P (dC, dI) vwCl [(aM, .inr (7, [.int th, .int (nI n), .int (nI cnt), .ref aMF, .ref aMT, .ref aMN, .ref aML, .ref aMU, .int (nI ml), .ref aMB, .int (nI sg), .int (nI rm), .int (nI mdg), .int (nI mnb), .int (bI mng), .ref aMf, .ref aMt, .ref aMn, .ref aMl, .ref aMu, .ref aMP, .ref aMD, .int (nI lk), .ref aMC, .ref aMO, .int gn, .int gl, .int gg, .ref aMY, .int nn, .int nl, .int nu, .ref aMS, .long hs])), (aMB, .inl (cyI, 60, .inl (fun j_ => nI (inp j_))))] U.heap ∧ va_K (dC, dI) vwCl [(cyI, .int), (cyZ, .boolean), (cyJ, .long), (cyD, .double)] U ∧ va_D (fun _ => True) [(aM, .inr (7, [.int th, .int (nI n), .int (nI cnt), .ref aMF, .ref aMT, .ref aMN, .ref aML, .ref aMU, .int (nI ml), .ref aMB, .int (nI sg), .int (nI rm), .int (nI mdg), .int (nI mnb), .int (bI mng), .ref aMf, .ref aMt, .ref aMn, .ref aMl, .ref aMu, .ref aMP, .ref aMD, .int (nI lk), .ref aMC, .ref aMO, .int gn, .int gl, .int gg, .ref aMY, .int nn, .int nl, .int nu, .ref aMS, .long hs])), (aMB, .inl (cyI, 60, .inl (fun j_ => nI (inp j_))))])) (va_Qi (fun (r : Int32) (_ : Unit) => r = if apD x ml = 0 then nI (ml + 1) else 0) (fun _ t => va_P (dC, dI) vwCl [(aM, .inr (7, [.int (apD x ml), .int (nI n), .int (nI cnt), .ref aMF, .ref aMT, .ref aMN, .ref aML, .ref aMU, .int (nI (if apD x ml = 0 then ml + 1 else ml)), .ref aMB, .int (nI sg), .int (nI rm), .int (nI mdg), .int (nI mnb), .int (bI mng), .ref aMf, .ref aMt, .ref aMn, .ref aMl, .ref aMu, .ref aMP, .ref aMD, .int (nI lk), .ref aMC, .ref aMO, .int gn, .int gl, .int gg, .ref aMY, .int nn, .int nl, .int nu, .ref aMS, .long hs])), (aMB, .inl (cyI, 60, .inl (fun j_ => nI ((if apD x ml = 0 then updN inp ml x.toNatClampNeg else inp) j_))))] t.heap ∧ va_K (dC, dI) vwCl [(cyI, .int), (cyZ, .boolean), (cyJ, .long), (cyD, .double)] t ∧ va_D (va_A [(aM, .inr (7, [.int th, .int (nI n), .int (nI cnt), .ref aMF, .ref aMT, .ref aMN, .ref aML, .ref aMU, .int (nI ml), .ref aMB, .int (nI sg), .int (nI rm), .int (nI mdg), .int (nI mnb), .int (bI mng), .ref aMf, .ref aMt, .ref aMn, .ref aMl, .ref aMu, .ref aMP, .ref aMD, .int (nI lk), .ref aMC, .ref aMO, .int gn, .int gl, .int gg, .ref aMY, .int nn, .int nl, .int nu, .ref aMS, .long hs])), (aMB, .inl (cyI, 60, .inl (fun j_ => nI (inp j_))))] zH) [(aM, .inr (7, [.int (apD x ml), .int (nI n), .int (nI cnt), .ref aMF, .ref aMT, .ref aMN, .ref aML, .ref aMU, .int (nI (if apD x ml = 0 then ml + 1 else ml)), .ref aMB, .int (nI sg), .int (nI rm), .int (nI mdg), .int (nI mnb), .int (bI mng), .ref aMf, .ref aMt, .ref aMn, .ref aMl, .ref aMu, .ref aMP, .ref aMD, .int (nI lk), .ref aMC, .ref aMO, .int gn, .int gl, .int gg, .ref aMY, .int nn, .int nl, .int nu, .ref aMS, .long hs])), (aMB, .inl (cyI, 60, .inl (fun j_ => nI ((if apD x ml = 0 then updN inp ml x.toNatClampNeg else inp) j_))))]) (va_A [(aM, .inr (7, [.int th, .int (nI n), .int (nI cnt), .ref aMF, .ref aMT, .ref aMN, .ref aML, .ref aMU, .int (nI ml), .ref aMB, .int (nI sg), .int (nI rm), .int (nI mdg), .int (nI mnb), .int (bI mng), .ref aMf, .ref aMt, .ref aMn, .ref aMl, .ref aMu, .ref aMP, .ref aMD, .int (nI lk), .ref aMC, .ref aMO, .int gn, .int gl, .int gg, .ref aMY, .int nn, .int nl, .int nu, .ref aMS, .long hs])), (aMB, .inl (cyI, 60, .inl (fun j_ => nI (inp j_))))] zH)) 0 0 (va_A [(aM, .inr (7, [.int th, .int (nI n), .int (nI cnt), .ref aMF, .ref aMT, .ref aMN, .ref aML, .ref aMU, .int (nI ml), .ref aMB, .int (nI sg), .int (nI rm), .int (nI mdg), .int (nI mnb), .int (bI mng), .ref aMf, .ref aMt, .ref aMn, .ref aMl, .ref aMu, .ref aMP, .ref aMD, .int (nI lk), .ref aMC, .ref aMO, .int gn, .int gl, .int gg, .ref aMY, .int nn, .int nl, .int nu, .ref aMS, .long hs])), (aMB, .inl (cyI, 60, .inl (fun j_ => nI (inp j_))))] zH) := by
  refine Met.ofW (cc := cX7_append) (maxL := 2) (ret := (some .int)) (by decide) rfl ?_
  intro pM eM s mM args blM mtM cM s₁ BM hml hv
  obtain ⟨rfl, hsz, hP, hK, hD0⟩ := hv
  have hx := BM.exec
  have hb := BM.bytes
  have hr := BM.returns
  have hts := atoms_spec (ws := wsX7_append) BM.pre
  have hown : s.vm.findClass RX7 = some mM.cls := findClass_of_methodNamed BM.named
  have hlocks := BM.notSynchronized
  have w0 := hts (.fieldLink RX7 110 "DimensionCheckerModel" "length" "I") (by decide +kernel)
  have w1 := hts (.fieldLink RX7 67 "DimensionCheckerModel" "thrown" "I") (by decide +kernel)
  have w2 := hts (.fieldLink RX7 29 "DimensionCheckerModel" "buffer" "[I") (by decide +kernel)
  have iX7 : ∀ w ∈ wsX70, w ∈ wsX7_append := by decide +kernel
  subst hsz
  have hD := hD0.self (sz := s.heap.size)
  obtain ⟨Q, hQe⟩ : ∃ Q : State → Prop, Q = MQ blM (va_Qi (fun (r : Int32) (_ : Unit) => r = if apD x ml = 0 then nI (ml + 1) else 0) (fun _ t => va_P (dC, dI) vwCl [(aM, .inr (7, [.int (apD x ml), .int (nI n), .int (nI cnt), .ref aMF, .ref aMT, .ref aMN, .ref aML, .ref aMU, .int (nI (if apD x ml = 0 then ml + 1 else ml)), .ref aMB, .int (nI sg), .int (nI rm), .int (nI mdg), .int (nI mnb), .int (bI mng), .ref aMf, .ref aMt, .ref aMn, .ref aMl, .ref aMu, .ref aMP, .ref aMD, .int (nI lk), .ref aMC, .ref aMO, .int gn, .int gl, .int gg, .ref aMY, .int nn, .int nl, .int nu, .ref aMS, .long hs])), (aMB, .inl (cyI, 60, .inl (fun j_ => nI ((if apD x ml = 0 then updN inp ml x.toNatClampNeg else inp) j_))))] t.heap ∧ va_K (dC, dI) vwCl [(cyI, .int), (cyZ, .boolean), (cyJ, .long), (cyD, .double)] t ∧ va_D (va_A [(aM, .inr (7, [.int th, .int (nI n), .int (nI cnt), .ref aMF, .ref aMT, .ref aMN, .ref aML, .ref aMU, .int (nI ml), .ref aMB, .int (nI sg), .int (nI rm), .int (nI mdg), .int (nI mnb), .int (bI mng), .ref aMf, .ref aMt, .ref aMn, .ref aMl, .ref aMu, .ref aMP, .ref aMD, .int (nI lk), .ref aMC, .ref aMO, .int gn, .int gl, .int gg, .ref aMY, .int nn, .int nl, .int nu, .ref aMS, .long hs])), (aMB, .inl (cyI, 60, .inl (fun j_ => nI (inp j_))))] s.heap.size) [(aM, .inr (7, [.int (apD x ml), .int (nI n), .int (nI cnt), .ref aMF, .ref aMT, .ref aMN, .ref aML, .ref aMU, .int (nI (if apD x ml = 0 then ml + 1 else ml)), .ref aMB, .int (nI sg), .int (nI rm), .int (nI mdg), .int (nI mnb), .int (bI mng), .ref aMf, .ref aMt, .ref aMn, .ref aMl, .ref aMu, .ref aMP, .ref aMD, .int (nI lk), .ref aMC, .ref aMO, .int gn, .int gl, .int gg, .ref aMY, .int nn, .int nl, .int nu, .ref aMS, .long hs])), (aMB, .inl (cyI, 60, .inl (fun j_ => nI ((if apD x ml = 0 then updN inp ml x.toNatClampNeg else inp) j_))))]) (va_A [(aM, .inr (7, [.int th, .int (nI n), .int (nI cnt), .ref aMF, .ref aMT, .ref aMN, .ref aML, .ref aMU, .int (nI ml), .ref aMB, .int (nI sg), .int (nI rm), .int (nI mdg), .int (nI mnb), .int (bI mng), .ref aMf, .ref aMt, .ref aMn, .ref aMl, .ref aMu, .ref aMP, .ref aMD, .int (nI lk), .ref aMC, .ref aMO, .int gn, .int gl, .int gg, .ref aMY, .int nn, .int nl, .int nu, .ref aMS, .long hs])), (aMB, .inl (cyI, 60, .inl (fun j_ => nI (inp j_))))] s.heap.size)) ([.ref aM, .int x] : List Value).toArray s 0 0 (va_A [(aM, .inr (7, [.int th, .int (nI n), .int (nI cnt), .ref aMF, .ref aMT, .ref aMN, .ref aML, .ref aMU, .int (nI ml), .ref aMB, .int (nI sg), .int (nI rm), .int (nI mdg), .int (nI mnb), .int (bI mng), .ref aMf, .ref aMt, .ref aMn, .ref aMl, .ref aMu, .ref aMP, .ref aMD, .int (nI lk), .ref aMC, .ref aMO, .int gn, .int gl, .int gg, .ref aMY, .int nn, .int nl, .int nu, .ref aMS, .long hs])), (aMB, .inl (cyI, 60, .inl (fun j_ => nI (inp j_))))] s.heap.size) := ⟨_, rfl⟩
  rw [← hQe]
  generalize hAe : va_A [(aM, .inr (7, [.int th, .int (nI n), .int (nI cnt), .ref aMF, .ref aMT, .ref aMN, .ref aML, .ref aMU, .int (nI ml), .ref aMB, .int (nI sg), .int (nI rm), .int (nI mdg), .int (nI mnb), .int (bI mng), .ref aMf, .ref aMt, .ref aMn, .ref aMl, .ref aMu, .ref aMP, .ref aMD, .int (nI lk), .ref aMC, .ref aMO, .int gn, .int gl, .int gg, .ref aMY, .int nn, .int nl, .int nu, .ref aMS, .long hs])), (aMB, .inl (cyI, 60, .inl (fun j_ => nI (inp j_))))] s.heap.size = A at hD hQe
  have hA : ∀ q : Nat, s.heap.size ≤ q → A q := fun q h => by rw [← hAe]; exact Or.inr h
  obtain ⟨H, hHe⟩ : ∃ H : Heap, H = s.heap := ⟨_, rfl⟩
  have hS : va_S A s.heap H [] := by rw [hHe]; exact va_S.rf
  rw [← hHe] at hP ⊢
  have hl := lv_entry ([.ref aM, .int x]) (n := 2) (Nat.le_of_ble_eq_true rfl)
  rw [lg_entry_eq]
  generalize (lg_sl ([.ref aM, .int x]) ++ List.replicate (2 - (lg_sl ([.ref aM, .int x])).length) Slot.unset).toArray = ls at hl ⊢
  have hl : lv_has ls 2 [(0, .ref aM), (1, .int x)] := hl
  refine lv_aload_n hx hb dX7_append_0 rfl (lv_at hl 0 rfl) ?_
  refine lv_iload_n hx hb dX7_append_1 rfl (lv_at hl 1 rfl) ?_
  refine lv_bipush (v := 32) hx hb dX7_append_2 (by decide) ?_
  refine lv_bipush (v := 126) hx hb dX7_append_4 (by decide) ?_
  have hPc := hP.sub (ws' := []) [] rfl
  have hDc := hD.sub (ws' := []) [] (by decide) rfl
  have hFc := va_free (wc := []) hD hS hA [] rfl
  refine va_calli (va_runS (As := [.int x, .int 32, .int 126]) (rest := [.ref aM]) ⟨hx, hb, hml, hown, hts⟩ (c_X7_within l dC dI cyI cyZ cyJ cyD H.size x 32 126) (va_cwS 3 hts gX7_append_X7_within rfl rfl rfl (by decide +kernel) ⟨Nat.le_of_ble_eq_true rfl, Nat.le_of_ble_eq_true rfl⟩) ⟨fun a U g mk q => by obtain ⟨q0, q1, qP, qK, qD⟩ := q; exact ⟨q0, q1, qP, va_K.moved (u := U) (U := U.calling g mk a) (Vm.Alike.refl U.vm) qK, qD⟩, fun U hU hW => ⟨rfl, by rw [hU], by rw [hU]; exact hPc, va_K.moved hW.alike hK, hDc.weaken (fun _ _ _ _ => trivial)⟩⟩ rfl rfl hl.1 rfl (lv_room (Nat.le_of_ble_eq_true rfl)) dX7_append_6 ⟨Nat.le_of_ble_eq_true rfl, Nat.le_of_ble_eq_true rfl⟩) hS (fun q _ h => hFc q h) hFc (fun r u t H1 locs ht hvm hw hB hz1 hk1 hS => ?_)
  obtain rfl := hw
  obtain ⟨hP1, hK1, hD1⟩ := hB
  rw [ht] at hP1
  obtain ⟨hP, hD⟩ := va_join (wr := [(aM, .inr (7, [.int th, .int (nI n), .int (nI cnt), .ref aMF, .ref aMT, .ref aMN, .ref aML, .ref aMU, .int (nI ml), .ref aMB, .int (nI sg), .int (nI rm), .int (nI mdg), .int (nI mnb), .int (bI mng), .ref aMf, .ref aMt, .ref aMn, .ref aMl, .ref aMu, .ref aMP, .ref aMD, .int (nI lk), .ref aMC, .ref aMO, .int gn, .int gl, .int gg, .ref aMY, .int nn, .int nl, .int nu, .ref aMS, .long hs])), (aMB, .inl (cyI, 60, .inl (fun j_ => nI (inp j_))))]) (w1 := []) hP hD [] [0, 1] rfl rfl (by decide) (by decide) hk1 hFc hP1 hD1
  clear hP1 hD1 hK1 hPc hDc hFc hk1 hz1 hvm ht u t
  generalize H1 = H at hP hS ⊢
  have hP : va_P (dC, dI) vwCl [(aM, .inr (7, [.int th, .int (nI n), .int (nI cnt), .ref aMF, .ref aMT, .ref aMN, .ref aML, .ref aMU, .int (nI ml), .ref aMB, .int (nI sg), .int (nI rm), .int (nI mdg), .int (nI mnb), .int (bI mng), .ref aMf, .ref aMt, .ref aMn, .ref aMl, .ref aMu, .ref aMP, .ref aMD, .int (nI lk), .ref aMC, .ref aMO, .int gn, .int gl, .int gg, .ref aMY, .int nn, .int nl, .int nu, .ref aMS, .long hs])), (aMB, .inl (cyI, 60, .inl (fun j_ => nI (inp j_))))] H := hP
  have hD : va_D A [(aM, .inr (7, [.int th, .int (nI n), .int (nI cnt), .ref aMF, .ref aMT, .ref aMN, .ref aML, .ref aMU, .int (nI ml), .ref aMB, .int (nI sg), .int (nI rm), .int (nI mdg), .int (nI mnb), .int (bI mng), .ref aMf, .ref aMt, .ref aMn, .ref aMl, .ref aMu, .ref aMP, .ref aMD, .int (nI lk), .ref aMC, .ref aMO, .int gn, .int gl, .int gg, .ref aMY, .int nn, .int nl, .int nu, .ref aMS, .long hs])), (aMB, .inl (cyI, 60, .inl (fun j_ => nI (inp j_))))] := hD
  refine lv_if_ne (tgt := 16) hx hb dX7_append_9 (by decide) (fun c9 => ?_) (fun c9 => ?_)
  · have c9 : (wtn x 32 126) = true := bI_n0 c9
    have hxn : x = nI x.toNatClampNeg := wtn_nat (k := 32) (by decide) c9
    refine lv_aload_n hx hb dX7_append_16 rfl (lv_at hl 0 rfl) ?_
    refine va_get (D := (dC, dI)) (ci := 7) (v := .int (nI ml)) (C := RX7) (T := TX7) (N := 34) hx hb hts iX7 hown hK hP 0 rfl rfl 8 (by decide) w0 (fun _ h9 => h9) rfl dX7_append_17 ?_
    refine lv_bipush (v := 60) hx hb dX7_append_20 (by decide) ?_
    refine lv_icmp_ne (tgt := 29) hx hb dX7_append_22 (by decide) (fun c22 => ?_) (fun c22 => ?_)
    · have c22 := n_ne (a := ml) (b := 60) (by omega) (by omega) c22
      have hz : apD x ml = 0 := by simp [apD, c9, c22]
      refine lv_iconst (v := 0) hx hb dX7_append_29 (by decide) ?_
      refine va_put (D := (dC, dI)) (ci := 7) (v := .int 0) (ty := .int) (C := RX7) (T := TX7) (N := 34) hx hb hts iX7 tyX7 tyX7_ok nmX7 hown hK hP hD hS 0 rfl rfl 0 (by decide) w1 (fun _ h9 => h9) rfl (by decide +kernel) rfl rfl (Nat.le_of_ble_eq_true rfl) dX7_append_30 (fun H locs hP hD hS => ?_)
      have hP : va_P (dC, dI) vwCl [(aM, .inr (7, [.int 0, .int (nI n), .int (nI cnt), .ref aMF, .ref aMT, .ref aMN, .ref aML, .ref aMU, .int (nI ml), .ref aMB, .int (nI sg), .int (nI rm), .int (nI mdg), .int (nI mnb), .int (bI mng), .ref aMf, .ref aMt, .ref aMn, .ref aMl, .ref aMu, .ref aMP, .ref aMD, .int (nI lk), .ref aMC, .ref aMO, .int gn, .int gl, .int gg, .ref aMY, .int nn, .int nl, .int nu, .ref aMS, .long hs])), (aMB, .inl (cyI, 60, .inl (fun j_ => nI (inp j_))))] H := hP
      have hD : va_D A [(aM, .inr (7, [.int 0, .int (nI n), .int (nI cnt), .ref aMF, .ref aMT, .ref aMN, .ref aML, .ref aMU, .int (nI ml), .ref aMB, .int (nI sg), .int (nI rm), .int (nI mdg), .int (nI mnb), .int (bI mng), .ref aMf, .ref aMt, .ref aMn, .ref aMl, .ref aMu, .ref aMP, .ref aMD, .int (nI lk), .ref aMC, .ref aMO, .int gn, .int gl, .int gg, .ref aMY, .int nn, .int nl, .int nu, .ref aMS, .long hs])), (aMB, .inl (cyI, 60, .inl (fun j_ => nI (inp j_))))] := hD
      refine lv_aload_n hx hb dX7_append_33 rfl (lv_at hl 0 rfl) ?_
      refine va_get (D := (dC, dI)) (ci := 7) (v := .int 0) (C := RX7) (T := TX7) (N := 34) hx hb hts iX7 hown hK hP 0 rfl rfl 0 (by decide) w1 (fun _ h9 => h9) rfl dX7_append_34 ?_
      refine lv_if_le (tgt := 42) hx hb dX7_append_37 (by decide) (fun c37 => ?_) (fun c37 => ?_)
      · skip
        refine lv_aload_n hx hb dX7_append_42 rfl (lv_at hl 0 rfl) ?_
        refine va_get (D := (dC, dI)) (ci := 7) (v := .ref aMB) (C := RX7) (T := TX7) (N := 34) hx hb hts iX7 hown hK hP 0 rfl rfl 9 (by decide) w2 (fun _ h9 => h9) rfl dX7_append_43 ?_
        refine lv_aload_n hx hb dX7_append_46 rfl (lv_at hl 0 rfl) ?_
        refine va_get (D := (dC, dI)) (ci := 7) (v := .int (nI ml)) (C := RX7) (T := TX7) (N := 34) hx hb hts iX7 hown hK hP 0 rfl rfl 8 (by decide) w0 (fun _ h9 => h9) rfl dX7_append_47 ?_
        refine lv_iload_n hx hb dX7_append_50 rfl (lv_at hl 1 rfl) ?_
        refine lv_topi (fun x1 e2 => ?_)
        obtain rfl : x1 = (nI x.toNatClampNeg) := by rw [e2]; exact hxn
        clear e2
        have h3 : vp_in (nI ml) 60 := by first | exact vp_in_nI (by omega) (by omega) | assumption
        refine va_iast hx hb hK hP hD hS 1 0 rfl rfl h3 dX7_append_51 (fun H locs hP hD hS => ?_)
        rw [nI_clamp (by omega)] at hP hD
        have ub : upd (fun j_ => nI (inp j_)) ml (nI x.toNatClampNeg) = (fun j_ => nI ((updN inp ml x.toNatClampNeg) j_)) := updN_z _ _ _
        have hP : va_P (dC, dI) vwCl [(aM, .inr (7, [.int 0, .int (nI n), .int (nI cnt), .ref aMF, .ref aMT, .ref aMN, .ref aML, .ref aMU, .int (nI ml), .ref aMB, .int (nI sg), .int (nI rm), .int (nI mdg), .int (nI mnb), .int (bI mng), .ref aMf, .ref aMt, .ref aMn, .ref aMl, .ref aMu, .ref aMP, .ref aMD, .int (nI lk), .ref aMC, .ref aMO, .int gn, .int gl, .int gg, .ref aMY, .int nn, .int nl, .int nu, .ref aMS, .long hs])), (aMB, .inl (cyI, 60, .inl (fun j_ => nI ((updN inp ml x.toNatClampNeg) j_))))] H := by rw [← ub]; exact hP
        have hD : va_D A [(aM, .inr (7, [.int 0, .int (nI n), .int (nI cnt), .ref aMF, .ref aMT, .ref aMN, .ref aML, .ref aMU, .int (nI ml), .ref aMB, .int (nI sg), .int (nI rm), .int (nI mdg), .int (nI mnb), .int (bI mng), .ref aMf, .ref aMt, .ref aMn, .ref aMl, .ref aMu, .ref aMP, .ref aMD, .int (nI lk), .ref aMC, .ref aMO, .int gn, .int gl, .int gg, .ref aMY, .int nn, .int nl, .int nu, .ref aMS, .long hs])), (aMB, .inl (cyI, 60, .inl (fun j_ => nI ((updN inp ml x.toNatClampNeg) j_))))] := by rw [← ub]; exact hD
        refine lv_aload_n hx hb dX7_append_52 rfl (lv_at hl 0 rfl) ?_
        refine lv_dup hx hb dX7_append_53 rfl ?_
        refine va_get (D := (dC, dI)) (ci := 7) (v := .int (nI ml)) (C := RX7) (T := TX7) (N := 34) hx hb hts iX7 hown hK hP 0 rfl rfl 8 (by decide) w0 (fun _ h9 => h9) rfl dX7_append_54 ?_
        refine lv_iconst (v := 1) hx hb dX7_append_57 (by decide) ?_
        refine lv_iadd hx hb dX7_append_58 ?_
        refine lv_topi (fun x4 e5 => ?_)
        obtain rfl : x4 = (nI (ml + 1)) := by rw [e5]; exact nI_add ml 1
        clear e5
        refine va_put (D := (dC, dI)) (ci := 7) (v := .int (nI (ml + 1))) (ty := .int) (C := RX7) (T := TX7) (N := 34) hx hb hts iX7 tyX7 tyX7_ok nmX7 hown hK hP hD hS 0 rfl rfl 8 (by decide) w0 (fun _ h9 => h9) rfl (by decide +kernel) rfl rfl (Nat.le_of_ble_eq_true rfl) dX7_append_59 (fun H locs hP hD hS => ?_)
        have hP : va_P (dC, dI) vwCl [(aM, .inr (7, [.int 0, .int (nI n), .int (nI cnt), .ref aMF, .ref aMT, .ref aMN, .ref aML, .ref aMU, .int (nI (ml + 1)), .ref aMB, .int (nI sg), .int (nI rm), .int (nI mdg), .int (nI mnb), .int (bI mng), .ref aMf, .ref aMt, .ref aMn, .ref aMl, .ref aMu, .ref aMP, .ref aMD, .int (nI lk), .ref aMC, .ref aMO, .int gn, .int gl, .int gg, .ref aMY, .int nn, .int nl, .int nu, .ref aMS, .long hs])), (aMB, .inl (cyI, 60, .inl (fun j_ => nI ((updN inp ml x.toNatClampNeg) j_))))] H := hP
        have hD : va_D A [(aM, .inr (7, [.int 0, .int (nI n), .int (nI cnt), .ref aMF, .ref aMT, .ref aMN, .ref aML, .ref aMU, .int (nI (ml + 1)), .ref aMB, .int (nI sg), .int (nI rm), .int (nI mdg), .int (nI mnb), .int (bI mng), .ref aMf, .ref aMt, .ref aMn, .ref aMl, .ref aMu, .ref aMP, .ref aMD, .int (nI lk), .ref aMC, .ref aMO, .int gn, .int gl, .int gg, .ref aMY, .int nn, .int nl, .int nu, .ref aMS, .long hs])), (aMB, .inl (cyI, 60, .inl (fun j_ => nI ((updN inp ml x.toNatClampNeg) j_))))] := hD
        refine lv_aload_n hx hb dX7_append_62 rfl (lv_at hl 0 rfl) ?_
        refine va_get (D := (dC, dI)) (ci := 7) (v := .int (nI (ml + 1))) (C := RX7) (T := TX7) (N := 34) hx hb hts iX7 hown hK hP 0 rfl rfl 8 (by decide) w0 (fun _ h9 => h9) rfl dX7_append_63 ?_
        have r6 : (nI (ml + 1)) = (if apD x ml = 0 then nI (ml + 1) else 0) := by first | (rw [if_pos hz]; done) | (rw [hz]; rfl)
        have q7 : (apD x ml) = 0 := by exact hz
        have q8 : (nI (if apD x ml = 0 then ml + 1 else ml)) = (nI (ml + 1)) := by first | (rw [if_pos hz]; done) | (rw [hz]; rfl)
        have q9 : (if apD x ml = 0 then updN inp ml x.toNatClampNeg else inp) = (updN inp ml x.toNatClampNeg) := by first | (rw [if_pos hz]; done) | (rw [hz]; rfl)
        have hP9 : va_P (dC, dI) vwCl [(aM, .inr (7, [.int (apD x ml), .int (nI n), .int (nI cnt), .ref aMF, .ref aMT, .ref aMN, .ref aML, .ref aMU, .int (nI (if apD x ml = 0 then ml + 1 else ml)), .ref aMB, .int (nI sg), .int (nI rm), .int (nI mdg), .int (nI mnb), .int (bI mng), .ref aMf, .ref aMt, .ref aMn, .ref aMl, .ref aMu, .ref aMP, .ref aMD, .int (nI lk), .ref aMC, .ref aMO, .int gn, .int gl, .int gg, .ref aMY, .int nn, .int nl, .int nu, .ref aMS, .long hs])), (aMB, .inl (cyI, 60, .inl (fun j_ => nI ((if apD x ml = 0 then updN inp ml x.toNatClampNeg else inp) j_))))] H := by first | (rw [q9, q8, q7]; exact hP.sub [0, 1] rfl) | (simp only [q9, q8, q7]; exact hP.sub [0, 1] rfl) | exact hP.sub [0, 1] rfl
        have hD9 : va_D A [(aM, .inr (7, [.int (apD x ml), .int (nI n), .int (nI cnt), .ref aMF, .ref aMT, .ref aMN, .ref aML, .ref aMU, .int (nI (if apD x ml = 0 then ml + 1 else ml)), .ref aMB, .int (nI sg), .int (nI rm), .int (nI mdg), .int (nI mnb), .int (bI mng), .ref aMf, .ref aMt, .ref aMn, .ref aMl, .ref aMu, .ref aMP, .ref aMD, .int (nI lk), .ref aMC, .ref aMO, .int gn, .int gl, .int gg, .ref aMY, .int nn, .int nl, .int nu, .ref aMS, .long hs])), (aMB, .inl (cyI, 60, .inl (fun j_ => nI ((if apD x ml = 0 then updN inp ml x.toNatClampNeg else inp) j_))))] := by first | (rw [q9, q8, q7]; exact hD.sub [0, 1] (by decide) rfl) | (simp only [q9, q8, q7]; exact hD.sub [0, 1] (by decide) rfl) | exact hD.sub [0, 1] (by decide) rfl
        rw [hQe]
        exact W.iret (v := nI (ml + 1)) hx hb hr (fun t ht hW => ⟨⟨_, (), rfl, r6, by rw [ht]; exact hP9, va_K.moved hW.alike hK, hD9⟩, hS.F ht⟩) hS.2.2 dX7_append_66
      · exact absurd c37 (by decide)
    · have c22 := n_eq (a := ml) (b := 60) (by omega) (by omega) c22
      have hz : apD x ml = 2 := by simp [apD, c9, c22]
      refine lv_iconst (v := 2) hx hb dX7_append_25 (by decide) ?_
      refine lv_goto (tgt := 30) hx hb dX7_append_26 (by decide) ?_
      refine va_put (D := (dC, dI)) (ci := 7) (v := .int 2) (ty := .int) (C := RX7) (T := TX7) (N := 34) hx hb hts iX7 tyX7 tyX7_ok nmX7 hown hK hP hD hS 0 rfl rfl 0 (by decide) w1 (fun _ h9 => h9) rfl (by decide +kernel) rfl rfl (Nat.le_of_ble_eq_true rfl) dX7_append_30 (fun H locs hP hD hS => ?_)
      have hP : va_P (dC, dI) vwCl [(aM, .inr (7, [.int 2, .int (nI n), .int (nI cnt), .ref aMF, .ref aMT, .ref aMN, .ref aML, .ref aMU, .int (nI ml), .ref aMB, .int (nI sg), .int (nI rm), .int (nI mdg), .int (nI mnb), .int (bI mng), .ref aMf, .ref aMt, .ref aMn, .ref aMl, .ref aMu, .ref aMP, .ref aMD, .int (nI lk), .ref aMC, .ref aMO, .int gn, .int gl, .int gg, .ref aMY, .int nn, .int nl, .int nu, .ref aMS, .long hs])), (aMB, .inl (cyI, 60, .inl (fun j_ => nI (inp j_))))] H := hP
      have hD : va_D A [(aM, .inr (7, [.int 2, .int (nI n), .int (nI cnt), .ref aMF, .ref aMT, .ref aMN, .ref aML, .ref aMU, .int (nI ml), .ref aMB, .int (nI sg), .int (nI rm), .int (nI mdg), .int (nI mnb), .int (bI mng), .ref aMf, .ref aMt, .ref aMn, .ref aMl, .ref aMu, .ref aMP, .ref aMD, .int (nI lk), .ref aMC, .ref aMO, .int gn, .int gl, .int gg, .ref aMY, .int nn, .int nl, .int nu, .ref aMS, .long hs])), (aMB, .inl (cyI, 60, .inl (fun j_ => nI (inp j_))))] := hD
      refine lv_aload_n hx hb dX7_append_33 rfl (lv_at hl 0 rfl) ?_
      refine va_get (D := (dC, dI)) (ci := 7) (v := .int 2) (C := RX7) (T := TX7) (N := 34) hx hb hts iX7 hown hK hP 0 rfl rfl 0 (by decide) w1 (fun _ h9 => h9) rfl dX7_append_34 ?_
      refine lv_if_le (tgt := 42) hx hb dX7_append_37 (by decide) (fun c37 => ?_) (fun c37 => ?_)
      · exact absurd c37 (by decide)
      · skip
        refine lv_iconst (v := 0) hx hb dX7_append_40 (by decide) ?_
        have r10 : 0 = (if apD x ml = 0 then nI (ml + 1) else 0) := by first | (rw [if_pos hz]; done) | (rw [hz]; rfl)
        have q11 : (apD x ml) = 2 := by exact hz
        have q12 : (nI (if apD x ml = 0 then ml + 1 else ml)) = (nI ml) := by first | (rw [if_pos hz]; done) | (rw [hz]; rfl)
        have q13 : (if apD x ml = 0 then updN inp ml x.toNatClampNeg else inp) = inp := by first | (rw [if_pos hz]; done) | (rw [hz]; rfl)
        have hP9 : va_P (dC, dI) vwCl [(aM, .inr (7, [.int (apD x ml), .int (nI n), .int (nI cnt), .ref aMF, .ref aMT, .ref aMN, .ref aML, .ref aMU, .int (nI (if apD x ml = 0 then ml + 1 else ml)), .ref aMB, .int (nI sg), .int (nI rm), .int (nI mdg), .int (nI mnb), .int (bI mng), .ref aMf, .ref aMt, .ref aMn, .ref aMl, .ref aMu, .ref aMP, .ref aMD, .int (nI lk), .ref aMC, .ref aMO, .int gn, .int gl, .int gg, .ref aMY, .int nn, .int nl, .int nu, .ref aMS, .long hs])), (aMB, .inl (cyI, 60, .inl (fun j_ => nI ((if apD x ml = 0 then updN inp ml x.toNatClampNeg else inp) j_))))] H := by first | (rw [q13, q12, q11]; exact hP.sub [0, 1] rfl) | (simp only [q13, q12, q11]; exact hP.sub [0, 1] rfl) | exact hP.sub [0, 1] rfl
        have hD9 : va_D A [(aM, .inr (7, [.int (apD x ml), .int (nI n), .int (nI cnt), .ref aMF, .ref aMT, .ref aMN, .ref aML, .ref aMU, .int (nI (if apD x ml = 0 then ml + 1 else ml)), .ref aMB, .int (nI sg), .int (nI rm), .int (nI mdg), .int (nI mnb), .int (bI mng), .ref aMf, .ref aMt, .ref aMn, .ref aMl, .ref aMu, .ref aMP, .ref aMD, .int (nI lk), .ref aMC, .ref aMO, .int gn, .int gl, .int gg, .ref aMY, .int nn, .int nl, .int nu, .ref aMS, .long hs])), (aMB, .inl (cyI, 60, .inl (fun j_ => nI ((if apD x ml = 0 then updN inp ml x.toNatClampNeg else inp) j_))))] := by first | (rw [q13, q12, q11]; exact hD.sub [0, 1] (by decide) rfl) | (simp only [q13, q12, q11]; exact hD.sub [0, 1] (by decide) rfl) | exact hD.sub [0, 1] (by decide) rfl
        rw [hQe]
        exact W.iret (v := 0) hx hb hr (fun t ht hW => ⟨⟨_, (), rfl, r10, by rw [ht]; exact hP9, va_K.moved hW.alike hK, hD9⟩, hS.F ht⟩) hS.2.2 dX7_append_41
  · have c9 : (wtn x 32 126) = false := bI_0 c9
    have hz : apD x ml = 1 := by simp [apD, c9]
    refine lv_iconst (v := 1) hx hb dX7_append_12 (by decide) ?_
    refine lv_goto (tgt := 30) hx hb dX7_append_13 (by decide) ?_
    refine va_put (D := (dC, dI)) (ci := 7) (v := .int 1) (ty := .int) (C := RX7) (T := TX7) (N := 34) hx hb hts iX7 tyX7 tyX7_ok nmX7 hown hK hP hD hS 0 rfl rfl 0 (by decide) w1 (fun _ h9 => h9) rfl (by decide +kernel) rfl rfl (Nat.le_of_ble_eq_true rfl) dX7_append_30 (fun H locs hP hD hS => ?_)
    have hP : va_P (dC, dI) vwCl [(aM, .inr (7, [.int 1, .int (nI n), .int (nI cnt), .ref aMF, .ref aMT, .ref aMN, .ref aML, .ref aMU, .int (nI ml), .ref aMB, .int (nI sg), .int (nI rm), .int (nI mdg), .int (nI mnb), .int (bI mng), .ref aMf, .ref aMt, .ref aMn, .ref aMl, .ref aMu, .ref aMP, .ref aMD, .int (nI lk), .ref aMC, .ref aMO, .int gn, .int gl, .int gg, .ref aMY, .int nn, .int nl, .int nu, .ref aMS, .long hs])), (aMB, .inl (cyI, 60, .inl (fun j_ => nI (inp j_))))] H := hP
    have hD : va_D A [(aM, .inr (7, [.int 1, .int (nI n), .int (nI cnt), .ref aMF, .ref aMT, .ref aMN, .ref aML, .ref aMU, .int (nI ml), .ref aMB, .int (nI sg), .int (nI rm), .int (nI mdg), .int (nI mnb), .int (bI mng), .ref aMf, .ref aMt, .ref aMn, .ref aMl, .ref aMu, .ref aMP, .ref aMD, .int (nI lk), .ref aMC, .ref aMO, .int gn, .int gl, .int gg, .ref aMY, .int nn, .int nl, .int nu, .ref aMS, .long hs])), (aMB, .inl (cyI, 60, .inl (fun j_ => nI (inp j_))))] := hD
    refine lv_aload_n hx hb dX7_append_33 rfl (lv_at hl 0 rfl) ?_
    refine va_get (D := (dC, dI)) (ci := 7) (v := .int 1) (C := RX7) (T := TX7) (N := 34) hx hb hts iX7 hown hK hP 0 rfl rfl 0 (by decide) w1 (fun _ h9 => h9) rfl dX7_append_34 ?_
    refine lv_if_le (tgt := 42) hx hb dX7_append_37 (by decide) (fun c37 => ?_) (fun c37 => ?_)
    · exact absurd c37 (by decide)
    · skip
      refine lv_iconst (v := 0) hx hb dX7_append_40 (by decide) ?_
      have r14 : 0 = (if apD x ml = 0 then nI (ml + 1) else 0) := by first | (rw [if_pos hz]; done) | (rw [hz]; rfl)
      have q15 : (apD x ml) = 1 := by exact hz
      have q16 : (nI (if apD x ml = 0 then ml + 1 else ml)) = (nI ml) := by first | (rw [if_pos hz]; done) | (rw [hz]; rfl)
      have q17 : (if apD x ml = 0 then updN inp ml x.toNatClampNeg else inp) = inp := by first | (rw [if_pos hz]; done) | (rw [hz]; rfl)
      have hP9 : va_P (dC, dI) vwCl [(aM, .inr (7, [.int (apD x ml), .int (nI n), .int (nI cnt), .ref aMF, .ref aMT, .ref aMN, .ref aML, .ref aMU, .int (nI (if apD x ml = 0 then ml + 1 else ml)), .ref aMB, .int (nI sg), .int (nI rm), .int (nI mdg), .int (nI mnb), .int (bI mng), .ref aMf, .ref aMt, .ref aMn, .ref aMl, .ref aMu, .ref aMP, .ref aMD, .int (nI lk), .ref aMC, .ref aMO, .int gn, .int gl, .int gg, .ref aMY, .int nn, .int nl, .int nu, .ref aMS, .long hs])), (aMB, .inl (cyI, 60, .inl (fun j_ => nI ((if apD x ml = 0 then updN inp ml x.toNatClampNeg else inp) j_))))] H := by first | (rw [q17, q16, q15]; exact hP.sub [0, 1] rfl) | (simp only [q17, q16, q15]; exact hP.sub [0, 1] rfl) | exact hP.sub [0, 1] rfl
      have hD9 : va_D A [(aM, .inr (7, [.int (apD x ml), .int (nI n), .int (nI cnt), .ref aMF, .ref aMT, .ref aMN, .ref aML, .ref aMU, .int (nI (if apD x ml = 0 then ml + 1 else ml)), .ref aMB, .int (nI sg), .int (nI rm), .int (nI mdg), .int (nI mnb), .int (bI mng), .ref aMf, .ref aMt, .ref aMn, .ref aMl, .ref aMu, .ref aMP, .ref aMD, .int (nI lk), .ref aMC, .ref aMO, .int gn, .int gl, .int gg, .ref aMY, .int nn, .int nl, .int nu, .ref aMS, .long hs])), (aMB, .inl (cyI, 60, .inl (fun j_ => nI ((if apD x ml = 0 then updN inp ml x.toNatClampNeg else inp) j_))))] := by first | (rw [q17, q16, q15]; exact hD.sub [0, 1] (by decide) rfl) | (simp only [q17, q16, q15]; exact hD.sub [0, 1] (by decide) rfl) | exact hD.sub [0, 1] (by decide) rfl
      rw [hQe]
      exact W.iret (v := 0) hx hb hr (fun t ht hW => ⟨⟨_, (), rfl, r14, by rw [ht]; exact hP9, va_K.moved hW.alike hK, hD9⟩, hS.F ht⟩) hS.2.2 dX7_append_41
set_option maxHeartbeats 4000000 in
set_option maxRecDepth 100000 in
theorem c_X7_column (l : Launch) (dC : Nat → ClassId) (dI : Nat → Nat → Nat) (cyI cyZ cyJ cyD : ClassId) (zH : Nat) (x : Int32) : Met l yX7_column wsX7_column ({ frames := 0, cells := 0, slots := 0, locals := 0 } : Room) (va_Pc [.int x] (fun U => U.heap.size = zH ∧ va_P (dC, dI) vwCl [] U.heap ∧ va_K (dC, dI) vwCl [(cyI, .int), (cyZ, .boolean), (cyJ, .long), (cyD, .double)] U ∧ va_D (fun _ => True) [])) (va_Qi (fun (r : Int32) (_ : Unit) => r = nI (colN x)) (fun _ t => va_P (dC, dI) vwCl [] t.heap ∧ va_K (dC, dI) vwCl [(cyI, .int), (cyZ, .boolean), (cyJ, .long), (cyD, .double)] t ∧ va_D (va_A [] zH) []) (va_A [] zH)) 0 0 (va_A [] zH) := by
  refine Met.ofW (cc := cX7_column) (maxL := 2) (ret := (some .int)) (by decide) rfl ?_
  intro pM eM s mM args blM mtM cM s₁ BM hml hv
  obtain ⟨rfl, hsz, hP, hK, hD0⟩ := hv
  have hx := BM.exec
  have hb := BM.bytes
  have hr := BM.returns
  have hts := atoms_spec (ws := wsX7_column) BM.pre
  have hown : s.vm.findClass RX7 = some mM.cls := findClass_of_methodNamed BM.named
  have hlocks := BM.notSynchronized
  have w0 := hts (.constant RX7 98 (40000)) (by decide +kernel)
  subst hsz
  have hD := hD0.self (sz := s.heap.size)
  obtain ⟨Q, hQe⟩ : ∃ Q : State → Prop, Q = MQ blM (va_Qi (fun (r : Int32) (_ : Unit) => r = nI (colN x)) (fun _ t => va_P (dC, dI) vwCl [] t.heap ∧ va_K (dC, dI) vwCl [(cyI, .int), (cyZ, .boolean), (cyJ, .long), (cyD, .double)] t ∧ va_D (va_A [] s.heap.size) []) (va_A [] s.heap.size)) ([.int x] : List Value).toArray s 0 0 (va_A [] s.heap.size) := ⟨_, rfl⟩
  rw [← hQe]
  generalize hAe : va_A [] s.heap.size = A at hD hQe
  have hA : ∀ q : Nat, s.heap.size ≤ q → A q := fun q h => by rw [← hAe]; exact Or.inr h
  obtain ⟨H, hHe⟩ : ∃ H : Heap, H = s.heap := ⟨_, rfl⟩
  have hS : va_S A s.heap H [] := by rw [hHe]; exact va_S.rf
  rw [← hHe] at hP ⊢
  have hl := lv_entry ([.int x]) (n := 2) (Nat.le_of_ble_eq_true rfl)
  rw [lg_entry_eq]
  generalize (lg_sl ([.int x]) ++ List.replicate (2 - (lg_sl ([.int x])).length) Slot.unset).toArray = ls at hl ⊢
  have hl : lv_has ls 2 [(0, .int x)] := hl
  refine lv_iload_n hx hb dX7_column_0 rfl (lv_at hl 0 rfl) ?_
  have k10 : ∀ (v8 : Int32) (hv8 : v8 = if 0 ≤ x then x else -x) (H : Heap) (locs : List Loc) (ls : Array Slot), va_P (dC, dI) vwCl [] H → va_D A [] → va_S A s.heap H locs → lv_has ls 2 [(0, .int x)] → W pM l eM (headSpec wsX7_column ({ frames := 0, cells := 0, slots := 0, locals := 0 } : Room)).room s mM ([.int x] : List Value).toArray blM mtM cM H locs 0 0 Q (F0 mM 10 ls [.int v8]) := by
    intro v8 hv8 H locs ls hP hD hS hl
    refine lv_istore_n (lv' := [(1, .int v8), (0, .int x)]) hx hb dX7_column_10 rfl hl (by decide) rfl (fun ls hl => ?_)
    refine lv_iload_n hx hb dX7_column_11 rfl (lv_at hl 0 rfl) ?_
    refine lv_sipush (v := 300) hx hb dX7_column_12 (by decide) ?_
    refine lv_icmp_gt (tgt := 22) hx hb dX7_column_15 (by decide) (fun c15 => ?_) (fun c15 => ?_)
    · skip
      refine lv_iload_n hx hb dX7_column_22 rfl (lv_at hl 0 rfl) ?_
      refine lv_sipush (v := 600) hx hb dX7_column_23 (by decide) ?_
      refine lv_icmp_gt (tgt := 33) hx hb dX7_column_26 (by decide) (fun c26 => ?_) (fun c26 => ?_)
      · skip
        refine lv_iload_n hx hb dX7_column_33 rfl (lv_at hl 0 rfl) ?_
        refine lv_sipush (v := 3000) hx hb dX7_column_34 (by decide) ?_
        refine lv_icmp_gt (tgt := 44) hx hb dX7_column_37 (by decide) (fun c37 => ?_) (fun c37 => ?_)
        · skip
          refine lv_iload_n hx hb dX7_column_44 rfl (lv_at hl 0 rfl) ?_
          refine lv_sipush (v := 12000) hx hb dX7_column_45 (by decide) ?_
          refine lv_icmp_gt (tgt := 55) hx hb dX7_column_48 (by decide) (fun c48 => ?_) (fun c48 => ?_)
          · skip
            refine lv_iload_n hx hb dX7_column_55 rfl (lv_at hl 0 rfl) ?_
            refine lv_ldc (v := 40000) hx hb hown w0 dX7_column_56 ?_
            refine lv_icmp_gt (tgt := 65) hx hb dX7_column_58 (by decide) (fun c58 => ?_) (fun c58 => ?_)
            · skip
              refine lv_iconst (v := 5) hx hb dX7_column_65 (by decide) ?_
              have r1 : 5 = (nI (colN x)) := by simp only [colN, ← hv8]; first | (rw [if_neg c15]; rfl) | (rw [if_pos c15, if_neg c26]; rfl) | (rw [if_pos c15, if_pos c26, if_neg c37]; rfl) | (rw [if_pos c15, if_pos c26, if_pos c37, if_neg c48]; rfl) | (rw [if_pos c15, if_pos c26, if_pos c37, if_pos c48, if_neg c58]; rfl) | (rw [if_pos c15, if_pos c26, if_pos c37, if_pos c48, if_pos c58]; rfl)
              have hP9 : va_P (dC, dI) vwCl [] H := by exact hP.sub [] rfl
              have hD9 : va_D A [] := by exact hD.sub [] (by decide) rfl
              rw [hQe]
              exact W.iret (v := 5) hx hb hr (fun t ht hW => ⟨⟨_, (), rfl, r1, by rw [ht]; exact hP9, va_K.moved hW.alike hK, hD9⟩, hS.F ht⟩) hS.2.2 dX7_column_66
            · skip
              refine lv_iconst (v := 4) hx hb dX7_column_61 (by decide) ?_
              refine lv_goto (tgt := 66) hx hb dX7_column_62 (by decide) ?_
              have r2 : 4 = (nI (colN x)) := by simp only [colN, ← hv8]; first | (rw [if_neg c15]; rfl) | (rw [if_pos c15, if_neg c26]; rfl) | (rw [if_pos c15, if_pos c26, if_neg c37]; rfl) | (rw [if_pos c15, if_pos c26, if_pos c37, if_neg c48]; rfl) | (rw [if_pos c15, if_pos c26, if_pos c37, if_pos c48, if_neg c58]; rfl) | (rw [if_pos c15, if_pos c26, if_pos c37, if_pos c48, if_pos c58]; rfl)
              have hP9 : va_P (dC, dI) vwCl [] H := by exact hP.sub [] rfl
              have hD9 : va_D A [] := by exact hD.sub [] (by decide) rfl
              rw [hQe]
              exact W.iret (v := 4) hx hb hr (fun t ht hW => ⟨⟨_, (), rfl, r2, by rw [ht]; exact hP9, va_K.moved hW.alike hK, hD9⟩, hS.F ht⟩) hS.2.2 dX7_column_66
          · skip
            refine lv_iconst (v := 3) hx hb dX7_column_51 (by decide) ?_
            refine lv_goto (tgt := 66) hx hb dX7_column_52 (by decide) ?_
            have r3 : 3 = (nI (colN x)) := by simp only [colN, ← hv8]; first | (rw [if_neg c15]; rfl) | (rw [if_pos c15, if_neg c26]; rfl) | (rw [if_pos c15, if_pos c26, if_neg c37]; rfl) | (rw [if_pos c15, if_pos c26, if_pos c37, if_neg c48]; rfl) | (rw [if_pos c15, if_pos c26, if_pos c37, if_pos c48, if_neg c58]; rfl) | (rw [if_pos c15, if_pos c26, if_pos c37, if_pos c48, if_pos c58]; rfl)
            have hP9 : va_P (dC, dI) vwCl [] H := by exact hP.sub [] rfl
            have hD9 : va_D A [] := by exact hD.sub [] (by decide) rfl
            rw [hQe]
            exact W.iret (v := 3) hx hb hr (fun t ht hW => ⟨⟨_, (), rfl, r3, by rw [ht]; exact hP9, va_K.moved hW.alike hK, hD9⟩, hS.F ht⟩) hS.2.2 dX7_column_66
        · skip
          refine lv_iconst (v := 2) hx hb dX7_column_40 (by decide) ?_
          refine lv_goto (tgt := 66) hx hb dX7_column_41 (by decide) ?_
          have r4 : 2 = (nI (colN x)) := by simp only [colN, ← hv8]; first | (rw [if_neg c15]; rfl) | (rw [if_pos c15, if_neg c26]; rfl) | (rw [if_pos c15, if_pos c26, if_neg c37]; rfl) | (rw [if_pos c15, if_pos c26, if_pos c37, if_neg c48]; rfl) | (rw [if_pos c15, if_pos c26, if_pos c37, if_pos c48, if_neg c58]; rfl) | (rw [if_pos c15, if_pos c26, if_pos c37, if_pos c48, if_pos c58]; rfl)
          have hP9 : va_P (dC, dI) vwCl [] H := by exact hP.sub [] rfl
          have hD9 : va_D A [] := by exact hD.sub [] (by decide) rfl
          rw [hQe]
          exact W.iret (v := 2) hx hb hr (fun t ht hW => ⟨⟨_, (), rfl, r4, by rw [ht]; exact hP9, va_K.moved hW.alike hK, hD9⟩, hS.F ht⟩) hS.2.2 dX7_column_66
      · skip
        refine lv_iconst (v := 1) hx hb dX7_column_29 (by decide) ?_
        refine lv_goto (tgt := 66) hx hb dX7_column_30 (by decide) ?_
        have r5 : 1 = (nI (colN x)) := by simp only [colN, ← hv8]; first | (rw [if_neg c15]; rfl) | (rw [if_pos c15, if_neg c26]; rfl) | (rw [if_pos c15, if_pos c26, if_neg c37]; rfl) | (rw [if_pos c15, if_pos c26, if_pos c37, if_neg c48]; rfl) | (rw [if_pos c15, if_pos c26, if_pos c37, if_pos c48, if_neg c58]; rfl) | (rw [if_pos c15, if_pos c26, if_pos c37, if_pos c48, if_pos c58]; rfl)
        have hP9 : va_P (dC, dI) vwCl [] H := by exact hP.sub [] rfl
        have hD9 : va_D A [] := by exact hD.sub [] (by decide) rfl
        rw [hQe]
        exact W.iret (v := 1) hx hb hr (fun t ht hW => ⟨⟨_, (), rfl, r5, by rw [ht]; exact hP9, va_K.moved hW.alike hK, hD9⟩, hS.F ht⟩) hS.2.2 dX7_column_66
    · skip
      refine lv_iconst (v := 0) hx hb dX7_column_18 (by decide) ?_
      refine lv_goto (tgt := 66) hx hb dX7_column_19 (by decide) ?_
      have r6 : 0 = (nI (colN x)) := by simp only [colN, ← hv8]; first | (rw [if_neg c15]; rfl) | (rw [if_pos c15, if_neg c26]; rfl) | (rw [if_pos c15, if_pos c26, if_neg c37]; rfl) | (rw [if_pos c15, if_pos c26, if_pos c37, if_neg c48]; rfl) | (rw [if_pos c15, if_pos c26, if_pos c37, if_pos c48, if_neg c58]; rfl) | (rw [if_pos c15, if_pos c26, if_pos c37, if_pos c48, if_pos c58]; rfl)
      have hP9 : va_P (dC, dI) vwCl [] H := by exact hP.sub [] rfl
      have hD9 : va_D A [] := by exact hD.sub [] (by decide) rfl
      rw [hQe]
      exact W.iret (v := 0) hx hb hr (fun t ht hW => ⟨⟨_, (), rfl, r6, by rw [ht]; exact hP9, va_K.moved hW.alike hK, hD9⟩, hS.F ht⟩) hS.2.2 dX7_column_66
  refine lv_if_ge (tgt := 9) hx hb dX7_column_1 (by decide) (fun c1 => ?_) (fun c1 => ?_)
  · skip
    refine lv_iload_n hx hb dX7_column_9 rfl (lv_at hl 0 rfl) ?_
    have q7 : (if 0 ≤ x then x else -x) = x := by first | (rw [if_pos c1]; done) | (rw [if_neg c1]; done)
    refine W.eq (g2 := F0 mM 10 ls [.int (if 0 ≤ x then x else -x)]) (by rw [q7]) ?_
    exact k10 (if 0 ≤ x then x else -x) (by rfl) _ _ _ (hP) (hD) hS (lv_sub hl [0] rfl)
  · skip
    refine lv_iload_n hx hb dX7_column_4 rfl (lv_at hl 0 rfl) ?_
    refine lv_ineg hx hb dX7_column_5 ?_
    refine lv_goto (tgt := 10) hx hb dX7_column_6 (by decide) ?_
    have q8 : (if 0 ≤ x then x else -x) = (-x) := by first | (rw [if_pos c1]; done) | (rw [if_neg c1]; done)
    refine W.eq (g2 := F0 mM 10 ls [.int (if 0 ≤ x then x else -x)]) (by rw [q8]) ?_
    exact k10 (if 0 ≤ x then x else -x) (by rfl) _ _ _ (hP) (hD) hS (lv_sub hl [0] rfl)
set_option maxHeartbeats 4000000 in
set_option maxRecDepth 100000 in
theorem c_X7_tolerance (l : Launch) (dC : Nat → ClassId) (dI : Nat → Nat → Nat) (cyI cyZ cyJ cyD : ClassId) (zH : Nat) (g : Int32) (k : Nat) (hk : k < 10) : Met l yX7_tolerance wsX7_tolerance ({ frames := 0, cells := 0, slots := 0, locals := 0 } : Room) (va_Pc [.int g, .int (nI k)] (fun U => U.heap.size = zH ∧ va_P (dC, dI) vwCl [] U.heap ∧ va_K (dC, dI) vwCl [(cyI, .int), (cyZ, .boolean), (cyJ, .long), (cyD, .double)] U ∧ va_D (fun _ => True) [])) (va_Qi (fun (r : Int32) (_ : Unit) => r = tolV g k) (fun _ t => va_P (dC, dI) vwCl [] t.heap ∧ va_K (dC, dI) vwCl [(cyI, .int), (cyZ, .boolean), (cyJ, .long), (cyD, .double)] t ∧ va_D (va_A [] zH) []) (va_A [] zH)) 0 0 (va_A [] zH) := by
  refine Met.ofW (cc := cX7_tolerance) (maxL := 2) (ret := (some .int)) (by decide) rfl ?_
  intro pM eM s mM args blM mtM cM s₁ BM hml hv
  obtain ⟨rfl, hsz, hP, hK, hD0⟩ := hv
  have hx := BM.exec
  have hb := BM.bytes
  have hr := BM.returns
  have hts := atoms_spec (ws := wsX7_tolerance) BM.pre
  have hown : s.vm.findClass RX7 = some mM.cls := findClass_of_methodNamed BM.named
  have hlocks := BM.notSynchronized
  subst hsz
  have hD := hD0.self (sz := s.heap.size)
  obtain ⟨Q, hQe⟩ : ∃ Q : State → Prop, Q = MQ blM (va_Qi (fun (r : Int32) (_ : Unit) => r = tolV g k) (fun _ t => va_P (dC, dI) vwCl [] t.heap ∧ va_K (dC, dI) vwCl [(cyI, .int), (cyZ, .boolean), (cyJ, .long), (cyD, .double)] t ∧ va_D (va_A [] s.heap.size) []) (va_A [] s.heap.size)) ([.int g, .int (nI k)] : List Value).toArray s 0 0 (va_A [] s.heap.size) := ⟨_, rfl⟩
  rw [← hQe]
  generalize hAe : va_A [] s.heap.size = A at hD hQe
  have hA : ∀ q : Nat, s.heap.size ≤ q → A q := fun q h => by rw [← hAe]; exact Or.inr h
  obtain ⟨H, hHe⟩ : ∃ H : Heap, H = s.heap := ⟨_, rfl⟩
  have hS : va_S A s.heap H [] := by rw [hHe]; exact va_S.rf
  rw [← hHe] at hP ⊢
  have hl := lv_entry ([.int g, .int (nI k)]) (n := 2) (Nat.le_of_ble_eq_true rfl)
  rw [lg_entry_eq]
  generalize (lg_sl ([.int g, .int (nI k)]) ++ List.replicate (2 - (lg_sl ([.int g, .int (nI k)])).length) Slot.unset).toArray = ls at hl ⊢
  have hl : lv_has ls 2 [(0, .int g), (1, .int (nI k))] := hl
  refine lv_iload_n hx hb dX7_tolerance_0 rfl (lv_at hl 1 rfl) ?_
  by_cases h1_0 : k = 0
  · refine lv_tableIn (off := 35) (tgt := 36) hx hb dX7_tolerance_1 (by rw [h1_0]; decide) (by rw [h1_0]; decide) (by rw [h1_0]; rfl) (by decide) ?_
    refine lv_iload_n hx hb dX7_tolerance_36 rfl (lv_at hl 0 rfl) ?_
    refine lv_bipush (v := 102) hx hb dX7_tolerance_37 (by decide) ?_
    refine lv_icmp_ne (tgt := 46) hx hb dX7_tolerance_39 (by decide) (fun c39 => ?_) (fun c39 => ?_)
    · skip
      refine lv_iload_n hx hb dX7_tolerance_46 rfl (lv_at hl 0 rfl) ?_
      refine lv_bipush (v := 109) hx hb dX7_tolerance_47 (by decide) ?_
      refine lv_icmp_ne (tgt := 57) hx hb dX7_tolerance_49 (by decide) (fun c49 => ?_) (fun c49 => ?_)
      · skip
        refine lv_iload_n hx hb dX7_tolerance_57 rfl (lv_at hl 0 rfl) ?_
        refine lv_bipush (v := 99) hx hb dX7_tolerance_58 (by decide) ?_
        refine lv_icmp_ne (tgt := 68) hx hb dX7_tolerance_60 (by decide) (fun c60 => ?_) (fun c60 => ?_)
        · skip
          refine lv_bipush (v := 50) hx hb dX7_tolerance_68 (by decide) ?_
          have r1 : 50 = (tolV g k) := by simp [tolV, *]
          have hP9 : va_P (dC, dI) vwCl [] H := by exact hP.sub [] rfl
          have hD9 : va_D A [] := by exact hD.sub [] (by decide) rfl
          rw [hQe]
          exact W.iret (v := 50) hx hb hr (fun t ht hW => ⟨⟨_, (), rfl, r1, by rw [ht]; exact hP9, va_K.moved hW.alike hK, hD9⟩, hS.F ht⟩) hS.2.2 dX7_tolerance_70
        · skip
          refine lv_bipush (v := 20) hx hb dX7_tolerance_63 (by decide) ?_
          refine lv_goto (tgt := 70) hx hb dX7_tolerance_65 (by decide) ?_
          have r2 : 20 = (tolV g k) := by simp [tolV, *]
          have hP9 : va_P (dC, dI) vwCl [] H := by exact hP.sub [] rfl
          have hD9 : va_D A [] := by exact hD.sub [] (by decide) rfl
          rw [hQe]
          exact W.iret (v := 20) hx hb hr (fun t ht hW => ⟨⟨_, (), rfl, r2, by rw [ht]; exact hP9, va_K.moved hW.alike hK, hD9⟩, hS.F ht⟩) hS.2.2 dX7_tolerance_70
      · skip
        refine lv_bipush (v := 10) hx hb dX7_tolerance_52 (by decide) ?_
        refine lv_goto (tgt := 70) hx hb dX7_tolerance_54 (by decide) ?_
        have r3 : 10 = (tolV g k) := by simp [tolV, *]
        have hP9 : va_P (dC, dI) vwCl [] H := by exact hP.sub [] rfl
        have hD9 : va_D A [] := by exact hD.sub [] (by decide) rfl
        rw [hQe]
        exact W.iret (v := 10) hx hb hr (fun t ht hW => ⟨⟨_, (), rfl, r3, by rw [ht]; exact hP9, va_K.moved hW.alike hK, hD9⟩, hS.F ht⟩) hS.2.2 dX7_tolerance_70
    · skip
      refine lv_iconst (v := 5) hx hb dX7_tolerance_42 (by decide) ?_
      refine lv_goto (tgt := 70) hx hb dX7_tolerance_43 (by decide) ?_
      have r4 : 5 = (tolV g k) := by simp [tolV, *]
      have hP9 : va_P (dC, dI) vwCl [] H := by exact hP.sub [] rfl
      have hD9 : va_D A [] := by exact hD.sub [] (by decide) rfl
      rw [hQe]
      exact W.iret (v := 5) hx hb hr (fun t ht hW => ⟨⟨_, (), rfl, r4, by rw [ht]; exact hP9, va_K.moved hW.alike hK, hD9⟩, hS.F ht⟩) hS.2.2 dX7_tolerance_70
  by_cases h1_1 : k = 1
  · refine lv_tableIn (off := 70) (tgt := 71) hx hb dX7_tolerance_1 (by rw [h1_1]; decide) (by rw [h1_1]; decide) (by rw [h1_1]; rfl) (by decide) ?_
    refine lv_iload_n hx hb dX7_tolerance_71 rfl (lv_at hl 0 rfl) ?_
    refine lv_bipush (v := 102) hx hb dX7_tolerance_72 (by decide) ?_
    refine lv_icmp_ne (tgt := 81) hx hb dX7_tolerance_74 (by decide) (fun c74 => ?_) (fun c74 => ?_)
    · skip
      refine lv_iload_n hx hb dX7_tolerance_81 rfl (lv_at hl 0 rfl) ?_
      refine lv_bipush (v := 109) hx hb dX7_tolerance_82 (by decide) ?_
      refine lv_icmp_ne (tgt := 92) hx hb dX7_tolerance_84 (by decide) (fun c84 => ?_) (fun c84 => ?_)
      · skip
        refine lv_iload_n hx hb dX7_tolerance_92 rfl (lv_at hl 0 rfl) ?_
        refine lv_bipush (v := 99) hx hb dX7_tolerance_93 (by decide) ?_
        refine lv_icmp_ne (tgt := 103) hx hb dX7_tolerance_95 (by decide) (fun c95 => ?_) (fun c95 => ?_)
        · skip
          refine lv_bipush (v := 50) hx hb dX7_tolerance_103 (by decide) ?_
          have r5 : 50 = (tolV g k) := by simp [tolV, *]
          have hP9 : va_P (dC, dI) vwCl [] H := by exact hP.sub [] rfl
          have hD9 : va_D A [] := by exact hD.sub [] (by decide) rfl
          rw [hQe]
          exact W.iret (v := 50) hx hb hr (fun t ht hW => ⟨⟨_, (), rfl, r5, by rw [ht]; exact hP9, va_K.moved hW.alike hK, hD9⟩, hS.F ht⟩) hS.2.2 dX7_tolerance_105
        · skip
          refine lv_bipush (v := 30) hx hb dX7_tolerance_98 (by decide) ?_
          refine lv_goto (tgt := 105) hx hb dX7_tolerance_100 (by decide) ?_
          have r6 : 30 = (tolV g k) := by simp [tolV, *]
          have hP9 : va_P (dC, dI) vwCl [] H := by exact hP.sub [] rfl
          have hD9 : va_D A [] := by exact hD.sub [] (by decide) rfl
          rw [hQe]
          exact W.iret (v := 30) hx hb hr (fun t ht hW => ⟨⟨_, (), rfl, r6, by rw [ht]; exact hP9, va_K.moved hW.alike hK, hD9⟩, hS.F ht⟩) hS.2.2 dX7_tolerance_105
      · skip
        refine lv_bipush (v := 10) hx hb dX7_tolerance_87 (by decide) ?_
        refine lv_goto (tgt := 105) hx hb dX7_tolerance_89 (by decide) ?_
        have r7 : 10 = (tolV g k) := by simp [tolV, *]
        have hP9 : va_P (dC, dI) vwCl [] H := by exact hP.sub [] rfl
        have hD9 : va_D A [] := by exact hD.sub [] (by decide) rfl
        rw [hQe]
        exact W.iret (v := 10) hx hb hr (fun t ht hW => ⟨⟨_, (), rfl, r7, by rw [ht]; exact hP9, va_K.moved hW.alike hK, hD9⟩, hS.F ht⟩) hS.2.2 dX7_tolerance_105
    · skip
      refine lv_iconst (v := 5) hx hb dX7_tolerance_77 (by decide) ?_
      refine lv_goto (tgt := 105) hx hb dX7_tolerance_78 (by decide) ?_
      have r8 : 5 = (tolV g k) := by simp [tolV, *]
      have hP9 : va_P (dC, dI) vwCl [] H := by exact hP.sub [] rfl
      have hD9 : va_D A [] := by exact hD.sub [] (by decide) rfl
      rw [hQe]
      exact W.iret (v := 5) hx hb hr (fun t ht hW => ⟨⟨_, (), rfl, r8, by rw [ht]; exact hP9, va_K.moved hW.alike hK, hD9⟩, hS.F ht⟩) hS.2.2 dX7_tolerance_105
  by_cases h1_2 : k = 2
  · refine lv_tableIn (off := 105) (tgt := 106) hx hb dX7_tolerance_1 (by rw [h1_2]; decide) (by rw [h1_2]; decide) (by rw [h1_2]; rfl) (by decide) ?_
    refine lv_iload_n hx hb dX7_tolerance_106 rfl (lv_at hl 0 rfl) ?_
    refine lv_bipush (v := 102) hx hb dX7_tolerance_107 (by decide) ?_
    refine lv_icmp_ne (tgt := 117) hx hb dX7_tolerance_109 (by decide) (fun c109 => ?_) (fun c109 => ?_)
    · skip
      refine lv_iload_n hx hb dX7_tolerance_117 rfl (lv_at hl 0 rfl) ?_
      refine lv_bipush (v := 109) hx hb dX7_tolerance_118 (by decide) ?_
      refine lv_icmp_ne (tgt := 128) hx hb dX7_tolerance_120 (by decide) (fun c120 => ?_) (fun c120 => ?_)
      · skip
        refine lv_iload_n hx hb dX7_tolerance_128 rfl (lv_at hl 0 rfl) ?_
        refine lv_bipush (v := 99) hx hb dX7_tolerance_129 (by decide) ?_
        refine lv_icmp_ne (tgt := 139) hx hb dX7_tolerance_131 (by decide) (fun c131 => ?_) (fun c131 => ?_)
        · skip
          refine lv_bipush (v := 100) hx hb dX7_tolerance_139 (by decide) ?_
          have r9 : 100 = (tolV g k) := by simp [tolV, *]
          have hP9 : va_P (dC, dI) vwCl [] H := by exact hP.sub [] rfl
          have hD9 : va_D A [] := by exact hD.sub [] (by decide) rfl
          rw [hQe]
          exact W.iret (v := 100) hx hb hr (fun t ht hW => ⟨⟨_, (), rfl, r9, by rw [ht]; exact hP9, va_K.moved hW.alike hK, hD9⟩, hS.F ht⟩) hS.2.2 dX7_tolerance_141
        · skip
          refine lv_bipush (v := 50) hx hb dX7_tolerance_134 (by decide) ?_
          refine lv_goto (tgt := 141) hx hb dX7_tolerance_136 (by decide) ?_
          have r10 : 50 = (tolV g k) := by simp [tolV, *]
          have hP9 : va_P (dC, dI) vwCl [] H := by exact hP.sub [] rfl
          have hD9 : va_D A [] := by exact hD.sub [] (by decide) rfl
          rw [hQe]
          exact W.iret (v := 50) hx hb hr (fun t ht hW => ⟨⟨_, (), rfl, r10, by rw [ht]; exact hP9, va_K.moved hW.alike hK, hD9⟩, hS.F ht⟩) hS.2.2 dX7_tolerance_141
      · skip
        refine lv_bipush (v := 20) hx hb dX7_tolerance_123 (by decide) ?_
        refine lv_goto (tgt := 141) hx hb dX7_tolerance_125 (by decide) ?_
        have r11 : 20 = (tolV g k) := by simp [tolV, *]
        have hP9 : va_P (dC, dI) vwCl [] H := by exact hP.sub [] rfl
        have hD9 : va_D A [] := by exact hD.sub [] (by decide) rfl
        rw [hQe]
        exact W.iret (v := 20) hx hb hr (fun t ht hW => ⟨⟨_, (), rfl, r11, by rw [ht]; exact hP9, va_K.moved hW.alike hK, hD9⟩, hS.F ht⟩) hS.2.2 dX7_tolerance_141
    · skip
      refine lv_bipush (v := 10) hx hb dX7_tolerance_112 (by decide) ?_
      refine lv_goto (tgt := 141) hx hb dX7_tolerance_114 (by decide) ?_
      have r12 : 10 = (tolV g k) := by simp [tolV, *]
      have hP9 : va_P (dC, dI) vwCl [] H := by exact hP.sub [] rfl
      have hD9 : va_D A [] := by exact hD.sub [] (by decide) rfl
      rw [hQe]
      exact W.iret (v := 10) hx hb hr (fun t ht hW => ⟨⟨_, (), rfl, r12, by rw [ht]; exact hP9, va_K.moved hW.alike hK, hD9⟩, hS.F ht⟩) hS.2.2 dX7_tolerance_141
  by_cases h1_3 : k = 3
  · refine lv_tableIn (off := 141) (tgt := 142) hx hb dX7_tolerance_1 (by rw [h1_3]; decide) (by rw [h1_3]; decide) (by rw [h1_3]; rfl) (by decide) ?_
    refine lv_iload_n hx hb dX7_tolerance_142 rfl (lv_at hl 0 rfl) ?_
    refine lv_bipush (v := 102) hx hb dX7_tolerance_143 (by decide) ?_
    refine lv_icmp_ne (tgt := 153) hx hb dX7_tolerance_145 (by decide) (fun c145 => ?_) (fun c145 => ?_)
    · skip
      refine lv_iload_n hx hb dX7_tolerance_153 rfl (lv_at hl 0 rfl) ?_
      refine lv_bipush (v := 109) hx hb dX7_tolerance_154 (by decide) ?_
      refine lv_icmp_ne (tgt := 164) hx hb dX7_tolerance_156 (by decide) (fun c156 => ?_) (fun c156 => ?_)
      · skip
        refine lv_iload_n hx hb dX7_tolerance_164 rfl (lv_at hl 0 rfl) ?_
        refine lv_bipush (v := 99) hx hb dX7_tolerance_165 (by decide) ?_
        refine lv_icmp_ne (tgt := 175) hx hb dX7_tolerance_167 (by decide) (fun c167 => ?_) (fun c167 => ?_)
        · skip
          refine lv_sipush (v := 150) hx hb dX7_tolerance_175 (by decide) ?_
          have r13 : 150 = (tolV g k) := by simp [tolV, *]
          have hP9 : va_P (dC, dI) vwCl [] H := by exact hP.sub [] rfl
          have hD9 : va_D A [] := by exact hD.sub [] (by decide) rfl
          rw [hQe]
          exact W.iret (v := 150) hx hb hr (fun t ht hW => ⟨⟨_, (), rfl, r13, by rw [ht]; exact hP9, va_K.moved hW.alike hK, hD9⟩, hS.F ht⟩) hS.2.2 dX7_tolerance_178
        · skip
          refine lv_bipush (v := 80) hx hb dX7_tolerance_170 (by decide) ?_
          refine lv_goto (tgt := 178) hx hb dX7_tolerance_172 (by decide) ?_
          have r14 : 80 = (tolV g k) := by simp [tolV, *]
          have hP9 : va_P (dC, dI) vwCl [] H := by exact hP.sub [] rfl
          have hD9 : va_D A [] := by exact hD.sub [] (by decide) rfl
          rw [hQe]
          exact W.iret (v := 80) hx hb hr (fun t ht hW => ⟨⟨_, (), rfl, r14, by rw [ht]; exact hP9, va_K.moved hW.alike hK, hD9⟩, hS.F ht⟩) hS.2.2 dX7_tolerance_178
      · skip
        refine lv_bipush (v := 30) hx hb dX7_tolerance_159 (by decide) ?_
        refine lv_goto (tgt := 178) hx hb dX7_tolerance_161 (by decide) ?_
        have r15 : 30 = (tolV g k) := by simp [tolV, *]
        have hP9 : va_P (dC, dI) vwCl [] H := by exact hP.sub [] rfl
        have hD9 : va_D A [] := by exact hD.sub [] (by decide) rfl
        rw [hQe]
        exact W.iret (v := 30) hx hb hr (fun t ht hW => ⟨⟨_, (), rfl, r15, by rw [ht]; exact hP9, va_K.moved hW.alike hK, hD9⟩, hS.F ht⟩) hS.2.2 dX7_tolerance_178
    · skip
      refine lv_bipush (v := 15) hx hb dX7_tolerance_148 (by decide) ?_
      refine lv_goto (tgt := 178) hx hb dX7_tolerance_150 (by decide) ?_
      have r16 : 15 = (tolV g k) := by simp [tolV, *]
      have hP9 : va_P (dC, dI) vwCl [] H := by exact hP.sub [] rfl
      have hD9 : va_D A [] := by exact hD.sub [] (by decide) rfl
      rw [hQe]
      exact W.iret (v := 15) hx hb hr (fun t ht hW => ⟨⟨_, (), rfl, r16, by rw [ht]; exact hP9, va_K.moved hW.alike hK, hD9⟩, hS.F ht⟩) hS.2.2 dX7_tolerance_178
  by_cases h1_4 : k = 4
  · refine lv_tableIn (off := 178) (tgt := 179) hx hb dX7_tolerance_1 (by rw [h1_4]; decide) (by rw [h1_4]; decide) (by rw [h1_4]; rfl) (by decide) ?_
    refine lv_iload_n hx hb dX7_tolerance_179 rfl (lv_at hl 0 rfl) ?_
    refine lv_bipush (v := 102) hx hb dX7_tolerance_180 (by decide) ?_
    refine lv_icmp_ne (tgt := 190) hx hb dX7_tolerance_182 (by decide) (fun c182 => ?_) (fun c182 => ?_)
    · skip
      refine lv_iload_n hx hb dX7_tolerance_190 rfl (lv_at hl 0 rfl) ?_
      refine lv_bipush (v := 109) hx hb dX7_tolerance_191 (by decide) ?_
      refine lv_icmp_ne (tgt := 201) hx hb dX7_tolerance_193 (by decide) (fun c193 => ?_) (fun c193 => ?_)
      · skip
        refine lv_iload_n hx hb dX7_tolerance_201 rfl (lv_at hl 0 rfl) ?_
        refine lv_bipush (v := 99) hx hb dX7_tolerance_202 (by decide) ?_
        refine lv_icmp_ne (tgt := 212) hx hb dX7_tolerance_204 (by decide) (fun c204 => ?_) (fun c204 => ?_)
        · skip
          refine lv_sipush (v := 250) hx hb dX7_tolerance_212 (by decide) ?_
          have r17 : 250 = (tolV g k) := by simp [tolV, *]
          have hP9 : va_P (dC, dI) vwCl [] H := by exact hP.sub [] rfl
          have hD9 : va_D A [] := by exact hD.sub [] (by decide) rfl
          rw [hQe]
          exact W.iret (v := 250) hx hb hr (fun t ht hW => ⟨⟨_, (), rfl, r17, by rw [ht]; exact hP9, va_K.moved hW.alike hK, hD9⟩, hS.F ht⟩) hS.2.2 dX7_tolerance_215
        · skip
          refine lv_bipush (v := 120) hx hb dX7_tolerance_207 (by decide) ?_
          refine lv_goto (tgt := 215) hx hb dX7_tolerance_209 (by decide) ?_
          have r18 : 120 = (tolV g k) := by simp [tolV, *]
          have hP9 : va_P (dC, dI) vwCl [] H := by exact hP.sub [] rfl
          have hD9 : va_D A [] := by exact hD.sub [] (by decide) rfl
          rw [hQe]
          exact W.iret (v := 120) hx hb hr (fun t ht hW => ⟨⟨_, (), rfl, r18, by rw [ht]; exact hP9, va_K.moved hW.alike hK, hD9⟩, hS.F ht⟩) hS.2.2 dX7_tolerance_215
      · skip
        refine lv_bipush (v := 50) hx hb dX7_tolerance_196 (by decide) ?_
        refine lv_goto (tgt := 215) hx hb dX7_tolerance_198 (by decide) ?_
        have r19 : 50 = (tolV g k) := by simp [tolV, *]
        have hP9 : va_P (dC, dI) vwCl [] H := by exact hP.sub [] rfl
        have hD9 : va_D A [] := by exact hD.sub [] (by decide) rfl
        rw [hQe]
        exact W.iret (v := 50) hx hb hr (fun t ht hW => ⟨⟨_, (), rfl, r19, by rw [ht]; exact hP9, va_K.moved hW.alike hK, hD9⟩, hS.F ht⟩) hS.2.2 dX7_tolerance_215
    · skip
      refine lv_bipush (v := 20) hx hb dX7_tolerance_185 (by decide) ?_
      refine lv_goto (tgt := 215) hx hb dX7_tolerance_187 (by decide) ?_
      have r20 : 20 = (tolV g k) := by simp [tolV, *]
      have hP9 : va_P (dC, dI) vwCl [] H := by exact hP.sub [] rfl
      have hD9 : va_D A [] := by exact hD.sub [] (by decide) rfl
      rw [hQe]
      exact W.iret (v := 20) hx hb hr (fun t ht hW => ⟨⟨_, (), rfl, r20, by rw [ht]; exact hP9, va_K.moved hW.alike hK, hD9⟩, hS.F ht⟩) hS.2.2 dX7_tolerance_215
  refine lv_tableOut (tgt := 216) hx hb dX7_tolerance_1 (by rw [nI_toInt (by omega)]; omega) (by decide) ?_
  refine lv_iload_n hx hb dX7_tolerance_216 rfl (lv_at hl 0 rfl) ?_
  refine lv_bipush (v := 102) hx hb dX7_tolerance_217 (by decide) ?_
  refine lv_icmp_ne (tgt := 227) hx hb dX7_tolerance_219 (by decide) (fun c219 => ?_) (fun c219 => ?_)
  · skip
    refine lv_iload_n hx hb dX7_tolerance_227 rfl (lv_at hl 0 rfl) ?_
    refine lv_bipush (v := 109) hx hb dX7_tolerance_228 (by decide) ?_
    refine lv_icmp_ne (tgt := 238) hx hb dX7_tolerance_230 (by decide) (fun c230 => ?_) (fun c230 => ?_)
    · skip
      refine lv_iload_n hx hb dX7_tolerance_238 rfl (lv_at hl 0 rfl) ?_
      refine lv_bipush (v := 99) hx hb dX7_tolerance_239 (by decide) ?_
      refine lv_icmp_ne (tgt := 250) hx hb dX7_tolerance_241 (by decide) (fun c241 => ?_) (fun c241 => ?_)
      · skip
        refine lv_sipush (v := 400) hx hb dX7_tolerance_250 (by decide) ?_
        have r21 : 400 = (tolV g k) := by simp [tolV, *]
        have hP9 : va_P (dC, dI) vwCl [] H := by exact hP.sub [] rfl
        have hD9 : va_D A [] := by exact hD.sub [] (by decide) rfl
        rw [hQe]
        exact W.iret (v := 400) hx hb hr (fun t ht hW => ⟨⟨_, (), rfl, r21, by rw [ht]; exact hP9, va_K.moved hW.alike hK, hD9⟩, hS.F ht⟩) hS.2.2 dX7_tolerance_253
      · skip
        refine lv_sipush (v := 200) hx hb dX7_tolerance_244 (by decide) ?_
        refine lv_goto (tgt := 253) hx hb dX7_tolerance_247 (by decide) ?_
        have r22 : 200 = (tolV g k) := by simp [tolV, *]
        have hP9 : va_P (dC, dI) vwCl [] H := by exact hP.sub [] rfl
        have hD9 : va_D A [] := by exact hD.sub [] (by decide) rfl
        rw [hQe]
        exact W.iret (v := 200) hx hb hr (fun t ht hW => ⟨⟨_, (), rfl, r22, by rw [ht]; exact hP9, va_K.moved hW.alike hK, hD9⟩, hS.F ht⟩) hS.2.2 dX7_tolerance_253
    · skip
      refine lv_bipush (v := 80) hx hb dX7_tolerance_233 (by decide) ?_
      refine lv_goto (tgt := 253) hx hb dX7_tolerance_235 (by decide) ?_
      have r23 : 80 = (tolV g k) := by simp [tolV, *]
      have hP9 : va_P (dC, dI) vwCl [] H := by exact hP.sub [] rfl
      have hD9 : va_D A [] := by exact hD.sub [] (by decide) rfl
      rw [hQe]
      exact W.iret (v := 80) hx hb hr (fun t ht hW => ⟨⟨_, (), rfl, r23, by rw [ht]; exact hP9, va_K.moved hW.alike hK, hD9⟩, hS.F ht⟩) hS.2.2 dX7_tolerance_253
  · skip
    refine lv_bipush (v := 30) hx hb dX7_tolerance_222 (by decide) ?_
    refine lv_goto (tgt := 253) hx hb dX7_tolerance_224 (by decide) ?_
    have r24 : 30 = (tolV g k) := by simp [tolV, *]
    have hP9 : va_P (dC, dI) vwCl [] H := by exact hP.sub [] rfl
    have hD9 : va_D A [] := by exact hD.sub [] (by decide) rfl
    rw [hQe]
    exact W.iret (v := 30) hx hb hr (fun t ht hW => ⟨⟨_, (), rfl, r24, by rw [ht]; exact hP9, va_K.moved hW.alike hK, hD9⟩, hS.F ht⟩) hS.2.2 dX7_tolerance_253
set_option maxHeartbeats 4000000 in
set_option maxRecDepth 100000 in
theorem c_X7_general (l : Launch) (dC : Nat → ClassId) (dI : Nat → Nat → Nat) (cyI cyZ cyJ cyD : ClassId) (aM aMF aMT aMN aML aMU aMB aMf aMt aMn aMl aMu aMP aMD aMC aMO aMY aMS : Nat) (zH : Nat) (th : Int32) (n : Nat) (cnt : Nat) (ml : Nat) (sg : Nat) (rm : Nat) (mdg : Nat) (mnb : Nat) (mng : Bool) (lk : Nat) (gn : Int32) (gl : Int32) (gg : Int32) (nn : Int32) (nl : Int32) (nu : Int32) (hs : Int64) (nm : Nat → Int32) (lo : Nat → Int32) (up : Nat → Int32) (g : Int32) (hc : cnt ≤ 20) : Met l yX7_general wsX7_general ({ frames := 1, cells := 0, slots := 0, locals := 21 } : Room) (va_Pc [.ref aM, .int g] (fun U => U.heap.size = zH ∧ va_P (dC, dI) vwCl [(aM, .inr (7, [.int th, .int (nI n), .int (nI cnt), .ref aMF, .ref aMT, .ref aMN, .ref aML, .ref aMU, .int (nI ml), .ref aMB, .int (nI sg), .int (nI rm), .int (nI mdg), .int (nI mnb), .int (bI mng), .ref aMf, .ref aMt, .ref aMn, .ref aMl, .ref aMu, .ref aMP, .ref aMD, .int (nI lk), .ref aMC, .ref aMO, .int gn, .int gl, .int gg, .ref aMY, .int nn, .int nl, .int nu, .ref aMS, .long hs])), (aMN, .inl (cyI, 20, .inl nm)), (aML, .inl (cyI, 20, .inl lo)), (aMU, .inl (cyI, 20, .inl up))] U.heap ∧ va_K (dC, dI) vwCl [(cyI, .int), (cyZ, .boolean), (cyJ, .long), (cyD, .double)] U ∧ va_D (fun _ => True) [(aM, .inr (7, [.int th, .int (nI n), .int (nI cnt), .ref aMF, .ref aMT, .ref aMN, .ref aML, .ref aMU, .int (nI ml), .ref aMB, .int (nI sg), .int (nI rm), .int (nI mdg), .int (nI mnb), .int (bI mng), .ref aMf, .ref aMt, .ref aMn, .ref aMl, .ref aMu, .ref aMP, .ref aMD, .int (nI lk), .ref aMC, .ref aMO, .int gn, .int gl, .int gg, .ref aMY, .int nn, .int nl, .int nu, .ref aMS, .long hs])), (aMN, .inl (cyI, 20, .inl nm)), (aML, .inl (cyI, 20, .inl lo)), (aMU, .inl (cyI, 20, .inl up))])) (va_Qi (fun (r : Int32) (_ : Unit) => r = nI (if gr4 g = true then gnC g nm lo up cnt else 0)) (fun _ t => va_P (dC, dI) vwCl [(aM, .inr (7, [.int (if gr4 g = true then (0 : Int32) else 1), .int (nI n), .int (nI cnt), .ref aMF, .ref aMT, .ref aMN, .ref aML, .ref aMU, .int (nI ml), .ref aMB, .int (nI sg), .int (nI rm), .int (nI mdg), .int (nI mnb), .int (bI mng), .ref aMf, .ref aMt, .ref aMn, .ref aMl, .ref aMu, .ref aMP, .ref aMD, .int (nI lk), .ref aMC, .ref aMO, .int gn, .int gl, .int gg, .ref aMY, .int nn, .int nl, .int nu, .ref aMS, .long hs])), (aMN, .inl (cyI, 20, .inl nm)), (aML, .inl (cyI, 20, .inl (if gr4 g = true then (gnS g nm lo up cnt).1 else lo))), (aMU, .inl (cyI, 20, .inl (if gr4 g = true then (gnS g nm lo up cnt).2 else up)))] t.heap ∧ va_K (dC, dI) vwCl [(cyI, .int), (cyZ, .boolean), (cyJ, .long), (cyD, .double)] t ∧ va_D (va_A [(aM, .inr (7, [.int th, .int (nI n), .int (nI cnt), .ref aMF, .ref aMT, .ref aMN, .ref aML, .ref aMU, .int (nI ml), .ref aMB, .int (nI sg), .int (nI rm), .int (nI mdg), .int (nI mnb), .int (bI mng), .ref aMf, .ref aMt, .ref aMn, .ref aMl, .ref aMu, .ref aMP, .ref aMD, .int (nI lk), .ref aMC, .ref aMO, .int gn, .int gl, .int gg, .ref aMY, .int nn, .int nl, .int nu, .ref aMS, .long hs])), (aMN, .inl (cyI, 20, .inl nm)), (aML, .inl (cyI, 20, .inl lo)), (aMU, .inl (cyI, 20, .inl up))] zH) [(aM, .inr (7, [.int (if gr4 g = true then (0 : Int32) else 1), .int (nI n), .int (nI cnt), .ref aMF, .ref aMT, .ref aMN, .ref aML, .ref aMU, .int (nI ml), .ref aMB, .int (nI sg), .int (nI rm), .int (nI mdg), .int (nI mnb), .int (bI mng), .ref aMf, .ref aMt, .ref aMn, .ref aMl, .ref aMu, .ref aMP, .ref aMD, .int (nI lk), .ref aMC, .ref aMO, .int gn, .int gl, .int gg, .ref aMY, .int nn, .int nl, .int nu, .ref aMS, .long hs])), (aMN, .inl (cyI, 20, .inl nm)), (aML, .inl (cyI, 20, .inl (if gr4 g = true then (gnS g nm lo up cnt).1 else lo))), (aMU, .inl (cyI, 20, .inl (if gr4 g = true then (gnS g nm lo up cnt).2 else up)))]) (va_A [(aM, .inr (7, [.int th, .int (nI n), .int (nI cnt), .ref aMF, .ref aMT, .ref aMN, .ref aML, .ref aMU, .int (nI ml), .ref aMB, .int (nI sg), .int (nI rm), .int (nI mdg), .int (nI mnb), .int (bI mng), .ref aMf, .ref aMt, .ref aMn, .ref aMl, .ref aMu, .ref aMP, .ref aMD, .int (nI lk), .ref aMC, .ref aMO, .int gn, .int gl, .int gg, .ref aMY, .int nn, .int nl, .int nu, .ref aMS, .long hs])), (aMN, .inl (cyI, 20, .inl nm)), (aML, .inl (cyI, 20, .inl lo)), (aMU, .inl (cyI, 20, .inl up))] zH)) 0 0 (va_A [(aM, .inr (7, [.int th, .int (nI n), .int (nI cnt), .ref aMF, .ref aMT, .ref aMN, .ref aML, .ref aMU, .int (nI ml), .ref aMB, .int (nI sg), .int (nI rm), .int (nI mdg), .int (nI mnb), .int (bI mng), .ref aMf, .ref aMt, .ref aMn, .ref aMl, .ref aMu, .ref aMP, .ref aMD, .int (nI lk), .ref aMC, .ref aMO, .int gn, .int gl, .int gg, .ref aMY, .int nn, .int nl, .int nu, .ref aMS, .long hs])), (aMN, .inl (cyI, 20, .inl nm)), (aML, .inl (cyI, 20, .inl lo)), (aMU, .inl (cyI, 20, .inl up))] zH) := by
  refine Met.ofW (cc := cX7_general) (maxL := 4) (ret := (some .int)) (by decide) rfl ?_
  intro pM eM s mM args blM mtM cM s₁ BM hml hv
  obtain ⟨rfl, hsz, hP, hK, hD0⟩ := hv
  have hx := BM.exec
  have hb := BM.bytes
  have hr := BM.returns
  have hts := atoms_spec (ws := wsX7_general) BM.pre
  have hown : s.vm.findClass RX7 = some mM.cls := findClass_of_methodNamed BM.named
  have hlocks := BM.notSynchronized
  have w0 := hts (.fieldLink RX7 67 "DimensionCheckerModel" "thrown" "I") (by decide +kernel)
  have w1 := hts (.fieldLink RX7 74 "DimensionCheckerModel" "many" "I") (by decide +kernel)
  have w2 := hts (.fieldLink RX7 23 "DimensionCheckerModel" "lower" "[I") (by decide +kernel)
  have w3 := hts (.fieldLink RX7 26 "DimensionCheckerModel" "upper" "[I") (by decide +kernel)
  have w4 := hts (.fieldLink RX7 20 "DimensionCheckerModel" "nominal" "[I") (by decide +kernel)
  have iX7 : ∀ w ∈ wsX70, w ∈ wsX7_general := by decide +kernel
  subst hsz
  have hD := hD0.self (sz := s.heap.size)
  obtain ⟨Q, hQe⟩ : ∃ Q : State → Prop, Q = MQ blM (va_Qi (fun (r : Int32) (_ : Unit) => r = nI (if gr4 g = true then gnC g nm lo up cnt else 0)) (fun _ t => va_P (dC, dI) vwCl [(aM, .inr (7, [.int (if gr4 g = true then (0 : Int32) else 1), .int (nI n), .int (nI cnt), .ref aMF, .ref aMT, .ref aMN, .ref aML, .ref aMU, .int (nI ml), .ref aMB, .int (nI sg), .int (nI rm), .int (nI mdg), .int (nI mnb), .int (bI mng), .ref aMf, .ref aMt, .ref aMn, .ref aMl, .ref aMu, .ref aMP, .ref aMD, .int (nI lk), .ref aMC, .ref aMO, .int gn, .int gl, .int gg, .ref aMY, .int nn, .int nl, .int nu, .ref aMS, .long hs])), (aMN, .inl (cyI, 20, .inl nm)), (aML, .inl (cyI, 20, .inl (if gr4 g = true then (gnS g nm lo up cnt).1 else lo))), (aMU, .inl (cyI, 20, .inl (if gr4 g = true then (gnS g nm lo up cnt).2 else up)))] t.heap ∧ va_K (dC, dI) vwCl [(cyI, .int), (cyZ, .boolean), (cyJ, .long), (cyD, .double)] t ∧ va_D (va_A [(aM, .inr (7, [.int th, .int (nI n), .int (nI cnt), .ref aMF, .ref aMT, .ref aMN, .ref aML, .ref aMU, .int (nI ml), .ref aMB, .int (nI sg), .int (nI rm), .int (nI mdg), .int (nI mnb), .int (bI mng), .ref aMf, .ref aMt, .ref aMn, .ref aMl, .ref aMu, .ref aMP, .ref aMD, .int (nI lk), .ref aMC, .ref aMO, .int gn, .int gl, .int gg, .ref aMY, .int nn, .int nl, .int nu, .ref aMS, .long hs])), (aMN, .inl (cyI, 20, .inl nm)), (aML, .inl (cyI, 20, .inl lo)), (aMU, .inl (cyI, 20, .inl up))] s.heap.size) [(aM, .inr (7, [.int (if gr4 g = true then (0 : Int32) else 1), .int (nI n), .int (nI cnt), .ref aMF, .ref aMT, .ref aMN, .ref aML, .ref aMU, .int (nI ml), .ref aMB, .int (nI sg), .int (nI rm), .int (nI mdg), .int (nI mnb), .int (bI mng), .ref aMf, .ref aMt, .ref aMn, .ref aMl, .ref aMu, .ref aMP, .ref aMD, .int (nI lk), .ref aMC, .ref aMO, .int gn, .int gl, .int gg, .ref aMY, .int nn, .int nl, .int nu, .ref aMS, .long hs])), (aMN, .inl (cyI, 20, .inl nm)), (aML, .inl (cyI, 20, .inl (if gr4 g = true then (gnS g nm lo up cnt).1 else lo))), (aMU, .inl (cyI, 20, .inl (if gr4 g = true then (gnS g nm lo up cnt).2 else up)))]) (va_A [(aM, .inr (7, [.int th, .int (nI n), .int (nI cnt), .ref aMF, .ref aMT, .ref aMN, .ref aML, .ref aMU, .int (nI ml), .ref aMB, .int (nI sg), .int (nI rm), .int (nI mdg), .int (nI mnb), .int (bI mng), .ref aMf, .ref aMt, .ref aMn, .ref aMl, .ref aMu, .ref aMP, .ref aMD, .int (nI lk), .ref aMC, .ref aMO, .int gn, .int gl, .int gg, .ref aMY, .int nn, .int nl, .int nu, .ref aMS, .long hs])), (aMN, .inl (cyI, 20, .inl nm)), (aML, .inl (cyI, 20, .inl lo)), (aMU, .inl (cyI, 20, .inl up))] s.heap.size)) ([.ref aM, .int g] : List Value).toArray s 0 0 (va_A [(aM, .inr (7, [.int th, .int (nI n), .int (nI cnt), .ref aMF, .ref aMT, .ref aMN, .ref aML, .ref aMU, .int (nI ml), .ref aMB, .int (nI sg), .int (nI rm), .int (nI mdg), .int (nI mnb), .int (bI mng), .ref aMf, .ref aMt, .ref aMn, .ref aMl, .ref aMu, .ref aMP, .ref aMD, .int (nI lk), .ref aMC, .ref aMO, .int gn, .int gl, .int gg, .ref aMY, .int nn, .int nl, .int nu, .ref aMS, .long hs])), (aMN, .inl (cyI, 20, .inl nm)), (aML, .inl (cyI, 20, .inl lo)), (aMU, .inl (cyI, 20, .inl up))] s.heap.size) := ⟨_, rfl⟩
  rw [← hQe]
  generalize hAe : va_A [(aM, .inr (7, [.int th, .int (nI n), .int (nI cnt), .ref aMF, .ref aMT, .ref aMN, .ref aML, .ref aMU, .int (nI ml), .ref aMB, .int (nI sg), .int (nI rm), .int (nI mdg), .int (nI mnb), .int (bI mng), .ref aMf, .ref aMt, .ref aMn, .ref aMl, .ref aMu, .ref aMP, .ref aMD, .int (nI lk), .ref aMC, .ref aMO, .int gn, .int gl, .int gg, .ref aMY, .int nn, .int nl, .int nu, .ref aMS, .long hs])), (aMN, .inl (cyI, 20, .inl nm)), (aML, .inl (cyI, 20, .inl lo)), (aMU, .inl (cyI, 20, .inl up))] s.heap.size = A at hD hQe
  have hA : ∀ q : Nat, s.heap.size ≤ q → A q := fun q h => by rw [← hAe]; exact Or.inr h
  obtain ⟨H, hHe⟩ : ∃ H : Heap, H = s.heap := ⟨_, rfl⟩
  have hS : va_S A s.heap H [] := by rw [hHe]; exact va_S.rf
  rw [← hHe] at hP ⊢
  have hl := lv_entry ([.ref aM, .int g]) (n := 4) (Nat.le_of_ble_eq_true rfl)
  rw [lg_entry_eq]
  generalize (lg_sl ([.ref aM, .int g]) ++ List.replicate (4 - (lg_sl ([.ref aM, .int g])).length) Slot.unset).toArray = ls at hl ⊢
  have hl : lv_has ls 4 [(0, .ref aM), (1, .int g)] := hl
  refine lv_aload_n hx hb dX7_general_0 rfl (lv_at hl 0 rfl) ?_
  have k30 : ∀ (t8 : Int32) (ht8 : t8 = if gr4 g = true then (0 : Int32) else 1) (H : Heap) (locs : List Loc) (ls : Array Slot), va_P (dC, dI) vwCl [(aM, .inr (7, [.int th, .int (nI n), .int (nI cnt), .ref aMF, .ref aMT, .ref aMN, .ref aML, .ref aMU, .int (nI ml), .ref aMB, .int (nI sg), .int (nI rm), .int (nI mdg), .int (nI mnb), .int (bI mng), .ref aMf, .ref aMt, .ref aMn, .ref aMl, .ref aMu, .ref aMP, .ref aMD, .int (nI lk), .ref aMC, .ref aMO, .int gn, .int gl, .int gg, .ref aMY, .int nn, .int nl, .int nu, .ref aMS, .long hs])), (aMN, .inl (cyI, 20, .inl nm)), (aML, .inl (cyI, 20, .inl lo)), (aMU, .inl (cyI, 20, .inl up))] H → va_D A [(aM, .inr (7, [.int th, .int (nI n), .int (nI cnt), .ref aMF, .ref aMT, .ref aMN, .ref aML, .ref aMU, .int (nI ml), .ref aMB, .int (nI sg), .int (nI rm), .int (nI mdg), .int (nI mnb), .int (bI mng), .ref aMf, .ref aMt, .ref aMn, .ref aMl, .ref aMu, .ref aMP, .ref aMD, .int (nI lk), .ref aMC, .ref aMO, .int gn, .int gl, .int gg, .ref aMY, .int nn, .int nl, .int nu, .ref aMS, .long hs])), (aMN, .inl (cyI, 20, .inl nm)), (aML, .inl (cyI, 20, .inl lo)), (aMU, .inl (cyI, 20, .inl up))] → va_S A s.heap H locs → lv_has ls 4 [(0, .ref aM), (1, .int g)] → W pM l eM (headSpec wsX7_general ({ frames := 1, cells := 0, slots := 0, locals := 21 } : Room)).room s mM ([.ref aM, .int g] : List Value).toArray blM mtM cM H locs 0 0 Q (F0 mM 30 ls [.int t8, .ref aM]) := by
    intro t8 ht8 H locs ls hP hD hS hl
    refine va_put (D := (dC, dI)) (ci := 7) (v := .int t8) (ty := .int) (C := RX7) (T := TX7) (N := 34) hx hb hts iX7 tyX7 tyX7_ok nmX7 hown hK hP hD hS 0 rfl rfl 0 (by decide) w0 (fun _ h9 => h9) rfl (by decide +kernel) rfl rfl (Nat.le_of_ble_eq_true rfl) dX7_general_30 (fun H locs hP hD hS => ?_)
    have hP : va_P (dC, dI) vwCl [(aM, .inr (7, [.int t8, .int (nI n), .int (nI cnt), .ref aMF, .ref aMT, .ref aMN, .ref aML, .ref aMU, .int (nI ml), .ref aMB, .int (nI sg), .int (nI rm), .int (nI mdg), .int (nI mnb), .int (bI mng), .ref aMf, .ref aMt, .ref aMn, .ref aMl, .ref aMu, .ref aMP, .ref aMD, .int (nI lk), .ref aMC, .ref aMO, .int gn, .int gl, .int gg, .ref aMY, .int nn, .int nl, .int nu, .ref aMS, .long hs])), (aMN, .inl (cyI, 20, .inl nm)), (aML, .inl (cyI, 20, .inl lo)), (aMU, .inl (cyI, 20, .inl up))] H := hP
    have hD : va_D A [(aM, .inr (7, [.int t8, .int (nI n), .int (nI cnt), .ref aMF, .ref aMT, .ref aMN, .ref aML, .ref aMU, .int (nI ml), .ref aMB, .int (nI sg), .int (nI rm), .int (nI mdg), .int (nI mnb), .int (bI mng), .ref aMf, .ref aMt, .ref aMn, .ref aMl, .ref aMu, .ref aMP, .ref aMD, .int (nI lk), .ref aMC, .ref aMO, .int gn, .int gl, .int gg, .ref aMY, .int nn, .int nl, .int nu, .ref aMS, .long hs])), (aMN, .inl (cyI, 20, .inl nm)), (aML, .inl (cyI, 20, .inl lo)), (aMU, .inl (cyI, 20, .inl up))] := hD
    refine lv_iconst (v := 0) hx hb dX7_general_33 (by decide) ?_
    refine lv_istore_n (lv' := [(2, .int 0), (0, .ref aM), (1, .int g)]) hx hb dX7_general_34 rfl hl (by decide) rfl (fun ls hl => ?_)
    refine lv_iconst (v := 0) hx hb dX7_general_35 (by decide) ?_
    refine lv_istore_n (lv' := [(3, .int 0), (2, .int 0), (0, .ref aM), (1, .int g)]) hx hb dX7_general_36 rfl hl (by decide) rfl (fun ls hl => ?_)
    have k37 : ∀ (fuel : Nat) (d : Nat) (hfuel : cnt - d < fuel) (hd0 : d ≤ cnt) (hgr : d = 0 ∨ gr4 g = true) (H : Heap) (locs : List Loc) (ls : Array Slot), va_P (dC, dI) vwCl [(aM, .inr (7, [.int t8, .int (nI n), .int (nI cnt), .ref aMF, .ref aMT, .ref aMN, .ref aML, .ref aMU, .int (nI ml), .ref aMB, .int (nI sg), .int (nI rm), .int (nI mdg), .int (nI mnb), .int (bI mng), .ref aMf, .ref aMt, .ref aMn, .ref aMl, .ref aMu, .ref aMP, .ref aMD, .int (nI lk), .ref aMC, .ref aMO, .int gn, .int gl, .int gg, .ref aMY, .int nn, .int nl, .int nu, .ref aMS, .long hs])), (aMN, .inl (cyI, 20, .inl nm)), (aML, .inl (cyI, 20, .inl ((gnS g nm lo up d).1))), (aMU, .inl (cyI, 20, .inl ((gnS g nm lo up d).2)))] H → va_D A [(aM, .inr (7, [.int t8, .int (nI n), .int (nI cnt), .ref aMF, .ref aMT, .ref aMN, .ref aML, .ref aMU, .int (nI ml), .ref aMB, .int (nI sg), .int (nI rm), .int (nI mdg), .int (nI mnb), .int (bI mng), .ref aMf, .ref aMt, .ref aMn, .ref aMl, .ref aMu, .ref aMP, .ref aMD, .int (nI lk), .ref aMC, .ref aMO, .int gn, .int gl, .int gg, .ref aMY, .int nn, .int nl, .int nu, .ref aMS, .long hs])), (aMN, .inl (cyI, 20, .inl nm)), (aML, .inl (cyI, 20, .inl ((gnS g nm lo up d).1))), (aMU, .inl (cyI, 20, .inl ((gnS g nm lo up d).2)))] → va_S A s.heap H locs → lv_has ls 4 [(0, .ref aM), (1, .int g), (2, .int (nI (gnC g nm lo up d))), (3, .int (nI d))] → W pM l eM (headSpec wsX7_general ({ frames := 1, cells := 0, slots := 0, locals := 21 } : Room)).room s mM ([.ref aM, .int g] : List Value).toArray blM mtM cM H locs 0 0 Q (F0 mM 37 ls []) := by
      intro fuel
      induction fuel with
      | zero => intro d hfuel; exact absurd hfuel (Nat.not_lt_zero _)
      | succ fuel ih37 =>
        intro d hfuel hd0 hgr H locs ls hP hD hS hl
        refine lv_iload_n hx hb dX7_general_37 rfl (lv_at hl 3 rfl) ?_
        refine lv_aload_n hx hb dX7_general_38 rfl (lv_at hl 0 rfl) ?_
        refine va_get (D := (dC, dI)) (ci := 7) (v := .int (nI cnt)) (C := RX7) (T := TX7) (N := 34) hx hb hts iX7 hown hK hP 0 rfl rfl 2 (by decide) w1 (fun _ h9 => h9) rfl dX7_general_39 ?_
        refine lv_icmp_ge (tgt := 111) hx hb dX7_general_42 (by decide) (fun c42 => ?_) (fun c42 => ?_)
        · have c42 := n_le (a := cnt) (b := d) (by omega) (by omega) c42
          have e9 : d = cnt := (by omega)
          refine lv_iload_n hx hb dX7_general_111 rfl (lv_at hl 2 rfl) ?_
          have r1 : (nI (gnC g nm lo up d)) = (nI (if gr4 g = true then gnC g nm lo up cnt else 0)) := by first | (rw [if_neg hno, e8]; rfl) | (rcases hgr with q | q; (rw [← e9, q]; split <;> rfl); (rw [if_pos q, e9]))
          have q2 : (if gr4 g = true then (0 : Int32) else 1) = t8 := by exact ht8.symm
          have q3 : (if gr4 g = true then (gnS g nm lo up cnt).1 else lo) = ((gnS g nm lo up d).1) := by first | (rw [if_neg hno, e8]; rfl) | (rcases hgr with q | q; (rw [← e9, q]; split <;> rfl); (rw [if_pos q, e9]))
          have q4 : (if gr4 g = true then (gnS g nm lo up cnt).2 else up) = ((gnS g nm lo up d).2) := by first | (rw [if_neg hno, e8]; rfl) | (rcases hgr with q | q; (rw [← e9, q]; split <;> rfl); (rw [if_pos q, e9]))
          have hP9 : va_P (dC, dI) vwCl [(aM, .inr (7, [.int (if gr4 g = true then (0 : Int32) else 1), .int (nI n), .int (nI cnt), .ref aMF, .ref aMT, .ref aMN, .ref aML, .ref aMU, .int (nI ml), .ref aMB, .int (nI sg), .int (nI rm), .int (nI mdg), .int (nI mnb), .int (bI mng), .ref aMf, .ref aMt, .ref aMn, .ref aMl, .ref aMu, .ref aMP, .ref aMD, .int (nI lk), .ref aMC, .ref aMO, .int gn, .int gl, .int gg, .ref aMY, .int nn, .int nl, .int nu, .ref aMS, .long hs])), (aMN, .inl (cyI, 20, .inl nm)), (aML, .inl (cyI, 20, .inl (if gr4 g = true then (gnS g nm lo up cnt).1 else lo))), (aMU, .inl (cyI, 20, .inl (if gr4 g = true then (gnS g nm lo up cnt).2 else up)))] H := by first | (rw [q3, q4, q2]; exact hP.sub [0, 1, 2, 3] rfl) | (simp only [q3, q4, q2]; exact hP.sub [0, 1, 2, 3] rfl) | exact hP.sub [0, 1, 2, 3] rfl
          have hD9 : va_D A [(aM, .inr (7, [.int (if gr4 g = true then (0 : Int32) else 1), .int (nI n), .int (nI cnt), .ref aMF, .ref aMT, .ref aMN, .ref aML, .ref aMU, .int (nI ml), .ref aMB, .int (nI sg), .int (nI rm), .int (nI mdg), .int (nI mnb), .int (bI mng), .ref aMf, .ref aMt, .ref aMn, .ref aMl, .ref aMu, .ref aMP, .ref aMD, .int (nI lk), .ref aMC, .ref aMO, .int gn, .int gl, .int gg, .ref aMY, .int nn, .int nl, .int nu, .ref aMS, .long hs])), (aMN, .inl (cyI, 20, .inl nm)), (aML, .inl (cyI, 20, .inl (if gr4 g = true then (gnS g nm lo up cnt).1 else lo))), (aMU, .inl (cyI, 20, .inl (if gr4 g = true then (gnS g nm lo up cnt).2 else up)))] := by first | (rw [q3, q4, q2]; exact hD.sub [0, 1, 2, 3] (by decide) rfl) | (simp only [q3, q4, q2]; exact hD.sub [0, 1, 2, 3] (by decide) rfl) | exact hD.sub [0, 1, 2, 3] (by decide) rfl
          rw [hQe]
          exact W.iret (v := nI (gnC g nm lo up d)) hx hb hr (fun t ht hW => ⟨⟨_, (), rfl, r1, by rw [ht]; exact hP9, va_K.moved hW.alike hK, hD9⟩, hS.F ht⟩) hS.2.2 dX7_general_112
        · have c42 := n_nle (a := cnt) (b := d) (by omega) (by omega) c42
          have hgc := gnC_le g nm lo up d
          refine lv_aload_n hx hb dX7_general_45 rfl (lv_at hl 0 rfl) ?_
          refine va_get (D := (dC, dI)) (ci := 7) (v := .int t8) (C := RX7) (T := TX7) (N := 34) hx hb hts iX7 hown hK hP 0 rfl rfl 0 (by decide) w0 (fun _ h9 => h9) rfl dX7_general_46 ?_
          refine lv_if_ne (tgt := 111) hx hb dX7_general_49 (by decide) (fun c49 => ?_) (fun c49 => ?_)
          · have hno : ¬ gr4 g = true := fun q => c49 (by rw [ht8, if_pos q])
            have e8 : d = 0 := hgr.resolve_right hno
            refine lv_iload_n hx hb dX7_general_111 rfl (lv_at hl 2 rfl) ?_
            have r5 : (nI (gnC g nm lo up d)) = (nI (if gr4 g = true then gnC g nm lo up cnt else 0)) := by first | (rw [if_neg hno, e8]; rfl) | (rcases hgr with q | q; (rw [← e9, q]; split <;> rfl); (rw [if_pos q, e9]))
            have q6 : (if gr4 g = true then (0 : Int32) else 1) = t8 := by exact ht8.symm
            have q7 : (if gr4 g = true then (gnS g nm lo up cnt).1 else lo) = ((gnS g nm lo up d).1) := by first | (rw [if_neg hno, e8]; rfl) | (rcases hgr with q | q; (rw [← e9, q]; split <;> rfl); (rw [if_pos q, e9]))
            have q8 : (if gr4 g = true then (gnS g nm lo up cnt).2 else up) = ((gnS g nm lo up d).2) := by first | (rw [if_neg hno, e8]; rfl) | (rcases hgr with q | q; (rw [← e9, q]; split <;> rfl); (rw [if_pos q, e9]))
            have hP9 : va_P (dC, dI) vwCl [(aM, .inr (7, [.int (if gr4 g = true then (0 : Int32) else 1), .int (nI n), .int (nI cnt), .ref aMF, .ref aMT, .ref aMN, .ref aML, .ref aMU, .int (nI ml), .ref aMB, .int (nI sg), .int (nI rm), .int (nI mdg), .int (nI mnb), .int (bI mng), .ref aMf, .ref aMt, .ref aMn, .ref aMl, .ref aMu, .ref aMP, .ref aMD, .int (nI lk), .ref aMC, .ref aMO, .int gn, .int gl, .int gg, .ref aMY, .int nn, .int nl, .int nu, .ref aMS, .long hs])), (aMN, .inl (cyI, 20, .inl nm)), (aML, .inl (cyI, 20, .inl (if gr4 g = true then (gnS g nm lo up cnt).1 else lo))), (aMU, .inl (cyI, 20, .inl (if gr4 g = true then (gnS g nm lo up cnt).2 else up)))] H := by first | (rw [q7, q8, q6]; exact hP.sub [0, 1, 2, 3] rfl) | (simp only [q7, q8, q6]; exact hP.sub [0, 1, 2, 3] rfl) | exact hP.sub [0, 1, 2, 3] rfl
            have hD9 : va_D A [(aM, .inr (7, [.int (if gr4 g = true then (0 : Int32) else 1), .int (nI n), .int (nI cnt), .ref aMF, .ref aMT, .ref aMN, .ref aML, .ref aMU, .int (nI ml), .ref aMB, .int (nI sg), .int (nI rm), .int (nI mdg), .int (nI mnb), .int (bI mng), .ref aMf, .ref aMt, .ref aMn, .ref aMl, .ref aMu, .ref aMP, .ref aMD, .int (nI lk), .ref aMC, .ref aMO, .int gn, .int gl, .int gg, .ref aMY, .int nn, .int nl, .int nu, .ref aMS, .long hs])), (aMN, .inl (cyI, 20, .inl nm)), (aML, .inl (cyI, 20, .inl (if gr4 g = true then (gnS g nm lo up cnt).1 else lo))), (aMU, .inl (cyI, 20, .inl (if gr4 g = true then (gnS g nm lo up cnt).2 else up)))] := by first | (rw [q7, q8, q6]; exact hD.sub [0, 1, 2, 3] (by decide) rfl) | (simp only [q7, q8, q6]; exact hD.sub [0, 1, 2, 3] (by decide) rfl) | exact hD.sub [0, 1, 2, 3] (by decide) rfl
            rw [hQe]
            exact W.iret (v := nI (gnC g nm lo up d)) hx hb hr (fun t ht hW => ⟨⟨_, (), rfl, r5, by rw [ht]; exact hP9, va_K.moved hW.alike hK, hD9⟩, hS.F ht⟩) hS.2.2 dX7_general_112
          · have hyes : gr4 g = true := if01 (by rw [← ht8, c49]; decide)
            refine lv_aload_n hx hb dX7_general_52 rfl (lv_at hl 0 rfl) ?_
            refine va_get (D := (dC, dI)) (ci := 7) (v := .ref aML) (C := RX7) (T := TX7) (N := 34) hx hb hts iX7 hown hK hP 0 rfl rfl 6 (by decide) w2 (fun _ h9 => h9) rfl dX7_general_53 ?_
            refine lv_iload_n hx hb dX7_general_56 rfl (lv_at hl 3 rfl) ?_
            have h9 : vp_in (nI d) 20 := by first | exact vp_in_nI (by omega) (by omega) | assumption
            refine va_iald hx hb hK hP 2 0 rfl rfl h9 dX7_general_57 ?_
            refine lv_topi (fun x10 e11 => ?_)
            obtain rfl : x10 = (((gnS g nm lo up d).1) d) := by rw [e11, nI_clamp (by omega)]
            clear e11
            refine lv_if_ne (tgt := 105) hx hb dX7_general_58 (by decide) (fun c58 => ?_) (fun c58 => ?_)
            · skip
              refine lv_iinc (v := nI (d + 1)) (lv' := [(3, .int (nI (d + 1))), (0, .ref aM), (1, .int g), (2, .int (nI (gnC g nm lo up d)))]) hx hb dX7_general_105 hl (k := 3) rfl (nI_add d 1) (by decide) rfl (fun ls hl => ?_)
              refine lv_goto (tgt := 37) hx hb dX7_general_108 (by decide) ?_
              have q12 : ((gnS g nm lo up (d + 1)).1) = ((gnS g nm lo up d).1) := by simp [gnS, pk_us, *]
              have q13 : ((gnS g nm lo up (d + 1)).2) = ((gnS g nm lo up d).2) := by simp [gnS, *]
              have q14 : (nI (gnC g nm lo up (d + 1))) = (nI (gnC g nm lo up d)) := by simp [gnC, *]
              exact ih37 (d + 1) (by omega) (by first | assumption | omega) (by exact Or.inr hyes) _ _ _ (by first | (rw [q12, q13]; exact hP) | (simp only [q12, q13]; exact hP) | exact hP) (by first | (rw [q12, q13]; exact hD) | (simp only [q12, q13]; exact hD) | exact hD) hS (by first | (rw [q14]; exact lv_sub hl [1, 2, 3, 0] rfl) | (simp only [q14]; exact lv_sub hl [1, 2, 3, 0] rfl) | exact lv_sub hl [1, 2, 3, 0] rfl)
            · skip
              refine lv_aload_n hx hb dX7_general_61 rfl (lv_at hl 0 rfl) ?_
              refine va_get (D := (dC, dI)) (ci := 7) (v := .ref aMU) (C := RX7) (T := TX7) (N := 34) hx hb hts iX7 hown hK hP 0 rfl rfl 7 (by decide) w3 (fun _ h9 => h9) rfl dX7_general_62 ?_
              refine lv_iload_n hx hb dX7_general_65 rfl (lv_at hl 3 rfl) ?_
              have h15 : vp_in (nI d) 20 := by first | exact vp_in_nI (by omega) (by omega) | assumption
              refine va_iald hx hb hK hP 3 0 rfl rfl h15 dX7_general_66 ?_
              refine lv_topi (fun x16 e17 => ?_)
              obtain rfl : x16 = (((gnS g nm lo up d).2) d) := by rw [e17, nI_clamp (by omega)]
              clear e17
              refine lv_if_ne (tgt := 105) hx hb dX7_general_67 (by decide) (fun c67 => ?_) (fun c67 => ?_)
              · skip
                refine lv_iinc (v := nI (d + 1)) (lv' := [(3, .int (nI (d + 1))), (0, .ref aM), (1, .int g), (2, .int (nI (gnC g nm lo up d)))]) hx hb dX7_general_105 hl (k := 3) rfl (nI_add d 1) (by decide) rfl (fun ls hl => ?_)
                refine lv_goto (tgt := 37) hx hb dX7_general_108 (by decide) ?_
                have q18 : ((gnS g nm lo up (d + 1)).1) = ((gnS g nm lo up d).1) := by simp [gnS, pk_us, *]
                have q19 : ((gnS g nm lo up (d + 1)).2) = ((gnS g nm lo up d).2) := by simp [gnS, *]
                have q20 : (nI (gnC g nm lo up (d + 1))) = (nI (gnC g nm lo up d)) := by simp [gnC, *]
                exact ih37 (d + 1) (by omega) (by first | assumption | omega) (by exact Or.inr hyes) _ _ _ (by first | (rw [q18, q19]; exact hP) | (simp only [q18, q19]; exact hP) | exact hP) (by first | (rw [q18, q19]; exact hD) | (simp only [q18, q19]; exact hD) | exact hD) hS (by first | (rw [q20]; exact lv_sub hl [1, 2, 3, 0] rfl) | (simp only [q20]; exact lv_sub hl [1, 2, 3, 0] rfl) | exact lv_sub hl [1, 2, 3, 0] rfl)
              · skip
                refine lv_aload_n hx hb dX7_general_70 rfl (lv_at hl 0 rfl) ?_
                refine va_get (D := (dC, dI)) (ci := 7) (v := .ref aMU) (C := RX7) (T := TX7) (N := 34) hx hb hts iX7 hown hK hP 0 rfl rfl 7 (by decide) w3 (fun _ h9 => h9) rfl dX7_general_71 ?_
                refine lv_iload_n hx hb dX7_general_74 rfl (lv_at hl 3 rfl) ?_
                refine lv_iload_n hx hb dX7_general_75 rfl (lv_at hl 1 rfl) ?_
                refine lv_aload_n hx hb dX7_general_76 rfl (lv_at hl 0 rfl) ?_
                refine va_get (D := (dC, dI)) (ci := 7) (v := .ref aMN) (C := RX7) (T := TX7) (N := 34) hx hb hts iX7 hown hK hP 0 rfl rfl 5 (by decide) w4 (fun _ h9 => h9) rfl dX7_general_77 ?_
                refine lv_iload_n hx hb dX7_general_80 rfl (lv_at hl 3 rfl) ?_
                have h21 : vp_in (nI d) 20 := by first | exact vp_in_nI (by omega) (by omega) | assumption
                refine va_iald hx hb hK hP 1 0 rfl rfl h21 dX7_general_81 ?_
                refine lv_topi (fun x22 e23 => ?_)
                obtain rfl : x22 = (nm d) := by rw [e23, nI_clamp (by omega)]
                clear e23
                have hPc := hP.sub (ws' := []) [] rfl
                have hDc := hD.sub (ws' := []) [] (by decide) rfl
                have hFc := va_free (wc := []) hD hS hA [] rfl
                refine va_calli (va_runS (As := [.int (nm d)]) (rest := [.int g, .int (nI d), .ref aMU]) ⟨hx, hb, hml, hown, hts⟩ (c_X7_column l dC dI cyI cyZ cyJ cyD H.size (nm d)) (va_cwS 1 hts gX7_general_X7_column rfl rfl rfl (by decide +kernel) ⟨Nat.le_of_ble_eq_true rfl, Nat.le_of_ble_eq_true rfl⟩) ⟨fun a U g mk q => by obtain ⟨q0, q1, qP, qK, qD⟩ := q; exact ⟨q0, q1, qP, va_K.moved (u := U) (U := U.calling g mk a) (Vm.Alike.refl U.vm) qK, qD⟩, fun U hU hW => ⟨rfl, by rw [hU], by rw [hU]; exact hPc, va_K.moved hW.alike hK, hDc.weaken (fun _ _ _ _ => trivial)⟩⟩ rfl rfl hl.1 rfl (lv_room (Nat.le_of_ble_eq_true rfl)) dX7_general_82 ⟨Nat.le_of_ble_eq_true rfl, Nat.le_of_ble_eq_true rfl⟩) hS (fun q _ h => hFc q h) hFc (fun r u t H1 locs ht hvm hw hB hz1 hk1 hS => ?_)
                obtain rfl := hw
                obtain ⟨hP1, hK1, hD1⟩ := hB
                rw [ht] at hP1
                obtain ⟨hP, hD⟩ := va_join (wr := [(aM, .inr (7, [.int t8, .int (nI n), .int (nI cnt), .ref aMF, .ref aMT, .ref aMN, .ref aML, .ref aMU, .int (nI ml), .ref aMB, .int (nI sg), .int (nI rm), .int (nI mdg), .int (nI mnb), .int (bI mng), .ref aMf, .ref aMt, .ref aMn, .ref aMl, .ref aMu, .ref aMP, .ref aMD, .int (nI lk), .ref aMC, .ref aMO, .int gn, .int gl, .int gg, .ref aMY, .int nn, .int nl, .int nu, .ref aMS, .long hs])), (aMN, .inl (cyI, 20, .inl nm)), (aML, .inl (cyI, 20, .inl ((gnS g nm lo up d).1))), (aMU, .inl (cyI, 20, .inl ((gnS g nm lo up d).2)))]) (w1 := []) hP hD [] [0, 1, 2, 3] rfl rfl (by decide) (by decide) hk1 hFc hP1 hD1
                clear hP1 hD1 hK1 hPc hDc hFc hk1 hz1 hvm ht u t
                generalize H1 = H at hP hS ⊢
                have hP : va_P (dC, dI) vwCl [(aM, .inr (7, [.int t8, .int (nI n), .int (nI cnt), .ref aMF, .ref aMT, .ref aMN, .ref aML, .ref aMU, .int (nI ml), .ref aMB, .int (nI sg), .int (nI rm), .int (nI mdg), .int (nI mnb), .int (bI mng), .ref aMf, .ref aMt, .ref aMn, .ref aMl, .ref aMu, .ref aMP, .ref aMD, .int (nI lk), .ref aMC, .ref aMO, .int gn, .int gl, .int gg, .ref aMY, .int nn, .int nl, .int nu, .ref aMS, .long hs])), (aMN, .inl (cyI, 20, .inl nm)), (aML, .inl (cyI, 20, .inl ((gnS g nm lo up d).1))), (aMU, .inl (cyI, 20, .inl ((gnS g nm lo up d).2)))] H := hP
                have hD : va_D A [(aM, .inr (7, [.int t8, .int (nI n), .int (nI cnt), .ref aMF, .ref aMT, .ref aMN, .ref aML, .ref aMU, .int (nI ml), .ref aMB, .int (nI sg), .int (nI rm), .int (nI mdg), .int (nI mnb), .int (bI mng), .ref aMf, .ref aMt, .ref aMn, .ref aMl, .ref aMu, .ref aMP, .ref aMD, .int (nI lk), .ref aMC, .ref aMO, .int gn, .int gl, .int gg, .ref aMY, .int nn, .int nl, .int nu, .ref aMS, .long hs])), (aMN, .inl (cyI, 20, .inl nm)), (aML, .inl (cyI, 20, .inl ((gnS g nm lo up d).1))), (aMU, .inl (cyI, 20, .inl ((gnS g nm lo up d).2)))] := hD
                have g24 : (colN (nm d)) < 10 := by have q := colN_lt (nm d); omega
                have hPc := hP.sub (ws' := []) [] rfl
                have hDc := hD.sub (ws' := []) [] (by decide) rfl
                have hFc := va_free (wc := []) hD hS hA [] rfl
                refine va_calli (va_runS (As := [.int g, .int (nI (colN (nm d)))]) (rest := [.int (nI d), .ref aMU]) ⟨hx, hb, hml, hown, hts⟩ (c_X7_tolerance l dC dI cyI cyZ cyJ cyD H.size g (colN (nm d)) g24) (va_cwS 2 hts gX7_general_X7_tolerance rfl rfl rfl (by decide +kernel) ⟨Nat.le_of_ble_eq_true rfl, Nat.le_of_ble_eq_true rfl⟩) ⟨fun a U g mk q => by obtain ⟨q0, q1, qP, qK, qD⟩ := q; exact ⟨q0, q1, qP, va_K.moved (u := U) (U := U.calling g mk a) (Vm.Alike.refl U.vm) qK, qD⟩, fun U hU hW => ⟨rfl, by rw [hU], by rw [hU]; exact hPc, va_K.moved hW.alike hK, hDc.weaken (fun _ _ _ _ => trivial)⟩⟩ rfl rfl hl.1 rfl (lv_room (Nat.le_of_ble_eq_true rfl)) dX7_general_85 ⟨Nat.le_of_ble_eq_true rfl, Nat.le_of_ble_eq_true rfl⟩) hS (fun q _ h => hFc q h) hFc (fun r u t H1 locs ht hvm hw hB hz1 hk1 hS => ?_)
                obtain rfl := hw
                obtain ⟨hP1, hK1, hD1⟩ := hB
                rw [ht] at hP1
                obtain ⟨hP, hD⟩ := va_join (wr := [(aM, .inr (7, [.int t8, .int (nI n), .int (nI cnt), .ref aMF, .ref aMT, .ref aMN, .ref aML, .ref aMU, .int (nI ml), .ref aMB, .int (nI sg), .int (nI rm), .int (nI mdg), .int (nI mnb), .int (bI mng), .ref aMf, .ref aMt, .ref aMn, .ref aMl, .ref aMu, .ref aMP, .ref aMD, .int (nI lk), .ref aMC, .ref aMO, .int gn, .int gl, .int gg, .ref aMY, .int nn, .int nl, .int nu, .ref aMS, .long hs])), (aMN, .inl (cyI, 20, .inl nm)), (aML, .inl (cyI, 20, .inl ((gnS g nm lo up d).1))), (aMU, .inl (cyI, 20, .inl ((gnS g nm lo up d).2)))]) (w1 := []) hP hD [] [0, 1, 2, 3] rfl rfl (by decide) (by decide) hk1 hFc hP1 hD1
                clear hP1 hD1 hK1 hPc hDc hFc hk1 hz1 hvm ht u t
                generalize H1 = H at hP hS ⊢
                have hP : va_P (dC, dI) vwCl [(aM, .inr (7, [.int t8, .int (nI n), .int (nI cnt), .ref aMF, .ref aMT, .ref aMN, .ref aML, .ref aMU, .int (nI ml), .ref aMB, .int (nI sg), .int (nI rm), .int (nI mdg), .int (nI mnb), .int (bI mng), .ref aMf, .ref aMt, .ref aMn, .ref aMl, .ref aMu, .ref aMP, .ref aMD, .int (nI lk), .ref aMC, .ref aMO, .int gn, .int gl, .int gg, .ref aMY, .int nn, .int nl, .int nu, .ref aMS, .long hs])), (aMN, .inl (cyI, 20, .inl nm)), (aML, .inl (cyI, 20, .inl ((gnS g nm lo up d).1))), (aMU, .inl (cyI, 20, .inl ((gnS g nm lo up d).2)))] H := hP
                have hD : va_D A [(aM, .inr (7, [.int t8, .int (nI n), .int (nI cnt), .ref aMF, .ref aMT, .ref aMN, .ref aML, .ref aMU, .int (nI ml), .ref aMB, .int (nI sg), .int (nI rm), .int (nI mdg), .int (nI mnb), .int (bI mng), .ref aMf, .ref aMt, .ref aMn, .ref aMl, .ref aMu, .ref aMP, .ref aMD, .int (nI lk), .ref aMC, .ref aMO, .int gn, .int gl, .int gg, .ref aMY, .int nn, .int nl, .int nu, .ref aMS, .long hs])), (aMN, .inl (cyI, 20, .inl nm)), (aML, .inl (cyI, 20, .inl ((gnS g nm lo up d).1))), (aMU, .inl (cyI, 20, .inl ((gnS g nm lo up d).2)))] := hD
                have h25 : vp_in (nI d) 20 := by first | exact vp_in_nI (by omega) (by omega) | assumption
                refine va_iast hx hb hK hP hD hS 3 0 rfl rfl h25 dX7_general_88 (fun H locs hP hD hS => ?_)
                rw [nI_clamp (by omega)] at hP hD
                have hP : va_P (dC, dI) vwCl [(aM, .inr (7, [.int t8, .int (nI n), .int (nI cnt), .ref aMF, .ref aMT, .ref aMN, .ref aML, .ref aMU, .int (nI ml), .ref aMB, .int (nI sg), .int (nI rm), .int (nI mdg), .int (nI mnb), .int (bI mng), .ref aMf, .ref aMt, .ref aMn, .ref aMl, .ref aMu, .ref aMP, .ref aMD, .int (nI lk), .ref aMC, .ref aMO, .int gn, .int gl, .int gg, .ref aMY, .int nn, .int nl, .int nu, .ref aMS, .long hs])), (aMN, .inl (cyI, 20, .inl nm)), (aML, .inl (cyI, 20, .inl ((gnS g nm lo up d).1))), (aMU, .inl (cyI, 20, .inl (upd ((gnS g nm lo up d).2) d (tolV g (colN (nm d))))))] H := hP
                have hD : va_D A [(aM, .inr (7, [.int t8, .int (nI n), .int (nI cnt), .ref aMF, .ref aMT, .ref aMN, .ref aML, .ref aMU, .int (nI ml), .ref aMB, .int (nI sg), .int (nI rm), .int (nI mdg), .int (nI mnb), .int (bI mng), .ref aMf, .ref aMt, .ref aMn, .ref aMl, .ref aMu, .ref aMP, .ref aMD, .int (nI lk), .ref aMC, .ref aMO, .int gn, .int gl, .int gg, .ref aMY, .int nn, .int nl, .int nu, .ref aMS, .long hs])), (aMN, .inl (cyI, 20, .inl nm)), (aML, .inl (cyI, 20, .inl ((gnS g nm lo up d).1))), (aMU, .inl (cyI, 20, .inl (upd ((gnS g nm lo up d).2) d (tolV g (colN (nm d))))))] := hD
                refine lv_aload_n hx hb dX7_general_89 rfl (lv_at hl 0 rfl) ?_
                refine va_get (D := (dC, dI)) (ci := 7) (v := .ref aML) (C := RX7) (T := TX7) (N := 34) hx hb hts iX7 hown hK hP 0 rfl rfl 6 (by decide) w2 (fun _ h9 => h9) rfl dX7_general_90 ?_
                refine lv_iload_n hx hb dX7_general_93 rfl (lv_at hl 3 rfl) ?_
                refine lv_aload_n hx hb dX7_general_94 rfl (lv_at hl 0 rfl) ?_
                refine va_get (D := (dC, dI)) (ci := 7) (v := .ref aMU) (C := RX7) (T := TX7) (N := 34) hx hb hts iX7 hown hK hP 0 rfl rfl 7 (by decide) w3 (fun _ h9 => h9) rfl dX7_general_95 ?_
                refine lv_iload_n hx hb dX7_general_98 rfl (lv_at hl 3 rfl) ?_
                have h26 : vp_in (nI d) 20 := by first | exact vp_in_nI (by omega) (by omega) | assumption
                refine va_iald hx hb hK hP 3 0 rfl rfl h26 dX7_general_99 ?_
                refine lv_topi (fun x27 e28 => ?_)
                obtain rfl : x27 = ((upd ((gnS g nm lo up d).2) d (tolV g (colN (nm d)))) d) := by rw [e28, nI_clamp (by omega)]
                clear e28
                refine lv_ineg hx hb dX7_general_100 ?_
                have h29 : vp_in (nI d) 20 := by first | exact vp_in_nI (by omega) (by omega) | assumption
                refine va_iast hx hb hK hP hD hS 2 0 rfl rfl h29 dX7_general_101 (fun H locs hP hD hS => ?_)
                rw [nI_clamp (by omega)] at hP hD
                have hP : va_P (dC, dI) vwCl [(aM, .inr (7, [.int t8, .int (nI n), .int (nI cnt), .ref aMF, .ref aMT, .ref aMN, .ref aML, .ref aMU, .int (nI ml), .ref aMB, .int (nI sg), .int (nI rm), .int (nI mdg), .int (nI mnb), .int (bI mng), .ref aMf, .ref aMt, .ref aMn, .ref aMl, .ref aMu, .ref aMP, .ref aMD, .int (nI lk), .ref aMC, .ref aMO, .int gn, .int gl, .int gg, .ref aMY, .int nn, .int nl, .int nu, .ref aMS, .long hs])), (aMN, .inl (cyI, 20, .inl nm)), (aML, .inl (cyI, 20, .inl (upd ((gnS g nm lo up d).1) d (-((upd ((gnS g nm lo up d).2) d (tolV g (colN (nm d)))) d))))), (aMU, .inl (cyI, 20, .inl (upd ((gnS g nm lo up d).2) d (tolV g (colN (nm d))))))] H := hP
                have hD : va_D A [(aM, .inr (7, [.int t8, .int (nI n), .int (nI cnt), .ref aMF, .ref aMT, .ref aMN, .ref aML, .ref aMU, .int (nI ml), .ref aMB, .int (nI sg), .int (nI rm), .int (nI mdg), .int (nI mnb), .int (bI mng), .ref aMf, .ref aMt, .ref aMn, .ref aMl, .ref aMu, .ref aMP, .ref aMD, .int (nI lk), .ref aMC, .ref aMO, .int gn, .int gl, .int gg, .ref aMY, .int nn, .int nl, .int nu, .ref aMS, .long hs])), (aMN, .inl (cyI, 20, .inl nm)), (aML, .inl (cyI, 20, .inl (upd ((gnS g nm lo up d).1) d (-((upd ((gnS g nm lo up d).2) d (tolV g (colN (nm d)))) d))))), (aMU, .inl (cyI, 20, .inl (upd ((gnS g nm lo up d).2) d (tolV g (colN (nm d))))))] := hD
                refine lv_iinc (v := nI (gnC g nm lo up d + 1)) (lv' := [(2, .int (nI (gnC g nm lo up d + 1))), (0, .ref aM), (1, .int g), (3, .int (nI d))]) hx hb dX7_general_102 hl (k := 2) rfl (nI_add (gnC g nm lo up d) 1) (by decide) rfl (fun ls hl => ?_)
                refine lv_iinc (v := nI (d + 1)) (lv' := [(3, .int (nI (d + 1))), (2, .int (nI (gnC g nm lo up d + 1))), (0, .ref aM), (1, .int g)]) hx hb dX7_general_105 hl (k := 3) rfl (nI_add d 1) (by decide) rfl (fun ls hl => ?_)
                refine lv_goto (tgt := 37) hx hb dX7_general_108 (by decide) ?_
                have q30 : ((gnS g nm lo up (d + 1)).1) = (upd ((gnS g nm lo up d).1) d (-((upd ((gnS g nm lo up d).2) d (tolV g (colN (nm d)))) d))) := by simp [gnS, pk_us, *]
                have q31 : ((gnS g nm lo up (d + 1)).2) = (upd ((gnS g nm lo up d).2) d (tolV g (colN (nm d)))) := by simp [gnS, *]
                have q32 : (nI (gnC g nm lo up (d + 1))) = (nI (gnC g nm lo up d + 1)) := by simp [gnC, *]
                exact ih37 (d + 1) (by omega) (by first | assumption | omega) (by exact Or.inr hyes) _ _ _ (by first | (rw [q30, q31]; exact hP) | (simp only [q30, q31]; exact hP) | exact hP) (by first | (rw [q30, q31]; exact hD) | (simp only [q30, q31]; exact hD) | exact hD) hS (by first | (rw [q32]; exact lv_sub hl [2, 3, 1, 0] rfl) | (simp only [q32]; exact lv_sub hl [2, 3, 1, 0] rfl) | exact lv_sub hl [2, 3, 1, 0] rfl)
    have q33 : ((gnS g nm lo up 0).1) = lo := by rfl
    have q34 : ((gnS g nm lo up 0).2) = up := by rfl
    have q35 : (nI (gnC g nm lo up 0)) = 0 := by rfl
    have q36 : (nI 0) = 0 := by first | rfl | simp [*] | (simp only [*]; done)
    exact k37 (cnt - 0 + 1) 0 (Nat.lt_succ_self _) (by first | assumption | omega) (by exact Or.inl rfl) _ _ _ (by first | (rw [q33, q34]; exact hP) | (simp only [q33, q34]; exact hP) | exact hP) (by first | (rw [q33, q34]; exact hD) | (simp only [q33, q34]; exact hD) | exact hD) hS (by first | (rw [q35, q36]; exact lv_sub hl [2, 3, 1, 0] rfl) | (simp only [q35, q36]; exact lv_sub hl [2, 3, 1, 0] rfl) | exact lv_sub hl [2, 3, 1, 0] rfl)
  refine lv_iload_n hx hb dX7_general_1 rfl (lv_at hl 1 rfl) ?_
  refine lv_bipush (v := 102) hx hb dX7_general_2 (by decide) ?_
  refine lv_icmp_eq (tgt := 25) hx hb dX7_general_4 (by decide) (fun c4 => ?_) (fun c4 => ?_)
  · skip
    refine lv_iconst (v := 0) hx hb dX7_general_25 (by decide) ?_
    refine lv_goto (tgt := 30) hx hb dX7_general_26 (by decide) ?_
    have q37 : (if gr4 g = true then (0 : Int32) else 1) = 0 := by first | exact if_pos (gr4_t (Or.inl c4)) | exact if_pos (gr4_t (Or.inr (Or.inl c10))) | exact if_pos (gr4_t (Or.inr (Or.inr (Or.inl c16)))) | exact if_pos (gr4_t (Or.inr (Or.inr (Or.inr c22)))) | exact if_neg (gr4_f c4 c10 c16 c22)
    refine W.eq (g2 := F0 mM 30 ls [.int (if gr4 g = true then (0 : Int32) else 1), .ref aM]) (by rw [q37]) ?_
    exact k30 (if gr4 g = true then (0 : Int32) else 1) (by rfl) _ _ _ (hP) (hD) hS (lv_sub hl [0, 1] rfl)
  · skip
    refine lv_iload_n hx hb dX7_general_7 rfl (lv_at hl 1 rfl) ?_
    refine lv_bipush (v := 109) hx hb dX7_general_8 (by decide) ?_
    refine lv_icmp_eq (tgt := 25) hx hb dX7_general_10 (by decide) (fun c10 => ?_) (fun c10 => ?_)
    · skip
      refine lv_iconst (v := 0) hx hb dX7_general_25 (by decide) ?_
      refine lv_goto (tgt := 30) hx hb dX7_general_26 (by decide) ?_
      have q38 : (if gr4 g = true then (0 : Int32) else 1) = 0 := by first | exact if_pos (gr4_t (Or.inl c4)) | exact if_pos (gr4_t (Or.inr (Or.inl c10))) | exact if_pos (gr4_t (Or.inr (Or.inr (Or.inl c16)))) | exact if_pos (gr4_t (Or.inr (Or.inr (Or.inr c22)))) | exact if_neg (gr4_f c4 c10 c16 c22)
      refine W.eq (g2 := F0 mM 30 ls [.int (if gr4 g = true then (0 : Int32) else 1), .ref aM]) (by rw [q38]) ?_
      exact k30 (if gr4 g = true then (0 : Int32) else 1) (by rfl) _ _ _ (hP) (hD) hS (lv_sub hl [0, 1] rfl)
    · skip
      refine lv_iload_n hx hb dX7_general_13 rfl (lv_at hl 1 rfl) ?_
      refine lv_bipush (v := 99) hx hb dX7_general_14 (by decide) ?_
      refine lv_icmp_eq (tgt := 25) hx hb dX7_general_16 (by decide) (fun c16 => ?_) (fun c16 => ?_)
      · skip
        refine lv_iconst (v := 0) hx hb dX7_general_25 (by decide) ?_
        refine lv_goto (tgt := 30) hx hb dX7_general_26 (by decide) ?_
        have q39 : (if gr4 g = true then (0 : Int32) else 1) = 0 := by first | exact if_pos (gr4_t (Or.inl c4)) | exact if_pos (gr4_t (Or.inr (Or.inl c10))) | exact if_pos (gr4_t (Or.inr (Or.inr (Or.inl c16)))) | exact if_pos (gr4_t (Or.inr (Or.inr (Or.inr c22)))) | exact if_neg (gr4_f c4 c10 c16 c22)
        refine W.eq (g2 := F0 mM 30 ls [.int (if gr4 g = true then (0 : Int32) else 1), .ref aM]) (by rw [q39]) ?_
        exact k30 (if gr4 g = true then (0 : Int32) else 1) (by rfl) _ _ _ (hP) (hD) hS (lv_sub hl [0, 1] rfl)
      · skip
        refine lv_iload_n hx hb dX7_general_19 rfl (lv_at hl 1 rfl) ?_
        refine lv_bipush (v := 118) hx hb dX7_general_20 (by decide) ?_
        refine lv_icmp_ne (tgt := 29) hx hb dX7_general_22 (by decide) (fun c22 => ?_) (fun c22 => ?_)
        · skip
          refine lv_iconst (v := 1) hx hb dX7_general_29 (by decide) ?_
          have q40 : (if gr4 g = true then (0 : Int32) else 1) = 1 := by first | exact if_pos (gr4_t (Or.inl c4)) | exact if_pos (gr4_t (Or.inr (Or.inl c10))) | exact if_pos (gr4_t (Or.inr (Or.inr (Or.inl c16)))) | exact if_pos (gr4_t (Or.inr (Or.inr (Or.inr c22)))) | exact if_neg (gr4_f c4 c10 c16 c22)
          refine W.eq (g2 := F0 mM 30 ls [.int (if gr4 g = true then (0 : Int32) else 1), .ref aM]) (by rw [q40]) ?_
          exact k30 (if gr4 g = true then (0 : Int32) else 1) (by rfl) _ _ _ (hP) (hD) hS (lv_sub hl [0, 1] rfl)
        · skip
          refine lv_iconst (v := 0) hx hb dX7_general_25 (by decide) ?_
          refine lv_goto (tgt := 30) hx hb dX7_general_26 (by decide) ?_
          have q41 : (if gr4 g = true then (0 : Int32) else 1) = 0 := by first | exact if_pos (gr4_t (Or.inl c4)) | exact if_pos (gr4_t (Or.inr (Or.inl c10))) | exact if_pos (gr4_t (Or.inr (Or.inr (Or.inl c16)))) | exact if_pos (gr4_t (Or.inr (Or.inr (Or.inr c22)))) | exact if_neg (gr4_f c4 c10 c16 c22)
          refine W.eq (g2 := F0 mM 30 ls [.int (if gr4 g = true then (0 : Int32) else 1), .ref aM]) (by rw [q41]) ?_
          exact k30 (if gr4 g = true then (0 : Int32) else 1) (by rfl) _ _ _ (hP) (hD) hS (lv_sub hl [0, 1] rfl)
