
def lbB (a : Nat) (y : Nat → Int64) : Nat → Nat → Int64
  | 0 => y
  | b + 1 => vp_updL (lbB a y b) (12 * a + b) (if a = b then (0 : Int64) else 1000000000000)
def lbA (y : Nat → Int64) : Nat → Nat → Int64
  | 0 => y
  | a + 1 => lbB a (lbA y a) 12
def lbD (F T : Nat → Nat) (nm lo up : Nat → Int32) (y : Nat → Int64) : Nat → Nat → Int64
  | 0 => y
  | d + 1 => bnd (bnd (lbD F T nm lo up y d) (F d) (T d) (nm d + up d).toInt64) (T d) (F d) (-(nm d + lo d)).toInt64
def lbH (k a : Nat) (y : Nat → Int64) : Nat → Nat → Int64
  | 0 => y
  | b + 1 => if lbH k a y b (12 * a + k) < 1000000000000 ∧ lbH k a y b (12 * k + b) < 1000000000000 then bnd (lbH k a y b) a b (lbH k a y b (12 * a + k) + lbH k a y b (12 * k + b)) else lbH k a y b
def lbJ (n k : Nat) (y : Nat → Int64) : Nat → Nat → Int64
  | 0 => y
  | a + 1 => lbH k a (lbJ n k y a) n
def lbK (n : Nat) (y : Nat → Int64) : Nat → Nat → Int64
  | 0 => y
  | k + 1 => lbJ n k (lbK n y k) n
def lbZ (y : Nat → Int64) : Nat → Bool
  | 0 => true
  | i + 1 => lbZ y i && decide (y (12 * i + i) = 0)

set_option maxHeartbeats 4000000 in
set_option maxRecDepth 100000 in
theorem c_X7_layBounds (l : Launch) (dC : Nat → ClassId) (dI : Nat → Nat → Nat) (cyI cyZ cyJ cyD : ClassId) (aM aMF aMT aMN aML aMU aMB aMf aMt aMn aMl aMu aMP aMD aMC aMO aMY aMS : Nat) (zH : Nat) (th : Int32) (n : Nat) (cnt : Nat) (ml : Nat) (sg : Nat) (rm : Nat) (mdg : Nat) (mnb : Nat) (mng : Bool) (lk : Nat) (gn : Int32) (gl : Int32) (gg : Int32) (nn : Int32) (nl : Int32) (nu : Int32) (hs : Int64) (F : Nat → Nat) (T : Nat → Nat) (nm : Nat → Int32) (lo : Nat → Int32) (up : Nat → Int32) (yb : Nat → Int64) (hn : n ≤ 12) (hc : cnt ≤ 20) (hF : ∀ d_q, d_q < cnt → F d_q < n) (hT : ∀ d_q, d_q < cnt → T d_q < n) : Met l yX7_layBounds wsX7_layBounds ({ frames := 1, cells := 0, slots := 0, locals := 24 } : Room) (va_Pc [.ref aM] (fun U => U.heap.size = zH ∧ va_P (dC, dI) vwCl [(aM, .inr (7, [.int th, .int (nI n), .int (nI cnt), .ref aMF, .ref aMT, .ref aMN, .ref aML, .ref aMU, .int (nI ml), .ref aMB, .int (nI sg), .int (nI rm), .int (nI mdg), .int (nI mnb), .int (bI mng), .ref aMf, .ref aMt, .ref aMn, .ref aMl, .ref aMu, .ref aMP, .ref aMD, .int (nI lk), .ref aMC, .ref aMO, .int gn, .int gl, .int gg, .ref aMY, .int nn, .int nl, .int nu, .ref aMS, .long hs])), (aMF, .inl (cyI, 20, .inl (fun j_ => nI (F j_)))), (aMT, .inl (cyI, 20, .inl (fun j_ => nI (T j_)))), (aMN, .inl (cyI, 20, .inl nm)), (aML, .inl (cyI, 20, .inl lo)), (aMU, .inl (cyI, 20, .inl up)), (aMY, .inl (cyJ, 144, .inr (.inl yb)))] U.heap ∧ va_K (dC, dI) vwCl [(cyI, .int), (cyZ, .boolean), (cyJ, .long), (cyD, .double)] U ∧ va_D (fun _ => True) [(aM, .inr (7, [.int th, .int (nI n), .int (nI cnt), .ref aMF, .ref aMT, .ref aMN, .ref aML, .ref aMU, .int (nI ml), .ref aMB, .int (nI sg), .int (nI rm), .int (nI mdg), .int (nI mnb), .int (bI mng), .ref aMf, .ref aMt, .ref aMn, .ref aMl, .ref aMu, .ref aMP, .ref aMD, .int (nI lk), .ref aMC, .ref aMO, .int gn, .int gl, .int gg, .ref aMY, .int nn, .int nl, .int nu, .ref aMS, .long hs])), (aMF, .inl (cyI, 20, .inl (fun j_ => nI (F j_)))), (aMT, .inl (cyI, 20, .inl (fun j_ => nI (T j_)))), (aMN, .inl (cyI, 20, .inl nm)), (aML, .inl (cyI, 20, .inl lo)), (aMU, .inl (cyI, 20, .inl up)), (aMY, .inl (cyJ, 144, .inr (.inl yb)))])) (va_Qi (fun (r : Int32) (_ : Unit) => r = bI (lbZ (lbK n (lbD F T nm lo up (lbA yb 12) cnt) n) n)) (fun _ t => va_P (dC, dI) vwCl [(aM, .inr (7, [.int th, .int (nI n), .int (nI cnt), .ref aMF, .ref aMT, .ref aMN, .ref aML, .ref aMU, .int (nI ml), .ref aMB, .int (nI sg), .int (nI rm), .int (nI mdg), .int (nI mnb), .int (bI mng), .ref aMf, .ref aMt, .ref aMn, .ref aMl, .ref aMu, .ref aMP, .ref aMD, .int (nI lk), .ref aMC, .ref aMO, .int gn, .int gl, .int gg, .ref aMY, .int nn, .int nl, .int nu, .ref aMS, .long hs])), (aMF, .inl (cyI, 20, .inl (fun j_ => nI (F j_)))), (aMT, .inl (cyI, 20, .inl (fun j_ => nI (T j_)))), (aMN, .inl (cyI, 20, .inl nm)), (aML, .inl (cyI, 20, .inl lo)), (aMU, .inl (cyI, 20, .inl up)), (aMY, .inl (cyJ, 144, .inr (.inl (lbK n (lbD F T nm lo up (lbA yb 12) cnt) n))))] t.heap ∧ va_K (dC, dI) vwCl [(cyI, .int), (cyZ, .boolean), (cyJ, .long), (cyD, .double)] t ∧ va_D (va_A [(aM, .inr (7, [.int th, .int (nI n), .int (nI cnt), .ref aMF, .ref aMT, .ref aMN, .ref aML, .ref aMU, .int (nI ml), .ref aMB, .int (nI sg), .int (nI rm), .int (nI mdg), .int (nI mnb), .int (bI mng), .ref aMf, .ref aMt, .ref aMn, .ref aMl, .ref aMu, .ref aMP, .ref aMD, .int (nI lk), .ref aMC, .ref aMO, .int gn, .int gl, .int gg, .ref aMY, .int nn, .int nl, .int nu, .ref aMS, .long hs])), (aMF, .inl (cyI, 20, .inl (fun j_ => nI (F j_)))), (aMT, .inl (cyI, 20, .inl (fun j_ => nI (T j_)))), (aMN, .inl (cyI, 20, .inl nm)), (aML, .inl (cyI, 20, .inl lo)), (aMU, .inl (cyI, 20, .inl up)), (aMY, .inl (cyJ, 144, .inr (.inl yb)))] zH) [(aM, .inr (7, [.int th, .int (nI n), .int (nI cnt), .ref aMF, .ref aMT, .ref aMN, .ref aML, .ref aMU, .int (nI ml), .ref aMB, .int (nI sg), .int (nI rm), .int (nI mdg), .int (nI mnb), .int (bI mng), .ref aMf, .ref aMt, .ref aMn, .ref aMl, .ref aMu, .ref aMP, .ref aMD, .int (nI lk), .ref aMC, .ref aMO, .int gn, .int gl, .int gg, .ref aMY, .int nn, .int nl, .int nu, .ref aMS, .long hs])), (aMF, .inl (cyI, 20, .inl (fun j_ => nI (F j_)))), (aMT, .inl (cyI, 20, .inl (fun j_ => nI (T j_)))), (aMN, .inl (cyI, 20, .inl nm)), (aML, .inl (cyI, 20, .inl lo)), (aMU, .inl (cyI, 20, .inl up)), (aMY, .inl (cyJ, 144, .inr (.inl (lbK n (lbD F T nm lo up (lbA yb 12) cnt) n))))]) (va_A [(aM, .inr (7, [.int th, .int (nI n), .int (nI cnt), .ref aMF, .ref aMT, .ref aMN, .ref aML, .ref aMU, .int (nI ml), .ref aMB, .int (nI sg), .int (nI rm), .int (nI mdg), .int (nI mnb), .int (bI mng), .ref aMf, .ref aMt, .ref aMn, .ref aMl, .ref aMu, .ref aMP, .ref aMD, .int (nI lk), .ref aMC, .ref aMO, .int gn, .int gl, .int gg, .ref aMY, .int nn, .int nl, .int nu, .ref aMS, .long hs])), (aMF, .inl (cyI, 20, .inl (fun j_ => nI (F j_)))), (aMT, .inl (cyI, 20, .inl (fun j_ => nI (T j_)))), (aMN, .inl (cyI, 20, .inl nm)), (aML, .inl (cyI, 20, .inl lo)), (aMU, .inl (cyI, 20, .inl up)), (aMY, .inl (cyJ, 144, .inr (.inl yb)))] zH)) 0 0 (va_A [(aM, .inr (7, [.int th, .int (nI n), .int (nI cnt), .ref aMF, .ref aMT, .ref aMN, .ref aML, .ref aMU, .int (nI ml), .ref aMB, .int (nI sg), .int (nI rm), .int (nI mdg), .int (nI mnb), .int (bI mng), .ref aMf, .ref aMt, .ref aMn, .ref aMl, .ref aMu, .ref aMP, .ref aMD, .int (nI lk), .ref aMC, .ref aMO, .int gn, .int gl, .int gg, .ref aMY, .int nn, .int nl, .int nu, .ref aMS, .long hs])), (aMF, .inl (cyI, 20, .inl (fun j_ => nI (F j_)))), (aMT, .inl (cyI, 20, .inl (fun j_ => nI (T j_)))), (aMN, .inl (cyI, 20, .inl nm)), (aML, .inl (cyI, 20, .inl lo)), (aMU, .inl (cyI, 20, .inl up)), (aMY, .inl (cyJ, 144, .inr (.inl yb)))] zH) := by
  refine Met.ofW (cc := cX7_layBounds) (maxL := 4) (ret := (some .boolean)) (by decide) rfl ?_
  intro pM eM s mM args blM mtM cM s₁ BM hml hv
  obtain ⟨rfl, hsz, hP, hK, hD0⟩ := hv
  have hx := BM.exec
  have hb := BM.bytes
  have hr := BM.returns
  have hts := atoms_spec (ws := wsX7_layBounds) BM.pre
  have hown : s.vm.findClass RX7 = some mM.cls := findClass_of_methodNamed BM.named
  have hlocks := BM.notSynchronized
  have w0 := hts (.fieldLink RX7 74 "DimensionCheckerModel" "many" "I") (by decide +kernel)
  have w1 := hts (.fieldLink RX7 7 "DimensionCheckerModel" "faces" "I") (by decide +kernel)
  have w2 := hts (.fieldLink RX7 60 "DimensionCheckerModel" "beyond" "[J") (by decide +kernel)
  have w3 := hts (.constantLong RX7 199 (1000000000000)) (by decide +kernel)
  have w4 := hts (.fieldLink RX7 13 "DimensionCheckerModel" "from" "[I") (by decide +kernel)
  have w5 := hts (.fieldLink RX7 17 "DimensionCheckerModel" "to" "[I") (by decide +kernel)
  have w6 := hts (.fieldLink RX7 20 "DimensionCheckerModel" "nominal" "[I") (by decide +kernel)
  have w7 := hts (.fieldLink RX7 26 "DimensionCheckerModel" "upper" "[I") (by decide +kernel)
  have w8 := hts (.fieldLink RX7 23 "DimensionCheckerModel" "lower" "[I") (by decide +kernel)
  have iX7 : ∀ w ∈ wsX70, w ∈ wsX7_layBounds := by decide +kernel
  subst hsz
  have hD := hD0.self (sz := s.heap.size)
  obtain ⟨Q, hQe⟩ : ∃ Q : State → Prop, Q = MQ blM (va_Qi (fun (r : Int32) (_ : Unit) => r = bI (lbZ (lbK n (lbD F T nm lo up (lbA yb 12) cnt) n) n)) (fun _ t => va_P (dC, dI) vwCl [(aM, .inr (7, [.int th, .int (nI n), .int (nI cnt), .ref aMF, .ref aMT, .ref aMN, .ref aML, .ref aMU, .int (nI ml), .ref aMB, .int (nI sg), .int (nI rm), .int (nI mdg), .int (nI mnb), .int (bI mng), .ref aMf, .ref aMt, .ref aMn, .ref aMl, .ref aMu, .ref aMP, .ref aMD, .int (nI lk), .ref aMC, .ref aMO, .int gn, .int gl, .int gg, .ref aMY, .int nn, .int nl, .int nu, .ref aMS, .long hs])), (aMF, .inl (cyI, 20, .inl (fun j_ => nI (F j_)))), (aMT, .inl (cyI, 20, .inl (fun j_ => nI (T j_)))), (aMN, .inl (cyI, 20, .inl nm)), (aML, .inl (cyI, 20, .inl lo)), (aMU, .inl (cyI, 20, .inl up)), (aMY, .inl (cyJ, 144, .inr (.inl (lbK n (lbD F T nm lo up (lbA yb 12) cnt) n))))] t.heap ∧ va_K (dC, dI) vwCl [(cyI, .int), (cyZ, .boolean), (cyJ, .long), (cyD, .double)] t ∧ va_D (va_A [(aM, .inr (7, [.int th, .int (nI n), .int (nI cnt), .ref aMF, .ref aMT, .ref aMN, .ref aML, .ref aMU, .int (nI ml), .ref aMB, .int (nI sg), .int (nI rm), .int (nI mdg), .int (nI mnb), .int (bI mng), .ref aMf, .ref aMt, .ref aMn, .ref aMl, .ref aMu, .ref aMP, .ref aMD, .int (nI lk), .ref aMC, .ref aMO, .int gn, .int gl, .int gg, .ref aMY, .int nn, .int nl, .int nu, .ref aMS, .long hs])), (aMF, .inl (cyI, 20, .inl (fun j_ => nI (F j_)))), (aMT, .inl (cyI, 20, .inl (fun j_ => nI (T j_)))), (aMN, .inl (cyI, 20, .inl nm)), (aML, .inl (cyI, 20, .inl lo)), (aMU, .inl (cyI, 20, .inl up)), (aMY, .inl (cyJ, 144, .inr (.inl yb)))] s.heap.size) [(aM, .inr (7, [.int th, .int (nI n), .int (nI cnt), .ref aMF, .ref aMT, .ref aMN, .ref aML, .ref aMU, .int (nI ml), .ref aMB, .int (nI sg), .int (nI rm), .int (nI mdg), .int (nI mnb), .int (bI mng), .ref aMf, .ref aMt, .ref aMn, .ref aMl, .ref aMu, .ref aMP, .ref aMD, .int (nI lk), .ref aMC, .ref aMO, .int gn, .int gl, .int gg, .ref aMY, .int nn, .int nl, .int nu, .ref aMS, .long hs])), (aMF, .inl (cyI, 20, .inl (fun j_ => nI (F j_)))), (aMT, .inl (cyI, 20, .inl (fun j_ => nI (T j_)))), (aMN, .inl (cyI, 20, .inl nm)), (aML, .inl (cyI, 20, .inl lo)), (aMU, .inl (cyI, 20, .inl up)), (aMY, .inl (cyJ, 144, .inr (.inl (lbK n (lbD F T nm lo up (lbA yb 12) cnt) n))))]) (va_A [(aM, .inr (7, [.int th, .int (nI n), .int (nI cnt), .ref aMF, .ref aMT, .ref aMN, .ref aML, .ref aMU, .int (nI ml), .ref aMB, .int (nI sg), .int (nI rm), .int (nI mdg), .int (nI mnb), .int (bI mng), .ref aMf, .ref aMt, .ref aMn, .ref aMl, .ref aMu, .ref aMP, .ref aMD, .int (nI lk), .ref aMC, .ref aMO, .int gn, .int gl, .int gg, .ref aMY, .int nn, .int nl, .int nu, .ref aMS, .long hs])), (aMF, .inl (cyI, 20, .inl (fun j_ => nI (F j_)))), (aMT, .inl (cyI, 20, .inl (fun j_ => nI (T j_)))), (aMN, .inl (cyI, 20, .inl nm)), (aML, .inl (cyI, 20, .inl lo)), (aMU, .inl (cyI, 20, .inl up)), (aMY, .inl (cyJ, 144, .inr (.inl yb)))] s.heap.size)) ([.ref aM] : List Value).toArray s 0 0 (va_A [(aM, .inr (7, [.int th, .int (nI n), .int (nI cnt), .ref aMF, .ref aMT, .ref aMN, .ref aML, .ref aMU, .int (nI ml), .ref aMB, .int (nI sg), .int (nI rm), .int (nI mdg), .int (nI mnb), .int (bI mng), .ref aMf, .ref aMt, .ref aMn, .ref aMl, .ref aMu, .ref aMP, .ref aMD, .int (nI lk), .ref aMC, .ref aMO, .int gn, .int gl, .int gg, .ref aMY, .int nn, .int nl, .int nu, .ref aMS, .long hs])), (aMF, .inl (cyI, 20, .inl (fun j_ => nI (F j_)))), (aMT, .inl (cyI, 20, .inl (fun j_ => nI (T j_)))), (aMN, .inl (cyI, 20, .inl nm)), (aML, .inl (cyI, 20, .inl lo)), (aMU, .inl (cyI, 20, .inl up)), (aMY, .inl (cyJ, 144, .inr (.inl yb)))] s.heap.size) := ⟨_, rfl⟩
  rw [← hQe]
  generalize hAe : va_A [(aM, .inr (7, [.int th, .int (nI n), .int (nI cnt), .ref aMF, .ref aMT, .ref aMN, .ref aML, .ref aMU, .int (nI ml), .ref aMB, .int (nI sg), .int (nI rm), .int (nI mdg), .int (nI mnb), .int (bI mng), .ref aMf, .ref aMt, .ref aMn, .ref aMl, .ref aMu, .ref aMP, .ref aMD, .int (nI lk), .ref aMC, .ref aMO, .int gn, .int gl, .int gg, .ref aMY, .int nn, .int nl, .int nu, .ref aMS, .long hs])), (aMF, .inl (cyI, 20, .inl (fun j_ => nI (F j_)))), (aMT, .inl (cyI, 20, .inl (fun j_ => nI (T j_)))), (aMN, .inl (cyI, 20, .inl nm)), (aML, .inl (cyI, 20, .inl lo)), (aMU, .inl (cyI, 20, .inl up)), (aMY, .inl (cyJ, 144, .inr (.inl yb)))] s.heap.size = A at hD hQe
  have hA : ∀ q : Nat, s.heap.size ≤ q → A q := fun q h => by rw [← hAe]; exact Or.inr h
  obtain ⟨H, hHe⟩ : ∃ H : Heap, H = s.heap := ⟨_, rfl⟩
  have hS : va_S A s.heap H [] := by rw [hHe]; exact va_S.rf
  rw [← hHe] at hP ⊢
  have hl := lv_entry ([.ref aM]) (n := 4) (Nat.le_of_ble_eq_true rfl)
  rw [lg_entry_eq]
  generalize (lg_sl ([.ref aM]) ++ List.replicate (4 - (lg_sl ([.ref aM])).length) Slot.unset).toArray = ls at hl ⊢
  have hl : lv_has ls 4 [(0, .ref aM)] := hl
  refine lv_iconst (v := 0) hx hb dX7_layBounds_0 (by decide) ?_
  refine lv_istore_n (lv' := [(1, .int 0), (0, .ref aM)]) hx hb dX7_layBounds_1 rfl hl (by decide) rfl (fun ls hl => ?_)
  have k2 : ∀ (fuel : Nat) (a : Nat) (hfuel : 12 - a < fuel) (ha0 : a ≤ 12) (H : Heap) (locs : List Loc) (ls : Array Slot), va_P (dC, dI) vwCl [(aM, .inr (7, [.int th, .int (nI n), .int (nI cnt), .ref aMF, .ref aMT, .ref aMN, .ref aML, .ref aMU, .int (nI ml), .ref aMB, .int (nI sg), .int (nI rm), .int (nI mdg), .int (nI mnb), .int (bI mng), .ref aMf, .ref aMt, .ref aMn, .ref aMl, .ref aMu, .ref aMP, .ref aMD, .int (nI lk), .ref aMC, .ref aMO, .int gn, .int gl, .int gg, .ref aMY, .int nn, .int nl, .int nu, .ref aMS, .long hs])), (aMF, .inl (cyI, 20, .inl (fun j_ => nI (F j_)))), (aMT, .inl (cyI, 20, .inl (fun j_ => nI (T j_)))), (aMN, .inl (cyI, 20, .inl nm)), (aML, .inl (cyI, 20, .inl lo)), (aMU, .inl (cyI, 20, .inl up)), (aMY, .inl (cyJ, 144, .inr (.inl (lbA yb a))))] H → va_D A [(aM, .inr (7, [.int th, .int (nI n), .int (nI cnt), .ref aMF, .ref aMT, .ref aMN, .ref aML, .ref aMU, .int (nI ml), .ref aMB, .int (nI sg), .int (nI rm), .int (nI mdg), .int (nI mnb), .int (bI mng), .ref aMf, .ref aMt, .ref aMn, .ref aMl, .ref aMu, .ref aMP, .ref aMD, .int (nI lk), .ref aMC, .ref aMO, .int gn, .int gl, .int gg, .ref aMY, .int nn, .int nl, .int nu, .ref aMS, .long hs])), (aMF, .inl (cyI, 20, .inl (fun j_ => nI (F j_)))), (aMT, .inl (cyI, 20, .inl (fun j_ => nI (T j_)))), (aMN, .inl (cyI, 20, .inl nm)), (aML, .inl (cyI, 20, .inl lo)), (aMU, .inl (cyI, 20, .inl up)), (aMY, .inl (cyJ, 144, .inr (.inl (lbA yb a))))] → va_S A s.heap H locs → lv_has ls 4 [(0, .ref aM), (1, .int (nI a))] → W pM l eM (headSpec wsX7_layBounds ({ frames := 1, cells := 0, slots := 0, locals := 24 } : Room)).room s mM ([.ref aM] : List Value).toArray blM mtM cM H locs 0 0 Q (F0 mM 2 ls []) := by
    intro fuel
    induction fuel with
    | zero => intro a hfuel; exact absurd hfuel (Nat.not_lt_zero _)
    | succ fuel ih2 =>
      intro a hfuel ha0 H locs ls hP hD hS hl
      refine lv_iload_n hx hb dX7_layBounds_2 rfl (lv_at hl 1 rfl) ?_
      refine lv_bipush (v := 12) hx hb dX7_layBounds_3 (by decide) ?_
      refine lv_icmp_ge (tgt := 51) hx hb dX7_layBounds_5 (by decide) (fun c5 => ?_) (fun c5 => ?_)
      · have c5 := n_le (a := 12) (b := a) (by omega) (by omega) c5
        have e1 : a = 12 := (by omega)
        refine lv_iconst (v := 0) hx hb dX7_layBounds_51 (by decide) ?_
        refine lv_istore_n (lv' := [(1, .int 0), (0, .ref aM)]) hx hb dX7_layBounds_52 rfl hl (by decide) rfl (fun ls hl => ?_)
        have k53 : ∀ (fuel : Nat) (d : Nat) (hfuel : cnt - d < fuel) (hd0 : d ≤ cnt) (H : Heap) (locs : List Loc) (ls : Array Slot), va_P (dC, dI) vwCl [(aM, .inr (7, [.int th, .int (nI n), .int (nI cnt), .ref aMF, .ref aMT, .ref aMN, .ref aML, .ref aMU, .int (nI ml), .ref aMB, .int (nI sg), .int (nI rm), .int (nI mdg), .int (nI mnb), .int (bI mng), .ref aMf, .ref aMt, .ref aMn, .ref aMl, .ref aMu, .ref aMP, .ref aMD, .int (nI lk), .ref aMC, .ref aMO, .int gn, .int gl, .int gg, .ref aMY, .int nn, .int nl, .int nu, .ref aMS, .long hs])), (aMF, .inl (cyI, 20, .inl (fun j_ => nI (F j_)))), (aMT, .inl (cyI, 20, .inl (fun j_ => nI (T j_)))), (aMN, .inl (cyI, 20, .inl nm)), (aML, .inl (cyI, 20, .inl lo)), (aMU, .inl (cyI, 20, .inl up)), (aMY, .inl (cyJ, 144, .inr (.inl (lbD F T nm lo up (lbA yb 12) d))))] H → va_D A [(aM, .inr (7, [.int th, .int (nI n), .int (nI cnt), .ref aMF, .ref aMT, .ref aMN, .ref aML, .ref aMU, .int (nI ml), .ref aMB, .int (nI sg), .int (nI rm), .int (nI mdg), .int (nI mnb), .int (bI mng), .ref aMf, .ref aMt, .ref aMn, .ref aMl, .ref aMu, .ref aMP, .ref aMD, .int (nI lk), .ref aMC, .ref aMO, .int gn, .int gl, .int gg, .ref aMY, .int nn, .int nl, .int nu, .ref aMS, .long hs])), (aMF, .inl (cyI, 20, .inl (fun j_ => nI (F j_)))), (aMT, .inl (cyI, 20, .inl (fun j_ => nI (T j_)))), (aMN, .inl (cyI, 20, .inl nm)), (aML, .inl (cyI, 20, .inl lo)), (aMU, .inl (cyI, 20, .inl up)), (aMY, .inl (cyJ, 144, .inr (.inl (lbD F T nm lo up (lbA yb 12) d))))] → va_S A s.heap H locs → lv_has ls 4 [(0, .ref aM), (1, .int (nI d))] → W pM l eM (headSpec wsX7_layBounds ({ frames := 1, cells := 0, slots := 0, locals := 24 } : Room)).room s mM ([.ref aM] : List Value).toArray blM mtM cM H locs 0 0 Q (F0 mM 53 ls []) := by
          intro fuel
          induction fuel with
          | zero => intro d hfuel; exact absurd hfuel (Nat.not_lt_zero _)
          | succ fuel ih53 =>
            intro d hfuel hd0 H locs ls hP hD hS hl
            refine lv_iload_n hx hb dX7_layBounds_53 rfl (lv_at hl 1 rfl) ?_
            refine lv_aload_n hx hb dX7_layBounds_54 rfl (lv_at hl 0 rfl) ?_
            refine va_get (D := (dC, dI)) (ci := 7) (v := .int (nI cnt)) (C := RX7) (T := TX7) (N := 34) hx hb hts iX7 hown hK hP 0 rfl rfl 2 (by decide) w0 (fun _ h9 => h9) rfl dX7_layBounds_55 ?_
            refine lv_icmp_ge (tgt := 128) hx hb dX7_layBounds_58 (by decide) (fun c58 => ?_) (fun c58 => ?_)
            · have c58 := n_le (a := cnt) (b := d) (by omega) (by omega) c58
              have e3 : d = cnt := (by omega)
              refine lv_iconst (v := 0) hx hb dX7_layBounds_128 (by decide) ?_
              refine lv_istore_n (lv' := [(1, .int 0), (0, .ref aM)]) hx hb dX7_layBounds_129 rfl hl (by decide) rfl (fun ls hl => ?_)
              have k130 : ∀ (fuel : Nat) (k : Nat) (hfuel : n - k < fuel) (hk0 : k ≤ n) (H : Heap) (locs : List Loc) (ls : Array Slot), va_P (dC, dI) vwCl [(aM, .inr (7, [.int th, .int (nI n), .int (nI cnt), .ref aMF, .ref aMT, .ref aMN, .ref aML, .ref aMU, .int (nI ml), .ref aMB, .int (nI sg), .int (nI rm), .int (nI mdg), .int (nI mnb), .int (bI mng), .ref aMf, .ref aMt, .ref aMn, .ref aMl, .ref aMu, .ref aMP, .ref aMD, .int (nI lk), .ref aMC, .ref aMO, .int gn, .int gl, .int gg, .ref aMY, .int nn, .int nl, .int nu, .ref aMS, .long hs])), (aMF, .inl (cyI, 20, .inl (fun j_ => nI (F j_)))), (aMT, .inl (cyI, 20, .inl (fun j_ => nI (T j_)))), (aMN, .inl (cyI, 20, .inl nm)), (aML, .inl (cyI, 20, .inl lo)), (aMU, .inl (cyI, 20, .inl up)), (aMY, .inl (cyJ, 144, .inr (.inl (lbK n (lbD F T nm lo up (lbA yb 12) cnt) k))))] H → va_D A [(aM, .inr (7, [.int th, .int (nI n), .int (nI cnt), .ref aMF, .ref aMT, .ref aMN, .ref aML, .ref aMU, .int (nI ml), .ref aMB, .int (nI sg), .int (nI rm), .int (nI mdg), .int (nI mnb), .int (bI mng), .ref aMf, .ref aMt, .ref aMn, .ref aMl, .ref aMu, .ref aMP, .ref aMD, .int (nI lk), .ref aMC, .ref aMO, .int gn, .int gl, .int gg, .ref aMY, .int nn, .int nl, .int nu, .ref aMS, .long hs])), (aMF, .inl (cyI, 20, .inl (fun j_ => nI (F j_)))), (aMT, .inl (cyI, 20, .inl (fun j_ => nI (T j_)))), (aMN, .inl (cyI, 20, .inl nm)), (aML, .inl (cyI, 20, .inl lo)), (aMU, .inl (cyI, 20, .inl up)), (aMY, .inl (cyJ, 144, .inr (.inl (lbK n (lbD F T nm lo up (lbA yb 12) cnt) k))))] → va_S A s.heap H locs → lv_has ls 4 [(0, .ref aM), (1, .int (nI k))] → W pM l eM (headSpec wsX7_layBounds ({ frames := 1, cells := 0, slots := 0, locals := 24 } : Room)).room s mM ([.ref aM] : List Value).toArray blM mtM cM H locs 0 0 Q (F0 mM 130 ls []) := by
                intro fuel
                induction fuel with
                | zero => intro k hfuel; exact absurd hfuel (Nat.not_lt_zero _)
                | succ fuel ih130 =>
                  intro k hfuel hk0 H locs ls hP hD hS hl
                  refine lv_iload_n hx hb dX7_layBounds_130 rfl (lv_at hl 1 rfl) ?_
                  refine lv_aload_n hx hb dX7_layBounds_131 rfl (lv_at hl 0 rfl) ?_
                  refine va_get (D := (dC, dI)) (ci := 7) (v := .int (nI n)) (C := RX7) (T := TX7) (N := 34) hx hb hts iX7 hown hK hP 0 rfl rfl 1 (by decide) w1 (fun _ h9 => h9) rfl dX7_layBounds_132 ?_
                  refine lv_icmp_ge (tgt := 241) hx hb dX7_layBounds_135 (by decide) (fun c135 => ?_) (fun c135 => ?_)
                  · have c135 := n_le (a := n) (b := k) (by omega) (by omega) c135
                    have e4 : k = n := (by omega)
                    refine lv_iconst (v := 1) hx hb dX7_layBounds_241 (by decide) ?_
                    refine lv_istore_n (lv' := [(1, .int 1), (0, .ref aM)]) hx hb dX7_layBounds_242 rfl hl (by decide) rfl (fun ls hl => ?_)
                    refine lv_iconst (v := 0) hx hb dX7_layBounds_243 (by decide) ?_
                    refine lv_istore_n (lv' := [(2, .int 0), (1, .int 1), (0, .ref aM)]) hx hb dX7_layBounds_244 rfl hl (by decide) rfl (fun ls hl => ?_)
                    have k245 : ∀ (fuel : Nat) (i : Nat) (hfuel : n - i < fuel) (hi : i ≤ n) (H : Heap) (locs : List Loc) (ls : Array Slot), va_P (dC, dI) vwCl [(aM, .inr (7, [.int th, .int (nI n), .int (nI cnt), .ref aMF, .ref aMT, .ref aMN, .ref aML, .ref aMU, .int (nI ml), .ref aMB, .int (nI sg), .int (nI rm), .int (nI mdg), .int (nI mnb), .int (bI mng), .ref aMf, .ref aMt, .ref aMn, .ref aMl, .ref aMu, .ref aMP, .ref aMD, .int (nI lk), .ref aMC, .ref aMO, .int gn, .int gl, .int gg, .ref aMY, .int nn, .int nl, .int nu, .ref aMS, .long hs])), (aMF, .inl (cyI, 20, .inl (fun j_ => nI (F j_)))), (aMT, .inl (cyI, 20, .inl (fun j_ => nI (T j_)))), (aMN, .inl (cyI, 20, .inl nm)), (aML, .inl (cyI, 20, .inl lo)), (aMU, .inl (cyI, 20, .inl up)), (aMY, .inl (cyJ, 144, .inr (.inl (lbK n (lbD F T nm lo up (lbA yb 12) cnt) n))))] H → va_D A [(aM, .inr (7, [.int th, .int (nI n), .int (nI cnt), .ref aMF, .ref aMT, .ref aMN, .ref aML, .ref aMU, .int (nI ml), .ref aMB, .int (nI sg), .int (nI rm), .int (nI mdg), .int (nI mnb), .int (bI mng), .ref aMf, .ref aMt, .ref aMn, .ref aMl, .ref aMu, .ref aMP, .ref aMD, .int (nI lk), .ref aMC, .ref aMO, .int gn, .int gl, .int gg, .ref aMY, .int nn, .int nl, .int nu, .ref aMS, .long hs])), (aMF, .inl (cyI, 20, .inl (fun j_ => nI (F j_)))), (aMT, .inl (cyI, 20, .inl (fun j_ => nI (T j_)))), (aMN, .inl (cyI, 20, .inl nm)), (aML, .inl (cyI, 20, .inl lo)), (aMU, .inl (cyI, 20, .inl up)), (aMY, .inl (cyJ, 144, .inr (.inl (lbK n (lbD F T nm lo up (lbA yb 12) cnt) n))))] → va_S A s.heap H locs → lv_has ls 4 [(0, .ref aM), (1, .int (bI (lbZ (lbK n (lbD F T nm lo up (lbA yb 12) cnt) n) i))), (2, .int (nI i))] → W pM l eM (headSpec wsX7_layBounds ({ frames := 1, cells := 0, slots := 0, locals := 24 } : Room)).room s mM ([.ref aM] : List Value).toArray blM mtM cM H locs 0 0 Q (F0 mM 245 ls []) := by
                      intro fuel
                      induction fuel with
                      | zero => intro i hfuel; exact absurd hfuel (Nat.not_lt_zero _)
                      | succ fuel ih245 =>
                        intro i hfuel hi H locs ls hP hD hS hl
                        refine lv_iload_n hx hb dX7_layBounds_245 rfl (lv_at hl 2 rfl) ?_
                        refine lv_aload_n hx hb dX7_layBounds_246 rfl (lv_at hl 0 rfl) ?_
                        refine va_get (D := (dC, dI)) (ci := 7) (v := .int (nI n)) (C := RX7) (T := TX7) (N := 34) hx hb hts iX7 hown hK hP 0 rfl rfl 1 (by decide) w1 (fun _ h9 => h9) rfl dX7_layBounds_247 ?_
                        refine lv_icmp_ge (tgt := 285) hx hb dX7_layBounds_250 (by decide) (fun c250 => ?_) (fun c250 => ?_)
                        · have c250 := n_le (a := n) (b := i) (by omega) (by omega) c250
                          have e7 : i = n := (by omega)
                          refine lv_iload_n hx hb dX7_layBounds_285 rfl (lv_at hl 1 rfl) ?_
                          have r1 : (bI (lbZ (lbK n (lbD F T nm lo up (lbA yb 12) cnt) n) i)) = (bI (lbZ (lbK n (lbD F T nm lo up (lbA yb 12) cnt) n) n)) := by rw [e7]
                          have hP9 : va_P (dC, dI) vwCl [(aM, .inr (7, [.int th, .int (nI n), .int (nI cnt), .ref aMF, .ref aMT, .ref aMN, .ref aML, .ref aMU, .int (nI ml), .ref aMB, .int (nI sg), .int (nI rm), .int (nI mdg), .int (nI mnb), .int (bI mng), .ref aMf, .ref aMt, .ref aMn, .ref aMl, .ref aMu, .ref aMP, .ref aMD, .int (nI lk), .ref aMC, .ref aMO, .int gn, .int gl, .int gg, .ref aMY, .int nn, .int nl, .int nu, .ref aMS, .long hs])), (aMF, .inl (cyI, 20, .inl (fun j_ => nI (F j_)))), (aMT, .inl (cyI, 20, .inl (fun j_ => nI (T j_)))), (aMN, .inl (cyI, 20, .inl nm)), (aML, .inl (cyI, 20, .inl lo)), (aMU, .inl (cyI, 20, .inl up)), (aMY, .inl (cyJ, 144, .inr (.inl (lbK n (lbD F T nm lo up (lbA yb 12) cnt) n))))] H := by exact hP.sub [0, 1, 2, 3, 4, 5, 6] rfl
                          have hD9 : va_D A [(aM, .inr (7, [.int th, .int (nI n), .int (nI cnt), .ref aMF, .ref aMT, .ref aMN, .ref aML, .ref aMU, .int (nI ml), .ref aMB, .int (nI sg), .int (nI rm), .int (nI mdg), .int (nI mnb), .int (bI mng), .ref aMf, .ref aMt, .ref aMn, .ref aMl, .ref aMu, .ref aMP, .ref aMD, .int (nI lk), .ref aMC, .ref aMO, .int gn, .int gl, .int gg, .ref aMY, .int nn, .int nl, .int nu, .ref aMS, .long hs])), (aMF, .inl (cyI, 20, .inl (fun j_ => nI (F j_)))), (aMT, .inl (cyI, 20, .inl (fun j_ => nI (T j_)))), (aMN, .inl (cyI, 20, .inl nm)), (aML, .inl (cyI, 20, .inl lo)), (aMU, .inl (cyI, 20, .inl up)), (aMY, .inl (cyJ, 144, .inr (.inl (lbK n (lbD F T nm lo up (lbA yb 12) cnt) n))))] := by exact hD.sub [0, 1, 2, 3, 4, 5, 6] (by decide) rfl
                          rw [hQe]
                          exact W.zret (v := bI (lbZ (lbK n (lbD F T nm lo up (lbA yb 12) cnt) n) i)) hx hb hr (bI_nar _) (fun t ht hW => ⟨⟨_, (), rfl, r1, by rw [ht]; exact hP9, va_K.moved hW.alike hK, hD9⟩, hS.F ht⟩) hS.2.2 dX7_layBounds_286
                        · have c250 := n_nle (a := n) (b := i) (by omega) (by omega) c250
                          refine lv_iload_n hx hb dX7_layBounds_253 rfl (lv_at hl 1 rfl) ?_
                          refine lv_if_eq (tgt := 277) hx hb dX7_layBounds_254 (by decide) (fun c254 => ?_) (fun c254 => ?_)
                          · have c254 : (lbZ (lbK n (lbD F T nm lo up (lbA yb 12) cnt) n) i) = false := bI_0 c254
                            refine lv_iconst (v := 0) hx hb dX7_layBounds_277 (by decide) ?_
                            refine lv_istore_n (lv' := [(1, .int 0), (0, .ref aM), (2, .int (nI i))]) hx hb dX7_layBounds_278 rfl hl (by decide) rfl (fun ls hl => ?_)
                            refine lv_iinc (v := nI (i + 1)) (lv' := [(2, .int (nI (i + 1))), (1, .int 0), (0, .ref aM)]) hx hb dX7_layBounds_279 hl (k := 2) rfl (nI_add i 1) (by decide) rfl (fun ls hl => ?_)
                            refine lv_goto (tgt := 245) hx hb dX7_layBounds_282 (by decide) ?_
                            have q2 : (bI (lbZ (lbK n (lbD F T nm lo up (lbA yb 12) cnt) n) (i + 1))) = 0 := by simp only [lbZ]; first | (rw [c254]; rfl) | (rw [c254, decide_eq_true c270]; rfl) | (rw [c254, decide_eq_false c270]; rfl)
                            exact ih245 (i + 1) (by omega) (by first | assumption | omega) _ _ _ (hP) (hD) hS (by first | (rw [q2]; exact lv_sub hl [2, 1, 0] rfl) | (simp only [q2]; exact lv_sub hl [2, 1, 0] rfl) | exact lv_sub hl [2, 1, 0] rfl)
                          · have c254 : (lbZ (lbK n (lbD F T nm lo up (lbA yb 12) cnt) n) i) = true := bI_n0 c254
                            refine lv_aload_n hx hb dX7_layBounds_257 rfl (lv_at hl 0 rfl) ?_
                            refine va_get (D := (dC, dI)) (ci := 7) (v := .ref aMY) (C := RX7) (T := TX7) (N := 34) hx hb hts iX7 hown hK hP 0 rfl rfl 28 (by decide) w2 (fun _ h9 => h9) rfl dX7_layBounds_258 ?_
                            refine lv_bipush (v := 12) hx hb dX7_layBounds_261 (by decide) ?_
                            refine lv_iload_n hx hb dX7_layBounds_263 rfl (lv_at hl 2 rfl) ?_
                            refine lv_imul hx hb dX7_layBounds_264 ?_
                            refine lv_topi (fun x3 e4 => ?_)
                            obtain rfl : x3 = (nI (12 * i)) := by rw [e4]; exact pk_mul 12 i
                            clear e4
                            refine lv_iload_n hx hb dX7_layBounds_265 rfl (lv_at hl 2 rfl) ?_
                            refine lv_iadd hx hb dX7_layBounds_266 ?_
                            refine lv_topi (fun x5 e6 => ?_)
                            obtain rfl : x5 = (nI ((12 * i) + i)) := by rw [e6]; exact nI_add (12 * i) i
                            clear e6
                            have h7 : vp_in (nI ((12 * i) + i)) 144 := by first | exact vp_in_nI (by omega) (by omega) | assumption
                            refine va_lald hx hb hK hP 6 2 rfl rfl h7 dX7_layBounds_267 ?_
                            refine lv_topl (fun x8 e9 => ?_)
                            obtain rfl : x8 = ((lbK n (lbD F T nm lo up (lbA yb 12) cnt) n) ((12 * i) + i)) := by rw [e9, nI_clamp (by omega)]
                            clear e9
                            refine lv_lconst (v := 0) hx hb dX7_layBounds_268 (by decide) ?_
                            refine W.lcmp hx hb dX7_layBounds_269 ?_
                            refine lv_if_ne (tgt := 277) hx hb dX7_layBounds_270 (by decide) (fun c270 => ?_) (fun c270 => ?_)
                            · have c270 := lc_ne_t c270
                              refine lv_iconst (v := 0) hx hb dX7_layBounds_277 (by decide) ?_
                              refine lv_istore_n (lv' := [(1, .int 0), (0, .ref aM), (2, .int (nI i))]) hx hb dX7_layBounds_278 rfl hl (by decide) rfl (fun ls hl => ?_)
                              refine lv_iinc (v := nI (i + 1)) (lv' := [(2, .int (nI (i + 1))), (1, .int 0), (0, .ref aM)]) hx hb dX7_layBounds_279 hl (k := 2) rfl (nI_add i 1) (by decide) rfl (fun ls hl => ?_)
                              refine lv_goto (tgt := 245) hx hb dX7_layBounds_282 (by decide) ?_
                              have q10 : (bI (lbZ (lbK n (lbD F T nm lo up (lbA yb 12) cnt) n) (i + 1))) = 0 := by simp only [lbZ]; first | (rw [c254]; rfl) | (rw [c254, decide_eq_true c270]; rfl) | (rw [c254, decide_eq_false c270]; rfl)
                              exact ih245 (i + 1) (by omega) (by first | assumption | omega) _ _ _ (hP) (hD) hS (by first | (rw [q10]; exact lv_sub hl [2, 1, 0] rfl) | (simp only [q10]; exact lv_sub hl [2, 1, 0] rfl) | exact lv_sub hl [2, 1, 0] rfl)
                            · have c270 := lc_ne_f c270
                              refine lv_iconst (v := 1) hx hb dX7_layBounds_273 (by decide) ?_
                              refine lv_goto (tgt := 278) hx hb dX7_layBounds_274 (by decide) ?_
                              refine lv_istore_n (lv' := [(1, .int 1), (0, .ref aM), (2, .int (nI i))]) hx hb dX7_layBounds_278 rfl hl (by decide) rfl (fun ls hl => ?_)
                              refine lv_iinc (v := nI (i + 1)) (lv' := [(2, .int (nI (i + 1))), (1, .int 1), (0, .ref aM)]) hx hb dX7_layBounds_279 hl (k := 2) rfl (nI_add i 1) (by decide) rfl (fun ls hl => ?_)
                              refine lv_goto (tgt := 245) hx hb dX7_layBounds_282 (by decide) ?_
                              have q11 : (bI (lbZ (lbK n (lbD F T nm lo up (lbA yb 12) cnt) n) (i + 1))) = 1 := by simp only [lbZ]; first | (rw [c254]; rfl) | (rw [c254, decide_eq_true c270]; rfl) | (rw [c254, decide_eq_false c270]; rfl)
                              exact ih245 (i + 1) (by omega) (by first | assumption | omega) _ _ _ (hP) (hD) hS (by first | (rw [q11]; exact lv_sub hl [2, 1, 0] rfl) | (simp only [q11]; exact lv_sub hl [2, 1, 0] rfl) | exact lv_sub hl [2, 1, 0] rfl)
                    have q12 : (lbK n (lbD F T nm lo up (lbA yb 12) cnt) n) = (lbK n (lbD F T nm lo up (lbA yb 12) cnt) k) := by rw [e4]
                    have q13 : (bI (lbZ (lbK n (lbD F T nm lo up (lbA yb 12) cnt) n) 0)) = 1 := by rfl
                    have q14 : (nI 0) = 0 := by first | rfl | simp [*] | (simp only [*]; done)
                    exact k245 (n - 0 + 1) 0 (Nat.lt_succ_self _) (by first | assumption | omega) _ _ _ (by first | (rw [q12]; exact hP) | (simp only [q12]; exact hP) | exact hP) (by first | (rw [q12]; exact hD) | (simp only [q12]; exact hD) | exact hD) hS (by first | (rw [q13, q14]; exact lv_sub hl [2, 1, 0] rfl) | (simp only [q13, q14]; exact lv_sub hl [2, 1, 0] rfl) | exact lv_sub hl [2, 1, 0] rfl)
                  · have c135 := n_nle (a := n) (b := k) (by omega) (by omega) c135
                    refine lv_iconst (v := 0) hx hb dX7_layBounds_138 (by decide) ?_
                    refine lv_istore_n (lv' := [(2, .int 0), (0, .ref aM), (1, .int (nI k))]) hx hb dX7_layBounds_139 rfl hl (by decide) rfl (fun ls hl => ?_)
                    have k140 : ∀ (fuel : Nat) (a : Nat) (hfuel : n - a < fuel) (ha1 : a ≤ n) (H : Heap) (locs : List Loc) (ls : Array Slot), va_P (dC, dI) vwCl [(aM, .inr (7, [.int th, .int (nI n), .int (nI cnt), .ref aMF, .ref aMT, .ref aMN, .ref aML, .ref aMU, .int (nI ml), .ref aMB, .int (nI sg), .int (nI rm), .int (nI mdg), .int (nI mnb), .int (bI mng), .ref aMf, .ref aMt, .ref aMn, .ref aMl, .ref aMu, .ref aMP, .ref aMD, .int (nI lk), .ref aMC, .ref aMO, .int gn, .int gl, .int gg, .ref aMY, .int nn, .int nl, .int nu, .ref aMS, .long hs])), (aMF, .inl (cyI, 20, .inl (fun j_ => nI (F j_)))), (aMT, .inl (cyI, 20, .inl (fun j_ => nI (T j_)))), (aMN, .inl (cyI, 20, .inl nm)), (aML, .inl (cyI, 20, .inl lo)), (aMU, .inl (cyI, 20, .inl up)), (aMY, .inl (cyJ, 144, .inr (.inl (lbJ n k (lbK n (lbD F T nm lo up (lbA yb 12) cnt) k) a))))] H → va_D A [(aM, .inr (7, [.int th, .int (nI n), .int (nI cnt), .ref aMF, .ref aMT, .ref aMN, .ref aML, .ref aMU, .int (nI ml), .ref aMB, .int (nI sg), .int (nI rm), .int (nI mdg), .int (nI mnb), .int (bI mng), .ref aMf, .ref aMt, .ref aMn, .ref aMl, .ref aMu, .ref aMP, .ref aMD, .int (nI lk), .ref aMC, .ref aMO, .int gn, .int gl, .int gg, .ref aMY, .int nn, .int nl, .int nu, .ref aMS, .long hs])), (aMF, .inl (cyI, 20, .inl (fun j_ => nI (F j_)))), (aMT, .inl (cyI, 20, .inl (fun j_ => nI (T j_)))), (aMN, .inl (cyI, 20, .inl nm)), (aML, .inl (cyI, 20, .inl lo)), (aMU, .inl (cyI, 20, .inl up)), (aMY, .inl (cyJ, 144, .inr (.inl (lbJ n k (lbK n (lbD F T nm lo up (lbA yb 12) cnt) k) a))))] → va_S A s.heap H locs → lv_has ls 4 [(0, .ref aM), (1, .int (nI k)), (2, .int (nI a))] → W pM l eM (headSpec wsX7_layBounds ({ frames := 1, cells := 0, slots := 0, locals := 24 } : Room)).room s mM ([.ref aM] : List Value).toArray blM mtM cM H locs 0 0 Q (F0 mM 140 ls []) := by
                      intro fuel
                      induction fuel with
                      | zero => intro a hfuel; exact absurd hfuel (Nat.not_lt_zero _)
                      | succ fuel ih140 =>
                        intro a hfuel ha1 H locs ls hP hD hS hl
                        refine lv_iload_n hx hb dX7_layBounds_140 rfl (lv_at hl 2 rfl) ?_
                        refine lv_aload_n hx hb dX7_layBounds_141 rfl (lv_at hl 0 rfl) ?_
                        refine va_get (D := (dC, dI)) (ci := 7) (v := .int (nI n)) (C := RX7) (T := TX7) (N := 34) hx hb hts iX7 hown hK hP 0 rfl rfl 1 (by decide) w1 (fun _ h9 => h9) rfl dX7_layBounds_142 ?_
                        refine lv_icmp_ge (tgt := 235) hx hb dX7_layBounds_145 (by decide) (fun c145 => ?_) (fun c145 => ?_)
                        · have c145 := n_le (a := n) (b := a) (by omega) (by omega) c145
                          have e5 : a = n := (by omega)
                          refine lv_iinc (v := nI (k + 1)) (lv' := [(1, .int (nI (k + 1))), (0, .ref aM), (2, .int (nI a))]) hx hb dX7_layBounds_235 hl (k := 1) rfl (nI_add k 1) (by decide) rfl (fun ls hl => ?_)
                          refine lv_goto (tgt := 130) hx hb dX7_layBounds_238 (by decide) ?_
                          have q15 : (lbK n (lbD F T nm lo up (lbA yb 12) cnt) (k + 1)) = (lbJ n k (lbK n (lbD F T nm lo up (lbA yb 12) cnt) k) a) := by simp only [lbK]; rw [e5]
                          exact ih130 (k + 1) (by omega) (by first | assumption | omega) _ _ _ (by first | (rw [q15]; exact hP) | (simp only [q15]; exact hP) | exact hP) (by first | (rw [q15]; exact hD) | (simp only [q15]; exact hD) | exact hD) hS (lv_sub hl [1, 0] rfl)
                        · have c145 := n_nle (a := n) (b := a) (by omega) (by omega) c145
                          refine lv_iconst (v := 0) hx hb dX7_layBounds_148 (by decide) ?_
                          refine lv_istore_n (lv' := [(3, .int 0), (0, .ref aM), (1, .int (nI k)), (2, .int (nI a))]) hx hb dX7_layBounds_149 rfl hl (by decide) rfl (fun ls hl => ?_)
                          have k150 : ∀ (fuel : Nat) (b : Nat) (hfuel : n - b < fuel) (hb2 : b ≤ n) (H : Heap) (locs : List Loc) (ls : Array Slot), va_P (dC, dI) vwCl [(aM, .inr (7, [.int th, .int (nI n), .int (nI cnt), .ref aMF, .ref aMT, .ref aMN, .ref aML, .ref aMU, .int (nI ml), .ref aMB, .int (nI sg), .int (nI rm), .int (nI mdg), .int (nI mnb), .int (bI mng), .ref aMf, .ref aMt, .ref aMn, .ref aMl, .ref aMu, .ref aMP, .ref aMD, .int (nI lk), .ref aMC, .ref aMO, .int gn, .int gl, .int gg, .ref aMY, .int nn, .int nl, .int nu, .ref aMS, .long hs])), (aMF, .inl (cyI, 20, .inl (fun j_ => nI (F j_)))), (aMT, .inl (cyI, 20, .inl (fun j_ => nI (T j_)))), (aMN, .inl (cyI, 20, .inl nm)), (aML, .inl (cyI, 20, .inl lo)), (aMU, .inl (cyI, 20, .inl up)), (aMY, .inl (cyJ, 144, .inr (.inl (lbH k a (lbJ n k (lbK n (lbD F T nm lo up (lbA yb 12) cnt) k) a) b))))] H → va_D A [(aM, .inr (7, [.int th, .int (nI n), .int (nI cnt), .ref aMF, .ref aMT, .ref aMN, .ref aML, .ref aMU, .int (nI ml), .ref aMB, .int (nI sg), .int (nI rm), .int (nI mdg), .int (nI mnb), .int (bI mng), .ref aMf, .ref aMt, .ref aMn, .ref aMl, .ref aMu, .ref aMP, .ref aMD, .int (nI lk), .ref aMC, .ref aMO, .int gn, .int gl, .int gg, .ref aMY, .int nn, .int nl, .int nu, .ref aMS, .long hs])), (aMF, .inl (cyI, 20, .inl (fun j_ => nI (F j_)))), (aMT, .inl (cyI, 20, .inl (fun j_ => nI (T j_)))), (aMN, .inl (cyI, 20, .inl nm)), (aML, .inl (cyI, 20, .inl lo)), (aMU, .inl (cyI, 20, .inl up)), (aMY, .inl (cyJ, 144, .inr (.inl (lbH k a (lbJ n k (lbK n (lbD F T nm lo up (lbA yb 12) cnt) k) a) b))))] → va_S A s.heap H locs → lv_has ls 4 [(0, .ref aM), (1, .int (nI k)), (2, .int (nI a)), (3, .int (nI b))] → W pM l eM (headSpec wsX7_layBounds ({ frames := 1, cells := 0, slots := 0, locals := 24 } : Room)).room s mM ([.ref aM] : List Value).toArray blM mtM cM H locs 0 0 Q (F0 mM 150 ls []) := by
                            intro fuel
                            induction fuel with
                            | zero => intro b hfuel; exact absurd hfuel (Nat.not_lt_zero _)
                            | succ fuel ih150 =>
                              intro b hfuel hb2 H locs ls hP hD hS hl
                              refine lv_iload_n hx hb dX7_layBounds_150 rfl (lv_at hl 3 rfl) ?_
                              refine lv_aload_n hx hb dX7_layBounds_151 rfl (lv_at hl 0 rfl) ?_
                              refine va_get (D := (dC, dI)) (ci := 7) (v := .int (nI n)) (C := RX7) (T := TX7) (N := 34) hx hb hts iX7 hown hK hP 0 rfl rfl 1 (by decide) w1 (fun _ h9 => h9) rfl dX7_layBounds_152 ?_
                              refine lv_icmp_ge (tgt := 229) hx hb dX7_layBounds_155 (by decide) (fun c155 => ?_) (fun c155 => ?_)
                              · have c155 := n_le (a := n) (b := b) (by omega) (by omega) c155
                                have e6 : b = n := (by omega)
                                refine lv_iinc (v := nI (a + 1)) (lv' := [(2, .int (nI (a + 1))), (0, .ref aM), (1, .int (nI k)), (3, .int (nI b))]) hx hb dX7_layBounds_229 hl (k := 2) rfl (nI_add a 1) (by decide) rfl (fun ls hl => ?_)
                                refine lv_goto (tgt := 140) hx hb dX7_layBounds_232 (by decide) ?_
                                have q16 : (lbJ n k (lbK n (lbD F T nm lo up (lbA yb 12) cnt) k) (a + 1)) = (lbH k a (lbJ n k (lbK n (lbD F T nm lo up (lbA yb 12) cnt) k) a) b) := by simp only [lbJ]; rw [e6]
                                exact ih140 (a + 1) (by omega) (by first | assumption | omega) _ _ _ (by first | (rw [q16]; exact hP) | (simp only [q16]; exact hP) | exact hP) (by first | (rw [q16]; exact hD) | (simp only [q16]; exact hD) | exact hD) hS (lv_sub hl [1, 2, 0] rfl)
                              · have c155 := n_nle (a := n) (b := b) (by omega) (by omega) c155
                                refine lv_aload_n hx hb dX7_layBounds_158 rfl (lv_at hl 0 rfl) ?_
                                refine va_get (D := (dC, dI)) (ci := 7) (v := .ref aMY) (C := RX7) (T := TX7) (N := 34) hx hb hts iX7 hown hK hP 0 rfl rfl 28 (by decide) w2 (fun _ h9 => h9) rfl dX7_layBounds_159 ?_
                                refine lv_bipush (v := 12) hx hb dX7_layBounds_162 (by decide) ?_
                                refine lv_iload_n hx hb dX7_layBounds_164 rfl (lv_at hl 2 rfl) ?_
                                refine lv_imul hx hb dX7_layBounds_165 ?_
                                refine lv_topi (fun x17 e18 => ?_)
                                obtain rfl : x17 = (nI (12 * a)) := by rw [e18]; exact pk_mul 12 a
                                clear e18
                                refine lv_iload_n hx hb dX7_layBounds_166 rfl (lv_at hl 1 rfl) ?_
                                refine lv_iadd hx hb dX7_layBounds_167 ?_
                                refine lv_topi (fun x19 e20 => ?_)
                                obtain rfl : x19 = (nI ((12 * a) + k)) := by rw [e20]; exact nI_add (12 * a) k
                                clear e20
                                have h21 : vp_in (nI ((12 * a) + k)) 144 := by first | exact vp_in_nI (by omega) (by omega) | assumption
                                refine va_lald hx hb hK hP 6 2 rfl rfl h21 dX7_layBounds_168 ?_
                                refine lv_topl (fun x22 e23 => ?_)
                                obtain rfl : x22 = ((lbH k a (lbJ n k (lbK n (lbD F T nm lo up (lbA yb 12) cnt) k) a) b) ((12 * a) + k)) := by rw [e23, nI_clamp (by omega)]
                                clear e23
                                refine lv_ldc2 (v := 1000000000000) hx hb hown w3 dX7_layBounds_169 ?_
                                refine W.lcmp hx hb dX7_layBounds_172 ?_
                                refine lv_if_ge (tgt := 223) hx hb dX7_layBounds_173 (by decide) (fun c173 => ?_) (fun c173 => ?_)
                                · have c173 := lc_ge_t c173
                                  refine lv_iinc (v := nI (b + 1)) (lv' := [(3, .int (nI (b + 1))), (0, .ref aM), (1, .int (nI k)), (2, .int (nI a))]) hx hb dX7_layBounds_223 hl (k := 3) rfl (nI_add b 1) (by decide) rfl (fun ls hl => ?_)
                                  refine lv_goto (tgt := 150) hx hb dX7_layBounds_226 (by decide) ?_
                                  have q24 : (lbH k a (lbJ n k (lbK n (lbD F T nm lo up (lbA yb 12) cnt) k) a) (b + 1)) = (lbH k a (lbJ n k (lbK n (lbD F T nm lo up (lbA yb 12) cnt) k) a) b) := by simp only [lbH]; first | (rw [if_pos ⟨c173, c191⟩]; done) | (rw [if_neg (fun q => c173 q.1)]; done) | (rw [if_neg (fun q => c191 q.2)]; done)
                                  exact ih150 (b + 1) (by omega) (by first | assumption | omega) _ _ _ (by first | (rw [q24]; exact hP) | (simp only [q24]; exact hP) | exact hP) (by first | (rw [q24]; exact hD) | (simp only [q24]; exact hD) | exact hD) hS (lv_sub hl [1, 2, 3, 0] rfl)
                                · have c173 := lc_ge_f c173
                                  refine lv_aload_n hx hb dX7_layBounds_176 rfl (lv_at hl 0 rfl) ?_
                                  refine va_get (D := (dC, dI)) (ci := 7) (v := .ref aMY) (C := RX7) (T := TX7) (N := 34) hx hb hts iX7 hown hK hP 0 rfl rfl 28 (by decide) w2 (fun _ h9 => h9) rfl dX7_layBounds_177 ?_
                                  refine lv_bipush (v := 12) hx hb dX7_layBounds_180 (by decide) ?_
                                  refine lv_iload_n hx hb dX7_layBounds_182 rfl (lv_at hl 1 rfl) ?_
                                  refine lv_imul hx hb dX7_layBounds_183 ?_
                                  refine lv_topi (fun x25 e26 => ?_)
                                  obtain rfl : x25 = (nI (12 * k)) := by rw [e26]; exact pk_mul 12 k
                                  clear e26
                                  refine lv_iload_n hx hb dX7_layBounds_184 rfl (lv_at hl 3 rfl) ?_
                                  refine lv_iadd hx hb dX7_layBounds_185 ?_
                                  refine lv_topi (fun x27 e28 => ?_)
                                  obtain rfl : x27 = (nI ((12 * k) + b)) := by rw [e28]; exact nI_add (12 * k) b
                                  clear e28
                                  have h29 : vp_in (nI ((12 * k) + b)) 144 := by first | exact vp_in_nI (by omega) (by omega) | assumption
                                  refine va_lald hx hb hK hP 6 2 rfl rfl h29 dX7_layBounds_186 ?_
                                  refine lv_topl (fun x30 e31 => ?_)
                                  obtain rfl : x30 = ((lbH k a (lbJ n k (lbK n (lbD F T nm lo up (lbA yb 12) cnt) k) a) b) ((12 * k) + b)) := by rw [e31, nI_clamp (by omega)]
                                  clear e31
                                  refine lv_ldc2 (v := 1000000000000) hx hb hown w3 dX7_layBounds_187 ?_
                                  refine W.lcmp hx hb dX7_layBounds_190 ?_
                                  refine lv_if_ge (tgt := 223) hx hb dX7_layBounds_191 (by decide) (fun c191 => ?_) (fun c191 => ?_)
                                  · have c191 := lc_ge_t c191
                                    refine lv_iinc (v := nI (b + 1)) (lv' := [(3, .int (nI (b + 1))), (0, .ref aM), (1, .int (nI k)), (2, .int (nI a))]) hx hb dX7_layBounds_223 hl (k := 3) rfl (nI_add b 1) (by decide) rfl (fun ls hl => ?_)
                                    refine lv_goto (tgt := 150) hx hb dX7_layBounds_226 (by decide) ?_
                                    have q32 : (lbH k a (lbJ n k (lbK n (lbD F T nm lo up (lbA yb 12) cnt) k) a) (b + 1)) = (lbH k a (lbJ n k (lbK n (lbD F T nm lo up (lbA yb 12) cnt) k) a) b) := by simp only [lbH]; first | (rw [if_pos ⟨c173, c191⟩]; done) | (rw [if_neg (fun q => c173 q.1)]; done) | (rw [if_neg (fun q => c191 q.2)]; done)
                                    exact ih150 (b + 1) (by omega) (by first | assumption | omega) _ _ _ (by first | (rw [q32]; exact hP) | (simp only [q32]; exact hP) | exact hP) (by first | (rw [q32]; exact hD) | (simp only [q32]; exact hD) | exact hD) hS (lv_sub hl [1, 2, 3, 0] rfl)
                                  · have c191 := lc_ge_f c191
                                    refine lv_aload_n hx hb dX7_layBounds_194 rfl (lv_at hl 0 rfl) ?_
                                    refine lv_iload_n hx hb dX7_layBounds_195 rfl (lv_at hl 2 rfl) ?_
                                    refine lv_iload_n hx hb dX7_layBounds_196 rfl (lv_at hl 3 rfl) ?_
                                    refine lv_aload_n hx hb dX7_layBounds_197 rfl (lv_at hl 0 rfl) ?_
                                    refine va_get (D := (dC, dI)) (ci := 7) (v := .ref aMY) (C := RX7) (T := TX7) (N := 34) hx hb hts iX7 hown hK hP 0 rfl rfl 28 (by decide) w2 (fun _ h9 => h9) rfl dX7_layBounds_198 ?_
                                    refine lv_bipush (v := 12) hx hb dX7_layBounds_201 (by decide) ?_
                                    refine lv_iload_n hx hb dX7_layBounds_203 rfl (lv_at hl 2 rfl) ?_
                                    refine lv_imul hx hb dX7_layBounds_204 ?_
                                    refine lv_topi (fun x33 e34 => ?_)
                                    obtain rfl : x33 = (nI (12 * a)) := by rw [e34]; exact pk_mul 12 a
                                    clear e34
                                    refine lv_iload_n hx hb dX7_layBounds_205 rfl (lv_at hl 1 rfl) ?_
                                    refine lv_iadd hx hb dX7_layBounds_206 ?_
                                    refine lv_topi (fun x35 e36 => ?_)
                                    obtain rfl : x35 = (nI ((12 * a) + k)) := by rw [e36]; exact nI_add (12 * a) k
                                    clear e36
                                    have h37 : vp_in (nI ((12 * a) + k)) 144 := by first | exact vp_in_nI (by omega) (by omega) | assumption
                                    refine va_lald hx hb hK hP 6 2 rfl rfl h37 dX7_layBounds_207 ?_
                                    refine lv_topl (fun x38 e39 => ?_)
                                    obtain rfl : x38 = ((lbH k a (lbJ n k (lbK n (lbD F T nm lo up (lbA yb 12) cnt) k) a) b) ((12 * a) + k)) := by rw [e39, nI_clamp (by omega)]
                                    clear e39
                                    refine lv_aload_n hx hb dX7_layBounds_208 rfl (lv_at hl 0 rfl) ?_
                                    refine va_get (D := (dC, dI)) (ci := 7) (v := .ref aMY) (C := RX7) (T := TX7) (N := 34) hx hb hts iX7 hown hK hP 0 rfl rfl 28 (by decide) w2 (fun _ h9 => h9) rfl dX7_layBounds_209 ?_
                                    refine lv_bipush (v := 12) hx hb dX7_layBounds_212 (by decide) ?_
                                    refine lv_iload_n hx hb dX7_layBounds_214 rfl (lv_at hl 1 rfl) ?_
                                    refine lv_imul hx hb dX7_layBounds_215 ?_
                                    refine lv_topi (fun x40 e41 => ?_)
                                    obtain rfl : x40 = (nI (12 * k)) := by rw [e41]; exact pk_mul 12 k
                                    clear e41
                                    refine lv_iload_n hx hb dX7_layBounds_216 rfl (lv_at hl 3 rfl) ?_
                                    refine lv_iadd hx hb dX7_layBounds_217 ?_
                                    refine lv_topi (fun x42 e43 => ?_)
                                    obtain rfl : x42 = (nI ((12 * k) + b)) := by rw [e43]; exact nI_add (12 * k) b
                                    clear e43
                                    have h44 : vp_in (nI ((12 * k) + b)) 144 := by first | exact vp_in_nI (by omega) (by omega) | assumption
                                    refine va_lald hx hb hK hP 6 2 rfl rfl h44 dX7_layBounds_218 ?_
                                    refine lv_topl (fun x45 e46 => ?_)
                                    obtain rfl : x45 = ((lbH k a (lbJ n k (lbK n (lbD F T nm lo up (lbA yb 12) cnt) k) a) b) ((12 * k) + b)) := by rw [e46, nI_clamp (by omega)]
                                    clear e46
                                    refine lv_ladd hx hb dX7_layBounds_219 ?_
                                    have g47 : a < 12 := by first | assumption | omega | exact vp_in_nI (by omega) (by omega)
                                    have g48 : b < 12 := by first | assumption | omega | exact vp_in_nI (by omega) (by omega)
                                    have hPc := hP.sub (ws' := [(aM, .inr (7, [.int th, .int (nI n), .int (nI cnt), .ref aMF, .ref aMT, .ref aMN, .ref aML, .ref aMU, .int (nI ml), .ref aMB, .int (nI sg), .int (nI rm), .int (nI mdg), .int (nI mnb), .int (bI mng), .ref aMf, .ref aMt, .ref aMn, .ref aMl, .ref aMu, .ref aMP, .ref aMD, .int (nI lk), .ref aMC, .ref aMO, .int gn, .int gl, .int gg, .ref aMY, .int nn, .int nl, .int nu, .ref aMS, .long hs])), (aMY, .inl (cyJ, 144, .inr (.inl (lbH k a (lbJ n k (lbK n (lbD F T nm lo up (lbA yb 12) cnt) k) a) b))))]) [0, 6] rfl
                                    have hDc := hD.sub (ws' := [(aM, .inr (7, [.int th, .int (nI n), .int (nI cnt), .ref aMF, .ref aMT, .ref aMN, .ref aML, .ref aMU, .int (nI ml), .ref aMB, .int (nI sg), .int (nI rm), .int (nI mdg), .int (nI mnb), .int (bI mng), .ref aMf, .ref aMt, .ref aMn, .ref aMl, .ref aMu, .ref aMP, .ref aMD, .int (nI lk), .ref aMC, .ref aMO, .int gn, .int gl, .int gg, .ref aMY, .int nn, .int nl, .int nu, .ref aMS, .long hs])), (aMY, .inl (cyJ, 144, .inr (.inl (lbH k a (lbJ n k (lbK n (lbD F T nm lo up (lbA yb 12) cnt) k) a) b))))]) [0, 6] (by decide) rfl
                                    have hFc := va_free (wc := [(aM, .inr (7, [.int th, .int (nI n), .int (nI cnt), .ref aMF, .ref aMT, .ref aMN, .ref aML, .ref aMU, .int (nI ml), .ref aMB, .int (nI sg), .int (nI rm), .int (nI mdg), .int (nI mnb), .int (bI mng), .ref aMf, .ref aMt, .ref aMn, .ref aMl, .ref aMu, .ref aMP, .ref aMD, .int (nI lk), .ref aMC, .ref aMO, .int gn, .int gl, .int gg, .ref aMY, .int nn, .int nl, .int nu, .ref aMS, .long hs])), (aMY, .inl (cyJ, 144, .inr (.inl (lbH k a (lbJ n k (lbK n (lbD F T nm lo up (lbA yb 12) cnt) k) a) b))))]) hD hS hA [0, 6] rfl
                                    refine va_callv (va_runV (As := [.int (nI a), .int (nI b), .long (((lbH k a (lbJ n k (lbK n (lbD F T nm lo up (lbA yb 12) cnt) k) a) b) ((12 * a) + k)) + ((lbH k a (lbJ n k (lbK n (lbD F T nm lo up (lbA yb 12) cnt) k) a) b) ((12 * k) + b)))]) (rest := []) ⟨hx, hb, hml, hown, hts⟩ (c_X7_bound l dC dI cyI cyZ cyJ cyD aM aMF aMT aMN aML aMU aMB aMf aMt aMn aMl aMu aMP aMD aMC aMO aMY aMS H.size th n cnt ml sg rm mdg mnb mng lk gn gl gg nn nl nu hs (lbH k a (lbJ n k (lbK n (lbD F T nm lo up (lbA yb 12) cnt) k) a) b) a b (((lbH k a (lbJ n k (lbK n (lbD F T nm lo up (lbA yb 12) cnt) k) a) b) ((12 * a) + k)) + ((lbH k a (lbJ n k (lbK n (lbD F T nm lo up (lbA yb 12) cnt) k) a) b) ((12 * k) + b))) g47 g48) (cwV 3 hts gX7_layBounds_X7_bound rfl rfl rfl (by decide +kernel) ⟨Nat.le_of_ble_eq_true rfl, Nat.le_of_ble_eq_true rfl⟩) ⟨fun a U g mk q => by obtain ⟨q0, q1, qP, qK, qD⟩ := q; exact ⟨q0, q1, qP, va_K.moved (u := U) (U := U.calling g mk a) (Vm.Alike.refl U.vm) qK, qD⟩, va_recv hK hPc (ci := 7) (q0 := 0) rfl rfl, fun U hU hW => ⟨rfl, by rw [hU], by rw [hU]; exact hPc, va_K.moved hW.alike hK, hDc.weaken (fun _ _ _ _ => trivial)⟩⟩ rfl rfl hl.1 rfl (lv_room (Nat.le_of_ble_eq_true rfl)) dX7_layBounds_220 ⟨Nat.le_of_ble_eq_true rfl, Nat.le_of_ble_eq_true rfl⟩) hS (fun q _ h => hFc q h) hFc (fun  u t H1 locs ht hvm hw hB hz1 hk1 hS => ?_)
                                    obtain ⟨hP1, hK1, hD1⟩ := hB
                                    rw [ht] at hP1
                                    obtain ⟨hP, hD⟩ := va_join (wr := [(aMF, .inl (cyI, 20, .inl (fun j_ => nI (F j_)))), (aMT, .inl (cyI, 20, .inl (fun j_ => nI (T j_)))), (aMN, .inl (cyI, 20, .inl nm)), (aML, .inl (cyI, 20, .inl lo)), (aMU, .inl (cyI, 20, .inl up))]) (w1 := [(aM, .inr (7, [.int th, .int (nI n), .int (nI cnt), .ref aMF, .ref aMT, .ref aMN, .ref aML, .ref aMU, .int (nI ml), .ref aMB, .int (nI sg), .int (nI rm), .int (nI mdg), .int (nI mnb), .int (bI mng), .ref aMf, .ref aMt, .ref aMn, .ref aMl, .ref aMu, .ref aMP, .ref aMD, .int (nI lk), .ref aMC, .ref aMO, .int gn, .int gl, .int gg, .ref aMY, .int nn, .int nl, .int nu, .ref aMS, .long hs])), (aMY, .inl (cyJ, 144, .inr (.inl (bnd (lbH k a (lbJ n k (lbK n (lbD F T nm lo up (lbA yb 12) cnt) k) a) b) a b (((lbH k a (lbJ n k (lbK n (lbD F T nm lo up (lbA yb 12) cnt) k) a) b) ((12 * a) + k)) + ((lbH k a (lbJ n k (lbK n (lbD F T nm lo up (lbA yb 12) cnt) k) a) b) ((12 * k) + b)))))))]) hP hD [0, 6] [1, 2, 3, 4, 5] rfl rfl (by decide) (by decide) hk1 hFc hP1 hD1
                                    clear hP1 hD1 hK1 hPc hDc hFc hk1 hz1 hvm ht u t
                                    generalize H1 = H at hP hS ⊢
                                    have hP : va_P (dC, dI) vwCl [(aMF, .inl (cyI, 20, .inl (fun j_ => nI (F j_)))), (aMT, .inl (cyI, 20, .inl (fun j_ => nI (T j_)))), (aMN, .inl (cyI, 20, .inl nm)), (aML, .inl (cyI, 20, .inl lo)), (aMU, .inl (cyI, 20, .inl up)), (aM, .inr (7, [.int th, .int (nI n), .int (nI cnt), .ref aMF, .ref aMT, .ref aMN, .ref aML, .ref aMU, .int (nI ml), .ref aMB, .int (nI sg), .int (nI rm), .int (nI mdg), .int (nI mnb), .int (bI mng), .ref aMf, .ref aMt, .ref aMn, .ref aMl, .ref aMu, .ref aMP, .ref aMD, .int (nI lk), .ref aMC, .ref aMO, .int gn, .int gl, .int gg, .ref aMY, .int nn, .int nl, .int nu, .ref aMS, .long hs])), (aMY, .inl (cyJ, 144, .inr (.inl (bnd (lbH k a (lbJ n k (lbK n (lbD F T nm lo up (lbA yb 12) cnt) k) a) b) a b (((lbH k a (lbJ n k (lbK n (lbD F T nm lo up (lbA yb 12) cnt) k) a) b) ((12 * a) + k)) + ((lbH k a (lbJ n k (lbK n (lbD F T nm lo up (lbA yb 12) cnt) k) a) b) ((12 * k) + b)))))))] H := hP
                                    have hD : va_D A [(aMF, .inl (cyI, 20, .inl (fun j_ => nI (F j_)))), (aMT, .inl (cyI, 20, .inl (fun j_ => nI (T j_)))), (aMN, .inl (cyI, 20, .inl nm)), (aML, .inl (cyI, 20, .inl lo)), (aMU, .inl (cyI, 20, .inl up)), (aM, .inr (7, [.int th, .int (nI n), .int (nI cnt), .ref aMF, .ref aMT, .ref aMN, .ref aML, .ref aMU, .int (nI ml), .ref aMB, .int (nI sg), .int (nI rm), .int (nI mdg), .int (nI mnb), .int (bI mng), .ref aMf, .ref aMt, .ref aMn, .ref aMl, .ref aMu, .ref aMP, .ref aMD, .int (nI lk), .ref aMC, .ref aMO, .int gn, .int gl, .int gg, .ref aMY, .int nn, .int nl, .int nu, .ref aMS, .long hs])), (aMY, .inl (cyJ, 144, .inr (.inl (bnd (lbH k a (lbJ n k (lbK n (lbD F T nm lo up (lbA yb 12) cnt) k) a) b) a b (((lbH k a (lbJ n k (lbK n (lbD F T nm lo up (lbA yb 12) cnt) k) a) b) ((12 * a) + k)) + ((lbH k a (lbJ n k (lbK n (lbD F T nm lo up (lbA yb 12) cnt) k) a) b) ((12 * k) + b)))))))] := hD
                                    refine lv_iinc (v := nI (b + 1)) (lv' := [(3, .int (nI (b + 1))), (0, .ref aM), (1, .int (nI k)), (2, .int (nI a))]) hx hb dX7_layBounds_223 hl (k := 3) rfl (nI_add b 1) (by decide) rfl (fun ls hl => ?_)
                                    refine lv_goto (tgt := 150) hx hb dX7_layBounds_226 (by decide) ?_
                                    have q49 : (lbH k a (lbJ n k (lbK n (lbD F T nm lo up (lbA yb 12) cnt) k) a) (b + 1)) = (bnd (lbH k a (lbJ n k (lbK n (lbD F T nm lo up (lbA yb 12) cnt) k) a) b) a b (((lbH k a (lbJ n k (lbK n (lbD F T nm lo up (lbA yb 12) cnt) k) a) b) ((12 * a) + k)) + ((lbH k a (lbJ n k (lbK n (lbD F T nm lo up (lbA yb 12) cnt) k) a) b) ((12 * k) + b)))) := by simp only [lbH]; first | (rw [if_pos ⟨c173, c191⟩]; done) | (rw [if_neg (fun q => c173 q.1)]; done) | (rw [if_neg (fun q => c191 q.2)]; done)
                                    exact ih150 (b + 1) (by omega) (by first | assumption | omega) _ _ _ (by first | (rw [q49]; exact hP.sub [5, 0, 1, 2, 3, 4, 6] rfl) | (simp only [q49]; exact hP.sub [5, 0, 1, 2, 3, 4, 6] rfl) | exact hP.sub [5, 0, 1, 2, 3, 4, 6] rfl) (by first | (rw [q49]; exact hD.sub [5, 0, 1, 2, 3, 4, 6] (by decide) rfl) | (simp only [q49]; exact hD.sub [5, 0, 1, 2, 3, 4, 6] (by decide) rfl) | exact hD.sub [5, 0, 1, 2, 3, 4, 6] (by decide) rfl) hS (lv_sub hl [1, 2, 3, 0] rfl)
                          have q50 : (lbH k a (lbJ n k (lbK n (lbD F T nm lo up (lbA yb 12) cnt) k) a) 0) = (lbJ n k (lbK n (lbD F T nm lo up (lbA yb 12) cnt) k) a) := by rfl
                          have q51 : (nI 0) = 0 := by first | rfl | simp [*] | (simp only [*]; done)
                          exact k150 (n - 0 + 1) 0 (Nat.lt_succ_self _) (by first | assumption | omega) _ _ _ (by first | (rw [q50]; exact hP) | (simp only [q50]; exact hP) | exact hP) (by first | (rw [q50]; exact hD) | (simp only [q50]; exact hD) | exact hD) hS (by first | (rw [q51]; exact lv_sub hl [1, 2, 3, 0] rfl) | (simp only [q51]; exact lv_sub hl [1, 2, 3, 0] rfl) | exact lv_sub hl [1, 2, 3, 0] rfl)
                    have q52 : (lbJ n k (lbK n (lbD F T nm lo up (lbA yb 12) cnt) k) 0) = (lbK n (lbD F T nm lo up (lbA yb 12) cnt) k) := by rfl
                    have q53 : (nI 0) = 0 := by first | rfl | simp [*] | (simp only [*]; done)
                    exact k140 (n - 0 + 1) 0 (Nat.lt_succ_self _) (by first | assumption | omega) _ _ _ (by first | (rw [q52]; exact hP) | (simp only [q52]; exact hP) | exact hP) (by first | (rw [q52]; exact hD) | (simp only [q52]; exact hD) | exact hD) hS (by first | (rw [q53]; exact lv_sub hl [1, 2, 0] rfl) | (simp only [q53]; exact lv_sub hl [1, 2, 0] rfl) | exact lv_sub hl [1, 2, 0] rfl)
              have q54 : (lbK n (lbD F T nm lo up (lbA yb 12) cnt) 0) = (lbD F T nm lo up (lbA yb 12) d) := by simp only [lbK]; rw [e3]
              have q55 : (nI 0) = 0 := by first | rfl | simp [*] | (simp only [*]; done)
              exact k130 (n - 0 + 1) 0 (Nat.lt_succ_self _) (by first | assumption | omega) _ _ _ (by first | (rw [q54]; exact hP) | (simp only [q54]; exact hP) | exact hP) (by first | (rw [q54]; exact hD) | (simp only [q54]; exact hD) | exact hD) hS (by first | (rw [q55]; exact lv_sub hl [1, 0] rfl) | (simp only [q55]; exact lv_sub hl [1, 0] rfl) | exact lv_sub hl [1, 0] rfl)
            · have c58 := n_nle (a := cnt) (b := d) (by omega) (by omega) c58
              have hF1 := hF d c58
              have hT1 := hT d c58
              refine lv_aload_n hx hb dX7_layBounds_61 rfl (lv_at hl 0 rfl) ?_
              refine lv_aload_n hx hb dX7_layBounds_62 rfl (lv_at hl 0 rfl) ?_
              refine va_get (D := (dC, dI)) (ci := 7) (v := .ref aMF) (C := RX7) (T := TX7) (N := 34) hx hb hts iX7 hown hK hP 0 rfl rfl 3 (by decide) w4 (fun _ h9 => h9) rfl dX7_layBounds_63 ?_
              refine lv_iload_n hx hb dX7_layBounds_66 rfl (lv_at hl 1 rfl) ?_
              have h56 : vp_in (nI d) 20 := by first | exact vp_in_nI (by omega) (by omega) | assumption
              refine va_iald hx hb hK hP 1 0 rfl rfl h56 dX7_layBounds_67 ?_
              refine lv_topi (fun x57 e58 => ?_)
              obtain rfl : x57 = (nI (F d)) := by rw [e58, nI_clamp (by omega)]
              clear e58
              refine lv_aload_n hx hb dX7_layBounds_68 rfl (lv_at hl 0 rfl) ?_
              refine va_get (D := (dC, dI)) (ci := 7) (v := .ref aMT) (C := RX7) (T := TX7) (N := 34) hx hb hts iX7 hown hK hP 0 rfl rfl 4 (by decide) w5 (fun _ h9 => h9) rfl dX7_layBounds_69 ?_
              refine lv_iload_n hx hb dX7_layBounds_72 rfl (lv_at hl 1 rfl) ?_
              have h59 : vp_in (nI d) 20 := by first | exact vp_in_nI (by omega) (by omega) | assumption
              refine va_iald hx hb hK hP 2 0 rfl rfl h59 dX7_layBounds_73 ?_
              refine lv_topi (fun x60 e61 => ?_)
              obtain rfl : x60 = (nI (T d)) := by rw [e61, nI_clamp (by omega)]
              clear e61
              refine lv_aload_n hx hb dX7_layBounds_74 rfl (lv_at hl 0 rfl) ?_
              refine va_get (D := (dC, dI)) (ci := 7) (v := .ref aMN) (C := RX7) (T := TX7) (N := 34) hx hb hts iX7 hown hK hP 0 rfl rfl 5 (by decide) w6 (fun _ h9 => h9) rfl dX7_layBounds_75 ?_
              refine lv_iload_n hx hb dX7_layBounds_78 rfl (lv_at hl 1 rfl) ?_
              have h62 : vp_in (nI d) 20 := by first | exact vp_in_nI (by omega) (by omega) | assumption
              refine va_iald hx hb hK hP 3 0 rfl rfl h62 dX7_layBounds_79 ?_
              refine lv_topi (fun x63 e64 => ?_)
              obtain rfl : x63 = (nm d) := by rw [e64, nI_clamp (by omega)]
              clear e64
              refine lv_aload_n hx hb dX7_layBounds_80 rfl (lv_at hl 0 rfl) ?_
              refine va_get (D := (dC, dI)) (ci := 7) (v := .ref aMU) (C := RX7) (T := TX7) (N := 34) hx hb hts iX7 hown hK hP 0 rfl rfl 7 (by decide) w7 (fun _ h9 => h9) rfl dX7_layBounds_81 ?_
              refine lv_iload_n hx hb dX7_layBounds_84 rfl (lv_at hl 1 rfl) ?_
              have h65 : vp_in (nI d) 20 := by first | exact vp_in_nI (by omega) (by omega) | assumption
              refine va_iald hx hb hK hP 5 0 rfl rfl h65 dX7_layBounds_85 ?_
              refine lv_topi (fun x66 e67 => ?_)
              obtain rfl : x66 = (up d) := by rw [e67, nI_clamp (by omega)]
              clear e67
              refine lv_iadd hx hb dX7_layBounds_86 ?_
              refine lv_i2l (v := ((nm d) + (up d)).toInt64) hx hb dX7_layBounds_87 rfl ?_
              have g68 : (F d) < 12 := by first | assumption | omega | exact vp_in_nI (by omega) (by omega)
              have g69 : (T d) < 12 := by first | assumption | omega | exact vp_in_nI (by omega) (by omega)
              have hPc := hP.sub (ws' := [(aM, .inr (7, [.int th, .int (nI n), .int (nI cnt), .ref aMF, .ref aMT, .ref aMN, .ref aML, .ref aMU, .int (nI ml), .ref aMB, .int (nI sg), .int (nI rm), .int (nI mdg), .int (nI mnb), .int (bI mng), .ref aMf, .ref aMt, .ref aMn, .ref aMl, .ref aMu, .ref aMP, .ref aMD, .int (nI lk), .ref aMC, .ref aMO, .int gn, .int gl, .int gg, .ref aMY, .int nn, .int nl, .int nu, .ref aMS, .long hs])), (aMY, .inl (cyJ, 144, .inr (.inl (lbD F T nm lo up (lbA yb 12) d))))]) [0, 6] rfl
              have hDc := hD.sub (ws' := [(aM, .inr (7, [.int th, .int (nI n), .int (nI cnt), .ref aMF, .ref aMT, .ref aMN, .ref aML, .ref aMU, .int (nI ml), .ref aMB, .int (nI sg), .int (nI rm), .int (nI mdg), .int (nI mnb), .int (bI mng), .ref aMf, .ref aMt, .ref aMn, .ref aMl, .ref aMu, .ref aMP, .ref aMD, .int (nI lk), .ref aMC, .ref aMO, .int gn, .int gl, .int gg, .ref aMY, .int nn, .int nl, .int nu, .ref aMS, .long hs])), (aMY, .inl (cyJ, 144, .inr (.inl (lbD F T nm lo up (lbA yb 12) d))))]) [0, 6] (by decide) rfl
              have hFc := va_free (wc := [(aM, .inr (7, [.int th, .int (nI n), .int (nI cnt), .ref aMF, .ref aMT, .ref aMN, .ref aML, .ref aMU, .int (nI ml), .ref aMB, .int (nI sg), .int (nI rm), .int (nI mdg), .int (nI mnb), .int (bI mng), .ref aMf, .ref aMt, .ref aMn, .ref aMl, .ref aMu, .ref aMP, .ref aMD, .int (nI lk), .ref aMC, .ref aMO, .int gn, .int gl, .int gg, .ref aMY, .int nn, .int nl, .int nu, .ref aMS, .long hs])), (aMY, .inl (cyJ, 144, .inr (.inl (lbD F T nm lo up (lbA yb 12) d))))]) hD hS hA [0, 6] rfl
              refine va_callv (va_runV (As := [.int (nI (F d)), .int (nI (T d)), .long (((nm d) + (up d)).toInt64)]) (rest := []) ⟨hx, hb, hml, hown, hts⟩ (c_X7_bound l dC dI cyI cyZ cyJ cyD aM aMF aMT aMN aML aMU aMB aMf aMt aMn aMl aMu aMP aMD aMC aMO aMY aMS H.size th n cnt ml sg rm mdg mnb mng lk gn gl gg nn nl nu hs (lbD F T nm lo up (lbA yb 12) d) (F d) (T d) (((nm d) + (up d)).toInt64) g68 g69) (cwV 3 hts gX7_layBounds_X7_bound rfl rfl rfl (by decide +kernel) ⟨Nat.le_of_ble_eq_true rfl, Nat.le_of_ble_eq_true rfl⟩) ⟨fun a U g mk q => by obtain ⟨q0, q1, qP, qK, qD⟩ := q; exact ⟨q0, q1, qP, va_K.moved (u := U) (U := U.calling g mk a) (Vm.Alike.refl U.vm) qK, qD⟩, va_recv hK hPc (ci := 7) (q0 := 0) rfl rfl, fun U hU hW => ⟨rfl, by rw [hU], by rw [hU]; exact hPc, va_K.moved hW.alike hK, hDc.weaken (fun _ _ _ _ => trivial)⟩⟩ rfl rfl hl.1 rfl (lv_room (Nat.le_of_ble_eq_true rfl)) dX7_layBounds_88 ⟨Nat.le_of_ble_eq_true rfl, Nat.le_of_ble_eq_true rfl⟩) hS (fun q _ h => hFc q h) hFc (fun  u t H1 locs ht hvm hw hB hz1 hk1 hS => ?_)
              obtain ⟨hP1, hK1, hD1⟩ := hB
              rw [ht] at hP1
              obtain ⟨hP, hD⟩ := va_join (wr := [(aMF, .inl (cyI, 20, .inl (fun j_ => nI (F j_)))), (aMT, .inl (cyI, 20, .inl (fun j_ => nI (T j_)))), (aMN, .inl (cyI, 20, .inl nm)), (aML, .inl (cyI, 20, .inl lo)), (aMU, .inl (cyI, 20, .inl up))]) (w1 := [(aM, .inr (7, [.int th, .int (nI n), .int (nI cnt), .ref aMF, .ref aMT, .ref aMN, .ref aML, .ref aMU, .int (nI ml), .ref aMB, .int (nI sg), .int (nI rm), .int (nI mdg), .int (nI mnb), .int (bI mng), .ref aMf, .ref aMt, .ref aMn, .ref aMl, .ref aMu, .ref aMP, .ref aMD, .int (nI lk), .ref aMC, .ref aMO, .int gn, .int gl, .int gg, .ref aMY, .int nn, .int nl, .int nu, .ref aMS, .long hs])), (aMY, .inl (cyJ, 144, .inr (.inl (bnd (lbD F T nm lo up (lbA yb 12) d) (F d) (T d) (((nm d) + (up d)).toInt64)))))]) hP hD [0, 6] [1, 2, 3, 4, 5] rfl rfl (by decide) (by decide) hk1 hFc hP1 hD1
              clear hP1 hD1 hK1 hPc hDc hFc hk1 hz1 hvm ht u t
              generalize H1 = H at hP hS ⊢
              have hP : va_P (dC, dI) vwCl [(aMF, .inl (cyI, 20, .inl (fun j_ => nI (F j_)))), (aMT, .inl (cyI, 20, .inl (fun j_ => nI (T j_)))), (aMN, .inl (cyI, 20, .inl nm)), (aML, .inl (cyI, 20, .inl lo)), (aMU, .inl (cyI, 20, .inl up)), (aM, .inr (7, [.int th, .int (nI n), .int (nI cnt), .ref aMF, .ref aMT, .ref aMN, .ref aML, .ref aMU, .int (nI ml), .ref aMB, .int (nI sg), .int (nI rm), .int (nI mdg), .int (nI mnb), .int (bI mng), .ref aMf, .ref aMt, .ref aMn, .ref aMl, .ref aMu, .ref aMP, .ref aMD, .int (nI lk), .ref aMC, .ref aMO, .int gn, .int gl, .int gg, .ref aMY, .int nn, .int nl, .int nu, .ref aMS, .long hs])), (aMY, .inl (cyJ, 144, .inr (.inl (bnd (lbD F T nm lo up (lbA yb 12) d) (F d) (T d) (((nm d) + (up d)).toInt64)))))] H := hP
              have hD : va_D A [(aMF, .inl (cyI, 20, .inl (fun j_ => nI (F j_)))), (aMT, .inl (cyI, 20, .inl (fun j_ => nI (T j_)))), (aMN, .inl (cyI, 20, .inl nm)), (aML, .inl (cyI, 20, .inl lo)), (aMU, .inl (cyI, 20, .inl up)), (aM, .inr (7, [.int th, .int (nI n), .int (nI cnt), .ref aMF, .ref aMT, .ref aMN, .ref aML, .ref aMU, .int (nI ml), .ref aMB, .int (nI sg), .int (nI rm), .int (nI mdg), .int (nI mnb), .int (bI mng), .ref aMf, .ref aMt, .ref aMn, .ref aMl, .ref aMu, .ref aMP, .ref aMD, .int (nI lk), .ref aMC, .ref aMO, .int gn, .int gl, .int gg, .ref aMY, .int nn, .int nl, .int nu, .ref aMS, .long hs])), (aMY, .inl (cyJ, 144, .inr (.inl (bnd (lbD F T nm lo up (lbA yb 12) d) (F d) (T d) (((nm d) + (up d)).toInt64)))))] := hD
              refine lv_aload_n hx hb dX7_layBounds_91 rfl (lv_at hl 0 rfl) ?_
              refine lv_aload_n hx hb dX7_layBounds_92 rfl (lv_at hl 0 rfl) ?_
              refine va_get (D := (dC, dI)) (ci := 7) (v := .ref aMT) (C := RX7) (T := TX7) (N := 34) hx hb hts iX7 hown hK hP 5 rfl rfl 4 (by decide) w5 (fun _ h9 => h9) rfl dX7_layBounds_93 ?_
              refine lv_iload_n hx hb dX7_layBounds_96 rfl (lv_at hl 1 rfl) ?_
              have h70 : vp_in (nI d) 20 := by first | exact vp_in_nI (by omega) (by omega) | assumption
              refine va_iald hx hb hK hP 1 0 rfl rfl h70 dX7_layBounds_97 ?_
              refine lv_topi (fun x71 e72 => ?_)
              obtain rfl : x71 = (nI (T d)) := by rw [e72, nI_clamp (by omega)]
              clear e72
              refine lv_aload_n hx hb dX7_layBounds_98 rfl (lv_at hl 0 rfl) ?_
              refine va_get (D := (dC, dI)) (ci := 7) (v := .ref aMF) (C := RX7) (T := TX7) (N := 34) hx hb hts iX7 hown hK hP 5 rfl rfl 3 (by decide) w4 (fun _ h9 => h9) rfl dX7_layBounds_99 ?_
              refine lv_iload_n hx hb dX7_layBounds_102 rfl (lv_at hl 1 rfl) ?_
              have h73 : vp_in (nI d) 20 := by first | exact vp_in_nI (by omega) (by omega) | assumption
              refine va_iald hx hb hK hP 0 0 rfl rfl h73 dX7_layBounds_103 ?_
              refine lv_topi (fun x74 e75 => ?_)
              obtain rfl : x74 = (nI (F d)) := by rw [e75, nI_clamp (by omega)]
              clear e75
              refine lv_aload_n hx hb dX7_layBounds_104 rfl (lv_at hl 0 rfl) ?_
              refine va_get (D := (dC, dI)) (ci := 7) (v := .ref aMN) (C := RX7) (T := TX7) (N := 34) hx hb hts iX7 hown hK hP 5 rfl rfl 5 (by decide) w6 (fun _ h9 => h9) rfl dX7_layBounds_105 ?_
              refine lv_iload_n hx hb dX7_layBounds_108 rfl (lv_at hl 1 rfl) ?_
              have h76 : vp_in (nI d) 20 := by first | exact vp_in_nI (by omega) (by omega) | assumption
              refine va_iald hx hb hK hP 2 0 rfl rfl h76 dX7_layBounds_109 ?_
              refine lv_topi (fun x77 e78 => ?_)
              obtain rfl : x77 = (nm d) := by rw [e78, nI_clamp (by omega)]
              clear e78
              refine lv_aload_n hx hb dX7_layBounds_110 rfl (lv_at hl 0 rfl) ?_
              refine va_get (D := (dC, dI)) (ci := 7) (v := .ref aML) (C := RX7) (T := TX7) (N := 34) hx hb hts iX7 hown hK hP 5 rfl rfl 6 (by decide) w8 (fun _ h9 => h9) rfl dX7_layBounds_111 ?_
              refine lv_iload_n hx hb dX7_layBounds_114 rfl (lv_at hl 1 rfl) ?_
              have h79 : vp_in (nI d) 20 := by first | exact vp_in_nI (by omega) (by omega) | assumption
              refine va_iald hx hb hK hP 3 0 rfl rfl h79 dX7_layBounds_115 ?_
              refine lv_topi (fun x80 e81 => ?_)
              obtain rfl : x80 = (lo d) := by rw [e81, nI_clamp (by omega)]
              clear e81
              refine lv_iadd hx hb dX7_layBounds_116 ?_
              refine lv_ineg hx hb dX7_layBounds_117 ?_
              refine lv_i2l (v := (-((nm d) + (lo d))).toInt64) hx hb dX7_layBounds_118 rfl ?_
              have g82 : (T d) < 12 := by first | assumption | omega | exact vp_in_nI (by omega) (by omega)
              have g83 : (F d) < 12 := by first | assumption | omega | exact vp_in_nI (by omega) (by omega)
              have hPc := hP.sub (ws' := [(aM, .inr (7, [.int th, .int (nI n), .int (nI cnt), .ref aMF, .ref aMT, .ref aMN, .ref aML, .ref aMU, .int (nI ml), .ref aMB, .int (nI sg), .int (nI rm), .int (nI mdg), .int (nI mnb), .int (bI mng), .ref aMf, .ref aMt, .ref aMn, .ref aMl, .ref aMu, .ref aMP, .ref aMD, .int (nI lk), .ref aMC, .ref aMO, .int gn, .int gl, .int gg, .ref aMY, .int nn, .int nl, .int nu, .ref aMS, .long hs])), (aMY, .inl (cyJ, 144, .inr (.inl (bnd (lbD F T nm lo up (lbA yb 12) d) (F d) (T d) (((nm d) + (up d)).toInt64)))))]) [5, 6] rfl
              have hDc := hD.sub (ws' := [(aM, .inr (7, [.int th, .int (nI n), .int (nI cnt), .ref aMF, .ref aMT, .ref aMN, .ref aML, .ref aMU, .int (nI ml), .ref aMB, .int (nI sg), .int (nI rm), .int (nI mdg), .int (nI mnb), .int (bI mng), .ref aMf, .ref aMt, .ref aMn, .ref aMl, .ref aMu, .ref aMP, .ref aMD, .int (nI lk), .ref aMC, .ref aMO, .int gn, .int gl, .int gg, .ref aMY, .int nn, .int nl, .int nu, .ref aMS, .long hs])), (aMY, .inl (cyJ, 144, .inr (.inl (bnd (lbD F T nm lo up (lbA yb 12) d) (F d) (T d) (((nm d) + (up d)).toInt64)))))]) [5, 6] (by decide) rfl
              have hFc := va_free (wc := [(aM, .inr (7, [.int th, .int (nI n), .int (nI cnt), .ref aMF, .ref aMT, .ref aMN, .ref aML, .ref aMU, .int (nI ml), .ref aMB, .int (nI sg), .int (nI rm), .int (nI mdg), .int (nI mnb), .int (bI mng), .ref aMf, .ref aMt, .ref aMn, .ref aMl, .ref aMu, .ref aMP, .ref aMD, .int (nI lk), .ref aMC, .ref aMO, .int gn, .int gl, .int gg, .ref aMY, .int nn, .int nl, .int nu, .ref aMS, .long hs])), (aMY, .inl (cyJ, 144, .inr (.inl (bnd (lbD F T nm lo up (lbA yb 12) d) (F d) (T d) (((nm d) + (up d)).toInt64)))))]) hD hS hA [5, 6] rfl
              refine va_callv (va_runV (As := [.int (nI (T d)), .int (nI (F d)), .long ((-((nm d) + (lo d))).toInt64)]) (rest := []) ⟨hx, hb, hml, hown, hts⟩ (c_X7_bound l dC dI cyI cyZ cyJ cyD aM aMF aMT aMN aML aMU aMB aMf aMt aMn aMl aMu aMP aMD aMC aMO aMY aMS H.size th n cnt ml sg rm mdg mnb mng lk gn gl gg nn nl nu hs (bnd (lbD F T nm lo up (lbA yb 12) d) (F d) (T d) (((nm d) + (up d)).toInt64)) (T d) (F d) ((-((nm d) + (lo d))).toInt64) g82 g83) (cwV 3 hts gX7_layBounds_X7_bound rfl rfl rfl (by decide +kernel) ⟨Nat.le_of_ble_eq_true rfl, Nat.le_of_ble_eq_true rfl⟩) ⟨fun a U g mk q => by obtain ⟨q0, q1, qP, qK, qD⟩ := q; exact ⟨q0, q1, qP, va_K.moved (u := U) (U := U.calling g mk a) (Vm.Alike.refl U.vm) qK, qD⟩, va_recv hK hPc (ci := 7) (q0 := 0) rfl rfl, fun U hU hW => ⟨rfl, by rw [hU], by rw [hU]; exact hPc, va_K.moved hW.alike hK, hDc.weaken (fun _ _ _ _ => trivial)⟩⟩ rfl rfl hl.1 rfl (lv_room (Nat.le_of_ble_eq_true rfl)) dX7_layBounds_119 ⟨Nat.le_of_ble_eq_true rfl, Nat.le_of_ble_eq_true rfl⟩) hS (fun q _ h => hFc q h) hFc (fun  u t H1 locs ht hvm hw hB hz1 hk1 hS => ?_)
              obtain ⟨hP1, hK1, hD1⟩ := hB
              rw [ht] at hP1
              obtain ⟨hP, hD⟩ := va_join (wr := [(aMF, .inl (cyI, 20, .inl (fun j_ => nI (F j_)))), (aMT, .inl (cyI, 20, .inl (fun j_ => nI (T j_)))), (aMN, .inl (cyI, 20, .inl nm)), (aML, .inl (cyI, 20, .inl lo)), (aMU, .inl (cyI, 20, .inl up))]) (w1 := [(aM, .inr (7, [.int th, .int (nI n), .int (nI cnt), .ref aMF, .ref aMT, .ref aMN, .ref aML, .ref aMU, .int (nI ml), .ref aMB, .int (nI sg), .int (nI rm), .int (nI mdg), .int (nI mnb), .int (bI mng), .ref aMf, .ref aMt, .ref aMn, .ref aMl, .ref aMu, .ref aMP, .ref aMD, .int (nI lk), .ref aMC, .ref aMO, .int gn, .int gl, .int gg, .ref aMY, .int nn, .int nl, .int nu, .ref aMS, .long hs])), (aMY, .inl (cyJ, 144, .inr (.inl (bnd (bnd (lbD F T nm lo up (lbA yb 12) d) (F d) (T d) (((nm d) + (up d)).toInt64)) (T d) (F d) ((-((nm d) + (lo d))).toInt64)))))]) hP hD [5, 6] [0, 1, 2, 3, 4] rfl rfl (by decide) (by decide) hk1 hFc hP1 hD1
              clear hP1 hD1 hK1 hPc hDc hFc hk1 hz1 hvm ht u t
              generalize H1 = H at hP hS ⊢
              have hP : va_P (dC, dI) vwCl [(aMF, .inl (cyI, 20, .inl (fun j_ => nI (F j_)))), (aMT, .inl (cyI, 20, .inl (fun j_ => nI (T j_)))), (aMN, .inl (cyI, 20, .inl nm)), (aML, .inl (cyI, 20, .inl lo)), (aMU, .inl (cyI, 20, .inl up)), (aM, .inr (7, [.int th, .int (nI n), .int (nI cnt), .ref aMF, .ref aMT, .ref aMN, .ref aML, .ref aMU, .int (nI ml), .ref aMB, .int (nI sg), .int (nI rm), .int (nI mdg), .int (nI mnb), .int (bI mng), .ref aMf, .ref aMt, .ref aMn, .ref aMl, .ref aMu, .ref aMP, .ref aMD, .int (nI lk), .ref aMC, .ref aMO, .int gn, .int gl, .int gg, .ref aMY, .int nn, .int nl, .int nu, .ref aMS, .long hs])), (aMY, .inl (cyJ, 144, .inr (.inl (bnd (bnd (lbD F T nm lo up (lbA yb 12) d) (F d) (T d) (((nm d) + (up d)).toInt64)) (T d) (F d) ((-((nm d) + (lo d))).toInt64)))))] H := hP
              have hD : va_D A [(aMF, .inl (cyI, 20, .inl (fun j_ => nI (F j_)))), (aMT, .inl (cyI, 20, .inl (fun j_ => nI (T j_)))), (aMN, .inl (cyI, 20, .inl nm)), (aML, .inl (cyI, 20, .inl lo)), (aMU, .inl (cyI, 20, .inl up)), (aM, .inr (7, [.int th, .int (nI n), .int (nI cnt), .ref aMF, .ref aMT, .ref aMN, .ref aML, .ref aMU, .int (nI ml), .ref aMB, .int (nI sg), .int (nI rm), .int (nI mdg), .int (nI mnb), .int (bI mng), .ref aMf, .ref aMt, .ref aMn, .ref aMl, .ref aMu, .ref aMP, .ref aMD, .int (nI lk), .ref aMC, .ref aMO, .int gn, .int gl, .int gg, .ref aMY, .int nn, .int nl, .int nu, .ref aMS, .long hs])), (aMY, .inl (cyJ, 144, .inr (.inl (bnd (bnd (lbD F T nm lo up (lbA yb 12) d) (F d) (T d) (((nm d) + (up d)).toInt64)) (T d) (F d) ((-((nm d) + (lo d))).toInt64)))))] := hD
              refine lv_iinc (v := nI (d + 1)) (lv' := [(1, .int (nI (d + 1))), (0, .ref aM)]) hx hb dX7_layBounds_122 hl (k := 1) rfl (nI_add d 1) (by decide) rfl (fun ls hl => ?_)
              refine lv_goto (tgt := 53) hx hb dX7_layBounds_125 (by decide) ?_
              have q84 : (lbD F T nm lo up (lbA yb 12) (d + 1)) = (bnd (bnd (lbD F T nm lo up (lbA yb 12) d) (F d) (T d) (((nm d) + (up d)).toInt64)) (T d) (F d) ((-((nm d) + (lo d))).toInt64)) := by rfl
              exact ih53 (d + 1) (by omega) (by first | assumption | omega) _ _ _ (by first | (rw [q84]; exact hP.sub [5, 0, 1, 2, 3, 4, 6] rfl) | (simp only [q84]; exact hP.sub [5, 0, 1, 2, 3, 4, 6] rfl) | exact hP.sub [5, 0, 1, 2, 3, 4, 6] rfl) (by first | (rw [q84]; exact hD.sub [5, 0, 1, 2, 3, 4, 6] (by decide) rfl) | (simp only [q84]; exact hD.sub [5, 0, 1, 2, 3, 4, 6] (by decide) rfl) | exact hD.sub [5, 0, 1, 2, 3, 4, 6] (by decide) rfl) hS (lv_sub hl [1, 0] rfl)
        have q85 : (lbD F T nm lo up (lbA yb 12) 0) = (lbA yb a) := by simp only [lbD]; rw [e1]
        have q86 : (nI 0) = 0 := by first | rfl | simp [*] | (simp only [*]; done)
        exact k53 (cnt - 0 + 1) 0 (Nat.lt_succ_self _) (by first | assumption | omega) _ _ _ (by first | (rw [q85]; exact hP) | (simp only [q85]; exact hP) | exact hP) (by first | (rw [q85]; exact hD) | (simp only [q85]; exact hD) | exact hD) hS (by first | (rw [q86]; exact lv_sub hl [1, 0] rfl) | (simp only [q86]; exact lv_sub hl [1, 0] rfl) | exact lv_sub hl [1, 0] rfl)
      · have c5 := n_nle (a := 12) (b := a) (by omega) (by omega) c5
        refine lv_iconst (v := 0) hx hb dX7_layBounds_8 (by decide) ?_
        refine lv_istore_n (lv' := [(2, .int 0), (0, .ref aM), (1, .int (nI a))]) hx hb dX7_layBounds_9 rfl hl (by decide) rfl (fun ls hl => ?_)
        have k10 : ∀ (fuel : Nat) (b : Nat) (hfuel : 12 - b < fuel) (hb1 : b ≤ 12) (H : Heap) (locs : List Loc) (ls : Array Slot), va_P (dC, dI) vwCl [(aM, .inr (7, [.int th, .int (nI n), .int (nI cnt), .ref aMF, .ref aMT, .ref aMN, .ref aML, .ref aMU, .int (nI ml), .ref aMB, .int (nI sg), .int (nI rm), .int (nI mdg), .int (nI mnb), .int (bI mng), .ref aMf, .ref aMt, .ref aMn, .ref aMl, .ref aMu, .ref aMP, .ref aMD, .int (nI lk), .ref aMC, .ref aMO, .int gn, .int gl, .int gg, .ref aMY, .int nn, .int nl, .int nu, .ref aMS, .long hs])), (aMF, .inl (cyI, 20, .inl (fun j_ => nI (F j_)))), (aMT, .inl (cyI, 20, .inl (fun j_ => nI (T j_)))), (aMN, .inl (cyI, 20, .inl nm)), (aML, .inl (cyI, 20, .inl lo)), (aMU, .inl (cyI, 20, .inl up)), (aMY, .inl (cyJ, 144, .inr (.inl (lbB a (lbA yb a) b))))] H → va_D A [(aM, .inr (7, [.int th, .int (nI n), .int (nI cnt), .ref aMF, .ref aMT, .ref aMN, .ref aML, .ref aMU, .int (nI ml), .ref aMB, .int (nI sg), .int (nI rm), .int (nI mdg), .int (nI mnb), .int (bI mng), .ref aMf, .ref aMt, .ref aMn, .ref aMl, .ref aMu, .ref aMP, .ref aMD, .int (nI lk), .ref aMC, .ref aMO, .int gn, .int gl, .int gg, .ref aMY, .int nn, .int nl, .int nu, .ref aMS, .long hs])), (aMF, .inl (cyI, 20, .inl (fun j_ => nI (F j_)))), (aMT, .inl (cyI, 20, .inl (fun j_ => nI (T j_)))), (aMN, .inl (cyI, 20, .inl nm)), (aML, .inl (cyI, 20, .inl lo)), (aMU, .inl (cyI, 20, .inl up)), (aMY, .inl (cyJ, 144, .inr (.inl (lbB a (lbA yb a) b))))] → va_S A s.heap H locs → lv_has ls 4 [(0, .ref aM), (1, .int (nI a)), (2, .int (nI b))] → W pM l eM (headSpec wsX7_layBounds ({ frames := 1, cells := 0, slots := 0, locals := 24 } : Room)).room s mM ([.ref aM] : List Value).toArray blM mtM cM H locs 0 0 Q (F0 mM 10 ls []) := by
          intro fuel
          induction fuel with
          | zero => intro b hfuel; exact absurd hfuel (Nat.not_lt_zero _)
          | succ fuel ih10 =>
            intro b hfuel hb1 H locs ls hP hD hS hl
            refine lv_iload_n hx hb dX7_layBounds_10 rfl (lv_at hl 2 rfl) ?_
            refine lv_bipush (v := 12) hx hb dX7_layBounds_11 (by decide) ?_
            refine lv_icmp_ge (tgt := 45) hx hb dX7_layBounds_13 (by decide) (fun c13 => ?_) (fun c13 => ?_)
            · have c13 := n_le (a := 12) (b := b) (by omega) (by omega) c13
              have e2 : b = 12 := (by omega)
              refine lv_iinc (v := nI (a + 1)) (lv' := [(1, .int (nI (a + 1))), (0, .ref aM), (2, .int (nI b))]) hx hb dX7_layBounds_45 hl (k := 1) rfl (nI_add a 1) (by decide) rfl (fun ls hl => ?_)
              refine lv_goto (tgt := 2) hx hb dX7_layBounds_48 (by decide) ?_
              have q87 : (lbA yb (a + 1)) = (lbB a (lbA yb a) b) := by simp only [lbA]; rw [e2]
              exact ih2 (a + 1) (by omega) (by first | assumption | omega) _ _ _ (by first | (rw [q87]; exact hP) | (simp only [q87]; exact hP) | exact hP) (by first | (rw [q87]; exact hD) | (simp only [q87]; exact hD) | exact hD) hS (lv_sub hl [1, 0] rfl)
            · have c13 := n_nle (a := 12) (b := b) (by omega) (by omega) c13
              refine lv_aload_n hx hb dX7_layBounds_16 rfl (lv_at hl 0 rfl) ?_
              refine va_get (D := (dC, dI)) (ci := 7) (v := .ref aMY) (C := RX7) (T := TX7) (N := 34) hx hb hts iX7 hown hK hP 0 rfl rfl 28 (by decide) w2 (fun _ h9 => h9) rfl dX7_layBounds_17 ?_
              refine lv_bipush (v := 12) hx hb dX7_layBounds_20 (by decide) ?_
              refine lv_iload_n hx hb dX7_layBounds_22 rfl (lv_at hl 1 rfl) ?_
              refine lv_imul hx hb dX7_layBounds_23 ?_
              refine lv_topi (fun x88 e89 => ?_)
              obtain rfl : x88 = (nI (12 * a)) := by rw [e89]; exact pk_mul 12 a
              clear e89
              refine lv_iload_n hx hb dX7_layBounds_24 rfl (lv_at hl 2 rfl) ?_
              refine lv_iadd hx hb dX7_layBounds_25 ?_
              refine lv_topi (fun x90 e91 => ?_)
              obtain rfl : x90 = (nI ((12 * a) + b)) := by rw [e91]; exact nI_add (12 * a) b
              clear e91
              refine lv_iload_n hx hb dX7_layBounds_26 rfl (lv_at hl 1 rfl) ?_
              refine lv_iload_n hx hb dX7_layBounds_27 rfl (lv_at hl 2 rfl) ?_
              have k38 : ∀ (v8 : Int64) (hv8 : v8 = if a = b then (0 : Int64) else 1000000000000) (H : Heap) (locs : List Loc) (ls : Array Slot), va_P (dC, dI) vwCl [(aM, .inr (7, [.int th, .int (nI n), .int (nI cnt), .ref aMF, .ref aMT, .ref aMN, .ref aML, .ref aMU, .int (nI ml), .ref aMB, .int (nI sg), .int (nI rm), .int (nI mdg), .int (nI mnb), .int (bI mng), .ref aMf, .ref aMt, .ref aMn, .ref aMl, .ref aMu, .ref aMP, .ref aMD, .int (nI lk), .ref aMC, .ref aMO, .int gn, .int gl, .int gg, .ref aMY, .int nn, .int nl, .int nu, .ref aMS, .long hs])), (aMF, .inl (cyI, 20, .inl (fun j_ => nI (F j_)))), (aMT, .inl (cyI, 20, .inl (fun j_ => nI (T j_)))), (aMN, .inl (cyI, 20, .inl nm)), (aML, .inl (cyI, 20, .inl lo)), (aMU, .inl (cyI, 20, .inl up)), (aMY, .inl (cyJ, 144, .inr (.inl (lbB a (lbA yb a) b))))] H → va_D A [(aM, .inr (7, [.int th, .int (nI n), .int (nI cnt), .ref aMF, .ref aMT, .ref aMN, .ref aML, .ref aMU, .int (nI ml), .ref aMB, .int (nI sg), .int (nI rm), .int (nI mdg), .int (nI mnb), .int (bI mng), .ref aMf, .ref aMt, .ref aMn, .ref aMl, .ref aMu, .ref aMP, .ref aMD, .int (nI lk), .ref aMC, .ref aMO, .int gn, .int gl, .int gg, .ref aMY, .int nn, .int nl, .int nu, .ref aMS, .long hs])), (aMF, .inl (cyI, 20, .inl (fun j_ => nI (F j_)))), (aMT, .inl (cyI, 20, .inl (fun j_ => nI (T j_)))), (aMN, .inl (cyI, 20, .inl nm)), (aML, .inl (cyI, 20, .inl lo)), (aMU, .inl (cyI, 20, .inl up)), (aMY, .inl (cyJ, 144, .inr (.inl (lbB a (lbA yb a) b))))] → va_S A s.heap H locs → lv_has ls 4 [(0, .ref aM), (1, .int (nI a)), (2, .int (nI b))] → W pM l eM (headSpec wsX7_layBounds ({ frames := 1, cells := 0, slots := 0, locals := 24 } : Room)).room s mM ([.ref aM] : List Value).toArray blM mtM cM H locs 0 0 Q (F0 mM 38 ls [.long v8, .int (nI ((12 * a) + b)), .ref aMY]) := by
                intro v8 hv8 H locs ls hP hD hS hl
                have h92 : vp_in (nI ((12 * a) + b)) 144 := by first | exact vp_in_nI (by omega) (by omega) | assumption
                refine va_last hx hb hK hP hD hS 6 2 rfl rfl h92 dX7_layBounds_38 (fun H locs hP hD hS => ?_)
                rw [nI_clamp (by omega)] at hP hD
                have hP : va_P (dC, dI) vwCl [(aM, .inr (7, [.int th, .int (nI n), .int (nI cnt), .ref aMF, .ref aMT, .ref aMN, .ref aML, .ref aMU, .int (nI ml), .ref aMB, .int (nI sg), .int (nI rm), .int (nI mdg), .int (nI mnb), .int (bI mng), .ref aMf, .ref aMt, .ref aMn, .ref aMl, .ref aMu, .ref aMP, .ref aMD, .int (nI lk), .ref aMC, .ref aMO, .int gn, .int gl, .int gg, .ref aMY, .int nn, .int nl, .int nu, .ref aMS, .long hs])), (aMF, .inl (cyI, 20, .inl (fun j_ => nI (F j_)))), (aMT, .inl (cyI, 20, .inl (fun j_ => nI (T j_)))), (aMN, .inl (cyI, 20, .inl nm)), (aML, .inl (cyI, 20, .inl lo)), (aMU, .inl (cyI, 20, .inl up)), (aMY, .inl (cyJ, 144, .inr (.inl (vp_updL (lbB a (lbA yb a) b) ((12 * a) + b) v8))))] H := hP
                have hD : va_D A [(aM, .inr (7, [.int th, .int (nI n), .int (nI cnt), .ref aMF, .ref aMT, .ref aMN, .ref aML, .ref aMU, .int (nI ml), .ref aMB, .int (nI sg), .int (nI rm), .int (nI mdg), .int (nI mnb), .int (bI mng), .ref aMf, .ref aMt, .ref aMn, .ref aMl, .ref aMu, .ref aMP, .ref aMD, .int (nI lk), .ref aMC, .ref aMO, .int gn, .int gl, .int gg, .ref aMY, .int nn, .int nl, .int nu, .ref aMS, .long hs])), (aMF, .inl (cyI, 20, .inl (fun j_ => nI (F j_)))), (aMT, .inl (cyI, 20, .inl (fun j_ => nI (T j_)))), (aMN, .inl (cyI, 20, .inl nm)), (aML, .inl (cyI, 20, .inl lo)), (aMU, .inl (cyI, 20, .inl up)), (aMY, .inl (cyJ, 144, .inr (.inl (vp_updL (lbB a (lbA yb a) b) ((12 * a) + b) v8))))] := hD
                refine lv_iinc (v := nI (b + 1)) (lv' := [(2, .int (nI (b + 1))), (0, .ref aM), (1, .int (nI a))]) hx hb dX7_layBounds_39 hl (k := 2) rfl (nI_add b 1) (by decide) rfl (fun ls hl => ?_)
                refine lv_goto (tgt := 10) hx hb dX7_layBounds_42 (by decide) ?_
                have q93 : (lbB a (lbA yb a) (b + 1)) = (vp_updL (lbB a (lbA yb a) b) ((12 * a) + b) v8) := by simp only [lbB, hv8]
                exact ih10 (b + 1) (by omega) (by first | assumption | omega) _ _ _ (by first | (rw [q93]; exact hP) | (simp only [q93]; exact hP) | exact hP) (by first | (rw [q93]; exact hD) | (simp only [q93]; exact hD) | exact hD) hS (lv_sub hl [1, 2, 0] rfl)
              refine lv_icmp_ne (tgt := 35) hx hb dX7_layBounds_28 (by decide) (fun c28 => ?_) (fun c28 => ?_)
              · have c28 := n_ne (a := a) (b := b) (by omega) (by omega) c28
                refine lv_ldc2 (v := 1000000000000) hx hb hown w3 dX7_layBounds_35 ?_
                have q94 : (if a = b then (0 : Int64) else 1000000000000) = 1000000000000 := by first | (rw [if_pos c28]; done) | (rw [if_neg c28]; done)
                refine W.eq (g2 := F0 mM 38 ls [.long (if a = b then (0 : Int64) else 1000000000000), .int (nI ((12 * a) + b)), .ref aMY]) (by rw [q94]) ?_
                exact k38 (if a = b then (0 : Int64) else 1000000000000) (by rfl) _ _ _ (hP) (hD) hS (lv_sub hl [0, 1, 2] rfl)
              · have c28 := n_eq (a := a) (b := b) (by omega) (by omega) c28
                refine lv_lconst (v := 0) hx hb dX7_layBounds_31 (by decide) ?_
                refine lv_goto (tgt := 38) hx hb dX7_layBounds_32 (by decide) ?_
                have q95 : (if a = b then (0 : Int64) else 1000000000000) = 0 := by first | (rw [if_pos c28]; done) | (rw [if_neg c28]; done)
                refine W.eq (g2 := F0 mM 38 ls [.long (if a = b then (0 : Int64) else 1000000000000), .int (nI ((12 * a) + b)), .ref aMY]) (by rw [q95]) ?_
                exact k38 (if a = b then (0 : Int64) else 1000000000000) (by rfl) _ _ _ (hP) (hD) hS (lv_sub hl [0, 1, 2] rfl)
        have q96 : (lbB a (lbA yb a) 0) = (lbA yb a) := by rfl
        have q97 : (nI 0) = 0 := by first | rfl | simp [*] | (simp only [*]; done)
        exact k10 (12 - 0 + 1) 0 (Nat.lt_succ_self _) (by first | assumption | omega) _ _ _ (by first | (rw [q96]; exact hP) | (simp only [q96]; exact hP) | exact hP) (by first | (rw [q96]; exact hD) | (simp only [q96]; exact hD) | exact hD) hS (by first | (rw [q97]; exact lv_sub hl [1, 2, 0] rfl) | (simp only [q97]; exact lv_sub hl [1, 2, 0] rfl) | exact lv_sub hl [1, 2, 0] rfl)
  have q98 : (lbA yb 0) = yb := by rfl
  have q99 : (nI 0) = 0 := by first | rfl | simp [*] | (simp only [*]; done)
  exact k2 (12 - 0 + 1) 0 (Nat.lt_succ_self _) (by first | assumption | omega) _ _ _ (by first | (rw [q98]; exact hP) | (simp only [q98]; exact hP) | exact hP) (by first | (rw [q98]; exact hD) | (simp only [q98]; exact hD) | exact hD) hS (by first | (rw [q99]; exact lv_sub hl [1, 0] rfl) | (simp only [q99]; exact lv_sub hl [1, 0] rfl) | exact lv_sub hl [1, 0] rfl)
