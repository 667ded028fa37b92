
def oiI (wy : Nat → Int32) (b : Nat) : Nat → Nat → Int32
  | 0 => wy
  | i + 1 => upd (oiI wy b i) i (if i = b then 20 else -1)
theorem oiI_at (wy : Nat → Int32) (b : Nat) : ∀ i j, oiI wy b i j = if j < i then (if j = b then 20 else -1) else wy j := by
  intro i
  induction i with
  | zero => intro j; simp [oiI]
  | succ i ih =>
    intro j
    unfold oiI upd
    by_cases h : j = i
    · subst h; simp
    · rw [if_neg h, ih]
      have : j < i + 1 ↔ j < i := by omega
      simp [this]
def owS (F T : Nat → Nat) (dd : Nat → Bool) (d : Nat) (O : Nat → Int32) : Nat → Int32 :=
  if dd d = false ∧ ¬ O (F d) = -1 ∧ O (T d) = -1 then upd O (T d) (nI d)
  else if dd d = false ∧ ¬ O (T d) = -1 ∧ O (F d) = -1 then upd O (F d) (nI d) else O
def owI (F T : Nat → Nat) (dd : Nat → Bool) (O : Nat → Int32) : Nat → Nat → Int32
  | 0 => O
  | d + 1 => owS F T dd d (owI F T dd O d)
def owR (F T : Nat → Nat) (dd : Nat → Bool) (cnt : Nat) (O : Nat → Int32) : Nat → Nat → Int32
  | 0 => O
  | r + 1 => owI F T dd (owR F T dd cnt O r) cnt
/-- the ways to b, as the reference lays them -/
def mO (F T : Nat → Nat) (dd : Nat → Bool) (n cnt b : Nat) : Nat → Int32 := owR F T dd cnt (fun i => if i = b then 20 else -1) n
theorem owS_agree {F T : Nat → Nat} {dd : Nat → Bool} {d n : Nat} {V W : Nat → Int32} (hF : F d < n) (hT : T d < n) (h : ∀ i, i < n → V i = W i) : ∀ i, i < n → owS F T dd d V i = owS F T dd d W i := by
  intro i hi
  unfold owS
  rw [h _ hF, h _ hT]
  split
  · unfold upd; split
    · rfl
    · exact h i hi
  · split
    · unfold upd; split
      · rfl
      · exact h i hi
    · exact h i hi
theorem owI_agree {F T : Nat → Nat} {dd : Nat → Bool} {cnt n : Nat} {V W : Nat → Int32} (hF : ∀ d, d < cnt → F d < n) (hT : ∀ d, d < cnt → T d < n) (h : ∀ i, i < n → V i = W i) : ∀ d, d ≤ cnt → ∀ i, i < n → owI F T dd V d i = owI F T dd W d i := by
  intro d
  induction d with
  | zero => intro _; exact h
  | succ d ih => intro hd; unfold owI; exact owS_agree (hF d (by omega)) (hT d (by omega)) (ih (by omega))
theorem owR_agree {F T : Nat → Nat} {dd : Nat → Bool} {cnt n : Nat} {V W : Nat → Int32} (hF : ∀ d, d < cnt → F d < n) (hT : ∀ d, d < cnt → T d < n) (h : ∀ i, i < n → V i = W i) : ∀ r i, i < n → owR F T dd cnt V r i = owR F T dd cnt W r i := by
  intro r
  induction r with
  | zero => exact h
  | succ r ih => unfold owR; exact owI_agree hF hT ih cnt (Nat.le_refl _)
/-- where two faces are joined, the walk from a comes to b at its K-th face, not before, over dimensions -/
def ChK (F T : Nat → Nat) (dd : Nat → Bool) (n cnt pa pb a b K : Nat) : Prop := K ≤ 12 ∧ (pa = pb → cf F T (mO F T dd n cnt b) a K = b ∧ ∀ k, k < K → cf F T (mO F T dd n cnt b) a k < n ∧ ¬ cf F T (mO F T dd n cnt b) a k = b ∧ ∃ x, x < cnt ∧ mO F T dd n cnt b (cf F T (mO F T dd n cnt b) a k) = nI x)

set_option maxHeartbeats 4000000 in
set_option maxRecDepth 100000 in
theorem c_X7_layChain (l : Launch) (dC : Nat → ClassId) (dI : Nat → Nat → Nat) (cyI cyZ cyJ cyD : ClassId) (aM aMF aMT aMN aML aMU aMB aMf aMt aMn aMl aMu aMP aMD aMC aMO aMY aMS : Nat) (zH : Nat) (th : Int32) (n : Nat) (cnt : Nat) (ml : Nat) (sg : Nat) (rm : Nat) (mdg : Nat) (mnb : Nat) (mng : Bool) (lk : Nat) (gn : Int32) (gl : Int32) (gg : Int32) (nn : Int32) (nl : Int32) (nu : Int32) (hs : Int64) (F : Nat → Nat) (T : Nat → Nat) (P : Nat → Nat) (dd : Nat → Bool) (L : Nat → Nat) (wy : Nat → Int32) (a : Nat) (b : Nat) (K : Nat) (hn : n ≤ 12) (hc : cnt ≤ 20) (hF : ∀ d_q, d_q < cnt → F d_q < n) (hT : ∀ d_q, d_q < cnt → T d_q < n) (ha : a < n) (hb0 : b < n) (hPl : ∀ i_q, i_q < n → P i_q < n) (hch : ChK F T dd n cnt (P a) (P b) a b K) : Met l yX7_layChain wsX7_layChain ({ frames := 0, cells := 0, slots := 0, locals := 0 } : Room) (va_Pc [.ref aM, .int (nI a), .int (nI b)] (fun U => U.heap.size = zH ∧ va_P (dC, dI) vwCl [(aM, .inr (7, [.int th, .int (nI n), .int (nI cnt), .ref aMF, .ref aMT, .ref aMN, .ref aML, .ref aMU, .int (nI ml), .ref aMB, .int (nI sg), .int (nI rm), .int (nI mdg), .int (nI mnb), .int (bI mng), .ref aMf, .ref aMt, .ref aMn, .ref aMl, .ref aMu, .ref aMP, .ref aMD, .int (nI lk), .ref aMC, .ref aMO, .int gn, .int gl, .int gg, .ref aMY, .int nn, .int nl, .int nu, .ref aMS, .long hs])), (aMF, .inl (cyI, 20, .inl (fun j_ => nI (F j_)))), (aMT, .inl (cyI, 20, .inl (fun j_ => nI (T j_)))), (aMP, .inl (cyI, 12, .inl (fun j_ => nI (P j_)))), (aMD, .inl (cyZ, 20, .inl (fun j_ => bI (dd j_)))), (aMC, .inl (cyI, 12, .inl (fun j_ => nI (L j_)))), (aMO, .inl (cyI, 12, .inl wy))] U.heap ∧ va_K (dC, dI) vwCl [(cyI, .int), (cyZ, .boolean), (cyJ, .long), (cyD, .double)] U ∧ va_D (fun _ => True) [(aM, .inr (7, [.int th, .int (nI n), .int (nI cnt), .ref aMF, .ref aMT, .ref aMN, .ref aML, .ref aMU, .int (nI ml), .ref aMB, .int (nI sg), .int (nI rm), .int (nI mdg), .int (nI mnb), .int (bI mng), .ref aMf, .ref aMt, .ref aMn, .ref aMl, .ref aMu, .ref aMP, .ref aMD, .int (nI lk), .ref aMC, .ref aMO, .int gn, .int gl, .int gg, .ref aMY, .int nn, .int nl, .int nu, .ref aMS, .long hs])), (aMF, .inl (cyI, 20, .inl (fun j_ => nI (F j_)))), (aMT, .inl (cyI, 20, .inl (fun j_ => nI (T j_)))), (aMP, .inl (cyI, 12, .inl (fun j_ => nI (P j_)))), (aMD, .inl (cyZ, 20, .inl (fun j_ => bI (dd j_)))), (aMC, .inl (cyI, 12, .inl (fun j_ => nI (L j_)))), (aMO, .inl (cyI, 12, .inl wy))])) (va_Qi (fun (r : Int32) (_ : Unit) => r = bI (decide (P a = P b))) (fun _ t => ∃ (L2 : Nat → Nat), ∃ (wy2 : Nat → Int32), (P a = P b → ∀ k_q, k_q < K → L2 k_q = ((mO F T dd n cnt b) (cf F T (mO F T dd n cnt b) a k_q)).toNatClampNeg) ∧ va_P (dC, dI) vwCl [(aM, .inr (7, [.int th, .int (nI n), .int (nI cnt), .ref aMF, .ref aMT, .ref aMN, .ref aML, .ref aMU, .int (nI ml), .ref aMB, .int (nI sg), .int (nI rm), .int (nI mdg), .int (nI mnb), .int (bI mng), .ref aMf, .ref aMt, .ref aMn, .ref aMl, .ref aMu, .ref aMP, .ref aMD, .int (nI (if P a = P b then K else 0)), .ref aMC, .ref aMO, .int gn, .int gl, .int gg, .ref aMY, .int nn, .int nl, .int nu, .ref aMS, .long hs])), (aMF, .inl (cyI, 20, .inl (fun j_ => nI (F j_)))), (aMT, .inl (cyI, 20, .inl (fun j_ => nI (T j_)))), (aMP, .inl (cyI, 12, .inl (fun j_ => nI (P j_)))), (aMD, .inl (cyZ, 20, .inl (fun j_ => bI (dd j_)))), (aMC, .inl (cyI, 12, .inl (fun j_ => nI (L2 j_)))), (aMO, .inl (cyI, 12, .inl wy2))] t.heap ∧ va_K (dC, dI) vwCl [(cyI, .int), (cyZ, .boolean), (cyJ, .long), (cyD, .double)] t ∧ va_D (va_A [(aM, .inr (7, [.int th, .int (nI n), .int (nI cnt), .ref aMF, .ref aMT, .ref aMN, .ref aML, .ref aMU, .int (nI ml), .ref aMB, .int (nI sg), .int (nI rm), .int (nI mdg), .int (nI mnb), .int (bI mng), .ref aMf, .ref aMt, .ref aMn, .ref aMl, .ref aMu, .ref aMP, .ref aMD, .int (nI lk), .ref aMC, .ref aMO, .int gn, .int gl, .int gg, .ref aMY, .int nn, .int nl, .int nu, .ref aMS, .long hs])), (aMF, .inl (cyI, 20, .inl (fun j_ => nI (F j_)))), (aMT, .inl (cyI, 20, .inl (fun j_ => nI (T j_)))), (aMP, .inl (cyI, 12, .inl (fun j_ => nI (P j_)))), (aMD, .inl (cyZ, 20, .inl (fun j_ => bI (dd j_)))), (aMC, .inl (cyI, 12, .inl (fun j_ => nI (L j_)))), (aMO, .inl (cyI, 12, .inl wy))] zH) [(aM, .inr (7, [.int th, .int (nI n), .int (nI cnt), .ref aMF, .ref aMT, .ref aMN, .ref aML, .ref aMU, .int (nI ml), .ref aMB, .int (nI sg), .int (nI rm), .int (nI mdg), .int (nI mnb), .int (bI mng), .ref aMf, .ref aMt, .ref aMn, .ref aMl, .ref aMu, .ref aMP, .ref aMD, .int (nI (if P a = P b then K else 0)), .ref aMC, .ref aMO, .int gn, .int gl, .int gg, .ref aMY, .int nn, .int nl, .int nu, .ref aMS, .long hs])), (aMF, .inl (cyI, 20, .inl (fun j_ => nI (F j_)))), (aMT, .inl (cyI, 20, .inl (fun j_ => nI (T j_)))), (aMP, .inl (cyI, 12, .inl (fun j_ => nI (P j_)))), (aMD, .inl (cyZ, 20, .inl (fun j_ => bI (dd j_)))), (aMC, .inl (cyI, 12, .inl (fun j_ => nI (L2 j_)))), (aMO, .inl (cyI, 12, .inl wy2))]) (va_A [(aM, .inr (7, [.int th, .int (nI n), .int (nI cnt), .ref aMF, .ref aMT, .ref aMN, .ref aML, .ref aMU, .int (nI ml), .ref aMB, .int (nI sg), .int (nI rm), .int (nI mdg), .int (nI mnb), .int (bI mng), .ref aMf, .ref aMt, .ref aMn, .ref aMl, .ref aMu, .ref aMP, .ref aMD, .int (nI lk), .ref aMC, .ref aMO, .int gn, .int gl, .int gg, .ref aMY, .int nn, .int nl, .int nu, .ref aMS, .long hs])), (aMF, .inl (cyI, 20, .inl (fun j_ => nI (F j_)))), (aMT, .inl (cyI, 20, .inl (fun j_ => nI (T j_)))), (aMP, .inl (cyI, 12, .inl (fun j_ => nI (P j_)))), (aMD, .inl (cyZ, 20, .inl (fun j_ => bI (dd j_)))), (aMC, .inl (cyI, 12, .inl (fun j_ => nI (L j_)))), (aMO, .inl (cyI, 12, .inl wy))] zH)) 0 0 (va_A [(aM, .inr (7, [.int th, .int (nI n), .int (nI cnt), .ref aMF, .ref aMT, .ref aMN, .ref aML, .ref aMU, .int (nI ml), .ref aMB, .int (nI sg), .int (nI rm), .int (nI mdg), .int (nI mnb), .int (bI mng), .ref aMf, .ref aMt, .ref aMn, .ref aMl, .ref aMu, .ref aMP, .ref aMD, .int (nI lk), .ref aMC, .ref aMO, .int gn, .int gl, .int gg, .ref aMY, .int nn, .int nl, .int nu, .ref aMS, .long hs])), (aMF, .inl (cyI, 20, .inl (fun j_ => nI (F j_)))), (aMT, .inl (cyI, 20, .inl (fun j_ => nI (T j_)))), (aMP, .inl (cyI, 12, .inl (fun j_ => nI (P j_)))), (aMD, .inl (cyZ, 20, .inl (fun j_ => bI (dd j_)))), (aMC, .inl (cyI, 12, .inl (fun j_ => nI (L j_)))), (aMO, .inl (cyI, 12, .inl wy))] zH) := by
  refine Met.ofW (cc := cX7_layChain) (maxL := 5) (ret := (some .boolean)) (by decide) rfl ?_
  intro pM eM s mM args blM mtM cM s₁ BM hml hv
  obtain ⟨rfl, hsz, hP, hK, hD0⟩ := hv
  have hx := BM.exec
  have hb := BM.bytes
  have hr := BM.returns
  have hts := atoms_spec (ws := wsX7_layChain) BM.pre
  have hown : s.vm.findClass RX7 = some mM.cls := findClass_of_methodNamed BM.named
  have hlocks := BM.notSynchronized
  have w0 := hts (.fieldLink RX7 159 "DimensionCheckerModel" "links" "I") (by decide +kernel)
  have w1 := hts (.fieldLink RX7 47 "DimensionCheckerModel" "part" "[I") (by decide +kernel)
  have w2 := hts (.fieldLink RX7 7 "DimensionCheckerModel" "faces" "I") (by decide +kernel)
  have w3 := hts (.fieldLink RX7 57 "DimensionCheckerModel" "onward" "[I") (by decide +kernel)
  have w4 := hts (.fieldLink RX7 54 "DimensionCheckerModel" "chain" "[I") (by decide +kernel)
  have w5 := hts (.fieldLink RX7 13 "DimensionCheckerModel" "from" "[I") (by decide +kernel)
  have w6 := hts (.fieldLink RX7 17 "DimensionCheckerModel" "to" "[I") (by decide +kernel)
  have w7 := hts (.fieldLink RX7 74 "DimensionCheckerModel" "many" "I") (by decide +kernel)
  have w8 := hts (.fieldLink RX7 50 "DimensionCheckerModel" "doubled" "[Z") (by decide +kernel)
  have iX7 : ∀ w ∈ wsX70, w ∈ wsX7_layChain := by decide +kernel
  subst hsz
  have hD := hD0.self (sz := s.heap.size)
  obtain ⟨Q, hQe⟩ : ∃ Q : State → Prop, Q = MQ blM (va_Qi (fun (r : Int32) (_ : Unit) => r = bI (decide (P a = P b))) (fun _ t => ∃ (L2 : Nat → Nat), ∃ (wy2 : Nat → Int32), (P a = P b → ∀ k_q, k_q < K → L2 k_q = ((mO F T dd n cnt b) (cf F T (mO F T dd n cnt b) a k_q)).toNatClampNeg) ∧ va_P (dC, dI) vwCl [(aM, .inr (7, [.int th, .int (nI n), .int (nI cnt), .ref aMF, .ref aMT, .ref aMN, .ref aML, .ref aMU, .int (nI ml), .ref aMB, .int (nI sg), .int (nI rm), .int (nI mdg), .int (nI mnb), .int (bI mng), .ref aMf, .ref aMt, .ref aMn, .ref aMl, .ref aMu, .ref aMP, .ref aMD, .int (nI (if P a = P b then K else 0)), .ref aMC, .ref aMO, .int gn, .int gl, .int gg, .ref aMY, .int nn, .int nl, .int nu, .ref aMS, .long hs])), (aMF, .inl (cyI, 20, .inl (fun j_ => nI (F j_)))), (aMT, .inl (cyI, 20, .inl (fun j_ => nI (T j_)))), (aMP, .inl (cyI, 12, .inl (fun j_ => nI (P j_)))), (aMD, .inl (cyZ, 20, .inl (fun j_ => bI (dd j_)))), (aMC, .inl (cyI, 12, .inl (fun j_ => nI (L2 j_)))), (aMO, .inl (cyI, 12, .inl wy2))] t.heap ∧ va_K (dC, dI) vwCl [(cyI, .int), (cyZ, .boolean), (cyJ, .long), (cyD, .double)] t ∧ va_D (va_A [(aM, .inr (7, [.int th, .int (nI n), .int (nI cnt), .ref aMF, .ref aMT, .ref aMN, .ref aML, .ref aMU, .int (nI ml), .ref aMB, .int (nI sg), .int (nI rm), .int (nI mdg), .int (nI mnb), .int (bI mng), .ref aMf, .ref aMt, .ref aMn, .ref aMl, .ref aMu, .ref aMP, .ref aMD, .int (nI lk), .ref aMC, .ref aMO, .int gn, .int gl, .int gg, .ref aMY, .int nn, .int nl, .int nu, .ref aMS, .long hs])), (aMF, .inl (cyI, 20, .inl (fun j_ => nI (F j_)))), (aMT, .inl (cyI, 20, .inl (fun j_ => nI (T j_)))), (aMP, .inl (cyI, 12, .inl (fun j_ => nI (P j_)))), (aMD, .inl (cyZ, 20, .inl (fun j_ => bI (dd j_)))), (aMC, .inl (cyI, 12, .inl (fun j_ => nI (L j_)))), (aMO, .inl (cyI, 12, .inl wy))] s.heap.size) [(aM, .inr (7, [.int th, .int (nI n), .int (nI cnt), .ref aMF, .ref aMT, .ref aMN, .ref aML, .ref aMU, .int (nI ml), .ref aMB, .int (nI sg), .int (nI rm), .int (nI mdg), .int (nI mnb), .int (bI mng), .ref aMf, .ref aMt, .ref aMn, .ref aMl, .ref aMu, .ref aMP, .ref aMD, .int (nI (if P a = P b then K else 0)), .ref aMC, .ref aMO, .int gn, .int gl, .int gg, .ref aMY, .int nn, .int nl, .int nu, .ref aMS, .long hs])), (aMF, .inl (cyI, 20, .inl (fun j_ => nI (F j_)))), (aMT, .inl (cyI, 20, .inl (fun j_ => nI (T j_)))), (aMP, .inl (cyI, 12, .inl (fun j_ => nI (P j_)))), (aMD, .inl (cyZ, 20, .inl (fun j_ => bI (dd j_)))), (aMC, .inl (cyI, 12, .inl (fun j_ => nI (L2 j_)))), (aMO, .inl (cyI, 12, .inl wy2))]) (va_A [(aM, .inr (7, [.int th, .int (nI n), .int (nI cnt), .ref aMF, .ref aMT, .ref aMN, .ref aML, .ref aMU, .int (nI ml), .ref aMB, .int (nI sg), .int (nI rm), .int (nI mdg), .int (nI mnb), .int (bI mng), .ref aMf, .ref aMt, .ref aMn, .ref aMl, .ref aMu, .ref aMP, .ref aMD, .int (nI lk), .ref aMC, .ref aMO, .int gn, .int gl, .int gg, .ref aMY, .int nn, .int nl, .int nu, .ref aMS, .long hs])), (aMF, .inl (cyI, 20, .inl (fun j_ => nI (F j_)))), (aMT, .inl (cyI, 20, .inl (fun j_ => nI (T j_)))), (aMP, .inl (cyI, 12, .inl (fun j_ => nI (P j_)))), (aMD, .inl (cyZ, 20, .inl (fun j_ => bI (dd j_)))), (aMC, .inl (cyI, 12, .inl (fun j_ => nI (L j_)))), (aMO, .inl (cyI, 12, .inl wy))] s.heap.size)) ([.ref aM, .int (nI a), .int (nI b)] : List Value).toArray s 0 0 (va_A [(aM, .inr (7, [.int th, .int (nI n), .int (nI cnt), .ref aMF, .ref aMT, .ref aMN, .ref aML, .ref aMU, .int (nI ml), .ref aMB, .int (nI sg), .int (nI rm), .int (nI mdg), .int (nI mnb), .int (bI mng), .ref aMf, .ref aMt, .ref aMn, .ref aMl, .ref aMu, .ref aMP, .ref aMD, .int (nI lk), .ref aMC, .ref aMO, .int gn, .int gl, .int gg, .ref aMY, .int nn, .int nl, .int nu, .ref aMS, .long hs])), (aMF, .inl (cyI, 20, .inl (fun j_ => nI (F j_)))), (aMT, .inl (cyI, 20, .inl (fun j_ => nI (T j_)))), (aMP, .inl (cyI, 12, .inl (fun j_ => nI (P j_)))), (aMD, .inl (cyZ, 20, .inl (fun j_ => bI (dd j_)))), (aMC, .inl (cyI, 12, .inl (fun j_ => nI (L j_)))), (aMO, .inl (cyI, 12, .inl wy))] s.heap.size) := ⟨_, rfl⟩
  rw [← hQe]
  generalize hAe : va_A [(aM, .inr (7, [.int th, .int (nI n), .int (nI cnt), .ref aMF, .ref aMT, .ref aMN, .ref aML, .ref aMU, .int (nI ml), .ref aMB, .int (nI sg), .int (nI rm), .int (nI mdg), .int (nI mnb), .int (bI mng), .ref aMf, .ref aMt, .ref aMn, .ref aMl, .ref aMu, .ref aMP, .ref aMD, .int (nI lk), .ref aMC, .ref aMO, .int gn, .int gl, .int gg, .ref aMY, .int nn, .int nl, .int nu, .ref aMS, .long hs])), (aMF, .inl (cyI, 20, .inl (fun j_ => nI (F j_)))), (aMT, .inl (cyI, 20, .inl (fun j_ => nI (T j_)))), (aMP, .inl (cyI, 12, .inl (fun j_ => nI (P j_)))), (aMD, .inl (cyZ, 20, .inl (fun j_ => bI (dd j_)))), (aMC, .inl (cyI, 12, .inl (fun j_ => nI (L j_)))), (aMO, .inl (cyI, 12, .inl wy))] s.heap.size = A at hD hQe
  have hA : ∀ q : Nat, s.heap.size ≤ q → A q := fun q h => by rw [← hAe]; exact Or.inr h
  obtain ⟨H, hHe⟩ : ∃ H : Heap, H = s.heap := ⟨_, rfl⟩
  have hS : va_S A s.heap H [] := by rw [hHe]; exact va_S.rf
  rw [← hHe] at hP ⊢
  have hl := lv_entry ([.ref aM, .int (nI a), .int (nI b)]) (n := 5) (Nat.le_of_ble_eq_true rfl)
  rw [lg_entry_eq]
  generalize (lg_sl ([.ref aM, .int (nI a), .int (nI b)]) ++ List.replicate (5 - (lg_sl ([.ref aM, .int (nI a), .int (nI b)])).length) Slot.unset).toArray = ls at hl ⊢
  have hl : lv_has ls 5 [(0, .ref aM), (1, .int (nI a)), (2, .int (nI b))] := hl
  have hPa := hPl a ha
  have hPb := hPl b hb0
  have hag := owR_agree (dd := dd) (V := oiI wy b n) (W := fun i => if i = b then 20 else -1) hF hT (fun i hi => by rw [oiI_at, if_pos hi]) n
  refine lv_aload_n hx hb dX7_layChain_0 rfl (lv_at hl 0 rfl) ?_
  refine lv_iconst (v := 0) hx hb dX7_layChain_1 (by decide) ?_
  refine va_put (D := (dC, dI)) (ci := 7) (v := .int 0) (ty := .int) (C := RX7) (T := TX7) (N := 34) hx hb hts iX7 tyX7 tyX7_ok nmX7 hown hK hP hD hS 0 rfl rfl 22 (by decide) w0 (fun _ h9 => h9) rfl (by decide +kernel) rfl rfl (Nat.le_of_ble_eq_true rfl) dX7_layChain_2 (fun H locs hP hD hS => ?_)
  have hP : va_P (dC, dI) vwCl [(aM, .inr (7, [.int th, .int (nI n), .int (nI cnt), .ref aMF, .ref aMT, .ref aMN, .ref aML, .ref aMU, .int (nI ml), .ref aMB, .int (nI sg), .int (nI rm), .int (nI mdg), .int (nI mnb), .int (bI mng), .ref aMf, .ref aMt, .ref aMn, .ref aMl, .ref aMu, .ref aMP, .ref aMD, .int 0, .ref aMC, .ref aMO, .int gn, .int gl, .int gg, .ref aMY, .int nn, .int nl, .int nu, .ref aMS, .long hs])), (aMF, .inl (cyI, 20, .inl (fun j_ => nI (F j_)))), (aMT, .inl (cyI, 20, .inl (fun j_ => nI (T j_)))), (aMP, .inl (cyI, 12, .inl (fun j_ => nI (P j_)))), (aMD, .inl (cyZ, 20, .inl (fun j_ => bI (dd j_)))), (aMC, .inl (cyI, 12, .inl (fun j_ => nI (L j_)))), (aMO, .inl (cyI, 12, .inl wy))] H := hP
  have hD : va_D A [(aM, .inr (7, [.int th, .int (nI n), .int (nI cnt), .ref aMF, .ref aMT, .ref aMN, .ref aML, .ref aMU, .int (nI ml), .ref aMB, .int (nI sg), .int (nI rm), .int (nI mdg), .int (nI mnb), .int (bI mng), .ref aMf, .ref aMt, .ref aMn, .ref aMl, .ref aMu, .ref aMP, .ref aMD, .int 0, .ref aMC, .ref aMO, .int gn, .int gl, .int gg, .ref aMY, .int nn, .int nl, .int nu, .ref aMS, .long hs])), (aMF, .inl (cyI, 20, .inl (fun j_ => nI (F j_)))), (aMT, .inl (cyI, 20, .inl (fun j_ => nI (T j_)))), (aMP, .inl (cyI, 12, .inl (fun j_ => nI (P j_)))), (aMD, .inl (cyZ, 20, .inl (fun j_ => bI (dd j_)))), (aMC, .inl (cyI, 12, .inl (fun j_ => nI (L j_)))), (aMO, .inl (cyI, 12, .inl wy))] := hD
  refine lv_aload_n hx hb dX7_layChain_5 rfl (lv_at hl 0 rfl) ?_
  refine va_get (D := (dC, dI)) (ci := 7) (v := .ref aMP) (C := RX7) (T := TX7) (N := 34) hx hb hts iX7 hown hK hP 0 rfl rfl 20 (by decide) w1 (fun _ h9 => h9) rfl dX7_layChain_6 ?_
  refine lv_iload_n hx hb dX7_layChain_9 rfl (lv_at hl 1 rfl) ?_
  have h1 : vp_in (nI a) 12 := by first | exact vp_in_nI (by omega) (by omega) | assumption
  refine va_iald hx hb hK hP 3 0 rfl rfl h1 dX7_layChain_10 ?_
  refine lv_topi (fun x2 e3 => ?_)
  obtain rfl : x2 = (nI (P a)) := by rw [e3, nI_clamp (by omega)]
  clear e3
  refine lv_aload_n hx hb dX7_layChain_11 rfl (lv_at hl 0 rfl) ?_
  refine va_get (D := (dC, dI)) (ci := 7) (v := .ref aMP) (C := RX7) (T := TX7) (N := 34) hx hb hts iX7 hown hK hP 0 rfl rfl 20 (by decide) w1 (fun _ h9 => h9) rfl dX7_layChain_12 ?_
  refine lv_iload_n hx hb dX7_layChain_15 rfl (lv_at hl 2 rfl) ?_
  have h4 : vp_in (nI b) 12 := by first | exact vp_in_nI (by omega) (by omega) | assumption
  refine va_iald hx hb hK hP 3 0 rfl rfl h4 dX7_layChain_16 ?_
  refine lv_topi (fun x5 e6 => ?_)
  obtain rfl : x5 = (nI (P b)) := by rw [e6, nI_clamp (by omega)]
  clear e6
  refine lv_icmp_eq (tgt := 22) hx hb dX7_layChain_17 (by decide) (fun c17 => ?_) (fun c17 => ?_)
  · have c17 := n_eq (a := P a) (b := P b) (by omega) (by omega) c17
    obtain ⟨hK12, hch2⟩ := hch
    obtain ⟨hcK, hck⟩ := hch2 c17
    refine lv_iconst (v := 0) hx hb dX7_layChain_22 (by decide) ?_
    refine lv_istore_n (lv' := [(3, .int 0), (0, .ref aM), (1, .int (nI a)), (2, .int (nI b))]) hx hb dX7_layChain_23 rfl hl (by decide) rfl (fun ls hl => ?_)
    have k24 : ∀ (fuel : Nat) (i : Nat) (hfuel : n - i < fuel) (hi : i ≤ n) (H : Heap) (locs : List Loc) (ls : Array Slot), va_P (dC, dI) vwCl [(aM, .inr (7, [.int th, .int (nI n), .int (nI cnt), .ref aMF, .ref aMT, .ref aMN, .ref aML, .ref aMU, .int (nI ml), .ref aMB, .int (nI sg), .int (nI rm), .int (nI mdg), .int (nI mnb), .int (bI mng), .ref aMf, .ref aMt, .ref aMn, .ref aMl, .ref aMu, .ref aMP, .ref aMD, .int 0, .ref aMC, .ref aMO, .int gn, .int gl, .int gg, .ref aMY, .int nn, .int nl, .int nu, .ref aMS, .long hs])), (aMF, .inl (cyI, 20, .inl (fun j_ => nI (F j_)))), (aMT, .inl (cyI, 20, .inl (fun j_ => nI (T j_)))), (aMP, .inl (cyI, 12, .inl (fun j_ => nI (P j_)))), (aMD, .inl (cyZ, 20, .inl (fun j_ => bI (dd j_)))), (aMC, .inl (cyI, 12, .inl (fun j_ => nI (L j_)))), (aMO, .inl (cyI, 12, .inl (oiI wy b i)))] H → va_D A [(aM, .inr (7, [.int th, .int (nI n), .int (nI cnt), .ref aMF, .ref aMT, .ref aMN, .ref aML, .ref aMU, .int (nI ml), .ref aMB, .int (nI sg), .int (nI rm), .int (nI mdg), .int (nI mnb), .int (bI mng), .ref aMf, .ref aMt, .ref aMn, .ref aMl, .ref aMu, .ref aMP, .ref aMD, .int 0, .ref aMC, .ref aMO, .int gn, .int gl, .int gg, .ref aMY, .int nn, .int nl, .int nu, .ref aMS, .long hs])), (aMF, .inl (cyI, 20, .inl (fun j_ => nI (F j_)))), (aMT, .inl (cyI, 20, .inl (fun j_ => nI (T j_)))), (aMP, .inl (cyI, 12, .inl (fun j_ => nI (P j_)))), (aMD, .inl (cyZ, 20, .inl (fun j_ => bI (dd j_)))), (aMC, .inl (cyI, 12, .inl (fun j_ => nI (L j_)))), (aMO, .inl (cyI, 12, .inl (oiI wy b i)))] → va_S A s.heap H locs → lv_has ls 5 [(0, .ref aM), (1, .int (nI a)), (2, .int (nI b)), (3, .int (nI i))] → W pM l eM (headSpec wsX7_layChain ({ frames := 0, cells := 0, slots := 0, locals := 0 } : Room)).room s mM ([.ref aM, .int (nI a), .int (nI b)] : List Value).toArray blM mtM cM H locs 0 0 Q (F0 mM 24 ls []) := by
      intro fuel
      induction fuel with
      | zero => intro i hfuel; exact absurd hfuel (Nat.not_lt_zero _)
      | succ fuel ih24 =>
        intro i hfuel hi H locs ls hP hD hS hl
        refine lv_iload_n hx hb dX7_layChain_24 rfl (lv_at hl 3 rfl) ?_
        refine lv_aload_n hx hb dX7_layChain_25 rfl (lv_at hl 0 rfl) ?_
        refine va_get (D := (dC, dI)) (ci := 7) (v := .int (nI n)) (C := RX7) (T := TX7) (N := 34) hx hb hts iX7 hown hK hP 0 rfl rfl 1 (by decide) w2 (fun _ h9 => h9) rfl dX7_layChain_26 ?_
        refine lv_icmp_ge (tgt := 55) hx hb dX7_layChain_29 (by decide) (fun c29 => ?_) (fun c29 => ?_)
        · have c29 := n_le (a := n) (b := i) (by omega) (by omega) c29
          have e9 : i = n := (by omega)
          refine lv_iconst (v := 0) hx hb dX7_layChain_55 (by decide) ?_
          refine lv_istore_n (lv' := [(3, .int 0), (0, .ref aM), (1, .int (nI a)), (2, .int (nI b))]) hx hb dX7_layChain_56 rfl hl (by decide) rfl (fun ls hl => ?_)
          have k57 : ∀ (fuel : Nat) (r : Nat) (hfuel : n - r < fuel) (hr0 : r ≤ n) (H : Heap) (locs : List Loc) (ls : Array Slot), va_P (dC, dI) vwCl [(aM, .inr (7, [.int th, .int (nI n), .int (nI cnt), .ref aMF, .ref aMT, .ref aMN, .ref aML, .ref aMU, .int (nI ml), .ref aMB, .int (nI sg), .int (nI rm), .int (nI mdg), .int (nI mnb), .int (bI mng), .ref aMf, .ref aMt, .ref aMn, .ref aMl, .ref aMu, .ref aMP, .ref aMD, .int 0, .ref aMC, .ref aMO, .int gn, .int gl, .int gg, .ref aMY, .int nn, .int nl, .int nu, .ref aMS, .long hs])), (aMF, .inl (cyI, 20, .inl (fun j_ => nI (F j_)))), (aMT, .inl (cyI, 20, .inl (fun j_ => nI (T j_)))), (aMP, .inl (cyI, 12, .inl (fun j_ => nI (P j_)))), (aMD, .inl (cyZ, 20, .inl (fun j_ => bI (dd j_)))), (aMC, .inl (cyI, 12, .inl (fun j_ => nI (L j_)))), (aMO, .inl (cyI, 12, .inl (owR F T dd cnt (oiI wy b n) r)))] H → va_D A [(aM, .inr (7, [.int th, .int (nI n), .int (nI cnt), .ref aMF, .ref aMT, .ref aMN, .ref aML, .ref aMU, .int (nI ml), .ref aMB, .int (nI sg), .int (nI rm), .int (nI mdg), .int (nI mnb), .int (bI mng), .ref aMf, .ref aMt, .ref aMn, .ref aMl, .ref aMu, .ref aMP, .ref aMD, .int 0, .ref aMC, .ref aMO, .int gn, .int gl, .int gg, .ref aMY, .int nn, .int nl, .int nu, .ref aMS, .long hs])), (aMF, .inl (cyI, 20, .inl (fun j_ => nI (F j_)))), (aMT, .inl (cyI, 20, .inl (fun j_ => nI (T j_)))), (aMP, .inl (cyI, 12, .inl (fun j_ => nI (P j_)))), (aMD, .inl (cyZ, 20, .inl (fun j_ => bI (dd j_)))), (aMC, .inl (cyI, 12, .inl (fun j_ => nI (L j_)))), (aMO, .inl (cyI, 12, .inl (owR F T dd cnt (oiI wy b n) r)))] → va_S A s.heap H locs → lv_has ls 5 [(0, .ref aM), (1, .int (nI a)), (2, .int (nI b)), (3, .int (nI r))] → W pM l eM (headSpec wsX7_layChain ({ frames := 0, cells := 0, slots := 0, locals := 0 } : Room)).room s mM ([.ref aM, .int (nI a), .int (nI b)] : List Value).toArray blM mtM cM H locs 0 0 Q (F0 mM 57 ls []) := by
            intro fuel
            induction fuel with
            | zero => intro r hfuel; exact absurd hfuel (Nat.not_lt_zero _)
            | succ fuel ih57 =>
              intro r hfuel hr0 H locs ls hP hD hS hl
              refine lv_iload_n hx hb dX7_layChain_57 rfl (lv_at hl 3 rfl) ?_
              refine lv_aload_n hx hb dX7_layChain_58 rfl (lv_at hl 0 rfl) ?_
              refine va_get (D := (dC, dI)) (ci := 7) (v := .int (nI n)) (C := RX7) (T := TX7) (N := 34) hx hb hts iX7 hown hK hP 0 rfl rfl 1 (by decide) w2 (fun _ h9 => h9) rfl dX7_layChain_59 ?_
              refine lv_icmp_ge (tgt := 204) hx hb dX7_layChain_62 (by decide) (fun c62 => ?_) (fun c62 => ?_)
              · have c62 := n_le (a := n) (b := r) (by omega) (by omega) c62
                have e8 : r = n := (by omega)
                refine lv_iload_n hx hb dX7_layChain_204 rfl (lv_at hl 1 rfl) ?_
                refine lv_istore_n (lv' := [(3, .int (nI a)), (0, .ref aM), (1, .int (nI a)), (2, .int (nI b))]) hx hb dX7_layChain_205 rfl hl (by decide) rfl (fun ls hl => ?_)
                have k206 : ∀ (fuel : Nat) (k : Nat) (hfuel : K - k < fuel) (hk : k ≤ K) (H : Heap) (locs : List Loc) (ls : Array Slot), va_P (dC, dI) vwCl [(aM, .inr (7, [.int th, .int (nI n), .int (nI cnt), .ref aMF, .ref aMT, .ref aMN, .ref aML, .ref aMU, .int (nI ml), .ref aMB, .int (nI sg), .int (nI rm), .int (nI mdg), .int (nI mnb), .int (bI mng), .ref aMf, .ref aMt, .ref aMn, .ref aMl, .ref aMu, .ref aMP, .ref aMD, .int (nI k), .ref aMC, .ref aMO, .int gn, .int gl, .int gg, .ref aMY, .int nn, .int nl, .int nu, .ref aMS, .long hs])), (aMF, .inl (cyI, 20, .inl (fun j_ => nI (F j_)))), (aMT, .inl (cyI, 20, .inl (fun j_ => nI (T j_)))), (aMP, .inl (cyI, 12, .inl (fun j_ => nI (P j_)))), (aMD, .inl (cyZ, 20, .inl (fun j_ => bI (dd j_)))), (aMC, .inl (cyI, 12, .inl (fun j_ => nI ((clk F T (mO F T dd n cnt b) a L k) j_)))), (aMO, .inl (cyI, 12, .inl (owR F T dd cnt (oiI wy b n) n)))] H → va_D A [(aM, .inr (7, [.int th, .int (nI n), .int (nI cnt), .ref aMF, .ref aMT, .ref aMN, .ref aML, .ref aMU, .int (nI ml), .ref aMB, .int (nI sg), .int (nI rm), .int (nI mdg), .int (nI mnb), .int (bI mng), .ref aMf, .ref aMt, .ref aMn, .ref aMl, .ref aMu, .ref aMP, .ref aMD, .int (nI k), .ref aMC, .ref aMO, .int gn, .int gl, .int gg, .ref aMY, .int nn, .int nl, .int nu, .ref aMS, .long hs])), (aMF, .inl (cyI, 20, .inl (fun j_ => nI (F j_)))), (aMT, .inl (cyI, 20, .inl (fun j_ => nI (T j_)))), (aMP, .inl (cyI, 12, .inl (fun j_ => nI (P j_)))), (aMD, .inl (cyZ, 20, .inl (fun j_ => bI (dd j_)))), (aMC, .inl (cyI, 12, .inl (fun j_ => nI ((clk F T (mO F T dd n cnt b) a L k) j_)))), (aMO, .inl (cyI, 12, .inl (owR F T dd cnt (oiI wy b n) n)))] → va_S A s.heap H locs → lv_has ls 5 [(0, .ref aM), (1, .int (nI a)), (2, .int (nI b)), (3, .int (nI (cf F T (mO F T dd n cnt b) a k)))] → W pM l eM (headSpec wsX7_layChain ({ frames := 0, cells := 0, slots := 0, locals := 0 } : Room)).room s mM ([.ref aM, .int (nI a), .int (nI b)] : List Value).toArray blM mtM cM H locs 0 0 Q (F0 mM 206 ls []) := by
                  intro fuel
                  induction fuel with
                  | zero => intro k hfuel; exact absurd hfuel (Nat.not_lt_zero _)
                  | succ fuel ih206 =>
                    intro k hfuel hk H locs ls hP hD hS hl
                    refine lv_iload_n hx hb dX7_layChain_206 rfl (lv_at hl 3 rfl) ?_
                    refine lv_iload_n hx hb dX7_layChain_207 rfl (lv_at hl 2 rfl) ?_
                    refine lv_icmp_eq (tgt := 272) hx hb dX7_layChain_208 (by decide) (fun c208 => ?_) (fun c208 => ?_)
                    · have hcfk : k < K → cf F T (mO F T dd n cnt b) a k < n := fun q => (hck k q).1
                      have eK : k = K := by rcases Nat.lt_or_ge k K with q | q; exact absurd (n_eq (by have := hcfk q; omega) (by omega) c208) (hck k q).2.1; omega
                      refine lv_iconst (v := 1) hx hb dX7_layChain_272 (by decide) ?_
                      have r7 : 1 = (bI (decide (P a = P b))) := by simp [bI, c17]
                      have q8 : (nI (if P a = P b then K else 0)) = (nI k) := by rw [if_pos c17, eK]
                      have hP9 : va_P (dC, dI) vwCl [(aM, .inr (7, [.int th, .int (nI n), .int (nI cnt), .ref aMF, .ref aMT, .ref aMN, .ref aML, .ref aMU, .int (nI ml), .ref aMB, .int (nI sg), .int (nI rm), .int (nI mdg), .int (nI mnb), .int (bI mng), .ref aMf, .ref aMt, .ref aMn, .ref aMl, .ref aMu, .ref aMP, .ref aMD, .int (nI (if P a = P b then K else 0)), .ref aMC, .ref aMO, .int gn, .int gl, .int gg, .ref aMY, .int nn, .int nl, .int nu, .ref aMS, .long hs])), (aMF, .inl (cyI, 20, .inl (fun j_ => nI (F j_)))), (aMT, .inl (cyI, 20, .inl (fun j_ => nI (T j_)))), (aMP, .inl (cyI, 12, .inl (fun j_ => nI (P j_)))), (aMD, .inl (cyZ, 20, .inl (fun j_ => bI (dd j_)))), (aMC, .inl (cyI, 12, .inl (fun j_ => nI ((clk F T (mO F T dd n cnt b) a L k) j_)))), (aMO, .inl (cyI, 12, .inl (owR F T dd cnt (oiI wy b n) n)))] H := by first | (rw [q8]; exact hP.sub [0, 1, 2, 3, 4, 5, 6] rfl) | (simp only [q8]; exact hP.sub [0, 1, 2, 3, 4, 5, 6] rfl) | exact hP.sub [0, 1, 2, 3, 4, 5, 6] rfl
                      have hD9 : va_D A [(aM, .inr (7, [.int th, .int (nI n), .int (nI cnt), .ref aMF, .ref aMT, .ref aMN, .ref aML, .ref aMU, .int (nI ml), .ref aMB, .int (nI sg), .int (nI rm), .int (nI mdg), .int (nI mnb), .int (bI mng), .ref aMf, .ref aMt, .ref aMn, .ref aMl, .ref aMu, .ref aMP, .ref aMD, .int (nI (if P a = P b then K else 0)), .ref aMC, .ref aMO, .int gn, .int gl, .int gg, .ref aMY, .int nn, .int nl, .int nu, .ref aMS, .long hs])), (aMF, .inl (cyI, 20, .inl (fun j_ => nI (F j_)))), (aMT, .inl (cyI, 20, .inl (fun j_ => nI (T j_)))), (aMP, .inl (cyI, 12, .inl (fun j_ => nI (P j_)))), (aMD, .inl (cyZ, 20, .inl (fun j_ => bI (dd j_)))), (aMC, .inl (cyI, 12, .inl (fun j_ => nI ((clk F T (mO F T dd n cnt b) a L k) j_)))), (aMO, .inl (cyI, 12, .inl (owR F T dd cnt (oiI wy b n) n)))] := by first | (rw [q8]; exact hD.sub [0, 1, 2, 3, 4, 5, 6] (by decide) rfl) | (simp only [q8]; exact hD.sub [0, 1, 2, 3, 4, 5, 6] (by decide) rfl) | exact hD.sub [0, 1, 2, 3, 4, 5, 6] (by decide) rfl
                      have p9 : P a = P b → ∀ k_q, k_q < K → (clk F T (mO F T dd n cnt b) a L k) k_q = ((mO F T dd n cnt b) (cf F T (mO F T dd n cnt b) a k_q)).toNatClampNeg := by intro _ j hj; rw [clk_at, if_pos (by omega)]
                      rw [hQe]
                      exact W.zret (v := 1) hx hb hr rfl (fun t ht hW => ⟨⟨_, (), rfl, r7, (clk F T (mO F T dd n cnt b) a L k), (owR F T dd cnt (oiI wy b n) n), p9, by rw [ht]; exact hP9, va_K.moved hW.alike hK, hD9⟩, hS.F ht⟩) hS.2.2 dX7_layChain_273
                    · have hlt : k < K := by rcases Nat.lt_or_ge k K with q | q; exact q; exact absurd (by rw [show k = K by omega, hcK]) c208
                      obtain ⟨hcl, hcn, dv, hdv, ev⟩ := hck k hlt
                      have hix : ((mO F T dd n cnt b) (cf F T (mO F T dd n cnt b) a k)).toNatClampNeg = dv := by rw [ev]; exact nI_clamp (by omega)
                      have hFd := hF dv hdv
                      have hTd := hT dv hdv
                      refine lv_aload_n hx hb dX7_layChain_211 rfl (lv_at hl 0 rfl) ?_
                      refine va_get (D := (dC, dI)) (ci := 7) (v := .ref aMO) (C := RX7) (T := TX7) (N := 34) hx hb hts iX7 hown hK hP 0 rfl rfl 24 (by decide) w3 (fun _ h9 => h9) rfl dX7_layChain_212 ?_
                      refine lv_iload_n hx hb dX7_layChain_215 rfl (lv_at hl 3 rfl) ?_
                      have h10 : vp_in (nI (cf F T (mO F T dd n cnt b) a k)) 12 := by first | exact vp_in_nI (by omega) (by omega) | assumption
                      refine va_iald hx hb hK hP 6 0 rfl rfl h10 dX7_layChain_216 ?_
                      refine lv_topi (fun x11 e12 => ?_)
                      obtain rfl : x11 = ((owR F T dd cnt (oiI wy b n) n) (cf F T (mO F T dd n cnt b) a k)) := by rw [e12, nI_clamp (by omega)]
                      clear e12
                      refine lv_topi (fun x13 e14 => ?_)
                      obtain rfl : x13 = (nI (((mO F T dd n cnt b) (cf F T (mO F T dd n cnt b) a k)).toNatClampNeg)) := by rw [e14, hag _ hcl]; exact ev.trans (congrArg nI hix.symm)
                      clear e14
                      refine lv_istore (lv' := [(4, .int (nI (((mO F T dd n cnt b) (cf F T (mO F T dd n cnt b) a k)).toNatClampNeg))), (0, .ref aM), (1, .int (nI a)), (2, .int (nI b)), (3, .int (nI (cf F T (mO F T dd n cnt b) a k)))]) hx hb dX7_layChain_217 hl (by decide) rfl (fun ls hl => ?_)
                      refine lv_aload_n hx hb dX7_layChain_219 rfl (lv_at hl 1 rfl) ?_
                      refine va_get (D := (dC, dI)) (ci := 7) (v := .ref aMC) (C := RX7) (T := TX7) (N := 34) hx hb hts iX7 hown hK hP 0 rfl rfl 23 (by decide) w4 (fun _ h9 => h9) rfl dX7_layChain_220 ?_
                      refine lv_aload_n hx hb dX7_layChain_223 rfl (lv_at hl 1 rfl) ?_
                      refine va_get (D := (dC, dI)) (ci := 7) (v := .int (nI k)) (C := RX7) (T := TX7) (N := 34) hx hb hts iX7 hown hK hP 0 rfl rfl 22 (by decide) w0 (fun _ h9 => h9) rfl dX7_layChain_224 ?_
                      refine lv_iload hx hb dX7_layChain_227 (lv_at hl 0 rfl) ?_
                      have h15 : vp_in (nI k) 12 := by first | exact vp_in_nI (by omega) (by omega) | assumption
                      refine va_iast hx hb hK hP hD hS 5 0 rfl rfl h15 dX7_layChain_229 (fun H locs hP hD hS => ?_)
                      rw [nI_clamp (by omega)] at hP hD
                      have ub : upd (fun j_ => nI ((clk F T (mO F T dd n cnt b) a L k) j_)) k (nI (((mO F T dd n cnt b) (cf F T (mO F T dd n cnt b) a k)).toNatClampNeg)) = (fun j_ => nI ((updN (clk F T (mO F T dd n cnt b) a L k) k (((mO F T dd n cnt b) (cf F T (mO F T dd n cnt b) a k)).toNatClampNeg)) j_)) := updN_z _ _ _
                      have hP : va_P (dC, dI) vwCl [(aM, .inr (7, [.int th, .int (nI n), .int (nI cnt), .ref aMF, .ref aMT, .ref aMN, .ref aML, .ref aMU, .int (nI ml), .ref aMB, .int (nI sg), .int (nI rm), .int (nI mdg), .int (nI mnb), .int (bI mng), .ref aMf, .ref aMt, .ref aMn, .ref aMl, .ref aMu, .ref aMP, .ref aMD, .int (nI k), .ref aMC, .ref aMO, .int gn, .int gl, .int gg, .ref aMY, .int nn, .int nl, .int nu, .ref aMS, .long hs])), (aMF, .inl (cyI, 20, .inl (fun j_ => nI (F j_)))), (aMT, .inl (cyI, 20, .inl (fun j_ => nI (T j_)))), (aMP, .inl (cyI, 12, .inl (fun j_ => nI (P j_)))), (aMD, .inl (cyZ, 20, .inl (fun j_ => bI (dd j_)))), (aMC, .inl (cyI, 12, .inl (fun j_ => nI ((updN (clk F T (mO F T dd n cnt b) a L k) k (((mO F T dd n cnt b) (cf F T (mO F T dd n cnt b) a k)).toNatClampNeg)) j_)))), (aMO, .inl (cyI, 12, .inl (owR F T dd cnt (oiI wy b n) n)))] H := by rw [← ub]; exact hP
                      have hD : va_D A [(aM, .inr (7, [.int th, .int (nI n), .int (nI cnt), .ref aMF, .ref aMT, .ref aMN, .ref aML, .ref aMU, .int (nI ml), .ref aMB, .int (nI sg), .int (nI rm), .int (nI mdg), .int (nI mnb), .int (bI mng), .ref aMf, .ref aMt, .ref aMn, .ref aMl, .ref aMu, .ref aMP, .ref aMD, .int (nI k), .ref aMC, .ref aMO, .int gn, .int gl, .int gg, .ref aMY, .int nn, .int nl, .int nu, .ref aMS, .long hs])), (aMF, .inl (cyI, 20, .inl (fun j_ => nI (F j_)))), (aMT, .inl (cyI, 20, .inl (fun j_ => nI (T j_)))), (aMP, .inl (cyI, 12, .inl (fun j_ => nI (P j_)))), (aMD, .inl (cyZ, 20, .inl (fun j_ => bI (dd j_)))), (aMC, .inl (cyI, 12, .inl (fun j_ => nI ((updN (clk F T (mO F T dd n cnt b) a L k) k (((mO F T dd n cnt b) (cf F T (mO F T dd n cnt b) a k)).toNatClampNeg)) j_)))), (aMO, .inl (cyI, 12, .inl (owR F T dd cnt (oiI wy b n) n)))] := by rw [← ub]; exact hD
                      refine lv_aload_n hx hb dX7_layChain_230 rfl (lv_at hl 1 rfl) ?_
                      refine lv_dup hx hb dX7_layChain_231 rfl ?_
                      refine va_get (D := (dC, dI)) (ci := 7) (v := .int (nI k)) (C := RX7) (T := TX7) (N := 34) hx hb hts iX7 hown hK hP 0 rfl rfl 22 (by decide) w0 (fun _ h9 => h9) rfl dX7_layChain_232 ?_
                      refine lv_iconst (v := 1) hx hb dX7_layChain_235 (by decide) ?_
                      refine lv_iadd hx hb dX7_layChain_236 ?_
                      refine lv_topi (fun x16 e17 => ?_)
                      obtain rfl : x16 = (nI (k + 1)) := by rw [e17]; exact nI_add k 1
                      clear e17
                      refine va_put (D := (dC, dI)) (ci := 7) (v := .int (nI (k + 1))) (ty := .int) (C := RX7) (T := TX7) (N := 34) hx hb hts iX7 tyX7 tyX7_ok nmX7 hown hK hP hD hS 0 rfl rfl 22 (by decide) w0 (fun _ h9 => h9) rfl (by decide +kernel) rfl rfl (Nat.le_of_ble_eq_true rfl) dX7_layChain_237 (fun H locs hP hD hS => ?_)
                      have hP : va_P (dC, dI) vwCl [(aM, .inr (7, [.int th, .int (nI n), .int (nI cnt), .ref aMF, .ref aMT, .ref aMN, .ref aML, .ref aMU, .int (nI ml), .ref aMB, .int (nI sg), .int (nI rm), .int (nI mdg), .int (nI mnb), .int (bI mng), .ref aMf, .ref aMt, .ref aMn, .ref aMl, .ref aMu, .ref aMP, .ref aMD, .int (nI (k + 1)), .ref aMC, .ref aMO, .int gn, .int gl, .int gg, .ref aMY, .int nn, .int nl, .int nu, .ref aMS, .long hs])), (aMF, .inl (cyI, 20, .inl (fun j_ => nI (F j_)))), (aMT, .inl (cyI, 20, .inl (fun j_ => nI (T j_)))), (aMP, .inl (cyI, 12, .inl (fun j_ => nI (P j_)))), (aMD, .inl (cyZ, 20, .inl (fun j_ => bI (dd j_)))), (aMC, .inl (cyI, 12, .inl (fun j_ => nI ((updN (clk F T (mO F T dd n cnt b) a L k) k (((mO F T dd n cnt b) (cf F T (mO F T dd n cnt b) a k)).toNatClampNeg)) j_)))), (aMO, .inl (cyI, 12, .inl (owR F T dd cnt (oiI wy b n) n)))] H := hP
                      have hD : va_D A [(aM, .inr (7, [.int th, .int (nI n), .int (nI cnt), .ref aMF, .ref aMT, .ref aMN, .ref aML, .ref aMU, .int (nI ml), .ref aMB, .int (nI sg), .int (nI rm), .int (nI mdg), .int (nI mnb), .int (bI mng), .ref aMf, .ref aMt, .ref aMn, .ref aMl, .ref aMu, .ref aMP, .ref aMD, .int (nI (k + 1)), .ref aMC, .ref aMO, .int gn, .int gl, .int gg, .ref aMY, .int nn, .int nl, .int nu, .ref aMS, .long hs])), (aMF, .inl (cyI, 20, .inl (fun j_ => nI (F j_)))), (aMT, .inl (cyI, 20, .inl (fun j_ => nI (T j_)))), (aMP, .inl (cyI, 12, .inl (fun j_ => nI (P j_)))), (aMD, .inl (cyZ, 20, .inl (fun j_ => bI (dd j_)))), (aMC, .inl (cyI, 12, .inl (fun j_ => nI ((updN (clk F T (mO F T dd n cnt b) a L k) k (((mO F T dd n cnt b) (cf F T (mO F T dd n cnt b) a k)).toNatClampNeg)) j_)))), (aMO, .inl (cyI, 12, .inl (owR F T dd cnt (oiI wy b n) n)))] := hD
                      refine lv_aload_n hx hb dX7_layChain_240 rfl (lv_at hl 1 rfl) ?_
                      refine va_get (D := (dC, dI)) (ci := 7) (v := .ref aMF) (C := RX7) (T := TX7) (N := 34) hx hb hts iX7 hown hK hP 0 rfl rfl 3 (by decide) w5 (fun _ h9 => h9) rfl dX7_layChain_241 ?_
                      refine lv_iload hx hb dX7_layChain_244 (lv_at hl 0 rfl) ?_
                      have h18 : vp_in (nI (((mO F T dd n cnt b) (cf F T (mO F T dd n cnt b) a k)).toNatClampNeg)) 20 := by rw [hix]; exact vp_in_nI (by omega) (by omega)
                      refine va_iald hx hb hK hP 1 0 rfl rfl h18 dX7_layChain_246 ?_
                      refine lv_topi (fun x19 e20 => ?_)
                      obtain rfl : x19 = (nI (F (((mO F T dd n cnt b) (cf F T (mO F T dd n cnt b) a k)).toNatClampNeg))) := by rw [e20, nI_clamp (by omega)]
                      clear e20
                      refine lv_iload_n hx hb dX7_layChain_247 rfl (lv_at hl 4 rfl) ?_
                      refine lv_icmp_ne (tgt := 261) hx hb dX7_layChain_248 (by decide) (fun c248 => ?_) (fun c248 => ?_)
                      · have c248 : ¬ F ((mO F T dd n cnt b) (cf F T (mO F T dd n cnt b) a k)).toNatClampNeg = cf F T (mO F T dd n cnt b) a k := fun q => c248 (congrArg nI q)
                        refine lv_aload_n hx hb dX7_layChain_261 rfl (lv_at hl 1 rfl) ?_
                        refine va_get (D := (dC, dI)) (ci := 7) (v := .ref aMF) (C := RX7) (T := TX7) (N := 34) hx hb hts iX7 hown hK hP 0 rfl rfl 3 (by decide) w5 (fun _ h9 => h9) rfl dX7_layChain_262 ?_
                        refine lv_iload hx hb dX7_layChain_265 (lv_at hl 0 rfl) ?_
                        have h21 : vp_in (nI (((mO F T dd n cnt b) (cf F T (mO F T dd n cnt b) a k)).toNatClampNeg)) 20 := by rw [hix]; exact vp_in_nI (by omega) (by omega)
                        refine va_iald hx hb hK hP 1 0 rfl rfl h21 dX7_layChain_267 ?_
                        refine lv_topi (fun x22 e23 => ?_)
                        obtain rfl : x22 = (nI (F (((mO F T dd n cnt b) (cf F T (mO F T dd n cnt b) a k)).toNatClampNeg))) := by rw [e23, nI_clamp (by omega)]
                        clear e23
                        refine lv_istore_n (lv' := [(3, .int (nI (F (((mO F T dd n cnt b) (cf F T (mO F T dd n cnt b) a k)).toNatClampNeg)))), (4, .int (nI (((mO F T dd n cnt b) (cf F T (mO F T dd n cnt b) a k)).toNatClampNeg))), (0, .ref aM), (1, .int (nI a)), (2, .int (nI b))]) hx hb dX7_layChain_268 rfl hl (by decide) rfl (fun ls hl => ?_)
                        refine lv_goto (tgt := 206) hx hb dX7_layChain_269 (by decide) ?_
                        have q24 : (clk F T (mO F T dd n cnt b) a L (k + 1)) = (updN (clk F T (mO F T dd n cnt b) a L k) k (((mO F T dd n cnt b) (cf F T (mO F T dd n cnt b) a k)).toNatClampNeg)) := by rfl
                        have q25 : (nI (cf F T (mO F T dd n cnt b) a (k + 1))) = (nI (F (((mO F T dd n cnt b) (cf F T (mO F T dd n cnt b) a k)).toNatClampNeg))) := by simp only [cf]; first | (rw [if_pos c248]; done) | (rw [if_neg c248]; done)
                        exact ih206 (k + 1) (by omega) (by first | assumption | omega) _ _ _ (by first | (rw [q24]; exact hP) | (simp only [q24]; exact hP) | exact hP) (by first | (rw [q24]; exact hD) | (simp only [q24]; exact hD) | exact hD) hS (by first | (rw [q25]; exact lv_sub hl [2, 3, 4, 0] rfl) | (simp only [q25]; exact lv_sub hl [2, 3, 4, 0] rfl) | exact lv_sub hl [2, 3, 4, 0] rfl)
                      · have c248 : F ((mO F T dd n cnt b) (cf F T (mO F T dd n cnt b) a k)).toNatClampNeg = cf F T (mO F T dd n cnt b) a k := n_eq (by rw [hix]; omega) (by omega) c248
                        refine lv_aload_n hx hb dX7_layChain_251 rfl (lv_at hl 1 rfl) ?_
                        refine va_get (D := (dC, dI)) (ci := 7) (v := .ref aMT) (C := RX7) (T := TX7) (N := 34) hx hb hts iX7 hown hK hP 0 rfl rfl 4 (by decide) w6 (fun _ h9 => h9) rfl dX7_layChain_252 ?_
                        refine lv_iload hx hb dX7_layChain_255 (lv_at hl 0 rfl) ?_
                        have h26 : vp_in (nI (((mO F T dd n cnt b) (cf F T (mO F T dd n cnt b) a k)).toNatClampNeg)) 20 := by rw [hix]; exact vp_in_nI (by omega) (by omega)
                        refine va_iald hx hb hK hP 2 0 rfl rfl h26 dX7_layChain_257 ?_
                        refine lv_topi (fun x27 e28 => ?_)
                        obtain rfl : x27 = (nI (T (((mO F T dd n cnt b) (cf F T (mO F T dd n cnt b) a k)).toNatClampNeg))) := by rw [e28, nI_clamp (by omega)]
                        clear e28
                        refine lv_goto (tgt := 268) hx hb dX7_layChain_258 (by decide) ?_
                        refine lv_istore_n (lv' := [(3, .int (nI (T (((mO F T dd n cnt b) (cf F T (mO F T dd n cnt b) a k)).toNatClampNeg)))), (4, .int (nI (((mO F T dd n cnt b) (cf F T (mO F T dd n cnt b) a k)).toNatClampNeg))), (0, .ref aM), (1, .int (nI a)), (2, .int (nI b))]) hx hb dX7_layChain_268 rfl hl (by decide) rfl (fun ls hl => ?_)
                        refine lv_goto (tgt := 206) hx hb dX7_layChain_269 (by decide) ?_
                        have q29 : (clk F T (mO F T dd n cnt b) a L (k + 1)) = (updN (clk F T (mO F T dd n cnt b) a L k) k (((mO F T dd n cnt b) (cf F T (mO F T dd n cnt b) a k)).toNatClampNeg)) := by rfl
                        have q30 : (nI (cf F T (mO F T dd n cnt b) a (k + 1))) = (nI (T (((mO F T dd n cnt b) (cf F T (mO F T dd n cnt b) a k)).toNatClampNeg))) := by simp only [cf]; first | (rw [if_pos c248]; done) | (rw [if_neg c248]; done)
                        exact ih206 (k + 1) (by omega) (by first | assumption | omega) _ _ _ (by first | (rw [q29]; exact hP) | (simp only [q29]; exact hP) | exact hP) (by first | (rw [q29]; exact hD) | (simp only [q29]; exact hD) | exact hD) hS (by first | (rw [q30]; exact lv_sub hl [2, 3, 4, 0] rfl) | (simp only [q30]; exact lv_sub hl [2, 3, 4, 0] rfl) | exact lv_sub hl [2, 3, 4, 0] rfl)
                have q31 : (nI 0) = 0 := by rfl
                have q32 : (clk F T (mO F T dd n cnt b) a L 0) = L := by rfl
                have q33 : (owR F T dd cnt (oiI wy b n) n) = (owR F T dd cnt (oiI wy b n) r) := by rw [e8]
                have q34 : (nI (cf F T (mO F T dd n cnt b) a 0)) = (nI a) := by rfl
                exact k206 (K - 0 + 1) 0 (Nat.lt_succ_self _) (by first | assumption | omega) _ _ _ (by first | (rw [q32, q33, q31]; exact hP) | (simp only [q32, q33, q31]; exact hP) | exact hP) (by first | (rw [q32, q33, q31]; exact hD) | (simp only [q32, q33, q31]; exact hD) | exact hD) hS (by first | (rw [q34]; exact lv_sub hl [1, 2, 3, 0] rfl) | (simp only [q34]; exact lv_sub hl [1, 2, 3, 0] rfl) | exact lv_sub hl [1, 2, 3, 0] rfl)
              · have c62 := n_nle (a := n) (b := r) (by omega) (by omega) c62
                refine lv_iconst (v := 0) hx hb dX7_layChain_65 (by decide) ?_
                refine lv_istore (lv' := [(4, .int 0), (0, .ref aM), (1, .int (nI a)), (2, .int (nI b)), (3, .int (nI r))]) hx hb dX7_layChain_66 hl (by decide) rfl (fun ls hl => ?_)
                have k68 : ∀ (fuel : Nat) (d : Nat) (hfuel : cnt - d < fuel) (hd0 : d ≤ cnt) (H : Heap) (locs : List Loc) (ls : Array Slot), va_P (dC, dI) vwCl [(aM, .inr (7, [.int th, .int (nI n), .int (nI cnt), .ref aMF, .ref aMT, .ref aMN, .ref aML, .ref aMU, .int (nI ml), .ref aMB, .int (nI sg), .int (nI rm), .int (nI mdg), .int (nI mnb), .int (bI mng), .ref aMf, .ref aMt, .ref aMn, .ref aMl, .ref aMu, .ref aMP, .ref aMD, .int 0, .ref aMC, .ref aMO, .int gn, .int gl, .int gg, .ref aMY, .int nn, .int nl, .int nu, .ref aMS, .long hs])), (aMF, .inl (cyI, 20, .inl (fun j_ => nI (F j_)))), (aMT, .inl (cyI, 20, .inl (fun j_ => nI (T j_)))), (aMP, .inl (cyI, 12, .inl (fun j_ => nI (P j_)))), (aMD, .inl (cyZ, 20, .inl (fun j_ => bI (dd j_)))), (aMC, .inl (cyI, 12, .inl (fun j_ => nI (L j_)))), (aMO, .inl (cyI, 12, .inl (owI F T dd (owR F T dd cnt (oiI wy b n) r) d)))] H → va_D A [(aM, .inr (7, [.int th, .int (nI n), .int (nI cnt), .ref aMF, .ref aMT, .ref aMN, .ref aML, .ref aMU, .int (nI ml), .ref aMB, .int (nI sg), .int (nI rm), .int (nI mdg), .int (nI mnb), .int (bI mng), .ref aMf, .ref aMt, .ref aMn, .ref aMl, .ref aMu, .ref aMP, .ref aMD, .int 0, .ref aMC, .ref aMO, .int gn, .int gl, .int gg, .ref aMY, .int nn, .int nl, .int nu, .ref aMS, .long hs])), (aMF, .inl (cyI, 20, .inl (fun j_ => nI (F j_)))), (aMT, .inl (cyI, 20, .inl (fun j_ => nI (T j_)))), (aMP, .inl (cyI, 12, .inl (fun j_ => nI (P j_)))), (aMD, .inl (cyZ, 20, .inl (fun j_ => bI (dd j_)))), (aMC, .inl (cyI, 12, .inl (fun j_ => nI (L j_)))), (aMO, .inl (cyI, 12, .inl (owI F T dd (owR F T dd cnt (oiI wy b n) r) d)))] → va_S A s.heap H locs → lv_has ls 5 [(0, .ref aM), (1, .int (nI a)), (2, .int (nI b)), (3, .int (nI r)), (4, .int (nI d))] → W pM l eM (headSpec wsX7_layChain ({ frames := 0, cells := 0, slots := 0, locals := 0 } : Room)).room s mM ([.ref aM, .int (nI a), .int (nI b)] : List Value).toArray blM mtM cM H locs 0 0 Q (F0 mM 68 ls []) := by
                  intro fuel
                  induction fuel with
                  | zero => intro d hfuel; exact absurd hfuel (Nat.not_lt_zero _)
                  | succ fuel ih68 =>
                    intro d hfuel hd0 H locs ls hP hD hS hl
                    refine lv_iload hx hb dX7_layChain_68 (lv_at hl 4 rfl) ?_
                    refine lv_aload_n hx hb dX7_layChain_70 rfl (lv_at hl 0 rfl) ?_
                    refine va_get (D := (dC, dI)) (ci := 7) (v := .int (nI cnt)) (C := RX7) (T := TX7) (N := 34) hx hb hts iX7 hown hK hP 0 rfl rfl 2 (by decide) w7 (fun _ h9 => h9) rfl dX7_layChain_71 ?_
                    refine lv_icmp_ge (tgt := 198) hx hb dX7_layChain_74 (by decide) (fun c74 => ?_) (fun c74 => ?_)
                    · have c74 := n_le (a := cnt) (b := d) (by omega) (by omega) c74
                      have e7 : d = cnt := (by omega)
                      refine lv_iinc (v := nI (r + 1)) (lv' := [(3, .int (nI (r + 1))), (0, .ref aM), (1, .int (nI a)), (2, .int (nI b)), (4, .int (nI d))]) hx hb dX7_layChain_198 hl (k := 3) rfl (nI_add r 1) (by decide) rfl (fun ls hl => ?_)
                      refine lv_goto (tgt := 57) hx hb dX7_layChain_201 (by decide) ?_
                      have q35 : (owR F T dd cnt (oiI wy b n) (r + 1)) = (owI F T dd (owR F T dd cnt (oiI wy b n) r) d) := by simp only [owR]; rw [e7]
                      exact ih57 (r + 1) (by omega) (by first | assumption | omega) _ _ _ (by first | (rw [q35]; exact hP) | (simp only [q35]; exact hP) | exact hP) (by first | (rw [q35]; exact hD) | (simp only [q35]; exact hD) | exact hD) hS (lv_sub hl [1, 2, 3, 0] rfl)
                    · have c74 := n_nle (a := cnt) (b := d) (by omega) (by omega) c74
                      have hF1 := hF d c74
                      have hT1 := hT d c74
                      refine lv_aload_n hx hb dX7_layChain_77 rfl (lv_at hl 0 rfl) ?_
                      refine va_get (D := (dC, dI)) (ci := 7) (v := .ref aMD) (C := RX7) (T := TX7) (N := 34) hx hb hts iX7 hown hK hP 0 rfl rfl 21 (by decide) w8 (fun _ h9 => h9) rfl dX7_layChain_78 ?_
                      refine lv_iload hx hb dX7_layChain_81 (lv_at hl 4 rfl) ?_
                      have h36 : vp_in (nI d) 20 := by first | exact vp_in_nI (by omega) (by omega) | assumption
                      refine va_zald hx hb hK hP 4 1 rfl rfl h36 dX7_layChain_83 ?_
                      refine lv_topi (fun x37 e38 => ?_)
                      obtain rfl : x37 = (bI (dd d)) := by rw [e38, nI_clamp (by omega)]
                      clear e38
                      refine lv_if_ne (tgt := 136) hx hb dX7_layChain_84 (by decide) (fun c84 => ?_) (fun c84 => ?_)
                      · have c84 : (dd d) = true := bI_n0 c84
                        refine lv_aload_n hx hb dX7_layChain_136 rfl (lv_at hl 0 rfl) ?_
                        refine va_get (D := (dC, dI)) (ci := 7) (v := .ref aMD) (C := RX7) (T := TX7) (N := 34) hx hb hts iX7 hown hK hP 0 rfl rfl 21 (by decide) w8 (fun _ h9 => h9) rfl dX7_layChain_137 ?_
                        refine lv_iload hx hb dX7_layChain_140 (lv_at hl 4 rfl) ?_
                        have h39 : vp_in (nI d) 20 := by first | exact vp_in_nI (by omega) (by omega) | assumption
                        refine va_zald hx hb hK hP 4 1 rfl rfl h39 dX7_layChain_142 ?_
                        refine lv_topi (fun x40 e41 => ?_)
                        obtain rfl : x40 = (bI (dd d)) := by rw [e41, nI_clamp (by omega)]
                        clear e41
                        refine lv_if_ne (tgt := 192) hx hb dX7_layChain_143 (by decide) (fun c143 => ?_) (fun c143 => ?_)
                        · have c143 : (dd d) = true := bI_n0 c143
                          refine lv_iinc (v := nI (d + 1)) (lv' := [(4, .int (nI (d + 1))), (0, .ref aM), (1, .int (nI a)), (2, .int (nI b)), (3, .int (nI r))]) hx hb dX7_layChain_192 hl (k := 4) rfl (nI_add d 1) (by decide) rfl (fun ls hl => ?_)
                          refine lv_goto (tgt := 68) hx hb dX7_layChain_195 (by decide) ?_
                          have q42 : (owI F T dd (owR F T dd cnt (oiI wy b n) r) (d + 1)) = (owI F T dd (owR F T dd cnt (oiI wy b n) r) d) := by first | (simp [owI, owS, *]; done) | exact absurd (c143.symm.trans c84) (by decide) | exact absurd c100 c175 | exact absurd c159 c116
                          exact ih68 (d + 1) (by omega) (by first | assumption | omega) _ _ _ (by first | (rw [q42]; exact hP) | (simp only [q42]; exact hP) | exact hP) (by first | (rw [q42]; exact hD) | (simp only [q42]; exact hD) | exact hD) hS (lv_sub hl [1, 2, 3, 4, 0] rfl)
                        · have c143 : (dd d) = false := bI_0 c143
                          refine lv_aload_n hx hb dX7_layChain_146 rfl (lv_at hl 0 rfl) ?_
                          refine va_get (D := (dC, dI)) (ci := 7) (v := .ref aMO) (C := RX7) (T := TX7) (N := 34) hx hb hts iX7 hown hK hP 0 rfl rfl 24 (by decide) w3 (fun _ h9 => h9) rfl dX7_layChain_147 ?_
                          refine lv_aload_n hx hb dX7_layChain_150 rfl (lv_at hl 0 rfl) ?_
                          refine va_get (D := (dC, dI)) (ci := 7) (v := .ref aMT) (C := RX7) (T := TX7) (N := 34) hx hb hts iX7 hown hK hP 0 rfl rfl 4 (by decide) w6 (fun _ h9 => h9) rfl dX7_layChain_151 ?_
                          refine lv_iload hx hb dX7_layChain_154 (lv_at hl 4 rfl) ?_
                          have h43 : vp_in (nI d) 20 := by first | exact vp_in_nI (by omega) (by omega) | assumption
                          refine va_iald hx hb hK hP 2 0 rfl rfl h43 dX7_layChain_156 ?_
                          refine lv_topi (fun x44 e45 => ?_)
                          obtain rfl : x44 = (nI (T d)) := by rw [e45, nI_clamp (by omega)]
                          clear e45
                          have h46 : vp_in (nI (T d)) 12 := by first | exact vp_in_nI (by omega) (by omega) | assumption
                          refine va_iald hx hb hK hP 6 0 rfl rfl h46 dX7_layChain_157 ?_
                          refine lv_topi (fun x47 e48 => ?_)
                          obtain rfl : x47 = ((owI F T dd (owR F T dd cnt (oiI wy b n) r) d) (T d)) := by rw [e48, nI_clamp (by omega)]
                          clear e48
                          refine lv_iconst (v := (-1)) hx hb dX7_layChain_158 (by decide) ?_
                          refine lv_icmp_eq (tgt := 192) hx hb dX7_layChain_159 (by decide) (fun c159 => ?_) (fun c159 => ?_)
                          · skip
                            refine lv_iinc (v := nI (d + 1)) (lv' := [(4, .int (nI (d + 1))), (0, .ref aM), (1, .int (nI a)), (2, .int (nI b)), (3, .int (nI r))]) hx hb dX7_layChain_192 hl (k := 4) rfl (nI_add d 1) (by decide) rfl (fun ls hl => ?_)
                            refine lv_goto (tgt := 68) hx hb dX7_layChain_195 (by decide) ?_
                            have q49 : (owI F T dd (owR F T dd cnt (oiI wy b n) r) (d + 1)) = (owI F T dd (owR F T dd cnt (oiI wy b n) r) d) := by first | (simp [owI, owS, *]; done) | exact absurd (c143.symm.trans c84) (by decide) | exact absurd c100 c175 | exact absurd c159 c116
                            exact ih68 (d + 1) (by omega) (by first | assumption | omega) _ _ _ (by first | (rw [q49]; exact hP) | (simp only [q49]; exact hP) | exact hP) (by first | (rw [q49]; exact hD) | (simp only [q49]; exact hD) | exact hD) hS (lv_sub hl [1, 2, 3, 4, 0] rfl)
                          · skip
                            refine lv_aload_n hx hb dX7_layChain_162 rfl (lv_at hl 0 rfl) ?_
                            refine va_get (D := (dC, dI)) (ci := 7) (v := .ref aMO) (C := RX7) (T := TX7) (N := 34) hx hb hts iX7 hown hK hP 0 rfl rfl 24 (by decide) w3 (fun _ h9 => h9) rfl dX7_layChain_163 ?_
                            refine lv_aload_n hx hb dX7_layChain_166 rfl (lv_at hl 0 rfl) ?_
                            refine va_get (D := (dC, dI)) (ci := 7) (v := .ref aMF) (C := RX7) (T := TX7) (N := 34) hx hb hts iX7 hown hK hP 0 rfl rfl 3 (by decide) w5 (fun _ h9 => h9) rfl dX7_layChain_167 ?_
                            refine lv_iload hx hb dX7_layChain_170 (lv_at hl 4 rfl) ?_
                            have h50 : vp_in (nI d) 20 := by first | exact vp_in_nI (by omega) (by omega) | assumption
                            refine va_iald hx hb hK hP 1 0 rfl rfl h50 dX7_layChain_172 ?_
                            refine lv_topi (fun x51 e52 => ?_)
                            obtain rfl : x51 = (nI (F d)) := by rw [e52, nI_clamp (by omega)]
                            clear e52
                            have h53 : vp_in (nI (F d)) 12 := by first | exact vp_in_nI (by omega) (by omega) | assumption
                            refine va_iald hx hb hK hP 6 0 rfl rfl h53 dX7_layChain_173 ?_
                            refine lv_topi (fun x54 e55 => ?_)
                            obtain rfl : x54 = ((owI F T dd (owR F T dd cnt (oiI wy b n) r) d) (F d)) := by rw [e55, nI_clamp (by omega)]
                            clear e55
                            refine lv_iconst (v := (-1)) hx hb dX7_layChain_174 (by decide) ?_
                            refine lv_icmp_ne (tgt := 192) hx hb dX7_layChain_175 (by decide) (fun c175 => ?_) (fun c175 => ?_)
                            · skip
                              refine lv_iinc (v := nI (d + 1)) (lv' := [(4, .int (nI (d + 1))), (0, .ref aM), (1, .int (nI a)), (2, .int (nI b)), (3, .int (nI r))]) hx hb dX7_layChain_192 hl (k := 4) rfl (nI_add d 1) (by decide) rfl (fun ls hl => ?_)
                              refine lv_goto (tgt := 68) hx hb dX7_layChain_195 (by decide) ?_
                              have q56 : (owI F T dd (owR F T dd cnt (oiI wy b n) r) (d + 1)) = (owI F T dd (owR F T dd cnt (oiI wy b n) r) d) := by first | (simp [owI, owS, *]; done) | exact absurd (c143.symm.trans c84) (by decide) | exact absurd c100 c175 | exact absurd c159 c116
                              exact ih68 (d + 1) (by omega) (by first | assumption | omega) _ _ _ (by first | (rw [q56]; exact hP) | (simp only [q56]; exact hP) | exact hP) (by first | (rw [q56]; exact hD) | (simp only [q56]; exact hD) | exact hD) hS (lv_sub hl [1, 2, 3, 4, 0] rfl)
                            · skip
                              refine lv_aload_n hx hb dX7_layChain_178 rfl (lv_at hl 0 rfl) ?_
                              refine va_get (D := (dC, dI)) (ci := 7) (v := .ref aMO) (C := RX7) (T := TX7) (N := 34) hx hb hts iX7 hown hK hP 0 rfl rfl 24 (by decide) w3 (fun _ h9 => h9) rfl dX7_layChain_179 ?_
                              refine lv_aload_n hx hb dX7_layChain_182 rfl (lv_at hl 0 rfl) ?_
                              refine va_get (D := (dC, dI)) (ci := 7) (v := .ref aMF) (C := RX7) (T := TX7) (N := 34) hx hb hts iX7 hown hK hP 0 rfl rfl 3 (by decide) w5 (fun _ h9 => h9) rfl dX7_layChain_183 ?_
                              refine lv_iload hx hb dX7_layChain_186 (lv_at hl 4 rfl) ?_
                              have h57 : vp_in (nI d) 20 := by first | exact vp_in_nI (by omega) (by omega) | assumption
                              refine va_iald hx hb hK hP 1 0 rfl rfl h57 dX7_layChain_188 ?_
                              refine lv_topi (fun x58 e59 => ?_)
                              obtain rfl : x58 = (nI (F d)) := by rw [e59, nI_clamp (by omega)]
                              clear e59
                              refine lv_iload hx hb dX7_layChain_189 (lv_at hl 4 rfl) ?_
                              have h60 : vp_in (nI (F d)) 12 := by first | exact vp_in_nI (by omega) (by omega) | assumption
                              refine va_iast hx hb hK hP hD hS 6 0 rfl rfl h60 dX7_layChain_191 (fun H locs hP hD hS => ?_)
                              rw [nI_clamp (by omega)] at hP hD
                              have hP : va_P (dC, dI) vwCl [(aM, .inr (7, [.int th, .int (nI n), .int (nI cnt), .ref aMF, .ref aMT, .ref aMN, .ref aML, .ref aMU, .int (nI ml), .ref aMB, .int (nI sg), .int (nI rm), .int (nI mdg), .int (nI mnb), .int (bI mng), .ref aMf, .ref aMt, .ref aMn, .ref aMl, .ref aMu, .ref aMP, .ref aMD, .int 0, .ref aMC, .ref aMO, .int gn, .int gl, .int gg, .ref aMY, .int nn, .int nl, .int nu, .ref aMS, .long hs])), (aMF, .inl (cyI, 20, .inl (fun j_ => nI (F j_)))), (aMT, .inl (cyI, 20, .inl (fun j_ => nI (T j_)))), (aMP, .inl (cyI, 12, .inl (fun j_ => nI (P j_)))), (aMD, .inl (cyZ, 20, .inl (fun j_ => bI (dd j_)))), (aMC, .inl (cyI, 12, .inl (fun j_ => nI (L j_)))), (aMO, .inl (cyI, 12, .inl (upd (owI F T dd (owR F T dd cnt (oiI wy b n) r) d) (F d) (nI d))))] H := hP
                              have hD : va_D A [(aM, .inr (7, [.int th, .int (nI n), .int (nI cnt), .ref aMF, .ref aMT, .ref aMN, .ref aML, .ref aMU, .int (nI ml), .ref aMB, .int (nI sg), .int (nI rm), .int (nI mdg), .int (nI mnb), .int (bI mng), .ref aMf, .ref aMt, .ref aMn, .ref aMl, .ref aMu, .ref aMP, .ref aMD, .int 0, .ref aMC, .ref aMO, .int gn, .int gl, .int gg, .ref aMY, .int nn, .int nl, .int nu, .ref aMS, .long hs])), (aMF, .inl (cyI, 20, .inl (fun j_ => nI (F j_)))), (aMT, .inl (cyI, 20, .inl (fun j_ => nI (T j_)))), (aMP, .inl (cyI, 12, .inl (fun j_ => nI (P j_)))), (aMD, .inl (cyZ, 20, .inl (fun j_ => bI (dd j_)))), (aMC, .inl (cyI, 12, .inl (fun j_ => nI (L j_)))), (aMO, .inl (cyI, 12, .inl (upd (owI F T dd (owR F T dd cnt (oiI wy b n) r) d) (F d) (nI d))))] := hD
                              refine lv_iinc (v := nI (d + 1)) (lv' := [(4, .int (nI (d + 1))), (0, .ref aM), (1, .int (nI a)), (2, .int (nI b)), (3, .int (nI r))]) hx hb dX7_layChain_192 hl (k := 4) rfl (nI_add d 1) (by decide) rfl (fun ls hl => ?_)
                              refine lv_goto (tgt := 68) hx hb dX7_layChain_195 (by decide) ?_
                              have q61 : (owI F T dd (owR F T dd cnt (oiI wy b n) r) (d + 1)) = (upd (owI F T dd (owR F T dd cnt (oiI wy b n) r) d) (F d) (nI d)) := by first | (simp [owI, owS, *]; done) | exact absurd (c143.symm.trans c84) (by decide) | exact absurd c100 c175 | exact absurd c159 c116
                              exact ih68 (d + 1) (by omega) (by first | assumption | omega) _ _ _ (by first | (rw [q61]; exact hP) | (simp only [q61]; exact hP) | exact hP) (by first | (rw [q61]; exact hD) | (simp only [q61]; exact hD) | exact hD) hS (lv_sub hl [1, 2, 3, 4, 0] rfl)
                      · have c84 : (dd d) = false := bI_0 c84
                        refine lv_aload_n hx hb dX7_layChain_87 rfl (lv_at hl 0 rfl) ?_
                        refine va_get (D := (dC, dI)) (ci := 7) (v := .ref aMO) (C := RX7) (T := TX7) (N := 34) hx hb hts iX7 hown hK hP 0 rfl rfl 24 (by decide) w3 (fun _ h9 => h9) rfl dX7_layChain_88 ?_
                        refine lv_aload_n hx hb dX7_layChain_91 rfl (lv_at hl 0 rfl) ?_
                        refine va_get (D := (dC, dI)) (ci := 7) (v := .ref aMF) (C := RX7) (T := TX7) (N := 34) hx hb hts iX7 hown hK hP 0 rfl rfl 3 (by decide) w5 (fun _ h9 => h9) rfl dX7_layChain_92 ?_
                        refine lv_iload hx hb dX7_layChain_95 (lv_at hl 4 rfl) ?_
                        have h62 : vp_in (nI d) 20 := by first | exact vp_in_nI (by omega) (by omega) | assumption
                        refine va_iald hx hb hK hP 1 0 rfl rfl h62 dX7_layChain_97 ?_
                        refine lv_topi (fun x63 e64 => ?_)
                        obtain rfl : x63 = (nI (F d)) := by rw [e64, nI_clamp (by omega)]
                        clear e64
                        have h65 : vp_in (nI (F d)) 12 := by first | exact vp_in_nI (by omega) (by omega) | assumption
                        refine va_iald hx hb hK hP 6 0 rfl rfl h65 dX7_layChain_98 ?_
                        refine lv_topi (fun x66 e67 => ?_)
                        obtain rfl : x66 = ((owI F T dd (owR F T dd cnt (oiI wy b n) r) d) (F d)) := by rw [e67, nI_clamp (by omega)]
                        clear e67
                        refine lv_iconst (v := (-1)) hx hb dX7_layChain_99 (by decide) ?_
                        refine lv_icmp_eq (tgt := 136) hx hb dX7_layChain_100 (by decide) (fun c100 => ?_) (fun c100 => ?_)
                        · skip
                          refine lv_aload_n hx hb dX7_layChain_136 rfl (lv_at hl 0 rfl) ?_
                          refine va_get (D := (dC, dI)) (ci := 7) (v := .ref aMD) (C := RX7) (T := TX7) (N := 34) hx hb hts iX7 hown hK hP 0 rfl rfl 21 (by decide) w8 (fun _ h9 => h9) rfl dX7_layChain_137 ?_
                          refine lv_iload hx hb dX7_layChain_140 (lv_at hl 4 rfl) ?_
                          have h68 : vp_in (nI d) 20 := by first | exact vp_in_nI (by omega) (by omega) | assumption
                          refine va_zald hx hb hK hP 4 1 rfl rfl h68 dX7_layChain_142 ?_
                          refine lv_topi (fun x69 e70 => ?_)
                          obtain rfl : x69 = (bI (dd d)) := by rw [e70, nI_clamp (by omega)]
                          clear e70
                          refine lv_if_ne (tgt := 192) hx hb dX7_layChain_143 (by decide) (fun c143 => ?_) (fun c143 => ?_)
                          · have c143 : (dd d) = true := bI_n0 c143
                            refine lv_iinc (v := nI (d + 1)) (lv' := [(4, .int (nI (d + 1))), (0, .ref aM), (1, .int (nI a)), (2, .int (nI b)), (3, .int (nI r))]) hx hb dX7_layChain_192 hl (k := 4) rfl (nI_add d 1) (by decide) rfl (fun ls hl => ?_)
                            refine lv_goto (tgt := 68) hx hb dX7_layChain_195 (by decide) ?_
                            have q71 : (owI F T dd (owR F T dd cnt (oiI wy b n) r) (d + 1)) = (owI F T dd (owR F T dd cnt (oiI wy b n) r) d) := by first | (simp [owI, owS, *]; done) | exact absurd (c143.symm.trans c84) (by decide) | exact absurd c100 c175 | exact absurd c159 c116
                            exact ih68 (d + 1) (by omega) (by first | assumption | omega) _ _ _ (by first | (rw [q71]; exact hP) | (simp only [q71]; exact hP) | exact hP) (by first | (rw [q71]; exact hD) | (simp only [q71]; exact hD) | exact hD) hS (lv_sub hl [1, 2, 3, 4, 0] rfl)
                          · have c143 : (dd d) = false := bI_0 c143
                            refine lv_aload_n hx hb dX7_layChain_146 rfl (lv_at hl 0 rfl) ?_
                            refine va_get (D := (dC, dI)) (ci := 7) (v := .ref aMO) (C := RX7) (T := TX7) (N := 34) hx hb hts iX7 hown hK hP 0 rfl rfl 24 (by decide) w3 (fun _ h9 => h9) rfl dX7_layChain_147 ?_
                            refine lv_aload_n hx hb dX7_layChain_150 rfl (lv_at hl 0 rfl) ?_
                            refine va_get (D := (dC, dI)) (ci := 7) (v := .ref aMT) (C := RX7) (T := TX7) (N := 34) hx hb hts iX7 hown hK hP 0 rfl rfl 4 (by decide) w6 (fun _ h9 => h9) rfl dX7_layChain_151 ?_
                            refine lv_iload hx hb dX7_layChain_154 (lv_at hl 4 rfl) ?_
                            have h72 : vp_in (nI d) 20 := by first | exact vp_in_nI (by omega) (by omega) | assumption
                            refine va_iald hx hb hK hP 2 0 rfl rfl h72 dX7_layChain_156 ?_
                            refine lv_topi (fun x73 e74 => ?_)
                            obtain rfl : x73 = (nI (T d)) := by rw [e74, nI_clamp (by omega)]
                            clear e74
                            have h75 : vp_in (nI (T d)) 12 := by first | exact vp_in_nI (by omega) (by omega) | assumption
                            refine va_iald hx hb hK hP 6 0 rfl rfl h75 dX7_layChain_157 ?_
                            refine lv_topi (fun x76 e77 => ?_)
                            obtain rfl : x76 = ((owI F T dd (owR F T dd cnt (oiI wy b n) r) d) (T d)) := by rw [e77, nI_clamp (by omega)]
                            clear e77
                            refine lv_iconst (v := (-1)) hx hb dX7_layChain_158 (by decide) ?_
                            refine lv_icmp_eq (tgt := 192) hx hb dX7_layChain_159 (by decide) (fun c159 => ?_) (fun c159 => ?_)
                            · skip
                              refine lv_iinc (v := nI (d + 1)) (lv' := [(4, .int (nI (d + 1))), (0, .ref aM), (1, .int (nI a)), (2, .int (nI b)), (3, .int (nI r))]) hx hb dX7_layChain_192 hl (k := 4) rfl (nI_add d 1) (by decide) rfl (fun ls hl => ?_)
                              refine lv_goto (tgt := 68) hx hb dX7_layChain_195 (by decide) ?_
                              have q78 : (owI F T dd (owR F T dd cnt (oiI wy b n) r) (d + 1)) = (owI F T dd (owR F T dd cnt (oiI wy b n) r) d) := by first | (simp [owI, owS, *]; done) | exact absurd (c143.symm.trans c84) (by decide) | exact absurd c100 c175 | exact absurd c159 c116
                              exact ih68 (d + 1) (by omega) (by first | assumption | omega) _ _ _ (by first | (rw [q78]; exact hP) | (simp only [q78]; exact hP) | exact hP) (by first | (rw [q78]; exact hD) | (simp only [q78]; exact hD) | exact hD) hS (lv_sub hl [1, 2, 3, 4, 0] rfl)
                            · skip
                              refine lv_aload_n hx hb dX7_layChain_162 rfl (lv_at hl 0 rfl) ?_
                              refine va_get (D := (dC, dI)) (ci := 7) (v := .ref aMO) (C := RX7) (T := TX7) (N := 34) hx hb hts iX7 hown hK hP 0 rfl rfl 24 (by decide) w3 (fun _ h9 => h9) rfl dX7_layChain_163 ?_
                              refine lv_aload_n hx hb dX7_layChain_166 rfl (lv_at hl 0 rfl) ?_
                              refine va_get (D := (dC, dI)) (ci := 7) (v := .ref aMF) (C := RX7) (T := TX7) (N := 34) hx hb hts iX7 hown hK hP 0 rfl rfl 3 (by decide) w5 (fun _ h9 => h9) rfl dX7_layChain_167 ?_
                              refine lv_iload hx hb dX7_layChain_170 (lv_at hl 4 rfl) ?_
                              have h79 : vp_in (nI d) 20 := by first | exact vp_in_nI (by omega) (by omega) | assumption
                              refine va_iald hx hb hK hP 1 0 rfl rfl h79 dX7_layChain_172 ?_
                              refine lv_topi (fun x80 e81 => ?_)
                              obtain rfl : x80 = (nI (F d)) := by rw [e81, nI_clamp (by omega)]
                              clear e81
                              have h82 : vp_in (nI (F d)) 12 := by first | exact vp_in_nI (by omega) (by omega) | assumption
                              refine va_iald hx hb hK hP 6 0 rfl rfl h82 dX7_layChain_173 ?_
                              refine lv_topi (fun x83 e84 => ?_)
                              obtain rfl : x83 = ((owI F T dd (owR F T dd cnt (oiI wy b n) r) d) (F d)) := by rw [e84, nI_clamp (by omega)]
                              clear e84
                              refine lv_iconst (v := (-1)) hx hb dX7_layChain_174 (by decide) ?_
                              refine lv_icmp_ne (tgt := 192) hx hb dX7_layChain_175 (by decide) (fun c175 => ?_) (fun c175 => ?_)
                              · skip
                                refine lv_iinc (v := nI (d + 1)) (lv' := [(4, .int (nI (d + 1))), (0, .ref aM), (1, .int (nI a)), (2, .int (nI b)), (3, .int (nI r))]) hx hb dX7_layChain_192 hl (k := 4) rfl (nI_add d 1) (by decide) rfl (fun ls hl => ?_)
                                refine lv_goto (tgt := 68) hx hb dX7_layChain_195 (by decide) ?_
                                have q85 : (owI F T dd (owR F T dd cnt (oiI wy b n) r) (d + 1)) = (owI F T dd (owR F T dd cnt (oiI wy b n) r) d) := by first | (simp [owI, owS, *]; done) | exact absurd (c143.symm.trans c84) (by decide) | exact absurd c100 c175 | exact absurd c159 c116
                                exact ih68 (d + 1) (by omega) (by first | assumption | omega) _ _ _ (by first | (rw [q85]; exact hP) | (simp only [q85]; exact hP) | exact hP) (by first | (rw [q85]; exact hD) | (simp only [q85]; exact hD) | exact hD) hS (lv_sub hl [1, 2, 3, 4, 0] rfl)
                              · skip
                                refine lv_aload_n hx hb dX7_layChain_178 rfl (lv_at hl 0 rfl) ?_
                                refine va_get (D := (dC, dI)) (ci := 7) (v := .ref aMO) (C := RX7) (T := TX7) (N := 34) hx hb hts iX7 hown hK hP 0 rfl rfl 24 (by decide) w3 (fun _ h9 => h9) rfl dX7_layChain_179 ?_
                                refine lv_aload_n hx hb dX7_layChain_182 rfl (lv_at hl 0 rfl) ?_
                                refine va_get (D := (dC, dI)) (ci := 7) (v := .ref aMF) (C := RX7) (T := TX7) (N := 34) hx hb hts iX7 hown hK hP 0 rfl rfl 3 (by decide) w5 (fun _ h9 => h9) rfl dX7_layChain_183 ?_
                                refine lv_iload hx hb dX7_layChain_186 (lv_at hl 4 rfl) ?_
                                have h86 : vp_in (nI d) 20 := by first | exact vp_in_nI (by omega) (by omega) | assumption
                                refine va_iald hx hb hK hP 1 0 rfl rfl h86 dX7_layChain_188 ?_
                                refine lv_topi (fun x87 e88 => ?_)
                                obtain rfl : x87 = (nI (F d)) := by rw [e88, nI_clamp (by omega)]
                                clear e88
                                refine lv_iload hx hb dX7_layChain_189 (lv_at hl 4 rfl) ?_
                                have h89 : vp_in (nI (F d)) 12 := by first | exact vp_in_nI (by omega) (by omega) | assumption
                                refine va_iast hx hb hK hP hD hS 6 0 rfl rfl h89 dX7_layChain_191 (fun H locs hP hD hS => ?_)
                                rw [nI_clamp (by omega)] at hP hD
                                have hP : va_P (dC, dI) vwCl [(aM, .inr (7, [.int th, .int (nI n), .int (nI cnt), .ref aMF, .ref aMT, .ref aMN, .ref aML, .ref aMU, .int (nI ml), .ref aMB, .int (nI sg), .int (nI rm), .int (nI mdg), .int (nI mnb), .int (bI mng), .ref aMf, .ref aMt, .ref aMn, .ref aMl, .ref aMu, .ref aMP, .ref aMD, .int 0, .ref aMC, .ref aMO, .int gn, .int gl, .int gg, .ref aMY, .int nn, .int nl, .int nu, .ref aMS, .long hs])), (aMF, .inl (cyI, 20, .inl (fun j_ => nI (F j_)))), (aMT, .inl (cyI, 20, .inl (fun j_ => nI (T j_)))), (aMP, .inl (cyI, 12, .inl (fun j_ => nI (P j_)))), (aMD, .inl (cyZ, 20, .inl (fun j_ => bI (dd j_)))), (aMC, .inl (cyI, 12, .inl (fun j_ => nI (L j_)))), (aMO, .inl (cyI, 12, .inl (upd (owI F T dd (owR F T dd cnt (oiI wy b n) r) d) (F d) (nI d))))] H := hP
                                have hD : va_D A [(aM, .inr (7, [.int th, .int (nI n), .int (nI cnt), .ref aMF, .ref aMT, .ref aMN, .ref aML, .ref aMU, .int (nI ml), .ref aMB, .int (nI sg), .int (nI rm), .int (nI mdg), .int (nI mnb), .int (bI mng), .ref aMf, .ref aMt, .ref aMn, .ref aMl, .ref aMu, .ref aMP, .ref aMD, .int 0, .ref aMC, .ref aMO, .int gn, .int gl, .int gg, .ref aMY, .int nn, .int nl, .int nu, .ref aMS, .long hs])), (aMF, .inl (cyI, 20, .inl (fun j_ => nI (F j_)))), (aMT, .inl (cyI, 20, .inl (fun j_ => nI (T j_)))), (aMP, .inl (cyI, 12, .inl (fun j_ => nI (P j_)))), (aMD, .inl (cyZ, 20, .inl (fun j_ => bI (dd j_)))), (aMC, .inl (cyI, 12, .inl (fun j_ => nI (L j_)))), (aMO, .inl (cyI, 12, .inl (upd (owI F T dd (owR F T dd cnt (oiI wy b n) r) d) (F d) (nI d))))] := hD
                                refine lv_iinc (v := nI (d + 1)) (lv' := [(4, .int (nI (d + 1))), (0, .ref aM), (1, .int (nI a)), (2, .int (nI b)), (3, .int (nI r))]) hx hb dX7_layChain_192 hl (k := 4) rfl (nI_add d 1) (by decide) rfl (fun ls hl => ?_)
                                refine lv_goto (tgt := 68) hx hb dX7_layChain_195 (by decide) ?_
                                have q90 : (owI F T dd (owR F T dd cnt (oiI wy b n) r) (d + 1)) = (upd (owI F T dd (owR F T dd cnt (oiI wy b n) r) d) (F d) (nI d)) := by first | (simp [owI, owS, *]; done) | exact absurd (c143.symm.trans c84) (by decide) | exact absurd c100 c175 | exact absurd c159 c116
                                exact ih68 (d + 1) (by omega) (by first | assumption | omega) _ _ _ (by first | (rw [q90]; exact hP) | (simp only [q90]; exact hP) | exact hP) (by first | (rw [q90]; exact hD) | (simp only [q90]; exact hD) | exact hD) hS (lv_sub hl [1, 2, 3, 4, 0] rfl)
                        · skip
                          refine lv_aload_n hx hb dX7_layChain_103 rfl (lv_at hl 0 rfl) ?_
                          refine va_get (D := (dC, dI)) (ci := 7) (v := .ref aMO) (C := RX7) (T := TX7) (N := 34) hx hb hts iX7 hown hK hP 0 rfl rfl 24 (by decide) w3 (fun _ h9 => h9) rfl dX7_layChain_104 ?_
                          refine lv_aload_n hx hb dX7_layChain_107 rfl (lv_at hl 0 rfl) ?_
                          refine va_get (D := (dC, dI)) (ci := 7) (v := .ref aMT) (C := RX7) (T := TX7) (N := 34) hx hb hts iX7 hown hK hP 0 rfl rfl 4 (by decide) w6 (fun _ h9 => h9) rfl dX7_layChain_108 ?_
                          refine lv_iload hx hb dX7_layChain_111 (lv_at hl 4 rfl) ?_
                          have h91 : vp_in (nI d) 20 := by first | exact vp_in_nI (by omega) (by omega) | assumption
                          refine va_iald hx hb hK hP 2 0 rfl rfl h91 dX7_layChain_113 ?_
                          refine lv_topi (fun x92 e93 => ?_)
                          obtain rfl : x92 = (nI (T d)) := by rw [e93, nI_clamp (by omega)]
                          clear e93
                          have h94 : vp_in (nI (T d)) 12 := by first | exact vp_in_nI (by omega) (by omega) | assumption
                          refine va_iald hx hb hK hP 6 0 rfl rfl h94 dX7_layChain_114 ?_
                          refine lv_topi (fun x95 e96 => ?_)
                          obtain rfl : x95 = ((owI F T dd (owR F T dd cnt (oiI wy b n) r) d) (T d)) := by rw [e96, nI_clamp (by omega)]
                          clear e96
                          refine lv_iconst (v := (-1)) hx hb dX7_layChain_115 (by decide) ?_
                          refine lv_icmp_ne (tgt := 136) hx hb dX7_layChain_116 (by decide) (fun c116 => ?_) (fun c116 => ?_)
                          · skip
                            refine lv_aload_n hx hb dX7_layChain_136 rfl (lv_at hl 0 rfl) ?_
                            refine va_get (D := (dC, dI)) (ci := 7) (v := .ref aMD) (C := RX7) (T := TX7) (N := 34) hx hb hts iX7 hown hK hP 0 rfl rfl 21 (by decide) w8 (fun _ h9 => h9) rfl dX7_layChain_137 ?_
                            refine lv_iload hx hb dX7_layChain_140 (lv_at hl 4 rfl) ?_
                            have h97 : vp_in (nI d) 20 := by first | exact vp_in_nI (by omega) (by omega) | assumption
                            refine va_zald hx hb hK hP 4 1 rfl rfl h97 dX7_layChain_142 ?_
                            refine lv_topi (fun x98 e99 => ?_)
                            obtain rfl : x98 = (bI (dd d)) := by rw [e99, nI_clamp (by omega)]
                            clear e99
                            refine lv_if_ne (tgt := 192) hx hb dX7_layChain_143 (by decide) (fun c143 => ?_) (fun c143 => ?_)
                            · have c143 : (dd d) = true := bI_n0 c143
                              refine lv_iinc (v := nI (d + 1)) (lv' := [(4, .int (nI (d + 1))), (0, .ref aM), (1, .int (nI a)), (2, .int (nI b)), (3, .int (nI r))]) hx hb dX7_layChain_192 hl (k := 4) rfl (nI_add d 1) (by decide) rfl (fun ls hl => ?_)
                              refine lv_goto (tgt := 68) hx hb dX7_layChain_195 (by decide) ?_
                              have q100 : (owI F T dd (owR F T dd cnt (oiI wy b n) r) (d + 1)) = (owI F T dd (owR F T dd cnt (oiI wy b n) r) d) := by first | (simp [owI, owS, *]; done) | exact absurd (c143.symm.trans c84) (by decide) | exact absurd c100 c175 | exact absurd c159 c116
                              exact ih68 (d + 1) (by omega) (by first | assumption | omega) _ _ _ (by first | (rw [q100]; exact hP) | (simp only [q100]; exact hP) | exact hP) (by first | (rw [q100]; exact hD) | (simp only [q100]; exact hD) | exact hD) hS (lv_sub hl [1, 2, 3, 4, 0] rfl)
                            · have c143 : (dd d) = false := bI_0 c143
                              refine lv_aload_n hx hb dX7_layChain_146 rfl (lv_at hl 0 rfl) ?_
                              refine va_get (D := (dC, dI)) (ci := 7) (v := .ref aMO) (C := RX7) (T := TX7) (N := 34) hx hb hts iX7 hown hK hP 0 rfl rfl 24 (by decide) w3 (fun _ h9 => h9) rfl dX7_layChain_147 ?_
                              refine lv_aload_n hx hb dX7_layChain_150 rfl (lv_at hl 0 rfl) ?_
                              refine va_get (D := (dC, dI)) (ci := 7) (v := .ref aMT) (C := RX7) (T := TX7) (N := 34) hx hb hts iX7 hown hK hP 0 rfl rfl 4 (by decide) w6 (fun _ h9 => h9) rfl dX7_layChain_151 ?_
                              refine lv_iload hx hb dX7_layChain_154 (lv_at hl 4 rfl) ?_
                              have h101 : vp_in (nI d) 20 := by first | exact vp_in_nI (by omega) (by omega) | assumption
                              refine va_iald hx hb hK hP 2 0 rfl rfl h101 dX7_layChain_156 ?_
                              refine lv_topi (fun x102 e103 => ?_)
                              obtain rfl : x102 = (nI (T d)) := by rw [e103, nI_clamp (by omega)]
                              clear e103
                              have h104 : vp_in (nI (T d)) 12 := by first | exact vp_in_nI (by omega) (by omega) | assumption
                              refine va_iald hx hb hK hP 6 0 rfl rfl h104 dX7_layChain_157 ?_
                              refine lv_topi (fun x105 e106 => ?_)
                              obtain rfl : x105 = ((owI F T dd (owR F T dd cnt (oiI wy b n) r) d) (T d)) := by rw [e106, nI_clamp (by omega)]
                              clear e106
                              refine lv_iconst (v := (-1)) hx hb dX7_layChain_158 (by decide) ?_
                              refine lv_icmp_eq (tgt := 192) hx hb dX7_layChain_159 (by decide) (fun c159 => ?_) (fun c159 => ?_)
                              · skip
                                refine lv_iinc (v := nI (d + 1)) (lv' := [(4, .int (nI (d + 1))), (0, .ref aM), (1, .int (nI a)), (2, .int (nI b)), (3, .int (nI r))]) hx hb dX7_layChain_192 hl (k := 4) rfl (nI_add d 1) (by decide) rfl (fun ls hl => ?_)
                                refine lv_goto (tgt := 68) hx hb dX7_layChain_195 (by decide) ?_
                                have q107 : (owI F T dd (owR F T dd cnt (oiI wy b n) r) (d + 1)) = (owI F T dd (owR F T dd cnt (oiI wy b n) r) d) := by first | (simp [owI, owS, *]; done) | exact absurd (c143.symm.trans c84) (by decide) | exact absurd c100 c175 | exact absurd c159 c116
                                exact ih68 (d + 1) (by omega) (by first | assumption | omega) _ _ _ (by first | (rw [q107]; exact hP) | (simp only [q107]; exact hP) | exact hP) (by first | (rw [q107]; exact hD) | (simp only [q107]; exact hD) | exact hD) hS (lv_sub hl [1, 2, 3, 4, 0] rfl)
                              · skip
                                refine lv_aload_n hx hb dX7_layChain_162 rfl (lv_at hl 0 rfl) ?_
                                refine va_get (D := (dC, dI)) (ci := 7) (v := .ref aMO) (C := RX7) (T := TX7) (N := 34) hx hb hts iX7 hown hK hP 0 rfl rfl 24 (by decide) w3 (fun _ h9 => h9) rfl dX7_layChain_163 ?_
                                refine lv_aload_n hx hb dX7_layChain_166 rfl (lv_at hl 0 rfl) ?_
                                refine va_get (D := (dC, dI)) (ci := 7) (v := .ref aMF) (C := RX7) (T := TX7) (N := 34) hx hb hts iX7 hown hK hP 0 rfl rfl 3 (by decide) w5 (fun _ h9 => h9) rfl dX7_layChain_167 ?_
                                refine lv_iload hx hb dX7_layChain_170 (lv_at hl 4 rfl) ?_
                                have h108 : vp_in (nI d) 20 := by first | exact vp_in_nI (by omega) (by omega) | assumption
                                refine va_iald hx hb hK hP 1 0 rfl rfl h108 dX7_layChain_172 ?_
                                refine lv_topi (fun x109 e110 => ?_)
                                obtain rfl : x109 = (nI (F d)) := by rw [e110, nI_clamp (by omega)]
                                clear e110
                                have h111 : vp_in (nI (F d)) 12 := by first | exact vp_in_nI (by omega) (by omega) | assumption
                                refine va_iald hx hb hK hP 6 0 rfl rfl h111 dX7_layChain_173 ?_
                                refine lv_topi (fun x112 e113 => ?_)
                                obtain rfl : x112 = ((owI F T dd (owR F T dd cnt (oiI wy b n) r) d) (F d)) := by rw [e113, nI_clamp (by omega)]
                                clear e113
                                refine lv_iconst (v := (-1)) hx hb dX7_layChain_174 (by decide) ?_
                                refine lv_icmp_ne (tgt := 192) hx hb dX7_layChain_175 (by decide) (fun c175 => ?_) (fun c175 => ?_)
                                · skip
                                  refine lv_iinc (v := nI (d + 1)) (lv' := [(4, .int (nI (d + 1))), (0, .ref aM), (1, .int (nI a)), (2, .int (nI b)), (3, .int (nI r))]) hx hb dX7_layChain_192 hl (k := 4) rfl (nI_add d 1) (by decide) rfl (fun ls hl => ?_)
                                  refine lv_goto (tgt := 68) hx hb dX7_layChain_195 (by decide) ?_
                                  have q114 : (owI F T dd (owR F T dd cnt (oiI wy b n) r) (d + 1)) = (owI F T dd (owR F T dd cnt (oiI wy b n) r) d) := by first | (simp [owI, owS, *]; done) | exact absurd (c143.symm.trans c84) (by decide) | exact absurd c100 c175 | exact absurd c159 c116
                                  exact ih68 (d + 1) (by omega) (by first | assumption | omega) _ _ _ (by first | (rw [q114]; exact hP) | (simp only [q114]; exact hP) | exact hP) (by first | (rw [q114]; exact hD) | (simp only [q114]; exact hD) | exact hD) hS (lv_sub hl [1, 2, 3, 4, 0] rfl)
                                · skip
                                  refine lv_aload_n hx hb dX7_layChain_178 rfl (lv_at hl 0 rfl) ?_
                                  refine va_get (D := (dC, dI)) (ci := 7) (v := .ref aMO) (C := RX7) (T := TX7) (N := 34) hx hb hts iX7 hown hK hP 0 rfl rfl 24 (by decide) w3 (fun _ h9 => h9) rfl dX7_layChain_179 ?_
                                  refine lv_aload_n hx hb dX7_layChain_182 rfl (lv_at hl 0 rfl) ?_
                                  refine va_get (D := (dC, dI)) (ci := 7) (v := .ref aMF) (C := RX7) (T := TX7) (N := 34) hx hb hts iX7 hown hK hP 0 rfl rfl 3 (by decide) w5 (fun _ h9 => h9) rfl dX7_layChain_183 ?_
                                  refine lv_iload hx hb dX7_layChain_186 (lv_at hl 4 rfl) ?_
                                  have h115 : vp_in (nI d) 20 := by first | exact vp_in_nI (by omega) (by omega) | assumption
                                  refine va_iald hx hb hK hP 1 0 rfl rfl h115 dX7_layChain_188 ?_
                                  refine lv_topi (fun x116 e117 => ?_)
                                  obtain rfl : x116 = (nI (F d)) := by rw [e117, nI_clamp (by omega)]
                                  clear e117
                                  refine lv_iload hx hb dX7_layChain_189 (lv_at hl 4 rfl) ?_
                                  have h118 : vp_in (nI (F d)) 12 := by first | exact vp_in_nI (by omega) (by omega) | assumption
                                  refine va_iast hx hb hK hP hD hS 6 0 rfl rfl h118 dX7_layChain_191 (fun H locs hP hD hS => ?_)
                                  rw [nI_clamp (by omega)] at hP hD
                                  have hP : va_P (dC, dI) vwCl [(aM, .inr (7, [.int th, .int (nI n), .int (nI cnt), .ref aMF, .ref aMT, .ref aMN, .ref aML, .ref aMU, .int (nI ml), .ref aMB, .int (nI sg), .int (nI rm), .int (nI mdg), .int (nI mnb), .int (bI mng), .ref aMf, .ref aMt, .ref aMn, .ref aMl, .ref aMu, .ref aMP, .ref aMD, .int 0, .ref aMC, .ref aMO, .int gn, .int gl, .int gg, .ref aMY, .int nn, .int nl, .int nu, .ref aMS, .long hs])), (aMF, .inl (cyI, 20, .inl (fun j_ => nI (F j_)))), (aMT, .inl (cyI, 20, .inl (fun j_ => nI (T j_)))), (aMP, .inl (cyI, 12, .inl (fun j_ => nI (P j_)))), (aMD, .inl (cyZ, 20, .inl (fun j_ => bI (dd j_)))), (aMC, .inl (cyI, 12, .inl (fun j_ => nI (L j_)))), (aMO, .inl (cyI, 12, .inl (upd (owI F T dd (owR F T dd cnt (oiI wy b n) r) d) (F d) (nI d))))] H := hP
                                  have hD : va_D A [(aM, .inr (7, [.int th, .int (nI n), .int (nI cnt), .ref aMF, .ref aMT, .ref aMN, .ref aML, .ref aMU, .int (nI ml), .ref aMB, .int (nI sg), .int (nI rm), .int (nI mdg), .int (nI mnb), .int (bI mng), .ref aMf, .ref aMt, .ref aMn, .ref aMl, .ref aMu, .ref aMP, .ref aMD, .int 0, .ref aMC, .ref aMO, .int gn, .int gl, .int gg, .ref aMY, .int nn, .int nl, .int nu, .ref aMS, .long hs])), (aMF, .inl (cyI, 20, .inl (fun j_ => nI (F j_)))), (aMT, .inl (cyI, 20, .inl (fun j_ => nI (T j_)))), (aMP, .inl (cyI, 12, .inl (fun j_ => nI (P j_)))), (aMD, .inl (cyZ, 20, .inl (fun j_ => bI (dd j_)))), (aMC, .inl (cyI, 12, .inl (fun j_ => nI (L j_)))), (aMO, .inl (cyI, 12, .inl (upd (owI F T dd (owR F T dd cnt (oiI wy b n) r) d) (F d) (nI d))))] := hD
                                  refine lv_iinc (v := nI (d + 1)) (lv' := [(4, .int (nI (d + 1))), (0, .ref aM), (1, .int (nI a)), (2, .int (nI b)), (3, .int (nI r))]) hx hb dX7_layChain_192 hl (k := 4) rfl (nI_add d 1) (by decide) rfl (fun ls hl => ?_)
                                  refine lv_goto (tgt := 68) hx hb dX7_layChain_195 (by decide) ?_
                                  have q119 : (owI F T dd (owR F T dd cnt (oiI wy b n) r) (d + 1)) = (upd (owI F T dd (owR F T dd cnt (oiI wy b n) r) d) (F d) (nI d)) := by first | (simp [owI, owS, *]; done) | exact absurd (c143.symm.trans c84) (by decide) | exact absurd c100 c175 | exact absurd c159 c116
                                  exact ih68 (d + 1) (by omega) (by first | assumption | omega) _ _ _ (by first | (rw [q119]; exact hP) | (simp only [q119]; exact hP) | exact hP) (by first | (rw [q119]; exact hD) | (simp only [q119]; exact hD) | exact hD) hS (lv_sub hl [1, 2, 3, 4, 0] rfl)
                          · skip
                            refine lv_aload_n hx hb dX7_layChain_119 rfl (lv_at hl 0 rfl) ?_
                            refine va_get (D := (dC, dI)) (ci := 7) (v := .ref aMO) (C := RX7) (T := TX7) (N := 34) hx hb hts iX7 hown hK hP 0 rfl rfl 24 (by decide) w3 (fun _ h9 => h9) rfl dX7_layChain_120 ?_
                            refine lv_aload_n hx hb dX7_layChain_123 rfl (lv_at hl 0 rfl) ?_
                            refine va_get (D := (dC, dI)) (ci := 7) (v := .ref aMT) (C := RX7) (T := TX7) (N := 34) hx hb hts iX7 hown hK hP 0 rfl rfl 4 (by decide) w6 (fun _ h9 => h9) rfl dX7_layChain_124 ?_
                            refine lv_iload hx hb dX7_layChain_127 (lv_at hl 4 rfl) ?_
                            have h120 : vp_in (nI d) 20 := by first | exact vp_in_nI (by omega) (by omega) | assumption
                            refine va_iald hx hb hK hP 2 0 rfl rfl h120 dX7_layChain_129 ?_
                            refine lv_topi (fun x121 e122 => ?_)
                            obtain rfl : x121 = (nI (T d)) := by rw [e122, nI_clamp (by omega)]
                            clear e122
                            refine lv_iload hx hb dX7_layChain_130 (lv_at hl 4 rfl) ?_
                            have h123 : vp_in (nI (T d)) 12 := by first | exact vp_in_nI (by omega) (by omega) | assumption
                            refine va_iast hx hb hK hP hD hS 6 0 rfl rfl h123 dX7_layChain_132 (fun H locs hP hD hS => ?_)
                            rw [nI_clamp (by omega)] at hP hD
                            have hP : va_P (dC, dI) vwCl [(aM, .inr (7, [.int th, .int (nI n), .int (nI cnt), .ref aMF, .ref aMT, .ref aMN, .ref aML, .ref aMU, .int (nI ml), .ref aMB, .int (nI sg), .int (nI rm), .int (nI mdg), .int (nI mnb), .int (bI mng), .ref aMf, .ref aMt, .ref aMn, .ref aMl, .ref aMu, .ref aMP, .ref aMD, .int 0, .ref aMC, .ref aMO, .int gn, .int gl, .int gg, .ref aMY, .int nn, .int nl, .int nu, .ref aMS, .long hs])), (aMF, .inl (cyI, 20, .inl (fun j_ => nI (F j_)))), (aMT, .inl (cyI, 20, .inl (fun j_ => nI (T j_)))), (aMP, .inl (cyI, 12, .inl (fun j_ => nI (P j_)))), (aMD, .inl (cyZ, 20, .inl (fun j_ => bI (dd j_)))), (aMC, .inl (cyI, 12, .inl (fun j_ => nI (L j_)))), (aMO, .inl (cyI, 12, .inl (upd (owI F T dd (owR F T dd cnt (oiI wy b n) r) d) (T d) (nI d))))] H := hP
                            have hD : va_D A [(aM, .inr (7, [.int th, .int (nI n), .int (nI cnt), .ref aMF, .ref aMT, .ref aMN, .ref aML, .ref aMU, .int (nI ml), .ref aMB, .int (nI sg), .int (nI rm), .int (nI mdg), .int (nI mnb), .int (bI mng), .ref aMf, .ref aMt, .ref aMn, .ref aMl, .ref aMu, .ref aMP, .ref aMD, .int 0, .ref aMC, .ref aMO, .int gn, .int gl, .int gg, .ref aMY, .int nn, .int nl, .int nu, .ref aMS, .long hs])), (aMF, .inl (cyI, 20, .inl (fun j_ => nI (F j_)))), (aMT, .inl (cyI, 20, .inl (fun j_ => nI (T j_)))), (aMP, .inl (cyI, 12, .inl (fun j_ => nI (P j_)))), (aMD, .inl (cyZ, 20, .inl (fun j_ => bI (dd j_)))), (aMC, .inl (cyI, 12, .inl (fun j_ => nI (L j_)))), (aMO, .inl (cyI, 12, .inl (upd (owI F T dd (owR F T dd cnt (oiI wy b n) r) d) (T d) (nI d))))] := hD
                            refine lv_goto (tgt := 192) hx hb dX7_layChain_133 (by decide) ?_
                            refine lv_iinc (v := nI (d + 1)) (lv' := [(4, .int (nI (d + 1))), (0, .ref aM), (1, .int (nI a)), (2, .int (nI b)), (3, .int (nI r))]) hx hb dX7_layChain_192 hl (k := 4) rfl (nI_add d 1) (by decide) rfl (fun ls hl => ?_)
                            refine lv_goto (tgt := 68) hx hb dX7_layChain_195 (by decide) ?_
                            have q124 : (owI F T dd (owR F T dd cnt (oiI wy b n) r) (d + 1)) = (upd (owI F T dd (owR F T dd cnt (oiI wy b n) r) d) (T d) (nI d)) := by first | (simp [owI, owS, *]; done) | exact absurd (c143.symm.trans c84) (by decide) | exact absurd c100 c175 | exact absurd c159 c116
                            exact ih68 (d + 1) (by omega) (by first | assumption | omega) _ _ _ (by first | (rw [q124]; exact hP) | (simp only [q124]; exact hP) | exact hP) (by first | (rw [q124]; exact hD) | (simp only [q124]; exact hD) | exact hD) hS (lv_sub hl [1, 2, 3, 4, 0] rfl)
                have q125 : (owI F T dd (owR F T dd cnt (oiI wy b n) r) 0) = (owR F T dd cnt (oiI wy b n) r) := by rfl
                have q126 : (nI 0) = 0 := by first | rfl | simp [*] | (simp only [*]; done)
                exact k68 (cnt - 0 + 1) 0 (Nat.lt_succ_self _) (by first | assumption | omega) _ _ _ (by first | (rw [q125]; exact hP) | (simp only [q125]; exact hP) | exact hP) (by first | (rw [q125]; exact hD) | (simp only [q125]; exact hD) | exact hD) hS (by first | (rw [q126]; exact lv_sub hl [1, 2, 3, 4, 0] rfl) | (simp only [q126]; exact lv_sub hl [1, 2, 3, 4, 0] rfl) | exact lv_sub hl [1, 2, 3, 4, 0] rfl)
          have q127 : (owR F T dd cnt (oiI wy b n) 0) = (oiI wy b i) := by simp only [owR]; rw [e9]
          have q128 : (nI 0) = 0 := by first | rfl | simp [*] | (simp only [*]; done)
          exact k57 (n - 0 + 1) 0 (Nat.lt_succ_self _) (by first | assumption | omega) _ _ _ (by first | (rw [q127]; exact hP) | (simp only [q127]; exact hP) | exact hP) (by first | (rw [q127]; exact hD) | (simp only [q127]; exact hD) | exact hD) hS (by first | (rw [q128]; exact lv_sub hl [1, 2, 3, 0] rfl) | (simp only [q128]; exact lv_sub hl [1, 2, 3, 0] rfl) | exact lv_sub hl [1, 2, 3, 0] rfl)
        · have c29 := n_nle (a := n) (b := i) (by omega) (by omega) c29
          refine lv_aload_n hx hb dX7_layChain_32 rfl (lv_at hl 0 rfl) ?_
          refine va_get (D := (dC, dI)) (ci := 7) (v := .ref aMO) (C := RX7) (T := TX7) (N := 34) hx hb hts iX7 hown hK hP 0 rfl rfl 24 (by decide) w3 (fun _ h9 => h9) rfl dX7_layChain_33 ?_
          refine lv_iload_n hx hb dX7_layChain_36 rfl (lv_at hl 3 rfl) ?_
          refine lv_iload_n hx hb dX7_layChain_37 rfl (lv_at hl 3 rfl) ?_
          refine lv_iload_n hx hb dX7_layChain_38 rfl (lv_at hl 2 rfl) ?_
          have k48 : ∀ (v8 : Int32) (hv8 : v8 = if i = b then (20 : Int32) else -1) (H : Heap) (locs : List Loc) (ls : Array Slot), va_P (dC, dI) vwCl [(aM, .inr (7, [.int th, .int (nI n), .int (nI cnt), .ref aMF, .ref aMT, .ref aMN, .ref aML, .ref aMU, .int (nI ml), .ref aMB, .int (nI sg), .int (nI rm), .int (nI mdg), .int (nI mnb), .int (bI mng), .ref aMf, .ref aMt, .ref aMn, .ref aMl, .ref aMu, .ref aMP, .ref aMD, .int 0, .ref aMC, .ref aMO, .int gn, .int gl, .int gg, .ref aMY, .int nn, .int nl, .int nu, .ref aMS, .long hs])), (aMF, .inl (cyI, 20, .inl (fun j_ => nI (F j_)))), (aMT, .inl (cyI, 20, .inl (fun j_ => nI (T j_)))), (aMP, .inl (cyI, 12, .inl (fun j_ => nI (P j_)))), (aMD, .inl (cyZ, 20, .inl (fun j_ => bI (dd j_)))), (aMC, .inl (cyI, 12, .inl (fun j_ => nI (L j_)))), (aMO, .inl (cyI, 12, .inl (oiI wy b i)))] H → va_D A [(aM, .inr (7, [.int th, .int (nI n), .int (nI cnt), .ref aMF, .ref aMT, .ref aMN, .ref aML, .ref aMU, .int (nI ml), .ref aMB, .int (nI sg), .int (nI rm), .int (nI mdg), .int (nI mnb), .int (bI mng), .ref aMf, .ref aMt, .ref aMn, .ref aMl, .ref aMu, .ref aMP, .ref aMD, .int 0, .ref aMC, .ref aMO, .int gn, .int gl, .int gg, .ref aMY, .int nn, .int nl, .int nu, .ref aMS, .long hs])), (aMF, .inl (cyI, 20, .inl (fun j_ => nI (F j_)))), (aMT, .inl (cyI, 20, .inl (fun j_ => nI (T j_)))), (aMP, .inl (cyI, 12, .inl (fun j_ => nI (P j_)))), (aMD, .inl (cyZ, 20, .inl (fun j_ => bI (dd j_)))), (aMC, .inl (cyI, 12, .inl (fun j_ => nI (L j_)))), (aMO, .inl (cyI, 12, .inl (oiI wy b i)))] → va_S A s.heap H locs → lv_has ls 5 [(0, .ref aM), (1, .int (nI a)), (2, .int (nI b)), (3, .int (nI i))] → W pM l eM (headSpec wsX7_layChain ({ frames := 0, cells := 0, slots := 0, locals := 0 } : Room)).room s mM ([.ref aM, .int (nI a), .int (nI b)] : List Value).toArray blM mtM cM H locs 0 0 Q (F0 mM 48 ls [.int v8, .int (nI i), .ref aMO]) := by
            intro v8 hv8 H locs ls hP hD hS hl
            have h129 : vp_in (nI i) 12 := by first | exact vp_in_nI (by omega) (by omega) | assumption
            refine va_iast hx hb hK hP hD hS 6 0 rfl rfl h129 dX7_layChain_48 (fun H locs hP hD hS => ?_)
            rw [nI_clamp (by omega)] at hP hD
            have hP : va_P (dC, dI) vwCl [(aM, .inr (7, [.int th, .int (nI n), .int (nI cnt), .ref aMF, .ref aMT, .ref aMN, .ref aML, .ref aMU, .int (nI ml), .ref aMB, .int (nI sg), .int (nI rm), .int (nI mdg), .int (nI mnb), .int (bI mng), .ref aMf, .ref aMt, .ref aMn, .ref aMl, .ref aMu, .ref aMP, .ref aMD, .int 0, .ref aMC, .ref aMO, .int gn, .int gl, .int gg, .ref aMY, .int nn, .int nl, .int nu, .ref aMS, .long hs])), (aMF, .inl (cyI, 20, .inl (fun j_ => nI (F j_)))), (aMT, .inl (cyI, 20, .inl (fun j_ => nI (T j_)))), (aMP, .inl (cyI, 12, .inl (fun j_ => nI (P j_)))), (aMD, .inl (cyZ, 20, .inl (fun j_ => bI (dd j_)))), (aMC, .inl (cyI, 12, .inl (fun j_ => nI (L j_)))), (aMO, .inl (cyI, 12, .inl (upd (oiI wy b i) i v8)))] H := hP
            have hD : va_D A [(aM, .inr (7, [.int th, .int (nI n), .int (nI cnt), .ref aMF, .ref aMT, .ref aMN, .ref aML, .ref aMU, .int (nI ml), .ref aMB, .int (nI sg), .int (nI rm), .int (nI mdg), .int (nI mnb), .int (bI mng), .ref aMf, .ref aMt, .ref aMn, .ref aMl, .ref aMu, .ref aMP, .ref aMD, .int 0, .ref aMC, .ref aMO, .int gn, .int gl, .int gg, .ref aMY, .int nn, .int nl, .int nu, .ref aMS, .long hs])), (aMF, .inl (cyI, 20, .inl (fun j_ => nI (F j_)))), (aMT, .inl (cyI, 20, .inl (fun j_ => nI (T j_)))), (aMP, .inl (cyI, 12, .inl (fun j_ => nI (P j_)))), (aMD, .inl (cyZ, 20, .inl (fun j_ => bI (dd j_)))), (aMC, .inl (cyI, 12, .inl (fun j_ => nI (L j_)))), (aMO, .inl (cyI, 12, .inl (upd (oiI wy b i) i v8)))] := hD
            refine lv_iinc (v := nI (i + 1)) (lv' := [(3, .int (nI (i + 1))), (0, .ref aM), (1, .int (nI a)), (2, .int (nI b))]) hx hb dX7_layChain_49 hl (k := 3) rfl (nI_add i 1) (by decide) rfl (fun ls hl => ?_)
            refine lv_goto (tgt := 24) hx hb dX7_layChain_52 (by decide) ?_
            have q130 : (oiI wy b (i + 1)) = (upd (oiI wy b i) i v8) := by simp only [oiI, hv8]
            exact ih24 (i + 1) (by omega) (by first | assumption | omega) _ _ _ (by first | (rw [q130]; exact hP) | (simp only [q130]; exact hP) | exact hP) (by first | (rw [q130]; exact hD) | (simp only [q130]; exact hD) | exact hD) hS (lv_sub hl [1, 2, 3, 0] rfl)
          refine lv_icmp_ne (tgt := 47) hx hb dX7_layChain_39 (by decide) (fun c39 => ?_) (fun c39 => ?_)
          · have c39 := n_ne (a := i) (b := b) (by omega) (by omega) c39
            refine lv_iconst (v := (-1)) hx hb dX7_layChain_47 (by decide) ?_
            have q131 : (if i = b then (20 : Int32) else -1) = (-1) := by first | (rw [if_pos c39]; done) | (rw [if_neg c39]; done)
            refine W.eq (g2 := F0 mM 48 ls [.int (if i = b then (20 : Int32) else -1), .int (nI i), .ref aMO]) (by rw [q131]) ?_
            exact k48 (if i = b then (20 : Int32) else -1) (by rfl) _ _ _ (hP) (hD) hS (lv_sub hl [0, 1, 2, 3] rfl)
          · have c39 := n_eq (a := i) (b := b) (by omega) (by omega) c39
            refine lv_bipush (v := 20) hx hb dX7_layChain_42 (by decide) ?_
            refine lv_goto (tgt := 48) hx hb dX7_layChain_44 (by decide) ?_
            have q132 : (if i = b then (20 : Int32) else -1) = 20 := by first | (rw [if_pos c39]; done) | (rw [if_neg c39]; done)
            refine W.eq (g2 := F0 mM 48 ls [.int (if i = b then (20 : Int32) else -1), .int (nI i), .ref aMO]) (by rw [q132]) ?_
            exact k48 (if i = b then (20 : Int32) else -1) (by rfl) _ _ _ (hP) (hD) hS (lv_sub hl [0, 1, 2, 3] rfl)
    have q133 : (oiI wy b 0) = wy := by first | rfl | (simp only [owR]; rw [e9])
    have q134 : (nI 0) = 0 := by first | rfl | simp [*] | (simp only [*]; done)
    exact k24 (n - 0 + 1) 0 (Nat.lt_succ_self _) (by first | assumption | omega) _ _ _ (by first | (rw [q133]; exact hP) | (simp only [q133]; exact hP) | exact hP) (by first | (rw [q133]; exact hD) | (simp only [q133]; exact hD) | exact hD) hS (by first | (rw [q134]; exact lv_sub hl [1, 2, 3, 0] rfl) | (simp only [q134]; exact lv_sub hl [1, 2, 3, 0] rfl) | exact lv_sub hl [1, 2, 3, 0] rfl)
  · have c17 := n_ne (a := P a) (b := P b) (by omega) (by omega) c17
    refine lv_iconst (v := 0) hx hb dX7_layChain_20 (by decide) ?_
    have r135 : 0 = (bI (decide (P a = P b))) := by simp [bI, c17]
    have q136 : (nI (if P a = P b then K else 0)) = 0 := by rw [if_neg c17]; rfl
    have hP9 : va_P (dC, dI) vwCl [(aM, .inr (7, [.int th, .int (nI n), .int (nI cnt), .ref aMF, .ref aMT, .ref aMN, .ref aML, .ref aMU, .int (nI ml), .ref aMB, .int (nI sg), .int (nI rm), .int (nI mdg), .int (nI mnb), .int (bI mng), .ref aMf, .ref aMt, .ref aMn, .ref aMl, .ref aMu, .ref aMP, .ref aMD, .int (nI (if P a = P b then K else 0)), .ref aMC, .ref aMO, .int gn, .int gl, .int gg, .ref aMY, .int nn, .int nl, .int nu, .ref aMS, .long hs])), (aMF, .inl (cyI, 20, .inl (fun j_ => nI (F j_)))), (aMT, .inl (cyI, 20, .inl (fun j_ => nI (T j_)))), (aMP, .inl (cyI, 12, .inl (fun j_ => nI (P j_)))), (aMD, .inl (cyZ, 20, .inl (fun j_ => bI (dd j_)))), (aMC, .inl (cyI, 12, .inl (fun j_ => nI (L j_)))), (aMO, .inl (cyI, 12, .inl wy))] H := by first | (rw [q136]; exact hP.sub [0, 1, 2, 3, 4, 5, 6] rfl) | (simp only [q136]; exact hP.sub [0, 1, 2, 3, 4, 5, 6] rfl) | exact hP.sub [0, 1, 2, 3, 4, 5, 6] rfl
    have hD9 : va_D A [(aM, .inr (7, [.int th, .int (nI n), .int (nI cnt), .ref aMF, .ref aMT, .ref aMN, .ref aML, .ref aMU, .int (nI ml), .ref aMB, .int (nI sg), .int (nI rm), .int (nI mdg), .int (nI mnb), .int (bI mng), .ref aMf, .ref aMt, .ref aMn, .ref aMl, .ref aMu, .ref aMP, .ref aMD, .int (nI (if P a = P b then K else 0)), .ref aMC, .ref aMO, .int gn, .int gl, .int gg, .ref aMY, .int nn, .int nl, .int nu, .ref aMS, .long hs])), (aMF, .inl (cyI, 20, .inl (fun j_ => nI (F j_)))), (aMT, .inl (cyI, 20, .inl (fun j_ => nI (T j_)))), (aMP, .inl (cyI, 12, .inl (fun j_ => nI (P j_)))), (aMD, .inl (cyZ, 20, .inl (fun j_ => bI (dd j_)))), (aMC, .inl (cyI, 12, .inl (fun j_ => nI (L j_)))), (aMO, .inl (cyI, 12, .inl wy))] := by first | (rw [q136]; exact hD.sub [0, 1, 2, 3, 4, 5, 6] (by decide) rfl) | (simp only [q136]; exact hD.sub [0, 1, 2, 3, 4, 5, 6] (by decide) rfl) | exact hD.sub [0, 1, 2, 3, 4, 5, 6] (by decide) rfl
    have p137 : P a = P b → ∀ k_q, k_q < K → L k_q = ((mO F T dd n cnt b) (cf F T (mO F T dd n cnt b) a k_q)).toNatClampNeg := by exact fun q => absurd q c17
    rw [hQe]
    exact W.zret (v := 0) hx hb hr rfl (fun t ht hW => ⟨⟨_, (), rfl, r135, L, wy, p137, by rw [ht]; exact hP9, va_K.moved hW.alike hK, hD9⟩, hS.F ht⟩) hS.2.2 dX7_layChain_21
set_option maxHeartbeats 4000000 in
set_option maxRecDepth 100000 in
theorem c_X7_areFaces (l : Launch) (dC : Nat → ClassId) (dI : Nat → Nat → Nat) (cyI cyZ cyJ cyD : ClassId) (aM aMF aMT aMN aML aMU aMB aMf aMt aMn aMl aMu aMP aMD aMC aMO aMY aMS : Nat) (zH : Nat) (th : Int32) (n : Nat) (cnt : Nat) (ml : Nat) (sg : Nat) (rm : Nat) (mdg : Nat) (mnb : Nat) (mng : Bool) (lk : Nat) (gn : Int32) (gl : Int32) (gg : Int32) (nn : Int32) (nl : Int32) (nu : Int32) (hs : Int64) (x : Int32) (y : Int32) (hn1 : n < 1000) : Met l yX7_areFaces wsX7_areFaces ({ frames := 2, cells := 0, slots := 0, locals := 43 } : Room) (va_Pc [.ref aM, .int x, .int y] (fun U => U.heap.size = zH ∧ va_P (dC, dI) vwCl [(aM, .inr (7, [.int th, .int (nI n), .int (nI cnt), .ref aMF, .ref aMT, .ref aMN, .ref aML, .ref aMU, .int (nI ml), .ref aMB, .int (nI sg), .int (nI rm), .int (nI mdg), .int (nI mnb), .int (bI mng), .ref aMf, .ref aMt, .ref aMn, .ref aMl, .ref aMu, .ref aMP, .ref aMD, .int (nI lk), .ref aMC, .ref aMO, .int gn, .int gl, .int gg, .ref aMY, .int nn, .int nl, .int nu, .ref aMS, .long hs]))] U.heap ∧ va_K (dC, dI) vwCl [(cyI, .int), (cyZ, .boolean), (cyJ, .long), (cyD, .double)] U ∧ va_D (fun _ => True) [(aM, .inr (7, [.int th, .int (nI n), .int (nI cnt), .ref aMF, .ref aMT, .ref aMN, .ref aML, .ref aMU, .int (nI ml), .ref aMB, .int (nI sg), .int (nI rm), .int (nI mdg), .int (nI mnb), .int (bI mng), .ref aMf, .ref aMt, .ref aMn, .ref aMl, .ref aMu, .ref aMP, .ref aMD, .int (nI lk), .ref aMC, .ref aMO, .int gn, .int gl, .int gg, .ref aMY, .int nn, .int nl, .int nu, .ref aMS, .long hs]))])) (va_Qi (fun (r : Int32) (_ : Unit) => r = bI (inB x n && inB y n)) (fun _ t => va_P (dC, dI) vwCl [(aM, .inr (7, [.int th, .int (nI n), .int (nI cnt), .ref aMF, .ref aMT, .ref aMN, .ref aML, .ref aMU, .int (nI ml), .ref aMB, .int (nI sg), .int (nI rm), .int (nI mdg), .int (nI mnb), .int (bI mng), .ref aMf, .ref aMt, .ref aMn, .ref aMl, .ref aMu, .ref aMP, .ref aMD, .int (nI lk), .ref aMC, .ref aMO, .int gn, .int gl, .int gg, .ref aMY, .int nn, .int nl, .int nu, .ref aMS, .long hs]))] t.heap ∧ va_K (dC, dI) vwCl [(cyI, .int), (cyZ, .boolean), (cyJ, .long), (cyD, .double)] t ∧ va_D (va_A [(aM, .inr (7, [.int th, .int (nI n), .int (nI cnt), .ref aMF, .ref aMT, .ref aMN, .ref aML, .ref aMU, .int (nI ml), .ref aMB, .int (nI sg), .int (nI rm), .int (nI mdg), .int (nI mnb), .int (bI mng), .ref aMf, .ref aMt, .ref aMn, .ref aMl, .ref aMu, .ref aMP, .ref aMD, .int (nI lk), .ref aMC, .ref aMO, .int gn, .int gl, .int gg, .ref aMY, .int nn, .int nl, .int nu, .ref aMS, .long hs]))] zH) [(aM, .inr (7, [.int th, .int (nI n), .int (nI cnt), .ref aMF, .ref aMT, .ref aMN, .ref aML, .ref aMU, .int (nI ml), .ref aMB, .int (nI sg), .int (nI rm), .int (nI mdg), .int (nI mnb), .int (bI mng), .ref aMf, .ref aMt, .ref aMn, .ref aMl, .ref aMu, .ref aMP, .ref aMD, .int (nI lk), .ref aMC, .ref aMO, .int gn, .int gl, .int gg, .ref aMY, .int nn, .int nl, .int nu, .ref aMS, .long hs]))]) (va_A [(aM, .inr (7, [.int th, .int (nI n), .int (nI cnt), .ref aMF, .ref aMT, .ref aMN, .ref aML, .ref aMU, .int (nI ml), .ref aMB, .int (nI sg), .int (nI rm), .int (nI mdg), .int (nI mnb), .int (bI mng), .ref aMf, .ref aMt, .ref aMn, .ref aMl, .ref aMu, .ref aMP, .ref aMD, .int (nI lk), .ref aMC, .ref aMO, .int gn, .int gl, .int gg, .ref aMY, .int nn, .int nl, .int nu, .ref aMS, .long hs]))] zH)) 0 0 (va_A [(aM, .inr (7, [.int th, .int (nI n), .int (nI cnt), .ref aMF, .ref aMT, .ref aMN, .ref aML, .ref aMU, .int (nI ml), .ref aMB, .int (nI sg), .int (nI rm), .int (nI mdg), .int (nI mnb), .int (bI mng), .ref aMf, .ref aMt, .ref aMn, .ref aMl, .ref aMu, .ref aMP, .ref aMD, .int (nI lk), .ref aMC, .ref aMO, .int gn, .int gl, .int gg, .ref aMY, .int nn, .int nl, .int nu, .ref aMS, .long hs]))] zH) := by
  refine Met.ofW (cc := cX7_areFaces) (maxL := 3) (ret := (some .boolean)) (by decide) rfl ?_
  intro pM eM s mM args blM mtM cM s₁ BM hml hv
  obtain ⟨rfl, hsz, hP, hK, hD0⟩ := hv
  have hx := BM.exec
  have hb := BM.bytes
  have hr := BM.returns
  have hts := atoms_spec (ws := wsX7_areFaces) BM.pre
  have hown : s.vm.findClass RX7 = some mM.cls := findClass_of_methodNamed BM.named
  have hlocks := BM.notSynchronized
  subst hsz
  have hD := hD0.self (sz := s.heap.size)
  obtain ⟨Q, hQe⟩ : ∃ Q : State → Prop, Q = MQ blM (va_Qi (fun (r : Int32) (_ : Unit) => r = bI (inB x n && inB y n)) (fun _ t => va_P (dC, dI) vwCl [(aM, .inr (7, [.int th, .int (nI n), .int (nI cnt), .ref aMF, .ref aMT, .ref aMN, .ref aML, .ref aMU, .int (nI ml), .ref aMB, .int (nI sg), .int (nI rm), .int (nI mdg), .int (nI mnb), .int (bI mng), .ref aMf, .ref aMt, .ref aMn, .ref aMl, .ref aMu, .ref aMP, .ref aMD, .int (nI lk), .ref aMC, .ref aMO, .int gn, .int gl, .int gg, .ref aMY, .int nn, .int nl, .int nu, .ref aMS, .long hs]))] t.heap ∧ va_K (dC, dI) vwCl [(cyI, .int), (cyZ, .boolean), (cyJ, .long), (cyD, .double)] t ∧ va_D (va_A [(aM, .inr (7, [.int th, .int (nI n), .int (nI cnt), .ref aMF, .ref aMT, .ref aMN, .ref aML, .ref aMU, .int (nI ml), .ref aMB, .int (nI sg), .int (nI rm), .int (nI mdg), .int (nI mnb), .int (bI mng), .ref aMf, .ref aMt, .ref aMn, .ref aMl, .ref aMu, .ref aMP, .ref aMD, .int (nI lk), .ref aMC, .ref aMO, .int gn, .int gl, .int gg, .ref aMY, .int nn, .int nl, .int nu, .ref aMS, .long hs]))] s.heap.size) [(aM, .inr (7, [.int th, .int (nI n), .int (nI cnt), .ref aMF, .ref aMT, .ref aMN, .ref aML, .ref aMU, .int (nI ml), .ref aMB, .int (nI sg), .int (nI rm), .int (nI mdg), .int (nI mnb), .int (bI mng), .ref aMf, .ref aMt, .ref aMn, .ref aMl, .ref aMu, .ref aMP, .ref aMD, .int (nI lk), .ref aMC, .ref aMO, .int gn, .int gl, .int gg, .ref aMY, .int nn, .int nl, .int nu, .ref aMS, .long hs]))]) (va_A [(aM, .inr (7, [.int th, .int (nI n), .int (nI cnt), .ref aMF, .ref aMT, .ref aMN, .ref aML, .ref aMU, .int (nI ml), .ref aMB, .int (nI sg), .int (nI rm), .int (nI mdg), .int (nI mnb), .int (bI mng), .ref aMf, .ref aMt, .ref aMn, .ref aMl, .ref aMu, .ref aMP, .ref aMD, .int (nI lk), .ref aMC, .ref aMO, .int gn, .int gl, .int gg, .ref aMY, .int nn, .int nl, .int nu, .ref aMS, .long hs]))] s.heap.size)) ([.ref aM, .int x, .int y] : List Value).toArray s 0 0 (va_A [(aM, .inr (7, [.int th, .int (nI n), .int (nI cnt), .ref aMF, .ref aMT, .ref aMN, .ref aML, .ref aMU, .int (nI ml), .ref aMB, .int (nI sg), .int (nI rm), .int (nI mdg), .int (nI mnb), .int (bI mng), .ref aMf, .ref aMt, .ref aMn, .ref aMl, .ref aMu, .ref aMP, .ref aMD, .int (nI lk), .ref aMC, .ref aMO, .int gn, .int gl, .int gg, .ref aMY, .int nn, .int nl, .int nu, .ref aMS, .long hs]))] s.heap.size) := ⟨_, rfl⟩
  rw [← hQe]
  generalize hAe : va_A [(aM, .inr (7, [.int th, .int (nI n), .int (nI cnt), .ref aMF, .ref aMT, .ref aMN, .ref aML, .ref aMU, .int (nI ml), .ref aMB, .int (nI sg), .int (nI rm), .int (nI mdg), .int (nI mnb), .int (bI mng), .ref aMf, .ref aMt, .ref aMn, .ref aMl, .ref aMu, .ref aMP, .ref aMD, .int (nI lk), .ref aMC, .ref aMO, .int gn, .int gl, .int gg, .ref aMY, .int nn, .int nl, .int nu, .ref aMS, .long hs]))] s.heap.size = A at hD hQe
  have hA : ∀ q : Nat, s.heap.size ≤ q → A q := fun q h => by rw [← hAe]; exact Or.inr h
  obtain ⟨H, hHe⟩ : ∃ H : Heap, H = s.heap := ⟨_, rfl⟩
  have hS : va_S A s.heap H [] := by rw [hHe]; exact va_S.rf
  rw [← hHe] at hP ⊢
  have hl := lv_entry ([.ref aM, .int x, .int y]) (n := 3) (Nat.le_of_ble_eq_true rfl)
  rw [lg_entry_eq]
  generalize (lg_sl ([.ref aM, .int x, .int y]) ++ List.replicate (3 - (lg_sl ([.ref aM, .int x, .int y])).length) Slot.unset).toArray = ls at hl ⊢
  have hl : lv_has ls 3 [(0, .ref aM), (1, .int x), (2, .int y)] := hl
  refine lv_aload_n hx hb dX7_areFaces_0 rfl (lv_at hl 0 rfl) ?_
  refine lv_iload_n hx hb dX7_areFaces_1 rfl (lv_at hl 1 rfl) ?_
  have g1 : n < 1000 := by first | assumption | omega | exact vp_in_nI (by omega) (by omega)
  have hPc := hP.sub (ws' := [(aM, .inr (7, [.int th, .int (nI n), .int (nI cnt), .ref aMF, .ref aMT, .ref aMN, .ref aML, .ref aMU, .int (nI ml), .ref aMB, .int (nI sg), .int (nI rm), .int (nI mdg), .int (nI mnb), .int (bI mng), .ref aMf, .ref aMt, .ref aMn, .ref aMl, .ref aMu, .ref aMP, .ref aMD, .int (nI lk), .ref aMC, .ref aMO, .int gn, .int gl, .int gg, .ref aMY, .int nn, .int nl, .int nu, .ref aMS, .long hs]))]) [0] rfl
  have hDc := hD.sub (ws' := [(aM, .inr (7, [.int th, .int (nI n), .int (nI cnt), .ref aMF, .ref aMT, .ref aMN, .ref aML, .ref aMU, .int (nI ml), .ref aMB, .int (nI sg), .int (nI rm), .int (nI mdg), .int (nI mnb), .int (bI mng), .ref aMf, .ref aMt, .ref aMn, .ref aMl, .ref aMu, .ref aMP, .ref aMD, .int (nI lk), .ref aMC, .ref aMO, .int gn, .int gl, .int gg, .ref aMY, .int nn, .int nl, .int nu, .ref aMS, .long hs]))]) [0] (by decide) rfl
  have hFc := va_free (wc := [(aM, .inr (7, [.int th, .int (nI n), .int (nI cnt), .ref aMF, .ref aMT, .ref aMN, .ref aML, .ref aMU, .int (nI ml), .ref aMB, .int (nI sg), .int (nI rm), .int (nI mdg), .int (nI mnb), .int (bI mng), .ref aMf, .ref aMt, .ref aMn, .ref aMl, .ref aMu, .ref aMP, .ref aMD, .int (nI lk), .ref aMC, .ref aMO, .int gn, .int gl, .int gg, .ref aMY, .int nn, .int nl, .int nu, .ref aMS, .long hs]))]) hD hS hA [0] rfl
  refine va_calli (va_runV (As := [.int x]) (rest := []) ⟨hx, hb, hml, hown, hts⟩ (c_X7_isFace l dC dI cyI cyZ cyJ cyD aM aMF aMT aMN aML aMU aMB aMf aMt aMn aMl aMu aMP aMD aMC aMO aMY aMS H.size th n cnt ml sg rm mdg mnb mng lk gn gl gg nn nl nu hs x g1) (cwV 1 hts gX7_areFaces_X7_isFace rfl rfl rfl (by decide +kernel) ⟨Nat.le_of_ble_eq_true rfl, Nat.le_of_ble_eq_true rfl⟩) ⟨fun a U g mk q => by obtain ⟨q0, q1, qP, qK, qD⟩ := q; exact ⟨q0, q1, qP, va_K.moved (u := U) (U := U.calling g mk a) (Vm.Alike.refl U.vm) qK, qD⟩, va_recv hK hPc (ci := 7) (q0 := 0) rfl rfl, fun U hU hW => ⟨rfl, by rw [hU], by rw [hU]; exact hPc, va_K.moved hW.alike hK, hDc.weaken (fun _ _ _ _ => trivial)⟩⟩ rfl rfl hl.1 rfl (lv_room (Nat.le_of_ble_eq_true rfl)) dX7_areFaces_2 ⟨Nat.le_of_ble_eq_true rfl, Nat.le_of_ble_eq_true rfl⟩) hS (fun q _ h => hFc q h) hFc (fun r u t H1 locs ht hvm hw hB hz1 hk1 hS => ?_)
  obtain rfl := hw
  obtain ⟨hP1, hK1, hD1⟩ := hB
  rw [ht] at hP1
  obtain ⟨hP, hD⟩ := va_join (wr := []) (w1 := [(aM, .inr (7, [.int th, .int (nI n), .int (nI cnt), .ref aMF, .ref aMT, .ref aMN, .ref aML, .ref aMU, .int (nI ml), .ref aMB, .int (nI sg), .int (nI rm), .int (nI mdg), .int (nI mnb), .int (bI mng), .ref aMf, .ref aMt, .ref aMn, .ref aMl, .ref aMu, .ref aMP, .ref aMD, .int (nI lk), .ref aMC, .ref aMO, .int gn, .int gl, .int gg, .ref aMY, .int nn, .int nl, .int nu, .ref aMS, .long hs]))]) hP hD [0] [] rfl rfl (by decide) (by decide) hk1 hFc hP1 hD1
  clear hP1 hD1 hK1 hPc hDc hFc hk1 hz1 hvm ht u t
  generalize H1 = H at hP hS ⊢
  have hP : va_P (dC, dI) vwCl [(aM, .inr (7, [.int th, .int (nI n), .int (nI cnt), .ref aMF, .ref aMT, .ref aMN, .ref aML, .ref aMU, .int (nI ml), .ref aMB, .int (nI sg), .int (nI rm), .int (nI mdg), .int (nI mnb), .int (bI mng), .ref aMf, .ref aMt, .ref aMn, .ref aMl, .ref aMu, .ref aMP, .ref aMD, .int (nI lk), .ref aMC, .ref aMO, .int gn, .int gl, .int gg, .ref aMY, .int nn, .int nl, .int nu, .ref aMS, .long hs]))] H := hP
  have hD : va_D A [(aM, .inr (7, [.int th, .int (nI n), .int (nI cnt), .ref aMF, .ref aMT, .ref aMN, .ref aML, .ref aMU, .int (nI ml), .ref aMB, .int (nI sg), .int (nI rm), .int (nI mdg), .int (nI mnb), .int (bI mng), .ref aMf, .ref aMt, .ref aMn, .ref aMl, .ref aMu, .ref aMP, .ref aMD, .int (nI lk), .ref aMC, .ref aMO, .int gn, .int gl, .int gg, .ref aMY, .int nn, .int nl, .int nu, .ref aMS, .long hs]))] := hD
  refine lv_if_eq (tgt := 20) hx hb dX7_areFaces_5 (by decide) (fun c5 => ?_) (fun c5 => ?_)
  · have c5 : (inB x n) = false := bI_0 c5
    refine lv_iconst (v := 0) hx hb dX7_areFaces_20 (by decide) ?_
    have r2 : 0 = (bI (inB x n && inB y n)) := by simp [bI, *]
    have hP9 : va_P (dC, dI) vwCl [(aM, .inr (7, [.int th, .int (nI n), .int (nI cnt), .ref aMF, .ref aMT, .ref aMN, .ref aML, .ref aMU, .int (nI ml), .ref aMB, .int (nI sg), .int (nI rm), .int (nI mdg), .int (nI mnb), .int (bI mng), .ref aMf, .ref aMt, .ref aMn, .ref aMl, .ref aMu, .ref aMP, .ref aMD, .int (nI lk), .ref aMC, .ref aMO, .int gn, .int gl, .int gg, .ref aMY, .int nn, .int nl, .int nu, .ref aMS, .long hs]))] H := by exact hP.sub [0] rfl
    have hD9 : va_D A [(aM, .inr (7, [.int th, .int (nI n), .int (nI cnt), .ref aMF, .ref aMT, .ref aMN, .ref aML, .ref aMU, .int (nI ml), .ref aMB, .int (nI sg), .int (nI rm), .int (nI mdg), .int (nI mnb), .int (bI mng), .ref aMf, .ref aMt, .ref aMn, .ref aMl, .ref aMu, .ref aMP, .ref aMD, .int (nI lk), .ref aMC, .ref aMO, .int gn, .int gl, .int gg, .ref aMY, .int nn, .int nl, .int nu, .ref aMS, .long hs]))] := by exact hD.sub [0] (by decide) rfl
    rw [hQe]
    exact W.zret (v := 0) hx hb hr rfl (fun t ht hW => ⟨⟨_, (), rfl, r2, by rw [ht]; exact hP9, va_K.moved hW.alike hK, hD9⟩, hS.F ht⟩) hS.2.2 dX7_areFaces_21
  · have c5 : (inB x n) = true := bI_n0 c5
    refine lv_aload_n hx hb dX7_areFaces_8 rfl (lv_at hl 0 rfl) ?_
    refine lv_iload_n hx hb dX7_areFaces_9 rfl (lv_at hl 2 rfl) ?_
    have g3 : n < 1000 := by first | assumption | omega | exact vp_in_nI (by omega) (by omega)
    have hPc := hP.sub (ws' := [(aM, .inr (7, [.int th, .int (nI n), .int (nI cnt), .ref aMF, .ref aMT, .ref aMN, .ref aML, .ref aMU, .int (nI ml), .ref aMB, .int (nI sg), .int (nI rm), .int (nI mdg), .int (nI mnb), .int (bI mng), .ref aMf, .ref aMt, .ref aMn, .ref aMl, .ref aMu, .ref aMP, .ref aMD, .int (nI lk), .ref aMC, .ref aMO, .int gn, .int gl, .int gg, .ref aMY, .int nn, .int nl, .int nu, .ref aMS, .long hs]))]) [0] rfl
    have hDc := hD.sub (ws' := [(aM, .inr (7, [.int th, .int (nI n), .int (nI cnt), .ref aMF, .ref aMT, .ref aMN, .ref aML, .ref aMU, .int (nI ml), .ref aMB, .int (nI sg), .int (nI rm), .int (nI mdg), .int (nI mnb), .int (bI mng), .ref aMf, .ref aMt, .ref aMn, .ref aMl, .ref aMu, .ref aMP, .ref aMD, .int (nI lk), .ref aMC, .ref aMO, .int gn, .int gl, .int gg, .ref aMY, .int nn, .int nl, .int nu, .ref aMS, .long hs]))]) [0] (by decide) rfl
    have hFc := va_free (wc := [(aM, .inr (7, [.int th, .int (nI n), .int (nI cnt), .ref aMF, .ref aMT, .ref aMN, .ref aML, .ref aMU, .int (nI ml), .ref aMB, .int (nI sg), .int (nI rm), .int (nI mdg), .int (nI mnb), .int (bI mng), .ref aMf, .ref aMt, .ref aMn, .ref aMl, .ref aMu, .ref aMP, .ref aMD, .int (nI lk), .ref aMC, .ref aMO, .int gn, .int gl, .int gg, .ref aMY, .int nn, .int nl, .int nu, .ref aMS, .long hs]))]) hD hS hA [0] rfl
    refine va_calli (va_runV (As := [.int y]) (rest := []) ⟨hx, hb, hml, hown, hts⟩ (c_X7_isFace l dC dI cyI cyZ cyJ cyD aM aMF aMT aMN aML aMU aMB aMf aMt aMn aMl aMu aMP aMD aMC aMO aMY aMS H.size th n cnt ml sg rm mdg mnb mng lk gn gl gg nn nl nu hs y g3) (cwV 1 hts gX7_areFaces_X7_isFace rfl rfl rfl (by decide +kernel) ⟨Nat.le_of_ble_eq_true rfl, Nat.le_of_ble_eq_true rfl⟩) ⟨fun a U g mk q => by obtain ⟨q0, q1, qP, qK, qD⟩ := q; exact ⟨q0, q1, qP, va_K.moved (u := U) (U := U.calling g mk a) (Vm.Alike.refl U.vm) qK, qD⟩, va_recv hK hPc (ci := 7) (q0 := 0) rfl rfl, fun U hU hW => ⟨rfl, by rw [hU], by rw [hU]; exact hPc, va_K.moved hW.alike hK, hDc.weaken (fun _ _ _ _ => trivial)⟩⟩ rfl rfl hl.1 rfl (lv_room (Nat.le_of_ble_eq_true rfl)) dX7_areFaces_10 ⟨Nat.le_of_ble_eq_true rfl, Nat.le_of_ble_eq_true rfl⟩) hS (fun q _ h => hFc q h) hFc (fun r u t H1 locs ht hvm hw hB hz1 hk1 hS => ?_)
    obtain rfl := hw
    obtain ⟨hP1, hK1, hD1⟩ := hB
    rw [ht] at hP1
    obtain ⟨hP, hD⟩ := va_join (wr := []) (w1 := [(aM, .inr (7, [.int th, .int (nI n), .int (nI cnt), .ref aMF, .ref aMT, .ref aMN, .ref aML, .ref aMU, .int (nI ml), .ref aMB, .int (nI sg), .int (nI rm), .int (nI mdg), .int (nI mnb), .int (bI mng), .ref aMf, .ref aMt, .ref aMn, .ref aMl, .ref aMu, .ref aMP, .ref aMD, .int (nI lk), .ref aMC, .ref aMO, .int gn, .int gl, .int gg, .ref aMY, .int nn, .int nl, .int nu, .ref aMS, .long hs]))]) hP hD [0] [] rfl rfl (by decide) (by decide) hk1 hFc hP1 hD1
    clear hP1 hD1 hK1 hPc hDc hFc hk1 hz1 hvm ht u t
    generalize H1 = H at hP hS ⊢
    have hP : va_P (dC, dI) vwCl [(aM, .inr (7, [.int th, .int (nI n), .int (nI cnt), .ref aMF, .ref aMT, .ref aMN, .ref aML, .ref aMU, .int (nI ml), .ref aMB, .int (nI sg), .int (nI rm), .int (nI mdg), .int (nI mnb), .int (bI mng), .ref aMf, .ref aMt, .ref aMn, .ref aMl, .ref aMu, .ref aMP, .ref aMD, .int (nI lk), .ref aMC, .ref aMO, .int gn, .int gl, .int gg, .ref aMY, .int nn, .int nl, .int nu, .ref aMS, .long hs]))] H := hP
    have hD : va_D A [(aM, .inr (7, [.int th, .int (nI n), .int (nI cnt), .ref aMF, .ref aMT, .ref aMN, .ref aML, .ref aMU, .int (nI ml), .ref aMB, .int (nI sg), .int (nI rm), .int (nI mdg), .int (nI mnb), .int (bI mng), .ref aMf, .ref aMt, .ref aMn, .ref aMl, .ref aMu, .ref aMP, .ref aMD, .int (nI lk), .ref aMC, .ref aMO, .int gn, .int gl, .int gg, .ref aMY, .int nn, .int nl, .int nu, .ref aMS, .long hs]))] := hD
    refine lv_if_eq (tgt := 20) hx hb dX7_areFaces_13 (by decide) (fun c13 => ?_) (fun c13 => ?_)
    · have c13 : (inB y n) = false := bI_0 c13
      refine lv_iconst (v := 0) hx hb dX7_areFaces_20 (by decide) ?_
      have r4 : 0 = (bI (inB x n && inB y n)) := by simp [bI, *]
      have hP9 : va_P (dC, dI) vwCl [(aM, .inr (7, [.int th, .int (nI n), .int (nI cnt), .ref aMF, .ref aMT, .ref aMN, .ref aML, .ref aMU, .int (nI ml), .ref aMB, .int (nI sg), .int (nI rm), .int (nI mdg), .int (nI mnb), .int (bI mng), .ref aMf, .ref aMt, .ref aMn, .ref aMl, .ref aMu, .ref aMP, .ref aMD, .int (nI lk), .ref aMC, .ref aMO, .int gn, .int gl, .int gg, .ref aMY, .int nn, .int nl, .int nu, .ref aMS, .long hs]))] H := by exact hP.sub [0] rfl
      have hD9 : va_D A [(aM, .inr (7, [.int th, .int (nI n), .int (nI cnt), .ref aMF, .ref aMT, .ref aMN, .ref aML, .ref aMU, .int (nI ml), .ref aMB, .int (nI sg), .int (nI rm), .int (nI mdg), .int (nI mnb), .int (bI mng), .ref aMf, .ref aMt, .ref aMn, .ref aMl, .ref aMu, .ref aMP, .ref aMD, .int (nI lk), .ref aMC, .ref aMO, .int gn, .int gl, .int gg, .ref aMY, .int nn, .int nl, .int nu, .ref aMS, .long hs]))] := by exact hD.sub [0] (by decide) rfl
      rw [hQe]
      exact W.zret (v := 0) hx hb hr rfl (fun t ht hW => ⟨⟨_, (), rfl, r4, by rw [ht]; exact hP9, va_K.moved hW.alike hK, hD9⟩, hS.F ht⟩) hS.2.2 dX7_areFaces_21
    · have c13 : (inB y n) = true := bI_n0 c13
      refine lv_iconst (v := 1) hx hb dX7_areFaces_16 (by decide) ?_
      refine lv_goto (tgt := 21) hx hb dX7_areFaces_17 (by decide) ?_
      have r5 : 1 = (bI (inB x n && inB y n)) := by simp [bI, *]
      have hP9 : va_P (dC, dI) vwCl [(aM, .inr (7, [.int th, .int (nI n), .int (nI cnt), .ref aMF, .ref aMT, .ref aMN, .ref aML, .ref aMU, .int (nI ml), .ref aMB, .int (nI sg), .int (nI rm), .int (nI mdg), .int (nI mnb), .int (bI mng), .ref aMf, .ref aMt, .ref aMn, .ref aMl, .ref aMu, .ref aMP, .ref aMD, .int (nI lk), .ref aMC, .ref aMO, .int gn, .int gl, .int gg, .ref aMY, .int nn, .int nl, .int nu, .ref aMS, .long hs]))] H := by exact hP.sub [0] rfl
      have hD9 : va_D A [(aM, .inr (7, [.int th, .int (nI n), .int (nI cnt), .ref aMF, .ref aMT, .ref aMN, .ref aML, .ref aMU, .int (nI ml), .ref aMB, .int (nI sg), .int (nI rm), .int (nI mdg), .int (nI mnb), .int (bI mng), .ref aMf, .ref aMt, .ref aMn, .ref aMl, .ref aMu, .ref aMP, .ref aMD, .int (nI lk), .ref aMC, .ref aMO, .int gn, .int gl, .int gg, .ref aMY, .int nn, .int nl, .int nu, .ref aMS, .long hs]))] := by exact hD.sub [0] (by decide) rfl
      rw [hQe]
      exact W.zret (v := 1) hx hb hr rfl (fun t ht hW => ⟨⟨_, (), rfl, r5, by rw [ht]; exact hP9, va_K.moved hW.alike hK, hD9⟩, hS.F ht⟩) hS.2.2 dX7_areFaces_21
