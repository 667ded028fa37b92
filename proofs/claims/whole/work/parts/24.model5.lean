
theorem lc_ge_t {x y : Int64} (h : 0 ≤ lg_cmp x y) : ¬ x < y := Int64.not_lt.mpr ((lg_cmp_ge x y).mp h)
theorem lc_ge_f {x y : Int64} (h : ¬ 0 ≤ lg_cmp x y) : x < y := Int64.not_le.mp (fun q => h ((lg_cmp_ge x y).mpr q))
theorem lc_ne_t {x y : Int64} (h : ¬ lg_cmp x y = 0) : ¬ x = y := fun q => h ((lg_cmp_eq x y).mpr q)
theorem lc_ne_f {x y : Int64} (h : lg_cmp x y = 0) : x = y := (lg_cmp_eq x y).mp h
theorem lc_eq_t {x y : Int64} (h : lg_cmp x y = 0) : x = y := (lg_cmp_eq x y).mp h
theorem lc_eq_f {x y : Int64} (h : ¬ lg_cmp x y = 0) : ¬ x = y := fun q => h ((lg_cmp_eq x y).mpr q)
theorem i1m (x y : Int32) : x + y = x + 1 * y := by rw [Int32.one_mul]
theorem i2m (x y : Int32) : x - y = x + (-1) * y := by rw [Int32.neg_mul, Int32.one_mul, Int32.sub_eq_add_neg]
theorem i3m (x y z : Int32) : x + (y + z) = x + (1 * y + z) := by rw [Int32.one_mul]
theorem i4m (x y z : Int32) : x - (y + z) = x + ((-1) * y + -z) := by rw [Int32.neg_mul, Int32.one_mul, Int32.sub_eq_add_neg, Int32.neg_add, Int32.sub_eq_add_neg]
def maF (F T L : Nat → Nat) (a : Nat) : Nat → Nat
  | 0 => a
  | k + 1 => if F (L k) = maF F T L a k then T (L k) else F (L k)
theorem maF_lt {F T L : Nat → Nat} {a lk : Nat} (hF : ∀ k, k < lk → F (L k) < 12) (hT : ∀ k, k < lk → T (L k) < 12) (ha : a < 12) : ∀ k, k ≤ lk → maF F T L a k < 12 := by
  intro k
  cases k with
  | zero => intro _; exact ha
  | succ k =>
    intro h
    have h1 := hF k (by omega)
    have h2 := hT k (by omega)
    unfold maF
    split <;> omega
def maN (F T : Nat → Nat) (nm : Nat → Int32) (L : Nat → Nat) (a : Nat) : Nat → Int32
  | 0 => 0
  | k + 1 => if F (L k) = maF F T L a k then maN F T nm L a k + nm (L k) else maN F T nm L a k - nm (L k)
def maL (F T : Nat → Nat) (nm lo up : Nat → Int32) (L : Nat → Nat) (a : Nat) : Nat → Int32
  | 0 => 0
  | k + 1 => if F (L k) = maF F T L a k then maL F T nm lo up L a k + (nm (L k) + lo (L k)) else maL F T nm lo up L a k - (nm (L k) + up (L k))
def maG (F T : Nat → Nat) (nm lo up : Nat → Int32) (L : Nat → Nat) (a : Nat) : Nat → Int32
  | 0 => 0
  | k + 1 => if F (L k) = maF F T L a k then maG F T nm lo up L a k + (nm (L k) + up (L k)) else maG F T nm lo up L a k - (nm (L k) + lo (L k))
def sqC (s r : Nat) : Bool := decide ((r + 1) * (r + 1) ≤ s)
/-- the root, rounded down, of a number below 8192 * 8192 -/
def isq (s : Nat) : Nat := stp (sqC s) (8192 - 0) 0
theorem sq_lt {r s : Nat} (h : (r + 1) * (r + 1) ≤ s) (hs : s ≤ 47904048) : r < 8192 := by
  rcases Nat.lt_or_ge r 8192 with q | q
  · exact q
  · have h1 : 8193 * 8193 ≤ (r + 1) * (r + 1) := Nat.mul_le_mul (by omega) (by omega)
    omega
def isw2 (lo up : Nat → Int32) (x y : Nat) : Bool := decide (up y - lo y < up x - lo x ∨ (up x - lo x = up y - lo y ∧ x < y))
def mwd (L : Nat → Nat) (lo up : Nat → Int32) : Nat → Int32
  | 0 => -1
  | k + 1 => if mwd L lo up k = -1 ∨ isw2 lo up (L k) (mwd L lo up k).toNatClampNeg = true then nI (L k) else mwd L lo up k
theorem mwd_val (L : Nat → Nat) (lo up : Nat → Int32) : ∀ i, ¬ mwd L lo up i = -1 → ∃ j, j < i ∧ mwd L lo up i = nI (L j) := by
  intro i
  induction i with
  | zero => intro h; exact absurd rfl h
  | succ i ih =>
    intro h
    unfold mwd at h ⊢
    split
    · exact ⟨i, by omega, rfl⟩
    · rename_i h1
      rw [if_neg h1] at h
      obtain ⟨j, hj, e⟩ := ih h
      exact ⟨j, by omega, e⟩
def hlf (x : Int32) : Int32 := if ¬ 0 ≤ x ∧ ¬ x - x / 2 * 2 = 0 then x / 2 - 1 else x / 2
def tgN (y : Nat → Int64) (a b : Nat) (h : Bool) : Int32 := match h with
  | true => (y (12 * a + b)).toInt32
  | false => (-(y (12 * b + a))).toInt32
def bnd (y : Nat → Int64) (a b : Nat) (x : Int64) : Nat → Int64 := if x < y (12 * a + b) then vp_updL y (12 * a + b) x else y
def tld (F T : Nat → Nat) (nm lo up : Nat → Int32) (d q : Nat) : Int32 := if q = 0 then nI (F d) else if q = 1 then nI (T d) else if q = 2 then nm d else if q = 3 then lo d else up d

set_option maxHeartbeats 4000000 in
set_option maxRecDepth 100000 in
theorem c_X7_addUp (l : Launch) (dC : Nat → ClassId) (dI : Nat → Nat → Nat) (cyI cyZ cyJ cyD : ClassId) (aM aMF aMT aMN aML aMU aMB aMf aMt aMn aMl aMu aMP aMD aMC aMO aMY aMS : Nat) (zH : Nat) (th : Int32) (n : Nat) (cnt : Nat) (ml : Nat) (sg : Nat) (rm : Nat) (mdg : Nat) (mnb : Nat) (mng : Bool) (lk : Nat) (gn : Int32) (gl : Int32) (gg : Int32) (nn : Int32) (nl : Int32) (nu : Int32) (hs : Int64) (F : Nat → Nat) (T : Nat → Nat) (nm : Nat → Int32) (lo : Nat → Int32) (up : Nat → Int32) (L : Nat → Nat) (a : Nat) (hlk : lk ≤ 12) (hL0 : ∀ k_q, k_q < lk → L k_q < 20) (ha : a < 12) (hFL : ∀ k_q, k_q < lk → F (L k_q) < 12) (hTL : ∀ k_q, k_q < lk → T (L k_q) < 12) : Met l yX7_addUp wsX7_addUp ({ frames := 0, cells := 0, slots := 0, locals := 0 } : Room) (va_Pc [.ref aM, .int (nI a)] (fun U => U.heap.size = zH ∧ va_P (dC, dI) vwCl [(aM, .inr (7, [.int th, .int (nI n), .int (nI cnt), .ref aMF, .ref aMT, .ref aMN, .ref aML, .ref aMU, .int (nI ml), .ref aMB, .int (nI sg), .int (nI rm), .int (nI mdg), .int (nI mnb), .int (bI mng), .ref aMf, .ref aMt, .ref aMn, .ref aMl, .ref aMu, .ref aMP, .ref aMD, .int (nI lk), .ref aMC, .ref aMO, .int gn, .int gl, .int gg, .ref aMY, .int nn, .int nl, .int nu, .ref aMS, .long hs])), (aMF, .inl (cyI, 20, .inl (fun j_ => nI (F j_)))), (aMT, .inl (cyI, 20, .inl (fun j_ => nI (T j_)))), (aMN, .inl (cyI, 20, .inl nm)), (aML, .inl (cyI, 20, .inl lo)), (aMU, .inl (cyI, 20, .inl up)), (aMC, .inl (cyI, 12, .inl (fun j_ => nI (L j_))))] U.heap ∧ va_K (dC, dI) vwCl [(cyI, .int), (cyZ, .boolean), (cyJ, .long), (cyD, .double)] U ∧ va_D (fun _ => True) [(aM, .inr (7, [.int th, .int (nI n), .int (nI cnt), .ref aMF, .ref aMT, .ref aMN, .ref aML, .ref aMU, .int (nI ml), .ref aMB, .int (nI sg), .int (nI rm), .int (nI mdg), .int (nI mnb), .int (bI mng), .ref aMf, .ref aMt, .ref aMn, .ref aMl, .ref aMu, .ref aMP, .ref aMD, .int (nI lk), .ref aMC, .ref aMO, .int gn, .int gl, .int gg, .ref aMY, .int nn, .int nl, .int nu, .ref aMS, .long hs])), (aMF, .inl (cyI, 20, .inl (fun j_ => nI (F j_)))), (aMT, .inl (cyI, 20, .inl (fun j_ => nI (T j_)))), (aMN, .inl (cyI, 20, .inl nm)), (aML, .inl (cyI, 20, .inl lo)), (aMU, .inl (cyI, 20, .inl up)), (aMC, .inl (cyI, 12, .inl (fun j_ => nI (L j_))))])) (va_Qv (fun _ : Unit => True) (fun _ t => va_P (dC, dI) vwCl [(aM, .inr (7, [.int th, .int (nI n), .int (nI cnt), .ref aMF, .ref aMT, .ref aMN, .ref aML, .ref aMU, .int (nI ml), .ref aMB, .int (nI sg), .int (nI rm), .int (nI mdg), .int (nI mnb), .int (bI mng), .ref aMf, .ref aMt, .ref aMn, .ref aMl, .ref aMu, .ref aMP, .ref aMD, .int (nI lk), .ref aMC, .ref aMO, .int (maN F T nm L a lk), .int (maL F T nm lo up L a lk), .int (maG F T nm lo up L a lk), .ref aMY, .int nn, .int nl, .int nu, .ref aMS, .long hs])), (aMF, .inl (cyI, 20, .inl (fun j_ => nI (F j_)))), (aMT, .inl (cyI, 20, .inl (fun j_ => nI (T j_)))), (aMN, .inl (cyI, 20, .inl nm)), (aML, .inl (cyI, 20, .inl lo)), (aMU, .inl (cyI, 20, .inl up)), (aMC, .inl (cyI, 12, .inl (fun j_ => nI (L j_))))] t.heap ∧ va_K (dC, dI) vwCl [(cyI, .int), (cyZ, .boolean), (cyJ, .long), (cyD, .double)] t ∧ va_D (va_A [(aM, .inr (7, [.int th, .int (nI n), .int (nI cnt), .ref aMF, .ref aMT, .ref aMN, .ref aML, .ref aMU, .int (nI ml), .ref aMB, .int (nI sg), .int (nI rm), .int (nI mdg), .int (nI mnb), .int (bI mng), .ref aMf, .ref aMt, .ref aMn, .ref aMl, .ref aMu, .ref aMP, .ref aMD, .int (nI lk), .ref aMC, .ref aMO, .int gn, .int gl, .int gg, .ref aMY, .int nn, .int nl, .int nu, .ref aMS, .long hs])), (aMF, .inl (cyI, 20, .inl (fun j_ => nI (F j_)))), (aMT, .inl (cyI, 20, .inl (fun j_ => nI (T j_)))), (aMN, .inl (cyI, 20, .inl nm)), (aML, .inl (cyI, 20, .inl lo)), (aMU, .inl (cyI, 20, .inl up)), (aMC, .inl (cyI, 12, .inl (fun j_ => nI (L j_))))] zH) [(aM, .inr (7, [.int th, .int (nI n), .int (nI cnt), .ref aMF, .ref aMT, .ref aMN, .ref aML, .ref aMU, .int (nI ml), .ref aMB, .int (nI sg), .int (nI rm), .int (nI mdg), .int (nI mnb), .int (bI mng), .ref aMf, .ref aMt, .ref aMn, .ref aMl, .ref aMu, .ref aMP, .ref aMD, .int (nI lk), .ref aMC, .ref aMO, .int (maN F T nm L a lk), .int (maL F T nm lo up L a lk), .int (maG F T nm lo up L a lk), .ref aMY, .int nn, .int nl, .int nu, .ref aMS, .long hs])), (aMF, .inl (cyI, 20, .inl (fun j_ => nI (F j_)))), (aMT, .inl (cyI, 20, .inl (fun j_ => nI (T j_)))), (aMN, .inl (cyI, 20, .inl nm)), (aML, .inl (cyI, 20, .inl lo)), (aMU, .inl (cyI, 20, .inl up)), (aMC, .inl (cyI, 12, .inl (fun j_ => nI (L j_))))]) (va_A [(aM, .inr (7, [.int th, .int (nI n), .int (nI cnt), .ref aMF, .ref aMT, .ref aMN, .ref aML, .ref aMU, .int (nI ml), .ref aMB, .int (nI sg), .int (nI rm), .int (nI mdg), .int (nI mnb), .int (bI mng), .ref aMf, .ref aMt, .ref aMn, .ref aMl, .ref aMu, .ref aMP, .ref aMD, .int (nI lk), .ref aMC, .ref aMO, .int gn, .int gl, .int gg, .ref aMY, .int nn, .int nl, .int nu, .ref aMS, .long hs])), (aMF, .inl (cyI, 20, .inl (fun j_ => nI (F j_)))), (aMT, .inl (cyI, 20, .inl (fun j_ => nI (T j_)))), (aMN, .inl (cyI, 20, .inl nm)), (aML, .inl (cyI, 20, .inl lo)), (aMU, .inl (cyI, 20, .inl up)), (aMC, .inl (cyI, 12, .inl (fun j_ => nI (L j_))))] zH)) 0 0 (va_A [(aM, .inr (7, [.int th, .int (nI n), .int (nI cnt), .ref aMF, .ref aMT, .ref aMN, .ref aML, .ref aMU, .int (nI ml), .ref aMB, .int (nI sg), .int (nI rm), .int (nI mdg), .int (nI mnb), .int (bI mng), .ref aMf, .ref aMt, .ref aMn, .ref aMl, .ref aMu, .ref aMP, .ref aMD, .int (nI lk), .ref aMC, .ref aMO, .int gn, .int gl, .int gg, .ref aMY, .int nn, .int nl, .int nu, .ref aMS, .long hs])), (aMF, .inl (cyI, 20, .inl (fun j_ => nI (F j_)))), (aMT, .inl (cyI, 20, .inl (fun j_ => nI (T j_)))), (aMN, .inl (cyI, 20, .inl nm)), (aML, .inl (cyI, 20, .inl lo)), (aMU, .inl (cyI, 20, .inl up)), (aMC, .inl (cyI, 12, .inl (fun j_ => nI (L j_))))] zH) := by
  refine Met.ofW (cc := cX7_addUp) (maxL := 6) (ret := none) (by decide) rfl ?_
  intro pM eM s mM args blM mtM cM s₁ BM hml hv
  obtain ⟨rfl, hsz, hP, hK, hD0⟩ := hv
  have hx := BM.exec
  have hb := BM.bytes
  have hr := BM.returns
  have hts := atoms_spec (ws := wsX7_addUp) BM.pre
  have hown : s.vm.findClass RX7 = some mM.cls := findClass_of_methodNamed BM.named
  have hlocks := BM.notSynchronized
  have w0 := hts (.fieldLink RX7 171 "DimensionCheckerModel" "gapNominal" "I") (by decide +kernel)
  have w1 := hts (.fieldLink RX7 174 "DimensionCheckerModel" "gapLeast" "I") (by decide +kernel)
  have w2 := hts (.fieldLink RX7 177 "DimensionCheckerModel" "gapGreatest" "I") (by decide +kernel)
  have w3 := hts (.fieldLink RX7 159 "DimensionCheckerModel" "links" "I") (by decide +kernel)
  have w4 := hts (.fieldLink RX7 54 "DimensionCheckerModel" "chain" "[I") (by decide +kernel)
  have w5 := hts (.fieldLink RX7 13 "DimensionCheckerModel" "from" "[I") (by decide +kernel)
  have w6 := hts (.fieldLink RX7 20 "DimensionCheckerModel" "nominal" "[I") (by decide +kernel)
  have w7 := hts (.fieldLink RX7 26 "DimensionCheckerModel" "upper" "[I") (by decide +kernel)
  have w8 := hts (.fieldLink RX7 23 "DimensionCheckerModel" "lower" "[I") (by decide +kernel)
  have w9 := hts (.fieldLink RX7 17 "DimensionCheckerModel" "to" "[I") (by decide +kernel)
  have iX7 : ∀ w ∈ wsX70, w ∈ wsX7_addUp := by decide +kernel
  subst hsz
  have hD := hD0.self (sz := s.heap.size)
  obtain ⟨Q, hQe⟩ : ∃ Q : State → Prop, Q = MQ blM (va_Qv (fun _ : Unit => True) (fun _ t => va_P (dC, dI) vwCl [(aM, .inr (7, [.int th, .int (nI n), .int (nI cnt), .ref aMF, .ref aMT, .ref aMN, .ref aML, .ref aMU, .int (nI ml), .ref aMB, .int (nI sg), .int (nI rm), .int (nI mdg), .int (nI mnb), .int (bI mng), .ref aMf, .ref aMt, .ref aMn, .ref aMl, .ref aMu, .ref aMP, .ref aMD, .int (nI lk), .ref aMC, .ref aMO, .int (maN F T nm L a lk), .int (maL F T nm lo up L a lk), .int (maG F T nm lo up L a lk), .ref aMY, .int nn, .int nl, .int nu, .ref aMS, .long hs])), (aMF, .inl (cyI, 20, .inl (fun j_ => nI (F j_)))), (aMT, .inl (cyI, 20, .inl (fun j_ => nI (T j_)))), (aMN, .inl (cyI, 20, .inl nm)), (aML, .inl (cyI, 20, .inl lo)), (aMU, .inl (cyI, 20, .inl up)), (aMC, .inl (cyI, 12, .inl (fun j_ => nI (L j_))))] t.heap ∧ va_K (dC, dI) vwCl [(cyI, .int), (cyZ, .boolean), (cyJ, .long), (cyD, .double)] t ∧ va_D (va_A [(aM, .inr (7, [.int th, .int (nI n), .int (nI cnt), .ref aMF, .ref aMT, .ref aMN, .ref aML, .ref aMU, .int (nI ml), .ref aMB, .int (nI sg), .int (nI rm), .int (nI mdg), .int (nI mnb), .int (bI mng), .ref aMf, .ref aMt, .ref aMn, .ref aMl, .ref aMu, .ref aMP, .ref aMD, .int (nI lk), .ref aMC, .ref aMO, .int gn, .int gl, .int gg, .ref aMY, .int nn, .int nl, .int nu, .ref aMS, .long hs])), (aMF, .inl (cyI, 20, .inl (fun j_ => nI (F j_)))), (aMT, .inl (cyI, 20, .inl (fun j_ => nI (T j_)))), (aMN, .inl (cyI, 20, .inl nm)), (aML, .inl (cyI, 20, .inl lo)), (aMU, .inl (cyI, 20, .inl up)), (aMC, .inl (cyI, 12, .inl (fun j_ => nI (L j_))))] s.heap.size) [(aM, .inr (7, [.int th, .int (nI n), .int (nI cnt), .ref aMF, .ref aMT, .ref aMN, .ref aML, .ref aMU, .int (nI ml), .ref aMB, .int (nI sg), .int (nI rm), .int (nI mdg), .int (nI mnb), .int (bI mng), .ref aMf, .ref aMt, .ref aMn, .ref aMl, .ref aMu, .ref aMP, .ref aMD, .int (nI lk), .ref aMC, .ref aMO, .int (maN F T nm L a lk), .int (maL F T nm lo up L a lk), .int (maG F T nm lo up L a lk), .ref aMY, .int nn, .int nl, .int nu, .ref aMS, .long hs])), (aMF, .inl (cyI, 20, .inl (fun j_ => nI (F j_)))), (aMT, .inl (cyI, 20, .inl (fun j_ => nI (T j_)))), (aMN, .inl (cyI, 20, .inl nm)), (aML, .inl (cyI, 20, .inl lo)), (aMU, .inl (cyI, 20, .inl up)), (aMC, .inl (cyI, 12, .inl (fun j_ => nI (L j_))))]) (va_A [(aM, .inr (7, [.int th, .int (nI n), .int (nI cnt), .ref aMF, .ref aMT, .ref aMN, .ref aML, .ref aMU, .int (nI ml), .ref aMB, .int (nI sg), .int (nI rm), .int (nI mdg), .int (nI mnb), .int (bI mng), .ref aMf, .ref aMt, .ref aMn, .ref aMl, .ref aMu, .ref aMP, .ref aMD, .int (nI lk), .ref aMC, .ref aMO, .int gn, .int gl, .int gg, .ref aMY, .int nn, .int nl, .int nu, .ref aMS, .long hs])), (aMF, .inl (cyI, 20, .inl (fun j_ => nI (F j_)))), (aMT, .inl (cyI, 20, .inl (fun j_ => nI (T j_)))), (aMN, .inl (cyI, 20, .inl nm)), (aML, .inl (cyI, 20, .inl lo)), (aMU, .inl (cyI, 20, .inl up)), (aMC, .inl (cyI, 12, .inl (fun j_ => nI (L j_))))] s.heap.size)) ([.ref aM, .int (nI a)] : List Value).toArray s 0 0 (va_A [(aM, .inr (7, [.int th, .int (nI n), .int (nI cnt), .ref aMF, .ref aMT, .ref aMN, .ref aML, .ref aMU, .int (nI ml), .ref aMB, .int (nI sg), .int (nI rm), .int (nI mdg), .int (nI mnb), .int (bI mng), .ref aMf, .ref aMt, .ref aMn, .ref aMl, .ref aMu, .ref aMP, .ref aMD, .int (nI lk), .ref aMC, .ref aMO, .int gn, .int gl, .int gg, .ref aMY, .int nn, .int nl, .int nu, .ref aMS, .long hs])), (aMF, .inl (cyI, 20, .inl (fun j_ => nI (F j_)))), (aMT, .inl (cyI, 20, .inl (fun j_ => nI (T j_)))), (aMN, .inl (cyI, 20, .inl nm)), (aML, .inl (cyI, 20, .inl lo)), (aMU, .inl (cyI, 20, .inl up)), (aMC, .inl (cyI, 12, .inl (fun j_ => nI (L j_))))] s.heap.size) := ⟨_, rfl⟩
  rw [← hQe]
  generalize hAe : va_A [(aM, .inr (7, [.int th, .int (nI n), .int (nI cnt), .ref aMF, .ref aMT, .ref aMN, .ref aML, .ref aMU, .int (nI ml), .ref aMB, .int (nI sg), .int (nI rm), .int (nI mdg), .int (nI mnb), .int (bI mng), .ref aMf, .ref aMt, .ref aMn, .ref aMl, .ref aMu, .ref aMP, .ref aMD, .int (nI lk), .ref aMC, .ref aMO, .int gn, .int gl, .int gg, .ref aMY, .int nn, .int nl, .int nu, .ref aMS, .long hs])), (aMF, .inl (cyI, 20, .inl (fun j_ => nI (F j_)))), (aMT, .inl (cyI, 20, .inl (fun j_ => nI (T j_)))), (aMN, .inl (cyI, 20, .inl nm)), (aML, .inl (cyI, 20, .inl lo)), (aMU, .inl (cyI, 20, .inl up)), (aMC, .inl (cyI, 12, .inl (fun j_ => nI (L j_))))] s.heap.size = A at hD hQe
  have hA : ∀ q : Nat, s.heap.size ≤ q → A q := fun q h => by rw [← hAe]; exact Or.inr h
  obtain ⟨H, hHe⟩ : ∃ H : Heap, H = s.heap := ⟨_, rfl⟩
  have hS : va_S A s.heap H [] := by rw [hHe]; exact va_S.rf
  rw [← hHe] at hP ⊢
  have hl := lv_entry ([.ref aM, .int (nI a)]) (n := 6) (Nat.le_of_ble_eq_true rfl)
  rw [lg_entry_eq]
  generalize (lg_sl ([.ref aM, .int (nI a)]) ++ List.replicate (6 - (lg_sl ([.ref aM, .int (nI a)])).length) Slot.unset).toArray = ls at hl ⊢
  have hl : lv_has ls 6 [(0, .ref aM), (1, .int (nI a))] := hl
  refine lv_aload_n hx hb dX7_addUp_0 rfl (lv_at hl 0 rfl) ?_
  refine lv_iconst (v := 0) hx hb dX7_addUp_1 (by decide) ?_
  refine va_put (D := (dC, dI)) (ci := 7) (v := .int 0) (ty := .int) (C := RX7) (T := TX7) (N := 34) hx hb hts iX7 tyX7 tyX7_ok nmX7 hown hK hP hD hS 0 rfl rfl 25 (by decide) w0 (fun _ h9 => h9) rfl (by decide +kernel) rfl rfl (Nat.le_of_ble_eq_true rfl) dX7_addUp_2 (fun H locs hP hD hS => ?_)
  have hP : va_P (dC, dI) vwCl [(aM, .inr (7, [.int th, .int (nI n), .int (nI cnt), .ref aMF, .ref aMT, .ref aMN, .ref aML, .ref aMU, .int (nI ml), .ref aMB, .int (nI sg), .int (nI rm), .int (nI mdg), .int (nI mnb), .int (bI mng), .ref aMf, .ref aMt, .ref aMn, .ref aMl, .ref aMu, .ref aMP, .ref aMD, .int (nI lk), .ref aMC, .ref aMO, .int 0, .int gl, .int gg, .ref aMY, .int nn, .int nl, .int nu, .ref aMS, .long hs])), (aMF, .inl (cyI, 20, .inl (fun j_ => nI (F j_)))), (aMT, .inl (cyI, 20, .inl (fun j_ => nI (T j_)))), (aMN, .inl (cyI, 20, .inl nm)), (aML, .inl (cyI, 20, .inl lo)), (aMU, .inl (cyI, 20, .inl up)), (aMC, .inl (cyI, 12, .inl (fun j_ => nI (L j_))))] H := hP
  have hD : va_D A [(aM, .inr (7, [.int th, .int (nI n), .int (nI cnt), .ref aMF, .ref aMT, .ref aMN, .ref aML, .ref aMU, .int (nI ml), .ref aMB, .int (nI sg), .int (nI rm), .int (nI mdg), .int (nI mnb), .int (bI mng), .ref aMf, .ref aMt, .ref aMn, .ref aMl, .ref aMu, .ref aMP, .ref aMD, .int (nI lk), .ref aMC, .ref aMO, .int 0, .int gl, .int gg, .ref aMY, .int nn, .int nl, .int nu, .ref aMS, .long hs])), (aMF, .inl (cyI, 20, .inl (fun j_ => nI (F j_)))), (aMT, .inl (cyI, 20, .inl (fun j_ => nI (T j_)))), (aMN, .inl (cyI, 20, .inl nm)), (aML, .inl (cyI, 20, .inl lo)), (aMU, .inl (cyI, 20, .inl up)), (aMC, .inl (cyI, 12, .inl (fun j_ => nI (L j_))))] := hD
  refine lv_aload_n hx hb dX7_addUp_5 rfl (lv_at hl 0 rfl) ?_
  refine lv_iconst (v := 0) hx hb dX7_addUp_6 (by decide) ?_
  refine va_put (D := (dC, dI)) (ci := 7) (v := .int 0) (ty := .int) (C := RX7) (T := TX7) (N := 34) hx hb hts iX7 tyX7 tyX7_ok nmX7 hown hK hP hD hS 0 rfl rfl 26 (by decide) w1 (fun _ h9 => h9) rfl (by decide +kernel) rfl rfl (Nat.le_of_ble_eq_true rfl) dX7_addUp_7 (fun H locs hP hD hS => ?_)
  have hP : va_P (dC, dI) vwCl [(aM, .inr (7, [.int th, .int (nI n), .int (nI cnt), .ref aMF, .ref aMT, .ref aMN, .ref aML, .ref aMU, .int (nI ml), .ref aMB, .int (nI sg), .int (nI rm), .int (nI mdg), .int (nI mnb), .int (bI mng), .ref aMf, .ref aMt, .ref aMn, .ref aMl, .ref aMu, .ref aMP, .ref aMD, .int (nI lk), .ref aMC, .ref aMO, .int 0, .int 0, .int gg, .ref aMY, .int nn, .int nl, .int nu, .ref aMS, .long hs])), (aMF, .inl (cyI, 20, .inl (fun j_ => nI (F j_)))), (aMT, .inl (cyI, 20, .inl (fun j_ => nI (T j_)))), (aMN, .inl (cyI, 20, .inl nm)), (aML, .inl (cyI, 20, .inl lo)), (aMU, .inl (cyI, 20, .inl up)), (aMC, .inl (cyI, 12, .inl (fun j_ => nI (L j_))))] H := hP
  have hD : va_D A [(aM, .inr (7, [.int th, .int (nI n), .int (nI cnt), .ref aMF, .ref aMT, .ref aMN, .ref aML, .ref aMU, .int (nI ml), .ref aMB, .int (nI sg), .int (nI rm), .int (nI mdg), .int (nI mnb), .int (bI mng), .ref aMf, .ref aMt, .ref aMn, .ref aMl, .ref aMu, .ref aMP, .ref aMD, .int (nI lk), .ref aMC, .ref aMO, .int 0, .int 0, .int gg, .ref aMY, .int nn, .int nl, .int nu, .ref aMS, .long hs])), (aMF, .inl (cyI, 20, .inl (fun j_ => nI (F j_)))), (aMT, .inl (cyI, 20, .inl (fun j_ => nI (T j_)))), (aMN, .inl (cyI, 20, .inl nm)), (aML, .inl (cyI, 20, .inl lo)), (aMU, .inl (cyI, 20, .inl up)), (aMC, .inl (cyI, 12, .inl (fun j_ => nI (L j_))))] := hD
  refine lv_aload_n hx hb dX7_addUp_10 rfl (lv_at hl 0 rfl) ?_
  refine lv_iconst (v := 0) hx hb dX7_addUp_11 (by decide) ?_
  refine va_put (D := (dC, dI)) (ci := 7) (v := .int 0) (ty := .int) (C := RX7) (T := TX7) (N := 34) hx hb hts iX7 tyX7 tyX7_ok nmX7 hown hK hP hD hS 0 rfl rfl 27 (by decide) w2 (fun _ h9 => h9) rfl (by decide +kernel) rfl rfl (Nat.le_of_ble_eq_true rfl) dX7_addUp_12 (fun H locs hP hD hS => ?_)
  have hP : va_P (dC, dI) vwCl [(aM, .inr (7, [.int th, .int (nI n), .int (nI cnt), .ref aMF, .ref aMT, .ref aMN, .ref aML, .ref aMU, .int (nI ml), .ref aMB, .int (nI sg), .int (nI rm), .int (nI mdg), .int (nI mnb), .int (bI mng), .ref aMf, .ref aMt, .ref aMn, .ref aMl, .ref aMu, .ref aMP, .ref aMD, .int (nI lk), .ref aMC, .ref aMO, .int 0, .int 0, .int 0, .ref aMY, .int nn, .int nl, .int nu, .ref aMS, .long hs])), (aMF, .inl (cyI, 20, .inl (fun j_ => nI (F j_)))), (aMT, .inl (cyI, 20, .inl (fun j_ => nI (T j_)))), (aMN, .inl (cyI, 20, .inl nm)), (aML, .inl (cyI, 20, .inl lo)), (aMU, .inl (cyI, 20, .inl up)), (aMC, .inl (cyI, 12, .inl (fun j_ => nI (L j_))))] H := hP
  have hD : va_D A [(aM, .inr (7, [.int th, .int (nI n), .int (nI cnt), .ref aMF, .ref aMT, .ref aMN, .ref aML, .ref aMU, .int (nI ml), .ref aMB, .int (nI sg), .int (nI rm), .int (nI mdg), .int (nI mnb), .int (bI mng), .ref aMf, .ref aMt, .ref aMn, .ref aMl, .ref aMu, .ref aMP, .ref aMD, .int (nI lk), .ref aMC, .ref aMO, .int 0, .int 0, .int 0, .ref aMY, .int nn, .int nl, .int nu, .ref aMS, .long hs])), (aMF, .inl (cyI, 20, .inl (fun j_ => nI (F j_)))), (aMT, .inl (cyI, 20, .inl (fun j_ => nI (T j_)))), (aMN, .inl (cyI, 20, .inl nm)), (aML, .inl (cyI, 20, .inl lo)), (aMU, .inl (cyI, 20, .inl up)), (aMC, .inl (cyI, 12, .inl (fun j_ => nI (L j_))))] := hD
  refine lv_iload_n hx hb dX7_addUp_15 rfl (lv_at hl 1 rfl) ?_
  refine lv_istore_n (lv' := [(2, .int (nI a)), (0, .ref aM), (1, .int (nI a))]) hx hb dX7_addUp_16 rfl hl (by decide) rfl (fun ls hl => ?_)
  refine lv_iconst (v := 0) hx hb dX7_addUp_17 (by decide) ?_
  refine lv_istore_n (lv' := [(3, .int 0), (2, .int (nI a)), (0, .ref aM), (1, .int (nI a))]) hx hb dX7_addUp_18 rfl hl (by decide) rfl (fun ls hl => ?_)
  have k19 : ∀ (fuel : Nat) (k : Nat) (hfuel : lk - k < fuel) (hk : k ≤ lk) (H : Heap) (locs : List Loc) (ls : Array Slot), va_P (dC, dI) vwCl [(aM, .inr (7, [.int th, .int (nI n), .int (nI cnt), .ref aMF, .ref aMT, .ref aMN, .ref aML, .ref aMU, .int (nI ml), .ref aMB, .int (nI sg), .int (nI rm), .int (nI mdg), .int (nI mnb), .int (bI mng), .ref aMf, .ref aMt, .ref aMn, .ref aMl, .ref aMu, .ref aMP, .ref aMD, .int (nI lk), .ref aMC, .ref aMO, .int (maN F T nm L a k), .int (maL F T nm lo up L a k), .int (maG F T nm lo up L a k), .ref aMY, .int nn, .int nl, .int nu, .ref aMS, .long hs])), (aMF, .inl (cyI, 20, .inl (fun j_ => nI (F j_)))), (aMT, .inl (cyI, 20, .inl (fun j_ => nI (T j_)))), (aMN, .inl (cyI, 20, .inl nm)), (aML, .inl (cyI, 20, .inl lo)), (aMU, .inl (cyI, 20, .inl up)), (aMC, .inl (cyI, 12, .inl (fun j_ => nI (L j_))))] H → va_D A [(aM, .inr (7, [.int th, .int (nI n), .int (nI cnt), .ref aMF, .ref aMT, .ref aMN, .ref aML, .ref aMU, .int (nI ml), .ref aMB, .int (nI sg), .int (nI rm), .int (nI mdg), .int (nI mnb), .int (bI mng), .ref aMf, .ref aMt, .ref aMn, .ref aMl, .ref aMu, .ref aMP, .ref aMD, .int (nI lk), .ref aMC, .ref aMO, .int (maN F T nm L a k), .int (maL F T nm lo up L a k), .int (maG F T nm lo up L a k), .ref aMY, .int nn, .int nl, .int nu, .ref aMS, .long hs])), (aMF, .inl (cyI, 20, .inl (fun j_ => nI (F j_)))), (aMT, .inl (cyI, 20, .inl (fun j_ => nI (T j_)))), (aMN, .inl (cyI, 20, .inl nm)), (aML, .inl (cyI, 20, .inl lo)), (aMU, .inl (cyI, 20, .inl up)), (aMC, .inl (cyI, 12, .inl (fun j_ => nI (L j_))))] → va_S A s.heap H locs → lv_has ls 6 [(0, .ref aM), (1, .int (nI a)), (2, .int (nI (maF F T L a k))), (3, .int (nI k))] → W pM l eM (headSpec wsX7_addUp ({ frames := 0, cells := 0, slots := 0, locals := 0 } : Room)).room s mM ([.ref aM, .int (nI a)] : List Value).toArray blM mtM cM H locs 0 0 Q (F0 mM 19 ls []) := by
    intro fuel
    induction fuel with
    | zero => intro k hfuel; exact absurd hfuel (Nat.not_lt_zero _)
    | succ fuel ih19 =>
      intro k hfuel hk H locs ls hP hD hS hl
      refine lv_iload_n hx hb dX7_addUp_19 rfl (lv_at hl 3 rfl) ?_
      refine lv_aload_n hx hb dX7_addUp_20 rfl (lv_at hl 0 rfl) ?_
      refine va_get (D := (dC, dI)) (ci := 7) (v := .int (nI lk)) (C := RX7) (T := TX7) (N := 34) hx hb hts iX7 hown hK hP 0 rfl rfl 22 (by decide) w3 (fun _ h9 => h9) rfl dX7_addUp_21 ?_
      refine lv_icmp_ge (tgt := 190) hx hb dX7_addUp_24 (by decide) (fun c24 => ?_) (fun c24 => ?_)
      · have c24 := n_le (a := lk) (b := k) (by omega) (by omega) c24
        have e9 : k = lk := (by omega)
        have q1 : (maN F T nm L a lk) = (maN F T nm L a k) := by rw [e9]
        have q2 : (maL F T nm lo up L a lk) = (maL F T nm lo up L a k) := by rw [e9]
        have q3 : (maG F T nm lo up L a lk) = (maG F T nm lo up L a k) := by rw [e9]
        have hP9 : va_P (dC, dI) vwCl [(aM, .inr (7, [.int th, .int (nI n), .int (nI cnt), .ref aMF, .ref aMT, .ref aMN, .ref aML, .ref aMU, .int (nI ml), .ref aMB, .int (nI sg), .int (nI rm), .int (nI mdg), .int (nI mnb), .int (bI mng), .ref aMf, .ref aMt, .ref aMn, .ref aMl, .ref aMu, .ref aMP, .ref aMD, .int (nI lk), .ref aMC, .ref aMO, .int (maN F T nm L a lk), .int (maL F T nm lo up L a lk), .int (maG F T nm lo up L a lk), .ref aMY, .int nn, .int nl, .int nu, .ref aMS, .long hs])), (aMF, .inl (cyI, 20, .inl (fun j_ => nI (F j_)))), (aMT, .inl (cyI, 20, .inl (fun j_ => nI (T j_)))), (aMN, .inl (cyI, 20, .inl nm)), (aML, .inl (cyI, 20, .inl lo)), (aMU, .inl (cyI, 20, .inl up)), (aMC, .inl (cyI, 12, .inl (fun j_ => nI (L j_))))] H := by first | (rw [q2, q3, q1]; exact hP.sub [0, 1, 2, 3, 4, 5, 6] rfl) | (simp only [q2, q3, q1]; exact hP.sub [0, 1, 2, 3, 4, 5, 6] rfl) | exact hP.sub [0, 1, 2, 3, 4, 5, 6] rfl
        have hD9 : va_D A [(aM, .inr (7, [.int th, .int (nI n), .int (nI cnt), .ref aMF, .ref aMT, .ref aMN, .ref aML, .ref aMU, .int (nI ml), .ref aMB, .int (nI sg), .int (nI rm), .int (nI mdg), .int (nI mnb), .int (bI mng), .ref aMf, .ref aMt, .ref aMn, .ref aMl, .ref aMu, .ref aMP, .ref aMD, .int (nI lk), .ref aMC, .ref aMO, .int (maN F T nm L a lk), .int (maL F T nm lo up L a lk), .int (maG F T nm lo up L a lk), .ref aMY, .int nn, .int nl, .int nu, .ref aMS, .long hs])), (aMF, .inl (cyI, 20, .inl (fun j_ => nI (F j_)))), (aMT, .inl (cyI, 20, .inl (fun j_ => nI (T j_)))), (aMN, .inl (cyI, 20, .inl nm)), (aML, .inl (cyI, 20, .inl lo)), (aMU, .inl (cyI, 20, .inl up)), (aMC, .inl (cyI, 12, .inl (fun j_ => nI (L j_))))] := by first | (rw [q2, q3, q1]; exact hD.sub [0, 1, 2, 3, 4, 5, 6] (by decide) rfl) | (simp only [q2, q3, q1]; exact hD.sub [0, 1, 2, 3, 4, 5, 6] (by decide) rfl) | exact hD.sub [0, 1, 2, 3, 4, 5, 6] (by decide) rfl
        rw [hQe]
        exact W.vret hx hb hr (fun t ht hW => ⟨⟨(), rfl, trivial, by rw [ht]; exact hP9, va_K.moved hW.alike hK, hD9⟩, hS.F ht⟩) hS.2.2 dX7_addUp_190
      · have c24 := n_nle (a := lk) (b := k) (by omega) (by omega) c24
        have hLk := hL0 k c24
        have hFk := hFL k c24
        have hmf := maF_lt hFL hTL ha k hk
        refine lv_aload_n hx hb dX7_addUp_27 rfl (lv_at hl 0 rfl) ?_
        refine va_get (D := (dC, dI)) (ci := 7) (v := .ref aMC) (C := RX7) (T := TX7) (N := 34) hx hb hts iX7 hown hK hP 0 rfl rfl 23 (by decide) w4 (fun _ h9 => h9) rfl dX7_addUp_28 ?_
        refine lv_iload_n hx hb dX7_addUp_31 rfl (lv_at hl 3 rfl) ?_
        have h4 : vp_in (nI k) 12 := by first | exact vp_in_nI (by omega) (by omega) | assumption
        refine va_iald hx hb hK hP 6 0 rfl rfl h4 dX7_addUp_32 ?_
        refine lv_topi (fun x5 e6 => ?_)
        obtain rfl : x5 = (nI (L k)) := by rw [e6, nI_clamp (by omega)]
        clear e6
        refine lv_istore (lv' := [(4, .int (nI (L k))), (0, .ref aM), (1, .int (nI a)), (2, .int (nI (maF F T L a k))), (3, .int (nI k))]) hx hb dX7_addUp_33 hl (by decide) rfl (fun ls hl => ?_)
        refine lv_aload_n hx hb dX7_addUp_35 rfl (lv_at hl 1 rfl) ?_
        refine va_get (D := (dC, dI)) (ci := 7) (v := .ref aMF) (C := RX7) (T := TX7) (N := 34) hx hb hts iX7 hown hK hP 0 rfl rfl 3 (by decide) w5 (fun _ h9 => h9) rfl dX7_addUp_36 ?_
        refine lv_iload hx hb dX7_addUp_39 (lv_at hl 0 rfl) ?_
        have h7 : vp_in (nI (L k)) 20 := by first | exact vp_in_nI (by omega) (by omega) | assumption
        refine va_iald hx hb hK hP 1 0 rfl rfl h7 dX7_addUp_41 ?_
        refine lv_topi (fun x8 e9 => ?_)
        obtain rfl : x8 = (nI (F (L k))) := by rw [e9, nI_clamp (by omega)]
        clear e9
        refine lv_iload_n hx hb dX7_addUp_42 rfl (lv_at hl 3 rfl) ?_
        refine lv_icmp_ne (tgt := 50) hx hb dX7_addUp_43 (by decide) (fun c43 => ?_) (fun c43 => ?_)
        · have c43 := n_ne (a := F (L k)) (b := maF F T L a k) (by omega) (by omega) c43
          refine lv_iconst (v := (-1)) hx hb dX7_addUp_50 (by decide) ?_
          refine lv_istore (lv' := [(5, .int (-1)), (4, .int (nI (L k))), (0, .ref aM), (1, .int (nI a)), (2, .int (nI (maF F T L a k))), (3, .int (nI k))]) hx hb dX7_addUp_51 hl (by decide) rfl (fun ls hl => ?_)
          refine lv_aload_n hx hb dX7_addUp_53 rfl (lv_at hl 2 rfl) ?_
          refine lv_dup hx hb dX7_addUp_54 rfl ?_
          refine va_get (D := (dC, dI)) (ci := 7) (v := .int (maN F T nm L a k)) (C := RX7) (T := TX7) (N := 34) hx hb hts iX7 hown hK hP 0 rfl rfl 25 (by decide) w0 (fun _ h9 => h9) rfl dX7_addUp_55 ?_
          refine lv_iload hx hb dX7_addUp_58 (lv_at hl 0 rfl) ?_
          refine lv_aload_n hx hb dX7_addUp_60 rfl (lv_at hl 2 rfl) ?_
          refine va_get (D := (dC, dI)) (ci := 7) (v := .ref aMN) (C := RX7) (T := TX7) (N := 34) hx hb hts iX7 hown hK hP 0 rfl rfl 5 (by decide) w6 (fun _ h9 => h9) rfl dX7_addUp_61 ?_
          refine lv_iload hx hb dX7_addUp_64 (lv_at hl 1 rfl) ?_
          have h10 : vp_in (nI (L k)) 20 := by first | exact vp_in_nI (by omega) (by omega) | assumption
          refine va_iald hx hb hK hP 3 0 rfl rfl h10 dX7_addUp_66 ?_
          refine lv_topi (fun x11 e12 => ?_)
          obtain rfl : x11 = (nm (L k)) := by rw [e12, nI_clamp (by omega)]
          clear e12
          refine lv_imul hx hb dX7_addUp_67 ?_
          refine lv_iadd hx hb dX7_addUp_68 ?_
          refine va_put (D := (dC, dI)) (ci := 7) (v := .int ((maN F T nm L a k) + ((-1) * (nm (L k))))) (ty := .int) (C := RX7) (T := TX7) (N := 34) hx hb hts iX7 tyX7 tyX7_ok nmX7 hown hK hP hD hS 0 rfl rfl 25 (by decide) w0 (fun _ h9 => h9) rfl (by decide +kernel) rfl rfl (Nat.le_of_ble_eq_true rfl) dX7_addUp_69 (fun H locs hP hD hS => ?_)
          have hP : va_P (dC, dI) vwCl [(aM, .inr (7, [.int th, .int (nI n), .int (nI cnt), .ref aMF, .ref aMT, .ref aMN, .ref aML, .ref aMU, .int (nI ml), .ref aMB, .int (nI sg), .int (nI rm), .int (nI mdg), .int (nI mnb), .int (bI mng), .ref aMf, .ref aMt, .ref aMn, .ref aMl, .ref aMu, .ref aMP, .ref aMD, .int (nI lk), .ref aMC, .ref aMO, .int ((maN F T nm L a k) + ((-1) * (nm (L k)))), .int (maL F T nm lo up L a k), .int (maG F T nm lo up L a k), .ref aMY, .int nn, .int nl, .int nu, .ref aMS, .long hs])), (aMF, .inl (cyI, 20, .inl (fun j_ => nI (F j_)))), (aMT, .inl (cyI, 20, .inl (fun j_ => nI (T j_)))), (aMN, .inl (cyI, 20, .inl nm)), (aML, .inl (cyI, 20, .inl lo)), (aMU, .inl (cyI, 20, .inl up)), (aMC, .inl (cyI, 12, .inl (fun j_ => nI (L j_))))] H := hP
          have hD : va_D A [(aM, .inr (7, [.int th, .int (nI n), .int (nI cnt), .ref aMF, .ref aMT, .ref aMN, .ref aML, .ref aMU, .int (nI ml), .ref aMB, .int (nI sg), .int (nI rm), .int (nI mdg), .int (nI mnb), .int (bI mng), .ref aMf, .ref aMt, .ref aMn, .ref aMl, .ref aMu, .ref aMP, .ref aMD, .int (nI lk), .ref aMC, .ref aMO, .int ((maN F T nm L a k) + ((-1) * (nm (L k)))), .int (maL F T nm lo up L a k), .int (maG F T nm lo up L a k), .ref aMY, .int nn, .int nl, .int nu, .ref aMS, .long hs])), (aMF, .inl (cyI, 20, .inl (fun j_ => nI (F j_)))), (aMT, .inl (cyI, 20, .inl (fun j_ => nI (T j_)))), (aMN, .inl (cyI, 20, .inl nm)), (aML, .inl (cyI, 20, .inl lo)), (aMU, .inl (cyI, 20, .inl up)), (aMC, .inl (cyI, 12, .inl (fun j_ => nI (L j_))))] := hD
          refine lv_aload_n hx hb dX7_addUp_72 rfl (lv_at hl 2 rfl) ?_
          refine lv_dup hx hb dX7_addUp_73 rfl ?_
          refine va_get (D := (dC, dI)) (ci := 7) (v := .int (maL F T nm lo up L a k)) (C := RX7) (T := TX7) (N := 34) hx hb hts iX7 hown hK hP 0 rfl rfl 26 (by decide) w1 (fun _ h9 => h9) rfl dX7_addUp_74 ?_
          refine lv_iload hx hb dX7_addUp_77 (lv_at hl 0 rfl) ?_
          refine lv_aload_n hx hb dX7_addUp_79 rfl (lv_at hl 2 rfl) ?_
          refine va_get (D := (dC, dI)) (ci := 7) (v := .ref aMN) (C := RX7) (T := TX7) (N := 34) hx hb hts iX7 hown hK hP 0 rfl rfl 5 (by decide) w6 (fun _ h9 => h9) rfl dX7_addUp_80 ?_
          refine lv_iload hx hb dX7_addUp_83 (lv_at hl 1 rfl) ?_
          have h13 : vp_in (nI (L k)) 20 := by first | exact vp_in_nI (by omega) (by omega) | assumption
          refine va_iald hx hb hK hP 3 0 rfl rfl h13 dX7_addUp_85 ?_
          refine lv_topi (fun x14 e15 => ?_)
          obtain rfl : x14 = (nm (L k)) := by rw [e15, nI_clamp (by omega)]
          clear e15
          refine lv_imul hx hb dX7_addUp_86 ?_
          refine lv_iload hx hb dX7_addUp_87 (lv_at hl 0 rfl) ?_
          refine lv_iconst (v := 1) hx hb dX7_addUp_89 (by decide) ?_
          refine lv_icmp_ne (tgt := 103) hx hb dX7_addUp_90 (by decide) (fun c90 => ?_) (fun c90 => ?_)
          · skip
            refine lv_aload_n hx hb dX7_addUp_103 rfl (lv_at hl 2 rfl) ?_
            refine va_get (D := (dC, dI)) (ci := 7) (v := .ref aMU) (C := RX7) (T := TX7) (N := 34) hx hb hts iX7 hown hK hP 0 rfl rfl 7 (by decide) w7 (fun _ h9 => h9) rfl dX7_addUp_104 ?_
            refine lv_iload hx hb dX7_addUp_107 (lv_at hl 1 rfl) ?_
            have h16 : vp_in (nI (L k)) 20 := by first | exact vp_in_nI (by omega) (by omega) | assumption
            refine va_iald hx hb hK hP 5 0 rfl rfl h16 dX7_addUp_109 ?_
            refine lv_topi (fun x17 e18 => ?_)
            obtain rfl : x17 = (up (L k)) := by rw [e18, nI_clamp (by omega)]
            clear e18
            refine lv_ineg hx hb dX7_addUp_110 ?_
            refine lv_iadd hx hb dX7_addUp_111 ?_
            refine lv_iadd hx hb dX7_addUp_112 ?_
            refine va_put (D := (dC, dI)) (ci := 7) (v := .int ((maL F T nm lo up L a k) + (((-1) * (nm (L k))) + (-(up (L k)))))) (ty := .int) (C := RX7) (T := TX7) (N := 34) hx hb hts iX7 tyX7 tyX7_ok nmX7 hown hK hP hD hS 0 rfl rfl 26 (by decide) w1 (fun _ h9 => h9) rfl (by decide +kernel) rfl rfl (Nat.le_of_ble_eq_true rfl) dX7_addUp_113 (fun H locs hP hD hS => ?_)
            have hP : va_P (dC, dI) vwCl [(aM, .inr (7, [.int th, .int (nI n), .int (nI cnt), .ref aMF, .ref aMT, .ref aMN, .ref aML, .ref aMU, .int (nI ml), .ref aMB, .int (nI sg), .int (nI rm), .int (nI mdg), .int (nI mnb), .int (bI mng), .ref aMf, .ref aMt, .ref aMn, .ref aMl, .ref aMu, .ref aMP, .ref aMD, .int (nI lk), .ref aMC, .ref aMO, .int ((maN F T nm L a k) + ((-1) * (nm (L k)))), .int ((maL F T nm lo up L a k) + (((-1) * (nm (L k))) + (-(up (L k))))), .int (maG F T nm lo up L a k), .ref aMY, .int nn, .int nl, .int nu, .ref aMS, .long hs])), (aMF, .inl (cyI, 20, .inl (fun j_ => nI (F j_)))), (aMT, .inl (cyI, 20, .inl (fun j_ => nI (T j_)))), (aMN, .inl (cyI, 20, .inl nm)), (aML, .inl (cyI, 20, .inl lo)), (aMU, .inl (cyI, 20, .inl up)), (aMC, .inl (cyI, 12, .inl (fun j_ => nI (L j_))))] H := hP
            have hD : va_D A [(aM, .inr (7, [.int th, .int (nI n), .int (nI cnt), .ref aMF, .ref aMT, .ref aMN, .ref aML, .ref aMU, .int (nI ml), .ref aMB, .int (nI sg), .int (nI rm), .int (nI mdg), .int (nI mnb), .int (bI mng), .ref aMf, .ref aMt, .ref aMn, .ref aMl, .ref aMu, .ref aMP, .ref aMD, .int (nI lk), .ref aMC, .ref aMO, .int ((maN F T nm L a k) + ((-1) * (nm (L k)))), .int ((maL F T nm lo up L a k) + (((-1) * (nm (L k))) + (-(up (L k))))), .int (maG F T nm lo up L a k), .ref aMY, .int nn, .int nl, .int nu, .ref aMS, .long hs])), (aMF, .inl (cyI, 20, .inl (fun j_ => nI (F j_)))), (aMT, .inl (cyI, 20, .inl (fun j_ => nI (T j_)))), (aMN, .inl (cyI, 20, .inl nm)), (aML, .inl (cyI, 20, .inl lo)), (aMU, .inl (cyI, 20, .inl up)), (aMC, .inl (cyI, 12, .inl (fun j_ => nI (L j_))))] := hD
            refine lv_aload_n hx hb dX7_addUp_116 rfl (lv_at hl 2 rfl) ?_
            refine lv_dup hx hb dX7_addUp_117 rfl ?_
            refine va_get (D := (dC, dI)) (ci := 7) (v := .int (maG F T nm lo up L a k)) (C := RX7) (T := TX7) (N := 34) hx hb hts iX7 hown hK hP 0 rfl rfl 27 (by decide) w2 (fun _ h9 => h9) rfl dX7_addUp_118 ?_
            refine lv_iload hx hb dX7_addUp_121 (lv_at hl 0 rfl) ?_
            refine lv_aload_n hx hb dX7_addUp_123 rfl (lv_at hl 2 rfl) ?_
            refine va_get (D := (dC, dI)) (ci := 7) (v := .ref aMN) (C := RX7) (T := TX7) (N := 34) hx hb hts iX7 hown hK hP 0 rfl rfl 5 (by decide) w6 (fun _ h9 => h9) rfl dX7_addUp_124 ?_
            refine lv_iload hx hb dX7_addUp_127 (lv_at hl 1 rfl) ?_
            have h19 : vp_in (nI (L k)) 20 := by first | exact vp_in_nI (by omega) (by omega) | assumption
            refine va_iald hx hb hK hP 3 0 rfl rfl h19 dX7_addUp_129 ?_
            refine lv_topi (fun x20 e21 => ?_)
            obtain rfl : x20 = (nm (L k)) := by rw [e21, nI_clamp (by omega)]
            clear e21
            refine lv_imul hx hb dX7_addUp_130 ?_
            refine lv_iload hx hb dX7_addUp_131 (lv_at hl 0 rfl) ?_
            refine lv_iconst (v := 1) hx hb dX7_addUp_133 (by decide) ?_
            refine lv_icmp_ne (tgt := 147) hx hb dX7_addUp_134 (by decide) (fun c134 => ?_) (fun c134 => ?_)
            · skip
              refine lv_aload_n hx hb dX7_addUp_147 rfl (lv_at hl 2 rfl) ?_
              refine va_get (D := (dC, dI)) (ci := 7) (v := .ref aML) (C := RX7) (T := TX7) (N := 34) hx hb hts iX7 hown hK hP 0 rfl rfl 6 (by decide) w8 (fun _ h9 => h9) rfl dX7_addUp_148 ?_
              refine lv_iload hx hb dX7_addUp_151 (lv_at hl 1 rfl) ?_
              have h22 : vp_in (nI (L k)) 20 := by first | exact vp_in_nI (by omega) (by omega) | assumption
              refine va_iald hx hb hK hP 4 0 rfl rfl h22 dX7_addUp_153 ?_
              refine lv_topi (fun x23 e24 => ?_)
              obtain rfl : x23 = (lo (L k)) := by rw [e24, nI_clamp (by omega)]
              clear e24
              refine lv_ineg hx hb dX7_addUp_154 ?_
              refine lv_iadd hx hb dX7_addUp_155 ?_
              refine lv_iadd hx hb dX7_addUp_156 ?_
              refine va_put (D := (dC, dI)) (ci := 7) (v := .int ((maG F T nm lo up L a k) + (((-1) * (nm (L k))) + (-(lo (L k)))))) (ty := .int) (C := RX7) (T := TX7) (N := 34) hx hb hts iX7 tyX7 tyX7_ok nmX7 hown hK hP hD hS 0 rfl rfl 27 (by decide) w2 (fun _ h9 => h9) rfl (by decide +kernel) rfl rfl (Nat.le_of_ble_eq_true rfl) dX7_addUp_157 (fun H locs hP hD hS => ?_)
              have hP : va_P (dC, dI) vwCl [(aM, .inr (7, [.int th, .int (nI n), .int (nI cnt), .ref aMF, .ref aMT, .ref aMN, .ref aML, .ref aMU, .int (nI ml), .ref aMB, .int (nI sg), .int (nI rm), .int (nI mdg), .int (nI mnb), .int (bI mng), .ref aMf, .ref aMt, .ref aMn, .ref aMl, .ref aMu, .ref aMP, .ref aMD, .int (nI lk), .ref aMC, .ref aMO, .int ((maN F T nm L a k) + ((-1) * (nm (L k)))), .int ((maL F T nm lo up L a k) + (((-1) * (nm (L k))) + (-(up (L k))))), .int ((maG F T nm lo up L a k) + (((-1) * (nm (L k))) + (-(lo (L k))))), .ref aMY, .int nn, .int nl, .int nu, .ref aMS, .long hs])), (aMF, .inl (cyI, 20, .inl (fun j_ => nI (F j_)))), (aMT, .inl (cyI, 20, .inl (fun j_ => nI (T j_)))), (aMN, .inl (cyI, 20, .inl nm)), (aML, .inl (cyI, 20, .inl lo)), (aMU, .inl (cyI, 20, .inl up)), (aMC, .inl (cyI, 12, .inl (fun j_ => nI (L j_))))] H := hP
              have hD : va_D A [(aM, .inr (7, [.int th, .int (nI n), .int (nI cnt), .ref aMF, .ref aMT, .ref aMN, .ref aML, .ref aMU, .int (nI ml), .ref aMB, .int (nI sg), .int (nI rm), .int (nI mdg), .int (nI mnb), .int (bI mng), .ref aMf, .ref aMt, .ref aMn, .ref aMl, .ref aMu, .ref aMP, .ref aMD, .int (nI lk), .ref aMC, .ref aMO, .int ((maN F T nm L a k) + ((-1) * (nm (L k)))), .int ((maL F T nm lo up L a k) + (((-1) * (nm (L k))) + (-(up (L k))))), .int ((maG F T nm lo up L a k) + (((-1) * (nm (L k))) + (-(lo (L k))))), .ref aMY, .int nn, .int nl, .int nu, .ref aMS, .long hs])), (aMF, .inl (cyI, 20, .inl (fun j_ => nI (F j_)))), (aMT, .inl (cyI, 20, .inl (fun j_ => nI (T j_)))), (aMN, .inl (cyI, 20, .inl nm)), (aML, .inl (cyI, 20, .inl lo)), (aMU, .inl (cyI, 20, .inl up)), (aMC, .inl (cyI, 12, .inl (fun j_ => nI (L j_))))] := hD
              refine lv_iload hx hb dX7_addUp_160 (lv_at hl 0 rfl) ?_
              refine lv_iconst (v := 1) hx hb dX7_addUp_162 (by decide) ?_
              refine lv_icmp_ne (tgt := 176) hx hb dX7_addUp_163 (by decide) (fun c163 => ?_) (fun c163 => ?_)
              · skip
                refine lv_aload_n hx hb dX7_addUp_176 rfl (lv_at hl 2 rfl) ?_
                refine va_get (D := (dC, dI)) (ci := 7) (v := .ref aMF) (C := RX7) (T := TX7) (N := 34) hx hb hts iX7 hown hK hP 0 rfl rfl 3 (by decide) w5 (fun _ h9 => h9) rfl dX7_addUp_177 ?_
                refine lv_iload hx hb dX7_addUp_180 (lv_at hl 1 rfl) ?_
                have h25 : vp_in (nI (L k)) 20 := by first | exact vp_in_nI (by omega) (by omega) | assumption
                refine va_iald hx hb hK hP 1 0 rfl rfl h25 dX7_addUp_182 ?_
                refine lv_topi (fun x26 e27 => ?_)
                obtain rfl : x26 = (nI (F (L k))) := by rw [e27, nI_clamp (by omega)]
                clear e27
                refine lv_istore_n (lv' := [(2, .int (nI (F (L k)))), (5, .int (-1)), (4, .int (nI (L k))), (0, .ref aM), (1, .int (nI a)), (3, .int (nI k))]) hx hb dX7_addUp_183 rfl hl (by decide) rfl (fun ls hl => ?_)
                refine lv_iinc (v := nI (k + 1)) (lv' := [(3, .int (nI (k + 1))), (2, .int (nI (F (L k)))), (5, .int (-1)), (4, .int (nI (L k))), (0, .ref aM), (1, .int (nI a))]) hx hb dX7_addUp_184 hl (k := 5) rfl (nI_add k 1) (by decide) rfl (fun ls hl => ?_)
                refine lv_goto (tgt := 19) hx hb dX7_addUp_187 (by decide) ?_
                have q28 : (maN F T nm L a (k + 1)) = ((maN F T nm L a k) + ((-1) * (nm (L k)))) := by simp only [maN]; first | (rw [if_pos c43, i1m]; done) | (rw [if_neg c43, i2m]; done)
                have q29 : (maL F T nm lo up L a (k + 1)) = ((maL F T nm lo up L a k) + (((-1) * (nm (L k))) + (-(up (L k))))) := by simp only [maL]; first | (rw [if_pos c43, i3m]; done) | (rw [if_neg c43, i4m]; done)
                have q30 : (maG F T nm lo up L a (k + 1)) = ((maG F T nm lo up L a k) + (((-1) * (nm (L k))) + (-(lo (L k))))) := by simp only [maG]; first | (rw [if_pos c43, i3m]; done) | (rw [if_neg c43, i4m]; done)
                have q31 : (nI (maF F T L a (k + 1))) = (nI (F (L k))) := by simp only [maF]; first | (rw [if_pos c43]; done) | (rw [if_neg c43]; done)
                exact ih19 (k + 1) (by omega) (by first | assumption | omega) _ _ _ (by first | (rw [q29, q30, q28]; exact hP) | (simp only [q29, q30, q28]; exact hP) | exact hP) (by first | (rw [q29, q30, q28]; exact hD) | (simp only [q29, q30, q28]; exact hD) | exact hD) hS (by first | (rw [q31]; exact lv_sub hl [4, 5, 1, 0] rfl) | (simp only [q31]; exact lv_sub hl [4, 5, 1, 0] rfl) | exact lv_sub hl [4, 5, 1, 0] rfl)
              · exact absurd c163 (by decide)
            · exact absurd c134 (by decide)
          · exact absurd c90 (by decide)
        · have c43 := n_eq (a := F (L k)) (b := maF F T L a k) (by omega) (by omega) c43
          refine lv_iconst (v := 1) hx hb dX7_addUp_46 (by decide) ?_
          refine lv_goto (tgt := 51) hx hb dX7_addUp_47 (by decide) ?_
          refine lv_istore (lv' := [(5, .int 1), (4, .int (nI (L k))), (0, .ref aM), (1, .int (nI a)), (2, .int (nI (maF F T L a k))), (3, .int (nI k))]) hx hb dX7_addUp_51 hl (by decide) rfl (fun ls hl => ?_)
          refine lv_aload_n hx hb dX7_addUp_53 rfl (lv_at hl 2 rfl) ?_
          refine lv_dup hx hb dX7_addUp_54 rfl ?_
          refine va_get (D := (dC, dI)) (ci := 7) (v := .int (maN F T nm L a k)) (C := RX7) (T := TX7) (N := 34) hx hb hts iX7 hown hK hP 0 rfl rfl 25 (by decide) w0 (fun _ h9 => h9) rfl dX7_addUp_55 ?_
          refine lv_iload hx hb dX7_addUp_58 (lv_at hl 0 rfl) ?_
          refine lv_aload_n hx hb dX7_addUp_60 rfl (lv_at hl 2 rfl) ?_
          refine va_get (D := (dC, dI)) (ci := 7) (v := .ref aMN) (C := RX7) (T := TX7) (N := 34) hx hb hts iX7 hown hK hP 0 rfl rfl 5 (by decide) w6 (fun _ h9 => h9) rfl dX7_addUp_61 ?_
          refine lv_iload hx hb dX7_addUp_64 (lv_at hl 1 rfl) ?_
          have h32 : vp_in (nI (L k)) 20 := by first | exact vp_in_nI (by omega) (by omega) | assumption
          refine va_iald hx hb hK hP 3 0 rfl rfl h32 dX7_addUp_66 ?_
          refine lv_topi (fun x33 e34 => ?_)
          obtain rfl : x33 = (nm (L k)) := by rw [e34, nI_clamp (by omega)]
          clear e34
          refine lv_imul hx hb dX7_addUp_67 ?_
          refine lv_iadd hx hb dX7_addUp_68 ?_
          refine va_put (D := (dC, dI)) (ci := 7) (v := .int ((maN F T nm L a k) + (1 * (nm (L k))))) (ty := .int) (C := RX7) (T := TX7) (N := 34) hx hb hts iX7 tyX7 tyX7_ok nmX7 hown hK hP hD hS 0 rfl rfl 25 (by decide) w0 (fun _ h9 => h9) rfl (by decide +kernel) rfl rfl (Nat.le_of_ble_eq_true rfl) dX7_addUp_69 (fun H locs hP hD hS => ?_)
          have hP : va_P (dC, dI) vwCl [(aM, .inr (7, [.int th, .int (nI n), .int (nI cnt), .ref aMF, .ref aMT, .ref aMN, .ref aML, .ref aMU, .int (nI ml), .ref aMB, .int (nI sg), .int (nI rm), .int (nI mdg), .int (nI mnb), .int (bI mng), .ref aMf, .ref aMt, .ref aMn, .ref aMl, .ref aMu, .ref aMP, .ref aMD, .int (nI lk), .ref aMC, .ref aMO, .int ((maN F T nm L a k) + (1 * (nm (L k)))), .int (maL F T nm lo up L a k), .int (maG F T nm lo up L a k), .ref aMY, .int nn, .int nl, .int nu, .ref aMS, .long hs])), (aMF, .inl (cyI, 20, .inl (fun j_ => nI (F j_)))), (aMT, .inl (cyI, 20, .inl (fun j_ => nI (T j_)))), (aMN, .inl (cyI, 20, .inl nm)), (aML, .inl (cyI, 20, .inl lo)), (aMU, .inl (cyI, 20, .inl up)), (aMC, .inl (cyI, 12, .inl (fun j_ => nI (L j_))))] H := hP
          have hD : va_D A [(aM, .inr (7, [.int th, .int (nI n), .int (nI cnt), .ref aMF, .ref aMT, .ref aMN, .ref aML, .ref aMU, .int (nI ml), .ref aMB, .int (nI sg), .int (nI rm), .int (nI mdg), .int (nI mnb), .int (bI mng), .ref aMf, .ref aMt, .ref aMn, .ref aMl, .ref aMu, .ref aMP, .ref aMD, .int (nI lk), .ref aMC, .ref aMO, .int ((maN F T nm L a k) + (1 * (nm (L k)))), .int (maL F T nm lo up L a k), .int (maG F T nm lo up L a k), .ref aMY, .int nn, .int nl, .int nu, .ref aMS, .long hs])), (aMF, .inl (cyI, 20, .inl (fun j_ => nI (F j_)))), (aMT, .inl (cyI, 20, .inl (fun j_ => nI (T j_)))), (aMN, .inl (cyI, 20, .inl nm)), (aML, .inl (cyI, 20, .inl lo)), (aMU, .inl (cyI, 20, .inl up)), (aMC, .inl (cyI, 12, .inl (fun j_ => nI (L j_))))] := hD
          refine lv_aload_n hx hb dX7_addUp_72 rfl (lv_at hl 2 rfl) ?_
          refine lv_dup hx hb dX7_addUp_73 rfl ?_
          refine va_get (D := (dC, dI)) (ci := 7) (v := .int (maL F T nm lo up L a k)) (C := RX7) (T := TX7) (N := 34) hx hb hts iX7 hown hK hP 0 rfl rfl 26 (by decide) w1 (fun _ h9 => h9) rfl dX7_addUp_74 ?_
          refine lv_iload hx hb dX7_addUp_77 (lv_at hl 0 rfl) ?_
          refine lv_aload_n hx hb dX7_addUp_79 rfl (lv_at hl 2 rfl) ?_
          refine va_get (D := (dC, dI)) (ci := 7) (v := .ref aMN) (C := RX7) (T := TX7) (N := 34) hx hb hts iX7 hown hK hP 0 rfl rfl 5 (by decide) w6 (fun _ h9 => h9) rfl dX7_addUp_80 ?_
          refine lv_iload hx hb dX7_addUp_83 (lv_at hl 1 rfl) ?_
          have h35 : vp_in (nI (L k)) 20 := by first | exact vp_in_nI (by omega) (by omega) | assumption
          refine va_iald hx hb hK hP 3 0 rfl rfl h35 dX7_addUp_85 ?_
          refine lv_topi (fun x36 e37 => ?_)
          obtain rfl : x36 = (nm (L k)) := by rw [e37, nI_clamp (by omega)]
          clear e37
          refine lv_imul hx hb dX7_addUp_86 ?_
          refine lv_iload hx hb dX7_addUp_87 (lv_at hl 0 rfl) ?_
          refine lv_iconst (v := 1) hx hb dX7_addUp_89 (by decide) ?_
          refine lv_icmp_ne (tgt := 103) hx hb dX7_addUp_90 (by decide) (fun c90 => ?_) (fun c90 => ?_)
          · exact absurd c90 (by decide)
          · skip
            refine lv_aload_n hx hb dX7_addUp_93 rfl (lv_at hl 2 rfl) ?_
            refine va_get (D := (dC, dI)) (ci := 7) (v := .ref aML) (C := RX7) (T := TX7) (N := 34) hx hb hts iX7 hown hK hP 0 rfl rfl 6 (by decide) w8 (fun _ h9 => h9) rfl dX7_addUp_94 ?_
            refine lv_iload hx hb dX7_addUp_97 (lv_at hl 1 rfl) ?_
            have h38 : vp_in (nI (L k)) 20 := by first | exact vp_in_nI (by omega) (by omega) | assumption
            refine va_iald hx hb hK hP 4 0 rfl rfl h38 dX7_addUp_99 ?_
            refine lv_topi (fun x39 e40 => ?_)
            obtain rfl : x39 = (lo (L k)) := by rw [e40, nI_clamp (by omega)]
            clear e40
            refine lv_goto (tgt := 111) hx hb dX7_addUp_100 (by decide) ?_
            refine lv_iadd hx hb dX7_addUp_111 ?_
            refine lv_iadd hx hb dX7_addUp_112 ?_
            refine va_put (D := (dC, dI)) (ci := 7) (v := .int ((maL F T nm lo up L a k) + ((1 * (nm (L k))) + (lo (L k))))) (ty := .int) (C := RX7) (T := TX7) (N := 34) hx hb hts iX7 tyX7 tyX7_ok nmX7 hown hK hP hD hS 0 rfl rfl 26 (by decide) w1 (fun _ h9 => h9) rfl (by decide +kernel) rfl rfl (Nat.le_of_ble_eq_true rfl) dX7_addUp_113 (fun H locs hP hD hS => ?_)
            have hP : va_P (dC, dI) vwCl [(aM, .inr (7, [.int th, .int (nI n), .int (nI cnt), .ref aMF, .ref aMT, .ref aMN, .ref aML, .ref aMU, .int (nI ml), .ref aMB, .int (nI sg), .int (nI rm), .int (nI mdg), .int (nI mnb), .int (bI mng), .ref aMf, .ref aMt, .ref aMn, .ref aMl, .ref aMu, .ref aMP, .ref aMD, .int (nI lk), .ref aMC, .ref aMO, .int ((maN F T nm L a k) + (1 * (nm (L k)))), .int ((maL F T nm lo up L a k) + ((1 * (nm (L k))) + (lo (L k)))), .int (maG F T nm lo up L a k), .ref aMY, .int nn, .int nl, .int nu, .ref aMS, .long hs])), (aMF, .inl (cyI, 20, .inl (fun j_ => nI (F j_)))), (aMT, .inl (cyI, 20, .inl (fun j_ => nI (T j_)))), (aMN, .inl (cyI, 20, .inl nm)), (aML, .inl (cyI, 20, .inl lo)), (aMU, .inl (cyI, 20, .inl up)), (aMC, .inl (cyI, 12, .inl (fun j_ => nI (L j_))))] H := hP
            have hD : va_D A [(aM, .inr (7, [.int th, .int (nI n), .int (nI cnt), .ref aMF, .ref aMT, .ref aMN, .ref aML, .ref aMU, .int (nI ml), .ref aMB, .int (nI sg), .int (nI rm), .int (nI mdg), .int (nI mnb), .int (bI mng), .ref aMf, .ref aMt, .ref aMn, .ref aMl, .ref aMu, .ref aMP, .ref aMD, .int (nI lk), .ref aMC, .ref aMO, .int ((maN F T nm L a k) + (1 * (nm (L k)))), .int ((maL F T nm lo up L a k) + ((1 * (nm (L k))) + (lo (L k)))), .int (maG F T nm lo up L a k), .ref aMY, .int nn, .int nl, .int nu, .ref aMS, .long hs])), (aMF, .inl (cyI, 20, .inl (fun j_ => nI (F j_)))), (aMT, .inl (cyI, 20, .inl (fun j_ => nI (T j_)))), (aMN, .inl (cyI, 20, .inl nm)), (aML, .inl (cyI, 20, .inl lo)), (aMU, .inl (cyI, 20, .inl up)), (aMC, .inl (cyI, 12, .inl (fun j_ => nI (L j_))))] := hD
            refine lv_aload_n hx hb dX7_addUp_116 rfl (lv_at hl 2 rfl) ?_
            refine lv_dup hx hb dX7_addUp_117 rfl ?_
            refine va_get (D := (dC, dI)) (ci := 7) (v := .int (maG F T nm lo up L a k)) (C := RX7) (T := TX7) (N := 34) hx hb hts iX7 hown hK hP 0 rfl rfl 27 (by decide) w2 (fun _ h9 => h9) rfl dX7_addUp_118 ?_
            refine lv_iload hx hb dX7_addUp_121 (lv_at hl 0 rfl) ?_
            refine lv_aload_n hx hb dX7_addUp_123 rfl (lv_at hl 2 rfl) ?_
            refine va_get (D := (dC, dI)) (ci := 7) (v := .ref aMN) (C := RX7) (T := TX7) (N := 34) hx hb hts iX7 hown hK hP 0 rfl rfl 5 (by decide) w6 (fun _ h9 => h9) rfl dX7_addUp_124 ?_
            refine lv_iload hx hb dX7_addUp_127 (lv_at hl 1 rfl) ?_
            have h41 : vp_in (nI (L k)) 20 := by first | exact vp_in_nI (by omega) (by omega) | assumption
            refine va_iald hx hb hK hP 3 0 rfl rfl h41 dX7_addUp_129 ?_
            refine lv_topi (fun x42 e43 => ?_)
            obtain rfl : x42 = (nm (L k)) := by rw [e43, nI_clamp (by omega)]
            clear e43
            refine lv_imul hx hb dX7_addUp_130 ?_
            refine lv_iload hx hb dX7_addUp_131 (lv_at hl 0 rfl) ?_
            refine lv_iconst (v := 1) hx hb dX7_addUp_133 (by decide) ?_
            refine lv_icmp_ne (tgt := 147) hx hb dX7_addUp_134 (by decide) (fun c134 => ?_) (fun c134 => ?_)
            · exact absurd c134 (by decide)
            · skip
              refine lv_aload_n hx hb dX7_addUp_137 rfl (lv_at hl 2 rfl) ?_
              refine va_get (D := (dC, dI)) (ci := 7) (v := .ref aMU) (C := RX7) (T := TX7) (N := 34) hx hb hts iX7 hown hK hP 0 rfl rfl 7 (by decide) w7 (fun _ h9 => h9) rfl dX7_addUp_138 ?_
              refine lv_iload hx hb dX7_addUp_141 (lv_at hl 1 rfl) ?_
              have h44 : vp_in (nI (L k)) 20 := by first | exact vp_in_nI (by omega) (by omega) | assumption
              refine va_iald hx hb hK hP 5 0 rfl rfl h44 dX7_addUp_143 ?_
              refine lv_topi (fun x45 e46 => ?_)
              obtain rfl : x45 = (up (L k)) := by rw [e46, nI_clamp (by omega)]
              clear e46
              refine lv_goto (tgt := 155) hx hb dX7_addUp_144 (by decide) ?_
              refine lv_iadd hx hb dX7_addUp_155 ?_
              refine lv_iadd hx hb dX7_addUp_156 ?_
              refine va_put (D := (dC, dI)) (ci := 7) (v := .int ((maG F T nm lo up L a k) + ((1 * (nm (L k))) + (up (L k))))) (ty := .int) (C := RX7) (T := TX7) (N := 34) hx hb hts iX7 tyX7 tyX7_ok nmX7 hown hK hP hD hS 0 rfl rfl 27 (by decide) w2 (fun _ h9 => h9) rfl (by decide +kernel) rfl rfl (Nat.le_of_ble_eq_true rfl) dX7_addUp_157 (fun H locs hP hD hS => ?_)
              have hP : va_P (dC, dI) vwCl [(aM, .inr (7, [.int th, .int (nI n), .int (nI cnt), .ref aMF, .ref aMT, .ref aMN, .ref aML, .ref aMU, .int (nI ml), .ref aMB, .int (nI sg), .int (nI rm), .int (nI mdg), .int (nI mnb), .int (bI mng), .ref aMf, .ref aMt, .ref aMn, .ref aMl, .ref aMu, .ref aMP, .ref aMD, .int (nI lk), .ref aMC, .ref aMO, .int ((maN F T nm L a k) + (1 * (nm (L k)))), .int ((maL F T nm lo up L a k) + ((1 * (nm (L k))) + (lo (L k)))), .int ((maG F T nm lo up L a k) + ((1 * (nm (L k))) + (up (L k)))), .ref aMY, .int nn, .int nl, .int nu, .ref aMS, .long hs])), (aMF, .inl (cyI, 20, .inl (fun j_ => nI (F j_)))), (aMT, .inl (cyI, 20, .inl (fun j_ => nI (T j_)))), (aMN, .inl (cyI, 20, .inl nm)), (aML, .inl (cyI, 20, .inl lo)), (aMU, .inl (cyI, 20, .inl up)), (aMC, .inl (cyI, 12, .inl (fun j_ => nI (L j_))))] H := hP
              have hD : va_D A [(aM, .inr (7, [.int th, .int (nI n), .int (nI cnt), .ref aMF, .ref aMT, .ref aMN, .ref aML, .ref aMU, .int (nI ml), .ref aMB, .int (nI sg), .int (nI rm), .int (nI mdg), .int (nI mnb), .int (bI mng), .ref aMf, .ref aMt, .ref aMn, .ref aMl, .ref aMu, .ref aMP, .ref aMD, .int (nI lk), .ref aMC, .ref aMO, .int ((maN F T nm L a k) + (1 * (nm (L k)))), .int ((maL F T nm lo up L a k) + ((1 * (nm (L k))) + (lo (L k)))), .int ((maG F T nm lo up L a k) + ((1 * (nm (L k))) + (up (L k)))), .ref aMY, .int nn, .int nl, .int nu, .ref aMS, .long hs])), (aMF, .inl (cyI, 20, .inl (fun j_ => nI (F j_)))), (aMT, .inl (cyI, 20, .inl (fun j_ => nI (T j_)))), (aMN, .inl (cyI, 20, .inl nm)), (aML, .inl (cyI, 20, .inl lo)), (aMU, .inl (cyI, 20, .inl up)), (aMC, .inl (cyI, 12, .inl (fun j_ => nI (L j_))))] := hD
              refine lv_iload hx hb dX7_addUp_160 (lv_at hl 0 rfl) ?_
              refine lv_iconst (v := 1) hx hb dX7_addUp_162 (by decide) ?_
              refine lv_icmp_ne (tgt := 176) hx hb dX7_addUp_163 (by decide) (fun c163 => ?_) (fun c163 => ?_)
              · exact absurd c163 (by decide)
              · skip
                refine lv_aload_n hx hb dX7_addUp_166 rfl (lv_at hl 2 rfl) ?_
                refine va_get (D := (dC, dI)) (ci := 7) (v := .ref aMT) (C := RX7) (T := TX7) (N := 34) hx hb hts iX7 hown hK hP 0 rfl rfl 4 (by decide) w9 (fun _ h9 => h9) rfl dX7_addUp_167 ?_
                refine lv_iload hx hb dX7_addUp_170 (lv_at hl 1 rfl) ?_
                have h47 : vp_in (nI (L k)) 20 := by first | exact vp_in_nI (by omega) (by omega) | assumption
                refine va_iald hx hb hK hP 2 0 rfl rfl h47 dX7_addUp_172 ?_
                refine lv_topi (fun x48 e49 => ?_)
                obtain rfl : x48 = (nI (T (L k))) := by rw [e49, nI_clamp (by omega)]
                clear e49
                refine lv_goto (tgt := 183) hx hb dX7_addUp_173 (by decide) ?_
                refine lv_istore_n (lv' := [(2, .int (nI (T (L k)))), (5, .int 1), (4, .int (nI (L k))), (0, .ref aM), (1, .int (nI a)), (3, .int (nI k))]) hx hb dX7_addUp_183 rfl hl (by decide) rfl (fun ls hl => ?_)
                refine lv_iinc (v := nI (k + 1)) (lv' := [(3, .int (nI (k + 1))), (2, .int (nI (T (L k)))), (5, .int 1), (4, .int (nI (L k))), (0, .ref aM), (1, .int (nI a))]) hx hb dX7_addUp_184 hl (k := 5) rfl (nI_add k 1) (by decide) rfl (fun ls hl => ?_)
                refine lv_goto (tgt := 19) hx hb dX7_addUp_187 (by decide) ?_
                have q50 : (maN F T nm L a (k + 1)) = ((maN F T nm L a k) + (1 * (nm (L k)))) := by simp only [maN]; first | (rw [if_pos c43, i1m]; done) | (rw [if_neg c43, i2m]; done)
                have q51 : (maL F T nm lo up L a (k + 1)) = ((maL F T nm lo up L a k) + ((1 * (nm (L k))) + (lo (L k)))) := by simp only [maL]; first | (rw [if_pos c43, i3m]; done) | (rw [if_neg c43, i4m]; done)
                have q52 : (maG F T nm lo up L a (k + 1)) = ((maG F T nm lo up L a k) + ((1 * (nm (L k))) + (up (L k)))) := by simp only [maG]; first | (rw [if_pos c43, i3m]; done) | (rw [if_neg c43, i4m]; done)
                have q53 : (nI (maF F T L a (k + 1))) = (nI (T (L k))) := by simp only [maF]; first | (rw [if_pos c43]; done) | (rw [if_neg c43]; done)
                exact ih19 (k + 1) (by omega) (by first | assumption | omega) _ _ _ (by first | (rw [q51, q52, q50]; exact hP) | (simp only [q51, q52, q50]; exact hP) | exact hP) (by first | (rw [q51, q52, q50]; exact hD) | (simp only [q51, q52, q50]; exact hD) | exact hD) hS (by first | (rw [q53]; exact lv_sub hl [4, 5, 1, 0] rfl) | (simp only [q53]; exact lv_sub hl [4, 5, 1, 0] rfl) | exact lv_sub hl [4, 5, 1, 0] rfl)
  have q54 : (maN F T nm L a 0) = 0 := by rfl
  have q55 : (maL F T nm lo up L a 0) = 0 := by rfl
  have q56 : (maG F T nm lo up L a 0) = 0 := by rfl
  have q57 : (nI (maF F T L a 0)) = (nI a) := by rfl
  have q58 : (nI 0) = 0 := by first | rfl | simp [*] | (simp only [*]; done)
  exact k19 (lk - 0 + 1) 0 (Nat.lt_succ_self _) (by first | assumption | omega) _ _ _ (by first | (rw [q55, q56, q54]; exact hP) | (simp only [q55, q56, q54]; exact hP) | exact hP) (by first | (rw [q55, q56, q54]; exact hD) | (simp only [q55, q56, q54]; exact hD) | exact hD) hS (by first | (rw [q57, q58]; exact lv_sub hl [2, 3, 1, 0] rfl) | (simp only [q57, q58]; exact lv_sub hl [2, 3, 1, 0] rfl) | exact lv_sub hl [2, 3, 1, 0] rfl)
set_option maxHeartbeats 4000000 in
set_option maxRecDepth 100000 in
theorem c_X7_spreadNow (l : Launch) (dC : Nat → ClassId) (dI : Nat → Nat → Nat) (cyI cyZ cyJ cyD : ClassId) (aM aMF aMT aMN aML aMU aMB aMf aMt aMn aMl aMu aMP aMD aMC aMO aMY aMS : Nat) (zH : Nat) (th : Int32) (n : Nat) (cnt : Nat) (ml : Nat) (sg : Nat) (rm : Nat) (mdg : Nat) (mnb : Nat) (mng : Bool) (lk : Nat) (gn : Int32) (gl : Int32) (gg : Int32) (nn : Int32) (nl : Int32) (nu : Int32) (hs : Int64) (lo : Nat → Int32) (up : Nat → Int32) (L : Nat → Nat) (hlk : lk ≤ 12) (hL0 : ∀ k_q, k_q < lk → L k_q < 20) (hwd : ∀ k_q, k_q < lk → up (L k_q) - lo (L k_q) = nI (wdN lo up (L k_q)) ∧ wdN lo up (L k_q) ≤ 1998) : Met l yX7_spreadNow wsX7_spreadNow ({ frames := 1, cells := 0, slots := 0, locals := 21 } : Room) (va_Pc [.ref aM] (fun U => U.heap.size = zH ∧ va_P (dC, dI) vwCl [(aM, .inr (7, [.int th, .int (nI n), .int (nI cnt), .ref aMF, .ref aMT, .ref aMN, .ref aML, .ref aMU, .int (nI ml), .ref aMB, .int (nI sg), .int (nI rm), .int (nI mdg), .int (nI mnb), .int (bI mng), .ref aMf, .ref aMt, .ref aMn, .ref aMl, .ref aMu, .ref aMP, .ref aMD, .int (nI lk), .ref aMC, .ref aMO, .int gn, .int gl, .int gg, .ref aMY, .int nn, .int nl, .int nu, .ref aMS, .long hs])), (aML, .inl (cyI, 20, .inl lo)), (aMU, .inl (cyI, 20, .inl up)), (aMC, .inl (cyI, 12, .inl (fun j_ => nI (L j_))))] U.heap ∧ va_K (dC, dI) vwCl [(cyI, .int), (cyZ, .boolean), (cyJ, .long), (cyD, .double)] U ∧ va_D (fun _ => True) [(aM, .inr (7, [.int th, .int (nI n), .int (nI cnt), .ref aMF, .ref aMT, .ref aMN, .ref aML, .ref aMU, .int (nI ml), .ref aMB, .int (nI sg), .int (nI rm), .int (nI mdg), .int (nI mnb), .int (bI mng), .ref aMf, .ref aMt, .ref aMn, .ref aMl, .ref aMu, .ref aMP, .ref aMD, .int (nI lk), .ref aMC, .ref aMO, .int gn, .int gl, .int gg, .ref aMY, .int nn, .int nl, .int nu, .ref aMS, .long hs])), (aML, .inl (cyI, 20, .inl lo)), (aMU, .inl (cyI, 20, .inl up)), (aMC, .inl (cyI, 12, .inl (fun j_ => nI (L j_))))])) (va_Qi (fun (r : Int32) (_ : Unit) => r = nI (isq (sqN L lo up lk))) (fun _ t => va_P (dC, dI) vwCl [(aM, .inr (7, [.int th, .int (nI n), .int (nI cnt), .ref aMF, .ref aMT, .ref aMN, .ref aML, .ref aMU, .int (nI ml), .ref aMB, .int (nI sg), .int (nI rm), .int (nI mdg), .int (nI mnb), .int (bI mng), .ref aMf, .ref aMt, .ref aMn, .ref aMl, .ref aMu, .ref aMP, .ref aMD, .int (nI lk), .ref aMC, .ref aMO, .int gn, .int gl, .int gg, .ref aMY, .int nn, .int nl, .int nu, .ref aMS, .long hs])), (aML, .inl (cyI, 20, .inl lo)), (aMU, .inl (cyI, 20, .inl up)), (aMC, .inl (cyI, 12, .inl (fun j_ => nI (L j_))))] t.heap ∧ va_K (dC, dI) vwCl [(cyI, .int), (cyZ, .boolean), (cyJ, .long), (cyD, .double)] t ∧ va_D (va_A [(aM, .inr (7, [.int th, .int (nI n), .int (nI cnt), .ref aMF, .ref aMT, .ref aMN, .ref aML, .ref aMU, .int (nI ml), .ref aMB, .int (nI sg), .int (nI rm), .int (nI mdg), .int (nI mnb), .int (bI mng), .ref aMf, .ref aMt, .ref aMn, .ref aMl, .ref aMu, .ref aMP, .ref aMD, .int (nI lk), .ref aMC, .ref aMO, .int gn, .int gl, .int gg, .ref aMY, .int nn, .int nl, .int nu, .ref aMS, .long hs])), (aML, .inl (cyI, 20, .inl lo)), (aMU, .inl (cyI, 20, .inl up)), (aMC, .inl (cyI, 12, .inl (fun j_ => nI (L j_))))] zH) [(aM, .inr (7, [.int th, .int (nI n), .int (nI cnt), .ref aMF, .ref aMT, .ref aMN, .ref aML, .ref aMU, .int (nI ml), .ref aMB, .int (nI sg), .int (nI rm), .int (nI mdg), .int (nI mnb), .int (bI mng), .ref aMf, .ref aMt, .ref aMn, .ref aMl, .ref aMu, .ref aMP, .ref aMD, .int (nI lk), .ref aMC, .ref aMO, .int gn, .int gl, .int gg, .ref aMY, .int nn, .int nl, .int nu, .ref aMS, .long hs])), (aML, .inl (cyI, 20, .inl lo)), (aMU, .inl (cyI, 20, .inl up)), (aMC, .inl (cyI, 12, .inl (fun j_ => nI (L j_))))]) (va_A [(aM, .inr (7, [.int th, .int (nI n), .int (nI cnt), .ref aMF, .ref aMT, .ref aMN, .ref aML, .ref aMU, .int (nI ml), .ref aMB, .int (nI sg), .int (nI rm), .int (nI mdg), .int (nI mnb), .int (bI mng), .ref aMf, .ref aMt, .ref aMn, .ref aMl, .ref aMu, .ref aMP, .ref aMD, .int (nI lk), .ref aMC, .ref aMO, .int gn, .int gl, .int gg, .ref aMY, .int nn, .int nl, .int nu, .ref aMS, .long hs])), (aML, .inl (cyI, 20, .inl lo)), (aMU, .inl (cyI, 20, .inl up)), (aMC, .inl (cyI, 12, .inl (fun j_ => nI (L j_))))] zH)) 0 0 (va_A [(aM, .inr (7, [.int th, .int (nI n), .int (nI cnt), .ref aMF, .ref aMT, .ref aMN, .ref aML, .ref aMU, .int (nI ml), .ref aMB, .int (nI sg), .int (nI rm), .int (nI mdg), .int (nI mnb), .int (bI mng), .ref aMf, .ref aMt, .ref aMn, .ref aMl, .ref aMu, .ref aMP, .ref aMD, .int (nI lk), .ref aMC, .ref aMO, .int gn, .int gl, .int gg, .ref aMY, .int nn, .int nl, .int nu, .ref aMS, .long hs])), (aML, .inl (cyI, 20, .inl lo)), (aMU, .inl (cyI, 20, .inl up)), (aMC, .inl (cyI, 12, .inl (fun j_ => nI (L j_))))] zH) := by
  refine Met.ofW (cc := cX7_spreadNow) (maxL := 3) (ret := (some .int)) (by decide) rfl ?_
  intro pM eM s mM args blM mtM cM s₁ BM hml hv
  obtain ⟨rfl, hsz, hP, hK, hD0⟩ := hv
  have hx := BM.exec
  have hb := BM.bytes
  have hr := BM.returns
  have hts := atoms_spec (ws := wsX7_spreadNow) BM.pre
  have hown : s.vm.findClass RX7 = some mM.cls := findClass_of_methodNamed BM.named
  have hlocks := BM.notSynchronized
  have w0 := hts (.fieldLink RX7 159 "DimensionCheckerModel" "links" "I") (by decide +kernel)
  have w1 := hts (.fieldLink RX7 54 "DimensionCheckerModel" "chain" "[I") (by decide +kernel)
  have iX7 : ∀ w ∈ wsX70, w ∈ wsX7_spreadNow := by decide +kernel
  subst hsz
  have hD := hD0.self (sz := s.heap.size)
  obtain ⟨Q, hQe⟩ : ∃ Q : State → Prop, Q = MQ blM (va_Qi (fun (r : Int32) (_ : Unit) => r = nI (isq (sqN L lo up lk))) (fun _ t => va_P (dC, dI) vwCl [(aM, .inr (7, [.int th, .int (nI n), .int (nI cnt), .ref aMF, .ref aMT, .ref aMN, .ref aML, .ref aMU, .int (nI ml), .ref aMB, .int (nI sg), .int (nI rm), .int (nI mdg), .int (nI mnb), .int (bI mng), .ref aMf, .ref aMt, .ref aMn, .ref aMl, .ref aMu, .ref aMP, .ref aMD, .int (nI lk), .ref aMC, .ref aMO, .int gn, .int gl, .int gg, .ref aMY, .int nn, .int nl, .int nu, .ref aMS, .long hs])), (aML, .inl (cyI, 20, .inl lo)), (aMU, .inl (cyI, 20, .inl up)), (aMC, .inl (cyI, 12, .inl (fun j_ => nI (L j_))))] t.heap ∧ va_K (dC, dI) vwCl [(cyI, .int), (cyZ, .boolean), (cyJ, .long), (cyD, .double)] t ∧ va_D (va_A [(aM, .inr (7, [.int th, .int (nI n), .int (nI cnt), .ref aMF, .ref aMT, .ref aMN, .ref aML, .ref aMU, .int (nI ml), .ref aMB, .int (nI sg), .int (nI rm), .int (nI mdg), .int (nI mnb), .int (bI mng), .ref aMf, .ref aMt, .ref aMn, .ref aMl, .ref aMu, .ref aMP, .ref aMD, .int (nI lk), .ref aMC, .ref aMO, .int gn, .int gl, .int gg, .ref aMY, .int nn, .int nl, .int nu, .ref aMS, .long hs])), (aML, .inl (cyI, 20, .inl lo)), (aMU, .inl (cyI, 20, .inl up)), (aMC, .inl (cyI, 12, .inl (fun j_ => nI (L j_))))] s.heap.size) [(aM, .inr (7, [.int th, .int (nI n), .int (nI cnt), .ref aMF, .ref aMT, .ref aMN, .ref aML, .ref aMU, .int (nI ml), .ref aMB, .int (nI sg), .int (nI rm), .int (nI mdg), .int (nI mnb), .int (bI mng), .ref aMf, .ref aMt, .ref aMn, .ref aMl, .ref aMu, .ref aMP, .ref aMD, .int (nI lk), .ref aMC, .ref aMO, .int gn, .int gl, .int gg, .ref aMY, .int nn, .int nl, .int nu, .ref aMS, .long hs])), (aML, .inl (cyI, 20, .inl lo)), (aMU, .inl (cyI, 20, .inl up)), (aMC, .inl (cyI, 12, .inl (fun j_ => nI (L j_))))]) (va_A [(aM, .inr (7, [.int th, .int (nI n), .int (nI cnt), .ref aMF, .ref aMT, .ref aMN, .ref aML, .ref aMU, .int (nI ml), .ref aMB, .int (nI sg), .int (nI rm), .int (nI mdg), .int (nI mnb), .int (bI mng), .ref aMf, .ref aMt, .ref aMn, .ref aMl, .ref aMu, .ref aMP, .ref aMD, .int (nI lk), .ref aMC, .ref aMO, .int gn, .int gl, .int gg, .ref aMY, .int nn, .int nl, .int nu, .ref aMS, .long hs])), (aML, .inl (cyI, 20, .inl lo)), (aMU, .inl (cyI, 20, .inl up)), (aMC, .inl (cyI, 12, .inl (fun j_ => nI (L j_))))] s.heap.size)) ([.ref aM] : List Value).toArray s 0 0 (va_A [(aM, .inr (7, [.int th, .int (nI n), .int (nI cnt), .ref aMF, .ref aMT, .ref aMN, .ref aML, .ref aMU, .int (nI ml), .ref aMB, .int (nI sg), .int (nI rm), .int (nI mdg), .int (nI mnb), .int (bI mng), .ref aMf, .ref aMt, .ref aMn, .ref aMl, .ref aMu, .ref aMP, .ref aMD, .int (nI lk), .ref aMC, .ref aMO, .int gn, .int gl, .int gg, .ref aMY, .int nn, .int nl, .int nu, .ref aMS, .long hs])), (aML, .inl (cyI, 20, .inl lo)), (aMU, .inl (cyI, 20, .inl up)), (aMC, .inl (cyI, 12, .inl (fun j_ => nI (L j_))))] s.heap.size) := ⟨_, rfl⟩
  rw [← hQe]
  generalize hAe : va_A [(aM, .inr (7, [.int th, .int (nI n), .int (nI cnt), .ref aMF, .ref aMT, .ref aMN, .ref aML, .ref aMU, .int (nI ml), .ref aMB, .int (nI sg), .int (nI rm), .int (nI mdg), .int (nI mnb), .int (bI mng), .ref aMf, .ref aMt, .ref aMn, .ref aMl, .ref aMu, .ref aMP, .ref aMD, .int (nI lk), .ref aMC, .ref aMO, .int gn, .int gl, .int gg, .ref aMY, .int nn, .int nl, .int nu, .ref aMS, .long hs])), (aML, .inl (cyI, 20, .inl lo)), (aMU, .inl (cyI, 20, .inl up)), (aMC, .inl (cyI, 12, .inl (fun j_ => nI (L j_))))] s.heap.size = A at hD hQe
  have hA : ∀ q : Nat, s.heap.size ≤ q → A q := fun q h => by rw [← hAe]; exact Or.inr h
  obtain ⟨H, hHe⟩ : ∃ H : Heap, H = s.heap := ⟨_, rfl⟩
  have hS : va_S A s.heap H [] := by rw [hHe]; exact va_S.rf
  rw [← hHe] at hP ⊢
  have hl := lv_entry ([.ref aM]) (n := 3) (Nat.le_of_ble_eq_true rfl)
  rw [lg_entry_eq]
  generalize (lg_sl ([.ref aM]) ++ List.replicate (3 - (lg_sl ([.ref aM])).length) Slot.unset).toArray = ls at hl ⊢
  have hl : lv_has ls 3 [(0, .ref aM)] := hl
  have hsq : sqN L lo up lk ≤ 47904048 := sqN_le hlk (fun k h => (hwd k h).2)
  refine lv_iconst (v := 0) hx hb dX7_spreadNow_0 (by decide) ?_
  refine lv_istore_n (lv' := [(1, .int 0), (0, .ref aM)]) hx hb dX7_spreadNow_1 rfl hl (by decide) rfl (fun ls hl => ?_)
  refine lv_iconst (v := 0) hx hb dX7_spreadNow_2 (by decide) ?_
  refine lv_istore_n (lv' := [(2, .int 0), (1, .int 0), (0, .ref aM)]) hx hb dX7_spreadNow_3 rfl hl (by decide) rfl (fun ls hl => ?_)
  have k4 : ∀ (fuel : Nat) (i : Nat) (hfuel : lk - i < fuel) (hi : i ≤ lk) (H : Heap) (locs : List Loc) (ls : Array Slot), va_P (dC, dI) vwCl [(aM, .inr (7, [.int th, .int (nI n), .int (nI cnt), .ref aMF, .ref aMT, .ref aMN, .ref aML, .ref aMU, .int (nI ml), .ref aMB, .int (nI sg), .int (nI rm), .int (nI mdg), .int (nI mnb), .int (bI mng), .ref aMf, .ref aMt, .ref aMn, .ref aMl, .ref aMu, .ref aMP, .ref aMD, .int (nI lk), .ref aMC, .ref aMO, .int gn, .int gl, .int gg, .ref aMY, .int nn, .int nl, .int nu, .ref aMS, .long hs])), (aML, .inl (cyI, 20, .inl lo)), (aMU, .inl (cyI, 20, .inl up)), (aMC, .inl (cyI, 12, .inl (fun j_ => nI (L j_))))] H → va_D A [(aM, .inr (7, [.int th, .int (nI n), .int (nI cnt), .ref aMF, .ref aMT, .ref aMN, .ref aML, .ref aMU, .int (nI ml), .ref aMB, .int (nI sg), .int (nI rm), .int (nI mdg), .int (nI mnb), .int (bI mng), .ref aMf, .ref aMt, .ref aMn, .ref aMl, .ref aMu, .ref aMP, .ref aMD, .int (nI lk), .ref aMC, .ref aMO, .int gn, .int gl, .int gg, .ref aMY, .int nn, .int nl, .int nu, .ref aMS, .long hs])), (aML, .inl (cyI, 20, .inl lo)), (aMU, .inl (cyI, 20, .inl up)), (aMC, .inl (cyI, 12, .inl (fun j_ => nI (L j_))))] → va_S A s.heap H locs → lv_has ls 3 [(0, .ref aM), (1, .int (nI (sqN L lo up i))), (2, .int (nI i))] → W pM l eM (headSpec wsX7_spreadNow ({ frames := 1, cells := 0, slots := 0, locals := 21 } : Room)).room s mM ([.ref aM] : List Value).toArray blM mtM cM H locs 0 0 Q (F0 mM 4 ls []) := by
    intro fuel
    induction fuel with
    | zero => intro i hfuel; exact absurd hfuel (Nat.not_lt_zero _)
    | succ fuel ih4 =>
      intro i hfuel hi H locs ls hP hD hS hl
      refine lv_iload_n hx hb dX7_spreadNow_4 rfl (lv_at hl 2 rfl) ?_
      refine lv_aload_n hx hb dX7_spreadNow_5 rfl (lv_at hl 0 rfl) ?_
      refine va_get (D := (dC, dI)) (ci := 7) (v := .int (nI lk)) (C := RX7) (T := TX7) (N := 34) hx hb hts iX7 hown hK hP 0 rfl rfl 22 (by decide) w0 (fun _ h9 => h9) rfl dX7_spreadNow_6 ?_
      refine lv_icmp_ge (tgt := 42) hx hb dX7_spreadNow_9 (by decide) (fun c9 => ?_) (fun c9 => ?_)
      · have c9 := n_le (a := lk) (b := i) (by omega) (by omega) c9
        have eli : i = lk := by omega
        refine lv_iconst (v := 0) hx hb dX7_spreadNow_42 (by decide) ?_
        refine lv_istore_n (lv' := [(2, .int 0), (0, .ref aM), (1, .int (nI (sqN L lo up i)))]) hx hb dX7_spreadNow_43 rfl hl (by decide) rfl (fun ls hl => ?_)
        have k44 : ∀ (fuel : Nat) (r : Nat) (hfuel : 8192 - r < fuel) (hr0 : r ≤ 8192) (hst : isq (sqN L lo up lk) = stp (sqC (sqN L lo up lk)) (8192 - r) r) (H : Heap) (locs : List Loc) (ls : Array Slot), va_P (dC, dI) vwCl [(aM, .inr (7, [.int th, .int (nI n), .int (nI cnt), .ref aMF, .ref aMT, .ref aMN, .ref aML, .ref aMU, .int (nI ml), .ref aMB, .int (nI sg), .int (nI rm), .int (nI mdg), .int (nI mnb), .int (bI mng), .ref aMf, .ref aMt, .ref aMn, .ref aMl, .ref aMu, .ref aMP, .ref aMD, .int (nI lk), .ref aMC, .ref aMO, .int gn, .int gl, .int gg, .ref aMY, .int nn, .int nl, .int nu, .ref aMS, .long hs])), (aML, .inl (cyI, 20, .inl lo)), (aMU, .inl (cyI, 20, .inl up)), (aMC, .inl (cyI, 12, .inl (fun j_ => nI (L j_))))] H → va_D A [(aM, .inr (7, [.int th, .int (nI n), .int (nI cnt), .ref aMF, .ref aMT, .ref aMN, .ref aML, .ref aMU, .int (nI ml), .ref aMB, .int (nI sg), .int (nI rm), .int (nI mdg), .int (nI mnb), .int (bI mng), .ref aMf, .ref aMt, .ref aMn, .ref aMl, .ref aMu, .ref aMP, .ref aMD, .int (nI lk), .ref aMC, .ref aMO, .int gn, .int gl, .int gg, .ref aMY, .int nn, .int nl, .int nu, .ref aMS, .long hs])), (aML, .inl (cyI, 20, .inl lo)), (aMU, .inl (cyI, 20, .inl up)), (aMC, .inl (cyI, 12, .inl (fun j_ => nI (L j_))))] → va_S A s.heap H locs → lv_has ls 3 [(0, .ref aM), (1, .int (nI (sqN L lo up lk))), (2, .int (nI r))] → W pM l eM (headSpec wsX7_spreadNow ({ frames := 1, cells := 0, slots := 0, locals := 21 } : Room)).room s mM ([.ref aM] : List Value).toArray blM mtM cM H locs 0 0 Q (F0 mM 44 ls []) := by
          intro fuel
          induction fuel with
          | zero => intro r hfuel; exact absurd hfuel (Nat.not_lt_zero _)
          | succ fuel ih44 =>
            intro r hfuel hr0 hst H locs ls hP hD hS hl
            have hrr : (r + 1) * (r + 1) ≤ 8193 * 8193 := Nat.mul_le_mul (by omega) (by omega)
            refine lv_iload_n hx hb dX7_spreadNow_44 rfl (lv_at hl 2 rfl) ?_
            refine lv_iconst (v := 1) hx hb dX7_spreadNow_45 (by decide) ?_
            refine lv_iadd hx hb dX7_spreadNow_46 ?_
            refine lv_topi (fun x1 e2 => ?_)
            obtain rfl : x1 = (nI (r + 1)) := by rw [e2]; exact nI_add r 1
            clear e2
            refine lv_iload_n hx hb dX7_spreadNow_47 rfl (lv_at hl 2 rfl) ?_
            refine lv_iconst (v := 1) hx hb dX7_spreadNow_48 (by decide) ?_
            refine lv_iadd hx hb dX7_spreadNow_49 ?_
            refine lv_topi (fun x3 e4 => ?_)
            obtain rfl : x3 = (nI (r + 1)) := by rw [e4]; exact nI_add r 1
            clear e4
            refine lv_imul hx hb dX7_spreadNow_50 ?_
            refine lv_topi (fun x5 e6 => ?_)
            obtain rfl : x5 = (nI ((r + 1) * (r + 1))) := by rw [e6]; exact pk_mul (r + 1) (r + 1)
            clear e6
            refine lv_iload_n hx hb dX7_spreadNow_51 rfl (lv_at hl 1 rfl) ?_
            refine lv_icmp_gt (tgt := 61) hx hb dX7_spreadNow_52 (by decide) (fun c52 => ?_) (fun c52 => ?_)
            · have c52 := n_lt (a := sqN L lo up lk) (b := (r + 1) * (r + 1)) (by omega) (by omega) c52
              have hfin : isq (sqN L lo up lk) = r := by rw [hst]; exact stp_stop (by simp only [sqC]; exact decide_eq_false (by omega))
              refine lv_iload_n hx hb dX7_spreadNow_61 rfl (lv_at hl 2 rfl) ?_
              have r7 : (nI r) = (nI (isq (sqN L lo up lk))) := by rw [hfin]
              have hP9 : va_P (dC, dI) vwCl [(aM, .inr (7, [.int th, .int (nI n), .int (nI cnt), .ref aMF, .ref aMT, .ref aMN, .ref aML, .ref aMU, .int (nI ml), .ref aMB, .int (nI sg), .int (nI rm), .int (nI mdg), .int (nI mnb), .int (bI mng), .ref aMf, .ref aMt, .ref aMn, .ref aMl, .ref aMu, .ref aMP, .ref aMD, .int (nI lk), .ref aMC, .ref aMO, .int gn, .int gl, .int gg, .ref aMY, .int nn, .int nl, .int nu, .ref aMS, .long hs])), (aML, .inl (cyI, 20, .inl lo)), (aMU, .inl (cyI, 20, .inl up)), (aMC, .inl (cyI, 12, .inl (fun j_ => nI (L j_))))] H := by exact hP.sub [0, 1, 2, 3] rfl
              have hD9 : va_D A [(aM, .inr (7, [.int th, .int (nI n), .int (nI cnt), .ref aMF, .ref aMT, .ref aMN, .ref aML, .ref aMU, .int (nI ml), .ref aMB, .int (nI sg), .int (nI rm), .int (nI mdg), .int (nI mnb), .int (bI mng), .ref aMf, .ref aMt, .ref aMn, .ref aMl, .ref aMu, .ref aMP, .ref aMD, .int (nI lk), .ref aMC, .ref aMO, .int gn, .int gl, .int gg, .ref aMY, .int nn, .int nl, .int nu, .ref aMS, .long hs])), (aML, .inl (cyI, 20, .inl lo)), (aMU, .inl (cyI, 20, .inl up)), (aMC, .inl (cyI, 12, .inl (fun j_ => nI (L j_))))] := by exact hD.sub [0, 1, 2, 3] (by decide) rfl
              rw [hQe]
              exact W.iret (v := nI r) hx hb hr (fun t ht hW => ⟨⟨_, (), rfl, r7, by rw [ht]; exact hP9, va_K.moved hW.alike hK, hD9⟩, hS.F ht⟩) hS.2.2 dX7_spreadNow_62
            · have c52 := n_nlt (a := sqN L lo up lk) (b := (r + 1) * (r + 1)) (by omega) (by omega) c52
              have hr2 : r < 8192 := sq_lt c52 hsq
              refine lv_iinc (v := nI (r + 1)) (lv' := [(2, .int (nI (r + 1))), (0, .ref aM), (1, .int (nI (sqN L lo up lk)))]) hx hb dX7_spreadNow_55 hl (k := 2) rfl (nI_add r 1) (by decide) rfl (fun ls hl => ?_)
              refine lv_goto (tgt := 44) hx hb dX7_spreadNow_58 (by decide) ?_
              exact ih44 (r + 1) (by omega) (by first | assumption | omega) (by rw [hst]; exact stp_step hr2 (by simp only [sqC]; exact decide_eq_true c52)) _ _ _ (hP) (hD) hS (lv_sub hl [1, 2, 0] rfl)
        have q8 : (nI (sqN L lo up lk)) = (nI (sqN L lo up i)) := by first | rfl | rw [eli]
        have q9 : (nI 0) = 0 := by rfl
        exact k44 (8192 - 0 + 1) 0 (Nat.lt_succ_self _) (by first | assumption | omega) (by rfl) _ _ _ (hP) (hD) hS (by first | (rw [q8, q9]; exact lv_sub hl [1, 2, 0] rfl) | (simp only [q8, q9]; exact lv_sub hl [1, 2, 0] rfl) | exact lv_sub hl [1, 2, 0] rfl)
      · have c9 := n_nle (a := lk) (b := i) (by omega) (by omega) c9
        have hLi := hL0 i c9
        have hwi := hwd i c9
        refine lv_iload_n hx hb dX7_spreadNow_12 rfl (lv_at hl 1 rfl) ?_
        refine lv_aload_n hx hb dX7_spreadNow_13 rfl (lv_at hl 0 rfl) ?_
        refine lv_aload_n hx hb dX7_spreadNow_14 rfl (lv_at hl 0 rfl) ?_
        refine va_get (D := (dC, dI)) (ci := 7) (v := .ref aMC) (C := RX7) (T := TX7) (N := 34) hx hb hts iX7 hown hK hP 0 rfl rfl 23 (by decide) w1 (fun _ h9 => h9) rfl dX7_spreadNow_15 ?_
        refine lv_iload_n hx hb dX7_spreadNow_18 rfl (lv_at hl 2 rfl) ?_
        have h10 : vp_in (nI i) 12 := by first | exact vp_in_nI (by omega) (by omega) | assumption
        refine va_iald hx hb hK hP 3 0 rfl rfl h10 dX7_spreadNow_19 ?_
        refine lv_topi (fun x11 e12 => ?_)
        obtain rfl : x11 = (nI (L i)) := by rw [e12, nI_clamp (by omega)]
        clear e12
        have g13 : (L i) < 20 := by first | assumption | omega | exact vp_in_nI (by omega) (by omega)
        have hPc := hP.sub (ws' := [(aM, .inr (7, [.int th, .int (nI n), .int (nI cnt), .ref aMF, .ref aMT, .ref aMN, .ref aML, .ref aMU, .int (nI ml), .ref aMB, .int (nI sg), .int (nI rm), .int (nI mdg), .int (nI mnb), .int (bI mng), .ref aMf, .ref aMt, .ref aMn, .ref aMl, .ref aMu, .ref aMP, .ref aMD, .int (nI lk), .ref aMC, .ref aMO, .int gn, .int gl, .int gg, .ref aMY, .int nn, .int nl, .int nu, .ref aMS, .long hs])), (aML, .inl (cyI, 20, .inl lo)), (aMU, .inl (cyI, 20, .inl up))]) [0, 1, 2] rfl
        have hDc := hD.sub (ws' := [(aM, .inr (7, [.int th, .int (nI n), .int (nI cnt), .ref aMF, .ref aMT, .ref aMN, .ref aML, .ref aMU, .int (nI ml), .ref aMB, .int (nI sg), .int (nI rm), .int (nI mdg), .int (nI mnb), .int (bI mng), .ref aMf, .ref aMt, .ref aMn, .ref aMl, .ref aMu, .ref aMP, .ref aMD, .int (nI lk), .ref aMC, .ref aMO, .int gn, .int gl, .int gg, .ref aMY, .int nn, .int nl, .int nu, .ref aMS, .long hs])), (aML, .inl (cyI, 20, .inl lo)), (aMU, .inl (cyI, 20, .inl up))]) [0, 1, 2] (by decide) rfl
        have hFc := va_free (wc := [(aM, .inr (7, [.int th, .int (nI n), .int (nI cnt), .ref aMF, .ref aMT, .ref aMN, .ref aML, .ref aMU, .int (nI ml), .ref aMB, .int (nI sg), .int (nI rm), .int (nI mdg), .int (nI mnb), .int (bI mng), .ref aMf, .ref aMt, .ref aMn, .ref aMl, .ref aMu, .ref aMP, .ref aMD, .int (nI lk), .ref aMC, .ref aMO, .int gn, .int gl, .int gg, .ref aMY, .int nn, .int nl, .int nu, .ref aMS, .long hs])), (aML, .inl (cyI, 20, .inl lo)), (aMU, .inl (cyI, 20, .inl up))]) hD hS hA [0, 1, 2] rfl
        refine va_calli (va_runV (As := [.int (nI (L i))]) (rest := [.int (nI (sqN L lo up i))]) ⟨hx, hb, hml, hown, hts⟩ (c_X7_width l dC dI cyI cyZ cyJ cyD aM aMF aMT aMN aML aMU aMB aMf aMt aMn aMl aMu aMP aMD aMC aMO aMY aMS H.size th n cnt ml sg rm mdg mnb mng lk gn gl gg nn nl nu hs lo up (L i) g13) (cwV 1 hts gX7_spreadNow_X7_width rfl rfl rfl (by decide +kernel) ⟨Nat.le_of_ble_eq_true rfl, Nat.le_of_ble_eq_true rfl⟩) ⟨fun a U g mk q => by obtain ⟨q0, q1, qP, qK, qD⟩ := q; exact ⟨q0, q1, qP, va_K.moved (u := U) (U := U.calling g mk a) (Vm.Alike.refl U.vm) qK, qD⟩, va_recv hK hPc (ci := 7) (q0 := 0) rfl rfl, fun U hU hW => ⟨rfl, by rw [hU], by rw [hU]; exact hPc, va_K.moved hW.alike hK, hDc.weaken (fun _ _ _ _ => trivial)⟩⟩ rfl rfl hl.1 rfl (lv_room (Nat.le_of_ble_eq_true rfl)) dX7_spreadNow_20 ⟨Nat.le_of_ble_eq_true rfl, Nat.le_of_ble_eq_true rfl⟩) hS (fun q _ h => hFc q h) hFc (fun r u t H1 locs ht hvm hw hB hz1 hk1 hS => ?_)
        obtain rfl := hw
        obtain ⟨hP1, hK1, hD1⟩ := hB
        rw [ht] at hP1
        obtain ⟨hP, hD⟩ := va_join (wr := [(aMC, .inl (cyI, 12, .inl (fun j_ => nI (L j_))))]) (w1 := [(aM, .inr (7, [.int th, .int (nI n), .int (nI cnt), .ref aMF, .ref aMT, .ref aMN, .ref aML, .ref aMU, .int (nI ml), .ref aMB, .int (nI sg), .int (nI rm), .int (nI mdg), .int (nI mnb), .int (bI mng), .ref aMf, .ref aMt, .ref aMn, .ref aMl, .ref aMu, .ref aMP, .ref aMD, .int (nI lk), .ref aMC, .ref aMO, .int gn, .int gl, .int gg, .ref aMY, .int nn, .int nl, .int nu, .ref aMS, .long hs])), (aML, .inl (cyI, 20, .inl lo)), (aMU, .inl (cyI, 20, .inl up))]) hP hD [0, 1, 2] [3] rfl rfl (by decide) (by decide) hk1 hFc hP1 hD1
        clear hP1 hD1 hK1 hPc hDc hFc hk1 hz1 hvm ht u t
        generalize H1 = H at hP hS ⊢
        have hP : va_P (dC, dI) vwCl [(aMC, .inl (cyI, 12, .inl (fun j_ => nI (L j_)))), (aM, .inr (7, [.int th, .int (nI n), .int (nI cnt), .ref aMF, .ref aMT, .ref aMN, .ref aML, .ref aMU, .int (nI ml), .ref aMB, .int (nI sg), .int (nI rm), .int (nI mdg), .int (nI mnb), .int (bI mng), .ref aMf, .ref aMt, .ref aMn, .ref aMl, .ref aMu, .ref aMP, .ref aMD, .int (nI lk), .ref aMC, .ref aMO, .int gn, .int gl, .int gg, .ref aMY, .int nn, .int nl, .int nu, .ref aMS, .long hs])), (aML, .inl (cyI, 20, .inl lo)), (aMU, .inl (cyI, 20, .inl up))] H := hP
        have hD : va_D A [(aMC, .inl (cyI, 12, .inl (fun j_ => nI (L j_)))), (aM, .inr (7, [.int th, .int (nI n), .int (nI cnt), .ref aMF, .ref aMT, .ref aMN, .ref aML, .ref aMU, .int (nI ml), .ref aMB, .int (nI sg), .int (nI rm), .int (nI mdg), .int (nI mnb), .int (bI mng), .ref aMf, .ref aMt, .ref aMn, .ref aMl, .ref aMu, .ref aMP, .ref aMD, .int (nI lk), .ref aMC, .ref aMO, .int gn, .int gl, .int gg, .ref aMY, .int nn, .int nl, .int nu, .ref aMS, .long hs])), (aML, .inl (cyI, 20, .inl lo)), (aMU, .inl (cyI, 20, .inl up))] := hD
        refine lv_topi (fun x14 e15 => ?_)
        obtain rfl : x14 = (nI (wdN lo up (L i))) := by rw [e15]; exact hwi.1
        clear e15
        refine lv_aload_n hx hb dX7_spreadNow_23 rfl (lv_at hl 0 rfl) ?_
        refine lv_aload_n hx hb dX7_spreadNow_24 rfl (lv_at hl 0 rfl) ?_
        refine va_get (D := (dC, dI)) (ci := 7) (v := .ref aMC) (C := RX7) (T := TX7) (N := 34) hx hb hts iX7 hown hK hP 1 rfl rfl 23 (by decide) w1 (fun _ h9 => h9) rfl dX7_spreadNow_25 ?_
        refine lv_iload_n hx hb dX7_spreadNow_28 rfl (lv_at hl 2 rfl) ?_
        have h16 : vp_in (nI i) 12 := by first | exact vp_in_nI (by omega) (by omega) | assumption
        refine va_iald hx hb hK hP 0 0 rfl rfl h16 dX7_spreadNow_29 ?_
        refine lv_topi (fun x17 e18 => ?_)
        obtain rfl : x17 = (nI (L i)) := by rw [e18, nI_clamp (by omega)]
        clear e18
        have g19 : (L i) < 20 := by first | assumption | omega | exact vp_in_nI (by omega) (by omega)
        have hPc := hP.sub (ws' := [(aM, .inr (7, [.int th, .int (nI n), .int (nI cnt), .ref aMF, .ref aMT, .ref aMN, .ref aML, .ref aMU, .int (nI ml), .ref aMB, .int (nI sg), .int (nI rm), .int (nI mdg), .int (nI mnb), .int (bI mng), .ref aMf, .ref aMt, .ref aMn, .ref aMl, .ref aMu, .ref aMP, .ref aMD, .int (nI lk), .ref aMC, .ref aMO, .int gn, .int gl, .int gg, .ref aMY, .int nn, .int nl, .int nu, .ref aMS, .long hs])), (aML, .inl (cyI, 20, .inl lo)), (aMU, .inl (cyI, 20, .inl up))]) [1, 2, 3] rfl
        have hDc := hD.sub (ws' := [(aM, .inr (7, [.int th, .int (nI n), .int (nI cnt), .ref aMF, .ref aMT, .ref aMN, .ref aML, .ref aMU, .int (nI ml), .ref aMB, .int (nI sg), .int (nI rm), .int (nI mdg), .int (nI mnb), .int (bI mng), .ref aMf, .ref aMt, .ref aMn, .ref aMl, .ref aMu, .ref aMP, .ref aMD, .int (nI lk), .ref aMC, .ref aMO, .int gn, .int gl, .int gg, .ref aMY, .int nn, .int nl, .int nu, .ref aMS, .long hs])), (aML, .inl (cyI, 20, .inl lo)), (aMU, .inl (cyI, 20, .inl up))]) [1, 2, 3] (by decide) rfl
        have hFc := va_free (wc := [(aM, .inr (7, [.int th, .int (nI n), .int (nI cnt), .ref aMF, .ref aMT, .ref aMN, .ref aML, .ref aMU, .int (nI ml), .ref aMB, .int (nI sg), .int (nI rm), .int (nI mdg), .int (nI mnb), .int (bI mng), .ref aMf, .ref aMt, .ref aMn, .ref aMl, .ref aMu, .ref aMP, .ref aMD, .int (nI lk), .ref aMC, .ref aMO, .int gn, .int gl, .int gg, .ref aMY, .int nn, .int nl, .int nu, .ref aMS, .long hs])), (aML, .inl (cyI, 20, .inl lo)), (aMU, .inl (cyI, 20, .inl up))]) hD hS hA [1, 2, 3] rfl
        refine va_calli (va_runV (As := [.int (nI (L i))]) (rest := [.int (nI (wdN lo up (L i))), .int (nI (sqN L lo up i))]) ⟨hx, hb, hml, hown, hts⟩ (c_X7_width l dC dI cyI cyZ cyJ cyD aM aMF aMT aMN aML aMU aMB aMf aMt aMn aMl aMu aMP aMD aMC aMO aMY aMS H.size th n cnt ml sg rm mdg mnb mng lk gn gl gg nn nl nu hs lo up (L i) g19) (cwV 1 hts gX7_spreadNow_X7_width rfl rfl rfl (by decide +kernel) ⟨Nat.le_of_ble_eq_true rfl, Nat.le_of_ble_eq_true rfl⟩) ⟨fun a U g mk q => by obtain ⟨q0, q1, qP, qK, qD⟩ := q; exact ⟨q0, q1, qP, va_K.moved (u := U) (U := U.calling g mk a) (Vm.Alike.refl U.vm) qK, qD⟩, va_recv hK hPc (ci := 7) (q0 := 0) rfl rfl, fun U hU hW => ⟨rfl, by rw [hU], by rw [hU]; exact hPc, va_K.moved hW.alike hK, hDc.weaken (fun _ _ _ _ => trivial)⟩⟩ rfl rfl hl.1 rfl (lv_room (Nat.le_of_ble_eq_true rfl)) dX7_spreadNow_30 ⟨Nat.le_of_ble_eq_true rfl, Nat.le_of_ble_eq_true rfl⟩) hS (fun q _ h => hFc q h) hFc (fun r u t H1 locs ht hvm hw hB hz1 hk1 hS => ?_)
        obtain rfl := hw
        obtain ⟨hP1, hK1, hD1⟩ := hB
        rw [ht] at hP1
        obtain ⟨hP, hD⟩ := va_join (wr := [(aMC, .inl (cyI, 12, .inl (fun j_ => nI (L j_))))]) (w1 := [(aM, .inr (7, [.int th, .int (nI n), .int (nI cnt), .ref aMF, .ref aMT, .ref aMN, .ref aML, .ref aMU, .int (nI ml), .ref aMB, .int (nI sg), .int (nI rm), .int (nI mdg), .int (nI mnb), .int (bI mng), .ref aMf, .ref aMt, .ref aMn, .ref aMl, .ref aMu, .ref aMP, .ref aMD, .int (nI lk), .ref aMC, .ref aMO, .int gn, .int gl, .int gg, .ref aMY, .int nn, .int nl, .int nu, .ref aMS, .long hs])), (aML, .inl (cyI, 20, .inl lo)), (aMU, .inl (cyI, 20, .inl up))]) hP hD [1, 2, 3] [0] rfl rfl (by decide) (by decide) hk1 hFc hP1 hD1
        clear hP1 hD1 hK1 hPc hDc hFc hk1 hz1 hvm ht u t
        generalize H1 = H at hP hS ⊢
        have hP : va_P (dC, dI) vwCl [(aMC, .inl (cyI, 12, .inl (fun j_ => nI (L j_)))), (aM, .inr (7, [.int th, .int (nI n), .int (nI cnt), .ref aMF, .ref aMT, .ref aMN, .ref aML, .ref aMU, .int (nI ml), .ref aMB, .int (nI sg), .int (nI rm), .int (nI mdg), .int (nI mnb), .int (bI mng), .ref aMf, .ref aMt, .ref aMn, .ref aMl, .ref aMu, .ref aMP, .ref aMD, .int (nI lk), .ref aMC, .ref aMO, .int gn, .int gl, .int gg, .ref aMY, .int nn, .int nl, .int nu, .ref aMS, .long hs])), (aML, .inl (cyI, 20, .inl lo)), (aMU, .inl (cyI, 20, .inl up))] H := hP
        have hD : va_D A [(aMC, .inl (cyI, 12, .inl (fun j_ => nI (L j_)))), (aM, .inr (7, [.int th, .int (nI n), .int (nI cnt), .ref aMF, .ref aMT, .ref aMN, .ref aML, .ref aMU, .int (nI ml), .ref aMB, .int (nI sg), .int (nI rm), .int (nI mdg), .int (nI mnb), .int (bI mng), .ref aMf, .ref aMt, .ref aMn, .ref aMl, .ref aMu, .ref aMP, .ref aMD, .int (nI lk), .ref aMC, .ref aMO, .int gn, .int gl, .int gg, .ref aMY, .int nn, .int nl, .int nu, .ref aMS, .long hs])), (aML, .inl (cyI, 20, .inl lo)), (aMU, .inl (cyI, 20, .inl up))] := hD
        refine lv_topi (fun x20 e21 => ?_)
        obtain rfl : x20 = (nI (wdN lo up (L i))) := by rw [e21]; exact hwi.1
        clear e21
        refine lv_imul hx hb dX7_spreadNow_33 ?_
        refine lv_topi (fun x22 e23 => ?_)
        obtain rfl : x22 = (nI ((wdN lo up (L i)) * (wdN lo up (L i)))) := by rw [e23]; exact pk_mul (wdN lo up (L i)) (wdN lo up (L i))
        clear e23
        refine lv_iadd hx hb dX7_spreadNow_34 ?_
        refine lv_topi (fun x24 e25 => ?_)
        obtain rfl : x24 = (nI ((sqN L lo up i) + ((wdN lo up (L i)) * (wdN lo up (L i))))) := by rw [e25]; exact nI_add (sqN L lo up i) ((wdN lo up (L i)) * (wdN lo up (L i)))
        clear e25
        refine lv_istore_n (lv' := [(1, .int (nI ((sqN L lo up i) + ((wdN lo up (L i)) * (wdN lo up (L i)))))), (0, .ref aM), (2, .int (nI i))]) hx hb dX7_spreadNow_35 rfl hl (by decide) rfl (fun ls hl => ?_)
        refine lv_iinc (v := nI (i + 1)) (lv' := [(2, .int (nI (i + 1))), (1, .int (nI ((sqN L lo up i) + ((wdN lo up (L i)) * (wdN lo up (L i)))))), (0, .ref aM)]) hx hb dX7_spreadNow_36 hl (k := 2) rfl (nI_add i 1) (by decide) rfl (fun ls hl => ?_)
        refine lv_goto (tgt := 4) hx hb dX7_spreadNow_39 (by decide) ?_
        have q26 : (nI (sqN L lo up (i + 1))) = (nI ((sqN L lo up i) + ((wdN lo up (L i)) * (wdN lo up (L i))))) := by rfl
        exact ih4 (i + 1) (by omega) (by first | assumption | omega) _ _ _ (hP.sub [1, 2, 3, 0] rfl) (hD.sub [1, 2, 3, 0] (by decide) rfl) hS (by first | (rw [q26]; exact lv_sub hl [2, 1, 0] rfl) | (simp only [q26]; exact lv_sub hl [2, 1, 0] rfl) | exact lv_sub hl [2, 1, 0] rfl)
  have q27 : (nI (sqN L lo up 0)) = 0 := by first | rfl | rw [eli]
  have q28 : (nI 0) = 0 := by rfl
  exact k4 (lk - 0 + 1) 0 (Nat.lt_succ_self _) (by first | assumption | omega) _ _ _ (hP) (hD) hS (by first | (rw [q27, q28]; exact lv_sub hl [2, 1, 0] rfl) | (simp only [q27, q28]; exact lv_sub hl [2, 1, 0] rfl) | exact lv_sub hl [2, 1, 0] rfl)
set_option maxHeartbeats 4000000 in
set_option maxRecDepth 100000 in
theorem c_X7_contributorNow (l : Launch) (dC : Nat → ClassId) (dI : Nat → Nat → Nat) (cyI cyZ cyJ cyD : ClassId) (aM aMF aMT aMN aML aMU aMB aMf aMt aMn aMl aMu aMP aMD aMC aMO aMY aMS : Nat) (zH : Nat) (th : Int32) (n : Nat) (cnt : Nat) (ml : Nat) (sg : Nat) (rm : Nat) (mdg : Nat) (mnb : Nat) (mng : Bool) (lk : Nat) (gn : Int32) (gl : Int32) (gg : Int32) (nn : Int32) (nl : Int32) (nu : Int32) (hs : Int64) (lo : Nat → Int32) (up : Nat → Int32) (L : Nat → Nat) (hlk : lk ≤ 12) (hL0 : ∀ k_q, k_q < lk → L k_q < 20) : Met l yX7_contributorNow wsX7_contributorNow ({ frames := 1, cells := 0, slots := 0, locals := 21 } : Room) (va_Pc [.ref aM] (fun U => U.heap.size = zH ∧ va_P (dC, dI) vwCl [(aM, .inr (7, [.int th, .int (nI n), .int (nI cnt), .ref aMF, .ref aMT, .ref aMN, .ref aML, .ref aMU, .int (nI ml), .ref aMB, .int (nI sg), .int (nI rm), .int (nI mdg), .int (nI mnb), .int (bI mng), .ref aMf, .ref aMt, .ref aMn, .ref aMl, .ref aMu, .ref aMP, .ref aMD, .int (nI lk), .ref aMC, .ref aMO, .int gn, .int gl, .int gg, .ref aMY, .int nn, .int nl, .int nu, .ref aMS, .long hs])), (aML, .inl (cyI, 20, .inl lo)), (aMU, .inl (cyI, 20, .inl up)), (aMC, .inl (cyI, 12, .inl (fun j_ => nI (L j_))))] U.heap ∧ va_K (dC, dI) vwCl [(cyI, .int), (cyZ, .boolean), (cyJ, .long), (cyD, .double)] U ∧ va_D (fun _ => True) [(aM, .inr (7, [.int th, .int (nI n), .int (nI cnt), .ref aMF, .ref aMT, .ref aMN, .ref aML, .ref aMU, .int (nI ml), .ref aMB, .int (nI sg), .int (nI rm), .int (nI mdg), .int (nI mnb), .int (bI mng), .ref aMf, .ref aMt, .ref aMn, .ref aMl, .ref aMu, .ref aMP, .ref aMD, .int (nI lk), .ref aMC, .ref aMO, .int gn, .int gl, .int gg, .ref aMY, .int nn, .int nl, .int nu, .ref aMS, .long hs])), (aML, .inl (cyI, 20, .inl lo)), (aMU, .inl (cyI, 20, .inl up)), (aMC, .inl (cyI, 12, .inl (fun j_ => nI (L j_))))])) (va_Qi (fun (r : Int32) (_ : Unit) => r = mwd L lo up lk) (fun _ t => va_P (dC, dI) vwCl [(aM, .inr (7, [.int th, .int (nI n), .int (nI cnt), .ref aMF, .ref aMT, .ref aMN, .ref aML, .ref aMU, .int (nI ml), .ref aMB, .int (nI sg), .int (nI rm), .int (nI mdg), .int (nI mnb), .int (bI mng), .ref aMf, .ref aMt, .ref aMn, .ref aMl, .ref aMu, .ref aMP, .ref aMD, .int (nI lk), .ref aMC, .ref aMO, .int gn, .int gl, .int gg, .ref aMY, .int nn, .int nl, .int nu, .ref aMS, .long hs])), (aML, .inl (cyI, 20, .inl lo)), (aMU, .inl (cyI, 20, .inl up)), (aMC, .inl (cyI, 12, .inl (fun j_ => nI (L j_))))] t.heap ∧ va_K (dC, dI) vwCl [(cyI, .int), (cyZ, .boolean), (cyJ, .long), (cyD, .double)] t ∧ va_D (va_A [(aM, .inr (7, [.int th, .int (nI n), .int (nI cnt), .ref aMF, .ref aMT, .ref aMN, .ref aML, .ref aMU, .int (nI ml), .ref aMB, .int (nI sg), .int (nI rm), .int (nI mdg), .int (nI mnb), .int (bI mng), .ref aMf, .ref aMt, .ref aMn, .ref aMl, .ref aMu, .ref aMP, .ref aMD, .int (nI lk), .ref aMC, .ref aMO, .int gn, .int gl, .int gg, .ref aMY, .int nn, .int nl, .int nu, .ref aMS, .long hs])), (aML, .inl (cyI, 20, .inl lo)), (aMU, .inl (cyI, 20, .inl up)), (aMC, .inl (cyI, 12, .inl (fun j_ => nI (L j_))))] zH) [(aM, .inr (7, [.int th, .int (nI n), .int (nI cnt), .ref aMF, .ref aMT, .ref aMN, .ref aML, .ref aMU, .int (nI ml), .ref aMB, .int (nI sg), .int (nI rm), .int (nI mdg), .int (nI mnb), .int (bI mng), .ref aMf, .ref aMt, .ref aMn, .ref aMl, .ref aMu, .ref aMP, .ref aMD, .int (nI lk), .ref aMC, .ref aMO, .int gn, .int gl, .int gg, .ref aMY, .int nn, .int nl, .int nu, .ref aMS, .long hs])), (aML, .inl (cyI, 20, .inl lo)), (aMU, .inl (cyI, 20, .inl up)), (aMC, .inl (cyI, 12, .inl (fun j_ => nI (L j_))))]) (va_A [(aM, .inr (7, [.int th, .int (nI n), .int (nI cnt), .ref aMF, .ref aMT, .ref aMN, .ref aML, .ref aMU, .int (nI ml), .ref aMB, .int (nI sg), .int (nI rm), .int (nI mdg), .int (nI mnb), .int (bI mng), .ref aMf, .ref aMt, .ref aMn, .ref aMl, .ref aMu, .ref aMP, .ref aMD, .int (nI lk), .ref aMC, .ref aMO, .int gn, .int gl, .int gg, .ref aMY, .int nn, .int nl, .int nu, .ref aMS, .long hs])), (aML, .inl (cyI, 20, .inl lo)), (aMU, .inl (cyI, 20, .inl up)), (aMC, .inl (cyI, 12, .inl (fun j_ => nI (L j_))))] zH)) 0 0 (va_A [(aM, .inr (7, [.int th, .int (nI n), .int (nI cnt), .ref aMF, .ref aMT, .ref aMN, .ref aML, .ref aMU, .int (nI ml), .ref aMB, .int (nI sg), .int (nI rm), .int (nI mdg), .int (nI mnb), .int (bI mng), .ref aMf, .ref aMt, .ref aMn, .ref aMl, .ref aMu, .ref aMP, .ref aMD, .int (nI lk), .ref aMC, .ref aMO, .int gn, .int gl, .int gg, .ref aMY, .int nn, .int nl, .int nu, .ref aMS, .long hs])), (aML, .inl (cyI, 20, .inl lo)), (aMU, .inl (cyI, 20, .inl up)), (aMC, .inl (cyI, 12, .inl (fun j_ => nI (L j_))))] zH) := by
  refine Met.ofW (cc := cX7_contributorNow) (maxL := 5) (ret := (some .int)) (by decide) rfl ?_
  intro pM eM s mM args blM mtM cM s₁ BM hml hv
  obtain ⟨rfl, hsz, hP, hK, hD0⟩ := hv
  have hx := BM.exec
  have hb := BM.bytes
  have hr := BM.returns
  have hts := atoms_spec (ws := wsX7_contributorNow) BM.pre
  have hown : s.vm.findClass RX7 = some mM.cls := findClass_of_methodNamed BM.named
  have hlocks := BM.notSynchronized
  have w0 := hts (.fieldLink RX7 159 "DimensionCheckerModel" "links" "I") (by decide +kernel)
  have w1 := hts (.fieldLink RX7 54 "DimensionCheckerModel" "chain" "[I") (by decide +kernel)
  have iX7 : ∀ w ∈ wsX70, w ∈ wsX7_contributorNow := by decide +kernel
  subst hsz
  have hD := hD0.self (sz := s.heap.size)
  obtain ⟨Q, hQe⟩ : ∃ Q : State → Prop, Q = MQ blM (va_Qi (fun (r : Int32) (_ : Unit) => r = mwd L lo up lk) (fun _ t => va_P (dC, dI) vwCl [(aM, .inr (7, [.int th, .int (nI n), .int (nI cnt), .ref aMF, .ref aMT, .ref aMN, .ref aML, .ref aMU, .int (nI ml), .ref aMB, .int (nI sg), .int (nI rm), .int (nI mdg), .int (nI mnb), .int (bI mng), .ref aMf, .ref aMt, .ref aMn, .ref aMl, .ref aMu, .ref aMP, .ref aMD, .int (nI lk), .ref aMC, .ref aMO, .int gn, .int gl, .int gg, .ref aMY, .int nn, .int nl, .int nu, .ref aMS, .long hs])), (aML, .inl (cyI, 20, .inl lo)), (aMU, .inl (cyI, 20, .inl up)), (aMC, .inl (cyI, 12, .inl (fun j_ => nI (L j_))))] t.heap ∧ va_K (dC, dI) vwCl [(cyI, .int), (cyZ, .boolean), (cyJ, .long), (cyD, .double)] t ∧ va_D (va_A [(aM, .inr (7, [.int th, .int (nI n), .int (nI cnt), .ref aMF, .ref aMT, .ref aMN, .ref aML, .ref aMU, .int (nI ml), .ref aMB, .int (nI sg), .int (nI rm), .int (nI mdg), .int (nI mnb), .int (bI mng), .ref aMf, .ref aMt, .ref aMn, .ref aMl, .ref aMu, .ref aMP, .ref aMD, .int (nI lk), .ref aMC, .ref aMO, .int gn, .int gl, .int gg, .ref aMY, .int nn, .int nl, .int nu, .ref aMS, .long hs])), (aML, .inl (cyI, 20, .inl lo)), (aMU, .inl (cyI, 20, .inl up)), (aMC, .inl (cyI, 12, .inl (fun j_ => nI (L j_))))] s.heap.size) [(aM, .inr (7, [.int th, .int (nI n), .int (nI cnt), .ref aMF, .ref aMT, .ref aMN, .ref aML, .ref aMU, .int (nI ml), .ref aMB, .int (nI sg), .int (nI rm), .int (nI mdg), .int (nI mnb), .int (bI mng), .ref aMf, .ref aMt, .ref aMn, .ref aMl, .ref aMu, .ref aMP, .ref aMD, .int (nI lk), .ref aMC, .ref aMO, .int gn, .int gl, .int gg, .ref aMY, .int nn, .int nl, .int nu, .ref aMS, .long hs])), (aML, .inl (cyI, 20, .inl lo)), (aMU, .inl (cyI, 20, .inl up)), (aMC, .inl (cyI, 12, .inl (fun j_ => nI (L j_))))]) (va_A [(aM, .inr (7, [.int th, .int (nI n), .int (nI cnt), .ref aMF, .ref aMT, .ref aMN, .ref aML, .ref aMU, .int (nI ml), .ref aMB, .int (nI sg), .int (nI rm), .int (nI mdg), .int (nI mnb), .int (bI mng), .ref aMf, .ref aMt, .ref aMn, .ref aMl, .ref aMu, .ref aMP, .ref aMD, .int (nI lk), .ref aMC, .ref aMO, .int gn, .int gl, .int gg, .ref aMY, .int nn, .int nl, .int nu, .ref aMS, .long hs])), (aML, .inl (cyI, 20, .inl lo)), (aMU, .inl (cyI, 20, .inl up)), (aMC, .inl (cyI, 12, .inl (fun j_ => nI (L j_))))] s.heap.size)) ([.ref aM] : List Value).toArray s 0 0 (va_A [(aM, .inr (7, [.int th, .int (nI n), .int (nI cnt), .ref aMF, .ref aMT, .ref aMN, .ref aML, .ref aMU, .int (nI ml), .ref aMB, .int (nI sg), .int (nI rm), .int (nI mdg), .int (nI mnb), .int (bI mng), .ref aMf, .ref aMt, .ref aMn, .ref aMl, .ref aMu, .ref aMP, .ref aMD, .int (nI lk), .ref aMC, .ref aMO, .int gn, .int gl, .int gg, .ref aMY, .int nn, .int nl, .int nu, .ref aMS, .long hs])), (aML, .inl (cyI, 20, .inl lo)), (aMU, .inl (cyI, 20, .inl up)), (aMC, .inl (cyI, 12, .inl (fun j_ => nI (L j_))))] s.heap.size) := ⟨_, rfl⟩
  rw [← hQe]
  generalize hAe : va_A [(aM, .inr (7, [.int th, .int (nI n), .int (nI cnt), .ref aMF, .ref aMT, .ref aMN, .ref aML, .ref aMU, .int (nI ml), .ref aMB, .int (nI sg), .int (nI rm), .int (nI mdg), .int (nI mnb), .int (bI mng), .ref aMf, .ref aMt, .ref aMn, .ref aMl, .ref aMu, .ref aMP, .ref aMD, .int (nI lk), .ref aMC, .ref aMO, .int gn, .int gl, .int gg, .ref aMY, .int nn, .int nl, .int nu, .ref aMS, .long hs])), (aML, .inl (cyI, 20, .inl lo)), (aMU, .inl (cyI, 20, .inl up)), (aMC, .inl (cyI, 12, .inl (fun j_ => nI (L j_))))] s.heap.size = A at hD hQe
  have hA : ∀ q : Nat, s.heap.size ≤ q → A q := fun q h => by rw [← hAe]; exact Or.inr h
  obtain ⟨H, hHe⟩ : ∃ H : Heap, H = s.heap := ⟨_, rfl⟩
  have hS : va_S A s.heap H [] := by rw [hHe]; exact va_S.rf
  rw [← hHe] at hP ⊢
  have hl := lv_entry ([.ref aM]) (n := 5) (Nat.le_of_ble_eq_true rfl)
  rw [lg_entry_eq]
  generalize (lg_sl ([.ref aM]) ++ List.replicate (5 - (lg_sl ([.ref aM])).length) Slot.unset).toArray = ls at hl ⊢
  have hl : lv_has ls 5 [(0, .ref aM)] := hl
  refine lv_iconst (v := (-1)) hx hb dX7_contributorNow_0 (by decide) ?_
  refine lv_istore_n (lv' := [(1, .int (-1)), (0, .ref aM)]) hx hb dX7_contributorNow_1 rfl hl (by decide) rfl (fun ls hl => ?_)
  refine lv_iconst (v := 0) hx hb dX7_contributorNow_2 (by decide) ?_
  refine lv_istore_n (lv' := [(2, .int 0), (1, .int (-1)), (0, .ref aM)]) hx hb dX7_contributorNow_3 rfl hl (by decide) rfl (fun ls hl => ?_)
  have k4 : ∀ (fuel : Nat) (i : Nat) (hfuel : lk - i < fuel) (hi : i ≤ lk) (H : Heap) (locs : List Loc) (ls : Array Slot), va_P (dC, dI) vwCl [(aM, .inr (7, [.int th, .int (nI n), .int (nI cnt), .ref aMF, .ref aMT, .ref aMN, .ref aML, .ref aMU, .int (nI ml), .ref aMB, .int (nI sg), .int (nI rm), .int (nI mdg), .int (nI mnb), .int (bI mng), .ref aMf, .ref aMt, .ref aMn, .ref aMl, .ref aMu, .ref aMP, .ref aMD, .int (nI lk), .ref aMC, .ref aMO, .int gn, .int gl, .int gg, .ref aMY, .int nn, .int nl, .int nu, .ref aMS, .long hs])), (aML, .inl (cyI, 20, .inl lo)), (aMU, .inl (cyI, 20, .inl up)), (aMC, .inl (cyI, 12, .inl (fun j_ => nI (L j_))))] H → va_D A [(aM, .inr (7, [.int th, .int (nI n), .int (nI cnt), .ref aMF, .ref aMT, .ref aMN, .ref aML, .ref aMU, .int (nI ml), .ref aMB, .int (nI sg), .int (nI rm), .int (nI mdg), .int (nI mnb), .int (bI mng), .ref aMf, .ref aMt, .ref aMn, .ref aMl, .ref aMu, .ref aMP, .ref aMD, .int (nI lk), .ref aMC, .ref aMO, .int gn, .int gl, .int gg, .ref aMY, .int nn, .int nl, .int nu, .ref aMS, .long hs])), (aML, .inl (cyI, 20, .inl lo)), (aMU, .inl (cyI, 20, .inl up)), (aMC, .inl (cyI, 12, .inl (fun j_ => nI (L j_))))] → va_S A s.heap H locs → lv_has ls 5 [(0, .ref aM), (1, .int (mwd L lo up i)), (2, .int (nI i))] → W pM l eM (headSpec wsX7_contributorNow ({ frames := 1, cells := 0, slots := 0, locals := 21 } : Room)).room s mM ([.ref aM] : List Value).toArray blM mtM cM H locs 0 0 Q (F0 mM 4 ls []) := by
    intro fuel
    induction fuel with
    | zero => intro i hfuel; exact absurd hfuel (Nat.not_lt_zero _)
    | succ fuel ih4 =>
      intro i hfuel hi H locs ls hP hD hS hl
      refine lv_iload_n hx hb dX7_contributorNow_4 rfl (lv_at hl 2 rfl) ?_
      refine lv_aload_n hx hb dX7_contributorNow_5 rfl (lv_at hl 0 rfl) ?_
      refine va_get (D := (dC, dI)) (ci := 7) (v := .int (nI lk)) (C := RX7) (T := TX7) (N := 34) hx hb hts iX7 hown hK hP 0 rfl rfl 22 (by decide) w0 (fun _ h9 => h9) rfl dX7_contributorNow_6 ?_
      refine lv_icmp_ge (tgt := 79) hx hb dX7_contributorNow_9 (by decide) (fun c9 => ?_) (fun c9 => ?_)
      · have c9 := n_le (a := lk) (b := i) (by omega) (by omega) c9
        have e9 : i = lk := (by omega)
        refine lv_iload_n hx hb dX7_contributorNow_79 rfl (lv_at hl 1 rfl) ?_
        have r1 : (mwd L lo up i) = (mwd L lo up lk) := by rw [e9]
        have hP9 : va_P (dC, dI) vwCl [(aM, .inr (7, [.int th, .int (nI n), .int (nI cnt), .ref aMF, .ref aMT, .ref aMN, .ref aML, .ref aMU, .int (nI ml), .ref aMB, .int (nI sg), .int (nI rm), .int (nI mdg), .int (nI mnb), .int (bI mng), .ref aMf, .ref aMt, .ref aMn, .ref aMl, .ref aMu, .ref aMP, .ref aMD, .int (nI lk), .ref aMC, .ref aMO, .int gn, .int gl, .int gg, .ref aMY, .int nn, .int nl, .int nu, .ref aMS, .long hs])), (aML, .inl (cyI, 20, .inl lo)), (aMU, .inl (cyI, 20, .inl up)), (aMC, .inl (cyI, 12, .inl (fun j_ => nI (L j_))))] H := by exact hP.sub [0, 1, 2, 3] rfl
        have hD9 : va_D A [(aM, .inr (7, [.int th, .int (nI n), .int (nI cnt), .ref aMF, .ref aMT, .ref aMN, .ref aML, .ref aMU, .int (nI ml), .ref aMB, .int (nI sg), .int (nI rm), .int (nI mdg), .int (nI mnb), .int (bI mng), .ref aMf, .ref aMt, .ref aMn, .ref aMl, .ref aMu, .ref aMP, .ref aMD, .int (nI lk), .ref aMC, .ref aMO, .int gn, .int gl, .int gg, .ref aMY, .int nn, .int nl, .int nu, .ref aMS, .long hs])), (aML, .inl (cyI, 20, .inl lo)), (aMU, .inl (cyI, 20, .inl up)), (aMC, .inl (cyI, 12, .inl (fun j_ => nI (L j_))))] := by exact hD.sub [0, 1, 2, 3] (by decide) rfl
        rw [hQe]
        exact W.iret (v := mwd L lo up i) hx hb hr (fun t ht hW => ⟨⟨_, (), rfl, r1, by rw [ht]; exact hP9, va_K.moved hW.alike hK, hD9⟩, hS.F ht⟩) hS.2.2 dX7_contributorNow_80
      · have c9 := n_nle (a := lk) (b := i) (by omega) (by omega) c9
        have hLi := hL0 i c9
        refine lv_aload_n hx hb dX7_contributorNow_12 rfl (lv_at hl 0 rfl) ?_
        refine va_get (D := (dC, dI)) (ci := 7) (v := .ref aMC) (C := RX7) (T := TX7) (N := 34) hx hb hts iX7 hown hK hP 0 rfl rfl 23 (by decide) w1 (fun _ h9 => h9) rfl dX7_contributorNow_13 ?_
        refine lv_iload_n hx hb dX7_contributorNow_16 rfl (lv_at hl 2 rfl) ?_
        have h2 : vp_in (nI i) 12 := by first | exact vp_in_nI (by omega) (by omega) | assumption
        refine va_iald hx hb hK hP 3 0 rfl rfl h2 dX7_contributorNow_17 ?_
        refine lv_topi (fun x3 e4 => ?_)
        obtain rfl : x3 = (nI (L i)) := by rw [e4, nI_clamp (by omega)]
        clear e4
        refine lv_istore_n (lv' := [(3, .int (nI (L i))), (0, .ref aM), (1, .int (mwd L lo up i)), (2, .int (nI i))]) hx hb dX7_contributorNow_18 rfl hl (by decide) rfl (fun ls hl => ?_)
        refine lv_iload_n hx hb dX7_contributorNow_19 rfl (lv_at hl 2 rfl) ?_
        refine lv_iconst (v := (-1)) hx hb dX7_contributorNow_20 (by decide) ?_
        refine lv_icmp_eq (tgt := 55) hx hb dX7_contributorNow_21 (by decide) (fun c21 => ?_) (fun c21 => ?_)
        · skip
          refine lv_iconst (v := 1) hx hb dX7_contributorNow_55 (by decide) ?_
          refine lv_goto (tgt := 60) hx hb dX7_contributorNow_56 (by decide) ?_
          refine lv_istore (lv' := [(4, .int 1), (3, .int (nI (L i))), (0, .ref aM), (1, .int (mwd L lo up i)), (2, .int (nI i))]) hx hb dX7_contributorNow_60 hl (by decide) rfl (fun ls hl => ?_)
          refine lv_iload hx hb dX7_contributorNow_62 (lv_at hl 0 rfl) ?_
          refine lv_if_eq (tgt := 71) hx hb dX7_contributorNow_64 (by decide) (fun c64 => ?_) (fun c64 => ?_)
          · exact absurd c64 (by decide)
          · skip
            refine lv_iload_n hx hb dX7_contributorNow_67 rfl (lv_at hl 1 rfl) ?_
            refine lv_goto (tgt := 72) hx hb dX7_contributorNow_68 (by decide) ?_
            refine lv_istore_n (lv' := [(1, .int (nI (L i))), (4, .int 1), (3, .int (nI (L i))), (0, .ref aM), (2, .int (nI i))]) hx hb dX7_contributorNow_72 rfl hl (by decide) rfl (fun ls hl => ?_)
            refine lv_iinc (v := nI (i + 1)) (lv' := [(2, .int (nI (i + 1))), (1, .int (nI (L i))), (4, .int 1), (3, .int (nI (L i))), (0, .ref aM)]) hx hb dX7_contributorNow_73 hl (k := 4) rfl (nI_add i 1) (by decide) rfl (fun ls hl => ?_)
            refine lv_goto (tgt := 4) hx hb dX7_contributorNow_76 (by decide) ?_
            have q5 : (mwd L lo up (i + 1)) = (nI (L i)) := by simp only [mwd]; first | (rw [if_pos (Or.inl c21)]; done) | (rw [if_pos (Or.inr hsw)]; done) | (rw [if_neg (fun q => q.elim c21 hsw)]; done)
            exact ih4 (i + 1) (by omega) (by first | assumption | omega) _ _ _ (hP) (hD) hS (by first | (rw [q5]; exact lv_sub hl [4, 1, 0] rfl) | (simp only [q5]; exact lv_sub hl [4, 1, 0] rfl) | exact lv_sub hl [4, 1, 0] rfl)
        · obtain ⟨j, hj, ej⟩ := mwd_val L lo up i c21
          have hLj := hL0 j (by omega)
          have hjx : (mwd L lo up i).toNatClampNeg = L j := by rw [ej]; exact nI_clamp (by omega)
          refine lv_aload_n hx hb dX7_contributorNow_24 rfl (lv_at hl 1 rfl) ?_
          refine lv_iload_n hx hb dX7_contributorNow_25 rfl (lv_at hl 0 rfl) ?_
          have g6 : (L i) < 20 := by first | assumption | omega | exact vp_in_nI (by omega) (by omega)
          have hPc := hP.sub (ws' := [(aM, .inr (7, [.int th, .int (nI n), .int (nI cnt), .ref aMF, .ref aMT, .ref aMN, .ref aML, .ref aMU, .int (nI ml), .ref aMB, .int (nI sg), .int (nI rm), .int (nI mdg), .int (nI mnb), .int (bI mng), .ref aMf, .ref aMt, .ref aMn, .ref aMl, .ref aMu, .ref aMP, .ref aMD, .int (nI lk), .ref aMC, .ref aMO, .int gn, .int gl, .int gg, .ref aMY, .int nn, .int nl, .int nu, .ref aMS, .long hs])), (aML, .inl (cyI, 20, .inl lo)), (aMU, .inl (cyI, 20, .inl up))]) [0, 1, 2] rfl
          have hDc := hD.sub (ws' := [(aM, .inr (7, [.int th, .int (nI n), .int (nI cnt), .ref aMF, .ref aMT, .ref aMN, .ref aML, .ref aMU, .int (nI ml), .ref aMB, .int (nI sg), .int (nI rm), .int (nI mdg), .int (nI mnb), .int (bI mng), .ref aMf, .ref aMt, .ref aMn, .ref aMl, .ref aMu, .ref aMP, .ref aMD, .int (nI lk), .ref aMC, .ref aMO, .int gn, .int gl, .int gg, .ref aMY, .int nn, .int nl, .int nu, .ref aMS, .long hs])), (aML, .inl (cyI, 20, .inl lo)), (aMU, .inl (cyI, 20, .inl up))]) [0, 1, 2] (by decide) rfl
          have hFc := va_free (wc := [(aM, .inr (7, [.int th, .int (nI n), .int (nI cnt), .ref aMF, .ref aMT, .ref aMN, .ref aML, .ref aMU, .int (nI ml), .ref aMB, .int (nI sg), .int (nI rm), .int (nI mdg), .int (nI mnb), .int (bI mng), .ref aMf, .ref aMt, .ref aMn, .ref aMl, .ref aMu, .ref aMP, .ref aMD, .int (nI lk), .ref aMC, .ref aMO, .int gn, .int gl, .int gg, .ref aMY, .int nn, .int nl, .int nu, .ref aMS, .long hs])), (aML, .inl (cyI, 20, .inl lo)), (aMU, .inl (cyI, 20, .inl up))]) hD hS hA [0, 1, 2] rfl
          refine va_calli (va_runV (As := [.int (nI (L i))]) (rest := []) ⟨hx, hb, hml, hown, hts⟩ (c_X7_width l dC dI cyI cyZ cyJ cyD aM aMF aMT aMN aML aMU aMB aMf aMt aMn aMl aMu aMP aMD aMC aMO aMY aMS H.size th n cnt ml sg rm mdg mnb mng lk gn gl gg nn nl nu hs lo up (L i) g6) (cwV 1 hts gX7_contributorNow_X7_width rfl rfl rfl (by decide +kernel) ⟨Nat.le_of_ble_eq_true rfl, Nat.le_of_ble_eq_true rfl⟩) ⟨fun a U g mk q => by obtain ⟨q0, q1, qP, qK, qD⟩ := q; exact ⟨q0, q1, qP, va_K.moved (u := U) (U := U.calling g mk a) (Vm.Alike.refl U.vm) qK, qD⟩, va_recv hK hPc (ci := 7) (q0 := 0) rfl rfl, fun U hU hW => ⟨rfl, by rw [hU], by rw [hU]; exact hPc, va_K.moved hW.alike hK, hDc.weaken (fun _ _ _ _ => trivial)⟩⟩ rfl rfl hl.1 rfl (lv_room (Nat.le_of_ble_eq_true rfl)) dX7_contributorNow_26 ⟨Nat.le_of_ble_eq_true rfl, Nat.le_of_ble_eq_true rfl⟩) hS (fun q _ h => hFc q h) hFc (fun r u t H1 locs ht hvm hw hB hz1 hk1 hS => ?_)
          obtain rfl := hw
          obtain ⟨hP1, hK1, hD1⟩ := hB
          rw [ht] at hP1
          obtain ⟨hP, hD⟩ := va_join (wr := [(aMC, .inl (cyI, 12, .inl (fun j_ => nI (L j_))))]) (w1 := [(aM, .inr (7, [.int th, .int (nI n), .int (nI cnt), .ref aMF, .ref aMT, .ref aMN, .ref aML, .ref aMU, .int (nI ml), .ref aMB, .int (nI sg), .int (nI rm), .int (nI mdg), .int (nI mnb), .int (bI mng), .ref aMf, .ref aMt, .ref aMn, .ref aMl, .ref aMu, .ref aMP, .ref aMD, .int (nI lk), .ref aMC, .ref aMO, .int gn, .int gl, .int gg, .ref aMY, .int nn, .int nl, .int nu, .ref aMS, .long hs])), (aML, .inl (cyI, 20, .inl lo)), (aMU, .inl (cyI, 20, .inl up))]) hP hD [0, 1, 2] [3] rfl rfl (by decide) (by decide) hk1 hFc hP1 hD1
          clear hP1 hD1 hK1 hPc hDc hFc hk1 hz1 hvm ht u t
          generalize H1 = H at hP hS ⊢
          have hP : va_P (dC, dI) vwCl [(aMC, .inl (cyI, 12, .inl (fun j_ => nI (L j_)))), (aM, .inr (7, [.int th, .int (nI n), .int (nI cnt), .ref aMF, .ref aMT, .ref aMN, .ref aML, .ref aMU, .int (nI ml), .ref aMB, .int (nI sg), .int (nI rm), .int (nI mdg), .int (nI mnb), .int (bI mng), .ref aMf, .ref aMt, .ref aMn, .ref aMl, .ref aMu, .ref aMP, .ref aMD, .int (nI lk), .ref aMC, .ref aMO, .int gn, .int gl, .int gg, .ref aMY, .int nn, .int nl, .int nu, .ref aMS, .long hs])), (aML, .inl (cyI, 20, .inl lo)), (aMU, .inl (cyI, 20, .inl up))] H := hP
          have hD : va_D A [(aMC, .inl (cyI, 12, .inl (fun j_ => nI (L j_)))), (aM, .inr (7, [.int th, .int (nI n), .int (nI cnt), .ref aMF, .ref aMT, .ref aMN, .ref aML, .ref aMU, .int (nI ml), .ref aMB, .int (nI sg), .int (nI rm), .int (nI mdg), .int (nI mnb), .int (bI mng), .ref aMf, .ref aMt, .ref aMn, .ref aMl, .ref aMu, .ref aMP, .ref aMD, .int (nI lk), .ref aMC, .ref aMO, .int gn, .int gl, .int gg, .ref aMY, .int nn, .int nl, .int nu, .ref aMS, .long hs])), (aML, .inl (cyI, 20, .inl lo)), (aMU, .inl (cyI, 20, .inl up))] := hD
          refine lv_aload_n hx hb dX7_contributorNow_29 rfl (lv_at hl 1 rfl) ?_
          refine lv_iload_n hx hb dX7_contributorNow_30 rfl (lv_at hl 2 rfl) ?_
          refine lv_topi (fun x7 e8 => ?_)
          obtain rfl : x7 = (nI ((mwd L lo up i).toNatClampNeg)) := by rw [e8, hjx]; exact ej
          clear e8
          have g9 : ((mwd L lo up i).toNatClampNeg) < 20 := by omega
          have hPc := hP.sub (ws' := [(aM, .inr (7, [.int th, .int (nI n), .int (nI cnt), .ref aMF, .ref aMT, .ref aMN, .ref aML, .ref aMU, .int (nI ml), .ref aMB, .int (nI sg), .int (nI rm), .int (nI mdg), .int (nI mnb), .int (bI mng), .ref aMf, .ref aMt, .ref aMn, .ref aMl, .ref aMu, .ref aMP, .ref aMD, .int (nI lk), .ref aMC, .ref aMO, .int gn, .int gl, .int gg, .ref aMY, .int nn, .int nl, .int nu, .ref aMS, .long hs])), (aML, .inl (cyI, 20, .inl lo)), (aMU, .inl (cyI, 20, .inl up))]) [1, 2, 3] rfl
          have hDc := hD.sub (ws' := [(aM, .inr (7, [.int th, .int (nI n), .int (nI cnt), .ref aMF, .ref aMT, .ref aMN, .ref aML, .ref aMU, .int (nI ml), .ref aMB, .int (nI sg), .int (nI rm), .int (nI mdg), .int (nI mnb), .int (bI mng), .ref aMf, .ref aMt, .ref aMn, .ref aMl, .ref aMu, .ref aMP, .ref aMD, .int (nI lk), .ref aMC, .ref aMO, .int gn, .int gl, .int gg, .ref aMY, .int nn, .int nl, .int nu, .ref aMS, .long hs])), (aML, .inl (cyI, 20, .inl lo)), (aMU, .inl (cyI, 20, .inl up))]) [1, 2, 3] (by decide) rfl
          have hFc := va_free (wc := [(aM, .inr (7, [.int th, .int (nI n), .int (nI cnt), .ref aMF, .ref aMT, .ref aMN, .ref aML, .ref aMU, .int (nI ml), .ref aMB, .int (nI sg), .int (nI rm), .int (nI mdg), .int (nI mnb), .int (bI mng), .ref aMf, .ref aMt, .ref aMn, .ref aMl, .ref aMu, .ref aMP, .ref aMD, .int (nI lk), .ref aMC, .ref aMO, .int gn, .int gl, .int gg, .ref aMY, .int nn, .int nl, .int nu, .ref aMS, .long hs])), (aML, .inl (cyI, 20, .inl lo)), (aMU, .inl (cyI, 20, .inl up))]) hD hS hA [1, 2, 3] rfl
          refine va_calli (va_runV (As := [.int (nI ((mwd L lo up i).toNatClampNeg))]) (rest := [.int (up (L i) - lo (L i))]) ⟨hx, hb, hml, hown, hts⟩ (c_X7_width l dC dI cyI cyZ cyJ cyD aM aMF aMT aMN aML aMU aMB aMf aMt aMn aMl aMu aMP aMD aMC aMO aMY aMS H.size th n cnt ml sg rm mdg mnb mng lk gn gl gg nn nl nu hs lo up ((mwd L lo up i).toNatClampNeg) g9) (cwV 1 hts gX7_contributorNow_X7_width rfl rfl rfl (by decide +kernel) ⟨Nat.le_of_ble_eq_true rfl, Nat.le_of_ble_eq_true rfl⟩) ⟨fun a U g mk q => by obtain ⟨q0, q1, qP, qK, qD⟩ := q; exact ⟨q0, q1, qP, va_K.moved (u := U) (U := U.calling g mk a) (Vm.Alike.refl U.vm) qK, qD⟩, va_recv hK hPc (ci := 7) (q0 := 0) rfl rfl, fun U hU hW => ⟨rfl, by rw [hU], by rw [hU]; exact hPc, va_K.moved hW.alike hK, hDc.weaken (fun _ _ _ _ => trivial)⟩⟩ rfl rfl hl.1 rfl (lv_room (Nat.le_of_ble_eq_true rfl)) dX7_contributorNow_31 ⟨Nat.le_of_ble_eq_true rfl, Nat.le_of_ble_eq_true rfl⟩) hS (fun q _ h => hFc q h) hFc (fun r u t H1 locs ht hvm hw hB hz1 hk1 hS => ?_)
          obtain rfl := hw
          obtain ⟨hP1, hK1, hD1⟩ := hB
          rw [ht] at hP1
          obtain ⟨hP, hD⟩ := va_join (wr := [(aMC, .inl (cyI, 12, .inl (fun j_ => nI (L j_))))]) (w1 := [(aM, .inr (7, [.int th, .int (nI n), .int (nI cnt), .ref aMF, .ref aMT, .ref aMN, .ref aML, .ref aMU, .int (nI ml), .ref aMB, .int (nI sg), .int (nI rm), .int (nI mdg), .int (nI mnb), .int (bI mng), .ref aMf, .ref aMt, .ref aMn, .ref aMl, .ref aMu, .ref aMP, .ref aMD, .int (nI lk), .ref aMC, .ref aMO, .int gn, .int gl, .int gg, .ref aMY, .int nn, .int nl, .int nu, .ref aMS, .long hs])), (aML, .inl (cyI, 20, .inl lo)), (aMU, .inl (cyI, 20, .inl up))]) hP hD [1, 2, 3] [0] rfl rfl (by decide) (by decide) hk1 hFc hP1 hD1
          clear hP1 hD1 hK1 hPc hDc hFc hk1 hz1 hvm ht u t
          generalize H1 = H at hP hS ⊢
          have hP : va_P (dC, dI) vwCl [(aMC, .inl (cyI, 12, .inl (fun j_ => nI (L j_)))), (aM, .inr (7, [.int th, .int (nI n), .int (nI cnt), .ref aMF, .ref aMT, .ref aMN, .ref aML, .ref aMU, .int (nI ml), .ref aMB, .int (nI sg), .int (nI rm), .int (nI mdg), .int (nI mnb), .int (bI mng), .ref aMf, .ref aMt, .ref aMn, .ref aMl, .ref aMu, .ref aMP, .ref aMD, .int (nI lk), .ref aMC, .ref aMO, .int gn, .int gl, .int gg, .ref aMY, .int nn, .int nl, .int nu, .ref aMS, .long hs])), (aML, .inl (cyI, 20, .inl lo)), (aMU, .inl (cyI, 20, .inl up))] H := hP
          have hD : va_D A [(aMC, .inl (cyI, 12, .inl (fun j_ => nI (L j_)))), (aM, .inr (7, [.int th, .int (nI n), .int (nI cnt), .ref aMF, .ref aMT, .ref aMN, .ref aML, .ref aMU, .int (nI ml), .ref aMB, .int (nI sg), .int (nI rm), .int (nI mdg), .int (nI mnb), .int (bI mng), .ref aMf, .ref aMt, .ref aMn, .ref aMl, .ref aMu, .ref aMP, .ref aMD, .int (nI lk), .ref aMC, .ref aMO, .int gn, .int gl, .int gg, .ref aMY, .int nn, .int nl, .int nu, .ref aMS, .long hs])), (aML, .inl (cyI, 20, .inl lo)), (aMU, .inl (cyI, 20, .inl up))] := hD
          refine lv_icmp_gt (tgt := 55) hx hb dX7_contributorNow_34 (by decide) (fun c34 => ?_) (fun c34 => ?_)
          · have hsw : isw2 lo up (L i) (mwd L lo up i).toNatClampNeg = true := by simp only [isw2]; exact decide_eq_true (Or.inl c34)
            refine lv_iconst (v := 1) hx hb dX7_contributorNow_55 (by decide) ?_
            refine lv_goto (tgt := 60) hx hb dX7_contributorNow_56 (by decide) ?_
            refine lv_istore (lv' := [(4, .int 1), (3, .int (nI (L i))), (0, .ref aM), (1, .int (mwd L lo up i)), (2, .int (nI i))]) hx hb dX7_contributorNow_60 hl (by decide) rfl (fun ls hl => ?_)
            refine lv_iload hx hb dX7_contributorNow_62 (lv_at hl 0 rfl) ?_
            refine lv_if_eq (tgt := 71) hx hb dX7_contributorNow_64 (by decide) (fun c64 => ?_) (fun c64 => ?_)
            · exact absurd c64 (by decide)
            · skip
              refine lv_iload_n hx hb dX7_contributorNow_67 rfl (lv_at hl 1 rfl) ?_
              refine lv_goto (tgt := 72) hx hb dX7_contributorNow_68 (by decide) ?_
              refine lv_istore_n (lv' := [(1, .int (nI (L i))), (4, .int 1), (3, .int (nI (L i))), (0, .ref aM), (2, .int (nI i))]) hx hb dX7_contributorNow_72 rfl hl (by decide) rfl (fun ls hl => ?_)
              refine lv_iinc (v := nI (i + 1)) (lv' := [(2, .int (nI (i + 1))), (1, .int (nI (L i))), (4, .int 1), (3, .int (nI (L i))), (0, .ref aM)]) hx hb dX7_contributorNow_73 hl (k := 4) rfl (nI_add i 1) (by decide) rfl (fun ls hl => ?_)
              refine lv_goto (tgt := 4) hx hb dX7_contributorNow_76 (by decide) ?_
              have q10 : (mwd L lo up (i + 1)) = (nI (L i)) := by simp only [mwd]; first | (rw [if_pos (Or.inl c21)]; done) | (rw [if_pos (Or.inr hsw)]; done) | (rw [if_neg (fun q => q.elim c21 hsw)]; done)
              exact ih4 (i + 1) (by omega) (by first | assumption | omega) _ _ _ (hP.sub [1, 2, 3, 0] rfl) (hD.sub [1, 2, 3, 0] (by decide) rfl) hS (by first | (rw [q10]; exact lv_sub hl [4, 1, 0] rfl) | (simp only [q10]; exact lv_sub hl [4, 1, 0] rfl) | exact lv_sub hl [4, 1, 0] rfl)
          · skip
            refine lv_aload_n hx hb dX7_contributorNow_37 rfl (lv_at hl 1 rfl) ?_
            refine lv_iload_n hx hb dX7_contributorNow_38 rfl (lv_at hl 0 rfl) ?_
            have g11 : (L i) < 20 := by first | assumption | omega | exact vp_in_nI (by omega) (by omega)
            have hPc := hP.sub (ws' := [(aM, .inr (7, [.int th, .int (nI n), .int (nI cnt), .ref aMF, .ref aMT, .ref aMN, .ref aML, .ref aMU, .int (nI ml), .ref aMB, .int (nI sg), .int (nI rm), .int (nI mdg), .int (nI mnb), .int (bI mng), .ref aMf, .ref aMt, .ref aMn, .ref aMl, .ref aMu, .ref aMP, .ref aMD, .int (nI lk), .ref aMC, .ref aMO, .int gn, .int gl, .int gg, .ref aMY, .int nn, .int nl, .int nu, .ref aMS, .long hs])), (aML, .inl (cyI, 20, .inl lo)), (aMU, .inl (cyI, 20, .inl up))]) [1, 2, 3] rfl
            have hDc := hD.sub (ws' := [(aM, .inr (7, [.int th, .int (nI n), .int (nI cnt), .ref aMF, .ref aMT, .ref aMN, .ref aML, .ref aMU, .int (nI ml), .ref aMB, .int (nI sg), .int (nI rm), .int (nI mdg), .int (nI mnb), .int (bI mng), .ref aMf, .ref aMt, .ref aMn, .ref aMl, .ref aMu, .ref aMP, .ref aMD, .int (nI lk), .ref aMC, .ref aMO, .int gn, .int gl, .int gg, .ref aMY, .int nn, .int nl, .int nu, .ref aMS, .long hs])), (aML, .inl (cyI, 20, .inl lo)), (aMU, .inl (cyI, 20, .inl up))]) [1, 2, 3] (by decide) rfl
            have hFc := va_free (wc := [(aM, .inr (7, [.int th, .int (nI n), .int (nI cnt), .ref aMF, .ref aMT, .ref aMN, .ref aML, .ref aMU, .int (nI ml), .ref aMB, .int (nI sg), .int (nI rm), .int (nI mdg), .int (nI mnb), .int (bI mng), .ref aMf, .ref aMt, .ref aMn, .ref aMl, .ref aMu, .ref aMP, .ref aMD, .int (nI lk), .ref aMC, .ref aMO, .int gn, .int gl, .int gg, .ref aMY, .int nn, .int nl, .int nu, .ref aMS, .long hs])), (aML, .inl (cyI, 20, .inl lo)), (aMU, .inl (cyI, 20, .inl up))]) hD hS hA [1, 2, 3] rfl
            refine va_calli (va_runV (As := [.int (nI (L i))]) (rest := []) ⟨hx, hb, hml, hown, hts⟩ (c_X7_width l dC dI cyI cyZ cyJ cyD aM aMF aMT aMN aML aMU aMB aMf aMt aMn aMl aMu aMP aMD aMC aMO aMY aMS H.size th n cnt ml sg rm mdg mnb mng lk gn gl gg nn nl nu hs lo up (L i) g11) (cwV 1 hts gX7_contributorNow_X7_width rfl rfl rfl (by decide +kernel) ⟨Nat.le_of_ble_eq_true rfl, Nat.le_of_ble_eq_true rfl⟩) ⟨fun a U g mk q => by obtain ⟨q0, q1, qP, qK, qD⟩ := q; exact ⟨q0, q1, qP, va_K.moved (u := U) (U := U.calling g mk a) (Vm.Alike.refl U.vm) qK, qD⟩, va_recv hK hPc (ci := 7) (q0 := 0) rfl rfl, fun U hU hW => ⟨rfl, by rw [hU], by rw [hU]; exact hPc, va_K.moved hW.alike hK, hDc.weaken (fun _ _ _ _ => trivial)⟩⟩ rfl rfl hl.1 rfl (lv_room (Nat.le_of_ble_eq_true rfl)) dX7_contributorNow_39 ⟨Nat.le_of_ble_eq_true rfl, Nat.le_of_ble_eq_true rfl⟩) hS (fun q _ h => hFc q h) hFc (fun r u t H1 locs ht hvm hw hB hz1 hk1 hS => ?_)
            obtain rfl := hw
            obtain ⟨hP1, hK1, hD1⟩ := hB
            rw [ht] at hP1
            obtain ⟨hP, hD⟩ := va_join (wr := [(aMC, .inl (cyI, 12, .inl (fun j_ => nI (L j_))))]) (w1 := [(aM, .inr (7, [.int th, .int (nI n), .int (nI cnt), .ref aMF, .ref aMT, .ref aMN, .ref aML, .ref aMU, .int (nI ml), .ref aMB, .int (nI sg), .int (nI rm), .int (nI mdg), .int (nI mnb), .int (bI mng), .ref aMf, .ref aMt, .ref aMn, .ref aMl, .ref aMu, .ref aMP, .ref aMD, .int (nI lk), .ref aMC, .ref aMO, .int gn, .int gl, .int gg, .ref aMY, .int nn, .int nl, .int nu, .ref aMS, .long hs])), (aML, .inl (cyI, 20, .inl lo)), (aMU, .inl (cyI, 20, .inl up))]) hP hD [1, 2, 3] [0] rfl rfl (by decide) (by decide) hk1 hFc hP1 hD1
            clear hP1 hD1 hK1 hPc hDc hFc hk1 hz1 hvm ht u t
            generalize H1 = H at hP hS ⊢
            have hP : va_P (dC, dI) vwCl [(aMC, .inl (cyI, 12, .inl (fun j_ => nI (L j_)))), (aM, .inr (7, [.int th, .int (nI n), .int (nI cnt), .ref aMF, .ref aMT, .ref aMN, .ref aML, .ref aMU, .int (nI ml), .ref aMB, .int (nI sg), .int (nI rm), .int (nI mdg), .int (nI mnb), .int (bI mng), .ref aMf, .ref aMt, .ref aMn, .ref aMl, .ref aMu, .ref aMP, .ref aMD, .int (nI lk), .ref aMC, .ref aMO, .int gn, .int gl, .int gg, .ref aMY, .int nn, .int nl, .int nu, .ref aMS, .long hs])), (aML, .inl (cyI, 20, .inl lo)), (aMU, .inl (cyI, 20, .inl up))] H := hP
            have hD : va_D A [(aMC, .inl (cyI, 12, .inl (fun j_ => nI (L j_)))), (aM, .inr (7, [.int th, .int (nI n), .int (nI cnt), .ref aMF, .ref aMT, .ref aMN, .ref aML, .ref aMU, .int (nI ml), .ref aMB, .int (nI sg), .int (nI rm), .int (nI mdg), .int (nI mnb), .int (bI mng), .ref aMf, .ref aMt, .ref aMn, .ref aMl, .ref aMu, .ref aMP, .ref aMD, .int (nI lk), .ref aMC, .ref aMO, .int gn, .int gl, .int gg, .ref aMY, .int nn, .int nl, .int nu, .ref aMS, .long hs])), (aML, .inl (cyI, 20, .inl lo)), (aMU, .inl (cyI, 20, .inl up))] := hD
            refine lv_aload_n hx hb dX7_contributorNow_42 rfl (lv_at hl 1 rfl) ?_
            refine lv_iload_n hx hb dX7_contributorNow_43 rfl (lv_at hl 2 rfl) ?_
            refine lv_topi (fun x12 e13 => ?_)
            obtain rfl : x12 = (nI ((mwd L lo up i).toNatClampNeg)) := by rw [e13, hjx]; exact ej
            clear e13
            have g14 : ((mwd L lo up i).toNatClampNeg) < 20 := by omega
            have hPc := hP.sub (ws' := [(aM, .inr (7, [.int th, .int (nI n), .int (nI cnt), .ref aMF, .ref aMT, .ref aMN, .ref aML, .ref aMU, .int (nI ml), .ref aMB, .int (nI sg), .int (nI rm), .int (nI mdg), .int (nI mnb), .int (bI mng), .ref aMf, .ref aMt, .ref aMn, .ref aMl, .ref aMu, .ref aMP, .ref aMD, .int (nI lk), .ref aMC, .ref aMO, .int gn, .int gl, .int gg, .ref aMY, .int nn, .int nl, .int nu, .ref aMS, .long hs])), (aML, .inl (cyI, 20, .inl lo)), (aMU, .inl (cyI, 20, .inl up))]) [1, 2, 3] rfl
            have hDc := hD.sub (ws' := [(aM, .inr (7, [.int th, .int (nI n), .int (nI cnt), .ref aMF, .ref aMT, .ref aMN, .ref aML, .ref aMU, .int (nI ml), .ref aMB, .int (nI sg), .int (nI rm), .int (nI mdg), .int (nI mnb), .int (bI mng), .ref aMf, .ref aMt, .ref aMn, .ref aMl, .ref aMu, .ref aMP, .ref aMD, .int (nI lk), .ref aMC, .ref aMO, .int gn, .int gl, .int gg, .ref aMY, .int nn, .int nl, .int nu, .ref aMS, .long hs])), (aML, .inl (cyI, 20, .inl lo)), (aMU, .inl (cyI, 20, .inl up))]) [1, 2, 3] (by decide) rfl
            have hFc := va_free (wc := [(aM, .inr (7, [.int th, .int (nI n), .int (nI cnt), .ref aMF, .ref aMT, .ref aMN, .ref aML, .ref aMU, .int (nI ml), .ref aMB, .int (nI sg), .int (nI rm), .int (nI mdg), .int (nI mnb), .int (bI mng), .ref aMf, .ref aMt, .ref aMn, .ref aMl, .ref aMu, .ref aMP, .ref aMD, .int (nI lk), .ref aMC, .ref aMO, .int gn, .int gl, .int gg, .ref aMY, .int nn, .int nl, .int nu, .ref aMS, .long hs])), (aML, .inl (cyI, 20, .inl lo)), (aMU, .inl (cyI, 20, .inl up))]) hD hS hA [1, 2, 3] rfl
            refine va_calli (va_runV (As := [.int (nI ((mwd L lo up i).toNatClampNeg))]) (rest := [.int (up (L i) - lo (L i))]) ⟨hx, hb, hml, hown, hts⟩ (c_X7_width l dC dI cyI cyZ cyJ cyD aM aMF aMT aMN aML aMU aMB aMf aMt aMn aMl aMu aMP aMD aMC aMO aMY aMS H.size th n cnt ml sg rm mdg mnb mng lk gn gl gg nn nl nu hs lo up ((mwd L lo up i).toNatClampNeg) g14) (cwV 1 hts gX7_contributorNow_X7_width rfl rfl rfl (by decide +kernel) ⟨Nat.le_of_ble_eq_true rfl, Nat.le_of_ble_eq_true rfl⟩) ⟨fun a U g mk q => by obtain ⟨q0, q1, qP, qK, qD⟩ := q; exact ⟨q0, q1, qP, va_K.moved (u := U) (U := U.calling g mk a) (Vm.Alike.refl U.vm) qK, qD⟩, va_recv hK hPc (ci := 7) (q0 := 0) rfl rfl, fun U hU hW => ⟨rfl, by rw [hU], by rw [hU]; exact hPc, va_K.moved hW.alike hK, hDc.weaken (fun _ _ _ _ => trivial)⟩⟩ rfl rfl hl.1 rfl (lv_room (Nat.le_of_ble_eq_true rfl)) dX7_contributorNow_44 ⟨Nat.le_of_ble_eq_true rfl, Nat.le_of_ble_eq_true rfl⟩) hS (fun q _ h => hFc q h) hFc (fun r u t H1 locs ht hvm hw hB hz1 hk1 hS => ?_)
            obtain rfl := hw
            obtain ⟨hP1, hK1, hD1⟩ := hB
            rw [ht] at hP1
            obtain ⟨hP, hD⟩ := va_join (wr := [(aMC, .inl (cyI, 12, .inl (fun j_ => nI (L j_))))]) (w1 := [(aM, .inr (7, [.int th, .int (nI n), .int (nI cnt), .ref aMF, .ref aMT, .ref aMN, .ref aML, .ref aMU, .int (nI ml), .ref aMB, .int (nI sg), .int (nI rm), .int (nI mdg), .int (nI mnb), .int (bI mng), .ref aMf, .ref aMt, .ref aMn, .ref aMl, .ref aMu, .ref aMP, .ref aMD, .int (nI lk), .ref aMC, .ref aMO, .int gn, .int gl, .int gg, .ref aMY, .int nn, .int nl, .int nu, .ref aMS, .long hs])), (aML, .inl (cyI, 20, .inl lo)), (aMU, .inl (cyI, 20, .inl up))]) hP hD [1, 2, 3] [0] rfl rfl (by decide) (by decide) hk1 hFc hP1 hD1
            clear hP1 hD1 hK1 hPc hDc hFc hk1 hz1 hvm ht u t
            generalize H1 = H at hP hS ⊢
            have hP : va_P (dC, dI) vwCl [(aMC, .inl (cyI, 12, .inl (fun j_ => nI (L j_)))), (aM, .inr (7, [.int th, .int (nI n), .int (nI cnt), .ref aMF, .ref aMT, .ref aMN, .ref aML, .ref aMU, .int (nI ml), .ref aMB, .int (nI sg), .int (nI rm), .int (nI mdg), .int (nI mnb), .int (bI mng), .ref aMf, .ref aMt, .ref aMn, .ref aMl, .ref aMu, .ref aMP, .ref aMD, .int (nI lk), .ref aMC, .ref aMO, .int gn, .int gl, .int gg, .ref aMY, .int nn, .int nl, .int nu, .ref aMS, .long hs])), (aML, .inl (cyI, 20, .inl lo)), (aMU, .inl (cyI, 20, .inl up))] H := hP
            have hD : va_D A [(aMC, .inl (cyI, 12, .inl (fun j_ => nI (L j_)))), (aM, .inr (7, [.int th, .int (nI n), .int (nI cnt), .ref aMF, .ref aMT, .ref aMN, .ref aML, .ref aMU, .int (nI ml), .ref aMB, .int (nI sg), .int (nI rm), .int (nI mdg), .int (nI mnb), .int (bI mng), .ref aMf, .ref aMt, .ref aMn, .ref aMl, .ref aMu, .ref aMP, .ref aMD, .int (nI lk), .ref aMC, .ref aMO, .int gn, .int gl, .int gg, .ref aMY, .int nn, .int nl, .int nu, .ref aMS, .long hs])), (aML, .inl (cyI, 20, .inl lo)), (aMU, .inl (cyI, 20, .inl up))] := hD
            refine lv_icmp_ne (tgt := 59) hx hb dX7_contributorNow_47 (by decide) (fun c47 => ?_) (fun c47 => ?_)
            · have hsw : ¬ isw2 lo up (L i) (mwd L lo up i).toNatClampNeg = true := by simp only [isw2]; intro q; exact (of_decide_eq_true q).elim c34 (fun z => c47 z.1)
              refine lv_iconst (v := 0) hx hb dX7_contributorNow_59 (by decide) ?_
              refine lv_istore (lv' := [(4, .int 0), (3, .int (nI (L i))), (0, .ref aM), (1, .int (mwd L lo up i)), (2, .int (nI i))]) hx hb dX7_contributorNow_60 hl (by decide) rfl (fun ls hl => ?_)
              refine lv_iload hx hb dX7_contributorNow_62 (lv_at hl 0 rfl) ?_
              refine lv_if_eq (tgt := 71) hx hb dX7_contributorNow_64 (by decide) (fun c64 => ?_) (fun c64 => ?_)
              · skip
                refine lv_iload_n hx hb dX7_contributorNow_71 rfl (lv_at hl 3 rfl) ?_
                refine lv_istore_n (lv' := [(1, .int (mwd L lo up i)), (4, .int 0), (3, .int (nI (L i))), (0, .ref aM), (2, .int (nI i))]) hx hb dX7_contributorNow_72 rfl hl (by decide) rfl (fun ls hl => ?_)
                refine lv_iinc (v := nI (i + 1)) (lv' := [(2, .int (nI (i + 1))), (1, .int (mwd L lo up i)), (4, .int 0), (3, .int (nI (L i))), (0, .ref aM)]) hx hb dX7_contributorNow_73 hl (k := 4) rfl (nI_add i 1) (by decide) rfl (fun ls hl => ?_)
                refine lv_goto (tgt := 4) hx hb dX7_contributorNow_76 (by decide) ?_
                have q15 : (mwd L lo up (i + 1)) = (mwd L lo up i) := by simp only [mwd]; first | (rw [if_pos (Or.inl c21)]; done) | (rw [if_pos (Or.inr hsw)]; done) | (rw [if_neg (fun q => q.elim c21 hsw)]; done)
                exact ih4 (i + 1) (by omega) (by first | assumption | omega) _ _ _ (hP.sub [1, 2, 3, 0] rfl) (hD.sub [1, 2, 3, 0] (by decide) rfl) hS (by first | (rw [q15]; exact lv_sub hl [4, 1, 0] rfl) | (simp only [q15]; exact lv_sub hl [4, 1, 0] rfl) | exact lv_sub hl [4, 1, 0] rfl)
              · exact absurd c64 (by decide)
            · skip
              refine lv_iload_n hx hb dX7_contributorNow_50 rfl (lv_at hl 0 rfl) ?_
              refine lv_iload_n hx hb dX7_contributorNow_51 rfl (lv_at hl 2 rfl) ?_
              refine lv_topi (fun x16 e17 => ?_)
              obtain rfl : x16 = (nI ((mwd L lo up i).toNatClampNeg)) := by rw [e17, hjx]; exact ej
              clear e17
              refine lv_icmp_ge (tgt := 59) hx hb dX7_contributorNow_52 (by decide) (fun c52 => ?_) (fun c52 => ?_)
              · have c52 := n_le (a := (mwd L lo up i).toNatClampNeg) (b := L i) (by omega) (by omega) c52
                have hsw : ¬ isw2 lo up (L i) (mwd L lo up i).toNatClampNeg = true := by simp only [isw2]; intro q; exact (of_decide_eq_true q).elim c34 (fun z => absurd z.2 (by omega))
                refine lv_iconst (v := 0) hx hb dX7_contributorNow_59 (by decide) ?_
                refine lv_istore (lv' := [(4, .int 0), (3, .int (nI (L i))), (0, .ref aM), (1, .int (mwd L lo up i)), (2, .int (nI i))]) hx hb dX7_contributorNow_60 hl (by decide) rfl (fun ls hl => ?_)
                refine lv_iload hx hb dX7_contributorNow_62 (lv_at hl 0 rfl) ?_
                refine lv_if_eq (tgt := 71) hx hb dX7_contributorNow_64 (by decide) (fun c64 => ?_) (fun c64 => ?_)
                · skip
                  refine lv_iload_n hx hb dX7_contributorNow_71 rfl (lv_at hl 3 rfl) ?_
                  refine lv_istore_n (lv' := [(1, .int (mwd L lo up i)), (4, .int 0), (3, .int (nI (L i))), (0, .ref aM), (2, .int (nI i))]) hx hb dX7_contributorNow_72 rfl hl (by decide) rfl (fun ls hl => ?_)
                  refine lv_iinc (v := nI (i + 1)) (lv' := [(2, .int (nI (i + 1))), (1, .int (mwd L lo up i)), (4, .int 0), (3, .int (nI (L i))), (0, .ref aM)]) hx hb dX7_contributorNow_73 hl (k := 4) rfl (nI_add i 1) (by decide) rfl (fun ls hl => ?_)
                  refine lv_goto (tgt := 4) hx hb dX7_contributorNow_76 (by decide) ?_
                  have q18 : (mwd L lo up (i + 1)) = (mwd L lo up i) := by simp only [mwd]; first | (rw [if_pos (Or.inl c21)]; done) | (rw [if_pos (Or.inr hsw)]; done) | (rw [if_neg (fun q => q.elim c21 hsw)]; done)
                  exact ih4 (i + 1) (by omega) (by first | assumption | omega) _ _ _ (hP.sub [1, 2, 3, 0] rfl) (hD.sub [1, 2, 3, 0] (by decide) rfl) hS (by first | (rw [q18]; exact lv_sub hl [4, 1, 0] rfl) | (simp only [q18]; exact lv_sub hl [4, 1, 0] rfl) | exact lv_sub hl [4, 1, 0] rfl)
                · exact absurd c64 (by decide)
              · have c52 := n_nle (a := (mwd L lo up i).toNatClampNeg) (b := L i) (by omega) (by omega) c52
                have hsw : isw2 lo up (L i) (mwd L lo up i).toNatClampNeg = true := by simp only [isw2]; exact decide_eq_true (Or.inr ⟨c47, by omega⟩)
                refine lv_iconst (v := 1) hx hb dX7_contributorNow_55 (by decide) ?_
                refine lv_goto (tgt := 60) hx hb dX7_contributorNow_56 (by decide) ?_
                refine lv_istore (lv' := [(4, .int 1), (3, .int (nI (L i))), (0, .ref aM), (1, .int (mwd L lo up i)), (2, .int (nI i))]) hx hb dX7_contributorNow_60 hl (by decide) rfl (fun ls hl => ?_)
                refine lv_iload hx hb dX7_contributorNow_62 (lv_at hl 0 rfl) ?_
                refine lv_if_eq (tgt := 71) hx hb dX7_contributorNow_64 (by decide) (fun c64 => ?_) (fun c64 => ?_)
                · exact absurd c64 (by decide)
                · skip
                  refine lv_iload_n hx hb dX7_contributorNow_67 rfl (lv_at hl 1 rfl) ?_
                  refine lv_goto (tgt := 72) hx hb dX7_contributorNow_68 (by decide) ?_
                  refine lv_istore_n (lv' := [(1, .int (nI (L i))), (4, .int 1), (3, .int (nI (L i))), (0, .ref aM), (2, .int (nI i))]) hx hb dX7_contributorNow_72 rfl hl (by decide) rfl (fun ls hl => ?_)
                  refine lv_iinc (v := nI (i + 1)) (lv' := [(2, .int (nI (i + 1))), (1, .int (nI (L i))), (4, .int 1), (3, .int (nI (L i))), (0, .ref aM)]) hx hb dX7_contributorNow_73 hl (k := 4) rfl (nI_add i 1) (by decide) rfl (fun ls hl => ?_)
                  refine lv_goto (tgt := 4) hx hb dX7_contributorNow_76 (by decide) ?_
                  have q19 : (mwd L lo up (i + 1)) = (nI (L i)) := by simp only [mwd]; first | (rw [if_pos (Or.inl c21)]; done) | (rw [if_pos (Or.inr hsw)]; done) | (rw [if_neg (fun q => q.elim c21 hsw)]; done)
                  exact ih4 (i + 1) (by omega) (by first | assumption | omega) _ _ _ (hP.sub [1, 2, 3, 0] rfl) (hD.sub [1, 2, 3, 0] (by decide) rfl) hS (by first | (rw [q19]; exact lv_sub hl [4, 1, 0] rfl) | (simp only [q19]; exact lv_sub hl [4, 1, 0] rfl) | exact lv_sub hl [4, 1, 0] rfl)
  have q20 : (mwd L lo up 0) = (-1) := by rfl
  have q21 : (nI 0) = 0 := by first | rfl | simp [*] | (simp only [*]; done)
  exact k4 (lk - 0 + 1) 0 (Nat.lt_succ_self _) (by first | assumption | omega) _ _ _ (hP) (hD) hS (by first | (rw [q20, q21]; exact lv_sub hl [2, 1, 0] rfl) | (simp only [q20, q21]; exact lv_sub hl [2, 1, 0] rfl) | exact lv_sub hl [2, 1, 0] rfl)
set_option maxHeartbeats 4000000 in
set_option maxRecDepth 100000 in
theorem c_X7_isInChain (l : Launch) (dC : Nat → ClassId) (dI : Nat → Nat → Nat) (cyI cyZ cyJ cyD : ClassId) (aM aMF aMT aMN aML aMU aMB aMf aMt aMn aMl aMu aMP aMD aMC aMO aMY aMS : Nat) (zH : Nat) (th : Int32) (n : Nat) (cnt : Nat) (ml : Nat) (sg : Nat) (rm : Nat) (mdg : Nat) (mnb : Nat) (mng : Bool) (lk : Nat) (gn : Int32) (gl : Int32) (gg : Int32) (nn : Int32) (nl : Int32) (nu : Int32) (hs : Int64) (L : Nat → Nat) (x : Nat) (hlk : lk ≤ 12) (hL0 : ∀ k_q, k_q < lk → L k_q < 20) (hx0 : x < 20) : Met l yX7_isInChain wsX7_isInChain ({ frames := 0, cells := 0, slots := 0, locals := 0 } : Room) (va_Pc [.ref aM, .int (nI x)] (fun U => U.heap.size = zH ∧ va_P (dC, dI) vwCl [(aM, .inr (7, [.int th, .int (nI n), .int (nI cnt), .ref aMF, .ref aMT, .ref aMN, .ref aML, .ref aMU, .int (nI ml), .ref aMB, .int (nI sg), .int (nI rm), .int (nI mdg), .int (nI mnb), .int (bI mng), .ref aMf, .ref aMt, .ref aMn, .ref aMl, .ref aMu, .ref aMP, .ref aMD, .int (nI lk), .ref aMC, .ref aMO, .int gn, .int gl, .int gg, .ref aMY, .int nn, .int nl, .int nu, .ref aMS, .long hs])), (aMC, .inl (cyI, 12, .inl (fun j_ => nI (L j_))))] U.heap ∧ va_K (dC, dI) vwCl [(cyI, .int), (cyZ, .boolean), (cyJ, .long), (cyD, .double)] U ∧ va_D (fun _ => True) [(aM, .inr (7, [.int th, .int (nI n), .int (nI cnt), .ref aMF, .ref aMT, .ref aMN, .ref aML, .ref aMU, .int (nI ml), .ref aMB, .int (nI sg), .int (nI rm), .int (nI mdg), .int (nI mnb), .int (bI mng), .ref aMf, .ref aMt, .ref aMn, .ref aMl, .ref aMu, .ref aMP, .ref aMD, .int (nI lk), .ref aMC, .ref aMO, .int gn, .int gl, .int gg, .ref aMY, .int nn, .int nl, .int nu, .ref aMS, .long hs])), (aMC, .inl (cyI, 12, .inl (fun j_ => nI (L j_))))])) (va_Qi (fun (r : Int32) (_ : Unit) => r = bI (hld L x lk)) (fun _ t => va_P (dC, dI) vwCl [(aM, .inr (7, [.int th, .int (nI n), .int (nI cnt), .ref aMF, .ref aMT, .ref aMN, .ref aML, .ref aMU, .int (nI ml), .ref aMB, .int (nI sg), .int (nI rm), .int (nI mdg), .int (nI mnb), .int (bI mng), .ref aMf, .ref aMt, .ref aMn, .ref aMl, .ref aMu, .ref aMP, .ref aMD, .int (nI lk), .ref aMC, .ref aMO, .int gn, .int gl, .int gg, .ref aMY, .int nn, .int nl, .int nu, .ref aMS, .long hs])), (aMC, .inl (cyI, 12, .inl (fun j_ => nI (L j_))))] t.heap ∧ va_K (dC, dI) vwCl [(cyI, .int), (cyZ, .boolean), (cyJ, .long), (cyD, .double)] t ∧ va_D (va_A [(aM, .inr (7, [.int th, .int (nI n), .int (nI cnt), .ref aMF, .ref aMT, .ref aMN, .ref aML, .ref aMU, .int (nI ml), .ref aMB, .int (nI sg), .int (nI rm), .int (nI mdg), .int (nI mnb), .int (bI mng), .ref aMf, .ref aMt, .ref aMn, .ref aMl, .ref aMu, .ref aMP, .ref aMD, .int (nI lk), .ref aMC, .ref aMO, .int gn, .int gl, .int gg, .ref aMY, .int nn, .int nl, .int nu, .ref aMS, .long hs])), (aMC, .inl (cyI, 12, .inl (fun j_ => nI (L j_))))] zH) [(aM, .inr (7, [.int th, .int (nI n), .int (nI cnt), .ref aMF, .ref aMT, .ref aMN, .ref aML, .ref aMU, .int (nI ml), .ref aMB, .int (nI sg), .int (nI rm), .int (nI mdg), .int (nI mnb), .int (bI mng), .ref aMf, .ref aMt, .ref aMn, .ref aMl, .ref aMu, .ref aMP, .ref aMD, .int (nI lk), .ref aMC, .ref aMO, .int gn, .int gl, .int gg, .ref aMY, .int nn, .int nl, .int nu, .ref aMS, .long hs])), (aMC, .inl (cyI, 12, .inl (fun j_ => nI (L j_))))]) (va_A [(aM, .inr (7, [.int th, .int (nI n), .int (nI cnt), .ref aMF, .ref aMT, .ref aMN, .ref aML, .ref aMU, .int (nI ml), .ref aMB, .int (nI sg), .int (nI rm), .int (nI mdg), .int (nI mnb), .int (bI mng), .ref aMf, .ref aMt, .ref aMn, .ref aMl, .ref aMu, .ref aMP, .ref aMD, .int (nI lk), .ref aMC, .ref aMO, .int gn, .int gl, .int gg, .ref aMY, .int nn, .int nl, .int nu, .ref aMS, .long hs])), (aMC, .inl (cyI, 12, .inl (fun j_ => nI (L j_))))] zH)) 0 0 (va_A [(aM, .inr (7, [.int th, .int (nI n), .int (nI cnt), .ref aMF, .ref aMT, .ref aMN, .ref aML, .ref aMU, .int (nI ml), .ref aMB, .int (nI sg), .int (nI rm), .int (nI mdg), .int (nI mnb), .int (bI mng), .ref aMf, .ref aMt, .ref aMn, .ref aMl, .ref aMu, .ref aMP, .ref aMD, .int (nI lk), .ref aMC, .ref aMO, .int gn, .int gl, .int gg, .ref aMY, .int nn, .int nl, .int nu, .ref aMS, .long hs])), (aMC, .inl (cyI, 12, .inl (fun j_ => nI (L j_))))] zH) := by
  refine Met.ofW (cc := cX7_isInChain) (maxL := 4) (ret := (some .boolean)) (by decide) rfl ?_
  intro pM eM s mM args blM mtM cM s₁ BM hml hv
  obtain ⟨rfl, hsz, hP, hK, hD0⟩ := hv
  have hx := BM.exec
  have hb := BM.bytes
  have hr := BM.returns
  have hts := atoms_spec (ws := wsX7_isInChain) BM.pre
  have hown : s.vm.findClass RX7 = some mM.cls := findClass_of_methodNamed BM.named
  have hlocks := BM.notSynchronized
  have w0 := hts (.fieldLink RX7 159 "DimensionCheckerModel" "links" "I") (by decide +kernel)
  have w1 := hts (.fieldLink RX7 54 "DimensionCheckerModel" "chain" "[I") (by decide +kernel)
  have iX7 : ∀ w ∈ wsX70, w ∈ wsX7_isInChain := by decide +kernel
  subst hsz
  have hD := hD0.self (sz := s.heap.size)
  obtain ⟨Q, hQe⟩ : ∃ Q : State → Prop, Q = MQ blM (va_Qi (fun (r : Int32) (_ : Unit) => r = bI (hld L x lk)) (fun _ t => va_P (dC, dI) vwCl [(aM, .inr (7, [.int th, .int (nI n), .int (nI cnt), .ref aMF, .ref aMT, .ref aMN, .ref aML, .ref aMU, .int (nI ml), .ref aMB, .int (nI sg), .int (nI rm), .int (nI mdg), .int (nI mnb), .int (bI mng), .ref aMf, .ref aMt, .ref aMn, .ref aMl, .ref aMu, .ref aMP, .ref aMD, .int (nI lk), .ref aMC, .ref aMO, .int gn, .int gl, .int gg, .ref aMY, .int nn, .int nl, .int nu, .ref aMS, .long hs])), (aMC, .inl (cyI, 12, .inl (fun j_ => nI (L j_))))] t.heap ∧ va_K (dC, dI) vwCl [(cyI, .int), (cyZ, .boolean), (cyJ, .long), (cyD, .double)] t ∧ va_D (va_A [(aM, .inr (7, [.int th, .int (nI n), .int (nI cnt), .ref aMF, .ref aMT, .ref aMN, .ref aML, .ref aMU, .int (nI ml), .ref aMB, .int (nI sg), .int (nI rm), .int (nI mdg), .int (nI mnb), .int (bI mng), .ref aMf, .ref aMt, .ref aMn, .ref aMl, .ref aMu, .ref aMP, .ref aMD, .int (nI lk), .ref aMC, .ref aMO, .int gn, .int gl, .int gg, .ref aMY, .int nn, .int nl, .int nu, .ref aMS, .long hs])), (aMC, .inl (cyI, 12, .inl (fun j_ => nI (L j_))))] s.heap.size) [(aM, .inr (7, [.int th, .int (nI n), .int (nI cnt), .ref aMF, .ref aMT, .ref aMN, .ref aML, .ref aMU, .int (nI ml), .ref aMB, .int (nI sg), .int (nI rm), .int (nI mdg), .int (nI mnb), .int (bI mng), .ref aMf, .ref aMt, .ref aMn, .ref aMl, .ref aMu, .ref aMP, .ref aMD, .int (nI lk), .ref aMC, .ref aMO, .int gn, .int gl, .int gg, .ref aMY, .int nn, .int nl, .int nu, .ref aMS, .long hs])), (aMC, .inl (cyI, 12, .inl (fun j_ => nI (L j_))))]) (va_A [(aM, .inr (7, [.int th, .int (nI n), .int (nI cnt), .ref aMF, .ref aMT, .ref aMN, .ref aML, .ref aMU, .int (nI ml), .ref aMB, .int (nI sg), .int (nI rm), .int (nI mdg), .int (nI mnb), .int (bI mng), .ref aMf, .ref aMt, .ref aMn, .ref aMl, .ref aMu, .ref aMP, .ref aMD, .int (nI lk), .ref aMC, .ref aMO, .int gn, .int gl, .int gg, .ref aMY, .int nn, .int nl, .int nu, .ref aMS, .long hs])), (aMC, .inl (cyI, 12, .inl (fun j_ => nI (L j_))))] s.heap.size)) ([.ref aM, .int (nI x)] : List Value).toArray s 0 0 (va_A [(aM, .inr (7, [.int th, .int (nI n), .int (nI cnt), .ref aMF, .ref aMT, .ref aMN, .ref aML, .ref aMU, .int (nI ml), .ref aMB, .int (nI sg), .int (nI rm), .int (nI mdg), .int (nI mnb), .int (bI mng), .ref aMf, .ref aMt, .ref aMn, .ref aMl, .ref aMu, .ref aMP, .ref aMD, .int (nI lk), .ref aMC, .ref aMO, .int gn, .int gl, .int gg, .ref aMY, .int nn, .int nl, .int nu, .ref aMS, .long hs])), (aMC, .inl (cyI, 12, .inl (fun j_ => nI (L j_))))] s.heap.size) := ⟨_, rfl⟩
  rw [← hQe]
  generalize hAe : va_A [(aM, .inr (7, [.int th, .int (nI n), .int (nI cnt), .ref aMF, .ref aMT, .ref aMN, .ref aML, .ref aMU, .int (nI ml), .ref aMB, .int (nI sg), .int (nI rm), .int (nI mdg), .int (nI mnb), .int (bI mng), .ref aMf, .ref aMt, .ref aMn, .ref aMl, .ref aMu, .ref aMP, .ref aMD, .int (nI lk), .ref aMC, .ref aMO, .int gn, .int gl, .int gg, .ref aMY, .int nn, .int nl, .int nu, .ref aMS, .long hs])), (aMC, .inl (cyI, 12, .inl (fun j_ => nI (L j_))))] s.heap.size = A at hD hQe
  have hA : ∀ q : Nat, s.heap.size ≤ q → A q := fun q h => by rw [← hAe]; exact Or.inr h
  obtain ⟨H, hHe⟩ : ∃ H : Heap, H = s.heap := ⟨_, rfl⟩
  have hS : va_S A s.heap H [] := by rw [hHe]; exact va_S.rf
  rw [← hHe] at hP ⊢
  have hl := lv_entry ([.ref aM, .int (nI x)]) (n := 4) (Nat.le_of_ble_eq_true rfl)
  rw [lg_entry_eq]
  generalize (lg_sl ([.ref aM, .int (nI x)]) ++ List.replicate (4 - (lg_sl ([.ref aM, .int (nI x)])).length) Slot.unset).toArray = ls at hl ⊢
  have hl : lv_has ls 4 [(0, .ref aM), (1, .int (nI x))] := hl
  refine lv_iconst (v := 0) hx hb dX7_isInChain_0 (by decide) ?_
  refine lv_istore_n (lv' := [(2, .int 0), (0, .ref aM), (1, .int (nI x))]) hx hb dX7_isInChain_1 rfl hl (by decide) rfl (fun ls hl => ?_)
  refine lv_iconst (v := 0) hx hb dX7_isInChain_2 (by decide) ?_
  refine lv_istore_n (lv' := [(3, .int 0), (2, .int 0), (0, .ref aM), (1, .int (nI x))]) hx hb dX7_isInChain_3 rfl hl (by decide) rfl (fun ls hl => ?_)
  have k4 : ∀ (fuel : Nat) (i : Nat) (hfuel : lk - i < fuel) (hi : i ≤ lk) (H : Heap) (locs : List Loc) (ls : Array Slot), va_P (dC, dI) vwCl [(aM, .inr (7, [.int th, .int (nI n), .int (nI cnt), .ref aMF, .ref aMT, .ref aMN, .ref aML, .ref aMU, .int (nI ml), .ref aMB, .int (nI sg), .int (nI rm), .int (nI mdg), .int (nI mnb), .int (bI mng), .ref aMf, .ref aMt, .ref aMn, .ref aMl, .ref aMu, .ref aMP, .ref aMD, .int (nI lk), .ref aMC, .ref aMO, .int gn, .int gl, .int gg, .ref aMY, .int nn, .int nl, .int nu, .ref aMS, .long hs])), (aMC, .inl (cyI, 12, .inl (fun j_ => nI (L j_))))] H → va_D A [(aM, .inr (7, [.int th, .int (nI n), .int (nI cnt), .ref aMF, .ref aMT, .ref aMN, .ref aML, .ref aMU, .int (nI ml), .ref aMB, .int (nI sg), .int (nI rm), .int (nI mdg), .int (nI mnb), .int (bI mng), .ref aMf, .ref aMt, .ref aMn, .ref aMl, .ref aMu, .ref aMP, .ref aMD, .int (nI lk), .ref aMC, .ref aMO, .int gn, .int gl, .int gg, .ref aMY, .int nn, .int nl, .int nu, .ref aMS, .long hs])), (aMC, .inl (cyI, 12, .inl (fun j_ => nI (L j_))))] → va_S A s.heap H locs → lv_has ls 4 [(0, .ref aM), (1, .int (nI x)), (2, .int (bI (hld L x i))), (3, .int (nI i))] → W pM l eM (headSpec wsX7_isInChain ({ frames := 0, cells := 0, slots := 0, locals := 0 } : Room)).room s mM ([.ref aM, .int (nI x)] : List Value).toArray blM mtM cM H locs 0 0 Q (F0 mM 4 ls []) := by
    intro fuel
    induction fuel with
    | zero => intro i hfuel; exact absurd hfuel (Nat.not_lt_zero _)
    | succ fuel ih4 =>
      intro i hfuel hi H locs ls hP hD hS hl
      refine lv_iload_n hx hb dX7_isInChain_4 rfl (lv_at hl 3 rfl) ?_
      refine lv_aload_n hx hb dX7_isInChain_5 rfl (lv_at hl 0 rfl) ?_
      refine va_get (D := (dC, dI)) (ci := 7) (v := .int (nI lk)) (C := RX7) (T := TX7) (N := 34) hx hb hts iX7 hown hK hP 0 rfl rfl 22 (by decide) w0 (fun _ h9 => h9) rfl dX7_isInChain_6 ?_
      refine lv_icmp_ge (tgt := 38) hx hb dX7_isInChain_9 (by decide) (fun c9 => ?_) (fun c9 => ?_)
      · have c9 := n_le (a := lk) (b := i) (by omega) (by omega) c9
        have e9 : i = lk := (by omega)
        refine lv_iload_n hx hb dX7_isInChain_38 rfl (lv_at hl 2 rfl) ?_
        have r1 : (bI (hld L x i)) = (bI (hld L x lk)) := by rw [e9]
        have hP9 : va_P (dC, dI) vwCl [(aM, .inr (7, [.int th, .int (nI n), .int (nI cnt), .ref aMF, .ref aMT, .ref aMN, .ref aML, .ref aMU, .int (nI ml), .ref aMB, .int (nI sg), .int (nI rm), .int (nI mdg), .int (nI mnb), .int (bI mng), .ref aMf, .ref aMt, .ref aMn, .ref aMl, .ref aMu, .ref aMP, .ref aMD, .int (nI lk), .ref aMC, .ref aMO, .int gn, .int gl, .int gg, .ref aMY, .int nn, .int nl, .int nu, .ref aMS, .long hs])), (aMC, .inl (cyI, 12, .inl (fun j_ => nI (L j_))))] H := by exact hP.sub [0, 1] rfl
        have hD9 : va_D A [(aM, .inr (7, [.int th, .int (nI n), .int (nI cnt), .ref aMF, .ref aMT, .ref aMN, .ref aML, .ref aMU, .int (nI ml), .ref aMB, .int (nI sg), .int (nI rm), .int (nI mdg), .int (nI mnb), .int (bI mng), .ref aMf, .ref aMt, .ref aMn, .ref aMl, .ref aMu, .ref aMP, .ref aMD, .int (nI lk), .ref aMC, .ref aMO, .int gn, .int gl, .int gg, .ref aMY, .int nn, .int nl, .int nu, .ref aMS, .long hs])), (aMC, .inl (cyI, 12, .inl (fun j_ => nI (L j_))))] := by exact hD.sub [0, 1] (by decide) rfl
        rw [hQe]
        exact W.zret (v := bI (hld L x i)) hx hb hr (bI_nar _) (fun t ht hW => ⟨⟨_, (), rfl, r1, by rw [ht]; exact hP9, va_K.moved hW.alike hK, hD9⟩, hS.F ht⟩) hS.2.2 dX7_isInChain_39
      · have c9 := n_nle (a := lk) (b := i) (by omega) (by omega) c9
        have hLi := hL0 i c9
        refine lv_iload_n hx hb dX7_isInChain_12 rfl (lv_at hl 2 rfl) ?_
        refine lv_if_ne (tgt := 26) hx hb dX7_isInChain_13 (by decide) (fun c13 => ?_) (fun c13 => ?_)
        · have c13 : (hld L x i) = true := bI_n0 c13
          refine lv_iconst (v := 1) hx hb dX7_isInChain_26 (by decide) ?_
          refine lv_goto (tgt := 31) hx hb dX7_isInChain_27 (by decide) ?_
          refine lv_istore_n (lv' := [(2, .int 1), (0, .ref aM), (1, .int (nI x)), (3, .int (nI i))]) hx hb dX7_isInChain_31 rfl hl (by decide) rfl (fun ls hl => ?_)
          refine lv_iinc (v := nI (i + 1)) (lv' := [(3, .int (nI (i + 1))), (2, .int 1), (0, .ref aM), (1, .int (nI x))]) hx hb dX7_isInChain_32 hl (k := 3) rfl (nI_add i 1) (by decide) rfl (fun ls hl => ?_)
          refine lv_goto (tgt := 4) hx hb dX7_isInChain_35 (by decide) ?_
          have q2 : (bI (hld L x (i + 1))) = 1 := by simp only [hld]; first | (rw [c13]; rfl) | (rw [c13, decide_eq_true c23]; rfl) | (rw [c13, decide_eq_false c23]; rfl)
          exact ih4 (i + 1) (by omega) (by first | assumption | omega) _ _ _ (hP) (hD) hS (by first | (rw [q2]; exact lv_sub hl [2, 3, 1, 0] rfl) | (simp only [q2]; exact lv_sub hl [2, 3, 1, 0] rfl) | exact lv_sub hl [2, 3, 1, 0] rfl)
        · have c13 : (hld L x i) = false := bI_0 c13
          refine lv_aload_n hx hb dX7_isInChain_16 rfl (lv_at hl 0 rfl) ?_
          refine va_get (D := (dC, dI)) (ci := 7) (v := .ref aMC) (C := RX7) (T := TX7) (N := 34) hx hb hts iX7 hown hK hP 0 rfl rfl 23 (by decide) w1 (fun _ h9 => h9) rfl dX7_isInChain_17 ?_
          refine lv_iload_n hx hb dX7_isInChain_20 rfl (lv_at hl 3 rfl) ?_
          have h3 : vp_in (nI i) 12 := by first | exact vp_in_nI (by omega) (by omega) | assumption
          refine va_iald hx hb hK hP 1 0 rfl rfl h3 dX7_isInChain_21 ?_
          refine lv_topi (fun x4 e5 => ?_)
          obtain rfl : x4 = (nI (L i)) := by rw [e5, nI_clamp (by omega)]
          clear e5
          refine lv_iload_n hx hb dX7_isInChain_22 rfl (lv_at hl 1 rfl) ?_
          refine lv_icmp_ne (tgt := 30) hx hb dX7_isInChain_23 (by decide) (fun c23 => ?_) (fun c23 => ?_)
          · have c23 := n_ne (a := L i) (b := x) (by omega) (by omega) c23
            refine lv_iconst (v := 0) hx hb dX7_isInChain_30 (by decide) ?_
            refine lv_istore_n (lv' := [(2, .int 0), (0, .ref aM), (1, .int (nI x)), (3, .int (nI i))]) hx hb dX7_isInChain_31 rfl hl (by decide) rfl (fun ls hl => ?_)
            refine lv_iinc (v := nI (i + 1)) (lv' := [(3, .int (nI (i + 1))), (2, .int 0), (0, .ref aM), (1, .int (nI x))]) hx hb dX7_isInChain_32 hl (k := 3) rfl (nI_add i 1) (by decide) rfl (fun ls hl => ?_)
            refine lv_goto (tgt := 4) hx hb dX7_isInChain_35 (by decide) ?_
            have q6 : (bI (hld L x (i + 1))) = 0 := by simp only [hld]; first | (rw [c13]; rfl) | (rw [c13, decide_eq_true c23]; rfl) | (rw [c13, decide_eq_false c23]; rfl)
            exact ih4 (i + 1) (by omega) (by first | assumption | omega) _ _ _ (hP) (hD) hS (by first | (rw [q6]; exact lv_sub hl [2, 3, 1, 0] rfl) | (simp only [q6]; exact lv_sub hl [2, 3, 1, 0] rfl) | exact lv_sub hl [2, 3, 1, 0] rfl)
          · have c23 := n_eq (a := L i) (b := x) (by omega) (by omega) c23
            refine lv_iconst (v := 1) hx hb dX7_isInChain_26 (by decide) ?_
            refine lv_goto (tgt := 31) hx hb dX7_isInChain_27 (by decide) ?_
            refine lv_istore_n (lv' := [(2, .int 1), (0, .ref aM), (1, .int (nI x)), (3, .int (nI i))]) hx hb dX7_isInChain_31 rfl hl (by decide) rfl (fun ls hl => ?_)
            refine lv_iinc (v := nI (i + 1)) (lv' := [(3, .int (nI (i + 1))), (2, .int 1), (0, .ref aM), (1, .int (nI x))]) hx hb dX7_isInChain_32 hl (k := 3) rfl (nI_add i 1) (by decide) rfl (fun ls hl => ?_)
            refine lv_goto (tgt := 4) hx hb dX7_isInChain_35 (by decide) ?_
            have q7 : (bI (hld L x (i + 1))) = 1 := by simp only [hld]; first | (rw [c13]; rfl) | (rw [c13, decide_eq_true c23]; rfl) | (rw [c13, decide_eq_false c23]; rfl)
            exact ih4 (i + 1) (by omega) (by first | assumption | omega) _ _ _ (hP) (hD) hS (by first | (rw [q7]; exact lv_sub hl [2, 3, 1, 0] rfl) | (simp only [q7]; exact lv_sub hl [2, 3, 1, 0] rfl) | exact lv_sub hl [2, 3, 1, 0] rfl)
  have q8 : (bI (hld L x 0)) = 0 := by rfl
  have q9 : (nI 0) = 0 := by first | rfl | simp [*] | (simp only [*]; done)
  exact k4 (lk - 0 + 1) 0 (Nat.lt_succ_self _) (by first | assumption | omega) _ _ _ (hP) (hD) hS (by first | (rw [q8, q9]; exact lv_sub hl [2, 3, 1, 0] rfl) | (simp only [q8, q9]; exact lv_sub hl [2, 3, 1, 0] rfl) | exact lv_sub hl [2, 3, 1, 0] rfl)
set_option maxHeartbeats 4000000 in
set_option maxRecDepth 100000 in
theorem c_X7_widths (l : Launch) (dC : Nat → ClassId) (dI : Nat → Nat → Nat) (cyI cyZ cyJ cyD : ClassId) (aM aMF aMT aMN aML aMU aMB aMf aMt aMn aMl aMu aMP aMD aMC aMO aMY aMS : Nat) (zH : Nat) (th : Int32) (n : Nat) (cnt : Nat) (ml : Nat) (sg : Nat) (rm : Nat) (mdg : Nat) (mnb : Nat) (mng : Bool) (lk : Nat) (gn : Int32) (gl : Int32) (gg : Int32) (nn : Int32) (nl : Int32) (nu : Int32) (hs : Int64) (lo : Nat → Int32) (up : Nat → Int32) (L : Nat → Nat) (hlk : lk ≤ 12) (hL0 : ∀ k_q, k_q < lk → L k_q < 20) : Met l yX7_widths wsX7_widths ({ frames := 1, cells := 0, slots := 0, locals := 21 } : Room) (va_Pc [.ref aM] (fun U => U.heap.size = zH ∧ va_P (dC, dI) vwCl [(aM, .inr (7, [.int th, .int (nI n), .int (nI cnt), .ref aMF, .ref aMT, .ref aMN, .ref aML, .ref aMU, .int (nI ml), .ref aMB, .int (nI sg), .int (nI rm), .int (nI mdg), .int (nI mnb), .int (bI mng), .ref aMf, .ref aMt, .ref aMn, .ref aMl, .ref aMu, .ref aMP, .ref aMD, .int (nI lk), .ref aMC, .ref aMO, .int gn, .int gl, .int gg, .ref aMY, .int nn, .int nl, .int nu, .ref aMS, .long hs])), (aML, .inl (cyI, 20, .inl lo)), (aMU, .inl (cyI, 20, .inl up)), (aMC, .inl (cyI, 12, .inl (fun j_ => nI (L j_))))] U.heap ∧ va_K (dC, dI) vwCl [(cyI, .int), (cyZ, .boolean), (cyJ, .long), (cyD, .double)] U ∧ va_D (fun _ => True) [(aM, .inr (7, [.int th, .int (nI n), .int (nI cnt), .ref aMF, .ref aMT, .ref aMN, .ref aML, .ref aMU, .int (nI ml), .ref aMB, .int (nI sg), .int (nI rm), .int (nI mdg), .int (nI mnb), .int (bI mng), .ref aMf, .ref aMt, .ref aMn, .ref aMl, .ref aMu, .ref aMP, .ref aMD, .int (nI lk), .ref aMC, .ref aMO, .int gn, .int gl, .int gg, .ref aMY, .int nn, .int nl, .int nu, .ref aMS, .long hs])), (aML, .inl (cyI, 20, .inl lo)), (aMU, .inl (cyI, 20, .inl up)), (aMC, .inl (cyI, 12, .inl (fun j_ => nI (L j_))))])) (va_Qi (fun (r : Int32) (_ : Unit) => r = wsm L lo up lk) (fun _ t => va_P (dC, dI) vwCl [(aM, .inr (7, [.int th, .int (nI n), .int (nI cnt), .ref aMF, .ref aMT, .ref aMN, .ref aML, .ref aMU, .int (nI ml), .ref aMB, .int (nI sg), .int (nI rm), .int (nI mdg), .int (nI mnb), .int (bI mng), .ref aMf, .ref aMt, .ref aMn, .ref aMl, .ref aMu, .ref aMP, .ref aMD, .int (nI lk), .ref aMC, .ref aMO, .int gn, .int gl, .int gg, .ref aMY, .int nn, .int nl, .int nu, .ref aMS, .long hs])), (aML, .inl (cyI, 20, .inl lo)), (aMU, .inl (cyI, 20, .inl up)), (aMC, .inl (cyI, 12, .inl (fun j_ => nI (L j_))))] t.heap ∧ va_K (dC, dI) vwCl [(cyI, .int), (cyZ, .boolean), (cyJ, .long), (cyD, .double)] t ∧ va_D (va_A [(aM, .inr (7, [.int th, .int (nI n), .int (nI cnt), .ref aMF, .ref aMT, .ref aMN, .ref aML, .ref aMU, .int (nI ml), .ref aMB, .int (nI sg), .int (nI rm), .int (nI mdg), .int (nI mnb), .int (bI mng), .ref aMf, .ref aMt, .ref aMn, .ref aMl, .ref aMu, .ref aMP, .ref aMD, .int (nI lk), .ref aMC, .ref aMO, .int gn, .int gl, .int gg, .ref aMY, .int nn, .int nl, .int nu, .ref aMS, .long hs])), (aML, .inl (cyI, 20, .inl lo)), (aMU, .inl (cyI, 20, .inl up)), (aMC, .inl (cyI, 12, .inl (fun j_ => nI (L j_))))] zH) [(aM, .inr (7, [.int th, .int (nI n), .int (nI cnt), .ref aMF, .ref aMT, .ref aMN, .ref aML, .ref aMU, .int (nI ml), .ref aMB, .int (nI sg), .int (nI rm), .int (nI mdg), .int (nI mnb), .int (bI mng), .ref aMf, .ref aMt, .ref aMn, .ref aMl, .ref aMu, .ref aMP, .ref aMD, .int (nI lk), .ref aMC, .ref aMO, .int gn, .int gl, .int gg, .ref aMY, .int nn, .int nl, .int nu, .ref aMS, .long hs])), (aML, .inl (cyI, 20, .inl lo)), (aMU, .inl (cyI, 20, .inl up)), (aMC, .inl (cyI, 12, .inl (fun j_ => nI (L j_))))]) (va_A [(aM, .inr (7, [.int th, .int (nI n), .int (nI cnt), .ref aMF, .ref aMT, .ref aMN, .ref aML, .ref aMU, .int (nI ml), .ref aMB, .int (nI sg), .int (nI rm), .int (nI mdg), .int (nI mnb), .int (bI mng), .ref aMf, .ref aMt, .ref aMn, .ref aMl, .ref aMu, .ref aMP, .ref aMD, .int (nI lk), .ref aMC, .ref aMO, .int gn, .int gl, .int gg, .ref aMY, .int nn, .int nl, .int nu, .ref aMS, .long hs])), (aML, .inl (cyI, 20, .inl lo)), (aMU, .inl (cyI, 20, .inl up)), (aMC, .inl (cyI, 12, .inl (fun j_ => nI (L j_))))] zH)) 0 0 (va_A [(aM, .inr (7, [.int th, .int (nI n), .int (nI cnt), .ref aMF, .ref aMT, .ref aMN, .ref aML, .ref aMU, .int (nI ml), .ref aMB, .int (nI sg), .int (nI rm), .int (nI mdg), .int (nI mnb), .int (bI mng), .ref aMf, .ref aMt, .ref aMn, .ref aMl, .ref aMu, .ref aMP, .ref aMD, .int (nI lk), .ref aMC, .ref aMO, .int gn, .int gl, .int gg, .ref aMY, .int nn, .int nl, .int nu, .ref aMS, .long hs])), (aML, .inl (cyI, 20, .inl lo)), (aMU, .inl (cyI, 20, .inl up)), (aMC, .inl (cyI, 12, .inl (fun j_ => nI (L j_))))] zH) := by
  refine Met.ofW (cc := cX7_widths) (maxL := 3) (ret := (some .int)) (by decide) rfl ?_
  intro pM eM s mM args blM mtM cM s₁ BM hml hv
  obtain ⟨rfl, hsz, hP, hK, hD0⟩ := hv
  have hx := BM.exec
  have hb := BM.bytes
  have hr := BM.returns
  have hts := atoms_spec (ws := wsX7_widths) BM.pre
  have hown : s.vm.findClass RX7 = some mM.cls := findClass_of_methodNamed BM.named
  have hlocks := BM.notSynchronized
  have w0 := hts (.fieldLink RX7 159 "DimensionCheckerModel" "links" "I") (by decide +kernel)
  have w1 := hts (.fieldLink RX7 54 "DimensionCheckerModel" "chain" "[I") (by decide +kernel)
  have iX7 : ∀ w ∈ wsX70, w ∈ wsX7_widths := by decide +kernel
  subst hsz
  have hD := hD0.self (sz := s.heap.size)
  obtain ⟨Q, hQe⟩ : ∃ Q : State → Prop, Q = MQ blM (va_Qi (fun (r : Int32) (_ : Unit) => r = wsm L lo up lk) (fun _ t => va_P (dC, dI) vwCl [(aM, .inr (7, [.int th, .int (nI n), .int (nI cnt), .ref aMF, .ref aMT, .ref aMN, .ref aML, .ref aMU, .int (nI ml), .ref aMB, .int (nI sg), .int (nI rm), .int (nI mdg), .int (nI mnb), .int (bI mng), .ref aMf, .ref aMt, .ref aMn, .ref aMl, .ref aMu, .ref aMP, .ref aMD, .int (nI lk), .ref aMC, .ref aMO, .int gn, .int gl, .int gg, .ref aMY, .int nn, .int nl, .int nu, .ref aMS, .long hs])), (aML, .inl (cyI, 20, .inl lo)), (aMU, .inl (cyI, 20, .inl up)), (aMC, .inl (cyI, 12, .inl (fun j_ => nI (L j_))))] t.heap ∧ va_K (dC, dI) vwCl [(cyI, .int), (cyZ, .boolean), (cyJ, .long), (cyD, .double)] t ∧ va_D (va_A [(aM, .inr (7, [.int th, .int (nI n), .int (nI cnt), .ref aMF, .ref aMT, .ref aMN, .ref aML, .ref aMU, .int (nI ml), .ref aMB, .int (nI sg), .int (nI rm), .int (nI mdg), .int (nI mnb), .int (bI mng), .ref aMf, .ref aMt, .ref aMn, .ref aMl, .ref aMu, .ref aMP, .ref aMD, .int (nI lk), .ref aMC, .ref aMO, .int gn, .int gl, .int gg, .ref aMY, .int nn, .int nl, .int nu, .ref aMS, .long hs])), (aML, .inl (cyI, 20, .inl lo)), (aMU, .inl (cyI, 20, .inl up)), (aMC, .inl (cyI, 12, .inl (fun j_ => nI (L j_))))] s.heap.size) [(aM, .inr (7, [.int th, .int (nI n), .int (nI cnt), .ref aMF, .ref aMT, .ref aMN, .ref aML, .ref aMU, .int (nI ml), .ref aMB, .int (nI sg), .int (nI rm), .int (nI mdg), .int (nI mnb), .int (bI mng), .ref aMf, .ref aMt, .ref aMn, .ref aMl, .ref aMu, .ref aMP, .ref aMD, .int (nI lk), .ref aMC, .ref aMO, .int gn, .int gl, .int gg, .ref aMY, .int nn, .int nl, .int nu, .ref aMS, .long hs])), (aML, .inl (cyI, 20, .inl lo)), (aMU, .inl (cyI, 20, .inl up)), (aMC, .inl (cyI, 12, .inl (fun j_ => nI (L j_))))]) (va_A [(aM, .inr (7, [.int th, .int (nI n), .int (nI cnt), .ref aMF, .ref aMT, .ref aMN, .ref aML, .ref aMU, .int (nI ml), .ref aMB, .int (nI sg), .int (nI rm), .int (nI mdg), .int (nI mnb), .int (bI mng), .ref aMf, .ref aMt, .ref aMn, .ref aMl, .ref aMu, .ref aMP, .ref aMD, .int (nI lk), .ref aMC, .ref aMO, .int gn, .int gl, .int gg, .ref aMY, .int nn, .int nl, .int nu, .ref aMS, .long hs])), (aML, .inl (cyI, 20, .inl lo)), (aMU, .inl (cyI, 20, .inl up)), (aMC, .inl (cyI, 12, .inl (fun j_ => nI (L j_))))] s.heap.size)) ([.ref aM] : List Value).toArray s 0 0 (va_A [(aM, .inr (7, [.int th, .int (nI n), .int (nI cnt), .ref aMF, .ref aMT, .ref aMN, .ref aML, .ref aMU, .int (nI ml), .ref aMB, .int (nI sg), .int (nI rm), .int (nI mdg), .int (nI mnb), .int (bI mng), .ref aMf, .ref aMt, .ref aMn, .ref aMl, .ref aMu, .ref aMP, .ref aMD, .int (nI lk), .ref aMC, .ref aMO, .int gn, .int gl, .int gg, .ref aMY, .int nn, .int nl, .int nu, .ref aMS, .long hs])), (aML, .inl (cyI, 20, .inl lo)), (aMU, .inl (cyI, 20, .inl up)), (aMC, .inl (cyI, 12, .inl (fun j_ => nI (L j_))))] s.heap.size) := ⟨_, rfl⟩
  rw [← hQe]
  generalize hAe : va_A [(aM, .inr (7, [.int th, .int (nI n), .int (nI cnt), .ref aMF, .ref aMT, .ref aMN, .ref aML, .ref aMU, .int (nI ml), .ref aMB, .int (nI sg), .int (nI rm), .int (nI mdg), .int (nI mnb), .int (bI mng), .ref aMf, .ref aMt, .ref aMn, .ref aMl, .ref aMu, .ref aMP, .ref aMD, .int (nI lk), .ref aMC, .ref aMO, .int gn, .int gl, .int gg, .ref aMY, .int nn, .int nl, .int nu, .ref aMS, .long hs])), (aML, .inl (cyI, 20, .inl lo)), (aMU, .inl (cyI, 20, .inl up)), (aMC, .inl (cyI, 12, .inl (fun j_ => nI (L j_))))] s.heap.size = A at hD hQe
  have hA : ∀ q : Nat, s.heap.size ≤ q → A q := fun q h => by rw [← hAe]; exact Or.inr h
  obtain ⟨H, hHe⟩ : ∃ H : Heap, H = s.heap := ⟨_, rfl⟩
  have hS : va_S A s.heap H [] := by rw [hHe]; exact va_S.rf
  rw [← hHe] at hP ⊢
  have hl := lv_entry ([.ref aM]) (n := 3) (Nat.le_of_ble_eq_true rfl)
  rw [lg_entry_eq]
  generalize (lg_sl ([.ref aM]) ++ List.replicate (3 - (lg_sl ([.ref aM])).length) Slot.unset).toArray = ls at hl ⊢
  have hl : lv_has ls 3 [(0, .ref aM)] := hl
  refine lv_iconst (v := 0) hx hb dX7_widths_0 (by decide) ?_
  refine lv_istore_n (lv' := [(1, .int 0), (0, .ref aM)]) hx hb dX7_widths_1 rfl hl (by decide) rfl (fun ls hl => ?_)
  refine lv_iconst (v := 0) hx hb dX7_widths_2 (by decide) ?_
  refine lv_istore_n (lv' := [(2, .int 0), (1, .int 0), (0, .ref aM)]) hx hb dX7_widths_3 rfl hl (by decide) rfl (fun ls hl => ?_)
  have k4 : ∀ (fuel : Nat) (i : Nat) (hfuel : lk - i < fuel) (hi : i ≤ lk) (H : Heap) (locs : List Loc) (ls : Array Slot), va_P (dC, dI) vwCl [(aM, .inr (7, [.int th, .int (nI n), .int (nI cnt), .ref aMF, .ref aMT, .ref aMN, .ref aML, .ref aMU, .int (nI ml), .ref aMB, .int (nI sg), .int (nI rm), .int (nI mdg), .int (nI mnb), .int (bI mng), .ref aMf, .ref aMt, .ref aMn, .ref aMl, .ref aMu, .ref aMP, .ref aMD, .int (nI lk), .ref aMC, .ref aMO, .int gn, .int gl, .int gg, .ref aMY, .int nn, .int nl, .int nu, .ref aMS, .long hs])), (aML, .inl (cyI, 20, .inl lo)), (aMU, .inl (cyI, 20, .inl up)), (aMC, .inl (cyI, 12, .inl (fun j_ => nI (L j_))))] H → va_D A [(aM, .inr (7, [.int th, .int (nI n), .int (nI cnt), .ref aMF, .ref aMT, .ref aMN, .ref aML, .ref aMU, .int (nI ml), .ref aMB, .int (nI sg), .int (nI rm), .int (nI mdg), .int (nI mnb), .int (bI mng), .ref aMf, .ref aMt, .ref aMn, .ref aMl, .ref aMu, .ref aMP, .ref aMD, .int (nI lk), .ref aMC, .ref aMO, .int gn, .int gl, .int gg, .ref aMY, .int nn, .int nl, .int nu, .ref aMS, .long hs])), (aML, .inl (cyI, 20, .inl lo)), (aMU, .inl (cyI, 20, .inl up)), (aMC, .inl (cyI, 12, .inl (fun j_ => nI (L j_))))] → va_S A s.heap H locs → lv_has ls 3 [(0, .ref aM), (1, .int (wsm L lo up i)), (2, .int (nI i))] → W pM l eM (headSpec wsX7_widths ({ frames := 1, cells := 0, slots := 0, locals := 21 } : Room)).room s mM ([.ref aM] : List Value).toArray blM mtM cM H locs 0 0 Q (F0 mM 4 ls []) := by
    intro fuel
    induction fuel with
    | zero => intro i hfuel; exact absurd hfuel (Nat.not_lt_zero _)
    | succ fuel ih4 =>
      intro i hfuel hi H locs ls hP hD hS hl
      refine lv_iload_n hx hb dX7_widths_4 rfl (lv_at hl 2 rfl) ?_
      refine lv_aload_n hx hb dX7_widths_5 rfl (lv_at hl 0 rfl) ?_
      refine va_get (D := (dC, dI)) (ci := 7) (v := .int (nI lk)) (C := RX7) (T := TX7) (N := 34) hx hb hts iX7 hown hK hP 0 rfl rfl 22 (by decide) w0 (fun _ h9 => h9) rfl dX7_widths_6 ?_
      refine lv_icmp_ge (tgt := 31) hx hb dX7_widths_9 (by decide) (fun c9 => ?_) (fun c9 => ?_)
      · have c9 := n_le (a := lk) (b := i) (by omega) (by omega) c9
        refine lv_iload_n hx hb dX7_widths_31 rfl (lv_at hl 1 rfl) ?_
        have r1 : (wsm L lo up i) = (wsm L lo up lk) := by rw [show i = lk by omega]
        have hP9 : va_P (dC, dI) vwCl [(aM, .inr (7, [.int th, .int (nI n), .int (nI cnt), .ref aMF, .ref aMT, .ref aMN, .ref aML, .ref aMU, .int (nI ml), .ref aMB, .int (nI sg), .int (nI rm), .int (nI mdg), .int (nI mnb), .int (bI mng), .ref aMf, .ref aMt, .ref aMn, .ref aMl, .ref aMu, .ref aMP, .ref aMD, .int (nI lk), .ref aMC, .ref aMO, .int gn, .int gl, .int gg, .ref aMY, .int nn, .int nl, .int nu, .ref aMS, .long hs])), (aML, .inl (cyI, 20, .inl lo)), (aMU, .inl (cyI, 20, .inl up)), (aMC, .inl (cyI, 12, .inl (fun j_ => nI (L j_))))] H := by exact hP.sub [0, 1, 2, 3] rfl
        have hD9 : va_D A [(aM, .inr (7, [.int th, .int (nI n), .int (nI cnt), .ref aMF, .ref aMT, .ref aMN, .ref aML, .ref aMU, .int (nI ml), .ref aMB, .int (nI sg), .int (nI rm), .int (nI mdg), .int (nI mnb), .int (bI mng), .ref aMf, .ref aMt, .ref aMn, .ref aMl, .ref aMu, .ref aMP, .ref aMD, .int (nI lk), .ref aMC, .ref aMO, .int gn, .int gl, .int gg, .ref aMY, .int nn, .int nl, .int nu, .ref aMS, .long hs])), (aML, .inl (cyI, 20, .inl lo)), (aMU, .inl (cyI, 20, .inl up)), (aMC, .inl (cyI, 12, .inl (fun j_ => nI (L j_))))] := by exact hD.sub [0, 1, 2, 3] (by decide) rfl
        rw [hQe]
        exact W.iret (v := wsm L lo up i) hx hb hr (fun t ht hW => ⟨⟨_, (), rfl, r1, by rw [ht]; exact hP9, va_K.moved hW.alike hK, hD9⟩, hS.F ht⟩) hS.2.2 dX7_widths_32
      · have c9 := n_nle (a := lk) (b := i) (by omega) (by omega) c9
        have hLi := hL0 i c9
        refine lv_iload_n hx hb dX7_widths_12 rfl (lv_at hl 1 rfl) ?_
        refine lv_aload_n hx hb dX7_widths_13 rfl (lv_at hl 0 rfl) ?_
        refine lv_aload_n hx hb dX7_widths_14 rfl (lv_at hl 0 rfl) ?_
        refine va_get (D := (dC, dI)) (ci := 7) (v := .ref aMC) (C := RX7) (T := TX7) (N := 34) hx hb hts iX7 hown hK hP 0 rfl rfl 23 (by decide) w1 (fun _ h9 => h9) rfl dX7_widths_15 ?_
        refine lv_iload_n hx hb dX7_widths_18 rfl (lv_at hl 2 rfl) ?_
        have h2 : vp_in (nI i) 12 := by first | exact vp_in_nI (by omega) (by omega) | assumption
        refine va_iald hx hb hK hP 3 0 rfl rfl h2 dX7_widths_19 ?_
        refine lv_topi (fun x3 e4 => ?_)
        obtain rfl : x3 = (nI (L i)) := by rw [e4, nI_clamp (by omega)]
        clear e4
        have g5 : (L i) < 20 := by first | assumption | omega | exact vp_in_nI (by omega) (by omega)
        have hPc := hP.sub (ws' := [(aM, .inr (7, [.int th, .int (nI n), .int (nI cnt), .ref aMF, .ref aMT, .ref aMN, .ref aML, .ref aMU, .int (nI ml), .ref aMB, .int (nI sg), .int (nI rm), .int (nI mdg), .int (nI mnb), .int (bI mng), .ref aMf, .ref aMt, .ref aMn, .ref aMl, .ref aMu, .ref aMP, .ref aMD, .int (nI lk), .ref aMC, .ref aMO, .int gn, .int gl, .int gg, .ref aMY, .int nn, .int nl, .int nu, .ref aMS, .long hs])), (aML, .inl (cyI, 20, .inl lo)), (aMU, .inl (cyI, 20, .inl up))]) [0, 1, 2] rfl
        have hDc := hD.sub (ws' := [(aM, .inr (7, [.int th, .int (nI n), .int (nI cnt), .ref aMF, .ref aMT, .ref aMN, .ref aML, .ref aMU, .int (nI ml), .ref aMB, .int (nI sg), .int (nI rm), .int (nI mdg), .int (nI mnb), .int (bI mng), .ref aMf, .ref aMt, .ref aMn, .ref aMl, .ref aMu, .ref aMP, .ref aMD, .int (nI lk), .ref aMC, .ref aMO, .int gn, .int gl, .int gg, .ref aMY, .int nn, .int nl, .int nu, .ref aMS, .long hs])), (aML, .inl (cyI, 20, .inl lo)), (aMU, .inl (cyI, 20, .inl up))]) [0, 1, 2] (by decide) rfl
        have hFc := va_free (wc := [(aM, .inr (7, [.int th, .int (nI n), .int (nI cnt), .ref aMF, .ref aMT, .ref aMN, .ref aML, .ref aMU, .int (nI ml), .ref aMB, .int (nI sg), .int (nI rm), .int (nI mdg), .int (nI mnb), .int (bI mng), .ref aMf, .ref aMt, .ref aMn, .ref aMl, .ref aMu, .ref aMP, .ref aMD, .int (nI lk), .ref aMC, .ref aMO, .int gn, .int gl, .int gg, .ref aMY, .int nn, .int nl, .int nu, .ref aMS, .long hs])), (aML, .inl (cyI, 20, .inl lo)), (aMU, .inl (cyI, 20, .inl up))]) hD hS hA [0, 1, 2] rfl
        refine va_calli (va_runV (As := [.int (nI (L i))]) (rest := [.int (wsm L lo up i)]) ⟨hx, hb, hml, hown, hts⟩ (c_X7_width l dC dI cyI cyZ cyJ cyD aM aMF aMT aMN aML aMU aMB aMf aMt aMn aMl aMu aMP aMD aMC aMO aMY aMS H.size th n cnt ml sg rm mdg mnb mng lk gn gl gg nn nl nu hs lo up (L i) g5) (cwV 1 hts gX7_widths_X7_width rfl rfl rfl (by decide +kernel) ⟨Nat.le_of_ble_eq_true rfl, Nat.le_of_ble_eq_true rfl⟩) ⟨fun a U g mk q => by obtain ⟨q0, q1, qP, qK, qD⟩ := q; exact ⟨q0, q1, qP, va_K.moved (u := U) (U := U.calling g mk a) (Vm.Alike.refl U.vm) qK, qD⟩, va_recv hK hPc (ci := 7) (q0 := 0) rfl rfl, fun U hU hW => ⟨rfl, by rw [hU], by rw [hU]; exact hPc, va_K.moved hW.alike hK, hDc.weaken (fun _ _ _ _ => trivial)⟩⟩ rfl rfl hl.1 rfl (lv_room (Nat.le_of_ble_eq_true rfl)) dX7_widths_20 ⟨Nat.le_of_ble_eq_true rfl, Nat.le_of_ble_eq_true rfl⟩) hS (fun q _ h => hFc q h) hFc (fun r u t H1 locs ht hvm hw hB hz1 hk1 hS => ?_)
        obtain rfl := hw
        obtain ⟨hP1, hK1, hD1⟩ := hB
        rw [ht] at hP1
        obtain ⟨hP, hD⟩ := va_join (wr := [(aMC, .inl (cyI, 12, .inl (fun j_ => nI (L j_))))]) (w1 := [(aM, .inr (7, [.int th, .int (nI n), .int (nI cnt), .ref aMF, .ref aMT, .ref aMN, .ref aML, .ref aMU, .int (nI ml), .ref aMB, .int (nI sg), .int (nI rm), .int (nI mdg), .int (nI mnb), .int (bI mng), .ref aMf, .ref aMt, .ref aMn, .ref aMl, .ref aMu, .ref aMP, .ref aMD, .int (nI lk), .ref aMC, .ref aMO, .int gn, .int gl, .int gg, .ref aMY, .int nn, .int nl, .int nu, .ref aMS, .long hs])), (aML, .inl (cyI, 20, .inl lo)), (aMU, .inl (cyI, 20, .inl up))]) hP hD [0, 1, 2] [3] rfl rfl (by decide) (by decide) hk1 hFc hP1 hD1
        clear hP1 hD1 hK1 hPc hDc hFc hk1 hz1 hvm ht u t
        generalize H1 = H at hP hS ⊢
        have hP : va_P (dC, dI) vwCl [(aMC, .inl (cyI, 12, .inl (fun j_ => nI (L j_)))), (aM, .inr (7, [.int th, .int (nI n), .int (nI cnt), .ref aMF, .ref aMT, .ref aMN, .ref aML, .ref aMU, .int (nI ml), .ref aMB, .int (nI sg), .int (nI rm), .int (nI mdg), .int (nI mnb), .int (bI mng), .ref aMf, .ref aMt, .ref aMn, .ref aMl, .ref aMu, .ref aMP, .ref aMD, .int (nI lk), .ref aMC, .ref aMO, .int gn, .int gl, .int gg, .ref aMY, .int nn, .int nl, .int nu, .ref aMS, .long hs])), (aML, .inl (cyI, 20, .inl lo)), (aMU, .inl (cyI, 20, .inl up))] H := hP
        have hD : va_D A [(aMC, .inl (cyI, 12, .inl (fun j_ => nI (L j_)))), (aM, .inr (7, [.int th, .int (nI n), .int (nI cnt), .ref aMF, .ref aMT, .ref aMN, .ref aML, .ref aMU, .int (nI ml), .ref aMB, .int (nI sg), .int (nI rm), .int (nI mdg), .int (nI mnb), .int (bI mng), .ref aMf, .ref aMt, .ref aMn, .ref aMl, .ref aMu, .ref aMP, .ref aMD, .int (nI lk), .ref aMC, .ref aMO, .int gn, .int gl, .int gg, .ref aMY, .int nn, .int nl, .int nu, .ref aMS, .long hs])), (aML, .inl (cyI, 20, .inl lo)), (aMU, .inl (cyI, 20, .inl up))] := hD
        refine lv_iadd hx hb dX7_widths_23 ?_
        refine lv_istore_n (lv' := [(1, .int ((wsm L lo up i) + (up (L i) - lo (L i)))), (0, .ref aM), (2, .int (nI i))]) hx hb dX7_widths_24 rfl hl (by decide) rfl (fun ls hl => ?_)
        refine lv_iinc (v := nI (i + 1)) (lv' := [(2, .int (nI (i + 1))), (1, .int ((wsm L lo up i) + (up (L i) - lo (L i)))), (0, .ref aM)]) hx hb dX7_widths_25 hl (k := 2) rfl (nI_add i 1) (by decide) rfl (fun ls hl => ?_)
        refine lv_goto (tgt := 4) hx hb dX7_widths_28 (by decide) ?_
        have q6 : (wsm L lo up (i + 1)) = ((wsm L lo up i) + (up (L i) - lo (L i))) := by rfl
        exact ih4 (i + 1) (by omega) (by first | assumption | omega) _ _ _ (hP.sub [1, 2, 3, 0] rfl) (hD.sub [1, 2, 3, 0] (by decide) rfl) hS (by first | (rw [q6]; exact lv_sub hl [2, 1, 0] rfl) | (simp only [q6]; exact lv_sub hl [2, 1, 0] rfl) | exact lv_sub hl [2, 1, 0] rfl)
  have q7 : (wsm L lo up 0) = 0 := by rfl
  have q8 : (nI 0) = 0 := by first | rfl | simp [*] | (simp only [*]; done)
  exact k4 (lk - 0 + 1) 0 (Nat.lt_succ_self _) (by first | assumption | omega) _ _ _ (hP) (hD) hS (by first | (rw [q7, q8]; exact lv_sub hl [2, 1, 0] rfl) | (simp only [q7, q8]; exact lv_sub hl [2, 1, 0] rfl) | exact lv_sub hl [2, 1, 0] rfl)
set_option maxHeartbeats 4000000 in
set_option maxRecDepth 100000 in
theorem c_X7_half (l : Launch) (dC : Nat → ClassId) (dI : Nat → Nat → Nat) (cyI cyZ cyJ cyD : ClassId) (zH : Nat) (x : Int32) : Met l yX7_half wsX7_half ({ frames := 0, cells := 0, slots := 0, locals := 0 } : Room) (va_Pc [.int x] (fun U => U.heap.size = zH ∧ va_P (dC, dI) vwCl [] U.heap ∧ va_K (dC, dI) vwCl [(cyI, .int), (cyZ, .boolean), (cyJ, .long), (cyD, .double)] U ∧ va_D (fun _ => True) [])) (va_Qi (fun (r : Int32) (_ : Unit) => r = hlf x) (fun _ t => va_P (dC, dI) vwCl [] t.heap ∧ va_K (dC, dI) vwCl [(cyI, .int), (cyZ, .boolean), (cyJ, .long), (cyD, .double)] t ∧ va_D (va_A [] zH) []) (va_A [] zH)) 0 0 (va_A [] zH) := by
  refine Met.ofW (cc := cX7_half) (maxL := 1) (ret := (some .int)) (by decide) rfl ?_
  intro pM eM s mM args blM mtM cM s₁ BM hml hv
  obtain ⟨rfl, hsz, hP, hK, hD0⟩ := hv
  have hx := BM.exec
  have hb := BM.bytes
  have hr := BM.returns
  have hts := atoms_spec (ws := wsX7_half) BM.pre
  have hown : s.vm.findClass RX7 = some mM.cls := findClass_of_methodNamed BM.named
  have hlocks := BM.notSynchronized
  subst hsz
  have hD := hD0.self (sz := s.heap.size)
  obtain ⟨Q, hQe⟩ : ∃ Q : State → Prop, Q = MQ blM (va_Qi (fun (r : Int32) (_ : Unit) => r = hlf x) (fun _ t => va_P (dC, dI) vwCl [] t.heap ∧ va_K (dC, dI) vwCl [(cyI, .int), (cyZ, .boolean), (cyJ, .long), (cyD, .double)] t ∧ va_D (va_A [] s.heap.size) []) (va_A [] s.heap.size)) ([.int x] : List Value).toArray s 0 0 (va_A [] s.heap.size) := ⟨_, rfl⟩
  rw [← hQe]
  generalize hAe : va_A [] s.heap.size = A at hD hQe
  have hA : ∀ q : Nat, s.heap.size ≤ q → A q := fun q h => by rw [← hAe]; exact Or.inr h
  obtain ⟨H, hHe⟩ : ∃ H : Heap, H = s.heap := ⟨_, rfl⟩
  have hS : va_S A s.heap H [] := by rw [hHe]; exact va_S.rf
  rw [← hHe] at hP ⊢
  have hl := lv_entry ([.int x]) (n := 1) (Nat.le_of_ble_eq_true rfl)
  rw [lg_entry_eq]
  generalize (lg_sl ([.int x]) ++ List.replicate (1 - (lg_sl ([.int x])).length) Slot.unset).toArray = ls at hl ⊢
  have hl : lv_has ls 1 [(0, .int x)] := hl
  refine lv_iload_n hx hb dX7_half_0 rfl (lv_at hl 0 rfl) ?_
  refine lv_if_ge (tgt := 18) hx hb dX7_half_1 (by decide) (fun c1 => ?_) (fun c1 => ?_)
  · skip
    refine lv_iload_n hx hb dX7_half_18 rfl (lv_at hl 0 rfl) ?_
    refine lv_iconst (v := 2) hx hb dX7_half_19 (by decide) ?_
    have h1 : ¬ (2 : Int32) = 0 := by first | assumption | decide
    refine lv_idiv hx hb dX7_half_20 h1 ?_
    have r2 : (x / 2) = (hlf x) := by simp only [hlf]; first | (rw [if_pos ⟨c1, c7⟩]; done) | (rw [if_neg (fun q => q.1 c1)]; done) | (rw [if_neg (fun q => q.2 c7)]; done)
    have hP9 : va_P (dC, dI) vwCl [] H := by exact hP.sub [] rfl
    have hD9 : va_D A [] := by exact hD.sub [] (by decide) rfl
    rw [hQe]
    exact W.iret (v := x / 2) hx hb hr (fun t ht hW => ⟨⟨_, (), rfl, r2, by rw [ht]; exact hP9, va_K.moved hW.alike hK, hD9⟩, hS.F ht⟩) hS.2.2 dX7_half_21
  · skip
    refine lv_iload_n hx hb dX7_half_4 rfl (lv_at hl 0 rfl) ?_
    refine lv_iconst (v := 2) hx hb dX7_half_5 (by decide) ?_
    have h3 : ¬ (2 : Int32) = 0 := by first | assumption | decide
    refine lv_irem hx hb dX7_half_6 h3 ?_
    refine lv_if_eq (tgt := 18) hx hb dX7_half_7 (by decide) (fun c7 => ?_) (fun c7 => ?_)
    · skip
      refine lv_iload_n hx hb dX7_half_18 rfl (lv_at hl 0 rfl) ?_
      refine lv_iconst (v := 2) hx hb dX7_half_19 (by decide) ?_
      have h4 : ¬ (2 : Int32) = 0 := by first | assumption | decide
      refine lv_idiv hx hb dX7_half_20 h4 ?_
      have r5 : (x / 2) = (hlf x) := by simp only [hlf]; first | (rw [if_pos ⟨c1, c7⟩]; done) | (rw [if_neg (fun q => q.1 c1)]; done) | (rw [if_neg (fun q => q.2 c7)]; done)
      have hP9 : va_P (dC, dI) vwCl [] H := by exact hP.sub [] rfl
      have hD9 : va_D A [] := by exact hD.sub [] (by decide) rfl
      rw [hQe]
      exact W.iret (v := x / 2) hx hb hr (fun t ht hW => ⟨⟨_, (), rfl, r5, by rw [ht]; exact hP9, va_K.moved hW.alike hK, hD9⟩, hS.F ht⟩) hS.2.2 dX7_half_21
    · skip
      refine lv_iload_n hx hb dX7_half_10 rfl (lv_at hl 0 rfl) ?_
      refine lv_iconst (v := 2) hx hb dX7_half_11 (by decide) ?_
      have h6 : ¬ (2 : Int32) = 0 := by first | assumption | decide
      refine lv_idiv hx hb dX7_half_12 h6 ?_
      refine lv_iconst (v := 1) hx hb dX7_half_13 (by decide) ?_
      refine lv_isub hx hb dX7_half_14 ?_
      refine lv_goto (tgt := 21) hx hb dX7_half_15 (by decide) ?_
      have r7 : ((x / 2) - 1) = (hlf x) := by simp only [hlf]; first | (rw [if_pos ⟨c1, c7⟩]; done) | (rw [if_neg (fun q => q.1 c1)]; done) | (rw [if_neg (fun q => q.2 c7)]; done)
      have hP9 : va_P (dC, dI) vwCl [] H := by exact hP.sub [] rfl
      have hD9 : va_D A [] := by exact hD.sub [] (by decide) rfl
      rw [hQe]
      exact W.iret (v := (x / 2) - 1) hx hb hr (fun t ht hW => ⟨⟨_, (), rfl, r7, by rw [ht]; exact hP9, va_K.moved hW.alike hK, hD9⟩, hS.F ht⟩) hS.2.2 dX7_half_21
set_option maxHeartbeats 4000000 in
set_option maxRecDepth 100000 in
theorem c_X7_mix (l : Launch) (dC : Nat → ClassId) (dI : Nat → Nat → Nat) (cyI cyZ cyJ cyD : ClassId) (aM aMF aMT aMN aML aMU aMB aMf aMt aMn aMl aMu aMP aMD aMC aMO aMY aMS : Nat) (zH : Nat) (th : Int32) (n : Nat) (cnt : Nat) (ml : Nat) (sg : Nat) (rm : Nat) (mdg : Nat) (mnb : Nat) (mng : Bool) (lk : Nat) (gn : Int32) (gl : Int32) (gg : Int32) (nn : Int32) (nl : Int32) (nu : Int32) (hs : Int64) (x : Int64) : Met l yX7_mix wsX7_mix ({ frames := 0, cells := 0, slots := 0, locals := 0 } : Room) (va_Pc [.ref aM, .long x] (fun U => U.heap.size = zH ∧ va_P (dC, dI) vwCl [(aM, .inr (7, [.int th, .int (nI n), .int (nI cnt), .ref aMF, .ref aMT, .ref aMN, .ref aML, .ref aMU, .int (nI ml), .ref aMB, .int (nI sg), .int (nI rm), .int (nI mdg), .int (nI mnb), .int (bI mng), .ref aMf, .ref aMt, .ref aMn, .ref aMl, .ref aMu, .ref aMP, .ref aMD, .int (nI lk), .ref aMC, .ref aMO, .int gn, .int gl, .int gg, .ref aMY, .int nn, .int nl, .int nu, .ref aMS, .long hs]))] U.heap ∧ va_K (dC, dI) vwCl [(cyI, .int), (cyZ, .boolean), (cyJ, .long), (cyD, .double)] U ∧ va_D (fun _ => True) [(aM, .inr (7, [.int th, .int (nI n), .int (nI cnt), .ref aMF, .ref aMT, .ref aMN, .ref aML, .ref aMU, .int (nI ml), .ref aMB, .int (nI sg), .int (nI rm), .int (nI mdg), .int (nI mnb), .int (bI mng), .ref aMf, .ref aMt, .ref aMn, .ref aMl, .ref aMu, .ref aMP, .ref aMD, .int (nI lk), .ref aMC, .ref aMO, .int gn, .int gl, .int gg, .ref aMY, .int nn, .int nl, .int nu, .ref aMS, .long hs]))])) (va_Qv (fun _ : Unit => True) (fun _ t => va_P (dC, dI) vwCl [(aM, .inr (7, [.int th, .int (nI n), .int (nI cnt), .ref aMF, .ref aMT, .ref aMN, .ref aML, .ref aMU, .int (nI ml), .ref aMB, .int (nI sg), .int (nI rm), .int (nI mdg), .int (nI mnb), .int (bI mng), .ref aMf, .ref aMt, .ref aMn, .ref aMl, .ref aMu, .ref aMP, .ref aMD, .int (nI lk), .ref aMC, .ref aMO, .int gn, .int gl, .int gg, .ref aMY, .int nn, .int nl, .int nu, .ref aMS, .long (31 * hs + x)]))] t.heap ∧ va_K (dC, dI) vwCl [(cyI, .int), (cyZ, .boolean), (cyJ, .long), (cyD, .double)] t ∧ va_D (va_A [(aM, .inr (7, [.int th, .int (nI n), .int (nI cnt), .ref aMF, .ref aMT, .ref aMN, .ref aML, .ref aMU, .int (nI ml), .ref aMB, .int (nI sg), .int (nI rm), .int (nI mdg), .int (nI mnb), .int (bI mng), .ref aMf, .ref aMt, .ref aMn, .ref aMl, .ref aMu, .ref aMP, .ref aMD, .int (nI lk), .ref aMC, .ref aMO, .int gn, .int gl, .int gg, .ref aMY, .int nn, .int nl, .int nu, .ref aMS, .long hs]))] zH) [(aM, .inr (7, [.int th, .int (nI n), .int (nI cnt), .ref aMF, .ref aMT, .ref aMN, .ref aML, .ref aMU, .int (nI ml), .ref aMB, .int (nI sg), .int (nI rm), .int (nI mdg), .int (nI mnb), .int (bI mng), .ref aMf, .ref aMt, .ref aMn, .ref aMl, .ref aMu, .ref aMP, .ref aMD, .int (nI lk), .ref aMC, .ref aMO, .int gn, .int gl, .int gg, .ref aMY, .int nn, .int nl, .int nu, .ref aMS, .long (31 * hs + x)]))]) (va_A [(aM, .inr (7, [.int th, .int (nI n), .int (nI cnt), .ref aMF, .ref aMT, .ref aMN, .ref aML, .ref aMU, .int (nI ml), .ref aMB, .int (nI sg), .int (nI rm), .int (nI mdg), .int (nI mnb), .int (bI mng), .ref aMf, .ref aMt, .ref aMn, .ref aMl, .ref aMu, .ref aMP, .ref aMD, .int (nI lk), .ref aMC, .ref aMO, .int gn, .int gl, .int gg, .ref aMY, .int nn, .int nl, .int nu, .ref aMS, .long hs]))] zH)) 0 0 (va_A [(aM, .inr (7, [.int th, .int (nI n), .int (nI cnt), .ref aMF, .ref aMT, .ref aMN, .ref aML, .ref aMU, .int (nI ml), .ref aMB, .int (nI sg), .int (nI rm), .int (nI mdg), .int (nI mnb), .int (bI mng), .ref aMf, .ref aMt, .ref aMn, .ref aMl, .ref aMu, .ref aMP, .ref aMD, .int (nI lk), .ref aMC, .ref aMO, .int gn, .int gl, .int gg, .ref aMY, .int nn, .int nl, .int nu, .ref aMS, .long hs]))] zH) := by
  refine Met.ofW (cc := cX7_mix) (maxL := 3) (ret := none) (by decide) rfl ?_
  intro pM eM s mM args blM mtM cM s₁ BM hml hv
  obtain ⟨rfl, hsz, hP, hK, hD0⟩ := hv
  have hx := BM.exec
  have hb := BM.bytes
  have hr := BM.returns
  have hts := atoms_spec (ws := wsX7_mix) BM.pre
  have hown : s.vm.findClass RX7 = some mM.cls := findClass_of_methodNamed BM.named
  have hlocks := BM.notSynchronized
  have w0 := hts (.constantLong RX7 230 (31)) (by decide +kernel)
  have w1 := hts (.fieldLink RX7 232 "DimensionCheckerModel" "hash" "J") (by decide +kernel)
  have iX7 : ∀ w ∈ wsX70, w ∈ wsX7_mix := by decide +kernel
  subst hsz
  have hD := hD0.self (sz := s.heap.size)
  obtain ⟨Q, hQe⟩ : ∃ Q : State → Prop, Q = MQ blM (va_Qv (fun _ : Unit => True) (fun _ t => va_P (dC, dI) vwCl [(aM, .inr (7, [.int th, .int (nI n), .int (nI cnt), .ref aMF, .ref aMT, .ref aMN, .ref aML, .ref aMU, .int (nI ml), .ref aMB, .int (nI sg), .int (nI rm), .int (nI mdg), .int (nI mnb), .int (bI mng), .ref aMf, .ref aMt, .ref aMn, .ref aMl, .ref aMu, .ref aMP, .ref aMD, .int (nI lk), .ref aMC, .ref aMO, .int gn, .int gl, .int gg, .ref aMY, .int nn, .int nl, .int nu, .ref aMS, .long (31 * hs + x)]))] t.heap ∧ va_K (dC, dI) vwCl [(cyI, .int), (cyZ, .boolean), (cyJ, .long), (cyD, .double)] t ∧ va_D (va_A [(aM, .inr (7, [.int th, .int (nI n), .int (nI cnt), .ref aMF, .ref aMT, .ref aMN, .ref aML, .ref aMU, .int (nI ml), .ref aMB, .int (nI sg), .int (nI rm), .int (nI mdg), .int (nI mnb), .int (bI mng), .ref aMf, .ref aMt, .ref aMn, .ref aMl, .ref aMu, .ref aMP, .ref aMD, .int (nI lk), .ref aMC, .ref aMO, .int gn, .int gl, .int gg, .ref aMY, .int nn, .int nl, .int nu, .ref aMS, .long hs]))] s.heap.size) [(aM, .inr (7, [.int th, .int (nI n), .int (nI cnt), .ref aMF, .ref aMT, .ref aMN, .ref aML, .ref aMU, .int (nI ml), .ref aMB, .int (nI sg), .int (nI rm), .int (nI mdg), .int (nI mnb), .int (bI mng), .ref aMf, .ref aMt, .ref aMn, .ref aMl, .ref aMu, .ref aMP, .ref aMD, .int (nI lk), .ref aMC, .ref aMO, .int gn, .int gl, .int gg, .ref aMY, .int nn, .int nl, .int nu, .ref aMS, .long (31 * hs + x)]))]) (va_A [(aM, .inr (7, [.int th, .int (nI n), .int (nI cnt), .ref aMF, .ref aMT, .ref aMN, .ref aML, .ref aMU, .int (nI ml), .ref aMB, .int (nI sg), .int (nI rm), .int (nI mdg), .int (nI mnb), .int (bI mng), .ref aMf, .ref aMt, .ref aMn, .ref aMl, .ref aMu, .ref aMP, .ref aMD, .int (nI lk), .ref aMC, .ref aMO, .int gn, .int gl, .int gg, .ref aMY, .int nn, .int nl, .int nu, .ref aMS, .long hs]))] s.heap.size)) ([.ref aM, .long x] : List Value).toArray s 0 0 (va_A [(aM, .inr (7, [.int th, .int (nI n), .int (nI cnt), .ref aMF, .ref aMT, .ref aMN, .ref aML, .ref aMU, .int (nI ml), .ref aMB, .int (nI sg), .int (nI rm), .int (nI mdg), .int (nI mnb), .int (bI mng), .ref aMf, .ref aMt, .ref aMn, .ref aMl, .ref aMu, .ref aMP, .ref aMD, .int (nI lk), .ref aMC, .ref aMO, .int gn, .int gl, .int gg, .ref aMY, .int nn, .int nl, .int nu, .ref aMS, .long hs]))] s.heap.size) := ⟨_, rfl⟩
  rw [← hQe]
  generalize hAe : va_A [(aM, .inr (7, [.int th, .int (nI n), .int (nI cnt), .ref aMF, .ref aMT, .ref aMN, .ref aML, .ref aMU, .int (nI ml), .ref aMB, .int (nI sg), .int (nI rm), .int (nI mdg), .int (nI mnb), .int (bI mng), .ref aMf, .ref aMt, .ref aMn, .ref aMl, .ref aMu, .ref aMP, .ref aMD, .int (nI lk), .ref aMC, .ref aMO, .int gn, .int gl, .int gg, .ref aMY, .int nn, .int nl, .int nu, .ref aMS, .long hs]))] s.heap.size = A at hD hQe
  have hA : ∀ q : Nat, s.heap.size ≤ q → A q := fun q h => by rw [← hAe]; exact Or.inr h
  obtain ⟨H, hHe⟩ : ∃ H : Heap, H = s.heap := ⟨_, rfl⟩
  have hS : va_S A s.heap H [] := by rw [hHe]; exact va_S.rf
  rw [← hHe] at hP ⊢
  have hl := lv_entry ([.ref aM, .long x]) (n := 3) (Nat.le_of_ble_eq_true rfl)
  rw [lg_entry_eq]
  generalize (lg_sl ([.ref aM, .long x]) ++ List.replicate (3 - (lg_sl ([.ref aM, .long x])).length) Slot.unset).toArray = ls at hl ⊢
  have hl : lv_has ls 3 [(0, .ref aM), (1, .long x)] := hl
  refine lv_aload_n hx hb dX7_mix_0 rfl (lv_at hl 0 rfl) ?_
  refine lv_ldc2 (v := 31) hx hb hown w0 dX7_mix_1 ?_
  refine lv_aload_n hx hb dX7_mix_4 rfl (lv_at hl 0 rfl) ?_
  refine va_get (D := (dC, dI)) (ci := 7) (v := .long hs) (C := RX7) (T := TX7) (N := 34) hx hb hts iX7 hown hK hP 0 rfl rfl 33 (by decide) w1 (fun _ h9 => h9) rfl dX7_mix_5 ?_
  refine lv_lmul hx hb dX7_mix_8 ?_
  refine lv_lload_n hx hb dX7_mix_9 rfl (lv_at hl 1 rfl) ?_
  refine lv_ladd hx hb dX7_mix_10 ?_
  refine va_put (D := (dC, dI)) (ci := 7) (v := .long ((31 * hs) + x)) (ty := .long) (C := RX7) (T := TX7) (N := 34) hx hb hts iX7 tyX7 tyX7_ok nmX7 hown hK hP hD hS 0 rfl rfl 33 (by decide) w1 (fun _ h9 => h9) rfl (by decide +kernel) rfl rfl (Nat.le_of_ble_eq_true rfl) dX7_mix_11 (fun H locs hP hD hS => ?_)
  have hP : va_P (dC, dI) vwCl [(aM, .inr (7, [.int th, .int (nI n), .int (nI cnt), .ref aMF, .ref aMT, .ref aMN, .ref aML, .ref aMU, .int (nI ml), .ref aMB, .int (nI sg), .int (nI rm), .int (nI mdg), .int (nI mnb), .int (bI mng), .ref aMf, .ref aMt, .ref aMn, .ref aMl, .ref aMu, .ref aMP, .ref aMD, .int (nI lk), .ref aMC, .ref aMO, .int gn, .int gl, .int gg, .ref aMY, .int nn, .int nl, .int nu, .ref aMS, .long ((31 * hs) + x)]))] H := hP
  have hD : va_D A [(aM, .inr (7, [.int th, .int (nI n), .int (nI cnt), .ref aMF, .ref aMT, .ref aMN, .ref aML, .ref aMU, .int (nI ml), .ref aMB, .int (nI sg), .int (nI rm), .int (nI mdg), .int (nI mnb), .int (bI mng), .ref aMf, .ref aMt, .ref aMn, .ref aMl, .ref aMu, .ref aMP, .ref aMD, .int (nI lk), .ref aMC, .ref aMO, .int gn, .int gl, .int gg, .ref aMY, .int nn, .int nl, .int nu, .ref aMS, .long ((31 * hs) + x)]))] := hD
  have q1 : (31 * hs + x) = ((31 * hs) + x) := by first | rfl | simp [*] | (simp only [*]; done)
  have hP9 : va_P (dC, dI) vwCl [(aM, .inr (7, [.int th, .int (nI n), .int (nI cnt), .ref aMF, .ref aMT, .ref aMN, .ref aML, .ref aMU, .int (nI ml), .ref aMB, .int (nI sg), .int (nI rm), .int (nI mdg), .int (nI mnb), .int (bI mng), .ref aMf, .ref aMt, .ref aMn, .ref aMl, .ref aMu, .ref aMP, .ref aMD, .int (nI lk), .ref aMC, .ref aMO, .int gn, .int gl, .int gg, .ref aMY, .int nn, .int nl, .int nu, .ref aMS, .long (31 * hs + x)]))] H := by first | (rw [q1]; exact hP.sub [0] rfl) | (simp only [q1]; exact hP.sub [0] rfl) | exact hP.sub [0] rfl
  have hD9 : va_D A [(aM, .inr (7, [.int th, .int (nI n), .int (nI cnt), .ref aMF, .ref aMT, .ref aMN, .ref aML, .ref aMU, .int (nI ml), .ref aMB, .int (nI sg), .int (nI rm), .int (nI mdg), .int (nI mnb), .int (bI mng), .ref aMf, .ref aMt, .ref aMn, .ref aMl, .ref aMu, .ref aMP, .ref aMD, .int (nI lk), .ref aMC, .ref aMO, .int gn, .int gl, .int gg, .ref aMY, .int nn, .int nl, .int nu, .ref aMS, .long (31 * hs + x)]))] := by first | (rw [q1]; exact hD.sub [0] (by decide) rfl) | (simp only [q1]; exact hD.sub [0] (by decide) rfl) | exact hD.sub [0] (by decide) rfl
  rw [hQe]
  exact W.vret hx hb hr (fun t ht hW => ⟨⟨(), rfl, trivial, by rw [ht]; exact hP9, va_K.moved hW.alike hK, hD9⟩, hS.F ht⟩) hS.2.2 dX7_mix_14
set_option maxHeartbeats 4000000 in
set_option maxRecDepth 100000 in
theorem c_X7_tightNow (l : Launch) (dC : Nat → ClassId) (dI : Nat → Nat → Nat) (cyI cyZ cyJ cyD : ClassId) (aM aMF aMT aMN aML aMU aMB aMf aMt aMn aMl aMu aMP aMD aMC aMO aMY aMS : Nat) (zH : Nat) (th : Int32) (n : Nat) (cnt : Nat) (ml : Nat) (sg : Nat) (rm : Nat) (mdg : Nat) (mnb : Nat) (mng : Bool) (lk : Nat) (gn : Int32) (gl : Int32) (gg : Int32) (nn : Int32) (nl : Int32) (nu : Int32) (hs : Int64) (yb : Nat → Int64) (a : Nat) (b : Nat) (h : Bool) (ha : a < 12) (hb0 : b < 12) : Met l yX7_tightNow wsX7_tightNow ({ frames := 0, cells := 0, slots := 0, locals := 0 } : Room) (va_Pc [.ref aM, .int (nI a), .int (nI b), .int (bI h)] (fun U => U.heap.size = zH ∧ va_P (dC, dI) vwCl [(aM, .inr (7, [.int th, .int (nI n), .int (nI cnt), .ref aMF, .ref aMT, .ref aMN, .ref aML, .ref aMU, .int (nI ml), .ref aMB, .int (nI sg), .int (nI rm), .int (nI mdg), .int (nI mnb), .int (bI mng), .ref aMf, .ref aMt, .ref aMn, .ref aMl, .ref aMu, .ref aMP, .ref aMD, .int (nI lk), .ref aMC, .ref aMO, .int gn, .int gl, .int gg, .ref aMY, .int nn, .int nl, .int nu, .ref aMS, .long hs])), (aMY, .inl (cyJ, 144, .inr (.inl yb)))] U.heap ∧ va_K (dC, dI) vwCl [(cyI, .int), (cyZ, .boolean), (cyJ, .long), (cyD, .double)] U ∧ va_D (fun _ => True) [(aM, .inr (7, [.int th, .int (nI n), .int (nI cnt), .ref aMF, .ref aMT, .ref aMN, .ref aML, .ref aMU, .int (nI ml), .ref aMB, .int (nI sg), .int (nI rm), .int (nI mdg), .int (nI mnb), .int (bI mng), .ref aMf, .ref aMt, .ref aMn, .ref aMl, .ref aMu, .ref aMP, .ref aMD, .int (nI lk), .ref aMC, .ref aMO, .int gn, .int gl, .int gg, .ref aMY, .int nn, .int nl, .int nu, .ref aMS, .long hs])), (aMY, .inl (cyJ, 144, .inr (.inl yb)))])) (va_Qi (fun (r : Int32) (_ : Unit) => r = tgN yb a b h) (fun _ t => va_P (dC, dI) vwCl [(aM, .inr (7, [.int th, .int (nI n), .int (nI cnt), .ref aMF, .ref aMT, .ref aMN, .ref aML, .ref aMU, .int (nI ml), .ref aMB, .int (nI sg), .int (nI rm), .int (nI mdg), .int (nI mnb), .int (bI mng), .ref aMf, .ref aMt, .ref aMn, .ref aMl, .ref aMu, .ref aMP, .ref aMD, .int (nI lk), .ref aMC, .ref aMO, .int gn, .int gl, .int gg, .ref aMY, .int nn, .int nl, .int nu, .ref aMS, .long hs])), (aMY, .inl (cyJ, 144, .inr (.inl yb)))] t.heap ∧ va_K (dC, dI) vwCl [(cyI, .int), (cyZ, .boolean), (cyJ, .long), (cyD, .double)] t ∧ va_D (va_A [(aM, .inr (7, [.int th, .int (nI n), .int (nI cnt), .ref aMF, .ref aMT, .ref aMN, .ref aML, .ref aMU, .int (nI ml), .ref aMB, .int (nI sg), .int (nI rm), .int (nI mdg), .int (nI mnb), .int (bI mng), .ref aMf, .ref aMt, .ref aMn, .ref aMl, .ref aMu, .ref aMP, .ref aMD, .int (nI lk), .ref aMC, .ref aMO, .int gn, .int gl, .int gg, .ref aMY, .int nn, .int nl, .int nu, .ref aMS, .long hs])), (aMY, .inl (cyJ, 144, .inr (.inl yb)))] zH) [(aM, .inr (7, [.int th, .int (nI n), .int (nI cnt), .ref aMF, .ref aMT, .ref aMN, .ref aML, .ref aMU, .int (nI ml), .ref aMB, .int (nI sg), .int (nI rm), .int (nI mdg), .int (nI mnb), .int (bI mng), .ref aMf, .ref aMt, .ref aMn, .ref aMl, .ref aMu, .ref aMP, .ref aMD, .int (nI lk), .ref aMC, .ref aMO, .int gn, .int gl, .int gg, .ref aMY, .int nn, .int nl, .int nu, .ref aMS, .long hs])), (aMY, .inl (cyJ, 144, .inr (.inl yb)))]) (va_A [(aM, .inr (7, [.int th, .int (nI n), .int (nI cnt), .ref aMF, .ref aMT, .ref aMN, .ref aML, .ref aMU, .int (nI ml), .ref aMB, .int (nI sg), .int (nI rm), .int (nI mdg), .int (nI mnb), .int (bI mng), .ref aMf, .ref aMt, .ref aMn, .ref aMl, .ref aMu, .ref aMP, .ref aMD, .int (nI lk), .ref aMC, .ref aMO, .int gn, .int gl, .int gg, .ref aMY, .int nn, .int nl, .int nu, .ref aMS, .long hs])), (aMY, .inl (cyJ, 144, .inr (.inl yb)))] zH)) 0 0 (va_A [(aM, .inr (7, [.int th, .int (nI n), .int (nI cnt), .ref aMF, .ref aMT, .ref aMN, .ref aML, .ref aMU, .int (nI ml), .ref aMB, .int (nI sg), .int (nI rm), .int (nI mdg), .int (nI mnb), .int (bI mng), .ref aMf, .ref aMt, .ref aMn, .ref aMl, .ref aMu, .ref aMP, .ref aMD, .int (nI lk), .ref aMC, .ref aMO, .int gn, .int gl, .int gg, .ref aMY, .int nn, .int nl, .int nu, .ref aMS, .long hs])), (aMY, .inl (cyJ, 144, .inr (.inl yb)))] zH) := by
  refine Met.ofW (cc := cX7_tightNow) (maxL := 4) (ret := (some .int)) (by decide) rfl ?_
  intro pM eM s mM args blM mtM cM s₁ BM hml hv
  obtain ⟨rfl, hsz, hP, hK, hD0⟩ := hv
  have hx := BM.exec
  have hb := BM.bytes
  have hr := BM.returns
  have hts := atoms_spec (ws := wsX7_tightNow) BM.pre
  have hown : s.vm.findClass RX7 = some mM.cls := findClass_of_methodNamed BM.named
  have hlocks := BM.notSynchronized
  have w0 := hts (.fieldLink RX7 60 "DimensionCheckerModel" "beyond" "[J") (by decide +kernel)
  have iX7 : ∀ w ∈ wsX70, w ∈ wsX7_tightNow := by decide +kernel
  subst hsz
  have hD := hD0.self (sz := s.heap.size)
  obtain ⟨Q, hQe⟩ : ∃ Q : State → Prop, Q = MQ blM (va_Qi (fun (r : Int32) (_ : Unit) => r = tgN yb a b h) (fun _ t => va_P (dC, dI) vwCl [(aM, .inr (7, [.int th, .int (nI n), .int (nI cnt), .ref aMF, .ref aMT, .ref aMN, .ref aML, .ref aMU, .int (nI ml), .ref aMB, .int (nI sg), .int (nI rm), .int (nI mdg), .int (nI mnb), .int (bI mng), .ref aMf, .ref aMt, .ref aMn, .ref aMl, .ref aMu, .ref aMP, .ref aMD, .int (nI lk), .ref aMC, .ref aMO, .int gn, .int gl, .int gg, .ref aMY, .int nn, .int nl, .int nu, .ref aMS, .long hs])), (aMY, .inl (cyJ, 144, .inr (.inl yb)))] t.heap ∧ va_K (dC, dI) vwCl [(cyI, .int), (cyZ, .boolean), (cyJ, .long), (cyD, .double)] t ∧ va_D (va_A [(aM, .inr (7, [.int th, .int (nI n), .int (nI cnt), .ref aMF, .ref aMT, .ref aMN, .ref aML, .ref aMU, .int (nI ml), .ref aMB, .int (nI sg), .int (nI rm), .int (nI mdg), .int (nI mnb), .int (bI mng), .ref aMf, .ref aMt, .ref aMn, .ref aMl, .ref aMu, .ref aMP, .ref aMD, .int (nI lk), .ref aMC, .ref aMO, .int gn, .int gl, .int gg, .ref aMY, .int nn, .int nl, .int nu, .ref aMS, .long hs])), (aMY, .inl (cyJ, 144, .inr (.inl yb)))] s.heap.size) [(aM, .inr (7, [.int th, .int (nI n), .int (nI cnt), .ref aMF, .ref aMT, .ref aMN, .ref aML, .ref aMU, .int (nI ml), .ref aMB, .int (nI sg), .int (nI rm), .int (nI mdg), .int (nI mnb), .int (bI mng), .ref aMf, .ref aMt, .ref aMn, .ref aMl, .ref aMu, .ref aMP, .ref aMD, .int (nI lk), .ref aMC, .ref aMO, .int gn, .int gl, .int gg, .ref aMY, .int nn, .int nl, .int nu, .ref aMS, .long hs])), (aMY, .inl (cyJ, 144, .inr (.inl yb)))]) (va_A [(aM, .inr (7, [.int th, .int (nI n), .int (nI cnt), .ref aMF, .ref aMT, .ref aMN, .ref aML, .ref aMU, .int (nI ml), .ref aMB, .int (nI sg), .int (nI rm), .int (nI mdg), .int (nI mnb), .int (bI mng), .ref aMf, .ref aMt, .ref aMn, .ref aMl, .ref aMu, .ref aMP, .ref aMD, .int (nI lk), .ref aMC, .ref aMO, .int gn, .int gl, .int gg, .ref aMY, .int nn, .int nl, .int nu, .ref aMS, .long hs])), (aMY, .inl (cyJ, 144, .inr (.inl yb)))] s.heap.size)) ([.ref aM, .int (nI a), .int (nI b), .int (bI h)] : List Value).toArray s 0 0 (va_A [(aM, .inr (7, [.int th, .int (nI n), .int (nI cnt), .ref aMF, .ref aMT, .ref aMN, .ref aML, .ref aMU, .int (nI ml), .ref aMB, .int (nI sg), .int (nI rm), .int (nI mdg), .int (nI mnb), .int (bI mng), .ref aMf, .ref aMt, .ref aMn, .ref aMl, .ref aMu, .ref aMP, .ref aMD, .int (nI lk), .ref aMC, .ref aMO, .int gn, .int gl, .int gg, .ref aMY, .int nn, .int nl, .int nu, .ref aMS, .long hs])), (aMY, .inl (cyJ, 144, .inr (.inl yb)))] s.heap.size) := ⟨_, rfl⟩
  rw [← hQe]
  generalize hAe : va_A [(aM, .inr (7, [.int th, .int (nI n), .int (nI cnt), .ref aMF, .ref aMT, .ref aMN, .ref aML, .ref aMU, .int (nI ml), .ref aMB, .int (nI sg), .int (nI rm), .int (nI mdg), .int (nI mnb), .int (bI mng), .ref aMf, .ref aMt, .ref aMn, .ref aMl, .ref aMu, .ref aMP, .ref aMD, .int (nI lk), .ref aMC, .ref aMO, .int gn, .int gl, .int gg, .ref aMY, .int nn, .int nl, .int nu, .ref aMS, .long hs])), (aMY, .inl (cyJ, 144, .inr (.inl yb)))] s.heap.size = A at hD hQe
  have hA : ∀ q : Nat, s.heap.size ≤ q → A q := fun q h => by rw [← hAe]; exact Or.inr h
  obtain ⟨H, hHe⟩ : ∃ H : Heap, H = s.heap := ⟨_, rfl⟩
  have hS : va_S A s.heap H [] := by rw [hHe]; exact va_S.rf
  rw [← hHe] at hP ⊢
  have hl := lv_entry ([.ref aM, .int (nI a), .int (nI b), .int (bI h)]) (n := 4) (Nat.le_of_ble_eq_true rfl)
  rw [lg_entry_eq]
  generalize (lg_sl ([.ref aM, .int (nI a), .int (nI b), .int (bI h)]) ++ List.replicate (4 - (lg_sl ([.ref aM, .int (nI a), .int (nI b), .int (bI h)])).length) Slot.unset).toArray = ls at hl ⊢
  have hl : lv_has ls 4 [(0, .ref aM), (1, .int (nI a)), (2, .int (nI b)), (3, .int (bI h))] := hl
  refine lv_iload_n hx hb dX7_tightNow_0 rfl (lv_at hl 3 rfl) ?_
  refine lv_if_eq (tgt := 18) hx hb dX7_tightNow_1 (by decide) (fun c1 => ?_) (fun c1 => ?_)
  · have c1 : h = false := bI_0 c1
    refine lv_aload_n hx hb dX7_tightNow_18 rfl (lv_at hl 0 rfl) ?_
    refine va_get (D := (dC, dI)) (ci := 7) (v := .ref aMY) (C := RX7) (T := TX7) (N := 34) hx hb hts iX7 hown hK hP 0 rfl rfl 28 (by decide) w0 (fun _ h9 => h9) rfl dX7_tightNow_19 ?_
    refine lv_bipush (v := 12) hx hb dX7_tightNow_22 (by decide) ?_
    refine lv_iload_n hx hb dX7_tightNow_24 rfl (lv_at hl 2 rfl) ?_
    refine lv_imul hx hb dX7_tightNow_25 ?_
    refine lv_topi (fun x1 e2 => ?_)
    obtain rfl : x1 = (nI (12 * b)) := by rw [e2]; exact pk_mul 12 b
    clear e2
    refine lv_iload_n hx hb dX7_tightNow_26 rfl (lv_at hl 1 rfl) ?_
    refine lv_iadd hx hb dX7_tightNow_27 ?_
    refine lv_topi (fun x3 e4 => ?_)
    obtain rfl : x3 = (nI ((12 * b) + a)) := by rw [e4]; exact nI_add (12 * b) a
    clear e4
    have h5 : vp_in (nI ((12 * b) + a)) 144 := by first | exact vp_in_nI (by omega) (by omega) | assumption
    refine va_lald hx hb hK hP 1 2 rfl rfl h5 dX7_tightNow_28 ?_
    refine lv_topl (fun x6 e7 => ?_)
    obtain rfl : x6 = (yb ((12 * b) + a)) := by rw [e7, nI_clamp (by omega)]
    clear e7
    refine lv_lneg hx hb dX7_tightNow_29 ?_
    refine lv_l2i (v := (-(yb ((12 * b) + a))).toInt32) hx hb dX7_tightNow_30 rfl ?_
    have r8 : ((-(yb ((12 * b) + a))).toInt32) = (tgN yb a b h) := by simp only [tgN, c1]
    have hP9 : va_P (dC, dI) vwCl [(aM, .inr (7, [.int th, .int (nI n), .int (nI cnt), .ref aMF, .ref aMT, .ref aMN, .ref aML, .ref aMU, .int (nI ml), .ref aMB, .int (nI sg), .int (nI rm), .int (nI mdg), .int (nI mnb), .int (bI mng), .ref aMf, .ref aMt, .ref aMn, .ref aMl, .ref aMu, .ref aMP, .ref aMD, .int (nI lk), .ref aMC, .ref aMO, .int gn, .int gl, .int gg, .ref aMY, .int nn, .int nl, .int nu, .ref aMS, .long hs])), (aMY, .inl (cyJ, 144, .inr (.inl yb)))] H := by exact hP.sub [0, 1] rfl
    have hD9 : va_D A [(aM, .inr (7, [.int th, .int (nI n), .int (nI cnt), .ref aMF, .ref aMT, .ref aMN, .ref aML, .ref aMU, .int (nI ml), .ref aMB, .int (nI sg), .int (nI rm), .int (nI mdg), .int (nI mnb), .int (bI mng), .ref aMf, .ref aMt, .ref aMn, .ref aMl, .ref aMu, .ref aMP, .ref aMD, .int (nI lk), .ref aMC, .ref aMO, .int gn, .int gl, .int gg, .ref aMY, .int nn, .int nl, .int nu, .ref aMS, .long hs])), (aMY, .inl (cyJ, 144, .inr (.inl yb)))] := by exact hD.sub [0, 1] (by decide) rfl
    rw [hQe]
    exact W.iret (v := (-(yb ((12 * b) + a))).toInt32) hx hb hr (fun t ht hW => ⟨⟨_, (), rfl, r8, by rw [ht]; exact hP9, va_K.moved hW.alike hK, hD9⟩, hS.F ht⟩) hS.2.2 dX7_tightNow_31
  · have c1 : h = true := bI_n0 c1
    refine lv_aload_n hx hb dX7_tightNow_4 rfl (lv_at hl 0 rfl) ?_
    refine va_get (D := (dC, dI)) (ci := 7) (v := .ref aMY) (C := RX7) (T := TX7) (N := 34) hx hb hts iX7 hown hK hP 0 rfl rfl 28 (by decide) w0 (fun _ h9 => h9) rfl dX7_tightNow_5 ?_
    refine lv_bipush (v := 12) hx hb dX7_tightNow_8 (by decide) ?_
    refine lv_iload_n hx hb dX7_tightNow_10 rfl (lv_at hl 1 rfl) ?_
    refine lv_imul hx hb dX7_tightNow_11 ?_
    refine lv_topi (fun x9 e10 => ?_)
    obtain rfl : x9 = (nI (12 * a)) := by rw [e10]; exact pk_mul 12 a
    clear e10
    refine lv_iload_n hx hb dX7_tightNow_12 rfl (lv_at hl 2 rfl) ?_
    refine lv_iadd hx hb dX7_tightNow_13 ?_
    refine lv_topi (fun x11 e12 => ?_)
    obtain rfl : x11 = (nI ((12 * a) + b)) := by rw [e12]; exact nI_add (12 * a) b
    clear e12
    have h13 : vp_in (nI ((12 * a) + b)) 144 := by first | exact vp_in_nI (by omega) (by omega) | assumption
    refine va_lald hx hb hK hP 1 2 rfl rfl h13 dX7_tightNow_14 ?_
    refine lv_topl (fun x14 e15 => ?_)
    obtain rfl : x14 = (yb ((12 * a) + b)) := by rw [e15, nI_clamp (by omega)]
    clear e15
    refine lv_goto (tgt := 30) hx hb dX7_tightNow_15 (by decide) ?_
    refine lv_l2i (v := (yb ((12 * a) + b)).toInt32) hx hb dX7_tightNow_30 rfl ?_
    have r16 : ((yb ((12 * a) + b)).toInt32) = (tgN yb a b h) := by simp only [tgN, c1]
    have hP9 : va_P (dC, dI) vwCl [(aM, .inr (7, [.int th, .int (nI n), .int (nI cnt), .ref aMF, .ref aMT, .ref aMN, .ref aML, .ref aMU, .int (nI ml), .ref aMB, .int (nI sg), .int (nI rm), .int (nI mdg), .int (nI mnb), .int (bI mng), .ref aMf, .ref aMt, .ref aMn, .ref aMl, .ref aMu, .ref aMP, .ref aMD, .int (nI lk), .ref aMC, .ref aMO, .int gn, .int gl, .int gg, .ref aMY, .int nn, .int nl, .int nu, .ref aMS, .long hs])), (aMY, .inl (cyJ, 144, .inr (.inl yb)))] H := by exact hP.sub [0, 1] rfl
    have hD9 : va_D A [(aM, .inr (7, [.int th, .int (nI n), .int (nI cnt), .ref aMF, .ref aMT, .ref aMN, .ref aML, .ref aMU, .int (nI ml), .ref aMB, .int (nI sg), .int (nI rm), .int (nI mdg), .int (nI mnb), .int (bI mng), .ref aMf, .ref aMt, .ref aMn, .ref aMl, .ref aMu, .ref aMP, .ref aMD, .int (nI lk), .ref aMC, .ref aMO, .int gn, .int gl, .int gg, .ref aMY, .int nn, .int nl, .int nu, .ref aMS, .long hs])), (aMY, .inl (cyJ, 144, .inr (.inl yb)))] := by exact hD.sub [0, 1] (by decide) rfl
    rw [hQe]
    exact W.iret (v := (yb ((12 * a) + b)).toInt32) hx hb hr (fun t ht hW => ⟨⟨_, (), rfl, r16, by rw [ht]; exact hP9, va_K.moved hW.alike hK, hD9⟩, hS.F ht⟩) hS.2.2 dX7_tightNow_31
set_option maxHeartbeats 4000000 in
set_option maxRecDepth 100000 in
theorem c_X7_bound (l : Launch) (dC : Nat → ClassId) (dI : Nat → Nat → Nat) (cyI cyZ cyJ cyD : ClassId) (aM aMF aMT aMN aML aMU aMB aMf aMt aMn aMl aMu aMP aMD aMC aMO aMY aMS : Nat) (zH : Nat) (th : Int32) (n : Nat) (cnt : Nat) (ml : Nat) (sg : Nat) (rm : Nat) (mdg : Nat) (mnb : Nat) (mng : Bool) (lk : Nat) (gn : Int32) (gl : Int32) (gg : Int32) (nn : Int32) (nl : Int32) (nu : Int32) (hs : Int64) (yb : Nat → Int64) (a : Nat) (b : Nat) (x : Int64) (ha : a < 12) (hb0 : b < 12) : Met l yX7_bound wsX7_bound ({ frames := 0, cells := 0, slots := 0, locals := 0 } : Room) (va_Pc [.ref aM, .int (nI a), .int (nI b), .long x] (fun U => U.heap.size = zH ∧ va_P (dC, dI) vwCl [(aM, .inr (7, [.int th, .int (nI n), .int (nI cnt), .ref aMF, .ref aMT, .ref aMN, .ref aML, .ref aMU, .int (nI ml), .ref aMB, .int (nI sg), .int (nI rm), .int (nI mdg), .int (nI mnb), .int (bI mng), .ref aMf, .ref aMt, .ref aMn, .ref aMl, .ref aMu, .ref aMP, .ref aMD, .int (nI lk), .ref aMC, .ref aMO, .int gn, .int gl, .int gg, .ref aMY, .int nn, .int nl, .int nu, .ref aMS, .long hs])), (aMY, .inl (cyJ, 144, .inr (.inl yb)))] U.heap ∧ va_K (dC, dI) vwCl [(cyI, .int), (cyZ, .boolean), (cyJ, .long), (cyD, .double)] U ∧ va_D (fun _ => True) [(aM, .inr (7, [.int th, .int (nI n), .int (nI cnt), .ref aMF, .ref aMT, .ref aMN, .ref aML, .ref aMU, .int (nI ml), .ref aMB, .int (nI sg), .int (nI rm), .int (nI mdg), .int (nI mnb), .int (bI mng), .ref aMf, .ref aMt, .ref aMn, .ref aMl, .ref aMu, .ref aMP, .ref aMD, .int (nI lk), .ref aMC, .ref aMO, .int gn, .int gl, .int gg, .ref aMY, .int nn, .int nl, .int nu, .ref aMS, .long hs])), (aMY, .inl (cyJ, 144, .inr (.inl yb)))])) (va_Qv (fun _ : Unit => True) (fun _ t => va_P (dC, dI) vwCl [(aM, .inr (7, [.int th, .int (nI n), .int (nI cnt), .ref aMF, .ref aMT, .ref aMN, .ref aML, .ref aMU, .int (nI ml), .ref aMB, .int (nI sg), .int (nI rm), .int (nI mdg), .int (nI mnb), .int (bI mng), .ref aMf, .ref aMt, .ref aMn, .ref aMl, .ref aMu, .ref aMP, .ref aMD, .int (nI lk), .ref aMC, .ref aMO, .int gn, .int gl, .int gg, .ref aMY, .int nn, .int nl, .int nu, .ref aMS, .long hs])), (aMY, .inl (cyJ, 144, .inr (.inl (bnd yb a b x))))] t.heap ∧ va_K (dC, dI) vwCl [(cyI, .int), (cyZ, .boolean), (cyJ, .long), (cyD, .double)] t ∧ va_D (va_A [(aM, .inr (7, [.int th, .int (nI n), .int (nI cnt), .ref aMF, .ref aMT, .ref aMN, .ref aML, .ref aMU, .int (nI ml), .ref aMB, .int (nI sg), .int (nI rm), .int (nI mdg), .int (nI mnb), .int (bI mng), .ref aMf, .ref aMt, .ref aMn, .ref aMl, .ref aMu, .ref aMP, .ref aMD, .int (nI lk), .ref aMC, .ref aMO, .int gn, .int gl, .int gg, .ref aMY, .int nn, .int nl, .int nu, .ref aMS, .long hs])), (aMY, .inl (cyJ, 144, .inr (.inl yb)))] zH) [(aM, .inr (7, [.int th, .int (nI n), .int (nI cnt), .ref aMF, .ref aMT, .ref aMN, .ref aML, .ref aMU, .int (nI ml), .ref aMB, .int (nI sg), .int (nI rm), .int (nI mdg), .int (nI mnb), .int (bI mng), .ref aMf, .ref aMt, .ref aMn, .ref aMl, .ref aMu, .ref aMP, .ref aMD, .int (nI lk), .ref aMC, .ref aMO, .int gn, .int gl, .int gg, .ref aMY, .int nn, .int nl, .int nu, .ref aMS, .long hs])), (aMY, .inl (cyJ, 144, .inr (.inl (bnd yb a b x))))]) (va_A [(aM, .inr (7, [.int th, .int (nI n), .int (nI cnt), .ref aMF, .ref aMT, .ref aMN, .ref aML, .ref aMU, .int (nI ml), .ref aMB, .int (nI sg), .int (nI rm), .int (nI mdg), .int (nI mnb), .int (bI mng), .ref aMf, .ref aMt, .ref aMn, .ref aMl, .ref aMu, .ref aMP, .ref aMD, .int (nI lk), .ref aMC, .ref aMO, .int gn, .int gl, .int gg, .ref aMY, .int nn, .int nl, .int nu, .ref aMS, .long hs])), (aMY, .inl (cyJ, 144, .inr (.inl yb)))] zH)) 0 0 (va_A [(aM, .inr (7, [.int th, .int (nI n), .int (nI cnt), .ref aMF, .ref aMT, .ref aMN, .ref aML, .ref aMU, .int (nI ml), .ref aMB, .int (nI sg), .int (nI rm), .int (nI mdg), .int (nI mnb), .int (bI mng), .ref aMf, .ref aMt, .ref aMn, .ref aMl, .ref aMu, .ref aMP, .ref aMD, .int (nI lk), .ref aMC, .ref aMO, .int gn, .int gl, .int gg, .ref aMY, .int nn, .int nl, .int nu, .ref aMS, .long hs])), (aMY, .inl (cyJ, 144, .inr (.inl yb)))] zH) := by
  refine Met.ofW (cc := cX7_bound) (maxL := 5) (ret := none) (by decide) rfl ?_
  intro pM eM s mM args blM mtM cM s₁ BM hml hv
  obtain ⟨rfl, hsz, hP, hK, hD0⟩ := hv
  have hx := BM.exec
  have hb := BM.bytes
  have hr := BM.returns
  have hts := atoms_spec (ws := wsX7_bound) BM.pre
  have hown : s.vm.findClass RX7 = some mM.cls := findClass_of_methodNamed BM.named
  have hlocks := BM.notSynchronized
  have w0 := hts (.fieldLink RX7 60 "DimensionCheckerModel" "beyond" "[J") (by decide +kernel)
  have iX7 : ∀ w ∈ wsX70, w ∈ wsX7_bound := by decide +kernel
  subst hsz
  have hD := hD0.self (sz := s.heap.size)
  obtain ⟨Q, hQe⟩ : ∃ Q : State → Prop, Q = MQ blM (va_Qv (fun _ : Unit => True) (fun _ t => va_P (dC, dI) vwCl [(aM, .inr (7, [.int th, .int (nI n), .int (nI cnt), .ref aMF, .ref aMT, .ref aMN, .ref aML, .ref aMU, .int (nI ml), .ref aMB, .int (nI sg), .int (nI rm), .int (nI mdg), .int (nI mnb), .int (bI mng), .ref aMf, .ref aMt, .ref aMn, .ref aMl, .ref aMu, .ref aMP, .ref aMD, .int (nI lk), .ref aMC, .ref aMO, .int gn, .int gl, .int gg, .ref aMY, .int nn, .int nl, .int nu, .ref aMS, .long hs])), (aMY, .inl (cyJ, 144, .inr (.inl (bnd yb a b x))))] t.heap ∧ va_K (dC, dI) vwCl [(cyI, .int), (cyZ, .boolean), (cyJ, .long), (cyD, .double)] t ∧ va_D (va_A [(aM, .inr (7, [.int th, .int (nI n), .int (nI cnt), .ref aMF, .ref aMT, .ref aMN, .ref aML, .ref aMU, .int (nI ml), .ref aMB, .int (nI sg), .int (nI rm), .int (nI mdg), .int (nI mnb), .int (bI mng), .ref aMf, .ref aMt, .ref aMn, .ref aMl, .ref aMu, .ref aMP, .ref aMD, .int (nI lk), .ref aMC, .ref aMO, .int gn, .int gl, .int gg, .ref aMY, .int nn, .int nl, .int nu, .ref aMS, .long hs])), (aMY, .inl (cyJ, 144, .inr (.inl yb)))] s.heap.size) [(aM, .inr (7, [.int th, .int (nI n), .int (nI cnt), .ref aMF, .ref aMT, .ref aMN, .ref aML, .ref aMU, .int (nI ml), .ref aMB, .int (nI sg), .int (nI rm), .int (nI mdg), .int (nI mnb), .int (bI mng), .ref aMf, .ref aMt, .ref aMn, .ref aMl, .ref aMu, .ref aMP, .ref aMD, .int (nI lk), .ref aMC, .ref aMO, .int gn, .int gl, .int gg, .ref aMY, .int nn, .int nl, .int nu, .ref aMS, .long hs])), (aMY, .inl (cyJ, 144, .inr (.inl (bnd yb a b x))))]) (va_A [(aM, .inr (7, [.int th, .int (nI n), .int (nI cnt), .ref aMF, .ref aMT, .ref aMN, .ref aML, .ref aMU, .int (nI ml), .ref aMB, .int (nI sg), .int (nI rm), .int (nI mdg), .int (nI mnb), .int (bI mng), .ref aMf, .ref aMt, .ref aMn, .ref aMl, .ref aMu, .ref aMP, .ref aMD, .int (nI lk), .ref aMC, .ref aMO, .int gn, .int gl, .int gg, .ref aMY, .int nn, .int nl, .int nu, .ref aMS, .long hs])), (aMY, .inl (cyJ, 144, .inr (.inl yb)))] s.heap.size)) ([.ref aM, .int (nI a), .int (nI b), .long x] : List Value).toArray s 0 0 (va_A [(aM, .inr (7, [.int th, .int (nI n), .int (nI cnt), .ref aMF, .ref aMT, .ref aMN, .ref aML, .ref aMU, .int (nI ml), .ref aMB, .int (nI sg), .int (nI rm), .int (nI mdg), .int (nI mnb), .int (bI mng), .ref aMf, .ref aMt, .ref aMn, .ref aMl, .ref aMu, .ref aMP, .ref aMD, .int (nI lk), .ref aMC, .ref aMO, .int gn, .int gl, .int gg, .ref aMY, .int nn, .int nl, .int nu, .ref aMS, .long hs])), (aMY, .inl (cyJ, 144, .inr (.inl yb)))] s.heap.size) := ⟨_, rfl⟩
  rw [← hQe]
  generalize hAe : va_A [(aM, .inr (7, [.int th, .int (nI n), .int (nI cnt), .ref aMF, .ref aMT, .ref aMN, .ref aML, .ref aMU, .int (nI ml), .ref aMB, .int (nI sg), .int (nI rm), .int (nI mdg), .int (nI mnb), .int (bI mng), .ref aMf, .ref aMt, .ref aMn, .ref aMl, .ref aMu, .ref aMP, .ref aMD, .int (nI lk), .ref aMC, .ref aMO, .int gn, .int gl, .int gg, .ref aMY, .int nn, .int nl, .int nu, .ref aMS, .long hs])), (aMY, .inl (cyJ, 144, .inr (.inl yb)))] s.heap.size = A at hD hQe
  have hA : ∀ q : Nat, s.heap.size ≤ q → A q := fun q h => by rw [← hAe]; exact Or.inr h
  obtain ⟨H, hHe⟩ : ∃ H : Heap, H = s.heap := ⟨_, rfl⟩
  have hS : va_S A s.heap H [] := by rw [hHe]; exact va_S.rf
  rw [← hHe] at hP ⊢
  have hl := lv_entry ([.ref aM, .int (nI a), .int (nI b), .long x]) (n := 5) (Nat.le_of_ble_eq_true rfl)
  rw [lg_entry_eq]
  generalize (lg_sl ([.ref aM, .int (nI a), .int (nI b), .long x]) ++ List.replicate (5 - (lg_sl ([.ref aM, .int (nI a), .int (nI b), .long x])).length) Slot.unset).toArray = ls at hl ⊢
  have hl : lv_has ls 5 [(0, .ref aM), (1, .int (nI a)), (2, .int (nI b)), (3, .long x)] := hl
  refine lv_lload_n hx hb dX7_bound_0 rfl (lv_at hl 3 rfl) ?_
  refine lv_aload_n hx hb dX7_bound_1 rfl (lv_at hl 0 rfl) ?_
  refine va_get (D := (dC, dI)) (ci := 7) (v := .ref aMY) (C := RX7) (T := TX7) (N := 34) hx hb hts iX7 hown hK hP 0 rfl rfl 28 (by decide) w0 (fun _ h9 => h9) rfl dX7_bound_2 ?_
  refine lv_bipush (v := 12) hx hb dX7_bound_5 (by decide) ?_
  refine lv_iload_n hx hb dX7_bound_7 rfl (lv_at hl 1 rfl) ?_
  refine lv_imul hx hb dX7_bound_8 ?_
  refine lv_topi (fun x1 e2 => ?_)
  obtain rfl : x1 = (nI (12 * a)) := by rw [e2]; exact pk_mul 12 a
  clear e2
  refine lv_iload_n hx hb dX7_bound_9 rfl (lv_at hl 2 rfl) ?_
  refine lv_iadd hx hb dX7_bound_10 ?_
  refine lv_topi (fun x3 e4 => ?_)
  obtain rfl : x3 = (nI ((12 * a) + b)) := by rw [e4]; exact nI_add (12 * a) b
  clear e4
  have h5 : vp_in (nI ((12 * a) + b)) 144 := by first | exact vp_in_nI (by omega) (by omega) | assumption
  refine va_lald hx hb hK hP 1 2 rfl rfl h5 dX7_bound_11 ?_
  refine lv_topl (fun x6 e7 => ?_)
  obtain rfl : x6 = (yb ((12 * a) + b)) := by rw [e7, nI_clamp (by omega)]
  clear e7
  refine W.lcmp hx hb dX7_bound_12 ?_
  refine lv_if_ge (tgt := 28) hx hb dX7_bound_13 (by decide) (fun c13 => ?_) (fun c13 => ?_)
  · have c13 := lc_ge_t c13
    have q8 : (bnd yb a b x) = yb := by simp only [bnd]; first | (rw [if_pos c13]; done) | (rw [if_neg c13]; done)
    have hP9 : va_P (dC, dI) vwCl [(aM, .inr (7, [.int th, .int (nI n), .int (nI cnt), .ref aMF, .ref aMT, .ref aMN, .ref aML, .ref aMU, .int (nI ml), .ref aMB, .int (nI sg), .int (nI rm), .int (nI mdg), .int (nI mnb), .int (bI mng), .ref aMf, .ref aMt, .ref aMn, .ref aMl, .ref aMu, .ref aMP, .ref aMD, .int (nI lk), .ref aMC, .ref aMO, .int gn, .int gl, .int gg, .ref aMY, .int nn, .int nl, .int nu, .ref aMS, .long hs])), (aMY, .inl (cyJ, 144, .inr (.inl (bnd yb a b x))))] H := by first | (rw [q8]; exact hP.sub [0, 1] rfl) | (simp only [q8]; exact hP.sub [0, 1] rfl) | exact hP.sub [0, 1] rfl
    have hD9 : va_D A [(aM, .inr (7, [.int th, .int (nI n), .int (nI cnt), .ref aMF, .ref aMT, .ref aMN, .ref aML, .ref aMU, .int (nI ml), .ref aMB, .int (nI sg), .int (nI rm), .int (nI mdg), .int (nI mnb), .int (bI mng), .ref aMf, .ref aMt, .ref aMn, .ref aMl, .ref aMu, .ref aMP, .ref aMD, .int (nI lk), .ref aMC, .ref aMO, .int gn, .int gl, .int gg, .ref aMY, .int nn, .int nl, .int nu, .ref aMS, .long hs])), (aMY, .inl (cyJ, 144, .inr (.inl (bnd yb a b x))))] := by first | (rw [q8]; exact hD.sub [0, 1] (by decide) rfl) | (simp only [q8]; exact hD.sub [0, 1] (by decide) rfl) | exact hD.sub [0, 1] (by decide) rfl
    rw [hQe]
    exact W.vret hx hb hr (fun t ht hW => ⟨⟨(), rfl, trivial, by rw [ht]; exact hP9, va_K.moved hW.alike hK, hD9⟩, hS.F ht⟩) hS.2.2 dX7_bound_28
  · have c13 := lc_ge_f c13
    refine lv_aload_n hx hb dX7_bound_16 rfl (lv_at hl 0 rfl) ?_
    refine va_get (D := (dC, dI)) (ci := 7) (v := .ref aMY) (C := RX7) (T := TX7) (N := 34) hx hb hts iX7 hown hK hP 0 rfl rfl 28 (by decide) w0 (fun _ h9 => h9) rfl dX7_bound_17 ?_
    refine lv_bipush (v := 12) hx hb dX7_bound_20 (by decide) ?_
    refine lv_iload_n hx hb dX7_bound_22 rfl (lv_at hl 1 rfl) ?_
    refine lv_imul hx hb dX7_bound_23 ?_
    refine lv_topi (fun x9 e10 => ?_)
    obtain rfl : x9 = (nI (12 * a)) := by rw [e10]; exact pk_mul 12 a
    clear e10
    refine lv_iload_n hx hb dX7_bound_24 rfl (lv_at hl 2 rfl) ?_
    refine lv_iadd hx hb dX7_bound_25 ?_
    refine lv_topi (fun x11 e12 => ?_)
    obtain rfl : x11 = (nI ((12 * a) + b)) := by rw [e12]; exact nI_add (12 * a) b
    clear e12
    refine lv_lload_n hx hb dX7_bound_26 rfl (lv_at hl 3 rfl) ?_
    have h13 : vp_in (nI ((12 * a) + b)) 144 := by first | exact vp_in_nI (by omega) (by omega) | assumption
    refine va_last hx hb hK hP hD hS 1 2 rfl rfl h13 dX7_bound_27 (fun H locs hP hD hS => ?_)
    rw [nI_clamp (by omega)] at hP hD
    have hP : va_P (dC, dI) vwCl [(aM, .inr (7, [.int th, .int (nI n), .int (nI cnt), .ref aMF, .ref aMT, .ref aMN, .ref aML, .ref aMU, .int (nI ml), .ref aMB, .int (nI sg), .int (nI rm), .int (nI mdg), .int (nI mnb), .int (bI mng), .ref aMf, .ref aMt, .ref aMn, .ref aMl, .ref aMu, .ref aMP, .ref aMD, .int (nI lk), .ref aMC, .ref aMO, .int gn, .int gl, .int gg, .ref aMY, .int nn, .int nl, .int nu, .ref aMS, .long hs])), (aMY, .inl (cyJ, 144, .inr (.inl (vp_updL yb ((12 * a) + b) x))))] H := hP
    have hD : va_D A [(aM, .inr (7, [.int th, .int (nI n), .int (nI cnt), .ref aMF, .ref aMT, .ref aMN, .ref aML, .ref aMU, .int (nI ml), .ref aMB, .int (nI sg), .int (nI rm), .int (nI mdg), .int (nI mnb), .int (bI mng), .ref aMf, .ref aMt, .ref aMn, .ref aMl, .ref aMu, .ref aMP, .ref aMD, .int (nI lk), .ref aMC, .ref aMO, .int gn, .int gl, .int gg, .ref aMY, .int nn, .int nl, .int nu, .ref aMS, .long hs])), (aMY, .inl (cyJ, 144, .inr (.inl (vp_updL yb ((12 * a) + b) x))))] := hD
    have q14 : (bnd yb a b x) = (vp_updL yb ((12 * a) + b) x) := by simp only [bnd]; first | (rw [if_pos c13]; done) | (rw [if_neg c13]; done)
    have hP9 : va_P (dC, dI) vwCl [(aM, .inr (7, [.int th, .int (nI n), .int (nI cnt), .ref aMF, .ref aMT, .ref aMN, .ref aML, .ref aMU, .int (nI ml), .ref aMB, .int (nI sg), .int (nI rm), .int (nI mdg), .int (nI mnb), .int (bI mng), .ref aMf, .ref aMt, .ref aMn, .ref aMl, .ref aMu, .ref aMP, .ref aMD, .int (nI lk), .ref aMC, .ref aMO, .int gn, .int gl, .int gg, .ref aMY, .int nn, .int nl, .int nu, .ref aMS, .long hs])), (aMY, .inl (cyJ, 144, .inr (.inl (bnd yb a b x))))] H := by first | (rw [q14]; exact hP.sub [0, 1] rfl) | (simp only [q14]; exact hP.sub [0, 1] rfl) | exact hP.sub [0, 1] rfl
    have hD9 : va_D A [(aM, .inr (7, [.int th, .int (nI n), .int (nI cnt), .ref aMF, .ref aMT, .ref aMN, .ref aML, .ref aMU, .int (nI ml), .ref aMB, .int (nI sg), .int (nI rm), .int (nI mdg), .int (nI mnb), .int (bI mng), .ref aMf, .ref aMt, .ref aMn, .ref aMl, .ref aMu, .ref aMP, .ref aMD, .int (nI lk), .ref aMC, .ref aMO, .int gn, .int gl, .int gg, .ref aMY, .int nn, .int nl, .int nu, .ref aMS, .long hs])), (aMY, .inl (cyJ, 144, .inr (.inl (bnd yb a b x))))] := by first | (rw [q14]; exact hD.sub [0, 1] (by decide) rfl) | (simp only [q14]; exact hD.sub [0, 1] (by decide) rfl) | exact hD.sub [0, 1] (by decide) rfl
    rw [hQe]
    exact W.vret hx hb hr (fun t ht hW => ⟨⟨(), rfl, trivial, by rw [ht]; exact hP9, va_K.moved hW.alike hK, hD9⟩, hS.F ht⟩) hS.2.2 dX7_bound_28
set_option maxHeartbeats 4000000 in
set_option maxRecDepth 100000 in
theorem c_X7_told (l : Launch) (dC : Nat → ClassId) (dI : Nat → Nat → Nat) (cyI cyZ cyJ cyD : ClassId) (aM aMF aMT aMN aML aMU aMB aMf aMt aMn aMl aMu aMP aMD aMC aMO aMY aMS : Nat) (zH : Nat) (th : Int32) (n : Nat) (cnt : Nat) (ml : Nat) (sg : Nat) (rm : Nat) (mdg : Nat) (mnb : Nat) (mng : Bool) (lk : Nat) (gn : Int32) (gl : Int32) (gg : Int32) (nn : Int32) (nl : Int32) (nu : Int32) (hs : Int64) (F : Nat → Nat) (T : Nat → Nat) (nm : Nat → Int32) (lo : Nat → Int32) (up : Nat → Int32) (d : Nat) (q : Nat) (hd : d < 20) (hq : q < 10) : Met l yX7_told wsX7_told ({ frames := 0, cells := 0, slots := 0, locals := 0 } : Room) (va_Pc [.ref aM, .int (nI d), .int (nI q)] (fun U => U.heap.size = zH ∧ va_P (dC, dI) vwCl [(aM, .inr (7, [.int th, .int (nI n), .int (nI cnt), .ref aMF, .ref aMT, .ref aMN, .ref aML, .ref aMU, .int (nI ml), .ref aMB, .int (nI sg), .int (nI rm), .int (nI mdg), .int (nI mnb), .int (bI mng), .ref aMf, .ref aMt, .ref aMn, .ref aMl, .ref aMu, .ref aMP, .ref aMD, .int (nI lk), .ref aMC, .ref aMO, .int gn, .int gl, .int gg, .ref aMY, .int nn, .int nl, .int nu, .ref aMS, .long hs])), (aMF, .inl (cyI, 20, .inl (fun j_ => nI (F j_)))), (aMT, .inl (cyI, 20, .inl (fun j_ => nI (T j_)))), (aMN, .inl (cyI, 20, .inl nm)), (aML, .inl (cyI, 20, .inl lo)), (aMU, .inl (cyI, 20, .inl up))] U.heap ∧ va_K (dC, dI) vwCl [(cyI, .int), (cyZ, .boolean), (cyJ, .long), (cyD, .double)] U ∧ va_D (fun _ => True) [(aM, .inr (7, [.int th, .int (nI n), .int (nI cnt), .ref aMF, .ref aMT, .ref aMN, .ref aML, .ref aMU, .int (nI ml), .ref aMB, .int (nI sg), .int (nI rm), .int (nI mdg), .int (nI mnb), .int (bI mng), .ref aMf, .ref aMt, .ref aMn, .ref aMl, .ref aMu, .ref aMP, .ref aMD, .int (nI lk), .ref aMC, .ref aMO, .int gn, .int gl, .int gg, .ref aMY, .int nn, .int nl, .int nu, .ref aMS, .long hs])), (aMF, .inl (cyI, 20, .inl (fun j_ => nI (F j_)))), (aMT, .inl (cyI, 20, .inl (fun j_ => nI (T j_)))), (aMN, .inl (cyI, 20, .inl nm)), (aML, .inl (cyI, 20, .inl lo)), (aMU, .inl (cyI, 20, .inl up))])) (va_Qi (fun (r : Int32) (_ : Unit) => r = tld F T nm lo up d q) (fun _ t => va_P (dC, dI) vwCl [(aM, .inr (7, [.int th, .int (nI n), .int (nI cnt), .ref aMF, .ref aMT, .ref aMN, .ref aML, .ref aMU, .int (nI ml), .ref aMB, .int (nI sg), .int (nI rm), .int (nI mdg), .int (nI mnb), .int (bI mng), .ref aMf, .ref aMt, .ref aMn, .ref aMl, .ref aMu, .ref aMP, .ref aMD, .int (nI lk), .ref aMC, .ref aMO, .int gn, .int gl, .int gg, .ref aMY, .int nn, .int nl, .int nu, .ref aMS, .long hs])), (aMF, .inl (cyI, 20, .inl (fun j_ => nI (F j_)))), (aMT, .inl (cyI, 20, .inl (fun j_ => nI (T j_)))), (aMN, .inl (cyI, 20, .inl nm)), (aML, .inl (cyI, 20, .inl lo)), (aMU, .inl (cyI, 20, .inl up))] t.heap ∧ va_K (dC, dI) vwCl [(cyI, .int), (cyZ, .boolean), (cyJ, .long), (cyD, .double)] t ∧ va_D (va_A [(aM, .inr (7, [.int th, .int (nI n), .int (nI cnt), .ref aMF, .ref aMT, .ref aMN, .ref aML, .ref aMU, .int (nI ml), .ref aMB, .int (nI sg), .int (nI rm), .int (nI mdg), .int (nI mnb), .int (bI mng), .ref aMf, .ref aMt, .ref aMn, .ref aMl, .ref aMu, .ref aMP, .ref aMD, .int (nI lk), .ref aMC, .ref aMO, .int gn, .int gl, .int gg, .ref aMY, .int nn, .int nl, .int nu, .ref aMS, .long hs])), (aMF, .inl (cyI, 20, .inl (fun j_ => nI (F j_)))), (aMT, .inl (cyI, 20, .inl (fun j_ => nI (T j_)))), (aMN, .inl (cyI, 20, .inl nm)), (aML, .inl (cyI, 20, .inl lo)), (aMU, .inl (cyI, 20, .inl up))] zH) [(aM, .inr (7, [.int th, .int (nI n), .int (nI cnt), .ref aMF, .ref aMT, .ref aMN, .ref aML, .ref aMU, .int (nI ml), .ref aMB, .int (nI sg), .int (nI rm), .int (nI mdg), .int (nI mnb), .int (bI mng), .ref aMf, .ref aMt, .ref aMn, .ref aMl, .ref aMu, .ref aMP, .ref aMD, .int (nI lk), .ref aMC, .ref aMO, .int gn, .int gl, .int gg, .ref aMY, .int nn, .int nl, .int nu, .ref aMS, .long hs])), (aMF, .inl (cyI, 20, .inl (fun j_ => nI (F j_)))), (aMT, .inl (cyI, 20, .inl (fun j_ => nI (T j_)))), (aMN, .inl (cyI, 20, .inl nm)), (aML, .inl (cyI, 20, .inl lo)), (aMU, .inl (cyI, 20, .inl up))]) (va_A [(aM, .inr (7, [.int th, .int (nI n), .int (nI cnt), .ref aMF, .ref aMT, .ref aMN, .ref aML, .ref aMU, .int (nI ml), .ref aMB, .int (nI sg), .int (nI rm), .int (nI mdg), .int (nI mnb), .int (bI mng), .ref aMf, .ref aMt, .ref aMn, .ref aMl, .ref aMu, .ref aMP, .ref aMD, .int (nI lk), .ref aMC, .ref aMO, .int gn, .int gl, .int gg, .ref aMY, .int nn, .int nl, .int nu, .ref aMS, .long hs])), (aMF, .inl (cyI, 20, .inl (fun j_ => nI (F j_)))), (aMT, .inl (cyI, 20, .inl (fun j_ => nI (T j_)))), (aMN, .inl (cyI, 20, .inl nm)), (aML, .inl (cyI, 20, .inl lo)), (aMU, .inl (cyI, 20, .inl up))] zH)) 0 0 (va_A [(aM, .inr (7, [.int th, .int (nI n), .int (nI cnt), .ref aMF, .ref aMT, .ref aMN, .ref aML, .ref aMU, .int (nI ml), .ref aMB, .int (nI sg), .int (nI rm), .int (nI mdg), .int (nI mnb), .int (bI mng), .ref aMf, .ref aMt, .ref aMn, .ref aMl, .ref aMu, .ref aMP, .ref aMD, .int (nI lk), .ref aMC, .ref aMO, .int gn, .int gl, .int gg, .ref aMY, .int nn, .int nl, .int nu, .ref aMS, .long hs])), (aMF, .inl (cyI, 20, .inl (fun j_ => nI (F j_)))), (aMT, .inl (cyI, 20, .inl (fun j_ => nI (T j_)))), (aMN, .inl (cyI, 20, .inl nm)), (aML, .inl (cyI, 20, .inl lo)), (aMU, .inl (cyI, 20, .inl up))] zH) := by
  refine Met.ofW (cc := cX7_told) (maxL := 3) (ret := (some .int)) (by decide) rfl ?_
  intro pM eM s mM args blM mtM cM s₁ BM hml hv
  obtain ⟨rfl, hsz, hP, hK, hD0⟩ := hv
  have hx := BM.exec
  have hb := BM.bytes
  have hr := BM.returns
  have hts := atoms_spec (ws := wsX7_told) BM.pre
  have hown : s.vm.findClass RX7 = some mM.cls := findClass_of_methodNamed BM.named
  have hlocks := BM.notSynchronized
  have w0 := hts (.fieldLink RX7 26 "DimensionCheckerModel" "upper" "[I") (by decide +kernel)
  have w1 := hts (.fieldLink RX7 23 "DimensionCheckerModel" "lower" "[I") (by decide +kernel)
  have w2 := hts (.fieldLink RX7 20 "DimensionCheckerModel" "nominal" "[I") (by decide +kernel)
  have w3 := hts (.fieldLink RX7 17 "DimensionCheckerModel" "to" "[I") (by decide +kernel)
  have w4 := hts (.fieldLink RX7 13 "DimensionCheckerModel" "from" "[I") (by decide +kernel)
  have iX7 : ∀ w ∈ wsX70, w ∈ wsX7_told := by decide +kernel
  subst hsz
  have hD := hD0.self (sz := s.heap.size)
  obtain ⟨Q, hQe⟩ : ∃ Q : State → Prop, Q = MQ blM (va_Qi (fun (r : Int32) (_ : Unit) => r = tld F T nm lo up d q) (fun _ t => va_P (dC, dI) vwCl [(aM, .inr (7, [.int th, .int (nI n), .int (nI cnt), .ref aMF, .ref aMT, .ref aMN, .ref aML, .ref aMU, .int (nI ml), .ref aMB, .int (nI sg), .int (nI rm), .int (nI mdg), .int (nI mnb), .int (bI mng), .ref aMf, .ref aMt, .ref aMn, .ref aMl, .ref aMu, .ref aMP, .ref aMD, .int (nI lk), .ref aMC, .ref aMO, .int gn, .int gl, .int gg, .ref aMY, .int nn, .int nl, .int nu, .ref aMS, .long hs])), (aMF, .inl (cyI, 20, .inl (fun j_ => nI (F j_)))), (aMT, .inl (cyI, 20, .inl (fun j_ => nI (T j_)))), (aMN, .inl (cyI, 20, .inl nm)), (aML, .inl (cyI, 20, .inl lo)), (aMU, .inl (cyI, 20, .inl up))] t.heap ∧ va_K (dC, dI) vwCl [(cyI, .int), (cyZ, .boolean), (cyJ, .long), (cyD, .double)] t ∧ va_D (va_A [(aM, .inr (7, [.int th, .int (nI n), .int (nI cnt), .ref aMF, .ref aMT, .ref aMN, .ref aML, .ref aMU, .int (nI ml), .ref aMB, .int (nI sg), .int (nI rm), .int (nI mdg), .int (nI mnb), .int (bI mng), .ref aMf, .ref aMt, .ref aMn, .ref aMl, .ref aMu, .ref aMP, .ref aMD, .int (nI lk), .ref aMC, .ref aMO, .int gn, .int gl, .int gg, .ref aMY, .int nn, .int nl, .int nu, .ref aMS, .long hs])), (aMF, .inl (cyI, 20, .inl (fun j_ => nI (F j_)))), (aMT, .inl (cyI, 20, .inl (fun j_ => nI (T j_)))), (aMN, .inl (cyI, 20, .inl nm)), (aML, .inl (cyI, 20, .inl lo)), (aMU, .inl (cyI, 20, .inl up))] s.heap.size) [(aM, .inr (7, [.int th, .int (nI n), .int (nI cnt), .ref aMF, .ref aMT, .ref aMN, .ref aML, .ref aMU, .int (nI ml), .ref aMB, .int (nI sg), .int (nI rm), .int (nI mdg), .int (nI mnb), .int (bI mng), .ref aMf, .ref aMt, .ref aMn, .ref aMl, .ref aMu, .ref aMP, .ref aMD, .int (nI lk), .ref aMC, .ref aMO, .int gn, .int gl, .int gg, .ref aMY, .int nn, .int nl, .int nu, .ref aMS, .long hs])), (aMF, .inl (cyI, 20, .inl (fun j_ => nI (F j_)))), (aMT, .inl (cyI, 20, .inl (fun j_ => nI (T j_)))), (aMN, .inl (cyI, 20, .inl nm)), (aML, .inl (cyI, 20, .inl lo)), (aMU, .inl (cyI, 20, .inl up))]) (va_A [(aM, .inr (7, [.int th, .int (nI n), .int (nI cnt), .ref aMF, .ref aMT, .ref aMN, .ref aML, .ref aMU, .int (nI ml), .ref aMB, .int (nI sg), .int (nI rm), .int (nI mdg), .int (nI mnb), .int (bI mng), .ref aMf, .ref aMt, .ref aMn, .ref aMl, .ref aMu, .ref aMP, .ref aMD, .int (nI lk), .ref aMC, .ref aMO, .int gn, .int gl, .int gg, .ref aMY, .int nn, .int nl, .int nu, .ref aMS, .long hs])), (aMF, .inl (cyI, 20, .inl (fun j_ => nI (F j_)))), (aMT, .inl (cyI, 20, .inl (fun j_ => nI (T j_)))), (aMN, .inl (cyI, 20, .inl nm)), (aML, .inl (cyI, 20, .inl lo)), (aMU, .inl (cyI, 20, .inl up))] s.heap.size)) ([.ref aM, .int (nI d), .int (nI q)] : List Value).toArray s 0 0 (va_A [(aM, .inr (7, [.int th, .int (nI n), .int (nI cnt), .ref aMF, .ref aMT, .ref aMN, .ref aML, .ref aMU, .int (nI ml), .ref aMB, .int (nI sg), .int (nI rm), .int (nI mdg), .int (nI mnb), .int (bI mng), .ref aMf, .ref aMt, .ref aMn, .ref aMl, .ref aMu, .ref aMP, .ref aMD, .int (nI lk), .ref aMC, .ref aMO, .int gn, .int gl, .int gg, .ref aMY, .int nn, .int nl, .int nu, .ref aMS, .long hs])), (aMF, .inl (cyI, 20, .inl (fun j_ => nI (F j_)))), (aMT, .inl (cyI, 20, .inl (fun j_ => nI (T j_)))), (aMN, .inl (cyI, 20, .inl nm)), (aML, .inl (cyI, 20, .inl lo)), (aMU, .inl (cyI, 20, .inl up))] s.heap.size) := ⟨_, rfl⟩
  rw [← hQe]
  generalize hAe : va_A [(aM, .inr (7, [.int th, .int (nI n), .int (nI cnt), .ref aMF, .ref aMT, .ref aMN, .ref aML, .ref aMU, .int (nI ml), .ref aMB, .int (nI sg), .int (nI rm), .int (nI mdg), .int (nI mnb), .int (bI mng), .ref aMf, .ref aMt, .ref aMn, .ref aMl, .ref aMu, .ref aMP, .ref aMD, .int (nI lk), .ref aMC, .ref aMO, .int gn, .int gl, .int gg, .ref aMY, .int nn, .int nl, .int nu, .ref aMS, .long hs])), (aMF, .inl (cyI, 20, .inl (fun j_ => nI (F j_)))), (aMT, .inl (cyI, 20, .inl (fun j_ => nI (T j_)))), (aMN, .inl (cyI, 20, .inl nm)), (aML, .inl (cyI, 20, .inl lo)), (aMU, .inl (cyI, 20, .inl up))] s.heap.size = A at hD hQe
  have hA : ∀ q : Nat, s.heap.size ≤ q → A q := fun q h => by rw [← hAe]; exact Or.inr h
  obtain ⟨H, hHe⟩ : ∃ H : Heap, H = s.heap := ⟨_, rfl⟩
  have hS : va_S A s.heap H [] := by rw [hHe]; exact va_S.rf
  rw [← hHe] at hP ⊢
  have hl := lv_entry ([.ref aM, .int (nI d), .int (nI q)]) (n := 3) (Nat.le_of_ble_eq_true rfl)
  rw [lg_entry_eq]
  generalize (lg_sl ([.ref aM, .int (nI d), .int (nI q)]) ++ List.replicate (3 - (lg_sl ([.ref aM, .int (nI d), .int (nI q)])).length) Slot.unset).toArray = ls at hl ⊢
  have hl : lv_has ls 3 [(0, .ref aM), (1, .int (nI d)), (2, .int (nI q))] := hl
  refine lv_iload_n hx hb dX7_told_0 rfl (lv_at hl 2 rfl) ?_
  refine lv_if_ne (tgt := 13) hx hb dX7_told_1 (by decide) (fun c1 => ?_) (fun c1 => ?_)
  · have c1 := n_ne (a := q) (b := 0) (by omega) (by omega) c1
    refine lv_iload_n hx hb dX7_told_13 rfl (lv_at hl 2 rfl) ?_
    refine lv_iconst (v := 1) hx hb dX7_told_14 (by decide) ?_
    refine lv_icmp_ne (tgt := 27) hx hb dX7_told_15 (by decide) (fun c15 => ?_) (fun c15 => ?_)
    · have c15 := n_ne (a := q) (b := 1) (by omega) (by omega) c15
      refine lv_iload_n hx hb dX7_told_27 rfl (lv_at hl 2 rfl) ?_
      refine lv_iconst (v := 2) hx hb dX7_told_28 (by decide) ?_
      refine lv_icmp_ne (tgt := 41) hx hb dX7_told_29 (by decide) (fun c29 => ?_) (fun c29 => ?_)
      · have c29 := n_ne (a := q) (b := 2) (by omega) (by omega) c29
        refine lv_iload_n hx hb dX7_told_41 rfl (lv_at hl 2 rfl) ?_
        refine lv_iconst (v := 3) hx hb dX7_told_42 (by decide) ?_
        refine lv_icmp_ne (tgt := 55) hx hb dX7_told_43 (by decide) (fun c43 => ?_) (fun c43 => ?_)
        · have c43 := n_ne (a := q) (b := 3) (by omega) (by omega) c43
          refine lv_aload_n hx hb dX7_told_55 rfl (lv_at hl 0 rfl) ?_
          refine va_get (D := (dC, dI)) (ci := 7) (v := .ref aMU) (C := RX7) (T := TX7) (N := 34) hx hb hts iX7 hown hK hP 0 rfl rfl 7 (by decide) w0 (fun _ h9 => h9) rfl dX7_told_56 ?_
          refine lv_iload_n hx hb dX7_told_59 rfl (lv_at hl 1 rfl) ?_
          have h1 : vp_in (nI d) 20 := by first | exact vp_in_nI (by omega) (by omega) | assumption
          refine va_iald hx hb hK hP 5 0 rfl rfl h1 dX7_told_60 ?_
          refine lv_topi (fun x2 e3 => ?_)
          obtain rfl : x2 = (up d) := by rw [e3, nI_clamp (by omega)]
          clear e3
          have r4 : (up d) = (tld F T nm lo up d q) := by simp [tld, *]
          have hP9 : va_P (dC, dI) vwCl [(aM, .inr (7, [.int th, .int (nI n), .int (nI cnt), .ref aMF, .ref aMT, .ref aMN, .ref aML, .ref aMU, .int (nI ml), .ref aMB, .int (nI sg), .int (nI rm), .int (nI mdg), .int (nI mnb), .int (bI mng), .ref aMf, .ref aMt, .ref aMn, .ref aMl, .ref aMu, .ref aMP, .ref aMD, .int (nI lk), .ref aMC, .ref aMO, .int gn, .int gl, .int gg, .ref aMY, .int nn, .int nl, .int nu, .ref aMS, .long hs])), (aMF, .inl (cyI, 20, .inl (fun j_ => nI (F j_)))), (aMT, .inl (cyI, 20, .inl (fun j_ => nI (T j_)))), (aMN, .inl (cyI, 20, .inl nm)), (aML, .inl (cyI, 20, .inl lo)), (aMU, .inl (cyI, 20, .inl up))] H := by exact hP.sub [0, 1, 2, 3, 4, 5] rfl
          have hD9 : va_D A [(aM, .inr (7, [.int th, .int (nI n), .int (nI cnt), .ref aMF, .ref aMT, .ref aMN, .ref aML, .ref aMU, .int (nI ml), .ref aMB, .int (nI sg), .int (nI rm), .int (nI mdg), .int (nI mnb), .int (bI mng), .ref aMf, .ref aMt, .ref aMn, .ref aMl, .ref aMu, .ref aMP, .ref aMD, .int (nI lk), .ref aMC, .ref aMO, .int gn, .int gl, .int gg, .ref aMY, .int nn, .int nl, .int nu, .ref aMS, .long hs])), (aMF, .inl (cyI, 20, .inl (fun j_ => nI (F j_)))), (aMT, .inl (cyI, 20, .inl (fun j_ => nI (T j_)))), (aMN, .inl (cyI, 20, .inl nm)), (aML, .inl (cyI, 20, .inl lo)), (aMU, .inl (cyI, 20, .inl up))] := by exact hD.sub [0, 1, 2, 3, 4, 5] (by decide) rfl
          rw [hQe]
          exact W.iret (v := up d) hx hb hr (fun t ht hW => ⟨⟨_, (), rfl, r4, by rw [ht]; exact hP9, va_K.moved hW.alike hK, hD9⟩, hS.F ht⟩) hS.2.2 dX7_told_61
        · have c43 := n_eq (a := q) (b := 3) (by omega) (by omega) c43
          refine lv_aload_n hx hb dX7_told_46 rfl (lv_at hl 0 rfl) ?_
          refine va_get (D := (dC, dI)) (ci := 7) (v := .ref aML) (C := RX7) (T := TX7) (N := 34) hx hb hts iX7 hown hK hP 0 rfl rfl 6 (by decide) w1 (fun _ h9 => h9) rfl dX7_told_47 ?_
          refine lv_iload_n hx hb dX7_told_50 rfl (lv_at hl 1 rfl) ?_
          have h5 : vp_in (nI d) 20 := by first | exact vp_in_nI (by omega) (by omega) | assumption
          refine va_iald hx hb hK hP 4 0 rfl rfl h5 dX7_told_51 ?_
          refine lv_topi (fun x6 e7 => ?_)
          obtain rfl : x6 = (lo d) := by rw [e7, nI_clamp (by omega)]
          clear e7
          refine lv_goto (tgt := 61) hx hb dX7_told_52 (by decide) ?_
          have r8 : (lo d) = (tld F T nm lo up d q) := by simp [tld, *]
          have hP9 : va_P (dC, dI) vwCl [(aM, .inr (7, [.int th, .int (nI n), .int (nI cnt), .ref aMF, .ref aMT, .ref aMN, .ref aML, .ref aMU, .int (nI ml), .ref aMB, .int (nI sg), .int (nI rm), .int (nI mdg), .int (nI mnb), .int (bI mng), .ref aMf, .ref aMt, .ref aMn, .ref aMl, .ref aMu, .ref aMP, .ref aMD, .int (nI lk), .ref aMC, .ref aMO, .int gn, .int gl, .int gg, .ref aMY, .int nn, .int nl, .int nu, .ref aMS, .long hs])), (aMF, .inl (cyI, 20, .inl (fun j_ => nI (F j_)))), (aMT, .inl (cyI, 20, .inl (fun j_ => nI (T j_)))), (aMN, .inl (cyI, 20, .inl nm)), (aML, .inl (cyI, 20, .inl lo)), (aMU, .inl (cyI, 20, .inl up))] H := by exact hP.sub [0, 1, 2, 3, 4, 5] rfl
          have hD9 : va_D A [(aM, .inr (7, [.int th, .int (nI n), .int (nI cnt), .ref aMF, .ref aMT, .ref aMN, .ref aML, .ref aMU, .int (nI ml), .ref aMB, .int (nI sg), .int (nI rm), .int (nI mdg), .int (nI mnb), .int (bI mng), .ref aMf, .ref aMt, .ref aMn, .ref aMl, .ref aMu, .ref aMP, .ref aMD, .int (nI lk), .ref aMC, .ref aMO, .int gn, .int gl, .int gg, .ref aMY, .int nn, .int nl, .int nu, .ref aMS, .long hs])), (aMF, .inl (cyI, 20, .inl (fun j_ => nI (F j_)))), (aMT, .inl (cyI, 20, .inl (fun j_ => nI (T j_)))), (aMN, .inl (cyI, 20, .inl nm)), (aML, .inl (cyI, 20, .inl lo)), (aMU, .inl (cyI, 20, .inl up))] := by exact hD.sub [0, 1, 2, 3, 4, 5] (by decide) rfl
          rw [hQe]
          exact W.iret (v := lo d) hx hb hr (fun t ht hW => ⟨⟨_, (), rfl, r8, by rw [ht]; exact hP9, va_K.moved hW.alike hK, hD9⟩, hS.F ht⟩) hS.2.2 dX7_told_61
      · have c29 := n_eq (a := q) (b := 2) (by omega) (by omega) c29
        refine lv_aload_n hx hb dX7_told_32 rfl (lv_at hl 0 rfl) ?_
        refine va_get (D := (dC, dI)) (ci := 7) (v := .ref aMN) (C := RX7) (T := TX7) (N := 34) hx hb hts iX7 hown hK hP 0 rfl rfl 5 (by decide) w2 (fun _ h9 => h9) rfl dX7_told_33 ?_
        refine lv_iload_n hx hb dX7_told_36 rfl (lv_at hl 1 rfl) ?_
        have h9 : vp_in (nI d) 20 := by first | exact vp_in_nI (by omega) (by omega) | assumption
        refine va_iald hx hb hK hP 3 0 rfl rfl h9 dX7_told_37 ?_
        refine lv_topi (fun x10 e11 => ?_)
        obtain rfl : x10 = (nm d) := by rw [e11, nI_clamp (by omega)]
        clear e11
        refine lv_goto (tgt := 61) hx hb dX7_told_38 (by decide) ?_
        have r12 : (nm d) = (tld F T nm lo up d q) := by simp [tld, *]
        have hP9 : va_P (dC, dI) vwCl [(aM, .inr (7, [.int th, .int (nI n), .int (nI cnt), .ref aMF, .ref aMT, .ref aMN, .ref aML, .ref aMU, .int (nI ml), .ref aMB, .int (nI sg), .int (nI rm), .int (nI mdg), .int (nI mnb), .int (bI mng), .ref aMf, .ref aMt, .ref aMn, .ref aMl, .ref aMu, .ref aMP, .ref aMD, .int (nI lk), .ref aMC, .ref aMO, .int gn, .int gl, .int gg, .ref aMY, .int nn, .int nl, .int nu, .ref aMS, .long hs])), (aMF, .inl (cyI, 20, .inl (fun j_ => nI (F j_)))), (aMT, .inl (cyI, 20, .inl (fun j_ => nI (T j_)))), (aMN, .inl (cyI, 20, .inl nm)), (aML, .inl (cyI, 20, .inl lo)), (aMU, .inl (cyI, 20, .inl up))] H := by exact hP.sub [0, 1, 2, 3, 4, 5] rfl
        have hD9 : va_D A [(aM, .inr (7, [.int th, .int (nI n), .int (nI cnt), .ref aMF, .ref aMT, .ref aMN, .ref aML, .ref aMU, .int (nI ml), .ref aMB, .int (nI sg), .int (nI rm), .int (nI mdg), .int (nI mnb), .int (bI mng), .ref aMf, .ref aMt, .ref aMn, .ref aMl, .ref aMu, .ref aMP, .ref aMD, .int (nI lk), .ref aMC, .ref aMO, .int gn, .int gl, .int gg, .ref aMY, .int nn, .int nl, .int nu, .ref aMS, .long hs])), (aMF, .inl (cyI, 20, .inl (fun j_ => nI (F j_)))), (aMT, .inl (cyI, 20, .inl (fun j_ => nI (T j_)))), (aMN, .inl (cyI, 20, .inl nm)), (aML, .inl (cyI, 20, .inl lo)), (aMU, .inl (cyI, 20, .inl up))] := by exact hD.sub [0, 1, 2, 3, 4, 5] (by decide) rfl
        rw [hQe]
        exact W.iret (v := nm d) hx hb hr (fun t ht hW => ⟨⟨_, (), rfl, r12, by rw [ht]; exact hP9, va_K.moved hW.alike hK, hD9⟩, hS.F ht⟩) hS.2.2 dX7_told_61
    · have c15 := n_eq (a := q) (b := 1) (by omega) (by omega) c15
      refine lv_aload_n hx hb dX7_told_18 rfl (lv_at hl 0 rfl) ?_
      refine va_get (D := (dC, dI)) (ci := 7) (v := .ref aMT) (C := RX7) (T := TX7) (N := 34) hx hb hts iX7 hown hK hP 0 rfl rfl 4 (by decide) w3 (fun _ h9 => h9) rfl dX7_told_19 ?_
      refine lv_iload_n hx hb dX7_told_22 rfl (lv_at hl 1 rfl) ?_
      have h13 : vp_in (nI d) 20 := by first | exact vp_in_nI (by omega) (by omega) | assumption
      refine va_iald hx hb hK hP 2 0 rfl rfl h13 dX7_told_23 ?_
      refine lv_topi (fun x14 e15 => ?_)
      obtain rfl : x14 = (nI (T d)) := by rw [e15, nI_clamp (by omega)]
      clear e15
      refine lv_goto (tgt := 61) hx hb dX7_told_24 (by decide) ?_
      have r16 : (nI (T d)) = (tld F T nm lo up d q) := by simp [tld, *]
      have hP9 : va_P (dC, dI) vwCl [(aM, .inr (7, [.int th, .int (nI n), .int (nI cnt), .ref aMF, .ref aMT, .ref aMN, .ref aML, .ref aMU, .int (nI ml), .ref aMB, .int (nI sg), .int (nI rm), .int (nI mdg), .int (nI mnb), .int (bI mng), .ref aMf, .ref aMt, .ref aMn, .ref aMl, .ref aMu, .ref aMP, .ref aMD, .int (nI lk), .ref aMC, .ref aMO, .int gn, .int gl, .int gg, .ref aMY, .int nn, .int nl, .int nu, .ref aMS, .long hs])), (aMF, .inl (cyI, 20, .inl (fun j_ => nI (F j_)))), (aMT, .inl (cyI, 20, .inl (fun j_ => nI (T j_)))), (aMN, .inl (cyI, 20, .inl nm)), (aML, .inl (cyI, 20, .inl lo)), (aMU, .inl (cyI, 20, .inl up))] H := by exact hP.sub [0, 1, 2, 3, 4, 5] rfl
      have hD9 : va_D A [(aM, .inr (7, [.int th, .int (nI n), .int (nI cnt), .ref aMF, .ref aMT, .ref aMN, .ref aML, .ref aMU, .int (nI ml), .ref aMB, .int (nI sg), .int (nI rm), .int (nI mdg), .int (nI mnb), .int (bI mng), .ref aMf, .ref aMt, .ref aMn, .ref aMl, .ref aMu, .ref aMP, .ref aMD, .int (nI lk), .ref aMC, .ref aMO, .int gn, .int gl, .int gg, .ref aMY, .int nn, .int nl, .int nu, .ref aMS, .long hs])), (aMF, .inl (cyI, 20, .inl (fun j_ => nI (F j_)))), (aMT, .inl (cyI, 20, .inl (fun j_ => nI (T j_)))), (aMN, .inl (cyI, 20, .inl nm)), (aML, .inl (cyI, 20, .inl lo)), (aMU, .inl (cyI, 20, .inl up))] := by exact hD.sub [0, 1, 2, 3, 4, 5] (by decide) rfl
      rw [hQe]
      exact W.iret (v := nI (T d)) hx hb hr (fun t ht hW => ⟨⟨_, (), rfl, r16, by rw [ht]; exact hP9, va_K.moved hW.alike hK, hD9⟩, hS.F ht⟩) hS.2.2 dX7_told_61
  · have c1 := n_eq (a := q) (b := 0) (by omega) (by omega) c1
    refine lv_aload_n hx hb dX7_told_4 rfl (lv_at hl 0 rfl) ?_
    refine va_get (D := (dC, dI)) (ci := 7) (v := .ref aMF) (C := RX7) (T := TX7) (N := 34) hx hb hts iX7 hown hK hP 0 rfl rfl 3 (by decide) w4 (fun _ h9 => h9) rfl dX7_told_5 ?_
    refine lv_iload_n hx hb dX7_told_8 rfl (lv_at hl 1 rfl) ?_
    have h17 : vp_in (nI d) 20 := by first | exact vp_in_nI (by omega) (by omega) | assumption
    refine va_iald hx hb hK hP 1 0 rfl rfl h17 dX7_told_9 ?_
    refine lv_topi (fun x18 e19 => ?_)
    obtain rfl : x18 = (nI (F d)) := by rw [e19, nI_clamp (by omega)]
    clear e19
    refine lv_goto (tgt := 61) hx hb dX7_told_10 (by decide) ?_
    have r20 : (nI (F d)) = (tld F T nm lo up d q) := by simp [tld, *]
    have hP9 : va_P (dC, dI) vwCl [(aM, .inr (7, [.int th, .int (nI n), .int (nI cnt), .ref aMF, .ref aMT, .ref aMN, .ref aML, .ref aMU, .int (nI ml), .ref aMB, .int (nI sg), .int (nI rm), .int (nI mdg), .int (nI mnb), .int (bI mng), .ref aMf, .ref aMt, .ref aMn, .ref aMl, .ref aMu, .ref aMP, .ref aMD, .int (nI lk), .ref aMC, .ref aMO, .int gn, .int gl, .int gg, .ref aMY, .int nn, .int nl, .int nu, .ref aMS, .long hs])), (aMF, .inl (cyI, 20, .inl (fun j_ => nI (F j_)))), (aMT, .inl (cyI, 20, .inl (fun j_ => nI (T j_)))), (aMN, .inl (cyI, 20, .inl nm)), (aML, .inl (cyI, 20, .inl lo)), (aMU, .inl (cyI, 20, .inl up))] H := by exact hP.sub [0, 1, 2, 3, 4, 5] rfl
    have hD9 : va_D A [(aM, .inr (7, [.int th, .int (nI n), .int (nI cnt), .ref aMF, .ref aMT, .ref aMN, .ref aML, .ref aMU, .int (nI ml), .ref aMB, .int (nI sg), .int (nI rm), .int (nI mdg), .int (nI mnb), .int (bI mng), .ref aMf, .ref aMt, .ref aMn, .ref aMl, .ref aMu, .ref aMP, .ref aMD, .int (nI lk), .ref aMC, .ref aMO, .int gn, .int gl, .int gg, .ref aMY, .int nn, .int nl, .int nu, .ref aMS, .long hs])), (aMF, .inl (cyI, 20, .inl (fun j_ => nI (F j_)))), (aMT, .inl (cyI, 20, .inl (fun j_ => nI (T j_)))), (aMN, .inl (cyI, 20, .inl nm)), (aML, .inl (cyI, 20, .inl lo)), (aMU, .inl (cyI, 20, .inl up))] := by exact hD.sub [0, 1, 2, 3, 4, 5] (by decide) rfl
    rw [hQe]
    exact W.iret (v := nI (F d)) hx hb hr (fun t ht hW => ⟨⟨_, (), rfl, r20, by rw [ht]; exact hP9, va_K.moved hW.alike hK, hD9⟩, hS.F ht⟩) hS.2.2 dX7_told_61
