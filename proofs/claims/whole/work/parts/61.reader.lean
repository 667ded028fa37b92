/-! the readers beside each other -/
def okD (n : Nat) (F T : Nat → Nat) (nm lo up : Nat → Int32) (d : Nat) : Prop := F d < n ∧ T d < n ∧ ¬ F d = T d ∧ nomB (nm d) = true ∧ devB (lo d) (up d) = true
def agD (F T : Nat → Nat) (nm lo up rF rT rN rL rU : Nat → Int32) (d : Nat) : Prop := rF d = nI (F d) ∧ rT d = nI (T d) ∧ rN d = nm d ∧ rL d = lo d ∧ rU d = up d
def bR (n rm : Nat) (F T : Nat → Nat) (nm lo up rF rT rN rL rU : Nat → Int32) : Prop := ∀ d, d < rm → okD n F T nm lo up d ∧ agD F T nm lo up rF rT rN rL rU d
def r1 (n rm row k : Nat) (F : Nat → Nat) (rF : Nat → Int32) : Prop := k = rm + 1 ∧ row = rm ∧ F rm < n ∧ rF rm = nI (F rm)
def r2 (n rm row k : Nat) (F T : Nat → Nat) (rF rT : Nat → Int32) : Prop := r1 n rm row k F rF ∧ T rm < n ∧ ¬ F rm = T rm ∧ rT rm = nI (T rm)
def r3 (n rm row k : Nat) (F T : Nat → Nat) (nm rF rT rN : Nat → Int32) : Prop := r2 n rm row k F T rF rT ∧ nomB (nm rm) = true ∧ rN rm = nm rm
def dL (x : Int32) : Prop := -999 ≤ x.toInt ∧ x.toInt ≤ 999
def r4 (n rm row k : Nat) (F T : Nat → Nat) (nm lo rF rT rN rL : Nat → Int32) : Prop := r3 n rm row k F T nm rF rT rN ∧ dL (lo rm) ∧ rL rm = lo rm
def rD (mo dg sz mdg mnb : Nat) (ng mng : Bool) : Prop := 0 < dg ∧ mdg = dg ∧ mnb = sz ∧ mng = ng ∧ dg ≤ mo ∧ sz < 10 ^ dg
def rZ (dg sz mdg mnb : Nat) (ng mng : Bool) : Prop := dg = 0 ∧ mdg = 0 ∧ sz = 0 ∧ mnb = 0 ∧ mng = ng
/-- a state of the class's reader beside one of the reference's -/
def SR (n : Nat) : RS → MR → Prop
  | (pl, row, dg, sz, ng, k, F, T, nm, lo, up), (sg, rm, mdg, mnb, mng, rF, rT, rN, rL, rU) =>
    bR n rm F T nm lo up rF rT rN rL rU ∧ rm < 20 ∧
    ((pl = 0 ∧ sg = 0 ∧ k = rm) ∨
    (pl = 1 ∧ sg = 1 ∧ r1 n rm row k F rF ∧ lo rm = 0 ∧ up rm = 0) ∨
    (pl = 2 ∧ sg = 2 ∧ r2 n rm row k F T rF rT ∧ lo rm = 0 ∧ up rm = 0) ∨
    (pl = 3 ∧ sg = 3 ∧ r2 n rm row k F T rF rT ∧ lo rm = 0 ∧ up rm = 0) ∨
    (pl = 4 ∧ sg = 4 ∧ r2 n rm row k F T rF rT ∧ lo rm = 0 ∧ up rm = 0 ∧ rZ dg sz mdg mnb ng mng) ∨
    (pl = 4 ∧ sg = 5 ∧ r3 n rm row k F T nm rF rT rN ∧ lo rm = 0 ∧ up rm = 0 ∧ rL rm = 0 ∧ rU rm = 0 ∧ rD 5 dg sz mdg mnb ng mng) ∨
    (pl = 5 ∧ sg = 6 ∧ r3 n rm row k F T nm rF rT rN) ∨
    (pl = 6 ∧ sg = 7 ∧ r3 n rm row k F T nm rF rT rN ∧ rZ dg sz mdg mnb ng mng) ∨
    (pl = 6 ∧ sg = 8 ∧ r3 n rm row k F T nm rF rT rN ∧ rD 3 dg sz mdg mnb ng mng ∧ lo rm = numV ng sz) ∨
    (pl = 7 ∧ sg = 9 ∧ r4 n rm row k F T nm lo rF rT rN rL) ∨
    (pl = 8 ∧ sg = 10 ∧ r4 n rm row k F T nm lo rF rT rN rL ∧ rZ dg sz mdg mnb ng mng) ∨
    (pl = 8 ∧ sg = 11 ∧ r4 n rm row k F T nm lo rF rT rN rL ∧ rD 3 dg sz mdg mnb ng mng ∧ up rm = numV ng sz) ∨
    (pl = 9 ∧ sg = 12 ∧ r4 n rm row k F T nm lo rF rT rN rL ∧ devB (lo rm) (up rm) = true ∧ rU rm = up rm))
def bt (n : Nat) : Option RS → Option MR → Prop
  | some S, some S' => SR n S S'
  | none, none => True
  | _, _ => False
section
variable {n rm row k : Nat} {F T F' T' : Nat → Nat} {nm lo up rF rT rN rL rU nm' lo' up' rF' rT' rN' rL' rU' : Nat → Int32}
theorem bR_keep (h : bR n rm F T nm lo up rF rT rN rL rU) (e : ∀ d, d < rm → (F' d = F d ∧ T' d = T d ∧ nm' d = nm d ∧ lo' d = lo d ∧ up' d = up d) ∧ rF' d = rF d ∧ rT' d = rT d ∧ rN' d = rN d ∧ rL' d = rL d ∧ rU' d = rU d) : bR n rm F' T' nm' lo' up' rF' rT' rN' rL' rU' := by
  intro d hd
  obtain ⟨⟨e1, e2, e3, e4, e5⟩, e6, e7, e8, e9, e10⟩ := e d hd
  have := h d hd
  unfold okD agD at this ⊢
  rw [e1, e2, e3, e4, e5, e6, e7, e8, e9, e10]
  exact this
theorem bR_succ (h : bR n rm F T nm lo up rF rT rN rL rU) (h1 : okD n F T nm lo up rm) (h2 : agD F T nm lo up rF rT rN rL rU rm) : bR n (rm + 1) F T nm lo up rF rT rN rL rU := by
  intro d hd
  by_cases e : d = rm
  · rw [e]; exact ⟨h1, h2⟩
  · exact h d (by omega)
end
theorem u_lt {f : Nat → Int32} {k d : Nat} {x : Int32} (h : d < k) : upd f k x d = f d := pk_un (Nat.ne_of_lt h)
theorem uN_lt {f : Nat → Nat} {k d x : Nat} (h : d < k) : updN f k x d = f d := if_neg (Nat.ne_of_lt h)
theorem uN_s {f : Nat → Nat} {k x : Nat} : updN f k x k = x := if_pos rfl
theorem inB_c {c n : Nat} (hc : c < 128) (hn : n ≤ 12) : inB (nI c - 65) n = true ↔ 65 ≤ c ∧ c - 65 < n := by
  have h1 : (nI c - 65).toInt = (c : Int) - 65 := pk_sub_toInt (a := c) (b := 65) (by omega) (by decide)
  have h2 : (nI n).toInt = (n : Int) := nI_toInt (by omega)
  have h3 : (0 : Int32).toInt = 0 := rfl
  simp only [inB, Bool.and_eq_true, decide_eq_true_eq, Int32.lt_iff_toInt_lt, Int32.le_iff_toInt_le]
  rw [h1, h2, h3]
  omega
theorem nI_65 {c : Nat} (h : 65 ≤ c) : nI c - 65 = nI (c - 65) := pk_sub (a := c) (b := 65) h
theorem numV_toInt {ng : Bool} {sz : Nat} (h : sz < 1000000) : (numV ng sz).toInt = if ng = true then -(sz : Int) else sz := by
  cases ng with
  | true => rw [if_pos rfl]; show (-nI sz).toInt = _; rw [i32_neg (by rw [nI_toInt (by omega)]; omega), nI_toInt (by omega)]
  | false => rw [if_neg (by decide)]; exact nI_toInt (by omega)
theorem numV_nom {ng : Bool} {sz dg : Nat} (h : sz < 10 ^ dg) (hd : dg ≤ 5) : nomB (numV ng sz) = true := by
  have h5 : 10 ^ dg ≤ 10 ^ 5 := Nat.pow_le_pow_right (by decide) hd
  have h6 := numV_toInt (ng := ng) (sz := sz) (by omega)
  simp only [nomB, wtn, Bool.and_eq_true, decide_eq_true_eq, Int32.lt_iff_toInt_lt]
  have h1 : (-99999 : Int32).toInt = -99999 := by decide
  have h2 : (99999 : Int32).toInt = 99999 := by decide
  rw [h1, h2, h6]
  split <;> omega
theorem numV_dL {ng : Bool} {sz dg : Nat} (h : sz < 10 ^ dg) (hd : dg ≤ 3) : dL (numV ng sz) := by
  have h5 : 10 ^ dg ≤ 10 ^ 3 := Nat.pow_le_pow_right (by decide) hd
  have h6 := numV_toInt (ng := ng) (sz := sz) (by omega)
  unfold dL
  rw [h6]
  split <;> omega
theorem dev_sub {a b : Int32} (ha : dL a) (hb : dL b) : (¬ b - a < 0 ↔ a ≤ b) ∧ (a ≤ b → devB a b = true) := by
  obtain ⟨a1, a2⟩ := ha
  obtain ⟨b1, b2⟩ := hb
  have h3 : (b - a).toInt = b.toInt - a.toInt := by
    rw [Int32.toInt_sub]
    have e : (b.toInt - a.toInt).bmod (2 ^ 32) = b.toInt - a.toInt := by
      apply Int.bmod_eq_of_le <;> omega
    exact e
  have h0 : (0 : Int32).toInt = 0 := rfl
  constructor
  · rw [Int32.lt_iff_toInt_lt, Int32.le_iff_toInt_le, h3, h0]
    omega
  · intro q
    rw [Int32.le_iff_toInt_le] at q
    simp only [devB, Bool.and_eq_true, decide_eq_true_eq, Int32.lt_iff_toInt_lt]
    have h1 : (-999 : Int32).toInt = -999 := by decide
    have h2 : (999 : Int32).toInt = 999 := by decide
    rw [h1, h2]
    omega
theorem dgB_m {c dg mo : Nat} (h : dg ≤ mo) : dgB c dg mo = mdgB c dg mo := by
  unfold dgB mdgB
  congr 1
  apply propext
  omega
theorem d00 : devB 0 0 = true := by decide

theorem sr0 {n row dg sz rm mdg mnb c : Nat} {ng mng : Bool} {F T : Nat → Nat} {nm lo up rF rT rN rL rU : Nat → Int32} (hb : bR n rm F T nm lo up rF rT rN rL rU) (h20 : rm < 20)  (hc : c < 128) (hn : n ≤ 12) : bt n (tk n (0, row, dg, sz, ng, rm, F, T, nm, lo, up) c) (mt n (0, rm, mdg, mnb, mng, rF, rT, rN, rL, rU) c) := by
  show bt n (if 65 ≤ c ∧ c - 65 < n ∧ rm < 20 then some (1, rm, dg, sz, ng, rm + 1, updN F rm (c - 65), updN T rm (c - 65), upd nm rm 0, upd lo rm 0, upd up rm 0) else none) (if inB (nI c - 65) n = true then some (1, rm, mdg, mnb, mng, upd rF rm (nI c - 65), rT, rN, rL, rU) else none)
  by_cases q : 65 ≤ c ∧ c - 65 < n
  · rw [if_pos ⟨q.1, q.2, h20⟩, if_pos ((inB_c hc hn).mpr q)]
    exact ⟨bR_keep hb (fun d hd => ⟨⟨uN_lt hd, uN_lt hd, u_lt hd, u_lt hd, u_lt hd⟩, u_lt hd, rfl, rfl, rfl, rfl⟩), h20, Or.inr (Or.inl ⟨rfl, rfl, ⟨rfl, rfl, by rw [uN_s]; exact q.2, by rw [uN_s, pk_us]; exact nI_65 q.1⟩, pk_us, pk_us⟩)⟩
  · rw [if_neg (fun z => q ⟨z.1, z.2.1⟩), if_neg (fun z => q ((inB_c hc hn).mp z))]
    trivial

theorem sr1 {n dg sz rm mdg mnb c : Nat} {ng mng : Bool} {F T : Nat → Nat} {nm lo up rF rT rN rL rU : Nat → Int32} (hb : bR n rm F T nm lo up rF rT rN rL rU) (h20 : rm < 20) (h1 : F rm < n) (h2 : rF rm = nI (F rm)) (h3 : lo rm = 0) (h4 : up rm = 0) (hc : c < 128) (hn : n ≤ 12) : bt n (tk n (1, rm, dg, sz, ng, (rm + 1), F, T, nm, lo, up) c) (mt n (1, rm, mdg, mnb, mng, rF, rT, rN, rL, rU) c) := by
  show bt n (if 65 ≤ c ∧ c - 65 < n ∧ ¬ c - 65 = F rm then some (2, rm, dg, sz, ng, rm + 1, F, updN T rm (c - 65), nm, lo, up) else none) (if inB (nI c - 65) n = true ∧ ¬ nI c - 65 = rF rm then some (2, rm, mdg, mnb, mng, rF, upd rT rm (nI c - 65), rN, rL, rU) else none)
  by_cases q : 65 ≤ c ∧ c - 65 < n
  · have e : nI c - 65 = rF rm ↔ c - 65 = F rm := by
      rw [nI_65 q.1, h2]
      exact nI_eq (by omega) (by omega)
    by_cases w : c - 65 = F rm
    · rw [if_neg (fun z => z.2.2 w), if_neg (fun z => z.2 (e.mpr w))]
      trivial
    · rw [if_pos ⟨q.1, q.2, w⟩, if_pos ⟨(inB_c hc hn).mpr q, fun z => w (e.mp z)⟩]
      exact ⟨bR_keep hb (fun d hd => ⟨⟨rfl, uN_lt hd, rfl, rfl, rfl⟩, rfl, u_lt hd, rfl, rfl, rfl⟩), h20, Or.inr (Or.inr (Or.inl ⟨rfl, rfl, ⟨⟨rfl, rfl, h1, h2⟩, by rw [uN_s]; exact q.2, by rw [uN_s]; exact fun z => w z.symm, by rw [uN_s, pk_us]; exact nI_65 q.1⟩, h3, h4⟩))⟩
  · rw [if_neg (fun z => q ⟨z.1, z.2.1⟩), if_neg (fun z => q ((inB_c hc hn).mp z.1))]
    trivial

theorem sr2 {n dg sz rm mdg mnb c : Nat} {ng mng : Bool} {F T : Nat → Nat} {nm lo up rF rT rN rL rU : Nat → Int32} (hb : bR n rm F T nm lo up rF rT rN rL rU) (h20 : rm < 20) (h1 : r2 n rm rm (rm + 1) F T rF rT) (h3 : lo rm = 0) (h4 : up rm = 0) (hc : c < 128) (hn : n ≤ 12) : bt n (tk n (2, rm, dg, sz, ng, (rm + 1), F, T, nm, lo, up) c) (mt n (2, rm, mdg, mnb, mng, rF, rT, rN, rL, rU) c) := by
  show bt n (if c = 61 then some (3, rm, dg, sz, ng, rm + 1, F, T, nm, lo, up) else none) (if c = 61 then some (3, rm, mdg, mnb, mng, rF, rT, rN, rL, rU) else none)
  by_cases q : c = 61
  · rw [if_pos q, if_pos q]
    exact ⟨hb, h20, Or.inr (Or.inr (Or.inr (Or.inl ⟨rfl, rfl, h1, h3, h4⟩)))⟩
  · rw [if_neg q, if_neg q]
    trivial

theorem srN0 {n rm c : Nat} {ng : Bool} {F T : Nat → Nat} {nm lo up rF rT rN rL rU : Nat → Int32} (hb : bR n rm F T nm lo up rF rT rN rL rU) (h20 : rm < 20) (h1 : r2 n rm rm (rm + 1) F T rF rT) (h3 : lo rm = 0) (h4 : up rm = 0) (hc : c < 128) (hn : n ≤ 12) : bt n (tk n (4, rm, 0, 0, ng, (rm + 1), F, T, nm, lo, up) c) (mt n (4, rm, 0, 0, ng, rF, rT, rN, rL, rU) c) := by
  show bt n (if dgB c 0 5 = true then some (4, rm, 0 + 1, 0 * 10 + c - 48, ng, rm + 1, F, T, upd nm rm (numV ng (0 * 10 + c - 48)), lo, up) else if 0 < 0 ∧ c = 91 then some (5, rm, 0, 0, ng, rm + 1, F, T, nm, lo, up) else if 0 < 0 ∧ rm + 1 < 20 ∧ c = 59 then some (0, rm, 0, 0, ng, rm + 1, F, T, nm, lo, up) else none) (if mdgB c 0 5 = true then some (5, rm, 0 + 1, 10 * 0 + c - 48, ng, rF, rT, upd rN rm (numV ng (10 * 0 + c - 48)), upd rL rm 0, upd rU rm 0) else none)
  rw [dgB_m (Nat.zero_le _)]
  by_cases q : mdgB c 0 5 = true
  · have hd0 := of_decide_eq_true q
    have hs : 0 * 10 + c - 48 < 10 ^ (0 + 1) := by omega
    rw [if_pos q, if_pos q, show 10 * 0 + c - 48 = 0 * 10 + c - 48 by omega]
    exact ⟨bR_keep hb (fun d hd => ⟨⟨rfl, rfl, u_lt hd, rfl, rfl⟩, rfl, rfl, u_lt hd, u_lt hd, u_lt hd⟩), h20, Or.inr (Or.inr (Or.inr (Or.inr (Or.inr (Or.inl ⟨rfl, rfl, ⟨h1, by rw [pk_us]; exact numV_nom hs (by decide), by rw [pk_us, pk_us]⟩, h3, h4, pk_us, pk_us, ⟨by decide, rfl, rfl, rfl, by decide, hs⟩⟩)))))⟩
  · rw [if_neg q, if_neg q, if_neg (fun z => absurd z.1 (Nat.lt_irrefl _)), if_neg (fun z => absurd z.1 (Nat.lt_irrefl _))]
    trivial

theorem sr3 {n dg sz rm mdg mnb c : Nat} {ng mng : Bool} {F T : Nat → Nat} {nm lo up rF rT rN rL rU : Nat → Int32} (hb : bR n rm F T nm lo up rF rT rN rL rU) (h20 : rm < 20) (h1 : r2 n rm rm (rm + 1) F T rF rT) (h3 : lo rm = 0) (h4 : up rm = 0) (hc : c < 128) (hn : n ≤ 12) : bt n (tk n (3, rm, dg, sz, ng, (rm + 1), F, T, nm, lo, up) c) (mt n (3, rm, mdg, mnb, mng, rF, rT, rN, rL, rU) c) := by
  by_cases q : c = 45
  · have e1 : tk n (3, rm, dg, sz, ng, (rm + 1), F, T, nm, lo, up) c = some (4, rm, 0, 0, true, rm + 1, F, T, nm, lo, up) := by
      show (if c = 45 then some (4, rm, 0, 0, true, rm + 1, F, T, nm, lo, up) else tkN (4, rm, 0, 0, false, rm + 1, F, T, nm, lo, up) c) = _
      rw [if_pos q]
    have e2 : mt n (3, rm, mdg, mnb, mng, rF, rT, rN, rL, rU) c = some (4, rm, 0, 0, true, rF, rT, rN, rL, rU) := by
      show (if 3 = 3 ∧ c = 45 then some (4, rm, 0, 0, true, rF, rT, rN, rL, rU) else if 3 = 3 then mtN2 (3, rm, 0, 0, false, rF, rT, rN, rL, rU) c else mtN2 (3, rm, mdg, mnb, mng, rF, rT, rN, rL, rU) c) = _
      rw [if_pos ⟨rfl, q⟩]
    rw [e1, e2]
    exact ⟨hb, h20, Or.inr (Or.inr (Or.inr (Or.inr (Or.inl ⟨rfl, rfl, h1, h3, h4, ⟨rfl, rfl, rfl, rfl, rfl⟩⟩))))⟩
  · have e1 : tk n (3, rm, dg, sz, ng, (rm + 1), F, T, nm, lo, up) c = tk n (4, rm, 0, 0, false, (rm + 1), F, T, nm, lo, up) c := by
      show (if c = 45 then some (4, rm, 0, 0, true, rm + 1, F, T, nm, lo, up) else tkN (4, rm, 0, 0, false, rm + 1, F, T, nm, lo, up) c) = tkN (4, rm, 0, 0, false, rm + 1, F, T, nm, lo, up) c
      rw [if_neg q]
    have e2 : mt n (3, rm, mdg, mnb, mng, rF, rT, rN, rL, rU) c = mt n (4, rm, 0, 0, false, rF, rT, rN, rL, rU) c := by
      show (if 3 = 3 ∧ c = 45 then some (4, rm, 0, 0, true, rF, rT, rN, rL, rU) else if 3 = 3 then mtN2 (3, rm, 0, 0, false, rF, rT, rN, rL, rU) c else mtN2 (3, rm, mdg, mnb, mng, rF, rT, rN, rL, rU) c) = mtN2 (4, rm, 0, 0, false, rF, rT, rN, rL, rU) c
      rw [if_neg (fun z => q z.2), if_pos rfl]
      rfl
    rw [e1, e2]
    exact srN0 hb h20 h1 h3 h4 hc hn

theorem sr5 {n dg sz rm c : Nat} {ng : Bool} {F T : Nat → Nat} {nm lo up rF rT rN rL rU : Nat → Int32} (hb : bR n rm F T nm lo up rF rT rN rL rU) (h20 : rm < 20) (h1 : r3 n rm rm (rm + 1) F T nm rF rT rN) (h3 : lo rm = 0) (h4 : up rm = 0) (h5 : rL rm = 0) (h6 : rU rm = 0) (g1 : 0 < dg) (g2 : dg ≤ 5) (g3 : sz < 10 ^ dg) (hc : c < 128) (hn : n ≤ 12) : bt n (tk n (4, rm, dg, sz, ng, (rm + 1), F, T, nm, lo, up) c) (mt n (5, rm, dg, sz, ng, rF, rT, rN, rL, rU) c) := by
  show bt n (if dgB c dg 5 = true then some (4, rm, dg + 1, sz * 10 + c - 48, ng, rm + 1, F, T, upd nm rm (numV ng (sz * 10 + c - 48)), lo, up) else if 0 < dg ∧ c = 91 then some (5, rm, dg, sz, ng, rm + 1, F, T, nm, lo, up) else if 0 < dg ∧ rm + 1 < 20 ∧ c = 59 then some (0, rm, dg, sz, ng, rm + 1, F, T, nm, lo, up) else none) (if mdgB c dg 5 = true then some (5, rm, dg + 1, 10 * sz + c - 48, ng, rF, rT, upd rN rm (numV ng (10 * sz + c - 48)), upd rL rm 0, upd rU rm 0) else if c = 59 then (if rm + 1 < 20 then some (0, rm + 1, dg, sz, ng, rF, rT, rN, rL, rU) else none) else if c = 91 then some (6, rm, dg, sz, ng, rF, rT, rN, rL, rU) else none)
  rw [dgB_m g2]
  by_cases q : mdgB c dg 5 = true
  · obtain ⟨g4, g5⟩ := dg_step ((dgB_m g2).trans q) (by decide) g3
    rw [if_pos q, if_pos q, show 10 * sz + c - 48 = sz * 10 + c - 48 by omega]
    exact ⟨bR_keep hb (fun d hd => ⟨⟨rfl, rfl, u_lt hd, rfl, rfl⟩, rfl, rfl, u_lt hd, u_lt hd, u_lt hd⟩), h20, Or.inr (Or.inr (Or.inr (Or.inr (Or.inr (Or.inl ⟨rfl, rfl, ⟨h1.1, by rw [pk_us]; exact numV_nom g5 g4, by rw [pk_us, pk_us]⟩, h3, h4, pk_us, pk_us, ⟨Nat.succ_pos _, rfl, rfl, rfl, g4, g5⟩⟩)))))⟩
  · rw [if_neg q, if_neg q]
    by_cases w : c = 91
    · rw [if_pos ⟨g1, w⟩, if_neg (by omega), if_pos w]
      exact ⟨hb, h20, Or.inr (Or.inr (Or.inr (Or.inr (Or.inr (Or.inr (Or.inl ⟨rfl, rfl, h1⟩))))))⟩
    · rw [if_neg (fun z => w z.2), if_neg w]
      by_cases x : c = 59
      · rw [if_pos x]
        by_cases y : rm + 1 < 20
        · rw [if_pos ⟨g1, y, x⟩, if_pos y]
          exact ⟨bR_succ hb ⟨h1.1.1.2.2.1, h1.1.2.1, h1.1.2.2.1, h1.2.1, by rw [h3, h4]; exact d00⟩ ⟨h1.1.1.2.2.2, h1.1.2.2.2, h1.2.2, h5.trans h3.symm, h6.trans h4.symm⟩, y, Or.inl ⟨rfl, rfl, rfl⟩⟩
        · rw [if_neg (fun z => y z.2.1), if_neg y]
          trivial
      · rw [if_neg (fun z => x z.2.2), if_neg x]
        trivial

theorem sr6 {n dg sz rm mdg mnb c : Nat} {ng mng : Bool} {F T : Nat → Nat} {nm lo up rF rT rN rL rU : Nat → Int32} (hb : bR n rm F T nm lo up rF rT rN rL rU) (h20 : rm < 20) (h1 : r3 n rm rm (rm + 1) F T nm rF rT rN) (hc : c < 128) (hn : n ≤ 12) : bt n (tk n (5, rm, dg, sz, ng, (rm + 1), F, T, nm, lo, up) c) (mt n (6, rm, mdg, mnb, mng, rF, rT, rN, rL, rU) c) := by
  show bt n (if c = 43 ∨ c = 45 then some (6, rm, 0, 0, decide (c = 45), rm + 1, F, T, nm, lo, up) else none) (if c = 43 ∨ c = 45 then some (6 + 1, rm, 0, 0, decide (c = 45), rF, rT, rN, rL, rU) else none)
  by_cases q : c = 43 ∨ c = 45
  · rw [if_pos q, if_pos q]
    exact ⟨hb, h20, Or.inr (Or.inr (Or.inr (Or.inr (Or.inr (Or.inr (Or.inr (Or.inl ⟨rfl, rfl, h1, ⟨rfl, rfl, rfl, rfl, rfl⟩⟩)))))))⟩
  · rw [if_neg q, if_neg q]
    trivial

theorem sr9 {n dg sz rm mdg mnb c : Nat} {ng mng : Bool} {F T : Nat → Nat} {nm lo up rF rT rN rL rU : Nat → Int32} (hb : bR n rm F T nm lo up rF rT rN rL rU) (h20 : rm < 20) (h1 : r4 n rm rm (rm + 1) F T nm lo rF rT rN rL) (hc : c < 128) (hn : n ≤ 12) : bt n (tk n (7, rm, dg, sz, ng, (rm + 1), F, T, nm, lo, up) c) (mt n (9, rm, mdg, mnb, mng, rF, rT, rN, rL, rU) c) := by
  show bt n (if c = 43 ∨ c = 45 then some (8, rm, 0, 0, decide (c = 45), rm + 1, F, T, nm, lo, up) else none) (if c = 43 ∨ c = 45 then some (9 + 1, rm, 0, 0, decide (c = 45), rF, rT, rN, rL, rU) else none)
  by_cases q : c = 43 ∨ c = 45
  · rw [if_pos q, if_pos q]
    exact ⟨hb, h20, Or.inr (Or.inr (Or.inr (Or.inr (Or.inr (Or.inr (Or.inr (Or.inr (Or.inr (Or.inr (Or.inl ⟨rfl, rfl, h1, ⟨rfl, rfl, rfl, rfl, rfl⟩⟩))))))))))⟩
  · rw [if_neg q, if_neg q]
    trivial

theorem sr7 {n rm c : Nat} {ng : Bool} {F T : Nat → Nat} {nm lo up rF rT rN rL rU : Nat → Int32} (hb : bR n rm F T nm lo up rF rT rN rL rU) (h20 : rm < 20) (h1 : r3 n rm rm (rm + 1) F T nm rF rT rN) (hc : c < 128) (hn : n ≤ 12) : bt n (tk n (6, rm, 0, 0, ng, (rm + 1), F, T, nm, lo, up) c) (mt n (7, rm, 0, 0, ng, rF, rT, rN, rL, rU) c) := by
  show bt n (if dgB c 0 3 = true then some (6, rm, 0 + 1, 0 * 10 + c - 48, ng, rm + 1, F, T, nm, upd lo rm (numV ng (0 * 10 + c - 48)), up) else if 0 < 0 ∧ c = 44 then some (7, rm, 0, 0, ng, rm + 1, F, T, nm, lo, up) else none) (if mdgB c 0 3 = true then some (8, rm, 0 + 1, 10 * 0 + c - 48, ng, rF, rT, rN, rL, rU) else if 7 = 8 ∧ c = 44 then some (9, rm, 0, 0, ng, rF, rT, rN, upd rL rm (numV ng 0), rU) else if 7 = 11 ∧ c = 93 ∧ ¬ numV ng 0 < rL rm then some (12, rm, 0, 0, ng, rF, rT, rN, rL, upd rU rm (numV ng 0)) else none)
  rw [dgB_m (Nat.zero_le _)]
  by_cases q : mdgB c 0 3 = true
  · have hd0 := of_decide_eq_true q
    have hs : 0 * 10 + c - 48 < 10 ^ (0 + 1) := by omega
    rw [if_pos q, if_pos q, show 10 * 0 + c - 48 = 0 * 10 + c - 48 by omega]
    exact ⟨bR_keep hb (fun d hd => ⟨⟨rfl, rfl, rfl, u_lt hd, rfl⟩, rfl, rfl, rfl, rfl, rfl⟩), h20, Or.inr (Or.inr (Or.inr (Or.inr (Or.inr (Or.inr (Or.inr (Or.inr (Or.inl ⟨rfl, rfl, h1, ⟨by decide, rfl, rfl, rfl, by decide, hs⟩, pk_us⟩))))))))⟩
  · rw [if_neg q, if_neg q, if_neg (fun z => absurd z.1 (Nat.lt_irrefl _)), if_neg (fun z => absurd z.1 (by decide)), if_neg (fun z => absurd z.1 (by decide))]
    trivial

theorem sr8 {n dg sz rm c : Nat} {ng : Bool} {F T : Nat → Nat} {nm lo up rF rT rN rL rU : Nat → Int32} (hb : bR n rm F T nm lo up rF rT rN rL rU) (h20 : rm < 20) (h1 : r3 n rm rm (rm + 1) F T nm rF rT rN) (g1 : 0 < dg) (g2 : dg ≤ 3) (g3 : sz < 10 ^ dg) (h3 : lo rm = numV ng sz) (hc : c < 128) (hn : n ≤ 12) : bt n (tk n (6, rm, dg, sz, ng, (rm + 1), F, T, nm, lo, up) c) (mt n (8, rm, dg, sz, ng, rF, rT, rN, rL, rU) c) := by
  show bt n (if dgB c dg 3 = true then some (6, rm, dg + 1, sz * 10 + c - 48, ng, rm + 1, F, T, nm, upd lo rm (numV ng (sz * 10 + c - 48)), up) else if 0 < dg ∧ c = 44 then some (7, rm, dg, sz, ng, rm + 1, F, T, nm, lo, up) else none) (if mdgB c dg 3 = true then some (8, rm, dg + 1, 10 * sz + c - 48, ng, rF, rT, rN, rL, rU) else if 8 = 8 ∧ c = 44 then some (9, rm, dg, sz, ng, rF, rT, rN, upd rL rm (numV ng sz), rU) else if 8 = 11 ∧ c = 93 ∧ ¬ numV ng sz < rL rm then some (12, rm, dg, sz, ng, rF, rT, rN, rL, upd rU rm (numV ng sz)) else none)
  rw [dgB_m g2]
  by_cases q : mdgB c dg 3 = true
  · have q2 := of_decide_eq_true q
    obtain ⟨-, g5⟩ := dg_step ((dgB_m g2).trans q) (by decide) g3
    rw [if_pos q, if_pos q, show 10 * sz + c - 48 = sz * 10 + c - 48 by omega]
    exact ⟨bR_keep hb (fun d hd => ⟨⟨rfl, rfl, rfl, u_lt hd, rfl⟩, rfl, rfl, rfl, rfl, rfl⟩), h20, Or.inr (Or.inr (Or.inr (Or.inr (Or.inr (Or.inr (Or.inr (Or.inr (Or.inl ⟨rfl, rfl, h1, ⟨Nat.succ_pos _, rfl, rfl, rfl, by omega, g5⟩, pk_us⟩))))))))⟩
  · rw [if_neg q, if_neg q]
    by_cases w : c = 44
    · rw [if_pos ⟨g1, w⟩, if_pos ⟨rfl, w⟩]
      exact ⟨bR_keep hb (fun d hd => ⟨⟨rfl, rfl, rfl, rfl, rfl⟩, rfl, rfl, rfl, u_lt hd, rfl⟩), h20, Or.inr (Or.inr (Or.inr (Or.inr (Or.inr (Or.inr (Or.inr (Or.inr (Or.inr (Or.inl ⟨rfl, rfl, h1, by rw [h3]; exact numV_dL g3 g2, by rw [pk_us, h3]⟩)))))))))⟩
    · rw [if_neg (fun z => w z.2), if_neg (fun z => w z.2), if_neg (fun z => absurd z.1 (by decide))]
      trivial

theorem sr10 {n rm c : Nat} {ng : Bool} {F T : Nat → Nat} {nm lo up rF rT rN rL rU : Nat → Int32} (hb : bR n rm F T nm lo up rF rT rN rL rU) (h20 : rm < 20) (h1 : r4 n rm rm (rm + 1) F T nm lo rF rT rN rL) (hc : c < 128) (hn : n ≤ 12) : bt n (tk n (8, rm, 0, 0, ng, (rm + 1), F, T, nm, lo, up) c) (mt n (10, rm, 0, 0, ng, rF, rT, rN, rL, rU) c) := by
  show bt n (if dgB c 0 3 = true then some (8, rm, 0 + 1, 0 * 10 + c - 48, ng, rm + 1, F, T, nm, lo, upd up rm (numV ng (0 * 10 + c - 48))) else if 0 < 0 ∧ ¬ up rm - lo rm < 0 ∧ c = 93 then some (9, rm, 0, 0, ng, rm + 1, F, T, nm, lo, up) else none) (if mdgB c 0 3 = true then some (11, rm, 0 + 1, 10 * 0 + c - 48, ng, rF, rT, rN, rL, rU) else if 10 = 8 ∧ c = 44 then some (9, rm, 0, 0, ng, rF, rT, rN, upd rL rm (numV ng 0), rU) else if 10 = 11 ∧ c = 93 ∧ ¬ numV ng 0 < rL rm then some (12, rm, 0, 0, ng, rF, rT, rN, rL, upd rU rm (numV ng 0)) else none)
  rw [dgB_m (Nat.zero_le _)]
  by_cases q : mdgB c 0 3 = true
  · have hd0 := of_decide_eq_true q
    have hs : 0 * 10 + c - 48 < 10 ^ (0 + 1) := by omega
    rw [if_pos q, if_pos q, show 10 * 0 + c - 48 = 0 * 10 + c - 48 by omega]
    exact ⟨bR_keep hb (fun d hd => ⟨⟨rfl, rfl, rfl, rfl, u_lt hd⟩, rfl, rfl, rfl, rfl, rfl⟩), h20, Or.inr (Or.inr (Or.inr (Or.inr (Or.inr (Or.inr (Or.inr (Or.inr (Or.inr (Or.inr (Or.inr (Or.inl ⟨rfl, rfl, h1, ⟨by decide, rfl, rfl, rfl, by decide, hs⟩, pk_us⟩)))))))))))⟩
  · rw [if_neg q, if_neg q, if_neg (fun z => absurd z.1 (Nat.lt_irrefl _)), if_neg (fun z => absurd z.1 (by decide)), if_neg (fun z => absurd z.1 (by decide))]
    trivial

theorem sr11 {n dg sz rm c : Nat} {ng : Bool} {F T : Nat → Nat} {nm lo up rF rT rN rL rU : Nat → Int32} (hb : bR n rm F T nm lo up rF rT rN rL rU) (h20 : rm < 20) (h1 : r4 n rm rm (rm + 1) F T nm lo rF rT rN rL) (g1 : 0 < dg) (g2 : dg ≤ 3) (g3 : sz < 10 ^ dg) (h3 : up rm = numV ng sz) (hc : c < 128) (hn : n ≤ 12) : bt n (tk n (8, rm, dg, sz, ng, (rm + 1), F, T, nm, lo, up) c) (mt n (11, rm, dg, sz, ng, rF, rT, rN, rL, rU) c) := by
  show bt n (if dgB c dg 3 = true then some (8, rm, dg + 1, sz * 10 + c - 48, ng, rm + 1, F, T, nm, lo, upd up rm (numV ng (sz * 10 + c - 48))) else if 0 < dg ∧ ¬ up rm - lo rm < 0 ∧ c = 93 then some (9, rm, dg, sz, ng, rm + 1, F, T, nm, lo, up) else none) (if mdgB c dg 3 = true then some (11, rm, dg + 1, 10 * sz + c - 48, ng, rF, rT, rN, rL, rU) else if 11 = 8 ∧ c = 44 then some (9, rm, dg, sz, ng, rF, rT, rN, upd rL rm (numV ng sz), rU) else if 11 = 11 ∧ c = 93 ∧ ¬ numV ng sz < rL rm then some (12, rm, dg, sz, ng, rF, rT, rN, rL, upd rU rm (numV ng sz)) else none)
  rw [dgB_m g2]
  by_cases q : mdgB c dg 3 = true
  · have q2 := of_decide_eq_true q
    obtain ⟨-, g5⟩ := dg_step ((dgB_m g2).trans q) (by decide) g3
    rw [if_pos q, if_pos q, show 10 * sz + c - 48 = sz * 10 + c - 48 by omega]
    exact ⟨bR_keep hb (fun d hd => ⟨⟨rfl, rfl, rfl, rfl, u_lt hd⟩, rfl, rfl, rfl, rfl, rfl⟩), h20, Or.inr (Or.inr (Or.inr (Or.inr (Or.inr (Or.inr (Or.inr (Or.inr (Or.inr (Or.inr (Or.inr (Or.inl ⟨rfl, rfl, h1, ⟨Nat.succ_pos _, rfl, rfl, rfl, by omega, g5⟩, pk_us⟩)))))))))))⟩
  · rw [if_neg q, if_neg q, if_neg (show ¬ (11 = 8 ∧ c = 44) from fun z => absurd z.1 (by decide))]
    obtain ⟨e1, e2⟩ := dev_sub (a := lo rm) (b := up rm) h1.2.1 (by rw [h3]; exact numV_dL g3 g2)
    have e3 : ¬ numV ng sz < rL rm ↔ lo rm ≤ up rm := by rw [h1.2.2, h3]; exact Int32.not_lt
    by_cases w : lo rm ≤ up rm ∧ c = 93
    · rw [if_pos ⟨g1, e1.mpr w.1, w.2⟩, if_pos ⟨rfl, w.2, e3.mpr w.1⟩]
      exact ⟨bR_keep hb (fun d hd => ⟨⟨rfl, rfl, rfl, rfl, rfl⟩, rfl, rfl, rfl, rfl, u_lt hd⟩), h20, Or.inr (Or.inr (Or.inr (Or.inr (Or.inr (Or.inr (Or.inr (Or.inr (Or.inr (Or.inr (Or.inr (Or.inr (⟨rfl, rfl, h1, e2 w.1, by rw [pk_us, h3]⟩))))))))))))⟩
    · rw [if_neg (fun z => w ⟨e1.mp z.2.1, z.2.2⟩), if_neg (fun z => w ⟨e3.mp z.2.2, z.2.1⟩)]
      trivial

theorem sr12 {n dg sz rm mdg mnb c : Nat} {ng mng : Bool} {F T : Nat → Nat} {nm lo up rF rT rN rL rU : Nat → Int32} (hb : bR n rm F T nm lo up rF rT rN rL rU) (h20 : rm < 20) (h1 : r4 n rm rm (rm + 1) F T nm lo rF rT rN rL) (h3 : devB (lo rm) (up rm) = true) (h4 : rU rm = up rm) (hc : c < 128) (hn : n ≤ 12) : bt n (tk n (9, rm, dg, sz, ng, (rm + 1), F, T, nm, lo, up) c) (mt n (12, rm, mdg, mnb, mng, rF, rT, rN, rL, rU) c) := by
  show bt n (if rm + 1 < 20 ∧ c = 59 then some (0, rm, dg, sz, ng, rm + 1, F, T, nm, lo, up) else none) (if c = 59 ∧ rm + 1 < 20 then some (0, rm + 1, mdg, mnb, mng, rF, rT, rN, rL, rU) else none)
  by_cases q : rm + 1 < 20 ∧ c = 59
  · rw [if_pos q, if_pos ⟨q.2, q.1⟩]
    exact ⟨bR_succ hb ⟨h1.1.1.1.2.2.1, h1.1.1.2.1, h1.1.1.2.2.1, h1.1.2.1, h3⟩ ⟨h1.1.1.1.2.2.2, h1.1.1.2.2.2, h1.1.2.2, h1.2.2, h4⟩, q.1, Or.inl ⟨rfl, rfl, rfl⟩⟩
  · rw [if_neg q, if_neg (fun z => q ⟨z.2, z.1⟩)]
    trivial

theorem SR_step {n c : Nat} {S : RS} {S' : MR} (hn : n ≤ 12) (hc : c < 128) (h : SR n S S') : bt n (tk n S c) (mt n S' c) := by
  obtain ⟨pl, row, dg, sz, ng, k, F, T, nm, lo, up⟩ := S
  obtain ⟨sg, rm, mdg, mnb, mng, rF, rT, rN, rL, rU⟩ := S'
  obtain ⟨hb, h20, h⟩ := h
  rcases h with ⟨rfl, rfl, rfl⟩ | ⟨rfl, rfl, ⟨rfl, rfl, h1, h2⟩, h3, h4⟩ | ⟨rfl, rfl, h1, h3, h4⟩ | ⟨rfl, rfl, h1, h3, h4⟩ | ⟨rfl, rfl, h1, h3, h4, ⟨rfl, rfl, rfl, rfl, rfl⟩⟩ | ⟨rfl, rfl, h1, h3, h4, h5, h6, ⟨g1, rfl, rfl, rfl, g2, g3⟩⟩ | ⟨rfl, rfl, h1⟩ | ⟨rfl, rfl, h1, ⟨rfl, rfl, rfl, rfl, rfl⟩⟩ | ⟨rfl, rfl, h1, ⟨g1, rfl, rfl, rfl, g2, g3⟩, h3⟩ | ⟨rfl, rfl, h1⟩ | ⟨rfl, rfl, h1, ⟨rfl, rfl, rfl, rfl, rfl⟩⟩ | ⟨rfl, rfl, h1, ⟨g1, rfl, rfl, rfl, g2, g3⟩, h3⟩ | ⟨rfl, rfl, h1, h3, h4⟩
  · exact sr0 hb h20 hc hn
  · exact sr1 hb h20 h1 h2 h3 h4 hc hn
  · obtain ⟨rfl, rfl⟩ : k = rm + 1 ∧ row = rm := ⟨h1.1.1, h1.1.2.1⟩
    exact sr2 hb h20 h1 h3 h4 hc hn
  · obtain ⟨rfl, rfl⟩ : k = rm + 1 ∧ row = rm := ⟨h1.1.1, h1.1.2.1⟩
    exact sr3 hb h20 h1 h3 h4 hc hn
  · obtain ⟨rfl, rfl⟩ : k = rm + 1 ∧ row = rm := ⟨h1.1.1, h1.1.2.1⟩
    exact srN0 hb h20 h1 h3 h4 hc hn
  · obtain ⟨rfl, rfl⟩ : k = rm + 1 ∧ row = rm := ⟨h1.1.1.1, h1.1.1.2.1⟩
    exact sr5 hb h20 h1 h3 h4 h5 h6 g1 g2 g3 hc hn
  · obtain ⟨rfl, rfl⟩ : k = rm + 1 ∧ row = rm := ⟨h1.1.1.1, h1.1.1.2.1⟩
    exact sr6 hb h20 h1 hc hn
  · obtain ⟨rfl, rfl⟩ : k = rm + 1 ∧ row = rm := ⟨h1.1.1.1, h1.1.1.2.1⟩
    exact sr7 hb h20 h1 hc hn
  · obtain ⟨rfl, rfl⟩ : k = rm + 1 ∧ row = rm := ⟨h1.1.1.1, h1.1.1.2.1⟩
    exact sr8 hb h20 h1 g1 g2 g3 h3 hc hn
  · obtain ⟨rfl, rfl⟩ : k = rm + 1 ∧ row = rm := ⟨h1.1.1.1.1, h1.1.1.1.2.1⟩
    exact sr9 hb h20 h1 hc hn
  · obtain ⟨rfl, rfl⟩ : k = rm + 1 ∧ row = rm := ⟨h1.1.1.1.1, h1.1.1.1.2.1⟩
    exact sr10 hb h20 h1 hc hn
  · obtain ⟨rfl, rfl⟩ : k = rm + 1 ∧ row = rm := ⟨h1.1.1.1.1, h1.1.1.1.2.1⟩
    exact sr11 hb h20 h1 g1 g2 g3 h3 hc hn
  · obtain ⟨rfl, rfl⟩ : k = rm + 1 ∧ row = rm := ⟨h1.1.1.1.1, h1.1.1.1.2.1⟩
    exact sr12 hb h20 h1 h3 h4 hc hn
theorem SR_all {n : Nat} {inp : Nat → Nat} {S : RS} {S' : MR} {il : Nat} (hn : n ≤ 12) (hin : ∀ i, i < il → inp i < 128) (h : SR n S S') : ∀ i, i ≤ il → bt n (rdS n inp S i) (mrS n inp S' i) := by
  intro i
  induction i with
  | zero => intro _; exact h
  | succ i ih =>
    intro hi
    have ih := ih (by omega)
    simp only [rdS, mrS]
    cases e1 : rdS n inp S i with
    | none =>
      cases e2 : mrS n inp S' i with
      | none => trivial
      | some _ => rw [e1, e2] at ih; exact ih.elim
    | some _ =>
      cases e2 : mrS n inp S' i with
      | none => rw [e1, e2] at ih; exact ih.elim
      | some _ => rw [e1, e2] at ih; exact SR_step hn (hin i (by omega)) ih
theorem bt_some {n : Nat} {o : Option RS} {o' : Option MR} (h : bt n o o') : o.isSome = o'.isSome := by
  cases o with
  | none => cases o' with
    | none => rfl
    | some _ => exact h.elim
  | some _ => cases o' with
    | none => exact h.elim
    | some _ => rfl
theorem stp_congr {c c' : Nat → Bool} : ∀ m s, (∀ j, s ≤ j → j < s + m → c j = c' j) → stp c m s = stp c' m s := by
  intro m
  induction m with
  | zero => intro s _; rfl
  | succ m ih =>
    intro s h
    unfold stp
    rw [h s (Nat.le_refl _) (by omega), ih (s + 1) (fun j h1 h2 => h j (by omega) (by omega))]
theorem SR_0 {n row dg sz : Nat} {ng : Bool} {F T : Nat → Nat} {nm lo up : Nat → Int32} {mdg mnb : Nat} {mng : Bool} {rF rT rN rL rU : Nat → Int32} : SR n (0, row, dg, sz, ng, 0, F, T, nm, lo, up) (0, 0, mdg, mnb, mng, rF, rT, rN, rL, rU) := ⟨fun d hd => absurd hd (Nat.not_lt_zero _), by decide, Or.inl ⟨rfl, rfl, rfl⟩⟩
/-- the first error is the same -/
theorem rd_mr {n : Nat} {inp : Nat → Nat} {S : RS} {S' : MR} {il : Nat} (hn : n ≤ 12) (hin : ∀ i, i < il → inp i < 128) (h : SR n S S') : rdE n inp S il = mrE n inp S' il := by
  unfold rdE mrE
  refine stp_congr _ 0 (fun j _ hj => ?_)
  unfold rdC mrC
  exact bt_some (SR_all hn hin h (j + 1) (by omega))
/-- a list is one for both -/
theorem lc_ld {n : Nat} {inp : Nat → Nat} {S : RS} {S' : MR} {il : Nat} (hn : n ≤ 12) (hin : ∀ i, i < il → inp i < 128) (h : SR n S S') : lcB n inp S il = ldB n inp S' il := by
  have hb := SR_all hn hin h il (Nat.le_refl _)
  unfold lcB ldB
  cases e1 : rdS n inp S il with
  | none =>
    cases e2 : mrS n inp S' il with
    | none => rfl
    | some _ => rw [e1, e2] at hb; exact hb.elim
  | some Q =>
    cases e2 : mrS n inp S' il with
    | none => rw [e1, e2] at hb; exact hb.elim
    | some Q' =>
      rw [e1, e2] at hb
      obtain ⟨pl, row, dg, sz, ng, k, F, T, nm, lo, up⟩ := Q
      obtain ⟨sg, rm, mdg, mnb, mng, rF, rT, rN, rL, rU⟩ := Q'
      obtain ⟨-, -, hb⟩ := hb
      show (decide (pl = 9) || (decide (pl = 4) && decide (0 < dg))) = decide (sg = 5 ∨ sg = 12)
      rcases hb with ⟨rfl, rfl, -⟩ | ⟨rfl, rfl, -⟩ | ⟨rfl, rfl, -⟩ | ⟨rfl, rfl, -⟩ | ⟨rfl, rfl, -, -, -, ⟨rfl, -⟩⟩ | ⟨rfl, rfl, -, -, -, -, -, ⟨g1, -⟩⟩ | ⟨rfl, rfl, -⟩ | ⟨rfl, rfl, -⟩ | ⟨rfl, rfl, -⟩ | ⟨rfl, rfl, -⟩ | ⟨rfl, rfl, -⟩ | ⟨rfl, rfl, -⟩ | ⟨rfl, rfl, -⟩
      · rfl
      · rfl
      · rfl
      · rfl
      · rfl
      · simp [g1]
      · rfl
      · rfl
      · rfl
      · rfl
      · rfl
      · rfl
      · rfl
/-- and then the rows are good, and the same -/
theorem ld_rows {n : Nat} {inp : Nat → Nat} {S : RS} {S' : MR} {il : Nat} (hn : n ≤ 12) (hin : ∀ i, i < il → inp i < 128) (h : SR n S S') {pl row dg sz : Nat} {ng : Bool} {k : Nat} {F T : Nat → Nat} {nm lo up : Nat → Int32} (e : rdS n inp S il = some (pl, row, dg, sz, ng, k, F, T, nm, lo, up)) (hl : lcB n inp S il = true) :
    ∃ sg rm mdg mnb mng rF rT rN rL rU, mrS n inp S' il = some (sg, rm, mdg, mnb, mng, rF, rT, rN, rL, rU) ∧ k = rm + 1 ∧ rm < 20 ∧ bR n (rm + 1) F T nm lo up rF rT rN rL rU := by
  have hb := SR_all hn hin h il (Nat.le_refl _)
  rw [lcB_at e] at hl
  cases e2 : mrS n inp S' il with
  | none => rw [e, e2] at hb; exact hb.elim
  | some Q' =>
    rw [e, e2] at hb
    obtain ⟨sg, rm, mdg, mnb, mng, rF, rT, rN, rL, rU⟩ := Q'
    refine ⟨sg, rm, mdg, mnb, mng, rF, rT, rN, rL, rU, rfl, ?_⟩
    obtain ⟨hb, h20, hz⟩ := hb
    rcases hz with ⟨rfl, rfl, -⟩ | ⟨rfl, rfl, -⟩ | ⟨rfl, rfl, -⟩ | ⟨rfl, rfl, -⟩ | ⟨rfl, rfl, -, -, -, ⟨rfl, -⟩⟩ | ⟨rfl, rfl, h1, h3, h4, h5, h6, -⟩ | ⟨rfl, rfl, -⟩ | ⟨rfl, rfl, -⟩ | ⟨rfl, rfl, -⟩ | ⟨rfl, rfl, -⟩ | ⟨rfl, rfl, -⟩ | ⟨rfl, rfl, -⟩ | ⟨rfl, rfl, h1, h3, h4⟩
    · exact absurd hl Bool.false_ne_true
    · exact absurd hl Bool.false_ne_true
    · exact absurd hl Bool.false_ne_true
    · exact absurd hl Bool.false_ne_true
    · exact absurd hl Bool.false_ne_true
    · exact ⟨h1.1.1.1, h20, bR_succ hb ⟨h1.1.1.2.2.1, h1.1.2.1, h1.1.2.2.1, h1.2.1, by rw [h3, h4]; exact d00⟩ ⟨h1.1.1.2.2.2, h1.1.2.2.2, h1.2.2, h5.trans h3.symm, h6.trans h4.symm⟩⟩
    · exact absurd hl Bool.false_ne_true
    · exact absurd hl Bool.false_ne_true
    · exact absurd hl Bool.false_ne_true
    · exact absurd hl Bool.false_ne_true
    · exact absurd hl Bool.false_ne_true
    · exact absurd hl Bool.false_ne_true
    · exact ⟨h1.1.1.1.1, h20, bR_succ hb ⟨h1.1.1.1.2.2.1, h1.1.1.2.1, h1.1.1.2.2.1, h1.1.2.1, h3⟩ ⟨h1.1.1.1.2.2.2, h1.1.1.2.2.2, h1.1.2.2, h1.2.2, h4⟩⟩
