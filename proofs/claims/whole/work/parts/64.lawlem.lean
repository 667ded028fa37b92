/-! small words for the law's cases -/
theorem c01 {b : Bool} (h : (if b = true then (0 : Int32) else 1) = 0) : b = true := by
  cases b with
  | true => rfl
  | false => exact absurd h (by decide)
theorem c01f {b : Bool} (h : ¬ (if b = true then (0 : Int32) else 1) = 0) : b = false := by
  cases b with
  | true => exact absurd rfl h
  | false => rfl
theorem sd_ok {i d : Bool} (h : sdC i d = 0) : i = true ∧ d = true := by
  cases i <;> cases d <;> first | exact ⟨rfl, rfl⟩ | exact absurd h (by decide)
theorem sp_ok {n : Nat} {x y : Int32} {cn : Bool} (h : spC n x y cn = 0) : inB x n = true ∧ inB y n = true := by
  unfold spC at h
  by_cases q : (inB x n && inB y n) = true
  · rw [Bool.and_eq_true] at q; exact q
  · rw [if_pos q] at h; exact absurd h (by decide)
theorem tg_ok {n : Nat} {x y : Int32} {cn cs : Bool} (h : tgC n x y cn cs = 0) : inB x n = true ∧ inB y n = true ∧ cn = true ∧ cs = true := by
  unfold tgC at h
  by_cases q : (inB x n && inB y n) = true
  · rw [if_neg (fun z => z q)] at h
    by_cases w : (cn && cs) = true
    · rw [Bool.and_eq_true] at q w; exact ⟨q.1, q.2, w.1, w.2⟩
    · rw [if_neg w] at h; exact absurd h (by decide)
  · rw [if_pos q] at h; exact absurd h (by decide)
theorem dt_ok {n : Nat} {x y z : Int32} {cn sh : Bool} (h : dtC n x y z cn sh = 0) : inB x n = true ∧ inB y n = true ∧ wtn z 0 1998 = true ∧ cn = true ∧ sh = true := by
  unfold dtC at h
  by_cases q : (inB x n && inB y n) = true
  · rw [if_neg (fun w => w q)] at h
    by_cases u : wtn z 0 1998 = true
    · rw [if_neg (fun w => w u)] at h
      by_cases w : (cn && sh) = true
      · rw [Bool.and_eq_true] at q w; exact ⟨q.1, q.2, u, w.1, w.2⟩
      · rw [if_neg w] at h; exact absurd h (by decide)
    · rw [if_pos u] at h; exact absurd h (by decide)
  · rw [if_pos q] at h; exact absurd h (by decide)
theorem dist_ch {F T : Nat → Nat} {lo up w w' : Nat → Int32} {n cnt a b : Nat} {z : Int32} (hn : n ≤ 12) (hc : cnt ≤ 20) (hF : ∀ d, d < cnt → F d < n) (hT : ∀ d, d < cnt → T d < n) (hdv : ∀ d, d < cnt → devB (lo d) (up d) = true) (ha : a < n) (hb : b < n) (hz : wtn z 0 1998 = true) :
    csB (cD F T n cnt a b) lo up (Kc F T n cnt a b) cnt z w = shB (cD F T n cnt a b) lo up (Kc F T n cnt a b) cnt z w' ∧ (csB (cD F T n cnt a b) lo up (Kc F T n cnt a b) cnt z w = true → (apS (csW (cD F T n cnt a b) lo up (Kc F T n cnt a b) cnt z w) lo up cnt).1 = (dsS (mSH (cD F T n cnt a b) lo up (Kc F T n cnt a b) cnt z w') (cD F T n cnt a b) lo up (Kc F T n cnt a b)).1 ∧ (apS (csW (cD F T n cnt a b) lo up (Kc F T n cnt a b) cnt z w) lo up cnt).2 = (dsS (mSH (cD F T n cnt a b) lo up (Kc F T n cnt a b) cnt z w') (cD F T n cnt a b) lo up (Kc F T n cnt a b)).2 ∧ apC (csW (cD F T n cnt a b) lo up (Kc F T n cnt a b) cnt z w) lo up cnt = dsK (mSH (cD F T n cnt a b) lo up (Kc F T n cnt a b) cnt z w') (cD F T n cnt a b) lo up (Kc F T n cnt a b) ∧ ∀ d, d < cnt → devB ((apS (csW (cD F T n cnt a b) lo up (Kc F T n cnt a b) cnt z w) lo up cnt).1 d) ((apS (csW (cD F T n cnt a b) lo up (Kc F T n cnt a b) cnt z w) lo up cnt).2 d) = true) := by
  obtain ⟨h1, -, h3⟩ := Kc_facts hn hc hF hT ha hb
  exact dist_eq (by omega) hc (fun k hk => (h3 k hk).2.2.1) hdv hz
theorem dt_eq {F T : Nat → Nat} {lo up w w' : Nat → Int32} {n cnt : Nat} {x y z : Int32} (hn : n ≤ 12) (hc : cnt ≤ 20) (hF : ∀ d, d < cnt → F d < n) (hT : ∀ d, d < cnt → T d < n) (hdv : ∀ d, d < cnt → devB (lo d) (up d) = true) :
    dtC n x y z (con F T cnt x.toNatClampNeg y.toNatClampNeg) (shB (cD F T n cnt x.toNatClampNeg y.toNatClampNeg) lo up (Kc F T n cnt x.toNatClampNeg y.toNatClampNeg) cnt z w') = dtC n x y z (con F T cnt x.toNatClampNeg y.toNatClampNeg) (csB (cD F T n cnt x.toNatClampNeg y.toNatClampNeg) lo up (Kc F T n cnt x.toNatClampNeg y.toNatClampNeg) cnt z w) := by
  by_cases q : (inB x n && inB y n) = true
  · by_cases u : wtn z 0 1998 = true
    · have q2 := q
      rw [Bool.and_eq_true] at q2
      rw [(dist_ch (w := w) (w' := w') hn hc hF hT hdv (ix_lt (inB_vp q2.1 (by omega))) (ix_lt (inB_vp q2.2 (by omega))) u).1]
    · unfold dtC
      rw [if_neg (show ¬ ¬ (inB x n && inB y n) = true from fun w9 => w9 q), if_neg (show ¬ ¬ (inB x n && inB y n) = true from fun w9 => w9 q), if_pos (show ¬ wtn z 0 1998 = true from u), if_pos (show ¬ wtn z 0 1998 = true from u)]
  · unfold dtC
    rw [if_pos q, if_pos q]
theorem dg_all {F T inp : Nat → Nat} {nm lo up v : Nat → Int32} {yb : Nat → Int64} {n cnt il : Nat} (hn : n ≤ 12) (hn1 : 1 ≤ n) (hc : cnt ≤ 20) (hF : ∀ d, d < cnt → F d < n) (hT : ∀ d, d < cnt → T d < n) (hne : ∀ d, d < cnt → ¬ F d = T d) (hnm : ∀ d, d < cnt → nomB (nm d) = true) (hdv : ∀ d, d < cnt → devB (lo d) (up d) = true) (h4 : Int64) :
    dgI inp (31 * cgH F T nm lo up n cnt (stV n (dV F T nm lo up v n cnt) n) (stB n (dV F T nm lo up v n cnt) n) (31 * h4 + (if stB n (dV F T nm lo up v n cnt) n = true then (1 : Int64) else 0)) (n - 1) + (nI il).toInt64) il = dgI inp (31 * mgH F T nm lo up n cnt (lbK n (dY F T nm lo up yb cnt) n) (lbZ (lbK n (dY F T nm lo up yb cnt) n) n) (31 * h4 + (if lbZ (lbK n (dY F T nm lo up yb cnt) n) n = true then (1 : Int64) else 0)) (n - 1) + (nI il).toInt64) il := by
  rw [← cons_eq (v := v) (y := yb) hn hF hT hne hnm hdv, ← cg_mg (v := v) (y := yb) hn hn1 hc hF hT hne hnm hdv _ (n - 1) (Nat.le_refl _)]
theorem ite_l {α : Type} {p q : Prop} [Decidable q] [Decidable (p ∧ q)] {a b : α} (hp : p) : (if q then a else b) = (if p ∧ q then a else b) := by
  by_cases h : q
  · rw [if_pos h, if_pos ⟨hp, h⟩]
  · rw [if_neg h, if_neg (fun z => h z.2)]
