/-! the bounds of all gaps: the class's square of ints beside the reference's square of longs -/
theorem i32_add {a b : Int32} (h1 : -2147483648 ≤ a.toInt + b.toInt) (h2 : a.toInt + b.toInt ≤ 2147483647) : (a + b).toInt = a.toInt + b.toInt := by
  rw [Int32.toInt_add]
  have e : (a.toInt + b.toInt).bmod (2 ^ 32) = a.toInt + b.toInt := by
    apply Int.bmod_eq_of_le <;> omega
  exact e
theorem i32_neg {a : Int32} (h1 : -2147483648 < a.toInt) : (-a).toInt = -a.toInt := by
  have h2 := a.toInt_lt
  rw [Int32.toInt_neg]
  have e : (-a.toInt).bmod (2 ^ 32) = -a.toInt := by
    apply Int.bmod_eq_of_le <;> omega
  exact e
theorem i64_add {a b : Int64} (h1 : -9223372036854775808 ≤ a.toInt + b.toInt) (h2 : a.toInt + b.toInt ≤ 9223372036854775807) : (a + b).toInt = a.toInt + b.toInt := by
  rw [Int64.toInt_add]
  have e : (a.toInt + b.toInt).bmod (2 ^ 64) = a.toInt + b.toInt := by
    apply Int.bmod_eq_of_le <;> omega
  exact e
theorem i32_max : (1000000000 : Int32).toInt = 1000000000 := by decide
theorem i64_open : (1000000000000 : Int64).toInt = 1000000000000 := by decide
/-- a cell of the class beside one of the reference: both open, or the same number of at most M -/
def cR (M : Int) (u : Int32) (x : Int64) : Prop := (u = 1000000000 ∧ x = 1000000000000) ∨ (-M ≤ u.toInt ∧ u.toInt ≤ M ∧ x.toInt = u.toInt)
theorem cR_open {M : Int} {u : Int32} {x : Int64} (hM : M < 1000000000) (h : cR M u x) : x < 1000000000000 ↔ ¬ u = 1000000000 := by
  rw [Int64.lt_iff_toInt_lt, i64_open]
  rcases h with ⟨h1, h2⟩ | ⟨h1, h2, h3⟩
  · rw [h2, i64_open]
    exact ⟨fun q => absurd q (Int.lt_irrefl _), fun q => absurd h1 q⟩
  · refine ⟨fun _ q => ?_, fun _ => by omega⟩
    rw [q, i32_max] at h2
    omega
theorem cR_fin {M : Int} {u : Int32} {x : Int64} (h : cR M u x) (hu : ¬ u = 1000000000) : -M ≤ u.toInt ∧ u.toInt ≤ M ∧ x.toInt = u.toInt := by
  rcases h with ⟨h1, _⟩ | h
  · exact absurd h1 hu
  · exact h
theorem cR_wide {M N : Int} {u : Int32} {x : Int64} (hMN : M ≤ N) (h : cR M u x) : cR N u x := by
  rcases h with h | ⟨h1, h2, h3⟩
  · exact Or.inl h
  · exact Or.inr ⟨by omega, by omega, h3⟩
theorem cR_min {M : Int} {u c : Int32} {x y : Int64} (hM : M < 1000000000) (h1 : -M ≤ u.toInt ∧ u.toInt ≤ M ∧ x.toInt = u.toInt) (hc : cR M c y) : cR M (if u < c then u else c) (if x < y then x else y) := by
  have e : u < c ↔ x < y := by
    rw [Int32.lt_iff_toInt_lt, Int64.lt_iff_toInt_lt]
    rcases hc with ⟨h2, h3⟩ | ⟨h2, h3, h4⟩
    · rw [h2, h3, i32_max, i64_open]
      omega
    · omega
  by_cases q : u < c
  · rw [if_pos q, if_pos (e.mp q)]
    exact Or.inr h1
  · rw [if_neg q, if_neg (fun z => q (e.mpr z))]
    exact hc
/-- one place of the closing by face k -/
def fwC (v : Nat → Int32) (k a b : Nat) : Int32 := if v (a * 12 + k) = 1000000000 ∨ v (k * 12 + b) = 1000000000 then v (a * 12 + b) else (if v (a * 12 + k) + v (k * 12 + b) < v (a * 12 + b) then v (a * 12 + k) + v (k * 12 + b) else v (a * 12 + b))
def fwM (y : Nat → Int64) (k a b : Nat) : Int64 := if y (12 * a + k) < 1000000000000 ∧ y (12 * k + b) < 1000000000000 then (if y (12 * a + k) + y (12 * k + b) < y (12 * a + b) then y (12 * a + k) + y (12 * k + b) else y (12 * a + b)) else y (12 * a + b)
theorem fwC_col {v : Nat → Int32} {k : Nat} (h : v (k * 12 + k) = 0) (a : Nat) : fwC v k a k = v (a * 12 + k) := by
  unfold fwC
  rw [h, Int32.add_zero, if_neg Int32.lt_irrefl, ite_self]
theorem fwC_row {v : Nat → Int32} {k : Nat} (h : v (k * 12 + k) = 0) (b : Nat) : fwC v k k b = v (k * 12 + b) := by
  unfold fwC
  rw [h, Int32.zero_add, if_neg Int32.lt_irrefl, ite_self]
theorem fwM_col {y : Nat → Int64} {k : Nat} (h : y (12 * k + k) = 0) (a : Nat) : fwM y k a k = y (12 * a + k) := by
  unfold fwM
  rw [h, Int64.add_zero, if_neg Int64.lt_irrefl, ite_self]
theorem fwM_row {y : Nat → Int64} {k : Nat} (h : y (12 * k + k) = 0) (b : Nat) : fwM y k k b = y (12 * k + b) := by
  unfold fwM
  rw [h, Int64.zero_add, if_neg Int64.lt_irrefl, ite_self]
theorem nrw_at (v : Nat → Int32) (a b i j : Nat) (x : Int32) (hb : b < 12) (hj : j < 12) : nrw v a b x (i * 12 + j) = if i = a ∧ j = b then (if x < v (a * 12 + b) then x else v (a * 12 + b)) else v (i * 12 + j) := by
  unfold nrw upd
  by_cases e : i = a ∧ j = b
  · rw [if_pos e, e.1, e.2, if_pos rfl]
  · rw [if_neg e, if_neg (fun q => e (by omega))]
theorem bnd_at (y : Nat → Int64) (a b i j : Nat) (x : Int64) (hb : b < 12) (hj : j < 12) : bnd y a b x (12 * i + j) = if i = a ∧ j = b then (if x < y (12 * a + b) then x else y (12 * a + b)) else y (12 * i + j) := by
  unfold bnd
  by_cases e : i = a ∧ j = b
  · rw [if_pos e, e.1, e.2]
    split
    · exact pk_uLs
    · rfl
  · rw [if_neg e]
    split
    · exact pk_uLn (fun q => e (by omega))
    · rfl
theorem ntB_at {k a : Nat} {u : Nat → Int32} (hk : k < 12) (h0 : u (k * 12 + k) = 0) : ∀ b, b ≤ 12 → ∀ i j, j < 12 → ntB k a u b (i * 12 + j) = if i = a ∧ j < b then fwC u k a j else u (i * 12 + j) := by
  intro b
  induction b with
  | zero => intro _ i j _; rw [if_neg (fun q => absurd q.2 (Nat.not_lt_zero _))]; rfl
  | succ b ih =>
    intro hb i j hj
    have h1 : ntB k a u b (a * 12 + k) = u (a * 12 + k) := by
      rw [ih (by omega) a k hk]
      by_cases q : k < b
      · rw [if_pos ⟨rfl, q⟩]; exact fwC_col h0 a
      · rw [if_neg (fun z => q z.2)]
    have h2 : ntB k a u b (k * 12 + b) = u (k * 12 + b) := by
      rw [ih (by omega) k b (by omega), if_neg (fun z => absurd z.2 (Nat.lt_irrefl _))]
    have h3 : ntB k a u b (a * 12 + b) = u (a * 12 + b) := by
      rw [ih (by omega) a b (by omega), if_neg (fun z => absurd z.2 (Nat.lt_irrefl _))]
    have h4 := ih (by omega) i j hj
    simp only [ntB]
    rw [h1, h2]
    by_cases e : i = a ∧ j = b
    · rw [if_pos (⟨e.1, by omega⟩ : i = a ∧ j < b + 1), e.1, e.2]
      unfold fwC
      by_cases q : u (a * 12 + k) = 1000000000 ∨ u (k * 12 + b) = 1000000000
      · rw [if_pos q, if_pos q, h3]
      · rw [if_neg q, if_neg q, nrw_at _ _ _ _ _ _ (by omega) (by omega), if_pos ⟨rfl, rfl⟩, h3]
    · have h5 : (if i = a ∧ j < b + 1 then fwC u k a j else u (i * 12 + j)) = (if i = a ∧ j < b then fwC u k a j else u (i * 12 + j)) := by
        by_cases z : i = a ∧ j < b
        · rw [if_pos z, if_pos (⟨z.1, by omega⟩ : i = a ∧ j < b + 1)]
        · rw [if_neg z, if_neg (fun w => z ⟨w.1, by omega⟩)]
      rw [h5]
      by_cases q : u (a * 12 + k) = 1000000000 ∨ u (k * 12 + b) = 1000000000
      · rw [if_pos q, h4]
      · rw [if_neg q, nrw_at _ _ _ _ _ _ (by omega) hj, if_neg e, h4]
theorem ntA_at {n k : Nat} {v : Nat → Int32} (hn : n ≤ 12) (hk : k < 12) (h0 : v (k * 12 + k) = 0) : ∀ a, ∀ i j, j < 12 → ntA n k v a (i * 12 + j) = if i < a ∧ j < n then fwC v k i j else v (i * 12 + j) := by
  intro a
  induction a with
  | zero => intro i j _; rw [if_neg (fun q => absurd q.1 (Nat.not_lt_zero _))]; rfl
  | succ a ih =>
    intro i j hj
    have hrow : ∀ b, b < 12 → ntA n k v a (k * 12 + b) = v (k * 12 + b) := by
      intro b hb
      rw [ih k b hb]
      split
      · exact fwC_row h0 b
      · rfl
    have h1 : ntA n k v a (k * 12 + k) = 0 := (hrow k hk).trans h0
    have h2 : ∀ b, b < 12 → ntA n k v a (a * 12 + b) = v (a * 12 + b) := by
      intro b hb
      rw [ih a b hb, if_neg (fun q => absurd q.1 (Nat.lt_irrefl _))]
    simp only [ntA]
    rw [ntB_at hk h1 n hn i j hj]
    by_cases e : i = a
    · subst e
      by_cases q : j < n
      · rw [if_pos ⟨rfl, q⟩, if_pos ⟨Nat.lt_succ_self _, q⟩]
        unfold fwC
        rw [h2 k hk, hrow j hj, h2 j hj]
      · rw [if_neg (fun z => q z.2), if_neg (fun z => q z.2), h2 j hj]
    · rw [if_neg (fun z => e z.1), ih i j hj]
      by_cases q : i < a ∧ j < n
      · rw [if_pos q, if_pos ⟨by omega, q.2⟩]
      · rw [if_neg q, if_neg (fun z => q ⟨by omega, z.2⟩)]
theorem lbH_at {k a : Nat} {u : Nat → Int64} (hk : k < 12) (h0 : u (12 * k + k) = 0) : ∀ b, b ≤ 12 → ∀ i j, j < 12 → lbH k a u b (12 * i + j) = if i = a ∧ j < b then fwM u k a j else u (12 * i + j) := by
  intro b
  induction b with
  | zero => intro _ i j _; rw [if_neg (fun q => absurd q.2 (Nat.not_lt_zero _))]; rfl
  | succ b ih =>
    intro hb i j hj
    have h1 : lbH k a u b (12 * a + k) = u (12 * a + k) := by
      rw [ih (by omega) a k hk]
      by_cases q : k < b
      · rw [if_pos ⟨rfl, q⟩]; exact fwM_col h0 a
      · rw [if_neg (fun z => q z.2)]
    have h2 : lbH k a u b (12 * k + b) = u (12 * k + b) := by
      rw [ih (by omega) k b (by omega), if_neg (fun z => absurd z.2 (Nat.lt_irrefl _))]
    have h3 : lbH k a u b (12 * a + b) = u (12 * a + b) := by
      rw [ih (by omega) a b (by omega), if_neg (fun z => absurd z.2 (Nat.lt_irrefl _))]
    have h4 := ih (by omega) i j hj
    simp only [lbH]
    rw [h1, h2]
    by_cases e : i = a ∧ j = b
    · rw [if_pos (⟨e.1, by omega⟩ : i = a ∧ j < b + 1), e.1, e.2]
      unfold fwM
      by_cases q : u (12 * a + k) < 1000000000000 ∧ u (12 * k + b) < 1000000000000
      · rw [if_pos q, if_pos q, bnd_at _ _ _ _ _ _ (by omega) (by omega), if_pos ⟨rfl, rfl⟩, h3]
      · rw [if_neg q, if_neg q, h3]
    · have h5 : (if i = a ∧ j < b + 1 then fwM u k a j else u (12 * i + j)) = (if i = a ∧ j < b then fwM u k a j else u (12 * i + j)) := by
        by_cases z : i = a ∧ j < b
        · rw [if_pos z, if_pos (⟨z.1, by omega⟩ : i = a ∧ j < b + 1)]
        · rw [if_neg z, if_neg (fun w => z ⟨w.1, by omega⟩)]
      rw [h5]
      by_cases q : u (12 * a + k) < 1000000000000 ∧ u (12 * k + b) < 1000000000000
      · rw [if_pos q, bnd_at _ _ _ _ _ _ (by omega) hj, if_neg e, h4]
      · rw [if_neg q, h4]
theorem lbJ_at {n k : Nat} {v : Nat → Int64} (hn : n ≤ 12) (hk : k < 12) (h0 : v (12 * k + k) = 0) : ∀ a, ∀ i j, j < 12 → lbJ n k v a (12 * i + j) = if i < a ∧ j < n then fwM v k i j else v (12 * i + j) := by
  intro a
  induction a with
  | zero => intro i j _; rw [if_neg (fun q => absurd q.1 (Nat.not_lt_zero _))]; rfl
  | succ a ih =>
    intro i j hj
    have hrow : ∀ b, b < 12 → lbJ n k v a (12 * k + b) = v (12 * k + b) := by
      intro b hb
      rw [ih k b hb]
      split
      · exact fwM_row h0 b
      · rfl
    have h1 : lbJ n k v a (12 * k + k) = 0 := (hrow k hk).trans h0
    have h2 : ∀ b, b < 12 → lbJ n k v a (12 * a + b) = v (12 * a + b) := by
      intro b hb
      rw [ih a b hb, if_neg (fun q => absurd q.1 (Nat.lt_irrefl _))]
    simp only [lbJ]
    rw [lbH_at hk h1 n hn i j hj]
    by_cases e : i = a
    · subst e
      by_cases q : j < n
      · rw [if_pos ⟨rfl, q⟩, if_pos ⟨Nat.lt_succ_self _, q⟩]
        unfold fwM
        rw [h2 k hk, hrow j hj, h2 j hj]
      · rw [if_neg (fun z => q z.2), if_neg (fun z => q z.2), h2 j hj]
    · rw [if_neg (fun z => e z.1), ih i j hj]
      by_cases q : i < a ∧ j < n
      · rw [if_pos q, if_pos ⟨by omega, q.2⟩]
      · rw [if_neg q, if_neg (fun z => q ⟨by omega, z.2⟩)]
/-- the squares beside each other -/
def sqR (n : Nat) (M : Int) (v : Nat → Int32) (y : Nat → Int64) : Prop := ∀ a b, a < n → b < n → cR M (v (a * 12 + b)) (y (12 * a + b))
theorem fw_R {n k : Nat} {M : Int} {v : Nat → Int32} {y : Nat → Int64} (hM0 : 0 ≤ M) (hM : M < 500000000) (h : sqR n M v y) {a b : Nat} (ha : a < n) (hb : b < n) (hk : k < n) : cR (2 * M) (fwC v k a b) (fwM y k a b) := by
  have h1 := h a k ha hk
  have h2 := h k b hk hb
  have h3 := h a b ha hb
  have o1 := cR_open (by omega) h1
  have o2 := cR_open (by omega) h2
  unfold fwC fwM
  by_cases q : v (a * 12 + k) = 1000000000 ∨ v (k * 12 + b) = 1000000000
  · rw [if_pos q, if_neg (fun z => q.elim (fun w => o1.mp z.1 w) (fun w => o2.mp z.2 w))]
    exact cR_wide (by omega) h3
  · have q1 : ¬ v (a * 12 + k) = 1000000000 := fun z => q (Or.inl z)
    have q2 : ¬ v (k * 12 + b) = 1000000000 := fun z => q (Or.inr z)
    rw [if_neg q, if_pos (show y (12 * a + k) < 1000000000000 ∧ y (12 * k + b) < 1000000000000 from ⟨o1.mpr q1, o2.mpr q2⟩)]
    obtain ⟨a1, a2, a3⟩ := cR_fin h1 q1
    obtain ⟨b1, b2, b3⟩ := cR_fin h2 q2
    have e1 : (v (a * 12 + k) + v (k * 12 + b)).toInt = (v (a * 12 + k)).toInt + (v (k * 12 + b)).toInt := i32_add (by omega) (by omega)
    have e2 : (y (12 * a + k) + y (12 * k + b)).toInt = (y (12 * a + k)).toInt + (y (12 * k + b)).toInt := i64_add (by omega) (by omega)
    exact cR_min (by omega) ⟨by omega, by omega, by omega⟩ (cR_wide (by omega) h3)
theorem fwC_open {n k : Nat} {M : Int} {v : Nat → Int32} {y : Nat → Int64} (hM0 : 0 ≤ M) (hM : M < 500000000) (h : sqR n M v y) {a b : Nat} (ha : a < n) (hb : b < n) (hk : k < n) : ¬ fwC v k a b = 1000000000 ↔ (¬ v (a * 12 + b) = 1000000000 ∨ (¬ v (a * 12 + k) = 1000000000 ∧ ¬ v (k * 12 + b) = 1000000000)) := by
  have h1 := h a k ha hk
  have h2 := h k b hk hb
  unfold fwC
  by_cases q : v (a * 12 + k) = 1000000000 ∨ v (k * 12 + b) = 1000000000
  · rw [if_pos q]
    exact ⟨Or.inl, fun z => z.elim id (fun w => (q.elim w.1 w.2).elim)⟩
  · have q1 : ¬ v (a * 12 + k) = 1000000000 := fun z => q (Or.inl z)
    have q2 : ¬ v (k * 12 + b) = 1000000000 := fun z => q (Or.inr z)
    rw [if_neg q]
    obtain ⟨a1, a2, a3⟩ := cR_fin h1 q1
    obtain ⟨b1, b2, b3⟩ := cR_fin h2 q2
    have e1 : (v (a * 12 + k) + v (k * 12 + b)).toInt = (v (a * 12 + k)).toInt + (v (k * 12 + b)).toInt := i32_add (by omega) (by omega)
    have e3 : ¬ v (a * 12 + k) + v (k * 12 + b) = 1000000000 := by
      intro z
      rw [z, i32_max] at e1
      omega
    refine ⟨fun _ => Or.inr ⟨q1, q2⟩, fun _ => ?_⟩
    split
    · exact e3
    · rename_i z
      intro w
      rw [w, Int32.lt_iff_toInt_lt, e1, i32_max] at z
      omega
theorem fwC_le {v : Nat → Int32} {k a b : Nat} : (fwC v k a b).toInt ≤ (v (a * 12 + b)).toInt := by
  unfold fwC
  split
  · exact Int.le_refl _
  · split
    · rename_i q
      rw [Int32.lt_iff_toInt_lt] at q
      omega
    · exact Int.le_refl _
/-- nothing that the reference lays goes up -/
theorem bnd_le (y : Nat → Int64) (a b : Nat) (x : Int64) (j : Nat) : (bnd y a b x j).toInt ≤ (y j).toInt := by
  unfold bnd
  split
  · rename_i q
    by_cases e : j = 12 * a + b
    · rw [e, pk_uLs]
      rw [Int64.lt_iff_toInt_lt] at q
      omega
    · rw [pk_uLn e]
      exact Int.le_refl _
  · exact Int.le_refl _
theorem lbH_le (k a : Nat) (y : Nat → Int64) (j : Nat) : ∀ b, (lbH k a y b j).toInt ≤ (y j).toInt := by
  intro b
  induction b with
  | zero => exact Int.le_refl _
  | succ b ih =>
    simp only [lbH]
    split
    · exact Int.le_trans (bnd_le _ _ _ _ _) ih
    · exact ih
theorem lbJ_le (n k : Nat) (y : Nat → Int64) (j : Nat) : ∀ a, (lbJ n k y a j).toInt ≤ (y j).toInt := by
  intro a
  induction a with
  | zero => exact Int.le_refl _
  | succ a ih => exact Int.le_trans (lbH_le _ _ _ _ _) ih
theorem lbK_le (n : Nat) (y : Nat → Int64) (j : Nat) : ∀ k m, k ≤ m → (lbK n y m j).toInt ≤ (lbK n y k j).toInt := by
  intro k m
  induction m with
  | zero => intro h; rw [show k = 0 by omega]; exact Int.le_refl _
  | succ m ih =>
    intro h
    by_cases e : k = m + 1
    · rw [e]; exact Int.le_refl _
    · exact Int.le_trans (lbJ_le _ _ _ _ _) (ih (by omega))
theorem rcB_iff {v : Nat → Int32} : ∀ n, rcB v n = true ↔ ∀ i, i < n → 0 ≤ v (i * 12 + i) := by
  intro n
  induction n with
  | zero => exact ⟨fun _ i hi => absurd hi (Nat.not_lt_zero _), fun _ => rfl⟩
  | succ n ih =>
    simp only [rcB, Bool.and_eq_true, decide_eq_true_eq, ih]
    constructor
    · intro ⟨h1, h2⟩ i hi
      by_cases e : i = n
      · rw [e]; exact h2
      · exact h1 i (by omega)
    · intro h
      exact ⟨fun i hi => h i (by omega), h n (by omega)⟩
theorem lbZ_iff {y : Nat → Int64} : ∀ n, lbZ y n = true ↔ ∀ i, i < n → y (12 * i + i) = 0 := by
  intro n
  induction n with
  | zero => exact ⟨fun _ i hi => absurd hi (Nat.not_lt_zero _), fun _ => rfl⟩
  | succ n ih =>
    simp only [lbZ, Bool.and_eq_true, decide_eq_true_eq, ih]
    constructor
    · intro ⟨h1, h2⟩ i hi
      by_cases e : i = n
      · rw [e]; exact h2
      · exact h1 i (by omega)
    · intro h
      exact ⟨fun i hi => h i (by omega), h n (by omega)⟩
/-- what the squares are behind k faces, while all rings close -/
def fwI (n : Nat) (k : Nat) (v : Nat → Int32) (y : Nat → Int64) : Prop := sqR n (100998 * 2 ^ k) v y ∧ (∀ i, i < n → v (i * 12 + i) = 0) ∧ ∀ i, i < n → y (12 * i + i) = 0
theorem p2_le {k : Nat} (h : k ≤ 12) : (100998 * 2 ^ k : Int) ≤ 413687808 ∧ (0 : Int) ≤ 100998 * 2 ^ k := by
  have h1 : (2 : Int) ^ k ≤ 2 ^ 12 := by
    have h2 : 2 ^ k ≤ 2 ^ 12 := Nat.pow_le_pow_right (by decide) h
    exact_mod_cast h2
  have h3 : (0 : Int) ≤ 2 ^ k := Int.le_of_lt (Int.pow_pos (by decide))
  omega
theorem fw_step {n k : Nat} {v : Nat → Int32} {y : Nat → Int64} (hn : n ≤ 12) (hk : k < n) (h : fwI n k v y) :
    sqR n (100998 * 2 ^ (k + 1)) (ntA n k v n) (lbJ n k y n) ∧ (∀ i, i < n → (ntA n k v n (i * 12 + i)).toInt ≤ 0) ∧ ∀ a b, a < n → b < n → (¬ ntA n k v n (a * 12 + b) = 1000000000 ↔ (¬ v (a * 12 + b) = 1000000000 ∨ (¬ v (a * 12 + k) = 1000000000 ∧ ¬ v (k * 12 + b) = 1000000000))) := by
  obtain ⟨h1, h2, h3⟩ := h
  have hb := p2_le (k := k) (by omega)
  have e : (100998 * 2 ^ (k + 1) : Int) = 2 * (100998 * 2 ^ k) := by rw [Int.pow_succ]; omega
  have hc : ∀ a b, a < n → b < n → ntA n k v n (a * 12 + b) = fwC v k a b := by
    intro a b ha hb
    rw [ntA_at hn (by omega) (h2 k hk) n a b (by omega), if_pos ⟨ha, hb⟩]
  have hm : ∀ a b, a < n → b < n → lbJ n k y n (12 * a + b) = fwM y k a b := by
    intro a b ha hb
    rw [lbJ_at hn (by omega) (h3 k hk) n a b (by omega), if_pos ⟨ha, hb⟩]
  refine ⟨?_, ?_, ?_⟩
  · intro a b ha hb'
    rw [hc a b ha hb', hm a b ha hb', e]
    exact fw_R hb.2 (by omega) h1 ha hb' hk
  · intro i hi
    rw [hc i i hi hi]
    have := fwC_le (v := v) (k := k) (a := i) (b := i)
    rw [h2 i hi] at this
    exact this
  · intro a b ha hb'
    rw [hc a b ha hb']
    exact fwC_open hb.2 (by omega) h1 ha hb' hk
theorem sq_diag {n k : Nat} {v : Nat → Int32} {y : Nat → Int64} (hk : k ≤ 12) (h : sqR n (100998 * 2 ^ k) v y) (h0 : ∀ i, i < n → (v (i * 12 + i)).toInt ≤ 0) : ∀ i, i < n → (y (12 * i + i)).toInt = (v (i * 12 + i)).toInt := by
  intro i hi
  have hq := h i i hi hi
  have h1 := h0 i hi
  exact (cR_fin hq (fun q => by rw [q, i32_max] at h1; omega)).2.2
theorem fw_all {n : Nat} {v : Nat → Int32} {y : Nat → Int64} (hn : n ≤ 12) (h : fwI n 0 v y) : ∀ k, k ≤ n → (stB n v k = true → fwI n k (stV n v k) (lbK n y k)) ∧ (stB n v k = false → ∃ i, i < n ∧ (lbK n y k (12 * i + i)).toInt < 0) := by
  intro k
  induction k with
  | zero => intro _; exact ⟨fun _ => h, fun q => absurd q (by simp [stB])⟩
  | succ k ih =>
    intro hk
    obtain ⟨ih1, ih2⟩ := ih (by omega)
    cases e : stB n v k with
    | false =>
      refine ⟨fun q => absurd q (by simp [stB, e]), fun _ => ?_⟩
      obtain ⟨i, hi, hlt⟩ := ih2 e
      exact ⟨i, hi, Int.lt_of_le_of_lt (lbK_le n y _ k (k + 1) (by omega)) hlt⟩
    | true =>
      obtain ⟨s1, s2, s3⟩ := fw_step hn (by omega) (ih1 e)
      have hd := sq_diag (k := k + 1) (by omega) s1 s2
      constructor
      · intro q
        have q2 : rcB (ntA n k (stV n v k) n) n = true := by
          simp only [stB, e, Bool.true_and] at q
          exact q
        have q3 := (rcB_iff n).mp q2
        have q4 : ∀ i, i < n → (ntA n k (stV n v k) n (i * 12 + i)).toInt = 0 := by
          intro i hi
          have a1 := q3 i hi
          have a2 := s2 i hi
          rw [Int32.le_iff_toInt_le] at a1
          have a3 : (0 : Int32).toInt = 0 := rfl
          omega
        refine ⟨s1, fun i hi => Int32.toInt_inj.mp (q4 i hi), fun i hi => Int64.toInt_inj.mp ((hd i hi).trans (q4 i hi))⟩
      · intro q
        have q2 : rcB (ntA n k (stV n v k) n) n = false := by
          simp only [stB, e, Bool.true_and] at q
          exact q
        have q3 : ¬ ∀ i, i < n → 0 ≤ ntA n k (stV n v k) n (i * 12 + i) := fun z => absurd (((rcB_iff n).mpr z).symm.trans q2) (by decide)
        have q5 : ∃ i, i < n ∧ ¬ 0 ≤ ntA n k (stV n v k) n (i * 12 + i) := by
          apply Classical.byContradiction
          intro z
          exact q3 (fun i hi => Classical.byContradiction (fun w => z ⟨i, hi, w⟩))
        obtain ⟨i, hi, hlt⟩ := q5
        refine ⟨i, hi, ?_⟩
        have a1 := hd i hi
        rw [Int32.le_iff_toInt_le] at hlt
        have a3 : (0 : Int32).toInt = 0 := rfl
        show (lbJ n k (lbK n y k) n (12 * i + i)).toInt < 0
        omega
/-- consistent alike -/
theorem st_lb {n : Nat} {v : Nat → Int32} {y : Nat → Int64} (hn : n ≤ 12) (h : fwI n 0 v y) : stB n v n = lbZ (lbK n y n) n := by
  obtain ⟨h1, h2⟩ := fw_all hn h n (Nat.le_refl _)
  cases e : stB n v n with
  | true => exact ((lbZ_iff n).mpr (h1 e).2.2).symm
  | false =>
    obtain ⟨i, hi, hlt⟩ := h2 e
    cases q : lbZ (lbK n y n) n with
    | false => rfl
    | true =>
      rw [(lbZ_iff n).mp q i hi] at hlt
      exact absurd hlt (by decide)
/-! which places are closed: all between connected faces -/
def clo (v : Nat → Int32) (a b : Nat) : Prop := ¬ v (a * 12 + b) = 1000000000
theorem clo_all {n : Nat} {v : Nat → Int32} {y : Nat → Int64} (hn : n ≤ 12) (h : fwI n 0 v y) (hs : ∀ a b, a < n → b < n → clo v a b → clo v b a) : ∀ k, k ≤ n → stB n v k = true →
    (∀ a b, a < n → b < n → clo v a b → clo (stV n v k) a b) ∧ (∀ a b, a < n → b < n → clo (stV n v k) a b → clo (stV n v k) b a) ∧ ∀ a b c, a < n → b < k → c < n → clo (stV n v k) a b → clo (stV n v k) b c → clo (stV n v k) a c := by
  intro k
  induction k with
  | zero => intro _ _; exact ⟨fun _ _ _ _ q => q, hs, fun a b c _ hb => absurd hb (Nat.not_lt_zero _)⟩
  | succ k ih =>
    intro hk q
    have q1 : stB n v k = true := by
      simp only [stB, Bool.and_eq_true] at q
      exact q.1
    obtain ⟨i1, i2, i3⟩ := ih (by omega) q1
    obtain ⟨-, -, s3⟩ := fw_step hn (by omega) ((fw_all hn h k (by omega)).1 q1)
    have hkn : k < n := by omega
    have s : ∀ a b, a < n → b < n → (clo (stV n v (k + 1)) a b ↔ (clo (stV n v k) a b ∨ (clo (stV n v k) a k ∧ clo (stV n v k) k b))) := s3
    refine ⟨fun a b ha hb z => (s a b ha hb).mpr (Or.inl (i1 a b ha hb z)), ?_, ?_⟩
    · intro a b ha hb z
      rcases (s a b ha hb).mp z with w | ⟨w1, w2⟩
      · exact (s b a hb ha).mpr (Or.inl (i2 a b ha hb w))
      · exact (s b a hb ha).mpr (Or.inr ⟨i2 k b hkn hb w2, i2 a k ha hkn w1⟩)
    · intro a b c ha hb hc z1 z2
      have hbn : b < n := by omega
      by_cases e : b = k
      · subst e
        have w1 : clo (stV n v b) a b := by
          rcases (s a b ha hbn).mp z1 with w | w
          · exact w
          · exact w.1
        have w2 : clo (stV n v b) b c := by
          rcases (s b c hbn hc).mp z2 with w | w
          · exact w
          · exact w.2
        exact (s a c ha hc).mpr (Or.inr ⟨w1, w2⟩)
      · have hbk : b < k := by omega
        rcases (s a b ha hbn).mp z1 with w | ⟨w1, w2⟩
        · rcases (s b c hbn hc).mp z2 with x | ⟨x1, x2⟩
          · exact (s a c ha hc).mpr (Or.inl (i3 a b c ha hbk hc w x))
          · exact (s a c ha hc).mpr (Or.inr ⟨i3 a b k ha hbk hkn w x1, x2⟩)
        · rcases (s b c hbn hc).mp z2 with x | ⟨x1, x2⟩
          · exact (s a c ha hc).mpr (Or.inr ⟨w1, i3 k b c hkn hbk hc w2 x⟩)
          · exact (s a c ha hc).mpr (Or.inr ⟨w1, x2⟩)
/-- parts are the classes of every equivalence that joins what the dimensions join -/
theorem Pp_equiv {F T : Nat → Nat} {n cnt : Nat} {G : Nat → Nat → Prop} (hF : ∀ d, d < cnt → F d < n) (hT : ∀ d, d < cnt → T d < n) (hr : ∀ a, a < n → G a a) (hs : ∀ a b, a < n → b < n → G a b → G b a) (ht : ∀ a b c, a < n → b < n → c < n → G a b → G b c → G a c) (hg : ∀ d, d < cnt → G (F d) (T d)) : ∀ d, d ≤ cnt → ∀ a b, a < n → b < n → Pp F T d a = Pp F T d b → G a b := by
  intro d
  induction d with
  | zero => intro _ a b ha hb q; have q : a = b := q; rw [q]; exact hr b hb
  | succ d ih =>
    intro hd a b ha hb q
    have ih := ih (by omega)
    have hFd := hF d (by omega)
    have hTd := hT d (by omega)
    have hFT := hg d (by omega)
    have hTF := hs _ _ hFd hTd hFT
    have hmem : ∀ x, x < n → (Pp F T d x = Pp F T d (F d) ∨ Pp F T d x = Pp F T d (T d)) → G x (F d) := by
      intro x hx z
      rcases z with z | z
      · exact ih x _ hx hFd z
      · exact ht x _ _ hx hTd hFd (ih x _ hx hTd z) hTF
    simp only [Pp] at q
    by_cases qa : Pp F T d a = Pp F T d (F d) ∨ Pp F T d a = Pp F T d (T d)
    · by_cases qb : Pp F T d b = Pp F T d (F d) ∨ Pp F T d b = Pp F T d (T d)
      · exact ht a (F d) b ha hFd hb (hmem a ha qa) (hs _ _ hb hFd (hmem b hb qb))
      · rw [if_pos qa, if_neg qb] at q
        exfalso
        apply qb
        omega
    · by_cases qb : Pp F T d b = Pp F T d (F d) ∨ Pp F T d b = Pp F T d (T d)
      · rw [if_neg qa, if_pos qb] at q
        exfalso
        apply qa
        omega
      · rw [if_neg qa, if_neg qb] at q
        exact ih a b ha hb q
/-! the squares as the dimensions lay them -/
theorem dv_lim {l u : Int32} (h : devB l u = true) : -999 ≤ l.toInt ∧ l.toInt ≤ u.toInt ∧ u.toInt ≤ 999 := by
  simp only [devB, Bool.and_eq_true, decide_eq_true_eq, Int32.lt_iff_toInt_lt] at h
  have h1 : (-999 : Int32).toInt = -999 := by decide
  have h2 : (999 : Int32).toInt = 999 := by decide
  rw [h1, h2] at h
  omega
theorem nm_lim {x : Int32} (h : nomB x = true) : -99999 ≤ x.toInt ∧ x.toInt ≤ 99999 := by
  simp only [nomB, wtn, Bool.and_eq_true, decide_eq_true_eq, Int32.lt_iff_toInt_lt] at h
  have h1 : (-99999 : Int32).toInt = -99999 := by decide
  have h2 : (99999 : Int32).toInt = 99999 := by decide
  rw [h1, h2] at h
  omega
theorem tdI_at {v : Nat → Int32} : ∀ n, n ≤ 12 → ∀ i j, j < 12 → tdI v n (i * 12 + j) = if i = j ∧ i < n then 0 else v (i * 12 + j) := by
  intro n
  induction n with
  | zero => intro _ i j _; rw [if_neg (fun q => absurd q.2 (Nat.not_lt_zero _))]; rfl
  | succ n ih =>
    intro hn i j hj
    simp only [tdI, upd]
    by_cases e : i * 12 + j = n * 12 + n
    · rw [if_pos e, if_pos (by omega)]
    · rw [if_neg e, ih (by omega) i j hj]
      by_cases q : i = j ∧ i < n
      · rw [if_pos q, if_pos ⟨q.1, by omega⟩]
      · rw [if_neg q, if_neg (fun z => q ⟨z.1, by omega⟩)]
theorem lbB_at {a : Nat} {y : Nat → Int64} : ∀ b, b ≤ 12 → ∀ i j, j < 12 → lbB a y b (12 * i + j) = if i = a ∧ j < b then (if i = j then 0 else 1000000000000) else y (12 * i + j) := by
  intro b
  induction b with
  | zero => intro _ i j _; rw [if_neg (fun q => absurd q.2 (Nat.not_lt_zero _))]; rfl
  | succ b ih =>
    intro hb i j hj
    simp only [lbB]
    by_cases e : i = a ∧ j = b
    · rw [e.1, e.2, pk_uLs, if_pos (show a = a ∧ b < b + 1 from ⟨rfl, Nat.lt_succ_self _⟩)]
    · rw [pk_uLn (by omega), ih (by omega) i j hj]
      by_cases q : i = a ∧ j < b
      · rw [if_pos q, if_pos (show i = a ∧ j < b + 1 from ⟨q.1, by omega⟩)]
      · rw [if_neg q, if_neg (fun z => q ⟨z.1, by omega⟩)]
theorem lbA_at {y : Nat → Int64} : ∀ a, ∀ i j, j < 12 → lbA y a (12 * i + j) = if i < a then (if i = j then 0 else 1000000000000) else y (12 * i + j) := by
  intro a
  induction a with
  | zero => intro i j _; rw [if_neg (Nat.not_lt_zero _)]; rfl
  | succ a ih =>
    intro i j hj
    simp only [lbA]
    rw [lbB_at 12 (Nat.le_refl _) i j hj]
    by_cases e : i = a
    · rw [if_pos ⟨e, hj⟩, if_pos (show i < a + 1 by omega)]
    · rw [if_neg (fun q => e q.1), ih i j hj]
      by_cases q : i < a
      · rw [if_pos q, if_pos (show i < a + 1 by omega)]
      · rw [if_neg q, if_neg (show ¬ i < a + 1 by omega)]
def dV (F T : Nat → Nat) (nm lo up v : Nat → Int32) (n cnt : Nat) : Nat → Int32 := tdD F T nm lo up (tdI (flI v 1000000000 144) n) cnt
def dY (F T : Nat → Nat) (nm lo up : Nat → Int32) (y : Nat → Int64) (cnt : Nat) : Nat → Int64 := lbD F T nm lo up (lbA y 12) cnt
theorem d_fw {F T : Nat → Nat} {nm lo up v : Nat → Int32} {y : Nat → Int64} {n cnt : Nat} (hn : n ≤ 12) (hF : ∀ d, d < cnt → F d < n) (hT : ∀ d, d < cnt → T d < n) (hne : ∀ d, d < cnt → ¬ F d = T d) (hnm : ∀ d, d < cnt → nomB (nm d) = true) (hdv : ∀ d, d < cnt → devB (lo d) (up d) = true) :
    ∀ d, d ≤ cnt → fwI n 0 (dV F T nm lo up v n d) (dY F T nm lo up y d) ∧ (∀ a b, a < n → b < n → clo (dV F T nm lo up v n d) a b → clo (dV F T nm lo up v n d) b a) ∧ ∀ e, e < d → clo (dV F T nm lo up v n d) (F e) (T e) := by
  intro d
  induction d with
  | zero =>
    intro _
    have h1 : ∀ a b, a < n → b < n → dV F T nm lo up v n 0 (a * 12 + b) = if a = b then 0 else 1000000000 := by
      intro a b ha hb
      show tdI (flI v 1000000000 144) n (a * 12 + b) = _
      rw [tdI_at n hn a b (by omega), flI_at, if_pos (show a * 12 + b < 144 by omega)]
      by_cases q : a = b
      · rw [if_pos ⟨q, ha⟩, if_pos q]
      · rw [if_neg (fun z => q z.1), if_neg q]
    have h2 : ∀ a b, a < n → b < n → dY F T nm lo up y 0 (12 * a + b) = if a = b then 0 else 1000000000000 := by
      intro a b ha hb
      show lbA y 12 (12 * a + b) = _
      rw [lbA_at 12 a b (by omega), if_pos (by omega)]
    refine ⟨⟨?_, fun i hi => by rw [h1 i i hi hi, if_pos rfl], fun i hi => by rw [h2 i i hi hi, if_pos rfl]⟩, ?_, fun e he => absurd he (Nat.not_lt_zero _)⟩
    · intro a b ha hb
      rw [h1 a b ha hb, h2 a b ha hb]
      by_cases q : a = b
      · rw [if_pos q, if_pos q]
        exact Or.inr (by decide)
      · rw [if_neg q, if_neg q]
        exact Or.inl ⟨rfl, rfl⟩
    · intro a b ha hb q
      unfold clo at q ⊢
      rw [h1 a b ha hb] at q
      rw [h1 b a hb ha]
      by_cases z : a = b
      · rw [if_pos z.symm]; decide
      · rw [if_neg z] at q; exact absurd rfl q
  | succ d ih =>
    intro hd
    obtain ⟨⟨i1, i2, i3⟩, i4, i5⟩ := ih (by omega)
    have hFd := hF d (by omega)
    have hTd := hT d (by omega)
    have hned := hne d (by omega)
    obtain ⟨m1, m2⟩ := nm_lim (hnm d (by omega))
    obtain ⟨w1, w2, w3⟩ := dv_lim (hdv d (by omega))
    have eU : (nm d + up d).toInt = (nm d).toInt + (up d).toInt := i32_add (by omega) (by omega)
    have eL : (nm d + lo d).toInt = (nm d).toInt + (lo d).toInt := i32_add (by omega) (by omega)
    have eN : (-(nm d + lo d)).toInt = -((nm d).toInt + (lo d).toInt) := by rw [i32_neg (by omega), eL]
    obtain ⟨u, hu⟩ : ∃ u, u = dV F T nm lo up v n d := ⟨_, rfl⟩
    obtain ⟨x, hx⟩ : ∃ x, x = dY F T nm lo up y d := ⟨_, rfl⟩
    have hV : ∀ a b, a < n → b < n → dV F T nm lo up v n (d + 1) (a * 12 + b) = if a = T d ∧ b = F d then (if -(nm d + lo d) < u (T d * 12 + F d) then -(nm d + lo d) else u (T d * 12 + F d)) else if a = F d ∧ b = T d then (if nm d + up d < u (F d * 12 + T d) then nm d + up d else u (F d * 12 + T d)) else u (a * 12 + b) := by
      intro a b ha hb
      show nrw (nrw (tdD F T nm lo up (tdI (flI v 1000000000 144) n) d) (F d) (T d) (nm d + up d)) (T d) (F d) (-(nm d + lo d)) (a * 12 + b) = _
      rw [show tdD F T nm lo up (tdI (flI v 1000000000 144) n) d = u from hu.symm, nrw_at _ _ _ _ _ _ (by omega) (by omega)]
      rw [nrw_at u (F d) (T d) (T d) (F d) _ (by omega) (by omega), if_neg (show ¬ (T d = F d ∧ F d = T d) from fun z => hned z.2), nrw_at u (F d) (T d) a b _ (by omega) (by omega)]
    have hY : ∀ a b, a < n → b < n → dY F T nm lo up y (d + 1) (12 * a + b) = if a = T d ∧ b = F d then (if (-(nm d + lo d)).toInt64 < x (12 * T d + F d) then (-(nm d + lo d)).toInt64 else x (12 * T d + F d)) else if a = F d ∧ b = T d then (if (nm d + up d).toInt64 < x (12 * F d + T d) then (nm d + up d).toInt64 else x (12 * F d + T d)) else x (12 * a + b) := by
      intro a b ha hb
      show bnd (bnd (lbD F T nm lo up (lbA y 12) d) (F d) (T d) (nm d + up d).toInt64) (T d) (F d) (-(nm d + lo d)).toInt64 (12 * a + b) = _
      rw [show lbD F T nm lo up (lbA y 12) d = x from hx.symm, bnd_at _ _ _ _ _ _ (by omega) (by omega)]
      rw [bnd_at x (F d) (T d) (T d) (F d) _ (by omega) (by omega), if_neg (show ¬ (T d = F d ∧ F d = T d) from fun z => hned z.2), bnd_at x (F d) (T d) a b _ (by omega) (by omega)]
    rw [← hu] at i1 i2 i4 i5
    rw [← hx] at i1 i3
    have i1 : sqR n 100998 u x := by
      intro a b ha hb
      have := i1 a b ha hb
      rw [Int.pow_zero, Int.mul_one] at this
      exact this
    have f1 : ∀ c : Int32, ¬ (if -(nm d + lo d) < c then -(nm d + lo d) else c) = 1000000000 := by
      intro c q
      split at q
      · rw [q, i32_max] at eN; omega
      · rename_i z
        rw [q, Int32.lt_iff_toInt_lt, eN, i32_max] at z
        omega
    have f2 : ∀ c : Int32, ¬ (if nm d + up d < c then nm d + up d else c) = 1000000000 := by
      intro c q
      split at q
      · rw [q, i32_max] at eU; omega
      · rename_i z
        rw [q, Int32.lt_iff_toInt_lt, eU, i32_max] at z
        omega
    refine ⟨⟨?_, ?_, ?_⟩, ?_, ?_⟩
    · intro a b ha hb
      rw [hV a b ha hb, hY a b ha hb, Int.pow_zero, Int.mul_one]
      by_cases q : a = T d ∧ b = F d
      · rw [if_pos q, if_pos q]
        exact cR_min (by decide) ⟨by omega, by omega, by rw [Int32.toInt_toInt64]⟩ (i1 _ _ hTd hFd)
      · rw [if_neg q, if_neg q]
        by_cases z : a = F d ∧ b = T d
        · rw [if_pos z, if_pos z]
          exact cR_min (by decide) ⟨by omega, by omega, by rw [Int32.toInt_toInt64]⟩ (i1 _ _ hFd hTd)
        · rw [if_neg z, if_neg z]
          exact i1 a b ha hb
    · intro i hi
      rw [hV i i hi hi, if_neg (by omega), if_neg (by omega)]
      exact i2 i hi
    · intro i hi
      rw [hY i i hi hi, if_neg (by omega), if_neg (by omega)]
      exact i3 i hi
    · intro a b ha hb q
      unfold clo at q ⊢
      rw [hV b a hb ha]
      rw [hV a b ha hb] at q
      by_cases z1 : b = T d ∧ a = F d
      · rw [if_pos z1]; exact f1 _
      · rw [if_neg z1]
        by_cases z2 : b = F d ∧ a = T d
        · rw [if_pos z2]; exact f2 _
        · rw [if_neg z2]
          rw [if_neg (fun w => z2 ⟨w.2, w.1⟩), if_neg (fun w => z1 ⟨w.2, w.1⟩)] at q
          exact i4 a b ha hb q
    · intro e he
      have hFe := hF e (by omega)
      have hTe := hT e (by omega)
      unfold clo
      rw [hV _ _ hFe hTe]
      by_cases z1 : F e = T d ∧ T e = F d
      · rw [if_pos z1]; exact f1 _
      · rw [if_neg z1]
        by_cases z2 : F e = F d ∧ T e = T d
        · rw [if_pos z2]; exact f2 _
        · rw [if_neg z2]
          exact i5 e (by
            rcases Nat.lt_or_ge e d with w | w
            · exact w
            · exact absurd (show F e = F d ∧ T e = T d by rw [show e = d by omega]; exact ⟨rfl, rfl⟩) z2)
theorem cons_eq {F T : Nat → Nat} {nm lo up v : Nat → Int32} {y : Nat → Int64} {n cnt : Nat} (hn : n ≤ 12) (hF : ∀ d, d < cnt → F d < n) (hT : ∀ d, d < cnt → T d < n) (hne : ∀ d, d < cnt → ¬ F d = T d) (hnm : ∀ d, d < cnt → nomB (nm d) = true) (hdv : ∀ d, d < cnt → devB (lo d) (up d) = true) : stB n (dV F T nm lo up v n cnt) n = lbZ (lbK n (dY F T nm lo up y cnt) n) n := st_lb hn (d_fw hn hF hT hne hnm hdv cnt (Nat.le_refl _)).1
theorem tight_eq {F T : Nat → Nat} {nm lo up v : Nat → Int32} {y : Nat → Int64} {n cnt : Nat} (hn : n ≤ 12) (hF : ∀ d, d < cnt → F d < n) (hT : ∀ d, d < cnt → T d < n) (hne : ∀ d, d < cnt → ¬ F d = T d) (hnm : ∀ d, d < cnt → nomB (nm d) = true) (hdv : ∀ d, d < cnt → devB (lo d) (up d) = true) (hs : stB n (dV F T nm lo up v n cnt) n = true) {a b : Nat} (ha : a < n) (hb : b < n) (hc : con F T cnt a b = true) : -413687808 ≤ (stV n (dV F T nm lo up v n cnt) n (a * 12 + b)).toInt ∧ (stV n (dV F T nm lo up v n cnt) n (a * 12 + b)).toInt ≤ 413687808 ∧ (lbK n (dY F T nm lo up y cnt) n (12 * a + b)).toInt = (stV n (dV F T nm lo up v n cnt) n (a * 12 + b)).toInt := by
  obtain ⟨h1, h2, h3⟩ := d_fw (v := v) (y := y) hn hF hT hne hnm hdv cnt (Nat.le_refl _)
  obtain ⟨c1, c2, c3⟩ := clo_all hn h1 h2 n (Nat.le_refl _) hs
  obtain ⟨g1, g2, -⟩ := (fw_all hn h1 n (Nat.le_refl _)).1 hs
  have hcl : clo (stV n (dV F T nm lo up v n cnt) n) a b := Pp_equiv (G := fun a b => clo (stV n (dV F T nm lo up v n cnt) n) a b) hF hT (fun i hi => by unfold clo; rw [g2 i hi]; decide) c2 (fun a b c ha hb hc => c3 a b c ha hb hc) (fun d hd => c1 _ _ (hF d hd) (hT d hd) (h3 d hd)) cnt (Nat.le_refl _) a b ha hb (of_decide_eq_true hc)
  obtain ⟨q1, q2, q3⟩ := cR_fin (g1 a b ha hb) hcl
  have hp := p2_le hn
  exact ⟨by omega, by omega, q3⟩
theorem tight_hi {F T : Nat → Nat} {nm lo up v : Nat → Int32} {y : Nat → Int64} {n cnt : Nat} (hn : n ≤ 12) (hF : ∀ d, d < cnt → F d < n) (hT : ∀ d, d < cnt → T d < n) (hne : ∀ d, d < cnt → ¬ F d = T d) (hnm : ∀ d, d < cnt → nomB (nm d) = true) (hdv : ∀ d, d < cnt → devB (lo d) (up d) = true) (hs : stB n (dV F T nm lo up v n cnt) n = true) {a b : Nat} (ha : a < n) (hb : b < n) (hc : con F T cnt a b = true) : tgN (lbK n (dY F T nm lo up y cnt) n) a b true = stV n (dV F T nm lo up v n cnt) n (a * 12 + b) := by
  obtain ⟨q1, q2, q3⟩ := tight_eq (y := y) hn hF hT hne hnm hdv hs ha hb hc
  apply Int32.toInt_inj.mp
  show ((lbK n (dY F T nm lo up y cnt) n (12 * a + b)).toInt32).toInt = _
  rw [Int64.toInt_toInt32, q3]
  apply Int.bmod_eq_of_le <;> omega
theorem tight_lo {F T : Nat → Nat} {nm lo up v : Nat → Int32} {y : Nat → Int64} {n cnt : Nat} (hn : n ≤ 12) (hF : ∀ d, d < cnt → F d < n) (hT : ∀ d, d < cnt → T d < n) (hne : ∀ d, d < cnt → ¬ F d = T d) (hnm : ∀ d, d < cnt → nomB (nm d) = true) (hdv : ∀ d, d < cnt → devB (lo d) (up d) = true) (hs : stB n (dV F T nm lo up v n cnt) n = true) {a b : Nat} (ha : a < n) (hb : b < n) (hc : con F T cnt a b = true) : tgN (lbK n (dY F T nm lo up y cnt) n) a b false = -(stV n (dV F T nm lo up v n cnt) n (b * 12 + a)) := by
  have hc' : con F T cnt b a = true := decide_eq_true (of_decide_eq_true hc).symm
  obtain ⟨q1, q2, q3⟩ := tight_eq (y := y) hn hF hT hne hnm hdv hs hb ha hc'
  apply Int32.toInt_inj.mp
  show ((-(lbK n (dY F T nm lo up y cnt) n (12 * b + a))).toInt32).toInt = _
  rw [Int64.toInt_toInt32, Int64.toInt_neg, q3, i32_neg (by omega)]
  have e : (-(stV n (dV F T nm lo up v n cnt) n (b * 12 + a)).toInt).bmod (2 ^ 64) = -(stV n (dV F T nm lo up v n cnt) n (b * 12 + a)).toInt := by
    apply Int.bmod_eq_of_le <;> omega
  rw [e]
  apply Int.bmod_eq_of_le <;> omega
