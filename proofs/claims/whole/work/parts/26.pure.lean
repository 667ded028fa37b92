/-! pure words: parts, doubled dimensions, chains, as functions of the drawing -/
def Pp (F T : Nat → Nat) : Nat → Nat → Nat
  | 0, i => i
  | d + 1, i => if Pp F T d i = Pp F T d (F d) ∨ Pp F T d i = Pp F T d (T d) then min (Pp F T d (F d)) (Pp F T d (T d)) else Pp F T d i
def Dd (F T : Nat → Nat) (d : Nat) : Bool := decide (Pp F T d (F d) = Pp F T d (T d))
theorem jaP_Pp {F T : Nat → Nat} {n cnt : Nat} {P : Nat → Nat} (hF : ∀ d, d < cnt → F d < n) (hT : ∀ d, d < cnt → T d < n) : ∀ d, d ≤ cnt → ∀ i, i < n → jaP F T n (fpI P n) d i = Pp F T d i := by
  intro d
  induction d with
  | zero => intro _ i hi; show fpI P n i = i; rw [fpI_at, if_pos hi]
  | succ d ih =>
    intro hd i hi
    have h1 := ih (by omega)
    unfold jaP Pp
    rw [jmP_at, if_pos hi, h1 i hi, h1 _ (hF d (by omega)), h1 _ (hT d (by omega))]
theorem fpP_Pp {F T : Nat → Nat} {n cnt : Nat} {P : Nat → Nat} (hF : ∀ d, d < cnt → F d < n) (hT : ∀ d, d < cnt → T d < n) : ∀ d, d ≤ cnt → ∀ i, i < n → fpP F T n (fpI P n) d i = Pp F T d i := by
  intro d
  induction d with
  | zero => intro _ i hi; show fpI P n i = i; rw [fpI_at, if_pos hi]
  | succ d ih =>
    intro hd i hi
    have h1 := ih (by omega)
    unfold fpP Pp
    rw [mvP_at, if_pos hi, h1 i hi, h1 _ (hF d (by omega)), h1 _ (hT d (by omega))]
    generalize Pp F T d i = x
    generalize Pp F T d (F d) = a
    generalize Pp F T d (T d) = b
    by_cases h2 : x = a ∨ x = b
    · rw [if_pos h2]
      by_cases h3 : x = max a b
      · rw [if_pos h3]
      · rw [if_neg h3]; omega
    · rw [if_neg h2, if_neg (by omega)]
theorem jaD_Dd {F T : Nat → Nat} {n cnt : Nat} {P : Nat → Nat} {dd : Nat → Bool} (hF : ∀ d, d < cnt → F d < n) (hT : ∀ d, d < cnt → T d < n) : ∀ d, d ≤ cnt → ∀ e, e < d → jaD F T n (fpI P n) dd d e = Dd F T e := by
  intro d
  induction d with
  | zero => intro _ e he; exact absurd he (Nat.not_lt_zero _)
  | succ d ih =>
    intro hd e he
    unfold jaD updB
    by_cases h : e = d
    · subst h
      rw [if_pos rfl]
      unfold Dd
      rw [jaP_Pp hF hT e (by omega) _ (hF e (by omega)), jaP_Pp hF hT e (by omega) _ (hT e (by omega))]
    · rw [if_neg h]; exact ih (by omega) e (by omega)
theorem fpD_Dd {F T : Nat → Nat} {n cnt : Nat} {P : Nat → Nat} {dd : Nat → Bool} (hF : ∀ d, d < cnt → F d < n) (hT : ∀ d, d < cnt → T d < n) : ∀ d, d ≤ cnt → ∀ e, e < d → fpD F T n (fpI P n) dd d e = Dd F T e := by
  intro d
  induction d with
  | zero => intro _ e he; exact absurd he (Nat.not_lt_zero _)
  | succ d ih =>
    intro hd e he
    unfold fpD updB
    by_cases h : e = d
    · subst h
      rw [if_pos rfl]
      unfold Dd
      rw [fpP_Pp hF hT e (by omega) _ (hF e (by omega)), fpP_Pp hF hT e (by omega) _ (hT e (by omega))]
    · rw [if_neg h]; exact ih (by omega) e (by omega)
theorem owI_congr {F T : Nat → Nat} {dd ee : Nat → Bool} {cnt : Nat} {O : Nat → Int32} (h : ∀ d, d < cnt → dd d = ee d) : ∀ d, d ≤ cnt → owI F T dd O d = owI F T ee O d := by
  intro d
  induction d with
  | zero => intro _; rfl
  | succ d ih => intro hd; unfold owI; rw [ih (by omega)]; unfold owS; rw [h d (by omega)]
theorem owR_congr {F T : Nat → Nat} {dd ee : Nat → Bool} {cnt : Nat} {O : Nat → Int32} (h : ∀ d, d < cnt → dd d = ee d) : ∀ r, owR F T dd cnt O r = owR F T ee cnt O r := by
  intro r
  induction r with
  | zero => rfl
  | succ r ih => unfold owR; rw [ih]; exact owI_congr h cnt (Nat.le_refl _)
theorem mO_congr {F T : Nat → Nat} {dd ee : Nat → Bool} {n cnt b : Nat} (h : ∀ d, d < cnt → dd d = ee d) : mO F T dd n cnt b = mO F T ee n cnt b := owR_congr h n
/-- the ways to b -/
def Och (F T : Nat → Nat) (n cnt b : Nat) : Nat → Int32 := mO F T (Dd F T) n cnt b
/-- the number of dimensions of the chain from a to b -/
def Kch (F T : Nat → Nat) (n cnt a b : Nat) : Nat := stp (fun k => decide (¬ cf F T (Och F T n cnt b) a k = b)) 12 0
/-- the k-th dimension of the chain -/
def cD (F T : Nat → Nat) (n cnt a b k : Nat) : Nat := (Och F T n cnt b (cf F T (Och F T n cnt b) a k)).toNatClampNeg
def con (F T : Nat → Nat) (cnt a b : Nat) : Bool := decide (Pp F T cnt a = Pp F T cnt b)
theorem maF_cf {F T L : Nat → Nat} {n cnt a b K : Nat} (h : ∀ k, k < K → L k = cD F T n cnt a b k) : ∀ k, k ≤ K → maF F T L a k = cf F T (Och F T n cnt b) a k := by
  intro k
  induction k with
  | zero => intro _; rfl
  | succ k ih => intro hk; unfold maF cf; rw [ih (by omega), h k (by omega)]; rfl
theorem maN_gN {F T L : Nat → Nat} {nm : Nat → Int32} {n cnt a b K : Nat} (h : ∀ k, k < K → L k = cD F T n cnt a b k) : ∀ k, k ≤ K → maN F T nm L a k = gN F T nm (Och F T n cnt b) a k := by
  intro k
  induction k with
  | zero => intro _; rfl
  | succ k ih => intro hk; unfold maN gN; rw [ih (by omega), h k (by omega), maF_cf h k (by omega)]; rfl
theorem maL_gL {F T L : Nat → Nat} {nm lo up : Nat → Int32} {n cnt a b K : Nat} (h : ∀ k, k < K → L k = cD F T n cnt a b k) : ∀ k, k ≤ K → maL F T nm lo up L a k = gL F T nm lo up (Och F T n cnt b) a k := by
  intro k
  induction k with
  | zero => intro _; rfl
  | succ k ih => intro hk; unfold maL gL; rw [ih (by omega), h k (by omega), maF_cf h k (by omega)]; rfl
theorem maG_gG {F T L : Nat → Nat} {nm lo up : Nat → Int32} {n cnt a b K : Nat} (h : ∀ k, k < K → L k = cD F T n cnt a b k) : ∀ k, k ≤ K → maG F T nm lo up L a k = gG F T nm lo up (Och F T n cnt b) a k := by
  intro k
  induction k with
  | zero => intro _; rfl
  | succ k ih => intro hk; unfold maG gG; rw [ih (by omega), h k (by omega), maF_cf h k (by omega)]; rfl
theorem hld_congr {L M : Nat → Nat} {x K : Nat} (h : ∀ k, k < K → L k = M k) : ∀ k, k ≤ K → hld L x k = hld M x k := by
  intro k
  induction k with
  | zero => intro _; rfl
  | succ k ih => intro hk; unfold hld; rw [ih (by omega), h k (by omega)]
theorem wsm_congr {L M : Nat → Nat} {lo up : Nat → Int32} {K : Nat} (h : ∀ k, k < K → L k = M k) : ∀ k, k ≤ K → wsm L lo up k = wsm M lo up k := by
  intro k
  induction k with
  | zero => intro _; rfl
  | succ k ih => intro hk; unfold wsm; rw [ih (by omega), h k (by omega)]
theorem sqN_congr {L M : Nat → Nat} {lo up : Nat → Int32} {K : Nat} (h : ∀ k, k < K → L k = M k) : ∀ k, k ≤ K → sqN L lo up k = sqN M lo up k := by
  intro k
  induction k with
  | zero => intro _; rfl
  | succ k ih => intro hk; unfold sqN; rw [ih (by omega), h k (by omega)]
theorem mwd_congr {L M : Nat → Nat} {lo up : Nat → Int32} {K : Nat} (h : ∀ k, k < K → L k = M k) : ∀ k, k ≤ K → mwd L lo up k = mwd M lo up k := by
  intro k
  induction k with
  | zero => intro _; rfl
  | succ k ih => intro hk; unfold mwd; rw [ih (by omega), h k (by omega)]
theorem wdst_congr {L M : Nat → Nat} {lo up : Nat → Int32} {K : Nat} (h : ∀ k, k < K → L k = M k) : ∀ k, k ≤ K → wdst L lo up k = wdst M lo up k := by
  intro k
  induction k with
  | zero => intro _; rfl
  | succ k ih => intro hk; unfold wdst; rw [ih (by omega), h k (by omega)]
/-! the ways: what a round of the search does -/
theorem nI_ne_m1 {d : Nat} (h : d < 2 ^ 31) : ¬ nI d = -1 := by
  intro q
  have h1 : (nI d).toInt = (d : Int) := nI_toInt h
  rw [q] at h1
  have h2 : (-1 : Int32).toInt = -1 := by decide
  omega
/-- how many of the first j faces have a way -/
def cS (O : Nat → Int32) : Nat → Nat
  | 0 => 0
  | j + 1 => cS O j + (if O j = -1 then 0 else 1)
theorem cS_le (O : Nat → Int32) : ∀ j, cS O j ≤ j := by
  intro j
  induction j with
  | zero => exact Nat.le_refl _
  | succ j ih => unfold cS; split <;> omega
theorem cS_full {O : Nat → Int32} : ∀ j, cS O j = j → ∀ i, i < j → ¬ O i = -1 := by
  intro j
  induction j with
  | zero => intro _ i hi; exact absurd hi (Nat.not_lt_zero _)
  | succ j ih =>
    intro h i hi
    have h1 := cS_le O j
    unfold cS at h
    by_cases h2 : O j = -1
    · rw [if_pos h2] at h; omega
    · rw [if_neg h2] at h
      by_cases h3 : i = j
      · rw [h3]; exact h2
      · exact ih (by omega) i (by omega)
theorem cS_upd_ge {O : Nat → Int32} {t : Nat} {v : Int32} : ∀ j, j ≤ t → cS (upd O t v) j = cS O j := by
  intro j
  induction j with
  | zero => intro _; rfl
  | succ j ih =>
    intro h
    have h1 : upd O t v j = O j := by unfold upd; rw [if_neg (by omega)]
    unfold cS
    rw [ih (by omega), h1]
theorem cS_upd {O : Nat → Int32} {t : Nat} {v : Int32} (ht : O t = -1) (hv : ¬ v = -1) : ∀ j, t < j → cS (upd O t v) j = cS O j + 1 := by
  intro j
  induction j with
  | zero => intro h; exact absurd h (Nat.not_lt_zero _)
  | succ j ih =>
    intro h
    unfold cS
    by_cases e : t = j
    · subst e
      rw [cS_upd_ge t (Nat.le_refl _), ht, if_pos rfl]
      have : upd O t v t = v := by unfold upd; rw [if_pos rfl]
      rw [this, if_neg hv]
    · rw [ih (by omega)]
      have : upd O t v j = O j := by unfold upd; rw [if_neg (fun q => e q.symm)]
      rw [this]
      omega
