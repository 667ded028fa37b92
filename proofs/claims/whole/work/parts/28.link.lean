/-! the class's search and walk beside the reference's -/
theorem ewI_congr {F T : Nat → Nat} {dd ee : Nat → Bool} {e cnt : Nat} {W : Nat → Int32} (h : ∀ d, d < cnt → dd d = ee d) : ∀ d, d ≤ cnt → ewI F T dd e W d = ewI F T ee e W d := by
  intro d
  induction d with
  | zero => intro _; rfl
  | succ d ih => intro hd; unfold ewI; rw [ih (by omega), h d (by omega)]
theorem ewR_congr {F T : Nat → Nat} {dd ee : Nat → Bool} {e cnt : Nat} {W : Nat → Int32} (h : ∀ d, d < cnt → dd d = ee d) : ∀ r, ewR F T dd e cnt W r = ewR F T ee e cnt W r := by
  intro r
  induction r with
  | zero => rfl
  | succ r ih => unfold ewR; rw [ih]; exact ewI_congr h cnt (Nat.le_refl _)
def Rw (b : Nat) (W O : Nat → Int32) : Prop := O b = 20 ∧ ∀ i, W i = if i = b then -1 else O i
theorem Rw_lead {b : Nat} {W O : Nat → Int32} (h : Rw b W O) (i : Nat) : (i = b ∨ ¬ W i = -1) ↔ ¬ O i = -1 := by
  rw [h.2 i]
  by_cases e : i = b
  · subst e
    rw [h.1]
    exact ⟨fun _ => by decide, fun _ => Or.inl rfl⟩
  · rw [if_neg e]
    exact ⟨fun q => q.resolve_left e, fun q => Or.inr q⟩
theorem Rw_upd {b t : Nat} {v : Int32} {W O : Nat → Int32} (h : Rw b W O) (ht : O t = -1) : Rw b (upd W t v) (upd O t v) := by
  have htb : ¬ t = b := by
    intro q
    rw [q, h.1] at ht
    exact absurd ht (by decide)
  refine ⟨by unfold upd; rw [if_neg (fun q => htb q.symm)]; exact h.1, ?_⟩
  intro i
  unfold upd
  by_cases e : i = t
  · rw [if_pos e, if_pos e, if_neg (fun q => htb (by rw [← e]; exact q))]
  · rw [if_neg e, if_neg e]; exact h.2 i
theorem Rw_step {F T : Nat → Nat} {dd : Nat → Bool} {b d : Nat} {W O : Nat → Int32} (h : Rw b W O) (hd : dd d = false) : Rw b (ewS F T b d W) (owS F T dd d O) := by
  have hA := Rw_lead h (F d)
  have hB := Rw_lead h (T d)
  unfold ewS owS
  by_cases h1 : ¬ O (F d) = -1
  · by_cases h2 : ¬ O (T d) = -1
    · rw [if_neg (fun q => q.2 (hB.mpr h2)), if_neg (fun q => q.2 (hA.mpr h1)), if_neg (fun q => h2 q.2.2), if_neg (fun q => h1 q.2.2)]
      exact h
    · have h3 := Classical.not_not.mp h2
      rw [if_pos ⟨hA.mpr h1, fun q => h2 (hB.mp q)⟩, if_pos ⟨hd, h1, h3⟩]
      exact Rw_upd h h3
  · have h4 := Classical.not_not.mp h1
    by_cases h2 : ¬ O (T d) = -1
    · rw [if_neg (fun q => h1 (hA.mp q.1)), if_pos ⟨hB.mpr h2, fun q => h1 (hA.mp q)⟩, if_neg (fun q => h1 q.2.1), if_pos ⟨hd, h2, h4⟩]
      exact Rw_upd h h4
    · rw [if_neg (fun q => h1 (hA.mp q.1)), if_neg (fun q => h2 (hB.mp q.1)), if_neg (fun q => h1 q.2.1), if_neg (fun q => h2 q.2.1)]
      exact h
theorem Rw_I {F T : Nat → Nat} {dd : Nat → Bool} {b : Nat} {W O : Nat → Int32} (h : Rw b W O) : ∀ d, Rw b (ewI F T dd b W d) (owI F T dd O d) := by
  intro d
  induction d with
  | zero => exact h
  | succ d ih =>
    unfold ewI owI
    by_cases hd : dd d = true
    · rw [if_pos hd]
      have : owS F T dd d (owI F T dd O d) = owI F T dd O d := by
        unfold owS
        rw [hd, if_neg (fun q => Bool.noConfusion q.1), if_neg (fun q => Bool.noConfusion q.1)]
      rw [this]
      exact ih
    · rw [if_neg hd]
      exact Rw_step ih (by cases hq : dd d with | true => exact absurd hq hd | false => rfl)
theorem Rw_R {F T : Nat → Nat} {dd : Nat → Bool} {b cnt : Nat} {W O : Nat → Int32} (h : Rw b W O) : ∀ r, Rw b (ewR F T dd b cnt W r) (owR F T dd cnt O r) := by
  intro r
  induction r with
  | zero => exact h
  | succ r ih => unfold ewR owR; exact Rw_I ih cnt
theorem oW_Och {F T : Nat → Nat} {dd : Nat → Bool} {n cnt b : Nat} (hc : cnt ≤ 20) (hF : ∀ d, d < cnt → F d < n) (hT : ∀ d, d < cnt → T d < n) (hb : b < n) (hdd : ∀ d, d < cnt → dd d = Dd F T d) (i : Nat) : oW F T dd n cnt b i = if i = b then -1 else Och F T n cnt b i := by
  have h0 : Rw b (fun _ => -1) (fun i => if i = b then 20 else -1) := by
    refine ⟨if_pos rfl, ?_⟩
    intro i
    show (-1 : Int32) = if i = b then -1 else if i = b then 20 else -1
    by_cases e : i = b
    · rw [if_pos e]
    · rw [if_neg e, if_neg e]
  have h1 := (Rw_R (F := F) (T := T) (dd := Dd F T) (cnt := cnt) h0 (n - 1)).2 i
  unfold oW Och
  rw [ewR_congr hdd, mO_pred hc hF hT hb]
  exact h1
theorem cf_agree {F T : Nat → Nat} {V W : Nat → Int32} {a K : Nat} (h : ∀ j, j < K → V (cf F T W a j) = W (cf F T W a j)) : ∀ k, k ≤ K → cf F T V a k = cf F T W a k := by
  intro k
  induction k with
  | zero => intro _; rfl
  | succ k ih => intro hk; unfold cf; rw [ih (by omega), h k (by omega)]
theorem gN_agree {F T : Nat → Nat} {nm : Nat → Int32} {V W : Nat → Int32} {a K : Nat} (h : ∀ j, j < K → V (cf F T W a j) = W (cf F T W a j)) : ∀ k, k ≤ K → gN F T nm V a k = gN F T nm W a k := by
  intro k
  induction k with
  | zero => intro _; rfl
  | succ k ih => intro hk; unfold gN; rw [ih (by omega), cf_agree h k (by omega), h k (by omega)]
theorem gL_agree {F T : Nat → Nat} {nm lo up : Nat → Int32} {V W : Nat → Int32} {a K : Nat} (h : ∀ j, j < K → V (cf F T W a j) = W (cf F T W a j)) : ∀ k, k ≤ K → gL F T nm lo up V a k = gL F T nm lo up W a k := by
  intro k
  induction k with
  | zero => intro _; rfl
  | succ k ih => intro hk; unfold gL; rw [ih (by omega), cf_agree h k (by omega), h k (by omega)]
theorem gG_agree {F T : Nat → Nat} {nm lo up : Nat → Int32} {V W : Nat → Int32} {a K : Nat} (h : ∀ j, j < K → V (cf F T W a j) = W (cf F T W a j)) : ∀ k, k ≤ K → gG F T nm lo up V a k = gG F T nm lo up W a k := by
  intro k
  induction k with
  | zero => intro _; rfl
  | succ k ih => intro hk; unfold gG; rw [ih (by omega), cf_agree h k (by omega), h k (by omega)]
/-- the chain's length, 0 where there is none -/
def Kc (F T : Nat → Nat) (n cnt a b : Nat) : Nat := if con F T cnt a b = true then Kch F T n cnt a b else 0
theorem Kc_facts {F T : Nat → Nat} {n cnt a b : Nat} (hn : n ≤ 12) (hc : cnt ≤ 20) (hF : ∀ d, d < cnt → F d < n) (hT : ∀ d, d < cnt → T d < n) (ha : a < n) (hb : b < n) : Kc F T n cnt a b < n ∧ (con F T cnt a b = true → cf F T (Och F T n cnt b) a (Kc F T n cnt a b) = b) ∧ ∀ j, j < Kc F T n cnt a b → cf F T (Och F T n cnt b) a j < n ∧ ¬ cf F T (Och F T n cnt b) a j = b ∧ cD F T n cnt a b j < cnt ∧ Och F T n cnt b (cf F T (Och F T n cnt b) a j) = nI (cD F T n cnt a b j) := by
  unfold Kc
  by_cases h : con F T cnt a b = true
  · rw [if_pos h]
    obtain ⟨h1, h2, h3⟩ := Och_walk hn hc hF hT ha hb ((Och_con hc hF hT ha hb).mpr (of_decide_eq_true h))
    refine ⟨h1, fun _ => h2, ?_⟩
    intro j hj
    obtain ⟨q1, q2, x, hx, e⟩ := h3 j hj
    have e2 : cD F T n cnt a b j = x := by unfold cD; rw [e]; exact nI_clamp (by omega)
    rw [e2]
    exact ⟨q1, q2, hx, e⟩
  · rw [if_neg h]
    exact ⟨by omega, fun q => absurd q h, fun j hj => absurd hj (Nat.not_lt_zero _)⟩
theorem find_facts {F T : Nat → Nat} {dd : Nat → Bool} {n cnt a b : Nat} (hn : n ≤ 12) (hc : cnt ≤ 20) (hF : ∀ d, d < cnt → F d < n) (hT : ∀ d, d < cnt → T d < n) (ha : a < n) (hb : b < n) (hdd : ∀ d, d < cnt → dd d = Dd F T d) :
    fK F T (oW F T dd n cnt b) n a b = Kc F T n cnt a b ∧ (∀ j, j < Kc F T n cnt a b → oW F T dd n cnt b (cf F T (Och F T n cnt b) a j) = Och F T n cnt b (cf F T (Och F T n cnt b) a j)) ∧ decide (cf F T (oW F T dd n cnt b) a (Kc F T n cnt a b) = b) = con F T cnt a b := by
  obtain ⟨hK, hKb, hKj⟩ := Kc_facts hn hc hF hT ha hb
  have hW := oW_Och hc hF hT hb hdd
  have hag : ∀ j, j < Kc F T n cnt a b → oW F T dd n cnt b (cf F T (Och F T n cnt b) a j) = Och F T n cnt b (cf F T (Och F T n cnt b) a j) := by
    intro j hj
    rw [hW, if_neg (hKj j hj).2.1]
  have hcf := cf_agree (F := F) (T := T) (V := oW F T dd n cnt b) (W := Och F T n cnt b) (a := a) hag
  have hstc : ∀ j, j < Kc F T n cnt a b → stc F T (oW F T dd n cnt b) a b j = true := by
    intro j hj
    obtain ⟨q1, q2, q3, q4⟩ := hKj j hj
    unfold stc
    rw [hcf j (by omega), hag j hj, q4]
    rw [decide_eq_true q2, decide_eq_true (nI_ne_m1 (by omega))]
    rfl
  by_cases h : con F T cnt a b = true
  · have e := hKb h
    have hend : stc F T (oW F T dd n cnt b) a b (Kc F T n cnt a b) = false := by
      unfold stc
      rw [hcf _ (Nat.le_refl _), e, decide_eq_false (fun q => q rfl)]
      rfl
    refine ⟨stp_eq hend (n - 0) 0 (Nat.zero_le _) (by omega) (fun j _ hj => hstc j hj), hag, ?_⟩
    rw [hcf _ (Nat.le_refl _), e, h]
    exact decide_eq_true rfl
  · have h0 : Kc F T n cnt a b = 0 := by unfold Kc; rw [if_neg h]
    have hab : ¬ a = b := by
      intro q
      apply h
      rw [q]
      exact decide_eq_true rfl
    have hO : Och F T n cnt b a = -1 := by
      apply Classical.byContradiction
      intro q
      exact h (decide_eq_true ((Och_con hc hF hT ha hb).mp q))
    have hend : stc F T (oW F T dd n cnt b) a b 0 = false := by
      have q : oW F T dd n cnt b (cf F T (oW F T dd n cnt b) a 0) = -1 := by
        show oW F T dd n cnt b a = -1
        rw [hW, if_neg hab]; exact hO
      unfold stc
      rw [q, decide_eq_false (fun z : ¬ (-1 : Int32) = -1 => z rfl), Bool.and_false]
    refine ⟨?_, hag, ?_⟩
    · rw [h0]; exact stp_eq hend (n - 0) 0 (Nat.zero_le _) (by omega) (fun j _ hj => absurd hj (Nat.not_lt_zero _))
    · rw [h0]
      have h2 : con F T cnt a b = false := by cases hq : con F T cnt a b with | true => exact absurd hq h | false => rfl
      rw [h2]
      exact decide_eq_false hab
