/-! chains: the search finds them, the walk ends -/
theorem Pp_keep {F T : Nat → Nat} {d i j : Nat} (h : Pp F T d i = Pp F T d j) : ∀ e, d ≤ e → Pp F T e i = Pp F T e j := by
  intro e
  induction e with
  | zero => intro hd; rw [show d = 0 by omega] at h; exact h
  | succ e ih =>
    intro hd
    by_cases q : d = e + 1
    · rw [← q]; exact h
    · have h1 := ih (by omega)
      unfold Pp
      rw [h1]
theorem Pp_join {F T : Nat → Nat} {d cnt : Nat} (h : d < cnt) : Pp F T cnt (F d) = Pp F T cnt (T d) := by
  refine Pp_keep (d := d + 1) ?_ cnt h
  unfold Pp
  rw [if_pos (Or.inl rfl), if_pos (Or.inr rfl)]
theorem Pp_closed {F T : Nat → Nat} {n cnt : Nat} {S : Nat → Prop} (hF : ∀ d, d < cnt → F d < n) (hT : ∀ d, d < cnt → T d < n) (hS : ∀ d, d < cnt → Dd F T d = false → (S (F d) ↔ S (T d))) : ∀ d, d ≤ cnt → ∀ i j, i < n → j < n → Pp F T d i = Pp F T d j → (S i ↔ S j) := by
  intro d
  induction d with
  | zero => intro _ i j _ _ h; have h : i = j := h; rw [h]
  | succ d ih =>
    intro hd i j hi hj h
    have ih := ih (by omega)
    have hFd := hF d (by omega)
    have hTd := hT d (by omega)
    by_cases hdd : Dd F T d = true
    · have e := of_decide_eq_true hdd
      have key : ∀ x, Pp F T (d + 1) x = Pp F T d x := by
        intro x
        show (if Pp F T d x = Pp F T d (F d) ∨ Pp F T d x = Pp F T d (T d) then min (Pp F T d (F d)) (Pp F T d (T d)) else Pp F T d x) = Pp F T d x
        rw [← e, Nat.min_self]
        split
        · rename_i q; rcases q with q | q <;> exact q.symm
        · rfl
      rw [key, key] at h
      exact ih i j hi hj h
    · have hst := hS d (by omega) (by cases hq : Dd F T d with | true => exact absurd hq hdd | false => rfl)
      unfold Pp at h
      by_cases h1 : Pp F T d i = Pp F T d (F d) ∨ Pp F T d i = Pp F T d (T d)
      · have h2 : S i ↔ S (F d) := h1.elim (ih i _ hi hFd) (fun q => (ih i _ hi hTd q).trans hst.symm)
        rw [if_pos h1] at h
        by_cases h3 : Pp F T d j = Pp F T d (F d) ∨ Pp F T d j = Pp F T d (T d)
        · have h4 : S j ↔ S (F d) := h3.elim (ih j _ hj hFd) (fun q => (ih j _ hj hTd q).trans hst.symm)
          exact h2.trans h4.symm
        · rw [if_neg h3] at h
          exact absurd (by omega) h3
      · rw [if_neg h1] at h
        by_cases h3 : Pp F T d j = Pp F T d (F d) ∨ Pp F T d j = Pp F T d (T d)
        · rw [if_pos h3] at h
          exact absurd (by omega) h1
        · rw [if_neg h3] at h
          exact ih i j hi hj h
def oth (F T : Nat → Nat) (x i : Nat) : Nat := if F x = i then T x else F x
def rch (F T : Nat → Nat) (O : Nat → Int32) (n cnt b : Nat) : Nat → Nat → Prop
  | 0, i => i = b
  | k + 1, i => ¬ i = b ∧ i < n ∧ ∃ x, x < cnt ∧ O i = nI x ∧ rch F T O n cnt b k (oth F T x i)
theorem rch_mono {F T : Nat → Nat} {O : Nat → Int32} {n cnt b t : Nat} {v : Int32} (hc : cnt ≤ 20) (ht : O t = -1) : ∀ k i, rch F T O n cnt b k i → rch F T (upd O t v) n cnt b k i := by
  intro k
  induction k with
  | zero => intro i h; exact h
  | succ k ih =>
    intro i h
    obtain ⟨h1, h2, x, hx, e, h3⟩ := h
    refine ⟨h1, h2, x, hx, ?_, ih _ h3⟩
    have hne : ¬ i = t := by
      intro q
      rw [q, ht] at e
      exact nI_ne_m1 (by omega) e.symm
    unfold upd
    rw [if_neg hne]
    exact e
def WInv (F T : Nat → Nat) (n cnt b : Nat) (O : Nat → Int32) : Prop := O b = 20 ∧ ∀ i, i < n → ¬ O i = -1 → (∃ k, k < cS O n ∧ rch F T O n cnt b k i) ∧ Pp F T cnt i = Pp F T cnt b
theorem winv_upd {F T : Nat → Nat} {n cnt b s t d : Nat} {O : Nat → Int32} (hc : cnt ≤ 20) (hd : d < cnt) (hI : WInv F T n cnt b O) (ht : t < n) (hs : s < n) (h1 : ¬ O s = -1) (h2 : O t = -1) (ho : oth F T d t = s) (hp : Pp F T cnt t = Pp F T cnt s) : WInv F T n cnt b (upd O t (nI d)) := by
  have hv : ¬ nI d = -1 := nI_ne_m1 (by omega)
  have htb : ¬ t = b := by
    intro q
    rw [q, hI.1] at h2
    exact absurd h2 (by decide)
  refine ⟨by unfold upd; rw [if_neg (fun q => htb q.symm)]; exact hI.1, ?_⟩
  intro i hi hne
  by_cases e : i = t
  · subst e
    obtain ⟨⟨k, hk, hr⟩, hpp⟩ := hI.2 s hs h1
    refine ⟨⟨k + 1, by rw [cS_upd h2 hv n ht]; omega, htb, ht, d, hd, by unfold upd; rw [if_pos rfl], ?_⟩, hp.trans hpp⟩
    rw [ho]
    exact rch_mono hc h2 k s hr
  · have e2 : upd O t (nI d) i = O i := by unfold upd; rw [if_neg e]
    rw [e2] at hne
    obtain ⟨⟨k, hk, hr⟩, hpp⟩ := hI.2 i hi hne
    exact ⟨⟨k, by rw [cS_upd h2 hv n ht]; omega, rch_mono hc h2 k i hr⟩, hpp⟩
theorem owS_inv {F T : Nat → Nat} {dd : Nat → Bool} {n cnt b d : Nat} {O : Nat → Int32} (hc : cnt ≤ 20) (hF : ∀ d, d < cnt → F d < n) (hT : ∀ d, d < cnt → T d < n) (hd : d < cnt) (hI : WInv F T n cnt b O) : WInv F T n cnt b (owS F T dd d O) := by
  unfold owS
  split
  · rename_i h
    refine winv_upd hc hd hI (hT d hd) (hF d hd) h.2.1 h.2.2 ?_ (Pp_join hd).symm
    unfold oth
    rw [if_neg (fun q => h.2.1 (by rw [q]; exact h.2.2))]
  · split
    · rename_i h
      refine winv_upd hc hd hI (hF d hd) (hT d hd) h.2.1 h.2.2 ?_ (Pp_join hd)
      unfold oth
      rw [if_pos rfl]
    · exact hI
theorem owI_inv {F T : Nat → Nat} {dd : Nat → Bool} {n cnt b : Nat} {O : Nat → Int32} (hc : cnt ≤ 20) (hF : ∀ d, d < cnt → F d < n) (hT : ∀ d, d < cnt → T d < n) (hI : WInv F T n cnt b O) : ∀ d, d ≤ cnt → WInv F T n cnt b (owI F T dd O d) := by
  intro d
  induction d with
  | zero => intro _; exact hI
  | succ d ih => intro h; unfold owI; exact owS_inv hc hF hT (by omega) (ih (by omega))
theorem owR_inv {F T : Nat → Nat} {dd : Nat → Bool} {n cnt b : Nat} {O : Nat → Int32} (hc : cnt ≤ 20) (hF : ∀ d, d < cnt → F d < n) (hT : ∀ d, d < cnt → T d < n) (hI : WInv F T n cnt b O) : ∀ r, WInv F T n cnt b (owR F T dd cnt O r) := by
  intro r
  induction r with
  | zero => exact hI
  | succ r ih => unfold owR; exact owI_inv hc hF hT ih cnt (Nat.le_refl _)
theorem cS_pos {O : Nat → Int32} {b : Nat} (hb : ¬ O b = -1) : ∀ n, b < n → 0 < cS O n := by
  intro n
  induction n with
  | zero => intro h; exact absurd h (Nat.not_lt_zero _)
  | succ n ih =>
    intro h
    unfold cS
    by_cases e : b = n
    · rw [← e, if_neg hb]; omega
    · have := ih (by omega); omega
theorem w0_inv {F T : Nat → Nat} {n cnt b : Nat} (hb : b < n) : WInv F T n cnt b (fun i => if i = b then 20 else -1) := by
  refine ⟨if_pos rfl, ?_⟩
  intro i hi hne
  have e : i = b := by
    by_cases q : i = b
    · exact q
    · exact absurd (if_neg q) hne
  subst e
  exact ⟨⟨0, cS_pos hne n hb, rfl⟩, rfl⟩
theorem owS_cases {F T : Nat → Nat} {dd : Nat → Bool} {n cnt d : Nat} {O : Nat → Int32} (hc : cnt ≤ 20) (hF : ∀ d, d < cnt → F d < n) (hT : ∀ d, d < cnt → T d < n) (hd : d < cnt) : owS F T dd d O = O ∨ cS O n < cS (owS F T dd d O) n := by
  have hv : ¬ nI d = -1 := nI_ne_m1 (by omega)
  unfold owS
  split
  · rename_i h; right; rw [cS_upd h.2.2 hv n (hT d hd)]; omega
  · split
    · rename_i h; right; rw [cS_upd h.2.2 hv n (hF d hd)]; omega
    · left; rfl
theorem owI_cases {F T : Nat → Nat} {dd : Nat → Bool} {n cnt : Nat} {O : Nat → Int32} (hc : cnt ≤ 20) (hF : ∀ d, d < cnt → F d < n) (hT : ∀ d, d < cnt → T d < n) : ∀ d, d ≤ cnt → owI F T dd O d = O ∨ cS O n < cS (owI F T dd O d) n := by
  intro d
  induction d with
  | zero => intro _; exact Or.inl rfl
  | succ d ih =>
    intro h
    unfold owI
    rcases owS_cases (dd := dd) (O := owI F T dd O d) hc hF hT (show d < cnt by omega) with q | q
    · rw [q]; exact ih (by omega)
    · rcases ih (by omega) with r | r
      · rw [r] at q ⊢; exact Or.inr q
      · exact Or.inr (by omega)
theorem owI_step {F T : Nat → Nat} {dd : Nat → Bool} {n cnt : Nat} {O : Nat → Int32} (hc : cnt ≤ 20) (hF : ∀ d, d < cnt → F d < n) (hT : ∀ d, d < cnt → T d < n) (d : Nat) (hd : d ≤ cnt) : ∀ e, d ≤ e → e ≤ cnt → cS (owI F T dd O d) n ≤ cS (owI F T dd O e) n := by
  intro e
  induction e with
  | zero => intro h _; rw [show d = 0 by omega]; exact Nat.le_refl _
  | succ e ih =>
    intro h he
    by_cases q : d = e + 1
    · rw [q]; exact Nat.le_refl _
    · have h1 := ih (by omega) (by omega)
      refine Nat.le_trans h1 ?_
      show _ ≤ cS (owS F T dd e (owI F T dd O e)) n
      rcases owS_cases (dd := dd) (O := owI F T dd O e) hc hF hT (show e < cnt by omega) with r | r
      · rw [r]; exact Nat.le_refl _
      · omega
theorem fix_step {F T : Nat → Nat} {dd : Nat → Bool} {n cnt : Nat} {O : Nat → Int32} (hc : cnt ≤ 20) (hF : ∀ d, d < cnt → F d < n) (hT : ∀ d, d < cnt → T d < n) (hfx : owI F T dd O cnt = O) : ∀ d, d < cnt → owS F T dd d O = O := by
  have key : ∀ d, d ≤ cnt → owI F T dd O d = O := by
    intro d hd
    rcases owI_cases (dd := dd) (O := O) hc hF hT d hd with q | q
    · exact q
    · have h1 := owI_step (dd := dd) (O := O) hc hF hT d hd cnt hd (Nat.le_refl _)
      rw [hfx] at h1
      omega
  intro d hd
  have h1 := key (d + 1) hd
  unfold owI at h1
  rw [key d (by omega)] at h1
  exact h1
theorem fix_closed {F T : Nat → Nat} {dd : Nat → Bool} {n cnt : Nat} {O : Nat → Int32} (hc : cnt ≤ 20) (hF : ∀ d, d < cnt → F d < n) (hT : ∀ d, d < cnt → T d < n) (hfx : owI F T dd O cnt = O) (d : Nat) (hd : d < cnt) (hdd : dd d = false) : (¬ O (F d) = -1) ↔ ¬ O (T d) = -1 := by
  have h := fix_step hc hF hT hfx d hd
  have hv : ¬ nI d = -1 := nI_ne_m1 (by omega)
  constructor
  · intro h1 h2
    have q : owS F T dd d O = upd O (T d) (nI d) := by unfold owS; rw [if_pos ⟨hdd, h1, h2⟩]
    rw [q] at h
    have h3 := congrFun h (T d)
    unfold upd at h3
    rw [if_pos rfl, h2] at h3
    exact hv h3
  · intro h1 h2
    have q : owS F T dd d O = upd O (F d) (nI d) := by unfold owS; rw [if_neg (fun z => z.2.1 h2), if_pos ⟨hdd, h1, h2⟩]
    rw [q] at h
    have h3 := congrFun h (F d)
    unfold upd at h3
    rw [if_pos rfl, h2] at h3
    exact hv h3
theorem full_fix {F T : Nat → Nat} {dd : Nat → Bool} {n cnt : Nat} {O : Nat → Int32} (hF : ∀ d, d < cnt → F d < n) (hT : ∀ d, d < cnt → T d < n) (h : ∀ i, i < n → ¬ O i = -1) : ∀ d, d ≤ cnt → owI F T dd O d = O := by
  intro d
  induction d with
  | zero => intro _; rfl
  | succ d ih =>
    intro hd
    unfold owI
    rw [ih (by omega)]
    unfold owS
    rw [if_neg (fun q => h _ (hT d (by omega)) q.2.2), if_neg (fun q => h _ (hF d (by omega)) q.2.2)]
theorem fix_or {F T : Nat → Nat} {dd : Nat → Bool} {n cnt b : Nat} (hc : cnt ≤ 20) (hF : ∀ d, d < cnt → F d < n) (hT : ∀ d, d < cnt → T d < n) (hb : b < n) : ∀ r, owI F T dd (owR F T dd cnt (fun i => if i = b then 20 else -1) r) cnt = owR F T dd cnt (fun i => if i = b then 20 else -1) r ∨ r + 1 ≤ cS (owR F T dd cnt (fun i => if i = b then 20 else -1) r) n := by
  intro r
  induction r with
  | zero => right; exact cS_pos (O := fun i => if i = b then 20 else -1) (b := b) (by show ¬ (if b = b then (20 : Int32) else -1) = -1; rw [if_pos rfl]; decide) n hb
  | succ r ih =>
    rcases ih with q | q
    · left
      show owI F T dd (owI F T dd (owR F T dd cnt _ r) cnt) cnt = owI F T dd (owR F T dd cnt _ r) cnt
      rw [q, q]
    · rcases owI_cases (dd := dd) (O := owR F T dd cnt (fun i => if i = b then 20 else -1) r) hc hF hT cnt (Nat.le_refl _) with z | z
      · left
        show owI F T dd (owI F T dd (owR F T dd cnt _ r) cnt) cnt = owI F T dd (owR F T dd cnt _ r) cnt
        rw [z, z]
      · right
        show r + 1 + 1 ≤ cS (owI F T dd (owR F T dd cnt _ r) cnt) n
        omega
theorem fix_at {F T : Nat → Nat} {dd : Nat → Bool} {n cnt b : Nat} (hc : cnt ≤ 20) (hF : ∀ d, d < cnt → F d < n) (hT : ∀ d, d < cnt → T d < n) (hb : b < n) : owI F T dd (owR F T dd cnt (fun i => if i = b then 20 else -1) (n - 1)) cnt = owR F T dd cnt (fun i => if i = b then 20 else -1) (n - 1) := by
  rcases fix_or (dd := dd) hc hF hT hb (n - 1) with q | q
  · exact q
  · have h1 := cS_le (owR F T dd cnt (fun i => if i = b then 20 else -1) (n - 1)) n
    exact full_fix hF hT (cS_full n (by omega)) cnt (Nat.le_refl _)
/-- the last round changes nothing -/
theorem mO_pred {F T : Nat → Nat} {dd : Nat → Bool} {n cnt b : Nat} (hc : cnt ≤ 20) (hF : ∀ d, d < cnt → F d < n) (hT : ∀ d, d < cnt → T d < n) (hb : b < n) : mO F T dd n cnt b = owR F T dd cnt (fun i => if i = b then 20 else -1) (n - 1) := by
  have h := fix_at (dd := dd) hc hF hT hb
  unfold mO
  conv => lhs; rw [show n = (n - 1) + 1 by omega]
  exact h
theorem mO_fix {F T : Nat → Nat} {dd : Nat → Bool} {n cnt b : Nat} (hc : cnt ≤ 20) (hF : ∀ d, d < cnt → F d < n) (hT : ∀ d, d < cnt → T d < n) (hb : b < n) : owI F T dd (mO F T dd n cnt b) cnt = mO F T dd n cnt b := by
  rw [mO_pred hc hF hT hb]
  exact fix_at hc hF hT hb
theorem cf_shift (F T : Nat → Nat) (O : Nat → Int32) : ∀ j a, cf F T O a (j + 1) = cf F T O (cf F T O a 1) j := by
  intro j
  induction j with
  | zero => intro a; rfl
  | succ j ih =>
    intro a
    have h := ih a
    conv => lhs; unfold cf
    conv => rhs; unfold cf
    rw [h]
theorem rch_cf {F T : Nat → Nat} {O : Nat → Int32} {n cnt b : Nat} (hc : cnt ≤ 20) : ∀ k a, rch F T O n cnt b k a → cf F T O a k = b ∧ ∀ j, j < k → cf F T O a j < n ∧ ¬ cf F T O a j = b ∧ ∃ x, x < cnt ∧ O (cf F T O a j) = nI x := by
  intro k
  induction k with
  | zero => intro a h; exact ⟨h, fun j hj => absurd hj (Nat.not_lt_zero _)⟩
  | succ k ih =>
    intro a h
    obtain ⟨h1, h2, x, hx, e, h3⟩ := h
    have e1 : cf F T O a 1 = oth F T x a := by
      show (if F (O a).toNatClampNeg = a then T (O a).toNatClampNeg else F (O a).toNatClampNeg) = oth F T x a
      rw [e, nI_clamp (by omega)]
      rfl
    obtain ⟨q1, q2⟩ := ih _ h3
    refine ⟨by rw [cf_shift, e1]; exact q1, ?_⟩
    intro j hj
    cases j with
    | zero => exact ⟨h2, h1, x, hx, e⟩
    | succ j =>
      rw [cf_shift, e1]
      exact q2 j (by omega)
theorem stp_eq {c : Nat → Bool} {k : Nat} (hk : c k = false) : ∀ m s, s ≤ k → k ≤ s + m → (∀ j, s ≤ j → j < k → c j = true) → stp c m s = k := by
  intro m
  induction m with
  | zero => intro s h1 h2 _; show s = k; omega
  | succ m ih =>
    intro s h1 h2 h
    unfold stp
    by_cases e : s = k
    · rw [e, hk]; rfl
    · rw [if_pos (h s (Nat.le_refl _) (by omega))]
      exact ih (s + 1) (by omega) (by omega) (fun j h3 h4 => h j (by omega) h4)
/-- where a way leads on from a, the walk comes to b -/
theorem Och_walk {F T : Nat → Nat} {n cnt a b : Nat} (hn : n ≤ 12) (hc : cnt ≤ 20) (hF : ∀ d, d < cnt → F d < n) (hT : ∀ d, d < cnt → T d < n) (ha : a < n) (hb : b < n) (h : ¬ Och F T n cnt b a = -1) : Kch F T n cnt a b < n ∧ cf F T (Och F T n cnt b) a (Kch F T n cnt a b) = b ∧ ∀ j, j < Kch F T n cnt a b → cf F T (Och F T n cnt b) a j < n ∧ ¬ cf F T (Och F T n cnt b) a j = b ∧ ∃ x, x < cnt ∧ Och F T n cnt b (cf F T (Och F T n cnt b) a j) = nI x := by
  have hI : WInv F T n cnt b (Och F T n cnt b) := owR_inv hc hF hT (w0_inv hb) n
  obtain ⟨⟨k, hk, hr⟩, -⟩ := hI.2 a ha h
  obtain ⟨q1, q2⟩ := rch_cf hc k a hr
  have hk2 : k < n := Nat.lt_of_lt_of_le hk (cS_le _ n)
  have e : Kch F T n cnt a b = k := stp_eq (decide_eq_false (fun z => z q1)) 12 0 (Nat.zero_le _) (by omega) (fun j _ hj => decide_eq_true (q2 j hj).2.1)
  rw [e]
  exact ⟨hk2, q1, q2⟩
theorem Och_con {F T : Nat → Nat} {n cnt a b : Nat} (hc : cnt ≤ 20) (hF : ∀ d, d < cnt → F d < n) (hT : ∀ d, d < cnt → T d < n) (ha : a < n) (hb : b < n) : (¬ Och F T n cnt b a = -1) ↔ Pp F T cnt a = Pp F T cnt b := by
  have hI : WInv F T n cnt b (Och F T n cnt b) := owR_inv hc hF hT (w0_inv hb) n
  constructor
  · intro h; exact (hI.2 a ha h).2
  · intro h
    refine (Pp_closed (S := fun i => ¬ Och F T n cnt b i = -1) hF hT (fun d hd hdd => fix_closed hc hF hT (mO_fix hc hF hT hb) d hd hdd) cnt (Nat.le_refl _) a b ha hb h).mpr ?_
    show ¬ Och F T n cnt b b = -1
    rw [hI.1]
    decide
theorem ChK_of {F T : Nat → Nat} {n cnt a b : Nat} (hn : n ≤ 12) (hc : cnt ≤ 20) (hF : ∀ d, d < cnt → F d < n) (hT : ∀ d, d < cnt → T d < n) (ha : a < n) (hb : b < n) : ChK F T (Dd F T) n cnt (Pp F T cnt a) (Pp F T cnt b) a b (if Pp F T cnt a = Pp F T cnt b then Kch F T n cnt a b else 0) := by
  by_cases h : Pp F T cnt a = Pp F T cnt b
  · rw [if_pos h]
    obtain ⟨h1, h2, h3⟩ := Och_walk hn hc hF hT ha hb ((Och_con hc hF hT ha hb).mpr h)
    exact ⟨by omega, fun _ => ⟨h2, h3⟩⟩
  · rw [if_neg h]
    exact ⟨by omega, fun q => absurd q h⟩
