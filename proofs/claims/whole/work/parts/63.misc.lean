/-! roots, widest, sums of a digest -/
theorem stp_eq9 {c : Nat → Bool} {r : Nat} (hr : c r = false) : ∀ m s, s ≤ r → r ≤ s + m → (∀ j, s ≤ j → j < r → c j = true) → stp c m s = r := by
  intro m
  induction m with
  | zero => intro s h1 h2 _; show s = r; omega
  | succ m ih =>
    intro s h1 h2 h
    by_cases e : s = r
    · rw [e]; exact stp_stop hr
    · unfold stp
      rw [if_pos (h s (Nat.le_refl _) (by omega))]
      exact ih (s + 1) (by omega) (by omega) (fun j h3 h4 => h j (by omega) h4)
theorem pb_pow {t : Nat} (h : t < 13) : pb (13 - t) = 2 ^ (12 - t) := by
  unfold pb
  rw [show 13 - t = (12 - t) + 1 by omega, Nat.pow_succ, Nat.mul_div_cancel _ (by decide)]
theorem rt_inv {s : Nat} (hs : s < 8192 * 8192) : ∀ t, t ≤ 13 → rtS s t * rtS s t ≤ s ∧ s < (rtS s t + 2 ^ (13 - t)) * (rtS s t + 2 ^ (13 - t)) := by
  intro t
  induction t with
  | zero => intro _; exact ⟨Nat.zero_le _, by simp only [rtS, Nat.zero_add, Nat.sub_zero]; exact Nat.lt_of_lt_of_le hs (Nat.le_of_ble_eq_true rfl)⟩
  | succ t ih =>
    intro ht
    obtain ⟨h1, h2⟩ := ih (by omega)
    unfold rtS
    rw [pb_pow (by omega), show 13 - (t + 1) = 12 - t by omega]
    rw [show 13 - t = (12 - t) + 1 by omega, Nat.pow_succ] at h2
    generalize 2 ^ (12 - t) = q at h2 ⊢
    by_cases z : (rtS s t + q) * (rtS s t + q) ≤ s
    · rw [if_pos z]
      refine ⟨z, ?_⟩
      rw [show rtS s t + q + q = rtS s t + q * 2 by omega]
      exact h2
    · rw [if_neg z]
      exact ⟨h1, Nat.lt_of_not_le z⟩
theorem rt_isq {s : Nat} (hs : s < 8192 * 8192) : rtS s 13 = isq s := by
  obtain ⟨h1, h2⟩ := rt_inv hs 13 (Nat.le_refl _)
  have h2 : s < (rtS s 13 + 1) * (rtS s 13 + 1) := h2
  generalize rtS s 13 = r at h1 h2 ⊢
  have hr : r < 8192 := by
    rcases Nat.lt_or_ge r 8192 with q | q
    · exact q
    · have := Nat.mul_le_mul q q
      omega
  unfold isq
  symm
  refine stp_eq9 (decide_eq_false (by omega)) _ 0 (Nat.zero_le _) (by omega) (fun j _ hj => decide_eq_true ?_)
  exact Nat.le_trans (Nat.mul_le_mul (show j + 1 ≤ r by omega) (show j + 1 ≤ r by omega)) h1
theorem isw_eq {lo up : Nat → Int32} {x y : Nat} (hx : devB (lo x) (up x) = true) (hy : devB (lo y) (up y) = true) : isw lo up x y = isw2 lo up x y := by
  obtain ⟨a1, a2⟩ := wd_ok hx
  obtain ⟨b1, b2⟩ := wd_ok hy
  unfold isw isw2
  generalize up x - lo x = p at a1 a2 ⊢
  generalize up y - lo y = q at b1 b2 ⊢
  generalize p.toNatClampNeg = m at a1 a2
  generalize q.toNatClampNeg = k at b1 b2
  subst a1
  subst b1
  have h0 : (0 : Int32).toInt = 0 := rfl
  have e1 : 0 < nI m - nI k ↔ k < m := by
    rw [Int32.lt_iff_toInt_lt, pk_sub_toInt (by omega) (by omega), h0]
    omega
  have e2 : nI m - nI k = 0 ↔ m = k := by
    rw [i_sub0, nI_eq (by omega) (by omega)]
    exact eq_comm
  have e3 : nI k < nI m ↔ k < m := nI_ltI (by omega) (by omega)
  have e4 : nI m = nI k ↔ m = k := nI_eq (by omega) (by omega)
  rw [Bool.eq_iff_iff]
  simp only [Bool.or_eq_true, Bool.and_eq_true, decide_eq_true_eq, e1, e2, e3, e4]
theorem wd_mw {L : Nat → Nat} {lo up : Nat → Int32} {K cnt : Nat} (hc : cnt ≤ 20) (hL : ∀ k, k < K → L k < cnt) (hdv : ∀ d, d < cnt → devB (lo d) (up d) = true) : ∀ k, k ≤ K → wdst L lo up k = mwd L lo up k := by
  intro k
  induction k with
  | zero => intro _; rfl
  | succ k ih =>
    intro hk
    have ih := ih (by omega)
    unfold wdst mwd
    rw [← ih]
    by_cases h : wdst L lo up k = -1
    · rw [if_pos (Or.inl h), if_pos (Or.inl h)]
    · obtain ⟨j, hj, e⟩ := wdst_val L lo up k h
      have hLj := hL j (by omega)
      have e2 : (wdst L lo up k).toNatClampNeg = L j := by rw [e]; exact nI_clamp (by omega)
      rw [e2, isw_eq (hdv _ (hL k (by omega))) (hdv _ hLj)]
theorem sq_le9 {L : Nat → Nat} {lo up : Nat → Int32} {K cnt : Nat} (hL : ∀ k, k < K → L k < cnt) (hdv : ∀ d, d < cnt → devB (lo d) (up d) = true) : ∀ k, k ≤ K → sqN L lo up k ≤ 3992004 * k := by
  intro k
  induction k with
  | zero => intro _; exact Nat.le_refl _
  | succ k ih =>
    intro hk
    have ih := ih (by omega)
    have h2 : wdN lo up (L k) ≤ 1998 := (wd_ok (hdv _ (hL k (by omega)))).2
    have h3 := Nat.mul_le_mul h2 h2
    unfold sqN
    omega
section
variable {F T : Nat → Nat} {nm lo up v : Nat → Int32} {y : Nat → Int64} {n cnt a b : Nat}
theorem chain_root (hn : n ≤ 12) (hc : cnt ≤ 20) (hF : ∀ d, d < cnt → F d < n) (hT : ∀ d, d < cnt → T d < n) (hdv : ∀ d, d < cnt → devB (lo d) (up d) = true) (ha : a < n) (hb : b < n) : rtS (sqN (cD F T n cnt a b) lo up (Kc F T n cnt a b)) 13 = isq (sqN (cD F T n cnt a b) lo up (Kc F T n cnt a b)) := by
  obtain ⟨h1, -, h3⟩ := Kc_facts hn hc hF hT ha hb
  have h4 := sq_le9 (lo := lo) (up := up) (fun k hk => (h3 k hk).2.2.1) hdv (Kc F T n cnt a b) (Nat.le_refl _)
  exact rt_isq (by omega)
theorem chain_wide (hn : n ≤ 12) (hc : cnt ≤ 20) (hF : ∀ d, d < cnt → F d < n) (hT : ∀ d, d < cnt → T d < n) (hdv : ∀ d, d < cnt → devB (lo d) (up d) = true) (ha : a < n) (hb : b < n) : wdst (cD F T n cnt a b) lo up (Kc F T n cnt a b) = mwd (cD F T n cnt a b) lo up (Kc F T n cnt a b) := by
  obtain ⟨h1, -, h3⟩ := Kc_facts hn hc hF hT ha hb
  exact wd_mw hc (fun k hk => (h3 k hk).2.2.1) hdv _ (Nat.le_refl _)
theorem cg_mg (hn : n ≤ 12) (hn1 : 1 ≤ n) (hc : cnt ≤ 20) (hF : ∀ d, d < cnt → F d < n) (hT : ∀ d, d < cnt → T d < n) (hne : ∀ d, d < cnt → ¬ F d = T d) (hnm : ∀ d, d < cnt → nomB (nm d) = true) (hdv : ∀ d, d < cnt → devB (lo d) (up d) = true) (hs : Int64) : ∀ j, j ≤ n - 1 → cgH F T nm lo up n cnt (stV n (dV F T nm lo up v n cnt) n) (stB n (dV F T nm lo up v n cnt) n) hs j = mgH F T nm lo up n cnt (lbK n (dY F T nm lo up y cnt) n) (stB n (dV F T nm lo up v n cnt) n) hs j := by
  intro j
  induction j with
  | zero => intro _; rfl
  | succ j ih =>
    intro hj
    have ih := ih (by omega)
    have h0 : 0 < n := by omega
    have h1 : j + 1 < n := by omega
    simp only [cgH, mgH]
    rw [ih, chain_root hn hc hF hT hdv h0 h1, chain_wide hn hc hF hT hdv h0 h1]
    by_cases q : con F T cnt 0 (j + 1) = true
    · rw [if_pos q, if_pos q]
      by_cases z : stB n (dV F T nm lo up v n cnt) n = true
      · rw [if_pos z, if_pos z, tight_hi (y := y) hn hF hT hne hnm hdv z h0 h1 q, tight_lo (y := y) hn hF hT hne hnm hdv z h0 h1 q]
      · rw [if_neg z, if_neg z]
    · rw [if_neg q, if_neg q]
end
theorem pcN_congr {P Q : Nat → Nat} : ∀ n, (∀ i, i < n → P i = Q i) → pcN P n = pcN Q n := by
  intro n
  induction n with
  | zero => intro _; rfl
  | succ n ih => intro h; unfold pcN; rw [ih (fun i hi => h i (by omega)), h n (by omega)]
/-! what holds of the drawing between two calls -/
def St (n cnt : Nat) (F T : Nat → Nat) (nm lo up : Nat → Int32) (il : Nat) (inp : Nat → Nat) : Prop := 2 ≤ n ∧ n ≤ 12 ∧ cnt ≤ 20 ∧ il ≤ 60 ∧ (∀ i, i < il → inp i < 128) ∧ ∀ d, d < cnt → okD n F T nm lo up d
def Dr (n cnt : Nat) (F T P : Nat → Nat) (dd : Nat → Bool) : Prop := (∀ i, i < n → P i = Pp F T cnt i) ∧ ∀ d, d < cnt → dd d = Dd F T d
section
variable {n cnt il : Nat} {F T P inp : Nat → Nat} {dd : Nat → Bool} {nm lo up : Nat → Int32}
theorem Dr_find (P : Nat → Nat) (dd : Nat → Bool) (hF : ∀ d, d < cnt → F d < n) (hT : ∀ d, d < cnt → T d < n) : Dr n cnt F T (fpP F T n (fpI P n) cnt) (fpD F T n (fpI P n) dd cnt) := ⟨fun i hi => fpP_Pp hF hT cnt (Nat.le_refl _) i hi, fun d hd => fpD_Dd hF hT cnt (Nat.le_refl _) d hd⟩
theorem St.f1 (h : St n cnt F T nm lo up il inp) : ∀ d, d < cnt → F d < n := fun d hd => (h.2.2.2.2.2 d hd).1
theorem St.f2 (h : St n cnt F T nm lo up il inp) : ∀ d, d < cnt → T d < n := fun d hd => (h.2.2.2.2.2 d hd).2.1
theorem St.f3 (h : St n cnt F T nm lo up il inp) : ∀ d, d < cnt → ¬ F d = T d := fun d hd => (h.2.2.2.2.2 d hd).2.2.1
theorem St.f4 (h : St n cnt F T nm lo up il inp) : ∀ d, d < cnt → nomB (nm d) = true := fun d hd => (h.2.2.2.2.2 d hd).2.2.2.1
theorem St.f5 (h : St n cnt F T nm lo up il inp) : ∀ d, d < cnt → devB (lo d) (up d) = true := fun d hd => (h.2.2.2.2.2 d hd).2.2.2.2
theorem St.put (h : St n cnt F T nm lo up il inp) {n' cnt' : Nat} {F' T' : Nat → Nat} {nm' lo' up' : Nat → Int32} (h1 : 2 ≤ n') (h2 : n' ≤ 12) (h3 : cnt' ≤ 20) (h4 : ∀ d, d < cnt' → okD n' F' T' nm' lo' up' d) : St n' cnt' F' T' nm' lo' up' il inp := ⟨h1, h2, h3, h.2.2.2.1, h.2.2.2.2.1, h4⟩
theorem St_faces (h : St n cnt F T nm lo up il inp) {x : Int32} (hx : sfC x = 0) : St x.toNatClampNeg 0 F T nm lo up il inp := by
  have hw : wtn x 2 12 = true := by
    cases e : wtn x 2 12 with
    | true => rfl
    | false => unfold sfC at hx; rw [e, if_neg Bool.false_ne_true] at hx; exact absurd hx (by decide)
  have h2 := wtn_le12 hw
  have h3 : 2 ≤ x.toNatClampNeg := by
    simp only [wtn, Bool.and_eq_true, decide_eq_true_eq, Int32.lt_iff_toInt_lt] at hw
    have e2 : (2 : Int32).toInt = 2 := by decide
    rw [e2] at hw
    show 2 ≤ x.toInt.toNat
    omega
  exact h.put h3 h2 (Nat.zero_le _) (fun d hd => absurd hd (Nat.not_lt_zero _))
theorem inB_ne {a b : Int32} {n : Nat} (hn : n ≤ 1000) (ha : inB a n = true) (hb : inB b n = true) (h : ¬ a = b) : ¬ a.toNatClampNeg = b.toNatClampNeg := by
  intro q
  apply h
  rw [ix_eq (inB_vp ha (by omega)) (by omega), ix_eq (inB_vp hb (by omega)) (by omega), q]
theorem ad_ok {a b x y z : Int32} (h : adC n cnt a b x y z = 0) : inB a n = true ∧ inB b n = true ∧ ¬ a = b ∧ nomB x = true ∧ devB y z = true ∧ ¬ cnt = 20 := by
  unfold adC at h
  by_cases h1 : inB a n = true ∧ inB b n = true
  · rw [if_neg (fun q => q h1)] at h
    by_cases h2 : (decide (¬ a = b) && (nomB x && devB y z)) = true
    · rw [if_neg (fun q => q h2)] at h
      rw [Bool.and_eq_true, Bool.and_eq_true, decide_eq_true_eq] at h2
      by_cases h3 : cnt = 20
      · rw [if_pos h3] at h; exact absurd h (by decide)
      · exact ⟨h1.1, h1.2, h2.1, h2.2.1, h2.2.2, h3⟩
    · rw [if_pos h2] at h; exact absurd h (by decide)
  · rw [if_pos h1] at h; exact absurd h (by decide)
theorem St_add (h : St n cnt F T nm lo up il inp) {a b x y z : Int32} (hx : adC n cnt a b x y z = 0) : St n (cnt + 1) (updN F cnt a.toNatClampNeg) (updN T cnt b.toNatClampNeg) (upd nm cnt x) (upd lo cnt y) (upd up cnt z) il inp := by
  obtain ⟨h1, h2, h3, h4, h5, h6⟩ := ad_ok hx
  obtain ⟨g1, g2, g3, g4, g5, g6⟩ := h
  refine ⟨g1, g2, by omega, g4, g5, fun d hd => ?_⟩
  unfold okD
  by_cases e : d = cnt
  · rw [e, uN_s, uN_s, pk_us, pk_us, pk_us]
    exact ⟨ix_lt (inB_vp h1 (by omega)), ix_lt (inB_vp h2 (by omega)), inB_ne (by omega) h1 h2 h3, h4, h5⟩
  · have hd : d < cnt := by omega
    rw [uN_lt hd, uN_lt hd, u_lt hd, u_lt hd, u_lt hd]
    exact g6 d hd
theorem rmI_at (f : Nat → Int32) (d : Nat) : ∀ k i, rmI f d k i = if d ≤ i ∧ i < d + k then f (i + 1) else f i := by
  intro k
  induction k with
  | zero => intro i; rw [if_neg (by omega)]; rfl
  | succ k ih =>
    intro i
    simp only [rmI, upd, ih]
    by_cases e : i = d + k
    · subst e
      rw [if_pos rfl, if_neg (by omega), if_pos (by omega)]
      congr 1
      omega
    · by_cases q : d ≤ i ∧ i < d + k
      · rw [if_neg e, if_pos q, if_pos (by omega)]
      · rw [if_neg e, if_neg q, if_neg (by omega)]
theorem St_rem (h : St n cnt F T nm lo up il inp) {z : Nat} (hz : z < cnt) : St n (cnt - 1) (rmN F z (cnt - 1 - z)) (rmN T z (cnt - 1 - z)) (rmI nm z (cnt - 1 - z)) (rmI lo z (cnt - 1 - z)) (rmI up z (cnt - 1 - z)) il inp := by
  obtain ⟨g1, g2, g3, g4, g5, g6⟩ := h
  refine ⟨g1, g2, by omega, g4, g5, fun d hd => ?_⟩
  unfold okD
  rw [rmN_at, rmN_at, rmI_at, rmI_at, rmI_at]
  by_cases e : z ≤ d ∧ d < z + (cnt - 1 - z)
  · rw [if_pos e, if_pos e, if_pos e, if_pos e, if_pos e]
    exact g6 (d + 1) (by omega)
  · rw [if_neg e, if_neg e, if_neg e, if_neg e, if_neg e]
    exact g6 d (by omega)
theorem St_dev (h : St n cnt F T nm lo up il inp) {lo' up' : Nat → Int32} (hd : ∀ d, d < cnt → devB (lo' d) (up' d) = true) : St n cnt F T nm lo' up' il inp := by
  obtain ⟨g1, g2, g3, g4, g5, g6⟩ := h
  refine ⟨g1, g2, g3, g4, g5, fun d hd' => ?_⟩
  obtain ⟨a, b, c, e, -⟩ := g6 d hd'
  exact ⟨a, b, c, e, hd d hd'⟩
theorem St_set (h : St n cnt F T nm lo up il inp) {z : Nat} {x y : Int32} (hd : devB x y = true) : St n cnt F T nm (upd lo z x) (upd up z y) il inp := by
  refine St_dev h (fun d hd' => ?_)
  by_cases e : d = z
  · rw [e, pk_us, pk_us]; exact hd
  · rw [pk_un e, pk_un e]; exact h.f5 d hd'
theorem tolV_dev (g : Int32) (k : Nat) : devB (-(tolV g k)) (tolV g k) = true := by
  unfold tolV
  repeat' split
  all_goals decide
theorem St_gen (h : St n cnt F T nm lo up il inp) (g : Int32) : St n cnt F T nm (gnS g nm lo up cnt).1 (gnS g nm lo up cnt).2 il inp := by
  refine St_dev h (fun d hd => ?_)
  have : ∀ k, devB ((gnS g nm lo up k).1 d) ((gnS g nm lo up k).2 d) = true := by
    intro k
    induction k with
    | zero => exact h.f5 d hd
    | succ k ih =>
      unfold gnS
      split
      · by_cases e : d = k
        · rw [e]
          show devB (upd _ k _ k) (upd _ k _ k) = true
          rw [pk_us, pk_us]
          exact tolV_dev _ _
        · show devB (upd _ k _ d) (upd _ k _ d) = true
          rw [pk_un e, pk_un e]
          exact ih
      · exact ih
  exact this cnt
theorem St_app (h : St n cnt F T nm lo up il inp) {x : Int32} (hx : apD x il = 0) : St n cnt F T nm lo up (il + 1) (updN inp il x.toNatClampNeg) := by
  obtain ⟨g1, g2, g3, g4, g5, g6⟩ := h
  have h1 : wtn x 32 126 = true ∧ ¬ il = 60 := by
    unfold apD at hx
    by_cases q : wtn x 32 126 = true
    · rw [if_neg (fun z => z q)] at hx
      by_cases w : il = 60
      · rw [if_pos w] at hx; exact absurd hx (by decide)
      · exact ⟨q, w⟩
    · rw [if_pos q] at hx; exact absurd hx (by decide)
  have h2 : x.toNatClampNeg < 128 := by
    have hw := h1.1
    simp only [wtn, Bool.and_eq_true, decide_eq_true_eq, Int32.lt_iff_toInt_lt] at hw
    have e2 : (126 : Int32).toInt = 126 := by decide
    rw [e2] at hw
    show x.toInt.toNat < 128
    omega
  refine ⟨g1, g2, g3, by omega, fun i hi => ?_, g6⟩
  by_cases e : i = il
  · rw [e, uN_s]; exact h2
  · rw [uN_lt (by omega)]; exact g5 i (by omega)
theorem St_clr (h : St n cnt F T nm lo up il inp) : St n cnt F T nm lo up 0 inp := ⟨h.1, h.2.1, h.2.2.1, Nat.zero_le _, fun i hi => absurd hi (Nat.not_lt_zero _), h.2.2.2.2.2⟩
theorem tf_ok {z y : Int32} (h : tfC F T nm lo up n cnt z y = 0) : inB z cnt = true ∧ inB y n = true ∧ ¬ y.toNatClampNeg = T z.toNatClampNeg ∧ trB F T nm lo up n cnt z.toNatClampNeg y.toNatClampNeg = true := by
  unfold tfC at h
  by_cases h1 : (inB z cnt && inB y n) = true
  · rw [if_neg (fun q => q h1)] at h
    rw [Bool.and_eq_true] at h1
    by_cases h2 : y.toNatClampNeg = F z.toNatClampNeg ∨ y.toNatClampNeg = T z.toNatClampNeg
    · rw [if_pos h2] at h; exact absurd h (by decide)
    · rw [if_neg h2] at h
      by_cases h3 : trB F T nm lo up n cnt z.toNatClampNeg y.toNatClampNeg = true
      · exact ⟨h1.1, h1.2, fun q => h2 (Or.inr q), h3⟩
      · rw [if_neg h3] at h; exact absurd h (by decide)
  · rw [if_pos h1] at h; exact absurd h (by decide)
theorem St_tra (h : St n cnt F T nm lo up il inp) {z y : Int32} (hx : tfC F T nm lo up n cnt z y = 0) : St n cnt (updN F z.toNatClampNeg y.toNatClampNeg) T (upd nm z.toNatClampNeg (trN F T nm n cnt z.toNatClampNeg y.toNatClampNeg)) (upd lo z.toNatClampNeg (trL F T nm lo up n cnt z.toNatClampNeg y.toNatClampNeg)) (upd up z.toNatClampNeg (trU F T nm lo up n cnt z.toNatClampNeg y.toNatClampNeg)) il inp := by
  obtain ⟨h1, h2, h3, h4⟩ := tf_ok hx
  obtain ⟨g1, g2, g3, g4, g5, g6⟩ := h
  unfold trB at h4
  rw [Bool.and_eq_true, Bool.and_eq_true, Bool.and_eq_true, Bool.and_eq_true] at h4
  refine ⟨g1, g2, g3, g4, g5, fun d hd => ?_⟩
  unfold okD
  by_cases e : d = z.toNatClampNeg
  · rw [e, uN_s, pk_us, pk_us, pk_us]
    exact ⟨ix_lt (inB_vp h2 (by omega)), (g6 _ (by rw [← e]; exact hd)).2.1, h3, h4.2.2.2.1, h4.2.2.2.2⟩
  · rw [show updN F z.toNatClampNeg y.toNatClampNeg d = F d from if_neg e, pk_un e, pk_un e, pk_un e]
    exact g6 d hd
theorem cpI_at (f g : Nat → Int32) : ∀ k i, cpI f g k i = if i < k then g i else f i := by
  intro k
  induction k with
  | zero => intro i; rw [if_neg (by omega)]; rfl
  | succ k ih =>
    intro i
    simp only [cpI, upd, ih]
    by_cases e : i = k
    · rw [if_pos e, if_pos (by omega), e]
    · rw [if_neg e]
      by_cases q : i < k
      · rw [if_pos q, if_pos (by omega)]
      · rw [if_neg q, if_neg (by omega)]
theorem St_load (h : St n cnt F T nm lo up il inp) {k : Nat} {F3 T3 : Nat → Nat} {nm3 lo3 up3 rF rT rN rL rU : Nat → Int32} (hk : k ≤ 20) (hb : bR n k F3 T3 nm3 lo3 up3 rF rT rN rL rU) : St n k (cpN F F3 k) (cpN T T3 k) (cpI nm nm3 k) (cpI lo lo3 k) (cpI up up3 k) 0 inp := by
  refine ⟨h.1, h.2.1, hk, Nat.zero_le _, fun i hi => absurd hi (Nat.not_lt_zero _), fun d hd => ?_⟩
  unfold okD
  rw [cpN_at, cpN_at, cpI_at, cpI_at, cpI_at, if_pos hd, if_pos hd, if_pos hd, if_pos hd, if_pos hd]
  exact (hb d hd).1
theorem cp_same {k n : Nat} (hn : n ≤ 12) {F3 T3 : Nat → Nat} {nm3 lo3 up3 rF rT rN rL rU : Nat → Int32} (hb : bR n k F3 T3 nm3 lo3 up3 rF rT rN rL rU) : cpN F F3 k = cpN F (fun j_ => (rF j_).toNatClampNeg) k ∧ cpN T T3 k = cpN T (fun j_ => (rT j_).toNatClampNeg) k ∧ cpI nm nm3 k = cpI nm rN k ∧ cpI lo lo3 k = cpI lo rL k ∧ cpI up up3 k = cpI up rU k := by
  refine ⟨funext fun d => ?_, funext fun d => ?_, funext fun d => ?_, funext fun d => ?_, funext fun d => ?_⟩
  · rw [cpN_at, cpN_at]
    by_cases q : d < k
    · have h1 := (hb d q).1.1
      rw [if_pos q, if_pos q, (hb d q).2.1, nI_clamp (by omega)]
    · rw [if_neg q, if_neg q]
  · rw [cpN_at, cpN_at]
    by_cases q : d < k
    · have h1 := (hb d q).1.2.1
      rw [if_pos q, if_pos q, (hb d q).2.2.1, nI_clamp (by omega)]
    · rw [if_neg q, if_neg q]
  · rw [cpI_at, cpI_at]
    by_cases q : d < k
    · rw [if_pos q, if_pos q, (hb d q).2.2.2.1]
    · rw [if_neg q, if_neg q]
  · rw [cpI_at, cpI_at]
    by_cases q : d < k
    · rw [if_pos q, if_pos q, (hb d q).2.2.2.2.1]
    · rw [if_neg q, if_neg q]
  · rw [cpI_at, cpI_at]
    by_cases q : d < k
    · rw [if_pos q, if_pos q, (hb d q).2.2.2.2.2]
    · rw [if_neg q, if_neg q]
end
