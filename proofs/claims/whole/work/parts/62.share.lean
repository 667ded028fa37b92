/-! sharing a width: the class's new widths beside the reference's -/
theorem ite_iff {α : Type} {p q : Prop} [Decidable p] [Decidable q] (h : p ↔ q) {a b : α} : (if p then a else b) = (if q then a else b) := by
  by_cases hp : p
  · rw [if_pos hp, if_pos (h.mp hp)]
  · rw [if_neg hp, if_neg (fun z => hp (h.mpr z))]
theorem xor2_neg (x : Int32) : (x ^^^ 2) < 0 ↔ x < 0 := by
  have h : ∀ y : Int32, (y < 0) ↔ y.toBitVec.msb = true := by
    intro y
    rw [Int32.lt_iff_toInt_lt, BitVec.msb_eq_toInt, decide_eq_true_eq]
    exact Iff.rfl
  rw [h, h, Int32.toBitVec_xor, BitVec.msb_xor, show (2 : Int32).toBitVec.msb = false by decide, Bool.xor_false]
theorem i_sub0 (a b : Int32) : a - b = 0 ↔ b = a := by
  constructor
  · intro h; grind
  · intro h; grind
theorem i_back (a b : Int32) : a + b - a = b := by grind
theorem i_m1 (a : Int32) : a + (-1) = a - 1 := by grind
theorem i_s0 (a : Int32) : a - 0 = a := by grind
theorem hlf_flD (x : Int32) : hlf x = flD x 2 := by
  show (if ¬ 0 ≤ x ∧ ¬ x - x / 2 * 2 = 0 then x / 2 - 1 else x / 2) = (if (x ^^^ 2) < 0 then if ((x / 2) * 2) = x then x / 2 else (x / 2) - 1 else x / 2)
  by_cases h : x < 0
  · rw [if_pos ((xor2_neg x).mpr h)]
    by_cases q : x / 2 * 2 = x
    · rw [if_pos q, if_neg (fun z => z.2 ((i_sub0 _ _).mpr q))]
    · rw [if_neg q, if_pos ⟨Int32.not_le.mpr h, fun z => q ((i_sub0 _ _).mp z)⟩]
  · rw [if_neg (fun z => h ((xor2_neg x).mp z)), if_neg (fun z => h (Int32.not_le.mp z.1))]
theorem hld_iff {L : Nat → Nat} {d : Nat} : ∀ k, hld L d k = true ↔ ∃ j, j < k ∧ L j = d := by
  intro k
  induction k with
  | zero => exact ⟨fun q => absurd q Bool.false_ne_true, fun ⟨j, hj, _⟩ => absurd hj (Nat.not_lt_zero _)⟩
  | succ k ih =>
    simp only [hld, Bool.or_eq_true, decide_eq_true_eq, ih]
    constructor
    · intro q
      rcases q with ⟨j, hj, e⟩ | e
      · exact ⟨j, by omega, e⟩
      · exact ⟨k, by omega, e⟩
    · intro ⟨j, hj, e⟩
      by_cases z : j = k
      · exact Or.inr (z ▸ e)
      · exact Or.inl ⟨j, by omega, e⟩
theorem dvS_at {L : Nat → Nat} {lo up : Nat → Int32} {x s : Int32} {w : Nat → Int32} (d : Nat) : ∀ k, (dvS L lo up x s w k).1 d = if hld L d k = true then x * (up d - lo d) / s else w d := by
  intro k
  induction k with
  | zero => rfl
  | succ k ih =>
    have hs : (dvS L lo up x s w (k + 1)).1 d = upd (dvS L lo up x s w k).1 (L k) (x * (up (L k) - lo (L k)) / s) d := rfl
    by_cases e : d = L k
    · have hh : hld L d (k + 1) = true := (hld_iff (k + 1)).mpr ⟨k, Nat.lt_succ_self _, e.symm⟩
      rw [if_pos hh, hs, e]
      exact pk_us
    · have hh : hld L d (k + 1) = hld L d k := by
        show (hld L d k || decide (L k = d)) = hld L d k
        rw [decide_eq_false (fun q => e q.symm), Bool.or_false]
      rw [hh, hs, pk_un e, ih]
theorem dvS_rest {L : Nat → Nat} {lo up : Nat → Int32} {x s : Int32} {w w' : Nat → Int32} : ∀ k, (dvS L lo up x s w k).2 = (dvS L lo up x s w' k).2 := by
  intro k
  induction k with
  | zero => rfl
  | succ k ih => simp only [dvS]; rw [ih]
section
variable {L : Nat → Nat} {lo up A B : Nat → Int32} {lk cnt : Nat} {r : Int32}
/-- the rest is given alike -/
theorem gr_ms (hin : ∀ d, d < cnt → hld L d lk = true → A d = B d ∧ ∃ q, q < 2 ^ 30 ∧ A d = nI q) (hout : ∀ d, d < cnt → hld L d lk = false → A d = -1) : ∀ i, i ≤ cnt → (grS A r i).2 = (msS L lo up lk B r i).2.1 ∧ (∀ d, i ≤ d → (grS A r i).1 d = A d ∧ (msS L lo up lk B r i).1 d = B d) ∧ ∀ d, d < i → (hld L d lk = true → (grS A r i).1 d = (msS L lo up lk B r i).1 d ∧ ¬ (grS A r i).1 d = -1) ∧ (hld L d lk = false → (grS A r i).1 d = -1) := by
  intro i
  induction i with
  | zero => intro _; exact ⟨rfl, fun d _ => ⟨rfl, rfl⟩, fun d hd => absurd hd (Nat.not_lt_zero _)⟩
  | succ i ih =>
    intro hi
    obtain ⟨h1, h2, h3⟩ := ih (by omega)
    obtain ⟨a1, a2⟩ := h2 i (Nat.le_refl _)
    cases e : hld L i lk with
    | false =>
      have eg : grS A r (i + 1) = grS A r i := by
        conv => lhs; unfold grS
        rw [if_neg (fun q => q.2 (a1.trans (hout i (by omega) e)))]
      have em : msS L lo up lk B r (i + 1) = msS L lo up lk B r i := by
        conv => lhs; unfold msS
        rw [e, if_neg Bool.false_ne_true]
      rw [eg, em]
      refine ⟨h1, fun d hd => h2 d (by omega), fun d hd => ?_⟩
      by_cases z : d = i
      · rw [z]
        exact ⟨fun q => absurd (e.symm.trans q) Bool.false_ne_true, fun _ => a1.trans (hout i (by omega) e)⟩
      · exact h3 d (by omega)
    | true =>
      obtain ⟨b1, q, hq, b2⟩ := hin i (by omega) e
      have hne : ¬ (grS A r i).1 i = -1 := by rw [a1, b2]; exact nI_ne_m1 (by omega)
      have em : msS L lo up lk B r (i + 1) = (upd (msS L lo up lk B r i).1 i ((msS L lo up lk B r i).1 i + (if (msS L lo up lk B r i).2.1 ≤ 0 then (0 : Int32) else 1)), (msS L lo up lk B r i).2.1 - (if (msS L lo up lk B r i).2.1 ≤ 0 then (0 : Int32) else 1), msB lo up (msS L lo up lk B r i).1 (msS L lo up lk B r i).2.1 (msS L lo up lk B r i).2.2 i) := by
        conv => lhs; unfold msS
        rw [e, if_pos rfl]
      rw [em]
      by_cases z : (grS A r i).2 ≤ 0
      · have eg : grS A r (i + 1) = grS A r i := by
          conv => lhs; unfold grS
          rw [if_neg (fun w => w.1 z)]
        rw [eg]
        rw [h1] at z
        rw [if_pos z, Int32.add_zero, i_s0]
        refine ⟨h1, fun d hd => ?_, fun d hd => ?_⟩
        · obtain ⟨c1, c2⟩ := h2 d (by omega)
          exact ⟨c1, (pk_un (by omega)).trans c2⟩
        · by_cases y : d = i
          · rw [y]
            exact ⟨fun _ => ⟨by show (grS A r i).1 i = upd (msS L lo up lk B r i).1 i ((msS L lo up lk B r i).1 i) i; rw [pk_us, a1, a2, b1], hne⟩, fun w => absurd (e.symm.trans w) (by decide)⟩
          · obtain ⟨c1, c2⟩ := h3 d (by omega)
            exact ⟨fun w => ⟨by show (grS A r i).1 d = upd (msS L lo up lk B r i).1 i ((msS L lo up lk B r i).1 i) d; rw [pk_un y]; exact (c1 w).1, (c1 w).2⟩, c2⟩
      · have eg : grS A r (i + 1) = (upd (grS A r i).1 i ((grS A r i).1 i + 1), (grS A r i).2 + (-1)) := by
          conv => lhs; unfold grS
          rw [if_pos ⟨z, hne⟩]
        rw [eg]
        have z' : ¬ (msS L lo up lk B r i).2.1 ≤ 0 := by rw [← h1]; exact z
        rw [if_neg z']
        refine ⟨by rw [h1]; exact i_m1 _, fun d hd => ?_, fun d hd => ?_⟩
        · obtain ⟨c1, c2⟩ := h2 d (by omega)
          exact ⟨(pk_un (by omega)).trans c1, (pk_un (by omega)).trans c2⟩
        · by_cases y : d = i
          · rw [y]
            refine ⟨fun _ => ⟨?_, ?_⟩, fun w => absurd (e.symm.trans w) (by decide)⟩
            · show upd (grS A r i).1 i ((grS A r i).1 i + 1) i = upd (msS L lo up lk B r i).1 i ((msS L lo up lk B r i).1 i + 1) i
              rw [pk_us, pk_us, a1, a2, b1]
            · show ¬ upd (grS A r i).1 i ((grS A r i).1 i + 1) i = -1
              rw [pk_us, a1, b2, nI_1]
              exact nI_ne_m1 (by omega)
          · obtain ⟨c1, c2⟩ := h3 d (by omega)
            refine ⟨fun w => ⟨?_, ?_⟩, fun w => ?_⟩
            · show upd (grS A r i).1 i ((grS A r i).1 i + 1) d = upd (msS L lo up lk B r i).1 i ((msS L lo up lk B r i).1 i + 1) d
              rw [pk_un y, pk_un y]
              exact (c1 w).1
            · show ¬ upd (grS A r i).1 i ((grS A r i).1 i + 1) d = -1
              rw [pk_un y]
              exact (c1 w).2
            · show upd (grS A r i).1 i ((grS A r i).1 i + 1) d = -1
              rw [pk_un y]
              exact c2 w
theorem ms_stay (i : Nat) : ∀ j, i + 1 ≤ j → (msS L lo up lk B r j).1 i = (msS L lo up lk B r (i + 1)).1 i := by
  intro j
  induction j with
  | zero => intro h; exact absurd h (by omega)
  | succ j ih =>
    intro h
    by_cases e : i = j
    · rw [e]
    · rw [← ih (by omega)]
      conv => lhs; unfold msS
      split
      · exact pk_un e
      · rfl
/-- what may be is the same -/
theorem ms_fit (hW : ∀ d, d < cnt → (hld L d lk = true → (grS A r cnt).1 d = (msS L lo up lk B r cnt).1 d ∧ ¬ (grS A r cnt).1 d = -1) ∧ (hld L d lk = false → (grS A r cnt).1 d = -1)) : ∀ i, i ≤ cnt → (msS L lo up lk B r i).2.2 = fitB (grS A r cnt).1 lo up i := by
  intro i
  induction i with
  | zero => intro _; rfl
  | succ i ih =>
    intro hi
    have ih := ih (by omega)
    obtain ⟨h1, h2⟩ := hW i (by omega)
    cases e : hld L i lk with
    | false =>
      have em : msS L lo up lk B r (i + 1) = msS L lo up lk B r i := by
        conv => lhs; unfold msS
        rw [e, if_neg Bool.false_ne_true]
      have ec : chB (grS A r cnt).1 lo up i = false := by
        unfold chB
        rw [decide_eq_false (fun q => q (h2 e)), Bool.false_and]
      rw [em, ih]
      conv => rhs; unfold fitB
      rw [ec]
      simp
    | true =>
      obtain ⟨w1, w2⟩ := h1 e
      have hs := ms_stay (L := L) (lo := lo) (up := up) (lk := lk) (B := B) (r := r) i cnt (by omega)
      have em : msS L lo up lk B r (i + 1) = (upd (msS L lo up lk B r i).1 i ((msS L lo up lk B r i).1 i + (if (msS L lo up lk B r i).2.1 ≤ 0 then (0 : Int32) else 1)), (msS L lo up lk B r i).2.1 - (if (msS L lo up lk B r i).2.1 ≤ 0 then (0 : Int32) else 1), msB lo up (msS L lo up lk B r i).1 (msS L lo up lk B r i).2.1 (msS L lo up lk B r i).2.2 i) := by
        conv => lhs; unfold msS
        rw [e, if_pos rfl]
      rw [em] at hs ⊢
      have hs : (msS L lo up lk B r cnt).1 i = (msS L lo up lk B r i).1 i + (if (msS L lo up lk B r i).2.1 ≤ 0 then (0 : Int32) else 1) := hs.trans pk_us
      show msB lo up (msS L lo up lk B r i).1 (msS L lo up lk B r i).2.1 (msS L lo up lk B r i).2.2 i = _
      unfold msB
      rw [← hs, ← w1, ih, hlf_flD]
      conv => rhs; unfold fitB
      have ec : (!(chB (grS A r cnt).1 lo up i)) = decide ((grS A r cnt).1 i = up i - lo i) := by
        unfold chB
        rw [decide_eq_true w2, Bool.true_and]
        by_cases q : (grS A r cnt).1 i = up i - lo i
        · rw [decide_eq_true q, decide_eq_false (fun z => z q)]; rfl
        · rw [decide_eq_false q, decide_eq_true q]; rfl
      rw [ec]
end
def cK (f : Nat → Bool) : Nat → Nat
  | 0 => 0
  | d + 1 => cK f d + (if f d = true then 1 else 0)
theorem cK_congr {f g : Nat → Bool} : ∀ n, (∀ d, d < n → f d = g d) → cK f n = cK g n := by
  intro n
  induction n with
  | zero => intro _; rfl
  | succ n ih => intro h; unfold cK; rw [ih (fun d hd => h d (by omega)), h n (by omega)]
theorem cK_one {f g : Nat → Bool} {e : Nat} (hf : f e = false) (hg : g e = true) (h : ∀ d, ¬ d = e → f d = g d) : ∀ n, cK g n = cK f n + (if e < n then 1 else 0) := by
  intro n
  induction n with
  | zero => rw [if_neg (Nat.not_lt_zero _)]; rfl
  | succ n ih =>
    unfold cK
    rw [ih]
    by_cases z : n = e
    · subst z
      rw [hf, hg, if_neg (Nat.lt_irrefl _), if_pos rfl, if_neg Bool.false_ne_true, if_pos (Nat.lt_succ_self _)]
    · rw [h n z]
      by_cases y : e < n
      · have e1 : (if e < n then 1 else 0) = 1 := if_pos y
        have e2 : (if e < n + 1 then 1 else 0) = 1 := if_pos (by omega)
        rw [e1, e2]
        omega
      · have e1 : (if e < n then 1 else 0) = 0 := if_neg y
        have e2 : (if e < n + 1 then 1 else 0) = 0 := if_neg (by omega)
        rw [e1, e2, Nat.add_zero, Nat.add_zero]
section
variable {L : Nat → Nat} {lo up W SH : Nat → Int32} {lk cnt : Nat}
theorem apS_at (d : Nat) : ∀ i, (apS W lo up i).1 d = (if d < i ∧ chB W lo up d = true then flD (lo d + up d - W d) 2 else lo d) ∧ (apS W lo up i).2 d = (if d < i ∧ chB W lo up d = true then flD (lo d + up d - W d) 2 + W d else up d) := by
  intro i
  induction i generalizing d with
  | zero => rw [if_neg (fun q => absurd q.1 (Nat.not_lt_zero _)), if_neg (fun q => absurd q.1 (Nat.not_lt_zero _))]; exact ⟨rfl, rfl⟩
  | succ i ih =>
    obtain ⟨i1, i2⟩ := ih i
    rw [if_neg (fun q => absurd q.1 (Nat.lt_irrefl _))] at i1 i2
    obtain ⟨h1, h2⟩ := ih d
    have hc : chB W (apS W lo up i).1 (apS W lo up i).2 i = chB W lo up i := by unfold chB; rw [i1, i2]
    simp only [apS]
    rw [hc]
    by_cases z : d = i
    · subst z
      by_cases q : chB W lo up d = true
      · rw [if_pos q, if_pos ⟨Nat.lt_succ_self _, q⟩, if_pos ⟨Nat.lt_succ_self _, q⟩]
        exact ⟨pk_us.trans (by rw [i1, i2]), pk_us.trans (by rw [i1, i2])⟩
      · rw [if_neg q, if_neg (fun w => q w.2), if_neg (fun w => q w.2)]
        exact ⟨i1, i2⟩
    · have e : (d < i + 1 ∧ chB W lo up d = true) ↔ (d < i ∧ chB W lo up d = true) := ⟨fun w => ⟨by omega, w.2⟩, fun w => ⟨by omega, w.2⟩⟩
      rw [ite_iff e, ite_iff e]
      by_cases q : chB W lo up i = true
      · rw [if_pos q]
        exact ⟨(pk_un z).trans h1, (pk_un z).trans h2⟩
      · rw [if_neg q]
        exact ⟨h1, h2⟩
theorem apC_ck : ∀ i, apC W lo up i = cK (chB W lo up) i := by
  intro i
  induction i with
  | zero => rfl
  | succ i ih =>
    obtain ⟨i1, i2⟩ := apS_at (W := W) (lo := lo) (up := up) i i
    rw [if_neg (fun q => absurd q.1 (Nat.lt_irrefl _))] at i1 i2
    have hc : chB W (apS W lo up i).1 (apS W lo up i).2 i = chB W lo up i := by unfold chB; rw [i1, i2]
    unfold apC cK
    rw [hc, ih]
    split <;> omega
/-- what the reference changes -/
def chM (SH lo up : Nat → Int32) (L : Nat → Nat) (k d : Nat) : Bool := hld L d k && decide (¬ SH d = up d - lo d)
theorem dsS_at (d : Nat) : ∀ k, (dsS SH L lo up k).1 d = (if chM SH lo up L k d = true then hlf (lo d + up d - SH d) else lo d) ∧ (dsS SH L lo up k).2 d = (if chM SH lo up L k d = true then hlf (lo d + up d - SH d) + SH d else up d) := by
  intro k
  induction k generalizing d with
  | zero => exact ⟨rfl, rfl⟩
  | succ k ih =>
    obtain ⟨h1, h2⟩ := ih d
    obtain ⟨i1, i2⟩ := ih (L k)
    have e0 : chM SH lo up L (k + 1) d = (chM SH lo up L k d || (decide (L k = d) && decide (¬ SH d = up d - lo d))) := by
      show ((hld L d k || decide (L k = d)) && decide (¬ SH d = up d - lo d)) = ((hld L d k && decide (¬ SH d = up d - lo d)) || (decide (L k = d) && decide (¬ SH d = up d - lo d)))
      cases hld L d k <;> cases decide (L k = d) <;> cases decide (¬ SH d = up d - lo d) <;> rfl
    simp only [dsS]
    by_cases c1 : chM SH lo up L k (L k) = true
    · rw [if_pos c1] at i1 i2
      have hz : ¬ ¬ SH (L k) = (dsS SH L lo up k).2 (L k) - (dsS SH L lo up k).1 (L k) := by
        rw [i1, i2, i_back]
        exact fun q => q rfl
      rw [if_neg hz]
      have e1 : chM SH lo up L (k + 1) d = chM SH lo up L k d := by
        rw [e0]
        by_cases z : L k = d
        · rw [← z, c1]; rfl
        · rw [decide_eq_false z, Bool.false_and, Bool.or_false]
      rw [e1]
      exact ⟨h1, h2⟩
    · rw [if_neg c1] at i1 i2
      rw [i1, i2]
      by_cases z : SH (L k) = up (L k) - lo (L k)
      · rw [if_neg (fun q => q z)]
        have e1 : chM SH lo up L (k + 1) d = chM SH lo up L k d := by
          rw [e0]
          by_cases y : L k = d
          · rw [← y, show decide (¬ SH (L k) = up (L k) - lo (L k)) = false from decide_eq_false (fun q => q z), Bool.and_false, Bool.or_false]
          · rw [decide_eq_false y, Bool.false_and, Bool.or_false]
        rw [e1]
        exact ⟨h1, h2⟩
      · rw [if_pos z]
        by_cases y : d = L k
        · have e1 : chM SH lo up L (k + 1) d = true := by
            rw [e0, y, decide_eq_true rfl, decide_eq_true z, Bool.and_true, Bool.or_true]
          rw [e1, if_pos rfl, if_pos rfl, y]
          exact ⟨pk_us, pk_us⟩
        · have e1 : chM SH lo up L (k + 1) d = chM SH lo up L k d := by
            rw [e0, decide_eq_false (fun q => y q.symm), Bool.false_and, Bool.or_false]
          rw [e1]
          exact ⟨(pk_un y).trans h1, (pk_un y).trans h2⟩
theorem dsK_ck (hL : ∀ k, k < lk → L k < cnt) : ∀ k, k ≤ lk → dsK SH L lo up k = cK (chM SH lo up L k) cnt := by
  intro k
  induction k with
  | zero =>
    intro _
    show 0 = _
    have : ∀ n, cK (chM SH lo up L 0) n = 0 := by
      intro n
      induction n with
      | zero => rfl
      | succ n ih => unfold cK; rw [ih]; rfl
    exact (this cnt).symm
  | succ k ih =>
    intro hk
    have ih := ih (by omega)
    obtain ⟨i1, i2⟩ := dsS_at (SH := SH) (L := L) (lo := lo) (up := up) (L k) k
    have e0 : ∀ d, chM SH lo up L (k + 1) d = (chM SH lo up L k d || (decide (L k = d) && decide (¬ SH d = up d - lo d))) := by
      intro d
      show ((hld L d k || decide (L k = d)) && decide (¬ SH d = up d - lo d)) = ((hld L d k && decide (¬ SH d = up d - lo d)) || (decide (L k = d) && decide (¬ SH d = up d - lo d)))
      cases hld L d k <;> cases decide (L k = d) <;> cases decide (¬ SH d = up d - lo d) <;> rfl
    have hne : ∀ d, ¬ d = L k → chM SH lo up L k d = chM SH lo up L (k + 1) d := by
      intro d hd
      rw [e0, decide_eq_false (fun q => hd q.symm), Bool.false_and, Bool.or_false]
    unfold dsK
    by_cases c1 : chM SH lo up L k (L k) = true
    · rw [if_pos c1] at i1 i2
      have hz : ¬ ¬ SH (L k) = (dsS SH L lo up k).2 (L k) - (dsS SH L lo up k).1 (L k) := by
        rw [i1, i2, i_back]
        exact fun q => q rfl
      rw [if_neg hz, ih]
      refine cK_congr cnt (fun d _ => ?_)
      by_cases z : d = L k
      · rw [z, e0, c1]; rfl
      · exact hne d z
    · rw [if_neg c1] at i1 i2
      rw [i1, i2]
      by_cases z : SH (L k) = up (L k) - lo (L k)
      · rw [if_neg (fun q => q z), ih]
        refine cK_congr cnt (fun d _ => ?_)
        by_cases y : d = L k
        · rw [y, e0, show decide (¬ SH (L k) = up (L k) - lo (L k)) = false from decide_eq_false (fun q => q z), Bool.and_false, Bool.or_false]
        · exact hne d y
      · rw [if_pos z, ih, cK_one (e := L k) (Bool.eq_false_iff.mpr c1) (by rw [e0, decide_eq_true rfl, decide_eq_true z, Bool.and_true, Bool.or_true]) hne cnt, if_pos (hL k (by omega))]
end
theorem wsm_nat {L : Nat → Nat} {lo up : Nat → Int32} {cnt lk : Nat} (hL : ∀ k, k < lk → L k < cnt) (hdv : ∀ d, d < cnt → devB (lo d) (up d) = true) : ∀ k, k ≤ lk → ∃ q, q ≤ 1998 * k ∧ wsm L lo up k = nI q := by
  intro k
  induction k with
  | zero => intro _; exact ⟨0, Nat.le_refl _, rfl⟩
  | succ k ih =>
    intro hk
    obtain ⟨q, h1, h2⟩ := ih (by omega)
    obtain ⟨w1, w2⟩ := wd_ok (hdv _ (hL k (by omega)))
    refine ⟨q + (up (L k) - lo (L k)).toNatClampNeg, by omega, ?_⟩
    unfold wsm
    rw [h2, w1, nI_add, ← w1]
theorem wtn_n {x : Int32} (h : wtn x 0 1998 = true) : ∃ q, q ≤ 1998 ∧ x = nI q := by
  simp only [wtn, Bool.and_eq_true, decide_eq_true_eq] at h
  exact nI_of2 (M := 1998) (n := 1998) (by decide) h.1 (Int32.not_lt.mp h.2)
/-- distribute: both share alike -/
theorem dist_eq {L : Nat → Nat} {lo up w w' : Nat → Int32} {lk cnt : Nat} {x : Int32} (hlk : lk ≤ 12) (hc : cnt ≤ 20) (hL : ∀ k, k < lk → L k < cnt) (hdv : ∀ d, d < cnt → devB (lo d) (up d) = true) (hx : wtn x 0 1998 = true) : csB L lo up lk cnt x w = shB L lo up lk cnt x w' ∧ (csB L lo up lk cnt x w = true → (apS (csW L lo up lk cnt x w) lo up cnt).1 = (dsS (mSH L lo up lk cnt x w') L lo up lk).1 ∧ (apS (csW L lo up lk cnt x w) lo up cnt).2 = (dsS (mSH L lo up lk cnt x w') L lo up lk).2 ∧ apC (csW L lo up lk cnt x w) lo up cnt = dsK (mSH L lo up lk cnt x w') L lo up lk ∧ ∀ d, d < cnt → devB ((apS (csW L lo up lk cnt x w) lo up cnt).1 d) ((apS (csW L lo up lk cnt x w) lo up cnt).2 d) = true) := by
  by_cases hz : wsm L lo up lk = 0
  · have e1 : csB L lo up lk cnt x w = false := by unfold csB; rw [decide_eq_false (fun q => q hz), Bool.false_and]
    have e2 : shB L lo up lk cnt x w' = false := by unfold shB; rw [if_pos hz]
    exact ⟨e1.trans e2.symm, fun q => absurd (e1.symm.trans q) Bool.false_ne_true⟩
  · obtain ⟨sN, hs1, hs2⟩ := wsm_nat hL hdv lk (Nat.le_refl _)
    have hs0 : 0 < sN := by
      rcases Nat.eq_zero_or_pos sN with q | q
      · rw [q] at hs2; exact absurd hs2 hz
      · exact q
    obtain ⟨xN, hx1, hx2⟩ := wtn_n hx
    have hval : ∀ d, d < cnt → ∃ q, q < 2 ^ 30 ∧ x * (up d - lo d) / wsm L lo up lk = nI q := by
      intro d hd
      obtain ⟨w1, w2⟩ := wd_ok (hdv d hd)
      have hm : xN * (up d - lo d).toNatClampNeg ≤ 1998 * 1998 := Nat.mul_le_mul hx1 w2
      refine ⟨xN * (up d - lo d).toNatClampNeg / sN, Nat.lt_of_le_of_lt (Nat.div_le_self _ _) (by omega), ?_⟩
      generalize (up d - lo d).toNatClampNeg = m at w1 w2 hm ⊢
      rw [hs2, hx2, w1, pk_mul, pk_div (by omega) hs0 (by omega)]
    have hin : ∀ d, d < cnt → hld L d lk = true → (dvS L lo up x (wsm L lo up lk) (flI w (-1) 20) lk).1 d = (dvS L lo up x (wsm L lo up lk) w' lk).1 d ∧ ∃ q, q < 2 ^ 30 ∧ (dvS L lo up x (wsm L lo up lk) (flI w (-1) 20) lk).1 d = nI q := by
      intro d hd h
      rw [dvS_at, dvS_at, if_pos h, if_pos h]
      exact ⟨rfl, hval d hd⟩
    have hout : ∀ d, d < cnt → hld L d lk = false → (dvS L lo up x (wsm L lo up lk) (flI w (-1) 20) lk).1 d = -1 := by
      intro d hd h
      rw [dvS_at, h, if_neg Bool.false_ne_true, flI_at, if_pos (by omega)]
    have hr := dvS_rest (L := L) (lo := lo) (up := up) (x := x) (s := wsm L lo up lk) (w := flI w (-1) 20) (w' := w') lk
    have hcW : csW L lo up lk cnt x w = (grS (dvS L lo up x (wsm L lo up lk) (flI w (-1) 20) lk).1 (dvS L lo up x (wsm L lo up lk) w' lk).2 cnt).1 := by unfold csW; rw [hr]
    obtain ⟨-, -, hW⟩ := gr_ms (lo := lo) (up := up) (r := (dvS L lo up x (wsm L lo up lk) w' lk).2) hin hout cnt (Nat.le_refl _)
    have hfit := ms_fit hW cnt (Nat.le_refl _)
    rw [← hcW] at hW hfit
    have e1 : csB L lo up lk cnt x w = fitB (csW L lo up lk cnt x w) lo up cnt := by unfold csB; rw [decide_eq_true hz, Bool.true_and]
    have e2 : shB L lo up lk cnt x w' = fitB (csW L lo up lk cnt x w) lo up cnt := by unfold shB; rw [if_neg hz]; exact hfit
    refine ⟨e1.trans e2.symm, fun hok => ?_⟩
    rw [e1] at hok
    generalize csW L lo up lk cnt x w = W at hW hok ⊢
    have hW : ∀ d, d < cnt → (hld L d lk = true → W d = mSH L lo up lk cnt x w' d ∧ ¬ W d = -1) ∧ (hld L d lk = false → W d = -1) := hW
    generalize mSH L lo up lk cnt x w' = SH at hW ⊢
    have hch : ∀ d, (d < cnt ∧ chB W lo up d = true) ↔ chM SH lo up L lk d = true := by
      intro d
      constructor
      · intro ⟨h1, h2⟩
        obtain ⟨a1, a2⟩ := hW d h1
        unfold chB at h2
        rw [Bool.and_eq_true, decide_eq_true_eq, decide_eq_true_eq] at h2
        cases e : hld L d lk with
        | false => exact absurd (a2 e) h2.1
        | true =>
          unfold chM
          rw [e, decide_eq_true (by rw [← (a1 e).1]; exact h2.2)]
          rfl
      · intro h
        unfold chM at h
        rw [Bool.and_eq_true, decide_eq_true_eq] at h
        obtain ⟨j, hj, ej⟩ := (hld_iff lk).mp h.1
        have hd : d < cnt := ej ▸ hL j hj
        obtain ⟨a1, -⟩ := (hW d hd).1 h.1
        refine ⟨hd, ?_⟩
        unfold chB
        rw [decide_eq_true ((hW d hd).1 h.1).2, decide_eq_true (by rw [a1]; exact h.2)]
        rfl
    have hWS : ∀ d, chM SH lo up L lk d = true → W d = SH d := by
      intro d h
      have hd := ((hch d).mpr h).1
      unfold chM at h
      rw [Bool.and_eq_true] at h
      exact ((hW d hd).1 h.1).1
    have f1 : ∀ d, (apS W lo up cnt).1 d = (dsS SH L lo up lk).1 d ∧ (apS W lo up cnt).2 d = (dsS SH L lo up lk).2 d := by
      intro d
      obtain ⟨p1, p2⟩ := apS_at (W := W) (lo := lo) (up := up) d cnt
      obtain ⟨p3, p4⟩ := dsS_at (SH := SH) (L := L) (lo := lo) (up := up) d lk
      rw [p1, p2, p3, p4]
      by_cases h : chM SH lo up L lk d = true
      · rw [if_pos ((hch d).mpr h), if_pos ((hch d).mpr h), if_pos h, if_pos h, hWS d h, hlf_flD]
        exact ⟨rfl, rfl⟩
      · rw [if_neg (fun q => h ((hch d).mp q)), if_neg (fun q => h ((hch d).mp q)), if_neg h, if_neg h]
        exact ⟨rfl, rfl⟩
    refine ⟨funext fun d => (f1 d).1, funext fun d => (f1 d).2, ?_, ?_⟩
    · rw [apC_ck, dsK_ck hL lk (Nat.le_refl _)]
      refine cK_congr cnt (fun d hd => ?_)
      cases e : chM SH lo up L lk d with
      | true => exact ((hch d).mpr e).2
      | false =>
        cases e3 : chB W lo up d with
        | false => rfl
        | true => exact absurd (((hch d).mp ⟨hd, e3⟩).symm.trans e) (by decide)
    · intro d hd
      obtain ⟨p1, p2⟩ := apS_at (W := W) (lo := lo) (up := up) d cnt
      rw [p1, p2]
      cases e : chB W lo up d with
      | false => rw [if_neg (fun q => absurd q.2 Bool.false_ne_true), if_neg (fun q => absurd q.2 Bool.false_ne_true)]; exact hdv d hd
      | true =>
        rw [if_pos ⟨hd, rfl⟩, if_pos ⟨hd, rfl⟩]
        cases e4 : devB (flD (lo d + up d - W d) 2) (flD (lo d + up d - W d) 2 + W d) with
        | true => rfl
        | false => exact absurd (hok.symm.trans (fitB_stop hd e e4)) (by decide)
