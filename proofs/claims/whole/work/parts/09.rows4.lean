
theorem ewS_val {F T : Nat → Nat} {e d cnt : Nat} {W : Nat → Int32} (hd : d < cnt) (h : ∀ i, i < 12 → ¬ W i = -1 → ∃ x, x < cnt ∧ W i = nI x) : ∀ i, i < 12 → ¬ ewS F T e d W i = -1 → ∃ x, x < cnt ∧ ewS F T e d W i = nI x := by
  intro i hi hne
  unfold ewS at hne ⊢
  split
  · rename_i h1
    rw [if_pos h1] at hne
    unfold upd at hne ⊢
    split
    · exact ⟨d, hd, rfl⟩
    · rename_i h2
      rw [if_neg h2] at hne
      exact h i hi hne
  · rename_i h1
    rw [if_neg h1] at hne
    split
    · rename_i h2
      rw [if_pos h2] at hne
      unfold upd at hne ⊢
      split
      · exact ⟨d, hd, rfl⟩
      · rename_i h3
        rw [if_neg h3] at hne
        exact h i hi hne
    · rename_i h2
      rw [if_neg h2] at hne
      exact h i hi hne
theorem ewI_val {F T : Nat → Nat} {dd : Nat → Bool} {e cnt : Nat} {W : Nat → Int32} (h : ∀ i, i < 12 → ¬ W i = -1 → ∃ x, x < cnt ∧ W i = nI x) : ∀ d, d ≤ cnt → ∀ i, i < 12 → ¬ ewI F T dd e W d i = -1 → ∃ x, x < cnt ∧ ewI F T dd e W d i = nI x := by
  intro d
  induction d with
  | zero => intro _ i hi hne; exact h i hi hne
  | succ d ih =>
    intro hd i hi
    unfold ewI
    by_cases hb : dd d = true
    · rw [if_pos hb]; exact ih (by omega) i hi
    · rw [if_neg hb]; exact ewS_val (by omega) (ih (by omega)) i hi
theorem ewR_val {F T : Nat → Nat} {dd : Nat → Bool} {e cnt : Nat} {W : Nat → Int32} (h : ∀ i, i < 12 → ¬ W i = -1 → ∃ x, x < cnt ∧ W i = nI x) : ∀ r i, i < 12 → ¬ ewR F T dd e cnt W r i = -1 → ∃ x, x < cnt ∧ ewR F T dd e cnt W r i = nI x := by
  intro r
  induction r with
  | zero => intro i hi hne; exact h i hi hne
  | succ r ih => intro i hi; unfold ewR; exact ewI_val ih cnt (Nat.le_refl _) i hi
/-- the ways to b, as the class finds them -/
def fW (F T : Nat → Nat) (dd : Nat → Bool) (n cnt b : Nat) (W : Nat → Int32) : Nat → Int32 := ewR F T dd b cnt (flI W (-1) 12) (n - 1)
theorem fW_val (F T : Nat → Nat) (dd : Nat → Bool) (n cnt b : Nat) (W : Nat → Int32) (i : Nat) (hi : i < 12) (h : ¬ fW F T dd n cnt b W i = -1) : ∃ x, x < cnt ∧ fW F T dd n cnt b W i = nI x :=
  ewR_val (fun j hj hne => absurd (by rw [flI_at, if_pos hj]) hne) (n - 1) i hi h
theorem ewS_agree {F T : Nat → Nat} {e d : Nat} {V W : Nat → Int32} (hF : F d < 12) (hT : T d < 12) (h : ∀ i, i < 12 → V i = W i) : ∀ i, i < 12 → ewS F T e d V i = ewS F T e d W i := by
  intro i hi
  unfold ewS
  rw [h _ hF, h _ hT]
  split
  · unfold upd; split
    · rfl
    · exact h i hi
  · split
    · unfold upd; split
      · rfl
      · exact h i hi
    · exact h i hi
theorem ewI_agree {F T : Nat → Nat} {dd : Nat → Bool} {e cnt : Nat} {V W : Nat → Int32} (hF : ∀ d, d < cnt → F d < 12) (hT : ∀ d, d < cnt → T d < 12) (h : ∀ i, i < 12 → V i = W i) : ∀ d, d ≤ cnt → ∀ i, i < 12 → ewI F T dd e V d i = ewI F T dd e W d i := by
  intro d
  induction d with
  | zero => intro _ i hi; exact h i hi
  | succ d ih =>
    intro hd i hi
    unfold ewI
    by_cases hb : dd d = true
    · rw [if_pos hb, if_pos hb]; exact ih (by omega) i hi
    · rw [if_neg hb, if_neg hb]; exact ewS_agree (hF d (by omega)) (hT d (by omega)) (ih (by omega)) i hi
theorem ewR_agree {F T : Nat → Nat} {dd : Nat → Bool} {e cnt : Nat} {V W : Nat → Int32} (hF : ∀ d, d < cnt → F d < 12) (hT : ∀ d, d < cnt → T d < 12) (h : ∀ i, i < 12 → V i = W i) : ∀ r i, i < 12 → ewR F T dd e cnt V r i = ewR F T dd e cnt W r i := by
  intro r
  induction r with
  | zero => exact h
  | succ r ih => intro i hi; unfold ewR; exact ewI_agree hF hT ih cnt (Nat.le_refl _) i hi
/-- the ways to b, of a row that begins with none -/
def oW (F T : Nat → Nat) (dd : Nat → Bool) (n cnt b : Nat) : Nat → Int32 := ewR F T dd b cnt (fun _ => -1) (n - 1)
theorem fW_agree {F T : Nat → Nat} {dd : Nat → Bool} {n cnt b : Nat} {W : Nat → Int32} (hF : ∀ d, d < cnt → F d < 12) (hT : ∀ d, d < cnt → T d < 12) : ∀ i, i < 12 → fW F T dd n cnt b W i = oW F T dd n cnt b i := by
  intro i hi
  exact ewR_agree hF hT (fun j hj => by rw [flI_at, if_pos hj]) (n - 1) i hi
theorem oW_val (F T : Nat → Nat) (dd : Nat → Bool) (n cnt b : Nat) (i : Nat) (hi : i < 12) (h : ¬ oW F T dd n cnt b i = -1) : ∃ x, x < cnt ∧ oW F T dd n cnt b i = nI x :=
  ewR_val (fun j hj hne => absurd rfl hne) (n - 1) i hi h
/-- the face at the k-th place of the walk from a -/
def cf (F T : Nat → Nat) (W : Nat → Int32) (a : Nat) : Nat → Nat
  | 0 => a
  | k + 1 => if F (W (cf F T W a k)).toNatClampNeg = cf F T W a k then T (W (cf F T W a k)).toNatClampNeg else F (W (cf F T W a k)).toNatClampNeg
def clk (F T : Nat → Nat) (W : Nat → Int32) (a : Nat) (L : Nat → Nat) : Nat → Nat → Nat
  | 0 => L
  | k + 1 => updN (clk F T W a L k) k (W (cf F T W a k)).toNatClampNeg
theorem clk_at (F T : Nat → Nat) (W : Nat → Int32) (a : Nat) (L : Nat → Nat) : ∀ k j, clk F T W a L k j = if j < k then (W (cf F T W a j)).toNatClampNeg else L j := by
  intro k
  induction k with
  | zero => intro j; simp [clk]
  | succ k ih =>
    intro j
    unfold clk updN
    by_cases h : j = k
    · subst h; simp
    · rw [if_neg h, ih]
      have : j < k + 1 ↔ j < k := by omega
      simp [this]
def gN (F T : Nat → Nat) (nm : Nat → Int32) (W : Nat → Int32) (a : Nat) : Nat → Int32
  | 0 => 0
  | k + 1 => if F (W (cf F T W a k)).toNatClampNeg = cf F T W a k then gN F T nm W a k + nm (W (cf F T W a k)).toNatClampNeg else gN F T nm W a k - nm (W (cf F T W a k)).toNatClampNeg
def gL (F T : Nat → Nat) (nm lo up : Nat → Int32) (W : Nat → Int32) (a : Nat) : Nat → Int32
  | 0 => 0
  | k + 1 => if F (W (cf F T W a k)).toNatClampNeg = cf F T W a k then gL F T nm lo up W a k + (nm (W (cf F T W a k)).toNatClampNeg + lo (W (cf F T W a k)).toNatClampNeg) else gL F T nm lo up W a k - (nm (W (cf F T W a k)).toNatClampNeg + up (W (cf F T W a k)).toNatClampNeg)
def gG (F T : Nat → Nat) (nm lo up : Nat → Int32) (W : Nat → Int32) (a : Nat) : Nat → Int32
  | 0 => 0
  | k + 1 => if F (W (cf F T W a k)).toNatClampNeg = cf F T W a k then gG F T nm lo up W a k + (nm (W (cf F T W a k)).toNatClampNeg + up (W (cf F T W a k)).toNatClampNeg) else gG F T nm lo up W a k - (nm (W (cf F T W a k)).toNatClampNeg + lo (W (cf F T W a k)).toNatClampNeg)
def stc (F T : Nat → Nat) (W : Nat → Int32) (a b k : Nat) : Bool := decide (¬ cf F T W a k = b) && decide (¬ W (cf F T W a k) = -1)
/-- the first place, from k on, at most m further, where c is false -/
def stp (c : Nat → Bool) : Nat → Nat → Nat
  | 0, k => k
  | m + 1, k => if c k = true then stp c m (k + 1) else k
theorem stp_stop {c : Nat → Bool} {m k : Nat} (h : c k = false) : stp c m k = k := by
  cases m with
  | zero => rfl
  | succ m => unfold stp; rw [h]; rfl
theorem stp_step {c : Nat → Bool} {n k : Nat} (hk : k < n) (h : c k = true) : stp c (n - k) k = stp c (n - (k + 1)) (k + 1) := by
  rw [show n - k = (n - (k + 1)) + 1 by omega]
  conv => lhs; unfold stp
  rw [if_pos h]
def fK (F T : Nat → Nat) (W : Nat → Int32) (n a b : Nat) : Nat := stp (stc F T W a b) (n - 0) 0
def hld (L : Nat → Nat) (x : Nat) : Nat → Bool
  | 0 => false
  | k + 1 => hld L x k || decide (L k = x)
theorem hld_true {L : Nat → Nat} {x i n : Nat} (h : i < n) (hi : L i = x) : hld L x n = true := by
  induction n with
  | zero => exact absurd h (Nat.not_lt_zero _)
  | succ n ih =>
    unfold hld
    by_cases e : i = n
    · subst e; simp [hi]
    · rw [ih (by omega)]; rfl
def wsm (L : Nat → Nat) (lo up : Nat → Int32) : Nat → Int32
  | 0 => 0
  | k + 1 => wsm L lo up k + (up (L k) - lo (L k))
def isw (lo up : Nat → Int32) (x y : Nat) : Bool := decide (0 < (up x - lo x) - (up y - lo y)) || (decide ((up x - lo x) - (up y - lo y) = 0) && decide (x < y))
def wdst (L : Nat → Nat) (lo up : Nat → Int32) : Nat → Int32
  | 0 => -1
  | k + 1 => if wdst L lo up k = -1 ∨ isw lo up (L k) (wdst L lo up k).toNatClampNeg = true then nI (L k) else wdst L lo up k
theorem wdst_val (L : Nat → Nat) (lo up : Nat → Int32) : ∀ i, ¬ wdst L lo up i = -1 → ∃ j, j < i ∧ wdst L lo up i = nI (L j) := by
  intro i
  induction i with
  | zero => intro h; exact absurd rfl h
  | succ i ih =>
    intro h
    unfold wdst at h ⊢
    split
    · exact ⟨i, by omega, rfl⟩
    · rename_i h1
      rw [if_neg h1] at h
      obtain ⟨j, hj, e⟩ := ih h
      exact ⟨j, by omega, e⟩
def wdN (lo up : Nat → Int32) (d : Nat) : Nat := (up d - lo d).toNatClampNeg
def sqN (L : Nat → Nat) (lo up : Nat → Int32) : Nat → Nat
  | 0 => 0
  | k + 1 => sqN L lo up k + wdN lo up (L k) * wdN lo up (L k)
theorem sqN_le' {L : Nat → Nat} {lo up : Nat → Int32} : ∀ len, (∀ k, k < len → wdN lo up (L k) ≤ 1998) → sqN L lo up len ≤ len * 3992004 := by
  intro len
  induction len with
  | zero => intro _; exact Nat.le_refl _
  | succ len ih =>
    intro h
    have h1 := ih (fun k hk => h k (by omega))
    have h2 := h len (by omega)
    have h3 : wdN lo up (L len) * wdN lo up (L len) ≤ 1998 * 1998 := Nat.mul_le_mul h2 h2
    unfold sqN
    omega
theorem sqN_le {L : Nat → Nat} {lo up : Nat → Int32} {len : Nat} (hl : len ≤ 12) (h : ∀ k, k < len → wdN lo up (L k) ≤ 1998) : sqN L lo up len ≤ 47904048 := by
  have := sqN_le' len h
  omega
theorem sqN_mono {L : Nat → Nat} {lo up : Nat → Int32} {i len : Nat} (h : i ≤ len) : sqN L lo up i ≤ sqN L lo up len := by
  induction len with
  | zero => rw [show i = 0 by omega]; exact Nat.le_refl _
  | succ len ih =>
    by_cases e : i = len + 1
    · subst e; exact Nat.le_refl _
    · have h1 := ih (by omega)
      show sqN L lo up i ≤ sqN L lo up len + _
      omega
def pb (j : Nat) : Nat := 2 ^ j / 2
def rtS (s : Nat) : Nat → Nat
  | 0 => 0
  | t + 1 => if (rtS s t + pb (13 - t)) * (rtS s t + pb (13 - t)) ≤ s then rtS s t + pb (13 - t) else rtS s t
theorem pb_s {j : Nat} (h : 0 < j) : pb j = 2 ^ (j - 1) := by
  unfold pb
  obtain ⟨i, rfl⟩ : ∃ i, j = i + 1 := ⟨j - 1, by omega⟩
  rw [Nat.pow_succ, Nat.mul_div_cancel _ (by decide)]
  rfl
theorem rtS_le0 (s : Nat) : ∀ t, t ≤ 13 → rtS s t + 2 ^ (13 - t) ≤ 8192 := by
  intro t
  induction t with
  | zero => intro _; show 0 + 2 ^ 13 ≤ 8192; decide
  | succ t ih =>
    intro h
    have h1 := ih (by omega)
    have h2 : 2 ^ (13 - t) = 2 ^ (13 - (t + 1)) + 2 ^ (13 - (t + 1)) := by
      rw [show 13 - t = (13 - (t + 1)) + 1 by omega, Nat.pow_succ]; omega
    have h3 : pb (13 - t) = 2 ^ (13 - (t + 1)) := by rw [pb_s (by omega)]; congr 1
    unfold rtS
    rw [h3]
    split <;> omega
theorem rtS_le (s t : Nat) (h : t ≤ 13) : rtS s t + pb (13 - t) ≤ 8192 := by
  have h1 := rtS_le0 s t h
  have h2 : pb (13 - t) ≤ 2 ^ (13 - t) := Nat.div_le_self _ _
  omega
theorem pb_le (j : Nat) (h : j ≤ 13) : pb j ≤ 4096 := by
  have : ∀ j, j < 14 → pb j ≤ 4096 := by decide
  exact this j (by omega)
theorem pb_pos {j : Nat} (h : 0 < j) : 0 < pb j := by
  rw [pb_s h]; exact Nat.pos_of_ne_zero (by simp)
theorem pb_shr {t : Nat} (h : t < 13) : nI (pb (13 - t)) >>> ((1 : Int32) &&& 31) = nI (pb (13 - (t + 1))) := by
  have : ∀ t, t < 13 → nI (pb (13 - t)) >>> ((1 : Int32) &&& 31) = nI (pb (13 - (t + 1))) := by decide
  exact this t h

set_option maxHeartbeats 4000000 in
set_option maxRecDepth 100000 in
theorem c_X0_pass (l : Launch) (dC : Nat → ClassId) (dI : Nat → Nat → Nat) (cyI cyZ cyJ cyD : ClassId) (aH aD aR aHW aHL aRF aRT aRN aRL aRU : Nat) (zH : Nat) (len : Nat) (hN : Int32) (hL : Int32) (hG : Int32) (L : Nat → Nat) (F : Nat → Nat) (T : Nat → Nat) (nm : Nat → Int32) (lo : Nat → Int32) (up : Nat → Int32) (cnt : Nat) (d : Nat) (f : Nat) (hd : d < 20) (hlen : len < 12) (hFd : F d < 12) (hf : f < 12) : Met l yX0_pass wsX0_pass ({ frames := 1, cells := 0, slots := 0, locals := 21 } : Room) (va_Pc [.ref aH, .int (nI d), .int (nI f)] (fun U => U.heap.size = zH ∧ va_P (dC, dI) vwCl [(aH, .inr (0, [.ref aD, .ref aR, .ref aHW, .ref aHL, .int (nI len), .int hN, .int hL, .int hG])), (aHL, .inl (cyI, 12, .inl (fun j_ => nI (L j_)))), (aR, .inr (1, [.ref aRF, .ref aRT, .ref aRN, .ref aRL, .ref aRU, .int (nI cnt)])), (aRF, .inl (cyI, 20, .inl (fun j_ => nI (F j_)))), (aRT, .inl (cyI, 20, .inl (fun j_ => nI (T j_)))), (aRN, .inl (cyI, 20, .inl nm)), (aRL, .inl (cyI, 20, .inl lo)), (aRU, .inl (cyI, 20, .inl up))] U.heap ∧ va_K (dC, dI) vwCl [(cyI, .int), (cyZ, .boolean), (cyJ, .long), (cyD, .double)] U ∧ va_D (fun _ => True) [(aH, .inr (0, [.ref aD, .ref aR, .ref aHW, .ref aHL, .int (nI len), .int hN, .int hL, .int hG])), (aHL, .inl (cyI, 12, .inl (fun j_ => nI (L j_)))), (aR, .inr (1, [.ref aRF, .ref aRT, .ref aRN, .ref aRL, .ref aRU, .int (nI cnt)])), (aRF, .inl (cyI, 20, .inl (fun j_ => nI (F j_)))), (aRT, .inl (cyI, 20, .inl (fun j_ => nI (T j_)))), (aRN, .inl (cyI, 20, .inl nm)), (aRL, .inl (cyI, 20, .inl lo)), (aRU, .inl (cyI, 20, .inl up))])) (va_Qi (fun (r : Int32) (_ : Unit) => r = nI (if F d = f then T d else F d)) (fun _ t => va_P (dC, dI) vwCl [(aH, .inr (0, [.ref aD, .ref aR, .ref aHW, .ref aHL, .int (nI (len + 1)), .int (if F d = f then hN + nm d else hN - nm d), .int (if F d = f then hL + (nm d + lo d) else hL - (nm d + up d)), .int (if F d = f then hG + (nm d + up d) else hG - (nm d + lo d))])), (aHL, .inl (cyI, 12, .inl (fun j_ => nI ((updN L len d) j_)))), (aR, .inr (1, [.ref aRF, .ref aRT, .ref aRN, .ref aRL, .ref aRU, .int (nI cnt)])), (aRF, .inl (cyI, 20, .inl (fun j_ => nI (F j_)))), (aRT, .inl (cyI, 20, .inl (fun j_ => nI (T j_)))), (aRN, .inl (cyI, 20, .inl nm)), (aRL, .inl (cyI, 20, .inl lo)), (aRU, .inl (cyI, 20, .inl up))] t.heap ∧ va_K (dC, dI) vwCl [(cyI, .int), (cyZ, .boolean), (cyJ, .long), (cyD, .double)] t ∧ va_D (va_A [(aH, .inr (0, [.ref aD, .ref aR, .ref aHW, .ref aHL, .int (nI len), .int hN, .int hL, .int hG])), (aHL, .inl (cyI, 12, .inl (fun j_ => nI (L j_)))), (aR, .inr (1, [.ref aRF, .ref aRT, .ref aRN, .ref aRL, .ref aRU, .int (nI cnt)])), (aRF, .inl (cyI, 20, .inl (fun j_ => nI (F j_)))), (aRT, .inl (cyI, 20, .inl (fun j_ => nI (T j_)))), (aRN, .inl (cyI, 20, .inl nm)), (aRL, .inl (cyI, 20, .inl lo)), (aRU, .inl (cyI, 20, .inl up))] zH) [(aH, .inr (0, [.ref aD, .ref aR, .ref aHW, .ref aHL, .int (nI (len + 1)), .int (if F d = f then hN + nm d else hN - nm d), .int (if F d = f then hL + (nm d + lo d) else hL - (nm d + up d)), .int (if F d = f then hG + (nm d + up d) else hG - (nm d + lo d))])), (aHL, .inl (cyI, 12, .inl (fun j_ => nI ((updN L len d) j_)))), (aR, .inr (1, [.ref aRF, .ref aRT, .ref aRN, .ref aRL, .ref aRU, .int (nI cnt)])), (aRF, .inl (cyI, 20, .inl (fun j_ => nI (F j_)))), (aRT, .inl (cyI, 20, .inl (fun j_ => nI (T j_)))), (aRN, .inl (cyI, 20, .inl nm)), (aRL, .inl (cyI, 20, .inl lo)), (aRU, .inl (cyI, 20, .inl up))]) (va_A [(aH, .inr (0, [.ref aD, .ref aR, .ref aHW, .ref aHL, .int (nI len), .int hN, .int hL, .int hG])), (aHL, .inl (cyI, 12, .inl (fun j_ => nI (L j_)))), (aR, .inr (1, [.ref aRF, .ref aRT, .ref aRN, .ref aRL, .ref aRU, .int (nI cnt)])), (aRF, .inl (cyI, 20, .inl (fun j_ => nI (F j_)))), (aRT, .inl (cyI, 20, .inl (fun j_ => nI (T j_)))), (aRN, .inl (cyI, 20, .inl nm)), (aRL, .inl (cyI, 20, .inl lo)), (aRU, .inl (cyI, 20, .inl up))] zH)) 0 0 (va_A [(aH, .inr (0, [.ref aD, .ref aR, .ref aHW, .ref aHL, .int (nI len), .int hN, .int hL, .int hG])), (aHL, .inl (cyI, 12, .inl (fun j_ => nI (L j_)))), (aR, .inr (1, [.ref aRF, .ref aRT, .ref aRN, .ref aRL, .ref aRU, .int (nI cnt)])), (aRF, .inl (cyI, 20, .inl (fun j_ => nI (F j_)))), (aRT, .inl (cyI, 20, .inl (fun j_ => nI (T j_)))), (aRN, .inl (cyI, 20, .inl nm)), (aRL, .inl (cyI, 20, .inl lo)), (aRU, .inl (cyI, 20, .inl up))] zH) := by
  refine Met.ofW (cc := cX0_pass) (maxL := 3) (ret := (some .int)) (by decide) rfl ?_
  intro pM eM s mM args blM mtM cM s₁ BM hml hv
  obtain ⟨rfl, hsz, hP, hK, hD0⟩ := hv
  have hx := BM.exec
  have hb := BM.bytes
  have hr := BM.returns
  have hts := atoms_spec (ws := wsX0_pass) BM.pre
  have hown : s.vm.findClass RX0 = some mM.cls := findClass_of_methodNamed BM.named
  have hlocks := BM.notSynchronized
  have w0 := hts (.fieldLink RX0 15 "DimensionChecker$Chain" "links" "[I") (by decide +kernel)
  have w1 := hts (.fieldLink RX0 18 "DimensionChecker$Chain" "length" "I") (by decide +kernel)
  have w2 := hts (.fieldLink RX0 41 "DimensionChecker$Chain" "rows" "LDimensionChecker$Dimensions;") (by decide +kernel)
  have w3 := hts (.fieldLink RX0 72 "DimensionChecker$Dimensions" "from" "[I") (by decide +kernel)
  have w4 := hts (.fieldLink RX0 22 "DimensionChecker$Chain" "nominal" "I") (by decide +kernel)
  have w5 := hts (.fieldLink RX0 78 "DimensionChecker$Dimensions" "nominal" "[I") (by decide +kernel)
  have w6 := hts (.fieldLink RX0 25 "DimensionChecker$Chain" "least" "I") (by decide +kernel)
  have w7 := hts (.fieldLink RX0 28 "DimensionChecker$Chain" "greatest" "I") (by decide +kernel)
  have w8 := hts (.fieldLink RX0 75 "DimensionChecker$Dimensions" "to" "[I") (by decide +kernel)
  have iX0 : ∀ w ∈ wsX00, w ∈ wsX0_pass := by decide +kernel
  have iX1 : ∀ w ∈ wsX10, w ∈ wsX0_pass := by decide +kernel
  subst hsz
  have hD := hD0.self (sz := s.heap.size)
  obtain ⟨Q, hQe⟩ : ∃ Q : State → Prop, Q = MQ blM (va_Qi (fun (r : Int32) (_ : Unit) => r = nI (if F d = f then T d else F d)) (fun _ t => va_P (dC, dI) vwCl [(aH, .inr (0, [.ref aD, .ref aR, .ref aHW, .ref aHL, .int (nI (len + 1)), .int (if F d = f then hN + nm d else hN - nm d), .int (if F d = f then hL + (nm d + lo d) else hL - (nm d + up d)), .int (if F d = f then hG + (nm d + up d) else hG - (nm d + lo d))])), (aHL, .inl (cyI, 12, .inl (fun j_ => nI ((updN L len d) j_)))), (aR, .inr (1, [.ref aRF, .ref aRT, .ref aRN, .ref aRL, .ref aRU, .int (nI cnt)])), (aRF, .inl (cyI, 20, .inl (fun j_ => nI (F j_)))), (aRT, .inl (cyI, 20, .inl (fun j_ => nI (T j_)))), (aRN, .inl (cyI, 20, .inl nm)), (aRL, .inl (cyI, 20, .inl lo)), (aRU, .inl (cyI, 20, .inl up))] t.heap ∧ va_K (dC, dI) vwCl [(cyI, .int), (cyZ, .boolean), (cyJ, .long), (cyD, .double)] t ∧ va_D (va_A [(aH, .inr (0, [.ref aD, .ref aR, .ref aHW, .ref aHL, .int (nI len), .int hN, .int hL, .int hG])), (aHL, .inl (cyI, 12, .inl (fun j_ => nI (L j_)))), (aR, .inr (1, [.ref aRF, .ref aRT, .ref aRN, .ref aRL, .ref aRU, .int (nI cnt)])), (aRF, .inl (cyI, 20, .inl (fun j_ => nI (F j_)))), (aRT, .inl (cyI, 20, .inl (fun j_ => nI (T j_)))), (aRN, .inl (cyI, 20, .inl nm)), (aRL, .inl (cyI, 20, .inl lo)), (aRU, .inl (cyI, 20, .inl up))] s.heap.size) [(aH, .inr (0, [.ref aD, .ref aR, .ref aHW, .ref aHL, .int (nI (len + 1)), .int (if F d = f then hN + nm d else hN - nm d), .int (if F d = f then hL + (nm d + lo d) else hL - (nm d + up d)), .int (if F d = f then hG + (nm d + up d) else hG - (nm d + lo d))])), (aHL, .inl (cyI, 12, .inl (fun j_ => nI ((updN L len d) j_)))), (aR, .inr (1, [.ref aRF, .ref aRT, .ref aRN, .ref aRL, .ref aRU, .int (nI cnt)])), (aRF, .inl (cyI, 20, .inl (fun j_ => nI (F j_)))), (aRT, .inl (cyI, 20, .inl (fun j_ => nI (T j_)))), (aRN, .inl (cyI, 20, .inl nm)), (aRL, .inl (cyI, 20, .inl lo)), (aRU, .inl (cyI, 20, .inl up))]) (va_A [(aH, .inr (0, [.ref aD, .ref aR, .ref aHW, .ref aHL, .int (nI len), .int hN, .int hL, .int hG])), (aHL, .inl (cyI, 12, .inl (fun j_ => nI (L j_)))), (aR, .inr (1, [.ref aRF, .ref aRT, .ref aRN, .ref aRL, .ref aRU, .int (nI cnt)])), (aRF, .inl (cyI, 20, .inl (fun j_ => nI (F j_)))), (aRT, .inl (cyI, 20, .inl (fun j_ => nI (T j_)))), (aRN, .inl (cyI, 20, .inl nm)), (aRL, .inl (cyI, 20, .inl lo)), (aRU, .inl (cyI, 20, .inl up))] s.heap.size)) ([.ref aH, .int (nI d), .int (nI f)] : List Value).toArray s 0 0 (va_A [(aH, .inr (0, [.ref aD, .ref aR, .ref aHW, .ref aHL, .int (nI len), .int hN, .int hL, .int hG])), (aHL, .inl (cyI, 12, .inl (fun j_ => nI (L j_)))), (aR, .inr (1, [.ref aRF, .ref aRT, .ref aRN, .ref aRL, .ref aRU, .int (nI cnt)])), (aRF, .inl (cyI, 20, .inl (fun j_ => nI (F j_)))), (aRT, .inl (cyI, 20, .inl (fun j_ => nI (T j_)))), (aRN, .inl (cyI, 20, .inl nm)), (aRL, .inl (cyI, 20, .inl lo)), (aRU, .inl (cyI, 20, .inl up))] s.heap.size) := ⟨_, rfl⟩
  rw [← hQe]
  generalize hAe : va_A [(aH, .inr (0, [.ref aD, .ref aR, .ref aHW, .ref aHL, .int (nI len), .int hN, .int hL, .int hG])), (aHL, .inl (cyI, 12, .inl (fun j_ => nI (L j_)))), (aR, .inr (1, [.ref aRF, .ref aRT, .ref aRN, .ref aRL, .ref aRU, .int (nI cnt)])), (aRF, .inl (cyI, 20, .inl (fun j_ => nI (F j_)))), (aRT, .inl (cyI, 20, .inl (fun j_ => nI (T j_)))), (aRN, .inl (cyI, 20, .inl nm)), (aRL, .inl (cyI, 20, .inl lo)), (aRU, .inl (cyI, 20, .inl up))] s.heap.size = A at hD hQe
  have hA : ∀ q : Nat, s.heap.size ≤ q → A q := fun q h => by rw [← hAe]; exact Or.inr h
  obtain ⟨H, hHe⟩ : ∃ H : Heap, H = s.heap := ⟨_, rfl⟩
  have hS : va_S A s.heap H [] := by rw [hHe]; exact va_S.rf
  rw [← hHe] at hP ⊢
  have hl := lv_entry ([.ref aH, .int (nI d), .int (nI f)]) (n := 3) (Nat.le_of_ble_eq_true rfl)
  rw [lg_entry_eq]
  generalize (lg_sl ([.ref aH, .int (nI d), .int (nI f)]) ++ List.replicate (3 - (lg_sl ([.ref aH, .int (nI d), .int (nI f)])).length) Slot.unset).toArray = ls at hl ⊢
  have hl : lv_has ls 3 [(0, .ref aH), (1, .int (nI d)), (2, .int (nI f))] := hl
  refine lv_aload_n hx hb dX0_pass_0 rfl (lv_at hl 0 rfl) ?_
  refine va_get (D := (dC, dI)) (ci := 0) (v := .ref aHL) (C := RX0) (T := TX0) (N := 8) hx hb hts iX0 hown hK hP 0 rfl rfl 3 (by decide) w0 (fun _ h9 => h9) rfl dX0_pass_1 ?_
  refine lv_aload_n hx hb dX0_pass_4 rfl (lv_at hl 0 rfl) ?_
  refine va_get (D := (dC, dI)) (ci := 0) (v := .int (nI len)) (C := RX0) (T := TX0) (N := 8) hx hb hts iX0 hown hK hP 0 rfl rfl 4 (by decide) w1 (fun _ h9 => h9) rfl dX0_pass_5 ?_
  refine lv_iload_n hx hb dX0_pass_8 rfl (lv_at hl 1 rfl) ?_
  have h1 : vp_in (nI len) 12 := by first | exact vp_in_nI (by omega) (by omega) | assumption
  refine va_iast hx hb hK hP hD hS 1 0 rfl rfl h1 dX0_pass_9 (fun H locs hP hD hS => ?_)
  rw [nI_clamp (by omega)] at hP hD
  have ub : upd (fun j_ => nI (L j_)) len (nI d) = (fun j_ => nI ((updN L len d) j_)) := updN_z _ _ _
  have hP : va_P (dC, dI) vwCl [(aH, .inr (0, [.ref aD, .ref aR, .ref aHW, .ref aHL, .int (nI len), .int hN, .int hL, .int hG])), (aHL, .inl (cyI, 12, .inl (fun j_ => nI ((updN L len d) j_)))), (aR, .inr (1, [.ref aRF, .ref aRT, .ref aRN, .ref aRL, .ref aRU, .int (nI cnt)])), (aRF, .inl (cyI, 20, .inl (fun j_ => nI (F j_)))), (aRT, .inl (cyI, 20, .inl (fun j_ => nI (T j_)))), (aRN, .inl (cyI, 20, .inl nm)), (aRL, .inl (cyI, 20, .inl lo)), (aRU, .inl (cyI, 20, .inl up))] H := by rw [← ub]; exact hP
  have hD : va_D A [(aH, .inr (0, [.ref aD, .ref aR, .ref aHW, .ref aHL, .int (nI len), .int hN, .int hL, .int hG])), (aHL, .inl (cyI, 12, .inl (fun j_ => nI ((updN L len d) j_)))), (aR, .inr (1, [.ref aRF, .ref aRT, .ref aRN, .ref aRL, .ref aRU, .int (nI cnt)])), (aRF, .inl (cyI, 20, .inl (fun j_ => nI (F j_)))), (aRT, .inl (cyI, 20, .inl (fun j_ => nI (T j_)))), (aRN, .inl (cyI, 20, .inl nm)), (aRL, .inl (cyI, 20, .inl lo)), (aRU, .inl (cyI, 20, .inl up))] := by rw [← ub]; exact hD
  refine lv_aload_n hx hb dX0_pass_10 rfl (lv_at hl 0 rfl) ?_
  refine lv_dup hx hb dX0_pass_11 rfl ?_
  refine va_get (D := (dC, dI)) (ci := 0) (v := .int (nI len)) (C := RX0) (T := TX0) (N := 8) hx hb hts iX0 hown hK hP 0 rfl rfl 4 (by decide) w1 (fun _ h9 => h9) rfl dX0_pass_12 ?_
  refine lv_iconst (v := 1) hx hb dX0_pass_15 (by decide) ?_
  refine lv_iadd hx hb dX0_pass_16 ?_
  refine lv_topi (fun x2 e3 => ?_)
  obtain rfl : x2 = (nI (len + 1)) := by rw [e3]; exact nI_add len 1
  clear e3
  refine va_put (D := (dC, dI)) (ci := 0) (v := .int (nI (len + 1))) (ty := .int) (C := RX0) (T := TX0) (N := 8) hx hb hts iX0 tyX0 tyX0_ok nmX0 hown hK hP hD hS 0 rfl rfl 4 (by decide) w1 (fun _ h9 => h9) rfl (by decide +kernel) rfl rfl (Nat.le_of_ble_eq_true rfl) dX0_pass_17 (fun H locs hP hD hS => ?_)
  have hP : va_P (dC, dI) vwCl [(aH, .inr (0, [.ref aD, .ref aR, .ref aHW, .ref aHL, .int (nI (len + 1)), .int hN, .int hL, .int hG])), (aHL, .inl (cyI, 12, .inl (fun j_ => nI ((updN L len d) j_)))), (aR, .inr (1, [.ref aRF, .ref aRT, .ref aRN, .ref aRL, .ref aRU, .int (nI cnt)])), (aRF, .inl (cyI, 20, .inl (fun j_ => nI (F j_)))), (aRT, .inl (cyI, 20, .inl (fun j_ => nI (T j_)))), (aRN, .inl (cyI, 20, .inl nm)), (aRL, .inl (cyI, 20, .inl lo)), (aRU, .inl (cyI, 20, .inl up))] H := hP
  have hD : va_D A [(aH, .inr (0, [.ref aD, .ref aR, .ref aHW, .ref aHL, .int (nI (len + 1)), .int hN, .int hL, .int hG])), (aHL, .inl (cyI, 12, .inl (fun j_ => nI ((updN L len d) j_)))), (aR, .inr (1, [.ref aRF, .ref aRT, .ref aRN, .ref aRL, .ref aRU, .int (nI cnt)])), (aRF, .inl (cyI, 20, .inl (fun j_ => nI (F j_)))), (aRT, .inl (cyI, 20, .inl (fun j_ => nI (T j_)))), (aRN, .inl (cyI, 20, .inl nm)), (aRL, .inl (cyI, 20, .inl lo)), (aRU, .inl (cyI, 20, .inl up))] := hD
  refine lv_aload_n hx hb dX0_pass_20 rfl (lv_at hl 0 rfl) ?_
  refine va_get (D := (dC, dI)) (ci := 0) (v := .ref aR) (C := RX0) (T := TX0) (N := 8) hx hb hts iX0 hown hK hP 0 rfl rfl 1 (by decide) w2 (fun _ h9 => h9) rfl dX0_pass_21 ?_
  refine va_get (D := (dC, dI)) (ci := 1) (v := .ref aRF) (C := RX1) (T := TX1) (N := 6) hx hb hts iX1 hown hK hP 2 rfl rfl 0 (by decide) w3 (fun _ h9 => h9) rfl dX0_pass_24 ?_
  refine lv_iload_n hx hb dX0_pass_27 rfl (lv_at hl 1 rfl) ?_
  have h4 : vp_in (nI d) 20 := by first | exact vp_in_nI (by omega) (by omega) | assumption
  refine va_iald hx hb hK hP 3 0 rfl rfl h4 dX0_pass_28 ?_
  refine lv_topi (fun x5 e6 => ?_)
  obtain rfl : x5 = (nI (F d)) := by rw [e6, nI_clamp (by omega)]
  clear e6
  refine lv_iload_n hx hb dX0_pass_29 rfl (lv_at hl 2 rfl) ?_
  refine lv_icmp_ne (tgt := 95) hx hb dX0_pass_30 (by decide) (fun c30 => ?_) (fun c30 => ?_)
  · have c30 := n_ne (a := F d) (b := f) (by omega) (by omega) c30
    refine lv_aload_n hx hb dX0_pass_95 rfl (lv_at hl 0 rfl) ?_
    refine lv_dup hx hb dX0_pass_96 rfl ?_
    refine va_get (D := (dC, dI)) (ci := 0) (v := .int hN) (C := RX0) (T := TX0) (N := 8) hx hb hts iX0 hown hK hP 0 rfl rfl 5 (by decide) w4 (fun _ h9 => h9) rfl dX0_pass_97 ?_
    refine lv_aload_n hx hb dX0_pass_100 rfl (lv_at hl 0 rfl) ?_
    refine va_get (D := (dC, dI)) (ci := 0) (v := .ref aR) (C := RX0) (T := TX0) (N := 8) hx hb hts iX0 hown hK hP 0 rfl rfl 1 (by decide) w2 (fun _ h9 => h9) rfl dX0_pass_101 ?_
    refine va_get (D := (dC, dI)) (ci := 1) (v := .ref aRN) (C := RX1) (T := TX1) (N := 6) hx hb hts iX1 hown hK hP 2 rfl rfl 2 (by decide) w5 (fun _ h9 => h9) rfl dX0_pass_104 ?_
    refine lv_iload_n hx hb dX0_pass_107 rfl (lv_at hl 1 rfl) ?_
    have h7 : vp_in (nI d) 20 := by first | exact vp_in_nI (by omega) (by omega) | assumption
    refine va_iald hx hb hK hP 5 0 rfl rfl h7 dX0_pass_108 ?_
    refine lv_topi (fun x8 e9 => ?_)
    obtain rfl : x8 = (nm d) := by rw [e9, nI_clamp (by omega)]
    clear e9
    refine lv_isub hx hb dX0_pass_109 ?_
    refine va_put (D := (dC, dI)) (ci := 0) (v := .int (hN - (nm d))) (ty := .int) (C := RX0) (T := TX0) (N := 8) hx hb hts iX0 tyX0 tyX0_ok nmX0 hown hK hP hD hS 0 rfl rfl 5 (by decide) w4 (fun _ h9 => h9) rfl (by decide +kernel) rfl rfl (Nat.le_of_ble_eq_true rfl) dX0_pass_110 (fun H locs hP hD hS => ?_)
    have hP : va_P (dC, dI) vwCl [(aH, .inr (0, [.ref aD, .ref aR, .ref aHW, .ref aHL, .int (nI (len + 1)), .int (hN - (nm d)), .int hL, .int hG])), (aHL, .inl (cyI, 12, .inl (fun j_ => nI ((updN L len d) j_)))), (aR, .inr (1, [.ref aRF, .ref aRT, .ref aRN, .ref aRL, .ref aRU, .int (nI cnt)])), (aRF, .inl (cyI, 20, .inl (fun j_ => nI (F j_)))), (aRT, .inl (cyI, 20, .inl (fun j_ => nI (T j_)))), (aRN, .inl (cyI, 20, .inl nm)), (aRL, .inl (cyI, 20, .inl lo)), (aRU, .inl (cyI, 20, .inl up))] H := hP
    have hD : va_D A [(aH, .inr (0, [.ref aD, .ref aR, .ref aHW, .ref aHL, .int (nI (len + 1)), .int (hN - (nm d)), .int hL, .int hG])), (aHL, .inl (cyI, 12, .inl (fun j_ => nI ((updN L len d) j_)))), (aR, .inr (1, [.ref aRF, .ref aRT, .ref aRN, .ref aRL, .ref aRU, .int (nI cnt)])), (aRF, .inl (cyI, 20, .inl (fun j_ => nI (F j_)))), (aRT, .inl (cyI, 20, .inl (fun j_ => nI (T j_)))), (aRN, .inl (cyI, 20, .inl nm)), (aRL, .inl (cyI, 20, .inl lo)), (aRU, .inl (cyI, 20, .inl up))] := hD
    refine lv_aload_n hx hb dX0_pass_113 rfl (lv_at hl 0 rfl) ?_
    refine lv_dup hx hb dX0_pass_114 rfl ?_
    refine va_get (D := (dC, dI)) (ci := 0) (v := .int hL) (C := RX0) (T := TX0) (N := 8) hx hb hts iX0 hown hK hP 0 rfl rfl 6 (by decide) w6 (fun _ h9 => h9) rfl dX0_pass_115 ?_
    refine lv_aload_n hx hb dX0_pass_118 rfl (lv_at hl 0 rfl) ?_
    refine va_get (D := (dC, dI)) (ci := 0) (v := .ref aR) (C := RX0) (T := TX0) (N := 8) hx hb hts iX0 hown hK hP 0 rfl rfl 1 (by decide) w2 (fun _ h9 => h9) rfl dX0_pass_119 ?_
    refine lv_iload_n hx hb dX0_pass_122 rfl (lv_at hl 1 rfl) ?_
    have g10 : d < 20 := by first | assumption | omega | exact vp_in_nI (by omega) (by omega)
    have hPc := hP.sub (ws' := [(aR, .inr (1, [.ref aRF, .ref aRT, .ref aRN, .ref aRL, .ref aRU, .int (nI cnt)])), (aRN, .inl (cyI, 20, .inl nm)), (aRU, .inl (cyI, 20, .inl up))]) [2, 5, 7] rfl
    have hDc := hD.sub (ws' := [(aR, .inr (1, [.ref aRF, .ref aRT, .ref aRN, .ref aRL, .ref aRU, .int (nI cnt)])), (aRN, .inl (cyI, 20, .inl nm)), (aRU, .inl (cyI, 20, .inl up))]) [2, 5, 7] (by decide) rfl
    have hFc := va_free (wc := [(aR, .inr (1, [.ref aRF, .ref aRT, .ref aRN, .ref aRL, .ref aRU, .int (nI cnt)])), (aRN, .inl (cyI, 20, .inl nm)), (aRU, .inl (cyI, 20, .inl up))]) hD hS hA [2, 5, 7] rfl
    refine va_calli (va_runV (As := [.int (nI d)]) (rest := [.int hL, .ref aH]) ⟨hx, hb, hml, hown, hts⟩ (c_X1_greatestLimit l dC dI cyI cyZ cyJ cyD aR aRF aRT aRN aRL aRU H.size nm up cnt d g10) (cwV 1 hts gX0_pass_X1_greatestLimit rfl rfl rfl (by decide +kernel) ⟨Nat.le_of_ble_eq_true rfl, Nat.le_of_ble_eq_true rfl⟩) ⟨fun a U g mk q => by obtain ⟨q0, q1, qP, qK, qD⟩ := q; exact ⟨q0, q1, qP, va_K.moved (u := U) (U := U.calling g mk a) (Vm.Alike.refl U.vm) qK, qD⟩, va_recv hK hPc (ci := 1) (q0 := 0) rfl rfl, fun U hU hW => ⟨rfl, by rw [hU], by rw [hU]; exact hPc, va_K.moved hW.alike hK, hDc.weaken (fun _ _ _ _ => trivial)⟩⟩ rfl rfl hl.1 rfl (lv_room (Nat.le_of_ble_eq_true rfl)) dX0_pass_123 ⟨Nat.le_of_ble_eq_true rfl, Nat.le_of_ble_eq_true rfl⟩) hS (fun q _ h => hFc q h) hFc (fun r u t H1 locs ht hvm hw hB hz1 hk1 hS => ?_)
    obtain rfl := hw
    obtain ⟨hP1, hK1, hD1⟩ := hB
    rw [ht] at hP1
    obtain ⟨hP, hD⟩ := va_join (wr := [(aH, .inr (0, [.ref aD, .ref aR, .ref aHW, .ref aHL, .int (nI (len + 1)), .int (hN - (nm d)), .int hL, .int hG])), (aHL, .inl (cyI, 12, .inl (fun j_ => nI ((updN L len d) j_)))), (aRF, .inl (cyI, 20, .inl (fun j_ => nI (F j_)))), (aRT, .inl (cyI, 20, .inl (fun j_ => nI (T j_)))), (aRL, .inl (cyI, 20, .inl lo))]) (w1 := [(aR, .inr (1, [.ref aRF, .ref aRT, .ref aRN, .ref aRL, .ref aRU, .int (nI cnt)])), (aRN, .inl (cyI, 20, .inl nm)), (aRU, .inl (cyI, 20, .inl up))]) hP hD [2, 5, 7] [0, 1, 3, 4, 6] rfl rfl (by decide) (by decide) hk1 hFc hP1 hD1
    clear hP1 hD1 hK1 hPc hDc hFc hk1 hz1 hvm ht u t
    generalize H1 = H at hP hS ⊢
    have hP : va_P (dC, dI) vwCl [(aH, .inr (0, [.ref aD, .ref aR, .ref aHW, .ref aHL, .int (nI (len + 1)), .int (hN - (nm d)), .int hL, .int hG])), (aHL, .inl (cyI, 12, .inl (fun j_ => nI ((updN L len d) j_)))), (aRF, .inl (cyI, 20, .inl (fun j_ => nI (F j_)))), (aRT, .inl (cyI, 20, .inl (fun j_ => nI (T j_)))), (aRL, .inl (cyI, 20, .inl lo)), (aR, .inr (1, [.ref aRF, .ref aRT, .ref aRN, .ref aRL, .ref aRU, .int (nI cnt)])), (aRN, .inl (cyI, 20, .inl nm)), (aRU, .inl (cyI, 20, .inl up))] H := hP
    have hD : va_D A [(aH, .inr (0, [.ref aD, .ref aR, .ref aHW, .ref aHL, .int (nI (len + 1)), .int (hN - (nm d)), .int hL, .int hG])), (aHL, .inl (cyI, 12, .inl (fun j_ => nI ((updN L len d) j_)))), (aRF, .inl (cyI, 20, .inl (fun j_ => nI (F j_)))), (aRT, .inl (cyI, 20, .inl (fun j_ => nI (T j_)))), (aRL, .inl (cyI, 20, .inl lo)), (aR, .inr (1, [.ref aRF, .ref aRT, .ref aRN, .ref aRL, .ref aRU, .int (nI cnt)])), (aRN, .inl (cyI, 20, .inl nm)), (aRU, .inl (cyI, 20, .inl up))] := hD
    refine lv_isub hx hb dX0_pass_126 ?_
    refine va_put (D := (dC, dI)) (ci := 0) (v := .int (hL - (nm d + up d))) (ty := .int) (C := RX0) (T := TX0) (N := 8) hx hb hts iX0 tyX0 tyX0_ok nmX0 hown hK hP hD hS 0 rfl rfl 6 (by decide) w6 (fun _ h9 => h9) rfl (by decide +kernel) rfl rfl (Nat.le_of_ble_eq_true rfl) dX0_pass_127 (fun H locs hP hD hS => ?_)
    have hP : va_P (dC, dI) vwCl [(aH, .inr (0, [.ref aD, .ref aR, .ref aHW, .ref aHL, .int (nI (len + 1)), .int (hN - (nm d)), .int (hL - (nm d + up d)), .int hG])), (aHL, .inl (cyI, 12, .inl (fun j_ => nI ((updN L len d) j_)))), (aRF, .inl (cyI, 20, .inl (fun j_ => nI (F j_)))), (aRT, .inl (cyI, 20, .inl (fun j_ => nI (T j_)))), (aRL, .inl (cyI, 20, .inl lo)), (aR, .inr (1, [.ref aRF, .ref aRT, .ref aRN, .ref aRL, .ref aRU, .int (nI cnt)])), (aRN, .inl (cyI, 20, .inl nm)), (aRU, .inl (cyI, 20, .inl up))] H := hP
    have hD : va_D A [(aH, .inr (0, [.ref aD, .ref aR, .ref aHW, .ref aHL, .int (nI (len + 1)), .int (hN - (nm d)), .int (hL - (nm d + up d)), .int hG])), (aHL, .inl (cyI, 12, .inl (fun j_ => nI ((updN L len d) j_)))), (aRF, .inl (cyI, 20, .inl (fun j_ => nI (F j_)))), (aRT, .inl (cyI, 20, .inl (fun j_ => nI (T j_)))), (aRL, .inl (cyI, 20, .inl lo)), (aR, .inr (1, [.ref aRF, .ref aRT, .ref aRN, .ref aRL, .ref aRU, .int (nI cnt)])), (aRN, .inl (cyI, 20, .inl nm)), (aRU, .inl (cyI, 20, .inl up))] := hD
    refine lv_aload_n hx hb dX0_pass_130 rfl (lv_at hl 0 rfl) ?_
    refine lv_dup hx hb dX0_pass_131 rfl ?_
    refine va_get (D := (dC, dI)) (ci := 0) (v := .int hG) (C := RX0) (T := TX0) (N := 8) hx hb hts iX0 hown hK hP 0 rfl rfl 7 (by decide) w7 (fun _ h9 => h9) rfl dX0_pass_132 ?_
    refine lv_aload_n hx hb dX0_pass_135 rfl (lv_at hl 0 rfl) ?_
    refine va_get (D := (dC, dI)) (ci := 0) (v := .ref aR) (C := RX0) (T := TX0) (N := 8) hx hb hts iX0 hown hK hP 0 rfl rfl 1 (by decide) w2 (fun _ h9 => h9) rfl dX0_pass_136 ?_
    refine lv_iload_n hx hb dX0_pass_139 rfl (lv_at hl 1 rfl) ?_
    have g11 : d < 20 := by first | assumption | omega | exact vp_in_nI (by omega) (by omega)
    have hPc := hP.sub (ws' := [(aR, .inr (1, [.ref aRF, .ref aRT, .ref aRN, .ref aRL, .ref aRU, .int (nI cnt)])), (aRN, .inl (cyI, 20, .inl nm)), (aRL, .inl (cyI, 20, .inl lo))]) [5, 6, 4] rfl
    have hDc := hD.sub (ws' := [(aR, .inr (1, [.ref aRF, .ref aRT, .ref aRN, .ref aRL, .ref aRU, .int (nI cnt)])), (aRN, .inl (cyI, 20, .inl nm)), (aRL, .inl (cyI, 20, .inl lo))]) [5, 6, 4] (by decide) rfl
    have hFc := va_free (wc := [(aR, .inr (1, [.ref aRF, .ref aRT, .ref aRN, .ref aRL, .ref aRU, .int (nI cnt)])), (aRN, .inl (cyI, 20, .inl nm)), (aRL, .inl (cyI, 20, .inl lo))]) hD hS hA [5, 6, 4] rfl
    refine va_calli (va_runV (As := [.int (nI d)]) (rest := [.int hG, .ref aH]) ⟨hx, hb, hml, hown, hts⟩ (c_X1_leastLimit l dC dI cyI cyZ cyJ cyD aR aRF aRT aRN aRL aRU H.size nm lo cnt d g11) (cwV 1 hts gX0_pass_X1_leastLimit rfl rfl rfl (by decide +kernel) ⟨Nat.le_of_ble_eq_true rfl, Nat.le_of_ble_eq_true rfl⟩) ⟨fun a U g mk q => by obtain ⟨q0, q1, qP, qK, qD⟩ := q; exact ⟨q0, q1, qP, va_K.moved (u := U) (U := U.calling g mk a) (Vm.Alike.refl U.vm) qK, qD⟩, va_recv hK hPc (ci := 1) (q0 := 0) rfl rfl, fun U hU hW => ⟨rfl, by rw [hU], by rw [hU]; exact hPc, va_K.moved hW.alike hK, hDc.weaken (fun _ _ _ _ => trivial)⟩⟩ rfl rfl hl.1 rfl (lv_room (Nat.le_of_ble_eq_true rfl)) dX0_pass_140 ⟨Nat.le_of_ble_eq_true rfl, Nat.le_of_ble_eq_true rfl⟩) hS (fun q _ h => hFc q h) hFc (fun r u t H1 locs ht hvm hw hB hz1 hk1 hS => ?_)
    obtain rfl := hw
    obtain ⟨hP1, hK1, hD1⟩ := hB
    rw [ht] at hP1
    obtain ⟨hP, hD⟩ := va_join (wr := [(aH, .inr (0, [.ref aD, .ref aR, .ref aHW, .ref aHL, .int (nI (len + 1)), .int (hN - (nm d)), .int (hL - (nm d + up d)), .int hG])), (aHL, .inl (cyI, 12, .inl (fun j_ => nI ((updN L len d) j_)))), (aRF, .inl (cyI, 20, .inl (fun j_ => nI (F j_)))), (aRT, .inl (cyI, 20, .inl (fun j_ => nI (T j_)))), (aRU, .inl (cyI, 20, .inl up))]) (w1 := [(aR, .inr (1, [.ref aRF, .ref aRT, .ref aRN, .ref aRL, .ref aRU, .int (nI cnt)])), (aRN, .inl (cyI, 20, .inl nm)), (aRL, .inl (cyI, 20, .inl lo))]) hP hD [5, 6, 4] [0, 1, 2, 3, 7] rfl rfl (by decide) (by decide) hk1 hFc hP1 hD1
    clear hP1 hD1 hK1 hPc hDc hFc hk1 hz1 hvm ht u t
    generalize H1 = H at hP hS ⊢
    have hP : va_P (dC, dI) vwCl [(aH, .inr (0, [.ref aD, .ref aR, .ref aHW, .ref aHL, .int (nI (len + 1)), .int (hN - (nm d)), .int (hL - (nm d + up d)), .int hG])), (aHL, .inl (cyI, 12, .inl (fun j_ => nI ((updN L len d) j_)))), (aRF, .inl (cyI, 20, .inl (fun j_ => nI (F j_)))), (aRT, .inl (cyI, 20, .inl (fun j_ => nI (T j_)))), (aRU, .inl (cyI, 20, .inl up)), (aR, .inr (1, [.ref aRF, .ref aRT, .ref aRN, .ref aRL, .ref aRU, .int (nI cnt)])), (aRN, .inl (cyI, 20, .inl nm)), (aRL, .inl (cyI, 20, .inl lo))] H := hP
    have hD : va_D A [(aH, .inr (0, [.ref aD, .ref aR, .ref aHW, .ref aHL, .int (nI (len + 1)), .int (hN - (nm d)), .int (hL - (nm d + up d)), .int hG])), (aHL, .inl (cyI, 12, .inl (fun j_ => nI ((updN L len d) j_)))), (aRF, .inl (cyI, 20, .inl (fun j_ => nI (F j_)))), (aRT, .inl (cyI, 20, .inl (fun j_ => nI (T j_)))), (aRU, .inl (cyI, 20, .inl up)), (aR, .inr (1, [.ref aRF, .ref aRT, .ref aRN, .ref aRL, .ref aRU, .int (nI cnt)])), (aRN, .inl (cyI, 20, .inl nm)), (aRL, .inl (cyI, 20, .inl lo))] := hD
    refine lv_isub hx hb dX0_pass_143 ?_
    refine va_put (D := (dC, dI)) (ci := 0) (v := .int (hG - (nm d + lo d))) (ty := .int) (C := RX0) (T := TX0) (N := 8) hx hb hts iX0 tyX0 tyX0_ok nmX0 hown hK hP hD hS 0 rfl rfl 7 (by decide) w7 (fun _ h9 => h9) rfl (by decide +kernel) rfl rfl (Nat.le_of_ble_eq_true rfl) dX0_pass_144 (fun H locs hP hD hS => ?_)
    have hP : va_P (dC, dI) vwCl [(aH, .inr (0, [.ref aD, .ref aR, .ref aHW, .ref aHL, .int (nI (len + 1)), .int (hN - (nm d)), .int (hL - (nm d + up d)), .int (hG - (nm d + lo d))])), (aHL, .inl (cyI, 12, .inl (fun j_ => nI ((updN L len d) j_)))), (aRF, .inl (cyI, 20, .inl (fun j_ => nI (F j_)))), (aRT, .inl (cyI, 20, .inl (fun j_ => nI (T j_)))), (aRU, .inl (cyI, 20, .inl up)), (aR, .inr (1, [.ref aRF, .ref aRT, .ref aRN, .ref aRL, .ref aRU, .int (nI cnt)])), (aRN, .inl (cyI, 20, .inl nm)), (aRL, .inl (cyI, 20, .inl lo))] H := hP
    have hD : va_D A [(aH, .inr (0, [.ref aD, .ref aR, .ref aHW, .ref aHL, .int (nI (len + 1)), .int (hN - (nm d)), .int (hL - (nm d + up d)), .int (hG - (nm d + lo d))])), (aHL, .inl (cyI, 12, .inl (fun j_ => nI ((updN L len d) j_)))), (aRF, .inl (cyI, 20, .inl (fun j_ => nI (F j_)))), (aRT, .inl (cyI, 20, .inl (fun j_ => nI (T j_)))), (aRU, .inl (cyI, 20, .inl up)), (aR, .inr (1, [.ref aRF, .ref aRT, .ref aRN, .ref aRL, .ref aRU, .int (nI cnt)])), (aRN, .inl (cyI, 20, .inl nm)), (aRL, .inl (cyI, 20, .inl lo))] := hD
    refine lv_aload_n hx hb dX0_pass_147 rfl (lv_at hl 0 rfl) ?_
    refine va_get (D := (dC, dI)) (ci := 0) (v := .ref aR) (C := RX0) (T := TX0) (N := 8) hx hb hts iX0 hown hK hP 0 rfl rfl 1 (by decide) w2 (fun _ h9 => h9) rfl dX0_pass_148 ?_
    refine va_get (D := (dC, dI)) (ci := 1) (v := .ref aRF) (C := RX1) (T := TX1) (N := 6) hx hb hts iX1 hown hK hP 5 rfl rfl 0 (by decide) w3 (fun _ h9 => h9) rfl dX0_pass_151 ?_
    refine lv_iload_n hx hb dX0_pass_154 rfl (lv_at hl 1 rfl) ?_
    have h12 : vp_in (nI d) 20 := by first | exact vp_in_nI (by omega) (by omega) | assumption
    refine va_iald hx hb hK hP 2 0 rfl rfl h12 dX0_pass_155 ?_
    refine lv_topi (fun x13 e14 => ?_)
    obtain rfl : x13 = (nI (F d)) := by rw [e14, nI_clamp (by omega)]
    clear e14
    have r15 : (nI (F d)) = (nI (if F d = f then T d else F d)) := by first | rfl | rw [if_pos c30] | rw [if_neg c30]
    have q16 : (if F d = f then hN + nm d else hN - nm d) = (hN - (nm d)) := by first | rfl | rw [if_pos c30] | rw [if_neg c30]
    have q17 : (if F d = f then hL + (nm d + lo d) else hL - (nm d + up d)) = (hL - (nm d + up d)) := by first | rfl | rw [if_pos c30] | rw [if_neg c30]
    have q18 : (if F d = f then hG + (nm d + up d) else hG - (nm d + lo d)) = (hG - (nm d + lo d)) := by first | rfl | rw [if_pos c30] | rw [if_neg c30]
    have hP9 : va_P (dC, dI) vwCl [(aH, .inr (0, [.ref aD, .ref aR, .ref aHW, .ref aHL, .int (nI (len + 1)), .int (if F d = f then hN + nm d else hN - nm d), .int (if F d = f then hL + (nm d + lo d) else hL - (nm d + up d)), .int (if F d = f then hG + (nm d + up d) else hG - (nm d + lo d))])), (aHL, .inl (cyI, 12, .inl (fun j_ => nI ((updN L len d) j_)))), (aR, .inr (1, [.ref aRF, .ref aRT, .ref aRN, .ref aRL, .ref aRU, .int (nI cnt)])), (aRF, .inl (cyI, 20, .inl (fun j_ => nI (F j_)))), (aRT, .inl (cyI, 20, .inl (fun j_ => nI (T j_)))), (aRN, .inl (cyI, 20, .inl nm)), (aRL, .inl (cyI, 20, .inl lo)), (aRU, .inl (cyI, 20, .inl up))] H := by first | (rw [q16, q17, q18]; exact hP.sub [0, 1, 5, 2, 3, 6, 7, 4] rfl) | (simp only [q16, q17, q18]; exact hP.sub [0, 1, 5, 2, 3, 6, 7, 4] rfl) | exact hP.sub [0, 1, 5, 2, 3, 6, 7, 4] rfl
    have hD9 : va_D A [(aH, .inr (0, [.ref aD, .ref aR, .ref aHW, .ref aHL, .int (nI (len + 1)), .int (if F d = f then hN + nm d else hN - nm d), .int (if F d = f then hL + (nm d + lo d) else hL - (nm d + up d)), .int (if F d = f then hG + (nm d + up d) else hG - (nm d + lo d))])), (aHL, .inl (cyI, 12, .inl (fun j_ => nI ((updN L len d) j_)))), (aR, .inr (1, [.ref aRF, .ref aRT, .ref aRN, .ref aRL, .ref aRU, .int (nI cnt)])), (aRF, .inl (cyI, 20, .inl (fun j_ => nI (F j_)))), (aRT, .inl (cyI, 20, .inl (fun j_ => nI (T j_)))), (aRN, .inl (cyI, 20, .inl nm)), (aRL, .inl (cyI, 20, .inl lo)), (aRU, .inl (cyI, 20, .inl up))] := by first | (rw [q16, q17, q18]; exact hD.sub [0, 1, 5, 2, 3, 6, 7, 4] (by decide) rfl) | (simp only [q16, q17, q18]; exact hD.sub [0, 1, 5, 2, 3, 6, 7, 4] (by decide) rfl) | exact hD.sub [0, 1, 5, 2, 3, 6, 7, 4] (by decide) rfl
    subst hAe
    subst hQe
    exact W.iret (v := nI (F d)) hx hb hr (fun t ht hW => ⟨⟨_, (), rfl, r15, by rw [ht]; exact hP9, va_K.moved hW.alike hK, hD9⟩, hS.F ht⟩) hS.2.2 dX0_pass_156
  · have c30 := n_eq (a := F d) (b := f) (by omega) (by omega) c30
    refine lv_aload_n hx hb dX0_pass_33 rfl (lv_at hl 0 rfl) ?_
    refine lv_dup hx hb dX0_pass_34 rfl ?_
    refine va_get (D := (dC, dI)) (ci := 0) (v := .int hN) (C := RX0) (T := TX0) (N := 8) hx hb hts iX0 hown hK hP 0 rfl rfl 5 (by decide) w4 (fun _ h9 => h9) rfl dX0_pass_35 ?_
    refine lv_aload_n hx hb dX0_pass_38 rfl (lv_at hl 0 rfl) ?_
    refine va_get (D := (dC, dI)) (ci := 0) (v := .ref aR) (C := RX0) (T := TX0) (N := 8) hx hb hts iX0 hown hK hP 0 rfl rfl 1 (by decide) w2 (fun _ h9 => h9) rfl dX0_pass_39 ?_
    refine va_get (D := (dC, dI)) (ci := 1) (v := .ref aRN) (C := RX1) (T := TX1) (N := 6) hx hb hts iX1 hown hK hP 2 rfl rfl 2 (by decide) w5 (fun _ h9 => h9) rfl dX0_pass_42 ?_
    refine lv_iload_n hx hb dX0_pass_45 rfl (lv_at hl 1 rfl) ?_
    have h19 : vp_in (nI d) 20 := by first | exact vp_in_nI (by omega) (by omega) | assumption
    refine va_iald hx hb hK hP 5 0 rfl rfl h19 dX0_pass_46 ?_
    refine lv_topi (fun x20 e21 => ?_)
    obtain rfl : x20 = (nm d) := by rw [e21, nI_clamp (by omega)]
    clear e21
    refine lv_iadd hx hb dX0_pass_47 ?_
    refine va_put (D := (dC, dI)) (ci := 0) (v := .int (hN + (nm d))) (ty := .int) (C := RX0) (T := TX0) (N := 8) hx hb hts iX0 tyX0 tyX0_ok nmX0 hown hK hP hD hS 0 rfl rfl 5 (by decide) w4 (fun _ h9 => h9) rfl (by decide +kernel) rfl rfl (Nat.le_of_ble_eq_true rfl) dX0_pass_48 (fun H locs hP hD hS => ?_)
    have hP : va_P (dC, dI) vwCl [(aH, .inr (0, [.ref aD, .ref aR, .ref aHW, .ref aHL, .int (nI (len + 1)), .int (hN + (nm d)), .int hL, .int hG])), (aHL, .inl (cyI, 12, .inl (fun j_ => nI ((updN L len d) j_)))), (aR, .inr (1, [.ref aRF, .ref aRT, .ref aRN, .ref aRL, .ref aRU, .int (nI cnt)])), (aRF, .inl (cyI, 20, .inl (fun j_ => nI (F j_)))), (aRT, .inl (cyI, 20, .inl (fun j_ => nI (T j_)))), (aRN, .inl (cyI, 20, .inl nm)), (aRL, .inl (cyI, 20, .inl lo)), (aRU, .inl (cyI, 20, .inl up))] H := hP
    have hD : va_D A [(aH, .inr (0, [.ref aD, .ref aR, .ref aHW, .ref aHL, .int (nI (len + 1)), .int (hN + (nm d)), .int hL, .int hG])), (aHL, .inl (cyI, 12, .inl (fun j_ => nI ((updN L len d) j_)))), (aR, .inr (1, [.ref aRF, .ref aRT, .ref aRN, .ref aRL, .ref aRU, .int (nI cnt)])), (aRF, .inl (cyI, 20, .inl (fun j_ => nI (F j_)))), (aRT, .inl (cyI, 20, .inl (fun j_ => nI (T j_)))), (aRN, .inl (cyI, 20, .inl nm)), (aRL, .inl (cyI, 20, .inl lo)), (aRU, .inl (cyI, 20, .inl up))] := hD
    refine lv_aload_n hx hb dX0_pass_51 rfl (lv_at hl 0 rfl) ?_
    refine lv_dup hx hb dX0_pass_52 rfl ?_
    refine va_get (D := (dC, dI)) (ci := 0) (v := .int hL) (C := RX0) (T := TX0) (N := 8) hx hb hts iX0 hown hK hP 0 rfl rfl 6 (by decide) w6 (fun _ h9 => h9) rfl dX0_pass_53 ?_
    refine lv_aload_n hx hb dX0_pass_56 rfl (lv_at hl 0 rfl) ?_
    refine va_get (D := (dC, dI)) (ci := 0) (v := .ref aR) (C := RX0) (T := TX0) (N := 8) hx hb hts iX0 hown hK hP 0 rfl rfl 1 (by decide) w2 (fun _ h9 => h9) rfl dX0_pass_57 ?_
    refine lv_iload_n hx hb dX0_pass_60 rfl (lv_at hl 1 rfl) ?_
    have g22 : d < 20 := by first | assumption | omega | exact vp_in_nI (by omega) (by omega)
    have hPc := hP.sub (ws' := [(aR, .inr (1, [.ref aRF, .ref aRT, .ref aRN, .ref aRL, .ref aRU, .int (nI cnt)])), (aRN, .inl (cyI, 20, .inl nm)), (aRL, .inl (cyI, 20, .inl lo))]) [2, 5, 6] rfl
    have hDc := hD.sub (ws' := [(aR, .inr (1, [.ref aRF, .ref aRT, .ref aRN, .ref aRL, .ref aRU, .int (nI cnt)])), (aRN, .inl (cyI, 20, .inl nm)), (aRL, .inl (cyI, 20, .inl lo))]) [2, 5, 6] (by decide) rfl
    have hFc := va_free (wc := [(aR, .inr (1, [.ref aRF, .ref aRT, .ref aRN, .ref aRL, .ref aRU, .int (nI cnt)])), (aRN, .inl (cyI, 20, .inl nm)), (aRL, .inl (cyI, 20, .inl lo))]) hD hS hA [2, 5, 6] rfl
    refine va_calli (va_runV (As := [.int (nI d)]) (rest := [.int hL, .ref aH]) ⟨hx, hb, hml, hown, hts⟩ (c_X1_leastLimit l dC dI cyI cyZ cyJ cyD aR aRF aRT aRN aRL aRU H.size nm lo cnt d g22) (cwV 1 hts gX0_pass_X1_leastLimit rfl rfl rfl (by decide +kernel) ⟨Nat.le_of_ble_eq_true rfl, Nat.le_of_ble_eq_true rfl⟩) ⟨fun a U g mk q => by obtain ⟨q0, q1, qP, qK, qD⟩ := q; exact ⟨q0, q1, qP, va_K.moved (u := U) (U := U.calling g mk a) (Vm.Alike.refl U.vm) qK, qD⟩, va_recv hK hPc (ci := 1) (q0 := 0) rfl rfl, fun U hU hW => ⟨rfl, by rw [hU], by rw [hU]; exact hPc, va_K.moved hW.alike hK, hDc.weaken (fun _ _ _ _ => trivial)⟩⟩ rfl rfl hl.1 rfl (lv_room (Nat.le_of_ble_eq_true rfl)) dX0_pass_61 ⟨Nat.le_of_ble_eq_true rfl, Nat.le_of_ble_eq_true rfl⟩) hS (fun q _ h => hFc q h) hFc (fun r u t H1 locs ht hvm hw hB hz1 hk1 hS => ?_)
    obtain rfl := hw
    obtain ⟨hP1, hK1, hD1⟩ := hB
    rw [ht] at hP1
    obtain ⟨hP, hD⟩ := va_join (wr := [(aH, .inr (0, [.ref aD, .ref aR, .ref aHW, .ref aHL, .int (nI (len + 1)), .int (hN + (nm d)), .int hL, .int hG])), (aHL, .inl (cyI, 12, .inl (fun j_ => nI ((updN L len d) j_)))), (aRF, .inl (cyI, 20, .inl (fun j_ => nI (F j_)))), (aRT, .inl (cyI, 20, .inl (fun j_ => nI (T j_)))), (aRU, .inl (cyI, 20, .inl up))]) (w1 := [(aR, .inr (1, [.ref aRF, .ref aRT, .ref aRN, .ref aRL, .ref aRU, .int (nI cnt)])), (aRN, .inl (cyI, 20, .inl nm)), (aRL, .inl (cyI, 20, .inl lo))]) hP hD [2, 5, 6] [0, 1, 3, 4, 7] rfl rfl (by decide) (by decide) hk1 hFc hP1 hD1
    clear hP1 hD1 hK1 hPc hDc hFc hk1 hz1 hvm ht u t
    generalize H1 = H at hP hS ⊢
    have hP : va_P (dC, dI) vwCl [(aH, .inr (0, [.ref aD, .ref aR, .ref aHW, .ref aHL, .int (nI (len + 1)), .int (hN + (nm d)), .int hL, .int hG])), (aHL, .inl (cyI, 12, .inl (fun j_ => nI ((updN L len d) j_)))), (aRF, .inl (cyI, 20, .inl (fun j_ => nI (F j_)))), (aRT, .inl (cyI, 20, .inl (fun j_ => nI (T j_)))), (aRU, .inl (cyI, 20, .inl up)), (aR, .inr (1, [.ref aRF, .ref aRT, .ref aRN, .ref aRL, .ref aRU, .int (nI cnt)])), (aRN, .inl (cyI, 20, .inl nm)), (aRL, .inl (cyI, 20, .inl lo))] H := hP
    have hD : va_D A [(aH, .inr (0, [.ref aD, .ref aR, .ref aHW, .ref aHL, .int (nI (len + 1)), .int (hN + (nm d)), .int hL, .int hG])), (aHL, .inl (cyI, 12, .inl (fun j_ => nI ((updN L len d) j_)))), (aRF, .inl (cyI, 20, .inl (fun j_ => nI (F j_)))), (aRT, .inl (cyI, 20, .inl (fun j_ => nI (T j_)))), (aRU, .inl (cyI, 20, .inl up)), (aR, .inr (1, [.ref aRF, .ref aRT, .ref aRN, .ref aRL, .ref aRU, .int (nI cnt)])), (aRN, .inl (cyI, 20, .inl nm)), (aRL, .inl (cyI, 20, .inl lo))] := hD
    refine lv_iadd hx hb dX0_pass_64 ?_
    refine va_put (D := (dC, dI)) (ci := 0) (v := .int (hL + (nm d + lo d))) (ty := .int) (C := RX0) (T := TX0) (N := 8) hx hb hts iX0 tyX0 tyX0_ok nmX0 hown hK hP hD hS 0 rfl rfl 6 (by decide) w6 (fun _ h9 => h9) rfl (by decide +kernel) rfl rfl (Nat.le_of_ble_eq_true rfl) dX0_pass_65 (fun H locs hP hD hS => ?_)
    have hP : va_P (dC, dI) vwCl [(aH, .inr (0, [.ref aD, .ref aR, .ref aHW, .ref aHL, .int (nI (len + 1)), .int (hN + (nm d)), .int (hL + (nm d + lo d)), .int hG])), (aHL, .inl (cyI, 12, .inl (fun j_ => nI ((updN L len d) j_)))), (aRF, .inl (cyI, 20, .inl (fun j_ => nI (F j_)))), (aRT, .inl (cyI, 20, .inl (fun j_ => nI (T j_)))), (aRU, .inl (cyI, 20, .inl up)), (aR, .inr (1, [.ref aRF, .ref aRT, .ref aRN, .ref aRL, .ref aRU, .int (nI cnt)])), (aRN, .inl (cyI, 20, .inl nm)), (aRL, .inl (cyI, 20, .inl lo))] H := hP
    have hD : va_D A [(aH, .inr (0, [.ref aD, .ref aR, .ref aHW, .ref aHL, .int (nI (len + 1)), .int (hN + (nm d)), .int (hL + (nm d + lo d)), .int hG])), (aHL, .inl (cyI, 12, .inl (fun j_ => nI ((updN L len d) j_)))), (aRF, .inl (cyI, 20, .inl (fun j_ => nI (F j_)))), (aRT, .inl (cyI, 20, .inl (fun j_ => nI (T j_)))), (aRU, .inl (cyI, 20, .inl up)), (aR, .inr (1, [.ref aRF, .ref aRT, .ref aRN, .ref aRL, .ref aRU, .int (nI cnt)])), (aRN, .inl (cyI, 20, .inl nm)), (aRL, .inl (cyI, 20, .inl lo))] := hD
    refine lv_aload_n hx hb dX0_pass_68 rfl (lv_at hl 0 rfl) ?_
    refine lv_dup hx hb dX0_pass_69 rfl ?_
    refine va_get (D := (dC, dI)) (ci := 0) (v := .int hG) (C := RX0) (T := TX0) (N := 8) hx hb hts iX0 hown hK hP 0 rfl rfl 7 (by decide) w7 (fun _ h9 => h9) rfl dX0_pass_70 ?_
    refine lv_aload_n hx hb dX0_pass_73 rfl (lv_at hl 0 rfl) ?_
    refine va_get (D := (dC, dI)) (ci := 0) (v := .ref aR) (C := RX0) (T := TX0) (N := 8) hx hb hts iX0 hown hK hP 0 rfl rfl 1 (by decide) w2 (fun _ h9 => h9) rfl dX0_pass_74 ?_
    refine lv_iload_n hx hb dX0_pass_77 rfl (lv_at hl 1 rfl) ?_
    have g23 : d < 20 := by first | assumption | omega | exact vp_in_nI (by omega) (by omega)
    have hPc := hP.sub (ws' := [(aR, .inr (1, [.ref aRF, .ref aRT, .ref aRN, .ref aRL, .ref aRU, .int (nI cnt)])), (aRN, .inl (cyI, 20, .inl nm)), (aRU, .inl (cyI, 20, .inl up))]) [5, 6, 4] rfl
    have hDc := hD.sub (ws' := [(aR, .inr (1, [.ref aRF, .ref aRT, .ref aRN, .ref aRL, .ref aRU, .int (nI cnt)])), (aRN, .inl (cyI, 20, .inl nm)), (aRU, .inl (cyI, 20, .inl up))]) [5, 6, 4] (by decide) rfl
    have hFc := va_free (wc := [(aR, .inr (1, [.ref aRF, .ref aRT, .ref aRN, .ref aRL, .ref aRU, .int (nI cnt)])), (aRN, .inl (cyI, 20, .inl nm)), (aRU, .inl (cyI, 20, .inl up))]) hD hS hA [5, 6, 4] rfl
    refine va_calli (va_runV (As := [.int (nI d)]) (rest := [.int hG, .ref aH]) ⟨hx, hb, hml, hown, hts⟩ (c_X1_greatestLimit l dC dI cyI cyZ cyJ cyD aR aRF aRT aRN aRL aRU H.size nm up cnt d g23) (cwV 1 hts gX0_pass_X1_greatestLimit rfl rfl rfl (by decide +kernel) ⟨Nat.le_of_ble_eq_true rfl, Nat.le_of_ble_eq_true rfl⟩) ⟨fun a U g mk q => by obtain ⟨q0, q1, qP, qK, qD⟩ := q; exact ⟨q0, q1, qP, va_K.moved (u := U) (U := U.calling g mk a) (Vm.Alike.refl U.vm) qK, qD⟩, va_recv hK hPc (ci := 1) (q0 := 0) rfl rfl, fun U hU hW => ⟨rfl, by rw [hU], by rw [hU]; exact hPc, va_K.moved hW.alike hK, hDc.weaken (fun _ _ _ _ => trivial)⟩⟩ rfl rfl hl.1 rfl (lv_room (Nat.le_of_ble_eq_true rfl)) dX0_pass_78 ⟨Nat.le_of_ble_eq_true rfl, Nat.le_of_ble_eq_true rfl⟩) hS (fun q _ h => hFc q h) hFc (fun r u t H1 locs ht hvm hw hB hz1 hk1 hS => ?_)
    obtain rfl := hw
    obtain ⟨hP1, hK1, hD1⟩ := hB
    rw [ht] at hP1
    obtain ⟨hP, hD⟩ := va_join (wr := [(aH, .inr (0, [.ref aD, .ref aR, .ref aHW, .ref aHL, .int (nI (len + 1)), .int (hN + (nm d)), .int (hL + (nm d + lo d)), .int hG])), (aHL, .inl (cyI, 12, .inl (fun j_ => nI ((updN L len d) j_)))), (aRF, .inl (cyI, 20, .inl (fun j_ => nI (F j_)))), (aRT, .inl (cyI, 20, .inl (fun j_ => nI (T j_)))), (aRL, .inl (cyI, 20, .inl lo))]) (w1 := [(aR, .inr (1, [.ref aRF, .ref aRT, .ref aRN, .ref aRL, .ref aRU, .int (nI cnt)])), (aRN, .inl (cyI, 20, .inl nm)), (aRU, .inl (cyI, 20, .inl up))]) hP hD [5, 6, 4] [0, 1, 2, 3, 7] rfl rfl (by decide) (by decide) hk1 hFc hP1 hD1
    clear hP1 hD1 hK1 hPc hDc hFc hk1 hz1 hvm ht u t
    generalize H1 = H at hP hS ⊢
    have hP : va_P (dC, dI) vwCl [(aH, .inr (0, [.ref aD, .ref aR, .ref aHW, .ref aHL, .int (nI (len + 1)), .int (hN + (nm d)), .int (hL + (nm d + lo d)), .int hG])), (aHL, .inl (cyI, 12, .inl (fun j_ => nI ((updN L len d) j_)))), (aRF, .inl (cyI, 20, .inl (fun j_ => nI (F j_)))), (aRT, .inl (cyI, 20, .inl (fun j_ => nI (T j_)))), (aRL, .inl (cyI, 20, .inl lo)), (aR, .inr (1, [.ref aRF, .ref aRT, .ref aRN, .ref aRL, .ref aRU, .int (nI cnt)])), (aRN, .inl (cyI, 20, .inl nm)), (aRU, .inl (cyI, 20, .inl up))] H := hP
    have hD : va_D A [(aH, .inr (0, [.ref aD, .ref aR, .ref aHW, .ref aHL, .int (nI (len + 1)), .int (hN + (nm d)), .int (hL + (nm d + lo d)), .int hG])), (aHL, .inl (cyI, 12, .inl (fun j_ => nI ((updN L len d) j_)))), (aRF, .inl (cyI, 20, .inl (fun j_ => nI (F j_)))), (aRT, .inl (cyI, 20, .inl (fun j_ => nI (T j_)))), (aRL, .inl (cyI, 20, .inl lo)), (aR, .inr (1, [.ref aRF, .ref aRT, .ref aRN, .ref aRL, .ref aRU, .int (nI cnt)])), (aRN, .inl (cyI, 20, .inl nm)), (aRU, .inl (cyI, 20, .inl up))] := hD
    refine lv_iadd hx hb dX0_pass_81 ?_
    refine va_put (D := (dC, dI)) (ci := 0) (v := .int (hG + (nm d + up d))) (ty := .int) (C := RX0) (T := TX0) (N := 8) hx hb hts iX0 tyX0 tyX0_ok nmX0 hown hK hP hD hS 0 rfl rfl 7 (by decide) w7 (fun _ h9 => h9) rfl (by decide +kernel) rfl rfl (Nat.le_of_ble_eq_true rfl) dX0_pass_82 (fun H locs hP hD hS => ?_)
    have hP : va_P (dC, dI) vwCl [(aH, .inr (0, [.ref aD, .ref aR, .ref aHW, .ref aHL, .int (nI (len + 1)), .int (hN + (nm d)), .int (hL + (nm d + lo d)), .int (hG + (nm d + up d))])), (aHL, .inl (cyI, 12, .inl (fun j_ => nI ((updN L len d) j_)))), (aRF, .inl (cyI, 20, .inl (fun j_ => nI (F j_)))), (aRT, .inl (cyI, 20, .inl (fun j_ => nI (T j_)))), (aRL, .inl (cyI, 20, .inl lo)), (aR, .inr (1, [.ref aRF, .ref aRT, .ref aRN, .ref aRL, .ref aRU, .int (nI cnt)])), (aRN, .inl (cyI, 20, .inl nm)), (aRU, .inl (cyI, 20, .inl up))] H := hP
    have hD : va_D A [(aH, .inr (0, [.ref aD, .ref aR, .ref aHW, .ref aHL, .int (nI (len + 1)), .int (hN + (nm d)), .int (hL + (nm d + lo d)), .int (hG + (nm d + up d))])), (aHL, .inl (cyI, 12, .inl (fun j_ => nI ((updN L len d) j_)))), (aRF, .inl (cyI, 20, .inl (fun j_ => nI (F j_)))), (aRT, .inl (cyI, 20, .inl (fun j_ => nI (T j_)))), (aRL, .inl (cyI, 20, .inl lo)), (aR, .inr (1, [.ref aRF, .ref aRT, .ref aRN, .ref aRL, .ref aRU, .int (nI cnt)])), (aRN, .inl (cyI, 20, .inl nm)), (aRU, .inl (cyI, 20, .inl up))] := hD
    refine lv_aload_n hx hb dX0_pass_85 rfl (lv_at hl 0 rfl) ?_
    refine va_get (D := (dC, dI)) (ci := 0) (v := .ref aR) (C := RX0) (T := TX0) (N := 8) hx hb hts iX0 hown hK hP 0 rfl rfl 1 (by decide) w2 (fun _ h9 => h9) rfl dX0_pass_86 ?_
    refine va_get (D := (dC, dI)) (ci := 1) (v := .ref aRT) (C := RX1) (T := TX1) (N := 6) hx hb hts iX1 hown hK hP 5 rfl rfl 1 (by decide) w8 (fun _ h9 => h9) rfl dX0_pass_89 ?_
    refine lv_iload_n hx hb dX0_pass_92 rfl (lv_at hl 1 rfl) ?_
    have h24 : vp_in (nI d) 20 := by first | exact vp_in_nI (by omega) (by omega) | assumption
    refine va_iald hx hb hK hP 3 0 rfl rfl h24 dX0_pass_93 ?_
    refine lv_topi (fun x25 e26 => ?_)
    obtain rfl : x25 = (nI (T d)) := by rw [e26, nI_clamp (by omega)]
    clear e26
    have r27 : (nI (T d)) = (nI (if F d = f then T d else F d)) := by first | rfl | rw [if_pos c30] | rw [if_neg c30]
    have q28 : (if F d = f then hN + nm d else hN - nm d) = (hN + (nm d)) := by first | rfl | rw [if_pos c30] | rw [if_neg c30]
    have q29 : (if F d = f then hL + (nm d + lo d) else hL - (nm d + up d)) = (hL + (nm d + lo d)) := by first | rfl | rw [if_pos c30] | rw [if_neg c30]
    have q30 : (if F d = f then hG + (nm d + up d) else hG - (nm d + lo d)) = (hG + (nm d + up d)) := by first | rfl | rw [if_pos c30] | rw [if_neg c30]
    have hP9 : va_P (dC, dI) vwCl [(aH, .inr (0, [.ref aD, .ref aR, .ref aHW, .ref aHL, .int (nI (len + 1)), .int (if F d = f then hN + nm d else hN - nm d), .int (if F d = f then hL + (nm d + lo d) else hL - (nm d + up d)), .int (if F d = f then hG + (nm d + up d) else hG - (nm d + lo d))])), (aHL, .inl (cyI, 12, .inl (fun j_ => nI ((updN L len d) j_)))), (aR, .inr (1, [.ref aRF, .ref aRT, .ref aRN, .ref aRL, .ref aRU, .int (nI cnt)])), (aRF, .inl (cyI, 20, .inl (fun j_ => nI (F j_)))), (aRT, .inl (cyI, 20, .inl (fun j_ => nI (T j_)))), (aRN, .inl (cyI, 20, .inl nm)), (aRL, .inl (cyI, 20, .inl lo)), (aRU, .inl (cyI, 20, .inl up))] H := by first | (rw [q28, q29, q30]; exact hP.sub [0, 1, 5, 2, 3, 6, 4, 7] rfl) | (simp only [q28, q29, q30]; exact hP.sub [0, 1, 5, 2, 3, 6, 4, 7] rfl) | exact hP.sub [0, 1, 5, 2, 3, 6, 4, 7] rfl
    have hD9 : va_D A [(aH, .inr (0, [.ref aD, .ref aR, .ref aHW, .ref aHL, .int (nI (len + 1)), .int (if F d = f then hN + nm d else hN - nm d), .int (if F d = f then hL + (nm d + lo d) else hL - (nm d + up d)), .int (if F d = f then hG + (nm d + up d) else hG - (nm d + lo d))])), (aHL, .inl (cyI, 12, .inl (fun j_ => nI ((updN L len d) j_)))), (aR, .inr (1, [.ref aRF, .ref aRT, .ref aRN, .ref aRL, .ref aRU, .int (nI cnt)])), (aRF, .inl (cyI, 20, .inl (fun j_ => nI (F j_)))), (aRT, .inl (cyI, 20, .inl (fun j_ => nI (T j_)))), (aRN, .inl (cyI, 20, .inl nm)), (aRL, .inl (cyI, 20, .inl lo)), (aRU, .inl (cyI, 20, .inl up))] := by first | (rw [q28, q29, q30]; exact hD.sub [0, 1, 5, 2, 3, 6, 4, 7] (by decide) rfl) | (simp only [q28, q29, q30]; exact hD.sub [0, 1, 5, 2, 3, 6, 4, 7] (by decide) rfl) | exact hD.sub [0, 1, 5, 2, 3, 6, 4, 7] (by decide) rfl
    subst hAe
    subst hQe
    exact W.iret (v := nI (T d)) hx hb hr (fun t ht hW => ⟨⟨_, (), rfl, r27, by rw [ht]; exact hP9, va_K.moved hW.alike hK, hD9⟩, hS.F ht⟩) hS.2.2 dX0_pass_94
set_option maxHeartbeats 4000000 in
set_option maxRecDepth 100000 in
theorem c_X0_find (l : Launch) (dC : Nat → ClassId) (dI : Nat → Nat → Nat) (cyI cyZ cyJ cyD : ClassId) (aH aD aR aHW aHL aDL aDD aRF aRT aRN aRL aRU : Nat) (zH : Nat) (len : Nat) (hN : Int32) (hL : Int32) (hG : Int32) (n : Nat) (dd : Nat → Bool) (F : Nat → Nat) (T : Nat → Nat) (nm : Nat → Int32) (lo : Nat → Int32) (up : Nat → Int32) (cnt : Nat) (wy : Nat → Int32) (L : Nat → Nat) (a : Nat) (b : Nat) (hn : n ≤ 12) (hc : cnt ≤ 20) (hF : ∀ d_q, d_q < cnt → F d_q < n) (hT : ∀ d_q, d_q < cnt → T d_q < n) (ha : a < n) (hb0 : b < n) : Met l yX0_find wsX0_find ({ frames := 2, cells := 0, slots := 0, locals := 49 } : Room) (va_Pc [.ref aH, .int (nI a), .int (nI b)] (fun U => U.heap.size = zH ∧ va_P (dC, dI) vwCl [(aH, .inr (0, [.ref aD, .ref aR, .ref aHW, .ref aHL, .int (nI len), .int hN, .int hL, .int hG])), (aD, .inr (2, [.ref aR, .ref aDL, .ref aDD, .int (nI n)])), (aDD, .inl (cyZ, 20, .inl (fun j_ => bI (dd j_)))), (aR, .inr (1, [.ref aRF, .ref aRT, .ref aRN, .ref aRL, .ref aRU, .int (nI cnt)])), (aRF, .inl (cyI, 20, .inl (fun j_ => nI (F j_)))), (aRT, .inl (cyI, 20, .inl (fun j_ => nI (T j_)))), (aRN, .inl (cyI, 20, .inl nm)), (aRL, .inl (cyI, 20, .inl lo)), (aRU, .inl (cyI, 20, .inl up)), (aHW, .inl (cyI, 12, .inl wy)), (aHL, .inl (cyI, 12, .inl (fun j_ => nI (L j_))))] U.heap ∧ va_K (dC, dI) vwCl [(cyI, .int), (cyZ, .boolean), (cyJ, .long), (cyD, .double)] U ∧ va_D (fun _ => True) [(aH, .inr (0, [.ref aD, .ref aR, .ref aHW, .ref aHL, .int (nI len), .int hN, .int hL, .int hG])), (aD, .inr (2, [.ref aR, .ref aDL, .ref aDD, .int (nI n)])), (aDD, .inl (cyZ, 20, .inl (fun j_ => bI (dd j_)))), (aR, .inr (1, [.ref aRF, .ref aRT, .ref aRN, .ref aRL, .ref aRU, .int (nI cnt)])), (aRF, .inl (cyI, 20, .inl (fun j_ => nI (F j_)))), (aRT, .inl (cyI, 20, .inl (fun j_ => nI (T j_)))), (aRN, .inl (cyI, 20, .inl nm)), (aRL, .inl (cyI, 20, .inl lo)), (aRU, .inl (cyI, 20, .inl up)), (aHW, .inl (cyI, 12, .inl wy)), (aHL, .inl (cyI, 12, .inl (fun j_ => nI (L j_))))])) (va_Qi (fun (r : Int32) (_ : Unit) => r = bI (decide (cf F T (oW F T dd n cnt b) a (fK F T (oW F T dd n cnt b) n a b) = b))) (fun _ t => ∃ (wy2 : Nat → Int32), ∃ (L2 : Nat → Nat), (∀ k_q, k_q < (fK F T (oW F T dd n cnt b) n a b) → L2 k_q = ((oW F T dd n cnt b) (cf F T (oW F T dd n cnt b) a k_q)).toNatClampNeg) ∧ va_P (dC, dI) vwCl [(aH, .inr (0, [.ref aD, .ref aR, .ref aHW, .ref aHL, .int (nI (fK F T (oW F T dd n cnt b) n a b)), .int (gN F T nm (oW F T dd n cnt b) a (fK F T (oW F T dd n cnt b) n a b)), .int (gL F T nm lo up (oW F T dd n cnt b) a (fK F T (oW F T dd n cnt b) n a b)), .int (gG F T nm lo up (oW F T dd n cnt b) a (fK F T (oW F T dd n cnt b) n a b))])), (aD, .inr (2, [.ref aR, .ref aDL, .ref aDD, .int (nI n)])), (aDD, .inl (cyZ, 20, .inl (fun j_ => bI (dd j_)))), (aR, .inr (1, [.ref aRF, .ref aRT, .ref aRN, .ref aRL, .ref aRU, .int (nI cnt)])), (aRF, .inl (cyI, 20, .inl (fun j_ => nI (F j_)))), (aRT, .inl (cyI, 20, .inl (fun j_ => nI (T j_)))), (aRN, .inl (cyI, 20, .inl nm)), (aRL, .inl (cyI, 20, .inl lo)), (aRU, .inl (cyI, 20, .inl up)), (aHW, .inl (cyI, 12, .inl wy2)), (aHL, .inl (cyI, 12, .inl (fun j_ => nI (L2 j_))))] t.heap ∧ va_K (dC, dI) vwCl [(cyI, .int), (cyZ, .boolean), (cyJ, .long), (cyD, .double)] t ∧ va_D (va_A [(aH, .inr (0, [.ref aD, .ref aR, .ref aHW, .ref aHL, .int (nI len), .int hN, .int hL, .int hG])), (aD, .inr (2, [.ref aR, .ref aDL, .ref aDD, .int (nI n)])), (aDD, .inl (cyZ, 20, .inl (fun j_ => bI (dd j_)))), (aR, .inr (1, [.ref aRF, .ref aRT, .ref aRN, .ref aRL, .ref aRU, .int (nI cnt)])), (aRF, .inl (cyI, 20, .inl (fun j_ => nI (F j_)))), (aRT, .inl (cyI, 20, .inl (fun j_ => nI (T j_)))), (aRN, .inl (cyI, 20, .inl nm)), (aRL, .inl (cyI, 20, .inl lo)), (aRU, .inl (cyI, 20, .inl up)), (aHW, .inl (cyI, 12, .inl wy)), (aHL, .inl (cyI, 12, .inl (fun j_ => nI (L j_))))] zH) [(aH, .inr (0, [.ref aD, .ref aR, .ref aHW, .ref aHL, .int (nI (fK F T (oW F T dd n cnt b) n a b)), .int (gN F T nm (oW F T dd n cnt b) a (fK F T (oW F T dd n cnt b) n a b)), .int (gL F T nm lo up (oW F T dd n cnt b) a (fK F T (oW F T dd n cnt b) n a b)), .int (gG F T nm lo up (oW F T dd n cnt b) a (fK F T (oW F T dd n cnt b) n a b))])), (aD, .inr (2, [.ref aR, .ref aDL, .ref aDD, .int (nI n)])), (aDD, .inl (cyZ, 20, .inl (fun j_ => bI (dd j_)))), (aR, .inr (1, [.ref aRF, .ref aRT, .ref aRN, .ref aRL, .ref aRU, .int (nI cnt)])), (aRF, .inl (cyI, 20, .inl (fun j_ => nI (F j_)))), (aRT, .inl (cyI, 20, .inl (fun j_ => nI (T j_)))), (aRN, .inl (cyI, 20, .inl nm)), (aRL, .inl (cyI, 20, .inl lo)), (aRU, .inl (cyI, 20, .inl up)), (aHW, .inl (cyI, 12, .inl wy2)), (aHL, .inl (cyI, 12, .inl (fun j_ => nI (L2 j_))))]) (va_A [(aH, .inr (0, [.ref aD, .ref aR, .ref aHW, .ref aHL, .int (nI len), .int hN, .int hL, .int hG])), (aD, .inr (2, [.ref aR, .ref aDL, .ref aDD, .int (nI n)])), (aDD, .inl (cyZ, 20, .inl (fun j_ => bI (dd j_)))), (aR, .inr (1, [.ref aRF, .ref aRT, .ref aRN, .ref aRL, .ref aRU, .int (nI cnt)])), (aRF, .inl (cyI, 20, .inl (fun j_ => nI (F j_)))), (aRT, .inl (cyI, 20, .inl (fun j_ => nI (T j_)))), (aRN, .inl (cyI, 20, .inl nm)), (aRL, .inl (cyI, 20, .inl lo)), (aRU, .inl (cyI, 20, .inl up)), (aHW, .inl (cyI, 12, .inl wy)), (aHL, .inl (cyI, 12, .inl (fun j_ => nI (L j_))))] zH)) 0 0 (va_A [(aH, .inr (0, [.ref aD, .ref aR, .ref aHW, .ref aHL, .int (nI len), .int hN, .int hL, .int hG])), (aD, .inr (2, [.ref aR, .ref aDL, .ref aDD, .int (nI n)])), (aDD, .inl (cyZ, 20, .inl (fun j_ => bI (dd j_)))), (aR, .inr (1, [.ref aRF, .ref aRT, .ref aRN, .ref aRL, .ref aRU, .int (nI cnt)])), (aRF, .inl (cyI, 20, .inl (fun j_ => nI (F j_)))), (aRT, .inl (cyI, 20, .inl (fun j_ => nI (T j_)))), (aRN, .inl (cyI, 20, .inl nm)), (aRL, .inl (cyI, 20, .inl lo)), (aRU, .inl (cyI, 20, .inl up)), (aHW, .inl (cyI, 12, .inl wy)), (aHL, .inl (cyI, 12, .inl (fun j_ => nI (L j_))))] zH) := by
  refine Met.ofW (cc := cX0_find) (maxL := 5) (ret := (some .boolean)) (by decide) rfl ?_
  intro pM eM s mM args blM mtM cM s₁ BM hml hv
  obtain ⟨rfl, hsz, hP, hK, hD0⟩ := hv
  have hx := BM.exec
  have hb := BM.bytes
  have hr := BM.returns
  have hts := atoms_spec (ws := wsX0_find) BM.pre
  have hown : s.vm.findClass RX0 = some mM.cls := findClass_of_methodNamed BM.named
  have hlocks := BM.notSynchronized
  have w0 := hts (.fieldLink RX0 18 "DimensionChecker$Chain" "length" "I") (by decide +kernel)
  have w1 := hts (.fieldLink RX0 22 "DimensionChecker$Chain" "nominal" "I") (by decide +kernel)
  have w2 := hts (.fieldLink RX0 25 "DimensionChecker$Chain" "least" "I") (by decide +kernel)
  have w3 := hts (.fieldLink RX0 28 "DimensionChecker$Chain" "greatest" "I") (by decide +kernel)
  have w4 := hts (.fieldLink RX0 31 "DimensionChecker$Chain" "drawing" "LDimensionChecker$Drawing;") (by decide +kernel)
  have w5 := hts (.fieldLink RX0 46 "DimensionChecker$Drawing" "faces" "I") (by decide +kernel)
  have w6 := hts (.fieldLink RX0 9 "DimensionChecker$Chain" "wayOn" "[I") (by decide +kernel)
  have iX0 : ∀ w ∈ wsX00, w ∈ wsX0_find := by decide +kernel
  have iX2 : ∀ w ∈ wsX20, w ∈ wsX0_find := by decide +kernel
  subst hsz
  have hD := hD0.self (sz := s.heap.size)
  obtain ⟨Q, hQe⟩ : ∃ Q : State → Prop, Q = MQ blM (va_Qi (fun (r : Int32) (_ : Unit) => r = bI (decide (cf F T (oW F T dd n cnt b) a (fK F T (oW F T dd n cnt b) n a b) = b))) (fun _ t => ∃ (wy2 : Nat → Int32), ∃ (L2 : Nat → Nat), (∀ k_q, k_q < (fK F T (oW F T dd n cnt b) n a b) → L2 k_q = ((oW F T dd n cnt b) (cf F T (oW F T dd n cnt b) a k_q)).toNatClampNeg) ∧ va_P (dC, dI) vwCl [(aH, .inr (0, [.ref aD, .ref aR, .ref aHW, .ref aHL, .int (nI (fK F T (oW F T dd n cnt b) n a b)), .int (gN F T nm (oW F T dd n cnt b) a (fK F T (oW F T dd n cnt b) n a b)), .int (gL F T nm lo up (oW F T dd n cnt b) a (fK F T (oW F T dd n cnt b) n a b)), .int (gG F T nm lo up (oW F T dd n cnt b) a (fK F T (oW F T dd n cnt b) n a b))])), (aD, .inr (2, [.ref aR, .ref aDL, .ref aDD, .int (nI n)])), (aDD, .inl (cyZ, 20, .inl (fun j_ => bI (dd j_)))), (aR, .inr (1, [.ref aRF, .ref aRT, .ref aRN, .ref aRL, .ref aRU, .int (nI cnt)])), (aRF, .inl (cyI, 20, .inl (fun j_ => nI (F j_)))), (aRT, .inl (cyI, 20, .inl (fun j_ => nI (T j_)))), (aRN, .inl (cyI, 20, .inl nm)), (aRL, .inl (cyI, 20, .inl lo)), (aRU, .inl (cyI, 20, .inl up)), (aHW, .inl (cyI, 12, .inl wy2)), (aHL, .inl (cyI, 12, .inl (fun j_ => nI (L2 j_))))] t.heap ∧ va_K (dC, dI) vwCl [(cyI, .int), (cyZ, .boolean), (cyJ, .long), (cyD, .double)] t ∧ va_D (va_A [(aH, .inr (0, [.ref aD, .ref aR, .ref aHW, .ref aHL, .int (nI len), .int hN, .int hL, .int hG])), (aD, .inr (2, [.ref aR, .ref aDL, .ref aDD, .int (nI n)])), (aDD, .inl (cyZ, 20, .inl (fun j_ => bI (dd j_)))), (aR, .inr (1, [.ref aRF, .ref aRT, .ref aRN, .ref aRL, .ref aRU, .int (nI cnt)])), (aRF, .inl (cyI, 20, .inl (fun j_ => nI (F j_)))), (aRT, .inl (cyI, 20, .inl (fun j_ => nI (T j_)))), (aRN, .inl (cyI, 20, .inl nm)), (aRL, .inl (cyI, 20, .inl lo)), (aRU, .inl (cyI, 20, .inl up)), (aHW, .inl (cyI, 12, .inl wy)), (aHL, .inl (cyI, 12, .inl (fun j_ => nI (L j_))))] s.heap.size) [(aH, .inr (0, [.ref aD, .ref aR, .ref aHW, .ref aHL, .int (nI (fK F T (oW F T dd n cnt b) n a b)), .int (gN F T nm (oW F T dd n cnt b) a (fK F T (oW F T dd n cnt b) n a b)), .int (gL F T nm lo up (oW F T dd n cnt b) a (fK F T (oW F T dd n cnt b) n a b)), .int (gG F T nm lo up (oW F T dd n cnt b) a (fK F T (oW F T dd n cnt b) n a b))])), (aD, .inr (2, [.ref aR, .ref aDL, .ref aDD, .int (nI n)])), (aDD, .inl (cyZ, 20, .inl (fun j_ => bI (dd j_)))), (aR, .inr (1, [.ref aRF, .ref aRT, .ref aRN, .ref aRL, .ref aRU, .int (nI cnt)])), (aRF, .inl (cyI, 20, .inl (fun j_ => nI (F j_)))), (aRT, .inl (cyI, 20, .inl (fun j_ => nI (T j_)))), (aRN, .inl (cyI, 20, .inl nm)), (aRL, .inl (cyI, 20, .inl lo)), (aRU, .inl (cyI, 20, .inl up)), (aHW, .inl (cyI, 12, .inl wy2)), (aHL, .inl (cyI, 12, .inl (fun j_ => nI (L2 j_))))]) (va_A [(aH, .inr (0, [.ref aD, .ref aR, .ref aHW, .ref aHL, .int (nI len), .int hN, .int hL, .int hG])), (aD, .inr (2, [.ref aR, .ref aDL, .ref aDD, .int (nI n)])), (aDD, .inl (cyZ, 20, .inl (fun j_ => bI (dd j_)))), (aR, .inr (1, [.ref aRF, .ref aRT, .ref aRN, .ref aRL, .ref aRU, .int (nI cnt)])), (aRF, .inl (cyI, 20, .inl (fun j_ => nI (F j_)))), (aRT, .inl (cyI, 20, .inl (fun j_ => nI (T j_)))), (aRN, .inl (cyI, 20, .inl nm)), (aRL, .inl (cyI, 20, .inl lo)), (aRU, .inl (cyI, 20, .inl up)), (aHW, .inl (cyI, 12, .inl wy)), (aHL, .inl (cyI, 12, .inl (fun j_ => nI (L j_))))] s.heap.size)) ([.ref aH, .int (nI a), .int (nI b)] : List Value).toArray s 0 0 (va_A [(aH, .inr (0, [.ref aD, .ref aR, .ref aHW, .ref aHL, .int (nI len), .int hN, .int hL, .int hG])), (aD, .inr (2, [.ref aR, .ref aDL, .ref aDD, .int (nI n)])), (aDD, .inl (cyZ, 20, .inl (fun j_ => bI (dd j_)))), (aR, .inr (1, [.ref aRF, .ref aRT, .ref aRN, .ref aRL, .ref aRU, .int (nI cnt)])), (aRF, .inl (cyI, 20, .inl (fun j_ => nI (F j_)))), (aRT, .inl (cyI, 20, .inl (fun j_ => nI (T j_)))), (aRN, .inl (cyI, 20, .inl nm)), (aRL, .inl (cyI, 20, .inl lo)), (aRU, .inl (cyI, 20, .inl up)), (aHW, .inl (cyI, 12, .inl wy)), (aHL, .inl (cyI, 12, .inl (fun j_ => nI (L j_))))] s.heap.size) := ⟨_, rfl⟩
  rw [← hQe]
  generalize hAe : va_A [(aH, .inr (0, [.ref aD, .ref aR, .ref aHW, .ref aHL, .int (nI len), .int hN, .int hL, .int hG])), (aD, .inr (2, [.ref aR, .ref aDL, .ref aDD, .int (nI n)])), (aDD, .inl (cyZ, 20, .inl (fun j_ => bI (dd j_)))), (aR, .inr (1, [.ref aRF, .ref aRT, .ref aRN, .ref aRL, .ref aRU, .int (nI cnt)])), (aRF, .inl (cyI, 20, .inl (fun j_ => nI (F j_)))), (aRT, .inl (cyI, 20, .inl (fun j_ => nI (T j_)))), (aRN, .inl (cyI, 20, .inl nm)), (aRL, .inl (cyI, 20, .inl lo)), (aRU, .inl (cyI, 20, .inl up)), (aHW, .inl (cyI, 12, .inl wy)), (aHL, .inl (cyI, 12, .inl (fun j_ => nI (L j_))))] s.heap.size = A at hD hQe
  have hA : ∀ q : Nat, s.heap.size ≤ q → A q := fun q h => by rw [← hAe]; exact Or.inr h
  obtain ⟨H, hHe⟩ : ∃ H : Heap, H = s.heap := ⟨_, rfl⟩
  have hS : va_S A s.heap H [] := by rw [hHe]; exact va_S.rf
  rw [← hHe] at hP ⊢
  have hl := lv_entry ([.ref aH, .int (nI a), .int (nI b)]) (n := 5) (Nat.le_of_ble_eq_true rfl)
  rw [lg_entry_eq]
  generalize (lg_sl ([.ref aH, .int (nI a), .int (nI b)]) ++ List.replicate (5 - (lg_sl ([.ref aH, .int (nI a), .int (nI b)])).length) Slot.unset).toArray = ls at hl ⊢
  have hl : lv_has ls 5 [(0, .ref aH), (1, .int (nI a)), (2, .int (nI b))] := hl
  have hag := fW_agree (F := F) (T := T) (dd := dd) (n := n) (cnt := cnt) (b := b) (W := wy) (fun d h => Nat.lt_of_lt_of_le (hF d h) hn) (fun d h => Nat.lt_of_lt_of_le (hT d h) hn)
  refine lv_aload_n hx hb dX0_find_0 rfl (lv_at hl 0 rfl) ?_
  refine lv_iconst (v := 0) hx hb dX0_find_1 (by decide) ?_
  refine va_put (D := (dC, dI)) (ci := 0) (v := .int 0) (ty := .int) (C := RX0) (T := TX0) (N := 8) hx hb hts iX0 tyX0 tyX0_ok nmX0 hown hK hP hD hS 0 rfl rfl 4 (by decide) w0 (fun _ h9 => h9) rfl (by decide +kernel) rfl rfl (Nat.le_of_ble_eq_true rfl) dX0_find_2 (fun H locs hP hD hS => ?_)
  have hP : va_P (dC, dI) vwCl [(aH, .inr (0, [.ref aD, .ref aR, .ref aHW, .ref aHL, .int 0, .int hN, .int hL, .int hG])), (aD, .inr (2, [.ref aR, .ref aDL, .ref aDD, .int (nI n)])), (aDD, .inl (cyZ, 20, .inl (fun j_ => bI (dd j_)))), (aR, .inr (1, [.ref aRF, .ref aRT, .ref aRN, .ref aRL, .ref aRU, .int (nI cnt)])), (aRF, .inl (cyI, 20, .inl (fun j_ => nI (F j_)))), (aRT, .inl (cyI, 20, .inl (fun j_ => nI (T j_)))), (aRN, .inl (cyI, 20, .inl nm)), (aRL, .inl (cyI, 20, .inl lo)), (aRU, .inl (cyI, 20, .inl up)), (aHW, .inl (cyI, 12, .inl wy)), (aHL, .inl (cyI, 12, .inl (fun j_ => nI (L j_))))] H := hP
  have hD : va_D A [(aH, .inr (0, [.ref aD, .ref aR, .ref aHW, .ref aHL, .int 0, .int hN, .int hL, .int hG])), (aD, .inr (2, [.ref aR, .ref aDL, .ref aDD, .int (nI n)])), (aDD, .inl (cyZ, 20, .inl (fun j_ => bI (dd j_)))), (aR, .inr (1, [.ref aRF, .ref aRT, .ref aRN, .ref aRL, .ref aRU, .int (nI cnt)])), (aRF, .inl (cyI, 20, .inl (fun j_ => nI (F j_)))), (aRT, .inl (cyI, 20, .inl (fun j_ => nI (T j_)))), (aRN, .inl (cyI, 20, .inl nm)), (aRL, .inl (cyI, 20, .inl lo)), (aRU, .inl (cyI, 20, .inl up)), (aHW, .inl (cyI, 12, .inl wy)), (aHL, .inl (cyI, 12, .inl (fun j_ => nI (L j_))))] := hD
  refine lv_aload_n hx hb dX0_find_5 rfl (lv_at hl 0 rfl) ?_
  refine lv_iconst (v := 0) hx hb dX0_find_6 (by decide) ?_
  refine va_put (D := (dC, dI)) (ci := 0) (v := .int 0) (ty := .int) (C := RX0) (T := TX0) (N := 8) hx hb hts iX0 tyX0 tyX0_ok nmX0 hown hK hP hD hS 0 rfl rfl 5 (by decide) w1 (fun _ h9 => h9) rfl (by decide +kernel) rfl rfl (Nat.le_of_ble_eq_true rfl) dX0_find_7 (fun H locs hP hD hS => ?_)
  have hP : va_P (dC, dI) vwCl [(aH, .inr (0, [.ref aD, .ref aR, .ref aHW, .ref aHL, .int 0, .int 0, .int hL, .int hG])), (aD, .inr (2, [.ref aR, .ref aDL, .ref aDD, .int (nI n)])), (aDD, .inl (cyZ, 20, .inl (fun j_ => bI (dd j_)))), (aR, .inr (1, [.ref aRF, .ref aRT, .ref aRN, .ref aRL, .ref aRU, .int (nI cnt)])), (aRF, .inl (cyI, 20, .inl (fun j_ => nI (F j_)))), (aRT, .inl (cyI, 20, .inl (fun j_ => nI (T j_)))), (aRN, .inl (cyI, 20, .inl nm)), (aRL, .inl (cyI, 20, .inl lo)), (aRU, .inl (cyI, 20, .inl up)), (aHW, .inl (cyI, 12, .inl wy)), (aHL, .inl (cyI, 12, .inl (fun j_ => nI (L j_))))] H := hP
  have hD : va_D A [(aH, .inr (0, [.ref aD, .ref aR, .ref aHW, .ref aHL, .int 0, .int 0, .int hL, .int hG])), (aD, .inr (2, [.ref aR, .ref aDL, .ref aDD, .int (nI n)])), (aDD, .inl (cyZ, 20, .inl (fun j_ => bI (dd j_)))), (aR, .inr (1, [.ref aRF, .ref aRT, .ref aRN, .ref aRL, .ref aRU, .int (nI cnt)])), (aRF, .inl (cyI, 20, .inl (fun j_ => nI (F j_)))), (aRT, .inl (cyI, 20, .inl (fun j_ => nI (T j_)))), (aRN, .inl (cyI, 20, .inl nm)), (aRL, .inl (cyI, 20, .inl lo)), (aRU, .inl (cyI, 20, .inl up)), (aHW, .inl (cyI, 12, .inl wy)), (aHL, .inl (cyI, 12, .inl (fun j_ => nI (L j_))))] := hD
  refine lv_aload_n hx hb dX0_find_10 rfl (lv_at hl 0 rfl) ?_
  refine lv_iconst (v := 0) hx hb dX0_find_11 (by decide) ?_
  refine va_put (D := (dC, dI)) (ci := 0) (v := .int 0) (ty := .int) (C := RX0) (T := TX0) (N := 8) hx hb hts iX0 tyX0 tyX0_ok nmX0 hown hK hP hD hS 0 rfl rfl 6 (by decide) w2 (fun _ h9 => h9) rfl (by decide +kernel) rfl rfl (Nat.le_of_ble_eq_true rfl) dX0_find_12 (fun H locs hP hD hS => ?_)
  have hP : va_P (dC, dI) vwCl [(aH, .inr (0, [.ref aD, .ref aR, .ref aHW, .ref aHL, .int 0, .int 0, .int 0, .int hG])), (aD, .inr (2, [.ref aR, .ref aDL, .ref aDD, .int (nI n)])), (aDD, .inl (cyZ, 20, .inl (fun j_ => bI (dd j_)))), (aR, .inr (1, [.ref aRF, .ref aRT, .ref aRN, .ref aRL, .ref aRU, .int (nI cnt)])), (aRF, .inl (cyI, 20, .inl (fun j_ => nI (F j_)))), (aRT, .inl (cyI, 20, .inl (fun j_ => nI (T j_)))), (aRN, .inl (cyI, 20, .inl nm)), (aRL, .inl (cyI, 20, .inl lo)), (aRU, .inl (cyI, 20, .inl up)), (aHW, .inl (cyI, 12, .inl wy)), (aHL, .inl (cyI, 12, .inl (fun j_ => nI (L j_))))] H := hP
  have hD : va_D A [(aH, .inr (0, [.ref aD, .ref aR, .ref aHW, .ref aHL, .int 0, .int 0, .int 0, .int hG])), (aD, .inr (2, [.ref aR, .ref aDL, .ref aDD, .int (nI n)])), (aDD, .inl (cyZ, 20, .inl (fun j_ => bI (dd j_)))), (aR, .inr (1, [.ref aRF, .ref aRT, .ref aRN, .ref aRL, .ref aRU, .int (nI cnt)])), (aRF, .inl (cyI, 20, .inl (fun j_ => nI (F j_)))), (aRT, .inl (cyI, 20, .inl (fun j_ => nI (T j_)))), (aRN, .inl (cyI, 20, .inl nm)), (aRL, .inl (cyI, 20, .inl lo)), (aRU, .inl (cyI, 20, .inl up)), (aHW, .inl (cyI, 12, .inl wy)), (aHL, .inl (cyI, 12, .inl (fun j_ => nI (L j_))))] := hD
  refine lv_aload_n hx hb dX0_find_15 rfl (lv_at hl 0 rfl) ?_
  refine lv_iconst (v := 0) hx hb dX0_find_16 (by decide) ?_
  refine va_put (D := (dC, dI)) (ci := 0) (v := .int 0) (ty := .int) (C := RX0) (T := TX0) (N := 8) hx hb hts iX0 tyX0 tyX0_ok nmX0 hown hK hP hD hS 0 rfl rfl 7 (by decide) w3 (fun _ h9 => h9) rfl (by decide +kernel) rfl rfl (Nat.le_of_ble_eq_true rfl) dX0_find_17 (fun H locs hP hD hS => ?_)
  have hP : va_P (dC, dI) vwCl [(aH, .inr (0, [.ref aD, .ref aR, .ref aHW, .ref aHL, .int 0, .int 0, .int 0, .int 0])), (aD, .inr (2, [.ref aR, .ref aDL, .ref aDD, .int (nI n)])), (aDD, .inl (cyZ, 20, .inl (fun j_ => bI (dd j_)))), (aR, .inr (1, [.ref aRF, .ref aRT, .ref aRN, .ref aRL, .ref aRU, .int (nI cnt)])), (aRF, .inl (cyI, 20, .inl (fun j_ => nI (F j_)))), (aRT, .inl (cyI, 20, .inl (fun j_ => nI (T j_)))), (aRN, .inl (cyI, 20, .inl nm)), (aRL, .inl (cyI, 20, .inl lo)), (aRU, .inl (cyI, 20, .inl up)), (aHW, .inl (cyI, 12, .inl wy)), (aHL, .inl (cyI, 12, .inl (fun j_ => nI (L j_))))] H := hP
  have hD : va_D A [(aH, .inr (0, [.ref aD, .ref aR, .ref aHW, .ref aHL, .int 0, .int 0, .int 0, .int 0])), (aD, .inr (2, [.ref aR, .ref aDL, .ref aDD, .int (nI n)])), (aDD, .inl (cyZ, 20, .inl (fun j_ => bI (dd j_)))), (aR, .inr (1, [.ref aRF, .ref aRT, .ref aRN, .ref aRL, .ref aRU, .int (nI cnt)])), (aRF, .inl (cyI, 20, .inl (fun j_ => nI (F j_)))), (aRT, .inl (cyI, 20, .inl (fun j_ => nI (T j_)))), (aRN, .inl (cyI, 20, .inl nm)), (aRL, .inl (cyI, 20, .inl lo)), (aRU, .inl (cyI, 20, .inl up)), (aHW, .inl (cyI, 12, .inl wy)), (aHL, .inl (cyI, 12, .inl (fun j_ => nI (L j_))))] := hD
  refine lv_aload_n hx hb dX0_find_20 rfl (lv_at hl 0 rfl) ?_
  refine lv_iload_n hx hb dX0_find_21 rfl (lv_at hl 2 rfl) ?_
  have g1 : n ≤ 12 := by first | assumption | omega | exact vp_in_nI (by omega) (by omega)
  have g2 : 1 ≤ n := by first | assumption | omega | exact vp_in_nI (by omega) (by omega)
  have g3 : cnt ≤ 20 := by first | assumption | omega | exact vp_in_nI (by omega) (by omega)
  have g4 : ∀ d_q, d_q < cnt → F d_q < 12 := by exact fun d h => Nat.lt_of_lt_of_le (hF d h) hn
  have g5 : ∀ d_q, d_q < cnt → T d_q < 12 := by exact fun d h => Nat.lt_of_lt_of_le (hT d h) hn
  have g6 : b < 12 := by first | assumption | omega | exact vp_in_nI (by omega) (by omega)
  have hPc := hP.sub (ws' := [(aH, .inr (0, [.ref aD, .ref aR, .ref aHW, .ref aHL, .int 0, .int 0, .int 0, .int 0])), (aD, .inr (2, [.ref aR, .ref aDL, .ref aDD, .int (nI n)])), (aDD, .inl (cyZ, 20, .inl (fun j_ => bI (dd j_)))), (aR, .inr (1, [.ref aRF, .ref aRT, .ref aRN, .ref aRL, .ref aRU, .int (nI cnt)])), (aRF, .inl (cyI, 20, .inl (fun j_ => nI (F j_)))), (aRT, .inl (cyI, 20, .inl (fun j_ => nI (T j_)))), (aHW, .inl (cyI, 12, .inl wy))]) [0, 1, 2, 3, 4, 5, 9] rfl
  have hDc := hD.sub (ws' := [(aH, .inr (0, [.ref aD, .ref aR, .ref aHW, .ref aHL, .int 0, .int 0, .int 0, .int 0])), (aD, .inr (2, [.ref aR, .ref aDL, .ref aDD, .int (nI n)])), (aDD, .inl (cyZ, 20, .inl (fun j_ => bI (dd j_)))), (aR, .inr (1, [.ref aRF, .ref aRT, .ref aRN, .ref aRL, .ref aRU, .int (nI cnt)])), (aRF, .inl (cyI, 20, .inl (fun j_ => nI (F j_)))), (aRT, .inl (cyI, 20, .inl (fun j_ => nI (T j_)))), (aHW, .inl (cyI, 12, .inl wy))]) [0, 1, 2, 3, 4, 5, 9] (by decide) rfl
  have hFc := va_free (wc := [(aH, .inr (0, [.ref aD, .ref aR, .ref aHW, .ref aHL, .int 0, .int 0, .int 0, .int 0])), (aD, .inr (2, [.ref aR, .ref aDL, .ref aDD, .int (nI n)])), (aDD, .inl (cyZ, 20, .inl (fun j_ => bI (dd j_)))), (aR, .inr (1, [.ref aRF, .ref aRT, .ref aRN, .ref aRL, .ref aRU, .int (nI cnt)])), (aRF, .inl (cyI, 20, .inl (fun j_ => nI (F j_)))), (aRT, .inl (cyI, 20, .inl (fun j_ => nI (T j_)))), (aHW, .inl (cyI, 12, .inl wy))]) hD hS hA [0, 1, 2, 3, 4, 5, 9] rfl
  refine va_callv (va_runV (As := [.int (nI b)]) (rest := []) ⟨hx, hb, hml, hown, hts⟩ (c_X0_findWaysTo l dC dI cyI cyZ cyJ cyD aH aD aR aHW aHL aDL aDD aRF aRT aRN aRL aRU H.size 0 0 0 0 n dd F T cnt wy b g1 g2 g3 g4 g5 g6) (cwV 1 hts gX0_find_X0_findWaysTo rfl rfl rfl (by decide +kernel) ⟨Nat.le_of_ble_eq_true rfl, Nat.le_of_ble_eq_true rfl⟩) ⟨fun a U g mk q => by obtain ⟨q0, q1, qP, qK, qD⟩ := q; exact ⟨q0, q1, qP, va_K.moved (u := U) (U := U.calling g mk a) (Vm.Alike.refl U.vm) qK, qD⟩, va_recv hK hPc (ci := 0) (q0 := 0) rfl rfl, fun U hU hW => ⟨rfl, by rw [hU], by rw [hU]; exact hPc, va_K.moved hW.alike hK, hDc.weaken (fun _ _ _ _ => trivial)⟩⟩ rfl rfl hl.1 rfl (lv_room (Nat.le_of_ble_eq_true rfl)) dX0_find_22 ⟨Nat.le_of_ble_eq_true rfl, Nat.le_of_ble_eq_true rfl⟩) hS (fun q _ h => hFc q h) hFc (fun  u t H1 locs ht hvm hw hB hz1 hk1 hS => ?_)
  obtain ⟨hP1, hK1, hD1⟩ := hB
  rw [ht] at hP1
  obtain ⟨hP, hD⟩ := va_join (wr := [(aRN, .inl (cyI, 20, .inl nm)), (aRL, .inl (cyI, 20, .inl lo)), (aRU, .inl (cyI, 20, .inl up)), (aHL, .inl (cyI, 12, .inl (fun j_ => nI (L j_))))]) (w1 := [(aH, .inr (0, [.ref aD, .ref aR, .ref aHW, .ref aHL, .int 0, .int 0, .int 0, .int 0])), (aD, .inr (2, [.ref aR, .ref aDL, .ref aDD, .int (nI n)])), (aDD, .inl (cyZ, 20, .inl (fun j_ => bI (dd j_)))), (aR, .inr (1, [.ref aRF, .ref aRT, .ref aRN, .ref aRL, .ref aRU, .int (nI cnt)])), (aRF, .inl (cyI, 20, .inl (fun j_ => nI (F j_)))), (aRT, .inl (cyI, 20, .inl (fun j_ => nI (T j_)))), (aHW, .inl (cyI, 12, .inl (ewR F T dd b cnt (flI wy (-1) 12) (n - 1))))]) hP hD [0, 1, 2, 3, 4, 5, 9] [6, 7, 8, 10] rfl rfl (by decide) (by decide) hk1 hFc hP1 hD1
  clear hP1 hD1 hK1 hPc hDc hFc hk1 hz1 hvm ht u t
  generalize H1 = H at hP hS ⊢
  have hP : va_P (dC, dI) vwCl [(aRN, .inl (cyI, 20, .inl nm)), (aRL, .inl (cyI, 20, .inl lo)), (aRU, .inl (cyI, 20, .inl up)), (aHL, .inl (cyI, 12, .inl (fun j_ => nI (L j_)))), (aH, .inr (0, [.ref aD, .ref aR, .ref aHW, .ref aHL, .int 0, .int 0, .int 0, .int 0])), (aD, .inr (2, [.ref aR, .ref aDL, .ref aDD, .int (nI n)])), (aDD, .inl (cyZ, 20, .inl (fun j_ => bI (dd j_)))), (aR, .inr (1, [.ref aRF, .ref aRT, .ref aRN, .ref aRL, .ref aRU, .int (nI cnt)])), (aRF, .inl (cyI, 20, .inl (fun j_ => nI (F j_)))), (aRT, .inl (cyI, 20, .inl (fun j_ => nI (T j_)))), (aHW, .inl (cyI, 12, .inl (ewR F T dd b cnt (flI wy (-1) 12) (n - 1))))] H := hP
  have hD : va_D A [(aRN, .inl (cyI, 20, .inl nm)), (aRL, .inl (cyI, 20, .inl lo)), (aRU, .inl (cyI, 20, .inl up)), (aHL, .inl (cyI, 12, .inl (fun j_ => nI (L j_)))), (aH, .inr (0, [.ref aD, .ref aR, .ref aHW, .ref aHL, .int 0, .int 0, .int 0, .int 0])), (aD, .inr (2, [.ref aR, .ref aDL, .ref aDD, .int (nI n)])), (aDD, .inl (cyZ, 20, .inl (fun j_ => bI (dd j_)))), (aR, .inr (1, [.ref aRF, .ref aRT, .ref aRN, .ref aRL, .ref aRU, .int (nI cnt)])), (aRF, .inl (cyI, 20, .inl (fun j_ => nI (F j_)))), (aRT, .inl (cyI, 20, .inl (fun j_ => nI (T j_)))), (aHW, .inl (cyI, 12, .inl (ewR F T dd b cnt (flI wy (-1) 12) (n - 1))))] := hD
  refine lv_iload_n hx hb dX0_find_25 rfl (lv_at hl 1 rfl) ?_
  refine lv_istore_n (lv' := [(3, .int (nI a)), (0, .ref aH), (1, .int (nI a)), (2, .int (nI b))]) hx hb dX0_find_26 rfl hl (by decide) rfl (fun ls hl => ?_)
  refine lv_iconst (v := 0) hx hb dX0_find_27 (by decide) ?_
  refine lv_istore (lv' := [(4, .int 0), (3, .int (nI a)), (0, .ref aH), (1, .int (nI a)), (2, .int (nI b))]) hx hb dX0_find_28 hl (by decide) rfl (fun ls hl => ?_)
  have k30 : ∀ (fuel : Nat) (k : Nat) (hfuel : n - k < fuel) (hk : k ≤ n) (hcf : cf F T (oW F T dd n cnt b) a k < n) (hst : fK F T (oW F T dd n cnt b) n a b = stp (stc F T (oW F T dd n cnt b) a b) (n - k) k) (H : Heap) (locs : List Loc) (ls : Array Slot), va_P (dC, dI) vwCl [(aH, .inr (0, [.ref aD, .ref aR, .ref aHW, .ref aHL, .int (nI k), .int (gN F T nm (oW F T dd n cnt b) a k), .int (gL F T nm lo up (oW F T dd n cnt b) a k), .int (gG F T nm lo up (oW F T dd n cnt b) a k)])), (aD, .inr (2, [.ref aR, .ref aDL, .ref aDD, .int (nI n)])), (aDD, .inl (cyZ, 20, .inl (fun j_ => bI (dd j_)))), (aR, .inr (1, [.ref aRF, .ref aRT, .ref aRN, .ref aRL, .ref aRU, .int (nI cnt)])), (aRF, .inl (cyI, 20, .inl (fun j_ => nI (F j_)))), (aRT, .inl (cyI, 20, .inl (fun j_ => nI (T j_)))), (aRN, .inl (cyI, 20, .inl nm)), (aRL, .inl (cyI, 20, .inl lo)), (aRU, .inl (cyI, 20, .inl up)), (aHW, .inl (cyI, 12, .inl (fW F T dd n cnt b wy))), (aHL, .inl (cyI, 12, .inl (fun j_ => nI ((clk F T (oW F T dd n cnt b) a L k) j_))))] H → va_D A [(aH, .inr (0, [.ref aD, .ref aR, .ref aHW, .ref aHL, .int (nI k), .int (gN F T nm (oW F T dd n cnt b) a k), .int (gL F T nm lo up (oW F T dd n cnt b) a k), .int (gG F T nm lo up (oW F T dd n cnt b) a k)])), (aD, .inr (2, [.ref aR, .ref aDL, .ref aDD, .int (nI n)])), (aDD, .inl (cyZ, 20, .inl (fun j_ => bI (dd j_)))), (aR, .inr (1, [.ref aRF, .ref aRT, .ref aRN, .ref aRL, .ref aRU, .int (nI cnt)])), (aRF, .inl (cyI, 20, .inl (fun j_ => nI (F j_)))), (aRT, .inl (cyI, 20, .inl (fun j_ => nI (T j_)))), (aRN, .inl (cyI, 20, .inl nm)), (aRL, .inl (cyI, 20, .inl lo)), (aRU, .inl (cyI, 20, .inl up)), (aHW, .inl (cyI, 12, .inl (fW F T dd n cnt b wy))), (aHL, .inl (cyI, 12, .inl (fun j_ => nI ((clk F T (oW F T dd n cnt b) a L k) j_))))] → va_S A s.heap H locs → lv_has ls 5 [(0, .ref aH), (1, .int (nI a)), (2, .int (nI b)), (3, .int (nI (cf F T (oW F T dd n cnt b) a k))), (4, .int (nI k))] → W pM l eM (headSpec wsX0_find ({ frames := 2, cells := 0, slots := 0, locals := 49 } : Room)).room s mM ([.ref aH, .int (nI a), .int (nI b)] : List Value).toArray blM mtM cM H locs 0 0 Q (F0 mM 30 ls []) := by
    intro fuel
    induction fuel with
    | zero => intro k hfuel; exact absurd hfuel (Nat.not_lt_zero _)
    | succ fuel ih30 =>
      intro k hfuel hk hcf hst H locs ls hP hD hS hl
      refine lv_iload hx hb dX0_find_30 (lv_at hl 4 rfl) ?_
      refine lv_aload_n hx hb dX0_find_32 rfl (lv_at hl 0 rfl) ?_
      refine va_get (D := (dC, dI)) (ci := 0) (v := .ref aD) (C := RX0) (T := TX0) (N := 8) hx hb hts iX0 hown hK hP 0 rfl rfl 0 (by decide) w4 (fun _ h9 => h9) rfl dX0_find_33 ?_
      refine va_get (D := (dC, dI)) (ci := 2) (v := .int (nI n)) (C := RX2) (T := TX2) (N := 4) hx hb hts iX2 hown hK hP 1 rfl rfl 3 (by decide) w5 (fun _ h9 => h9) rfl dX0_find_36 ?_
      refine lv_icmp_ge (tgt := 75) hx hb dX0_find_39 (by decide) (fun c39 => ?_) (fun c39 => ?_)
      · have c39 := n_le (a := n) (b := k) (by omega) (by omega) c39
        have hKK : fK F T (oW F T dd n cnt b) n a b = k := by rw [hst, show n - k = 0 by omega]; rfl
        refine lv_iload_n hx hb dX0_find_75 rfl (lv_at hl 3 rfl) ?_
        refine lv_iload_n hx hb dX0_find_76 rfl (lv_at hl 2 rfl) ?_
        refine lv_icmp_ne (tgt := 84) hx hb dX0_find_77 (by decide) (fun c77 => ?_) (fun c77 => ?_)
        · have c77 := n_ne (a := cf F T (oW F T dd n cnt b) a k) (b := b) (by omega) (by omega) c77
          refine lv_iconst (v := 0) hx hb dX0_find_84 (by decide) ?_
          have r7 : 0 = (bI (decide (cf F T (oW F T dd n cnt b) a (fK F T (oW F T dd n cnt b) n a b) = b))) := by rw [hKK]; simp [c77, bI]
          have q8 : (nI (fK F T (oW F T dd n cnt b) n a b)) = (nI k) := by rw [hKK]
          have q9 : (gN F T nm (oW F T dd n cnt b) a (fK F T (oW F T dd n cnt b) n a b)) = (gN F T nm (oW F T dd n cnt b) a k) := by rw [hKK]
          have q10 : (gL F T nm lo up (oW F T dd n cnt b) a (fK F T (oW F T dd n cnt b) n a b)) = (gL F T nm lo up (oW F T dd n cnt b) a k) := by rw [hKK]
          have q11 : (gG F T nm lo up (oW F T dd n cnt b) a (fK F T (oW F T dd n cnt b) n a b)) = (gG F T nm lo up (oW F T dd n cnt b) a k) := by rw [hKK]
          have hP9 : va_P (dC, dI) vwCl [(aH, .inr (0, [.ref aD, .ref aR, .ref aHW, .ref aHL, .int (nI (fK F T (oW F T dd n cnt b) n a b)), .int (gN F T nm (oW F T dd n cnt b) a (fK F T (oW F T dd n cnt b) n a b)), .int (gL F T nm lo up (oW F T dd n cnt b) a (fK F T (oW F T dd n cnt b) n a b)), .int (gG F T nm lo up (oW F T dd n cnt b) a (fK F T (oW F T dd n cnt b) n a b))])), (aD, .inr (2, [.ref aR, .ref aDL, .ref aDD, .int (nI n)])), (aDD, .inl (cyZ, 20, .inl (fun j_ => bI (dd j_)))), (aR, .inr (1, [.ref aRF, .ref aRT, .ref aRN, .ref aRL, .ref aRU, .int (nI cnt)])), (aRF, .inl (cyI, 20, .inl (fun j_ => nI (F j_)))), (aRT, .inl (cyI, 20, .inl (fun j_ => nI (T j_)))), (aRN, .inl (cyI, 20, .inl nm)), (aRL, .inl (cyI, 20, .inl lo)), (aRU, .inl (cyI, 20, .inl up)), (aHW, .inl (cyI, 12, .inl (fW F T dd n cnt b wy))), (aHL, .inl (cyI, 12, .inl (fun j_ => nI ((clk F T (oW F T dd n cnt b) a L k) j_))))] H := by first | (rw [q8, q9, q10, q11]; exact hP.sub [0, 1, 2, 3, 4, 5, 6, 7, 8, 9, 10] rfl) | (simp only [q8, q9, q10, q11]; exact hP.sub [0, 1, 2, 3, 4, 5, 6, 7, 8, 9, 10] rfl) | exact hP.sub [0, 1, 2, 3, 4, 5, 6, 7, 8, 9, 10] rfl
          have hD9 : va_D A [(aH, .inr (0, [.ref aD, .ref aR, .ref aHW, .ref aHL, .int (nI (fK F T (oW F T dd n cnt b) n a b)), .int (gN F T nm (oW F T dd n cnt b) a (fK F T (oW F T dd n cnt b) n a b)), .int (gL F T nm lo up (oW F T dd n cnt b) a (fK F T (oW F T dd n cnt b) n a b)), .int (gG F T nm lo up (oW F T dd n cnt b) a (fK F T (oW F T dd n cnt b) n a b))])), (aD, .inr (2, [.ref aR, .ref aDL, .ref aDD, .int (nI n)])), (aDD, .inl (cyZ, 20, .inl (fun j_ => bI (dd j_)))), (aR, .inr (1, [.ref aRF, .ref aRT, .ref aRN, .ref aRL, .ref aRU, .int (nI cnt)])), (aRF, .inl (cyI, 20, .inl (fun j_ => nI (F j_)))), (aRT, .inl (cyI, 20, .inl (fun j_ => nI (T j_)))), (aRN, .inl (cyI, 20, .inl nm)), (aRL, .inl (cyI, 20, .inl lo)), (aRU, .inl (cyI, 20, .inl up)), (aHW, .inl (cyI, 12, .inl (fW F T dd n cnt b wy))), (aHL, .inl (cyI, 12, .inl (fun j_ => nI ((clk F T (oW F T dd n cnt b) a L k) j_))))] := by first | (rw [q8, q9, q10, q11]; exact hD.sub [0, 1, 2, 3, 4, 5, 6, 7, 8, 9, 10] (by decide) rfl) | (simp only [q8, q9, q10, q11]; exact hD.sub [0, 1, 2, 3, 4, 5, 6, 7, 8, 9, 10] (by decide) rfl) | exact hD.sub [0, 1, 2, 3, 4, 5, 6, 7, 8, 9, 10] (by decide) rfl
          have p12 : ∀ k_q, k_q < (fK F T (oW F T dd n cnt b) n a b) → (clk F T (oW F T dd n cnt b) a L k) k_q = ((oW F T dd n cnt b) (cf F T (oW F T dd n cnt b) a k_q)).toNatClampNeg := by rw [hKK]; intro j hj; rw [clk_at, if_pos hj]
          subst hAe
          subst hQe
          exact W.zret (v := 0) hx hb hr rfl (fun t ht hW => ⟨⟨_, (), rfl, r7, (fW F T dd n cnt b wy), (clk F T (oW F T dd n cnt b) a L k), p12, by rw [ht]; exact hP9, va_K.moved hW.alike hK, hD9⟩, hS.F ht⟩) hS.2.2 dX0_find_85
        · have c77 := n_eq (a := cf F T (oW F T dd n cnt b) a k) (b := b) (by omega) (by omega) c77
          refine lv_iconst (v := 1) hx hb dX0_find_80 (by decide) ?_
          refine lv_goto (tgt := 85) hx hb dX0_find_81 (by decide) ?_
          have r13 : 1 = (bI (decide (cf F T (oW F T dd n cnt b) a (fK F T (oW F T dd n cnt b) n a b) = b))) := by rw [hKK]; simp [c77, bI]
          have q14 : (nI (fK F T (oW F T dd n cnt b) n a b)) = (nI k) := by rw [hKK]
          have q15 : (gN F T nm (oW F T dd n cnt b) a (fK F T (oW F T dd n cnt b) n a b)) = (gN F T nm (oW F T dd n cnt b) a k) := by rw [hKK]
          have q16 : (gL F T nm lo up (oW F T dd n cnt b) a (fK F T (oW F T dd n cnt b) n a b)) = (gL F T nm lo up (oW F T dd n cnt b) a k) := by rw [hKK]
          have q17 : (gG F T nm lo up (oW F T dd n cnt b) a (fK F T (oW F T dd n cnt b) n a b)) = (gG F T nm lo up (oW F T dd n cnt b) a k) := by rw [hKK]
          have hP9 : va_P (dC, dI) vwCl [(aH, .inr (0, [.ref aD, .ref aR, .ref aHW, .ref aHL, .int (nI (fK F T (oW F T dd n cnt b) n a b)), .int (gN F T nm (oW F T dd n cnt b) a (fK F T (oW F T dd n cnt b) n a b)), .int (gL F T nm lo up (oW F T dd n cnt b) a (fK F T (oW F T dd n cnt b) n a b)), .int (gG F T nm lo up (oW F T dd n cnt b) a (fK F T (oW F T dd n cnt b) n a b))])), (aD, .inr (2, [.ref aR, .ref aDL, .ref aDD, .int (nI n)])), (aDD, .inl (cyZ, 20, .inl (fun j_ => bI (dd j_)))), (aR, .inr (1, [.ref aRF, .ref aRT, .ref aRN, .ref aRL, .ref aRU, .int (nI cnt)])), (aRF, .inl (cyI, 20, .inl (fun j_ => nI (F j_)))), (aRT, .inl (cyI, 20, .inl (fun j_ => nI (T j_)))), (aRN, .inl (cyI, 20, .inl nm)), (aRL, .inl (cyI, 20, .inl lo)), (aRU, .inl (cyI, 20, .inl up)), (aHW, .inl (cyI, 12, .inl (fW F T dd n cnt b wy))), (aHL, .inl (cyI, 12, .inl (fun j_ => nI ((clk F T (oW F T dd n cnt b) a L k) j_))))] H := by first | (rw [q14, q15, q16, q17]; exact hP.sub [0, 1, 2, 3, 4, 5, 6, 7, 8, 9, 10] rfl) | (simp only [q14, q15, q16, q17]; exact hP.sub [0, 1, 2, 3, 4, 5, 6, 7, 8, 9, 10] rfl) | exact hP.sub [0, 1, 2, 3, 4, 5, 6, 7, 8, 9, 10] rfl
          have hD9 : va_D A [(aH, .inr (0, [.ref aD, .ref aR, .ref aHW, .ref aHL, .int (nI (fK F T (oW F T dd n cnt b) n a b)), .int (gN F T nm (oW F T dd n cnt b) a (fK F T (oW F T dd n cnt b) n a b)), .int (gL F T nm lo up (oW F T dd n cnt b) a (fK F T (oW F T dd n cnt b) n a b)), .int (gG F T nm lo up (oW F T dd n cnt b) a (fK F T (oW F T dd n cnt b) n a b))])), (aD, .inr (2, [.ref aR, .ref aDL, .ref aDD, .int (nI n)])), (aDD, .inl (cyZ, 20, .inl (fun j_ => bI (dd j_)))), (aR, .inr (1, [.ref aRF, .ref aRT, .ref aRN, .ref aRL, .ref aRU, .int (nI cnt)])), (aRF, .inl (cyI, 20, .inl (fun j_ => nI (F j_)))), (aRT, .inl (cyI, 20, .inl (fun j_ => nI (T j_)))), (aRN, .inl (cyI, 20, .inl nm)), (aRL, .inl (cyI, 20, .inl lo)), (aRU, .inl (cyI, 20, .inl up)), (aHW, .inl (cyI, 12, .inl (fW F T dd n cnt b wy))), (aHL, .inl (cyI, 12, .inl (fun j_ => nI ((clk F T (oW F T dd n cnt b) a L k) j_))))] := by first | (rw [q14, q15, q16, q17]; exact hD.sub [0, 1, 2, 3, 4, 5, 6, 7, 8, 9, 10] (by decide) rfl) | (simp only [q14, q15, q16, q17]; exact hD.sub [0, 1, 2, 3, 4, 5, 6, 7, 8, 9, 10] (by decide) rfl) | exact hD.sub [0, 1, 2, 3, 4, 5, 6, 7, 8, 9, 10] (by decide) rfl
          have p18 : ∀ k_q, k_q < (fK F T (oW F T dd n cnt b) n a b) → (clk F T (oW F T dd n cnt b) a L k) k_q = ((oW F T dd n cnt b) (cf F T (oW F T dd n cnt b) a k_q)).toNatClampNeg := by rw [hKK]; intro j hj; rw [clk_at, if_pos hj]
          subst hAe
          subst hQe
          exact W.zret (v := 1) hx hb hr rfl (fun t ht hW => ⟨⟨_, (), rfl, r13, (fW F T dd n cnt b wy), (clk F T (oW F T dd n cnt b) a L k), p18, by rw [ht]; exact hP9, va_K.moved hW.alike hK, hD9⟩, hS.F ht⟩) hS.2.2 dX0_find_85
      · have c39 := n_nle (a := n) (b := k) (by omega) (by omega) c39
        refine lv_iload_n hx hb dX0_find_42 rfl (lv_at hl 3 rfl) ?_
        refine lv_iload_n hx hb dX0_find_43 rfl (lv_at hl 2 rfl) ?_
        refine lv_icmp_eq (tgt := 75) hx hb dX0_find_44 (by decide) (fun c44 => ?_) (fun c44 => ?_)
        · have c44 := n_eq (a := cf F T (oW F T dd n cnt b) a k) (b := b) (by omega) (by omega) c44
          have hKK : fK F T (oW F T dd n cnt b) n a b = k := by rw [hst]; exact stp_stop (by simp [stc, c44])
          refine lv_iload_n hx hb dX0_find_75 rfl (lv_at hl 3 rfl) ?_
          refine lv_iload_n hx hb dX0_find_76 rfl (lv_at hl 2 rfl) ?_
          refine lv_icmp_ne (tgt := 84) hx hb dX0_find_77 (by decide) (fun c77 => ?_) (fun c77 => ?_)
          · have c77 := n_ne (a := cf F T (oW F T dd n cnt b) a k) (b := b) (by omega) (by omega) c77
            refine lv_iconst (v := 0) hx hb dX0_find_84 (by decide) ?_
            have r19 : 0 = (bI (decide (cf F T (oW F T dd n cnt b) a (fK F T (oW F T dd n cnt b) n a b) = b))) := by rw [hKK]; simp [c77, bI]
            have q20 : (nI (fK F T (oW F T dd n cnt b) n a b)) = (nI k) := by rw [hKK]
            have q21 : (gN F T nm (oW F T dd n cnt b) a (fK F T (oW F T dd n cnt b) n a b)) = (gN F T nm (oW F T dd n cnt b) a k) := by rw [hKK]
            have q22 : (gL F T nm lo up (oW F T dd n cnt b) a (fK F T (oW F T dd n cnt b) n a b)) = (gL F T nm lo up (oW F T dd n cnt b) a k) := by rw [hKK]
            have q23 : (gG F T nm lo up (oW F T dd n cnt b) a (fK F T (oW F T dd n cnt b) n a b)) = (gG F T nm lo up (oW F T dd n cnt b) a k) := by rw [hKK]
            have hP9 : va_P (dC, dI) vwCl [(aH, .inr (0, [.ref aD, .ref aR, .ref aHW, .ref aHL, .int (nI (fK F T (oW F T dd n cnt b) n a b)), .int (gN F T nm (oW F T dd n cnt b) a (fK F T (oW F T dd n cnt b) n a b)), .int (gL F T nm lo up (oW F T dd n cnt b) a (fK F T (oW F T dd n cnt b) n a b)), .int (gG F T nm lo up (oW F T dd n cnt b) a (fK F T (oW F T dd n cnt b) n a b))])), (aD, .inr (2, [.ref aR, .ref aDL, .ref aDD, .int (nI n)])), (aDD, .inl (cyZ, 20, .inl (fun j_ => bI (dd j_)))), (aR, .inr (1, [.ref aRF, .ref aRT, .ref aRN, .ref aRL, .ref aRU, .int (nI cnt)])), (aRF, .inl (cyI, 20, .inl (fun j_ => nI (F j_)))), (aRT, .inl (cyI, 20, .inl (fun j_ => nI (T j_)))), (aRN, .inl (cyI, 20, .inl nm)), (aRL, .inl (cyI, 20, .inl lo)), (aRU, .inl (cyI, 20, .inl up)), (aHW, .inl (cyI, 12, .inl (fW F T dd n cnt b wy))), (aHL, .inl (cyI, 12, .inl (fun j_ => nI ((clk F T (oW F T dd n cnt b) a L k) j_))))] H := by first | (rw [q20, q21, q22, q23]; exact hP.sub [0, 1, 2, 3, 4, 5, 6, 7, 8, 9, 10] rfl) | (simp only [q20, q21, q22, q23]; exact hP.sub [0, 1, 2, 3, 4, 5, 6, 7, 8, 9, 10] rfl) | exact hP.sub [0, 1, 2, 3, 4, 5, 6, 7, 8, 9, 10] rfl
            have hD9 : va_D A [(aH, .inr (0, [.ref aD, .ref aR, .ref aHW, .ref aHL, .int (nI (fK F T (oW F T dd n cnt b) n a b)), .int (gN F T nm (oW F T dd n cnt b) a (fK F T (oW F T dd n cnt b) n a b)), .int (gL F T nm lo up (oW F T dd n cnt b) a (fK F T (oW F T dd n cnt b) n a b)), .int (gG F T nm lo up (oW F T dd n cnt b) a (fK F T (oW F T dd n cnt b) n a b))])), (aD, .inr (2, [.ref aR, .ref aDL, .ref aDD, .int (nI n)])), (aDD, .inl (cyZ, 20, .inl (fun j_ => bI (dd j_)))), (aR, .inr (1, [.ref aRF, .ref aRT, .ref aRN, .ref aRL, .ref aRU, .int (nI cnt)])), (aRF, .inl (cyI, 20, .inl (fun j_ => nI (F j_)))), (aRT, .inl (cyI, 20, .inl (fun j_ => nI (T j_)))), (aRN, .inl (cyI, 20, .inl nm)), (aRL, .inl (cyI, 20, .inl lo)), (aRU, .inl (cyI, 20, .inl up)), (aHW, .inl (cyI, 12, .inl (fW F T dd n cnt b wy))), (aHL, .inl (cyI, 12, .inl (fun j_ => nI ((clk F T (oW F T dd n cnt b) a L k) j_))))] := by first | (rw [q20, q21, q22, q23]; exact hD.sub [0, 1, 2, 3, 4, 5, 6, 7, 8, 9, 10] (by decide) rfl) | (simp only [q20, q21, q22, q23]; exact hD.sub [0, 1, 2, 3, 4, 5, 6, 7, 8, 9, 10] (by decide) rfl) | exact hD.sub [0, 1, 2, 3, 4, 5, 6, 7, 8, 9, 10] (by decide) rfl
            have p24 : ∀ k_q, k_q < (fK F T (oW F T dd n cnt b) n a b) → (clk F T (oW F T dd n cnt b) a L k) k_q = ((oW F T dd n cnt b) (cf F T (oW F T dd n cnt b) a k_q)).toNatClampNeg := by rw [hKK]; intro j hj; rw [clk_at, if_pos hj]
            subst hAe
            subst hQe
            exact W.zret (v := 0) hx hb hr rfl (fun t ht hW => ⟨⟨_, (), rfl, r19, (fW F T dd n cnt b wy), (clk F T (oW F T dd n cnt b) a L k), p24, by rw [ht]; exact hP9, va_K.moved hW.alike hK, hD9⟩, hS.F ht⟩) hS.2.2 dX0_find_85
          · have c77 := n_eq (a := cf F T (oW F T dd n cnt b) a k) (b := b) (by omega) (by omega) c77
            refine lv_iconst (v := 1) hx hb dX0_find_80 (by decide) ?_
            refine lv_goto (tgt := 85) hx hb dX0_find_81 (by decide) ?_
            have r25 : 1 = (bI (decide (cf F T (oW F T dd n cnt b) a (fK F T (oW F T dd n cnt b) n a b) = b))) := by rw [hKK]; simp [c77, bI]
            have q26 : (nI (fK F T (oW F T dd n cnt b) n a b)) = (nI k) := by rw [hKK]
            have q27 : (gN F T nm (oW F T dd n cnt b) a (fK F T (oW F T dd n cnt b) n a b)) = (gN F T nm (oW F T dd n cnt b) a k) := by rw [hKK]
            have q28 : (gL F T nm lo up (oW F T dd n cnt b) a (fK F T (oW F T dd n cnt b) n a b)) = (gL F T nm lo up (oW F T dd n cnt b) a k) := by rw [hKK]
            have q29 : (gG F T nm lo up (oW F T dd n cnt b) a (fK F T (oW F T dd n cnt b) n a b)) = (gG F T nm lo up (oW F T dd n cnt b) a k) := by rw [hKK]
            have hP9 : va_P (dC, dI) vwCl [(aH, .inr (0, [.ref aD, .ref aR, .ref aHW, .ref aHL, .int (nI (fK F T (oW F T dd n cnt b) n a b)), .int (gN F T nm (oW F T dd n cnt b) a (fK F T (oW F T dd n cnt b) n a b)), .int (gL F T nm lo up (oW F T dd n cnt b) a (fK F T (oW F T dd n cnt b) n a b)), .int (gG F T nm lo up (oW F T dd n cnt b) a (fK F T (oW F T dd n cnt b) n a b))])), (aD, .inr (2, [.ref aR, .ref aDL, .ref aDD, .int (nI n)])), (aDD, .inl (cyZ, 20, .inl (fun j_ => bI (dd j_)))), (aR, .inr (1, [.ref aRF, .ref aRT, .ref aRN, .ref aRL, .ref aRU, .int (nI cnt)])), (aRF, .inl (cyI, 20, .inl (fun j_ => nI (F j_)))), (aRT, .inl (cyI, 20, .inl (fun j_ => nI (T j_)))), (aRN, .inl (cyI, 20, .inl nm)), (aRL, .inl (cyI, 20, .inl lo)), (aRU, .inl (cyI, 20, .inl up)), (aHW, .inl (cyI, 12, .inl (fW F T dd n cnt b wy))), (aHL, .inl (cyI, 12, .inl (fun j_ => nI ((clk F T (oW F T dd n cnt b) a L k) j_))))] H := by first | (rw [q26, q27, q28, q29]; exact hP.sub [0, 1, 2, 3, 4, 5, 6, 7, 8, 9, 10] rfl) | (simp only [q26, q27, q28, q29]; exact hP.sub [0, 1, 2, 3, 4, 5, 6, 7, 8, 9, 10] rfl) | exact hP.sub [0, 1, 2, 3, 4, 5, 6, 7, 8, 9, 10] rfl
            have hD9 : va_D A [(aH, .inr (0, [.ref aD, .ref aR, .ref aHW, .ref aHL, .int (nI (fK F T (oW F T dd n cnt b) n a b)), .int (gN F T nm (oW F T dd n cnt b) a (fK F T (oW F T dd n cnt b) n a b)), .int (gL F T nm lo up (oW F T dd n cnt b) a (fK F T (oW F T dd n cnt b) n a b)), .int (gG F T nm lo up (oW F T dd n cnt b) a (fK F T (oW F T dd n cnt b) n a b))])), (aD, .inr (2, [.ref aR, .ref aDL, .ref aDD, .int (nI n)])), (aDD, .inl (cyZ, 20, .inl (fun j_ => bI (dd j_)))), (aR, .inr (1, [.ref aRF, .ref aRT, .ref aRN, .ref aRL, .ref aRU, .int (nI cnt)])), (aRF, .inl (cyI, 20, .inl (fun j_ => nI (F j_)))), (aRT, .inl (cyI, 20, .inl (fun j_ => nI (T j_)))), (aRN, .inl (cyI, 20, .inl nm)), (aRL, .inl (cyI, 20, .inl lo)), (aRU, .inl (cyI, 20, .inl up)), (aHW, .inl (cyI, 12, .inl (fW F T dd n cnt b wy))), (aHL, .inl (cyI, 12, .inl (fun j_ => nI ((clk F T (oW F T dd n cnt b) a L k) j_))))] := by first | (rw [q26, q27, q28, q29]; exact hD.sub [0, 1, 2, 3, 4, 5, 6, 7, 8, 9, 10] (by decide) rfl) | (simp only [q26, q27, q28, q29]; exact hD.sub [0, 1, 2, 3, 4, 5, 6, 7, 8, 9, 10] (by decide) rfl) | exact hD.sub [0, 1, 2, 3, 4, 5, 6, 7, 8, 9, 10] (by decide) rfl
            have p30 : ∀ k_q, k_q < (fK F T (oW F T dd n cnt b) n a b) → (clk F T (oW F T dd n cnt b) a L k) k_q = ((oW F T dd n cnt b) (cf F T (oW F T dd n cnt b) a k_q)).toNatClampNeg := by rw [hKK]; intro j hj; rw [clk_at, if_pos hj]
            subst hAe
            subst hQe
            exact W.zret (v := 1) hx hb hr rfl (fun t ht hW => ⟨⟨_, (), rfl, r25, (fW F T dd n cnt b wy), (clk F T (oW F T dd n cnt b) a L k), p30, by rw [ht]; exact hP9, va_K.moved hW.alike hK, hD9⟩, hS.F ht⟩) hS.2.2 dX0_find_85
        · have c44 := n_ne (a := cf F T (oW F T dd n cnt b) a k) (b := b) (by omega) (by omega) c44
          refine lv_aload_n hx hb dX0_find_47 rfl (lv_at hl 0 rfl) ?_
          refine va_get (D := (dC, dI)) (ci := 0) (v := .ref aHW) (C := RX0) (T := TX0) (N := 8) hx hb hts iX0 hown hK hP 0 rfl rfl 2 (by decide) w6 (fun _ h9 => h9) rfl dX0_find_48 ?_
          refine lv_iload_n hx hb dX0_find_51 rfl (lv_at hl 3 rfl) ?_
          have h31 : vp_in (nI (cf F T (oW F T dd n cnt b) a k)) 12 := by first | exact vp_in_nI (by omega) (by omega) | assumption
          refine va_iald hx hb hK hP 9 0 rfl rfl h31 dX0_find_52 ?_
          refine lv_topi (fun x32 e33 => ?_)
          obtain rfl : x32 = ((fW F T dd n cnt b wy) (cf F T (oW F T dd n cnt b) a k)) := by rw [e33, nI_clamp (by omega)]
          clear e33
          refine lv_topi (fun x34 e35 => ?_)
          obtain rfl : x34 = ((oW F T dd n cnt b) (cf F T (oW F T dd n cnt b) a k)) := by rw [e35]; exact hag _ (Nat.lt_of_lt_of_le hcf hn)
          clear e35
          refine lv_iconst (v := (-1)) hx hb dX0_find_53 (by decide) ?_
          refine lv_icmp_eq (tgt := 75) hx hb dX0_find_54 (by decide) (fun c54 => ?_) (fun c54 => ?_)
          · have hKK : fK F T (oW F T dd n cnt b) n a b = k := by rw [hst]; exact stp_stop (by simp [stc, c54])
            refine lv_iload_n hx hb dX0_find_75 rfl (lv_at hl 3 rfl) ?_
            refine lv_iload_n hx hb dX0_find_76 rfl (lv_at hl 2 rfl) ?_
            refine lv_icmp_ne (tgt := 84) hx hb dX0_find_77 (by decide) (fun c77 => ?_) (fun c77 => ?_)
            · have c77 := n_ne (a := cf F T (oW F T dd n cnt b) a k) (b := b) (by omega) (by omega) c77
              refine lv_iconst (v := 0) hx hb dX0_find_84 (by decide) ?_
              have r36 : 0 = (bI (decide (cf F T (oW F T dd n cnt b) a (fK F T (oW F T dd n cnt b) n a b) = b))) := by rw [hKK]; simp [c77, bI]
              have q37 : (nI (fK F T (oW F T dd n cnt b) n a b)) = (nI k) := by rw [hKK]
              have q38 : (gN F T nm (oW F T dd n cnt b) a (fK F T (oW F T dd n cnt b) n a b)) = (gN F T nm (oW F T dd n cnt b) a k) := by rw [hKK]
              have q39 : (gL F T nm lo up (oW F T dd n cnt b) a (fK F T (oW F T dd n cnt b) n a b)) = (gL F T nm lo up (oW F T dd n cnt b) a k) := by rw [hKK]
              have q40 : (gG F T nm lo up (oW F T dd n cnt b) a (fK F T (oW F T dd n cnt b) n a b)) = (gG F T nm lo up (oW F T dd n cnt b) a k) := by rw [hKK]
              have hP9 : va_P (dC, dI) vwCl [(aH, .inr (0, [.ref aD, .ref aR, .ref aHW, .ref aHL, .int (nI (fK F T (oW F T dd n cnt b) n a b)), .int (gN F T nm (oW F T dd n cnt b) a (fK F T (oW F T dd n cnt b) n a b)), .int (gL F T nm lo up (oW F T dd n cnt b) a (fK F T (oW F T dd n cnt b) n a b)), .int (gG F T nm lo up (oW F T dd n cnt b) a (fK F T (oW F T dd n cnt b) n a b))])), (aD, .inr (2, [.ref aR, .ref aDL, .ref aDD, .int (nI n)])), (aDD, .inl (cyZ, 20, .inl (fun j_ => bI (dd j_)))), (aR, .inr (1, [.ref aRF, .ref aRT, .ref aRN, .ref aRL, .ref aRU, .int (nI cnt)])), (aRF, .inl (cyI, 20, .inl (fun j_ => nI (F j_)))), (aRT, .inl (cyI, 20, .inl (fun j_ => nI (T j_)))), (aRN, .inl (cyI, 20, .inl nm)), (aRL, .inl (cyI, 20, .inl lo)), (aRU, .inl (cyI, 20, .inl up)), (aHW, .inl (cyI, 12, .inl (fW F T dd n cnt b wy))), (aHL, .inl (cyI, 12, .inl (fun j_ => nI ((clk F T (oW F T dd n cnt b) a L k) j_))))] H := by first | (rw [q37, q38, q39, q40]; exact hP.sub [0, 1, 2, 3, 4, 5, 6, 7, 8, 9, 10] rfl) | (simp only [q37, q38, q39, q40]; exact hP.sub [0, 1, 2, 3, 4, 5, 6, 7, 8, 9, 10] rfl) | exact hP.sub [0, 1, 2, 3, 4, 5, 6, 7, 8, 9, 10] rfl
              have hD9 : va_D A [(aH, .inr (0, [.ref aD, .ref aR, .ref aHW, .ref aHL, .int (nI (fK F T (oW F T dd n cnt b) n a b)), .int (gN F T nm (oW F T dd n cnt b) a (fK F T (oW F T dd n cnt b) n a b)), .int (gL F T nm lo up (oW F T dd n cnt b) a (fK F T (oW F T dd n cnt b) n a b)), .int (gG F T nm lo up (oW F T dd n cnt b) a (fK F T (oW F T dd n cnt b) n a b))])), (aD, .inr (2, [.ref aR, .ref aDL, .ref aDD, .int (nI n)])), (aDD, .inl (cyZ, 20, .inl (fun j_ => bI (dd j_)))), (aR, .inr (1, [.ref aRF, .ref aRT, .ref aRN, .ref aRL, .ref aRU, .int (nI cnt)])), (aRF, .inl (cyI, 20, .inl (fun j_ => nI (F j_)))), (aRT, .inl (cyI, 20, .inl (fun j_ => nI (T j_)))), (aRN, .inl (cyI, 20, .inl nm)), (aRL, .inl (cyI, 20, .inl lo)), (aRU, .inl (cyI, 20, .inl up)), (aHW, .inl (cyI, 12, .inl (fW F T dd n cnt b wy))), (aHL, .inl (cyI, 12, .inl (fun j_ => nI ((clk F T (oW F T dd n cnt b) a L k) j_))))] := by first | (rw [q37, q38, q39, q40]; exact hD.sub [0, 1, 2, 3, 4, 5, 6, 7, 8, 9, 10] (by decide) rfl) | (simp only [q37, q38, q39, q40]; exact hD.sub [0, 1, 2, 3, 4, 5, 6, 7, 8, 9, 10] (by decide) rfl) | exact hD.sub [0, 1, 2, 3, 4, 5, 6, 7, 8, 9, 10] (by decide) rfl
              have p41 : ∀ k_q, k_q < (fK F T (oW F T dd n cnt b) n a b) → (clk F T (oW F T dd n cnt b) a L k) k_q = ((oW F T dd n cnt b) (cf F T (oW F T dd n cnt b) a k_q)).toNatClampNeg := by rw [hKK]; intro j hj; rw [clk_at, if_pos hj]
              subst hAe
              subst hQe
              exact W.zret (v := 0) hx hb hr rfl (fun t ht hW => ⟨⟨_, (), rfl, r36, (fW F T dd n cnt b wy), (clk F T (oW F T dd n cnt b) a L k), p41, by rw [ht]; exact hP9, va_K.moved hW.alike hK, hD9⟩, hS.F ht⟩) hS.2.2 dX0_find_85
            · have c77 := n_eq (a := cf F T (oW F T dd n cnt b) a k) (b := b) (by omega) (by omega) c77
              refine lv_iconst (v := 1) hx hb dX0_find_80 (by decide) ?_
              refine lv_goto (tgt := 85) hx hb dX0_find_81 (by decide) ?_
              have r42 : 1 = (bI (decide (cf F T (oW F T dd n cnt b) a (fK F T (oW F T dd n cnt b) n a b) = b))) := by rw [hKK]; simp [c77, bI]
              have q43 : (nI (fK F T (oW F T dd n cnt b) n a b)) = (nI k) := by rw [hKK]
              have q44 : (gN F T nm (oW F T dd n cnt b) a (fK F T (oW F T dd n cnt b) n a b)) = (gN F T nm (oW F T dd n cnt b) a k) := by rw [hKK]
              have q45 : (gL F T nm lo up (oW F T dd n cnt b) a (fK F T (oW F T dd n cnt b) n a b)) = (gL F T nm lo up (oW F T dd n cnt b) a k) := by rw [hKK]
              have q46 : (gG F T nm lo up (oW F T dd n cnt b) a (fK F T (oW F T dd n cnt b) n a b)) = (gG F T nm lo up (oW F T dd n cnt b) a k) := by rw [hKK]
              have hP9 : va_P (dC, dI) vwCl [(aH, .inr (0, [.ref aD, .ref aR, .ref aHW, .ref aHL, .int (nI (fK F T (oW F T dd n cnt b) n a b)), .int (gN F T nm (oW F T dd n cnt b) a (fK F T (oW F T dd n cnt b) n a b)), .int (gL F T nm lo up (oW F T dd n cnt b) a (fK F T (oW F T dd n cnt b) n a b)), .int (gG F T nm lo up (oW F T dd n cnt b) a (fK F T (oW F T dd n cnt b) n a b))])), (aD, .inr (2, [.ref aR, .ref aDL, .ref aDD, .int (nI n)])), (aDD, .inl (cyZ, 20, .inl (fun j_ => bI (dd j_)))), (aR, .inr (1, [.ref aRF, .ref aRT, .ref aRN, .ref aRL, .ref aRU, .int (nI cnt)])), (aRF, .inl (cyI, 20, .inl (fun j_ => nI (F j_)))), (aRT, .inl (cyI, 20, .inl (fun j_ => nI (T j_)))), (aRN, .inl (cyI, 20, .inl nm)), (aRL, .inl (cyI, 20, .inl lo)), (aRU, .inl (cyI, 20, .inl up)), (aHW, .inl (cyI, 12, .inl (fW F T dd n cnt b wy))), (aHL, .inl (cyI, 12, .inl (fun j_ => nI ((clk F T (oW F T dd n cnt b) a L k) j_))))] H := by first | (rw [q43, q44, q45, q46]; exact hP.sub [0, 1, 2, 3, 4, 5, 6, 7, 8, 9, 10] rfl) | (simp only [q43, q44, q45, q46]; exact hP.sub [0, 1, 2, 3, 4, 5, 6, 7, 8, 9, 10] rfl) | exact hP.sub [0, 1, 2, 3, 4, 5, 6, 7, 8, 9, 10] rfl
              have hD9 : va_D A [(aH, .inr (0, [.ref aD, .ref aR, .ref aHW, .ref aHL, .int (nI (fK F T (oW F T dd n cnt b) n a b)), .int (gN F T nm (oW F T dd n cnt b) a (fK F T (oW F T dd n cnt b) n a b)), .int (gL F T nm lo up (oW F T dd n cnt b) a (fK F T (oW F T dd n cnt b) n a b)), .int (gG F T nm lo up (oW F T dd n cnt b) a (fK F T (oW F T dd n cnt b) n a b))])), (aD, .inr (2, [.ref aR, .ref aDL, .ref aDD, .int (nI n)])), (aDD, .inl (cyZ, 20, .inl (fun j_ => bI (dd j_)))), (aR, .inr (1, [.ref aRF, .ref aRT, .ref aRN, .ref aRL, .ref aRU, .int (nI cnt)])), (aRF, .inl (cyI, 20, .inl (fun j_ => nI (F j_)))), (aRT, .inl (cyI, 20, .inl (fun j_ => nI (T j_)))), (aRN, .inl (cyI, 20, .inl nm)), (aRL, .inl (cyI, 20, .inl lo)), (aRU, .inl (cyI, 20, .inl up)), (aHW, .inl (cyI, 12, .inl (fW F T dd n cnt b wy))), (aHL, .inl (cyI, 12, .inl (fun j_ => nI ((clk F T (oW F T dd n cnt b) a L k) j_))))] := by first | (rw [q43, q44, q45, q46]; exact hD.sub [0, 1, 2, 3, 4, 5, 6, 7, 8, 9, 10] (by decide) rfl) | (simp only [q43, q44, q45, q46]; exact hD.sub [0, 1, 2, 3, 4, 5, 6, 7, 8, 9, 10] (by decide) rfl) | exact hD.sub [0, 1, 2, 3, 4, 5, 6, 7, 8, 9, 10] (by decide) rfl
              have p47 : ∀ k_q, k_q < (fK F T (oW F T dd n cnt b) n a b) → (clk F T (oW F T dd n cnt b) a L k) k_q = ((oW F T dd n cnt b) (cf F T (oW F T dd n cnt b) a k_q)).toNatClampNeg := by rw [hKK]; intro j hj; rw [clk_at, if_pos hj]
              subst hAe
              subst hQe
              exact W.zret (v := 1) hx hb hr rfl (fun t ht hW => ⟨⟨_, (), rfl, r42, (fW F T dd n cnt b wy), (clk F T (oW F T dd n cnt b) a L k), p47, by rw [ht]; exact hP9, va_K.moved hW.alike hK, hD9⟩, hS.F ht⟩) hS.2.2 dX0_find_85
          · obtain ⟨dv, hdv, ev⟩ := oW_val F T dd n cnt b _ (Nat.lt_of_lt_of_le hcf hn) c54
            have hix : ((oW F T dd n cnt b) (cf F T (oW F T dd n cnt b) a k)).toNatClampNeg = dv := by rw [ev]; exact nI_clamp (by omega)
            have hFd := hF dv hdv
            have hTd := hT dv hdv
            have hst2 : fK F T (oW F T dd n cnt b) n a b = stp (stc F T (oW F T dd n cnt b) a b) (n - (k + 1)) (k + 1) := by rw [hst]; exact stp_step (by omega) (by simp [stc, c44, c54])
            refine lv_aload_n hx hb dX0_find_57 rfl (lv_at hl 0 rfl) ?_
            refine lv_aload_n hx hb dX0_find_58 rfl (lv_at hl 0 rfl) ?_
            refine va_get (D := (dC, dI)) (ci := 0) (v := .ref aHW) (C := RX0) (T := TX0) (N := 8) hx hb hts iX0 hown hK hP 0 rfl rfl 2 (by decide) w6 (fun _ h9 => h9) rfl dX0_find_59 ?_
            refine lv_iload_n hx hb dX0_find_62 rfl (lv_at hl 3 rfl) ?_
            have h48 : vp_in (nI (cf F T (oW F T dd n cnt b) a k)) 12 := by first | exact vp_in_nI (by omega) (by omega) | assumption
            refine va_iald hx hb hK hP 9 0 rfl rfl h48 dX0_find_63 ?_
            refine lv_topi (fun x49 e50 => ?_)
            obtain rfl : x49 = ((fW F T dd n cnt b wy) (cf F T (oW F T dd n cnt b) a k)) := by rw [e50, nI_clamp (by omega)]
            clear e50
            refine lv_topi (fun x51 e52 => ?_)
            obtain rfl : x51 = (nI (((oW F T dd n cnt b) (cf F T (oW F T dd n cnt b) a k)).toNatClampNeg)) := by rw [e52, hag _ (Nat.lt_of_lt_of_le hcf hn), hix]; exact ev
            clear e52
            refine lv_iload_n hx hb dX0_find_64 rfl (lv_at hl 3 rfl) ?_
            have g53 : (((oW F T dd n cnt b) (cf F T (oW F T dd n cnt b) a k)).toNatClampNeg) < 20 := by omega
            have g54 : k < 12 := by first | assumption | omega | exact vp_in_nI (by omega) (by omega)
            have g55 : F (((oW F T dd n cnt b) (cf F T (oW F T dd n cnt b) a k)).toNatClampNeg) < 12 := by rw [hix]; omega
            have g56 : (cf F T (oW F T dd n cnt b) a k) < 12 := by first | assumption | omega | exact vp_in_nI (by omega) (by omega)
            have hPc := hP.sub (ws' := [(aH, .inr (0, [.ref aD, .ref aR, .ref aHW, .ref aHL, .int (nI k), .int (gN F T nm (oW F T dd n cnt b) a k), .int (gL F T nm lo up (oW F T dd n cnt b) a k), .int (gG F T nm lo up (oW F T dd n cnt b) a k)])), (aHL, .inl (cyI, 12, .inl (fun j_ => nI ((clk F T (oW F T dd n cnt b) a L k) j_)))), (aR, .inr (1, [.ref aRF, .ref aRT, .ref aRN, .ref aRL, .ref aRU, .int (nI cnt)])), (aRF, .inl (cyI, 20, .inl (fun j_ => nI (F j_)))), (aRT, .inl (cyI, 20, .inl (fun j_ => nI (T j_)))), (aRN, .inl (cyI, 20, .inl nm)), (aRL, .inl (cyI, 20, .inl lo)), (aRU, .inl (cyI, 20, .inl up))]) [0, 10, 3, 4, 5, 6, 7, 8] rfl
            have hDc := hD.sub (ws' := [(aH, .inr (0, [.ref aD, .ref aR, .ref aHW, .ref aHL, .int (nI k), .int (gN F T nm (oW F T dd n cnt b) a k), .int (gL F T nm lo up (oW F T dd n cnt b) a k), .int (gG F T nm lo up (oW F T dd n cnt b) a k)])), (aHL, .inl (cyI, 12, .inl (fun j_ => nI ((clk F T (oW F T dd n cnt b) a L k) j_)))), (aR, .inr (1, [.ref aRF, .ref aRT, .ref aRN, .ref aRL, .ref aRU, .int (nI cnt)])), (aRF, .inl (cyI, 20, .inl (fun j_ => nI (F j_)))), (aRT, .inl (cyI, 20, .inl (fun j_ => nI (T j_)))), (aRN, .inl (cyI, 20, .inl nm)), (aRL, .inl (cyI, 20, .inl lo)), (aRU, .inl (cyI, 20, .inl up))]) [0, 10, 3, 4, 5, 6, 7, 8] (by decide) rfl
            have hFc := va_free (wc := [(aH, .inr (0, [.ref aD, .ref aR, .ref aHW, .ref aHL, .int (nI k), .int (gN F T nm (oW F T dd n cnt b) a k), .int (gL F T nm lo up (oW F T dd n cnt b) a k), .int (gG F T nm lo up (oW F T dd n cnt b) a k)])), (aHL, .inl (cyI, 12, .inl (fun j_ => nI ((clk F T (oW F T dd n cnt b) a L k) j_)))), (aR, .inr (1, [.ref aRF, .ref aRT, .ref aRN, .ref aRL, .ref aRU, .int (nI cnt)])), (aRF, .inl (cyI, 20, .inl (fun j_ => nI (F j_)))), (aRT, .inl (cyI, 20, .inl (fun j_ => nI (T j_)))), (aRN, .inl (cyI, 20, .inl nm)), (aRL, .inl (cyI, 20, .inl lo)), (aRU, .inl (cyI, 20, .inl up))]) hD hS hA [0, 10, 3, 4, 5, 6, 7, 8] rfl
            refine va_calli (va_runV (As := [.int (nI (((oW F T dd n cnt b) (cf F T (oW F T dd n cnt b) a k)).toNatClampNeg)), .int (nI (cf F T (oW F T dd n cnt b) a k))]) (rest := []) ⟨hx, hb, hml, hown, hts⟩ (c_X0_pass l dC dI cyI cyZ cyJ cyD aH aD aR aHW aHL aRF aRT aRN aRL aRU H.size k (gN F T nm (oW F T dd n cnt b) a k) (gL F T nm lo up (oW F T dd n cnt b) a k) (gG F T nm lo up (oW F T dd n cnt b) a k) (clk F T (oW F T dd n cnt b) a L k) F T nm lo up cnt (((oW F T dd n cnt b) (cf F T (oW F T dd n cnt b) a k)).toNatClampNeg) (cf F T (oW F T dd n cnt b) a k) g53 g54 g55 g56) (cwV 2 hts gX0_find_X0_pass rfl rfl rfl (by decide +kernel) ⟨Nat.le_of_ble_eq_true rfl, Nat.le_of_ble_eq_true rfl⟩) ⟨fun a U g mk q => by obtain ⟨q0, q1, qP, qK, qD⟩ := q; exact ⟨q0, q1, qP, va_K.moved (u := U) (U := U.calling g mk a) (Vm.Alike.refl U.vm) qK, qD⟩, va_recv hK hPc (ci := 0) (q0 := 0) rfl rfl, fun U hU hW => ⟨rfl, by rw [hU], by rw [hU]; exact hPc, va_K.moved hW.alike hK, hDc.weaken (fun _ _ _ _ => trivial)⟩⟩ rfl rfl hl.1 rfl (lv_room (Nat.le_of_ble_eq_true rfl)) dX0_find_65 ⟨Nat.le_of_ble_eq_true rfl, Nat.le_of_ble_eq_true rfl⟩) hS (fun q _ h => hFc q h) hFc (fun r u t H1 locs ht hvm hw hB hz1 hk1 hS => ?_)
            obtain rfl := hw
            obtain ⟨hP1, hK1, hD1⟩ := hB
            rw [ht] at hP1
            obtain ⟨hP, hD⟩ := va_join (wr := [(aD, .inr (2, [.ref aR, .ref aDL, .ref aDD, .int (nI n)])), (aDD, .inl (cyZ, 20, .inl (fun j_ => bI (dd j_)))), (aHW, .inl (cyI, 12, .inl (fW F T dd n cnt b wy)))]) (w1 := [(aH, .inr (0, [.ref aD, .ref aR, .ref aHW, .ref aHL, .int (nI (k + 1)), .int (if F (((oW F T dd n cnt b) (cf F T (oW F T dd n cnt b) a k)).toNatClampNeg) = (cf F T (oW F T dd n cnt b) a k) then (gN F T nm (oW F T dd n cnt b) a k) + nm (((oW F T dd n cnt b) (cf F T (oW F T dd n cnt b) a k)).toNatClampNeg) else (gN F T nm (oW F T dd n cnt b) a k) - nm (((oW F T dd n cnt b) (cf F T (oW F T dd n cnt b) a k)).toNatClampNeg)), .int (if F (((oW F T dd n cnt b) (cf F T (oW F T dd n cnt b) a k)).toNatClampNeg) = (cf F T (oW F T dd n cnt b) a k) then (gL F T nm lo up (oW F T dd n cnt b) a k) + (nm (((oW F T dd n cnt b) (cf F T (oW F T dd n cnt b) a k)).toNatClampNeg) + lo (((oW F T dd n cnt b) (cf F T (oW F T dd n cnt b) a k)).toNatClampNeg)) else (gL F T nm lo up (oW F T dd n cnt b) a k) - (nm (((oW F T dd n cnt b) (cf F T (oW F T dd n cnt b) a k)).toNatClampNeg) + up (((oW F T dd n cnt b) (cf F T (oW F T dd n cnt b) a k)).toNatClampNeg))), .int (if F (((oW F T dd n cnt b) (cf F T (oW F T dd n cnt b) a k)).toNatClampNeg) = (cf F T (oW F T dd n cnt b) a k) then (gG F T nm lo up (oW F T dd n cnt b) a k) + (nm (((oW F T dd n cnt b) (cf F T (oW F T dd n cnt b) a k)).toNatClampNeg) + up (((oW F T dd n cnt b) (cf F T (oW F T dd n cnt b) a k)).toNatClampNeg)) else (gG F T nm lo up (oW F T dd n cnt b) a k) - (nm (((oW F T dd n cnt b) (cf F T (oW F T dd n cnt b) a k)).toNatClampNeg) + lo (((oW F T dd n cnt b) (cf F T (oW F T dd n cnt b) a k)).toNatClampNeg)))])), (aHL, .inl (cyI, 12, .inl (fun j_ => nI ((updN (clk F T (oW F T dd n cnt b) a L k) k (((oW F T dd n cnt b) (cf F T (oW F T dd n cnt b) a k)).toNatClampNeg)) j_)))), (aR, .inr (1, [.ref aRF, .ref aRT, .ref aRN, .ref aRL, .ref aRU, .int (nI cnt)])), (aRF, .inl (cyI, 20, .inl (fun j_ => nI (F j_)))), (aRT, .inl (cyI, 20, .inl (fun j_ => nI (T j_)))), (aRN, .inl (cyI, 20, .inl nm)), (aRL, .inl (cyI, 20, .inl lo)), (aRU, .inl (cyI, 20, .inl up))]) hP hD [0, 10, 3, 4, 5, 6, 7, 8] [1, 2, 9] rfl rfl (by decide) (by decide) hk1 hFc hP1 hD1
            clear hP1 hD1 hK1 hPc hDc hFc hk1 hz1 hvm ht u t
            generalize H1 = H at hP hS ⊢
            have hP : va_P (dC, dI) vwCl [(aD, .inr (2, [.ref aR, .ref aDL, .ref aDD, .int (nI n)])), (aDD, .inl (cyZ, 20, .inl (fun j_ => bI (dd j_)))), (aHW, .inl (cyI, 12, .inl (fW F T dd n cnt b wy))), (aH, .inr (0, [.ref aD, .ref aR, .ref aHW, .ref aHL, .int (nI (k + 1)), .int (if F (((oW F T dd n cnt b) (cf F T (oW F T dd n cnt b) a k)).toNatClampNeg) = (cf F T (oW F T dd n cnt b) a k) then (gN F T nm (oW F T dd n cnt b) a k) + nm (((oW F T dd n cnt b) (cf F T (oW F T dd n cnt b) a k)).toNatClampNeg) else (gN F T nm (oW F T dd n cnt b) a k) - nm (((oW F T dd n cnt b) (cf F T (oW F T dd n cnt b) a k)).toNatClampNeg)), .int (if F (((oW F T dd n cnt b) (cf F T (oW F T dd n cnt b) a k)).toNatClampNeg) = (cf F T (oW F T dd n cnt b) a k) then (gL F T nm lo up (oW F T dd n cnt b) a k) + (nm (((oW F T dd n cnt b) (cf F T (oW F T dd n cnt b) a k)).toNatClampNeg) + lo (((oW F T dd n cnt b) (cf F T (oW F T dd n cnt b) a k)).toNatClampNeg)) else (gL F T nm lo up (oW F T dd n cnt b) a k) - (nm (((oW F T dd n cnt b) (cf F T (oW F T dd n cnt b) a k)).toNatClampNeg) + up (((oW F T dd n cnt b) (cf F T (oW F T dd n cnt b) a k)).toNatClampNeg))), .int (if F (((oW F T dd n cnt b) (cf F T (oW F T dd n cnt b) a k)).toNatClampNeg) = (cf F T (oW F T dd n cnt b) a k) then (gG F T nm lo up (oW F T dd n cnt b) a k) + (nm (((oW F T dd n cnt b) (cf F T (oW F T dd n cnt b) a k)).toNatClampNeg) + up (((oW F T dd n cnt b) (cf F T (oW F T dd n cnt b) a k)).toNatClampNeg)) else (gG F T nm lo up (oW F T dd n cnt b) a k) - (nm (((oW F T dd n cnt b) (cf F T (oW F T dd n cnt b) a k)).toNatClampNeg) + lo (((oW F T dd n cnt b) (cf F T (oW F T dd n cnt b) a k)).toNatClampNeg)))])), (aHL, .inl (cyI, 12, .inl (fun j_ => nI ((updN (clk F T (oW F T dd n cnt b) a L k) k (((oW F T dd n cnt b) (cf F T (oW F T dd n cnt b) a k)).toNatClampNeg)) j_)))), (aR, .inr (1, [.ref aRF, .ref aRT, .ref aRN, .ref aRL, .ref aRU, .int (nI cnt)])), (aRF, .inl (cyI, 20, .inl (fun j_ => nI (F j_)))), (aRT, .inl (cyI, 20, .inl (fun j_ => nI (T j_)))), (aRN, .inl (cyI, 20, .inl nm)), (aRL, .inl (cyI, 20, .inl lo)), (aRU, .inl (cyI, 20, .inl up))] H := hP
            have hD : va_D A [(aD, .inr (2, [.ref aR, .ref aDL, .ref aDD, .int (nI n)])), (aDD, .inl (cyZ, 20, .inl (fun j_ => bI (dd j_)))), (aHW, .inl (cyI, 12, .inl (fW F T dd n cnt b wy))), (aH, .inr (0, [.ref aD, .ref aR, .ref aHW, .ref aHL, .int (nI (k + 1)), .int (if F (((oW F T dd n cnt b) (cf F T (oW F T dd n cnt b) a k)).toNatClampNeg) = (cf F T (oW F T dd n cnt b) a k) then (gN F T nm (oW F T dd n cnt b) a k) + nm (((oW F T dd n cnt b) (cf F T (oW F T dd n cnt b) a k)).toNatClampNeg) else (gN F T nm (oW F T dd n cnt b) a k) - nm (((oW F T dd n cnt b) (cf F T (oW F T dd n cnt b) a k)).toNatClampNeg)), .int (if F (((oW F T dd n cnt b) (cf F T (oW F T dd n cnt b) a k)).toNatClampNeg) = (cf F T (oW F T dd n cnt b) a k) then (gL F T nm lo up (oW F T dd n cnt b) a k) + (nm (((oW F T dd n cnt b) (cf F T (oW F T dd n cnt b) a k)).toNatClampNeg) + lo (((oW F T dd n cnt b) (cf F T (oW F T dd n cnt b) a k)).toNatClampNeg)) else (gL F T nm lo up (oW F T dd n cnt b) a k) - (nm (((oW F T dd n cnt b) (cf F T (oW F T dd n cnt b) a k)).toNatClampNeg) + up (((oW F T dd n cnt b) (cf F T (oW F T dd n cnt b) a k)).toNatClampNeg))), .int (if F (((oW F T dd n cnt b) (cf F T (oW F T dd n cnt b) a k)).toNatClampNeg) = (cf F T (oW F T dd n cnt b) a k) then (gG F T nm lo up (oW F T dd n cnt b) a k) + (nm (((oW F T dd n cnt b) (cf F T (oW F T dd n cnt b) a k)).toNatClampNeg) + up (((oW F T dd n cnt b) (cf F T (oW F T dd n cnt b) a k)).toNatClampNeg)) else (gG F T nm lo up (oW F T dd n cnt b) a k) - (nm (((oW F T dd n cnt b) (cf F T (oW F T dd n cnt b) a k)).toNatClampNeg) + lo (((oW F T dd n cnt b) (cf F T (oW F T dd n cnt b) a k)).toNatClampNeg)))])), (aHL, .inl (cyI, 12, .inl (fun j_ => nI ((updN (clk F T (oW F T dd n cnt b) a L k) k (((oW F T dd n cnt b) (cf F T (oW F T dd n cnt b) a k)).toNatClampNeg)) j_)))), (aR, .inr (1, [.ref aRF, .ref aRT, .ref aRN, .ref aRL, .ref aRU, .int (nI cnt)])), (aRF, .inl (cyI, 20, .inl (fun j_ => nI (F j_)))), (aRT, .inl (cyI, 20, .inl (fun j_ => nI (T j_)))), (aRN, .inl (cyI, 20, .inl nm)), (aRL, .inl (cyI, 20, .inl lo)), (aRU, .inl (cyI, 20, .inl up))] := hD
            refine lv_istore_n (lv' := [(3, .int (nI (if F (((oW F T dd n cnt b) (cf F T (oW F T dd n cnt b) a k)).toNatClampNeg) = (cf F T (oW F T dd n cnt b) a k) then T (((oW F T dd n cnt b) (cf F T (oW F T dd n cnt b) a k)).toNatClampNeg) else F (((oW F T dd n cnt b) (cf F T (oW F T dd n cnt b) a k)).toNatClampNeg)))), (0, .ref aH), (1, .int (nI a)), (2, .int (nI b)), (4, .int (nI k))]) hx hb dX0_find_68 rfl hl (by decide) rfl (fun ls hl => ?_)
            refine lv_iinc (v := nI (k + 1)) (lv' := [(4, .int (nI (k + 1))), (3, .int (nI (if F (((oW F T dd n cnt b) (cf F T (oW F T dd n cnt b) a k)).toNatClampNeg) = (cf F T (oW F T dd n cnt b) a k) then T (((oW F T dd n cnt b) (cf F T (oW F T dd n cnt b) a k)).toNatClampNeg) else F (((oW F T dd n cnt b) (cf F T (oW F T dd n cnt b) a k)).toNatClampNeg)))), (0, .ref aH), (1, .int (nI a)), (2, .int (nI b))]) hx hb dX0_find_69 hl (k := 4) rfl (nI_add k 1) (by decide) rfl (fun ls hl => ?_)
            refine lv_goto (tgt := 30) hx hb dX0_find_72 (by decide) ?_
            have q57 : (gN F T nm (oW F T dd n cnt b) a (k + 1)) = (if F (((oW F T dd n cnt b) (cf F T (oW F T dd n cnt b) a k)).toNatClampNeg) = (cf F T (oW F T dd n cnt b) a k) then (gN F T nm (oW F T dd n cnt b) a k) + nm (((oW F T dd n cnt b) (cf F T (oW F T dd n cnt b) a k)).toNatClampNeg) else (gN F T nm (oW F T dd n cnt b) a k) - nm (((oW F T dd n cnt b) (cf F T (oW F T dd n cnt b) a k)).toNatClampNeg)) := by rfl
            have q58 : (gL F T nm lo up (oW F T dd n cnt b) a (k + 1)) = (if F (((oW F T dd n cnt b) (cf F T (oW F T dd n cnt b) a k)).toNatClampNeg) = (cf F T (oW F T dd n cnt b) a k) then (gL F T nm lo up (oW F T dd n cnt b) a k) + (nm (((oW F T dd n cnt b) (cf F T (oW F T dd n cnt b) a k)).toNatClampNeg) + lo (((oW F T dd n cnt b) (cf F T (oW F T dd n cnt b) a k)).toNatClampNeg)) else (gL F T nm lo up (oW F T dd n cnt b) a k) - (nm (((oW F T dd n cnt b) (cf F T (oW F T dd n cnt b) a k)).toNatClampNeg) + up (((oW F T dd n cnt b) (cf F T (oW F T dd n cnt b) a k)).toNatClampNeg))) := by rfl
            have q59 : (gG F T nm lo up (oW F T dd n cnt b) a (k + 1)) = (if F (((oW F T dd n cnt b) (cf F T (oW F T dd n cnt b) a k)).toNatClampNeg) = (cf F T (oW F T dd n cnt b) a k) then (gG F T nm lo up (oW F T dd n cnt b) a k) + (nm (((oW F T dd n cnt b) (cf F T (oW F T dd n cnt b) a k)).toNatClampNeg) + up (((oW F T dd n cnt b) (cf F T (oW F T dd n cnt b) a k)).toNatClampNeg)) else (gG F T nm lo up (oW F T dd n cnt b) a k) - (nm (((oW F T dd n cnt b) (cf F T (oW F T dd n cnt b) a k)).toNatClampNeg) + lo (((oW F T dd n cnt b) (cf F T (oW F T dd n cnt b) a k)).toNatClampNeg))) := by rfl
            have q60 : (clk F T (oW F T dd n cnt b) a L (k + 1)) = (updN (clk F T (oW F T dd n cnt b) a L k) k (((oW F T dd n cnt b) (cf F T (oW F T dd n cnt b) a k)).toNatClampNeg)) := by rfl
            have q61 : (nI (cf F T (oW F T dd n cnt b) a (k + 1))) = (nI (if F (((oW F T dd n cnt b) (cf F T (oW F T dd n cnt b) a k)).toNatClampNeg) = (cf F T (oW F T dd n cnt b) a k) then T (((oW F T dd n cnt b) (cf F T (oW F T dd n cnt b) a k)).toNatClampNeg) else F (((oW F T dd n cnt b) (cf F T (oW F T dd n cnt b) a k)).toNatClampNeg))) := by rfl
            exact ih30 (k + 1) (by omega) (by first | assumption | omega) (by simp only [cf]; rw [hix]; split <;> omega) (by exact hst2) _ _ _ (by first | (rw [q57, q58, q59, q60]; exact hP.sub [3, 0, 1, 5, 6, 7, 8, 9, 10, 2, 4] rfl) | (simp only [q57, q58, q59, q60]; exact hP.sub [3, 0, 1, 5, 6, 7, 8, 9, 10, 2, 4] rfl) | exact hP.sub [3, 0, 1, 5, 6, 7, 8, 9, 10, 2, 4] rfl) (by first | (rw [q57, q58, q59, q60]; exact hD.sub [3, 0, 1, 5, 6, 7, 8, 9, 10, 2, 4] (by decide) rfl) | (simp only [q57, q58, q59, q60]; exact hD.sub [3, 0, 1, 5, 6, 7, 8, 9, 10, 2, 4] (by decide) rfl) | exact hD.sub [3, 0, 1, 5, 6, 7, 8, 9, 10, 2, 4] (by decide) rfl) hS (by first | (rw [q61]; exact lv_sub hl [2, 3, 4, 1, 0] rfl) | (simp only [q61]; exact lv_sub hl [2, 3, 4, 1, 0] rfl) | exact lv_sub hl [2, 3, 4, 1, 0] rfl)
  have q62 : (nI 0) = 0 := by first | rfl | simp [*] | (simp only [*]; done)
  have q63 : (gN F T nm (oW F T dd n cnt b) a 0) = 0 := by rfl
  have q64 : (gL F T nm lo up (oW F T dd n cnt b) a 0) = 0 := by rfl
  have q65 : (gG F T nm lo up (oW F T dd n cnt b) a 0) = 0 := by rfl
  have q66 : (fW F T dd n cnt b wy) = (ewR F T dd b cnt (flI wy (-1) 12) (n - 1)) := by rfl
  have q67 : (clk F T (oW F T dd n cnt b) a L 0) = L := by rfl
  have q68 : (nI (cf F T (oW F T dd n cnt b) a 0)) = (nI a) := by rfl
  have q69 : (nI 0) = 0 := by first | rfl | simp [*] | (simp only [*]; done)
  exact k30 (n - 0 + 1) 0 (Nat.lt_succ_self _) (by first | assumption | omega) (by exact ha) (by rfl) _ _ _ (by first | (rw [q62, q63, q64, q65, q66, q67]; exact hP.sub [4, 5, 6, 7, 8, 9, 0, 1, 2, 10, 3] rfl) | (simp only [q62, q63, q64, q65, q66, q67]; exact hP.sub [4, 5, 6, 7, 8, 9, 0, 1, 2, 10, 3] rfl) | exact hP.sub [4, 5, 6, 7, 8, 9, 0, 1, 2, 10, 3] rfl) (by first | (rw [q62, q63, q64, q65, q66, q67]; exact hD.sub [4, 5, 6, 7, 8, 9, 0, 1, 2, 10, 3] (by decide) rfl) | (simp only [q62, q63, q64, q65, q66, q67]; exact hD.sub [4, 5, 6, 7, 8, 9, 0, 1, 2, 10, 3] (by decide) rfl) | exact hD.sub [4, 5, 6, 7, 8, 9, 0, 1, 2, 10, 3] (by decide) rfl) hS (by first | (rw [q68, q69]; exact lv_sub hl [2, 3, 4, 1, 0] rfl) | (simp only [q68, q69]; exact lv_sub hl [2, 3, 4, 1, 0] rfl) | exact lv_sub hl [2, 3, 4, 1, 0] rfl)
set_option maxHeartbeats 4000000 in
set_option maxRecDepth 100000 in
theorem c_X0_holds (l : Launch) (dC : Nat → ClassId) (dI : Nat → Nat → Nat) (cyI cyZ cyJ cyD : ClassId) (aH aD aR aHW aHL : Nat) (zH : Nat) (len : Nat) (hN : Int32) (hL : Int32) (hG : Int32) (L : Nat → Nat) (x : Nat) (hlen : len ≤ 12) (hL0 : ∀ k_q, k_q < len → L k_q < 20) (hx0 : x < 20) : Met l yX0_holds wsX0_holds ({ frames := 0, cells := 0, slots := 0, locals := 0 } : Room) (va_Pc [.ref aH, .int (nI x)] (fun U => U.heap.size = zH ∧ va_P (dC, dI) vwCl [(aH, .inr (0, [.ref aD, .ref aR, .ref aHW, .ref aHL, .int (nI len), .int hN, .int hL, .int hG])), (aHL, .inl (cyI, 12, .inl (fun j_ => nI (L j_))))] U.heap ∧ va_K (dC, dI) vwCl [(cyI, .int), (cyZ, .boolean), (cyJ, .long), (cyD, .double)] U ∧ va_D (fun _ => True) [(aH, .inr (0, [.ref aD, .ref aR, .ref aHW, .ref aHL, .int (nI len), .int hN, .int hL, .int hG])), (aHL, .inl (cyI, 12, .inl (fun j_ => nI (L j_))))])) (va_Qi (fun (r : Int32) (_ : Unit) => r = bI (hld L x len)) (fun _ t => va_P (dC, dI) vwCl [(aH, .inr (0, [.ref aD, .ref aR, .ref aHW, .ref aHL, .int (nI len), .int hN, .int hL, .int hG])), (aHL, .inl (cyI, 12, .inl (fun j_ => nI (L j_))))] t.heap ∧ va_K (dC, dI) vwCl [(cyI, .int), (cyZ, .boolean), (cyJ, .long), (cyD, .double)] t ∧ va_D (va_A [(aH, .inr (0, [.ref aD, .ref aR, .ref aHW, .ref aHL, .int (nI len), .int hN, .int hL, .int hG])), (aHL, .inl (cyI, 12, .inl (fun j_ => nI (L j_))))] zH) [(aH, .inr (0, [.ref aD, .ref aR, .ref aHW, .ref aHL, .int (nI len), .int hN, .int hL, .int hG])), (aHL, .inl (cyI, 12, .inl (fun j_ => nI (L j_))))]) (va_A [(aH, .inr (0, [.ref aD, .ref aR, .ref aHW, .ref aHL, .int (nI len), .int hN, .int hL, .int hG])), (aHL, .inl (cyI, 12, .inl (fun j_ => nI (L j_))))] zH)) 0 0 (va_A [(aH, .inr (0, [.ref aD, .ref aR, .ref aHW, .ref aHL, .int (nI len), .int hN, .int hL, .int hG])), (aHL, .inl (cyI, 12, .inl (fun j_ => nI (L j_))))] zH) := by
  refine Met.ofW (cc := cX0_holds) (maxL := 3) (ret := (some .boolean)) (by decide) rfl ?_
  intro pM eM s mM args blM mtM cM s₁ BM hml hv
  obtain ⟨rfl, hsz, hP, hK, hD0⟩ := hv
  have hx := BM.exec
  have hb := BM.bytes
  have hr := BM.returns
  have hts := atoms_spec (ws := wsX0_holds) BM.pre
  have hown : s.vm.findClass RX0 = some mM.cls := findClass_of_methodNamed BM.named
  have hlocks := BM.notSynchronized
  have w0 := hts (.fieldLink RX0 18 "DimensionChecker$Chain" "length" "I") (by decide +kernel)
  have w1 := hts (.fieldLink RX0 15 "DimensionChecker$Chain" "links" "[I") (by decide +kernel)
  have iX0 : ∀ w ∈ wsX00, w ∈ wsX0_holds := by decide +kernel
  subst hsz
  have hD := hD0.self (sz := s.heap.size)
  obtain ⟨Q, hQe⟩ : ∃ Q : State → Prop, Q = MQ blM (va_Qi (fun (r : Int32) (_ : Unit) => r = bI (hld L x len)) (fun _ t => va_P (dC, dI) vwCl [(aH, .inr (0, [.ref aD, .ref aR, .ref aHW, .ref aHL, .int (nI len), .int hN, .int hL, .int hG])), (aHL, .inl (cyI, 12, .inl (fun j_ => nI (L j_))))] t.heap ∧ va_K (dC, dI) vwCl [(cyI, .int), (cyZ, .boolean), (cyJ, .long), (cyD, .double)] t ∧ va_D (va_A [(aH, .inr (0, [.ref aD, .ref aR, .ref aHW, .ref aHL, .int (nI len), .int hN, .int hL, .int hG])), (aHL, .inl (cyI, 12, .inl (fun j_ => nI (L j_))))] s.heap.size) [(aH, .inr (0, [.ref aD, .ref aR, .ref aHW, .ref aHL, .int (nI len), .int hN, .int hL, .int hG])), (aHL, .inl (cyI, 12, .inl (fun j_ => nI (L j_))))]) (va_A [(aH, .inr (0, [.ref aD, .ref aR, .ref aHW, .ref aHL, .int (nI len), .int hN, .int hL, .int hG])), (aHL, .inl (cyI, 12, .inl (fun j_ => nI (L j_))))] s.heap.size)) ([.ref aH, .int (nI x)] : List Value).toArray s 0 0 (va_A [(aH, .inr (0, [.ref aD, .ref aR, .ref aHW, .ref aHL, .int (nI len), .int hN, .int hL, .int hG])), (aHL, .inl (cyI, 12, .inl (fun j_ => nI (L j_))))] s.heap.size) := ⟨_, rfl⟩
  rw [← hQe]
  generalize hAe : va_A [(aH, .inr (0, [.ref aD, .ref aR, .ref aHW, .ref aHL, .int (nI len), .int hN, .int hL, .int hG])), (aHL, .inl (cyI, 12, .inl (fun j_ => nI (L j_))))] s.heap.size = A at hD hQe
  have hA : ∀ q : Nat, s.heap.size ≤ q → A q := fun q h => by rw [← hAe]; exact Or.inr h
  obtain ⟨H, hHe⟩ : ∃ H : Heap, H = s.heap := ⟨_, rfl⟩
  have hS : va_S A s.heap H [] := by rw [hHe]; exact va_S.rf
  rw [← hHe] at hP ⊢
  have hl := lv_entry ([.ref aH, .int (nI x)]) (n := 3) (Nat.le_of_ble_eq_true rfl)
  rw [lg_entry_eq]
  generalize (lg_sl ([.ref aH, .int (nI x)]) ++ List.replicate (3 - (lg_sl ([.ref aH, .int (nI x)])).length) Slot.unset).toArray = ls at hl ⊢
  have hl : lv_has ls 3 [(0, .ref aH), (1, .int (nI x))] := hl
  refine lv_iconst (v := 0) hx hb dX0_holds_0 (by decide) ?_
  refine lv_istore_n (lv' := [(2, .int 0), (0, .ref aH), (1, .int (nI x))]) hx hb dX0_holds_1 rfl hl (by decide) rfl (fun ls hl => ?_)
  have k2 : ∀ (fuel : Nat) (i : Nat) (hfuel : len - i < fuel) (hi : i ≤ len) (hno : hld L x i = false) (H : Heap) (locs : List Loc) (ls : Array Slot), va_P (dC, dI) vwCl [(aH, .inr (0, [.ref aD, .ref aR, .ref aHW, .ref aHL, .int (nI len), .int hN, .int hL, .int hG])), (aHL, .inl (cyI, 12, .inl (fun j_ => nI (L j_))))] H → va_D A [(aH, .inr (0, [.ref aD, .ref aR, .ref aHW, .ref aHL, .int (nI len), .int hN, .int hL, .int hG])), (aHL, .inl (cyI, 12, .inl (fun j_ => nI (L j_))))] → va_S A s.heap H locs → lv_has ls 3 [(0, .ref aH), (1, .int (nI x)), (2, .int (nI i))] → W pM l eM (headSpec wsX0_holds ({ frames := 0, cells := 0, slots := 0, locals := 0 } : Room)).room s mM ([.ref aH, .int (nI x)] : List Value).toArray blM mtM cM H locs 0 0 Q (F0 mM 2 ls []) := by
    intro fuel
    induction fuel with
    | zero => intro i hfuel; exact absurd hfuel (Nat.not_lt_zero _)
    | succ fuel ih2 =>
      intro i hfuel hi hno H locs ls hP hD hS hl
      refine lv_iload_n hx hb dX0_holds_2 rfl (lv_at hl 2 rfl) ?_
      refine lv_aload_n hx hb dX0_holds_3 rfl (lv_at hl 0 rfl) ?_
      refine va_get (D := (dC, dI)) (ci := 0) (v := .int (nI len)) (C := RX0) (T := TX0) (N := 8) hx hb hts iX0 hown hK hP 0 rfl rfl 4 (by decide) w0 (fun _ h9 => h9) rfl dX0_holds_4 ?_
      refine lv_icmp_ge (tgt := 28) hx hb dX0_holds_7 (by decide) (fun c7 => ?_) (fun c7 => ?_)
      · have c7 := n_le (a := len) (b := i) (by omega) (by omega) c7
        refine lv_iconst (v := 0) hx hb dX0_holds_28 (by decide) ?_
        have r1 : 0 = (bI (hld L x len)) := by rw [show len = i by omega, hno]; rfl
        have hP9 : va_P (dC, dI) vwCl [(aH, .inr (0, [.ref aD, .ref aR, .ref aHW, .ref aHL, .int (nI len), .int hN, .int hL, .int hG])), (aHL, .inl (cyI, 12, .inl (fun j_ => nI (L j_))))] H := by exact hP.sub [0, 1] rfl
        have hD9 : va_D A [(aH, .inr (0, [.ref aD, .ref aR, .ref aHW, .ref aHL, .int (nI len), .int hN, .int hL, .int hG])), (aHL, .inl (cyI, 12, .inl (fun j_ => nI (L j_))))] := by exact hD.sub [0, 1] (by decide) rfl
        subst hAe
        subst hQe
        exact W.zret (v := 0) hx hb hr rfl (fun t ht hW => ⟨⟨_, (), rfl, r1, by rw [ht]; exact hP9, va_K.moved hW.alike hK, hD9⟩, hS.F ht⟩) hS.2.2 dX0_holds_29
      · have c7 := n_nle (a := len) (b := i) (by omega) (by omega) c7
        have hLi := hL0 i c7
        refine lv_aload_n hx hb dX0_holds_10 rfl (lv_at hl 0 rfl) ?_
        refine va_get (D := (dC, dI)) (ci := 0) (v := .ref aHL) (C := RX0) (T := TX0) (N := 8) hx hb hts iX0 hown hK hP 0 rfl rfl 3 (by decide) w1 (fun _ h9 => h9) rfl dX0_holds_11 ?_
        refine lv_iload_n hx hb dX0_holds_14 rfl (lv_at hl 2 rfl) ?_
        have h2 : vp_in (nI i) 12 := by first | exact vp_in_nI (by omega) (by omega) | assumption
        refine va_iald hx hb hK hP 1 0 rfl rfl h2 dX0_holds_15 ?_
        refine lv_topi (fun x3 e4 => ?_)
        obtain rfl : x3 = (nI (L i)) := by rw [e4, nI_clamp (by omega)]
        clear e4
        refine lv_iload_n hx hb dX0_holds_16 rfl (lv_at hl 1 rfl) ?_
        refine lv_icmp_ne (tgt := 22) hx hb dX0_holds_17 (by decide) (fun c17 => ?_) (fun c17 => ?_)
        · have c17 := n_ne (a := L i) (b := x) (by omega) (by omega) c17
          refine lv_iinc (v := nI (i + 1)) (lv' := [(2, .int (nI (i + 1))), (0, .ref aH), (1, .int (nI x))]) hx hb dX0_holds_22 hl (k := 2) rfl (nI_add i 1) (by decide) rfl (fun ls hl => ?_)
          refine lv_goto (tgt := 2) hx hb dX0_holds_25 (by decide) ?_
          exact ih2 (i + 1) (by omega) (by first | assumption | omega) (by simp [hld, *]) _ _ _ (hP) (hD) hS (lv_sub hl [1, 2, 0] rfl)
        · have c17 := n_eq (a := L i) (b := x) (by omega) (by omega) c17
          refine lv_iconst (v := 1) hx hb dX0_holds_20 (by decide) ?_
          have r5 : 1 = (bI (hld L x len)) := by rw [hld_true (by omega) c17]; rfl
          have hP9 : va_P (dC, dI) vwCl [(aH, .inr (0, [.ref aD, .ref aR, .ref aHW, .ref aHL, .int (nI len), .int hN, .int hL, .int hG])), (aHL, .inl (cyI, 12, .inl (fun j_ => nI (L j_))))] H := by exact hP.sub [0, 1] rfl
          have hD9 : va_D A [(aH, .inr (0, [.ref aD, .ref aR, .ref aHW, .ref aHL, .int (nI len), .int hN, .int hL, .int hG])), (aHL, .inl (cyI, 12, .inl (fun j_ => nI (L j_))))] := by exact hD.sub [0, 1] (by decide) rfl
          subst hAe
          subst hQe
          exact W.zret (v := 1) hx hb hr rfl (fun t ht hW => ⟨⟨_, (), rfl, r5, by rw [ht]; exact hP9, va_K.moved hW.alike hK, hD9⟩, hS.F ht⟩) hS.2.2 dX0_holds_21
  have q6 : (nI 0) = 0 := by first | rfl | simp [*] | (simp only [*]; done)
  exact k2 (len - 0 + 1) 0 (Nat.lt_succ_self _) (by first | assumption | omega) (by rfl) _ _ _ (hP) (hD) hS (by first | (rw [q6]; exact lv_sub hl [1, 2, 0] rfl) | (simp only [q6]; exact lv_sub hl [1, 2, 0] rfl) | exact lv_sub hl [1, 2, 0] rfl)
set_option maxHeartbeats 4000000 in
set_option maxRecDepth 100000 in
theorem c_X0_widthSum (l : Launch) (dC : Nat → ClassId) (dI : Nat → Nat → Nat) (cyI cyZ cyJ cyD : ClassId) (aH aD aR aHW aHL aRF aRT aRN aRL aRU : Nat) (zH : Nat) (len : Nat) (hN : Int32) (hL : Int32) (hG : Int32) (L : Nat → Nat) (lo : Nat → Int32) (up : Nat → Int32) (cnt : Nat) (hlen : len ≤ 12) (hL0 : ∀ k_q, k_q < len → L k_q < 20) : Met l yX0_widthSum wsX0_widthSum ({ frames := 1, cells := 0, slots := 0, locals := 21 } : Room) (va_Pc [.ref aH] (fun U => U.heap.size = zH ∧ va_P (dC, dI) vwCl [(aH, .inr (0, [.ref aD, .ref aR, .ref aHW, .ref aHL, .int (nI len), .int hN, .int hL, .int hG])), (aHL, .inl (cyI, 12, .inl (fun j_ => nI (L j_)))), (aR, .inr (1, [.ref aRF, .ref aRT, .ref aRN, .ref aRL, .ref aRU, .int (nI cnt)])), (aRL, .inl (cyI, 20, .inl lo)), (aRU, .inl (cyI, 20, .inl up))] U.heap ∧ va_K (dC, dI) vwCl [(cyI, .int), (cyZ, .boolean), (cyJ, .long), (cyD, .double)] U ∧ va_D (fun _ => True) [(aH, .inr (0, [.ref aD, .ref aR, .ref aHW, .ref aHL, .int (nI len), .int hN, .int hL, .int hG])), (aHL, .inl (cyI, 12, .inl (fun j_ => nI (L j_)))), (aR, .inr (1, [.ref aRF, .ref aRT, .ref aRN, .ref aRL, .ref aRU, .int (nI cnt)])), (aRL, .inl (cyI, 20, .inl lo)), (aRU, .inl (cyI, 20, .inl up))])) (va_Qi (fun (r : Int32) (_ : Unit) => r = wsm L lo up len) (fun _ t => va_P (dC, dI) vwCl [(aH, .inr (0, [.ref aD, .ref aR, .ref aHW, .ref aHL, .int (nI len), .int hN, .int hL, .int hG])), (aHL, .inl (cyI, 12, .inl (fun j_ => nI (L j_)))), (aR, .inr (1, [.ref aRF, .ref aRT, .ref aRN, .ref aRL, .ref aRU, .int (nI cnt)])), (aRL, .inl (cyI, 20, .inl lo)), (aRU, .inl (cyI, 20, .inl up))] t.heap ∧ va_K (dC, dI) vwCl [(cyI, .int), (cyZ, .boolean), (cyJ, .long), (cyD, .double)] t ∧ va_D (va_A [(aH, .inr (0, [.ref aD, .ref aR, .ref aHW, .ref aHL, .int (nI len), .int hN, .int hL, .int hG])), (aHL, .inl (cyI, 12, .inl (fun j_ => nI (L j_)))), (aR, .inr (1, [.ref aRF, .ref aRT, .ref aRN, .ref aRL, .ref aRU, .int (nI cnt)])), (aRL, .inl (cyI, 20, .inl lo)), (aRU, .inl (cyI, 20, .inl up))] zH) [(aH, .inr (0, [.ref aD, .ref aR, .ref aHW, .ref aHL, .int (nI len), .int hN, .int hL, .int hG])), (aHL, .inl (cyI, 12, .inl (fun j_ => nI (L j_)))), (aR, .inr (1, [.ref aRF, .ref aRT, .ref aRN, .ref aRL, .ref aRU, .int (nI cnt)])), (aRL, .inl (cyI, 20, .inl lo)), (aRU, .inl (cyI, 20, .inl up))]) (va_A [(aH, .inr (0, [.ref aD, .ref aR, .ref aHW, .ref aHL, .int (nI len), .int hN, .int hL, .int hG])), (aHL, .inl (cyI, 12, .inl (fun j_ => nI (L j_)))), (aR, .inr (1, [.ref aRF, .ref aRT, .ref aRN, .ref aRL, .ref aRU, .int (nI cnt)])), (aRL, .inl (cyI, 20, .inl lo)), (aRU, .inl (cyI, 20, .inl up))] zH)) 0 0 (va_A [(aH, .inr (0, [.ref aD, .ref aR, .ref aHW, .ref aHL, .int (nI len), .int hN, .int hL, .int hG])), (aHL, .inl (cyI, 12, .inl (fun j_ => nI (L j_)))), (aR, .inr (1, [.ref aRF, .ref aRT, .ref aRN, .ref aRL, .ref aRU, .int (nI cnt)])), (aRL, .inl (cyI, 20, .inl lo)), (aRU, .inl (cyI, 20, .inl up))] zH) := by
  refine Met.ofW (cc := cX0_widthSum) (maxL := 3) (ret := (some .int)) (by decide) rfl ?_
  intro pM eM s mM args blM mtM cM s₁ BM hml hv
  obtain ⟨rfl, hsz, hP, hK, hD0⟩ := hv
  have hx := BM.exec
  have hb := BM.bytes
  have hr := BM.returns
  have hts := atoms_spec (ws := wsX0_widthSum) BM.pre
  have hown : s.vm.findClass RX0 = some mM.cls := findClass_of_methodNamed BM.named
  have hlocks := BM.notSynchronized
  have w0 := hts (.fieldLink RX0 18 "DimensionChecker$Chain" "length" "I") (by decide +kernel)
  have w1 := hts (.fieldLink RX0 41 "DimensionChecker$Chain" "rows" "LDimensionChecker$Dimensions;") (by decide +kernel)
  have w2 := hts (.fieldLink RX0 15 "DimensionChecker$Chain" "links" "[I") (by decide +kernel)
  have iX0 : ∀ w ∈ wsX00, w ∈ wsX0_widthSum := by decide +kernel
  subst hsz
  have hD := hD0.self (sz := s.heap.size)
  obtain ⟨Q, hQe⟩ : ∃ Q : State → Prop, Q = MQ blM (va_Qi (fun (r : Int32) (_ : Unit) => r = wsm L lo up len) (fun _ t => va_P (dC, dI) vwCl [(aH, .inr (0, [.ref aD, .ref aR, .ref aHW, .ref aHL, .int (nI len), .int hN, .int hL, .int hG])), (aHL, .inl (cyI, 12, .inl (fun j_ => nI (L j_)))), (aR, .inr (1, [.ref aRF, .ref aRT, .ref aRN, .ref aRL, .ref aRU, .int (nI cnt)])), (aRL, .inl (cyI, 20, .inl lo)), (aRU, .inl (cyI, 20, .inl up))] t.heap ∧ va_K (dC, dI) vwCl [(cyI, .int), (cyZ, .boolean), (cyJ, .long), (cyD, .double)] t ∧ va_D (va_A [(aH, .inr (0, [.ref aD, .ref aR, .ref aHW, .ref aHL, .int (nI len), .int hN, .int hL, .int hG])), (aHL, .inl (cyI, 12, .inl (fun j_ => nI (L j_)))), (aR, .inr (1, [.ref aRF, .ref aRT, .ref aRN, .ref aRL, .ref aRU, .int (nI cnt)])), (aRL, .inl (cyI, 20, .inl lo)), (aRU, .inl (cyI, 20, .inl up))] s.heap.size) [(aH, .inr (0, [.ref aD, .ref aR, .ref aHW, .ref aHL, .int (nI len), .int hN, .int hL, .int hG])), (aHL, .inl (cyI, 12, .inl (fun j_ => nI (L j_)))), (aR, .inr (1, [.ref aRF, .ref aRT, .ref aRN, .ref aRL, .ref aRU, .int (nI cnt)])), (aRL, .inl (cyI, 20, .inl lo)), (aRU, .inl (cyI, 20, .inl up))]) (va_A [(aH, .inr (0, [.ref aD, .ref aR, .ref aHW, .ref aHL, .int (nI len), .int hN, .int hL, .int hG])), (aHL, .inl (cyI, 12, .inl (fun j_ => nI (L j_)))), (aR, .inr (1, [.ref aRF, .ref aRT, .ref aRN, .ref aRL, .ref aRU, .int (nI cnt)])), (aRL, .inl (cyI, 20, .inl lo)), (aRU, .inl (cyI, 20, .inl up))] s.heap.size)) ([.ref aH] : List Value).toArray s 0 0 (va_A [(aH, .inr (0, [.ref aD, .ref aR, .ref aHW, .ref aHL, .int (nI len), .int hN, .int hL, .int hG])), (aHL, .inl (cyI, 12, .inl (fun j_ => nI (L j_)))), (aR, .inr (1, [.ref aRF, .ref aRT, .ref aRN, .ref aRL, .ref aRU, .int (nI cnt)])), (aRL, .inl (cyI, 20, .inl lo)), (aRU, .inl (cyI, 20, .inl up))] s.heap.size) := ⟨_, rfl⟩
  rw [← hQe]
  generalize hAe : va_A [(aH, .inr (0, [.ref aD, .ref aR, .ref aHW, .ref aHL, .int (nI len), .int hN, .int hL, .int hG])), (aHL, .inl (cyI, 12, .inl (fun j_ => nI (L j_)))), (aR, .inr (1, [.ref aRF, .ref aRT, .ref aRN, .ref aRL, .ref aRU, .int (nI cnt)])), (aRL, .inl (cyI, 20, .inl lo)), (aRU, .inl (cyI, 20, .inl up))] s.heap.size = A at hD hQe
  have hA : ∀ q : Nat, s.heap.size ≤ q → A q := fun q h => by rw [← hAe]; exact Or.inr h
  obtain ⟨H, hHe⟩ : ∃ H : Heap, H = s.heap := ⟨_, rfl⟩
  have hS : va_S A s.heap H [] := by rw [hHe]; exact va_S.rf
  rw [← hHe] at hP ⊢
  have hl := lv_entry ([.ref aH]) (n := 3) (Nat.le_of_ble_eq_true rfl)
  rw [lg_entry_eq]
  generalize (lg_sl ([.ref aH]) ++ List.replicate (3 - (lg_sl ([.ref aH])).length) Slot.unset).toArray = ls at hl ⊢
  have hl : lv_has ls 3 [(0, .ref aH)] := hl
  refine lv_iconst (v := 0) hx hb dX0_widthSum_0 (by decide) ?_
  refine lv_istore_n (lv' := [(1, .int 0), (0, .ref aH)]) hx hb dX0_widthSum_1 rfl hl (by decide) rfl (fun ls hl => ?_)
  refine lv_iconst (v := 0) hx hb dX0_widthSum_2 (by decide) ?_
  refine lv_istore_n (lv' := [(2, .int 0), (1, .int 0), (0, .ref aH)]) hx hb dX0_widthSum_3 rfl hl (by decide) rfl (fun ls hl => ?_)
  have k4 : ∀ (fuel : Nat) (i : Nat) (hfuel : len - i < fuel) (hi : i ≤ len) (H : Heap) (locs : List Loc) (ls : Array Slot), va_P (dC, dI) vwCl [(aH, .inr (0, [.ref aD, .ref aR, .ref aHW, .ref aHL, .int (nI len), .int hN, .int hL, .int hG])), (aHL, .inl (cyI, 12, .inl (fun j_ => nI (L j_)))), (aR, .inr (1, [.ref aRF, .ref aRT, .ref aRN, .ref aRL, .ref aRU, .int (nI cnt)])), (aRL, .inl (cyI, 20, .inl lo)), (aRU, .inl (cyI, 20, .inl up))] H → va_D A [(aH, .inr (0, [.ref aD, .ref aR, .ref aHW, .ref aHL, .int (nI len), .int hN, .int hL, .int hG])), (aHL, .inl (cyI, 12, .inl (fun j_ => nI (L j_)))), (aR, .inr (1, [.ref aRF, .ref aRT, .ref aRN, .ref aRL, .ref aRU, .int (nI cnt)])), (aRL, .inl (cyI, 20, .inl lo)), (aRU, .inl (cyI, 20, .inl up))] → va_S A s.heap H locs → lv_has ls 3 [(0, .ref aH), (1, .int (wsm L lo up i)), (2, .int (nI i))] → W pM l eM (headSpec wsX0_widthSum ({ frames := 1, cells := 0, slots := 0, locals := 21 } : Room)).room s mM ([.ref aH] : List Value).toArray blM mtM cM H locs 0 0 Q (F0 mM 4 ls []) := by
    intro fuel
    induction fuel with
    | zero => intro i hfuel; exact absurd hfuel (Nat.not_lt_zero _)
    | succ fuel ih4 =>
      intro i hfuel hi H locs ls hP hD hS hl
      refine lv_iload_n hx hb dX0_widthSum_4 rfl (lv_at hl 2 rfl) ?_
      refine lv_aload_n hx hb dX0_widthSum_5 rfl (lv_at hl 0 rfl) ?_
      refine va_get (D := (dC, dI)) (ci := 0) (v := .int (nI len)) (C := RX0) (T := TX0) (N := 8) hx hb hts iX0 hown hK hP 0 rfl rfl 4 (by decide) w0 (fun _ h9 => h9) rfl dX0_widthSum_6 ?_
      refine lv_icmp_ge (tgt := 34) hx hb dX0_widthSum_9 (by decide) (fun c9 => ?_) (fun c9 => ?_)
      · have c9 := n_le (a := len) (b := i) (by omega) (by omega) c9
        refine lv_iload_n hx hb dX0_widthSum_34 rfl (lv_at hl 1 rfl) ?_
        have r1 : (wsm L lo up i) = (wsm L lo up len) := by rw [show i = len by omega]
        have hP9 : va_P (dC, dI) vwCl [(aH, .inr (0, [.ref aD, .ref aR, .ref aHW, .ref aHL, .int (nI len), .int hN, .int hL, .int hG])), (aHL, .inl (cyI, 12, .inl (fun j_ => nI (L j_)))), (aR, .inr (1, [.ref aRF, .ref aRT, .ref aRN, .ref aRL, .ref aRU, .int (nI cnt)])), (aRL, .inl (cyI, 20, .inl lo)), (aRU, .inl (cyI, 20, .inl up))] H := by exact hP.sub [0, 1, 2, 3, 4] rfl
        have hD9 : va_D A [(aH, .inr (0, [.ref aD, .ref aR, .ref aHW, .ref aHL, .int (nI len), .int hN, .int hL, .int hG])), (aHL, .inl (cyI, 12, .inl (fun j_ => nI (L j_)))), (aR, .inr (1, [.ref aRF, .ref aRT, .ref aRN, .ref aRL, .ref aRU, .int (nI cnt)])), (aRL, .inl (cyI, 20, .inl lo)), (aRU, .inl (cyI, 20, .inl up))] := by exact hD.sub [0, 1, 2, 3, 4] (by decide) rfl
        subst hAe
        subst hQe
        exact W.iret (v := wsm L lo up i) hx hb hr (fun t ht hW => ⟨⟨_, (), rfl, r1, by rw [ht]; exact hP9, va_K.moved hW.alike hK, hD9⟩, hS.F ht⟩) hS.2.2 dX0_widthSum_35
      · have c9 := n_nle (a := len) (b := i) (by omega) (by omega) c9
        have hLi := hL0 i c9
        refine lv_iload_n hx hb dX0_widthSum_12 rfl (lv_at hl 1 rfl) ?_
        refine lv_aload_n hx hb dX0_widthSum_13 rfl (lv_at hl 0 rfl) ?_
        refine va_get (D := (dC, dI)) (ci := 0) (v := .ref aR) (C := RX0) (T := TX0) (N := 8) hx hb hts iX0 hown hK hP 0 rfl rfl 1 (by decide) w1 (fun _ h9 => h9) rfl dX0_widthSum_14 ?_
        refine lv_aload_n hx hb dX0_widthSum_17 rfl (lv_at hl 0 rfl) ?_
        refine va_get (D := (dC, dI)) (ci := 0) (v := .ref aHL) (C := RX0) (T := TX0) (N := 8) hx hb hts iX0 hown hK hP 0 rfl rfl 3 (by decide) w2 (fun _ h9 => h9) rfl dX0_widthSum_18 ?_
        refine lv_iload_n hx hb dX0_widthSum_21 rfl (lv_at hl 2 rfl) ?_
        have h2 : vp_in (nI i) 12 := by first | exact vp_in_nI (by omega) (by omega) | assumption
        refine va_iald hx hb hK hP 1 0 rfl rfl h2 dX0_widthSum_22 ?_
        refine lv_topi (fun x3 e4 => ?_)
        obtain rfl : x3 = (nI (L i)) := by rw [e4, nI_clamp (by omega)]
        clear e4
        have g5 : (L i) < 20 := by first | assumption | omega | exact vp_in_nI (by omega) (by omega)
        have hPc := hP.sub (ws' := [(aR, .inr (1, [.ref aRF, .ref aRT, .ref aRN, .ref aRL, .ref aRU, .int (nI cnt)])), (aRL, .inl (cyI, 20, .inl lo)), (aRU, .inl (cyI, 20, .inl up))]) [2, 3, 4] rfl
        have hDc := hD.sub (ws' := [(aR, .inr (1, [.ref aRF, .ref aRT, .ref aRN, .ref aRL, .ref aRU, .int (nI cnt)])), (aRL, .inl (cyI, 20, .inl lo)), (aRU, .inl (cyI, 20, .inl up))]) [2, 3, 4] (by decide) rfl
        have hFc := va_free (wc := [(aR, .inr (1, [.ref aRF, .ref aRT, .ref aRN, .ref aRL, .ref aRU, .int (nI cnt)])), (aRL, .inl (cyI, 20, .inl lo)), (aRU, .inl (cyI, 20, .inl up))]) hD hS hA [2, 3, 4] rfl
        refine va_calli (va_runV (As := [.int (nI (L i))]) (rest := [.int (wsm L lo up i)]) ⟨hx, hb, hml, hown, hts⟩ (c_X1_width l dC dI cyI cyZ cyJ cyD aR aRF aRT aRN aRL aRU H.size lo up cnt (L i) g5) (cwV 1 hts gX0_widthSum_X1_width rfl rfl rfl (by decide +kernel) ⟨Nat.le_of_ble_eq_true rfl, Nat.le_of_ble_eq_true rfl⟩) ⟨fun a U g mk q => by obtain ⟨q0, q1, qP, qK, qD⟩ := q; exact ⟨q0, q1, qP, va_K.moved (u := U) (U := U.calling g mk a) (Vm.Alike.refl U.vm) qK, qD⟩, va_recv hK hPc (ci := 1) (q0 := 0) rfl rfl, fun U hU hW => ⟨rfl, by rw [hU], by rw [hU]; exact hPc, va_K.moved hW.alike hK, hDc.weaken (fun _ _ _ _ => trivial)⟩⟩ rfl rfl hl.1 rfl (lv_room (Nat.le_of_ble_eq_true rfl)) dX0_widthSum_23 ⟨Nat.le_of_ble_eq_true rfl, Nat.le_of_ble_eq_true rfl⟩) hS (fun q _ h => hFc q h) hFc (fun r u t H1 locs ht hvm hw hB hz1 hk1 hS => ?_)
        obtain rfl := hw
        obtain ⟨hP1, hK1, hD1⟩ := hB
        rw [ht] at hP1
        obtain ⟨hP, hD⟩ := va_join (wr := [(aH, .inr (0, [.ref aD, .ref aR, .ref aHW, .ref aHL, .int (nI len), .int hN, .int hL, .int hG])), (aHL, .inl (cyI, 12, .inl (fun j_ => nI (L j_))))]) (w1 := [(aR, .inr (1, [.ref aRF, .ref aRT, .ref aRN, .ref aRL, .ref aRU, .int (nI cnt)])), (aRL, .inl (cyI, 20, .inl lo)), (aRU, .inl (cyI, 20, .inl up))]) hP hD [2, 3, 4] [0, 1] rfl rfl (by decide) (by decide) hk1 hFc hP1 hD1
        clear hP1 hD1 hK1 hPc hDc hFc hk1 hz1 hvm ht u t
        generalize H1 = H at hP hS ⊢
        have hP : va_P (dC, dI) vwCl [(aH, .inr (0, [.ref aD, .ref aR, .ref aHW, .ref aHL, .int (nI len), .int hN, .int hL, .int hG])), (aHL, .inl (cyI, 12, .inl (fun j_ => nI (L j_)))), (aR, .inr (1, [.ref aRF, .ref aRT, .ref aRN, .ref aRL, .ref aRU, .int (nI cnt)])), (aRL, .inl (cyI, 20, .inl lo)), (aRU, .inl (cyI, 20, .inl up))] H := hP
        have hD : va_D A [(aH, .inr (0, [.ref aD, .ref aR, .ref aHW, .ref aHL, .int (nI len), .int hN, .int hL, .int hG])), (aHL, .inl (cyI, 12, .inl (fun j_ => nI (L j_)))), (aR, .inr (1, [.ref aRF, .ref aRT, .ref aRN, .ref aRL, .ref aRU, .int (nI cnt)])), (aRL, .inl (cyI, 20, .inl lo)), (aRU, .inl (cyI, 20, .inl up))] := hD
        refine lv_iadd hx hb dX0_widthSum_26 ?_
        refine lv_istore_n (lv' := [(1, .int ((wsm L lo up i) + (up (L i) - lo (L i)))), (0, .ref aH), (2, .int (nI i))]) hx hb dX0_widthSum_27 rfl hl (by decide) rfl (fun ls hl => ?_)
        refine lv_iinc (v := nI (i + 1)) (lv' := [(2, .int (nI (i + 1))), (1, .int ((wsm L lo up i) + (up (L i) - lo (L i)))), (0, .ref aH)]) hx hb dX0_widthSum_28 hl (k := 2) rfl (nI_add i 1) (by decide) rfl (fun ls hl => ?_)
        refine lv_goto (tgt := 4) hx hb dX0_widthSum_31 (by decide) ?_
        have q6 : (wsm L lo up (i + 1)) = ((wsm L lo up i) + (up (L i) - lo (L i))) := by rfl
        exact ih4 (i + 1) (by omega) (by first | assumption | omega) _ _ _ (hP) (hD) hS (by first | (rw [q6]; exact lv_sub hl [2, 1, 0] rfl) | (simp only [q6]; exact lv_sub hl [2, 1, 0] rfl) | exact lv_sub hl [2, 1, 0] rfl)
  have q7 : (wsm L lo up 0) = 0 := by rfl
  have q8 : (nI 0) = 0 := by first | rfl | simp [*] | (simp only [*]; done)
  exact k4 (len - 0 + 1) 0 (Nat.lt_succ_self _) (by first | assumption | omega) _ _ _ (hP) (hD) hS (by first | (rw [q7, q8]; exact lv_sub hl [2, 1, 0] rfl) | (simp only [q7, q8]; exact lv_sub hl [2, 1, 0] rfl) | exact lv_sub hl [2, 1, 0] rfl)
set_option maxHeartbeats 4000000 in
set_option maxRecDepth 100000 in
theorem c_X0_isWider (l : Launch) (dC : Nat → ClassId) (dI : Nat → Nat → Nat) (cyI cyZ cyJ cyD : ClassId) (aH aD aR aHW aHL aRF aRT aRN aRL aRU : Nat) (zH : Nat) (len : Nat) (hN : Int32) (hL : Int32) (hG : Int32) (lo : Nat → Int32) (up : Nat → Int32) (cnt : Nat) (x : Nat) (y : Nat) (hx0 : x < 20) (hy0 : y < 20) : Met l yX0_isWider wsX0_isWider ({ frames := 1, cells := 0, slots := 0, locals := 21 } : Room) (va_Pc [.ref aH, .int (nI x), .int (nI y)] (fun U => U.heap.size = zH ∧ va_P (dC, dI) vwCl [(aH, .inr (0, [.ref aD, .ref aR, .ref aHW, .ref aHL, .int (nI len), .int hN, .int hL, .int hG])), (aR, .inr (1, [.ref aRF, .ref aRT, .ref aRN, .ref aRL, .ref aRU, .int (nI cnt)])), (aRL, .inl (cyI, 20, .inl lo)), (aRU, .inl (cyI, 20, .inl up))] U.heap ∧ va_K (dC, dI) vwCl [(cyI, .int), (cyZ, .boolean), (cyJ, .long), (cyD, .double)] U ∧ va_D (fun _ => True) [(aH, .inr (0, [.ref aD, .ref aR, .ref aHW, .ref aHL, .int (nI len), .int hN, .int hL, .int hG])), (aR, .inr (1, [.ref aRF, .ref aRT, .ref aRN, .ref aRL, .ref aRU, .int (nI cnt)])), (aRL, .inl (cyI, 20, .inl lo)), (aRU, .inl (cyI, 20, .inl up))])) (va_Qi (fun (r : Int32) (_ : Unit) => r = bI (isw lo up x y)) (fun _ t => va_P (dC, dI) vwCl [(aH, .inr (0, [.ref aD, .ref aR, .ref aHW, .ref aHL, .int (nI len), .int hN, .int hL, .int hG])), (aR, .inr (1, [.ref aRF, .ref aRT, .ref aRN, .ref aRL, .ref aRU, .int (nI cnt)])), (aRL, .inl (cyI, 20, .inl lo)), (aRU, .inl (cyI, 20, .inl up))] t.heap ∧ va_K (dC, dI) vwCl [(cyI, .int), (cyZ, .boolean), (cyJ, .long), (cyD, .double)] t ∧ va_D (va_A [(aH, .inr (0, [.ref aD, .ref aR, .ref aHW, .ref aHL, .int (nI len), .int hN, .int hL, .int hG])), (aR, .inr (1, [.ref aRF, .ref aRT, .ref aRN, .ref aRL, .ref aRU, .int (nI cnt)])), (aRL, .inl (cyI, 20, .inl lo)), (aRU, .inl (cyI, 20, .inl up))] zH) [(aH, .inr (0, [.ref aD, .ref aR, .ref aHW, .ref aHL, .int (nI len), .int hN, .int hL, .int hG])), (aR, .inr (1, [.ref aRF, .ref aRT, .ref aRN, .ref aRL, .ref aRU, .int (nI cnt)])), (aRL, .inl (cyI, 20, .inl lo)), (aRU, .inl (cyI, 20, .inl up))]) (va_A [(aH, .inr (0, [.ref aD, .ref aR, .ref aHW, .ref aHL, .int (nI len), .int hN, .int hL, .int hG])), (aR, .inr (1, [.ref aRF, .ref aRT, .ref aRN, .ref aRL, .ref aRU, .int (nI cnt)])), (aRL, .inl (cyI, 20, .inl lo)), (aRU, .inl (cyI, 20, .inl up))] zH)) 0 0 (va_A [(aH, .inr (0, [.ref aD, .ref aR, .ref aHW, .ref aHL, .int (nI len), .int hN, .int hL, .int hG])), (aR, .inr (1, [.ref aRF, .ref aRT, .ref aRN, .ref aRL, .ref aRU, .int (nI cnt)])), (aRL, .inl (cyI, 20, .inl lo)), (aRU, .inl (cyI, 20, .inl up))] zH) := by
  refine Met.ofW (cc := cX0_isWider) (maxL := 4) (ret := (some .boolean)) (by decide) rfl ?_
  intro pM eM s mM args blM mtM cM s₁ BM hml hv
  obtain ⟨rfl, hsz, hP, hK, hD0⟩ := hv
  have hx := BM.exec
  have hb := BM.bytes
  have hr := BM.returns
  have hts := atoms_spec (ws := wsX0_isWider) BM.pre
  have hown : s.vm.findClass RX0 = some mM.cls := findClass_of_methodNamed BM.named
  have hlocks := BM.notSynchronized
  have w0 := hts (.fieldLink RX0 41 "DimensionChecker$Chain" "rows" "LDimensionChecker$Dimensions;") (by decide +kernel)
  have iX0 : ∀ w ∈ wsX00, w ∈ wsX0_isWider := by decide +kernel
  subst hsz
  have hD := hD0.self (sz := s.heap.size)
  obtain ⟨Q, hQe⟩ : ∃ Q : State → Prop, Q = MQ blM (va_Qi (fun (r : Int32) (_ : Unit) => r = bI (isw lo up x y)) (fun _ t => va_P (dC, dI) vwCl [(aH, .inr (0, [.ref aD, .ref aR, .ref aHW, .ref aHL, .int (nI len), .int hN, .int hL, .int hG])), (aR, .inr (1, [.ref aRF, .ref aRT, .ref aRN, .ref aRL, .ref aRU, .int (nI cnt)])), (aRL, .inl (cyI, 20, .inl lo)), (aRU, .inl (cyI, 20, .inl up))] t.heap ∧ va_K (dC, dI) vwCl [(cyI, .int), (cyZ, .boolean), (cyJ, .long), (cyD, .double)] t ∧ va_D (va_A [(aH, .inr (0, [.ref aD, .ref aR, .ref aHW, .ref aHL, .int (nI len), .int hN, .int hL, .int hG])), (aR, .inr (1, [.ref aRF, .ref aRT, .ref aRN, .ref aRL, .ref aRU, .int (nI cnt)])), (aRL, .inl (cyI, 20, .inl lo)), (aRU, .inl (cyI, 20, .inl up))] s.heap.size) [(aH, .inr (0, [.ref aD, .ref aR, .ref aHW, .ref aHL, .int (nI len), .int hN, .int hL, .int hG])), (aR, .inr (1, [.ref aRF, .ref aRT, .ref aRN, .ref aRL, .ref aRU, .int (nI cnt)])), (aRL, .inl (cyI, 20, .inl lo)), (aRU, .inl (cyI, 20, .inl up))]) (va_A [(aH, .inr (0, [.ref aD, .ref aR, .ref aHW, .ref aHL, .int (nI len), .int hN, .int hL, .int hG])), (aR, .inr (1, [.ref aRF, .ref aRT, .ref aRN, .ref aRL, .ref aRU, .int (nI cnt)])), (aRL, .inl (cyI, 20, .inl lo)), (aRU, .inl (cyI, 20, .inl up))] s.heap.size)) ([.ref aH, .int (nI x), .int (nI y)] : List Value).toArray s 0 0 (va_A [(aH, .inr (0, [.ref aD, .ref aR, .ref aHW, .ref aHL, .int (nI len), .int hN, .int hL, .int hG])), (aR, .inr (1, [.ref aRF, .ref aRT, .ref aRN, .ref aRL, .ref aRU, .int (nI cnt)])), (aRL, .inl (cyI, 20, .inl lo)), (aRU, .inl (cyI, 20, .inl up))] s.heap.size) := ⟨_, rfl⟩
  rw [← hQe]
  generalize hAe : va_A [(aH, .inr (0, [.ref aD, .ref aR, .ref aHW, .ref aHL, .int (nI len), .int hN, .int hL, .int hG])), (aR, .inr (1, [.ref aRF, .ref aRT, .ref aRN, .ref aRL, .ref aRU, .int (nI cnt)])), (aRL, .inl (cyI, 20, .inl lo)), (aRU, .inl (cyI, 20, .inl up))] s.heap.size = A at hD hQe
  have hA : ∀ q : Nat, s.heap.size ≤ q → A q := fun q h => by rw [← hAe]; exact Or.inr h
  obtain ⟨H, hHe⟩ : ∃ H : Heap, H = s.heap := ⟨_, rfl⟩
  have hS : va_S A s.heap H [] := by rw [hHe]; exact va_S.rf
  rw [← hHe] at hP ⊢
  have hl := lv_entry ([.ref aH, .int (nI x), .int (nI y)]) (n := 4) (Nat.le_of_ble_eq_true rfl)
  rw [lg_entry_eq]
  generalize (lg_sl ([.ref aH, .int (nI x), .int (nI y)]) ++ List.replicate (4 - (lg_sl ([.ref aH, .int (nI x), .int (nI y)])).length) Slot.unset).toArray = ls at hl ⊢
  have hl : lv_has ls 4 [(0, .ref aH), (1, .int (nI x)), (2, .int (nI y))] := hl
  refine lv_aload_n hx hb dX0_isWider_0 rfl (lv_at hl 0 rfl) ?_
  refine va_get (D := (dC, dI)) (ci := 0) (v := .ref aR) (C := RX0) (T := TX0) (N := 8) hx hb hts iX0 hown hK hP 0 rfl rfl 1 (by decide) w0 (fun _ h9 => h9) rfl dX0_isWider_1 ?_
  refine lv_iload_n hx hb dX0_isWider_4 rfl (lv_at hl 1 rfl) ?_
  have g1 : x < 20 := by first | assumption | omega | exact vp_in_nI (by omega) (by omega)
  have hPc := hP.sub (ws' := [(aR, .inr (1, [.ref aRF, .ref aRT, .ref aRN, .ref aRL, .ref aRU, .int (nI cnt)])), (aRL, .inl (cyI, 20, .inl lo)), (aRU, .inl (cyI, 20, .inl up))]) [1, 2, 3] rfl
  have hDc := hD.sub (ws' := [(aR, .inr (1, [.ref aRF, .ref aRT, .ref aRN, .ref aRL, .ref aRU, .int (nI cnt)])), (aRL, .inl (cyI, 20, .inl lo)), (aRU, .inl (cyI, 20, .inl up))]) [1, 2, 3] (by decide) rfl
  have hFc := va_free (wc := [(aR, .inr (1, [.ref aRF, .ref aRT, .ref aRN, .ref aRL, .ref aRU, .int (nI cnt)])), (aRL, .inl (cyI, 20, .inl lo)), (aRU, .inl (cyI, 20, .inl up))]) hD hS hA [1, 2, 3] rfl
  refine va_calli (va_runV (As := [.int (nI x)]) (rest := []) ⟨hx, hb, hml, hown, hts⟩ (c_X1_width l dC dI cyI cyZ cyJ cyD aR aRF aRT aRN aRL aRU H.size lo up cnt x g1) (cwV 1 hts gX0_isWider_X1_width rfl rfl rfl (by decide +kernel) ⟨Nat.le_of_ble_eq_true rfl, Nat.le_of_ble_eq_true rfl⟩) ⟨fun a U g mk q => by obtain ⟨q0, q1, qP, qK, qD⟩ := q; exact ⟨q0, q1, qP, va_K.moved (u := U) (U := U.calling g mk a) (Vm.Alike.refl U.vm) qK, qD⟩, va_recv hK hPc (ci := 1) (q0 := 0) rfl rfl, fun U hU hW => ⟨rfl, by rw [hU], by rw [hU]; exact hPc, va_K.moved hW.alike hK, hDc.weaken (fun _ _ _ _ => trivial)⟩⟩ rfl rfl hl.1 rfl (lv_room (Nat.le_of_ble_eq_true rfl)) dX0_isWider_5 ⟨Nat.le_of_ble_eq_true rfl, Nat.le_of_ble_eq_true rfl⟩) hS (fun q _ h => hFc q h) hFc (fun r u t H1 locs ht hvm hw hB hz1 hk1 hS => ?_)
  obtain rfl := hw
  obtain ⟨hP1, hK1, hD1⟩ := hB
  rw [ht] at hP1
  obtain ⟨hP, hD⟩ := va_join (wr := [(aH, .inr (0, [.ref aD, .ref aR, .ref aHW, .ref aHL, .int (nI len), .int hN, .int hL, .int hG]))]) (w1 := [(aR, .inr (1, [.ref aRF, .ref aRT, .ref aRN, .ref aRL, .ref aRU, .int (nI cnt)])), (aRL, .inl (cyI, 20, .inl lo)), (aRU, .inl (cyI, 20, .inl up))]) hP hD [1, 2, 3] [0] rfl rfl (by decide) (by decide) hk1 hFc hP1 hD1
  clear hP1 hD1 hK1 hPc hDc hFc hk1 hz1 hvm ht u t
  generalize H1 = H at hP hS ⊢
  have hP : va_P (dC, dI) vwCl [(aH, .inr (0, [.ref aD, .ref aR, .ref aHW, .ref aHL, .int (nI len), .int hN, .int hL, .int hG])), (aR, .inr (1, [.ref aRF, .ref aRT, .ref aRN, .ref aRL, .ref aRU, .int (nI cnt)])), (aRL, .inl (cyI, 20, .inl lo)), (aRU, .inl (cyI, 20, .inl up))] H := hP
  have hD : va_D A [(aH, .inr (0, [.ref aD, .ref aR, .ref aHW, .ref aHL, .int (nI len), .int hN, .int hL, .int hG])), (aR, .inr (1, [.ref aRF, .ref aRT, .ref aRN, .ref aRL, .ref aRU, .int (nI cnt)])), (aRL, .inl (cyI, 20, .inl lo)), (aRU, .inl (cyI, 20, .inl up))] := hD
  refine lv_aload_n hx hb dX0_isWider_8 rfl (lv_at hl 0 rfl) ?_
  refine va_get (D := (dC, dI)) (ci := 0) (v := .ref aR) (C := RX0) (T := TX0) (N := 8) hx hb hts iX0 hown hK hP 0 rfl rfl 1 (by decide) w0 (fun _ h9 => h9) rfl dX0_isWider_9 ?_
  refine lv_iload_n hx hb dX0_isWider_12 rfl (lv_at hl 2 rfl) ?_
  have g2 : y < 20 := by first | assumption | omega | exact vp_in_nI (by omega) (by omega)
  have hPc := hP.sub (ws' := [(aR, .inr (1, [.ref aRF, .ref aRT, .ref aRN, .ref aRL, .ref aRU, .int (nI cnt)])), (aRL, .inl (cyI, 20, .inl lo)), (aRU, .inl (cyI, 20, .inl up))]) [1, 2, 3] rfl
  have hDc := hD.sub (ws' := [(aR, .inr (1, [.ref aRF, .ref aRT, .ref aRN, .ref aRL, .ref aRU, .int (nI cnt)])), (aRL, .inl (cyI, 20, .inl lo)), (aRU, .inl (cyI, 20, .inl up))]) [1, 2, 3] (by decide) rfl
  have hFc := va_free (wc := [(aR, .inr (1, [.ref aRF, .ref aRT, .ref aRN, .ref aRL, .ref aRU, .int (nI cnt)])), (aRL, .inl (cyI, 20, .inl lo)), (aRU, .inl (cyI, 20, .inl up))]) hD hS hA [1, 2, 3] rfl
  refine va_calli (va_runV (As := [.int (nI y)]) (rest := [.int (up x - lo x)]) ⟨hx, hb, hml, hown, hts⟩ (c_X1_width l dC dI cyI cyZ cyJ cyD aR aRF aRT aRN aRL aRU H.size lo up cnt y g2) (cwV 1 hts gX0_isWider_X1_width rfl rfl rfl (by decide +kernel) ⟨Nat.le_of_ble_eq_true rfl, Nat.le_of_ble_eq_true rfl⟩) ⟨fun a U g mk q => by obtain ⟨q0, q1, qP, qK, qD⟩ := q; exact ⟨q0, q1, qP, va_K.moved (u := U) (U := U.calling g mk a) (Vm.Alike.refl U.vm) qK, qD⟩, va_recv hK hPc (ci := 1) (q0 := 0) rfl rfl, fun U hU hW => ⟨rfl, by rw [hU], by rw [hU]; exact hPc, va_K.moved hW.alike hK, hDc.weaken (fun _ _ _ _ => trivial)⟩⟩ rfl rfl hl.1 rfl (lv_room (Nat.le_of_ble_eq_true rfl)) dX0_isWider_13 ⟨Nat.le_of_ble_eq_true rfl, Nat.le_of_ble_eq_true rfl⟩) hS (fun q _ h => hFc q h) hFc (fun r u t H1 locs ht hvm hw hB hz1 hk1 hS => ?_)
  obtain rfl := hw
  obtain ⟨hP1, hK1, hD1⟩ := hB
  rw [ht] at hP1
  obtain ⟨hP, hD⟩ := va_join (wr := [(aH, .inr (0, [.ref aD, .ref aR, .ref aHW, .ref aHL, .int (nI len), .int hN, .int hL, .int hG]))]) (w1 := [(aR, .inr (1, [.ref aRF, .ref aRT, .ref aRN, .ref aRL, .ref aRU, .int (nI cnt)])), (aRL, .inl (cyI, 20, .inl lo)), (aRU, .inl (cyI, 20, .inl up))]) hP hD [1, 2, 3] [0] rfl rfl (by decide) (by decide) hk1 hFc hP1 hD1
  clear hP1 hD1 hK1 hPc hDc hFc hk1 hz1 hvm ht u t
  generalize H1 = H at hP hS ⊢
  have hP : va_P (dC, dI) vwCl [(aH, .inr (0, [.ref aD, .ref aR, .ref aHW, .ref aHL, .int (nI len), .int hN, .int hL, .int hG])), (aR, .inr (1, [.ref aRF, .ref aRT, .ref aRN, .ref aRL, .ref aRU, .int (nI cnt)])), (aRL, .inl (cyI, 20, .inl lo)), (aRU, .inl (cyI, 20, .inl up))] H := hP
  have hD : va_D A [(aH, .inr (0, [.ref aD, .ref aR, .ref aHW, .ref aHL, .int (nI len), .int hN, .int hL, .int hG])), (aR, .inr (1, [.ref aRF, .ref aRT, .ref aRN, .ref aRL, .ref aRU, .int (nI cnt)])), (aRL, .inl (cyI, 20, .inl lo)), (aRU, .inl (cyI, 20, .inl up))] := hD
  refine lv_isub hx hb dX0_isWider_16 ?_
  refine lv_istore_n (lv' := [(3, .int ((up x - lo x) - (up y - lo y))), (0, .ref aH), (1, .int (nI x)), (2, .int (nI y))]) hx hb dX0_isWider_17 rfl hl (by decide) rfl (fun ls hl => ?_)
  refine lv_iload_n hx hb dX0_isWider_18 rfl (lv_at hl 0 rfl) ?_
  refine lv_if_gt (tgt := 31) hx hb dX0_isWider_19 (by decide) (fun c19 => ?_) (fun c19 => ?_)
  · skip
    refine lv_iconst (v := 1) hx hb dX0_isWider_31 (by decide) ?_
    refine lv_goto (tgt := 36) hx hb dX0_isWider_32 (by decide) ?_
    have r3 : 1 = (bI (isw lo up x y)) := by first | (simp [isw, bI, *]; done) | (have q := Nat.not_lt.mpr c28; simp [isw, bI, *])
    have hP9 : va_P (dC, dI) vwCl [(aH, .inr (0, [.ref aD, .ref aR, .ref aHW, .ref aHL, .int (nI len), .int hN, .int hL, .int hG])), (aR, .inr (1, [.ref aRF, .ref aRT, .ref aRN, .ref aRL, .ref aRU, .int (nI cnt)])), (aRL, .inl (cyI, 20, .inl lo)), (aRU, .inl (cyI, 20, .inl up))] H := by exact hP.sub [0, 1, 2, 3] rfl
    have hD9 : va_D A [(aH, .inr (0, [.ref aD, .ref aR, .ref aHW, .ref aHL, .int (nI len), .int hN, .int hL, .int hG])), (aR, .inr (1, [.ref aRF, .ref aRT, .ref aRN, .ref aRL, .ref aRU, .int (nI cnt)])), (aRL, .inl (cyI, 20, .inl lo)), (aRU, .inl (cyI, 20, .inl up))] := by exact hD.sub [0, 1, 2, 3] (by decide) rfl
    subst hAe
    subst hQe
    exact W.zret (v := 1) hx hb hr rfl (fun t ht hW => ⟨⟨_, (), rfl, r3, by rw [ht]; exact hP9, va_K.moved hW.alike hK, hD9⟩, hS.F ht⟩) hS.2.2 dX0_isWider_36
  · skip
    refine lv_iload_n hx hb dX0_isWider_22 rfl (lv_at hl 0 rfl) ?_
    refine lv_if_ne (tgt := 35) hx hb dX0_isWider_23 (by decide) (fun c23 => ?_) (fun c23 => ?_)
    · skip
      refine lv_iconst (v := 0) hx hb dX0_isWider_35 (by decide) ?_
      have r4 : 0 = (bI (isw lo up x y)) := by first | (simp [isw, bI, *]; done) | (have q := Nat.not_lt.mpr c28; simp [isw, bI, *])
      have hP9 : va_P (dC, dI) vwCl [(aH, .inr (0, [.ref aD, .ref aR, .ref aHW, .ref aHL, .int (nI len), .int hN, .int hL, .int hG])), (aR, .inr (1, [.ref aRF, .ref aRT, .ref aRN, .ref aRL, .ref aRU, .int (nI cnt)])), (aRL, .inl (cyI, 20, .inl lo)), (aRU, .inl (cyI, 20, .inl up))] H := by exact hP.sub [0, 1, 2, 3] rfl
      have hD9 : va_D A [(aH, .inr (0, [.ref aD, .ref aR, .ref aHW, .ref aHL, .int (nI len), .int hN, .int hL, .int hG])), (aR, .inr (1, [.ref aRF, .ref aRT, .ref aRN, .ref aRL, .ref aRU, .int (nI cnt)])), (aRL, .inl (cyI, 20, .inl lo)), (aRU, .inl (cyI, 20, .inl up))] := by exact hD.sub [0, 1, 2, 3] (by decide) rfl
      subst hAe
      subst hQe
      exact W.zret (v := 0) hx hb hr rfl (fun t ht hW => ⟨⟨_, (), rfl, r4, by rw [ht]; exact hP9, va_K.moved hW.alike hK, hD9⟩, hS.F ht⟩) hS.2.2 dX0_isWider_36
    · skip
      refine lv_iload_n hx hb dX0_isWider_26 rfl (lv_at hl 2 rfl) ?_
      refine lv_iload_n hx hb dX0_isWider_27 rfl (lv_at hl 3 rfl) ?_
      refine lv_icmp_ge (tgt := 35) hx hb dX0_isWider_28 (by decide) (fun c28 => ?_) (fun c28 => ?_)
      · have c28 := n_le (a := y) (b := x) (by omega) (by omega) c28
        refine lv_iconst (v := 0) hx hb dX0_isWider_35 (by decide) ?_
        have r5 : 0 = (bI (isw lo up x y)) := by first | (simp [isw, bI, *]; done) | (have q := Nat.not_lt.mpr c28; simp [isw, bI, *])
        have hP9 : va_P (dC, dI) vwCl [(aH, .inr (0, [.ref aD, .ref aR, .ref aHW, .ref aHL, .int (nI len), .int hN, .int hL, .int hG])), (aR, .inr (1, [.ref aRF, .ref aRT, .ref aRN, .ref aRL, .ref aRU, .int (nI cnt)])), (aRL, .inl (cyI, 20, .inl lo)), (aRU, .inl (cyI, 20, .inl up))] H := by exact hP.sub [0, 1, 2, 3] rfl
        have hD9 : va_D A [(aH, .inr (0, [.ref aD, .ref aR, .ref aHW, .ref aHL, .int (nI len), .int hN, .int hL, .int hG])), (aR, .inr (1, [.ref aRF, .ref aRT, .ref aRN, .ref aRL, .ref aRU, .int (nI cnt)])), (aRL, .inl (cyI, 20, .inl lo)), (aRU, .inl (cyI, 20, .inl up))] := by exact hD.sub [0, 1, 2, 3] (by decide) rfl
        subst hAe
        subst hQe
        exact W.zret (v := 0) hx hb hr rfl (fun t ht hW => ⟨⟨_, (), rfl, r5, by rw [ht]; exact hP9, va_K.moved hW.alike hK, hD9⟩, hS.F ht⟩) hS.2.2 dX0_isWider_36
      · have c28 := n_nle (a := y) (b := x) (by omega) (by omega) c28
        refine lv_iconst (v := 1) hx hb dX0_isWider_31 (by decide) ?_
        refine lv_goto (tgt := 36) hx hb dX0_isWider_32 (by decide) ?_
        have r6 : 1 = (bI (isw lo up x y)) := by first | (simp [isw, bI, *]; done) | (have q := Nat.not_lt.mpr c28; simp [isw, bI, *])
        have hP9 : va_P (dC, dI) vwCl [(aH, .inr (0, [.ref aD, .ref aR, .ref aHW, .ref aHL, .int (nI len), .int hN, .int hL, .int hG])), (aR, .inr (1, [.ref aRF, .ref aRT, .ref aRN, .ref aRL, .ref aRU, .int (nI cnt)])), (aRL, .inl (cyI, 20, .inl lo)), (aRU, .inl (cyI, 20, .inl up))] H := by exact hP.sub [0, 1, 2, 3] rfl
        have hD9 : va_D A [(aH, .inr (0, [.ref aD, .ref aR, .ref aHW, .ref aHL, .int (nI len), .int hN, .int hL, .int hG])), (aR, .inr (1, [.ref aRF, .ref aRT, .ref aRN, .ref aRL, .ref aRU, .int (nI cnt)])), (aRL, .inl (cyI, 20, .inl lo)), (aRU, .inl (cyI, 20, .inl up))] := by exact hD.sub [0, 1, 2, 3] (by decide) rfl
        subst hAe
        subst hQe
        exact W.zret (v := 1) hx hb hr rfl (fun t ht hW => ⟨⟨_, (), rfl, r6, by rw [ht]; exact hP9, va_K.moved hW.alike hK, hD9⟩, hS.F ht⟩) hS.2.2 dX0_isWider_36
set_option maxHeartbeats 4000000 in
set_option maxRecDepth 100000 in
theorem c_X0_widest (l : Launch) (dC : Nat → ClassId) (dI : Nat → Nat → Nat) (cyI cyZ cyJ cyD : ClassId) (aH aD aR aHW aHL aRF aRT aRN aRL aRU : Nat) (zH : Nat) (len : Nat) (hN : Int32) (hL : Int32) (hG : Int32) (L : Nat → Nat) (lo : Nat → Int32) (up : Nat → Int32) (cnt : Nat) (hlen : len ≤ 12) (hL0 : ∀ k_q, k_q < len → L k_q < 20) : Met l yX0_widest wsX0_widest ({ frames := 2, cells := 0, slots := 0, locals := 44 } : Room) (va_Pc [.ref aH] (fun U => U.heap.size = zH ∧ va_P (dC, dI) vwCl [(aH, .inr (0, [.ref aD, .ref aR, .ref aHW, .ref aHL, .int (nI len), .int hN, .int hL, .int hG])), (aHL, .inl (cyI, 12, .inl (fun j_ => nI (L j_)))), (aR, .inr (1, [.ref aRF, .ref aRT, .ref aRN, .ref aRL, .ref aRU, .int (nI cnt)])), (aRL, .inl (cyI, 20, .inl lo)), (aRU, .inl (cyI, 20, .inl up))] U.heap ∧ va_K (dC, dI) vwCl [(cyI, .int), (cyZ, .boolean), (cyJ, .long), (cyD, .double)] U ∧ va_D (fun _ => True) [(aH, .inr (0, [.ref aD, .ref aR, .ref aHW, .ref aHL, .int (nI len), .int hN, .int hL, .int hG])), (aHL, .inl (cyI, 12, .inl (fun j_ => nI (L j_)))), (aR, .inr (1, [.ref aRF, .ref aRT, .ref aRN, .ref aRL, .ref aRU, .int (nI cnt)])), (aRL, .inl (cyI, 20, .inl lo)), (aRU, .inl (cyI, 20, .inl up))])) (va_Qi (fun (r : Int32) (_ : Unit) => r = wdst L lo up len) (fun _ t => va_P (dC, dI) vwCl [(aH, .inr (0, [.ref aD, .ref aR, .ref aHW, .ref aHL, .int (nI len), .int hN, .int hL, .int hG])), (aHL, .inl (cyI, 12, .inl (fun j_ => nI (L j_)))), (aR, .inr (1, [.ref aRF, .ref aRT, .ref aRN, .ref aRL, .ref aRU, .int (nI cnt)])), (aRL, .inl (cyI, 20, .inl lo)), (aRU, .inl (cyI, 20, .inl up))] t.heap ∧ va_K (dC, dI) vwCl [(cyI, .int), (cyZ, .boolean), (cyJ, .long), (cyD, .double)] t ∧ va_D (va_A [(aH, .inr (0, [.ref aD, .ref aR, .ref aHW, .ref aHL, .int (nI len), .int hN, .int hL, .int hG])), (aHL, .inl (cyI, 12, .inl (fun j_ => nI (L j_)))), (aR, .inr (1, [.ref aRF, .ref aRT, .ref aRN, .ref aRL, .ref aRU, .int (nI cnt)])), (aRL, .inl (cyI, 20, .inl lo)), (aRU, .inl (cyI, 20, .inl up))] zH) [(aH, .inr (0, [.ref aD, .ref aR, .ref aHW, .ref aHL, .int (nI len), .int hN, .int hL, .int hG])), (aHL, .inl (cyI, 12, .inl (fun j_ => nI (L j_)))), (aR, .inr (1, [.ref aRF, .ref aRT, .ref aRN, .ref aRL, .ref aRU, .int (nI cnt)])), (aRL, .inl (cyI, 20, .inl lo)), (aRU, .inl (cyI, 20, .inl up))]) (va_A [(aH, .inr (0, [.ref aD, .ref aR, .ref aHW, .ref aHL, .int (nI len), .int hN, .int hL, .int hG])), (aHL, .inl (cyI, 12, .inl (fun j_ => nI (L j_)))), (aR, .inr (1, [.ref aRF, .ref aRT, .ref aRN, .ref aRL, .ref aRU, .int (nI cnt)])), (aRL, .inl (cyI, 20, .inl lo)), (aRU, .inl (cyI, 20, .inl up))] zH)) 0 0 (va_A [(aH, .inr (0, [.ref aD, .ref aR, .ref aHW, .ref aHL, .int (nI len), .int hN, .int hL, .int hG])), (aHL, .inl (cyI, 12, .inl (fun j_ => nI (L j_)))), (aR, .inr (1, [.ref aRF, .ref aRT, .ref aRN, .ref aRL, .ref aRU, .int (nI cnt)])), (aRL, .inl (cyI, 20, .inl lo)), (aRU, .inl (cyI, 20, .inl up))] zH) := by
  refine Met.ofW (cc := cX0_widest) (maxL := 3) (ret := (some .int)) (by decide) rfl ?_
  intro pM eM s mM args blM mtM cM s₁ BM hml hv
  obtain ⟨rfl, hsz, hP, hK, hD0⟩ := hv
  have hx := BM.exec
  have hb := BM.bytes
  have hr := BM.returns
  have hts := atoms_spec (ws := wsX0_widest) BM.pre
  have hown : s.vm.findClass RX0 = some mM.cls := findClass_of_methodNamed BM.named
  have hlocks := BM.notSynchronized
  have w0 := hts (.fieldLink RX0 18 "DimensionChecker$Chain" "length" "I") (by decide +kernel)
  have w1 := hts (.fieldLink RX0 15 "DimensionChecker$Chain" "links" "[I") (by decide +kernel)
  have iX0 : ∀ w ∈ wsX00, w ∈ wsX0_widest := by decide +kernel
  subst hsz
  have hD := hD0.self (sz := s.heap.size)
  obtain ⟨Q, hQe⟩ : ∃ Q : State → Prop, Q = MQ blM (va_Qi (fun (r : Int32) (_ : Unit) => r = wdst L lo up len) (fun _ t => va_P (dC, dI) vwCl [(aH, .inr (0, [.ref aD, .ref aR, .ref aHW, .ref aHL, .int (nI len), .int hN, .int hL, .int hG])), (aHL, .inl (cyI, 12, .inl (fun j_ => nI (L j_)))), (aR, .inr (1, [.ref aRF, .ref aRT, .ref aRN, .ref aRL, .ref aRU, .int (nI cnt)])), (aRL, .inl (cyI, 20, .inl lo)), (aRU, .inl (cyI, 20, .inl up))] t.heap ∧ va_K (dC, dI) vwCl [(cyI, .int), (cyZ, .boolean), (cyJ, .long), (cyD, .double)] t ∧ va_D (va_A [(aH, .inr (0, [.ref aD, .ref aR, .ref aHW, .ref aHL, .int (nI len), .int hN, .int hL, .int hG])), (aHL, .inl (cyI, 12, .inl (fun j_ => nI (L j_)))), (aR, .inr (1, [.ref aRF, .ref aRT, .ref aRN, .ref aRL, .ref aRU, .int (nI cnt)])), (aRL, .inl (cyI, 20, .inl lo)), (aRU, .inl (cyI, 20, .inl up))] s.heap.size) [(aH, .inr (0, [.ref aD, .ref aR, .ref aHW, .ref aHL, .int (nI len), .int hN, .int hL, .int hG])), (aHL, .inl (cyI, 12, .inl (fun j_ => nI (L j_)))), (aR, .inr (1, [.ref aRF, .ref aRT, .ref aRN, .ref aRL, .ref aRU, .int (nI cnt)])), (aRL, .inl (cyI, 20, .inl lo)), (aRU, .inl (cyI, 20, .inl up))]) (va_A [(aH, .inr (0, [.ref aD, .ref aR, .ref aHW, .ref aHL, .int (nI len), .int hN, .int hL, .int hG])), (aHL, .inl (cyI, 12, .inl (fun j_ => nI (L j_)))), (aR, .inr (1, [.ref aRF, .ref aRT, .ref aRN, .ref aRL, .ref aRU, .int (nI cnt)])), (aRL, .inl (cyI, 20, .inl lo)), (aRU, .inl (cyI, 20, .inl up))] s.heap.size)) ([.ref aH] : List Value).toArray s 0 0 (va_A [(aH, .inr (0, [.ref aD, .ref aR, .ref aHW, .ref aHL, .int (nI len), .int hN, .int hL, .int hG])), (aHL, .inl (cyI, 12, .inl (fun j_ => nI (L j_)))), (aR, .inr (1, [.ref aRF, .ref aRT, .ref aRN, .ref aRL, .ref aRU, .int (nI cnt)])), (aRL, .inl (cyI, 20, .inl lo)), (aRU, .inl (cyI, 20, .inl up))] s.heap.size) := ⟨_, rfl⟩
  rw [← hQe]
  generalize hAe : va_A [(aH, .inr (0, [.ref aD, .ref aR, .ref aHW, .ref aHL, .int (nI len), .int hN, .int hL, .int hG])), (aHL, .inl (cyI, 12, .inl (fun j_ => nI (L j_)))), (aR, .inr (1, [.ref aRF, .ref aRT, .ref aRN, .ref aRL, .ref aRU, .int (nI cnt)])), (aRL, .inl (cyI, 20, .inl lo)), (aRU, .inl (cyI, 20, .inl up))] s.heap.size = A at hD hQe
  have hA : ∀ q : Nat, s.heap.size ≤ q → A q := fun q h => by rw [← hAe]; exact Or.inr h
  obtain ⟨H, hHe⟩ : ∃ H : Heap, H = s.heap := ⟨_, rfl⟩
  have hS : va_S A s.heap H [] := by rw [hHe]; exact va_S.rf
  rw [← hHe] at hP ⊢
  have hl := lv_entry ([.ref aH]) (n := 3) (Nat.le_of_ble_eq_true rfl)
  rw [lg_entry_eq]
  generalize (lg_sl ([.ref aH]) ++ List.replicate (3 - (lg_sl ([.ref aH])).length) Slot.unset).toArray = ls at hl ⊢
  have hl : lv_has ls 3 [(0, .ref aH)] := hl
  refine lv_iconst (v := (-1)) hx hb dX0_widest_0 (by decide) ?_
  refine lv_istore_n (lv' := [(1, .int (-1)), (0, .ref aH)]) hx hb dX0_widest_1 rfl hl (by decide) rfl (fun ls hl => ?_)
  refine lv_iconst (v := 0) hx hb dX0_widest_2 (by decide) ?_
  refine lv_istore_n (lv' := [(2, .int 0), (1, .int (-1)), (0, .ref aH)]) hx hb dX0_widest_3 rfl hl (by decide) rfl (fun ls hl => ?_)
  have k4 : ∀ (fuel : Nat) (i : Nat) (hfuel : len - i < fuel) (hi : i ≤ len) (H : Heap) (locs : List Loc) (ls : Array Slot), va_P (dC, dI) vwCl [(aH, .inr (0, [.ref aD, .ref aR, .ref aHW, .ref aHL, .int (nI len), .int hN, .int hL, .int hG])), (aHL, .inl (cyI, 12, .inl (fun j_ => nI (L j_)))), (aR, .inr (1, [.ref aRF, .ref aRT, .ref aRN, .ref aRL, .ref aRU, .int (nI cnt)])), (aRL, .inl (cyI, 20, .inl lo)), (aRU, .inl (cyI, 20, .inl up))] H → va_D A [(aH, .inr (0, [.ref aD, .ref aR, .ref aHW, .ref aHL, .int (nI len), .int hN, .int hL, .int hG])), (aHL, .inl (cyI, 12, .inl (fun j_ => nI (L j_)))), (aR, .inr (1, [.ref aRF, .ref aRT, .ref aRN, .ref aRL, .ref aRU, .int (nI cnt)])), (aRL, .inl (cyI, 20, .inl lo)), (aRU, .inl (cyI, 20, .inl up))] → va_S A s.heap H locs → lv_has ls 3 [(0, .ref aH), (1, .int (wdst L lo up i)), (2, .int (nI i))] → W pM l eM (headSpec wsX0_widest ({ frames := 2, cells := 0, slots := 0, locals := 44 } : Room)).room s mM ([.ref aH] : List Value).toArray blM mtM cM H locs 0 0 Q (F0 mM 4 ls []) := by
    intro fuel
    induction fuel with
    | zero => intro i hfuel; exact absurd hfuel (Nat.not_lt_zero _)
    | succ fuel ih4 =>
      intro i hfuel hi H locs ls hP hD hS hl
      refine lv_iload_n hx hb dX0_widest_4 rfl (lv_at hl 2 rfl) ?_
      refine lv_aload_n hx hb dX0_widest_5 rfl (lv_at hl 0 rfl) ?_
      refine va_get (D := (dC, dI)) (ci := 0) (v := .int (nI len)) (C := RX0) (T := TX0) (N := 8) hx hb hts iX0 hown hK hP 0 rfl rfl 4 (by decide) w0 (fun _ h9 => h9) rfl dX0_widest_6 ?_
      refine lv_icmp_ge (tgt := 44) hx hb dX0_widest_9 (by decide) (fun c9 => ?_) (fun c9 => ?_)
      · have c9 := n_le (a := len) (b := i) (by omega) (by omega) c9
        refine lv_iload_n hx hb dX0_widest_44 rfl (lv_at hl 1 rfl) ?_
        have r1 : (wdst L lo up i) = (wdst L lo up len) := by rw [show i = len by omega]
        have hP9 : va_P (dC, dI) vwCl [(aH, .inr (0, [.ref aD, .ref aR, .ref aHW, .ref aHL, .int (nI len), .int hN, .int hL, .int hG])), (aHL, .inl (cyI, 12, .inl (fun j_ => nI (L j_)))), (aR, .inr (1, [.ref aRF, .ref aRT, .ref aRN, .ref aRL, .ref aRU, .int (nI cnt)])), (aRL, .inl (cyI, 20, .inl lo)), (aRU, .inl (cyI, 20, .inl up))] H := by exact hP.sub [0, 1, 2, 3, 4] rfl
        have hD9 : va_D A [(aH, .inr (0, [.ref aD, .ref aR, .ref aHW, .ref aHL, .int (nI len), .int hN, .int hL, .int hG])), (aHL, .inl (cyI, 12, .inl (fun j_ => nI (L j_)))), (aR, .inr (1, [.ref aRF, .ref aRT, .ref aRN, .ref aRL, .ref aRU, .int (nI cnt)])), (aRL, .inl (cyI, 20, .inl lo)), (aRU, .inl (cyI, 20, .inl up))] := by exact hD.sub [0, 1, 2, 3, 4] (by decide) rfl
        subst hAe
        subst hQe
        exact W.iret (v := wdst L lo up i) hx hb hr (fun t ht hW => ⟨⟨_, (), rfl, r1, by rw [ht]; exact hP9, va_K.moved hW.alike hK, hD9⟩, hS.F ht⟩) hS.2.2 dX0_widest_45
      · have c9 := n_nle (a := len) (b := i) (by omega) (by omega) c9
        have hLi := hL0 i c9
        refine lv_iload_n hx hb dX0_widest_12 rfl (lv_at hl 1 rfl) ?_
        refine lv_iconst (v := (-1)) hx hb dX0_widest_13 (by decide) ?_
        refine lv_icmp_eq (tgt := 31) hx hb dX0_widest_14 (by decide) (fun c14 => ?_) (fun c14 => ?_)
        · skip
          refine lv_aload_n hx hb dX0_widest_31 rfl (lv_at hl 0 rfl) ?_
          refine va_get (D := (dC, dI)) (ci := 0) (v := .ref aHL) (C := RX0) (T := TX0) (N := 8) hx hb hts iX0 hown hK hP 0 rfl rfl 3 (by decide) w1 (fun _ h9 => h9) rfl dX0_widest_32 ?_
          refine lv_iload_n hx hb dX0_widest_35 rfl (lv_at hl 2 rfl) ?_
          have h2 : vp_in (nI i) 12 := by first | exact vp_in_nI (by omega) (by omega) | assumption
          refine va_iald hx hb hK hP 1 0 rfl rfl h2 dX0_widest_36 ?_
          refine lv_topi (fun x3 e4 => ?_)
          obtain rfl : x3 = (nI (L i)) := by rw [e4, nI_clamp (by omega)]
          clear e4
          refine lv_istore_n (lv' := [(1, .int (nI (L i))), (0, .ref aH), (2, .int (nI i))]) hx hb dX0_widest_37 rfl hl (by decide) rfl (fun ls hl => ?_)
          refine lv_iinc (v := nI (i + 1)) (lv' := [(2, .int (nI (i + 1))), (1, .int (nI (L i))), (0, .ref aH)]) hx hb dX0_widest_38 hl (k := 2) rfl (nI_add i 1) (by decide) rfl (fun ls hl => ?_)
          refine lv_goto (tgt := 4) hx hb dX0_widest_41 (by decide) ?_
          have q5 : (wdst L lo up (i + 1)) = (nI (L i)) := by simp only [wdst]; first | rw [if_pos (Or.inl c14)] | rw [if_pos (Or.inr c28)] | rw [if_neg (by rintro (q | q); exact c14 q; rw [c28] at q; cases q)]
          exact ih4 (i + 1) (by omega) (by first | assumption | omega) _ _ _ (hP) (hD) hS (by first | (rw [q5]; exact lv_sub hl [2, 1, 0] rfl) | (simp only [q5]; exact lv_sub hl [2, 1, 0] rfl) | exact lv_sub hl [2, 1, 0] rfl)
        · obtain ⟨j, hj, ej⟩ := wdst_val L lo up i c14
          have hLj := hL0 j (by omega)
          have hjx : (wdst L lo up i).toNatClampNeg = L j := by rw [ej]; exact nI_clamp (by omega)
          refine lv_aload_n hx hb dX0_widest_17 rfl (lv_at hl 0 rfl) ?_
          refine lv_aload_n hx hb dX0_widest_18 rfl (lv_at hl 0 rfl) ?_
          refine va_get (D := (dC, dI)) (ci := 0) (v := .ref aHL) (C := RX0) (T := TX0) (N := 8) hx hb hts iX0 hown hK hP 0 rfl rfl 3 (by decide) w1 (fun _ h9 => h9) rfl dX0_widest_19 ?_
          refine lv_iload_n hx hb dX0_widest_22 rfl (lv_at hl 2 rfl) ?_
          have h6 : vp_in (nI i) 12 := by first | exact vp_in_nI (by omega) (by omega) | assumption
          refine va_iald hx hb hK hP 1 0 rfl rfl h6 dX0_widest_23 ?_
          refine lv_topi (fun x7 e8 => ?_)
          obtain rfl : x7 = (nI (L i)) := by rw [e8, nI_clamp (by omega)]
          clear e8
          refine lv_iload_n hx hb dX0_widest_24 rfl (lv_at hl 1 rfl) ?_
          refine lv_topi (fun x9 e10 => ?_)
          obtain rfl : x9 = (nI ((wdst L lo up i).toNatClampNeg)) := by rw [e10, hjx]; exact ej
          clear e10
          have g11 : (L i) < 20 := by first | assumption | omega | exact vp_in_nI (by omega) (by omega)
          have g12 : ((wdst L lo up i).toNatClampNeg) < 20 := by omega
          have hPc := hP.sub (ws' := [(aH, .inr (0, [.ref aD, .ref aR, .ref aHW, .ref aHL, .int (nI len), .int hN, .int hL, .int hG])), (aR, .inr (1, [.ref aRF, .ref aRT, .ref aRN, .ref aRL, .ref aRU, .int (nI cnt)])), (aRL, .inl (cyI, 20, .inl lo)), (aRU, .inl (cyI, 20, .inl up))]) [0, 2, 3, 4] rfl
          have hDc := hD.sub (ws' := [(aH, .inr (0, [.ref aD, .ref aR, .ref aHW, .ref aHL, .int (nI len), .int hN, .int hL, .int hG])), (aR, .inr (1, [.ref aRF, .ref aRT, .ref aRN, .ref aRL, .ref aRU, .int (nI cnt)])), (aRL, .inl (cyI, 20, .inl lo)), (aRU, .inl (cyI, 20, .inl up))]) [0, 2, 3, 4] (by decide) rfl
          have hFc := va_free (wc := [(aH, .inr (0, [.ref aD, .ref aR, .ref aHW, .ref aHL, .int (nI len), .int hN, .int hL, .int hG])), (aR, .inr (1, [.ref aRF, .ref aRT, .ref aRN, .ref aRL, .ref aRU, .int (nI cnt)])), (aRL, .inl (cyI, 20, .inl lo)), (aRU, .inl (cyI, 20, .inl up))]) hD hS hA [0, 2, 3, 4] rfl
          refine va_calli (va_runV (As := [.int (nI (L i)), .int (nI ((wdst L lo up i).toNatClampNeg))]) (rest := []) ⟨hx, hb, hml, hown, hts⟩ (c_X0_isWider l dC dI cyI cyZ cyJ cyD aH aD aR aHW aHL aRF aRT aRN aRL aRU H.size len hN hL hG lo up cnt (L i) ((wdst L lo up i).toNatClampNeg) g11 g12) (cwV 2 hts gX0_widest_X0_isWider rfl rfl rfl (by decide +kernel) ⟨Nat.le_of_ble_eq_true rfl, Nat.le_of_ble_eq_true rfl⟩) ⟨fun a U g mk q => by obtain ⟨q0, q1, qP, qK, qD⟩ := q; exact ⟨q0, q1, qP, va_K.moved (u := U) (U := U.calling g mk a) (Vm.Alike.refl U.vm) qK, qD⟩, va_recv hK hPc (ci := 0) (q0 := 0) rfl rfl, fun U hU hW => ⟨rfl, by rw [hU], by rw [hU]; exact hPc, va_K.moved hW.alike hK, hDc.weaken (fun _ _ _ _ => trivial)⟩⟩ rfl rfl hl.1 rfl (lv_room (Nat.le_of_ble_eq_true rfl)) dX0_widest_25 ⟨Nat.le_of_ble_eq_true rfl, Nat.le_of_ble_eq_true rfl⟩) hS (fun q _ h => hFc q h) hFc (fun r u t H1 locs ht hvm hw hB hz1 hk1 hS => ?_)
          obtain rfl := hw
          obtain ⟨hP1, hK1, hD1⟩ := hB
          rw [ht] at hP1
          obtain ⟨hP, hD⟩ := va_join (wr := [(aHL, .inl (cyI, 12, .inl (fun j_ => nI (L j_))))]) (w1 := [(aH, .inr (0, [.ref aD, .ref aR, .ref aHW, .ref aHL, .int (nI len), .int hN, .int hL, .int hG])), (aR, .inr (1, [.ref aRF, .ref aRT, .ref aRN, .ref aRL, .ref aRU, .int (nI cnt)])), (aRL, .inl (cyI, 20, .inl lo)), (aRU, .inl (cyI, 20, .inl up))]) hP hD [0, 2, 3, 4] [1] rfl rfl (by decide) (by decide) hk1 hFc hP1 hD1
          clear hP1 hD1 hK1 hPc hDc hFc hk1 hz1 hvm ht u t
          generalize H1 = H at hP hS ⊢
          have hP : va_P (dC, dI) vwCl [(aHL, .inl (cyI, 12, .inl (fun j_ => nI (L j_)))), (aH, .inr (0, [.ref aD, .ref aR, .ref aHW, .ref aHL, .int (nI len), .int hN, .int hL, .int hG])), (aR, .inr (1, [.ref aRF, .ref aRT, .ref aRN, .ref aRL, .ref aRU, .int (nI cnt)])), (aRL, .inl (cyI, 20, .inl lo)), (aRU, .inl (cyI, 20, .inl up))] H := hP
          have hD : va_D A [(aHL, .inl (cyI, 12, .inl (fun j_ => nI (L j_)))), (aH, .inr (0, [.ref aD, .ref aR, .ref aHW, .ref aHL, .int (nI len), .int hN, .int hL, .int hG])), (aR, .inr (1, [.ref aRF, .ref aRT, .ref aRN, .ref aRL, .ref aRU, .int (nI cnt)])), (aRL, .inl (cyI, 20, .inl lo)), (aRU, .inl (cyI, 20, .inl up))] := hD
          refine lv_if_eq (tgt := 38) hx hb dX0_widest_28 (by decide) (fun c28 => ?_) (fun c28 => ?_)
          · have c28 : (isw lo up (L i) ((wdst L lo up i).toNatClampNeg)) = false := bI_0 c28
            refine lv_iinc (v := nI (i + 1)) (lv' := [(2, .int (nI (i + 1))), (0, .ref aH), (1, .int (wdst L lo up i))]) hx hb dX0_widest_38 hl (k := 2) rfl (nI_add i 1) (by decide) rfl (fun ls hl => ?_)
            refine lv_goto (tgt := 4) hx hb dX0_widest_41 (by decide) ?_
            have q13 : (wdst L lo up (i + 1)) = (wdst L lo up i) := by simp only [wdst]; first | rw [if_pos (Or.inl c14)] | rw [if_pos (Or.inr c28)] | rw [if_neg (by rintro (q | q); exact c14 q; rw [c28] at q; cases q)]
            exact ih4 (i + 1) (by omega) (by first | assumption | omega) _ _ _ (hP.sub [1, 0, 2, 3, 4] rfl) (hD.sub [1, 0, 2, 3, 4] (by decide) rfl) hS (by first | (rw [q13]; exact lv_sub hl [1, 2, 0] rfl) | (simp only [q13]; exact lv_sub hl [1, 2, 0] rfl) | exact lv_sub hl [1, 2, 0] rfl)
          · have c28 : (isw lo up (L i) ((wdst L lo up i).toNatClampNeg)) = true := bI_n0 c28
            refine lv_aload_n hx hb dX0_widest_31 rfl (lv_at hl 0 rfl) ?_
            refine va_get (D := (dC, dI)) (ci := 0) (v := .ref aHL) (C := RX0) (T := TX0) (N := 8) hx hb hts iX0 hown hK hP 1 rfl rfl 3 (by decide) w1 (fun _ h9 => h9) rfl dX0_widest_32 ?_
            refine lv_iload_n hx hb dX0_widest_35 rfl (lv_at hl 2 rfl) ?_
            have h14 : vp_in (nI i) 12 := by first | exact vp_in_nI (by omega) (by omega) | assumption
            refine va_iald hx hb hK hP 0 0 rfl rfl h14 dX0_widest_36 ?_
            refine lv_topi (fun x15 e16 => ?_)
            obtain rfl : x15 = (nI (L i)) := by rw [e16, nI_clamp (by omega)]
            clear e16
            refine lv_istore_n (lv' := [(1, .int (nI (L i))), (0, .ref aH), (2, .int (nI i))]) hx hb dX0_widest_37 rfl hl (by decide) rfl (fun ls hl => ?_)
            refine lv_iinc (v := nI (i + 1)) (lv' := [(2, .int (nI (i + 1))), (1, .int (nI (L i))), (0, .ref aH)]) hx hb dX0_widest_38 hl (k := 2) rfl (nI_add i 1) (by decide) rfl (fun ls hl => ?_)
            refine lv_goto (tgt := 4) hx hb dX0_widest_41 (by decide) ?_
            have q17 : (wdst L lo up (i + 1)) = (nI (L i)) := by simp only [wdst]; first | rw [if_pos (Or.inl c14)] | rw [if_pos (Or.inr c28)] | rw [if_neg (by rintro (q | q); exact c14 q; rw [c28] at q; cases q)]
            exact ih4 (i + 1) (by omega) (by first | assumption | omega) _ _ _ (hP.sub [1, 0, 2, 3, 4] rfl) (hD.sub [1, 0, 2, 3, 4] (by decide) rfl) hS (by first | (rw [q17]; exact lv_sub hl [2, 1, 0] rfl) | (simp only [q17]; exact lv_sub hl [2, 1, 0] rfl) | exact lv_sub hl [2, 1, 0] rfl)
  have q18 : (wdst L lo up 0) = (-1) := by rfl
  have q19 : (nI 0) = 0 := by first | rfl | simp [*] | (simp only [*]; done)
  exact k4 (len - 0 + 1) 0 (Nat.lt_succ_self _) (by first | assumption | omega) _ _ _ (hP) (hD) hS (by first | (rw [q18, q19]; exact lv_sub hl [2, 1, 0] rfl) | (simp only [q18, q19]; exact lv_sub hl [2, 1, 0] rfl) | exact lv_sub hl [2, 1, 0] rfl)
set_option maxHeartbeats 4000000 in
set_option maxRecDepth 100000 in
theorem c_X0_rootOfSquares (l : Launch) (dC : Nat → ClassId) (dI : Nat → Nat → Nat) (cyI cyZ cyJ cyD : ClassId) (aH aD aR aHW aHL aRF aRT aRN aRL aRU : Nat) (zH : Nat) (len : Nat) (hN : Int32) (hL : Int32) (hG : Int32) (L : Nat → Nat) (lo : Nat → Int32) (up : Nat → Int32) (cnt : Nat) (hlen : len ≤ 12) (hL0 : ∀ k_q, k_q < len → L k_q < 20) (hwd : ∀ k_q, k_q < len → up (L k_q) - lo (L k_q) = nI (wdN lo up (L k_q)) ∧ wdN lo up (L k_q) ≤ 1998) : Met l yX0_rootOfSquares wsX0_rootOfSquares ({ frames := 1, cells := 0, slots := 0, locals := 21 } : Room) (va_Pc [.ref aH] (fun U => U.heap.size = zH ∧ va_P (dC, dI) vwCl [(aH, .inr (0, [.ref aD, .ref aR, .ref aHW, .ref aHL, .int (nI len), .int hN, .int hL, .int hG])), (aHL, .inl (cyI, 12, .inl (fun j_ => nI (L j_)))), (aR, .inr (1, [.ref aRF, .ref aRT, .ref aRN, .ref aRL, .ref aRU, .int (nI cnt)])), (aRL, .inl (cyI, 20, .inl lo)), (aRU, .inl (cyI, 20, .inl up))] U.heap ∧ va_K (dC, dI) vwCl [(cyI, .int), (cyZ, .boolean), (cyJ, .long), (cyD, .double)] U ∧ va_D (fun _ => True) [(aH, .inr (0, [.ref aD, .ref aR, .ref aHW, .ref aHL, .int (nI len), .int hN, .int hL, .int hG])), (aHL, .inl (cyI, 12, .inl (fun j_ => nI (L j_)))), (aR, .inr (1, [.ref aRF, .ref aRT, .ref aRN, .ref aRL, .ref aRU, .int (nI cnt)])), (aRL, .inl (cyI, 20, .inl lo)), (aRU, .inl (cyI, 20, .inl up))])) (va_Qi (fun (r : Int32) (_ : Unit) => r = nI (rtS (sqN L lo up len) 13)) (fun _ t => va_P (dC, dI) vwCl [(aH, .inr (0, [.ref aD, .ref aR, .ref aHW, .ref aHL, .int (nI len), .int hN, .int hL, .int hG])), (aHL, .inl (cyI, 12, .inl (fun j_ => nI (L j_)))), (aR, .inr (1, [.ref aRF, .ref aRT, .ref aRN, .ref aRL, .ref aRU, .int (nI cnt)])), (aRL, .inl (cyI, 20, .inl lo)), (aRU, .inl (cyI, 20, .inl up))] t.heap ∧ va_K (dC, dI) vwCl [(cyI, .int), (cyZ, .boolean), (cyJ, .long), (cyD, .double)] t ∧ va_D (va_A [(aH, .inr (0, [.ref aD, .ref aR, .ref aHW, .ref aHL, .int (nI len), .int hN, .int hL, .int hG])), (aHL, .inl (cyI, 12, .inl (fun j_ => nI (L j_)))), (aR, .inr (1, [.ref aRF, .ref aRT, .ref aRN, .ref aRL, .ref aRU, .int (nI cnt)])), (aRL, .inl (cyI, 20, .inl lo)), (aRU, .inl (cyI, 20, .inl up))] zH) [(aH, .inr (0, [.ref aD, .ref aR, .ref aHW, .ref aHL, .int (nI len), .int hN, .int hL, .int hG])), (aHL, .inl (cyI, 12, .inl (fun j_ => nI (L j_)))), (aR, .inr (1, [.ref aRF, .ref aRT, .ref aRN, .ref aRL, .ref aRU, .int (nI cnt)])), (aRL, .inl (cyI, 20, .inl lo)), (aRU, .inl (cyI, 20, .inl up))]) (va_A [(aH, .inr (0, [.ref aD, .ref aR, .ref aHW, .ref aHL, .int (nI len), .int hN, .int hL, .int hG])), (aHL, .inl (cyI, 12, .inl (fun j_ => nI (L j_)))), (aR, .inr (1, [.ref aRF, .ref aRT, .ref aRN, .ref aRL, .ref aRU, .int (nI cnt)])), (aRL, .inl (cyI, 20, .inl lo)), (aRU, .inl (cyI, 20, .inl up))] zH)) 0 0 (va_A [(aH, .inr (0, [.ref aD, .ref aR, .ref aHW, .ref aHL, .int (nI len), .int hN, .int hL, .int hG])), (aHL, .inl (cyI, 12, .inl (fun j_ => nI (L j_)))), (aR, .inr (1, [.ref aRF, .ref aRT, .ref aRN, .ref aRL, .ref aRU, .int (nI cnt)])), (aRL, .inl (cyI, 20, .inl lo)), (aRU, .inl (cyI, 20, .inl up))] zH) := by
  refine Met.ofW (cc := cX0_rootOfSquares) (maxL := 5) (ret := (some .int)) (by decide) rfl ?_
  intro pM eM s mM args blM mtM cM s₁ BM hml hv
  obtain ⟨rfl, hsz, hP, hK, hD0⟩ := hv
  have hx := BM.exec
  have hb := BM.bytes
  have hr := BM.returns
  have hts := atoms_spec (ws := wsX0_rootOfSquares) BM.pre
  have hown : s.vm.findClass RX0 = some mM.cls := findClass_of_methodNamed BM.named
  have hlocks := BM.notSynchronized
  have w0 := hts (.fieldLink RX0 18 "DimensionChecker$Chain" "length" "I") (by decide +kernel)
  have w1 := hts (.fieldLink RX0 41 "DimensionChecker$Chain" "rows" "LDimensionChecker$Dimensions;") (by decide +kernel)
  have w2 := hts (.fieldLink RX0 15 "DimensionChecker$Chain" "links" "[I") (by decide +kernel)
  have iX0 : ∀ w ∈ wsX00, w ∈ wsX0_rootOfSquares := by decide +kernel
  subst hsz
  have hD := hD0.self (sz := s.heap.size)
  obtain ⟨Q, hQe⟩ : ∃ Q : State → Prop, Q = MQ blM (va_Qi (fun (r : Int32) (_ : Unit) => r = nI (rtS (sqN L lo up len) 13)) (fun _ t => va_P (dC, dI) vwCl [(aH, .inr (0, [.ref aD, .ref aR, .ref aHW, .ref aHL, .int (nI len), .int hN, .int hL, .int hG])), (aHL, .inl (cyI, 12, .inl (fun j_ => nI (L j_)))), (aR, .inr (1, [.ref aRF, .ref aRT, .ref aRN, .ref aRL, .ref aRU, .int (nI cnt)])), (aRL, .inl (cyI, 20, .inl lo)), (aRU, .inl (cyI, 20, .inl up))] t.heap ∧ va_K (dC, dI) vwCl [(cyI, .int), (cyZ, .boolean), (cyJ, .long), (cyD, .double)] t ∧ va_D (va_A [(aH, .inr (0, [.ref aD, .ref aR, .ref aHW, .ref aHL, .int (nI len), .int hN, .int hL, .int hG])), (aHL, .inl (cyI, 12, .inl (fun j_ => nI (L j_)))), (aR, .inr (1, [.ref aRF, .ref aRT, .ref aRN, .ref aRL, .ref aRU, .int (nI cnt)])), (aRL, .inl (cyI, 20, .inl lo)), (aRU, .inl (cyI, 20, .inl up))] s.heap.size) [(aH, .inr (0, [.ref aD, .ref aR, .ref aHW, .ref aHL, .int (nI len), .int hN, .int hL, .int hG])), (aHL, .inl (cyI, 12, .inl (fun j_ => nI (L j_)))), (aR, .inr (1, [.ref aRF, .ref aRT, .ref aRN, .ref aRL, .ref aRU, .int (nI cnt)])), (aRL, .inl (cyI, 20, .inl lo)), (aRU, .inl (cyI, 20, .inl up))]) (va_A [(aH, .inr (0, [.ref aD, .ref aR, .ref aHW, .ref aHL, .int (nI len), .int hN, .int hL, .int hG])), (aHL, .inl (cyI, 12, .inl (fun j_ => nI (L j_)))), (aR, .inr (1, [.ref aRF, .ref aRT, .ref aRN, .ref aRL, .ref aRU, .int (nI cnt)])), (aRL, .inl (cyI, 20, .inl lo)), (aRU, .inl (cyI, 20, .inl up))] s.heap.size)) ([.ref aH] : List Value).toArray s 0 0 (va_A [(aH, .inr (0, [.ref aD, .ref aR, .ref aHW, .ref aHL, .int (nI len), .int hN, .int hL, .int hG])), (aHL, .inl (cyI, 12, .inl (fun j_ => nI (L j_)))), (aR, .inr (1, [.ref aRF, .ref aRT, .ref aRN, .ref aRL, .ref aRU, .int (nI cnt)])), (aRL, .inl (cyI, 20, .inl lo)), (aRU, .inl (cyI, 20, .inl up))] s.heap.size) := ⟨_, rfl⟩
  rw [← hQe]
  generalize hAe : va_A [(aH, .inr (0, [.ref aD, .ref aR, .ref aHW, .ref aHL, .int (nI len), .int hN, .int hL, .int hG])), (aHL, .inl (cyI, 12, .inl (fun j_ => nI (L j_)))), (aR, .inr (1, [.ref aRF, .ref aRT, .ref aRN, .ref aRL, .ref aRU, .int (nI cnt)])), (aRL, .inl (cyI, 20, .inl lo)), (aRU, .inl (cyI, 20, .inl up))] s.heap.size = A at hD hQe
  have hA : ∀ q : Nat, s.heap.size ≤ q → A q := fun q h => by rw [← hAe]; exact Or.inr h
  obtain ⟨H, hHe⟩ : ∃ H : Heap, H = s.heap := ⟨_, rfl⟩
  have hS : va_S A s.heap H [] := by rw [hHe]; exact va_S.rf
  rw [← hHe] at hP ⊢
  have hl := lv_entry ([.ref aH]) (n := 5) (Nat.le_of_ble_eq_true rfl)
  rw [lg_entry_eq]
  generalize (lg_sl ([.ref aH]) ++ List.replicate (5 - (lg_sl ([.ref aH])).length) Slot.unset).toArray = ls at hl ⊢
  have hl : lv_has ls 5 [(0, .ref aH)] := hl
  have hsq : sqN L lo up len ≤ 47904048 := sqN_le hlen (fun k h => (hwd k h).2)
  refine lv_iconst (v := 0) hx hb dX0_rootOfSquares_0 (by decide) ?_
  refine lv_istore_n (lv' := [(1, .int 0), (0, .ref aH)]) hx hb dX0_rootOfSquares_1 rfl hl (by decide) rfl (fun ls hl => ?_)
  refine lv_iconst (v := 0) hx hb dX0_rootOfSquares_2 (by decide) ?_
  refine lv_istore_n (lv' := [(2, .int 0), (1, .int 0), (0, .ref aH)]) hx hb dX0_rootOfSquares_3 rfl hl (by decide) rfl (fun ls hl => ?_)
  have k4 : ∀ (fuel : Nat) (i : Nat) (hfuel : len - i < fuel) (hi : i ≤ len) (H : Heap) (locs : List Loc) (ls : Array Slot), va_P (dC, dI) vwCl [(aH, .inr (0, [.ref aD, .ref aR, .ref aHW, .ref aHL, .int (nI len), .int hN, .int hL, .int hG])), (aHL, .inl (cyI, 12, .inl (fun j_ => nI (L j_)))), (aR, .inr (1, [.ref aRF, .ref aRT, .ref aRN, .ref aRL, .ref aRU, .int (nI cnt)])), (aRL, .inl (cyI, 20, .inl lo)), (aRU, .inl (cyI, 20, .inl up))] H → va_D A [(aH, .inr (0, [.ref aD, .ref aR, .ref aHW, .ref aHL, .int (nI len), .int hN, .int hL, .int hG])), (aHL, .inl (cyI, 12, .inl (fun j_ => nI (L j_)))), (aR, .inr (1, [.ref aRF, .ref aRT, .ref aRN, .ref aRL, .ref aRU, .int (nI cnt)])), (aRL, .inl (cyI, 20, .inl lo)), (aRU, .inl (cyI, 20, .inl up))] → va_S A s.heap H locs → lv_has ls 5 [(0, .ref aH), (1, .int (nI (sqN L lo up i))), (2, .int (nI i))] → W pM l eM (headSpec wsX0_rootOfSquares ({ frames := 1, cells := 0, slots := 0, locals := 21 } : Room)).room s mM ([.ref aH] : List Value).toArray blM mtM cM H locs 0 0 Q (F0 mM 4 ls []) := by
    intro fuel
    induction fuel with
    | zero => intro i hfuel; exact absurd hfuel (Nat.not_lt_zero _)
    | succ fuel ih4 =>
      intro i hfuel hi H locs ls hP hD hS hl
      refine lv_iload_n hx hb dX0_rootOfSquares_4 rfl (lv_at hl 2 rfl) ?_
      refine lv_aload_n hx hb dX0_rootOfSquares_5 rfl (lv_at hl 0 rfl) ?_
      refine va_get (D := (dC, dI)) (ci := 0) (v := .int (nI len)) (C := RX0) (T := TX0) (N := 8) hx hb hts iX0 hown hK hP 0 rfl rfl 4 (by decide) w0 (fun _ h9 => h9) rfl dX0_rootOfSquares_6 ?_
      refine lv_icmp_ge (tgt := 38) hx hb dX0_rootOfSquares_9 (by decide) (fun c9 => ?_) (fun c9 => ?_)
      · have c9 := n_le (a := len) (b := i) (by omega) (by omega) c9
        have eli : i = len := by omega
        refine lv_iconst (v := 0) hx hb dX0_rootOfSquares_38 (by decide) ?_
        refine lv_istore_n (lv' := [(2, .int 0), (0, .ref aH), (1, .int (nI (sqN L lo up i)))]) hx hb dX0_rootOfSquares_39 rfl hl (by decide) rfl (fun ls hl => ?_)
        refine lv_sipush (v := 4096) hx hb dX0_rootOfSquares_40 (by decide) ?_
        refine lv_istore_n (lv' := [(3, .int 4096), (2, .int 0), (0, .ref aH), (1, .int (nI (sqN L lo up i)))]) hx hb dX0_rootOfSquares_43 rfl hl (by decide) rfl (fun ls hl => ?_)
        have k44 : ∀ (fuel : Nat) (t : Nat) (hfuel : 13 - t < fuel) (ht0 : t ≤ 13) (H : Heap) (locs : List Loc) (ls : Array Slot), va_P (dC, dI) vwCl [(aH, .inr (0, [.ref aD, .ref aR, .ref aHW, .ref aHL, .int (nI len), .int hN, .int hL, .int hG])), (aHL, .inl (cyI, 12, .inl (fun j_ => nI (L j_)))), (aR, .inr (1, [.ref aRF, .ref aRT, .ref aRN, .ref aRL, .ref aRU, .int (nI cnt)])), (aRL, .inl (cyI, 20, .inl lo)), (aRU, .inl (cyI, 20, .inl up))] H → va_D A [(aH, .inr (0, [.ref aD, .ref aR, .ref aHW, .ref aHL, .int (nI len), .int hN, .int hL, .int hG])), (aHL, .inl (cyI, 12, .inl (fun j_ => nI (L j_)))), (aR, .inr (1, [.ref aRF, .ref aRT, .ref aRN, .ref aRL, .ref aRU, .int (nI cnt)])), (aRL, .inl (cyI, 20, .inl lo)), (aRU, .inl (cyI, 20, .inl up))] → va_S A s.heap H locs → lv_has ls 5 [(0, .ref aH), (1, .int (nI (sqN L lo up len))), (2, .int (nI (rtS (sqN L lo up len) t))), (3, .int (nI (pb (13 - t))))] → W pM l eM (headSpec wsX0_rootOfSquares ({ frames := 1, cells := 0, slots := 0, locals := 21 } : Room)).room s mM ([.ref aH] : List Value).toArray blM mtM cM H locs 0 0 Q (F0 mM 44 ls []) := by
          intro fuel
          induction fuel with
          | zero => intro t hfuel; exact absurd hfuel (Nat.not_lt_zero _)
          | succ fuel ih44 =>
            intro t hfuel ht0 H locs ls hP hD hS hl
            have hb9 := rtS_le (sqN L lo up len) t ht0
            have hpb := pb_le (13 - t) (by omega)
            refine lv_iload_n hx hb dX0_rootOfSquares_44 rfl (lv_at hl 3 rfl) ?_
            refine lv_if_le (tgt := 72) hx hb dX0_rootOfSquares_45 (by decide) (fun c45 => ?_) (fun c45 => ?_)
            · have c45 := n_le (a := pb (13 - t)) (b := 0) (by omega) (by omega) c45
              have et : t = 13 := by rcases Nat.lt_or_ge t 13 with q | q; exact absurd c45 (by have := pb_pos (j := 13 - t) (by omega); omega); omega
              refine lv_iload_n hx hb dX0_rootOfSquares_72 rfl (lv_at hl 2 rfl) ?_
              have r1 : (nI (rtS (sqN L lo up len) t)) = (nI (rtS (sqN L lo up len) 13)) := by rw [et]
              have hP9 : va_P (dC, dI) vwCl [(aH, .inr (0, [.ref aD, .ref aR, .ref aHW, .ref aHL, .int (nI len), .int hN, .int hL, .int hG])), (aHL, .inl (cyI, 12, .inl (fun j_ => nI (L j_)))), (aR, .inr (1, [.ref aRF, .ref aRT, .ref aRN, .ref aRL, .ref aRU, .int (nI cnt)])), (aRL, .inl (cyI, 20, .inl lo)), (aRU, .inl (cyI, 20, .inl up))] H := by exact hP.sub [0, 1, 2, 3, 4] rfl
              have hD9 : va_D A [(aH, .inr (0, [.ref aD, .ref aR, .ref aHW, .ref aHL, .int (nI len), .int hN, .int hL, .int hG])), (aHL, .inl (cyI, 12, .inl (fun j_ => nI (L j_)))), (aR, .inr (1, [.ref aRF, .ref aRT, .ref aRN, .ref aRL, .ref aRU, .int (nI cnt)])), (aRL, .inl (cyI, 20, .inl lo)), (aRU, .inl (cyI, 20, .inl up))] := by exact hD.sub [0, 1, 2, 3, 4] (by decide) rfl
              subst hAe
              subst hQe
              exact W.iret (v := nI (rtS (sqN L lo up len) t)) hx hb hr (fun t ht hW => ⟨⟨_, (), rfl, r1, by rw [ht]; exact hP9, va_K.moved hW.alike hK, hD9⟩, hS.F ht⟩) hS.2.2 dX0_rootOfSquares_73
            · have c45 := n_nle (a := pb (13 - t)) (b := 0) (by omega) (by omega) c45
              have htl : t < 13 := by rcases Nat.lt_or_ge t 13 with q | q; exact q; exact absurd c45 (by rw [show 13 - t = 0 by omega]; decide)
              have hnx : (rtS (sqN L lo up len) t + pb (13 - t)) * (rtS (sqN L lo up len) t + pb (13 - t)) ≤ 67108864 := Nat.le_trans (Nat.mul_le_mul hb9 hb9) (by decide)
              refine lv_iload_n hx hb dX0_rootOfSquares_48 rfl (lv_at hl 2 rfl) ?_
              refine lv_iload_n hx hb dX0_rootOfSquares_49 rfl (lv_at hl 3 rfl) ?_
              refine lv_iadd hx hb dX0_rootOfSquares_50 ?_
              refine lv_topi (fun x2 e3 => ?_)
              obtain rfl : x2 = (nI ((rtS (sqN L lo up len) t) + (pb (13 - t)))) := by rw [e3]; exact nI_add (rtS (sqN L lo up len) t) (pb (13 - t))
              clear e3
              refine lv_istore (lv' := [(4, .int (nI ((rtS (sqN L lo up len) t) + (pb (13 - t))))), (0, .ref aH), (1, .int (nI (sqN L lo up len))), (2, .int (nI (rtS (sqN L lo up len) t))), (3, .int (nI (pb (13 - t))))]) hx hb dX0_rootOfSquares_51 hl (by decide) rfl (fun ls hl => ?_)
              refine lv_iload hx hb dX0_rootOfSquares_53 (lv_at hl 0 rfl) ?_
              refine lv_iload hx hb dX0_rootOfSquares_55 (lv_at hl 0 rfl) ?_
              refine lv_imul hx hb dX0_rootOfSquares_57 ?_
              refine lv_topi (fun x4 e5 => ?_)
              obtain rfl : x4 = (nI (((rtS (sqN L lo up len) t) + (pb (13 - t))) * ((rtS (sqN L lo up len) t) + (pb (13 - t))))) := by rw [e5]; exact pk_mul ((rtS (sqN L lo up len) t) + (pb (13 - t))) ((rtS (sqN L lo up len) t) + (pb (13 - t)))
              clear e5
              refine lv_iload_n hx hb dX0_rootOfSquares_58 rfl (lv_at hl 2 rfl) ?_
              refine lv_icmp_gt (tgt := 65) hx hb dX0_rootOfSquares_59 (by decide) (fun c59 => ?_) (fun c59 => ?_)
              · have c59 := n_lt (a := sqN L lo up len) (b := ((rtS (sqN L lo up len) t) + (pb (13 - t))) * ((rtS (sqN L lo up len) t) + (pb (13 - t)))) (by omega) (by omega) c59
                refine lv_iload_n hx hb dX0_rootOfSquares_65 rfl (lv_at hl 4 rfl) ?_
                refine lv_iconst (v := 1) hx hb dX0_rootOfSquares_66 (by decide) ?_
                refine lv_ishr hx hb dX0_rootOfSquares_67 ?_
                refine lv_topi (fun x6 e7 => ?_)
                obtain rfl : x6 = (nI (pb (13 - (t + 1)))) := by rw [e7]; exact pb_shr htl
                clear e7
                refine lv_istore_n (lv' := [(3, .int (nI (pb (13 - (t + 1))))), (4, .int (nI ((rtS (sqN L lo up len) t) + (pb (13 - t))))), (0, .ref aH), (1, .int (nI (sqN L lo up len))), (2, .int (nI (rtS (sqN L lo up len) t)))]) hx hb dX0_rootOfSquares_68 rfl hl (by decide) rfl (fun ls hl => ?_)
                refine lv_goto (tgt := 44) hx hb dX0_rootOfSquares_69 (by decide) ?_
                have q8 : (nI (rtS (sqN L lo up len) (t + 1))) = (nI (rtS (sqN L lo up len) t)) := by simp only [rtS]; first | rw [if_pos c59] | rw [if_neg (Nat.not_le.mpr c59)]
                exact ih44 (t + 1) (by omega) (by first | assumption | omega) _ _ _ (hP) (hD) hS (by first | (rw [q8]; exact lv_sub hl [2, 3, 4, 0] rfl) | (simp only [q8]; exact lv_sub hl [2, 3, 4, 0] rfl) | exact lv_sub hl [2, 3, 4, 0] rfl)
              · have c59 := n_nlt (a := sqN L lo up len) (b := ((rtS (sqN L lo up len) t) + (pb (13 - t))) * ((rtS (sqN L lo up len) t) + (pb (13 - t)))) (by omega) (by omega) c59
                refine lv_iload hx hb dX0_rootOfSquares_62 (lv_at hl 0 rfl) ?_
                refine lv_istore_n (lv' := [(2, .int (nI ((rtS (sqN L lo up len) t) + (pb (13 - t))))), (4, .int (nI ((rtS (sqN L lo up len) t) + (pb (13 - t))))), (0, .ref aH), (1, .int (nI (sqN L lo up len))), (3, .int (nI (pb (13 - t))))]) hx hb dX0_rootOfSquares_64 rfl hl (by decide) rfl (fun ls hl => ?_)
                refine lv_iload_n hx hb dX0_rootOfSquares_65 rfl (lv_at hl 4 rfl) ?_
                refine lv_iconst (v := 1) hx hb dX0_rootOfSquares_66 (by decide) ?_
                refine lv_ishr hx hb dX0_rootOfSquares_67 ?_
                refine lv_topi (fun x9 e10 => ?_)
                obtain rfl : x9 = (nI (pb (13 - (t + 1)))) := by rw [e10]; exact pb_shr htl
                clear e10
                refine lv_istore_n (lv' := [(3, .int (nI (pb (13 - (t + 1))))), (2, .int (nI ((rtS (sqN L lo up len) t) + (pb (13 - t))))), (4, .int (nI ((rtS (sqN L lo up len) t) + (pb (13 - t))))), (0, .ref aH), (1, .int (nI (sqN L lo up len)))]) hx hb dX0_rootOfSquares_68 rfl hl (by decide) rfl (fun ls hl => ?_)
                refine lv_goto (tgt := 44) hx hb dX0_rootOfSquares_69 (by decide) ?_
                have q11 : (nI (rtS (sqN L lo up len) (t + 1))) = (nI ((rtS (sqN L lo up len) t) + (pb (13 - t)))) := by simp only [rtS]; first | rw [if_pos c59] | rw [if_neg (Nat.not_le.mpr c59)]
                exact ih44 (t + 1) (by omega) (by first | assumption | omega) _ _ _ (hP) (hD) hS (by first | (rw [q11]; exact lv_sub hl [3, 4, 1, 0] rfl) | (simp only [q11]; exact lv_sub hl [3, 4, 1, 0] rfl) | exact lv_sub hl [3, 4, 1, 0] rfl)
        have q12 : (nI (sqN L lo up len)) = (nI (sqN L lo up i)) := by rw [eli]
        have q13 : (nI (rtS (sqN L lo up len) 0)) = 0 := by rfl
        have q14 : (nI (pb (13 - 0))) = 4096 := by first | rfl | simp [*] | (simp only [*]; done)
        exact k44 (13 - 0 + 1) 0 (Nat.lt_succ_self _) (by first | assumption | omega) _ _ _ (hP) (hD) hS (by first | (rw [q12, q13, q14]; exact lv_sub hl [2, 3, 1, 0] rfl) | (simp only [q12, q13, q14]; exact lv_sub hl [2, 3, 1, 0] rfl) | exact lv_sub hl [2, 3, 1, 0] rfl)
      · have c9 := n_nle (a := len) (b := i) (by omega) (by omega) c9
        have hLi := hL0 i c9
        have hwi := hwd i c9
        refine lv_aload_n hx hb dX0_rootOfSquares_12 rfl (lv_at hl 0 rfl) ?_
        refine va_get (D := (dC, dI)) (ci := 0) (v := .ref aR) (C := RX0) (T := TX0) (N := 8) hx hb hts iX0 hown hK hP 0 rfl rfl 1 (by decide) w1 (fun _ h9 => h9) rfl dX0_rootOfSquares_13 ?_
        refine lv_aload_n hx hb dX0_rootOfSquares_16 rfl (lv_at hl 0 rfl) ?_
        refine va_get (D := (dC, dI)) (ci := 0) (v := .ref aHL) (C := RX0) (T := TX0) (N := 8) hx hb hts iX0 hown hK hP 0 rfl rfl 3 (by decide) w2 (fun _ h9 => h9) rfl dX0_rootOfSquares_17 ?_
        refine lv_iload_n hx hb dX0_rootOfSquares_20 rfl (lv_at hl 2 rfl) ?_
        have h15 : vp_in (nI i) 12 := by first | exact vp_in_nI (by omega) (by omega) | assumption
        refine va_iald hx hb hK hP 1 0 rfl rfl h15 dX0_rootOfSquares_21 ?_
        refine lv_topi (fun x16 e17 => ?_)
        obtain rfl : x16 = (nI (L i)) := by rw [e17, nI_clamp (by omega)]
        clear e17
        have g18 : (L i) < 20 := by first | assumption | omega | exact vp_in_nI (by omega) (by omega)
        have hPc := hP.sub (ws' := [(aR, .inr (1, [.ref aRF, .ref aRT, .ref aRN, .ref aRL, .ref aRU, .int (nI cnt)])), (aRL, .inl (cyI, 20, .inl lo)), (aRU, .inl (cyI, 20, .inl up))]) [2, 3, 4] rfl
        have hDc := hD.sub (ws' := [(aR, .inr (1, [.ref aRF, .ref aRT, .ref aRN, .ref aRL, .ref aRU, .int (nI cnt)])), (aRL, .inl (cyI, 20, .inl lo)), (aRU, .inl (cyI, 20, .inl up))]) [2, 3, 4] (by decide) rfl
        have hFc := va_free (wc := [(aR, .inr (1, [.ref aRF, .ref aRT, .ref aRN, .ref aRL, .ref aRU, .int (nI cnt)])), (aRL, .inl (cyI, 20, .inl lo)), (aRU, .inl (cyI, 20, .inl up))]) hD hS hA [2, 3, 4] rfl
        refine va_calli (va_runV (As := [.int (nI (L i))]) (rest := []) ⟨hx, hb, hml, hown, hts⟩ (c_X1_width l dC dI cyI cyZ cyJ cyD aR aRF aRT aRN aRL aRU H.size lo up cnt (L i) g18) (cwV 1 hts gX0_rootOfSquares_X1_width rfl rfl rfl (by decide +kernel) ⟨Nat.le_of_ble_eq_true rfl, Nat.le_of_ble_eq_true rfl⟩) ⟨fun a U g mk q => by obtain ⟨q0, q1, qP, qK, qD⟩ := q; exact ⟨q0, q1, qP, va_K.moved (u := U) (U := U.calling g mk a) (Vm.Alike.refl U.vm) qK, qD⟩, va_recv hK hPc (ci := 1) (q0 := 0) rfl rfl, fun U hU hW => ⟨rfl, by rw [hU], by rw [hU]; exact hPc, va_K.moved hW.alike hK, hDc.weaken (fun _ _ _ _ => trivial)⟩⟩ rfl rfl hl.1 rfl (lv_room (Nat.le_of_ble_eq_true rfl)) dX0_rootOfSquares_22 ⟨Nat.le_of_ble_eq_true rfl, Nat.le_of_ble_eq_true rfl⟩) hS (fun q _ h => hFc q h) hFc (fun r u t H1 locs ht hvm hw hB hz1 hk1 hS => ?_)
        obtain rfl := hw
        obtain ⟨hP1, hK1, hD1⟩ := hB
        rw [ht] at hP1
        obtain ⟨hP, hD⟩ := va_join (wr := [(aH, .inr (0, [.ref aD, .ref aR, .ref aHW, .ref aHL, .int (nI len), .int hN, .int hL, .int hG])), (aHL, .inl (cyI, 12, .inl (fun j_ => nI (L j_))))]) (w1 := [(aR, .inr (1, [.ref aRF, .ref aRT, .ref aRN, .ref aRL, .ref aRU, .int (nI cnt)])), (aRL, .inl (cyI, 20, .inl lo)), (aRU, .inl (cyI, 20, .inl up))]) hP hD [2, 3, 4] [0, 1] rfl rfl (by decide) (by decide) hk1 hFc hP1 hD1
        clear hP1 hD1 hK1 hPc hDc hFc hk1 hz1 hvm ht u t
        generalize H1 = H at hP hS ⊢
        have hP : va_P (dC, dI) vwCl [(aH, .inr (0, [.ref aD, .ref aR, .ref aHW, .ref aHL, .int (nI len), .int hN, .int hL, .int hG])), (aHL, .inl (cyI, 12, .inl (fun j_ => nI (L j_)))), (aR, .inr (1, [.ref aRF, .ref aRT, .ref aRN, .ref aRL, .ref aRU, .int (nI cnt)])), (aRL, .inl (cyI, 20, .inl lo)), (aRU, .inl (cyI, 20, .inl up))] H := hP
        have hD : va_D A [(aH, .inr (0, [.ref aD, .ref aR, .ref aHW, .ref aHL, .int (nI len), .int hN, .int hL, .int hG])), (aHL, .inl (cyI, 12, .inl (fun j_ => nI (L j_)))), (aR, .inr (1, [.ref aRF, .ref aRT, .ref aRN, .ref aRL, .ref aRU, .int (nI cnt)])), (aRL, .inl (cyI, 20, .inl lo)), (aRU, .inl (cyI, 20, .inl up))] := hD
        refine lv_topi (fun x19 e20 => ?_)
        obtain rfl : x19 = (nI (wdN lo up (L i))) := by rw [e20]; exact hwi.1
        clear e20
        refine lv_istore_n (lv' := [(3, .int (nI (wdN lo up (L i)))), (0, .ref aH), (1, .int (nI (sqN L lo up i))), (2, .int (nI i))]) hx hb dX0_rootOfSquares_25 rfl hl (by decide) rfl (fun ls hl => ?_)
        refine lv_iload_n hx hb dX0_rootOfSquares_26 rfl (lv_at hl 2 rfl) ?_
        refine lv_iload_n hx hb dX0_rootOfSquares_27 rfl (lv_at hl 0 rfl) ?_
        refine lv_iload_n hx hb dX0_rootOfSquares_28 rfl (lv_at hl 0 rfl) ?_
        refine lv_imul hx hb dX0_rootOfSquares_29 ?_
        refine lv_topi (fun x21 e22 => ?_)
        obtain rfl : x21 = (nI ((wdN lo up (L i)) * (wdN lo up (L i)))) := by rw [e22]; exact pk_mul (wdN lo up (L i)) (wdN lo up (L i))
        clear e22
        refine lv_iadd hx hb dX0_rootOfSquares_30 ?_
        refine lv_topi (fun x23 e24 => ?_)
        obtain rfl : x23 = (nI ((sqN L lo up i) + ((wdN lo up (L i)) * (wdN lo up (L i))))) := by rw [e24]; exact nI_add (sqN L lo up i) ((wdN lo up (L i)) * (wdN lo up (L i)))
        clear e24
        refine lv_istore_n (lv' := [(1, .int (nI ((sqN L lo up i) + ((wdN lo up (L i)) * (wdN lo up (L i)))))), (3, .int (nI (wdN lo up (L i)))), (0, .ref aH), (2, .int (nI i))]) hx hb dX0_rootOfSquares_31 rfl hl (by decide) rfl (fun ls hl => ?_)
        refine lv_iinc (v := nI (i + 1)) (lv' := [(2, .int (nI (i + 1))), (1, .int (nI ((sqN L lo up i) + ((wdN lo up (L i)) * (wdN lo up (L i)))))), (3, .int (nI (wdN lo up (L i)))), (0, .ref aH)]) hx hb dX0_rootOfSquares_32 hl (k := 3) rfl (nI_add i 1) (by decide) rfl (fun ls hl => ?_)
        refine lv_goto (tgt := 4) hx hb dX0_rootOfSquares_35 (by decide) ?_
        have q25 : (nI (sqN L lo up (i + 1))) = (nI ((sqN L lo up i) + ((wdN lo up (L i)) * (wdN lo up (L i))))) := by rfl
        exact ih4 (i + 1) (by omega) (by first | assumption | omega) _ _ _ (hP) (hD) hS (by first | (rw [q25]; exact lv_sub hl [3, 1, 0] rfl) | (simp only [q25]; exact lv_sub hl [3, 1, 0] rfl) | exact lv_sub hl [3, 1, 0] rfl)
  have q26 : (nI (sqN L lo up 0)) = 0 := by rfl
  have q27 : (nI 0) = 0 := by rfl
  exact k4 (len - 0 + 1) 0 (Nat.lt_succ_self _) (by first | assumption | omega) _ _ _ (hP) (hD) hS (by first | (rw [q26, q27]; exact lv_sub hl [2, 1, 0] rfl) | (simp only [q26, q27]; exact lv_sub hl [2, 1, 0] rfl) | exact lv_sub hl [2, 1, 0] rfl)
