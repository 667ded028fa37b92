theorem lp_cmp {j SL : Nat} (hSL : SL ≤ 3072) (hj : 6 * j ≤ SL) (c : ¬ (nI SL - 6 < nI (6 * j))) : 6 * j + 6 ≤ SL := by
  have h1 : (nI SL - 6).toInt = (SL : Int) - 6 := pk_sub_toInt (a := SL) (b := 6) (by omega) (by decide)
  rw [Int32.lt_iff_toInt_lt, h1, nI_toInt (by omega)] at c
  omega
set_option maxHeartbeats 4000000 in
set_option maxRecDepth 100000 in
theorem lw_loop {pM : Program} {l : Launch} {eM : Env} {s : State} {mM : MethodId} {blM : List Frame} {mtM : Method} {cM : Code} {dC : Nat → ClassId} {dI : Nat → Nat → Nat} {cyI cyZ cyJ cyD : ClassId} {aB SL : Nat} {xs : Nat → Int32} (hst : l.stackTraces = false) (hSL : SL ≤ 3072) (C0 : lw_At pM s mM mtM cM aB SL xs) (hK : va_K (dC, dI) vwCl [(cyI, .int), (cyZ, .boolean), (cyJ, .long), (cyD, .double)] s) (hXW : xW (fun q : Nat => s.heap.size ≤ q) s) (htW : tW (fun q : Nat => s.heap.size ≤ q) s) (xN : xN s) (nw75 : va_Nw (.methodLinkNest RX4 75 yX6_areDeviations RX6) s) : ∀ (fuel j : Nat), 6 * j ≤ SL → SL + 1 ≤ 6 * j + fuel → ∀ (aC aD aR aRF aRT aRN aRL aRU aDL aDD aH aHW aHL aS aSN aT aTM aL aQ aQF aQT aQN aQL aQU aI aM aMF aMT aMN aML aMU aMB aMf aMt aMn aMl aMu aMP aMD aMC aMO aMY aMS aO aE : Nat) (il : Nat) (n : Nat) (cnt : Nat) (F : Nat → Nat) (T : Nat → Nat) (nm : Nat → Int32) (lo : Nat → Int32) (up : Nat → Int32) (P : Nat → Nat) (dd : Nat → Bool) (len : Nat) (hN : Int32) (hL : Int32) (hG : Int32) (wy : Nat → Int32) (La : Nat → Nat) (w : Nat → Int32) (v : Nat → Int32) (n0 : Nat) (pl : Nat) (row : Nat) (dg : Nat) (sz : Nat) (ng : Bool) (F2 : Nat → Nat) (T2 : Nat → Nat) (nm2 : Nat → Int32) (lo2 : Nat → Int32) (up2 : Nat → Int32) (cnt2 : Nat) (inp : Nat → Nat) (th : Int32) (sg : Nat) (rm : Nat) (mdg : Nat) (mnb : Nat) (mng : Bool) (rF : Nat → Int32) (rT : Nat → Int32) (rN : Nat → Int32) (rL : Nat → Int32) (rU : Nat → Int32) (Pm : Nat → Nat) (dm : Nat → Bool) (lk : Nat) (Lb : Nat → Nat) (wm : Nat → Int32) (gn : Int32) (gl : Int32) (gg : Int32) (yb : Nat → Int64) (nn : Int32) (nl : Int32) (nu : Int32) (wk : Nat → Int32) (hs : Int64) (o : Nat → Int64) (od : Nat → UInt64) (H : Heap) (locs : List Loc) (ls : Array Slot), St n cnt F T nm lo up il inp → Dr n cnt F T P dd → lk ≤ 12 → va_P (dC, dI) vwCl [(aC, .inr (6, [.ref aD, .ref aR, .ref aH, .ref aS, .ref aT, .ref aL, .ref aI, .int (nI il)])), (aD, .inr (2, [.ref aR, .ref aDL, .ref aDD, .int (nI n)])), (aR, .inr (1, [.ref aRF, .ref aRT, .ref aRN, .ref aRL, .ref aRU, .int (nI cnt)])), (aRF, .inl (cyI, 20, .inl (fun j_ => nI (F j_)))), (aRT, .inl (cyI, 20, .inl (fun j_ => nI (T j_)))), (aRN, .inl (cyI, 20, .inl nm)), (aRL, .inl (cyI, 20, .inl lo)), (aRU, .inl (cyI, 20, .inl up)), (aDL, .inl (cyI, 12, .inl (fun j_ => nI (P j_)))), (aDD, .inl (cyZ, 20, .inl (fun j_ => bI (dd j_)))), (aH, .inr (0, [.ref aD, .ref aR, .ref aHW, .ref aHL, .int (nI len), .int hN, .int hL, .int hG])), (aHW, .inl (cyI, 12, .inl wy)), (aHL, .inl (cyI, 12, .inl (fun j_ => nI (La j_)))), (aS, .inr (4, [.ref aH, .ref aR, .ref aSN])), (aSN, .inl (cyI, 20, .inl w)), (aT, .inr (5, [.ref aD, .ref aTM])), (aTM, .inl (cyI, 144, .inl v)), (aL, .inr (3, [.ref aQ, .int (nI n0), .int (nI pl), .int (nI row), .int (nI dg), .int (nI sz), .int (bI ng)])), (aQ, .inr (1, [.ref aQF, .ref aQT, .ref aQN, .ref aQL, .ref aQU, .int (nI cnt2)])), (aQF, .inl (cyI, 20, .inl (fun j_ => nI (F2 j_)))), (aQT, .inl (cyI, 20, .inl (fun j_ => nI (T2 j_)))), (aQN, .inl (cyI, 20, .inl nm2)), (aQL, .inl (cyI, 20, .inl lo2)), (aQU, .inl (cyI, 20, .inl up2)), (aI, .inl (cyI, 60, .inl (fun j_ => nI (inp j_)))), (aM, .inr (7, [.int th, .int (nI n), .int (nI cnt), .ref aMF, .ref aMT, .ref aMN, .ref aML, .ref aMU, .int (nI il), .ref aMB, .int (nI sg), .int (nI rm), .int (nI mdg), .int (nI mnb), .int (bI mng), .ref aMf, .ref aMt, .ref aMn, .ref aMl, .ref aMu, .ref aMP, .ref aMD, .int (nI lk), .ref aMC, .ref aMO, .int gn, .int gl, .int gg, .ref aMY, .int nn, .int nl, .int nu, .ref aMS, .long hs])), (aMF, .inl (cyI, 20, .inl (fun j_ => nI (F j_)))), (aMT, .inl (cyI, 20, .inl (fun j_ => nI (T j_)))), (aMN, .inl (cyI, 20, .inl nm)), (aML, .inl (cyI, 20, .inl lo)), (aMU, .inl (cyI, 20, .inl up)), (aMB, .inl (cyI, 60, .inl (fun j_ => nI (inp j_)))), (aMf, .inl (cyI, 20, .inl rF)), (aMt, .inl (cyI, 20, .inl rT)), (aMn, .inl (cyI, 20, .inl rN)), (aMl, .inl (cyI, 20, .inl rL)), (aMu, .inl (cyI, 20, .inl rU)), (aMP, .inl (cyI, 12, .inl (fun j_ => nI (Pm j_)))), (aMD, .inl (cyZ, 20, .inl (fun j_ => bI (dm j_)))), (aMC, .inl (cyI, 12, .inl (fun j_ => nI (Lb j_)))), (aMO, .inl (cyI, 12, .inl wm)), (aMY, .inl (cyJ, 144, .inr (.inl yb))), (aMS, .inl (cyI, 20, .inl wk)), (aO, .inl (cyJ, 1, .inr (.inl o))), (aE, .inl (cyD, 1, .inr (.inr (.inr (.inl od)))))] H → va_D (fun q : Nat => s.heap.size ≤ q) [(aC, .inr (6, [.ref aD, .ref aR, .ref aH, .ref aS, .ref aT, .ref aL, .ref aI, .int (nI il)])), (aD, .inr (2, [.ref aR, .ref aDL, .ref aDD, .int (nI n)])), (aR, .inr (1, [.ref aRF, .ref aRT, .ref aRN, .ref aRL, .ref aRU, .int (nI cnt)])), (aRF, .inl (cyI, 20, .inl (fun j_ => nI (F j_)))), (aRT, .inl (cyI, 20, .inl (fun j_ => nI (T j_)))), (aRN, .inl (cyI, 20, .inl nm)), (aRL, .inl (cyI, 20, .inl lo)), (aRU, .inl (cyI, 20, .inl up)), (aDL, .inl (cyI, 12, .inl (fun j_ => nI (P j_)))), (aDD, .inl (cyZ, 20, .inl (fun j_ => bI (dd j_)))), (aH, .inr (0, [.ref aD, .ref aR, .ref aHW, .ref aHL, .int (nI len), .int hN, .int hL, .int hG])), (aHW, .inl (cyI, 12, .inl wy)), (aHL, .inl (cyI, 12, .inl (fun j_ => nI (La j_)))), (aS, .inr (4, [.ref aH, .ref aR, .ref aSN])), (aSN, .inl (cyI, 20, .inl w)), (aT, .inr (5, [.ref aD, .ref aTM])), (aTM, .inl (cyI, 144, .inl v)), (aL, .inr (3, [.ref aQ, .int (nI n0), .int (nI pl), .int (nI row), .int (nI dg), .int (nI sz), .int (bI ng)])), (aQ, .inr (1, [.ref aQF, .ref aQT, .ref aQN, .ref aQL, .ref aQU, .int (nI cnt2)])), (aQF, .inl (cyI, 20, .inl (fun j_ => nI (F2 j_)))), (aQT, .inl (cyI, 20, .inl (fun j_ => nI (T2 j_)))), (aQN, .inl (cyI, 20, .inl nm2)), (aQL, .inl (cyI, 20, .inl lo2)), (aQU, .inl (cyI, 20, .inl up2)), (aI, .inl (cyI, 60, .inl (fun j_ => nI (inp j_)))), (aM, .inr (7, [.int th, .int (nI n), .int (nI cnt), .ref aMF, .ref aMT, .ref aMN, .ref aML, .ref aMU, .int (nI il), .ref aMB, .int (nI sg), .int (nI rm), .int (nI mdg), .int (nI mnb), .int (bI mng), .ref aMf, .ref aMt, .ref aMn, .ref aMl, .ref aMu, .ref aMP, .ref aMD, .int (nI lk), .ref aMC, .ref aMO, .int gn, .int gl, .int gg, .ref aMY, .int nn, .int nl, .int nu, .ref aMS, .long hs])), (aMF, .inl (cyI, 20, .inl (fun j_ => nI (F j_)))), (aMT, .inl (cyI, 20, .inl (fun j_ => nI (T j_)))), (aMN, .inl (cyI, 20, .inl nm)), (aML, .inl (cyI, 20, .inl lo)), (aMU, .inl (cyI, 20, .inl up)), (aMB, .inl (cyI, 60, .inl (fun j_ => nI (inp j_)))), (aMf, .inl (cyI, 20, .inl rF)), (aMt, .inl (cyI, 20, .inl rT)), (aMn, .inl (cyI, 20, .inl rN)), (aMl, .inl (cyI, 20, .inl rL)), (aMu, .inl (cyI, 20, .inl rU)), (aMP, .inl (cyI, 12, .inl (fun j_ => nI (Pm j_)))), (aMD, .inl (cyZ, 20, .inl (fun j_ => bI (dm j_)))), (aMC, .inl (cyI, 12, .inl (fun j_ => nI (Lb j_)))), (aMO, .inl (cyI, 12, .inl wm)), (aMY, .inl (cyJ, 144, .inr (.inl yb))), (aMS, .inl (cyI, 20, .inl wk)), (aO, .inl (cyJ, 1, .inr (.inl o))), (aE, .inl (cyD, 1, .inr (.inr (.inr (.inl od)))))] → va_S (fun q : Nat => s.heap.size ≤ q) s.heap H locs → lv_has ls 9 [(0, .ref aB), (1, .ref aC), (2, .ref aM), (3, .ref aO), (4, .ref aE), (5, .int (nI (6 * j)))] → W pM l eM room_1 s mM #[Value.ref aB] blM mtM cM H locs (45 + j) (1040 + 6 * j) (lw_Z blM #[Value.ref aB] s) (F0 mM 28 ls []) := by
  obtain ⟨hx, hb, hr, hml, hown, hts, hX, hbl, hlocks, hgv⟩ := id C0
  have hA : ∀ q : Nat, s.heap.size ≤ q → (fun q : Nat => s.heap.size ≤ q) q := fun _ h => h
  have hbA : ¬ (fun q : Nat => s.heap.size ≤ q) aB := Nat.not_le.mpr hbl
  intro fuel
  induction fuel with
  | zero => intro j h1 h2; exact absurd h2 (by omega)
  | succ fuel ih =>
    intro j hj hf
    have hKK : 6 * j + 6 ≤ SL → ∀ (aC aD aR aRF aRT aRN aRL aRU aDL aDD aH aHW aHL aS aSN aT aTM aL aQ aQF aQT aQN aQL aQU aI aM aMF aMT aMN aML aMU aMB aMf aMt aMn aMl aMu aMP aMD aMC aMO aMY aMS aO aE : Nat) (il : Nat) (n : Nat) (cnt : Nat) (F : Nat → Nat) (T : Nat → Nat) (nm : Nat → Int32) (lo : Nat → Int32) (up : Nat → Int32) (P : Nat → Nat) (dd : Nat → Bool) (len : Nat) (hN : Int32) (hL : Int32) (hG : Int32) (wy : Nat → Int32) (La : Nat → Nat) (w : Nat → Int32) (v : Nat → Int32) (n0 : Nat) (pl : Nat) (row : Nat) (dg : Nat) (sz : Nat) (ng : Bool) (F2 : Nat → Nat) (T2 : Nat → Nat) (nm2 : Nat → Int32) (lo2 : Nat → Int32) (up2 : Nat → Int32) (cnt2 : Nat) (inp : Nat → Nat) (th : Int32) (sg : Nat) (rm : Nat) (mdg : Nat) (mnb : Nat) (mng : Bool) (rF : Nat → Int32) (rT : Nat → Int32) (rN : Nat → Int32) (rL : Nat → Int32) (rU : Nat → Int32) (Pm : Nat → Nat) (dm : Nat → Bool) (lk : Nat) (Lb : Nat → Nat) (wm : Nat → Int32) (gn : Int32) (gl : Int32) (gg : Int32) (yb : Nat → Int64) (nn : Int32) (nl : Int32) (nu : Int32) (wk : Nat → Int32) (hs : Int64) (o : Nat → Int64) (od : Nat → UInt64) (H : Heap) (locs : List Loc) (ls : Array Slot), St n cnt F T nm lo up il inp → Dr n cnt F T P dd → lk ≤ 12 → va_P (dC, dI) vwCl [(aC, .inr (6, [.ref aD, .ref aR, .ref aH, .ref aS, .ref aT, .ref aL, .ref aI, .int (nI il)])), (aD, .inr (2, [.ref aR, .ref aDL, .ref aDD, .int (nI n)])), (aR, .inr (1, [.ref aRF, .ref aRT, .ref aRN, .ref aRL, .ref aRU, .int (nI cnt)])), (aRF, .inl (cyI, 20, .inl (fun j_ => nI (F j_)))), (aRT, .inl (cyI, 20, .inl (fun j_ => nI (T j_)))), (aRN, .inl (cyI, 20, .inl nm)), (aRL, .inl (cyI, 20, .inl lo)), (aRU, .inl (cyI, 20, .inl up)), (aDL, .inl (cyI, 12, .inl (fun j_ => nI (P j_)))), (aDD, .inl (cyZ, 20, .inl (fun j_ => bI (dd j_)))), (aH, .inr (0, [.ref aD, .ref aR, .ref aHW, .ref aHL, .int (nI len), .int hN, .int hL, .int hG])), (aHW, .inl (cyI, 12, .inl wy)), (aHL, .inl (cyI, 12, .inl (fun j_ => nI (La j_)))), (aS, .inr (4, [.ref aH, .ref aR, .ref aSN])), (aSN, .inl (cyI, 20, .inl w)), (aT, .inr (5, [.ref aD, .ref aTM])), (aTM, .inl (cyI, 144, .inl v)), (aL, .inr (3, [.ref aQ, .int (nI n0), .int (nI pl), .int (nI row), .int (nI dg), .int (nI sz), .int (bI ng)])), (aQ, .inr (1, [.ref aQF, .ref aQT, .ref aQN, .ref aQL, .ref aQU, .int (nI cnt2)])), (aQF, .inl (cyI, 20, .inl (fun j_ => nI (F2 j_)))), (aQT, .inl (cyI, 20, .inl (fun j_ => nI (T2 j_)))), (aQN, .inl (cyI, 20, .inl nm2)), (aQL, .inl (cyI, 20, .inl lo2)), (aQU, .inl (cyI, 20, .inl up2)), (aI, .inl (cyI, 60, .inl (fun j_ => nI (inp j_)))), (aM, .inr (7, [.int th, .int (nI n), .int (nI cnt), .ref aMF, .ref aMT, .ref aMN, .ref aML, .ref aMU, .int (nI il), .ref aMB, .int (nI sg), .int (nI rm), .int (nI mdg), .int (nI mnb), .int (bI mng), .ref aMf, .ref aMt, .ref aMn, .ref aMl, .ref aMu, .ref aMP, .ref aMD, .int (nI lk), .ref aMC, .ref aMO, .int gn, .int gl, .int gg, .ref aMY, .int nn, .int nl, .int nu, .ref aMS, .long hs])), (aMF, .inl (cyI, 20, .inl (fun j_ => nI (F j_)))), (aMT, .inl (cyI, 20, .inl (fun j_ => nI (T j_)))), (aMN, .inl (cyI, 20, .inl nm)), (aML, .inl (cyI, 20, .inl lo)), (aMU, .inl (cyI, 20, .inl up)), (aMB, .inl (cyI, 60, .inl (fun j_ => nI (inp j_)))), (aMf, .inl (cyI, 20, .inl rF)), (aMt, .inl (cyI, 20, .inl rT)), (aMn, .inl (cyI, 20, .inl rN)), (aMl, .inl (cyI, 20, .inl rL)), (aMu, .inl (cyI, 20, .inl rU)), (aMP, .inl (cyI, 12, .inl (fun j_ => nI (Pm j_)))), (aMD, .inl (cyZ, 20, .inl (fun j_ => bI (dm j_)))), (aMC, .inl (cyI, 12, .inl (fun j_ => nI (Lb j_)))), (aMO, .inl (cyI, 12, .inl wm)), (aMY, .inl (cyJ, 144, .inr (.inl yb))), (aMS, .inl (cyI, 20, .inl wk)), (aO, .inl (cyJ, 1, .inr (.inl o))), (aE, .inl (cyD, 1, .inr (.inr (.inr (.inl od)))))] H → va_D (fun q : Nat => s.heap.size ≤ q) [(aC, .inr (6, [.ref aD, .ref aR, .ref aH, .ref aS, .ref aT, .ref aL, .ref aI, .int (nI il)])), (aD, .inr (2, [.ref aR, .ref aDL, .ref aDD, .int (nI n)])), (aR, .inr (1, [.ref aRF, .ref aRT, .ref aRN, .ref aRL, .ref aRU, .int (nI cnt)])), (aRF, .inl (cyI, 20, .inl (fun j_ => nI (F j_)))), (aRT, .inl (cyI, 20, .inl (fun j_ => nI (T j_)))), (aRN, .inl (cyI, 20, .inl nm)), (aRL, .inl (cyI, 20, .inl lo)), (aRU, .inl (cyI, 20, .inl up)), (aDL, .inl (cyI, 12, .inl (fun j_ => nI (P j_)))), (aDD, .inl (cyZ, 20, .inl (fun j_ => bI (dd j_)))), (aH, .inr (0, [.ref aD, .ref aR, .ref aHW, .ref aHL, .int (nI len), .int hN, .int hL, .int hG])), (aHW, .inl (cyI, 12, .inl wy)), (aHL, .inl (cyI, 12, .inl (fun j_ => nI (La j_)))), (aS, .inr (4, [.ref aH, .ref aR, .ref aSN])), (aSN, .inl (cyI, 20, .inl w)), (aT, .inr (5, [.ref aD, .ref aTM])), (aTM, .inl (cyI, 144, .inl v)), (aL, .inr (3, [.ref aQ, .int (nI n0), .int (nI pl), .int (nI row), .int (nI dg), .int (nI sz), .int (bI ng)])), (aQ, .inr (1, [.ref aQF, .ref aQT, .ref aQN, .ref aQL, .ref aQU, .int (nI cnt2)])), (aQF, .inl (cyI, 20, .inl (fun j_ => nI (F2 j_)))), (aQT, .inl (cyI, 20, .inl (fun j_ => nI (T2 j_)))), (aQN, .inl (cyI, 20, .inl nm2)), (aQL, .inl (cyI, 20, .inl lo2)), (aQU, .inl (cyI, 20, .inl up2)), (aI, .inl (cyI, 60, .inl (fun j_ => nI (inp j_)))), (aM, .inr (7, [.int th, .int (nI n), .int (nI cnt), .ref aMF, .ref aMT, .ref aMN, .ref aML, .ref aMU, .int (nI il), .ref aMB, .int (nI sg), .int (nI rm), .int (nI mdg), .int (nI mnb), .int (bI mng), .ref aMf, .ref aMt, .ref aMn, .ref aMl, .ref aMu, .ref aMP, .ref aMD, .int (nI lk), .ref aMC, .ref aMO, .int gn, .int gl, .int gg, .ref aMY, .int nn, .int nl, .int nu, .ref aMS, .long hs])), (aMF, .inl (cyI, 20, .inl (fun j_ => nI (F j_)))), (aMT, .inl (cyI, 20, .inl (fun j_ => nI (T j_)))), (aMN, .inl (cyI, 20, .inl nm)), (aML, .inl (cyI, 20, .inl lo)), (aMU, .inl (cyI, 20, .inl up)), (aMB, .inl (cyI, 60, .inl (fun j_ => nI (inp j_)))), (aMf, .inl (cyI, 20, .inl rF)), (aMt, .inl (cyI, 20, .inl rT)), (aMn, .inl (cyI, 20, .inl rN)), (aMl, .inl (cyI, 20, .inl rL)), (aMu, .inl (cyI, 20, .inl rU)), (aMP, .inl (cyI, 12, .inl (fun j_ => nI (Pm j_)))), (aMD, .inl (cyZ, 20, .inl (fun j_ => bI (dm j_)))), (aMC, .inl (cyI, 12, .inl (fun j_ => nI (Lb j_)))), (aMO, .inl (cyI, 12, .inl wm)), (aMY, .inl (cyJ, 144, .inr (.inl yb))), (aMS, .inl (cyI, 20, .inl wk)), (aO, .inl (cyJ, 1, .inr (.inl o))), (aE, .inl (cyD, 1, .inr (.inr (.inr (.inl od)))))] → va_S (fun q : Nat => s.heap.size ≤ q) s.heap H locs → lv_has ls 9 [(0, .ref aB), (1, .ref aC), (2, .ref aM), (3, .ref aO), (4, .ref aE), (5, .int (nI (6 * j)))] → W pM l eM room_1 s mM #[Value.ref aB] blM mtM cM H locs (45 + j + 1) (1040 + 6 * j + 6) (lw_Z blM #[Value.ref aB] s) (F0 mM 1666 ls []) := by
      intro h6 aC aD aR aRF aRT aRN aRL aRU aDL aDD aH aHW aHL aS aSN aT aTM aL aQ aQF aQT aQN aQL aQU aI aM aMF aMT aMN aML aMU aMB aMf aMt aMn aMl aMu aMP aMD aMC aMO aMY aMS aO aE il n cnt F T nm lo up P dd len hN hL hG wy La w v n0 pl row dg sz ng F2 T2 nm2 lo2 up2 cnt2 inp th sg rm mdg mnb mng rF rT rN rL rU Pm dm lk Lb wm gn gl gg yb nn nl nu wk hs o od H locs ls hSt hDr hlk hP hD hS hl
      refine lv_iinc (v := nI (6 * (j + 1))) (lv' := [(5, .int (nI (6 * (j + 1)))), (0, .ref aB), (1, .ref aC), (2, .ref aM), (3, .ref aO), (4, .ref aE)]) hx hb dL_law_1666 hl (k := 5) rfl (nI_add (6 * j) 6) (by decide) rfl (fun ls hl => ?_)
      refine lv_goto (tgt := 28) hx hb dL_law_1669 (by decide) ?_
      have e1 : 45 + (j + 1) = 45 + j + 1 := by omega
      have e2 : 1040 + 6 * (j + 1) = 1040 + 6 * j + 6 := by omega
      have K := ih (j + 1) (by omega) (by omega) aC aD aR aRF aRT aRN aRL aRU aDL aDD aH aHW aHL aS aSN aT aTM aL aQ aQF aQT aQN aQL aQU aI aM aMF aMT aMN aML aMU aMB aMf aMt aMn aMl aMu aMP aMD aMC aMO aMY aMS aO aE il n cnt F T nm lo up P dd len hN hL hG wy La w v n0 pl row dg sz ng F2 T2 nm2 lo2 up2 cnt2 inp th sg rm mdg mnb mng rF rT rN rL rU Pm dm lk Lb wm gn gl gg yb nn nl nu wk hs o od H locs ls hSt hDr hlk hP hD hS (lv_sub hl [1, 2, 3, 4, 5, 0] rfl)
      rw [e1, e2] at K
      exact K
    intro aC aD aR aRF aRT aRN aRL aRU aDL aDD aH aHW aHL aS aSN aT aTM aL aQ aQF aQT aQN aQL aQU aI aM aMF aMT aMN aML aMU aMB aMf aMt aMn aMl aMu aMP aMD aMC aMO aMY aMS aO aE il n cnt F T nm lo up P dd len hN hL hG wy La w v n0 pl row dg sz ng F2 T2 nm2 lo2 up2 cnt2 inp th sg rm mdg mnb mng rF rT rN rL rU Pm dm lk Lb wm gn gl gg yb nn nl nu wk hs o od H locs ls hSt hDr hlk hP hD hS hl
    refine lv_iload hx hb dL_law_28 (lv_at hl 5 rfl) ?_
    refine lv_aload_n hx hb dL_law_30 rfl (lv_at hl 0 rfl) ?_
    refine va_slen hx hb hX hbl hbA hS dL_law_31 ?_
    refine lv_bipush (v := 6) hx hb dL_law_32 (by decide) ?_
    refine lv_isub hx hb dL_law_34 ?_
    refine lv_icmp_gt (tgt := 1672) hx hb dL_law_35 (by decide) (fun c35 => ?_) (fun c35 => ?_)
    · refine lv_iconst (v := 1) hx hb dL_law_1672 (by decide) ?_
      refine va_forget (fun q hq => hS.2.2 q hq) ?_
      refine W.widen (k := 1091) (n := 9364) (by omega) (by omega) ?_
      exact lw_ret (d0 := s.drawn) (Drawn.sameBut.refl s.drawn lw_cs) hx hb hr hlocks dL_law_1673
    · have h6 : 6 * j + 6 ≤ SL := lp_cmp hSL hj (by first | exact c35 | exact Int32.not_lt.mpr c35)
      have hKK := hKK h6
      refine lv_aload_n hx hb dL_law_38 rfl (lv_at hl 0 rfl) ?_
      refine lv_iload hx hb dL_law_39 (lv_at hl 5 rfl) ?_
      have h41 : vp_in (nI (6 * j)) SL := vp_in_nI (by omega) (by omega)
      refine va_sld hx hb hX hbl hbA hS h41 dL_law_41 ?_
      refine lv_bipush (v := 31) hx hb dL_law_42 (by decide) ?_
      refine lv_iand hx hb dL_law_44 ?_
      refine lv_topi (fun x1 e1 => ?_)
      obtain ⟨k5, hk5, ek⟩ := pk_andE (xs (nI (6 * j)).toNatClampNeg) (m := 31) 5 (by decide)
      rw [ek] at e1
      subst e1
      by_cases h45_0 : k5 = 0
      · refine lv_tableIn (off := 123) (tgt := 168) hx hb dL_law_45 (by rw [h45_0]; decide) (by rw [h45_0]; decide) (by rw [h45_0]; rfl) (by decide) ?_
        exact lw_c0 hst hSL C0 hK hA hbA hXW htW xN nw75 h6 (by omega) (by omega) hSt hDr hlk hP hD hS hl hKK
      by_cases h45_1 : k5 = 1
      · refine lv_tableIn (off := 179) (tgt := 224) hx hb dL_law_45 (by rw [h45_1]; decide) (by rw [h45_1]; decide) (by rw [h45_1]; rfl) (by decide) ?_
        exact lw_c1 hst hSL C0 hK hA hbA hXW htW xN nw75 h6 (by omega) (by omega) hSt hDr hlk hP hD hS hl hKK
      by_cases h45_2 : k5 = 2
      · refine lv_tableIn (off := 283) (tgt := 328) hx hb dL_law_45 (by rw [h45_2]; decide) (by rw [h45_2]; decide) (by rw [h45_2]; rfl) (by decide) ?_
        exact lw_c2 hst hSL C0 hK hA hbA hXW htW xN nw75 h6 (by omega) (by omega) hSt hDr hlk hP hD hS hl hKK
      by_cases h45_3 : k5 = 3
      · refine lv_tableIn (off := 339) (tgt := 384) hx hb dL_law_45 (by rw [h45_3]; decide) (by rw [h45_3]; decide) (by rw [h45_3]; rfl) (by decide) ?_
        exact lw_c3 hst hSL C0 hK hA hbA hXW htW xN nw75 h6 (by omega) (by omega) hSt hDr hlk hP hD hS hl hKK
      by_cases h45_4 : k5 = 4
      · refine lv_tableIn (off := 419) (tgt := 464) hx hb dL_law_45 (by rw [h45_4]; decide) (by rw [h45_4]; decide) (by rw [h45_4]; rfl) (by decide) ?_
        exact lw_c4 hst hSL C0 hK hA hbA hXW htW xN nw75 h6 (by omega) (by omega) hSt hDr hlk hP hD hS hl hKK
      by_cases h45_5 : k5 = 5
      · refine lv_tableIn (off := 477) (tgt := 522) hx hb dL_law_45 (by rw [h45_5]; decide) (by rw [h45_5]; decide) (by rw [h45_5]; rfl) (by decide) ?_
        exact lw_c5 hst hSL C0 hK hA hbA hXW htW xN nw75 h6 (by omega) (by omega) hSt hDr hlk hP hD hS hl hKK
      by_cases h45_6 : k5 = 6
      · refine lv_tableIn (off := 545) (tgt := 590) hx hb dL_law_45 (by rw [h45_6]; decide) (by rw [h45_6]; decide) (by rw [h45_6]; rfl) (by decide) ?_
        exact lw_c6 hst hSL C0 hK hA hbA hXW htW xN nw75 h6 (by omega) (by omega) hSt hDr hlk hP hD hS hl hKK
      by_cases h45_7 : k5 = 7
      · refine lv_tableIn (off := 558) (tgt := 603) hx hb dL_law_45 (by rw [h45_7]; decide) (by rw [h45_7]; decide) (by rw [h45_7]; rfl) (by decide) ?_
        exact lw_c7 hst hSL C0 hK hA hbA hXW htW xN nw75 h6 (by omega) (by omega) hSt hDr hlk hP hD hS hl hKK
      by_cases h45_8 : k5 = 8
      · refine lv_tableIn (off := 614) (tgt := 659) hx hb dL_law_45 (by rw [h45_8]; decide) (by rw [h45_8]; decide) (by rw [h45_8]; rfl) (by decide) ?_
        exact lw_c8 hst hSL C0 hK hA hbA hXW htW xN nw75 h6 (by omega) (by omega) hSt hDr hlk hP hD hS hl hKK
      by_cases h45_9 : k5 = 9
      · refine lv_tableIn (off := 627) (tgt := 672) hx hb dL_law_45 (by rw [h45_9]; decide) (by rw [h45_9]; decide) (by rw [h45_9]; rfl) (by decide) ?_
        exact lw_c9 hst hSL C0 hK hA hbA hXW htW xN nw75 h6 (by omega) (by omega) hSt hDr hlk hP hD hS hl hKK
      by_cases h45_10 : k5 = 10
      · refine lv_tableIn (off := 640) (tgt := 685) hx hb dL_law_45 (by rw [h45_10]; decide) (by rw [h45_10]; decide) (by rw [h45_10]; rfl) (by decide) ?_
        exact lw_c10 hst hSL C0 hK hA hbA hXW htW xN nw75 h6 (by omega) (by omega) hSt hDr hlk hP hD hS hl hKK
      by_cases h45_11 : k5 = 11
      · refine lv_tableIn (off := 684) (tgt := 729) hx hb dL_law_45 (by rw [h45_11]; decide) (by rw [h45_11]; decide) (by rw [h45_11]; rfl) (by decide) ?_
        exact lw_c11 hst hSL C0 hK hA hbA hXW htW xN nw75 h6 (by omega) (by omega) hSt hDr hlk hP hD hS hl hKK
      by_cases h45_12 : k5 = 12
      · refine lv_tableIn (off := 747) (tgt := 792) hx hb dL_law_45 (by rw [h45_12]; decide) (by rw [h45_12]; decide) (by rw [h45_12]; rfl) (by decide) ?_
        exact lw_c12 hst hSL C0 hK hA hbA hXW htW xN nw75 h6 (by omega) (by omega) hSt hDr hlk hP hD hS hl hKK
      by_cases h45_13 : k5 = 13
      · refine lv_tableIn (off := 760) (tgt := 805) hx hb dL_law_45 (by rw [h45_13]; decide) (by rw [h45_13]; decide) (by rw [h45_13]; rfl) (by decide) ?_
        exact lw_c13 hst hSL C0 hK hA hbA hXW htW xN nw75 h6 (by omega) (by omega) hSt hDr hlk hP hD hS hl hKK
      by_cases h45_14 : k5 = 14
      · refine lv_tableIn (off := 816) (tgt := 861) hx hb dL_law_45 (by rw [h45_14]; decide) (by rw [h45_14]; decide) (by rw [h45_14]; rfl) (by decide) ?_
        exact lw_c14 hst hSL C0 hK hA hbA hXW htW xN nw75 h6 (by omega) (by omega) hSt hDr hlk hP hD hS hl hKK
      by_cases h45_15 : k5 = 15
      · refine lv_tableIn (off := 884) (tgt := 929) hx hb dL_law_45 (by rw [h45_15]; decide) (by rw [h45_15]; decide) (by rw [h45_15]; rfl) (by decide) ?_
        exact lw_c15 hst hSL C0 hK hA hbA hXW htW xN nw75 h6 (by omega) (by omega) hSt hDr hlk hP hD hS hl hKK
      by_cases h45_16 : k5 = 16
      · refine lv_tableIn (off := 964) (tgt := 1009) hx hb dL_law_45 (by rw [h45_16]; decide) (by rw [h45_16]; decide) (by rw [h45_16]; rfl) (by decide) ?_
        exact lw_c16 hst hSL C0 hK hA hbA hXW htW xN nw75 h6 (by omega) (by omega) hSt hDr hlk hP hD hS hl hKK
      by_cases h45_17 : k5 = 17
      · refine lv_tableIn (off := 1044) (tgt := 1089) hx hb dL_law_45 (by rw [h45_17]; decide) (by rw [h45_17]; decide) (by rw [h45_17]; rfl) (by decide) ?_
        exact lw_c17 hst hSL C0 hK hA hbA hXW htW xN nw75 h6 (by omega) (by omega) hSt hDr hlk hP hD hS hl hKK
      by_cases h45_18 : k5 = 18
      · refine lv_tableIn (off := 1112) (tgt := 1157) hx hb dL_law_45 (by rw [h45_18]; decide) (by rw [h45_18]; decide) (by rw [h45_18]; rfl) (by decide) ?_
        exact lw_c18 hst hSL C0 hK hA hbA hXW htW xN nw75 h6 (by omega) (by omega) hSt hDr hlk hP hD hS hl hKK
      by_cases h45_19 : k5 = 19
      · refine lv_tableIn (off := 1180) (tgt := 1225) hx hb dL_law_45 (by rw [h45_19]; decide) (by rw [h45_19]; decide) (by rw [h45_19]; rfl) (by decide) ?_
        exact lw_c19 hst hSL C0 hK hA hbA hXW htW xN nw75 h6 (by omega) (by omega) hSt hDr hlk hP hD hS hl hKK
      by_cases h45_20 : k5 = 20
      · refine lv_tableIn (off := 1281) (tgt := 1326) hx hb dL_law_45 (by rw [h45_20]; decide) (by rw [h45_20]; decide) (by rw [h45_20]; rfl) (by decide) ?_
        exact lw_c20 hst hSL C0 hK hA hbA hXW htW xN nw75 h6 (by omega) (by omega) hSt hDr hlk hP hD hS hl hKK
      by_cases h45_21 : k5 = 21
      · refine lv_tableIn (off := 1337) (tgt := 1382) hx hb dL_law_45 (by rw [h45_21]; decide) (by rw [h45_21]; decide) (by rw [h45_21]; rfl) (by decide) ?_
        exact lw_c21 hst hSL C0 hK hA hbA hXW htW xN nw75 h6 (by omega) (by omega) hSt hDr hlk hP hD hS hl hKK
      by_cases h45_22 : k5 = 22
      · refine lv_tableIn (off := 1350) (tgt := 1395) hx hb dL_law_45 (by rw [h45_22]; decide) (by rw [h45_22]; decide) (by rw [h45_22]; rfl) (by decide) ?_
        exact lw_c22 hst hSL C0 hK hA hbA hXW htW xN nw75 h6 (by omega) (by omega) hSt hDr hlk hP hD hS hl hKK
      by_cases h45_23 : k5 = 23
      · refine lv_tableIn (off := 1363) (tgt := 1408) hx hb dL_law_45 (by rw [h45_23]; decide) (by rw [h45_23]; decide) (by rw [h45_23]; rfl) (by decide) ?_
        exact lw_c23 hst hSL C0 hK hA hbA hXW htW xN nw75 h6 (by omega) (by omega) hSt hDr hlk hP hD hS hl hKK
      by_cases h45_24 : k5 = 24
      · refine lv_tableIn (off := 1459) (tgt := 1504) hx hb dL_law_45 (by rw [h45_24]; decide) (by rw [h45_24]; decide) (by rw [h45_24]; rfl) (by decide) ?_
        exact lw_c24 hst hSL C0 hK hA hbA hXW htW xN nw75 h6 (by omega) (by omega) hSt hDr hlk hP hD hS hl hKK
      by_cases h45_25 : k5 = 25
      · refine lv_tableIn (off := 1527) (tgt := 1572) hx hb dL_law_45 (by rw [h45_25]; decide) (by rw [h45_25]; decide) (by rw [h45_25]; rfl) (by decide) ?_
        exact lw_c25 hst hSL C0 hK hA hbA hXW htW xN nw75 h6 (by omega) (by omega) hSt hDr hlk hP hD hS hl hKK
      by_cases h45_26 : k5 = 26
      · refine lv_tableIn (off := 1607) (tgt := 1652) hx hb dL_law_45 (by rw [h45_26]; decide) (by rw [h45_26]; decide) (by rw [h45_26]; rfl) (by decide) ?_
        exact lw_c26 hst hSL C0 hK hA hbA hXW htW xN nw75 h6 (by omega) (by omega) hSt hDr hlk hP hD hS hl hKK
      refine lv_tableOut (tgt := 1666) hx hb dL_law_45 (by rw [nI_toInt (by omega)]; omega) (by decide) ?_
      refine W.widen (k := 45 + j + 1) (n := 1040 + 6 * j + 6) (by omega) (by omega) ?_
      exact hKK aC aD aR aRF aRT aRN aRL aRU aDL aDD aH aHW aHL aS aSN aT aTM aL aQ aQF aQT aQN aQL aQU aI aM aMF aMT aMN aML aMU aMB aMf aMt aMn aMl aMu aMP aMD aMC aMO aMY aMS aO aE il n cnt F T nm lo up P dd len hN hL hG wy La w v n0 pl row dg sz ng F2 T2 nm2 lo2 up2 cnt2 inp th sg rm mdg mnb mng rF rT rN rL rU Pm dm lk Lb wm gn gl gg yb nn nl nu wk hs o od H locs ls hSt hDr hlk hP hD hS hl
