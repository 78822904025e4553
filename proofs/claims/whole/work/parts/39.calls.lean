/-! every call: equal answers, and the relation goes on -/
theorem rE_fg {g : kG} (E : rE g) (n : Nat) : rE (xFgt g n) := by
  intro a ha
  show kU g.1 6 n 6 0 6 a 6 = 0 → kU g.1 9 n 4 0 9 a 4 = 0
  by_cases e : a = n
  · subst e
    intro _
    exact kU_s ..
  · rw [kU_n (by omega), kU_n (by omega)]
    exact E a ha
section CL
variable {tm : Nat} {g h : kG}
theorem Rg.m0 (G : Rg g h) : Rg g (m0 h) := G
theorem K.m0 (k : K tm g h) : K tm g (m0 h) := by
  obtain ⟨nf, na, nm, R, E, G⟩ := k
  exact ⟨nf, na, nm, U_m0 R, E, G⟩
theorem file_ok (k : K tm g h) (d : Int64) : (xFile g d).1 = (mFile h d).1 ∧ K tm (xFile g d).2 (mFile h d).2 := by
  obtain ⟨nf, na, nm, R, E, G⟩ := k
  have c := R.c1
  unfold xFile mFile
  rw [R.c2.1, R.c2.2, tn_nI (by omega), nI_1]
  by_cases z : nf = 24
  · subst z
    rw [if_neg (show ¬ nI 24 < 24 from nI_nlt (a := 24) (b := 24) (by omega) (by decide)), if_pos (show nI 24 = 24 from rfl)]
    exact ⟨rfl, 24, na, nm, U_m0 R, E, G⟩
  · rw [if_pos (show nI nf < 24 from nI_lt (a := nf) (b := 24) (by omega) (by decide)), if_neg (show ¬ nI nf = 24 from fun q => z (nI_inj (a := nf) (b := 24) (by omega) (by decide) q))]
    exact ⟨rfl, nf + 1, na, nm, O_file R (by omega) d, E, G⟩
theorem action_ok (k : K tm g h) (al : Int32) : (xAction g al).1 = (mAction h al).1 ∧ K tm (xAction g al).2 (mAction h al).2 := by
  obtain ⟨nf, na, nm, R, E, G⟩ := k
  have c := R.c1
  unfold xAction mAction
  rw [R.c3.1, R.c3.2, tn_nI (by omega), nI_1]
  by_cases z : na = 12
  · subst z
    rw [if_neg (show ¬ nI 12 < 12 from nI_nlt (a := 12) (b := 12) (by omega) (by decide)), if_pos (show nI 12 = 12 from rfl)]
    exact ⟨rfl, nf, 12, nm, U_m0 R, E, G⟩
  · rw [if_pos (show nI na < 12 from nI_lt (a := na) (b := 12) (by omega) (by decide)), if_neg (show ¬ nI na = 12 from fun q => z (nI_inj (a := na) (b := 12) (by omega) (by decide) q))]
    exact ⟨rfl, nf, na + 1, nm, O_action R (by omega) al, E, G⟩
theorem mapping_ok (k : K tm g h) (n : Int32) (s : Int64) : (xMapping g n s).1 = (mMapping h n s).1 ∧ K tm (xMapping g n s).2 (mMapping h n s).2 := by
  obtain ⟨nf, na, nm, R, E, G⟩ := k
  have c := R.c1
  unfold xMapping mMapping
  rw [R.c2.1, R.c2.2, R.c4.1, R.c4.2, tn_nI (by omega), nI_1]
  by_cases y : xIn n (nI nf) = 0
  · rw [if_pos y, if_pos y]
    exact ⟨rfl, nf, na, nm, U_m0 R, E, G⟩
  · rw [if_neg y, if_neg y]
    obtain ⟨f, hf, rfl⟩ := xIn_nI (by omega) y
    by_cases z : nm = 6
    · subst z
      rw [if_neg (show ¬ nI 6 < 6 from nI_nlt (a := 6) (b := 6) (by omega) (by decide)), if_pos (show nI 6 = 6 from rfl)]
      exact ⟨rfl, nf, na, 6, U_m0 R, E, G⟩
    · rw [if_pos (show nI nm < 6 from nI_lt (a := nm) (b := 6) (by omega) (by decide)), if_neg (show ¬ nI nm = 6 from fun q => z (nI_inj (a := nm) (b := 6) (by omega) (by decide) q))]
      exact ⟨rfl, nf, na, nm + 1, O_mapping R (by omega) hf s, E, G⟩
theorem xMade_iff (g : kG) (f : Nat) : xMade g f = 0 ↔ g.1 5 f 2 = -1 := by
  unfold xMade
  split
  · next q => exact ⟨fun _ => q, fun _ => rfl⟩
  · next q => exact ⟨fun z => absurd z (by decide), fun z => absurd z q⟩
theorem change_ok (k : K tm g h) (n t : Int32) (ht : kZ t) (d : Int64) : (xChange g n t d).1 = (mChange h n t d).1 ∧ K tm (xChange g n t d).2 (mChange h n t d).2 := by
  obtain ⟨nf, na, nm, R, E, G⟩ := k
  have c := R.c1
  unfold xChange mChange
  rw [R.c2.1, R.c2.2]
  by_cases y : xIn n (nI nf) = 0
  · rw [if_pos y, if_pos y]
    exact ⟨rfl, nf, na, nm, U_m0 R, E, G⟩
  · rw [if_neg y, if_neg y]
    obtain ⟨f, hf, rfl⟩ := xIn_nI (by omega) y
    rw [tn_nI (by omega), (R.f4 f hf).1]
    by_cases z : g.1 5 f 2 = -1
    · rw [if_pos ((xMade_iff g f).mpr z), if_pos z]
      rcases ht with rfl | rfl
      · rw [if_pos rfl, if_pos rfl]
        exact ⟨rfl, nf, na, nm, U_fc (U_m0 R) 0 0 (Or.inl rfl) (fun _ => rfl), E, G⟩
      · rw [if_neg (by decide), if_neg (by decide)]
        exact ⟨rfl, nf, na, nm, U_fc (U_m0 R) 1 d (Or.inr rfl) (fun q => absurd q (by decide)), E, G⟩
    · rw [if_neg (fun q => z ((xMade_iff g f).mp q)), if_neg z]
      exact ⟨rfl, nf, na, nm, U_m0 R, E, G⟩
theorem makes_ok (k : K tm g h) (n f : Int32) : (xMakes g n f).1 = (mMakes h n f).1 ∧ K tm (xMakes g n f).2 (mMakes h n f).2 := by
  obtain ⟨nf, na, nm, R, E, G⟩ := k
  have c := R.c1
  unfold xMakes mMakes
  rw [R.c2.1, R.c2.2, R.c3.1, R.c3.2]
  by_cases y : xIn n (nI na) = 0
  · rw [if_pos y, if_pos y]
    exact ⟨rfl, nf, na, nm, U_m0 R, E, G⟩
  · rw [if_neg y, if_neg y]
    obtain ⟨a, ha, rfl⟩ := xIn_nI (by omega) y
    by_cases y2 : xIn f (nI nf) = 0
    · rw [if_pos y2, if_pos y2]
      exact ⟨rfl, nf, na, nm, U_m0 R, E, G⟩
    · rw [if_neg y2, if_neg y2]
      obtain ⟨f, hf, rfl⟩ := xIn_nI (by omega) y2
      rw [tn_nI (show a < 2 ^ 31 by omega), tn_nI (show f < 2 ^ 31 by omega), (R.f4 f hf).1, (R.a2 a ha).1]
      by_cases z : g.1 6 a 4 = -1
      · rw [if_pos z, if_pos z]
        by_cases z2 : g.1 5 f 2 = -1
        · rw [if_pos ((xMade_iff g f).mpr z2), if_pos z2]
          refine ⟨rfl, nf, na, nm, O_makes R ha hf z z2, ?_, G⟩
          exact rE_fg (g := (kU g.1 6 a 4 (nI f), g.2)) E a
        · rw [if_neg (fun q => z2 ((xMade_iff g f).mp q)), if_neg z2]
          exact ⟨rfl, nf, na, nm, U_m0 R, E, G⟩
      · rw [if_neg z, if_neg z]
        exact ⟨rfl, nf, na, nm, U_m0 R, E, G⟩
theorem row_ok (k : K tm g h) (n kd w : Int32) : (xRow g n kd w).1 = (mRow h n kd w).1 ∧ K tm (xRow g n kd w).2 (mRow h n kd w).2 := by
  have k0 := k
  obtain ⟨nf, na, nm, R, E, G⟩ := k
  have c := R.c1
  -- a row that is refused, and one that is right
  have bad : ∀ r, xIsRow g kd w = 0 → r = (0 : Int32) → (xRow g n kd w).1 = (mRow2 h n kd w r).1 ∧ K tm (xRow g n kd w).2 (mRow2 h n kd w r).2 := by
    intro r hr hr2
    subst hr2
    unfold xRow mRow2
    rw [if_pos hr, if_pos rfl]
    split <;> (split <;> exact ⟨rfl, k0.m0⟩)
  have good : ∀ r, ¬ xIsRow g kd w = 0 → rRw kd w nf → r = (1 : Int32) → (xRow g n kd w).1 = (mRow2 h n kd w r).1 ∧ K tm (xRow g n kd w).2 (mRow2 h n kd w r).2 := by
    intro r hr hv hr2
    subst hr2
    unfold xRow mRow2
    rw [if_neg hr, if_neg (show ¬ (1 : Int32) = 0 by decide), R.c3.1, R.c3.2]
    by_cases y : xIn n (nI na) = 0
    · rw [if_pos y, if_pos y]
      exact ⟨rfl, k0.m0⟩
    · rw [if_neg y, if_neg y]
      obtain ⟨a, ha, rfl⟩ := xIn_nI (by omega) y
      obtain ⟨r, hr1, hr2⟩ := kN_nI (R.r1 a (by omega)).2
      have hr3 : h.1 10 0 a = nI r := (R.r1 a (by omega)).1.trans hr2
      have hr4 : (m0 h).1 10 0 a = nI r := hr3
      unfold xAddRow mAddRow
      rw [tn_nI (show a < 2 ^ 31 by omega), hr2, hr3, hr4, show (nI r).toNatClampNeg = r from nI_clamp (by omega), tn_nI (show r < 2 ^ 31 by omega), nI_1]
      by_cases z : r = 12
      · subst z
        rw [if_neg (show ¬ nI 12 < 12 from nI_nlt (a := 12) (b := 12) (by omega) (by decide)), if_pos (show nI 12 = 12 from rfl)]
        exact ⟨rfl, k0.m0⟩
      · rw [if_pos (show nI r < 12 from nI_lt (a := r) (b := 12) (by omega) (by decide)), if_neg (show ¬ nI r = 12 from fun q => z (nI_inj (a := r) (b := 12) (by omega) (by decide) q))]
        exact ⟨rfl, nf, na, nm, U_fg (O_row0 (U_m0 R) ha (by omega) hr2 hv) ha, rE_fg (g := (kU (kU (kU g.1 7 a r kd) 8 a r w) 6 a 2 (nI (r + 1)), g.2)) E a, G⟩
  unfold mRow
  have ir : xIsRow g kd w = xIsRow g kd w := rfl
  unfold xIsRow at bad good
  rw [R.c2.1] at bad good
  rw [R.c2.2]
  by_cases e2 : kd = 2
  · rw [if_pos e2] at bad good ⊢
    by_cases w1 : w < 1
    · rw [if_pos w1] at bad ⊢
      exact bad 0 rfl rfl
    · rw [if_neg w1] at bad good ⊢
      by_cases w2 : 8 < w
      · rw [if_pos w2] at bad ⊢
        exact bad 0 rfl rfl
      · rw [if_neg w2] at good ⊢
        refine good 1 (by decide) (Or.inl ⟨e2, ?_⟩) rfl
        have n0 : ¬ w < 0 := fun q => w1 (Int32.lt_trans q (by decide))
        obtain ⟨j, hj, rfl⟩ := nI_of n0
        refine kN_of ?_ (by decide)
        rcases Nat.lt_or_ge 8 j with q | q
        · exact absurd (nI_lt (a := 8) (b := j) q hj) w2
        · exact q
  · rw [if_neg e2] at bad good ⊢
    have rest : ∀ q : kd = 0 ∨ kd = 1, ¬ xIn w (nI nf) = 0 → rRw kd w nf := fun q y => by
      obtain ⟨f, hf, rfl⟩ := xIn_nI (by omega) y
      exact Or.inr ⟨e2, f, hf, rfl⟩
    by_cases e0 : kd = 0
    · rw [if_pos e0] at bad good ⊢
      by_cases y : xIn w (nI nf) = 0
      · rw [if_pos y] at bad ⊢
        exact bad 0 rfl rfl
      · rw [if_neg y] at good ⊢
        exact good 1 (by decide) (rest (Or.inl e0) y) rfl
    · rw [if_neg e0] at bad good ⊢
      by_cases e1 : kd = 1
      · rw [if_pos e1] at bad good ⊢
        by_cases y : xIn w (nI nf) = 0
        · rw [if_pos y] at bad ⊢
          exact bad 0 rfl rfl
        · rw [if_neg y] at good ⊢
          exact good 1 (by decide) (rest (Or.inr e1) y) rfl
      · rw [if_neg e1] at bad ⊢
        exact bad 0 rfl rfl
theorem run_okK (k : K tm g h) (n : Int32) : (xRunP g n).1 = (mRunP h n).1 ∧ K tm (xRunP g n).2 (mRunP h n).2 := by
  obtain ⟨nf, na, nm, R, E, G⟩ := k
  have c := R.c1
  unfold xRunP mRunP
  rw [R.c3.1, R.c3.2]
  by_cases y : xIn n (nI na) = 0
  · rw [if_pos y, if_pos y]
    exact ⟨rfl, nf, na, nm, U_m0 R, E, G⟩
  · rw [if_neg y, if_neg y]
    obtain ⟨a, ha, rfl⟩ := xIn_nI (by omega) y
    obtain ⟨n1, n2, n3, n4, n5, n6, n7⟩ := run_ok (U_m0 R) E ha
    obtain ⟨rs, rl, g1, g2, g3, g4, g5, g6⟩ := G
    refine ⟨n1, nf, na, nm, n2, n3, rs, rl, (n4.1 0 0 8 (by omega)).trans g1, (n4.1 0 0 9 (by omega)).trans g2, (n5 0 26 (by omega)).trans g3, g4, g5, fun k hk => ?_⟩
    show (mRun (m0 h) (nI a)).2.1 24 0 k = (xRun g (nI a)).2.1 4 0 (rs + k)
    rw [n5 24 k (by omega), n4.1 4 0 (rs + k) (by omega)]
    exact g6 k hk
theorem ring_ok (k : K tm g h) (i : Int32) : xRing g i = mRing h i := by
  obtain ⟨nf, na, nm, R, E, rs, rl, g1, g2, g3, g4, g5, g6⟩ := k
  unfold xRing mRing
  rw [g1, g2, g3]
  by_cases z : i < 0
  · rw [if_pos z, if_pos z]
  · rw [if_neg z, if_neg z]
    obtain ⟨j, hj, rfl⟩ := nI_of z
    by_cases y : j < rl
    · rw [if_neg (nI_ge y (by omega)), if_pos (nI_lt y (by omega)), nI_add, tn_nI (by omega), tn_nI (by omega), g6 j y]
    · rw [if_pos (nI_le (by omega) hj), if_neg (nI_nlt (by omega) hj)]
theorem waits_ok (k : K tm g h) (n : Int32) : xWaits g n = mWaits h n := by
  obtain ⟨nf, na, nm, R, E, G⟩ := k
  have c := R.c1
  unfold xWaits mWaits
  rw [R.c3.1, R.c3.2]
  by_cases y : xIn n (nI na) = 0
  · rw [if_pos y, if_pos y]
  · rw [if_neg y, if_neg y]
    obtain ⟨a, ha, rfl⟩ := xIn_nI (by omega) y
    rw [tn_nI (by omega), R.w1 a ha]
theorem fresh_ok (k : K tm g h) (n : Int32) : xFreshP g n = (mFreshP h n).1 ∧ K tm g (mFreshP h n).2 := by
  obtain ⟨nf, na, nm, R, E, G⟩ := k
  have c := R.c1
  have G2 : Rg g (mFr (m0 h)) := by
    obtain ⟨rs, rl, g1, g2, g3, g4, g5, g6⟩ := G
    refine ⟨rs, rl, g1, g2, (mFr_fr (m0 h) 0 0 26 (by decide)).trans g3, g4, g5, fun k hk => (mFr_fr (m0 h) 24 0 k (by decide)).trans (g6 k hk)⟩
  unfold xFreshP mFreshP mNow
  rw [R.c3.1, R.c3.2]
  by_cases y : xIn n (nI na) = 0
  · rw [if_pos y, if_pos y]
    exact ⟨rfl, nf, na, nm, U_m0 R, E, G⟩
  · rw [if_neg y, if_neg y]
    obtain ⟨a, ha, rfl⟩ := xIn_nI (by omega) y
    rw [tn_nI (by omega)]
    have iX := xFresh_iff R (b := a) (by omega)
    have iM := mFr_iff (U_m0 R) a
    by_cases z : Fs g na a
    · have b1 := iX.mpr z
      rw [if_neg (fun q => by rw [(xBit_b (by omega)).mp q] at b1; cases b1), if_neg (iM.mpr z)]
      exact ⟨rfl, nf, na, nm, (U_m0 R).fr, E, G2⟩
    · have b1 : bt (xFresh g) a = false := by
        cases q : bt (xFresh g) a with
        | false => rfl
        | true => exact absurd (iX.mp q) z
      have b2 : (mFr (m0 h)).1 22 0 a = 0 := by
        by_cases q : (mFr (m0 h)).1 22 0 a = 0
        · exact q
        · exact absurd (iM.mp q) z
      rw [if_pos ((xBit_b (by omega)).mpr b1), if_pos b2]
      exact ⟨rfl, nf, na, nm, (U_m0 R).fr, E, G2⟩
theorem w3 (w : Int32) : (w = 0 ∨ w = 1 ∨ w = 2) ∨ ((w.toInt < 0 ∨ 2 < w.toInt) ∧ ¬ w = 0 ∧ ¬ w = 1 ∧ ¬ w = 2) := by
  by_cases e0 : w = 0
  · exact Or.inl (Or.inl e0)
  · by_cases e1 : w = 1
    · exact Or.inl (Or.inr (Or.inl e1))
    · by_cases e2 : w = 2
      · exact Or.inl (Or.inr (Or.inr e2))
      · refine Or.inr ⟨?_, e0, e1, e2⟩
        have a0 : w.toInt ≠ 0 := fun q => e0 (Int32.toInt_inj.mp q)
        have a1 : w.toInt ≠ 1 := fun q => e1 (Int32.toInt_inj.mp q)
        have a2 : w.toInt ≠ 2 := fun q => e2 (Int32.toInt_inj.mp q)
        omega
theorem kept_ok (k : K tm g h) (n i w : Int32) : xKept g n i w = mKept h n i w := by
  obtain ⟨nf, na, nm, R, E, G⟩ := k
  have c := R.c1
  unfold xKept mKept
  rw [R.c3.1, R.c3.2]
  by_cases y : xIn n (nI na) = 0
  · rw [if_pos y, if_pos y]
  · rw [if_neg y, if_neg y]
    obtain ⟨a, ha, rfl⟩ := xIn_nI (by omega) y
    rw [tn_nI (show a < 2 ^ 31 by omega)]
    rcases R.k1 a ha with ⟨e1, e2⟩ | ⟨e1, e2, e3⟩
    · rw [if_pos e1, if_pos e2]
    · have e4 : ¬ h.1 13 0 a = 2 := by rcases e3 with z | z <;> (rw [e2, z]; decide)
      rw [if_neg (by rw [e1]; decide), if_neg e4]
      obtain ⟨cc, hc1, hc2⟩ := kN_nI (R.n1 a (by omega)).2
      unfold xTell
      rw [(R.n1 a (by omega)).1, hc2]
      by_cases z : i < 0
      · rw [if_pos z, if_pos z]
      · rw [if_neg z, if_neg z]
        obtain ⟨j, hj, rfl⟩ := nI_of z
        by_cases z2 : j < cc
        · rw [if_pos (nI_lt z2 (by omega)), if_pos (nI_lt z2 (by omega)), show (nI j).toNatClampNeg = j from nI_clamp hj, tn_nI hj, R.n2 a (by omega) j (by omega), R.n3 a (by omega) j (by omega), R.n4 a (by omega) j (by omega)]
          rcases w3 w with (q | q | q) | ⟨q, q0, q1, q2⟩
          · subst q
            rw [if_neg (by decide), if_pos rfl, if_pos rfl]
          · subst q
            rw [if_neg (by decide), if_neg (show ¬ (1 : Int32) = 0 by decide), if_pos (show (1 : Int32) = 1 from rfl), if_neg (show ¬ (1 : Int32) = 0 by decide), if_pos (show (1 : Int32) = 1 from rfl)]
          · subst q
            rw [if_neg (by decide), if_neg (show ¬ (2 : Int32) = 0 by decide), if_neg (show ¬ (2 : Int32) = 1 by decide), if_neg (show ¬ (2 : Int32) = 0 by decide), if_neg (show ¬ (2 : Int32) = 1 by decide), if_pos (show (2 : Int32) = 2 from rfl)]
          · rw [if_pos q, if_neg q0, if_neg q1, if_neg q2]
        · rw [if_neg (nI_nlt (by omega) hj), if_neg (nI_nlt (by omega) hj)]
theorem counted_ok (k : K tm g h) (n w : Int32) : xCounted g n w = mCounted h n w := by
  obtain ⟨nf, na, nm, R, E, G⟩ := k
  have c := R.c1
  unfold xCounted mCounted
  rw [R.c3.1, R.c3.2]
  by_cases y : xIn n (nI na) = 0
  · rw [if_pos y, if_pos y]
  · rw [if_neg y, if_neg y]
    obtain ⟨a, ha, rfl⟩ := xIn_nI (by omega) y
    rw [tn_nI (show a < 2 ^ 31 by omega), R.t1 a (by omega), R.t2 a (by omega), R.t3 a (by omega)]
    rcases w3 w with (q | q | q) | ⟨q, q0, q1, q2⟩
    · subst q
      rw [if_neg (by decide), if_pos rfl, if_pos rfl]
    · subst q
      rw [if_neg (by decide), if_neg (by decide), if_pos rfl, if_neg (by decide), if_pos rfl]
    · subst q
      rw [if_neg (by decide), if_neg (by decide), if_neg (by decide), if_neg (by decide), if_neg (by decide), if_pos rfl]
    · rw [if_pos q, if_neg q0, if_neg q1, if_neg q2]
theorem digest_ok (k : K tm g h) (n : Int32) : xDigest g n = mDigest h n := by
  obtain ⟨nf, na, nm, R, E, G⟩ := k
  have c := R.c1
  unfold xDigest mDigest
  rw [R.c2.1, R.c2.2]
  by_cases y : xIn n (nI nf) = 0
  · rw [if_pos y, if_pos y]
  · rw [if_neg y, if_neg y]
    obtain ⟨f, hf, rfl⟩ := xIn_nI (by omega) y
    rw [tn_nI (by omega), R.f1 f (by omega), R.f2 f (by omega)]
    split
    · next q => exact (R.f3 f (by omega)).2 q
    · rfl
theorem dm (B a x : Int32) : (B &&& (a ^^^ (-1))) &&& (x ^^^ (-1)) = B &&& ((a ||| x) ^^^ (-1)) := by
  apply b_ext
  intro i hi
  simp only [b_and, b_xor, b_or, b_m1 i hi]
  cases bt B i <;> cases bt a i <;> cases bt x i <;> rfl
theorem un_ok {nf na nm : Nat} (R : Rl nf na nm tm g h) {a : Nat} (ha : a < 12) (h2 : ¬ h.1 13 0 a = 2) (B : Int32) : ∀ n k acc, k + n ≤ 12 → mUn h a n k (B &&& (acc ^^^ (-1))) = B &&& (xFb g a n k acc ^^^ (-1))
  | 0, k, acc, _ => rfl
  | n + 1, k, acc, hk => by
    unfold mUn xFb
    rw [if_neg h2, R.n2 a ha k (by omega), dm, un_ok R ha h2 B n (k + 1) _ (by omega)]
theorem unused_ok (k : K tm g h) (n : Int32) : xUnused g n = mUnused h n := by
  obtain ⟨nf, na, nm, R, E, G⟩ := k
  have c := R.c1
  unfold xUnused mUnused
  rw [R.c3.1, R.c3.2, R.c2.1, R.c2.2]
  by_cases y : xIn n (nI na) = 0
  · rw [if_pos y, if_pos y]
  · rw [if_neg y, if_neg y]
    obtain ⟨a, ha, rfl⟩ := xIn_nI (by omega) y
    rw [tn_nI (show a < 2 ^ 31 by omega), (R.n1 a (by omega)).1, R.a1 a (by omega)]
    obtain ⟨cc, hc1, hc2⟩ := kN_nI (R.n1 a (by omega)).2
    generalize (g.1 6 a 3 &&& ((1 <<< (nI nf &&& 31)) - 1)) = B
    have hB : B = B &&& ((0 : Int32) ^^^ (-1)) := by
      apply b_ext
      intro i hi
      rw [b_and, b_xor, b_0, b_m1 i hi]
      cases bt B i <;> rfl
    rcases R.k1 a ha with ⟨e1, e2⟩ | ⟨e1, e2, e3⟩
    · have e5 := E a (by omega) e1
      rw [e5]
      show B &&& ((0 : Int32) ^^^ (-1)) = B
      exact hB.symm
    · have e4 : ¬ (m0 h).1 13 0 a = 2 := by
        show ¬ h.1 13 0 a = 2
        rcases e3 with z | z <;> (rw [e2, z]; decide)
      rw [hc2, tn_nI (by omega)]
      conv => rhs; rw [hB]
      exact (un_ok (U_m0 R) (by omega) e4 B cc 0 0 (by omega)).symm
end CL
