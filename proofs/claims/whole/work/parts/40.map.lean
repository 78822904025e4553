/-! trees of files: members and map -/
theorem r5_toInt (a : Int64) : (a - a / 5 * 5).toInt = a.toInt.tmod 5 := by
  have h5 : (5 : Int64).toInt = 5 := by decide
  rw [Int64.toInt_sub, Int64.toInt_mul, Int64.toInt_div, h5]
  have q := Int.tmod_add_tdiv_mul a.toInt 5
  have b1 := Int64.le_toInt a
  have b2 := Int64.toInt_lt a
  have c1 := Int.tmod_lt_of_pos a.toInt (b := 5) (by decide)
  have c2 := Int.lt_tmod_of_pos a.toInt (b := 5) (by decide)
  rw [Int.sub_bmod_bmod]
  generalize a.toInt.tdiv 5 = t at *
  generalize a.toInt.tmod 5 = r at *
  have e : t.bmod (2 ^ 64) = t := Int.bmod_eq_of_le (by omega) (by omega)
  rw [e, show a.toInt - t * 5 = r by omega]
  exact Int.bmod_eq_of_le (by omega) (by omega)
theorem x5_neg (a : Int64) : (a ^^^ 5) < 0 ↔ a.toInt < 0 := by
  rw [Int64.lt_iff_toInt_lt, show (0 : Int64).toInt = 0 by decide]
  have e1 : (a ^^^ 5).toBitVec.msb = a.toBitVec.msb := by
    rw [Int64.toBitVec_xor, BitVec.msb_xor, show (5 : Int64).toBitVec.msb = false by decide, Bool.xor_false]
  rw [BitVec.msb_eq_toInt, BitVec.msb_eq_toInt] at e1
  exact decide_eq_decide.mp e1
theorem lg_nn (x : Int64) : 0 ≤ lg_cmp x 0 ↔ ¬ x < 0 := by
  unfold lg_cmp
  have t := Int64.lt_iff_toInt_lt (x := x) (y := 0)
  have t2 := Int64.lt_iff_toInt_lt (x := 0) (y := x)
  rw [show (0 : Int64).toInt = 0 by decide] at t t2
  split
  · next q =>
    have := t2.mp q
    exact ⟨fun _ y => by have := t.mp y; omega, fun _ => by decide⟩
  · next q =>
    split
    · next q2 =>
      subst q2
      exact ⟨fun _ => Int64.lt_irrefl, fun _ => by decide⟩
    · next q2 =>
      refine ⟨fun y => absurd y (by decide), fun y => absurd ?_ q2⟩
      apply Int64.toInt_inj.mp
      rw [show (0 : Int64).toInt = 0 by decide]
      rcases Int.lt_trichotomy x.toInt 0 with c | c | c
      · exact absurd (t.mpr c) y
      · exact c
      · exact absurd (t2.mpr c) q
theorem tree5 (d : Int64) : ∃ w, w ≤ 4 ∧ (jFm d 5).toInt32 = nI w ∧ (if 0 ≤ (d - d / 5 * 5).toInt32 then (d - d / 5 * 5).toInt32 else (d - d / 5 * 5).toInt32 + 5) = nI w := by
  have e := r5_toInt d
  have c1 := Int.tmod_lt_of_pos d.toInt (b := 5) (by decide)
  have c2 := Int.lt_tmod_of_pos d.toInt (b := 5) (by decide)
  have c3 : 0 ≤ d.toInt → 0 ≤ d.toInt.tmod 5 := fun q => Int.tmod_nonneg 5 q
  have c4 : d.toInt < 0 → d.toInt.tmod 5 ≤ 0 := fun q => by
    have := Int.tmod_nonneg (a := -d.toInt) 5 (by omega)
    rw [Int.neg_tmod] at this
    omega
  have n1 := x5_neg d
  have n2 := lg_nn (d ^^^ 5)
  unfold jFm
  rw [← e] at c1 c2 c3 c4
  generalize d - d / 5 * 5 = r at *
  have pos : ¬ r.toInt < 0 → (if 0 ≤ lg_cmp (d ^^^ 5) 0 then r else if lg_cmp r 0 = 0 then r else r + 5) = r := by
    intro h0
    by_cases z : 0 ≤ lg_cmp (d ^^^ 5) 0
    · rw [if_pos z]
    · rw [if_neg z]
      have dn : d.toInt < 0 := by
        by_cases q : d.toInt < 0
        · exact q
        · exact absurd (n2.mpr (fun y => q (n1.mp y))) z
      have : r = 0 := Int64.toInt_inj.mp (by rw [show (0 : Int64).toInt = 0 by decide]; have := c4 dn; omega)
      rw [if_pos ((lg0 _ _).mpr this)]
  have neg : r.toInt < 0 → (if 0 ≤ lg_cmp (d ^^^ 5) 0 then r else if lg_cmp r 0 = 0 then r else r + 5) = r + 5 := by
    intro h0
    have dn : d.toInt < 0 := by
      by_cases q : d.toInt < 0
      · exact q
      · have := c3 (by omega)
        omega
    rw [if_neg (fun y => (n2.mp y) (n1.mpr dn)), if_neg (fun y => by
      rw [(lg0 _ _).mp y] at h0
      exact absurd h0 (by decide))]
  have cs : r = 0 ∨ r = 1 ∨ r = 2 ∨ r = 3 ∨ r = 4 ∨ r = -1 ∨ r = -2 ∨ r = -3 ∨ r = -4 := by
    have k : ∀ v : Int64, r.toInt = v.toInt → r = v := fun v q => Int64.toInt_inj.mp q
    have k0 := k 0
    have k1 := k 1
    have k2 := k 2
    have k3 := k 3
    have k4 := k 4
    have m1 := k (-1)
    have m2 := k (-2)
    have m3 := k (-3)
    have m4 := k (-4)
    rw [show (0 : Int64).toInt = 0 by decide] at k0
    rw [show (1 : Int64).toInt = 1 by decide] at k1
    rw [show (2 : Int64).toInt = 2 by decide] at k2
    rw [show (3 : Int64).toInt = 3 by decide] at k3
    rw [show (4 : Int64).toInt = 4 by decide] at k4
    rw [show (-1 : Int64).toInt = -1 by decide] at m1
    rw [show (-2 : Int64).toInt = -2 by decide] at m2
    rw [show (-3 : Int64).toInt = -3 by decide] at m3
    rw [show (-4 : Int64).toInt = -4 by decide] at m4
    have : r.toInt = 0 ∨ r.toInt = 1 ∨ r.toInt = 2 ∨ r.toInt = 3 ∨ r.toInt = 4 ∨ r.toInt = -1 ∨ r.toInt = -2 ∨ r.toInt = -3 ∨ r.toInt = -4 := by omega
    rcases this with q | q | q | q | q | q | q | q | q
    · exact Or.inl (k0 q)
    · exact Or.inr (Or.inl (k1 q))
    · exact Or.inr (Or.inr (Or.inl (k2 q)))
    · exact Or.inr (Or.inr (Or.inr (Or.inl (k3 q))))
    · exact Or.inr (Or.inr (Or.inr (Or.inr (Or.inl (k4 q)))))
    · exact Or.inr (Or.inr (Or.inr (Or.inr (Or.inr (Or.inl (m1 q))))))
    · exact Or.inr (Or.inr (Or.inr (Or.inr (Or.inr (Or.inr (Or.inl (m2 q)))))))
    · exact Or.inr (Or.inr (Or.inr (Or.inr (Or.inr (Or.inr (Or.inr (Or.inl (m3 q))))))))
    · exact Or.inr (Or.inr (Or.inr (Or.inr (Or.inr (Or.inr (Or.inr (Or.inr (m4 q))))))))
  rcases cs with q | q | q | q | q | q | q | q | q
  · exact ⟨0, by decide, by rw [pos (by rw [q]; decide), q]; decide, by rw [q]; decide⟩
  · exact ⟨1, by decide, by rw [pos (by rw [q]; decide), q]; decide, by rw [q]; decide⟩
  · exact ⟨2, by decide, by rw [pos (by rw [q]; decide), q]; decide, by rw [q]; decide⟩
  · exact ⟨3, by decide, by rw [pos (by rw [q]; decide), q]; decide, by rw [q]; decide⟩
  · exact ⟨4, by decide, by rw [pos (by rw [q]; decide), q]; decide, by rw [q]; decide⟩
  · exact ⟨4, by decide, by rw [neg (by rw [q]; decide), q]; decide, by rw [q]; decide⟩
  · exact ⟨3, by decide, by rw [neg (by rw [q]; decide), q]; decide, by rw [q]; decide⟩
  · exact ⟨2, by decide, by rw [neg (by rw [q]; decide), q]; decide, by rw [q]; decide⟩
  · exact ⟨1, by decide, by rw [neg (by rw [q]; decide), q]; decide, by rw [q]; decide⟩
section MP
variable {nf na nm tm : Nat} {g h : kG}
theorem tree_ok (R : Rl nf na nm tm g h) {f : Nat} (hf : f < nf) : ∃ w, w ≤ 4 ∧ xTree g f = nI w ∧ mMof h f = nI w := by
  have c := R.c1
  unfold xTree mMof
  rw [(R.f4 f hf).1, R.f1 f (by omega), R.f2 f (by omega)]
  by_cases z : g.1 5 f 2 = -1
  · rw [if_pos ((xMade_iff g f).mpr z), if_pos z]
    exact ⟨0, by decide, rfl, rfl⟩
  · rw [if_neg (fun q => z ((xMade_iff g f).mp q)), if_neg z]
    by_cases y : g.1 5 f 0 = 0
    · rw [if_pos y, if_pos y]
      exact ⟨0, by decide, rfl, rfl⟩
    · rw [if_neg y, if_neg y]
      exact tree5 _
theorem members_ok (k : K tm g h) (n : Int32) : xMembers g n = mMembers h n := by
  obtain ⟨nf, na, nm, R, E, G⟩ := k
  have c := R.c1
  unfold xMembers mMembers
  rw [R.c2.1, R.c2.2]
  by_cases y : xIn n (nI nf) = 0
  · rw [if_pos y, if_pos y]
  · rw [if_neg y, if_neg y]
    obtain ⟨f, hf, rfl⟩ := xIn_nI (by omega) y
    rw [tn_nI (by omega)]
    obtain ⟨w, h1, h2, h3⟩ := tree_ok (U_m0 R) hf
    rw [h2, h3]
theorem result_ok (k : K tm g h) (n i : Int32) : xResult g n i = mResult h n i := by
  obtain ⟨nf, na, nm, R, E, G⟩ := k
  have c := R.c1
  unfold xResult mResult
  rw [R.c4.1, R.c4.2]
  by_cases z : n < 0
  · rw [if_pos (show xIn n (nI nm) = 0 from if_pos z), if_pos z]
  · obtain ⟨a, ha, rfl⟩ := nI_of z
    rw [if_neg z]
    by_cases y : a < nm
    · rw [if_neg (xIn_pos (by omega) y), if_neg (nI_ge y (by omega)), tn_nI (by omega)]
      unfold xRes
      rw [(R.m2 a (by omega)).1]
      obtain ⟨s, hs1, hs2⟩ := kN_nI (R.m2 a (by omega)).2
      rw [hs2]
      by_cases z2 : i < 0
      · rw [if_pos z2, if_pos z2]
      · obtain ⟨j, hj, rfl⟩ := nI_of z2
        rw [if_neg z2, if_neg z2]
        by_cases y2 : j < s
        · rw [if_neg (nI_ge y2 (by omega)), if_pos (nI_lt y2 (by omega)), tn_nI (by omega), (R.m5 a (by omega) j (by rw [hs2, tn_nI (by omega)]; exact y2)).2]
        · rw [if_pos (nI_le (by omega) hj), if_neg (nI_nlt (by omega) hj)]
    · have e : xIn (nI a) (nI nm) = 0 := by
        unfold xIn
        rw [if_neg z, if_pos (nI_le (by omega) ha)]
      rw [if_pos e, if_pos (nI_le (by omega) ha)]
theorem im_ok (R : Rl nf na nm tm g h) {a : Nat} (ha : a < 6) (d : Int64) : ∀ n k, k + n ≤ tn (g.1 14 a 3) → mIm h a d n k 1 = 1 ∧ (mIm h a d n k 0 = 0 ↔ xHm g a d n k = 0)
  | 0, k, _ => ⟨rfl, Iff.rfl⟩
  | n + 1, k, hk => by
    obtain ⟨i1, i2⟩ := im_ok R ha d n (k + 1) (by omega)
    unfold mIm xHm
    rw [(R.m5 a ha k (by omega)).1, if_neg (show ¬ (1 : Int32) = 0 by decide), if_pos rfl]
    refine ⟨i1, ?_⟩
    by_cases z : lg_cmp (xMem (g.2 14 a 2) (nI k)) d = 0
    · rw [if_pos z, if_pos z, i1]
    · rw [if_neg z, if_neg z]
      exact i2
theorem an_ok (R : Rl nf na nm tm g h) {a f : Nat} (ha : a < 6) (hf : f < 24) : ∀ n k c, mAn h a f n k c = xTk g a (g.2 5 f 1) n k c
  | 0, k, c => rfl
  | n + 1, k, c => by
    unfold mAn xTk
    rw [R.f2 f hf, (R.m2 a ha).1]
    have q := (im_ok R ha (xMem (g.2 5 f 1) (nI k)) (tn (g.1 14 a 3)) 0 (by omega)).2
    by_cases z : xHm g a (xMem (g.2 5 f 1) (nI k)) (tn (g.1 14 a 3)) 0 = 0
    · rw [if_pos (q.mpr z), if_pos z]
      exact an_ok R ha hf n (k + 1) (c + 1)
    · rw [if_neg (fun y => z (q.mp y)), if_neg z, Int32.add_zero]
      exact an_ok R ha hf n (k + 1) c
theorem mSt_ok (a f : Nat) (hf : f < 24) : ∀ n k (h : kG), k + n ≤ 4 → (mSt a f n k h).1 = h.1 ∧ (∀ q b j, q ≠ 30 → q ≠ 31 → (mSt a f n k h).2 q b j = h.2 q b j) ∧ (∀ i j, j < 4 → ¬ (i = a ∧ k ≤ j ∧ j < k + n) → (mSt a f n k h).2 30 0 (4 * i + j) = h.2 30 0 (4 * i + j) ∧ (mSt a f n k h).2 31 0 (4 * i + j) = h.2 31 0 (4 * i + j)) ∧ (∀ j, k ≤ j → j < k + n → (mSt a f n k h).2 30 0 (4 * a + j) = xMem (h.2 6 0 f) (nI j) ∧ (mSt a f n k h).2 31 0 (4 * a + j) = 17 * xMem (h.2 6 0 f) (nI j) + h.2 29 0 a)
  | 0, k, h, _ => ⟨rfl, fun _ _ _ _ _ => rfl, fun _ _ _ _ => ⟨rfl, rfl⟩, fun j h1 h2 => by omega⟩
  | n + 1, k, h, hk => by
    unfold mSt
    obtain ⟨i1, i2, i3, i4⟩ := mSt_ok a f hf n (k + 1) (h.1, kUJ (kUJ h.2 30 0 (4 * a + k) (xMem (h.2 6 0 f) (nI k))) 31 0 (4 * a + k) (17 * xMem (h.2 6 0 f) (nI k) + h.2 29 0 a)) (by omega)
    refine ⟨i1, fun q b j h1 h2 => (i2 q b j h1 h2).trans ((kUJ_n (by omega)).trans (kUJ_n (by omega))), fun i j hj hn => ?_, fun j h1 h2 => ?_⟩
    · rw [(i3 i j hj (by omega)).1, (i3 i j hj (by omega)).2]
      exact ⟨show kUJ h.2 30 0 (4 * a + k) _ 30 0 (4 * i + j) = _ from kUJ_n (by omega), kUJ_n (by omega)⟩
    · by_cases e : j = k
      · subst e
        rw [(i3 a j (by omega) (by omega)).1, (i3 a j (by omega) (by omega)).2]
        exact ⟨show kUJ h.2 30 0 (4 * a + j) _ 30 0 (4 * a + j) = _ from kUJ_s .., kUJ_s ..⟩
      · exact i4 j (by omega) (by omega)
set_option maxRecDepth 4000 in
theorem take_R (R : Rl nf na nm tm g h) {a f w : Nat} (ha : a < nm) (hf : f < 24) (hw : w ≤ 4) : Rl nf na nm tm (kU g.1 14 a 3 (nI w), kUJ g.2 14 a 2 (g.2 5 f 1)) (kU (mSt a f w 0 h).1 28 0 a (nI w), (mSt a f w 0 h).2) := by
  have c := R.c1
  obtain ⟨s1, s2, s3, s4⟩ := mSt_ok a f hf w 0 h (by omega)
  rw [s1]
  have j6 : ∀ j, (mSt a f w 0 h).2 6 0 j = h.2 6 0 j := fun j => s2 6 0 j (by decide) (by decide)
  have j23 : ∀ j, (mSt a f w 0 h).2 23 0 j = h.2 23 0 j := fun j => s2 23 0 j (by decide) (by decide)
  have j29 : ∀ j, (mSt a f w 0 h).2 29 0 j = h.2 29 0 j := fun j => s2 29 0 j (by decide) (by decide)
  generalize mSt a f w 0 h = H at *
  obtain ⟨c1, c2, c3, c4, c5, f1, f2, f3, f4, f5, a1, a2, a3, a4, r1, r2, r3, k1, k2, n1, n2, n3, n4, n5, n6, n7, t1, t2, t3, t4, w1, w2, m1, m2, m3, m4, m5, m6, z1, z2⟩ := R
  refine ⟨c1, c2, c3, c4, c5, f1, fun i hi => (j6 i).trans (f2 i hi), f3, f4, f5, a1, a2, a3, a4, r1, r2, r3, k1, k2, n1, n2, n3, n4, fun i hi k hk => (j23 _).trans (n5 i hi k hk), n6, n7, t1, t2, t3, t4, w1, w2, m1, ?_, fun i hi => (j29 i).trans (m3 i hi), m4, ?_, ?_, z1, z2⟩
  · intro i hi
    show kU h.1 28 0 a (nI w) 28 0 i = kU g.1 14 a 3 (nI w) 14 i 3 ∧ kN (kU g.1 14 a 3 (nI w) 14 i 3) 4
    by_cases e : i = a
    · subst e
      rw [kU_s, kU_s]
      exact ⟨rfl, kN_of hw (by decide)⟩
    · rw [kU_n (by omega), kU_n (by omega)]
      exact m2 i hi
  · intro i hi k
    show k < tn (kU g.1 14 a 3 (nI w) 14 i 3) → H.2 30 0 (4 * i + k) = xMem (kUJ g.2 14 a 2 (g.2 5 f 1) 14 i 2) (nI k) ∧ H.2 31 0 (4 * i + k) = 17 * xMem (kUJ g.2 14 a 2 (g.2 5 f 1) 14 i 2) (nI k) + g.2 14 i 1
    by_cases e : i = a
    · subst e
      rw [kU_s, kUJ_s, tn_nI (by omega)]
      intro hk
      rw [(s4 k (by omega) (by omega)).1, (s4 k (by omega) (by omega)).2, f2 f hf, m3 i hi]
      exact ⟨rfl, rfl⟩
    · rw [kU_n (by omega), kUJ_n (by omega)]
      intro hk
      have := (m2 i hi).2.2
      rw [(s3 i k (by omega) (by omega)).1, (s3 i k (by omega) (by omega)).2]
      exact m5 i hi k hk
  · intro i hi hb
    show kU g.1 14 a 3 (nI w) 14 i 3 = 0
    rw [kU_n (by omega)]
    exact m6 i hi hb
theorem fr_m0 (G : Rg g h) : Rg g (mFr (m0 h)) := by
  obtain ⟨rs, rl, g1, g2, g3, g4, g5, g6⟩ := G
  exact ⟨rs, rl, g1, g2, (mFr_fr (m0 h) 0 0 26 (by decide)).trans g3, g4, g5, fun k hk => (mFr_fr (m0 h) 24 0 k (by decide)).trans (g6 k hk)⟩
theorem map_ok (k : K tm g h) (n : Int32) : (xMap g n).1 = (mMap h n).1 ∧ K tm (xMap g n).2 (mMap h n).2 := by
  have k0 := k
  obtain ⟨nf, na, nm, R, E, G⟩ := k
  have c := R.c1
  unfold xMap mMap
  rw [R.c4.1, R.c4.2]
  by_cases z : n < 0
  · rw [if_pos (show xIn n (nI nm) = 0 from if_pos z), if_pos z]
    exact ⟨rfl, k0.m0⟩
  · obtain ⟨a, ha, rfl⟩ := nI_of z
    rw [if_neg z]
    by_cases y : a < nm
    · rw [if_neg (xIn_pos (by omega) y), if_pos (nI_lt y (by omega)), tn_nI (show a < 2 ^ 31 by omega), (R.m1 a (by omega)).1]
      obtain ⟨f, hf, ef⟩ := R.m4 a y
      rw [ef, tn_nI (show f < 2 ^ 31 by omega), (R.f4 f hf).1, R.f1 f (by omega)]
      by_cases z1 : g.1 5 f 2 = -1
      · rw [if_pos ((xMade_iff g f).mpr z1), if_pos z1]
        exact ⟨rfl, k0.m0⟩
      · rw [if_neg (fun q => z1 ((xMade_iff g f).mp q)), if_neg z1]
        by_cases z2 : g.1 5 f 0 = 0
        · rw [if_pos z2, if_pos z2]
          exact ⟨rfl, k0.m0⟩
        · rw [if_neg z2, if_neg z2]
          rcases (R.f4 f hf).2 with e | ⟨b, hb, e⟩
          · exact absurd e z1
          · have iF := xFr_iff R hf (xFresh g)
            have iX := xFresh_iff R (b := b) (by omega)
            have iM := mFr_iff (U_m0 R) b
            have R2 := (U_m0 R).fr
            unfold mNow
            rw [e, tn_nI (show b < 2 ^ 31 by omega)] at iF ⊢
            by_cases z3 : Fs g na b
            · rw [if_neg (iF.mpr (Or.inr (iX.mpr z3))), if_neg (iM.mpr z3)]
              obtain ⟨w, h1, h2, h3⟩ := tree_ok R2 hf
              unfold xTake mTake
              rw [h2, h3, tn_nI (by omega), an_ok R2 (a := a) (by omega) (by omega)]
              refine ⟨rfl, nf, na, nm, take_R R2 y (by omega) h1, E, ?_⟩
              obtain ⟨rs, rl, g1, g2, g3, g4, g5, g6⟩ := fr_m0 G
              have s1 := (mSt_ok a f (by omega) w 0 (mFr (m0 h)) (by omega)).1
              refine ⟨rs, rl, g1, g2, ?_, g4, g5, fun k hk => ?_⟩
              · show (mSt a f w 0 (mFr (m0 h))).1 0 0 26 = nI rl
                rw [s1]
                exact g3
              · show (mSt a f w 0 (mFr (m0 h))).1 24 0 k = g.1 4 0 (rs + k)
                rw [s1]
                exact g6 k hk
            · have b3 : ¬ (nI b = -1 ∨ bt (xFresh g) b = true) := by
                rintro (q | q)
                · exact absurd q (nI_m1 (by omega))
                · exact z3 (iX.mp q)
              have b1 : xFr g f (xFresh g) = 0 := by
                by_cases q : xFr g f (xFresh g) = 0
                · exact q
                · exact absurd (iF.mp q) b3
              have b2 : (mFr (m0 h)).1 22 0 b = 0 := by
                by_cases q : (mFr (m0 h)).1 22 0 b = 0
                · exact q
                · exact absurd (iM.mp q) z3
              rw [if_pos b1, if_pos b2]
              exact ⟨rfl, nf, na, nm, R2, E, fr_m0 G⟩
    · have e : xIn (nI a) (nI nm) = 0 := by
        unfold xIn
        rw [if_neg z, if_pos (nI_le (by omega) ha)]
      rw [if_pos e, if_neg (nI_nlt (by omega) ha)]
      exact ⟨rfl, k0.m0⟩
end MP
