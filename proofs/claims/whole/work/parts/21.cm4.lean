/-! the reference: specs and contracts, 4: run, resolve, map and the rest (by program: wip/gen/cm4.py) -/
theorem mFv_fr (na : Nat) : ∀ (n : Nat) (mo : Int32) (g : kG) (q a j : Nat), q ≠ 22 → (mFv na n mo g).1 q a j = g.1 q a j ∧ (mFv na n mo g).2 = g.2
  | 0, mo, g, q, a, j, h => ⟨rfl, rfl⟩
  | n + 1, mo, g, q, a, j, h => by
    unfold mFv
    split
    · exact ⟨rfl, rfl⟩
    · have h1 := mFv_fr na n (mRd na 0 0 g).1 (mRd na 0 0 g).2 q a j h
      have h2 := mRd_fr na 0 0 g q a j h
      exact ⟨h1.1.trans h2.1, h1.2.trans h2.2⟩
theorem mClr_J : ∀ (n k : Nat) (g : kG), (mClr n k g).2 = g.2
  | 0, k, g => rfl
  | n + 1, k, g => (mClr_J n (k + 1) (kU g.1 22 0 k 0, g.2)).trans rfl
theorem mFr_fr (g : kG) (q a j : Nat) (h : q ≠ 22) : (mFr g).1 q a j = g.1 q a j := ((mFv_fr _ 13 1 (mClr 12 0 g) q a j h).1).trans (mClr_fr 12 0 g q a j h)
theorem mFr_J (g : kG) : (mFr g).2 = g.2 := ((mFv_fr _ 13 1 (mClr 12 0 g) 0 0 0 (by decide)).2).trans (mClr_J 12 0 g)
theorem mFr_Z (g : kG) (h : ∀ j, kZ (g.1 22 0 j)) : ∀ j, kZ ((mFr g).1 22 0 j) := mFv_Z _ _ _ _ (mClr_Z _ _ _ h)
theorem mRows_fr (a : Nat) (k i j : Nat) (h : (k ≠ 14 ∧ k ≠ 15 ∧ k ≠ 20 ∧ k ≠ 21) ∧ k ≠ 19) : ∀ (n q : Nat) (g : kG), (mRows a n q g).2.1 k i j = g.1 k i j
  | 0, q, g => rfl
  | n + 1, q, g => by
    have e := mLook_fr g a (g.1 11 0 (12 * a + q)) (g.1 12 0 (12 * a + q)) k i j h
    unfold mRows
    split
    · rfl
    · split
      · split
        · exact mRows_fr a k i j h n _ _
        · exact mRows_fr a k i j h n _ _
      · split
        · rw [mRows_fr a k i j h n]; exact e
        · exact e
def mRunB (r : Int32) (g : kG) (a : Nat) : Int32 × kG := if r = 1 then (if g.1 9 0 a = -1 then (r, (kU g.1 13 0 a r, g.2)) else (r, (kU (kU g.1 13 0 a r) 5 0 (tn (g.1 9 0 a)) 1, kUJ g.2 6 0 (tn (g.1 9 0 a)) (g.2 0 0 32)))) else if r = -3 then (if g.1 9 0 a = -1 then (r, (kU g.1 13 0 a r, g.2)) else (r, (kU (kU g.1 13 0 a r) 5 0 (tn (g.1 9 0 a)) 0, kUJ g.2 6 0 (tn (g.1 9 0 a)) 0))) else (r, mFgt g a)
def mRunT (g : kG) (a : Nat) : kG := (kU (kU g.1 18 0 a (g.1 18 0 a + 1)) 17 0 a (g.1 17 0 a + 1), g.2)
def mW (g : kG) (a : Nat) : kG := (kU g.1 19 0 a (-1), g.2)
def mG2 (g : kG) (a : Nat) : kG := mFr (mW g a)
def mS2 (g : kG) (a : Nat) : Int32 × kG := mTry (mRunT (mG2 g a) a) a
def mRun (g : kG) (n : Int32) : Int32 × kG := if (mG2 g (tn n)).1 22 0 (tn n) = 0 then (if (mG2 g (tn n)).1 18 0 (tn n) = (mG2 g (tn n)).1 0 0 0 then (-2, mFgt (kU (mG2 g (tn n)).1 18 0 (tn n) 0, (mG2 g (tn n)).2) (tn n)) else if (mS2 g (tn n)).1 = 0 then mRunB (mS2 g (tn n)).1 (mS2 g (tn n)).2 (tn n) else mRunB (mS2 g (tn n)).1 (kU (mS2 g (tn n)).2.1 18 0 (tn n) 0, (mS2 g (tn n)).2.2) (tn n)) else ((mG2 g (tn n)).1 13 0 (tn n), (kU (mG2 g (tn n)).1 16 0 (tn n) ((mG2 g (tn n)).1 16 0 (tn n) + 1), (mG2 g (tn n)).2))
def mRunP (g : kG) (n : Int32) : Int32 × kG := if xIn n (g.1 0 0 3) = 0 then (-9, m0 g) else ((mRun (m0 g) n).1, (mRun (m0 g) n).2)
def mFreshP (g : kG) (n : Int32) : Int32 × kG := if xIn n (g.1 0 0 3) = 0 then (0, m0 g) else if mNow (m0 g) n = 0 then (0, mFr (m0 g)) else (1, mFr (m0 g))
/-- what always holds of the reference's memory, for run and resolve -/
def mJ (g : kG) : Prop := mI g ∧ mS g ∧ (∀ j, kZ (g.1 22 0 j)) ∧ (∀ a, a < 12 → g.1 9 0 a = -1 ∨ vp_in (g.1 9 0 a) 24) ∧ ∀ a, a < 12 → ∀ k, k < tn (g.1 10 0 a) → (g.1 11 0 (12 * a + k) = 2 ∧ kN (g.1 12 0 (12 * a + k)) 8) ∨ (¬ g.1 11 0 (12 * a + k) = 2 ∧ vp_in (g.1 12 0 (12 * a + k)) 24)
theorem mJ_try {g : kG} (h : mJ g) {a : Nat} (ha : a < 12) : mL (mTry0 (mRunT (mG2 g a) a) a) a := by
  have e := fun q i j (hq : q ≠ 22 ∧ q ≠ 19) => (mFr_fr (mW g a) q i j hq.1).trans (kU_n (I := g.1) (k := 19) (i := 0) (j := a) (v := -1) (fun z => hq.2 z.1))
  obtain ⟨⟨h1, h2, h3, h4, h5, h6, h7⟩, h8, h9, h10, h11⟩ := h
  refine ⟨fun f hf => ?_, ?_, ?_, fun f hf => ?_, fun k hk => ?_⟩
  · show kZ ((mG2 g a).1 5 0 f)
    rw [show (mG2 g a).1 5 0 f = g.1 5 0 f from e 5 0 f (by decide)]; exact h4 f hf
  · have e0 : (mTry0 (mRunT (mG2 g a) a) a).1 14 0 a = nI 0 := by
      show kU (kU _ 14 0 a 0) 13 0 a 2 14 0 a = nI 0
      rw [kU_n (fun q => absurd q.1 (by decide)), kU_s]; exact nI_0.symm
    rw [e0]
    exact kN_of (by omega) (by omega)
  · show kN ((mG2 g a).1 10 0 a) 12
    rw [show (mG2 g a).1 10 0 a = g.1 10 0 a from e 10 0 a (by decide)]; exact (h5 a ha).1
  · show (mG2 g a).1 7 0 f = -1 ∨ vp_in ((mG2 g a).1 7 0 f) 12
    rw [show (mG2 g a).1 7 0 f = g.1 7 0 f from e 7 0 f (by decide)]; exact h8.2.2 f hf
  · have hk2 : k < tn ((mG2 g a).1 10 0 a) := hk
    rw [show (mG2 g a).1 10 0 a = g.1 10 0 a from e 10 0 a (by decide)] at hk2
    show ((mG2 g a).1 11 0 (12 * a + k) = 2 ∧ kN ((mG2 g a).1 12 0 (12 * a + k)) 8) ∨ (¬ (mG2 g a).1 11 0 (12 * a + k) = 2 ∧ vp_in ((mG2 g a).1 12 0 (12 * a + k)) 24)
    rw [show (mG2 g a).1 11 0 (12 * a + k) = g.1 11 0 (12 * a + k) from e 11 0 _ (by decide), show (mG2 g a).1 12 0 (12 * a + k) = g.1 12 0 (12 * a + k) from e 12 0 _ (by decide)]
    exact h11 a ha k hk2
theorem mS2_9 (g : kG) (a : Nat) (j : Nat) : (mS2 g a).2.1 9 0 j = g.1 9 0 j := by
  have e := (mFr_fr (mW g a) 9 0 j (by decide)).trans (kU_n (I := g.1) (k := 19) (i := 0) (j := a) (a := 9) (b := 0) (c := j) (v := -1) (fun z => absurd z.1 (by decide)))
  have e2 := mRows_fr a 9 0 j (by decide) 13 0 (mTry0 (mRunT (mG2 g a) a) a)
  exact e2.trans e
def mUn (g : kG) (a : Nat) : Nat → Nat → Int32 → Int32
  | 0, _, b => b
  | n + 1, k, b => if g.1 13 0 a = 2 then b else mUn g a n (k + 1) (b &&& ((1 <<< (g.1 15 0 (24 * a + k) &&& 31)) ^^^ (-1)))
def mUnused (g : kG) (n : Int32) : Int32 := if xIn n (g.1 0 0 3) = 0 then 0 else mUn (m0 g) (tn n) (tn (g.1 14 0 (tn n))) 0 (g.1 8 0 (tn n) &&& ((1 <<< (g.1 0 0 2 &&& 31)) - 1))
def mIm (g : kG) (m : Nat) (d : Int64) : Nat → Nat → Int32 → Int32
  | 0, _, s => s
  | n + 1, k, s => if s = 0 then (if lg_cmp (g.2 30 0 (4 * m + k)) d = 0 then mIm g m d n (k + 1) 1 else mIm g m d n (k + 1) 0) else mIm g m d n (k + 1) 1
def mAn (g : kG) (m f : Nat) : Nat → Nat → Int32 → Int32
  | 0, _, a => a
  | n + 1, k, a => if mIm g m (xMem (g.2 6 0 f) (nI k)) (tn (g.1 28 0 m)) 0 0 = 0 then mAn g m f n (k + 1) (a + 1) else mAn g m f n (k + 1) (a + 0)
def mSt (m f : Nat) : Nat → Nat → kG → kG
  | 0, _, g => g
  | n + 1, k, g => mSt m f n (k + 1) (g.1, kUJ (kUJ g.2 30 0 (4 * m + k) (xMem (g.2 6 0 f) (nI k))) 31 0 (4 * m + k) (17 * xMem (g.2 6 0 f) (nI k) + g.2 29 0 m))
def mTake (g : kG) (m f : Nat) : Int32 × kG := (mAn g m f (tn (mMof g f)) 0 0, (kU (mSt m f (tn (mMof g f)) 0 g).1 28 0 m (mMof g f), (mSt m f (tn (mMof g f)) 0 g).2))
def mMap (g : kG) (n : Int32) : Int32 × kG := if n < 0 then (-1, m0 g) else if n < g.1 0 0 4 then (if g.1 7 0 (tn (g.1 27 0 (tn n))) = -1 then (-1, m0 g) else if g.1 5 0 (tn (g.1 27 0 (tn n))) = 0 then (-1, m0 g) else if mNow (m0 g) (g.1 7 0 (tn (g.1 27 0 (tn n)))) = 0 then (-1, mFr (m0 g)) else mTake (mFr (m0 g)) (tn n) (tn (g.1 27 0 (tn n)))) else (-1, m0 g)
def mTr : Nat → Nat → kG → kG
  | 0, _, g => g
  | n + 1, k, g => mTr n (k + 1) (kU (kU g.1 24 0 (tn (g.1 0 0 26)) (g.1 25 0 k)) 0 0 26 (g.1 0 0 26 + 1), g.2)
def mSe (g : kG) (nx : Int32) : Nat → Nat → Nat
  | 0, k => k
  | n + 1, k => if g.1 25 0 k = nx then k else mSe g nx n (k + 1)
theorem mSe_le (g : kG) (nx : Int32) : ∀ n k, k ≤ mSe g nx n k ∧ mSe g nx n k ≤ k + n
  | 0, k => ⟨Nat.le_refl _, Nat.le_refl _⟩
  | n + 1, k => by
    unfold mSe
    split
    · omega
    · have := mSe_le g nx n (k + 1)
      omega
def mNx (g : kG) (e : Nat) : Int32 := (mRun g (g.1 25 0 e)).2.1 7 0 (tn ((mRun g (g.1 25 0 e)).2.1 19 0 (tn (g.1 25 0 e))))
def mAt (g : kG) (e : Nat) : Nat := mSe (mRun g (g.1 25 0 e)).2 (mNx g e) (e + 1) 0
def mPush (g : kG) (e : Nat) : kG := (kU (mRun g (g.1 25 0 e)).2.1 25 0 (e + 1) (mNx g e), (mRun g (g.1 25 0 e)).2.2)
def mRs : Nat → Nat → kG → Int32 × kG
  | 0, _, g => (-2, g)
  | n + 1, e, g => if (mRun g (g.1 25 0 e)).1 = 0 then (if nI (e + 1) ≤ nI (mAt g e) then mRs n (e + 1) (mPush g e) else (-5, mTr (e + 1 - mAt g e) (mAt g e) (mRun g (g.1 25 0 e)).2)) else if nI (e + 1) = 1 then (mRun g (g.1 25 0 e)) else if (mRun g (g.1 25 0 e)).1 = -1 then (mRun g (g.1 25 0 e)) else if (mRun g (g.1 25 0 e)).1 = -2 then (mRun g (g.1 25 0 e)) else mRs n (e - 1) (mRun g (g.1 25 0 e)).2
def mResolve (F : Nat) (g : kG) (n : Int32) : Int32 × kG := if xIn n (g.1 0 0 3) = 0 then (-9, m0 g) else mRs F 0 (kU (kU (m0 g).1 0 0 26 0) 25 0 0 n, g.2)
set_option maxHeartbeats 4000000 in
set_option maxRecDepth 100000 in
theorem c_M_runOne (l : Launch) (b : Nat → Nat → Nat) (dA : Nat → ClassId) (D : va_G) (g : kG) (n : Int32) (hn : vp_in n 12) (hJ : mJ g) : kMd (sysM b dA D) l y_M_runOne b_M_runOne 4 (some .int) 3 73 [.inr (.inr (0, 0)), .inl n] g (some (.inl (mRun g n).1)) (mRun g n).2 := by
  refine k_enter (by decide) [some (.inr (.inr (0, 0))), some (.inl n), none, none] rfl rfl (Nat.le_of_ble_eq_true rfl) (fun x X => ?_)
  have C := X.1
  have O := X.2.1
  refine k_aload_n C d_M_runOne_0 rfl rfl ?_
  refine k_getR C O (r := (19, _)) d_M_runOne_1 fl_M_54 mr_0 rfl rfl rfl rfl ?_
  refine k_iload_n C d_M_runOne_4 rfl rfl ?_
  refine k_iconst C (v := (-1)) d_M_runOne_5 (by decide) ?_
  refine k_iast2 C O d_M_runOne_6 mr_19 rfl 0 rfl hn rfl ?_
  refine k_aload_n C d_M_runOne_7 rfl rfl ?_
  refine k_iload_n C d_M_runOne_8 rfl rfl ?_
  refine k_cvI X d_M_runOne_9 (c_M_isFreshNow l b dA D (mW g (tn n)) n hn hJ.2.1 hJ.2.2.1) cv_M_141 mr_0 rfl rfl ⟨by decide, by decide⟩ rfl rfl (Nat.le_of_ble_eq_true rfl) ?_
  refine k_if_eq C (tgt := 32) d_M_runOne_12 (by decide) (fun c12 => ?_) (fun c12 => ?_)
  · refine k_aload_n C d_M_runOne_32 rfl rfl ?_
    refine k_getR C O (r := (18, _)) d_M_runOne_33 fl_M_51 mr_0 rfl rfl rfl rfl ?_
    refine k_iload_n C d_M_runOne_36 rfl rfl ?_
    refine k_iald2 C O d_M_runOne_37 mr_18 rfl 0 rfl hn rfl ?_
    refine k_aload_n C d_M_runOne_38 rfl rfl ?_
    refine k_getI C O d_M_runOne_39 fl_M_90 mr_0 rfl rfl rfl ?_
    refine k_icmp_ne C (tgt := 60) d_M_runOne_42 (by decide) (fun c42 => ?_) (fun c42 => ?_)
    · refine k_aload_n C d_M_runOne_60 rfl rfl ?_
      refine k_getR C O (r := (18, _)) d_M_runOne_61 fl_M_51 mr_0 rfl rfl rfl rfl ?_
      refine k_iload_n C d_M_runOne_64 rfl rfl ?_
      refine k_dup2 C d_M_runOne_65 rfl rfl ?_
      refine k_iald2 C O d_M_runOne_66 mr_18 rfl 0 rfl hn rfl ?_
      refine k_iconst C (v := 1) d_M_runOne_67 (by decide) ?_
      refine k_iadd C d_M_runOne_68 ?_
      refine k_iast2 C O d_M_runOne_69 mr_18 rfl 0 rfl hn rfl ?_
      refine k_aload_n C d_M_runOne_70 rfl rfl ?_
      refine k_getR C O (r := (17, _)) d_M_runOne_71 fl_M_48 mr_0 rfl rfl rfl rfl ?_
      refine k_iload_n C d_M_runOne_74 rfl rfl ?_
      refine k_dup2 C d_M_runOne_75 rfl rfl ?_
      refine k_iald2 C O d_M_runOne_76 mr_17 rfl 0 rfl hn rfl ?_
      refine k_iconst C (v := 1) d_M_runOne_77 (by decide) ?_
      refine k_iadd C d_M_runOne_78 ?_
      refine k_iast2 C O d_M_runOne_79 mr_17 rfl 0 rfl hn rfl ?_
      refine k_aload_n C d_M_runOne_80 rfl rfl ?_
      refine k_iload_n C d_M_runOne_81 rfl rfl ?_
      refine k_cvI X d_M_runOne_82 (c_M_tryRows l b dA D (mRunT (mG2 g (tn n)) (tn n)) n hn (mJ_try hJ (vi_lt hn))) cv_M_144 mr_0 rfl rfl ⟨by decide, by decide⟩ rfl rfl (Nat.le_of_ble_eq_true rfl) ?_
      refine k_istore_n C d_M_runOne_85 rfl (Nat.le_of_ble_eq_true rfl) rfl ?_
      refine k_iload_n C d_M_runOne_86 rfl rfl ?_
      refine k_if_eq C (tgt := 97) d_M_runOne_87 (by decide) (fun c87 => ?_) (fun c87 => ?_)
      · refine k_iload_n C d_M_runOne_97 rfl rfl ?_
        refine k_iconst C (v := 1) d_M_runOne_98 (by decide) ?_
        refine k_icmp_eq C (tgt := 115) d_M_runOne_99 (by decide) (fun c99 => ?_) (fun c99 => ?_)
        · refine k_aload_n C d_M_runOne_115 rfl rfl ?_
          refine k_getR C O (r := (13, _)) d_M_runOne_116 fl_M_36 mr_0 rfl rfl rfl rfl ?_
          refine k_iload_n C d_M_runOne_119 rfl rfl ?_
          refine k_iload_n C d_M_runOne_120 rfl rfl ?_
          refine k_iast2 C O d_M_runOne_121 mr_13 rfl 0 rfl hn rfl ?_
          refine k_aload_n C d_M_runOne_122 rfl rfl ?_
          refine k_getR C O (r := (9, _)) d_M_runOne_123 fl_M_24 mr_0 rfl rfl rfl rfl ?_
          refine k_iload_n C d_M_runOne_126 rfl rfl ?_
          refine k_iald2 C O d_M_runOne_127 mr_9 rfl 0 rfl hn rfl ?_
          refine k_istore_n C d_M_runOne_128 rfl (Nat.le_of_ble_eq_true rfl) rfl ?_
          refine k_iload_n C d_M_runOne_129 rfl rfl ?_
          refine k_iconst C (v := (-1)) d_M_runOne_130 (by decide) ?_
          refine k_icmp_eq C (tgt := 169) d_M_runOne_131 (by decide) (fun c131 => ?_) (fun c131 => ?_)
          · refine k_iload_n C d_M_runOne_169 rfl rfl ?_
            exact k_iret X d_M_runOne_170 (k_pr ((if_pos c12).trans ((if_neg c42).trans ((if_pos c87).trans ((if_pos c99).trans ((if_pos c131).trans (rfl)))))))
          · refine k_aload_n C d_M_runOne_134 rfl rfl ?_
            refine k_getR C O (r := (5, _)) d_M_runOne_135 fl_M_7 mr_0 rfl rfl rfl rfl ?_
            refine k_iload_n C d_M_runOne_138 rfl rfl ?_
            refine k_iload_n C d_M_runOne_139 rfl rfl ?_
            refine k_iconst C (v := 1) d_M_runOne_140 (by decide) ?_
            refine k_icmp_ne C (tgt := 148) d_M_runOne_141 (by decide) (fun q => absurd c99 q) (fun _ => ?_)
            refine k_iconst C (v := 1) d_M_runOne_144 (by decide) ?_
            refine k_goto C (tgt := 149) d_M_runOne_145 (by decide) ?_
            refine k_zast2 C O d_M_runOne_149 (Or.inr rfl) mr_5 rfl 1 rfl (((mS2_9 g (tn n) (tn n)).symm ▸ hJ.2.2.2.1 _ (vi_lt hn)).resolve_left c131) rfl ?_
            refine k_aload_n C d_M_runOne_150 rfl rfl ?_
            refine k_getR C O (r := (6, _)) d_M_runOne_151 fl_M_13 mr_0 rfl rfl rfl rfl ?_
            refine k_iload_n C d_M_runOne_154 rfl rfl ?_
            refine k_iload_n C d_M_runOne_155 rfl rfl ?_
            refine k_iconst C (v := 1) d_M_runOne_156 (by decide) ?_
            refine k_icmp_ne C (tgt := 167) d_M_runOne_157 (by decide) (fun q => absurd c99 q) (fun _ => ?_)
            refine k_aload_n C d_M_runOne_160 rfl rfl ?_
            refine k_getJ C O d_M_runOne_161 fl_M_130 mr_0 rfl rfl rfl ?_
            refine k_goto C (tgt := 168) d_M_runOne_164 (by decide) ?_
            refine k_last2 C O d_M_runOne_168 mr_6 rfl 2 rfl (((mS2_9 g (tn n) (tn n)).symm ▸ hJ.2.2.2.1 _ (vi_lt hn)).resolve_left c131) rfl ?_
            refine k_iload_n C d_M_runOne_169 rfl rfl ?_
            exact k_iret X d_M_runOne_170 (k_pr ((if_pos c12).trans ((if_neg c42).trans ((if_pos c87).trans ((if_pos c99).trans ((if_neg c131).trans (rfl)))))))
        · refine k_iload_n C d_M_runOne_102 rfl rfl ?_
          refine k_bipush C (v := (-3)) d_M_runOne_103 (by decide) ?_
          refine k_icmp_eq C (tgt := 115) d_M_runOne_105 (by decide) (fun c105 => ?_) (fun c105 => ?_)
          · refine k_aload_n C d_M_runOne_115 rfl rfl ?_
            refine k_getR C O (r := (13, _)) d_M_runOne_116 fl_M_36 mr_0 rfl rfl rfl rfl ?_
            refine k_iload_n C d_M_runOne_119 rfl rfl ?_
            refine k_iload_n C d_M_runOne_120 rfl rfl ?_
            refine k_iast2 C O d_M_runOne_121 mr_13 rfl 0 rfl hn rfl ?_
            refine k_aload_n C d_M_runOne_122 rfl rfl ?_
            refine k_getR C O (r := (9, _)) d_M_runOne_123 fl_M_24 mr_0 rfl rfl rfl rfl ?_
            refine k_iload_n C d_M_runOne_126 rfl rfl ?_
            refine k_iald2 C O d_M_runOne_127 mr_9 rfl 0 rfl hn rfl ?_
            refine k_istore_n C d_M_runOne_128 rfl (Nat.le_of_ble_eq_true rfl) rfl ?_
            refine k_iload_n C d_M_runOne_129 rfl rfl ?_
            refine k_iconst C (v := (-1)) d_M_runOne_130 (by decide) ?_
            refine k_icmp_eq C (tgt := 169) d_M_runOne_131 (by decide) (fun c131 => ?_) (fun c131 => ?_)
            · refine k_iload_n C d_M_runOne_169 rfl rfl ?_
              exact k_iret X d_M_runOne_170 (k_pr ((if_pos c12).trans ((if_neg c42).trans ((if_pos c87).trans ((if_neg c99).trans ((if_pos c105).trans ((if_pos c131).trans (rfl))))))))
            · refine k_aload_n C d_M_runOne_134 rfl rfl ?_
              refine k_getR C O (r := (5, _)) d_M_runOne_135 fl_M_7 mr_0 rfl rfl rfl rfl ?_
              refine k_iload_n C d_M_runOne_138 rfl rfl ?_
              refine k_iload_n C d_M_runOne_139 rfl rfl ?_
              refine k_iconst C (v := 1) d_M_runOne_140 (by decide) ?_
              refine k_icmp_ne C (tgt := 148) d_M_runOne_141 (by decide) (fun _ => ?_) (fun q => absurd q c99)
              refine k_iconst C (v := 0) d_M_runOne_148 (by decide) ?_
              refine k_zast2 C O d_M_runOne_149 (Or.inl rfl) mr_5 rfl 1 rfl (((mS2_9 g (tn n) (tn n)).symm ▸ hJ.2.2.2.1 _ (vi_lt hn)).resolve_left c131) rfl ?_
              refine k_aload_n C d_M_runOne_150 rfl rfl ?_
              refine k_getR C O (r := (6, _)) d_M_runOne_151 fl_M_13 mr_0 rfl rfl rfl rfl ?_
              refine k_iload_n C d_M_runOne_154 rfl rfl ?_
              refine k_iload_n C d_M_runOne_155 rfl rfl ?_
              refine k_iconst C (v := 1) d_M_runOne_156 (by decide) ?_
              refine k_icmp_ne C (tgt := 167) d_M_runOne_157 (by decide) (fun _ => ?_) (fun q => absurd q c99)
              refine k_lconst C (v := 0) d_M_runOne_167 (by decide) ?_
              refine k_last2 C O d_M_runOne_168 mr_6 rfl 2 rfl (((mS2_9 g (tn n) (tn n)).symm ▸ hJ.2.2.2.1 _ (vi_lt hn)).resolve_left c131) rfl ?_
              refine k_iload_n C d_M_runOne_169 rfl rfl ?_
              exact k_iret X d_M_runOne_170 (k_pr ((if_pos c12).trans ((if_neg c42).trans ((if_pos c87).trans ((if_neg c99).trans ((if_pos c105).trans ((if_neg c131).trans (rfl))))))))
          · refine k_aload_n C d_M_runOne_108 rfl rfl ?_
            refine k_iload_n C d_M_runOne_109 rfl rfl ?_
            refine k_cvV X d_M_runOne_110 (c_M_forget l b dA D _ n hn) cv_M_110 mr_0 rfl rfl ⟨by decide, by decide⟩ rfl rfl (Nat.le_of_ble_eq_true rfl) ?_
            refine k_iload_n C d_M_runOne_113 rfl rfl ?_
            exact k_iret X d_M_runOne_114 (k_pr ((if_pos c12).trans ((if_neg c42).trans ((if_pos c87).trans ((if_neg c99).trans ((if_neg c105).trans (rfl)))))))
      · refine k_aload_n C d_M_runOne_90 rfl rfl ?_
        refine k_getR C O (r := (18, _)) d_M_runOne_91 fl_M_51 mr_0 rfl rfl rfl rfl ?_
        refine k_iload_n C d_M_runOne_94 rfl rfl ?_
        refine k_iconst C (v := 0) d_M_runOne_95 (by decide) ?_
        refine k_iast2 C O d_M_runOne_96 mr_18 rfl 0 rfl hn rfl ?_
        refine k_iload_n C d_M_runOne_97 rfl rfl ?_
        refine k_iconst C (v := 1) d_M_runOne_98 (by decide) ?_
        refine k_icmp_eq C (tgt := 115) d_M_runOne_99 (by decide) (fun c99 => ?_) (fun c99 => ?_)
        · refine k_aload_n C d_M_runOne_115 rfl rfl ?_
          refine k_getR C O (r := (13, _)) d_M_runOne_116 fl_M_36 mr_0 rfl rfl rfl rfl ?_
          refine k_iload_n C d_M_runOne_119 rfl rfl ?_
          refine k_iload_n C d_M_runOne_120 rfl rfl ?_
          refine k_iast2 C O d_M_runOne_121 mr_13 rfl 0 rfl hn rfl ?_
          refine k_aload_n C d_M_runOne_122 rfl rfl ?_
          refine k_getR C O (r := (9, _)) d_M_runOne_123 fl_M_24 mr_0 rfl rfl rfl rfl ?_
          refine k_iload_n C d_M_runOne_126 rfl rfl ?_
          refine k_iald2 C O d_M_runOne_127 mr_9 rfl 0 rfl hn rfl ?_
          refine k_istore_n C d_M_runOne_128 rfl (Nat.le_of_ble_eq_true rfl) rfl ?_
          refine k_iload_n C d_M_runOne_129 rfl rfl ?_
          refine k_iconst C (v := (-1)) d_M_runOne_130 (by decide) ?_
          refine k_icmp_eq C (tgt := 169) d_M_runOne_131 (by decide) (fun c131 => ?_) (fun c131 => ?_)
          · refine k_iload_n C d_M_runOne_169 rfl rfl ?_
            exact k_iret X d_M_runOne_170 (k_pr ((if_pos c12).trans ((if_neg c42).trans ((if_neg c87).trans ((if_pos c99).trans ((if_pos c131).trans (rfl)))))))
          · refine k_aload_n C d_M_runOne_134 rfl rfl ?_
            refine k_getR C O (r := (5, _)) d_M_runOne_135 fl_M_7 mr_0 rfl rfl rfl rfl ?_
            refine k_iload_n C d_M_runOne_138 rfl rfl ?_
            refine k_iload_n C d_M_runOne_139 rfl rfl ?_
            refine k_iconst C (v := 1) d_M_runOne_140 (by decide) ?_
            refine k_icmp_ne C (tgt := 148) d_M_runOne_141 (by decide) (fun q => absurd c99 q) (fun _ => ?_)
            refine k_iconst C (v := 1) d_M_runOne_144 (by decide) ?_
            refine k_goto C (tgt := 149) d_M_runOne_145 (by decide) ?_
            refine k_zast2 C O d_M_runOne_149 (Or.inr rfl) mr_5 rfl 1 rfl (((mS2_9 g (tn n) (tn n)).symm ▸ hJ.2.2.2.1 _ (vi_lt hn)).resolve_left c131) rfl ?_
            refine k_aload_n C d_M_runOne_150 rfl rfl ?_
            refine k_getR C O (r := (6, _)) d_M_runOne_151 fl_M_13 mr_0 rfl rfl rfl rfl ?_
            refine k_iload_n C d_M_runOne_154 rfl rfl ?_
            refine k_iload_n C d_M_runOne_155 rfl rfl ?_
            refine k_iconst C (v := 1) d_M_runOne_156 (by decide) ?_
            refine k_icmp_ne C (tgt := 167) d_M_runOne_157 (by decide) (fun q => absurd c99 q) (fun _ => ?_)
            refine k_aload_n C d_M_runOne_160 rfl rfl ?_
            refine k_getJ C O d_M_runOne_161 fl_M_130 mr_0 rfl rfl rfl ?_
            refine k_goto C (tgt := 168) d_M_runOne_164 (by decide) ?_
            refine k_last2 C O d_M_runOne_168 mr_6 rfl 2 rfl (((mS2_9 g (tn n) (tn n)).symm ▸ hJ.2.2.2.1 _ (vi_lt hn)).resolve_left c131) rfl ?_
            refine k_iload_n C d_M_runOne_169 rfl rfl ?_
            exact k_iret X d_M_runOne_170 (k_pr ((if_pos c12).trans ((if_neg c42).trans ((if_neg c87).trans ((if_pos c99).trans ((if_neg c131).trans (rfl)))))))
        · refine k_iload_n C d_M_runOne_102 rfl rfl ?_
          refine k_bipush C (v := (-3)) d_M_runOne_103 (by decide) ?_
          refine k_icmp_eq C (tgt := 115) d_M_runOne_105 (by decide) (fun c105 => ?_) (fun c105 => ?_)
          · refine k_aload_n C d_M_runOne_115 rfl rfl ?_
            refine k_getR C O (r := (13, _)) d_M_runOne_116 fl_M_36 mr_0 rfl rfl rfl rfl ?_
            refine k_iload_n C d_M_runOne_119 rfl rfl ?_
            refine k_iload_n C d_M_runOne_120 rfl rfl ?_
            refine k_iast2 C O d_M_runOne_121 mr_13 rfl 0 rfl hn rfl ?_
            refine k_aload_n C d_M_runOne_122 rfl rfl ?_
            refine k_getR C O (r := (9, _)) d_M_runOne_123 fl_M_24 mr_0 rfl rfl rfl rfl ?_
            refine k_iload_n C d_M_runOne_126 rfl rfl ?_
            refine k_iald2 C O d_M_runOne_127 mr_9 rfl 0 rfl hn rfl ?_
            refine k_istore_n C d_M_runOne_128 rfl (Nat.le_of_ble_eq_true rfl) rfl ?_
            refine k_iload_n C d_M_runOne_129 rfl rfl ?_
            refine k_iconst C (v := (-1)) d_M_runOne_130 (by decide) ?_
            refine k_icmp_eq C (tgt := 169) d_M_runOne_131 (by decide) (fun c131 => ?_) (fun c131 => ?_)
            · refine k_iload_n C d_M_runOne_169 rfl rfl ?_
              exact k_iret X d_M_runOne_170 (k_pr ((if_pos c12).trans ((if_neg c42).trans ((if_neg c87).trans ((if_neg c99).trans ((if_pos c105).trans ((if_pos c131).trans (rfl))))))))
            · refine k_aload_n C d_M_runOne_134 rfl rfl ?_
              refine k_getR C O (r := (5, _)) d_M_runOne_135 fl_M_7 mr_0 rfl rfl rfl rfl ?_
              refine k_iload_n C d_M_runOne_138 rfl rfl ?_
              refine k_iload_n C d_M_runOne_139 rfl rfl ?_
              refine k_iconst C (v := 1) d_M_runOne_140 (by decide) ?_
              refine k_icmp_ne C (tgt := 148) d_M_runOne_141 (by decide) (fun _ => ?_) (fun q => absurd q c99)
              refine k_iconst C (v := 0) d_M_runOne_148 (by decide) ?_
              refine k_zast2 C O d_M_runOne_149 (Or.inl rfl) mr_5 rfl 1 rfl (((mS2_9 g (tn n) (tn n)).symm ▸ hJ.2.2.2.1 _ (vi_lt hn)).resolve_left c131) rfl ?_
              refine k_aload_n C d_M_runOne_150 rfl rfl ?_
              refine k_getR C O (r := (6, _)) d_M_runOne_151 fl_M_13 mr_0 rfl rfl rfl rfl ?_
              refine k_iload_n C d_M_runOne_154 rfl rfl ?_
              refine k_iload_n C d_M_runOne_155 rfl rfl ?_
              refine k_iconst C (v := 1) d_M_runOne_156 (by decide) ?_
              refine k_icmp_ne C (tgt := 167) d_M_runOne_157 (by decide) (fun _ => ?_) (fun q => absurd q c99)
              refine k_lconst C (v := 0) d_M_runOne_167 (by decide) ?_
              refine k_last2 C O d_M_runOne_168 mr_6 rfl 2 rfl (((mS2_9 g (tn n) (tn n)).symm ▸ hJ.2.2.2.1 _ (vi_lt hn)).resolve_left c131) rfl ?_
              refine k_iload_n C d_M_runOne_169 rfl rfl ?_
              exact k_iret X d_M_runOne_170 (k_pr ((if_pos c12).trans ((if_neg c42).trans ((if_neg c87).trans ((if_neg c99).trans ((if_pos c105).trans ((if_neg c131).trans (rfl))))))))
          · refine k_aload_n C d_M_runOne_108 rfl rfl ?_
            refine k_iload_n C d_M_runOne_109 rfl rfl ?_
            refine k_cvV X d_M_runOne_110 (c_M_forget l b dA D _ n hn) cv_M_110 mr_0 rfl rfl ⟨by decide, by decide⟩ rfl rfl (Nat.le_of_ble_eq_true rfl) ?_
            refine k_iload_n C d_M_runOne_113 rfl rfl ?_
            exact k_iret X d_M_runOne_114 (k_pr ((if_pos c12).trans ((if_neg c42).trans ((if_neg c87).trans ((if_neg c99).trans ((if_neg c105).trans (rfl)))))))
    · refine k_aload_n C d_M_runOne_45 rfl rfl ?_
      refine k_getR C O (r := (18, _)) d_M_runOne_46 fl_M_51 mr_0 rfl rfl rfl rfl ?_
      refine k_iload_n C d_M_runOne_49 rfl rfl ?_
      refine k_iconst C (v := 0) d_M_runOne_50 (by decide) ?_
      refine k_iast2 C O d_M_runOne_51 mr_18 rfl 0 rfl hn rfl ?_
      refine k_aload_n C d_M_runOne_52 rfl rfl ?_
      refine k_iload_n C d_M_runOne_53 rfl rfl ?_
      refine k_cvV X d_M_runOne_54 (c_M_forget l b dA D _ n hn) cv_M_110 mr_0 rfl rfl ⟨by decide, by decide⟩ rfl rfl (Nat.le_of_ble_eq_true rfl) ?_
      refine k_bipush C (v := (-2)) d_M_runOne_57 (by decide) ?_
      exact k_iret X d_M_runOne_59 (k_pr ((if_pos c12).trans ((if_pos c42).trans (rfl))))
  · refine k_aload_n C d_M_runOne_15 rfl rfl ?_
    refine k_getR C O (r := (16, _)) d_M_runOne_16 fl_M_45 mr_0 rfl rfl rfl rfl ?_
    refine k_iload_n C d_M_runOne_19 rfl rfl ?_
    refine k_dup2 C d_M_runOne_20 rfl rfl ?_
    refine k_iald2 C O d_M_runOne_21 mr_16 rfl 0 rfl hn rfl ?_
    refine k_iconst C (v := 1) d_M_runOne_22 (by decide) ?_
    refine k_iadd C d_M_runOne_23 ?_
    refine k_iast2 C O d_M_runOne_24 mr_16 rfl 0 rfl hn rfl ?_
    refine k_aload_n C d_M_runOne_25 rfl rfl ?_
    refine k_getR C O (r := (13, _)) d_M_runOne_26 fl_M_36 mr_0 rfl rfl rfl rfl ?_
    refine k_iload_n C d_M_runOne_29 rfl rfl ?_
    refine k_iald2 C O d_M_runOne_30 mr_13 rfl 0 rfl hn rfl ?_
    exact k_iret X d_M_runOne_31 (k_pr ((if_neg c12).trans (rfl)))

