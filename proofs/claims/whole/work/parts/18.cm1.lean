/-! the reference: specs and contracts, 1 (by program: wip/gen/cm1.py) -/
def m0 (g : kG) : kG := (kU g.1 0 0 1 0, g.2)
def mFgt (g : kG) (a : Nat) : kG := (kU (kU g.1 13 0 a 2) 14 0 a 0, g.2)
def mFile (g : kG) (d : Int64) : Int32 × kG := if g.1 0 0 2 = 24 then (-1, m0 g) else (g.1 0 0 2 + 1 - 1, (kU (kU (kU (m0 g).1 5 0 (tn (g.1 0 0 2)) 1) 7 0 (tn (g.1 0 0 2)) (-1)) 0 0 2 (g.1 0 0 2 + 1), kUJ g.2 6 0 (tn (g.1 0 0 2)) d))
def mChange (g : kG) (n t : Int32) (d : Int64) : Int32 × kG := if xIn n (g.1 0 0 2) = 0 then (0, m0 g) else if g.1 7 0 (tn n) = -1 then (if t = 0 then (1, (kU (m0 g).1 5 0 (tn n) t, kUJ g.2 6 0 (tn n) 0)) else (1, (kU (m0 g).1 5 0 (tn n) t, kUJ g.2 6 0 (tn n) d))) else (0, m0 g)
def mAction (g : kG) (al : Int32) : Int32 × kG := if g.1 0 0 3 = 12 then (-1, m0 g) else (g.1 0 0 3 + 1 - 1, (kU (kU (kU (kU (kU (m0 g).1 8 0 (tn (g.1 0 0 3)) al) 9 0 (tn (g.1 0 0 3)) (-1)) 13 0 (tn (g.1 0 0 3)) 2) 19 0 (tn (g.1 0 0 3)) (-1)) 0 0 3 (g.1 0 0 3 + 1), g.2))
def mMakes (g : kG) (n f : Int32) : Int32 × kG := if xIn n (g.1 0 0 3) = 0 then (0, m0 g) else if xIn f (g.1 0 0 2) = 0 then (0, m0 g) else if g.1 9 0 (tn n) = -1 then (if g.1 7 0 (tn f) = -1 then (1, mFgt (kU (kU (kU (m0 g).1 9 0 (tn n) f) 7 0 (tn f) n) 5 0 (tn f) 0, kUJ g.2 6 0 (tn f) 0) (tn n)) else (0, m0 g)) else (0, m0 g)
def mRing (g : kG) (i : Int32) : Int32 := if i < 0 then -1 else if i < g.1 0 0 26 then g.1 24 0 (tn i) else -1
def mWaits (g : kG) (n : Int32) : Int32 := if xIn n (g.1 0 0 3) = 0 then -1 else g.1 19 0 (tn n)
def mDigest (g : kG) (n : Int32) : Int64 := if xIn n (g.1 0 0 2) = 0 then 0 else if g.1 5 0 (tn n) = 0 then 0 else g.2 6 0 (tn n)
def mCounted (g : kG) (n w : Int32) : Int32 := if xIn n (g.1 0 0 3) = 0 then -1 else if w = 0 then g.1 16 0 (tn n) else if w = 1 then g.1 17 0 (tn n) else if w = 2 then g.1 18 0 (tn n) else -1
def mMof (g : kG) (f : Nat) : Int32 := if g.1 7 0 f = -1 then 0 else if g.1 5 0 f = 0 then 0 else if 0 ≤ (g.2 6 0 f - g.2 6 0 f / 5 * 5).toInt32 then (g.2 6 0 f - g.2 6 0 f / 5 * 5).toInt32 else (g.2 6 0 f - g.2 6 0 f / 5 * 5).toInt32 + 5
def mMembers (g : kG) (n : Int32) : Int32 := if xIn n (g.1 0 0 2) = 0 then 0 else mMof (m0 g) (tn n)
def mMapping (g : kG) (n : Int32) (s : Int64) : Int32 × kG := if xIn n (g.1 0 0 2) = 0 then (-1, m0 g) else if g.1 0 0 4 = 6 then (-1, m0 g) else (g.1 0 0 4 + 1 - 1, (kU (kU (m0 g).1 27 0 (tn (g.1 0 0 4)) n) 0 0 4 (g.1 0 0 4 + 1), kUJ g.2 29 0 (tn (g.1 0 0 4)) s))
def mKept (g : kG) (n i w : Int32) : Int32 := if xIn n (g.1 0 0 3) = 0 then -1 else if g.1 13 0 (tn n) = 2 then -1 else if i < 0 then -1 else if i < g.1 14 0 (tn n) then (if w = 0 then g.1 15 0 (24 * tn n + tn i) else if w = 1 then (if g.1 20 0 (24 * tn n + tn i) = 0 then 0 else 1) else if w = 2 then (if g.1 21 0 (24 * tn n + tn i) = 0 then 0 else 1) else -1) else -1
def mResult (g : kG) (n i : Int32) : Int64 := if n < 0 then 0 else if g.1 0 0 4 ≤ n then 0 else if i < 0 then 0 else if i < g.1 28 0 (tn n) then g.2 31 0 (4 * tn n + tn i) else 0
def mRight (g : kG) (k w : Int32) : Int32 := if k = 2 then (if w < 1 then 0 else if 8 < w then 0 else 1) else if k = 0 then (if xIn w (g.1 0 0 2) = 0 then 0 else 1) else if k = 1 then (if xIn w (g.1 0 0 2) = 0 then 0 else 1) else 0
def mAddRow (g : kG) (a : Nat) (k w : Int32) : kG := mFgt (kU (kU (kU g.1 11 0 (12 * a + tn (g.1 10 0 a)) k) 12 0 (12 * a + tn (g.1 10 0 a)) w) 10 0 a (g.1 10 0 a + 1), g.2) a
def mRow2 (g : kG) (n k w r : Int32) : Int32 × kG := if xIn n (g.1 0 0 3) = 0 then (0, m0 g) else if r = 0 then (0, m0 g) else if g.1 10 0 (tn n) = 12 then (0, m0 g) else (1, mAddRow (m0 g) (tn n) k w)
def mRow (g : kG) (n k w : Int32) : Int32 × kG := if k = 2 then (if w < 1 then mRow2 g n k w 0 else if 8 < w then mRow2 g n k w 0 else mRow2 g n k w 1) else if k = 0 then (if xIn w (g.1 0 0 2) = 0 then mRow2 g n k w 0 else mRow2 g n k w 1) else if k = 1 then (if xIn w (g.1 0 0 2) = 0 then mRow2 g n k w 0 else mRow2 g n k w 1) else mRow2 g n k w 0
/-- what always holds of the reference's memory, as far as its own walks ask it -/
def mI (g : kG) : Prop := kN (g.1 0 0 2) 24 ∧ kN (g.1 0 0 3) 12 ∧ kN (g.1 0 0 4) 6 ∧ (∀ f, f < 24 → kZ (g.1 5 0 f)) ∧ (∀ a, a < 12 → kN (g.1 10 0 a) 12 ∧ kN (g.1 14 0 a) 12) ∧ (∀ m, m < 6 → kN (g.1 28 0 m) 4 ∧ vp_in (g.1 27 0 m) 24) ∧ kN (g.1 0 0 26) 12
theorem in_ne {v : Int32} {n : Nat} {w : Int32} (hv : kN v n) (hw : w = nI n) (hn : n < 2 ^ 30) (h : ¬ v = w) : vp_in v n := by
  have h1 := hv.1
  have h2 := hv.2
  rcases Nat.lt_or_ge (tn v) n with q | q
  · rw [h1]
    exact vp_in_nI q (by omega)
  · exact absurd (by rw [hw, h1, show tn v = n by omega]) h
set_option maxHeartbeats 4000000 in
set_option maxRecDepth 100000 in
theorem c_M_isFile (l : Launch) (b : Nat → Nat → Nat) (dA : Nat → ClassId) (D : va_G) (g : kG) (n : Int32) : kMd (sysM b dA D) l y_M_isFile b_M_isFile 2 (some .boolean) 0 0 [.inr (.inr (0, 0)), .inl n] g (some (.inl (xIn n (g.1 0 0 2)))) g := by
  refine k_enter (by decide) [some (.inr (.inr (0, 0))), some (.inl n)] rfl rfl (Nat.le_of_ble_eq_true rfl) (fun x X => ?_)
  have C := X.1
  have O := X.2.1
  refine k_iload_n C d_M_isFile_0 rfl rfl ?_
  refine k_if_lt C (tgt := 16) d_M_isFile_1 (by decide) (fun c1 => ?_) (fun c1 => ?_)
  · refine k_iconst C (v := 0) d_M_isFile_16 (by decide) ?_
    exact k_zret X d_M_isFile_17 (Or.inl rfl) (⟨by simp only [xIn, if_pos c1], by simp only [xIn, if_pos c1]⟩)
  · refine k_iload_n C d_M_isFile_4 rfl rfl ?_
    refine k_aload_n C d_M_isFile_5 rfl rfl ?_
    refine k_getI C O d_M_isFile_6 fl_M_97 mr_0 rfl rfl rfl ?_
    refine k_icmp_ge C (tgt := 16) d_M_isFile_9 (by decide) (fun c9 => ?_) (fun c9 => ?_)
    · refine k_iconst C (v := 0) d_M_isFile_16 (by decide) ?_
      exact k_zret X d_M_isFile_17 (Or.inl rfl) (⟨by simp only [xIn, if_neg c1, if_pos c9], by simp only [xIn, if_neg c1, if_pos c9]⟩)
    · refine k_iconst C (v := 1) d_M_isFile_12 (by decide) ?_
      refine k_goto C (tgt := 17) d_M_isFile_13 (by decide) ?_
      exact k_zret X d_M_isFile_17 (Or.inr rfl) (⟨by simp only [xIn, if_neg c1, if_neg c9], by simp only [xIn, if_neg c1, if_neg c9]⟩)

set_option maxHeartbeats 4000000 in
set_option maxRecDepth 100000 in
theorem c_M_isAction (l : Launch) (b : Nat → Nat → Nat) (dA : Nat → ClassId) (D : va_G) (g : kG) (n : Int32) : kMd (sysM b dA D) l y_M_isAction b_M_isAction 2 (some .boolean) 0 0 [.inr (.inr (0, 0)), .inl n] g (some (.inl (xIn n (g.1 0 0 3)))) g := by
  refine k_enter (by decide) [some (.inr (.inr (0, 0))), some (.inl n)] rfl rfl (Nat.le_of_ble_eq_true rfl) (fun x X => ?_)
  have C := X.1
  have O := X.2.1
  refine k_iload_n C d_M_isAction_0 rfl rfl ?_
  refine k_if_lt C (tgt := 16) d_M_isAction_1 (by decide) (fun c1 => ?_) (fun c1 => ?_)
  · refine k_iconst C (v := 0) d_M_isAction_16 (by decide) ?_
    exact k_zret X d_M_isAction_17 (Or.inl rfl) (⟨by simp only [xIn, if_pos c1], by simp only [xIn, if_pos c1]⟩)
  · refine k_iload_n C d_M_isAction_4 rfl rfl ?_
    refine k_aload_n C d_M_isAction_5 rfl rfl ?_
    refine k_getI C O d_M_isAction_6 fl_M_100 mr_0 rfl rfl rfl ?_
    refine k_icmp_ge C (tgt := 16) d_M_isAction_9 (by decide) (fun c9 => ?_) (fun c9 => ?_)
    · refine k_iconst C (v := 0) d_M_isAction_16 (by decide) ?_
      exact k_zret X d_M_isAction_17 (Or.inl rfl) (⟨by simp only [xIn, if_neg c1, if_pos c9], by simp only [xIn, if_neg c1, if_pos c9]⟩)
    · refine k_iconst C (v := 1) d_M_isAction_12 (by decide) ?_
      refine k_goto C (tgt := 17) d_M_isAction_13 (by decide) ?_
      exact k_zret X d_M_isAction_17 (Or.inr rfl) (⟨by simp only [xIn, if_neg c1, if_neg c9], by simp only [xIn, if_neg c1, if_neg c9]⟩)

set_option maxHeartbeats 4000000 in
set_option maxRecDepth 100000 in
theorem c_M_forget (l : Launch) (b : Nat → Nat → Nat) (dA : Nat → ClassId) (D : va_G) (g : kG) (n : Int32) (hn : vp_in n 12) : kMd (sysM b dA D) l y_M_forget b_M_forget 2 none 0 0 [.inr (.inr (0, 0)), .inl n] g none (mFgt g (tn n)) := by
  refine k_enter (by decide) [some (.inr (.inr (0, 0))), some (.inl n)] rfl rfl (Nat.le_of_ble_eq_true rfl) (fun x X => ?_)
  have C := X.1
  have O := X.2.1
  refine k_aload_n C d_M_forget_0 rfl rfl ?_
  refine k_getR C O (r := (13, _)) d_M_forget_1 fl_M_36 mr_0 rfl rfl rfl rfl ?_
  refine k_iload_n C d_M_forget_4 rfl rfl ?_
  refine k_iconst C (v := 2) d_M_forget_5 (by decide) ?_
  refine k_iast2 C O d_M_forget_6 mr_13 rfl 0 rfl hn rfl ?_
  refine k_aload_n C d_M_forget_7 rfl rfl ?_
  refine k_getR C O (r := (14, _)) d_M_forget_8 fl_M_39 mr_0 rfl rfl rfl rfl ?_
  refine k_iload_n C d_M_forget_11 rfl rfl ?_
  refine k_iconst C (v := 0) d_M_forget_12 (by decide) ?_
  refine k_iast2 C O d_M_forget_13 mr_14 rfl 0 rfl hn rfl ?_
  exact k_vret X d_M_forget_14 (k_pv (rfl))

set_option maxHeartbeats 4000000 in
set_option maxRecDepth 100000 in
theorem c_M_member (l : Launch) (b : Nat → Nat → Nat) (dA : Nat → ClassId) (D : va_G) (g : kG) (d : Int64) (i : Int32) : kMd (sysM b dA D) l y_M_member b_M_member 3 (some .long) 0 0 [.inr (.inl d), .inl i] g (some (.inr (.inl (xMem d i)))) g := by
  refine k_enter (by decide) [some (.inr (.inl d)), none, some (.inl i)] rfl rfl (Nat.le_of_ble_eq_true rfl) (fun x X => ?_)
  have C := X.1
  have O := X.2.1
  refine k_lload_n C d_M_member_0 rfl rfl ?_
  refine k_iload_n C d_M_member_1 rfl rfl ?_
  refine k_i2l C d_M_member_2 ?_
  refine k_ldc2 C (v := 1000003) d_M_member_3 (by decide +kernel) ?_
  refine k_lmul C d_M_member_6 ?_
  refine k_lxor C d_M_member_7 ?_
  exact k_lret X d_M_member_8 (⟨by simp only [xMem], by simp only [xMem]⟩)

set_option maxHeartbeats 4000000 in
set_option maxRecDepth 100000 in
theorem c_M_file (l : Launch) (b : Nat → Nat → Nat) (dA : Nat → ClassId) (D : va_G) (g : kG) (d : Int64) (hI : mI g) : kMd (sysM b dA D) l y_M_file b_M_file 3 (some .int) 0 0 [.inr (.inr (0, 0)), .inr (.inl d)] g (some (.inl (mFile g d).1)) (mFile g d).2 := by
  refine k_enter (by decide) [some (.inr (.inr (0, 0))), some (.inr (.inl d)), none] rfl rfl (Nat.le_of_ble_eq_true rfl) (fun x X => ?_)
  have C := X.1
  have O := X.2.1
  refine k_aload_n C d_M_file_0 rfl rfl ?_
  refine k_iconst C (v := 0) d_M_file_1 (by decide) ?_
  refine k_putI C O d_M_file_2 fp_M_94 mr_0 rfl rfl rfl ?_
  refine k_aload_n C d_M_file_5 rfl rfl ?_
  refine k_getI C O d_M_file_6 fl_M_97 mr_0 rfl rfl rfl ?_
  refine k_bipush C (v := 24) d_M_file_9 (by decide) ?_
  refine k_icmp_ne C (tgt := 16) d_M_file_11 (by decide) (fun c11 => ?_) (fun c11 => ?_)
  · refine k_aload_n C d_M_file_16 rfl rfl ?_
    refine k_getR C O (r := (5, _)) d_M_file_17 fl_M_7 mr_0 rfl rfl rfl rfl ?_
    refine k_aload_n C d_M_file_20 rfl rfl ?_
    refine k_getI C O d_M_file_21 fl_M_97 mr_0 rfl rfl rfl ?_
    refine k_iconst C (v := 1) d_M_file_24 (by decide) ?_
    refine k_zast2 C O d_M_file_25 (Or.inr rfl) mr_5 rfl 1 rfl (in_ne (n := 24) hI.1 rfl (by decide) c11) rfl ?_
    refine k_aload_n C d_M_file_26 rfl rfl ?_
    refine k_getR C O (r := (6, _)) d_M_file_27 fl_M_13 mr_0 rfl rfl rfl rfl ?_
    refine k_aload_n C d_M_file_30 rfl rfl ?_
    refine k_getI C O d_M_file_31 fl_M_97 mr_0 rfl rfl rfl ?_
    refine k_lload_n C d_M_file_34 rfl rfl ?_
    refine k_last2 C O d_M_file_35 mr_6 rfl 2 rfl (in_ne (n := 24) hI.1 rfl (by decide) c11) rfl ?_
    refine k_aload_n C d_M_file_36 rfl rfl ?_
    refine k_getR C O (r := (7, _)) d_M_file_37 fl_M_17 mr_0 rfl rfl rfl rfl ?_
    refine k_aload_n C d_M_file_40 rfl rfl ?_
    refine k_getI C O d_M_file_41 fl_M_97 mr_0 rfl rfl rfl ?_
    refine k_iconst C (v := (-1)) d_M_file_44 (by decide) ?_
    refine k_iast2 C O d_M_file_45 mr_7 rfl 0 rfl (in_ne (n := 24) hI.1 rfl (by decide) c11) rfl ?_
    refine k_aload_n C d_M_file_46 rfl rfl ?_
    refine k_dup C d_M_file_47 rfl ?_
    refine k_getI C O d_M_file_48 fl_M_97 mr_0 rfl rfl rfl ?_
    refine k_iconst C (v := 1) d_M_file_51 (by decide) ?_
    refine k_iadd C d_M_file_52 ?_
    refine k_putI C O d_M_file_53 fp_M_97 mr_0 rfl rfl rfl ?_
    refine k_aload_n C d_M_file_56 rfl rfl ?_
    refine k_getI C O d_M_file_57 fl_M_97 mr_0 rfl rfl rfl ?_
    refine k_iconst C (v := 1) d_M_file_60 (by decide) ?_
    refine k_isub C d_M_file_61 ?_
    exact k_iret X d_M_file_62 (k_pr ((if_neg c11).trans (rfl)))
  · refine k_iconst C (v := (-1)) d_M_file_14 (by decide) ?_
    exact k_iret X d_M_file_15 (k_pr ((if_pos c11).trans (rfl)))

set_option maxHeartbeats 4000000 in
set_option maxRecDepth 100000 in
theorem c_M_change (l : Launch) (b : Nat → Nat → Nat) (dA : Nat → ClassId) (D : va_G) (g : kG) (n t : Int32) (ht : kZ t) (d : Int64) (hI : mI g) : kMd (sysM b dA D) l y_M_change b_M_change 5 (some .boolean) 1 21 [.inr (.inr (0, 0)), .inl n, .inl t, .inr (.inl d)] g (some (.inl (mChange g n t d).1)) (mChange g n t d).2 := by
  refine k_enter (by decide) [some (.inr (.inr (0, 0))), some (.inl n), some (.inl t), some (.inr (.inl d)), none] rfl rfl (Nat.le_of_ble_eq_true rfl) (fun x X => ?_)
  have C := X.1
  have O := X.2.1
  refine k_aload_n C d_M_change_0 rfl rfl ?_
  refine k_iconst C (v := 0) d_M_change_1 (by decide) ?_
  refine k_putI C O d_M_change_2 fp_M_94 mr_0 rfl rfl rfl ?_
  refine k_aload_n C d_M_change_5 rfl rfl ?_
  refine k_iload_n C d_M_change_6 rfl rfl ?_
  refine k_cvI X d_M_change_7 (c_M_isFile l b dA D _ n) cv_M_103 mr_0 rfl rfl ⟨by decide, by decide⟩ rfl rfl (Nat.le_of_ble_eq_true rfl) ?_
  refine k_if_eq C (tgt := 23) d_M_change_10 (by decide) (fun c10 => ?_) (fun c10 => ?_)
  · refine k_iconst C (v := 0) d_M_change_23 (by decide) ?_
    exact k_zret X d_M_change_24 (Or.inl rfl) (k_pr ((if_pos c10).trans (rfl)))
  · refine k_aload_n C d_M_change_13 rfl rfl ?_
    refine k_getR C O (r := (7, _)) d_M_change_14 fl_M_17 mr_0 rfl rfl rfl rfl ?_
    refine k_iload_n C d_M_change_17 rfl rfl ?_
    refine k_iald2 C O d_M_change_18 mr_7 rfl 0 rfl (in_x (n := 24) hI.1 (by decide) c10) rfl ?_
    refine k_iconst C (v := (-1)) d_M_change_19 (by decide) ?_
    refine k_icmp_eq C (tgt := 25) d_M_change_20 (by decide) (fun c20 => ?_) (fun c20 => ?_)
    · refine k_aload_n C d_M_change_25 rfl rfl ?_
      refine k_getR C O (r := (5, _)) d_M_change_26 fl_M_7 mr_0 rfl rfl rfl rfl ?_
      refine k_iload_n C d_M_change_29 rfl rfl ?_
      refine k_iload_n C d_M_change_30 rfl rfl ?_
      refine k_zast2 C O d_M_change_31 ht mr_5 rfl 1 rfl (in_x (n := 24) hI.1 (by decide) c10) rfl ?_
      refine k_aload_n C d_M_change_32 rfl rfl ?_
      refine k_getR C O (r := (6, _)) d_M_change_33 fl_M_13 mr_0 rfl rfl rfl rfl ?_
      refine k_iload_n C d_M_change_36 rfl rfl ?_
      refine k_iload_n C d_M_change_37 rfl rfl ?_
      refine k_if_eq C (tgt := 45) d_M_change_38 (by decide) (fun c38 => ?_) (fun c38 => ?_)
      · refine k_lconst C (v := 0) d_M_change_45 (by decide) ?_
        refine k_last2 C O d_M_change_46 mr_6 rfl 2 rfl (in_x (n := 24) hI.1 (by decide) c10) rfl ?_
        refine k_iconst C (v := 1) d_M_change_47 (by decide) ?_
        exact k_zret X d_M_change_48 (Or.inr rfl) (k_pr ((if_neg c10).trans ((if_pos c20).trans ((if_pos c38).trans (rfl)))))
      · refine k_lload_n C d_M_change_41 rfl rfl ?_
        refine k_goto C (tgt := 46) d_M_change_42 (by decide) ?_
        refine k_last2 C O d_M_change_46 mr_6 rfl 2 rfl (in_x (n := 24) hI.1 (by decide) c10) rfl ?_
        refine k_iconst C (v := 1) d_M_change_47 (by decide) ?_
        exact k_zret X d_M_change_48 (Or.inr rfl) (k_pr ((if_neg c10).trans ((if_pos c20).trans ((if_neg c38).trans (rfl)))))
    · refine k_iconst C (v := 0) d_M_change_23 (by decide) ?_
      exact k_zret X d_M_change_24 (Or.inl rfl) (k_pr ((if_neg c10).trans ((if_neg c20).trans (rfl))))

set_option maxHeartbeats 4000000 in
set_option maxRecDepth 100000 in
theorem c_M_action (l : Launch) (b : Nat → Nat → Nat) (dA : Nat → ClassId) (D : va_G) (g : kG) (al : Int32) (hI : mI g) : kMd (sysM b dA D) l y_M_action b_M_action 2 (some .int) 0 0 [.inr (.inr (0, 0)), .inl al] g (some (.inl (mAction g al).1)) (mAction g al).2 := by
  refine k_enter (by decide) [some (.inr (.inr (0, 0))), some (.inl al)] rfl rfl (Nat.le_of_ble_eq_true rfl) (fun x X => ?_)
  have C := X.1
  have O := X.2.1
  refine k_aload_n C d_M_action_0 rfl rfl ?_
  refine k_iconst C (v := 0) d_M_action_1 (by decide) ?_
  refine k_putI C O d_M_action_2 fp_M_94 mr_0 rfl rfl rfl ?_
  refine k_aload_n C d_M_action_5 rfl rfl ?_
  refine k_getI C O d_M_action_6 fl_M_100 mr_0 rfl rfl rfl ?_
  refine k_bipush C (v := 12) d_M_action_9 (by decide) ?_
  refine k_icmp_ne C (tgt := 16) d_M_action_11 (by decide) (fun c11 => ?_) (fun c11 => ?_)
  · refine k_aload_n C d_M_action_16 rfl rfl ?_
    refine k_getR C O (r := (8, _)) d_M_action_17 fl_M_21 mr_0 rfl rfl rfl rfl ?_
    refine k_aload_n C d_M_action_20 rfl rfl ?_
    refine k_getI C O d_M_action_21 fl_M_100 mr_0 rfl rfl rfl ?_
    refine k_iload_n C d_M_action_24 rfl rfl ?_
    refine k_iast2 C O d_M_action_25 mr_8 rfl 0 rfl (in_ne (n := 12) hI.2.1 rfl (by decide) c11) rfl ?_
    refine k_aload_n C d_M_action_26 rfl rfl ?_
    refine k_getR C O (r := (9, _)) d_M_action_27 fl_M_24 mr_0 rfl rfl rfl rfl ?_
    refine k_aload_n C d_M_action_30 rfl rfl ?_
    refine k_getI C O d_M_action_31 fl_M_100 mr_0 rfl rfl rfl ?_
    refine k_iconst C (v := (-1)) d_M_action_34 (by decide) ?_
    refine k_iast2 C O d_M_action_35 mr_9 rfl 0 rfl (in_ne (n := 12) hI.2.1 rfl (by decide) c11) rfl ?_
    refine k_aload_n C d_M_action_36 rfl rfl ?_
    refine k_getR C O (r := (13, _)) d_M_action_37 fl_M_36 mr_0 rfl rfl rfl rfl ?_
    refine k_aload_n C d_M_action_40 rfl rfl ?_
    refine k_getI C O d_M_action_41 fl_M_100 mr_0 rfl rfl rfl ?_
    refine k_iconst C (v := 2) d_M_action_44 (by decide) ?_
    refine k_iast2 C O d_M_action_45 mr_13 rfl 0 rfl (in_ne (n := 12) hI.2.1 rfl (by decide) c11) rfl ?_
    refine k_aload_n C d_M_action_46 rfl rfl ?_
    refine k_getR C O (r := (19, _)) d_M_action_47 fl_M_54 mr_0 rfl rfl rfl rfl ?_
    refine k_aload_n C d_M_action_50 rfl rfl ?_
    refine k_getI C O d_M_action_51 fl_M_100 mr_0 rfl rfl rfl ?_
    refine k_iconst C (v := (-1)) d_M_action_54 (by decide) ?_
    refine k_iast2 C O d_M_action_55 mr_19 rfl 0 rfl (in_ne (n := 12) hI.2.1 rfl (by decide) c11) rfl ?_
    refine k_aload_n C d_M_action_56 rfl rfl ?_
    refine k_dup C d_M_action_57 rfl ?_
    refine k_getI C O d_M_action_58 fl_M_100 mr_0 rfl rfl rfl ?_
    refine k_iconst C (v := 1) d_M_action_61 (by decide) ?_
    refine k_iadd C d_M_action_62 ?_
    refine k_putI C O d_M_action_63 fp_M_100 mr_0 rfl rfl rfl ?_
    refine k_aload_n C d_M_action_66 rfl rfl ?_
    refine k_getI C O d_M_action_67 fl_M_100 mr_0 rfl rfl rfl ?_
    refine k_iconst C (v := 1) d_M_action_70 (by decide) ?_
    refine k_isub C d_M_action_71 ?_
    exact k_iret X d_M_action_72 (k_pr ((if_neg c11).trans (rfl)))
  · refine k_iconst C (v := (-1)) d_M_action_14 (by decide) ?_
    exact k_iret X d_M_action_15 (k_pr ((if_pos c11).trans (rfl)))

set_option maxHeartbeats 4000000 in
set_option maxRecDepth 100000 in
theorem c_M_makes (l : Launch) (b : Nat → Nat → Nat) (dA : Nat → ClassId) (D : va_G) (g : kG) (n f : Int32) (hI : mI g) : kMd (sysM b dA D) l y_M_makes b_M_makes 3 (some .boolean) 1 21 [.inr (.inr (0, 0)), .inl n, .inl f] g (some (.inl (mMakes g n f).1)) (mMakes g n f).2 := by
  refine k_enter (by decide) [some (.inr (.inr (0, 0))), some (.inl n), some (.inl f)] rfl rfl (Nat.le_of_ble_eq_true rfl) (fun x X => ?_)
  have C := X.1
  have O := X.2.1
  refine k_aload_n C d_M_makes_0 rfl rfl ?_
  refine k_iconst C (v := 0) d_M_makes_1 (by decide) ?_
  refine k_putI C O d_M_makes_2 fp_M_94 mr_0 rfl rfl rfl ?_
  refine k_aload_n C d_M_makes_5 rfl rfl ?_
  refine k_iload_n C d_M_makes_6 rfl rfl ?_
  refine k_cvI X d_M_makes_7 (c_M_isAction l b dA D _ n) cv_M_107 mr_0 rfl rfl ⟨by decide, by decide⟩ rfl rfl (Nat.le_of_ble_eq_true rfl) ?_
  refine k_if_eq C (tgt := 41) d_M_makes_10 (by decide) (fun c10 => ?_) (fun c10 => ?_)
  · refine k_iconst C (v := 0) d_M_makes_41 (by decide) ?_
    exact k_zret X d_M_makes_42 (Or.inl rfl) (k_pr ((if_pos c10).trans (rfl)))
  · refine k_aload_n C d_M_makes_13 rfl rfl ?_
    refine k_iload_n C d_M_makes_14 rfl rfl ?_
    refine k_cvI X d_M_makes_15 (c_M_isFile l b dA D _ f) cv_M_103 mr_0 rfl rfl ⟨by decide, by decide⟩ rfl rfl (Nat.le_of_ble_eq_true rfl) ?_
    refine k_if_eq C (tgt := 41) d_M_makes_18 (by decide) (fun c18 => ?_) (fun c18 => ?_)
    · refine k_iconst C (v := 0) d_M_makes_41 (by decide) ?_
      exact k_zret X d_M_makes_42 (Or.inl rfl) (k_pr ((if_neg c10).trans ((if_pos c18).trans (rfl))))
    · refine k_aload_n C d_M_makes_21 rfl rfl ?_
      refine k_getR C O (r := (9, _)) d_M_makes_22 fl_M_24 mr_0 rfl rfl rfl rfl ?_
      refine k_iload_n C d_M_makes_25 rfl rfl ?_
      refine k_iald2 C O d_M_makes_26 mr_9 rfl 0 rfl (in_x (n := 12) hI.2.1 (by decide) c10) rfl ?_
      refine k_iconst C (v := (-1)) d_M_makes_27 (by decide) ?_
      refine k_icmp_ne C (tgt := 41) d_M_makes_28 (by decide) (fun c28 => ?_) (fun c28 => ?_)
      · refine k_iconst C (v := 0) d_M_makes_41 (by decide) ?_
        exact k_zret X d_M_makes_42 (Or.inl rfl) (k_pr ((if_neg c10).trans ((if_neg c18).trans ((if_neg c28).trans (rfl)))))
      · refine k_aload_n C d_M_makes_31 rfl rfl ?_
        refine k_getR C O (r := (7, _)) d_M_makes_32 fl_M_17 mr_0 rfl rfl rfl rfl ?_
        refine k_iload_n C d_M_makes_35 rfl rfl ?_
        refine k_iald2 C O d_M_makes_36 mr_7 rfl 0 rfl (in_x (n := 24) hI.1 (by decide) c18) rfl ?_
        refine k_iconst C (v := (-1)) d_M_makes_37 (by decide) ?_
        refine k_icmp_eq C (tgt := 43) d_M_makes_38 (by decide) (fun c38 => ?_) (fun c38 => ?_)
        · refine k_aload_n C d_M_makes_43 rfl rfl ?_
          refine k_getR C O (r := (9, _)) d_M_makes_44 fl_M_24 mr_0 rfl rfl rfl rfl ?_
          refine k_iload_n C d_M_makes_47 rfl rfl ?_
          refine k_iload_n C d_M_makes_48 rfl rfl ?_
          refine k_iast2 C O d_M_makes_49 mr_9 rfl 0 rfl (in_x (n := 12) hI.2.1 (by decide) c10) rfl ?_
          refine k_aload_n C d_M_makes_50 rfl rfl ?_
          refine k_getR C O (r := (7, _)) d_M_makes_51 fl_M_17 mr_0 rfl rfl rfl rfl ?_
          refine k_iload_n C d_M_makes_54 rfl rfl ?_
          refine k_iload_n C d_M_makes_55 rfl rfl ?_
          refine k_iast2 C O d_M_makes_56 mr_7 rfl 0 rfl (in_x (n := 24) hI.1 (by decide) c18) rfl ?_
          refine k_aload_n C d_M_makes_57 rfl rfl ?_
          refine k_getR C O (r := (5, _)) d_M_makes_58 fl_M_7 mr_0 rfl rfl rfl rfl ?_
          refine k_iload_n C d_M_makes_61 rfl rfl ?_
          refine k_iconst C (v := 0) d_M_makes_62 (by decide) ?_
          refine k_zast2 C O d_M_makes_63 (Or.inl rfl) mr_5 rfl 1 rfl (in_x (n := 24) hI.1 (by decide) c18) rfl ?_
          refine k_aload_n C d_M_makes_64 rfl rfl ?_
          refine k_getR C O (r := (6, _)) d_M_makes_65 fl_M_13 mr_0 rfl rfl rfl rfl ?_
          refine k_iload_n C d_M_makes_68 rfl rfl ?_
          refine k_lconst C (v := 0) d_M_makes_69 (by decide) ?_
          refine k_last2 C O d_M_makes_70 mr_6 rfl 2 rfl (in_x (n := 24) hI.1 (by decide) c18) rfl ?_
          refine k_aload_n C d_M_makes_71 rfl rfl ?_
          refine k_iload_n C d_M_makes_72 rfl rfl ?_
          refine k_cvV X d_M_makes_73 (c_M_forget l b dA D _ n (in_x (n := 12) hI.2.1 (by decide) c10)) cv_M_110 mr_0 rfl rfl ⟨by decide, by decide⟩ rfl rfl (Nat.le_of_ble_eq_true rfl) ?_
          refine k_iconst C (v := 1) d_M_makes_76 (by decide) ?_
          exact k_zret X d_M_makes_77 (Or.inr rfl) (k_pr ((if_neg c10).trans ((if_neg c18).trans ((if_pos c28).trans ((if_pos c38).trans (rfl))))))
        · refine k_iconst C (v := 0) d_M_makes_41 (by decide) ?_
          exact k_zret X d_M_makes_42 (Or.inl rfl) (k_pr ((if_neg c10).trans ((if_neg c18).trans ((if_pos c28).trans ((if_neg c38).trans (rfl))))))

set_option maxHeartbeats 4000000 in
set_option maxRecDepth 100000 in
theorem c_M_ring (l : Launch) (b : Nat → Nat → Nat) (dA : Nat → ClassId) (D : va_G) (g : kG) (i : Int32) (hI : mI g) : kMd (sysM b dA D) l y_M_ring b_M_ring 2 (some .int) 0 0 [.inr (.inr (0, 0)), .inl i] g (some (.inl (mRing g i))) (m0 g) := by
  refine k_enter (by decide) [some (.inr (.inr (0, 0))), some (.inl i)] rfl rfl (Nat.le_of_ble_eq_true rfl) (fun x X => ?_)
  have C := X.1
  have O := X.2.1
  refine k_aload_n C d_M_ring_0 rfl rfl ?_
  refine k_iconst C (v := 0) d_M_ring_1 (by decide) ?_
  refine k_putI C O d_M_ring_2 fp_M_94 mr_0 rfl rfl rfl ?_
  refine k_iload_n C d_M_ring_5 rfl rfl ?_
  refine k_if_lt C (tgt := 17) d_M_ring_6 (by decide) (fun c6 => ?_) (fun c6 => ?_)
  · refine k_iconst C (v := (-1)) d_M_ring_17 (by decide) ?_
    refine k_goto C (tgt := 27) d_M_ring_18 (by decide) ?_
    exact k_iret X d_M_ring_27 (k_pi ((if_pos c6).trans (rfl)))
  · refine k_iload_n C d_M_ring_9 rfl rfl ?_
    refine k_aload_n C d_M_ring_10 rfl rfl ?_
    refine k_getI C O d_M_ring_11 fl_M_151 mr_0 rfl rfl rfl ?_
    refine k_icmp_lt C (tgt := 21) d_M_ring_14 (by decide) (fun c14 => ?_) (fun c14 => ?_)
    · refine k_aload_n C d_M_ring_21 rfl rfl ?_
      refine k_getR C O (r := (24, _)) d_M_ring_22 fl_M_69 mr_0 rfl rfl rfl rfl ?_
      refine k_iload_n C d_M_ring_25 rfl rfl ?_
      refine k_iald2 C O d_M_ring_26 mr_24 rfl 0 rfl (in_v (n := 12) hI.2.2.2.2.2.2 (by decide) c6 (fun q3 => absurd c14 (Int32.not_lt.mpr q3))) rfl ?_
      exact k_iret X d_M_ring_27 (k_pi ((if_neg c6).trans ((if_pos c14).trans (rfl))))
    · refine k_iconst C (v := (-1)) d_M_ring_17 (by decide) ?_
      refine k_goto C (tgt := 27) d_M_ring_18 (by decide) ?_
      exact k_iret X d_M_ring_27 (k_pi ((if_neg c6).trans ((if_neg c14).trans (rfl))))

set_option maxHeartbeats 4000000 in
set_option maxRecDepth 100000 in
theorem c_M_waits (l : Launch) (b : Nat → Nat → Nat) (dA : Nat → ClassId) (D : va_G) (g : kG) (n : Int32) (hI : mI g) : kMd (sysM b dA D) l y_M_waits b_M_waits 2 (some .int) 1 21 [.inr (.inr (0, 0)), .inl n] g (some (.inl (mWaits g n))) (m0 g) := by
  refine k_enter (by decide) [some (.inr (.inr (0, 0))), some (.inl n)] rfl rfl (Nat.le_of_ble_eq_true rfl) (fun x X => ?_)
  have C := X.1
  have O := X.2.1
  refine k_aload_n C d_M_waits_0 rfl rfl ?_
  refine k_iconst C (v := 0) d_M_waits_1 (by decide) ?_
  refine k_putI C O d_M_waits_2 fp_M_94 mr_0 rfl rfl rfl ?_
  refine k_aload_n C d_M_waits_5 rfl rfl ?_
  refine k_iload_n C d_M_waits_6 rfl rfl ?_
  refine k_cvI X d_M_waits_7 (c_M_isAction l b dA D _ n) cv_M_107 mr_0 rfl rfl ⟨by decide, by decide⟩ rfl rfl (Nat.le_of_ble_eq_true rfl) ?_
  refine k_if_eq C (tgt := 22) d_M_waits_10 (by decide) (fun c10 => ?_) (fun c10 => ?_)
  · refine k_iconst C (v := (-1)) d_M_waits_22 (by decide) ?_
    exact k_iret X d_M_waits_23 (k_pi ((if_pos c10).trans (rfl)))
  · refine k_aload_n C d_M_waits_13 rfl rfl ?_
    refine k_getR C O (r := (19, _)) d_M_waits_14 fl_M_54 mr_0 rfl rfl rfl rfl ?_
    refine k_iload_n C d_M_waits_17 rfl rfl ?_
    refine k_iald2 C O d_M_waits_18 mr_19 rfl 0 rfl (in_x (n := 12) hI.2.1 (by decide) c10) rfl ?_
    refine k_goto C (tgt := 23) d_M_waits_19 (by decide) ?_
    exact k_iret X d_M_waits_23 (k_pi ((if_neg c10).trans (rfl)))

set_option maxHeartbeats 4000000 in
set_option maxRecDepth 100000 in
theorem c_M_digest (l : Launch) (b : Nat → Nat → Nat) (dA : Nat → ClassId) (D : va_G) (g : kG) (n : Int32) (hI : mI g) : kMd (sysM b dA D) l y_M_digest b_M_digest 2 (some .long) 1 21 [.inr (.inr (0, 0)), .inl n] g (some (.inr (.inl (mDigest g n)))) (m0 g) := by
  refine k_enter (by decide) [some (.inr (.inr (0, 0))), some (.inl n)] rfl rfl (Nat.le_of_ble_eq_true rfl) (fun x X => ?_)
  have C := X.1
  have O := X.2.1
  refine k_aload_n C d_M_digest_0 rfl rfl ?_
  refine k_iconst C (v := 0) d_M_digest_1 (by decide) ?_
  refine k_putI C O d_M_digest_2 fp_M_94 mr_0 rfl rfl rfl ?_
  refine k_aload_n C d_M_digest_5 rfl rfl ?_
  refine k_iload_n C d_M_digest_6 rfl rfl ?_
  refine k_cvI X d_M_digest_7 (c_M_isFile l b dA D _ n) cv_M_103 mr_0 rfl rfl ⟨by decide, by decide⟩ rfl rfl (Nat.le_of_ble_eq_true rfl) ?_
  refine k_if_eq C (tgt := 31) d_M_digest_10 (by decide) (fun c10 => ?_) (fun c10 => ?_)
  · refine k_lconst C (v := 0) d_M_digest_31 (by decide) ?_
    exact k_lret X d_M_digest_32 (k_pl ((if_pos c10).trans (rfl)))
  · refine k_aload_n C d_M_digest_13 rfl rfl ?_
    refine k_getR C O (r := (5, _)) d_M_digest_14 fl_M_7 mr_0 rfl rfl rfl rfl ?_
    refine k_iload_n C d_M_digest_17 rfl rfl ?_
    refine k_zald2 C O d_M_digest_18 mr_5 rfl 1 rfl (in_x (n := 24) hI.1 (by decide) c10) rfl ?_
    refine k_if_eq C (tgt := 31) d_M_digest_19 (by decide) (fun c19 => ?_) (fun c19 => ?_)
    · refine k_lconst C (v := 0) d_M_digest_31 (by decide) ?_
      exact k_lret X d_M_digest_32 (k_pl ((if_neg c10).trans ((if_pos c19).trans (rfl))))
    · refine k_aload_n C d_M_digest_22 rfl rfl ?_
      refine k_getR C O (r := (6, _)) d_M_digest_23 fl_M_13 mr_0 rfl rfl rfl rfl ?_
      refine k_iload_n C d_M_digest_26 rfl rfl ?_
      refine k_lald2 C O d_M_digest_27 mr_6 rfl 2 rfl (in_x (n := 24) hI.1 (by decide) c10) rfl ?_
      refine k_goto C (tgt := 32) d_M_digest_28 (by decide) ?_
      exact k_lret X d_M_digest_32 (k_pl ((if_neg c10).trans ((if_neg c19).trans (rfl))))

set_option maxHeartbeats 4000000 in
set_option maxRecDepth 100000 in
theorem c_M_counted (l : Launch) (b : Nat → Nat → Nat) (dA : Nat → ClassId) (D : va_G) (g : kG) (n w : Int32) (hI : mI g) : kMd (sysM b dA D) l y_M_counted b_M_counted 3 (some .int) 1 21 [.inr (.inr (0, 0)), .inl n, .inl w] g (some (.inl (mCounted g n w))) (m0 g) := by
  refine k_enter (by decide) [some (.inr (.inr (0, 0))), some (.inl n), some (.inl w)] rfl rfl (Nat.le_of_ble_eq_true rfl) (fun x X => ?_)
  have C := X.1
  have O := X.2.1
  refine k_aload_n C d_M_counted_0 rfl rfl ?_
  refine k_iconst C (v := 0) d_M_counted_1 (by decide) ?_
  refine k_putI C O d_M_counted_2 fp_M_94 mr_0 rfl rfl rfl ?_
  refine k_aload_n C d_M_counted_5 rfl rfl ?_
  refine k_iload_n C d_M_counted_6 rfl rfl ?_
  refine k_cvI X d_M_counted_7 (c_M_isAction l b dA D _ n) cv_M_107 mr_0 rfl rfl ⟨by decide, by decide⟩ rfl rfl (Nat.le_of_ble_eq_true rfl) ?_
  refine k_if_ne C (tgt := 15) d_M_counted_10 (by decide) (fun c10 => ?_) (fun c10 => ?_)
  · refine k_iload_n C d_M_counted_15 rfl rfl ?_
    refine k_if_ne C (tgt := 28) d_M_counted_16 (by decide) (fun c16 => ?_) (fun c16 => ?_)
    · refine k_iload_n C d_M_counted_28 rfl rfl ?_
      refine k_iconst C (v := 1) d_M_counted_29 (by decide) ?_
      refine k_icmp_ne C (tgt := 42) d_M_counted_30 (by decide) (fun c30 => ?_) (fun c30 => ?_)
      · refine k_iload_n C d_M_counted_42 rfl rfl ?_
        refine k_iconst C (v := 2) d_M_counted_43 (by decide) ?_
        refine k_icmp_ne C (tgt := 56) d_M_counted_44 (by decide) (fun c44 => ?_) (fun c44 => ?_)
        · refine k_iconst C (v := (-1)) d_M_counted_56 (by decide) ?_
          exact k_iret X d_M_counted_57 (k_pi ((if_neg c10).trans ((if_neg c16).trans ((if_neg c30).trans ((if_neg c44).trans (rfl))))))
        · refine k_aload_n C d_M_counted_47 rfl rfl ?_
          refine k_getR C O (r := (18, _)) d_M_counted_48 fl_M_51 mr_0 rfl rfl rfl rfl ?_
          refine k_iload_n C d_M_counted_51 rfl rfl ?_
          refine k_iald2 C O d_M_counted_52 mr_18 rfl 0 rfl (in_x (n := 12) hI.2.1 (by decide) c10) rfl ?_
          refine k_goto C (tgt := 57) d_M_counted_53 (by decide) ?_
          exact k_iret X d_M_counted_57 (k_pi ((if_neg c10).trans ((if_neg c16).trans ((if_neg c30).trans ((if_pos c44).trans (rfl))))))
      · refine k_aload_n C d_M_counted_33 rfl rfl ?_
        refine k_getR C O (r := (17, _)) d_M_counted_34 fl_M_48 mr_0 rfl rfl rfl rfl ?_
        refine k_iload_n C d_M_counted_37 rfl rfl ?_
        refine k_iald2 C O d_M_counted_38 mr_17 rfl 0 rfl (in_x (n := 12) hI.2.1 (by decide) c10) rfl ?_
        refine k_goto C (tgt := 57) d_M_counted_39 (by decide) ?_
        exact k_iret X d_M_counted_57 (k_pi ((if_neg c10).trans ((if_neg c16).trans ((if_pos c30).trans (rfl)))))
    · refine k_aload_n C d_M_counted_19 rfl rfl ?_
      refine k_getR C O (r := (16, _)) d_M_counted_20 fl_M_45 mr_0 rfl rfl rfl rfl ?_
      refine k_iload_n C d_M_counted_23 rfl rfl ?_
      refine k_iald2 C O d_M_counted_24 mr_16 rfl 0 rfl (in_x (n := 12) hI.2.1 (by decide) c10) rfl ?_
      refine k_goto C (tgt := 57) d_M_counted_25 (by decide) ?_
      exact k_iret X d_M_counted_57 (k_pi ((if_neg c10).trans ((if_pos c16).trans (rfl))))
  · refine k_iconst C (v := (-1)) d_M_counted_13 (by decide) ?_
    exact k_iret X d_M_counted_14 (k_pi ((if_pos c10).trans (rfl)))

set_option maxHeartbeats 4000000 in
set_option maxRecDepth 100000 in
theorem c_M_membersOf (l : Launch) (b : Nat → Nat → Nat) (dA : Nat → ClassId) (D : va_G) (g : kG) (n : Int32) (hn : vp_in n 24) : kMd (sysM b dA D) l y_M_membersOf b_M_membersOf 3 (some .int) 0 0 [.inr (.inr (0, 0)), .inl n] g (some (.inl (mMof g (tn n)))) g := by
  refine k_enter (by decide) [some (.inr (.inr (0, 0))), some (.inl n), none] rfl rfl (Nat.le_of_ble_eq_true rfl) (fun x X => ?_)
  have C := X.1
  have O := X.2.1
  refine k_aload_n C d_M_membersOf_0 rfl rfl ?_
  refine k_getR C O (r := (7, _)) d_M_membersOf_1 fl_M_17 mr_0 rfl rfl rfl rfl ?_
  refine k_iload_n C d_M_membersOf_4 rfl rfl ?_
  refine k_iald2 C O d_M_membersOf_5 mr_7 rfl 0 rfl hn rfl ?_
  refine k_iconst C (v := (-1)) d_M_membersOf_6 (by decide) ?_
  refine k_icmp_eq C (tgt := 19) d_M_membersOf_7 (by decide) (fun c7 => ?_) (fun c7 => ?_)
  · refine k_iconst C (v := 0) d_M_membersOf_19 (by decide) ?_
    exact k_iret X d_M_membersOf_20 (k_pi ((if_pos c7).trans (rfl)))
  · refine k_aload_n C d_M_membersOf_10 rfl rfl ?_
    refine k_getR C O (r := (5, _)) d_M_membersOf_11 fl_M_7 mr_0 rfl rfl rfl rfl ?_
    refine k_iload_n C d_M_membersOf_14 rfl rfl ?_
    refine k_zald2 C O d_M_membersOf_15 mr_5 rfl 1 rfl hn rfl ?_
    refine k_if_ne C (tgt := 21) d_M_membersOf_16 (by decide) (fun c16 => ?_) (fun c16 => ?_)
    · refine k_aload_n C d_M_membersOf_21 rfl rfl ?_
      refine k_getR C O (r := (6, _)) d_M_membersOf_22 fl_M_13 mr_0 rfl rfl rfl rfl ?_
      refine k_iload_n C d_M_membersOf_25 rfl rfl ?_
      refine k_lald2 C O d_M_membersOf_26 mr_6 rfl 2 rfl hn rfl ?_
      refine k_ldc2 C (v := 5) d_M_membersOf_27 (by decide +kernel) ?_
      refine k_lrem C d_M_membersOf_30 (by decide) ?_
      refine k_l2i C d_M_membersOf_31 ?_
      refine k_istore_n C d_M_membersOf_32 rfl (Nat.le_of_ble_eq_true rfl) rfl ?_
      refine k_iload_n C d_M_membersOf_33 rfl rfl ?_
      refine k_if_ge C (tgt := 43) d_M_membersOf_34 (by decide) (fun c34 => ?_) (fun c34 => ?_)
      · refine k_iload_n C d_M_membersOf_43 rfl rfl ?_
        exact k_iret X d_M_membersOf_44 (k_pi ((if_neg c7).trans ((if_neg c16).trans ((if_pos c34).trans (rfl)))))
      · refine k_iload_n C d_M_membersOf_37 rfl rfl ?_
        refine k_iconst C (v := 5) d_M_membersOf_38 (by decide) ?_
        refine k_iadd C d_M_membersOf_39 ?_
        refine k_goto C (tgt := 44) d_M_membersOf_40 (by decide) ?_
        exact k_iret X d_M_membersOf_44 (k_pi ((if_neg c7).trans ((if_neg c16).trans ((if_neg c34).trans (rfl)))))
    · refine k_iconst C (v := 0) d_M_membersOf_19 (by decide) ?_
      exact k_iret X d_M_membersOf_20 (k_pi ((if_neg c7).trans ((if_pos c16).trans (rfl))))

set_option maxHeartbeats 4000000 in
set_option maxRecDepth 100000 in
theorem c_M_members (l : Launch) (b : Nat → Nat → Nat) (dA : Nat → ClassId) (D : va_G) (g : kG) (n : Int32) (hI : mI g) : kMd (sysM b dA D) l y_M_members b_M_members 2 (some .int) 1 22 [.inr (.inr (0, 0)), .inl n] g (some (.inl (mMembers g n))) (m0 g) := by
  refine k_enter (by decide) [some (.inr (.inr (0, 0))), some (.inl n)] rfl rfl (Nat.le_of_ble_eq_true rfl) (fun x X => ?_)
  have C := X.1
  have O := X.2.1
  refine k_aload_n C d_M_members_0 rfl rfl ?_
  refine k_iconst C (v := 0) d_M_members_1 (by decide) ?_
  refine k_putI C O d_M_members_2 fp_M_94 mr_0 rfl rfl rfl ?_
  refine k_aload_n C d_M_members_5 rfl rfl ?_
  refine k_iload_n C d_M_members_6 rfl rfl ?_
  refine k_cvI X d_M_members_7 (c_M_isFile l b dA D _ n) cv_M_103 mr_0 rfl rfl ⟨by decide, by decide⟩ rfl rfl (Nat.le_of_ble_eq_true rfl) ?_
  refine k_if_eq C (tgt := 21) d_M_members_10 (by decide) (fun c10 => ?_) (fun c10 => ?_)
  · refine k_iconst C (v := 0) d_M_members_21 (by decide) ?_
    exact k_iret X d_M_members_22 (k_pi ((if_pos c10).trans (rfl)))
  · refine k_aload_n C d_M_members_13 rfl rfl ?_
    refine k_iload_n C d_M_members_14 rfl rfl ?_
    refine k_cvI X d_M_members_15 (c_M_membersOf l b dA D _ n (in_x (n := 24) hI.1 (by decide) c10)) cv_M_160 mr_0 rfl rfl ⟨by decide, by decide⟩ rfl rfl (Nat.le_of_ble_eq_true rfl) ?_
    refine k_goto C (tgt := 22) d_M_members_18 (by decide) ?_
    exact k_iret X d_M_members_22 (k_pi ((if_neg c10).trans (rfl)))

set_option maxHeartbeats 4000000 in
set_option maxRecDepth 100000 in
theorem c_M_mapping (l : Launch) (b : Nat → Nat → Nat) (dA : Nat → ClassId) (D : va_G) (g : kG) (n : Int32) (s : Int64) (hI : mI g) : kMd (sysM b dA D) l y_M_mapping b_M_mapping 4 (some .int) 1 21 [.inr (.inr (0, 0)), .inl n, .inr (.inl s)] g (some (.inl (mMapping g n s).1)) (mMapping g n s).2 := by
  refine k_enter (by decide) [some (.inr (.inr (0, 0))), some (.inl n), some (.inr (.inl s)), none] rfl rfl (Nat.le_of_ble_eq_true rfl) (fun x X => ?_)
  have C := X.1
  have O := X.2.1
  refine k_aload_n C d_M_mapping_0 rfl rfl ?_
  refine k_iconst C (v := 0) d_M_mapping_1 (by decide) ?_
  refine k_putI C O d_M_mapping_2 fp_M_94 mr_0 rfl rfl rfl ?_
  refine k_aload_n C d_M_mapping_5 rfl rfl ?_
  refine k_iload_n C d_M_mapping_6 rfl rfl ?_
  refine k_cvI X d_M_mapping_7 (c_M_isFile l b dA D _ n) cv_M_103 mr_0 rfl rfl ⟨by decide, by decide⟩ rfl rfl (Nat.le_of_ble_eq_true rfl) ?_
  refine k_if_eq C (tgt := 22) d_M_mapping_10 (by decide) (fun c10 => ?_) (fun c10 => ?_)
  · refine k_iconst C (v := (-1)) d_M_mapping_22 (by decide) ?_
    exact k_iret X d_M_mapping_23 (k_pr ((if_pos c10).trans (rfl)))
  · refine k_aload_n C d_M_mapping_13 rfl rfl ?_
    refine k_getI C O d_M_mapping_14 fl_M_163 mr_0 rfl rfl rfl ?_
    refine k_bipush C (v := 6) d_M_mapping_17 (by decide) ?_
    refine k_icmp_ne C (tgt := 24) d_M_mapping_19 (by decide) (fun c19 => ?_) (fun c19 => ?_)
    · refine k_aload_n C d_M_mapping_24 rfl rfl ?_
      refine k_getR C O (r := (27, _)) d_M_mapping_25 fl_M_75 mr_0 rfl rfl rfl rfl ?_
      refine k_aload_n C d_M_mapping_28 rfl rfl ?_
      refine k_getI C O d_M_mapping_29 fl_M_163 mr_0 rfl rfl rfl ?_
      refine k_iload_n C d_M_mapping_32 rfl rfl ?_
      refine k_iast2 C O d_M_mapping_33 mr_27 rfl 0 rfl (in_ne (n := 6) hI.2.2.1 rfl (by decide) c19) rfl ?_
      refine k_aload_n C d_M_mapping_34 rfl rfl ?_
      refine k_getR C O (r := (29, _)) d_M_mapping_35 fl_M_81 mr_0 rfl rfl rfl rfl ?_
      refine k_aload_n C d_M_mapping_38 rfl rfl ?_
      refine k_getI C O d_M_mapping_39 fl_M_163 mr_0 rfl rfl rfl ?_
      refine k_lload_n C d_M_mapping_42 rfl rfl ?_
      refine k_last2 C O d_M_mapping_43 mr_29 rfl 2 rfl (in_ne (n := 6) hI.2.2.1 rfl (by decide) c19) rfl ?_
      refine k_aload_n C d_M_mapping_44 rfl rfl ?_
      refine k_dup C d_M_mapping_45 rfl ?_
      refine k_getI C O d_M_mapping_46 fl_M_163 mr_0 rfl rfl rfl ?_
      refine k_iconst C (v := 1) d_M_mapping_49 (by decide) ?_
      refine k_iadd C d_M_mapping_50 ?_
      refine k_putI C O d_M_mapping_51 fp_M_163 mr_0 rfl rfl rfl ?_
      refine k_aload_n C d_M_mapping_54 rfl rfl ?_
      refine k_getI C O d_M_mapping_55 fl_M_163 mr_0 rfl rfl rfl ?_
      refine k_iconst C (v := 1) d_M_mapping_58 (by decide) ?_
      refine k_isub C d_M_mapping_59 ?_
      exact k_iret X d_M_mapping_60 (k_pr ((if_neg c10).trans ((if_neg c19).trans (rfl))))
    · refine k_iconst C (v := (-1)) d_M_mapping_22 (by decide) ?_
      exact k_iret X d_M_mapping_23 (k_pr ((if_neg c10).trans ((if_pos c19).trans (rfl))))

set_option maxHeartbeats 4000000 in
set_option maxRecDepth 100000 in
theorem c_M_kept (l : Launch) (b : Nat → Nat → Nat) (dA : Nat → ClassId) (D : va_G) (g : kG) (n i w : Int32) (hI : mI g) : kMd (sysM b dA D) l y_M_kept b_M_kept 5 (some .int) 1 21 [.inr (.inr (0, 0)), .inl n, .inl i, .inl w] g (some (.inl (mKept g n i w))) (m0 g) := by
  refine k_enter (by decide) [some (.inr (.inr (0, 0))), some (.inl n), some (.inl i), some (.inl w), none] rfl rfl (Nat.le_of_ble_eq_true rfl) (fun x X => ?_)
  have C := X.1
  have O := X.2.1
  refine k_aload_n C d_M_kept_0 rfl rfl ?_
  refine k_iconst C (v := 0) d_M_kept_1 (by decide) ?_
  refine k_putI C O d_M_kept_2 fp_M_94 mr_0 rfl rfl rfl ?_
  refine k_aload_n C d_M_kept_5 rfl rfl ?_
  refine k_iload_n C d_M_kept_6 rfl rfl ?_
  refine k_cvI X d_M_kept_7 (c_M_isAction l b dA D _ n) cv_M_107 mr_0 rfl rfl ⟨by decide, by decide⟩ rfl rfl (Nat.le_of_ble_eq_true rfl) ?_
  refine k_if_eq C (tgt := 37) d_M_kept_10 (by decide) (fun c10 => ?_) (fun c10 => ?_)
  · refine k_iconst C (v := (-1)) d_M_kept_37 (by decide) ?_
    exact k_iret X d_M_kept_38 (k_pi ((if_pos c10).trans (rfl)))
  · refine k_aload_n C d_M_kept_13 rfl rfl ?_
    refine k_getR C O (r := (13, _)) d_M_kept_14 fl_M_36 mr_0 rfl rfl rfl rfl ?_
    refine k_iload_n C d_M_kept_17 rfl rfl ?_
    refine k_iald2 C O d_M_kept_18 mr_13 rfl 0 rfl (in_x (n := 12) hI.2.1 (by decide) c10) rfl ?_
    refine k_iconst C (v := 2) d_M_kept_19 (by decide) ?_
    refine k_icmp_eq C (tgt := 37) d_M_kept_20 (by decide) (fun c20 => ?_) (fun c20 => ?_)
    · refine k_iconst C (v := (-1)) d_M_kept_37 (by decide) ?_
      exact k_iret X d_M_kept_38 (k_pi ((if_neg c10).trans ((if_pos c20).trans (rfl))))
    · refine k_iload_n C d_M_kept_23 rfl rfl ?_
      refine k_if_lt C (tgt := 37) d_M_kept_24 (by decide) (fun c24 => ?_) (fun c24 => ?_)
      · refine k_iconst C (v := (-1)) d_M_kept_37 (by decide) ?_
        exact k_iret X d_M_kept_38 (k_pi ((if_neg c10).trans ((if_neg c20).trans ((if_pos c24).trans (rfl)))))
      · refine k_iload_n C d_M_kept_27 rfl rfl ?_
        refine k_aload_n C d_M_kept_28 rfl rfl ?_
        refine k_getR C O (r := (14, _)) d_M_kept_29 fl_M_39 mr_0 rfl rfl rfl rfl ?_
        refine k_iload_n C d_M_kept_32 rfl rfl ?_
        refine k_iald2 C O d_M_kept_33 mr_14 rfl 0 rfl (in_x (n := 12) hI.2.1 (by decide) c10) rfl ?_
        refine k_icmp_lt C (tgt := 39) d_M_kept_34 (by decide) (fun c34 => ?_) (fun c34 => ?_)
        · refine k_bipush C (v := 24) d_M_kept_39 (by decide) ?_
          refine k_iload_n C d_M_kept_41 rfl rfl ?_
          refine k_imul C d_M_kept_42 ?_
          refine k_iload_n C d_M_kept_43 rfl rfl ?_
          refine k_iadd C d_M_kept_44 ?_
          refine k_istore C d_M_kept_45 (Nat.le_of_ble_eq_true rfl) rfl ?_
          refine k_iload_n C d_M_kept_47 rfl rfl ?_
          refine k_if_ne C (tgt := 61) d_M_kept_48 (by decide) (fun c48 => ?_) (fun c48 => ?_)
          · refine k_iload_n C d_M_kept_61 rfl rfl ?_
            refine k_iconst C (v := 1) d_M_kept_62 (by decide) ?_
            refine k_icmp_ne C (tgt := 84) d_M_kept_63 (by decide) (fun c63 => ?_) (fun c63 => ?_)
            · refine k_iload_n C d_M_kept_84 rfl rfl ?_
              refine k_iconst C (v := 2) d_M_kept_85 (by decide) ?_
              refine k_icmp_ne C (tgt := 107) d_M_kept_86 (by decide) (fun c86 => ?_) (fun c86 => ?_)
              · refine k_iconst C (v := (-1)) d_M_kept_107 (by decide) ?_
                exact k_iret X d_M_kept_108 (k_pi ((if_neg c10).trans ((if_neg c20).trans ((if_neg c24).trans ((if_pos c34).trans ((if_neg c48).trans ((if_neg c63).trans ((if_neg c86).trans (rfl)))))))))
              · refine k_aload_n C d_M_kept_89 rfl rfl ?_
                refine k_getR C O (r := (21, _)) d_M_kept_90 fl_M_60 mr_0 rfl rfl rfl rfl ?_
                refine k_iload C d_M_kept_93 rfl ?_
                refine k_zald2 C O (q := (24 * tn n + tn i)) d_M_kept_95 mr_21 rfl 1 rfl (ix_in (L := 288) (c := 24) (N := 12) rfl (in_x (n := 12) hI.2.1 (by decide) c10) (by decide) (vi_nI (in_v (n := 12) (hI.2.2.2.2.1 _ (vi_lt (in_x (n := 12) hI.2.1 (by decide) c10))).2 (by decide) c24 (fun q3 => absurd c34 (Int32.not_lt.mpr q3))) (by decide)) (by decide) (by have := vt_lt (in_v (n := 12) (hI.2.2.2.2.1 _ (vi_lt (in_x (n := 12) hI.2.1 (by decide) c10))).2 (by decide) c24 (fun q3 => absurd c34 (Int32.not_lt.mpr q3))); omega)) (ix_q (c := 24) (N := 12) rfl (in_x (n := 12) hI.2.1 (by decide) c10) (by decide) (vi_nI (in_v (n := 12) (hI.2.2.2.2.1 _ (vi_lt (in_x (n := 12) hI.2.1 (by decide) c10))).2 (by decide) c24 (fun q3 => absurd c34 (Int32.not_lt.mpr q3))) (by decide)) ⟨by decide, by have := vt_lt (in_v (n := 12) (hI.2.2.2.2.1 _ (vi_lt (in_x (n := 12) hI.2.1 (by decide) c10))).2 (by decide) c24 (fun q3 => absurd c34 (Int32.not_lt.mpr q3))); omega⟩) ?_
                refine k_if_eq C (tgt := 103) d_M_kept_96 (by decide) (fun c96 => ?_) (fun c96 => ?_)
                · refine k_iconst C (v := 0) d_M_kept_103 (by decide) ?_
                  refine k_goto C (tgt := 108) d_M_kept_104 (by decide) ?_
                  exact k_iret X d_M_kept_108 (k_pi ((if_neg c10).trans ((if_neg c20).trans ((if_neg c24).trans ((if_pos c34).trans ((if_neg c48).trans ((if_neg c63).trans ((if_pos c86).trans ((if_pos c96).trans (rfl))))))))))
                · refine k_iconst C (v := 1) d_M_kept_99 (by decide) ?_
                  refine k_goto C (tgt := 108) d_M_kept_100 (by decide) ?_
                  exact k_iret X d_M_kept_108 (k_pi ((if_neg c10).trans ((if_neg c20).trans ((if_neg c24).trans ((if_pos c34).trans ((if_neg c48).trans ((if_neg c63).trans ((if_pos c86).trans ((if_neg c96).trans (rfl))))))))))
            · refine k_aload_n C d_M_kept_66 rfl rfl ?_
              refine k_getR C O (r := (20, _)) d_M_kept_67 fl_M_57 mr_0 rfl rfl rfl rfl ?_
              refine k_iload C d_M_kept_70 rfl ?_
              refine k_zald2 C O (q := (24 * tn n + tn i)) d_M_kept_72 mr_20 rfl 1 rfl (ix_in (L := 288) (c := 24) (N := 12) rfl (in_x (n := 12) hI.2.1 (by decide) c10) (by decide) (vi_nI (in_v (n := 12) (hI.2.2.2.2.1 _ (vi_lt (in_x (n := 12) hI.2.1 (by decide) c10))).2 (by decide) c24 (fun q3 => absurd c34 (Int32.not_lt.mpr q3))) (by decide)) (by decide) (by have := vt_lt (in_v (n := 12) (hI.2.2.2.2.1 _ (vi_lt (in_x (n := 12) hI.2.1 (by decide) c10))).2 (by decide) c24 (fun q3 => absurd c34 (Int32.not_lt.mpr q3))); omega)) (ix_q (c := 24) (N := 12) rfl (in_x (n := 12) hI.2.1 (by decide) c10) (by decide) (vi_nI (in_v (n := 12) (hI.2.2.2.2.1 _ (vi_lt (in_x (n := 12) hI.2.1 (by decide) c10))).2 (by decide) c24 (fun q3 => absurd c34 (Int32.not_lt.mpr q3))) (by decide)) ⟨by decide, by have := vt_lt (in_v (n := 12) (hI.2.2.2.2.1 _ (vi_lt (in_x (n := 12) hI.2.1 (by decide) c10))).2 (by decide) c24 (fun q3 => absurd c34 (Int32.not_lt.mpr q3))); omega⟩) ?_
              refine k_if_eq C (tgt := 80) d_M_kept_73 (by decide) (fun c73 => ?_) (fun c73 => ?_)
              · refine k_iconst C (v := 0) d_M_kept_80 (by decide) ?_
                refine k_goto C (tgt := 108) d_M_kept_81 (by decide) ?_
                exact k_iret X d_M_kept_108 (k_pi ((if_neg c10).trans ((if_neg c20).trans ((if_neg c24).trans ((if_pos c34).trans ((if_neg c48).trans ((if_pos c63).trans ((if_pos c73).trans (rfl)))))))))
              · refine k_iconst C (v := 1) d_M_kept_76 (by decide) ?_
                refine k_goto C (tgt := 108) d_M_kept_77 (by decide) ?_
                exact k_iret X d_M_kept_108 (k_pi ((if_neg c10).trans ((if_neg c20).trans ((if_neg c24).trans ((if_pos c34).trans ((if_neg c48).trans ((if_pos c63).trans ((if_neg c73).trans (rfl)))))))))
          · refine k_aload_n C d_M_kept_51 rfl rfl ?_
            refine k_getR C O (r := (15, _)) d_M_kept_52 fl_M_42 mr_0 rfl rfl rfl rfl ?_
            refine k_iload C d_M_kept_55 rfl ?_
            refine k_iald2 C O (q := (24 * tn n + tn i)) d_M_kept_57 mr_15 rfl 0 rfl (ix_in (L := 288) (c := 24) (N := 12) rfl (in_x (n := 12) hI.2.1 (by decide) c10) (by decide) (vi_nI (in_v (n := 12) (hI.2.2.2.2.1 _ (vi_lt (in_x (n := 12) hI.2.1 (by decide) c10))).2 (by decide) c24 (fun q3 => absurd c34 (Int32.not_lt.mpr q3))) (by decide)) (by decide) (by have := vt_lt (in_v (n := 12) (hI.2.2.2.2.1 _ (vi_lt (in_x (n := 12) hI.2.1 (by decide) c10))).2 (by decide) c24 (fun q3 => absurd c34 (Int32.not_lt.mpr q3))); omega)) (ix_q (c := 24) (N := 12) rfl (in_x (n := 12) hI.2.1 (by decide) c10) (by decide) (vi_nI (in_v (n := 12) (hI.2.2.2.2.1 _ (vi_lt (in_x (n := 12) hI.2.1 (by decide) c10))).2 (by decide) c24 (fun q3 => absurd c34 (Int32.not_lt.mpr q3))) (by decide)) ⟨by decide, by have := vt_lt (in_v (n := 12) (hI.2.2.2.2.1 _ (vi_lt (in_x (n := 12) hI.2.1 (by decide) c10))).2 (by decide) c24 (fun q3 => absurd c34 (Int32.not_lt.mpr q3))); omega⟩) ?_
            refine k_goto C (tgt := 108) d_M_kept_58 (by decide) ?_
            exact k_iret X d_M_kept_108 (k_pi ((if_neg c10).trans ((if_neg c20).trans ((if_neg c24).trans ((if_pos c34).trans ((if_pos c48).trans (rfl)))))))
        · refine k_iconst C (v := (-1)) d_M_kept_37 (by decide) ?_
          exact k_iret X d_M_kept_38 (k_pi ((if_neg c10).trans ((if_neg c20).trans ((if_neg c24).trans ((if_neg c34).trans (rfl))))))

set_option maxHeartbeats 4000000 in
set_option maxRecDepth 100000 in
theorem c_M_result (l : Launch) (b : Nat → Nat → Nat) (dA : Nat → ClassId) (D : va_G) (g : kG) (n i : Int32) (hI : mI g) : kMd (sysM b dA D) l y_M_result b_M_result 3 (some .long) 0 0 [.inr (.inr (0, 0)), .inl n, .inl i] g (some (.inr (.inl (mResult g n i)))) (m0 g) := by
  refine k_enter (by decide) [some (.inr (.inr (0, 0))), some (.inl n), some (.inl i)] rfl rfl (Nat.le_of_ble_eq_true rfl) (fun x X => ?_)
  have C := X.1
  have O := X.2.1
  refine k_aload_n C d_M_result_0 rfl rfl ?_
  refine k_iconst C (v := 0) d_M_result_1 (by decide) ?_
  refine k_putI C O d_M_result_2 fp_M_94 mr_0 rfl rfl rfl ?_
  refine k_iload_n C d_M_result_5 rfl rfl ?_
  refine k_if_lt C (tgt := 31) d_M_result_6 (by decide) (fun c6 => ?_) (fun c6 => ?_)
  · refine k_lconst C (v := 0) d_M_result_31 (by decide) ?_
    refine k_goto C (tgt := 45) d_M_result_32 (by decide) ?_
    exact k_lret X d_M_result_45 (k_pl ((if_pos c6).trans (rfl)))
  · refine k_iload_n C d_M_result_9 rfl rfl ?_
    refine k_aload_n C d_M_result_10 rfl rfl ?_
    refine k_getI C O d_M_result_11 fl_M_163 mr_0 rfl rfl rfl ?_
    refine k_icmp_ge C (tgt := 31) d_M_result_14 (by decide) (fun c14 => ?_) (fun c14 => ?_)
    · refine k_lconst C (v := 0) d_M_result_31 (by decide) ?_
      refine k_goto C (tgt := 45) d_M_result_32 (by decide) ?_
      exact k_lret X d_M_result_45 (k_pl ((if_neg c6).trans ((if_pos c14).trans (rfl))))
    · refine k_iload_n C d_M_result_17 rfl rfl ?_
      refine k_if_lt C (tgt := 31) d_M_result_18 (by decide) (fun c18 => ?_) (fun c18 => ?_)
      · refine k_lconst C (v := 0) d_M_result_31 (by decide) ?_
        refine k_goto C (tgt := 45) d_M_result_32 (by decide) ?_
        exact k_lret X d_M_result_45 (k_pl ((if_neg c6).trans ((if_neg c14).trans ((if_pos c18).trans (rfl)))))
      · refine k_iload_n C d_M_result_21 rfl rfl ?_
        refine k_aload_n C d_M_result_22 rfl rfl ?_
        refine k_getR C O (r := (28, _)) d_M_result_23 fl_M_78 mr_0 rfl rfl rfl rfl ?_
        refine k_iload_n C d_M_result_26 rfl rfl ?_
        refine k_iald2 C O d_M_result_27 mr_28 rfl 0 rfl (in_v (n := 6) hI.2.2.1 (by decide) c6 c14) rfl ?_
        refine k_icmp_lt C (tgt := 35) d_M_result_28 (by decide) (fun c28 => ?_) (fun c28 => ?_)
        · refine k_aload_n C d_M_result_35 rfl rfl ?_
          refine k_getR C O (r := (31, _)) d_M_result_36 fl_M_87 mr_0 rfl rfl rfl rfl ?_
          refine k_iconst C (v := 4) d_M_result_39 (by decide) ?_
          refine k_iload_n C d_M_result_40 rfl rfl ?_
          refine k_imul C d_M_result_41 ?_
          refine k_iload_n C d_M_result_42 rfl rfl ?_
          refine k_iadd C d_M_result_43 ?_
          refine k_lald2 C O (q := (4 * tn n + tn i)) d_M_result_44 mr_31 rfl 2 rfl (ix_in (L := 24) (c := 4) (N := 6) rfl (in_v (n := 6) hI.2.2.1 (by decide) c6 c14) (by decide) (vi_nI (in_v (n := 4) (hI.2.2.2.2.2.1 _ (vi_lt (in_v (n := 6) hI.2.2.1 (by decide) c6 c14))).1 (by decide) c18 (fun q3 => absurd c28 (Int32.not_lt.mpr q3))) (by decide)) (by decide) (by have := vt_lt (in_v (n := 4) (hI.2.2.2.2.2.1 _ (vi_lt (in_v (n := 6) hI.2.2.1 (by decide) c6 c14))).1 (by decide) c18 (fun q3 => absurd c28 (Int32.not_lt.mpr q3))); omega)) (ix_q (c := 4) (N := 6) rfl (in_v (n := 6) hI.2.2.1 (by decide) c6 c14) (by decide) (vi_nI (in_v (n := 4) (hI.2.2.2.2.2.1 _ (vi_lt (in_v (n := 6) hI.2.2.1 (by decide) c6 c14))).1 (by decide) c18 (fun q3 => absurd c28 (Int32.not_lt.mpr q3))) (by decide)) ⟨by decide, by have := vt_lt (in_v (n := 4) (hI.2.2.2.2.2.1 _ (vi_lt (in_v (n := 6) hI.2.2.1 (by decide) c6 c14))).1 (by decide) c18 (fun q3 => absurd c28 (Int32.not_lt.mpr q3))); omega⟩) ?_
          exact k_lret X d_M_result_45 (k_pl ((if_neg c6).trans ((if_neg c14).trans ((if_neg c18).trans ((if_pos c28).trans (rfl))))))
        · refine k_lconst C (v := 0) d_M_result_31 (by decide) ?_
          refine k_goto C (tgt := 45) d_M_result_32 (by decide) ?_
          exact k_lret X d_M_result_45 (k_pl ((if_neg c6).trans ((if_neg c14).trans ((if_neg c18).trans ((if_neg c28).trans (rfl))))))

set_option maxHeartbeats 4000000 in
set_option maxRecDepth 100000 in
theorem c_M_row (l : Launch) (b : Nat → Nat → Nat) (dA : Nat → ClassId) (D : va_G) (g : kG) (n k w : Int32) (hI : mI g) : kMd (sysM b dA D) l y_M_row b_M_row 5 (some .boolean) 1 21 [.inr (.inr (0, 0)), .inl n, .inl k, .inl w] g (some (.inl (mRow g n k w).1)) (mRow g n k w).2 := by
  refine k_enter (by decide) [some (.inr (.inr (0, 0))), some (.inl n), some (.inl k), some (.inl w), none] rfl rfl (Nat.le_of_ble_eq_true rfl) (fun x X => ?_)
  have C := X.1
  have O := X.2.1
  refine k_aload_n C d_M_row_0 rfl rfl ?_
  refine k_iconst C (v := 0) d_M_row_1 (by decide) ?_
  refine k_putI C O d_M_row_2 fp_M_94 mr_0 rfl rfl rfl ?_
  refine k_iload_n C d_M_row_5 rfl rfl ?_
  refine k_iconst C (v := 2) d_M_row_6 (by decide) ?_
  refine k_icmp_ne C (tgt := 29) d_M_row_7 (by decide) (fun c7 => ?_) (fun c7 => ?_)
  · refine k_iload_n C d_M_row_29 rfl rfl ?_
    refine k_if_eq C (tgt := 38) d_M_row_30 (by decide) (fun c30 => ?_) (fun c30 => ?_)
    · refine k_aload_n C d_M_row_38 rfl rfl ?_
      refine k_iload_n C d_M_row_39 rfl rfl ?_
      refine k_cvI X d_M_row_40 (c_M_isFile l b dA D _ w) cv_M_103 mr_0 rfl rfl ⟨by decide, by decide⟩ rfl rfl (Nat.le_of_ble_eq_true rfl) ?_
      refine k_if_eq C (tgt := 50) d_M_row_43 (by decide) (fun c43 => ?_) (fun c43 => ?_)
      · refine k_iconst C (v := 0) d_M_row_50 (by decide) ?_
        refine k_istore C d_M_row_51 (Nat.le_of_ble_eq_true rfl) rfl ?_
        refine k_aload_n C d_M_row_53 rfl rfl ?_
        refine k_iload_n C d_M_row_54 rfl rfl ?_
        refine k_cvI X d_M_row_55 (c_M_isAction l b dA D _ n) cv_M_107 mr_0 rfl rfl ⟨by decide, by decide⟩ rfl rfl (Nat.le_of_ble_eq_true rfl) ?_
        refine k_if_eq C (tgt := 77) d_M_row_58 (by decide) (fun c58 => ?_) (fun c58 => ?_)
        · refine k_iconst C (v := 0) d_M_row_77 (by decide) ?_
          exact k_zret X d_M_row_78 (Or.inl rfl) (k_pr ((if_neg c7).trans ((if_pos c30).trans ((if_pos c43).trans ((if_pos c58).trans (rfl))))))
        · refine k_iload C d_M_row_61 rfl ?_
          refine k_if_eq C (tgt := 77) d_M_row_63 (by decide) (fun _ => ?_) (fun q => absurd (by decide) q)
          refine k_iconst C (v := 0) d_M_row_77 (by decide) ?_
          exact k_zret X d_M_row_78 (Or.inl rfl) (k_pr ((if_neg c7).trans ((if_pos c30).trans ((if_pos c43).trans ((if_neg c58).trans (rfl))))))
      · refine k_iconst C (v := 1) d_M_row_46 (by decide) ?_
        refine k_goto C (tgt := 51) d_M_row_47 (by decide) ?_
        refine k_istore C d_M_row_51 (Nat.le_of_ble_eq_true rfl) rfl ?_
        refine k_aload_n C d_M_row_53 rfl rfl ?_
        refine k_iload_n C d_M_row_54 rfl rfl ?_
        refine k_cvI X d_M_row_55 (c_M_isAction l b dA D _ n) cv_M_107 mr_0 rfl rfl ⟨by decide, by decide⟩ rfl rfl (Nat.le_of_ble_eq_true rfl) ?_
        refine k_if_eq C (tgt := 77) d_M_row_58 (by decide) (fun c58 => ?_) (fun c58 => ?_)
        · refine k_iconst C (v := 0) d_M_row_77 (by decide) ?_
          exact k_zret X d_M_row_78 (Or.inl rfl) (k_pr ((if_neg c7).trans ((if_pos c30).trans ((if_neg c43).trans ((if_pos c58).trans (rfl))))))
        · refine k_iload C d_M_row_61 rfl ?_
          refine k_if_eq C (tgt := 77) d_M_row_63 (by decide) (fun q => absurd q (by decide)) (fun _ => ?_)
          refine k_aload_n C d_M_row_66 rfl rfl ?_
          refine k_getR C O (r := (10, _)) d_M_row_67 fl_M_27 mr_0 rfl rfl rfl rfl ?_
          refine k_iload_n C d_M_row_70 rfl rfl ?_
          refine k_iald2 C O d_M_row_71 mr_10 rfl 0 rfl (in_x (n := 12) hI.2.1 (by decide) c58) rfl ?_
          refine k_bipush C (v := 12) d_M_row_72 (by decide) ?_
          refine k_icmp_ne C (tgt := 79) d_M_row_74 (by decide) (fun c74 => ?_) (fun c74 => ?_)
          · refine k_aload_n C d_M_row_79 rfl rfl ?_
            refine k_getR C O (r := (11, _)) d_M_row_80 fl_M_30 mr_0 rfl rfl rfl rfl ?_
            refine k_bipush C (v := 12) d_M_row_83 (by decide) ?_
            refine k_iload_n C d_M_row_85 rfl rfl ?_
            refine k_imul C d_M_row_86 ?_
            refine k_aload_n C d_M_row_87 rfl rfl ?_
            refine k_getR C O (r := (10, _)) d_M_row_88 fl_M_27 mr_0 rfl rfl rfl rfl ?_
            refine k_iload_n C d_M_row_91 rfl rfl ?_
            refine k_iald2 C O d_M_row_92 mr_10 rfl 0 rfl (in_x (n := 12) hI.2.1 (by decide) c58) rfl ?_
            refine k_iadd C d_M_row_93 ?_
            refine k_iload_n C d_M_row_94 rfl rfl ?_
            refine k_iast2 C O (q := (12 * tn n + tn (g.1 10 0 (tn n)))) d_M_row_95 mr_11 rfl 0 rfl (ix_in (L := 144) (c := 12) (N := 12) (k := tn (g.1 10 0 (tn n))) rfl (in_x (n := 12) hI.2.1 (by decide) c58) (by decide) ((hI.2.2.2.2.1 _ (vi_lt (in_x (n := 12) hI.2.1 (by decide) c58))).1).1 (by decide) (by have : tn (g.1 10 0 (tn n)) < 12 := vt_lt (in_ne (n := 12) (hI.2.2.2.2.1 _ (vi_lt (in_x (n := 12) hI.2.1 (by decide) c58))).1 rfl (by decide) c74); omega)) (ix_q (c := 12) (N := 12) (k := tn (g.1 10 0 (tn n))) rfl (in_x (n := 12) hI.2.1 (by decide) c58) (by decide) ((hI.2.2.2.2.1 _ (vi_lt (in_x (n := 12) hI.2.1 (by decide) c58))).1).1 ⟨by decide, by have : tn (g.1 10 0 (tn n)) < 12 := vt_lt (in_ne (n := 12) (hI.2.2.2.2.1 _ (vi_lt (in_x (n := 12) hI.2.1 (by decide) c58))).1 rfl (by decide) c74); omega⟩) ?_
            refine k_aload_n C d_M_row_96 rfl rfl ?_
            refine k_getR C O (r := (12, _)) d_M_row_97 fl_M_33 mr_0 rfl rfl rfl rfl ?_
            refine k_bipush C (v := 12) d_M_row_100 (by decide) ?_
            refine k_iload_n C d_M_row_102 rfl rfl ?_
            refine k_imul C d_M_row_103 ?_
            refine k_aload_n C d_M_row_104 rfl rfl ?_
            refine k_getR C O (r := (10, _)) d_M_row_105 fl_M_27 mr_0 rfl rfl rfl rfl ?_
            refine k_iload_n C d_M_row_108 rfl rfl ?_
            refine k_iald2 C O d_M_row_109 mr_10 rfl 0 rfl (in_x (n := 12) hI.2.1 (by decide) c58) rfl ?_
            refine k_iadd C d_M_row_110 ?_
            refine k_iload_n C d_M_row_111 rfl rfl ?_
            refine k_iast2 C O (q := (12 * tn n + tn (g.1 10 0 (tn n)))) d_M_row_112 mr_12 rfl 0 rfl (ix_in (L := 144) (c := 12) (N := 12) (k := tn (g.1 10 0 (tn n))) rfl (in_x (n := 12) hI.2.1 (by decide) c58) (by decide) ((hI.2.2.2.2.1 _ (vi_lt (in_x (n := 12) hI.2.1 (by decide) c58))).1).1 (by decide) (by have : tn (g.1 10 0 (tn n)) < 12 := vt_lt (in_ne (n := 12) (hI.2.2.2.2.1 _ (vi_lt (in_x (n := 12) hI.2.1 (by decide) c58))).1 rfl (by decide) c74); omega)) (ix_q (c := 12) (N := 12) (k := tn (g.1 10 0 (tn n))) rfl (in_x (n := 12) hI.2.1 (by decide) c58) (by decide) ((hI.2.2.2.2.1 _ (vi_lt (in_x (n := 12) hI.2.1 (by decide) c58))).1).1 ⟨by decide, by have : tn (g.1 10 0 (tn n)) < 12 := vt_lt (in_ne (n := 12) (hI.2.2.2.2.1 _ (vi_lt (in_x (n := 12) hI.2.1 (by decide) c58))).1 rfl (by decide) c74); omega⟩) ?_
            refine k_aload_n C d_M_row_113 rfl rfl ?_
            refine k_getR C O (r := (10, _)) d_M_row_114 fl_M_27 mr_0 rfl rfl rfl rfl ?_
            refine k_iload_n C d_M_row_117 rfl rfl ?_
            refine k_dup2 C d_M_row_118 rfl rfl ?_
            refine k_iald2 C O d_M_row_119 mr_10 rfl 0 rfl (in_x (n := 12) hI.2.1 (by decide) c58) rfl ?_
            refine k_iconst C (v := 1) d_M_row_120 (by decide) ?_
            refine k_iadd C d_M_row_121 ?_
            refine k_iast2 C O d_M_row_122 mr_10 rfl 0 rfl (in_x (n := 12) hI.2.1 (by decide) c58) rfl ?_
            refine k_aload_n C d_M_row_123 rfl rfl ?_
            refine k_iload_n C d_M_row_124 rfl rfl ?_
            refine k_cvV X d_M_row_125 (c_M_forget l b dA D _ n (in_x (n := 12) hI.2.1 (by decide) c58)) cv_M_110 mr_0 rfl rfl ⟨by decide, by decide⟩ rfl rfl (Nat.le_of_ble_eq_true rfl) ?_
            refine k_iconst C (v := 1) d_M_row_128 (by decide) ?_
            exact k_zret X d_M_row_129 (Or.inr rfl) (k_pr ((if_neg c7).trans ((if_pos c30).trans ((if_neg c43).trans ((if_neg c58).trans ((if_neg c74).trans (rfl)))))))
          · refine k_iconst C (v := 0) d_M_row_77 (by decide) ?_
            exact k_zret X d_M_row_78 (Or.inl rfl) (k_pr ((if_neg c7).trans ((if_pos c30).trans ((if_neg c43).trans ((if_neg c58).trans ((if_pos c74).trans (rfl)))))))
    · refine k_iload_n C d_M_row_33 rfl rfl ?_
      refine k_iconst C (v := 1) d_M_row_34 (by decide) ?_
      refine k_icmp_ne C (tgt := 50) d_M_row_35 (by decide) (fun c35 => ?_) (fun c35 => ?_)
      · refine k_iconst C (v := 0) d_M_row_50 (by decide) ?_
        refine k_istore C d_M_row_51 (Nat.le_of_ble_eq_true rfl) rfl ?_
        refine k_aload_n C d_M_row_53 rfl rfl ?_
        refine k_iload_n C d_M_row_54 rfl rfl ?_
        refine k_cvI X d_M_row_55 (c_M_isAction l b dA D _ n) cv_M_107 mr_0 rfl rfl ⟨by decide, by decide⟩ rfl rfl (Nat.le_of_ble_eq_true rfl) ?_
        refine k_if_eq C (tgt := 77) d_M_row_58 (by decide) (fun c58 => ?_) (fun c58 => ?_)
        · refine k_iconst C (v := 0) d_M_row_77 (by decide) ?_
          exact k_zret X d_M_row_78 (Or.inl rfl) (k_pr ((if_neg c7).trans ((if_neg c30).trans ((if_neg c35).trans ((if_pos c58).trans (rfl))))))
        · refine k_iload C d_M_row_61 rfl ?_
          refine k_if_eq C (tgt := 77) d_M_row_63 (by decide) (fun _ => ?_) (fun q => absurd (by decide) q)
          refine k_iconst C (v := 0) d_M_row_77 (by decide) ?_
          exact k_zret X d_M_row_78 (Or.inl rfl) (k_pr ((if_neg c7).trans ((if_neg c30).trans ((if_neg c35).trans ((if_neg c58).trans (rfl))))))
      · refine k_aload_n C d_M_row_38 rfl rfl ?_
        refine k_iload_n C d_M_row_39 rfl rfl ?_
        refine k_cvI X d_M_row_40 (c_M_isFile l b dA D _ w) cv_M_103 mr_0 rfl rfl ⟨by decide, by decide⟩ rfl rfl (Nat.le_of_ble_eq_true rfl) ?_
        refine k_if_eq C (tgt := 50) d_M_row_43 (by decide) (fun c43 => ?_) (fun c43 => ?_)
        · refine k_iconst C (v := 0) d_M_row_50 (by decide) ?_
          refine k_istore C d_M_row_51 (Nat.le_of_ble_eq_true rfl) rfl ?_
          refine k_aload_n C d_M_row_53 rfl rfl ?_
          refine k_iload_n C d_M_row_54 rfl rfl ?_
          refine k_cvI X d_M_row_55 (c_M_isAction l b dA D _ n) cv_M_107 mr_0 rfl rfl ⟨by decide, by decide⟩ rfl rfl (Nat.le_of_ble_eq_true rfl) ?_
          refine k_if_eq C (tgt := 77) d_M_row_58 (by decide) (fun c58 => ?_) (fun c58 => ?_)
          · refine k_iconst C (v := 0) d_M_row_77 (by decide) ?_
            exact k_zret X d_M_row_78 (Or.inl rfl) (k_pr ((if_neg c7).trans ((if_neg c30).trans ((if_pos c35).trans ((if_pos c43).trans ((if_pos c58).trans (rfl)))))))
          · refine k_iload C d_M_row_61 rfl ?_
            refine k_if_eq C (tgt := 77) d_M_row_63 (by decide) (fun _ => ?_) (fun q => absurd (by decide) q)
            refine k_iconst C (v := 0) d_M_row_77 (by decide) ?_
            exact k_zret X d_M_row_78 (Or.inl rfl) (k_pr ((if_neg c7).trans ((if_neg c30).trans ((if_pos c35).trans ((if_pos c43).trans ((if_neg c58).trans (rfl)))))))
        · refine k_iconst C (v := 1) d_M_row_46 (by decide) ?_
          refine k_goto C (tgt := 51) d_M_row_47 (by decide) ?_
          refine k_istore C d_M_row_51 (Nat.le_of_ble_eq_true rfl) rfl ?_
          refine k_aload_n C d_M_row_53 rfl rfl ?_
          refine k_iload_n C d_M_row_54 rfl rfl ?_
          refine k_cvI X d_M_row_55 (c_M_isAction l b dA D _ n) cv_M_107 mr_0 rfl rfl ⟨by decide, by decide⟩ rfl rfl (Nat.le_of_ble_eq_true rfl) ?_
          refine k_if_eq C (tgt := 77) d_M_row_58 (by decide) (fun c58 => ?_) (fun c58 => ?_)
          · refine k_iconst C (v := 0) d_M_row_77 (by decide) ?_
            exact k_zret X d_M_row_78 (Or.inl rfl) (k_pr ((if_neg c7).trans ((if_neg c30).trans ((if_pos c35).trans ((if_neg c43).trans ((if_pos c58).trans (rfl)))))))
          · refine k_iload C d_M_row_61 rfl ?_
            refine k_if_eq C (tgt := 77) d_M_row_63 (by decide) (fun q => absurd q (by decide)) (fun _ => ?_)
            refine k_aload_n C d_M_row_66 rfl rfl ?_
            refine k_getR C O (r := (10, _)) d_M_row_67 fl_M_27 mr_0 rfl rfl rfl rfl ?_
            refine k_iload_n C d_M_row_70 rfl rfl ?_
            refine k_iald2 C O d_M_row_71 mr_10 rfl 0 rfl (in_x (n := 12) hI.2.1 (by decide) c58) rfl ?_
            refine k_bipush C (v := 12) d_M_row_72 (by decide) ?_
            refine k_icmp_ne C (tgt := 79) d_M_row_74 (by decide) (fun c74 => ?_) (fun c74 => ?_)
            · refine k_aload_n C d_M_row_79 rfl rfl ?_
              refine k_getR C O (r := (11, _)) d_M_row_80 fl_M_30 mr_0 rfl rfl rfl rfl ?_
              refine k_bipush C (v := 12) d_M_row_83 (by decide) ?_
              refine k_iload_n C d_M_row_85 rfl rfl ?_
              refine k_imul C d_M_row_86 ?_
              refine k_aload_n C d_M_row_87 rfl rfl ?_
              refine k_getR C O (r := (10, _)) d_M_row_88 fl_M_27 mr_0 rfl rfl rfl rfl ?_
              refine k_iload_n C d_M_row_91 rfl rfl ?_
              refine k_iald2 C O d_M_row_92 mr_10 rfl 0 rfl (in_x (n := 12) hI.2.1 (by decide) c58) rfl ?_
              refine k_iadd C d_M_row_93 ?_
              refine k_iload_n C d_M_row_94 rfl rfl ?_
              refine k_iast2 C O (q := (12 * tn n + tn (g.1 10 0 (tn n)))) d_M_row_95 mr_11 rfl 0 rfl (ix_in (L := 144) (c := 12) (N := 12) (k := tn (g.1 10 0 (tn n))) rfl (in_x (n := 12) hI.2.1 (by decide) c58) (by decide) ((hI.2.2.2.2.1 _ (vi_lt (in_x (n := 12) hI.2.1 (by decide) c58))).1).1 (by decide) (by have : tn (g.1 10 0 (tn n)) < 12 := vt_lt (in_ne (n := 12) (hI.2.2.2.2.1 _ (vi_lt (in_x (n := 12) hI.2.1 (by decide) c58))).1 rfl (by decide) c74); omega)) (ix_q (c := 12) (N := 12) (k := tn (g.1 10 0 (tn n))) rfl (in_x (n := 12) hI.2.1 (by decide) c58) (by decide) ((hI.2.2.2.2.1 _ (vi_lt (in_x (n := 12) hI.2.1 (by decide) c58))).1).1 ⟨by decide, by have : tn (g.1 10 0 (tn n)) < 12 := vt_lt (in_ne (n := 12) (hI.2.2.2.2.1 _ (vi_lt (in_x (n := 12) hI.2.1 (by decide) c58))).1 rfl (by decide) c74); omega⟩) ?_
              refine k_aload_n C d_M_row_96 rfl rfl ?_
              refine k_getR C O (r := (12, _)) d_M_row_97 fl_M_33 mr_0 rfl rfl rfl rfl ?_
              refine k_bipush C (v := 12) d_M_row_100 (by decide) ?_
              refine k_iload_n C d_M_row_102 rfl rfl ?_
              refine k_imul C d_M_row_103 ?_
              refine k_aload_n C d_M_row_104 rfl rfl ?_
              refine k_getR C O (r := (10, _)) d_M_row_105 fl_M_27 mr_0 rfl rfl rfl rfl ?_
              refine k_iload_n C d_M_row_108 rfl rfl ?_
              refine k_iald2 C O d_M_row_109 mr_10 rfl 0 rfl (in_x (n := 12) hI.2.1 (by decide) c58) rfl ?_
              refine k_iadd C d_M_row_110 ?_
              refine k_iload_n C d_M_row_111 rfl rfl ?_
              refine k_iast2 C O (q := (12 * tn n + tn (g.1 10 0 (tn n)))) d_M_row_112 mr_12 rfl 0 rfl (ix_in (L := 144) (c := 12) (N := 12) (k := tn (g.1 10 0 (tn n))) rfl (in_x (n := 12) hI.2.1 (by decide) c58) (by decide) ((hI.2.2.2.2.1 _ (vi_lt (in_x (n := 12) hI.2.1 (by decide) c58))).1).1 (by decide) (by have : tn (g.1 10 0 (tn n)) < 12 := vt_lt (in_ne (n := 12) (hI.2.2.2.2.1 _ (vi_lt (in_x (n := 12) hI.2.1 (by decide) c58))).1 rfl (by decide) c74); omega)) (ix_q (c := 12) (N := 12) (k := tn (g.1 10 0 (tn n))) rfl (in_x (n := 12) hI.2.1 (by decide) c58) (by decide) ((hI.2.2.2.2.1 _ (vi_lt (in_x (n := 12) hI.2.1 (by decide) c58))).1).1 ⟨by decide, by have : tn (g.1 10 0 (tn n)) < 12 := vt_lt (in_ne (n := 12) (hI.2.2.2.2.1 _ (vi_lt (in_x (n := 12) hI.2.1 (by decide) c58))).1 rfl (by decide) c74); omega⟩) ?_
              refine k_aload_n C d_M_row_113 rfl rfl ?_
              refine k_getR C O (r := (10, _)) d_M_row_114 fl_M_27 mr_0 rfl rfl rfl rfl ?_
              refine k_iload_n C d_M_row_117 rfl rfl ?_
              refine k_dup2 C d_M_row_118 rfl rfl ?_
              refine k_iald2 C O d_M_row_119 mr_10 rfl 0 rfl (in_x (n := 12) hI.2.1 (by decide) c58) rfl ?_
              refine k_iconst C (v := 1) d_M_row_120 (by decide) ?_
              refine k_iadd C d_M_row_121 ?_
              refine k_iast2 C O d_M_row_122 mr_10 rfl 0 rfl (in_x (n := 12) hI.2.1 (by decide) c58) rfl ?_
              refine k_aload_n C d_M_row_123 rfl rfl ?_
              refine k_iload_n C d_M_row_124 rfl rfl ?_
              refine k_cvV X d_M_row_125 (c_M_forget l b dA D _ n (in_x (n := 12) hI.2.1 (by decide) c58)) cv_M_110 mr_0 rfl rfl ⟨by decide, by decide⟩ rfl rfl (Nat.le_of_ble_eq_true rfl) ?_
              refine k_iconst C (v := 1) d_M_row_128 (by decide) ?_
              exact k_zret X d_M_row_129 (Or.inr rfl) (k_pr ((if_neg c7).trans ((if_neg c30).trans ((if_pos c35).trans ((if_neg c43).trans ((if_neg c58).trans ((if_neg c74).trans (rfl))))))))
            · refine k_iconst C (v := 0) d_M_row_77 (by decide) ?_
              exact k_zret X d_M_row_78 (Or.inl rfl) (k_pr ((if_neg c7).trans ((if_neg c30).trans ((if_pos c35).trans ((if_neg c43).trans ((if_neg c58).trans ((if_pos c74).trans (rfl))))))))
  · refine k_iload_n C d_M_row_10 rfl rfl ?_
    refine k_iconst C (v := 1) d_M_row_11 (by decide) ?_
    refine k_icmp_lt C (tgt := 25) d_M_row_12 (by decide) (fun c12 => ?_) (fun c12 => ?_)
    · refine k_iconst C (v := 0) d_M_row_25 (by decide) ?_
      refine k_goto C (tgt := 51) d_M_row_26 (by decide) ?_
      refine k_istore C d_M_row_51 (Nat.le_of_ble_eq_true rfl) rfl ?_
      refine k_aload_n C d_M_row_53 rfl rfl ?_
      refine k_iload_n C d_M_row_54 rfl rfl ?_
      refine k_cvI X d_M_row_55 (c_M_isAction l b dA D _ n) cv_M_107 mr_0 rfl rfl ⟨by decide, by decide⟩ rfl rfl (Nat.le_of_ble_eq_true rfl) ?_
      refine k_if_eq C (tgt := 77) d_M_row_58 (by decide) (fun c58 => ?_) (fun c58 => ?_)
      · refine k_iconst C (v := 0) d_M_row_77 (by decide) ?_
        exact k_zret X d_M_row_78 (Or.inl rfl) (k_pr ((if_pos c7).trans ((if_pos c12).trans ((if_pos c58).trans (rfl)))))
      · refine k_iload C d_M_row_61 rfl ?_
        refine k_if_eq C (tgt := 77) d_M_row_63 (by decide) (fun _ => ?_) (fun q => absurd (by decide) q)
        refine k_iconst C (v := 0) d_M_row_77 (by decide) ?_
        exact k_zret X d_M_row_78 (Or.inl rfl) (k_pr ((if_pos c7).trans ((if_pos c12).trans ((if_neg c58).trans (rfl)))))
    · refine k_iload_n C d_M_row_15 rfl rfl ?_
      refine k_bipush C (v := 8) d_M_row_16 (by decide) ?_
      refine k_icmp_gt C (tgt := 25) d_M_row_18 (by decide) (fun c18 => ?_) (fun c18 => ?_)
      · refine k_iconst C (v := 0) d_M_row_25 (by decide) ?_
        refine k_goto C (tgt := 51) d_M_row_26 (by decide) ?_
        refine k_istore C d_M_row_51 (Nat.le_of_ble_eq_true rfl) rfl ?_
        refine k_aload_n C d_M_row_53 rfl rfl ?_
        refine k_iload_n C d_M_row_54 rfl rfl ?_
        refine k_cvI X d_M_row_55 (c_M_isAction l b dA D _ n) cv_M_107 mr_0 rfl rfl ⟨by decide, by decide⟩ rfl rfl (Nat.le_of_ble_eq_true rfl) ?_
        refine k_if_eq C (tgt := 77) d_M_row_58 (by decide) (fun c58 => ?_) (fun c58 => ?_)
        · refine k_iconst C (v := 0) d_M_row_77 (by decide) ?_
          exact k_zret X d_M_row_78 (Or.inl rfl) (k_pr ((if_pos c7).trans ((if_neg c12).trans ((if_pos c18).trans ((if_pos c58).trans (rfl))))))
        · refine k_iload C d_M_row_61 rfl ?_
          refine k_if_eq C (tgt := 77) d_M_row_63 (by decide) (fun _ => ?_) (fun q => absurd (by decide) q)
          refine k_iconst C (v := 0) d_M_row_77 (by decide) ?_
          exact k_zret X d_M_row_78 (Or.inl rfl) (k_pr ((if_pos c7).trans ((if_neg c12).trans ((if_pos c18).trans ((if_neg c58).trans (rfl))))))
      · refine k_iconst C (v := 1) d_M_row_21 (by decide) ?_
        refine k_goto C (tgt := 51) d_M_row_22 (by decide) ?_
        refine k_istore C d_M_row_51 (Nat.le_of_ble_eq_true rfl) rfl ?_
        refine k_aload_n C d_M_row_53 rfl rfl ?_
        refine k_iload_n C d_M_row_54 rfl rfl ?_
        refine k_cvI X d_M_row_55 (c_M_isAction l b dA D _ n) cv_M_107 mr_0 rfl rfl ⟨by decide, by decide⟩ rfl rfl (Nat.le_of_ble_eq_true rfl) ?_
        refine k_if_eq C (tgt := 77) d_M_row_58 (by decide) (fun c58 => ?_) (fun c58 => ?_)
        · refine k_iconst C (v := 0) d_M_row_77 (by decide) ?_
          exact k_zret X d_M_row_78 (Or.inl rfl) (k_pr ((if_pos c7).trans ((if_neg c12).trans ((if_neg c18).trans ((if_pos c58).trans (rfl))))))
        · refine k_iload C d_M_row_61 rfl ?_
          refine k_if_eq C (tgt := 77) d_M_row_63 (by decide) (fun q => absurd q (by decide)) (fun _ => ?_)
          refine k_aload_n C d_M_row_66 rfl rfl ?_
          refine k_getR C O (r := (10, _)) d_M_row_67 fl_M_27 mr_0 rfl rfl rfl rfl ?_
          refine k_iload_n C d_M_row_70 rfl rfl ?_
          refine k_iald2 C O d_M_row_71 mr_10 rfl 0 rfl (in_x (n := 12) hI.2.1 (by decide) c58) rfl ?_
          refine k_bipush C (v := 12) d_M_row_72 (by decide) ?_
          refine k_icmp_ne C (tgt := 79) d_M_row_74 (by decide) (fun c74 => ?_) (fun c74 => ?_)
          · refine k_aload_n C d_M_row_79 rfl rfl ?_
            refine k_getR C O (r := (11, _)) d_M_row_80 fl_M_30 mr_0 rfl rfl rfl rfl ?_
            refine k_bipush C (v := 12) d_M_row_83 (by decide) ?_
            refine k_iload_n C d_M_row_85 rfl rfl ?_
            refine k_imul C d_M_row_86 ?_
            refine k_aload_n C d_M_row_87 rfl rfl ?_
            refine k_getR C O (r := (10, _)) d_M_row_88 fl_M_27 mr_0 rfl rfl rfl rfl ?_
            refine k_iload_n C d_M_row_91 rfl rfl ?_
            refine k_iald2 C O d_M_row_92 mr_10 rfl 0 rfl (in_x (n := 12) hI.2.1 (by decide) c58) rfl ?_
            refine k_iadd C d_M_row_93 ?_
            refine k_iload_n C d_M_row_94 rfl rfl ?_
            refine k_iast2 C O (q := (12 * tn n + tn (g.1 10 0 (tn n)))) d_M_row_95 mr_11 rfl 0 rfl (ix_in (L := 144) (c := 12) (N := 12) (k := tn (g.1 10 0 (tn n))) rfl (in_x (n := 12) hI.2.1 (by decide) c58) (by decide) ((hI.2.2.2.2.1 _ (vi_lt (in_x (n := 12) hI.2.1 (by decide) c58))).1).1 (by decide) (by have : tn (g.1 10 0 (tn n)) < 12 := vt_lt (in_ne (n := 12) (hI.2.2.2.2.1 _ (vi_lt (in_x (n := 12) hI.2.1 (by decide) c58))).1 rfl (by decide) c74); omega)) (ix_q (c := 12) (N := 12) (k := tn (g.1 10 0 (tn n))) rfl (in_x (n := 12) hI.2.1 (by decide) c58) (by decide) ((hI.2.2.2.2.1 _ (vi_lt (in_x (n := 12) hI.2.1 (by decide) c58))).1).1 ⟨by decide, by have : tn (g.1 10 0 (tn n)) < 12 := vt_lt (in_ne (n := 12) (hI.2.2.2.2.1 _ (vi_lt (in_x (n := 12) hI.2.1 (by decide) c58))).1 rfl (by decide) c74); omega⟩) ?_
            refine k_aload_n C d_M_row_96 rfl rfl ?_
            refine k_getR C O (r := (12, _)) d_M_row_97 fl_M_33 mr_0 rfl rfl rfl rfl ?_
            refine k_bipush C (v := 12) d_M_row_100 (by decide) ?_
            refine k_iload_n C d_M_row_102 rfl rfl ?_
            refine k_imul C d_M_row_103 ?_
            refine k_aload_n C d_M_row_104 rfl rfl ?_
            refine k_getR C O (r := (10, _)) d_M_row_105 fl_M_27 mr_0 rfl rfl rfl rfl ?_
            refine k_iload_n C d_M_row_108 rfl rfl ?_
            refine k_iald2 C O d_M_row_109 mr_10 rfl 0 rfl (in_x (n := 12) hI.2.1 (by decide) c58) rfl ?_
            refine k_iadd C d_M_row_110 ?_
            refine k_iload_n C d_M_row_111 rfl rfl ?_
            refine k_iast2 C O (q := (12 * tn n + tn (g.1 10 0 (tn n)))) d_M_row_112 mr_12 rfl 0 rfl (ix_in (L := 144) (c := 12) (N := 12) (k := tn (g.1 10 0 (tn n))) rfl (in_x (n := 12) hI.2.1 (by decide) c58) (by decide) ((hI.2.2.2.2.1 _ (vi_lt (in_x (n := 12) hI.2.1 (by decide) c58))).1).1 (by decide) (by have : tn (g.1 10 0 (tn n)) < 12 := vt_lt (in_ne (n := 12) (hI.2.2.2.2.1 _ (vi_lt (in_x (n := 12) hI.2.1 (by decide) c58))).1 rfl (by decide) c74); omega)) (ix_q (c := 12) (N := 12) (k := tn (g.1 10 0 (tn n))) rfl (in_x (n := 12) hI.2.1 (by decide) c58) (by decide) ((hI.2.2.2.2.1 _ (vi_lt (in_x (n := 12) hI.2.1 (by decide) c58))).1).1 ⟨by decide, by have : tn (g.1 10 0 (tn n)) < 12 := vt_lt (in_ne (n := 12) (hI.2.2.2.2.1 _ (vi_lt (in_x (n := 12) hI.2.1 (by decide) c58))).1 rfl (by decide) c74); omega⟩) ?_
            refine k_aload_n C d_M_row_113 rfl rfl ?_
            refine k_getR C O (r := (10, _)) d_M_row_114 fl_M_27 mr_0 rfl rfl rfl rfl ?_
            refine k_iload_n C d_M_row_117 rfl rfl ?_
            refine k_dup2 C d_M_row_118 rfl rfl ?_
            refine k_iald2 C O d_M_row_119 mr_10 rfl 0 rfl (in_x (n := 12) hI.2.1 (by decide) c58) rfl ?_
            refine k_iconst C (v := 1) d_M_row_120 (by decide) ?_
            refine k_iadd C d_M_row_121 ?_
            refine k_iast2 C O d_M_row_122 mr_10 rfl 0 rfl (in_x (n := 12) hI.2.1 (by decide) c58) rfl ?_
            refine k_aload_n C d_M_row_123 rfl rfl ?_
            refine k_iload_n C d_M_row_124 rfl rfl ?_
            refine k_cvV X d_M_row_125 (c_M_forget l b dA D _ n (in_x (n := 12) hI.2.1 (by decide) c58)) cv_M_110 mr_0 rfl rfl ⟨by decide, by decide⟩ rfl rfl (Nat.le_of_ble_eq_true rfl) ?_
            refine k_iconst C (v := 1) d_M_row_128 (by decide) ?_
            exact k_zret X d_M_row_129 (Or.inr rfl) (k_pr ((if_pos c7).trans ((if_neg c12).trans ((if_neg c18).trans ((if_neg c58).trans ((if_neg c74).trans (rfl)))))))
          · refine k_iconst C (v := 0) d_M_row_77 (by decide) ?_
            exact k_zret X d_M_row_78 (Or.inl rfl) (k_pr ((if_pos c7).trans ((if_neg c12).trans ((if_neg c18).trans ((if_neg c58).trans ((if_pos c74).trans (rfl)))))))
