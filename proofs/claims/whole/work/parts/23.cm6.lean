set_option maxHeartbeats 4000000 in
set_option maxRecDepth 100000 in
theorem l_M_tellRing {x : kCx} (l : Launch) (b : Nat → Nat → Nat) (dA : Nat → ClassId) (D : va_G) (at0 dp : Nat) (hd : dp ≤ 12) (X : kIn (sysM b dA D) l b_M_tellRing y_M_tellRing.cls 4 (some .int) 0 0 x) : ∀ (n : Nat) (k r : Nat) (g : kG), k + n = dp → g.1 0 0 26 = nI r → r + n ≤ 12 → Wk (kWd (sysM b dA D)) (kAA (sysM b dA D)) (y_ad (sysM b dA D)) x (0, 0) (kQ (sysM b dA D) (fun r g2 => r = some (.inl (-5)) ∧ g2 = (mTr n k g)) x) 2 [some (.inr (.inr (0, 0))), some (.inl (nI at0)), some (.inl (nI dp)), some (.inl (nI k))] [] g := by
  have C := X.1
  have O := X.2.1
  intro n
  induction n with
  | zero =>
    intro k r g hk hr h12
    refine k_iload_n C d_M_tellRing_2 rfl rfl ?_
    refine k_iload_n C d_M_tellRing_3 rfl rfl ?_
    refine k_icmp_ge C (tgt := 38) d_M_tellRing_4 (by decide) (fun c4 => ?_) (fun c4 => ?_)
    · refine k_bipush C (v := (-5)) d_M_tellRing_38 (by decide) ?_
      exact k_iret X d_M_tellRing_40 (⟨rfl, rfl⟩)
    · exact absurd (x_ge rfl (by omega) (by omega)) c4
  | succ n ih =>
    intro k r g hk hr h12
    refine k_iload_n C d_M_tellRing_2 rfl rfl ?_
    refine k_iload_n C d_M_tellRing_3 rfl rfl ?_
    refine k_icmp_ge C (tgt := 38) d_M_tellRing_4 (by decide) (fun c4 => ?_) (fun c4 => ?_)
    · exact absurd c4 (x_lt rfl (by omega) (by omega))
    · refine k_aload_n C d_M_tellRing_7 rfl rfl ?_
      refine k_getR C O (r := (24, _)) d_M_tellRing_8 fl_M_69 mr_0 rfl rfl rfl rfl ?_
      refine k_aload_n C d_M_tellRing_11 rfl rfl ?_
      refine k_getI C O d_M_tellRing_12 fl_M_151 mr_0 rfl rfl rfl ?_
      refine k_aload_n C d_M_tellRing_15 rfl rfl ?_
      refine k_getR C O (r := (25, _)) d_M_tellRing_16 fl_M_72 mr_0 rfl rfl rfl rfl ?_
      refine k_iload_n C d_M_tellRing_19 rfl rfl ?_
      refine k_iald2 C O (q := k) d_M_tellRing_20 mr_25 rfl 0 rfl (show vp_in (nI k) 12 from vp_in_nI (by omega) (by decide)) (nI_clamp (by omega)) ?_
      refine k_iast2 C O d_M_tellRing_21 mr_24 rfl 0 rfl (show vp_in (g.1 0 0 26) 12 from hr ▸ vp_in_nI (by omega) (by decide)) rfl ?_
      refine k_aload_n C d_M_tellRing_22 rfl rfl ?_
      refine k_dup C d_M_tellRing_23 rfl ?_
      refine k_getI C O d_M_tellRing_24 fl_M_151 mr_0 rfl rfl rfl ?_
      refine k_iconst C (v := 1) d_M_tellRing_27 (by decide) ?_
      refine k_iadd C d_M_tellRing_28 ?_
      refine k_putI C O d_M_tellRing_29 fp_M_151 mr_0 rfl rfl rfl ?_
      refine k_iinc C (w := nI (k + 1)) d_M_tellRing_32 rfl (nI_inc k) rfl ?_
      refine k_goto C (tgt := 2) d_M_tellRing_35 (by decide) ?_
      have h9 : (kU (kU g.1 24 0 (tn (g.1 0 0 26)) (g.1 25 0 k)) 0 0 26 (g.1 0 0 26 + 1)) 0 0 26 = nI (r + 1) := by
        rw [kU_s, hr]
        exact nI_1 r
      exact ih (k + 1) (r + 1) _ (by omega) h9 (by omega)

set_option maxHeartbeats 4000000 in
set_option maxRecDepth 100000 in
theorem c_M_tellRing (l : Launch) (b : Nat → Nat → Nat) (dA : Nat → ClassId) (D : va_G) (g : kG) (at0 dp : Nat) (hd : dp ≤ 12) (ha : at0 ≤ dp) (hr : g.1 0 0 26 = nI 0) : kMd (sysM b dA D) l y_M_tellRing b_M_tellRing 4 (some .int) 0 0 [.inr (.inr (0, 0)), .inl (nI at0), .inl (nI dp)] g (some (.inl (-5))) (mTr (dp - at0) at0 g) := by
  refine k_enter (by decide) [some (.inr (.inr (0, 0))), some (.inl (nI at0)), some (.inl (nI dp)), none] rfl rfl (Nat.le_of_ble_eq_true rfl) (fun x X => ?_)
  have C := X.1
  have O := X.2.1
  refine k_iload_n C d_M_tellRing_0 rfl rfl ?_
  refine k_istore_n C d_M_tellRing_1 rfl (Nat.le_of_ble_eq_true rfl) rfl ?_
  exact l_M_tellRing l b dA D at0 dp hd X (dp - at0) at0 0 g (by omega) hr (by omega)

set_option maxHeartbeats 4000000 in
set_option maxRecDepth 100000 in
theorem l_M_se {x : kCx} {Q : State → Prop} (l : Launch) (b : Nat → Nat → Nat) (dA : Nat → ClassId) (D : va_G) (g : kG) (n0 : Int32) (dp : Nat) (hd : dp ≤ 12) (z3 z4 : Option kV) (nx : Int32) (X : kIn (sysM b dA D) l b_M_resolve y_M_resolve.cls 7 (some .int) 4 96 x) : ∀ (n : Nat) (k : Nat), k + n = dp → (Wk (kWd (sysM b dA D)) (kAA (sysM b dA D)) (y_ad (sysM b dA D)) x (0, 0) Q 91 [some (.inr (.inr (0, 0))), some (.inl n0), some (.inl (nI dp)), z3, z4, some (.inl nx), some (.inl (nI (mSe g nx n k)))] [] g) → Wk (kWd (sysM b dA D)) (kAA (sysM b dA D)) (y_ad (sysM b dA D)) x (0, 0) Q 67 [some (.inr (.inr (0, 0))), some (.inl n0), some (.inl (nI dp)), z3, z4, some (.inl nx), some (.inl (nI k))] [] g := by
  have C := X.1
  have O := X.2.1
  intro n
  induction n with
  | zero =>
    intro k hk K
    refine k_iload C d_M_resolve_67 rfl ?_
    refine k_iload_n C d_M_resolve_69 rfl rfl ?_
    refine k_icmp_ge C (tgt := 91) d_M_resolve_70 (by decide) (fun c70 => ?_) (fun c70 => ?_)
    · exact K
    · exact absurd (x_ge rfl (by omega) (by omega)) c70
  | succ n ih =>
    intro k hk K
    refine k_iload C d_M_resolve_67 rfl ?_
    refine k_iload_n C d_M_resolve_69 rfl rfl ?_
    refine k_icmp_ge C (tgt := 91) d_M_resolve_70 (by decide) (fun c70 => ?_) (fun c70 => ?_)
    · exact absurd c70 (x_lt rfl (by omega) (by omega))
    · refine k_aload_n C d_M_resolve_73 rfl rfl ?_
      refine k_getR C O (r := (25, _)) d_M_resolve_74 fl_M_72 mr_0 rfl rfl rfl rfl ?_
      refine k_iload C d_M_resolve_77 rfl ?_
      refine k_iald2 C O (q := k) d_M_resolve_79 mr_25 rfl 0 rfl (show vp_in (nI k) 12 from vp_in_nI (by omega) (by decide)) (nI_clamp (by omega)) ?_
      refine k_iload C d_M_resolve_80 rfl ?_
      refine k_icmp_eq C (tgt := 91) d_M_resolve_82 (by decide) (fun c82 => ?_) (fun c82 => ?_)
      · simp only [mSe, if_pos c82] at K
        exact K
      · refine k_iinc C (w := nI (k + 1)) d_M_resolve_85 rfl (nI_inc k) rfl ?_
        refine k_goto C (tgt := 67) d_M_resolve_88 (by decide) ?_
        simp only [mSe, if_neg c82] at K
        exact ih (k + 1) (by omega) K

set_option maxHeartbeats 4000000 in
set_option maxRecDepth 100000 in
theorem l_M_resolve {x : kCx} (l : Launch) (b : Nat → Nat → Nat) (dA : Nat → ClassId) (D : va_G) (P : Nat → Nat → kG → Prop) (hP0 : ∀ e g, ¬ P 0 e g) (hP : ∀ n e g, P n e g → mJ g ∧ e ≤ 11 ∧ vp_in (g.1 25 0 e) 12) (hP1 : ∀ n e g, P (n + 1) e g → (mRun g (g.1 25 0 e)).1 = 0 → vp_in ((mRun g (g.1 25 0 e)).2.1 19 0 (tn (g.1 25 0 e))) 24 ∧ (mRun g (g.1 25 0 e)).2.1 0 0 26 = nI 0 ∧ (nI (e + 1) ≤ nI (mAt g e) → e ≤ 10 ∧ P n (e + 1) (mPush g e))) (hP2 : ∀ n e g, P (n + 1) e g → 1 ≤ e → ¬ (mRun g (g.1 25 0 e)).1 = 0 → ¬ (mRun g (g.1 25 0 e)).1 = -1 → ¬ (mRun g (g.1 25 0 e)).1 = -2 → P n (e - 1) (mRun g (g.1 25 0 e)).2) (n0 : Int32) (X : kIn (sysM b dA D) l b_M_resolve y_M_resolve.cls 7 (some .int) 4 96 x) : ∀ (n : Nat) (e : Nat) (g : kG) (z3 z4 z5 z6 : Option kV), P n e g → Wk (kWd (sysM b dA D)) (kAA (sysM b dA D)) (y_ad (sysM b dA D)) x (0, 0) (kQ (sysM b dA D) (fun r g2 => r = some (.inl (mRs n e g).1) ∧ g2 = (mRs n e g).2) x) 30 [some (.inr (.inr (0, 0))), some (.inl n0), some (.inl (nI (e + 1))), z3, z4, z5, z6] [] g := by
  have C := X.1
  have O := X.2.1
  intro n
  induction n with
  | zero =>
    intro e g z3 z4 z5 z6 hPe
    exact absurd hPe (hP0 e g)
  | succ n ih =>
    intro e g z3 z4 z5 z6 hPe
    obtain ⟨hJ, he, hv⟩ := hP _ e g hPe
    have hat := mSe_le (mRun g (g.1 25 0 e)).2 (mNx g e) (e + 1) 0
    refine k_aload_n C d_M_resolve_30 rfl rfl ?_
    refine k_getR C O (r := (25, _)) d_M_resolve_31 fl_M_72 mr_0 rfl rfl rfl rfl ?_
    refine k_iload_n C d_M_resolve_34 rfl rfl ?_
    refine k_iconst C (v := 1) d_M_resolve_35 (by decide) ?_
    refine k_isub C d_M_resolve_36 ?_
    refine k_iald2 C O (q := e) d_M_resolve_37 mr_25 rfl 0 rfl (show vp_in (nI (e + 1) - 1) 12 from by rw [x_dp]; exact vp_in_nI (by omega) (by decide)) (by rw [x_dp]; exact nI_clamp (by omega)) ?_
    refine k_istore_n C d_M_resolve_38 rfl (Nat.le_of_ble_eq_true rfl) rfl ?_
    refine k_aload_n C d_M_resolve_39 rfl rfl ?_
    refine k_iload_n C d_M_resolve_40 rfl rfl ?_
    refine k_cvI X d_M_resolve_41 (c_M_runOne l b dA D g (g.1 25 0 e) hv hJ) cv_M_148 mr_0 rfl rfl ⟨by decide, by decide⟩ rfl rfl (Nat.le_of_ble_eq_true rfl) ?_
    refine k_istore C d_M_resolve_44 (Nat.le_of_ble_eq_true rfl) rfl ?_
    refine k_iload C d_M_resolve_46 rfl ?_
    refine k_if_ne C (tgt := 119) d_M_resolve_48 (by decide) (fun c48 => ?_) (fun c48 => ?_)
    · refine k_iload_n C d_M_resolve_119 rfl rfl ?_
      refine k_iconst C (v := 1) d_M_resolve_120 (by decide) ?_
      refine k_icmp_eq C (tgt := 137) d_M_resolve_121 (by decide) (fun c121 => ?_) (fun c121 => ?_)
      · refine k_iload C d_M_resolve_137 rfl ?_
        exact k_iret X d_M_resolve_139 (k_pr ((if_neg c48).trans ((if_pos c121).trans (rfl))))
      · refine k_iload C d_M_resolve_124 rfl ?_
        refine k_iconst C (v := (-1)) d_M_resolve_126 (by decide) ?_
        refine k_icmp_eq C (tgt := 137) d_M_resolve_127 (by decide) (fun c127 => ?_) (fun c127 => ?_)
        · refine k_iload C d_M_resolve_137 rfl ?_
          exact k_iret X d_M_resolve_139 (k_pr ((if_neg c48).trans ((if_neg c121).trans ((if_pos c127).trans (rfl)))))
        · refine k_iload C d_M_resolve_130 rfl ?_
          refine k_bipush C (v := (-2)) d_M_resolve_132 (by decide) ?_
          refine k_icmp_ne C (tgt := 140) d_M_resolve_134 (by decide) (fun c134 => ?_) (fun c134 => ?_)
          · have h1e : 1 ≤ e := by
              rcases Nat.eq_zero_or_pos e with q | q
              · exact absurd (by rw [q]; rfl) c121
              · exact q
            refine k_iinc C (w := nI (e - 1 + 1)) d_M_resolve_140 rfl (x_dec e h1e) rfl ?_
            refine k_goto C (tgt := 30) d_M_resolve_143 (by decide) ?_
            exact k_Qs ((if_neg c48).trans ((if_neg c121).trans ((if_neg c127).trans ((if_neg c134).trans (rfl))))) (ih (e - 1) _ _ _ _ _ (hP2 n e g hPe h1e c48 c127 c134))
          · refine k_iload C d_M_resolve_137 rfl ?_
            exact k_iret X d_M_resolve_139 (k_pr ((if_neg c48).trans ((if_neg c121).trans ((if_neg c127).trans ((if_pos c134).trans (rfl))))))
    · refine k_aload_n C d_M_resolve_51 rfl rfl ?_
      refine k_getR C O (r := (7, _)) d_M_resolve_52 fl_M_17 mr_0 rfl rfl rfl rfl ?_
      refine k_aload_n C d_M_resolve_55 rfl rfl ?_
      refine k_getR C O (r := (19, _)) d_M_resolve_56 fl_M_54 mr_0 rfl rfl rfl rfl ?_
      refine k_iload_n C d_M_resolve_59 rfl rfl ?_
      refine k_iald2 C O d_M_resolve_60 mr_19 rfl 0 rfl hv rfl ?_
      refine k_iald2 C O d_M_resolve_61 mr_7 rfl 0 rfl (hP1 n e g hPe c48).1 rfl ?_
      refine k_istore C d_M_resolve_62 (Nat.le_of_ble_eq_true rfl) rfl ?_
      refine k_iconst C (v := 0) d_M_resolve_64 (by decide) ?_
      refine k_istore C d_M_resolve_65 (Nat.le_of_ble_eq_true rfl) rfl ?_
      refine l_M_se l b dA D (mRun g (g.1 25 0 e)).2 n0 (e + 1) (by omega) _ _ (mNx g e) X (e + 1) 0 (by omega) ?_
      refine k_iload C d_M_resolve_91 rfl ?_
      refine k_iload_n C d_M_resolve_93 rfl rfl ?_
      refine k_icmp_ge C (tgt := 105) d_M_resolve_94 (by decide) (fun c94 => ?_) (fun c94 => ?_)
      · refine k_aload_n C d_M_resolve_105 rfl rfl ?_
        refine k_getR C O (r := (25, _)) d_M_resolve_106 fl_M_72 mr_0 rfl rfl rfl rfl ?_
        refine k_iload_n C d_M_resolve_109 rfl rfl ?_
        refine k_iload C d_M_resolve_110 rfl ?_
        refine k_iast2 C O (q := (e + 1)) d_M_resolve_112 mr_25 rfl 0 rfl (show vp_in (nI (e + 1)) 12 from vp_in_nI (by have := ((hP1 n e g hPe c48).2.2 c94).1; omega) (by decide)) (nI_clamp (by omega)) ?_
        refine k_iinc C (w := nI (e + 1 + 1)) d_M_resolve_113 rfl (nI_inc (e + 1)) rfl ?_
        refine k_goto C (tgt := 143) d_M_resolve_116 (by decide) ?_
        refine k_goto C (tgt := 30) d_M_resolve_143 (by decide) ?_
        exact k_Qs ((if_pos c48).trans ((if_pos c94).trans (rfl))) (ih (e + 1) _ _ _ _ _ ((hP1 n e g hPe c48).2.2 c94).2)
      · refine k_aload_n C d_M_resolve_97 rfl rfl ?_
        refine k_iload C d_M_resolve_98 rfl ?_
        refine k_iload_n C d_M_resolve_100 rfl rfl ?_
        refine k_cvI X d_M_resolve_101 (c_M_tellRing l b dA D (mRun g (g.1 25 0 e)).2 (mAt g e) (e + 1) (by omega) (show mSe _ _ _ _ ≤ e + 1 by omega) (hP1 n e g hPe c48).2.1) cv_M_154 mr_0 rfl rfl ⟨by decide, by decide⟩ rfl rfl (Nat.le_of_ble_eq_true rfl) ?_
        exact k_iret X d_M_resolve_104 (k_pr ((if_pos c48).trans ((if_neg c94).trans (rfl))))

set_option maxHeartbeats 4000000 in
set_option maxRecDepth 100000 in
theorem c_M_resolve (l : Launch) (b : Nat → Nat → Nat) (dA : Nat → ClassId) (D : va_G) (g : kG) (n : Int32) (P : Nat → Nat → kG → Prop) (hP0 : ∀ e g, ¬ P 0 e g) (hP : ∀ n e g, P n e g → mJ g ∧ e ≤ 11 ∧ vp_in (g.1 25 0 e) 12) (hP1 : ∀ n e g, P (n + 1) e g → (mRun g (g.1 25 0 e)).1 = 0 → vp_in ((mRun g (g.1 25 0 e)).2.1 19 0 (tn (g.1 25 0 e))) 24 ∧ (mRun g (g.1 25 0 e)).2.1 0 0 26 = nI 0 ∧ (nI (e + 1) ≤ nI (mAt g e) → e ≤ 10 ∧ P n (e + 1) (mPush g e))) (hP2 : ∀ n e g, P (n + 1) e g → 1 ≤ e → ¬ (mRun g (g.1 25 0 e)).1 = 0 → ¬ (mRun g (g.1 25 0 e)).1 = -1 → ¬ (mRun g (g.1 25 0 e)).1 = -2 → P n (e - 1) (mRun g (g.1 25 0 e)).2) (F : Nat) (h0 : ¬ xIn n (g.1 0 0 3) = 0 → P F 0 (kU (kU (m0 g).1 0 0 26 0) 25 0 0 n, g.2)) : kMd (sysM b dA D) l y_M_resolve b_M_resolve 7 (some .int) 4 96 [.inr (.inr (0, 0)), .inl n] g (some (.inl (mResolve F g n).1)) (mResolve F g n).2 := by
  refine k_enter (by decide) [some (.inr (.inr (0, 0))), some (.inl n), none, none, none, none, none] rfl rfl (Nat.le_of_ble_eq_true rfl) (fun x X => ?_)
  have C := X.1
  have O := X.2.1
  refine k_aload_n C d_M_resolve_0 rfl rfl ?_
  refine k_iconst C (v := 0) d_M_resolve_1 (by decide) ?_
  refine k_putI C O d_M_resolve_2 fp_M_94 mr_0 rfl rfl rfl ?_
  refine k_aload_n C d_M_resolve_5 rfl rfl ?_
  refine k_iload_n C d_M_resolve_6 rfl rfl ?_
  refine k_cvI X d_M_resolve_7 (c_M_isAction l b dA D _ n) cv_M_107 mr_0 rfl rfl ⟨by decide, by decide⟩ rfl rfl (Nat.le_of_ble_eq_true rfl) ?_
  refine k_if_ne C (tgt := 16) d_M_resolve_10 (by decide) (fun c10 => ?_) (fun c10 => ?_)
  · refine k_aload_n C d_M_resolve_16 rfl rfl ?_
    refine k_iconst C (v := 0) d_M_resolve_17 (by decide) ?_
    refine k_putI C O d_M_resolve_18 fp_M_151 mr_0 rfl rfl rfl ?_
    refine k_aload_n C d_M_resolve_21 rfl rfl ?_
    refine k_getR C O (r := (25, _)) d_M_resolve_22 fl_M_72 mr_0 rfl rfl rfl rfl ?_
    refine k_iconst C (v := 0) d_M_resolve_25 (by decide) ?_
    refine k_iload_n C d_M_resolve_26 rfl rfl ?_
    refine k_iast2 C O (q := 0) d_M_resolve_27 mr_25 rfl 0 rfl (show vp_in 0 12 from vp_in_nI (n := 0) (by decide) (by decide)) rfl ?_
    refine k_iconst C (v := 1) d_M_resolve_28 (by decide) ?_
    refine k_istore_n C d_M_resolve_29 rfl (Nat.le_of_ble_eq_true rfl) rfl ?_
    exact k_Qs ((if_neg c10).trans rfl) (l_M_resolve l b dA D P hP0 hP hP1 hP2 n X F 0 _ none none none none (h0 c10))
  · refine k_bipush C (v := (-9)) d_M_resolve_13 (by decide) ?_
    exact k_iret X d_M_resolve_15 (k_pr ((if_pos c10).trans (rfl)))
