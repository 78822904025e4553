set_option maxHeartbeats 4000000 in
set_option maxRecDepth 100000 in
theorem c_M_run (l : Launch) (b : Nat → Nat → Nat) (dA : Nat → ClassId) (D : va_G) (g : kG) (n : Int32) (hJ : mJ g) : kMd (sysM b dA D) l y_M_run b_M_run 2 (some .int) 4 96 [.inr (.inr (0, 0)), .inl n] g (some (.inl (mRunP g n).1)) (mRunP g n).2 := by
  refine k_enter (by decide) [some (.inr (.inr (0, 0))), some (.inl n)] rfl rfl (Nat.le_of_ble_eq_true rfl) (fun x X => ?_)
  have C := X.1
  have O := X.2.1
  refine k_aload_n C d_M_run_0 rfl rfl ?_
  refine k_iconst C (v := 0) d_M_run_1 (by decide) ?_
  refine k_putI C O d_M_run_2 fp_M_94 mr_0 rfl rfl rfl ?_
  refine k_aload_n C d_M_run_5 rfl rfl ?_
  refine k_iload_n C d_M_run_6 rfl rfl ?_
  refine k_cvI X d_M_run_7 (c_M_isAction l b dA D _ n) cv_M_107 mr_0 rfl rfl ⟨by decide, by decide⟩ rfl rfl (Nat.le_of_ble_eq_true rfl) ?_
  refine k_if_eq C (tgt := 21) d_M_run_10 (by decide) (fun c10 => ?_) (fun c10 => ?_)
  · refine k_bipush C (v := (-9)) d_M_run_21 (by decide) ?_
    exact k_iret X d_M_run_23 (k_pr ((if_pos c10).trans (rfl)))
  · refine k_aload_n C d_M_run_13 rfl rfl ?_
    refine k_iload_n C d_M_run_14 rfl rfl ?_
    refine k_cvI X d_M_run_15 (c_M_runOne l b dA D (m0 g) n (in_x (n := 12) hJ.1.2.1 (by decide) c10) hJ) cv_M_148 mr_0 rfl rfl ⟨by decide, by decide⟩ rfl rfl (Nat.le_of_ble_eq_true rfl) ?_
    refine k_goto C (tgt := 23) d_M_run_18 (by decide) ?_
    exact k_iret X d_M_run_23 (k_pr ((if_neg c10).trans (rfl)))

set_option maxHeartbeats 4000000 in
set_option maxRecDepth 100000 in
theorem c_M_fresh (l : Launch) (b : Nat → Nat → Nat) (dA : Nat → ClassId) (D : va_G) (g : kG) (n : Int32) (hJ : mJ g) : kMd (sysM b dA D) l y_M_fresh b_M_fresh 2 (some .boolean) 3 68 [.inr (.inr (0, 0)), .inl n] g (some (.inl (mFreshP g n).1)) (mFreshP g n).2 := by
  refine k_enter (by decide) [some (.inr (.inr (0, 0))), some (.inl n)] rfl rfl (Nat.le_of_ble_eq_true rfl) (fun x X => ?_)
  have C := X.1
  have O := X.2.1
  refine k_aload_n C d_M_fresh_0 rfl rfl ?_
  refine k_iconst C (v := 0) d_M_fresh_1 (by decide) ?_
  refine k_putI C O d_M_fresh_2 fp_M_94 mr_0 rfl rfl rfl ?_
  refine k_aload_n C d_M_fresh_5 rfl rfl ?_
  refine k_iload_n C d_M_fresh_6 rfl rfl ?_
  refine k_cvI X d_M_fresh_7 (c_M_isAction l b dA D _ n) cv_M_107 mr_0 rfl rfl ⟨by decide, by decide⟩ rfl rfl (Nat.le_of_ble_eq_true rfl) ?_
  refine k_if_eq C (tgt := 25) d_M_fresh_10 (by decide) (fun c10 => ?_) (fun c10 => ?_)
  · refine k_iconst C (v := 0) d_M_fresh_25 (by decide) ?_
    exact k_zret X d_M_fresh_26 (Or.inl rfl) (k_pr ((if_pos c10).trans (rfl)))
  · refine k_aload_n C d_M_fresh_13 rfl rfl ?_
    refine k_iload_n C d_M_fresh_14 rfl rfl ?_
    refine k_cvI X d_M_fresh_15 (c_M_isFreshNow l b dA D (m0 g) n (in_x (n := 12) hJ.1.2.1 (by decide) c10) hJ.2.1 hJ.2.2.1) cv_M_141 mr_0 rfl rfl ⟨by decide, by decide⟩ rfl rfl (Nat.le_of_ble_eq_true rfl) ?_
    refine k_if_eq C (tgt := 25) d_M_fresh_18 (by decide) (fun c18 => ?_) (fun c18 => ?_)
    · refine k_iconst C (v := 0) d_M_fresh_25 (by decide) ?_
      exact k_zret X d_M_fresh_26 (Or.inl rfl) (k_pr ((if_neg c10).trans ((if_pos c18).trans (rfl))))
    · refine k_iconst C (v := 1) d_M_fresh_21 (by decide) ?_
      refine k_goto C (tgt := 26) d_M_fresh_22 (by decide) ?_
      exact k_zret X d_M_fresh_26 (Or.inr rfl) (k_pr ((if_neg c10).trans ((if_neg c18).trans (rfl))))

set_option maxHeartbeats 4000000 in
set_option maxRecDepth 100000 in
theorem l_M_unused {x : kCx} (l : Launch) (b : Nat → Nat → Nat) (dA : Nat → ClassId) (D : va_G) (g : kG) (n0 : Int32) (hn : vp_in n0 12) (c : Nat) (hc : g.1 14 0 (tn n0) = nI c) (h12 : c ≤ 12) (X : kIn (sysM b dA D) l b_M_unused y_M_unused.cls 4 (some .int) 1 21 x) : ∀ (n : Nat) (k : Nat) (s : Int32), k + n = c → Wk (kWd (sysM b dA D)) (kAA (sysM b dA D)) (y_ad (sysM b dA D)) x (0, 0) (kQ (sysM b dA D) (fun r g2 => r = some (.inl (mUn g (tn n0) n k s)) ∧ g2 = g) x) 33 [some (.inr (.inr (0, 0))), some (.inl n0), some (.inl s), some (.inl (nI k))] [] g := by
  have C := X.1
  have O := X.2.1
  intro n
  induction n with
  | zero =>
    intro k s hk
    refine k_iload_n C d_M_unused_33 rfl rfl ?_
    refine k_aload_n C d_M_unused_34 rfl rfl ?_
    refine k_getR C O (r := (14, _)) d_M_unused_35 fl_M_39 mr_0 rfl rfl rfl rfl ?_
    refine k_iload_n C d_M_unused_38 rfl rfl ?_
    refine k_iald2 C O d_M_unused_39 mr_14 rfl 0 rfl hn rfl ?_
    refine k_icmp_ge C (tgt := 77) d_M_unused_40 (by decide) (fun c40 => ?_) (fun c40 => ?_)
    · refine k_iload_n C d_M_unused_77 rfl rfl ?_
      exact k_iret X d_M_unused_78 (⟨rfl, rfl⟩)
    · exact absurd (x_ge hc (by omega) (by omega)) c40
  | succ n ih =>
    intro k s hk
    refine k_iload_n C d_M_unused_33 rfl rfl ?_
    refine k_aload_n C d_M_unused_34 rfl rfl ?_
    refine k_getR C O (r := (14, _)) d_M_unused_35 fl_M_39 mr_0 rfl rfl rfl rfl ?_
    refine k_iload_n C d_M_unused_38 rfl rfl ?_
    refine k_iald2 C O d_M_unused_39 mr_14 rfl 0 rfl hn rfl ?_
    refine k_icmp_ge C (tgt := 77) d_M_unused_40 (by decide) (fun c40 => ?_) (fun c40 => ?_)
    · exact absurd c40 (x_lt hc (by omega) (by omega))
    · refine k_aload_n C d_M_unused_43 rfl rfl ?_
      refine k_getR C O (r := (13, _)) d_M_unused_44 fl_M_36 mr_0 rfl rfl rfl rfl ?_
      refine k_iload_n C d_M_unused_47 rfl rfl ?_
      refine k_iald2 C O d_M_unused_48 mr_13 rfl 0 rfl hn rfl ?_
      refine k_iconst C (v := 2) d_M_unused_49 (by decide) ?_
      refine k_icmp_eq C (tgt := 77) d_M_unused_50 (by decide) (fun c50 => ?_) (fun c50 => ?_)
      · refine k_iload_n C d_M_unused_77 rfl rfl ?_
        exact k_iret X d_M_unused_78 (k_pi ((if_pos c50).trans (rfl)))
      · refine k_iload_n C d_M_unused_53 rfl rfl ?_
        refine k_iconst C (v := 1) d_M_unused_54 (by decide) ?_
        refine k_aload_n C d_M_unused_55 rfl rfl ?_
        refine k_getR C O (r := (15, _)) d_M_unused_56 fl_M_42 mr_0 rfl rfl rfl rfl ?_
        refine k_bipush C (v := 24) d_M_unused_59 (by decide) ?_
        refine k_iload_n C d_M_unused_61 rfl rfl ?_
        refine k_imul C d_M_unused_62 ?_
        refine k_iload_n C d_M_unused_63 rfl rfl ?_
        refine k_iadd C d_M_unused_64 ?_
        refine k_iald2 C O (q := (24 * tn n0 + k)) d_M_unused_65 mr_15 rfl 0 rfl (ix_in (L := 288) (c := 24) (N := 12) (k := k) rfl hn (by decide) rfl (by decide) (by omega)) (ix_q (c := 24) (N := 12) (k := k) rfl hn (by decide) rfl ⟨by decide, by omega⟩) ?_
        refine k_ishl C d_M_unused_66 ?_
        refine k_iconst C (v := (-1)) d_M_unused_67 (by decide) ?_
        refine k_ixor C d_M_unused_68 ?_
        refine k_iand C d_M_unused_69 ?_
        refine k_istore_n C d_M_unused_70 rfl (Nat.le_of_ble_eq_true rfl) rfl ?_
        refine k_iinc C (w := nI (k + 1)) d_M_unused_71 rfl (nI_inc k) rfl ?_
        refine k_goto C (tgt := 33) d_M_unused_74 (by decide) ?_
        exact k_Qi ((if_neg c50).trans rfl) (ih (k + 1) _ (by omega))

set_option maxHeartbeats 4000000 in
set_option maxRecDepth 100000 in
theorem c_M_unused (l : Launch) (b : Nat → Nat → Nat) (dA : Nat → ClassId) (D : va_G) (g : kG) (n0 : Int32) (hI : mI g) : kMd (sysM b dA D) l y_M_unused b_M_unused 4 (some .int) 1 21 [.inr (.inr (0, 0)), .inl n0] g (some (.inl (mUnused g n0))) (m0 g) := by
  refine k_enter (by decide) [some (.inr (.inr (0, 0))), some (.inl n0), none, none] rfl rfl (Nat.le_of_ble_eq_true rfl) (fun x X => ?_)
  have C := X.1
  have O := X.2.1
  refine k_aload_n C d_M_unused_0 rfl rfl ?_
  refine k_iconst C (v := 0) d_M_unused_1 (by decide) ?_
  refine k_putI C O d_M_unused_2 fp_M_94 mr_0 rfl rfl rfl ?_
  refine k_aload_n C d_M_unused_5 rfl rfl ?_
  refine k_iload_n C d_M_unused_6 rfl rfl ?_
  refine k_cvI X d_M_unused_7 (c_M_isAction l b dA D _ n0) cv_M_107 mr_0 rfl rfl ⟨by decide, by decide⟩ rfl rfl (Nat.le_of_ble_eq_true rfl) ?_
  refine k_if_ne C (tgt := 15) d_M_unused_10 (by decide) (fun c10 => ?_) (fun c10 => ?_)
  · refine k_aload_n C d_M_unused_15 rfl rfl ?_
    refine k_getR C O (r := (8, _)) d_M_unused_16 fl_M_21 mr_0 rfl rfl rfl rfl ?_
    refine k_iload_n C d_M_unused_19 rfl rfl ?_
    refine k_iald2 C O d_M_unused_20 mr_8 rfl 0 rfl (in_x (n := 12) hI.2.1 (by decide) c10) rfl ?_
    refine k_iconst C (v := 1) d_M_unused_21 (by decide) ?_
    refine k_aload_n C d_M_unused_22 rfl rfl ?_
    refine k_getI C O d_M_unused_23 fl_M_97 mr_0 rfl rfl rfl ?_
    refine k_ishl C d_M_unused_26 ?_
    refine k_iconst C (v := 1) d_M_unused_27 (by decide) ?_
    refine k_isub C d_M_unused_28 ?_
    refine k_iand C d_M_unused_29 ?_
    refine k_istore_n C d_M_unused_30 rfl (Nat.le_of_ble_eq_true rfl) rfl ?_
    refine k_iconst C (v := 0) d_M_unused_31 (by decide) ?_
    refine k_istore_n C d_M_unused_32 rfl (Nat.le_of_ble_eq_true rfl) rfl ?_
    exact k_Qi ((if_neg c10).trans rfl) (l_M_unused l b dA D (m0 g) n0 (in_x (n := 12) hI.2.1 (by decide) c10) (tn (g.1 14 0 (tn n0))) (hI.2.2.2.2.1 _ (vi_lt (in_x (n := 12) hI.2.1 (by decide) c10))).2.1 (hI.2.2.2.2.1 _ (vi_lt (in_x (n := 12) hI.2.1 (by decide) c10))).2.2 X (tn (g.1 14 0 (tn n0))) 0 _ (by omega))
  · refine k_iconst C (v := 0) d_M_unused_13 (by decide) ?_
    exact k_iret X d_M_unused_14 (k_pi ((if_pos c10).trans (rfl)))

set_option maxHeartbeats 4000000 in
set_option maxRecDepth 100000 in
theorem l_M_isMapped {x : kCx} (l : Launch) (b : Nat → Nat → Nat) (dA : Nat → ClassId) (D : va_G) (g : kG) (n0 : Int32) (hn : vp_in n0 6) (d : Int64) (c : Nat) (hc : g.1 28 0 (tn n0) = nI c) (h12 : c ≤ 4) (X : kIn (sysM b dA D) l b_M_isMapped y_M_isMapped.cls 6 (some .boolean) 0 0 x) : ∀ (n : Nat) (k : Nat) (s : Int32), kZ s → k + n = c → Wk (kWd (sysM b dA D)) (kAA (sysM b dA D)) (y_ad (sysM b dA D)) x (0, 0) (kQ (sysM b dA D) (fun r g2 => r = some (.inl (mIm g (tn n0) d n k s)) ∧ g2 = g) x) 6 [some (.inr (.inr (0, 0))), some (.inl n0), some (.inr (.inl d)), none, some (.inl s), some (.inl (nI k))] [] g := by
  have C := X.1
  have O := X.2.1
  intro n
  induction n with
  | zero =>
    intro k s hz hk
    refine k_iload C d_M_isMapped_6 rfl ?_
    refine k_aload_n C d_M_isMapped_8 rfl rfl ?_
    refine k_getR C O (r := (28, _)) d_M_isMapped_9 fl_M_78 mr_0 rfl rfl rfl rfl ?_
    refine k_iload_n C d_M_isMapped_12 rfl rfl ?_
    refine k_iald2 C O d_M_isMapped_13 mr_28 rfl 0 rfl hn rfl ?_
    refine k_icmp_ge C (tgt := 51) d_M_isMapped_14 (by decide) (fun c14 => ?_) (fun c14 => ?_)
    · refine k_iload C d_M_isMapped_51 rfl ?_
      exact k_zret X d_M_isMapped_53 hz (⟨rfl, rfl⟩)
    · exact absurd (x_ge hc (by omega) (by omega)) c14
  | succ n ih =>
    intro k s hz hk
    refine k_iload C d_M_isMapped_6 rfl ?_
    refine k_aload_n C d_M_isMapped_8 rfl rfl ?_
    refine k_getR C O (r := (28, _)) d_M_isMapped_9 fl_M_78 mr_0 rfl rfl rfl rfl ?_
    refine k_iload_n C d_M_isMapped_12 rfl rfl ?_
    refine k_iald2 C O d_M_isMapped_13 mr_28 rfl 0 rfl hn rfl ?_
    refine k_icmp_ge C (tgt := 51) d_M_isMapped_14 (by decide) (fun c14 => ?_) (fun c14 => ?_)
    · exact absurd c14 (x_lt hc (by omega) (by omega))
    · refine k_iload C d_M_isMapped_17 rfl ?_
      refine k_if_ne C (tgt := 38) d_M_isMapped_19 (by decide) (fun c19 => ?_) (fun c19 => ?_)
      · refine k_iconst C (v := 1) d_M_isMapped_38 (by decide) ?_
        refine k_goto C (tgt := 43) d_M_isMapped_39 (by decide) ?_
        refine k_istore C d_M_isMapped_43 (Nat.le_of_ble_eq_true rfl) rfl ?_
        refine k_iinc C (w := nI (k + 1)) d_M_isMapped_45 rfl (nI_inc k) rfl ?_
        refine k_goto C (tgt := 6) d_M_isMapped_48 (by decide) ?_
        exact k_Qi ((if_neg c19).trans (rfl)) (ih (k + 1) _ (by first | exact Or.inl rfl | exact Or.inr rfl) (by omega))
      · refine k_aload_n C d_M_isMapped_22 rfl rfl ?_
        refine k_getR C O (r := (30, _)) d_M_isMapped_23 fl_M_84 mr_0 rfl rfl rfl rfl ?_
        refine k_iconst C (v := 4) d_M_isMapped_26 (by decide) ?_
        refine k_iload_n C d_M_isMapped_27 rfl rfl ?_
        refine k_imul C d_M_isMapped_28 ?_
        refine k_iload C d_M_isMapped_29 rfl ?_
        refine k_iadd C d_M_isMapped_31 ?_
        refine k_lald2 C O (q := (4 * tn n0 + k)) d_M_isMapped_32 mr_30 rfl 2 rfl (ix_in (L := 24) (c := 4) (N := 6) (k := k) rfl hn (by decide) rfl (by decide) (by omega)) (ix_q (c := 4) (N := 6) (k := k) rfl hn (by decide) rfl ⟨by decide, by omega⟩) ?_
        refine k_lload_n C d_M_isMapped_33 rfl rfl ?_
        refine k_lcmp C d_M_isMapped_34 ?_
        refine k_if_ne C (tgt := 42) d_M_isMapped_35 (by decide) (fun c35 => ?_) (fun c35 => ?_)
        · refine k_iconst C (v := 0) d_M_isMapped_42 (by decide) ?_
          refine k_istore C d_M_isMapped_43 (Nat.le_of_ble_eq_true rfl) rfl ?_
          refine k_iinc C (w := nI (k + 1)) d_M_isMapped_45 rfl (nI_inc k) rfl ?_
          refine k_goto C (tgt := 6) d_M_isMapped_48 (by decide) ?_
          exact k_Qi ((if_pos c19).trans ((if_neg c35).trans (rfl))) (ih (k + 1) _ (by first | exact Or.inl rfl | exact Or.inr rfl) (by omega))
        · refine k_iconst C (v := 1) d_M_isMapped_38 (by decide) ?_
          refine k_goto C (tgt := 43) d_M_isMapped_39 (by decide) ?_
          refine k_istore C d_M_isMapped_43 (Nat.le_of_ble_eq_true rfl) rfl ?_
          refine k_iinc C (w := nI (k + 1)) d_M_isMapped_45 rfl (nI_inc k) rfl ?_
          refine k_goto C (tgt := 6) d_M_isMapped_48 (by decide) ?_
          exact k_Qi ((if_pos c19).trans ((if_pos c35).trans (rfl))) (ih (k + 1) _ (by first | exact Or.inl rfl | exact Or.inr rfl) (by omega))

set_option maxHeartbeats 4000000 in
set_option maxRecDepth 100000 in
theorem c_M_isMapped (l : Launch) (b : Nat → Nat → Nat) (dA : Nat → ClassId) (D : va_G) (g : kG) (n0 : Int32) (hn : vp_in n0 6) (d : Int64) (c : Nat) (hc : g.1 28 0 (tn n0) = nI c) (h12 : c ≤ 4) : kMd (sysM b dA D) l y_M_isMapped b_M_isMapped 6 (some .boolean) 0 0 [.inr (.inr (0, 0)), .inl n0, .inr (.inl d)] g (some (.inl (mIm g (tn n0) d c 0 0))) g := by
  refine k_enter (by decide) [some (.inr (.inr (0, 0))), some (.inl n0), some (.inr (.inl d)), none, none, none] rfl rfl (Nat.le_of_ble_eq_true rfl) (fun x X => ?_)
  have C := X.1
  have O := X.2.1
  refine k_iconst C (v := 0) d_M_isMapped_0 (by decide) ?_
  refine k_istore C d_M_isMapped_1 (Nat.le_of_ble_eq_true rfl) rfl ?_
  refine k_iconst C (v := 0) d_M_isMapped_3 (by decide) ?_
  refine k_istore C d_M_isMapped_4 (Nat.le_of_ble_eq_true rfl) rfl ?_
  exact l_M_isMapped l b dA D g n0 hn d c hc h12 X c 0 0 (Or.inl rfl) (by omega)

set_option maxHeartbeats 4000000 in
set_option maxRecDepth 100000 in
theorem l_M_an {x : kCx} {Q : State → Prop} (l : Launch) (b : Nat → Nat → Nat) (dA : Nat → ClassId) (D : va_G) (g : kG) (n0 f0 : Int32) (hn : vp_in n0 6) (hf : vp_in f0 24) (c : Nat) (hc : g.1 28 0 (tn n0) = nI c) (h12 : c ≤ 4) (w : Nat) (hw : w ≤ 4) (X : kIn (sysM b dA D) l b_M_map y_M_map.cls 6 (some .int) 3 68 x) : ∀ (n : Nat) (k : Nat) (a : Int32), k + n = w → (Wk (kWd (sysM b dA D)) (kAA (sysM b dA D)) (y_ad (sysM b dA D)) x (0, 0) Q 113 [some (.inr (.inr (0, 0))), some (.inl n0), some (.inl f0), some (.inl (nI w)), some (.inl (mAn g (tn n0) (tn f0) n k a)), some (.inl (nI w))] [] g) → Wk (kWd (sysM b dA D)) (kAA (sysM b dA D)) (y_ad (sysM b dA D)) x (0, 0) Q 72 [some (.inr (.inr (0, 0))), some (.inl n0), some (.inl f0), some (.inl (nI w)), some (.inl a), some (.inl (nI k))] [] g := by
  have C := X.1
  have O := X.2.1
  intro n
  induction n with
  | zero =>
    intro k a hk K
    refine k_iload C d_M_map_72 rfl ?_
    refine k_iload_n C d_M_map_74 rfl rfl ?_
    refine k_icmp_ge C (tgt := 113) d_M_map_75 (by decide) (fun c75 => ?_) (fun c75 => ?_)
    · have e9 : k = w := by omega
      rw [e9]
      exact K
    · exact absurd (x_ge rfl (by omega) (by omega)) c75
  | succ n ih =>
    intro k a hk K
    refine k_iload C d_M_map_72 rfl ?_
    refine k_iload_n C d_M_map_74 rfl rfl ?_
    refine k_icmp_ge C (tgt := 113) d_M_map_75 (by decide) (fun c75 => ?_) (fun c75 => ?_)
    · exact absurd c75 (x_lt rfl (by omega) (by omega))
    · refine k_iload C d_M_map_78 rfl ?_
      refine k_aload_n C d_M_map_80 rfl rfl ?_
      refine k_iload_n C d_M_map_81 rfl rfl ?_
      refine k_aload_n C d_M_map_82 rfl rfl ?_
      refine k_getR C O (r := (6, _)) d_M_map_83 fl_M_13 mr_0 rfl rfl rfl rfl ?_
      refine k_iload_n C d_M_map_86 rfl rfl ?_
      refine k_lald2 C O d_M_map_87 mr_6 rfl 2 rfl hf rfl ?_
      refine k_iload C d_M_map_88 rfl ?_
      refine k_csJ X d_M_map_90 (c_M_member l b dA D g _ (nI k)) cs_M_168 ⟨by decide, by decide⟩ rfl rfl (Nat.le_of_ble_eq_true rfl) ?_
      refine k_cvI X d_M_map_93 (c_M_isMapped l b dA D g n0 hn _ c hc h12) cv_M_172 mr_0 rfl rfl ⟨by decide, by decide⟩ rfl rfl (Nat.le_of_ble_eq_true rfl) ?_
      refine k_if_eq C (tgt := 103) d_M_map_96 (by decide) (fun c96 => ?_) (fun c96 => ?_)
      · refine k_iconst C (v := 1) d_M_map_103 (by decide) ?_
        refine k_iadd C d_M_map_104 ?_
        refine k_istore C d_M_map_105 (Nat.le_of_ble_eq_true rfl) rfl ?_
        refine k_iinc C (w := nI (k + 1)) d_M_map_107 rfl (nI_inc k) rfl ?_
        refine k_goto C (tgt := 72) d_M_map_110 (by decide) ?_
        have e9 : tn (g.1 28 0 (tn n0)) = c := by rw [hc]; exact nI_clamp (by omega)
        simp only [mAn, e9, if_pos c96] at K
        exact ih (k + 1) _ (by omega) K
      · refine k_iconst C (v := 0) d_M_map_99 (by decide) ?_
        refine k_goto C (tgt := 104) d_M_map_100 (by decide) ?_
        refine k_iadd C d_M_map_104 ?_
        refine k_istore C d_M_map_105 (Nat.le_of_ble_eq_true rfl) rfl ?_
        refine k_iinc C (w := nI (k + 1)) d_M_map_107 rfl (nI_inc k) rfl ?_
        refine k_goto C (tgt := 72) d_M_map_110 (by decide) ?_
        have e9 : tn (g.1 28 0 (tn n0)) = c := by rw [hc]; exact nI_clamp (by omega)
        simp only [mAn, e9, if_neg c96] at K
        exact ih (k + 1) _ (by omega) K

set_option maxHeartbeats 4000000 in
set_option maxRecDepth 100000 in
theorem l_M_st {x : kCx} {Q : State → Prop} (l : Launch) (b : Nat → Nat → Nat) (dA : Nat → ClassId) (D : va_G) (n0 f0 : Int32) (hn : vp_in n0 6) (hf : vp_in f0 24) (w : Nat) (hw : w ≤ 4) (a : Int32) (X : kIn (sysM b dA D) l b_M_map y_M_map.cls 6 (some .int) 3 68 x) : ∀ (n : Nat) (k : Nat) (g : kG), k + n = w → (Wk (kWd (sysM b dA D)) (kAA (sysM b dA D)) (y_ad (sysM b dA D)) x (0, 0) Q 183 [some (.inr (.inr (0, 0))), some (.inl n0), some (.inl f0), some (.inl (nI w)), some (.inl a), some (.inl (nI w))] [] (mSt (tn n0) (tn f0) n k g)) → Wk (kWd (sysM b dA D)) (kAA (sysM b dA D)) (y_ad (sysM b dA D)) x (0, 0) Q 116 [some (.inr (.inr (0, 0))), some (.inl n0), some (.inl f0), some (.inl (nI w)), some (.inl a), some (.inl (nI k))] [] g := by
  have C := X.1
  have O := X.2.1
  intro n
  induction n with
  | zero =>
    intro k g hk K
    refine k_iload C d_M_map_116 rfl ?_
    refine k_iload_n C d_M_map_118 rfl rfl ?_
    refine k_icmp_ge C (tgt := 183) d_M_map_119 (by decide) (fun c119 => ?_) (fun c119 => ?_)
    · have e9 : k = w := by omega
      rw [e9]
      exact K
    · exact absurd (x_ge rfl (by omega) (by omega)) c119
  | succ n ih =>
    intro k g hk K
    refine k_iload C d_M_map_116 rfl ?_
    refine k_iload_n C d_M_map_118 rfl rfl ?_
    refine k_icmp_ge C (tgt := 183) d_M_map_119 (by decide) (fun c119 => ?_) (fun c119 => ?_)
    · exact absurd c119 (x_lt rfl (by omega) (by omega))
    · refine k_aload_n C d_M_map_122 rfl rfl ?_
      refine k_getR C O (r := (30, _)) d_M_map_123 fl_M_84 mr_0 rfl rfl rfl rfl ?_
      refine k_iconst C (v := 4) d_M_map_126 (by decide) ?_
      refine k_iload_n C d_M_map_127 rfl rfl ?_
      refine k_imul C d_M_map_128 ?_
      refine k_iload C d_M_map_129 rfl ?_
      refine k_iadd C d_M_map_131 ?_
      refine k_aload_n C d_M_map_132 rfl rfl ?_
      refine k_getR C O (r := (6, _)) d_M_map_133 fl_M_13 mr_0 rfl rfl rfl rfl ?_
      refine k_iload_n C d_M_map_136 rfl rfl ?_
      refine k_lald2 C O d_M_map_137 mr_6 rfl 2 rfl hf rfl ?_
      refine k_iload C d_M_map_138 rfl ?_
      refine k_csJ X d_M_map_140 (c_M_member l b dA D _ _ (nI k)) cs_M_168 ⟨by decide, by decide⟩ rfl rfl (Nat.le_of_ble_eq_true rfl) ?_
      refine k_last2 C O (q := (4 * tn n0 + k)) d_M_map_143 mr_30 rfl 2 rfl (ix_in (L := 24) (c := 4) (N := 6) (k := k) rfl hn (by decide) rfl (by decide) (by omega)) (ix_q (c := 4) (N := 6) (k := k) rfl hn (by decide) rfl ⟨by decide, by omega⟩) ?_
      refine k_aload_n C d_M_map_144 rfl rfl ?_
      refine k_getR C O (r := (31, _)) d_M_map_145 fl_M_87 mr_0 rfl rfl rfl rfl ?_
      refine k_iconst C (v := 4) d_M_map_148 (by decide) ?_
      refine k_iload_n C d_M_map_149 rfl rfl ?_
      refine k_imul C d_M_map_150 ?_
      refine k_iload C d_M_map_151 rfl ?_
      refine k_iadd C d_M_map_153 ?_
      refine k_ldc2 C (v := 17) d_M_map_154 (by decide +kernel) ?_
      refine k_aload_n C d_M_map_157 rfl rfl ?_
      refine k_getR C O (r := (6, _)) d_M_map_158 fl_M_13 mr_0 rfl rfl rfl rfl ?_
      refine k_iload_n C d_M_map_161 rfl rfl ?_
      refine k_lald2 C O d_M_map_162 mr_6 rfl 2 rfl hf rfl ?_
      refine k_iload C d_M_map_163 rfl ?_
      refine k_csJ X d_M_map_165 (c_M_member l b dA D _ _ (nI k)) cs_M_168 ⟨by decide, by decide⟩ rfl rfl (Nat.le_of_ble_eq_true rfl) ?_
      refine k_lmul C d_M_map_168 ?_
      refine k_aload_n C d_M_map_169 rfl rfl ?_
      refine k_getR C O (r := (29, _)) d_M_map_170 fl_M_81 mr_0 rfl rfl rfl rfl ?_
      refine k_iload_n C d_M_map_173 rfl rfl ?_
      refine k_lald2 C O d_M_map_174 mr_29 rfl 2 rfl hn rfl ?_
      refine k_ladd C d_M_map_175 ?_
      refine k_last2 C O (q := (4 * tn n0 + k)) d_M_map_176 mr_31 rfl 2 rfl (ix_in (L := 24) (c := 4) (N := 6) (k := k) rfl hn (by decide) rfl (by decide) (by omega)) (ix_q (c := 4) (N := 6) (k := k) rfl hn (by decide) rfl ⟨by decide, by omega⟩) ?_
      refine k_iinc C (w := nI (k + 1)) d_M_map_177 rfl (nI_inc k) rfl ?_
      refine k_goto C (tgt := 116) d_M_map_180 (by decide) ?_
      exact ih (k + 1) _ (by omega) K

set_option maxHeartbeats 4000000 in
set_option maxRecDepth 100000 in
theorem c_M_map (l : Launch) (b : Nat → Nat → Nat) (dA : Nat → ClassId) (D : va_G) (g : kG) (n0 : Int32) (hJ : mJ g) (ht : ∃ w : Nat, w ≤ 4 ∧ (mMof (mFr (m0 g)) (tn (g.1 27 0 (tn n0)))) = nI w) : kMd (sysM b dA D) l y_M_map b_M_map 6 (some .int) 3 68 [.inr (.inr (0, 0)), .inl n0] g (some (.inl (mMap g n0).1)) (mMap g n0).2 := by
  obtain ⟨w, hw, ew⟩ := ht
  have ew2 : tn (mMof (mFr (m0 g)) (tn (g.1 27 0 (tn n0)))) = w := by rw [ew]; exact nI_clamp (by omega)
  refine k_enter (by decide) [some (.inr (.inr (0, 0))), some (.inl n0), none, none, none, none] rfl rfl (Nat.le_of_ble_eq_true rfl) (fun x X => ?_)
  have C := X.1
  have O := X.2.1
  refine k_aload_n C d_M_map_0 rfl rfl ?_
  refine k_iconst C (v := 0) d_M_map_1 (by decide) ?_
  refine k_putI C O d_M_map_2 fp_M_94 mr_0 rfl rfl rfl ?_
  refine k_iload_n C d_M_map_5 rfl rfl ?_
  refine k_if_lt C (tgt := 17) d_M_map_6 (by decide) (fun c6 => ?_) (fun c6 => ?_)
  · refine k_iconst C (v := (-1)) d_M_map_17 (by decide) ?_
    exact k_iret X d_M_map_18 (k_pr ((if_pos c6).trans (rfl)))
  · refine k_iload_n C d_M_map_9 rfl rfl ?_
    refine k_aload_n C d_M_map_10 rfl rfl ?_
    refine k_getI C O d_M_map_11 fl_M_163 mr_0 rfl rfl rfl ?_
    refine k_icmp_lt C (tgt := 19) d_M_map_14 (by decide) (fun c14 => ?_) (fun c14 => ?_)
    · refine k_aload_n C d_M_map_19 rfl rfl ?_
      refine k_getR C O (r := (27, _)) d_M_map_20 fl_M_75 mr_0 rfl rfl rfl rfl ?_
      refine k_iload_n C d_M_map_23 rfl rfl ?_
      refine k_iald2 C O d_M_map_24 mr_27 rfl 0 rfl (in_v (n := 6) hJ.1.2.2.1 (by decide) c6 (fun q3 => absurd c14 (Int32.not_lt.mpr q3))) rfl ?_
      refine k_istore_n C d_M_map_25 rfl (Nat.le_of_ble_eq_true rfl) rfl ?_
      refine k_aload_n C d_M_map_26 rfl rfl ?_
      refine k_getR C O (r := (7, _)) d_M_map_27 fl_M_17 mr_0 rfl rfl rfl rfl ?_
      refine k_iload_n C d_M_map_30 rfl rfl ?_
      refine k_iald2 C O d_M_map_31 mr_7 rfl 0 rfl ((hJ.1.2.2.2.2.2.1 _ (vi_lt (in_v (n := 6) hJ.1.2.2.1 (by decide) c6 (fun q3 => absurd c14 (Int32.not_lt.mpr q3))))).2) rfl ?_
      refine k_iconst C (v := (-1)) d_M_map_32 (by decide) ?_
      refine k_icmp_eq C (tgt := 58) d_M_map_33 (by decide) (fun c33 => ?_) (fun c33 => ?_)
      · refine k_iconst C (v := (-1)) d_M_map_58 (by decide) ?_
        exact k_iret X d_M_map_59 (k_pr ((if_neg c6).trans ((if_pos c14).trans ((if_pos c33).trans (rfl)))))
      · refine k_aload_n C d_M_map_36 rfl rfl ?_
        refine k_getR C O (r := (5, _)) d_M_map_37 fl_M_7 mr_0 rfl rfl rfl rfl ?_
        refine k_iload_n C d_M_map_40 rfl rfl ?_
        refine k_zald2 C O d_M_map_41 mr_5 rfl 1 rfl ((hJ.1.2.2.2.2.2.1 _ (vi_lt (in_v (n := 6) hJ.1.2.2.1 (by decide) c6 (fun q3 => absurd c14 (Int32.not_lt.mpr q3))))).2) rfl ?_
        refine k_if_eq C (tgt := 58) d_M_map_42 (by decide) (fun c42 => ?_) (fun c42 => ?_)
        · refine k_iconst C (v := (-1)) d_M_map_58 (by decide) ?_
          exact k_iret X d_M_map_59 (k_pr ((if_neg c6).trans ((if_pos c14).trans ((if_neg c33).trans ((if_pos c42).trans (rfl))))))
        · refine k_aload_n C d_M_map_45 rfl rfl ?_
          refine k_aload_n C d_M_map_46 rfl rfl ?_
          refine k_getR C O (r := (7, _)) d_M_map_47 fl_M_17 mr_0 rfl rfl rfl rfl ?_
          refine k_iload_n C d_M_map_50 rfl rfl ?_
          refine k_iald2 C O d_M_map_51 mr_7 rfl 0 rfl ((hJ.1.2.2.2.2.2.1 _ (vi_lt (in_v (n := 6) hJ.1.2.2.1 (by decide) c6 (fun q3 => absurd c14 (Int32.not_lt.mpr q3))))).2) rfl ?_
          refine k_cvI X d_M_map_52 (c_M_isFreshNow l b dA D (m0 g) _ ((hJ.2.1.2.2 _ (vi_lt (hJ.1.2.2.2.2.2.1 _ (vi_lt (in_v (n := 6) hJ.1.2.2.1 (by decide) c6 (fun q3 => absurd c14 (Int32.not_lt.mpr q3))))).2)).resolve_left c33) hJ.2.1 hJ.2.2.1) cv_M_141 mr_0 rfl rfl ⟨by decide, by decide⟩ rfl rfl (Nat.le_of_ble_eq_true rfl) ?_
          refine k_if_ne C (tgt := 60) d_M_map_55 (by decide) (fun c55 => ?_) (fun c55 => ?_)
          · refine k_aload_n C d_M_map_60 rfl rfl ?_
            refine k_iload_n C d_M_map_61 rfl rfl ?_
            refine k_cvI X d_M_map_62 (c_M_membersOf l b dA D (mFr (m0 g)) _ ((hJ.1.2.2.2.2.2.1 _ (vi_lt (in_v (n := 6) hJ.1.2.2.1 (by decide) c6 (fun q3 => absurd c14 (Int32.not_lt.mpr q3))))).2)) cv_M_160 mr_0 rfl rfl ⟨by decide, by decide⟩ rfl rfl (Nat.le_of_ble_eq_true rfl) ?_
            rw [ew]
            refine k_istore_n C d_M_map_65 rfl (Nat.le_of_ble_eq_true rfl) rfl ?_
            refine k_iconst C (v := 0) d_M_map_66 (by decide) ?_
            refine k_istore C d_M_map_67 (Nat.le_of_ble_eq_true rfl) rfl ?_
            refine k_iconst C (v := 0) d_M_map_69 (by decide) ?_
            refine k_istore C d_M_map_70 (Nat.le_of_ble_eq_true rfl) rfl ?_
            refine l_M_an l b dA D (mFr (m0 g)) n0 (g.1 27 0 (tn n0)) (in_v (n := 6) hJ.1.2.2.1 (by decide) c6 (fun q3 => absurd c14 (Int32.not_lt.mpr q3))) ((hJ.1.2.2.2.2.2.1 _ (vi_lt (in_v (n := 6) hJ.1.2.2.1 (by decide) c6 (fun q3 => absurd c14 (Int32.not_lt.mpr q3))))).2) (tn (g.1 28 0 (tn n0))) (by rw [mFr_fr (m0 g) 28 0 _ (by decide)]; exact (hJ.1.2.2.2.2.2.1 _ (vi_lt (in_v (n := 6) hJ.1.2.2.1 (by decide) c6 (fun q3 => absurd c14 (Int32.not_lt.mpr q3))))).1.1) (hJ.1.2.2.2.2.2.1 _ (vi_lt (in_v (n := 6) hJ.1.2.2.1 (by decide) c6 (fun q3 => absurd c14 (Int32.not_lt.mpr q3))))).1.2 w hw X w 0 0 (by omega) ?_
            refine k_iconst C (v := 0) d_M_map_113 (by decide) ?_
            refine k_istore C d_M_map_114 (Nat.le_of_ble_eq_true rfl) rfl ?_
            refine l_M_st l b dA D n0 (g.1 27 0 (tn n0)) (in_v (n := 6) hJ.1.2.2.1 (by decide) c6 (fun q3 => absurd c14 (Int32.not_lt.mpr q3))) ((hJ.1.2.2.2.2.2.1 _ (vi_lt (in_v (n := 6) hJ.1.2.2.1 (by decide) c6 (fun q3 => absurd c14 (Int32.not_lt.mpr q3))))).2) w hw _ X w 0 (mFr (m0 g)) (by omega) ?_
            refine k_aload_n C d_M_map_183 rfl rfl ?_
            refine k_getR C O (r := (28, _)) d_M_map_184 fl_M_78 mr_0 rfl rfl rfl rfl ?_
            refine k_iload_n C d_M_map_187 rfl rfl ?_
            refine k_iload_n C d_M_map_188 rfl rfl ?_
            refine k_iast2 C O d_M_map_189 mr_28 rfl 0 rfl (in_v (n := 6) hJ.1.2.2.1 (by decide) c6 (fun q3 => absurd c14 (Int32.not_lt.mpr q3))) rfl ?_
            refine k_iload C d_M_map_190 rfl ?_
            exact k_iret X d_M_map_192 (k_pr ((if_neg c6).trans ((if_pos c14).trans ((if_neg c33).trans ((if_neg c42).trans ((if_neg c55).trans (by unfold mTake; rw [ew2, ew])))))) )
          · refine k_iconst C (v := (-1)) d_M_map_58 (by decide) ?_
            exact k_iret X d_M_map_59 (k_pr ((if_neg c6).trans ((if_pos c14).trans ((if_neg c33).trans ((if_neg c42).trans ((if_pos c55).trans (rfl)))))))
    · refine k_iconst C (v := (-1)) d_M_map_17 (by decide) ?_
      exact k_iret X d_M_map_18 (k_pr ((if_neg c6).trans ((if_neg c14).trans (rfl))))

