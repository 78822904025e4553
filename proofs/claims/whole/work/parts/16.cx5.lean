/-! the class: resolve (by program: wip/gen/cx5.py) -/
def xMk (g : kG) (e : Nat) : Int32 := ((xRun g (g.1 4 0 e)).2.1 5 (tn ((xRun g (g.1 4 0 e)).2.1 6 (tn (g.1 4 0 e)) 9)) 2)
def xTl (g : kG) (e : Nat) : Int32 × kG := xTr (xRun g (g.1 4 0 e)).2 (xMk g e) (e + 1) (e + 1) 0
def xPush (g : kG) (e : Nat) : kG := (kU (xTl g e).2.1 4 0 (e + 1) (xMk g e), (xTl g e).2.2)
def xRs : Nat → Nat → kG → Int32 × kG
  | 0, _, g => (-2, g)
  | n + 1, e, g => if 13 ≤ nI (e + 1) then (-2, g) else if (xRun g (g.1 4 0 e)).1 = 0 then (if (xTl g e).1 = 0 then xRs n (e + 1) (xPush g e) else (-5, (xTl g e).2)) else if nI (e + 1) = 1 then (xRun g (g.1 4 0 e)) else if (xRun g (g.1 4 0 e)).1 = -1 then (xRun g (g.1 4 0 e)) else if (xRun g (g.1 4 0 e)).1 = -2 then (xRun g (g.1 4 0 e)) else xRs n (e - 1) (xRun g (g.1 4 0 e)).2
def xResolve (g : kG) (n : Int32) : Int32 × kG := if xIn n (g.1 0 0 5) = 0 then (-9, g) else xRs 10000 0 (kU (kU g.1 0 0 9 0) 4 0 0 n, g.2)
theorem x_dp (e : Nat) : nI (e + 1) - 1 = nI e := nI_pred e
theorem x_dec (e : Nat) (h : 1 ≤ e) : nI (e + 1) + Int32.ofInt (-1) = nI (e - 1 + 1) := by
  rw [show e - 1 + 1 = e by omega]
  exact pk_m1 e
set_option maxHeartbeats 4000000 in
set_option maxRecDepth 100000 in
theorem l_X_resolve {x : kCx} (l : Launch) (b : Nat → Nat → Nat) (dA : Nat → ClassId) (D : va_G) (P : Nat → kG → Prop) (hP : ∀ e g, P e g → xI g ∧ e ≤ 11 ∧ vp_in (g.1 4 0 e) 12) (hP1 : ∀ e g, P e g → (xRun g (g.1 4 0 e)).1 = 0 → vp_in ((xRun g (g.1 4 0 e)).2.1 6 (tn (g.1 4 0 e)) 9) 24 ∧ ((xTl g e).1 = 0 → P (e + 1) (xPush g e))) (hP2 : ∀ e g, P e g → 1 ≤ e → ¬ (xRun g (g.1 4 0 e)).1 = 0 → ¬ (xRun g (g.1 4 0 e)).1 = -1 → ¬ (xRun g (g.1 4 0 e)).1 = -2 → P (e - 1) (xRun g (g.1 4 0 e)).2) (n0 : Int32) (X : kIn (sysX b dA D) l b_X_resolve y_X_resolve.cls 7 (some .int) 6 145 x) : ∀ (n : Nat) (r e : Nat) (g : kG) (z4 z5 z6 : Option kV), r + n = 10000 → P e g → Wk (kWd (sysX b dA D)) (kAA (sysX b dA D)) (y_ad (sysX b dA D)) x (0, 0) (kQ (sysX b dA D) (fun r g2 => r = some (.inl (xRs n e g).1) ∧ g2 = (xRs n e g).2) x) 27 [some (.inr (.inr (0, 0))), some (.inl n0), some (.inl (nI (e + 1))), some (.inl (nI r)), z4, z5, z6] [] g := by
  have C := X.1
  have O := X.2.1
  intro n
  induction n with
  | zero =>
    intro r e g z4 z5 z6 hr hPe
    refine k_iload_n C d_X_resolve_27 rfl rfl ?_
    refine k_sipush C (v := 10000) d_X_resolve_28 (by decide) ?_
    refine k_icmp_ge C (tgt := 143) d_X_resolve_31 (by decide) (fun c31 => ?_) (fun c31 => ?_)
    · refine k_bipush C (v := (-2)) d_X_resolve_143 (by decide) ?_
      exact k_iret X d_X_resolve_145 (⟨rfl, rfl⟩)
    · exact absurd (show (10000 : Int32) ≤ nI r from nI_le (a := 10000) (by omega) (by omega)) c31
  | succ n ih =>
    intro r e g z4 z5 z6 hr hPe
    obtain ⟨hI, he, hv⟩ := hP e g hPe
    refine k_iload_n C d_X_resolve_27 rfl rfl ?_
    refine k_sipush C (v := 10000) d_X_resolve_28 (by decide) ?_
    refine k_icmp_ge C (tgt := 143) d_X_resolve_31 (by decide) (fun c31 => ?_) (fun c31 => ?_)
    · exact absurd c31 (show ¬ (10000 : Int32) ≤ nI r from nI_ge (b := 10000) (by omega) (by omega))
    · refine k_iload_n C d_X_resolve_34 rfl rfl ?_
      refine k_aload_n C d_X_resolve_35 rfl rfl ?_
      refine k_getR C O (r := (4, _)) d_X_resolve_36 fl_X_37 xr_0 rfl rfl rfl rfl ?_
      refine k_alen C O (v := 13) d_X_resolve_39 xr_4 rfl 0 rfl rfl ?_
      refine k_icmp_ge C (tgt := 143) d_X_resolve_40 (by decide) (fun c40 => ?_) (fun c40 => ?_)
      · refine k_bipush C (v := (-2)) d_X_resolve_143 (by decide) ?_
        exact k_iret X d_X_resolve_145 (k_pr ((if_pos c40).trans (rfl)))
      · refine k_aload_n C d_X_resolve_43 rfl rfl ?_
        refine k_getR C O (r := (4, _)) d_X_resolve_44 fl_X_37 xr_0 rfl rfl rfl rfl ?_
        refine k_iload_n C d_X_resolve_47 rfl rfl ?_
        refine k_iconst C (v := 1) d_X_resolve_48 (by decide) ?_
        refine k_isub C d_X_resolve_49 ?_
        refine k_iald2 C O (q := e) d_X_resolve_50 xr_4 rfl 0 rfl (show vp_in (nI (e + 1) - 1) 13 from by rw [x_dp]; exact vp_in_nI (by omega) (by decide)) (by rw [x_dp]; exact nI_clamp (by omega)) ?_
        refine k_istore C d_X_resolve_51 (Nat.le_of_ble_eq_true rfl) rfl ?_
        refine k_aload_n C d_X_resolve_53 rfl rfl ?_
        refine k_iload C d_X_resolve_54 rfl ?_
        refine k_cvI X d_X_resolve_56 (c_X_runOnce l b dA D g (g.1 4 0 e) hv hI) cv_X_99 xr_0 rfl rfl ⟨by decide, by decide⟩ rfl rfl (Nat.le_of_ble_eq_true rfl) ?_
        refine k_istore C d_X_resolve_59 (Nat.le_of_ble_eq_true rfl) rfl ?_
        refine k_iload C d_X_resolve_61 rfl ?_
        refine k_if_ne C (tgt := 113) d_X_resolve_63 (by decide) (fun c63 => ?_) (fun c63 => ?_)
        · refine k_iload_n C d_X_resolve_113 rfl rfl ?_
          refine k_iconst C (v := 1) d_X_resolve_114 (by decide) ?_
          refine k_icmp_eq C (tgt := 131) d_X_resolve_115 (by decide) (fun c115 => ?_) (fun c115 => ?_)
          · refine k_iload C d_X_resolve_131 rfl ?_
            exact k_iret X d_X_resolve_133 (k_pr ((if_neg c40).trans ((if_neg c63).trans ((if_pos c115).trans (rfl)))))
          · refine k_iload C d_X_resolve_118 rfl ?_
            refine k_iconst C (v := (-1)) d_X_resolve_120 (by decide) ?_
            refine k_icmp_eq C (tgt := 131) d_X_resolve_121 (by decide) (fun c121 => ?_) (fun c121 => ?_)
            · refine k_iload C d_X_resolve_131 rfl ?_
              exact k_iret X d_X_resolve_133 (k_pr ((if_neg c40).trans ((if_neg c63).trans ((if_neg c115).trans ((if_pos c121).trans (rfl))))))
            · refine k_iload C d_X_resolve_124 rfl ?_
              refine k_bipush C (v := (-2)) d_X_resolve_126 (by decide) ?_
              refine k_icmp_ne C (tgt := 134) d_X_resolve_128 (by decide) (fun c128 => ?_) (fun c128 => ?_)
              · have h1e : 1 ≤ e := by
                  rcases Nat.eq_zero_or_pos e with q | q
                  · exact absurd (by rw [q]; rfl) c115
                  · exact q
                refine k_iinc C (w := nI (e - 1 + 1)) d_X_resolve_134 rfl (x_dec e h1e) rfl ?_
                refine k_iinc C (w := nI (r + 1)) d_X_resolve_137 rfl (nI_inc r) rfl ?_
                refine k_goto C (tgt := 27) d_X_resolve_140 (by decide) ?_
                exact k_Qs ((if_neg c40).trans ((if_neg c63).trans ((if_neg c115).trans ((if_neg c121).trans ((if_neg c128).trans (rfl)))))) (ih (r + 1) (e - 1) _ _ _ _ (by omega) (hP2 e g hPe h1e c63 c121 c128))
              · refine k_iload C d_X_resolve_131 rfl ?_
                exact k_iret X d_X_resolve_133 (k_pr ((if_neg c40).trans ((if_neg c63).trans ((if_neg c115).trans ((if_neg c121).trans ((if_pos c128).trans (rfl)))))))
        · refine k_aload_n C d_X_resolve_66 rfl rfl ?_
          refine k_getR C O (r := (1, _)) d_X_resolve_67 fl_X_11 xr_0 rfl rfl rfl rfl ?_
          refine k_aload_n C d_X_resolve_70 rfl rfl ?_
          refine k_getR C O (r := (2, _)) d_X_resolve_71 fl_X_17 xr_0 rfl rfl rfl rfl ?_
          refine k_iload C d_X_resolve_74 rfl ?_
          refine k_aald2 C O (r := (6, _)) d_X_resolve_76 xr_2 rfl 4 rfl hv rfl rfl ?_
          refine k_getI C O d_X_resolve_77 fl_X_103 (xr_6 (vi_lt hv)) rfl rfl rfl ?_
          refine k_aald2 C O (r := (5, _)) d_X_resolve_80 xr_1 rfl 3 rfl (hP1 e g hPe c63).1 rfl rfl ?_
          refine k_getI C O d_X_resolve_81 fl_X_89 (xr_5 (vi_lt (hP1 e g hPe c63).1)) rfl rfl rfl ?_
          refine k_istore C d_X_resolve_84 (Nat.le_of_ble_eq_true rfl) rfl ?_
          refine k_aload_n C d_X_resolve_86 rfl rfl ?_
          refine k_iload C d_X_resolve_87 rfl ?_
          refine k_iload_n C d_X_resolve_89 rfl rfl ?_
          refine k_cvI X d_X_resolve_90 (c_X_tellRing l b dA D _ _ (e + 1) (by omega)) cv_X_106 xr_0 rfl rfl ⟨by decide, by decide⟩ rfl rfl (Nat.le_of_ble_eq_true rfl) ?_
          refine k_if_eq C (tgt := 99) d_X_resolve_93 (by decide) (fun c93 => ?_) (fun c93 => ?_)
          · refine k_aload_n C d_X_resolve_99 rfl rfl ?_
            refine k_getR C O (r := (4, _)) d_X_resolve_100 fl_X_37 xr_0 rfl rfl rfl rfl ?_
            refine k_iload_n C d_X_resolve_103 rfl rfl ?_
            refine k_iload C d_X_resolve_104 rfl ?_
            refine k_iast2 C O (q := (e + 1)) d_X_resolve_106 xr_4 rfl 0 rfl (show vp_in (nI (e + 1)) 13 from vp_in_nI (by omega) (by decide)) (nI_clamp (by omega)) ?_
            refine k_iinc C (w := nI (e + 1 + 1)) d_X_resolve_107 rfl (nI_inc (e + 1)) rfl ?_
            refine k_goto C (tgt := 137) d_X_resolve_110 (by decide) ?_
            refine k_iinc C (w := nI (r + 1)) d_X_resolve_137 rfl (nI_inc r) rfl ?_
            refine k_goto C (tgt := 27) d_X_resolve_140 (by decide) ?_
            exact k_Qs ((if_neg c40).trans ((if_pos c63).trans ((if_pos c93).trans (rfl)))) (ih (r + 1) (e + 1) _ _ _ _ (by omega) ((hP1 e g hPe c63).2 c93))
          · refine k_bipush C (v := (-5)) d_X_resolve_96 (by decide) ?_
            exact k_iret X d_X_resolve_98 (k_pr ((if_neg c40).trans ((if_pos c63).trans ((if_neg c93).trans (rfl)))))

set_option maxHeartbeats 4000000 in
set_option maxRecDepth 100000 in
theorem c_X_resolve (l : Launch) (b : Nat → Nat → Nat) (dA : Nat → ClassId) (D : va_G) (g : kG) (n : Int32) (P : Nat → kG → Prop) (hP : ∀ e g, P e g → xI g ∧ e ≤ 11 ∧ vp_in (g.1 4 0 e) 12) (hP1 : ∀ e g, P e g → (xRun g (g.1 4 0 e)).1 = 0 → vp_in ((xRun g (g.1 4 0 e)).2.1 6 (tn (g.1 4 0 e)) 9) 24 ∧ ((xTl g e).1 = 0 → P (e + 1) (xPush g e))) (hP2 : ∀ e g, P e g → 1 ≤ e → ¬ (xRun g (g.1 4 0 e)).1 = 0 → ¬ (xRun g (g.1 4 0 e)).1 = -1 → ¬ (xRun g (g.1 4 0 e)).1 = -2 → P (e - 1) (xRun g (g.1 4 0 e)).2) (h0 : ¬ xIn n (g.1 0 0 5) = 0 → P 0 (kU (kU g.1 0 0 9 0) 4 0 0 n, g.2)) : kMd (sysX b dA D) l y_X_resolve b_X_resolve 7 (some .int) 6 145 [.inr (.inr (0, 0)), .inl n] g (some (.inl (xResolve g n).1)) (xResolve g n).2 := by
  refine k_enter (by decide) [some (.inr (.inr (0, 0))), some (.inl n), none, none, none, none, none] rfl rfl (Nat.le_of_ble_eq_true rfl) (fun x X => ?_)
  have C := X.1
  have O := X.2.1
  refine k_aload_n C d_X_resolve_0 rfl rfl ?_
  refine k_iload_n C d_X_resolve_1 rfl rfl ?_
  refine k_cvI X d_X_resolve_2 (c_X_isAction l b dA D g n) cv_X_80 xr_0 rfl rfl ⟨by decide, by decide⟩ rfl rfl (Nat.le_of_ble_eq_true rfl) ?_
  refine k_if_ne C (tgt := 11) d_X_resolve_5 (by decide) (fun c5 => ?_) (fun c5 => ?_)
  · refine k_aload_n C d_X_resolve_11 rfl rfl ?_
    refine k_iconst C (v := 0) d_X_resolve_12 (by decide) ?_
    refine k_putI C O d_X_resolve_13 fp_X_44 xr_0 rfl rfl rfl ?_
    refine k_aload_n C d_X_resolve_16 rfl rfl ?_
    refine k_getR C O (r := (4, _)) d_X_resolve_17 fl_X_37 xr_0 rfl rfl rfl rfl ?_
    refine k_iconst C (v := 0) d_X_resolve_20 (by decide) ?_
    refine k_iload_n C d_X_resolve_21 rfl rfl ?_
    refine k_iast2 C O (q := 0) d_X_resolve_22 xr_4 rfl 0 rfl (show vp_in 0 13 from vp_in_nI (n := 0) (by decide) (by decide)) rfl ?_
    refine k_iconst C (v := 1) d_X_resolve_23 (by decide) ?_
    refine k_istore_n C d_X_resolve_24 rfl (Nat.le_of_ble_eq_true rfl) rfl ?_
    refine k_iconst C (v := 0) d_X_resolve_25 (by decide) ?_
    refine k_istore_n C d_X_resolve_26 rfl (Nat.le_of_ble_eq_true rfl) rfl ?_
    exact k_Qs ((if_neg c5).trans rfl) (l_X_resolve l b dA D P hP hP1 hP2 n X 10000 0 0 _ none none none (by omega) (h0 c5))
  · refine k_bipush C (v := (-9)) d_X_resolve_8 (by decide) ?_
    exact k_iret X d_X_resolve_10 (k_pr ((if_pos c5).trans (rfl)))
