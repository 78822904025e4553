/-! the class: resolve (by program: wip/gen/cx5.py) -/
def xAw (g : kG) (i : Nat) : Int32 := if xIn (g.1 6 i 9) (g.1 0 0 4) = 0 then -1 else g.1 5 (tn (g.1 6 i 9)) 2
def xMk (g : kG) (e : Nat) : Int32 := xAw (xRun g (g.1 4 0 e)).2 (tn (g.1 4 0 e))
def xTl (g : kG) (e : Nat) : Int32 × kG := xTr (xRun g (g.1 4 0 e)).2 (xMk g e) (e + 1) (e + 1) 0
def xPush (g : kG) (e : Nat) : kG := (kU (xTl g e).2.1 4 0 (e + 1) (xMk g e), (xTl g e).2.2)
def xRs : Nat → Nat → kG → Int32 × kG
  | 0, _, g => (-2, g)
  | n + 1, e, g => if 13 ≤ nI (e + 1) then (-2, g) else if xIn (xMk g e) ((xRun g (g.1 4 0 e)).2.1 0 0 5) = 0 then (if nI (e + 1) = 1 then (xRun g (g.1 4 0 e)) else if (xRun g (g.1 4 0 e)).1 = -1 then (xRun g (g.1 4 0 e)) else if (xRun g (g.1 4 0 e)).1 = -2 then (xRun g (g.1 4 0 e)) else xRs n (e - 1) (xRun g (g.1 4 0 e)).2) else (if (xTl g e).1 = 0 then xRs n (e + 1) (xPush g e) else (-5, (xTl g e).2))
def xResolve (g : kG) (n : Int32) : Int32 × kG := if xIn n (g.1 0 0 5) = 0 then (-9, g) else xRs 10000 0 (kU (kU g.1 0 0 9 0) 4 0 0 n, g.2)
theorem x_dp (e : Nat) : nI (e + 1) - 1 = nI e := nI_pred e
theorem x_dec (e : Nat) (h : 1 ≤ e) : nI (e + 1) + Int32.ofInt (-1) = nI (e - 1 + 1) := by
  rw [show e - 1 + 1 = e by omega]
  exact pk_m1 e
set_option maxHeartbeats 4000000 in
set_option maxRecDepth 100000 in
theorem c_X_awaitedMaker (l : Launch) (b : Nat → Nat → Nat) (dA : Nat → ClassId) (D : va_G) (g : kG) (i : Nat) (hi : i < 12) (hF : kN (g.1 0 0 4) 24) : kMd (sysX b dA D) l y_X_awaitedMaker b_X_awaitedMaker 2 (some .int) 1 21 [.inr (.inr (0, 0)), .inr (.inr (6, i))] g (some (.inl (xAw g i))) g := by
  refine k_enter (by decide) [some (.inr (.inr (0, 0))), some (.inr (.inr (6, i)))] rfl rfl (Nat.le_of_ble_eq_true rfl) (fun x X => ?_)
  have C := X.1
  have O := X.2.1
  refine k_aload_n C d_X_awaitedMaker_0 rfl rfl ?_
  refine k_aload_n C d_X_awaitedMaker_1 rfl rfl ?_
  refine k_getI C O d_X_awaitedMaker_2 fl_X_110 (xr_6 hi) rfl rfl rfl ?_
  refine k_cvI X d_X_awaitedMaker_5 (c_X_isFile l b dA D g (g.1 6 i 9)) cv_X_66 xr_0 rfl rfl ⟨by decide, by decide⟩ rfl rfl (Nat.le_of_ble_eq_true rfl) ?_
  refine k_if_eq C (tgt := 26) d_X_awaitedMaker_8 (by decide) (fun c8 => ?_) (fun c8 => ?_)
  · refine k_iconst C (v := (-1)) d_X_awaitedMaker_26 (by decide) ?_
    exact k_iret X d_X_awaitedMaker_27 (k_pi ((if_pos c8).trans (rfl)))
  · refine k_aload_n C d_X_awaitedMaker_11 rfl rfl ?_
    refine k_getR C O (r := (1, _)) d_X_awaitedMaker_12 fl_X_11 xr_0 rfl rfl rfl rfl ?_
    refine k_aload_n C d_X_awaitedMaker_15 rfl rfl ?_
    refine k_getI C O d_X_awaitedMaker_16 fl_X_110 (xr_6 hi) rfl rfl rfl ?_
    refine k_aald2 C O (r := (5, _)) d_X_awaitedMaker_19 xr_1 rfl 3 rfl (in_x (n := 24) hF (by decide) c8) rfl rfl ?_
    refine k_getI C O d_X_awaitedMaker_20 fl_X_89 (xr_5 (vi_lt (in_x (n := 24) hF (by decide) c8))) rfl rfl rfl ?_
    refine k_goto C (tgt := 27) d_X_awaitedMaker_23 (by decide) ?_
    exact k_iret X d_X_awaitedMaker_27 (k_pi ((if_neg c8).trans (rfl)))

set_option maxHeartbeats 4000000 in
set_option maxRecDepth 100000 in
theorem l_X_resolve {x : kCx} (l : Launch) (b : Nat → Nat → Nat) (dA : Nat → ClassId) (D : va_G) (P : Nat → kG → Prop) (hP : ∀ e g, P e g → xI g ∧ e ≤ 11 ∧ vp_in (g.1 4 0 e) 12 ∧ kN ((xRun g (g.1 4 0 e)).2.1 0 0 4) 24) (hP1 : ∀ e g, P e g → ¬ xIn (xMk g e) ((xRun g (g.1 4 0 e)).2.1 0 0 5) = 0 → (xTl g e).1 = 0 → P (e + 1) (xPush g e)) (hP2 : ∀ e g, P e g → 1 ≤ e → xIn (xMk g e) ((xRun g (g.1 4 0 e)).2.1 0 0 5) = 0 → ¬ (xRun g (g.1 4 0 e)).1 = -1 → ¬ (xRun g (g.1 4 0 e)).1 = -2 → P (e - 1) (xRun g (g.1 4 0 e)).2) (n0 : Int32) (X : kIn (sysX b dA D) l b_X_resolve y_X_resolve.cls 7 (some .int) 6 145 x) : ∀ (n : Nat) (r e : Nat) (g : kG) (z4 z5 z6 : Option kV), r + n = 10000 → P e g → Wk (kWd (sysX b dA D)) (kAA (sysX b dA D)) (y_ad (sysX b dA D)) x (0, 0) (kQ (sysX b dA D) (fun r g2 => r = some (.inl (xRs n e g).1) ∧ g2 = (xRs n e g).2) x) 27 [some (.inr (.inr (0, 0))), some (.inl n0), some (.inl (nI (e + 1))), some (.inl (nI r)), z4, z5, z6] [] g := by
  have C := X.1
  have O := X.2.1
  intro n
  induction n with
  | zero =>
    intro r e g z4 z5 z6 hr hPe
    refine k_iload_n C d_X_resolve_27 rfl rfl ?_
    refine k_sipush C (v := 10000) d_X_resolve_28 (by decide) ?_
    refine k_icmp_ge C (tgt := 140) d_X_resolve_31 (by decide) (fun c31 => ?_) (fun c31 => ?_)
    · refine k_bipush C (v := (-2)) d_X_resolve_140 (by decide) ?_
      exact k_iret X d_X_resolve_142 (⟨rfl, rfl⟩)
    · exact absurd (show (10000 : Int32) ≤ nI r from nI_le (a := 10000) (by omega) (by omega)) c31
  | succ n ih =>
    intro r e g z4 z5 z6 hr hPe
    obtain ⟨hI, he, hv, hF⟩ := hP e g hPe
    refine k_iload_n C d_X_resolve_27 rfl rfl ?_
    refine k_sipush C (v := 10000) d_X_resolve_28 (by decide) ?_
    refine k_icmp_ge C (tgt := 140) d_X_resolve_31 (by decide) (fun c31 => ?_) (fun c31 => ?_)
    · exact absurd c31 (show ¬ (10000 : Int32) ≤ nI r from nI_ge (b := 10000) (by omega) (by omega))
    · refine k_iload_n C d_X_resolve_34 rfl rfl ?_
      refine k_aload_n C d_X_resolve_35 rfl rfl ?_
      refine k_getR C O (r := (4, _)) d_X_resolve_36 fl_X_37 xr_0 rfl rfl rfl rfl ?_
      refine k_alen C O (v := 13) d_X_resolve_39 xr_4 rfl 0 rfl rfl ?_
      refine k_icmp_ge C (tgt := 140) d_X_resolve_40 (by decide) (fun c40 => ?_) (fun c40 => ?_)
      · refine k_bipush C (v := (-2)) d_X_resolve_140 (by decide) ?_
        exact k_iret X d_X_resolve_142 (k_pr ((if_pos c40).trans (rfl)))
      · refine k_aload_n C d_X_resolve_43 rfl rfl ?_
        refine k_getR C O (r := (4, _)) d_X_resolve_44 fl_X_37 xr_0 rfl rfl rfl rfl ?_
        refine k_iload_n C d_X_resolve_47 rfl rfl ?_
        refine k_iconst C (v := 1) d_X_resolve_48 (by decide) ?_
        refine k_isub C d_X_resolve_49 ?_
        refine k_iald2 C O (q := e) d_X_resolve_50 xr_4 rfl 0 rfl (show vp_in (nI (e + 1) - 1) 13 from by rw [x_dp]; exact vp_in_nI (by omega) (by decide)) (by rw [x_dp]; exact nI_clamp (by omega)) ?_
        refine k_istore C d_X_resolve_51 (Nat.le_of_ble_eq_true rfl) rfl ?_
        refine k_aload_n C d_X_resolve_53 rfl rfl ?_
        refine k_iload C d_X_resolve_54 rfl ?_
        refine k_cvI X d_X_resolve_56 (c_X_runOnce l b dA D g (g.1 4 0 e) hv hI) cv_X_99 xr_0 rfl rfl ⟨by decide, by decide⟩ rfl rfl (Nat.le_of_ble_eq_true rfl) ?_
        refine k_istore C d_X_resolve_59 (Nat.le_of_ble_eq_true rfl) rfl ?_
        refine k_aload_n C d_X_resolve_61 rfl rfl ?_
        refine k_aload_n C d_X_resolve_62 rfl rfl ?_
        refine k_getR C O (r := (2, _)) d_X_resolve_63 fl_X_17 xr_0 rfl rfl rfl rfl ?_
        refine k_iload C d_X_resolve_66 rfl ?_
        refine k_aald2 C O (r := (6, _)) d_X_resolve_68 xr_2 rfl 4 rfl hv rfl rfl ?_
        refine k_cvI X d_X_resolve_69 (c_X_awaitedMaker l b dA D (xRun g (g.1 4 0 e)).2 (tn (g.1 4 0 e)) (vi_lt hv) hF) cv_X_103 xr_0 rfl rfl ⟨by decide, by decide⟩ rfl rfl (Nat.le_of_ble_eq_true rfl) ?_
        refine k_istore C d_X_resolve_72 (Nat.le_of_ble_eq_true rfl) rfl ?_
        refine k_aload_n C d_X_resolve_74 rfl rfl ?_
        refine k_iload C d_X_resolve_75 rfl ?_
        refine k_cvI X d_X_resolve_77 (c_X_isAction l b dA D (xRun g (g.1 4 0 e)).2 (xMk g e)) cv_X_80 xr_0 rfl rfl ⟨by decide, by decide⟩ rfl rfl (Nat.le_of_ble_eq_true rfl) ?_
        refine k_if_eq C (tgt := 110) d_X_resolve_80 (by decide) (fun c80 => ?_) (fun c80 => ?_)
        · refine k_iload_n C d_X_resolve_110 rfl rfl ?_
          refine k_iconst C (v := 1) d_X_resolve_111 (by decide) ?_
          refine k_icmp_eq C (tgt := 128) d_X_resolve_112 (by decide) (fun c112 => ?_) (fun c112 => ?_)
          · refine k_iload C d_X_resolve_128 rfl ?_
            exact k_iret X d_X_resolve_130 (k_pr ((if_neg c40).trans ((if_pos c80).trans ((if_pos c112).trans (rfl)))))
          · refine k_iload C d_X_resolve_115 rfl ?_
            refine k_iconst C (v := (-1)) d_X_resolve_117 (by decide) ?_
            refine k_icmp_eq C (tgt := 128) d_X_resolve_118 (by decide) (fun c118 => ?_) (fun c118 => ?_)
            · refine k_iload C d_X_resolve_128 rfl ?_
              exact k_iret X d_X_resolve_130 (k_pr ((if_neg c40).trans ((if_pos c80).trans ((if_neg c112).trans ((if_pos c118).trans (rfl))))))
            · refine k_iload C d_X_resolve_121 rfl ?_
              refine k_bipush C (v := (-2)) d_X_resolve_123 (by decide) ?_
              refine k_icmp_ne C (tgt := 131) d_X_resolve_125 (by decide) (fun c125 => ?_) (fun c125 => ?_)
              · have h1e : 1 ≤ e := by
                  rcases Nat.eq_zero_or_pos e with q | q
                  · exact absurd (by rw [q]; rfl) c112
                  · exact q
                refine k_iinc C (w := nI (e - 1 + 1)) d_X_resolve_131 rfl (x_dec e h1e) rfl ?_
                refine k_iinc C (w := nI (r + 1)) d_X_resolve_134 rfl (nI_inc r) rfl ?_
                refine k_goto C (tgt := 27) d_X_resolve_137 (by decide) ?_
                exact k_Qs ((if_neg c40).trans ((if_pos c80).trans ((if_neg c112).trans ((if_neg c118).trans ((if_neg c125).trans (rfl)))))) (ih (r + 1) (e - 1) _ _ _ _ (by omega) (hP2 e g hPe h1e c80 c118 c125))
              · refine k_iload C d_X_resolve_128 rfl ?_
                exact k_iret X d_X_resolve_130 (k_pr ((if_neg c40).trans ((if_pos c80).trans ((if_neg c112).trans ((if_neg c118).trans ((if_pos c125).trans (rfl)))))))
        · refine k_aload_n C d_X_resolve_83 rfl rfl ?_
          refine k_iload C d_X_resolve_84 rfl ?_
          refine k_iload_n C d_X_resolve_86 rfl rfl ?_
          refine k_cvI X d_X_resolve_87 (c_X_tellRing l b dA D _ _ (e + 1) (by omega)) cv_X_107 xr_0 rfl rfl ⟨by decide, by decide⟩ rfl rfl (Nat.le_of_ble_eq_true rfl) ?_
          refine k_if_eq C (tgt := 96) d_X_resolve_90 (by decide) (fun c90 => ?_) (fun c90 => ?_)
          · refine k_aload_n C d_X_resolve_96 rfl rfl ?_
            refine k_getR C O (r := (4, _)) d_X_resolve_97 fl_X_37 xr_0 rfl rfl rfl rfl ?_
            refine k_iload_n C d_X_resolve_100 rfl rfl ?_
            refine k_iload C d_X_resolve_101 rfl ?_
            refine k_iast2 C O (q := (e + 1)) d_X_resolve_103 xr_4 rfl 0 rfl (show vp_in (nI (e + 1)) 13 from vp_in_nI (by omega) (by decide)) (nI_clamp (by omega)) ?_
            refine k_iinc C (w := nI (e + 1 + 1)) d_X_resolve_104 rfl (nI_inc (e + 1)) rfl ?_
            refine k_goto C (tgt := 134) d_X_resolve_107 (by decide) ?_
            refine k_iinc C (w := nI (r + 1)) d_X_resolve_134 rfl (nI_inc r) rfl ?_
            refine k_goto C (tgt := 27) d_X_resolve_137 (by decide) ?_
            exact k_Qs ((if_neg c40).trans ((if_neg c80).trans ((if_pos c90).trans (rfl)))) (ih (r + 1) (e + 1) _ _ _ _ (by omega) (hP1 e g hPe c80 c90))
          · refine k_bipush C (v := (-5)) d_X_resolve_93 (by decide) ?_
            exact k_iret X d_X_resolve_95 (k_pr ((if_neg c40).trans ((if_neg c80).trans ((if_neg c90).trans (rfl)))))

set_option maxHeartbeats 4000000 in
set_option maxRecDepth 100000 in
theorem c_X_resolve (l : Launch) (b : Nat → Nat → Nat) (dA : Nat → ClassId) (D : va_G) (g : kG) (n : Int32) (P : Nat → kG → Prop) (hP : ∀ e g, P e g → xI g ∧ e ≤ 11 ∧ vp_in (g.1 4 0 e) 12 ∧ kN ((xRun g (g.1 4 0 e)).2.1 0 0 4) 24) (hP1 : ∀ e g, P e g → ¬ xIn (xMk g e) ((xRun g (g.1 4 0 e)).2.1 0 0 5) = 0 → (xTl g e).1 = 0 → P (e + 1) (xPush g e)) (hP2 : ∀ e g, P e g → 1 ≤ e → xIn (xMk g e) ((xRun g (g.1 4 0 e)).2.1 0 0 5) = 0 → ¬ (xRun g (g.1 4 0 e)).1 = -1 → ¬ (xRun g (g.1 4 0 e)).1 = -2 → P (e - 1) (xRun g (g.1 4 0 e)).2) (h0 : ¬ xIn n (g.1 0 0 5) = 0 → P 0 (kU (kU g.1 0 0 9 0) 4 0 0 n, g.2)) : kMd (sysX b dA D) l y_X_resolve b_X_resolve 7 (some .int) 6 145 [.inr (.inr (0, 0)), .inl n] g (some (.inl (xResolve g n).1)) (xResolve g n).2 := by
  refine k_enter (by decide) [some (.inr (.inr (0, 0))), some (.inl n), none, none, none, none, none] rfl rfl (Nat.le_of_ble_eq_true rfl) (fun x X => ?_)
  have C := X.1
  have O := X.2.1
  refine k_aload_n C d_X_resolve_0 rfl rfl ?_
  refine k_iload_n C d_X_resolve_1 rfl rfl ?_
  refine k_cvI X d_X_resolve_2 (c_X_isAction l b dA D g n) cv_X_80 xr_0 rfl rfl ⟨by decide, by decide⟩ rfl rfl (Nat.le_of_ble_eq_true rfl) ?_
  refine k_if_ne C (tgt := 11) d_X_resolve_5 (by decide) (fun c5 => ?_) (fun c5 => ?_)
  · refine k_aload_n C d_X_resolve_11 rfl rfl ?_
    refine k_iconst C (v := 0) d_X_resolve_12 (by decide) ?_
    refine k_putI C O d_X_resolve_13 fp_X_44 xr_0 rfl rfl rfl ?_
    refine k_aload_n C d_X_resolve_16 rfl rfl ?_
    refine k_getR C O (r := (4, _)) d_X_resolve_17 fl_X_37 xr_0 rfl rfl rfl rfl ?_
    refine k_iconst C (v := 0) d_X_resolve_20 (by decide) ?_
    refine k_iload_n C d_X_resolve_21 rfl rfl ?_
    refine k_iast2 C O (q := 0) d_X_resolve_22 xr_4 rfl 0 rfl (show vp_in 0 13 from vp_in_nI (n := 0) (by decide) (by decide)) rfl ?_
    refine k_iconst C (v := 1) d_X_resolve_23 (by decide) ?_
    refine k_istore_n C d_X_resolve_24 rfl (Nat.le_of_ble_eq_true rfl) rfl ?_
    refine k_iconst C (v := 0) d_X_resolve_25 (by decide) ?_
    refine k_istore_n C d_X_resolve_26 rfl (Nat.le_of_ble_eq_true rfl) rfl ?_
    exact k_Qs ((if_neg c5).trans rfl) (l_X_resolve l b dA D P hP hP1 hP2 n X 10000 0 0 _ none none none (by omega) (h0 c5))
  · refine k_bipush C (v := (-9)) d_X_resolve_8 (by decide) ?_
    exact k_iret X d_X_resolve_10 (k_pr ((if_pos c5).trans (rfl)))
