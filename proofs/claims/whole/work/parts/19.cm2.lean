/-! the reference: specs and contracts, 2: fresh (by program: wip/gen/cm2.py) -/
def mSoM (g : kG) (f : Nat) (K : Int32 → Int32) : Int32 := if g.1 7 0 f = -1 then K 1 else if g.1 22 0 (tn (g.1 7 0 f)) = 0 then K 0 else K 1
def mSoB (g : kG) (e f : Nat) (K : Int32 → Int32) : Int32 := if g.1 5 0 f = g.1 20 0 e then (if g.1 21 0 e = 0 then mSoM g f K else if g.1 5 0 f = 0 then mSoM g f K else if lg_cmp (g.2 6 0 f) (g.2 23 0 e) = 0 then mSoM g f K else K 0) else K 0
def mSo (g : kG) (a : Nat) : Nat → Nat → Int32 → Int32
  | 0, _, s => s
  | n + 1, k, s => if s = 0 then s else mSoB g (24 * a + k) (tn (g.1 15 0 (24 * a + k))) (fun z => mSo g a n (k + 1) z)
def mIsSo (g : kG) (a : Nat) : Int32 := if g.1 13 0 a = 2 then mSo g a (tn (g.1 14 0 a)) 0 0 else mSo g a (tn (g.1 14 0 a)) 0 1
def mClr : Nat → Nat → kG → kG
  | 0, _, g => g
  | n + 1, k, g => mClr n (k + 1) (kU g.1 22 0 k 0, g.2)
def mRd : Nat → Nat → Int32 → kG → Int32 × kG
  | 0, _, mo, g => (mo, g)
  | n + 1, k, mo, g => if g.1 22 0 k = 0 then (if mIsSo g k = 0 then mRd n (k + 1) mo g else mRd n (k + 1) 1 (kU g.1 22 0 k 1, g.2)) else mRd n (k + 1) mo g
def mFv (na : Nat) : Nat → Int32 → kG → kG
  | 0, _, g => g
  | n + 1, mo, g => if mo = 0 then g else mFv na n (mRd na 0 0 g).1 (mRd na 0 0 g).2
def mFr (g : kG) : kG := mFv (tn (g.1 0 0 3)) 13 1 (mClr 12 0 g)
theorem mClr_fr : ∀ (n k : Nat) (g : kG) (q a j : Nat), q ≠ 22 → (mClr n k g).1 q a j = g.1 q a j
  | 0, k, g, q, a, j, h => rfl
  | n + 1, k, g, q, a, j, h => (mClr_fr n (k + 1) (kU g.1 22 0 k 0, g.2) q a j h).trans (kU_n (fun e => h e.1))
/-- what the walks of fresh ask of the memory -/
def mS (g : kG) : Prop := kN (g.1 0 0 3) 12 ∧ (∀ a, a < 12 → kN (g.1 14 0 a) 12 ∧ ∀ k, k < tn (g.1 14 0 a) → vp_in (g.1 15 0 (24 * a + k)) 24) ∧ ∀ f, f < 24 → g.1 7 0 f = -1 ∨ vp_in (g.1 7 0 f) 12
def mCt (g : kG) : Nat → Nat
  | 0 => 0
  | n + 1 => mCt g n + if g.1 22 0 n = 0 then 1 else 0
theorem mCt_le (g : kG) : ∀ n, mCt g n ≤ n
  | 0 => Nat.le_refl _
  | n + 1 => by
    have := mCt_le g n
    unfold mCt
    split <;> omega
theorem mCt_mono {g g' : kG} (h : ∀ j, g'.1 22 0 j = 0 → g.1 22 0 j = 0) : ∀ n, mCt g' n ≤ mCt g n
  | 0 => Nat.le_refl _
  | n + 1 => by
    have h1 := mCt_mono h n
    have h2 := h n
    unfold mCt
    by_cases q : g'.1 22 0 n = 0
    · rw [if_pos q, if_pos (h2 q)]; omega
    · rw [if_neg q]; omega
theorem mCt_lt {g g' : kG} (h : ∀ j, g'.1 22 0 j = 0 → g.1 22 0 j = 0) {k : Nat} (h1 : g.1 22 0 k = 0) (h2 : ¬ g'.1 22 0 k = 0) : ∀ n, k < n → mCt g' n < mCt g n
  | 0, hk => by omega
  | n + 1, hk => by
    have hm := mCt_mono h n
    unfold mCt
    by_cases e : k = n
    · subst e
      rw [if_neg h2, if_pos h1]; omega
    · have := mCt_lt h h1 h2 n (by omega)
      by_cases q : g'.1 22 0 n = 0
      · rw [if_pos q, if_pos (h n q)]; omega
      · rw [if_neg q]; omega
theorem kU22 (g : kG) (k : Nat) (v : Int32) (j : Nat) : kU g.1 22 0 k v 22 0 j = if j = k then v else g.1 22 0 j := by
  unfold kU
  by_cases e : j = k
  · rw [if_pos ⟨rfl, e, rfl⟩, if_pos e]
  · rw [if_neg (fun q => e q.2.1), if_neg e]
theorem mRd_fr : ∀ (n k : Nat) (mo : Int32) (g : kG) (q a j : Nat), q ≠ 22 → (mRd n k mo g).2.1 q a j = g.1 q a j ∧ (mRd n k mo g).2.2 = g.2
  | 0, k, mo, g, q, a, j, h => ⟨rfl, rfl⟩
  | n + 1, k, mo, g, q, a, j, h => by
    unfold mRd
    split
    · split
      · exact mRd_fr n _ _ _ q a j h
      · have h1 := mRd_fr n (k + 1) 1 (kU g.1 22 0 k 1, g.2) q a j h
        refine ⟨h1.1.trans ?_, h1.2⟩
        exact kU_n (fun e => h e.1)
    · exact mRd_fr n _ _ _ q a j h
theorem mRd_dn : ∀ (n k : Nat) (mo : Int32) (g : kG), k + n ≤ 12 → (∀ j, (mRd n k mo g).2.1 22 0 j = 0 → g.1 22 0 j = 0) ∧ ((mRd n k mo g).1 = mo ∨ mCt (mRd n k mo g).2 12 < mCt g 12)
  | 0, k, mo, g, hk => ⟨fun _ h => h, Or.inl rfl⟩
  | n + 1, k, mo, g, hk => by
    unfold mRd
    split
    next h0 =>
      split
      · exact mRd_dn n _ _ _ (by omega)
      · have h1 := mRd_dn n (k + 1) 1 (kU g.1 22 0 k 1, g.2) (by omega)
        have hd : ∀ j, (kU g.1 22 0 k 1, g.2).1 22 0 j = 0 → g.1 22 0 j = 0 := by
          intro j hj
          have hj2 : kU g.1 22 0 k 1 22 0 j = 0 := hj
          rw [kU22] at hj2
          split at hj2
          · exact absurd hj2 (by decide)
          · exact hj2
        refine ⟨fun j hj => hd j (h1.1 j hj), Or.inr ?_⟩
        have hlt := mCt_lt (g := g) (g' := (kU g.1 22 0 k 1, g.2)) hd h0 (k := k) (by show ¬ kU g.1 22 0 k 1 22 0 k = 0; rw [kU22, if_pos rfl]; decide) 12 (by omega)
        have hle := mCt_mono h1.1 12
        omega
    · exact mRd_dn n _ _ _ (by omega)
theorem mS_rd {g : kG} (h : mS g) (n k : Nat) (mo : Int32) : mS (mRd n k mo g).2 := by
  have e := fun q a j (hq : q ≠ 22) => (mRd_fr n k mo g q a j hq).1
  refine ⟨?_, fun a ha => ⟨?_, fun j hj => ?_⟩, fun f hf => ?_⟩
  · rw [e 0 0 3 (by decide)]; exact h.1
  · rw [e 14 0 a (by decide)]; exact (h.2.1 a ha).1
  · rw [e 14 0 a (by decide)] at hj
    rw [e 15 0 _ (by decide)]; exact (h.2.1 a ha).2 j hj
  · rw [e 7 0 f (by decide)]; exact h.2.2 f hf
set_option maxHeartbeats 4000000 in
set_option maxRecDepth 100000 in
theorem l_M_isSo {x : kCx} (l : Launch) (b : Nat → Nat → Nat) (dA : Nat → ClassId) (D : va_G) (g : kG) (n0 : Int32) (hn : vp_in n0 12) (c : Nat) (hc : g.1 14 0 (tn n0) = nI c) (h12 : c ≤ 12) (hf : ∀ k, k < c → vp_in (g.1 15 0 (24 * tn n0 + k)) 24) (hm : ∀ f, f < 24 → g.1 7 0 f = -1 ∨ vp_in (g.1 7 0 f) 12) (X : kIn (sysM b dA D) l b_M_isSo y_M_isSo.cls 6 (some .boolean) 0 0 x) : ∀ (n : Nat) (k : Nat) (s : Int32) (z4 z5 : Option kV), kZ s → k + n = c → Wk (kWd (sysM b dA D)) (kAA (sysM b dA D)) (y_ad (sysM b dA D)) x (0, 0) (kQ (sysM b dA D) (fun r g2 => r = some (.inl (mSo g (tn n0) n k s)) ∧ g2 = g) x) 18 [some (.inr (.inr (0, 0))), some (.inl n0), some (.inl s), some (.inl (nI k)), z4, z5] [] g := by
  have C := X.1
  have O := X.2.1
  intro n
  induction n with
  | zero =>
    intro k s z4 z5 hz hk
    refine k_iload_n C d_M_isSo_18 rfl rfl ?_
    refine k_aload_n C d_M_isSo_19 rfl rfl ?_
    refine k_getR C O (r := (14, _)) d_M_isSo_20 fl_M_39 mr_0 rfl rfl rfl rfl ?_
    refine k_iload_n C d_M_isSo_23 rfl rfl ?_
    refine k_iald2 C O d_M_isSo_24 mr_14 rfl 0 rfl hn rfl ?_
    refine k_icmp_ge C (tgt := 142) d_M_isSo_25 (by decide) (fun c25 => ?_) (fun c25 => ?_)
    · refine k_iload_n C d_M_isSo_142 rfl rfl ?_
      exact k_zret X d_M_isSo_143 hz (⟨rfl, rfl⟩)
    · exact absurd (x_ge hc (by omega) (by omega)) c25
  | succ n ih =>
    intro k s z4 z5 hz hk
    refine k_iload_n C d_M_isSo_18 rfl rfl ?_
    refine k_aload_n C d_M_isSo_19 rfl rfl ?_
    refine k_getR C O (r := (14, _)) d_M_isSo_20 fl_M_39 mr_0 rfl rfl rfl rfl ?_
    refine k_iload_n C d_M_isSo_23 rfl rfl ?_
    refine k_iald2 C O d_M_isSo_24 mr_14 rfl 0 rfl hn rfl ?_
    refine k_icmp_ge C (tgt := 142) d_M_isSo_25 (by decide) (fun c25 => ?_) (fun c25 => ?_)
    · exact absurd c25 (x_lt hc (by omega) (by omega))
    · refine k_iload_n C d_M_isSo_28 rfl rfl ?_
      refine k_if_eq C (tgt := 142) d_M_isSo_29 (by decide) (fun c29 => ?_) (fun c29 => ?_)
      · refine k_iload_n C d_M_isSo_142 rfl rfl ?_
        exact k_zret X d_M_isSo_143 hz (k_pi ((if_pos c29).trans (rfl)))
      · refine k_bipush C (v := 24) d_M_isSo_32 (by decide) ?_
        refine k_iload_n C d_M_isSo_34 rfl rfl ?_
        refine k_imul C d_M_isSo_35 ?_
        refine k_iload_n C d_M_isSo_36 rfl rfl ?_
        refine k_iadd C d_M_isSo_37 ?_
        refine k_istore C d_M_isSo_38 (Nat.le_of_ble_eq_true rfl) rfl ?_
        refine k_aload_n C d_M_isSo_40 rfl rfl ?_
        refine k_getR C O (r := (15, _)) d_M_isSo_41 fl_M_42 mr_0 rfl rfl rfl rfl ?_
        refine k_iload C d_M_isSo_44 rfl ?_
        refine k_iald2 C O (q := (24 * tn n0 + k)) d_M_isSo_46 mr_15 rfl 0 rfl (ix_in (L := 288) (c := 24) (N := 12) rfl hn (by decide) rfl (by decide) (by omega)) (ix_q (c := 24) (N := 12) rfl hn (by decide) rfl ⟨by decide, by omega⟩) ?_
        refine k_istore C d_M_isSo_47 (Nat.le_of_ble_eq_true rfl) rfl ?_
        refine k_aload_n C d_M_isSo_49 rfl rfl ?_
        refine k_getR C O (r := (5, _)) d_M_isSo_50 fl_M_7 mr_0 rfl rfl rfl rfl ?_
        refine k_iload C d_M_isSo_53 rfl ?_
        refine k_zald2 C O d_M_isSo_55 mr_5 rfl 1 rfl (hf k (by omega)) rfl ?_
        refine k_aload_n C d_M_isSo_56 rfl rfl ?_
        refine k_getR C O (r := (20, _)) d_M_isSo_57 fl_M_57 mr_0 rfl rfl rfl rfl ?_
        refine k_iload C d_M_isSo_60 rfl ?_
        refine k_zald2 C O (q := (24 * tn n0 + k)) d_M_isSo_62 mr_20 rfl 1 rfl (ix_in (L := 288) (c := 24) (N := 12) rfl hn (by decide) rfl (by decide) (by omega)) (ix_q (c := 24) (N := 12) rfl hn (by decide) rfl ⟨by decide, by omega⟩) ?_
        refine k_icmp_ne C (tgt := 134) d_M_isSo_63 (by decide) (fun c63 => ?_) (fun c63 => ?_)
        · refine k_iconst C (v := 0) d_M_isSo_134 (by decide) ?_
          refine k_istore_n C d_M_isSo_135 rfl (Nat.le_of_ble_eq_true rfl) rfl ?_
          refine k_iinc C (w := nI (k + 1)) d_M_isSo_136 rfl (nI_inc k) rfl ?_
          refine k_goto C (tgt := 18) d_M_isSo_139 (by decide) ?_
          exact k_Qi ((if_neg c29).trans ((if_neg c63).trans (rfl))) (ih (k + 1) _ _ _ (by first | exact Or.inl rfl | exact Or.inr rfl) (by omega))
        · refine k_aload_n C d_M_isSo_66 rfl rfl ?_
          refine k_getR C O (r := (21, _)) d_M_isSo_67 fl_M_60 mr_0 rfl rfl rfl rfl ?_
          refine k_iload C d_M_isSo_70 rfl ?_
          refine k_zald2 C O (q := (24 * tn n0 + k)) d_M_isSo_72 mr_21 rfl 1 rfl (ix_in (L := 288) (c := 24) (N := 12) rfl hn (by decide) rfl (by decide) (by omega)) (ix_q (c := 24) (N := 12) rfl hn (by decide) rfl ⟨by decide, by omega⟩) ?_
          refine k_if_eq C (tgt := 104) d_M_isSo_73 (by decide) (fun c73 => ?_) (fun c73 => ?_)
          · refine k_aload_n C d_M_isSo_104 rfl rfl ?_
            refine k_getR C O (r := (7, _)) d_M_isSo_105 fl_M_17 mr_0 rfl rfl rfl rfl ?_
            refine k_iload C d_M_isSo_108 rfl ?_
            refine k_iald2 C O d_M_isSo_110 mr_7 rfl 0 rfl (hf k (by omega)) rfl ?_
            refine k_iconst C (v := (-1)) d_M_isSo_111 (by decide) ?_
            refine k_icmp_eq C (tgt := 130) d_M_isSo_112 (by decide) (fun c112 => ?_) (fun c112 => ?_)
            · refine k_iconst C (v := 1) d_M_isSo_130 (by decide) ?_
              refine k_goto C (tgt := 135) d_M_isSo_131 (by decide) ?_
              refine k_istore_n C d_M_isSo_135 rfl (Nat.le_of_ble_eq_true rfl) rfl ?_
              refine k_iinc C (w := nI (k + 1)) d_M_isSo_136 rfl (nI_inc k) rfl ?_
              refine k_goto C (tgt := 18) d_M_isSo_139 (by decide) ?_
              exact k_Qi ((if_neg c29).trans ((if_pos c63).trans ((if_pos c73).trans ((if_pos c112).trans (rfl))))) (ih (k + 1) _ _ _ (by first | exact Or.inl rfl | exact Or.inr rfl) (by omega))
            · refine k_aload_n C d_M_isSo_115 rfl rfl ?_
              refine k_getR C O (r := (22, _)) d_M_isSo_116 fl_M_63 mr_0 rfl rfl rfl rfl ?_
              refine k_aload_n C d_M_isSo_119 rfl rfl ?_
              refine k_getR C O (r := (7, _)) d_M_isSo_120 fl_M_17 mr_0 rfl rfl rfl rfl ?_
              refine k_iload C d_M_isSo_123 rfl ?_
              refine k_iald2 C O d_M_isSo_125 mr_7 rfl 0 rfl (hf k (by omega)) rfl ?_
              refine k_zald2 C O d_M_isSo_126 mr_22 rfl 1 rfl ((hm _ (vi_lt (hf k (by omega)))).resolve_left c112) rfl ?_
              refine k_if_eq C (tgt := 134) d_M_isSo_127 (by decide) (fun c127 => ?_) (fun c127 => ?_)
              · refine k_iconst C (v := 0) d_M_isSo_134 (by decide) ?_
                refine k_istore_n C d_M_isSo_135 rfl (Nat.le_of_ble_eq_true rfl) rfl ?_
                refine k_iinc C (w := nI (k + 1)) d_M_isSo_136 rfl (nI_inc k) rfl ?_
                refine k_goto C (tgt := 18) d_M_isSo_139 (by decide) ?_
                exact k_Qi ((if_neg c29).trans ((if_pos c63).trans ((if_pos c73).trans ((if_neg c112).trans ((if_pos c127).trans (rfl)))))) (ih (k + 1) _ _ _ (by first | exact Or.inl rfl | exact Or.inr rfl) (by omega))
              · refine k_iconst C (v := 1) d_M_isSo_130 (by decide) ?_
                refine k_goto C (tgt := 135) d_M_isSo_131 (by decide) ?_
                refine k_istore_n C d_M_isSo_135 rfl (Nat.le_of_ble_eq_true rfl) rfl ?_
                refine k_iinc C (w := nI (k + 1)) d_M_isSo_136 rfl (nI_inc k) rfl ?_
                refine k_goto C (tgt := 18) d_M_isSo_139 (by decide) ?_
                exact k_Qi ((if_neg c29).trans ((if_pos c63).trans ((if_pos c73).trans ((if_neg c112).trans ((if_neg c127).trans (rfl)))))) (ih (k + 1) _ _ _ (by first | exact Or.inl rfl | exact Or.inr rfl) (by omega))
          · refine k_aload_n C d_M_isSo_76 rfl rfl ?_
            refine k_getR C O (r := (5, _)) d_M_isSo_77 fl_M_7 mr_0 rfl rfl rfl rfl ?_
            refine k_iload C d_M_isSo_80 rfl ?_
            refine k_zald2 C O d_M_isSo_82 mr_5 rfl 1 rfl (hf k (by omega)) rfl ?_
            refine k_if_eq C (tgt := 104) d_M_isSo_83 (by decide) (fun c83 => ?_) (fun c83 => ?_)
            · refine k_aload_n C d_M_isSo_104 rfl rfl ?_
              refine k_getR C O (r := (7, _)) d_M_isSo_105 fl_M_17 mr_0 rfl rfl rfl rfl ?_
              refine k_iload C d_M_isSo_108 rfl ?_
              refine k_iald2 C O d_M_isSo_110 mr_7 rfl 0 rfl (hf k (by omega)) rfl ?_
              refine k_iconst C (v := (-1)) d_M_isSo_111 (by decide) ?_
              refine k_icmp_eq C (tgt := 130) d_M_isSo_112 (by decide) (fun c112 => ?_) (fun c112 => ?_)
              · refine k_iconst C (v := 1) d_M_isSo_130 (by decide) ?_
                refine k_goto C (tgt := 135) d_M_isSo_131 (by decide) ?_
                refine k_istore_n C d_M_isSo_135 rfl (Nat.le_of_ble_eq_true rfl) rfl ?_
                refine k_iinc C (w := nI (k + 1)) d_M_isSo_136 rfl (nI_inc k) rfl ?_
                refine k_goto C (tgt := 18) d_M_isSo_139 (by decide) ?_
                exact k_Qi ((if_neg c29).trans ((if_pos c63).trans ((if_neg c73).trans ((if_pos c83).trans ((if_pos c112).trans (rfl)))))) (ih (k + 1) _ _ _ (by first | exact Or.inl rfl | exact Or.inr rfl) (by omega))
              · refine k_aload_n C d_M_isSo_115 rfl rfl ?_
                refine k_getR C O (r := (22, _)) d_M_isSo_116 fl_M_63 mr_0 rfl rfl rfl rfl ?_
                refine k_aload_n C d_M_isSo_119 rfl rfl ?_
                refine k_getR C O (r := (7, _)) d_M_isSo_120 fl_M_17 mr_0 rfl rfl rfl rfl ?_
                refine k_iload C d_M_isSo_123 rfl ?_
                refine k_iald2 C O d_M_isSo_125 mr_7 rfl 0 rfl (hf k (by omega)) rfl ?_
                refine k_zald2 C O d_M_isSo_126 mr_22 rfl 1 rfl ((hm _ (vi_lt (hf k (by omega)))).resolve_left c112) rfl ?_
                refine k_if_eq C (tgt := 134) d_M_isSo_127 (by decide) (fun c127 => ?_) (fun c127 => ?_)
                · refine k_iconst C (v := 0) d_M_isSo_134 (by decide) ?_
                  refine k_istore_n C d_M_isSo_135 rfl (Nat.le_of_ble_eq_true rfl) rfl ?_
                  refine k_iinc C (w := nI (k + 1)) d_M_isSo_136 rfl (nI_inc k) rfl ?_
                  refine k_goto C (tgt := 18) d_M_isSo_139 (by decide) ?_
                  exact k_Qi ((if_neg c29).trans ((if_pos c63).trans ((if_neg c73).trans ((if_pos c83).trans ((if_neg c112).trans ((if_pos c127).trans (rfl))))))) (ih (k + 1) _ _ _ (by first | exact Or.inl rfl | exact Or.inr rfl) (by omega))
                · refine k_iconst C (v := 1) d_M_isSo_130 (by decide) ?_
                  refine k_goto C (tgt := 135) d_M_isSo_131 (by decide) ?_
                  refine k_istore_n C d_M_isSo_135 rfl (Nat.le_of_ble_eq_true rfl) rfl ?_
                  refine k_iinc C (w := nI (k + 1)) d_M_isSo_136 rfl (nI_inc k) rfl ?_
                  refine k_goto C (tgt := 18) d_M_isSo_139 (by decide) ?_
                  exact k_Qi ((if_neg c29).trans ((if_pos c63).trans ((if_neg c73).trans ((if_pos c83).trans ((if_neg c112).trans ((if_neg c127).trans (rfl))))))) (ih (k + 1) _ _ _ (by first | exact Or.inl rfl | exact Or.inr rfl) (by omega))
            · refine k_aload_n C d_M_isSo_86 rfl rfl ?_
              refine k_getR C O (r := (6, _)) d_M_isSo_87 fl_M_13 mr_0 rfl rfl rfl rfl ?_
              refine k_iload C d_M_isSo_90 rfl ?_
              refine k_lald2 C O d_M_isSo_92 mr_6 rfl 2 rfl (hf k (by omega)) rfl ?_
              refine k_aload_n C d_M_isSo_93 rfl rfl ?_
              refine k_getR C O (r := (23, _)) d_M_isSo_94 fl_M_66 mr_0 rfl rfl rfl rfl ?_
              refine k_iload C d_M_isSo_97 rfl ?_
              refine k_lald2 C O (q := (24 * tn n0 + k)) d_M_isSo_99 mr_23 rfl 2 rfl (ix_in (L := 288) (c := 24) (N := 12) rfl hn (by decide) rfl (by decide) (by omega)) (ix_q (c := 24) (N := 12) rfl hn (by decide) rfl ⟨by decide, by omega⟩) ?_
              refine k_lcmp C d_M_isSo_100 ?_
              refine k_if_ne C (tgt := 134) d_M_isSo_101 (by decide) (fun c101 => ?_) (fun c101 => ?_)
              · refine k_iconst C (v := 0) d_M_isSo_134 (by decide) ?_
                refine k_istore_n C d_M_isSo_135 rfl (Nat.le_of_ble_eq_true rfl) rfl ?_
                refine k_iinc C (w := nI (k + 1)) d_M_isSo_136 rfl (nI_inc k) rfl ?_
                refine k_goto C (tgt := 18) d_M_isSo_139 (by decide) ?_
                exact k_Qi ((if_neg c29).trans ((if_pos c63).trans ((if_neg c73).trans ((if_neg c83).trans ((if_neg c101).trans (rfl)))))) (ih (k + 1) _ _ _ (by first | exact Or.inl rfl | exact Or.inr rfl) (by omega))
              · refine k_aload_n C d_M_isSo_104 rfl rfl ?_
                refine k_getR C O (r := (7, _)) d_M_isSo_105 fl_M_17 mr_0 rfl rfl rfl rfl ?_
                refine k_iload C d_M_isSo_108 rfl ?_
                refine k_iald2 C O d_M_isSo_110 mr_7 rfl 0 rfl (hf k (by omega)) rfl ?_
                refine k_iconst C (v := (-1)) d_M_isSo_111 (by decide) ?_
                refine k_icmp_eq C (tgt := 130) d_M_isSo_112 (by decide) (fun c112 => ?_) (fun c112 => ?_)
                · refine k_iconst C (v := 1) d_M_isSo_130 (by decide) ?_
                  refine k_goto C (tgt := 135) d_M_isSo_131 (by decide) ?_
                  refine k_istore_n C d_M_isSo_135 rfl (Nat.le_of_ble_eq_true rfl) rfl ?_
                  refine k_iinc C (w := nI (k + 1)) d_M_isSo_136 rfl (nI_inc k) rfl ?_
                  refine k_goto C (tgt := 18) d_M_isSo_139 (by decide) ?_
                  exact k_Qi ((if_neg c29).trans ((if_pos c63).trans ((if_neg c73).trans ((if_neg c83).trans ((if_pos c101).trans ((if_pos c112).trans (rfl))))))) (ih (k + 1) _ _ _ (by first | exact Or.inl rfl | exact Or.inr rfl) (by omega))
                · refine k_aload_n C d_M_isSo_115 rfl rfl ?_
                  refine k_getR C O (r := (22, _)) d_M_isSo_116 fl_M_63 mr_0 rfl rfl rfl rfl ?_
                  refine k_aload_n C d_M_isSo_119 rfl rfl ?_
                  refine k_getR C O (r := (7, _)) d_M_isSo_120 fl_M_17 mr_0 rfl rfl rfl rfl ?_
                  refine k_iload C d_M_isSo_123 rfl ?_
                  refine k_iald2 C O d_M_isSo_125 mr_7 rfl 0 rfl (hf k (by omega)) rfl ?_
                  refine k_zald2 C O d_M_isSo_126 mr_22 rfl 1 rfl ((hm _ (vi_lt (hf k (by omega)))).resolve_left c112) rfl ?_
                  refine k_if_eq C (tgt := 134) d_M_isSo_127 (by decide) (fun c127 => ?_) (fun c127 => ?_)
                  · refine k_iconst C (v := 0) d_M_isSo_134 (by decide) ?_
                    refine k_istore_n C d_M_isSo_135 rfl (Nat.le_of_ble_eq_true rfl) rfl ?_
                    refine k_iinc C (w := nI (k + 1)) d_M_isSo_136 rfl (nI_inc k) rfl ?_
                    refine k_goto C (tgt := 18) d_M_isSo_139 (by decide) ?_
                    exact k_Qi ((if_neg c29).trans ((if_pos c63).trans ((if_neg c73).trans ((if_neg c83).trans ((if_pos c101).trans ((if_neg c112).trans ((if_pos c127).trans (rfl)))))))) (ih (k + 1) _ _ _ (by first | exact Or.inl rfl | exact Or.inr rfl) (by omega))
                  · refine k_iconst C (v := 1) d_M_isSo_130 (by decide) ?_
                    refine k_goto C (tgt := 135) d_M_isSo_131 (by decide) ?_
                    refine k_istore_n C d_M_isSo_135 rfl (Nat.le_of_ble_eq_true rfl) rfl ?_
                    refine k_iinc C (w := nI (k + 1)) d_M_isSo_136 rfl (nI_inc k) rfl ?_
                    refine k_goto C (tgt := 18) d_M_isSo_139 (by decide) ?_
                    exact k_Qi ((if_neg c29).trans ((if_pos c63).trans ((if_neg c73).trans ((if_neg c83).trans ((if_pos c101).trans ((if_neg c112).trans ((if_neg c127).trans (rfl)))))))) (ih (k + 1) _ _ _ (by first | exact Or.inl rfl | exact Or.inr rfl) (by omega))

set_option maxHeartbeats 4000000 in
set_option maxRecDepth 100000 in
theorem c_M_isSo (l : Launch) (b : Nat → Nat → Nat) (dA : Nat → ClassId) (D : va_G) (g : kG) (n0 : Int32) (hn : vp_in n0 12) (hS : mS g) : kMd (sysM b dA D) l y_M_isSo b_M_isSo 6 (some .boolean) 0 0 [.inr (.inr (0, 0)), .inl n0] g (some (.inl (mIsSo g (tn n0)))) g := by
  refine k_enter (by decide) [some (.inr (.inr (0, 0))), some (.inl n0), none, none, none, none] rfl rfl (Nat.le_of_ble_eq_true rfl) (fun x X => ?_)
  have C := X.1
  have O := X.2.1
  refine k_aload_n C d_M_isSo_0 rfl rfl ?_
  refine k_getR C O (r := (13, _)) d_M_isSo_1 fl_M_36 mr_0 rfl rfl rfl rfl ?_
  refine k_iload_n C d_M_isSo_4 rfl rfl ?_
  refine k_iald2 C O d_M_isSo_5 mr_13 rfl 0 rfl hn rfl ?_
  refine k_iconst C (v := 2) d_M_isSo_6 (by decide) ?_
  refine k_icmp_eq C (tgt := 14) d_M_isSo_7 (by decide) (fun c7 => ?_) (fun c7 => ?_)
  · refine k_iconst C (v := 0) d_M_isSo_14 (by decide) ?_
    refine k_istore_n C d_M_isSo_15 rfl (Nat.le_of_ble_eq_true rfl) rfl ?_
    refine k_iconst C (v := 0) d_M_isSo_16 (by decide) ?_
    refine k_istore_n C d_M_isSo_17 rfl (Nat.le_of_ble_eq_true rfl) rfl ?_
    exact k_Qi ((if_pos c7).trans rfl) (l_M_isSo l b dA D g n0 hn (tn (g.1 14 0 (tn n0))) (hS.2.1 _ (vi_lt hn)).1.1 (hS.2.1 _ (vi_lt hn)).1.2 (hS.2.1 _ (vi_lt hn)).2 hS.2.2 X (tn (g.1 14 0 (tn n0))) 0 _ none none (by first | exact Or.inl rfl | exact Or.inr rfl) (by omega))
  · refine k_iconst C (v := 1) d_M_isSo_10 (by decide) ?_
    refine k_goto C (tgt := 15) d_M_isSo_11 (by decide) ?_
    refine k_istore_n C d_M_isSo_15 rfl (Nat.le_of_ble_eq_true rfl) rfl ?_
    refine k_iconst C (v := 0) d_M_isSo_16 (by decide) ?_
    refine k_istore_n C d_M_isSo_17 rfl (Nat.le_of_ble_eq_true rfl) rfl ?_
    exact k_Qi ((if_neg c7).trans rfl) (l_M_isSo l b dA D g n0 hn (tn (g.1 14 0 (tn n0))) (hS.2.1 _ (vi_lt hn)).1.1 (hS.2.1 _ (vi_lt hn)).1.2 (hS.2.1 _ (vi_lt hn)).2 hS.2.2 X (tn (g.1 14 0 (tn n0))) 0 _ none none (by first | exact Or.inl rfl | exact Or.inr rfl) (by omega))

set_option maxHeartbeats 4000000 in
set_option maxRecDepth 100000 in
theorem l_M_clr {x : kCx} {Q : State → Prop} (l : Launch) (b : Nat → Nat → Nat) (dA : Nat → ClassId) (D : va_G)  (X : kIn (sysM b dA D) l b_M_freshen y_M_freshen.cls 3 none 1 25 x) : ∀ (n : Nat) (k : Nat) (g : kG) (z2 : Option kV), k + n = 12 → (Wk (kWd (sysM b dA D)) (kAA (sysM b dA D)) (y_ad (sysM b dA D)) x (0, 0) Q 21 [some (.inr (.inr (0, 0))), some (.inl (nI 12)), z2] [] (mClr n k g)) → Wk (kWd (sysM b dA D)) (kAA (sysM b dA D)) (y_ad (sysM b dA D)) x (0, 0) Q 2 [some (.inr (.inr (0, 0))), some (.inl (nI k)), z2] [] g := by
  have C := X.1
  have O := X.2.1
  intro n
  induction n with
  | zero =>
    intro k g z2 hk K
    refine k_iload_n C d_M_freshen_2 rfl rfl ?_
    refine k_bipush C (v := 12) d_M_freshen_3 (by decide) ?_
    refine k_icmp_ge C (tgt := 21) d_M_freshen_5 (by decide) (fun c5 => ?_) (fun c5 => ?_)
    · have e9 : k = 12 := by omega
      rw [e9]
      exact K
    · exact absurd (show (12 : Int32) ≤ nI k from nI_le (a := 12) (by omega) (by omega)) c5
  | succ n ih =>
    intro k g z2 hk K
    refine k_iload_n C d_M_freshen_2 rfl rfl ?_
    refine k_bipush C (v := 12) d_M_freshen_3 (by decide) ?_
    refine k_icmp_ge C (tgt := 21) d_M_freshen_5 (by decide) (fun c5 => ?_) (fun c5 => ?_)
    · exact absurd c5 (show ¬ (12 : Int32) ≤ nI k from nI_ge (b := 12) (by omega) (by omega))
    · refine k_aload_n C d_M_freshen_8 rfl rfl ?_
      refine k_getR C O (r := (22, _)) d_M_freshen_9 fl_M_63 mr_0 rfl rfl rfl rfl ?_
      refine k_iload_n C d_M_freshen_12 rfl rfl ?_
      refine k_iconst C (v := 0) d_M_freshen_13 (by decide) ?_
      refine k_zast2 C O (q := k) d_M_freshen_14 (Or.inl rfl) mr_22 rfl 1 rfl (show vp_in (nI k) 12 from vp_in_nI (by omega) (by decide)) (nI_clamp (by omega)) ?_
      refine k_iinc C (w := nI (k + 1)) d_M_freshen_15 rfl (nI_inc k) rfl ?_
      refine k_goto C (tgt := 2) d_M_freshen_18 (by decide) ?_
      exact ih (k + 1) _ z2 (by omega) K

set_option maxHeartbeats 4000000 in
set_option maxRecDepth 100000 in
theorem l_M_rd {x : kCx} {Q : State → Prop} (l : Launch) (b : Nat → Nat → Nat) (dA : Nat → ClassId) (D : va_G) (na : Nat) (h12 : na ≤ 12) (X : kIn (sysM b dA D) l b_M_freshen y_M_freshen.cls 3 none 1 25 x) : ∀ (n : Nat) (k : Nat) (mo : Int32) (g : kG), k + n = na → g.1 0 0 3 = nI na → mS g → (Wk (kWd (sysM b dA D)) (kAA (sysM b dA D)) (y_ad (sysM b dA D)) x (0, 0) Q 74 [some (.inr (.inr (0, 0))), some (.inl (mRd n k mo g).1), some (.inl (nI na))] [] (mRd n k mo g).2) → Wk (kWd (sysM b dA D)) (kAA (sysM b dA D)) (y_ad (sysM b dA D)) x (0, 0) Q 31 [some (.inr (.inr (0, 0))), some (.inl mo), some (.inl (nI k))] [] g := by
  have C := X.1
  have O := X.2.1
  intro n
  induction n with
  | zero =>
    intro k mo g hk ha hS K
    refine k_iload_n C d_M_freshen_31 rfl rfl ?_
    refine k_aload_n C d_M_freshen_32 rfl rfl ?_
    refine k_getI C O d_M_freshen_33 fl_M_100 mr_0 rfl rfl rfl ?_
    refine k_icmp_ge C (tgt := 74) d_M_freshen_36 (by decide) (fun c36 => ?_) (fun c36 => ?_)
    · have e9 : k = na := by omega
      rw [e9]
      exact K
    · exact absurd (x_ge ha (by omega) (by omega)) c36
  | succ n ih =>
    intro k mo g hk ha hS K
    refine k_iload_n C d_M_freshen_31 rfl rfl ?_
    refine k_aload_n C d_M_freshen_32 rfl rfl ?_
    refine k_getI C O d_M_freshen_33 fl_M_100 mr_0 rfl rfl rfl ?_
    refine k_icmp_ge C (tgt := 74) d_M_freshen_36 (by decide) (fun c36 => ?_) (fun c36 => ?_)
    · exact absurd c36 (x_lt ha (by omega) (by omega))
    · refine k_aload_n C d_M_freshen_39 rfl rfl ?_
      refine k_getR C O (r := (22, _)) d_M_freshen_40 fl_M_63 mr_0 rfl rfl rfl rfl ?_
      refine k_iload_n C d_M_freshen_43 rfl rfl ?_
      refine k_zald2 C O (q := k) d_M_freshen_44 mr_22 rfl 1 rfl (show vp_in (nI k) 12 from vp_in_nI (by omega) (by decide)) (nI_clamp (by omega)) ?_
      refine k_if_ne C (tgt := 68) d_M_freshen_45 (by decide) (fun c45 => ?_) (fun c45 => ?_)
      · refine k_iinc C (w := nI (k + 1)) d_M_freshen_68 rfl (nI_inc k) rfl ?_
        refine k_goto C (tgt := 31) d_M_freshen_71 (by decide) ?_
        have e9 : tn (nI k) = k := nI_clamp (by omega)
        simp only [mRd, if_neg c45] at K
        exact ih (k + 1) _ _ (by omega) ha hS K
      · refine k_aload_n C d_M_freshen_48 rfl rfl ?_
        refine k_iload_n C d_M_freshen_49 rfl rfl ?_
        refine k_cvI X d_M_freshen_50 (c_M_isSo l b dA D g (nI k) (show vp_in (nI k) 12 from vp_in_nI (by omega) (by decide)) hS) cv_M_114 mr_0 rfl rfl ⟨by decide, by decide⟩ rfl rfl (Nat.le_of_ble_eq_true rfl) ?_
        refine k_if_ne C (tgt := 59) d_M_freshen_53 (by decide) (fun c53 => ?_) (fun c53 => ?_)
        · refine k_aload_n C d_M_freshen_59 rfl rfl ?_
          refine k_getR C O (r := (22, _)) d_M_freshen_60 fl_M_63 mr_0 rfl rfl rfl rfl ?_
          refine k_iload_n C d_M_freshen_63 rfl rfl ?_
          refine k_iconst C (v := 1) d_M_freshen_64 (by decide) ?_
          refine k_zast2 C O (q := k) d_M_freshen_65 (Or.inr rfl) mr_22 rfl 1 rfl (show vp_in (nI k) 12 from vp_in_nI (by omega) (by decide)) (nI_clamp (by omega)) ?_
          refine k_iconst C (v := 1) d_M_freshen_66 (by decide) ?_
          refine k_istore_n C d_M_freshen_67 rfl (Nat.le_of_ble_eq_true rfl) rfl ?_
          refine k_iinc C (w := nI (k + 1)) d_M_freshen_68 rfl (nI_inc k) rfl ?_
          refine k_goto C (tgt := 31) d_M_freshen_71 (by decide) ?_
          have e9 : tn (nI k) = k := nI_clamp (by omega)
          rw [e9] at c53
          simp only [mRd, if_pos c45, if_neg c53] at K
          exact ih (k + 1) _ _ (by omega) ha hS K
        · refine k_goto C (tgt := 68) d_M_freshen_56 (by decide) ?_
          refine k_iinc C (w := nI (k + 1)) d_M_freshen_68 rfl (nI_inc k) rfl ?_
          refine k_goto C (tgt := 31) d_M_freshen_71 (by decide) ?_
          have e9 : tn (nI k) = k := nI_clamp (by omega)
          rw [e9] at c53
          simp only [mRd, if_pos c45, if_pos c53] at K
          exact ih (k + 1) _ _ (by omega) ha hS K

set_option maxHeartbeats 4000000 in
set_option maxRecDepth 100000 in
theorem l_M_fw {x : kCx} (l : Launch) (b : Nat → Nat → Nat) (dA : Nat → ClassId) (D : va_G) (na : Nat) (h12 : na ≤ 12) (X : kIn (sysM b dA D) l b_M_freshen y_M_freshen.cls 3 none 1 25 x) : ∀ (n : Nat) (mo : Int32) (g : kG) (z2 : Option kV), mo = 0 ∨ mCt g 12 < n → g.1 0 0 3 = nI na → mS g → Wk (kWd (sysM b dA D)) (kAA (sysM b dA D)) (y_ad (sysM b dA D)) x (0, 0) (kQ (sysM b dA D) (fun r g2 => r = none ∧ g2 = (mFv na n mo g)) x) 23 [some (.inr (.inr (0, 0))), some (.inl mo), z2] [] g := by
  have C := X.1
  have O := X.2.1
  intro n
  induction n with
  | zero =>
    intro mo g z2 hc ha hS
    refine k_iload_n C d_M_freshen_23 rfl rfl ?_
    refine k_if_eq C (tgt := 77) d_M_freshen_24 (by decide) (fun c24 => ?_) (fun c24 => ?_)
    · exact k_vret X d_M_freshen_77 (⟨rfl, rfl⟩)
    · exact absurd (hc.resolve_right (by omega)) c24
  | succ n ih =>
    intro mo g z2 hc ha hS
    refine k_iload_n C d_M_freshen_23 rfl rfl ?_
    refine k_if_eq C (tgt := 77) d_M_freshen_24 (by decide) (fun c24 => ?_) (fun c24 => ?_)
    · exact k_vret X d_M_freshen_77 (k_pv ((if_pos c24).trans (rfl)))
    · have h0 := hc.resolve_left c24
      have h1 := (mRd_dn na 0 0 g (by omega)).2
      refine k_iconst C (v := 0) d_M_freshen_27 (by decide) ?_
      refine k_istore_n C d_M_freshen_28 rfl (Nat.le_of_ble_eq_true rfl) rfl ?_
      refine k_iconst C (v := 0) d_M_freshen_29 (by decide) ?_
      refine k_istore_n C d_M_freshen_30 rfl (Nat.le_of_ble_eq_true rfl) rfl ?_
      refine l_M_rd l b dA D na h12 X na 0 0 g (by omega) ha hS ?_
      refine k_goto C (tgt := 23) d_M_freshen_74 (by decide) ?_
      exact k_Qv ((if_neg c24).trans rfl) (ih _ _ _ (by rcases h1 with q | q; exact Or.inl q; exact Or.inr (by omega)) (by rw [(mRd_fr na 0 0 g 0 0 3 (by decide)).1]; exact ha) (mS_rd hS na 0 0))

theorem mS_clr {g : kG} (h : mS g) : mS (mClr 12 0 g) := by
  have e := fun q a j (hq : q ≠ 22) => mClr_fr 12 0 g q a j hq
  refine ⟨?_, fun a ha => ⟨?_, fun j hj => ?_⟩, fun f hf => ?_⟩
  · rw [e 0 0 3 (by decide)]; exact h.1
  · rw [e 14 0 a (by decide)]; exact (h.2.1 a ha).1
  · rw [e 14 0 a (by decide)] at hj
    rw [e 15 0 _ (by decide)]; exact (h.2.1 a ha).2 j hj
  · rw [e 7 0 f (by decide)]; exact h.2.2 f hf
set_option maxHeartbeats 4000000 in
set_option maxRecDepth 100000 in
theorem c_M_freshen (l : Launch) (b : Nat → Nat → Nat) (dA : Nat → ClassId) (D : va_G) (g : kG) (hS : mS g) : kMd (sysM b dA D) l y_M_freshen b_M_freshen 3 none 1 25 [.inr (.inr (0, 0))] g none (mFr g) := by
  refine k_enter (by decide) [some (.inr (.inr (0, 0))), none, none] rfl rfl (Nat.le_of_ble_eq_true rfl) (fun x X => ?_)
  have C := X.1
  have O := X.2.1
  refine k_iconst C (v := 0) d_M_freshen_0 (by decide) ?_
  refine k_istore_n C d_M_freshen_1 rfl (Nat.le_of_ble_eq_true rfl) rfl ?_
  refine l_M_clr l b dA D X 12 0 g none (by omega) ?_
  refine k_iconst C (v := 1) d_M_freshen_21 (by decide) ?_
  refine k_istore_n C d_M_freshen_22 rfl (Nat.le_of_ble_eq_true rfl) rfl ?_
  exact l_M_fw l b dA D (tn (g.1 0 0 3)) hS.1.2 X 13 1 (mClr 12 0 g) none (Or.inr (by have := mCt_le (mClr 12 0 g) 12; omega)) (by rw [mClr_fr 12 0 g 0 0 3 (by decide)]; exact hS.1.1) (mS_clr hS)

def mNow (g : kG) (n : Int32) : Int32 := (mFr g).1 22 0 (tn n)
theorem mRd_Z : ∀ (n k : Nat) (mo : Int32) (g : kG), (∀ j, kZ (g.1 22 0 j)) → ∀ j, kZ ((mRd n k mo g).2.1 22 0 j)
  | 0, k, mo, g, h, j => h j
  | n + 1, k, mo, g, h, j => by
    unfold mRd
    split
    · split
      · exact mRd_Z n _ _ _ h j
      · refine mRd_Z n _ _ _ (fun j => ?_) j
        show kZ (kU g.1 22 0 k 1 22 0 j)
        rw [kU22]
        split
        · exact Or.inr rfl
        · exact h j
    · exact mRd_Z n _ _ _ h j
theorem mFv_Z (na : Nat) : ∀ (n : Nat) (mo : Int32) (g : kG), (∀ j, kZ (g.1 22 0 j)) → ∀ j, kZ ((mFv na n mo g).1 22 0 j)
  | 0, mo, g, h, j => h j
  | n + 1, mo, g, h, j => by
    unfold mFv
    split
    · exact h j
    · exact mFv_Z na n _ _ (mRd_Z na 0 0 g h) j
theorem mClr_Z : ∀ (n k : Nat) (g : kG), (∀ j, kZ (g.1 22 0 j)) → ∀ j, kZ ((mClr n k g).1 22 0 j)
  | 0, k, g, h, j => h j
  | n + 1, k, g, h, j => by
    unfold mClr
    refine mClr_Z n _ _ (fun j => ?_) j
    show kZ (kU g.1 22 0 k 0 22 0 j)
    rw [kU22]
    split
    · exact Or.inl rfl
    · exact h j
set_option maxHeartbeats 4000000 in
set_option maxRecDepth 100000 in
theorem c_M_isFreshNow (l : Launch) (b : Nat → Nat → Nat) (dA : Nat → ClassId) (D : va_G) (g : kG) (n : Int32) (hn : vp_in n 12) (hS : mS g) (hz : ∀ j, kZ (g.1 22 0 j)) : kMd (sysM b dA D) l y_M_isFreshNow b_M_isFreshNow 2 (some .boolean) 2 47 [.inr (.inr (0, 0)), .inl n] g (some (.inl (mNow g n))) (mFr g) := by
  refine k_enter (by decide) [some (.inr (.inr (0, 0))), some (.inl n)] rfl rfl (Nat.le_of_ble_eq_true rfl) (fun x X => ?_)
  have C := X.1
  have O := X.2.1
  refine k_aload_n C d_M_isFreshNow_0 rfl rfl ?_
  refine k_cvV X d_M_isFreshNow_1 (c_M_freshen l b dA D g hS) cv_M_117 mr_0 rfl rfl ⟨by decide, by decide⟩ rfl rfl (Nat.le_of_ble_eq_true rfl) ?_
  refine k_aload_n C d_M_isFreshNow_4 rfl rfl ?_
  refine k_getR C O (r := (22, _)) d_M_isFreshNow_5 fl_M_63 mr_0 rfl rfl rfl rfl ?_
  refine k_iload_n C d_M_isFreshNow_8 rfl rfl ?_
  refine k_zald2 C O d_M_isFreshNow_9 mr_22 rfl 1 rfl hn rfl ?_
  exact k_zret X d_M_isFreshNow_10 (mFv_Z _ _ _ _ (mClr_Z _ _ _ hz) _) (k_pi (rfl))
