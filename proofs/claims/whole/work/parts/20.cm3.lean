/-! the reference: specs and contracts, 3: notes, rows, runs (by program: wip/gen/cm3.py) -/
def mPl (g : kG) (a : Nat) (f : Int32) : Nat → Nat → Nat
  | 0, k => k
  | n + 1, k => if g.1 15 0 (24 * a + k) = f then k else mPl g a f n (k + 1)
theorem mPl_le (g : kG) (a : Nat) (f : Int32) : ∀ n k, k ≤ mPl g a f n k ∧ mPl g a f n k ≤ k + n
  | 0, k => ⟨Nat.le_refl _, Nat.le_refl _⟩
  | n + 1, k => by
    unfold mPl
    split
    · omega
    · have := mPl_le g a f n (k + 1)
      omega
def mNt0 (g : kG) (a p : Nat) (f : Int32) : kG := (kU (kU (kU g.1 15 0 (24 * a + p) f) 21 0 (24 * a + p) 0) 14 0 a (g.1 14 0 a + 1), g.2)
def mNt1 (g : kG) (e f : Nat) (rd : Int32) : kG := if kU g.1 20 0 e (g.1 5 0 f) 21 0 e = 0 then (if rd = 0 then (kU (kU g.1 20 0 e (g.1 5 0 f)) 21 0 e 0, kUJ g.2 23 0 e (g.2 6 0 f)) else (kU (kU g.1 20 0 e (g.1 5 0 f)) 21 0 e 1, kUJ g.2 23 0 e (g.2 6 0 f))) else (kU (kU g.1 20 0 e (g.1 5 0 f)) 21 0 e 1, kUJ g.2 23 0 e (g.2 6 0 f))
def mNtAt (g : kG) (a p : Nat) (f rd : Int32) : kG := if nI p = g.1 14 0 a then mNt1 (mNt0 g a p f) (24 * a + p) (tn f) rd else mNt1 g (24 * a + p) (tn f) rd
def mNote (g : kG) (a : Nat) (f rd : Int32) : kG := mNtAt g a (mPl g a f (tn (g.1 14 0 a)) 0) f rd
def mLk2 (g : kG) (kd : Int32) (f : Nat) : Int32 × kG := if kd = 0 then (if g.1 5 0 f = 0 then (-3, g) else (1, (g.1, kUJ (kUJ g.2 0 0 33 (g.2 6 0 f)) 0 0 32 (31 * g.2 0 0 32 + g.2 6 0 f)))) else (if g.1 5 0 f = 0 then (1, (g.1, kUJ g.2 0 0 32 (31 * g.2 0 0 32 + 2))) else (1, (g.1, kUJ g.2 0 0 32 (31 * g.2 0 0 32 + 1))))
def mLk1 (g : kG) (a : Nat) (kd f : Int32) : Int32 × kG := if kd = 0 then (if (mNote g a f 1).1 5 0 (tn f) = 0 then (-3, mNote g a f 1) else (1, ((mNote g a f 1).1, kUJ (kUJ (mNote g a f 1).2 0 0 33 ((mNote g a f 1).2 6 0 (tn f))) 0 0 32 (31 * (mNote g a f 1).2 0 0 32 + (mNote g a f 1).2 6 0 (tn f))))) else (if (mNote g a f 0).1 5 0 (tn f) = 0 then (1, ((mNote g a f 0).1, kUJ (mNote g a f 0).2 0 0 32 (31 * (mNote g a f 0).2 0 0 32 + 2))) else (1, ((mNote g a f 0).1, kUJ (mNote g a f 0).2 0 0 32 (31 * (mNote g a f 0).2 0 0 32 + 1))))
def mLook (g : kG) (a : Nat) (kd f : Int32) : Int32 × kG := if (g.1 8 0 a >>> (f &&& 31)) &&& 1 = 0 then (-1, g) else if g.1 7 0 (tn f) = -1 then mLk1 g a kd f else if g.1 22 0 (tn (g.1 7 0 (tn f))) = 0 then (0, (kU g.1 19 0 a f, g.2)) else mLk1 g a kd f
def mRows (a : Nat) : Nat → Nat → kG → Int32 × kG
  | 0, _, g => (1, g)
  | n + 1, k, g => if g.1 10 0 a ≤ nI k then (1, g) else if g.1 11 0 (12 * a + k) = 2 then (if lg_cmp (g.2 0 0 33 &&& 1) 1 = 0 then mRows a n (k + 1 + tn (g.1 12 0 (12 * a + k))) g else mRows a n (k + 1) g) else if (mLook g a (g.1 11 0 (12 * a + k)) (g.1 12 0 (12 * a + k))).1 = 1 then mRows a n (k + 1) (mLook g a (g.1 11 0 (12 * a + k)) (g.1 12 0 (12 * a + k))).2 else mLook g a (g.1 11 0 (12 * a + k)) (g.1 12 0 (12 * a + k))
def mTry0 (g : kG) (a : Nat) : kG := (kU (kU g.1 14 0 a 0) 13 0 a 2, kUJ (kUJ g.2 0 0 32 7) 0 0 33 0)
def mTry (g : kG) (a : Nat) : Int32 × kG := mRows a 13 0 (mTry0 g a)
/-- what the walks of a try ask of the memory -/
def mL (g : kG) (a : Nat) : Prop := (∀ f, f < 24 → kZ (g.1 5 0 f)) ∧ kN (g.1 14 0 a) 12 ∧ kN (g.1 10 0 a) 12 ∧ (∀ f, f < 24 → g.1 7 0 f = -1 ∨ vp_in (g.1 7 0 f) 12) ∧ ∀ k, k < tn (g.1 10 0 a) → (g.1 11 0 (12 * a + k) = 2 ∧ kN (g.1 12 0 (12 * a + k)) 8) ∨ (¬ g.1 11 0 (12 * a + k) = 2 ∧ vp_in (g.1 12 0 (12 * a + k)) 24)
set_option maxHeartbeats 4000000 in
set_option maxRecDepth 100000 in
theorem l_M_note {x : kCx} {Q : State → Prop} (l : Launch) (b : Nat → Nat → Nat) (dA : Nat → ClassId) (D : va_G) (g : kG) (n0 f : Int32) (hn : vp_in n0 12) (c : Nat) (hc : g.1 14 0 (tn n0) = nI c) (h12 : c ≤ 12) (rd : Int32) (X : kIn (sysM b dA D) l b_M_note y_M_note.cls 6 none 0 0 x) : ∀ (n : Nat) (k : Nat), k + n = c → (Wk (kWd (sysM b dA D)) (kAA (sysM b dA D)) (y_ad (sysM b dA D)) x (0, 0) Q 36 [some (.inr (.inr (0, 0))), some (.inl n0), some (.inl f), some (.inl rd), some (.inl (nI (mPl g (tn n0) f n k))), none] [] g) → Wk (kWd (sysM b dA D)) (kAA (sysM b dA D)) (y_ad (sysM b dA D)) x (0, 0) Q 3 [some (.inr (.inr (0, 0))), some (.inl n0), some (.inl f), some (.inl rd), some (.inl (nI k)), none] [] g := by
  have C := X.1
  have O := X.2.1
  intro n
  induction n with
  | zero =>
    intro k hk K
    refine k_iload C d_M_note_3 rfl ?_
    refine k_aload_n C d_M_note_5 rfl rfl ?_
    refine k_getR C O (r := (14, _)) d_M_note_6 fl_M_39 mr_0 rfl rfl rfl rfl ?_
    refine k_iload_n C d_M_note_9 rfl rfl ?_
    refine k_iald2 C O d_M_note_10 mr_14 rfl 0 rfl hn rfl ?_
    refine k_icmp_ge C (tgt := 36) d_M_note_11 (by decide) (fun c11 => ?_) (fun c11 => ?_)
    · exact K
    · exact absurd (x_ge hc (by omega) (by omega)) c11
  | succ n ih =>
    intro k hk K
    refine k_iload C d_M_note_3 rfl ?_
    refine k_aload_n C d_M_note_5 rfl rfl ?_
    refine k_getR C O (r := (14, _)) d_M_note_6 fl_M_39 mr_0 rfl rfl rfl rfl ?_
    refine k_iload_n C d_M_note_9 rfl rfl ?_
    refine k_iald2 C O d_M_note_10 mr_14 rfl 0 rfl hn rfl ?_
    refine k_icmp_ge C (tgt := 36) d_M_note_11 (by decide) (fun c11 => ?_) (fun c11 => ?_)
    · exact absurd c11 (x_lt hc (by omega) (by omega))
    · refine k_aload_n C d_M_note_14 rfl rfl ?_
      refine k_getR C O (r := (15, _)) d_M_note_15 fl_M_42 mr_0 rfl rfl rfl rfl ?_
      refine k_bipush C (v := 24) d_M_note_18 (by decide) ?_
      refine k_iload_n C d_M_note_20 rfl rfl ?_
      refine k_imul C d_M_note_21 ?_
      refine k_iload C d_M_note_22 rfl ?_
      refine k_iadd C d_M_note_24 ?_
      refine k_iald2 C O (q := (24 * tn n0 + k)) d_M_note_25 mr_15 rfl 0 rfl (ix_in (L := 288) (c := 24) (N := 12) (k := k) rfl hn (by decide) rfl (by decide) (by omega)) (ix_q (c := 24) (N := 12) (k := k) rfl hn (by decide) rfl ⟨by decide, by omega⟩) ?_
      refine k_iload_n C d_M_note_26 rfl rfl ?_
      refine k_icmp_eq C (tgt := 36) d_M_note_27 (by decide) (fun c27 => ?_) (fun c27 => ?_)
      · simp only [mPl, if_pos c27] at K
        exact K
      · refine k_iinc C (w := nI (k + 1)) d_M_note_30 rfl (nI_inc k) rfl ?_
        refine k_goto C (tgt := 3) d_M_note_33 (by decide) ?_
        simp only [mPl, if_neg c27] at K
        exact ih (k + 1) (by omega) K

set_option maxHeartbeats 4000000 in
set_option maxRecDepth 100000 in
theorem c_M_note (l : Launch) (b : Nat → Nat → Nat) (dA : Nat → ClassId) (D : va_G) (g : kG) (n0 f rd : Int32) (hn : vp_in n0 12) (hf : vp_in f 24) (hc : kN (g.1 14 0 (tn n0)) 12) (hz : kZ (g.1 5 0 (tn f))) : kMd (sysM b dA D) l y_M_note b_M_note 6 none 0 0 [.inr (.inr (0, 0)), .inl n0, .inl f, .inl rd] g none (mNote g (tn n0) f rd) := by
  have hp := (mPl_le g (tn n0) f (tn (g.1 14 0 (tn n0))) 0).2
  have hp2 := hc.2
  refine k_enter (by decide) [some (.inr (.inr (0, 0))), some (.inl n0), some (.inl f), some (.inl rd), none, none] rfl rfl (Nat.le_of_ble_eq_true rfl) (fun x X => ?_)
  have C := X.1
  have O := X.2.1
  refine k_iconst C (v := 0) d_M_note_0 (by decide) ?_
  refine k_istore C d_M_note_1 (Nat.le_of_ble_eq_true rfl) rfl ?_
  refine l_M_note l b dA D g n0 f hn (tn (g.1 14 0 (tn n0))) hc.1 hc.2 rd X (tn (g.1 14 0 (tn n0))) 0 (by omega) ?_
  refine k_bipush C (v := 24) d_M_note_36 (by decide) ?_
  refine k_iload_n C d_M_note_38 rfl rfl ?_
  refine k_imul C d_M_note_39 ?_
  refine k_iload C d_M_note_40 rfl ?_
  refine k_iadd C d_M_note_42 ?_
  refine k_istore C d_M_note_43 (Nat.le_of_ble_eq_true rfl) rfl ?_
  refine k_iload C d_M_note_45 rfl ?_
  refine k_aload_n C d_M_note_47 rfl rfl ?_
  refine k_getR C O (r := (14, _)) d_M_note_48 fl_M_39 mr_0 rfl rfl rfl rfl ?_
  refine k_iload_n C d_M_note_51 rfl rfl ?_
  refine k_iald2 C O d_M_note_52 mr_14 rfl 0 rfl hn rfl ?_
  refine k_icmp_ne C (tgt := 82) d_M_note_53 (by decide) (fun c53 => ?_) (fun c53 => ?_)
  · refine k_aload_n C d_M_note_82 rfl rfl ?_
    refine k_getR C O (r := (20, _)) d_M_note_83 fl_M_57 mr_0 rfl rfl rfl rfl ?_
    refine k_iload C d_M_note_86 rfl ?_
    refine k_aload_n C d_M_note_88 rfl rfl ?_
    refine k_getR C O (r := (5, _)) d_M_note_89 fl_M_7 mr_0 rfl rfl rfl rfl ?_
    refine k_iload_n C d_M_note_92 rfl rfl ?_
    refine k_zald2 C O d_M_note_93 mr_5 rfl 1 rfl hf rfl ?_
    refine k_zast2 C O (q := (24 * tn n0 + (mPl g (tn n0) f (tn (g.1 14 0 (tn n0))) 0))) d_M_note_94 hz mr_20 rfl 1 rfl (ix_in (L := 288) (c := 24) (N := 12) (k := (mPl g (tn n0) f (tn (g.1 14 0 (tn n0))) 0)) rfl hn (by decide) rfl (by decide) (by omega)) (ix_q (c := 24) (N := 12) (k := (mPl g (tn n0) f (tn (g.1 14 0 (tn n0))) 0)) rfl hn (by decide) rfl ⟨by decide, by omega⟩) ?_
    refine k_aload_n C d_M_note_95 rfl rfl ?_
    refine k_getR C O (r := (21, _)) d_M_note_96 fl_M_60 mr_0 rfl rfl rfl rfl ?_
    refine k_iload C d_M_note_99 rfl ?_
    refine k_aload_n C d_M_note_101 rfl rfl ?_
    refine k_getR C O (r := (21, _)) d_M_note_102 fl_M_60 mr_0 rfl rfl rfl rfl ?_
    refine k_iload C d_M_note_105 rfl ?_
    refine k_zald2 C O (q := (24 * tn n0 + (mPl g (tn n0) f (tn (g.1 14 0 (tn n0))) 0))) d_M_note_107 mr_21 rfl 1 rfl (ix_in (L := 288) (c := 24) (N := 12) (k := (mPl g (tn n0) f (tn (g.1 14 0 (tn n0))) 0)) rfl hn (by decide) rfl (by decide) (by omega)) (ix_q (c := 24) (N := 12) (k := (mPl g (tn n0) f (tn (g.1 14 0 (tn n0))) 0)) rfl hn (by decide) rfl ⟨by decide, by omega⟩) ?_
    refine k_if_ne C (tgt := 115) d_M_note_108 (by decide) (fun c108 => ?_) (fun c108 => ?_)
    · refine k_iconst C (v := 1) d_M_note_115 (by decide) ?_
      refine k_goto C (tgt := 120) d_M_note_116 (by decide) ?_
      refine k_zast2 C O (q := (24 * tn n0 + (mPl g (tn n0) f (tn (g.1 14 0 (tn n0))) 0))) d_M_note_120 (Or.inr rfl) mr_21 rfl 1 rfl (ix_in (L := 288) (c := 24) (N := 12) (k := (mPl g (tn n0) f (tn (g.1 14 0 (tn n0))) 0)) rfl hn (by decide) rfl (by decide) (by omega)) (ix_q (c := 24) (N := 12) (k := (mPl g (tn n0) f (tn (g.1 14 0 (tn n0))) 0)) rfl hn (by decide) rfl ⟨by decide, by omega⟩) ?_
      refine k_aload_n C d_M_note_121 rfl rfl ?_
      refine k_getR C O (r := (23, _)) d_M_note_122 fl_M_66 mr_0 rfl rfl rfl rfl ?_
      refine k_iload C d_M_note_125 rfl ?_
      refine k_aload_n C d_M_note_127 rfl rfl ?_
      refine k_getR C O (r := (6, _)) d_M_note_128 fl_M_13 mr_0 rfl rfl rfl rfl ?_
      refine k_iload_n C d_M_note_131 rfl rfl ?_
      refine k_lald2 C O d_M_note_132 mr_6 rfl 2 rfl hf rfl ?_
      refine k_last2 C O (q := (24 * tn n0 + (mPl g (tn n0) f (tn (g.1 14 0 (tn n0))) 0))) d_M_note_133 mr_23 rfl 2 rfl (ix_in (L := 288) (c := 24) (N := 12) (k := (mPl g (tn n0) f (tn (g.1 14 0 (tn n0))) 0)) rfl hn (by decide) rfl (by decide) (by omega)) (ix_q (c := 24) (N := 12) (k := (mPl g (tn n0) f (tn (g.1 14 0 (tn n0))) 0)) rfl hn (by decide) rfl ⟨by decide, by omega⟩) ?_
      exact k_vret X d_M_note_134 (k_pv ((if_neg c53).trans ((if_neg c108).trans (rfl))))
    · refine k_iload_n C d_M_note_111 rfl rfl ?_
      refine k_if_eq C (tgt := 119) d_M_note_112 (by decide) (fun c112 => ?_) (fun c112 => ?_)
      · refine k_iconst C (v := 0) d_M_note_119 (by decide) ?_
        refine k_zast2 C O (q := (24 * tn n0 + (mPl g (tn n0) f (tn (g.1 14 0 (tn n0))) 0))) d_M_note_120 (Or.inl rfl) mr_21 rfl 1 rfl (ix_in (L := 288) (c := 24) (N := 12) (k := (mPl g (tn n0) f (tn (g.1 14 0 (tn n0))) 0)) rfl hn (by decide) rfl (by decide) (by omega)) (ix_q (c := 24) (N := 12) (k := (mPl g (tn n0) f (tn (g.1 14 0 (tn n0))) 0)) rfl hn (by decide) rfl ⟨by decide, by omega⟩) ?_
        refine k_aload_n C d_M_note_121 rfl rfl ?_
        refine k_getR C O (r := (23, _)) d_M_note_122 fl_M_66 mr_0 rfl rfl rfl rfl ?_
        refine k_iload C d_M_note_125 rfl ?_
        refine k_aload_n C d_M_note_127 rfl rfl ?_
        refine k_getR C O (r := (6, _)) d_M_note_128 fl_M_13 mr_0 rfl rfl rfl rfl ?_
        refine k_iload_n C d_M_note_131 rfl rfl ?_
        refine k_lald2 C O d_M_note_132 mr_6 rfl 2 rfl hf rfl ?_
        refine k_last2 C O (q := (24 * tn n0 + (mPl g (tn n0) f (tn (g.1 14 0 (tn n0))) 0))) d_M_note_133 mr_23 rfl 2 rfl (ix_in (L := 288) (c := 24) (N := 12) (k := (mPl g (tn n0) f (tn (g.1 14 0 (tn n0))) 0)) rfl hn (by decide) rfl (by decide) (by omega)) (ix_q (c := 24) (N := 12) (k := (mPl g (tn n0) f (tn (g.1 14 0 (tn n0))) 0)) rfl hn (by decide) rfl ⟨by decide, by omega⟩) ?_
        exact k_vret X d_M_note_134 (k_pv ((if_neg c53).trans ((if_pos c108).trans ((if_pos c112).trans (rfl)))))
      · refine k_iconst C (v := 1) d_M_note_115 (by decide) ?_
        refine k_goto C (tgt := 120) d_M_note_116 (by decide) ?_
        refine k_zast2 C O (q := (24 * tn n0 + (mPl g (tn n0) f (tn (g.1 14 0 (tn n0))) 0))) d_M_note_120 (Or.inr rfl) mr_21 rfl 1 rfl (ix_in (L := 288) (c := 24) (N := 12) (k := (mPl g (tn n0) f (tn (g.1 14 0 (tn n0))) 0)) rfl hn (by decide) rfl (by decide) (by omega)) (ix_q (c := 24) (N := 12) (k := (mPl g (tn n0) f (tn (g.1 14 0 (tn n0))) 0)) rfl hn (by decide) rfl ⟨by decide, by omega⟩) ?_
        refine k_aload_n C d_M_note_121 rfl rfl ?_
        refine k_getR C O (r := (23, _)) d_M_note_122 fl_M_66 mr_0 rfl rfl rfl rfl ?_
        refine k_iload C d_M_note_125 rfl ?_
        refine k_aload_n C d_M_note_127 rfl rfl ?_
        refine k_getR C O (r := (6, _)) d_M_note_128 fl_M_13 mr_0 rfl rfl rfl rfl ?_
        refine k_iload_n C d_M_note_131 rfl rfl ?_
        refine k_lald2 C O d_M_note_132 mr_6 rfl 2 rfl hf rfl ?_
        refine k_last2 C O (q := (24 * tn n0 + (mPl g (tn n0) f (tn (g.1 14 0 (tn n0))) 0))) d_M_note_133 mr_23 rfl 2 rfl (ix_in (L := 288) (c := 24) (N := 12) (k := (mPl g (tn n0) f (tn (g.1 14 0 (tn n0))) 0)) rfl hn (by decide) rfl (by decide) (by omega)) (ix_q (c := 24) (N := 12) (k := (mPl g (tn n0) f (tn (g.1 14 0 (tn n0))) 0)) rfl hn (by decide) rfl ⟨by decide, by omega⟩) ?_
        exact k_vret X d_M_note_134 (k_pv ((if_neg c53).trans ((if_pos c108).trans ((if_neg c112).trans (rfl)))))
  · refine k_aload_n C d_M_note_56 rfl rfl ?_
    refine k_getR C O (r := (15, _)) d_M_note_57 fl_M_42 mr_0 rfl rfl rfl rfl ?_
    refine k_iload C d_M_note_60 rfl ?_
    refine k_iload_n C d_M_note_62 rfl rfl ?_
    refine k_iast2 C O (q := (24 * tn n0 + (mPl g (tn n0) f (tn (g.1 14 0 (tn n0))) 0))) d_M_note_63 mr_15 rfl 0 rfl (ix_in (L := 288) (c := 24) (N := 12) (k := (mPl g (tn n0) f (tn (g.1 14 0 (tn n0))) 0)) rfl hn (by decide) rfl (by decide) (by omega)) (ix_q (c := 24) (N := 12) (k := (mPl g (tn n0) f (tn (g.1 14 0 (tn n0))) 0)) rfl hn (by decide) rfl ⟨by decide, by omega⟩) ?_
    refine k_aload_n C d_M_note_64 rfl rfl ?_
    refine k_getR C O (r := (21, _)) d_M_note_65 fl_M_60 mr_0 rfl rfl rfl rfl ?_
    refine k_iload C d_M_note_68 rfl ?_
    refine k_iconst C (v := 0) d_M_note_70 (by decide) ?_
    refine k_zast2 C O (q := (24 * tn n0 + (mPl g (tn n0) f (tn (g.1 14 0 (tn n0))) 0))) d_M_note_71 (Or.inl rfl) mr_21 rfl 1 rfl (ix_in (L := 288) (c := 24) (N := 12) (k := (mPl g (tn n0) f (tn (g.1 14 0 (tn n0))) 0)) rfl hn (by decide) rfl (by decide) (by omega)) (ix_q (c := 24) (N := 12) (k := (mPl g (tn n0) f (tn (g.1 14 0 (tn n0))) 0)) rfl hn (by decide) rfl ⟨by decide, by omega⟩) ?_
    refine k_aload_n C d_M_note_72 rfl rfl ?_
    refine k_getR C O (r := (14, _)) d_M_note_73 fl_M_39 mr_0 rfl rfl rfl rfl ?_
    refine k_iload_n C d_M_note_76 rfl rfl ?_
    refine k_dup2 C d_M_note_77 rfl rfl ?_
    refine k_iald2 C O d_M_note_78 mr_14 rfl 0 rfl hn rfl ?_
    refine k_iconst C (v := 1) d_M_note_79 (by decide) ?_
    refine k_iadd C d_M_note_80 ?_
    refine k_iast2 C O d_M_note_81 mr_14 rfl 0 rfl hn rfl ?_
    refine k_aload_n C d_M_note_82 rfl rfl ?_
    refine k_getR C O (r := (20, _)) d_M_note_83 fl_M_57 mr_0 rfl rfl rfl rfl ?_
    refine k_iload C d_M_note_86 rfl ?_
    refine k_aload_n C d_M_note_88 rfl rfl ?_
    refine k_getR C O (r := (5, _)) d_M_note_89 fl_M_7 mr_0 rfl rfl rfl rfl ?_
    refine k_iload_n C d_M_note_92 rfl rfl ?_
    refine k_zald2 C O d_M_note_93 mr_5 rfl 1 rfl hf rfl ?_
    refine k_zast2 C O (q := (24 * tn n0 + (mPl g (tn n0) f (tn (g.1 14 0 (tn n0))) 0))) d_M_note_94 hz mr_20 rfl 1 rfl (ix_in (L := 288) (c := 24) (N := 12) (k := (mPl g (tn n0) f (tn (g.1 14 0 (tn n0))) 0)) rfl hn (by decide) rfl (by decide) (by omega)) (ix_q (c := 24) (N := 12) (k := (mPl g (tn n0) f (tn (g.1 14 0 (tn n0))) 0)) rfl hn (by decide) rfl ⟨by decide, by omega⟩) ?_
    refine k_aload_n C d_M_note_95 rfl rfl ?_
    refine k_getR C O (r := (21, _)) d_M_note_96 fl_M_60 mr_0 rfl rfl rfl rfl ?_
    refine k_iload C d_M_note_99 rfl ?_
    refine k_aload_n C d_M_note_101 rfl rfl ?_
    refine k_getR C O (r := (21, _)) d_M_note_102 fl_M_60 mr_0 rfl rfl rfl rfl ?_
    refine k_iload C d_M_note_105 rfl ?_
    refine k_zald2 C O (q := (24 * tn n0 + (mPl g (tn n0) f (tn (g.1 14 0 (tn n0))) 0))) d_M_note_107 mr_21 rfl 1 rfl (ix_in (L := 288) (c := 24) (N := 12) (k := (mPl g (tn n0) f (tn (g.1 14 0 (tn n0))) 0)) rfl hn (by decide) rfl (by decide) (by omega)) (ix_q (c := 24) (N := 12) (k := (mPl g (tn n0) f (tn (g.1 14 0 (tn n0))) 0)) rfl hn (by decide) rfl ⟨by decide, by omega⟩) ?_
    refine k_if_ne C (tgt := 115) d_M_note_108 (by decide) (fun c108 => ?_) (fun c108 => ?_)
    · refine k_iconst C (v := 1) d_M_note_115 (by decide) ?_
      refine k_goto C (tgt := 120) d_M_note_116 (by decide) ?_
      refine k_zast2 C O (q := (24 * tn n0 + (mPl g (tn n0) f (tn (g.1 14 0 (tn n0))) 0))) d_M_note_120 (Or.inr rfl) mr_21 rfl 1 rfl (ix_in (L := 288) (c := 24) (N := 12) (k := (mPl g (tn n0) f (tn (g.1 14 0 (tn n0))) 0)) rfl hn (by decide) rfl (by decide) (by omega)) (ix_q (c := 24) (N := 12) (k := (mPl g (tn n0) f (tn (g.1 14 0 (tn n0))) 0)) rfl hn (by decide) rfl ⟨by decide, by omega⟩) ?_
      refine k_aload_n C d_M_note_121 rfl rfl ?_
      refine k_getR C O (r := (23, _)) d_M_note_122 fl_M_66 mr_0 rfl rfl rfl rfl ?_
      refine k_iload C d_M_note_125 rfl ?_
      refine k_aload_n C d_M_note_127 rfl rfl ?_
      refine k_getR C O (r := (6, _)) d_M_note_128 fl_M_13 mr_0 rfl rfl rfl rfl ?_
      refine k_iload_n C d_M_note_131 rfl rfl ?_
      refine k_lald2 C O d_M_note_132 mr_6 rfl 2 rfl hf rfl ?_
      refine k_last2 C O (q := (24 * tn n0 + (mPl g (tn n0) f (tn (g.1 14 0 (tn n0))) 0))) d_M_note_133 mr_23 rfl 2 rfl (ix_in (L := 288) (c := 24) (N := 12) (k := (mPl g (tn n0) f (tn (g.1 14 0 (tn n0))) 0)) rfl hn (by decide) rfl (by decide) (by omega)) (ix_q (c := 24) (N := 12) (k := (mPl g (tn n0) f (tn (g.1 14 0 (tn n0))) 0)) rfl hn (by decide) rfl ⟨by decide, by omega⟩) ?_
      exact k_vret X d_M_note_134 (k_pv ((if_pos c53).trans ((if_neg c108).trans (rfl))))
    · refine k_iload_n C d_M_note_111 rfl rfl ?_
      refine k_if_eq C (tgt := 119) d_M_note_112 (by decide) (fun c112 => ?_) (fun c112 => ?_)
      · refine k_iconst C (v := 0) d_M_note_119 (by decide) ?_
        refine k_zast2 C O (q := (24 * tn n0 + (mPl g (tn n0) f (tn (g.1 14 0 (tn n0))) 0))) d_M_note_120 (Or.inl rfl) mr_21 rfl 1 rfl (ix_in (L := 288) (c := 24) (N := 12) (k := (mPl g (tn n0) f (tn (g.1 14 0 (tn n0))) 0)) rfl hn (by decide) rfl (by decide) (by omega)) (ix_q (c := 24) (N := 12) (k := (mPl g (tn n0) f (tn (g.1 14 0 (tn n0))) 0)) rfl hn (by decide) rfl ⟨by decide, by omega⟩) ?_
        refine k_aload_n C d_M_note_121 rfl rfl ?_
        refine k_getR C O (r := (23, _)) d_M_note_122 fl_M_66 mr_0 rfl rfl rfl rfl ?_
        refine k_iload C d_M_note_125 rfl ?_
        refine k_aload_n C d_M_note_127 rfl rfl ?_
        refine k_getR C O (r := (6, _)) d_M_note_128 fl_M_13 mr_0 rfl rfl rfl rfl ?_
        refine k_iload_n C d_M_note_131 rfl rfl ?_
        refine k_lald2 C O d_M_note_132 mr_6 rfl 2 rfl hf rfl ?_
        refine k_last2 C O (q := (24 * tn n0 + (mPl g (tn n0) f (tn (g.1 14 0 (tn n0))) 0))) d_M_note_133 mr_23 rfl 2 rfl (ix_in (L := 288) (c := 24) (N := 12) (k := (mPl g (tn n0) f (tn (g.1 14 0 (tn n0))) 0)) rfl hn (by decide) rfl (by decide) (by omega)) (ix_q (c := 24) (N := 12) (k := (mPl g (tn n0) f (tn (g.1 14 0 (tn n0))) 0)) rfl hn (by decide) rfl ⟨by decide, by omega⟩) ?_
        exact k_vret X d_M_note_134 (k_pv ((if_pos c53).trans ((if_pos c108).trans ((if_pos c112).trans (rfl)))))
      · refine k_iconst C (v := 1) d_M_note_115 (by decide) ?_
        refine k_goto C (tgt := 120) d_M_note_116 (by decide) ?_
        refine k_zast2 C O (q := (24 * tn n0 + (mPl g (tn n0) f (tn (g.1 14 0 (tn n0))) 0))) d_M_note_120 (Or.inr rfl) mr_21 rfl 1 rfl (ix_in (L := 288) (c := 24) (N := 12) (k := (mPl g (tn n0) f (tn (g.1 14 0 (tn n0))) 0)) rfl hn (by decide) rfl (by decide) (by omega)) (ix_q (c := 24) (N := 12) (k := (mPl g (tn n0) f (tn (g.1 14 0 (tn n0))) 0)) rfl hn (by decide) rfl ⟨by decide, by omega⟩) ?_
        refine k_aload_n C d_M_note_121 rfl rfl ?_
        refine k_getR C O (r := (23, _)) d_M_note_122 fl_M_66 mr_0 rfl rfl rfl rfl ?_
        refine k_iload C d_M_note_125 rfl ?_
        refine k_aload_n C d_M_note_127 rfl rfl ?_
        refine k_getR C O (r := (6, _)) d_M_note_128 fl_M_13 mr_0 rfl rfl rfl rfl ?_
        refine k_iload_n C d_M_note_131 rfl rfl ?_
        refine k_lald2 C O d_M_note_132 mr_6 rfl 2 rfl hf rfl ?_
        refine k_last2 C O (q := (24 * tn n0 + (mPl g (tn n0) f (tn (g.1 14 0 (tn n0))) 0))) d_M_note_133 mr_23 rfl 2 rfl (ix_in (L := 288) (c := 24) (N := 12) (k := (mPl g (tn n0) f (tn (g.1 14 0 (tn n0))) 0)) rfl hn (by decide) rfl (by decide) (by omega)) (ix_q (c := 24) (N := 12) (k := (mPl g (tn n0) f (tn (g.1 14 0 (tn n0))) 0)) rfl hn (by decide) rfl ⟨by decide, by omega⟩) ?_
        exact k_vret X d_M_note_134 (k_pv ((if_pos c53).trans ((if_pos c108).trans ((if_neg c112).trans (rfl)))))

set_option maxHeartbeats 4000000 in
set_option maxRecDepth 100000 in
theorem c_M_look (l : Launch) (b : Nat → Nat → Nat) (dA : Nat → ClassId) (D : va_G) (g : kG) (n0 kd f : Int32) (hn : vp_in n0 12) (hf : vp_in f 24) (hc : kN (g.1 14 0 (tn n0)) 12) (hz : kZ (g.1 5 0 (tn f))) (hm : ∀ f, f < 24 → g.1 7 0 f = -1 ∨ vp_in (g.1 7 0 f) 12) : kMd (sysM b dA D) l y_M_look b_M_look 4 (some .int) 1 25 [.inr (.inr (0, 0)), .inl n0, .inl kd, .inl f] g (some (.inl (mLook g (tn n0) kd f).1)) (mLook g (tn n0) kd f).2 := by
  refine k_enter (by decide) [some (.inr (.inr (0, 0))), some (.inl n0), some (.inl kd), some (.inl f)] rfl rfl (Nat.le_of_ble_eq_true rfl) (fun x X => ?_)
  have C := X.1
  have O := X.2.1
  refine k_aload_n C d_M_look_0 rfl rfl ?_
  refine k_getR C O (r := (8, _)) d_M_look_1 fl_M_21 mr_0 rfl rfl rfl rfl ?_
  refine k_iload_n C d_M_look_4 rfl rfl ?_
  refine k_iald2 C O d_M_look_5 mr_8 rfl 0 rfl hn rfl ?_
  refine k_iload_n C d_M_look_6 rfl rfl ?_
  refine k_ishr C d_M_look_7 ?_
  refine k_iconst C (v := 1) d_M_look_8 (by decide) ?_
  refine k_iand C d_M_look_9 ?_
  refine k_if_ne C (tgt := 15) d_M_look_10 (by decide) (fun c10 => ?_) (fun c10 => ?_)
  · refine k_aload_n C d_M_look_15 rfl rfl ?_
    refine k_getR C O (r := (7, _)) d_M_look_16 fl_M_17 mr_0 rfl rfl rfl rfl ?_
    refine k_iload_n C d_M_look_19 rfl rfl ?_
    refine k_iald2 C O d_M_look_20 mr_7 rfl 0 rfl hf rfl ?_
    refine k_iconst C (v := (-1)) d_M_look_21 (by decide) ?_
    refine k_icmp_eq C (tgt := 48) d_M_look_22 (by decide) (fun c22 => ?_) (fun c22 => ?_)
    · refine k_aload_n C d_M_look_48 rfl rfl ?_
      refine k_iload_n C d_M_look_49 rfl rfl ?_
      refine k_iload_n C d_M_look_50 rfl rfl ?_
      refine k_iload_n C d_M_look_51 rfl rfl ?_
      refine k_if_ne C (tgt := 59) d_M_look_52 (by decide) (fun c52 => ?_) (fun c52 => ?_)
      · refine k_iconst C (v := 0) d_M_look_59 (by decide) ?_
        refine k_cvV X d_M_look_60 (c_M_note l b dA D g n0 f _ hn hf hc hz) cv_M_120 mr_0 rfl rfl ⟨by decide, by decide⟩ rfl rfl (Nat.le_of_ble_eq_true rfl) ?_
        refine k_iload_n C d_M_look_63 rfl rfl ?_
        refine k_if_ne C (tgt := 79) d_M_look_64 (by decide) (fun _ => ?_) (fun q => absurd q c52)
        refine k_iload_n C d_M_look_79 rfl rfl ?_
        refine k_if_ne C (tgt := 93) d_M_look_80 (by decide) (fun _ => ?_) (fun q => absurd q c52)
        refine k_aload_n C d_M_look_93 rfl rfl ?_
        refine k_ldc2 C (v := 31) d_M_look_94 (by decide +kernel) ?_
        refine k_aload_n C d_M_look_97 rfl rfl ?_
        refine k_getJ C O d_M_look_98 fl_M_130 mr_0 rfl rfl rfl ?_
        refine k_lmul C d_M_look_101 ?_
        refine k_iload_n C d_M_look_102 rfl rfl ?_
        refine k_if_ne C (tgt := 115) d_M_look_103 (by decide) (fun _ => ?_) (fun q => absurd q c52)
        refine k_aload_n C d_M_look_115 rfl rfl ?_
        refine k_getR C O (r := (5, _)) d_M_look_116 fl_M_7 mr_0 rfl rfl rfl rfl ?_
        refine k_iload_n C d_M_look_119 rfl rfl ?_
        refine k_zald2 C O d_M_look_120 mr_5 rfl 1 rfl hf rfl ?_
        refine k_if_eq C (tgt := 128) d_M_look_121 (by decide) (fun c121 => ?_) (fun c121 => ?_)
        · refine k_ldc2 C (v := 2) d_M_look_128 (by decide +kernel) ?_
          refine k_ladd C d_M_look_131 ?_
          refine k_putJ C O d_M_look_132 fp_M_130 mr_0 rfl rfl rfl ?_
          refine k_iconst C (v := 1) d_M_look_135 (by decide) ?_
          exact k_iret X d_M_look_136 (k_pr ((if_neg c10).trans ((if_pos c22).trans ((if_neg c52).trans ((if_pos c121).trans (rfl))))))
        · refine k_lconst C (v := 1) d_M_look_124 (by decide) ?_
          refine k_goto C (tgt := 131) d_M_look_125 (by decide) ?_
          refine k_ladd C d_M_look_131 ?_
          refine k_putJ C O d_M_look_132 fp_M_130 mr_0 rfl rfl rfl ?_
          refine k_iconst C (v := 1) d_M_look_135 (by decide) ?_
          exact k_iret X d_M_look_136 (k_pr ((if_neg c10).trans ((if_pos c22).trans ((if_neg c52).trans ((if_neg c121).trans (rfl))))))
      · refine k_iconst C (v := 1) d_M_look_55 (by decide) ?_
        refine k_goto C (tgt := 60) d_M_look_56 (by decide) ?_
        refine k_cvV X d_M_look_60 (c_M_note l b dA D g n0 f _ hn hf hc hz) cv_M_120 mr_0 rfl rfl ⟨by decide, by decide⟩ rfl rfl (Nat.le_of_ble_eq_true rfl) ?_
        refine k_iload_n C d_M_look_63 rfl rfl ?_
        refine k_if_ne C (tgt := 79) d_M_look_64 (by decide) (fun q => absurd c52 q) (fun _ => ?_)
        refine k_aload_n C d_M_look_67 rfl rfl ?_
        refine k_getR C O (r := (5, _)) d_M_look_68 fl_M_7 mr_0 rfl rfl rfl rfl ?_
        refine k_iload_n C d_M_look_71 rfl rfl ?_
        refine k_zald2 C O d_M_look_72 mr_5 rfl 1 rfl hf rfl ?_
        refine k_if_ne C (tgt := 79) d_M_look_73 (by decide) (fun c73 => ?_) (fun c73 => ?_)
        · refine k_iload_n C d_M_look_79 rfl rfl ?_
          refine k_if_ne C (tgt := 93) d_M_look_80 (by decide) (fun q => absurd c52 q) (fun _ => ?_)
          refine k_aload_n C d_M_look_83 rfl rfl ?_
          refine k_aload_n C d_M_look_84 rfl rfl ?_
          refine k_getR C O (r := (6, _)) d_M_look_85 fl_M_13 mr_0 rfl rfl rfl rfl ?_
          refine k_iload_n C d_M_look_88 rfl rfl ?_
          refine k_lald2 C O d_M_look_89 mr_6 rfl 2 rfl hf rfl ?_
          refine k_putJ C O d_M_look_90 fp_M_124 mr_0 rfl rfl rfl ?_
          refine k_aload_n C d_M_look_93 rfl rfl ?_
          refine k_ldc2 C (v := 31) d_M_look_94 (by decide +kernel) ?_
          refine k_aload_n C d_M_look_97 rfl rfl ?_
          refine k_getJ C O d_M_look_98 fl_M_130 mr_0 rfl rfl rfl ?_
          refine k_lmul C d_M_look_101 ?_
          refine k_iload_n C d_M_look_102 rfl rfl ?_
          refine k_if_ne C (tgt := 115) d_M_look_103 (by decide) (fun q => absurd c52 q) (fun _ => ?_)
          refine k_aload_n C d_M_look_106 rfl rfl ?_
          refine k_getR C O (r := (6, _)) d_M_look_107 fl_M_13 mr_0 rfl rfl rfl rfl ?_
          refine k_iload_n C d_M_look_110 rfl rfl ?_
          refine k_lald2 C O d_M_look_111 mr_6 rfl 2 rfl hf rfl ?_
          refine k_goto C (tgt := 131) d_M_look_112 (by decide) ?_
          refine k_ladd C d_M_look_131 ?_
          refine k_putJ C O d_M_look_132 fp_M_130 mr_0 rfl rfl rfl ?_
          refine k_iconst C (v := 1) d_M_look_135 (by decide) ?_
          exact k_iret X d_M_look_136 (k_pr ((if_neg c10).trans ((if_pos c22).trans ((if_pos c52).trans ((if_neg c73).trans (rfl))))))
        · refine k_bipush C (v := (-3)) d_M_look_76 (by decide) ?_
          exact k_iret X d_M_look_78 (k_pr ((if_neg c10).trans ((if_pos c22).trans ((if_pos c52).trans ((if_pos c73).trans (rfl))))))
    · refine k_aload_n C d_M_look_25 rfl rfl ?_
      refine k_getR C O (r := (22, _)) d_M_look_26 fl_M_63 mr_0 rfl rfl rfl rfl ?_
      refine k_aload_n C d_M_look_29 rfl rfl ?_
      refine k_getR C O (r := (7, _)) d_M_look_30 fl_M_17 mr_0 rfl rfl rfl rfl ?_
      refine k_iload_n C d_M_look_33 rfl rfl ?_
      refine k_iald2 C O d_M_look_34 mr_7 rfl 0 rfl hf rfl ?_
      refine k_zald2 C O d_M_look_35 mr_22 rfl 1 rfl ((hm _ (vi_lt hf)).resolve_left c22) rfl ?_
      refine k_if_ne C (tgt := 48) d_M_look_36 (by decide) (fun c36 => ?_) (fun c36 => ?_)
      · refine k_aload_n C d_M_look_48 rfl rfl ?_
        refine k_iload_n C d_M_look_49 rfl rfl ?_
        refine k_iload_n C d_M_look_50 rfl rfl ?_
        refine k_iload_n C d_M_look_51 rfl rfl ?_
        refine k_if_ne C (tgt := 59) d_M_look_52 (by decide) (fun c52 => ?_) (fun c52 => ?_)
        · refine k_iconst C (v := 0) d_M_look_59 (by decide) ?_
          refine k_cvV X d_M_look_60 (c_M_note l b dA D g n0 f _ hn hf hc hz) cv_M_120 mr_0 rfl rfl ⟨by decide, by decide⟩ rfl rfl (Nat.le_of_ble_eq_true rfl) ?_
          refine k_iload_n C d_M_look_63 rfl rfl ?_
          refine k_if_ne C (tgt := 79) d_M_look_64 (by decide) (fun _ => ?_) (fun q => absurd q c52)
          refine k_iload_n C d_M_look_79 rfl rfl ?_
          refine k_if_ne C (tgt := 93) d_M_look_80 (by decide) (fun _ => ?_) (fun q => absurd q c52)
          refine k_aload_n C d_M_look_93 rfl rfl ?_
          refine k_ldc2 C (v := 31) d_M_look_94 (by decide +kernel) ?_
          refine k_aload_n C d_M_look_97 rfl rfl ?_
          refine k_getJ C O d_M_look_98 fl_M_130 mr_0 rfl rfl rfl ?_
          refine k_lmul C d_M_look_101 ?_
          refine k_iload_n C d_M_look_102 rfl rfl ?_
          refine k_if_ne C (tgt := 115) d_M_look_103 (by decide) (fun _ => ?_) (fun q => absurd q c52)
          refine k_aload_n C d_M_look_115 rfl rfl ?_
          refine k_getR C O (r := (5, _)) d_M_look_116 fl_M_7 mr_0 rfl rfl rfl rfl ?_
          refine k_iload_n C d_M_look_119 rfl rfl ?_
          refine k_zald2 C O d_M_look_120 mr_5 rfl 1 rfl hf rfl ?_
          refine k_if_eq C (tgt := 128) d_M_look_121 (by decide) (fun c121 => ?_) (fun c121 => ?_)
          · refine k_ldc2 C (v := 2) d_M_look_128 (by decide +kernel) ?_
            refine k_ladd C d_M_look_131 ?_
            refine k_putJ C O d_M_look_132 fp_M_130 mr_0 rfl rfl rfl ?_
            refine k_iconst C (v := 1) d_M_look_135 (by decide) ?_
            exact k_iret X d_M_look_136 (k_pr ((if_neg c10).trans ((if_neg c22).trans ((if_neg c36).trans ((if_neg c52).trans ((if_pos c121).trans (rfl)))))))
          · refine k_lconst C (v := 1) d_M_look_124 (by decide) ?_
            refine k_goto C (tgt := 131) d_M_look_125 (by decide) ?_
            refine k_ladd C d_M_look_131 ?_
            refine k_putJ C O d_M_look_132 fp_M_130 mr_0 rfl rfl rfl ?_
            refine k_iconst C (v := 1) d_M_look_135 (by decide) ?_
            exact k_iret X d_M_look_136 (k_pr ((if_neg c10).trans ((if_neg c22).trans ((if_neg c36).trans ((if_neg c52).trans ((if_neg c121).trans (rfl)))))))
        · refine k_iconst C (v := 1) d_M_look_55 (by decide) ?_
          refine k_goto C (tgt := 60) d_M_look_56 (by decide) ?_
          refine k_cvV X d_M_look_60 (c_M_note l b dA D g n0 f _ hn hf hc hz) cv_M_120 mr_0 rfl rfl ⟨by decide, by decide⟩ rfl rfl (Nat.le_of_ble_eq_true rfl) ?_
          refine k_iload_n C d_M_look_63 rfl rfl ?_
          refine k_if_ne C (tgt := 79) d_M_look_64 (by decide) (fun q => absurd c52 q) (fun _ => ?_)
          refine k_aload_n C d_M_look_67 rfl rfl ?_
          refine k_getR C O (r := (5, _)) d_M_look_68 fl_M_7 mr_0 rfl rfl rfl rfl ?_
          refine k_iload_n C d_M_look_71 rfl rfl ?_
          refine k_zald2 C O d_M_look_72 mr_5 rfl 1 rfl hf rfl ?_
          refine k_if_ne C (tgt := 79) d_M_look_73 (by decide) (fun c73 => ?_) (fun c73 => ?_)
          · refine k_iload_n C d_M_look_79 rfl rfl ?_
            refine k_if_ne C (tgt := 93) d_M_look_80 (by decide) (fun q => absurd c52 q) (fun _ => ?_)
            refine k_aload_n C d_M_look_83 rfl rfl ?_
            refine k_aload_n C d_M_look_84 rfl rfl ?_
            refine k_getR C O (r := (6, _)) d_M_look_85 fl_M_13 mr_0 rfl rfl rfl rfl ?_
            refine k_iload_n C d_M_look_88 rfl rfl ?_
            refine k_lald2 C O d_M_look_89 mr_6 rfl 2 rfl hf rfl ?_
            refine k_putJ C O d_M_look_90 fp_M_124 mr_0 rfl rfl rfl ?_
            refine k_aload_n C d_M_look_93 rfl rfl ?_
            refine k_ldc2 C (v := 31) d_M_look_94 (by decide +kernel) ?_
            refine k_aload_n C d_M_look_97 rfl rfl ?_
            refine k_getJ C O d_M_look_98 fl_M_130 mr_0 rfl rfl rfl ?_
            refine k_lmul C d_M_look_101 ?_
            refine k_iload_n C d_M_look_102 rfl rfl ?_
            refine k_if_ne C (tgt := 115) d_M_look_103 (by decide) (fun q => absurd c52 q) (fun _ => ?_)
            refine k_aload_n C d_M_look_106 rfl rfl ?_
            refine k_getR C O (r := (6, _)) d_M_look_107 fl_M_13 mr_0 rfl rfl rfl rfl ?_
            refine k_iload_n C d_M_look_110 rfl rfl ?_
            refine k_lald2 C O d_M_look_111 mr_6 rfl 2 rfl hf rfl ?_
            refine k_goto C (tgt := 131) d_M_look_112 (by decide) ?_
            refine k_ladd C d_M_look_131 ?_
            refine k_putJ C O d_M_look_132 fp_M_130 mr_0 rfl rfl rfl ?_
            refine k_iconst C (v := 1) d_M_look_135 (by decide) ?_
            exact k_iret X d_M_look_136 (k_pr ((if_neg c10).trans ((if_neg c22).trans ((if_neg c36).trans ((if_pos c52).trans ((if_neg c73).trans (rfl)))))))
          · refine k_bipush C (v := (-3)) d_M_look_76 (by decide) ?_
            exact k_iret X d_M_look_78 (k_pr ((if_neg c10).trans ((if_neg c22).trans ((if_neg c36).trans ((if_pos c52).trans ((if_pos c73).trans (rfl)))))))
      · refine k_aload_n C d_M_look_39 rfl rfl ?_
        refine k_getR C O (r := (19, _)) d_M_look_40 fl_M_54 mr_0 rfl rfl rfl rfl ?_
        refine k_iload_n C d_M_look_43 rfl rfl ?_
        refine k_iload_n C d_M_look_44 rfl rfl ?_
        refine k_iast2 C O d_M_look_45 mr_19 rfl 0 rfl hn rfl ?_
        refine k_iconst C (v := 0) d_M_look_46 (by decide) ?_
        exact k_iret X d_M_look_47 (k_pr ((if_neg c10).trans ((if_neg c22).trans ((if_pos c36).trans (rfl)))))
  · refine k_iconst C (v := (-1)) d_M_look_13 (by decide) ?_
    exact k_iret X d_M_look_14 (k_pr ((if_pos c10).trans (rfl)))

theorem mNote_fr (g : kG) (a : Nat) (f rd : Int32) (k i j : Nat) (h : k ≠ 14 ∧ k ≠ 15 ∧ k ≠ 20 ∧ k ≠ 21) : (mNote g a f rd).1 k i j = g.1 k i j := by
  obtain ⟨h1, h2, h3, h4⟩ := h
  unfold mNote mNtAt
  split
  · unfold mNt1 mNt0
    split
    · split <;> simp [kU, h1, h2, h3, h4]
    · simp [kU, h1, h2, h3, h4]
  · unfold mNt1
    split
    · split <;> simp [kU, h1, h2, h3, h4]
    · simp [kU, h1, h2, h3, h4]
theorem mLk1_fr (g : kG) (a : Nat) (kd f : Int32) (k i j : Nat) (h : k ≠ 14 ∧ k ≠ 15 ∧ k ≠ 20 ∧ k ≠ 21) : (mLk1 g a kd f).2.1 k i j = g.1 k i j := by
  have e1 := mNote_fr g a f 1 k i j h
  have e0 := mNote_fr g a f 0 k i j h
  unfold mLk1
  split
  · split <;> exact e1
  · split <;> exact e0
theorem mLook_fr (g : kG) (a : Nat) (kd f : Int32) (k i j : Nat) (h : (k ≠ 14 ∧ k ≠ 15 ∧ k ≠ 20 ∧ k ≠ 21) ∧ k ≠ 19) : (mLook g a kd f).2.1 k i j = g.1 k i j := by
  have e := mLk1_fr g a kd f k i j h.1
  unfold mLook
  split
  · rfl
  · split
    · exact e
    · split
      · simp [kU, h.2]
      · exact e
theorem mNote_cnt (g : kG) (a : Nat) (f rd : Int32) (hc : kN (g.1 14 0 a) 12) (hk : tn (g.1 14 0 a) ≤ 11) : kN ((mNote g a f rd).1 14 0 a) 12 ∧ tn ((mNote g a f rd).1 14 0 a) ≤ tn (g.1 14 0 a) + 1 := by
  have h9 : g.1 14 0 a + 1 = nI (tn (g.1 14 0 a) + 1) := by
    conv => lhs; rw [hc.1]
    exact nI_1 _
  have h8 : tn (g.1 14 0 a + 1) = tn (g.1 14 0 a) + 1 := by rw [h9]; exact nI_clamp (by omega)
  have h7 : kN (g.1 14 0 a + 1) 12 ∧ tn (g.1 14 0 a + 1) ≤ tn (g.1 14 0 a) + 1 := by
    refine ⟨?_, by omega⟩
    rw [h9]
    exact kN_of (by omega) (by omega)
  unfold mNote mNtAt
  split
  · unfold mNt1 mNt0
    split
    · split <;> simpa [kU] using h7
    · simpa [kU] using h7
  · unfold mNt1
    have h6 : kN (g.1 14 0 a) 12 ∧ tn (g.1 14 0 a) ≤ tn (g.1 14 0 a) + 1 := ⟨hc, by omega⟩
    split
    · split <;> simpa [kU] using h6
    · simpa [kU] using h6
theorem mLook_cnt (g : kG) (a : Nat) (kd f : Int32) (hc : kN (g.1 14 0 a) 12) (hk : tn (g.1 14 0 a) ≤ 11) : kN ((mLook g a kd f).2.1 14 0 a) 12 ∧ tn ((mLook g a kd f).2.1 14 0 a) ≤ tn (g.1 14 0 a) + 1 := by
  have e1 := mNote_cnt g a f 1 hc hk
  have e0 := mNote_cnt g a f 0 hc hk
  have e : kN ((mLk1 g a kd f).2.1 14 0 a) 12 ∧ tn ((mLk1 g a kd f).2.1 14 0 a) ≤ tn (g.1 14 0 a) + 1 := by
    unfold mLk1
    split
    · split <;> exact e1
    · split <;> exact e0
  unfold mLook
  split
  · exact ⟨hc, Nat.le_succ _⟩
  · split
    · exact e
    · split
      · exact ⟨hc, Nat.le_succ _⟩
      · exact e
theorem mL_look {g : kG} {a : Nat} (h : mL g a) (kd f : Int32) (hk : tn (g.1 14 0 a) ≤ 11) : mL (mLook g a kd f).2 a := by
  obtain ⟨h1, h2, h3, h4, h5⟩ := h
  have e := fun k i j (hq : (k ≠ 14 ∧ k ≠ 15 ∧ k ≠ 20 ∧ k ≠ 21) ∧ k ≠ 19) => mLook_fr g a kd f k i j hq
  refine ⟨fun q hq => ?_, (mLook_cnt g a kd f h2 hk).1, ?_, fun q hq => ?_, fun k hk => ?_⟩
  · rw [e 5 0 q (by decide)]; exact h1 q hq
  · rw [e 10 0 a (by decide)]; exact h3
  · rw [e 7 0 q (by decide)]; exact h4 q hq
  · rw [e 10 0 a (by decide)] at hk
    rw [e 11 0 _ (by decide), e 12 0 _ (by decide)]
    exact h5 k hk
set_option maxHeartbeats 4000000 in
set_option maxRecDepth 100000 in
theorem l_M_rows {x : kCx} (l : Launch) (b : Nat → Nat → Nat) (dA : Nat → ClassId) (D : va_G) (n0 : Int32) (hn : vp_in n0 12) (X : kIn (sysM b dA D) l b_M_tryRows y_M_tryRows.cls 6 (some .int) 2 48 x) : ∀ (n : Nat) (k : Nat) (g : kG) (z3 z4 z5 : Option kV), mL g (tn n0) → tn (g.1 10 0 (tn n0)) < k + n → k ≤ 21 → tn (g.1 14 0 (tn n0)) ≤ k → Wk (kWd (sysM b dA D)) (kAA (sysM b dA D)) (y_ad (sysM b dA D)) x (0, 0) (kQ (sysM b dA D) (fun r g2 => r = some (.inl (mRows (tn n0) n k g).1) ∧ g2 = (mRows (tn n0) n k g).2) x) 28 [some (.inr (.inr (0, 0))), some (.inl n0), some (.inl (nI k)), z3, z4, z5] [] g := by
  have C := X.1
  have O := X.2.1
  intro n
  induction n with
  | zero =>
    intro k g z3 z4 z5 hL hk hk2 hk3
    have hr := hL.2.2.1
    refine k_iload_n C d_M_tryRows_28 rfl rfl ?_
    refine k_aload_n C d_M_tryRows_29 rfl rfl ?_
    refine k_getR C O (r := (10, _)) d_M_tryRows_30 fl_M_27 mr_0 rfl rfl rfl rfl ?_
    refine k_iload_n C d_M_tryRows_33 rfl rfl ?_
    refine k_iald2 C O d_M_tryRows_34 mr_10 rfl 0 rfl hn rfl ?_
    refine k_icmp_ge C (tgt := 116) d_M_tryRows_35 (by decide) (fun c35 => ?_) (fun c35 => ?_)
    · refine k_iconst C (v := 1) d_M_tryRows_116 (by decide) ?_
      exact k_iret X d_M_tryRows_117 (⟨rfl, rfl⟩)
    · exact absurd (x_ge hr.1 (by omega) (by omega)) c35
  | succ n ih =>
    intro k g z3 z4 z5 hL hk hk2 hk3
    have hr := hL.2.2.1
    have hr2 := hr.2
    refine k_iload_n C d_M_tryRows_28 rfl rfl ?_
    refine k_aload_n C d_M_tryRows_29 rfl rfl ?_
    refine k_getR C O (r := (10, _)) d_M_tryRows_30 fl_M_27 mr_0 rfl rfl rfl rfl ?_
    refine k_iload_n C d_M_tryRows_33 rfl rfl ?_
    refine k_iald2 C O d_M_tryRows_34 mr_10 rfl 0 rfl hn rfl ?_
    refine k_icmp_ge C (tgt := 116) d_M_tryRows_35 (by decide) (fun c35 => ?_) (fun c35 => ?_)
    · refine k_iconst C (v := 1) d_M_tryRows_116 (by decide) ?_
      exact k_iret X d_M_tryRows_117 (k_pr ((if_pos c35).trans (rfl)))
    · have hlt : k < tn (g.1 10 0 (tn n0)) := by
        rcases Nat.lt_or_ge k (tn (g.1 10 0 (tn n0))) with q | q
        · exact q
        · exact absurd (x_ge hr.1 q (by omega)) c35
      have hrow := hL.2.2.2.2 k hlt
      refine k_aload_n C d_M_tryRows_38 rfl rfl ?_
      refine k_getR C O (r := (11, _)) d_M_tryRows_39 fl_M_30 mr_0 rfl rfl rfl rfl ?_
      refine k_bipush C (v := 12) d_M_tryRows_42 (by decide) ?_
      refine k_iload_n C d_M_tryRows_44 rfl rfl ?_
      refine k_imul C d_M_tryRows_45 ?_
      refine k_iload_n C d_M_tryRows_46 rfl rfl ?_
      refine k_iadd C d_M_tryRows_47 ?_
      refine k_iald2 C O (q := (12 * tn n0 + k)) d_M_tryRows_48 mr_11 rfl 0 rfl (ix_in (L := 144) (c := 12) (N := 12) (k := k) rfl hn (by decide) rfl (by decide) (by omega)) (ix_q (c := 12) (N := 12) (k := k) rfl hn (by decide) rfl ⟨by decide, by omega⟩) ?_
      refine k_istore_n C d_M_tryRows_49 rfl (Nat.le_of_ble_eq_true rfl) rfl ?_
      refine k_aload_n C d_M_tryRows_50 rfl rfl ?_
      refine k_getR C O (r := (12, _)) d_M_tryRows_51 fl_M_33 mr_0 rfl rfl rfl rfl ?_
      refine k_bipush C (v := 12) d_M_tryRows_54 (by decide) ?_
      refine k_iload_n C d_M_tryRows_56 rfl rfl ?_
      refine k_imul C d_M_tryRows_57 ?_
      refine k_iload_n C d_M_tryRows_58 rfl rfl ?_
      refine k_iadd C d_M_tryRows_59 ?_
      refine k_iald2 C O (q := (12 * tn n0 + k)) d_M_tryRows_60 mr_12 rfl 0 rfl (ix_in (L := 144) (c := 12) (N := 12) (k := k) rfl hn (by decide) rfl (by decide) (by omega)) (ix_q (c := 12) (N := 12) (k := k) rfl hn (by decide) rfl ⟨by decide, by omega⟩) ?_
      refine k_istore C d_M_tryRows_61 (Nat.le_of_ble_eq_true rfl) rfl ?_
      refine k_iinc C (w := nI (k + 1)) d_M_tryRows_63 rfl (nI_inc k) rfl ?_
      refine k_iload_n C d_M_tryRows_66 rfl rfl ?_
      refine k_iconst C (v := 2) d_M_tryRows_67 (by decide) ?_
      refine k_icmp_ne C (tgt := 94) d_M_tryRows_68 (by decide) (fun c68 => ?_) (fun c68 => ?_)
      · have hw := (hrow.resolve_left (fun q => c68 q.1)).2
        refine k_aload_n C d_M_tryRows_94 rfl rfl ?_
        refine k_iload_n C d_M_tryRows_95 rfl rfl ?_
        refine k_iload_n C d_M_tryRows_96 rfl rfl ?_
        refine k_iload C d_M_tryRows_97 rfl ?_
        refine k_cvI X d_M_tryRows_99 (c_M_look l b dA D g n0 _ (g.1 12 0 (12 * tn n0 + k)) hn hw hL.2.1 (hL.1 _ (vi_lt hw)) hL.2.2.2.1) cv_M_137 mr_0 rfl rfl ⟨by decide, by decide⟩ rfl rfl (Nat.le_of_ble_eq_true rfl) ?_
        refine k_istore C d_M_tryRows_102 (Nat.le_of_ble_eq_true rfl) rfl ?_
        refine k_iload C d_M_tryRows_104 rfl ?_
        refine k_iconst C (v := 1) d_M_tryRows_106 (by decide) ?_
        refine k_icmp_eq C (tgt := 113) d_M_tryRows_107 (by decide) (fun c107 => ?_) (fun c107 => ?_)
        · refine k_goto C (tgt := 28) d_M_tryRows_113 (by decide) ?_
          have h6 := mLook_cnt g (tn n0) (g.1 11 0 (12 * tn n0 + k)) (g.1 12 0 (12 * tn n0 + k)) hL.2.1 (by omega)
          exact k_Qs ((if_neg c35).trans ((if_neg c68).trans ((if_pos c107).trans (rfl)))) (ih (k + 1) (mLook g (tn n0) (g.1 11 0 (12 * tn n0 + k)) (g.1 12 0 (12 * tn n0 + k))).2 _ _ _ (mL_look hL _ _ (by omega)) (by rw [mLook_fr g (tn n0) _ (g.1 12 0 (12 * tn n0 + k)) 10 0 (tn n0) (by decide)]; omega) (by omega) (by omega))
        · refine k_iload C d_M_tryRows_110 rfl ?_
          exact k_iret X d_M_tryRows_112 (k_pr ((if_neg c35).trans ((if_neg c68).trans ((if_neg c107).trans (rfl)))))
      · have hw := (hrow.resolve_right (fun q => q.1 c68)).2
        have hw1 := hw.1
        have hw2 := hw.2
        have e9 : nI (k + 1) + (g.1 12 0 (12 * tn n0 + k)) = nI (k + 1 + tn (g.1 12 0 (12 * tn n0 + k))) := by
          conv => lhs; rw [hw1]
          exact nI_add _ _
        refine k_iload_n C d_M_tryRows_71 rfl rfl ?_
        refine k_aload_n C d_M_tryRows_72 rfl rfl ?_
        refine k_getJ C O d_M_tryRows_73 fl_M_124 mr_0 rfl rfl rfl ?_
        refine k_lconst C (v := 1) d_M_tryRows_76 (by decide) ?_
        refine k_land C d_M_tryRows_77 ?_
        refine k_lconst C (v := 1) d_M_tryRows_78 (by decide) ?_
        refine k_lcmp C d_M_tryRows_79 ?_
        refine k_if_ne C (tgt := 88) d_M_tryRows_80 (by decide) (fun c80 => ?_) (fun c80 => ?_)
        · refine k_iconst C (v := 0) d_M_tryRows_88 (by decide) ?_
          refine k_iadd C d_M_tryRows_89 ?_
          refine k_istore_n C d_M_tryRows_90 rfl (Nat.le_of_ble_eq_true rfl) rfl ?_
          refine k_goto C (tgt := 28) d_M_tryRows_91 (by decide) ?_
          rw [show nI (k + 1) + 0 = nI (k + 1) from Int32.add_zero _]
          exact k_Qs ((if_neg c35).trans ((if_pos c68).trans ((if_neg c80).trans (rfl)))) (ih (k + 1) g _ _ _ hL (by omega) (by omega) (by omega))
        · refine k_iload C d_M_tryRows_83 rfl ?_
          refine k_goto C (tgt := 89) d_M_tryRows_85 (by decide) ?_
          refine k_iadd C d_M_tryRows_89 ?_
          refine k_istore_n C d_M_tryRows_90 rfl (Nat.le_of_ble_eq_true rfl) rfl ?_
          refine k_goto C (tgt := 28) d_M_tryRows_91 (by decide) ?_
          rw [show nI (k + 1) + (g.1 12 0 (12 * tn n0 + k)) = nI (k + 1 + tn (g.1 12 0 (12 * tn n0 + k))) from e9]
          exact k_Qs ((if_neg c35).trans ((if_pos c68).trans ((if_pos c80).trans (rfl)))) (ih (k + 1 + tn (g.1 12 0 (12 * tn n0 + k))) g _ _ _ hL (by omega) (by omega) (by omega))

set_option maxHeartbeats 4000000 in
set_option maxRecDepth 100000 in
theorem c_M_tryRows (l : Launch) (b : Nat → Nat → Nat) (dA : Nat → ClassId) (D : va_G) (g : kG) (n0 : Int32) (hn : vp_in n0 12) (hL : mL (mTry0 g (tn n0)) (tn n0)) : kMd (sysM b dA D) l y_M_tryRows b_M_tryRows 6 (some .int) 2 48 [.inr (.inr (0, 0)), .inl n0] g (some (.inl (mTry g (tn n0)).1)) (mTry g (tn n0)).2 := by
  refine k_enter (by decide) [some (.inr (.inr (0, 0))), some (.inl n0), none, none, none, none] rfl rfl (Nat.le_of_ble_eq_true rfl) (fun x X => ?_)
  have C := X.1
  have O := X.2.1
  refine k_aload_n C d_M_tryRows_0 rfl rfl ?_
  refine k_ldc2 C (v := 7) d_M_tryRows_1 (by decide +kernel) ?_
  refine k_putJ C O d_M_tryRows_4 fp_M_130 mr_0 rfl rfl rfl ?_
  refine k_aload_n C d_M_tryRows_7 rfl rfl ?_
  refine k_lconst C (v := 0) d_M_tryRows_8 (by decide) ?_
  refine k_putJ C O d_M_tryRows_9 fp_M_124 mr_0 rfl rfl rfl ?_
  refine k_aload_n C d_M_tryRows_12 rfl rfl ?_
  refine k_getR C O (r := (14, _)) d_M_tryRows_13 fl_M_39 mr_0 rfl rfl rfl rfl ?_
  refine k_iload_n C d_M_tryRows_16 rfl rfl ?_
  refine k_iconst C (v := 0) d_M_tryRows_17 (by decide) ?_
  refine k_iast2 C O d_M_tryRows_18 mr_14 rfl 0 rfl hn rfl ?_
  refine k_aload_n C d_M_tryRows_19 rfl rfl ?_
  refine k_getR C O (r := (13, _)) d_M_tryRows_20 fl_M_36 mr_0 rfl rfl rfl rfl ?_
  refine k_iload_n C d_M_tryRows_23 rfl rfl ?_
  refine k_iconst C (v := 2) d_M_tryRows_24 (by decide) ?_
  refine k_iast2 C O d_M_tryRows_25 mr_13 rfl 0 rfl hn rfl ?_
  refine k_iconst C (v := 0) d_M_tryRows_26 (by decide) ?_
  refine k_istore_n C d_M_tryRows_27 rfl (Nat.le_of_ble_eq_true rfl) rfl ?_
  have e0 : tn ((mTry0 g (tn n0)).1 14 0 (tn n0)) = 0 := by
    show tn (kU (kU g.1 14 0 (tn n0) 0) 13 0 (tn n0) 2 14 0 (tn n0)) = 0
    rw [kU_n (fun q => absurd q.1 (by decide)), kU_s]
    decide
  exact l_M_rows l b dA D n0 hn X 13 0 (mTry0 g (tn n0)) none none none hL (by have := hL.2.2.1.2; omega) (by decide) (by omega)
