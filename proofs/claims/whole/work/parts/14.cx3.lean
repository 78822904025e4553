/-! the class: specs and contracts, 3: notes, rows, tries, runs (by program: wip/gen/cx3.py) -/
theorem xPl_le (g : kG) (i : Nat) (num : Int32) : ∀ n k, k ≤ xPl g i num n k ∧ xPl g i num n k ≤ k + n
  | 0, k => ⟨Nat.le_refl _, Nat.le_refl _⟩
  | n + 1, k => by
    unfold xPl
    split
    · omega
    · have := xPl_le g i num n (k + 1)
      omega
def xAdd0 (g : kG) (i p : Nat) (num : Int32) : kG := (kU (kU (kU g.1 10 i p num) 12 i p 0) 9 i 4 (g.1 9 i 4 + 1), g.2)
def xAdd1 (g : kG) (i p f : Nat) (rd : Int32) : kG := if kU g.1 11 i p (g.1 5 f 0) 12 i p = 0 then (if rd = 0 then (kU (kU g.1 11 i p (g.1 5 f 0)) 12 i p 0, kUJ g.2 13 i p (g.2 5 f 1)) else (kU (kU g.1 11 i p (g.1 5 f 0)) 12 i p 1, kUJ g.2 13 i p (g.2 5 f 1))) else (kU (kU g.1 11 i p (g.1 5 f 0)) 12 i p 1, kUJ g.2 13 i p (g.2 5 f 1))
def xAddAt (g : kG) (i p : Nat) (num : Int32) (f : Nat) (rd : Int32) : kG := if nI p < 12 then (if nI p = g.1 9 i 4 then xAdd1 (xAdd0 g i p num) i p f rd else xAdd1 g i p f rd) else g
def xAdd (g : kG) (i : Nat) (num : Int32) (f : Nat) (rd : Int32) : kG := xAddAt g i (xPl g i num (tn (g.1 9 i 4)) 0) num f rd
def xLook2 (g : kG) (i f : Nat) (rd : Int32) : Int32 × kG := if rd = 0 then (if g.1 5 f 0 = 0 then (1, xSum g i 2) else (1, xSum g i 1)) else (1, xSum g i (g.2 5 f 1))
def xLook (g : kG) (i : Nat) (rd num m : Int32) : Int32 × kG := if xBit (g.1 6 i 3) num = 0 then (-1, g) else if xFr g (tn num) m = 0 then (0, (kU g.1 6 i 9 num, g.2)) else if rd = 0 then xLook2 (xAdd g i num (tn num) rd) i (tn num) rd else if (xAdd g i num (tn num) rd).1 5 (tn num) 0 = 0 then (-3, xAdd g i num (tn num) rd) else xLook2 (xAdd g i num (tn num) rd) i (tn num) rd
def xRows (i : Nat) (m : Int32) : Nat → Nat → Int64 → kG → Int32 × kG
  | 0, _, _, g => (1, g)
  | n + 1, k, last, g => if g.1 6 i 2 ≤ nI k then (1, g) else if g.1 7 i k = 2 then (if lg_cmp (last &&& 1) 0 = 0 then xRows i m n (k + 1) last g else xRows i m n (k + 1 + tn (g.1 8 i k)) last g) else if g.1 7 i k = 0 then (if (xLook g i 1 (g.1 8 i k) m).1 = 1 then (if g.1 7 i k = 0 then xRows i m n (k + 1) ((xLook g i 1 (g.1 8 i k) m).2.2 5 (tn (g.1 8 i k)) 1) (xLook g i 1 (g.1 8 i k) m).2 else xRows i m n (k + 1) last (xLook g i 1 (g.1 8 i k) m).2) else ((xLook g i 1 (g.1 8 i k) m).1, (xLook g i 1 (g.1 8 i k) m).2)) else (if (xLook g i 0 (g.1 8 i k) m).1 = 1 then (if g.1 7 i k = 0 then xRows i m n (k + 1) ((xLook g i 0 (g.1 8 i k) m).2.2 5 (tn (g.1 8 i k)) 1) (xLook g i 0 (g.1 8 i k) m).2 else xRows i m n (k + 1) last (xLook g i 0 (g.1 8 i k) m).2) else ((xLook g i 0 (g.1 8 i k) m).1, (xLook g i 0 (g.1 8 i k) m).2))
def xGo (g : kG) (i : Nat) (m : Int32) : Int32 × kG := xRows i m 13 0 0 (g.1, kUJ g.2 6 i 8 7)
theorem xAdd_fr (g : kG) (i : Nat) (num : Int32) (f : Nat) (rd : Int32) (k a j : Nat) (h : k ≠ 9 ∧ k ≠ 10 ∧ k ≠ 11 ∧ k ≠ 12) : (xAdd g i num f rd).1 k a j = g.1 k a j := by
  obtain ⟨h1, h2, h3, h4⟩ := h
  unfold xAdd xAddAt
  split
  · split
    · unfold xAdd1 xAdd0
      split
      · split <;> simp [kU, h1, h2, h3, h4]
      · simp [kU, h1, h2, h3, h4]
    · unfold xAdd1
      split
      · split <;> simp [kU, h1, h2, h3, h4]
      · simp [kU, h1, h2, h3, h4]
  · rfl
theorem xLook2_1 (g : kG) (i f : Nat) (rd : Int32) : (xLook2 g i f rd).2.1 = g.1 := by
  unfold xLook2 xSum
  split
  · split <;> rfl
  · rfl
theorem xLook_fr (g : kG) (i : Nat) (rd num m : Int32) (k a j : Nat) (h : k ≠ 9 ∧ k ≠ 10 ∧ k ≠ 11 ∧ k ≠ 12 ∧ k ≠ 6) : (xLook g i rd num m).2.1 k a j = g.1 k a j := by
  obtain ⟨h1, h2, h3, h4, h5⟩ := h
  have e := xAdd_fr g i num (tn num) rd k a j ⟨h1, h2, h3, h4⟩
  unfold xLook
  split
  · rfl
  · split
    · simp [kU, h5]
    · split
      · rw [xLook2_1]; exact e
      · split
        · exact e
        · rw [xLook2_1]; exact e
theorem xLook_6 (g : kG) (i : Nat) (rd num m : Int32) (a j : Nat) (hj : j ≠ 9) : (xLook g i rd num m).2.1 6 a j = g.1 6 a j := by
  have e := xAdd_fr g i num (tn num) rd 6 a j (by decide)
  unfold xLook
  split
  · rfl
  · split
    · simp [kU, hj]
    · split
      · rw [xLook2_1]; exact e
      · split
        · exact e
        · rw [xLook2_1]; exact e
theorem xAdd_cnt (g : kG) (i : Nat) (num : Int32) (f : Nat) (rd : Int32) (hc : kN (g.1 9 i 4) 12) : kN ((xAdd g i num f rd).1 9 i 4) 12 := by
  unfold xAdd xAddAt
  generalize xPl g i num (tn (g.1 9 i 4)) 0 = p
  split
  next hp =>
    split
    next hq =>
      have h9 : kN (g.1 9 i 4 + 1) 12 := by
        obtain ⟨h1, h2⟩ := hc
        rw [hq, h1] at hp
        have h3 : g.1 9 i 4 + 1 = nI (tn (g.1 9 i 4) + 1) := by
          conv => lhs; rw [h1]
          exact nI_1 _
        rw [h3]
        have h4 := (nI_ltI (b := 12) (by omega) (by omega)).mp hp
        exact kN_of (by omega) (by omega)
      unfold xAdd1 xAdd0
      split
      · split <;> simpa [kU] using h9
      · simpa [kU] using h9
    next hq =>
      unfold xAdd1
      split
      · split <;> simpa [kU] using hc
      · simpa [kU] using hc
  next => exact hc
theorem xLook_cnt (g : kG) (i : Nat) (rd num m : Int32) (hc : kN (g.1 9 i 4) 12) : kN ((xLook g i rd num m).2.1 9 i 4) 12 := by
  have e := xAdd_cnt g i num (tn num) rd hc
  unfold xLook
  split
  · exact hc
  · split
    · simpa [kU] using hc
    · split
      · rw [xLook2_1]; exact e
      · split
        · exact e
        · rw [xLook2_1]; exact e
def xL (g : kG) (i : Nat) : Prop := (∀ f, f < 24 → kZ (g.1 5 f 0)) ∧ kN (g.1 9 i 4) 12 ∧ kN (g.1 6 i 2) 12 ∧ ∀ k, k < tn (g.1 6 i 2) → (g.1 7 i k = 2 ∧ kN (g.1 8 i k) 8) ∨ (¬ g.1 7 i k = 2 ∧ vp_in (g.1 8 i k) 24)
theorem xL_look {g : kG} {i : Nat} (h : xL g i) (rd num m : Int32) : xL (xLook g i rd num m).2 i := by
  obtain ⟨h1, h2, h3, h4⟩ := h
  refine ⟨fun f hf => ?_, xLook_cnt g i rd num m h2, ?_, fun k hk => ?_⟩
  · rw [xLook_fr g i rd num m 5 f 0 (by decide)]; exact h1 f hf
  · rw [xLook_6 g i rd num m i 2 (by decide)]; exact h3
  · rw [xLook_6 g i rd num m i 2 (by decide)] at hk
    rw [xLook_fr g i rd num m 7 i k (by decide), xLook_fr g i rd num m 8 i k (by decide)]
    exact h4 k hk
set_option maxHeartbeats 4000000 in
set_option maxRecDepth 100000 in
theorem c_N_add (l : Launch) (b : Nat → Nat → Nat) (dA : Nat → ClassId) (D : va_G) (g : kG) (i : Nat) (hi : i < 12) (num : Int32) (f : Nat) (hf : f < 24) (rd : Int32) (hc : kN (g.1 9 i 4) 12) (hz : kZ (g.1 5 f 0)) : kMd (sysX b dA D) l y_N_add b_N_add 5 none 1 22 [.inr (.inr (9, i)), .inl num, .inr (.inr (5, f)), .inl rd] g none (xAdd g i num f rd) := by
  have hp := (xPl_le g i num (tn (g.1 9 i 4)) 0).2
  have hp2 := hc.2
  refine k_enter (by decide) [some (.inr (.inr (9, i))), some (.inl num), some (.inr (.inr (5, f))), some (.inl rd), none] rfl rfl (Nat.le_of_ble_eq_true rfl) (fun x X => ?_)
  have C := X.1
  have O := X.2.1
  refine k_aload_n C d_N_add_0 rfl rfl ?_
  refine k_iload_n C d_N_add_1 rfl rfl ?_
  refine k_cvI X d_N_add_2 (c_N_placeOf l b dA D g i hi num (tn (g.1 9 i 4)) hc.1 hc.2) cv_N_30 (xr_9 hi) rfl rfl ⟨by decide, by decide⟩ rfl rfl (Nat.le_of_ble_eq_true rfl) ?_
  refine k_istore C d_N_add_5 (Nat.le_of_ble_eq_true rfl) rfl ?_
  refine k_iload C d_N_add_7 rfl ?_
  refine k_bipush C (v := 12) d_N_add_9 (by decide) ?_
  refine k_icmp_lt C (tgt := 15) d_N_add_11 (by decide) (fun c11 => ?_) (fun c11 => ?_)
  · refine k_iload C d_N_add_15 rfl ?_
    refine k_aload_n C d_N_add_17 rfl rfl ?_
    refine k_getI C O d_N_add_18 fl_N_26 (xr_9 hi) rfl rfl rfl ?_
    refine k_icmp_ne C (tgt := 50) d_N_add_21 (by decide) (fun c21 => ?_) (fun c21 => ?_)
    · refine k_aload_n C d_N_add_50 rfl rfl ?_
      refine k_getR C O (r := (11, _)) d_N_add_51 fl_N_15 (xr_9 hi) rfl rfl rfl rfl ?_
      refine k_iload C d_N_add_54 rfl ?_
      refine k_aload_n C d_N_add_56 rfl rfl ?_
      refine k_getI C O d_N_add_57 fl_N_34 (xr_5 hf) rfl rfl rfl ?_
      refine k_zast2 C O (q := (xPl g i num (tn (g.1 9 i 4)) 0)) d_N_add_60 hz (xr_11 hi) rfl 1 rfl (in_nI (n := 12) rfl (by omega) (by decide) c11) (nI_clamp (by omega)) ?_
      refine k_aload_n C d_N_add_61 rfl rfl ?_
      refine k_getR C O (r := (13, _)) d_N_add_62 fl_N_22 (xr_9 hi) rfl rfl rfl rfl ?_
      refine k_iload C d_N_add_65 rfl ?_
      refine k_aload_n C d_N_add_67 rfl rfl ?_
      refine k_getJ C O d_N_add_68 fl_N_39 (xr_5 hf) rfl rfl rfl ?_
      refine k_last2 C O (q := (xPl g i num (tn (g.1 9 i 4)) 0)) d_N_add_71 (xr_13 hi) rfl 2 rfl (in_nI (n := 12) rfl (by omega) (by decide) c11) (nI_clamp (by omega)) ?_
      refine k_aload_n C d_N_add_72 rfl rfl ?_
      refine k_getR C O (r := (12, _)) d_N_add_73 fl_N_19 (xr_9 hi) rfl rfl rfl rfl ?_
      refine k_iload C d_N_add_76 rfl ?_
      refine k_aload_n C d_N_add_78 rfl rfl ?_
      refine k_getR C O (r := (12, _)) d_N_add_79 fl_N_19 (xr_9 hi) rfl rfl rfl rfl ?_
      refine k_iload C d_N_add_82 rfl ?_
      refine k_zald2 C O (q := (xPl g i num (tn (g.1 9 i 4)) 0)) d_N_add_84 (xr_12 hi) rfl 1 rfl (in_nI (n := 12) rfl (by omega) (by decide) c11) (nI_clamp (by omega)) ?_
      refine k_if_ne C (tgt := 92) d_N_add_85 (by decide) (fun c85 => ?_) (fun c85 => ?_)
      · refine k_iconst C (v := 1) d_N_add_92 (by decide) ?_
        refine k_goto C (tgt := 97) d_N_add_93 (by decide) ?_
        refine k_zast2 C O (q := (xPl g i num (tn (g.1 9 i 4)) 0)) d_N_add_97 (Or.inr rfl) (xr_12 hi) rfl 1 rfl (in_nI (n := 12) rfl (by omega) (by decide) c11) (nI_clamp (by omega)) ?_
        exact k_vret X d_N_add_98 (k_pv ((if_pos c11).trans ((if_neg c21).trans ((if_neg c85).trans (rfl)))))
      · refine k_iload_n C d_N_add_88 rfl rfl ?_
        refine k_if_eq C (tgt := 96) d_N_add_89 (by decide) (fun c89 => ?_) (fun c89 => ?_)
        · refine k_iconst C (v := 0) d_N_add_96 (by decide) ?_
          refine k_zast2 C O (q := (xPl g i num (tn (g.1 9 i 4)) 0)) d_N_add_97 (Or.inl rfl) (xr_12 hi) rfl 1 rfl (in_nI (n := 12) rfl (by omega) (by decide) c11) (nI_clamp (by omega)) ?_
          exact k_vret X d_N_add_98 (k_pv ((if_pos c11).trans ((if_neg c21).trans ((if_pos c85).trans ((if_pos c89).trans (rfl))))))
        · refine k_iconst C (v := 1) d_N_add_92 (by decide) ?_
          refine k_goto C (tgt := 97) d_N_add_93 (by decide) ?_
          refine k_zast2 C O (q := (xPl g i num (tn (g.1 9 i 4)) 0)) d_N_add_97 (Or.inr rfl) (xr_12 hi) rfl 1 rfl (in_nI (n := 12) rfl (by omega) (by decide) c11) (nI_clamp (by omega)) ?_
          exact k_vret X d_N_add_98 (k_pv ((if_pos c11).trans ((if_neg c21).trans ((if_pos c85).trans ((if_neg c89).trans (rfl))))))
    · refine k_aload_n C d_N_add_24 rfl rfl ?_
      refine k_getR C O (r := (10, _)) d_N_add_25 fl_N_9 (xr_9 hi) rfl rfl rfl rfl ?_
      refine k_iload C d_N_add_28 rfl ?_
      refine k_iload_n C d_N_add_30 rfl rfl ?_
      refine k_iast2 C O (q := (xPl g i num (tn (g.1 9 i 4)) 0)) d_N_add_31 (xr_10 hi) rfl 0 rfl (in_nI (n := 12) rfl (by omega) (by decide) c11) (nI_clamp (by omega)) ?_
      refine k_aload_n C d_N_add_32 rfl rfl ?_
      refine k_getR C O (r := (12, _)) d_N_add_33 fl_N_19 (xr_9 hi) rfl rfl rfl rfl ?_
      refine k_iload C d_N_add_36 rfl ?_
      refine k_iconst C (v := 0) d_N_add_38 (by decide) ?_
      refine k_zast2 C O (q := (xPl g i num (tn (g.1 9 i 4)) 0)) d_N_add_39 (Or.inl rfl) (xr_12 hi) rfl 1 rfl (in_nI (n := 12) rfl (by omega) (by decide) c11) (nI_clamp (by omega)) ?_
      refine k_aload_n C d_N_add_40 rfl rfl ?_
      refine k_dup C d_N_add_41 rfl ?_
      refine k_getI C O d_N_add_42 fl_N_26 (xr_9 hi) rfl rfl rfl ?_
      refine k_iconst C (v := 1) d_N_add_45 (by decide) ?_
      refine k_iadd C d_N_add_46 ?_
      refine k_putI C O d_N_add_47 fp_N_26 (xr_9 hi) rfl rfl rfl ?_
      refine k_aload_n C d_N_add_50 rfl rfl ?_
      refine k_getR C O (r := (11, _)) d_N_add_51 fl_N_15 (xr_9 hi) rfl rfl rfl rfl ?_
      refine k_iload C d_N_add_54 rfl ?_
      refine k_aload_n C d_N_add_56 rfl rfl ?_
      refine k_getI C O d_N_add_57 fl_N_34 (xr_5 hf) rfl rfl rfl ?_
      refine k_zast2 C O (q := (xPl g i num (tn (g.1 9 i 4)) 0)) d_N_add_60 hz (xr_11 hi) rfl 1 rfl (in_nI (n := 12) rfl (by omega) (by decide) c11) (nI_clamp (by omega)) ?_
      refine k_aload_n C d_N_add_61 rfl rfl ?_
      refine k_getR C O (r := (13, _)) d_N_add_62 fl_N_22 (xr_9 hi) rfl rfl rfl rfl ?_
      refine k_iload C d_N_add_65 rfl ?_
      refine k_aload_n C d_N_add_67 rfl rfl ?_
      refine k_getJ C O d_N_add_68 fl_N_39 (xr_5 hf) rfl rfl rfl ?_
      refine k_last2 C O (q := (xPl g i num (tn (g.1 9 i 4)) 0)) d_N_add_71 (xr_13 hi) rfl 2 rfl (in_nI (n := 12) rfl (by omega) (by decide) c11) (nI_clamp (by omega)) ?_
      refine k_aload_n C d_N_add_72 rfl rfl ?_
      refine k_getR C O (r := (12, _)) d_N_add_73 fl_N_19 (xr_9 hi) rfl rfl rfl rfl ?_
      refine k_iload C d_N_add_76 rfl ?_
      refine k_aload_n C d_N_add_78 rfl rfl ?_
      refine k_getR C O (r := (12, _)) d_N_add_79 fl_N_19 (xr_9 hi) rfl rfl rfl rfl ?_
      refine k_iload C d_N_add_82 rfl ?_
      refine k_zald2 C O (q := (xPl g i num (tn (g.1 9 i 4)) 0)) d_N_add_84 (xr_12 hi) rfl 1 rfl (in_nI (n := 12) rfl (by omega) (by decide) c11) (nI_clamp (by omega)) ?_
      refine k_if_ne C (tgt := 92) d_N_add_85 (by decide) (fun c85 => ?_) (fun c85 => ?_)
      · refine k_iconst C (v := 1) d_N_add_92 (by decide) ?_
        refine k_goto C (tgt := 97) d_N_add_93 (by decide) ?_
        refine k_zast2 C O (q := (xPl g i num (tn (g.1 9 i 4)) 0)) d_N_add_97 (Or.inr rfl) (xr_12 hi) rfl 1 rfl (in_nI (n := 12) rfl (by omega) (by decide) c11) (nI_clamp (by omega)) ?_
        exact k_vret X d_N_add_98 (k_pv ((if_pos c11).trans ((if_pos c21).trans ((if_neg c85).trans (rfl)))))
      · refine k_iload_n C d_N_add_88 rfl rfl ?_
        refine k_if_eq C (tgt := 96) d_N_add_89 (by decide) (fun c89 => ?_) (fun c89 => ?_)
        · refine k_iconst C (v := 0) d_N_add_96 (by decide) ?_
          refine k_zast2 C O (q := (xPl g i num (tn (g.1 9 i 4)) 0)) d_N_add_97 (Or.inl rfl) (xr_12 hi) rfl 1 rfl (in_nI (n := 12) rfl (by omega) (by decide) c11) (nI_clamp (by omega)) ?_
          exact k_vret X d_N_add_98 (k_pv ((if_pos c11).trans ((if_pos c21).trans ((if_pos c85).trans ((if_pos c89).trans (rfl))))))
        · refine k_iconst C (v := 1) d_N_add_92 (by decide) ?_
          refine k_goto C (tgt := 97) d_N_add_93 (by decide) ?_
          refine k_zast2 C O (q := (xPl g i num (tn (g.1 9 i 4)) 0)) d_N_add_97 (Or.inr rfl) (xr_12 hi) rfl 1 rfl (in_nI (n := 12) rfl (by omega) (by decide) c11) (nI_clamp (by omega)) ?_
          exact k_vret X d_N_add_98 (k_pv ((if_pos c11).trans ((if_pos c21).trans ((if_pos c85).trans ((if_neg c89).trans (rfl))))))
  · exact k_vret X d_N_add_14 (k_pv ((if_neg c11).trans (rfl)))

set_option maxHeartbeats 4000000 in
set_option maxRecDepth 100000 in
theorem c_X_lookAt (l : Launch) (b : Nat → Nat → Nat) (dA : Nat → ClassId) (D : va_G) (g : kG) (i : Nat) (hi : i < 12) (rd num m : Int32) (hn : vp_in num 24) (hc : kN (g.1 9 i 4) 12) (hz : kZ (g.1 5 (tn num) 0)) : kMd (sysX b dA D) l y_X_lookAt b_X_lookAt 6 (some .int) 2 46 [.inr (.inr (0, 0)), .inr (.inr (6, i)), .inl rd, .inl num, .inl m] g (some (.inl (xLook g i rd num m).1)) (xLook g i rd num m).2 := by
  refine k_enter (by decide) [some (.inr (.inr (0, 0))), some (.inr (.inr (6, i))), some (.inl rd), some (.inl num), some (.inl m), none] rfl rfl (Nat.le_of_ble_eq_true rfl) (fun x X => ?_)
  have C := X.1
  have O := X.2.1
  refine k_aload_n C d_X_lookAt_0 rfl rfl ?_
  refine k_getR C O (r := (1, _)) d_X_lookAt_1 fl_X_11 xr_0 rfl rfl rfl rfl ?_
  refine k_iload_n C d_X_lookAt_4 rfl rfl ?_
  refine k_aald2 C O (r := (5, _)) d_X_lookAt_5 xr_1 rfl 3 rfl hn rfl rfl ?_
  refine k_astore C d_X_lookAt_6 (Nat.le_of_ble_eq_true rfl) rfl ?_
  refine k_aload_n C d_X_lookAt_8 rfl rfl ?_
  refine k_getI C O d_X_lookAt_9 fl_X_77 (xr_6 hi) rfl rfl rfl ?_
  refine k_iload_n C d_X_lookAt_12 rfl rfl ?_
  refine k_csI X d_X_lookAt_13 (c_X_hasBit l b dA D g (g.1 6 i 3) num) cs_X_117 ⟨by decide, by decide⟩ rfl rfl (Nat.le_of_ble_eq_true rfl) ?_
  refine k_if_ne C (tgt := 21) d_X_lookAt_16 (by decide) (fun c16 => ?_) (fun c16 => ?_)
  · refine k_aload C d_X_lookAt_21 rfl ?_
    refine k_iload C d_X_lookAt_23 rfl ?_
    refine k_csI X d_X_lookAt_25 (c_X_isFresh l b dA D g (tn num) (vi_lt hn) m) cs_X_165 ⟨by decide, by decide⟩ rfl rfl (Nat.le_of_ble_eq_true rfl) ?_
    refine k_if_ne C (tgt := 38) d_X_lookAt_28 (by decide) (fun c28 => ?_) (fun c28 => ?_)
    · refine k_aload_n C d_X_lookAt_38 rfl rfl ?_
      refine k_getR C O (r := (9, _)) d_X_lookAt_39 fl_X_124 (xr_6 hi) rfl rfl rfl rfl ?_
      refine k_iload_n C d_X_lookAt_42 rfl rfl ?_
      refine k_aload C d_X_lookAt_43 rfl ?_
      refine k_iload_n C d_X_lookAt_45 rfl rfl ?_
      refine k_cvV X d_X_lookAt_46 (c_N_add l b dA D g i hi num (tn num) (vi_lt hn) rd hc hz) cv_X_209 (xr_9 hi) rfl rfl ⟨by decide, by decide⟩ rfl rfl (Nat.le_of_ble_eq_true rfl) ?_
      refine k_iload_n C d_X_lookAt_49 rfl rfl ?_
      refine k_if_eq C (tgt := 64) d_X_lookAt_50 (by decide) (fun c50 => ?_) (fun c50 => ?_)
      · refine k_iload_n C d_X_lookAt_64 rfl rfl ?_
        refine k_if_eq C (tgt := 80) d_X_lookAt_65 (by decide) (fun c65 => ?_) (fun c65 => ?_)
        · refine k_aload_n C d_X_lookAt_80 rfl rfl ?_
          refine k_aload C d_X_lookAt_81 rfl ?_
          refine k_getI C O d_X_lookAt_83 fl_X_162 (xr_5 (vi_lt hn)) rfl rfl rfl ?_
          refine k_if_eq C (tgt := 93) d_X_lookAt_86 (by decide) (fun c86 => ?_) (fun c86 => ?_)
          · refine k_ldc2 C (v := 2) d_X_lookAt_93 (by decide +kernel) ?_
            refine k_cvV X d_X_lookAt_96 (c_A_addToSum l b dA D _ i hi _) cv_X_213 (xr_6 hi) rfl rfl ⟨by decide, by decide⟩ rfl rfl (Nat.le_of_ble_eq_true rfl) ?_
            refine k_iconst C (v := 1) d_X_lookAt_99 (by decide) ?_
            exact k_iret X d_X_lookAt_100 (k_pr ((if_neg c16).trans ((if_neg c28).trans ((if_pos c50).trans ((if_pos c65).trans ((if_pos c86).trans (rfl)))))))
          · refine k_lconst C (v := 1) d_X_lookAt_89 (by decide) ?_
            refine k_goto C (tgt := 96) d_X_lookAt_90 (by decide) ?_
            refine k_cvV X d_X_lookAt_96 (c_A_addToSum l b dA D _ i hi _) cv_X_213 (xr_6 hi) rfl rfl ⟨by decide, by decide⟩ rfl rfl (Nat.le_of_ble_eq_true rfl) ?_
            refine k_iconst C (v := 1) d_X_lookAt_99 (by decide) ?_
            exact k_iret X d_X_lookAt_100 (k_pr ((if_neg c16).trans ((if_neg c28).trans ((if_pos c50).trans ((if_pos c65).trans ((if_neg c86).trans (rfl)))))))
        · refine k_aload_n C d_X_lookAt_68 rfl rfl ?_
          refine k_aload C d_X_lookAt_69 rfl ?_
          refine k_getJ C O d_X_lookAt_71 fl_X_136 (xr_5 (vi_lt hn)) rfl rfl rfl ?_
          refine k_cvV X d_X_lookAt_74 (c_A_addToSum l b dA D _ i hi _) cv_X_213 (xr_6 hi) rfl rfl ⟨by decide, by decide⟩ rfl rfl (Nat.le_of_ble_eq_true rfl) ?_
          refine k_goto C (tgt := 99) d_X_lookAt_77 (by decide) ?_
          refine k_iconst C (v := 1) d_X_lookAt_99 (by decide) ?_
          exact k_iret X d_X_lookAt_100 (k_pr ((if_neg c16).trans ((if_neg c28).trans ((if_pos c50).trans ((if_neg c65).trans (rfl))))))
      · refine k_aload C d_X_lookAt_53 rfl ?_
        refine k_getI C O d_X_lookAt_55 fl_X_162 (xr_5 (vi_lt hn)) rfl rfl rfl ?_
        refine k_if_ne C (tgt := 64) d_X_lookAt_58 (by decide) (fun c58 => ?_) (fun c58 => ?_)
        · refine k_iload_n C d_X_lookAt_64 rfl rfl ?_
          refine k_if_eq C (tgt := 80) d_X_lookAt_65 (by decide) (fun c65 => ?_) (fun c65 => ?_)
          · refine k_aload_n C d_X_lookAt_80 rfl rfl ?_
            refine k_aload C d_X_lookAt_81 rfl ?_
            refine k_getI C O d_X_lookAt_83 fl_X_162 (xr_5 (vi_lt hn)) rfl rfl rfl ?_
            refine k_if_eq C (tgt := 93) d_X_lookAt_86 (by decide) (fun c86 => ?_) (fun c86 => ?_)
            · refine k_ldc2 C (v := 2) d_X_lookAt_93 (by decide +kernel) ?_
              refine k_cvV X d_X_lookAt_96 (c_A_addToSum l b dA D _ i hi _) cv_X_213 (xr_6 hi) rfl rfl ⟨by decide, by decide⟩ rfl rfl (Nat.le_of_ble_eq_true rfl) ?_
              refine k_iconst C (v := 1) d_X_lookAt_99 (by decide) ?_
              exact k_iret X d_X_lookAt_100 (k_pr ((if_neg c16).trans ((if_neg c28).trans ((if_neg c50).trans ((if_neg c58).trans ((if_pos c65).trans ((if_pos c86).trans (rfl))))))))
            · refine k_lconst C (v := 1) d_X_lookAt_89 (by decide) ?_
              refine k_goto C (tgt := 96) d_X_lookAt_90 (by decide) ?_
              refine k_cvV X d_X_lookAt_96 (c_A_addToSum l b dA D _ i hi _) cv_X_213 (xr_6 hi) rfl rfl ⟨by decide, by decide⟩ rfl rfl (Nat.le_of_ble_eq_true rfl) ?_
              refine k_iconst C (v := 1) d_X_lookAt_99 (by decide) ?_
              exact k_iret X d_X_lookAt_100 (k_pr ((if_neg c16).trans ((if_neg c28).trans ((if_neg c50).trans ((if_neg c58).trans ((if_pos c65).trans ((if_neg c86).trans (rfl))))))))
          · refine k_aload_n C d_X_lookAt_68 rfl rfl ?_
            refine k_aload C d_X_lookAt_69 rfl ?_
            refine k_getJ C O d_X_lookAt_71 fl_X_136 (xr_5 (vi_lt hn)) rfl rfl rfl ?_
            refine k_cvV X d_X_lookAt_74 (c_A_addToSum l b dA D _ i hi _) cv_X_213 (xr_6 hi) rfl rfl ⟨by decide, by decide⟩ rfl rfl (Nat.le_of_ble_eq_true rfl) ?_
            refine k_goto C (tgt := 99) d_X_lookAt_77 (by decide) ?_
            refine k_iconst C (v := 1) d_X_lookAt_99 (by decide) ?_
            exact k_iret X d_X_lookAt_100 (k_pr ((if_neg c16).trans ((if_neg c28).trans ((if_neg c50).trans ((if_neg c58).trans ((if_neg c65).trans (rfl)))))))
        · refine k_bipush C (v := (-3)) d_X_lookAt_61 (by decide) ?_
          exact k_iret X d_X_lookAt_63 (k_pr ((if_neg c16).trans ((if_neg c28).trans ((if_neg c50).trans ((if_pos c58).trans (rfl))))))
    · refine k_aload_n C d_X_lookAt_31 rfl rfl ?_
      refine k_iload_n C d_X_lookAt_32 rfl rfl ?_
      refine k_putI C O d_X_lookAt_33 fp_X_110 (xr_6 hi) rfl rfl rfl ?_
      refine k_iconst C (v := 0) d_X_lookAt_36 (by decide) ?_
      exact k_iret X d_X_lookAt_37 (k_pr ((if_neg c16).trans ((if_pos c28).trans (rfl))))
  · refine k_iconst C (v := (-1)) d_X_lookAt_19 (by decide) ?_
    exact k_iret X d_X_lookAt_20 (k_pr ((if_pos c16).trans (rfl)))

set_option maxHeartbeats 4000000 in
set_option maxRecDepth 100000 in
theorem l_X_rows {x : kCx} (l : Launch) (b : Nat → Nat → Nat) (dA : Nat → ClassId) (D : va_G) (i : Nat) (hi : i < 12) (m : Int32) (X : kIn (sysX b dA D) l b_X_goThroughRows y_X_goThroughRows.cls 9 (some .int) 3 71 x) : ∀ (n : Nat) (k : Nat) (last : Int64) (g : kG) (z6 z7 z8 : Option kV), xL g i → tn (g.1 6 i 2) < k + n → k ≤ 21 → Wk (kWd (sysX b dA D)) (kAA (sysX b dA D)) (y_ad (sysX b dA D)) x (0, 0) (kQ (sysX b dA D) (fun r g2 => r = some (.inl (xRows i m n k last g).1) ∧ g2 = (xRows i m n k last g).2) x) 12 [some (.inr (.inr (0, 0))), some (.inr (.inr (6, i))), some (.inl m), some (.inr (.inl last)), none, some (.inl (nI k)), z6, z7, z8] [] g := by
  have C := X.1
  have O := X.2.1
  intro n
  induction n with
  | zero =>
    intro k last g z6 z7 z8 hL hk hk2
    have hr := hL.2.2.1
    refine k_iload C d_X_goThroughRows_12 rfl ?_
    refine k_aload_n C d_X_goThroughRows_14 rfl rfl ?_
    refine k_getI C O d_X_goThroughRows_15 fl_X_196 (xr_6 hi) rfl rfl rfl ?_
    refine k_icmp_ge C (tgt := 118) d_X_goThroughRows_18 (by decide) (fun c18 => ?_) (fun c18 => ?_)
    · refine k_iconst C (v := 1) d_X_goThroughRows_118 (by decide) ?_
      exact k_iret X d_X_goThroughRows_119 (⟨rfl, rfl⟩)
    · exact absurd (x_ge hr.1 (by omega) (by have := hr.2; omega)) c18
  | succ n ih =>
    intro k last g z6 z7 z8 hL hk hk2
    have hr := hL.2.2.1
    refine k_iload C d_X_goThroughRows_12 rfl ?_
    refine k_aload_n C d_X_goThroughRows_14 rfl rfl ?_
    refine k_getI C O d_X_goThroughRows_15 fl_X_196 (xr_6 hi) rfl rfl rfl ?_
    refine k_icmp_ge C (tgt := 118) d_X_goThroughRows_18 (by decide) (fun c18 => ?_) (fun c18 => ?_)
    · refine k_iconst C (v := 1) d_X_goThroughRows_118 (by decide) ?_
      exact k_iret X d_X_goThroughRows_119 (k_pr ((if_pos c18).trans (rfl)))
    · have hlt : k < tn (g.1 6 i 2) := by
        rcases Nat.lt_or_ge k (tn (g.1 6 i 2)) with q | q
        · exact q
        · exact absurd (x_ge hr.1 q (by omega)) c18
      have hr2 := hr.2
      have hrow := hL.2.2.2 k hlt
      refine k_aload_n C d_X_goThroughRows_21 rfl rfl ?_
      refine k_getR C O (r := (7, _)) d_X_goThroughRows_22 fl_X_199 (xr_6 hi) rfl rfl rfl rfl ?_
      refine k_iload C d_X_goThroughRows_25 rfl ?_
      refine k_iald2 C O (q := k) d_X_goThroughRows_27 (xr_7 hi) rfl 0 rfl (show vp_in (nI k) 12 from vp_in_nI (by omega) (by decide)) (nI_clamp (by omega)) ?_
      refine k_istore C d_X_goThroughRows_28 (Nat.le_of_ble_eq_true rfl) rfl ?_
      refine k_aload_n C d_X_goThroughRows_30 rfl rfl ?_
      refine k_getR C O (r := (8, _)) d_X_goThroughRows_31 fl_X_202 (xr_6 hi) rfl rfl rfl rfl ?_
      refine k_iload C d_X_goThroughRows_34 rfl ?_
      refine k_iald2 C O (q := k) d_X_goThroughRows_36 (xr_8 hi) rfl 0 rfl (show vp_in (nI k) 12 from vp_in_nI (by omega) (by decide)) (nI_clamp (by omega)) ?_
      refine k_istore C d_X_goThroughRows_37 (Nat.le_of_ble_eq_true rfl) rfl ?_
      refine k_iload C d_X_goThroughRows_39 rfl ?_
      refine k_iconst C (v := 2) d_X_goThroughRows_41 (by decide) ?_
      refine k_icmp_ne C (tgt := 67) d_X_goThroughRows_42 (by decide) (fun c42 => ?_) (fun c42 => ?_)
      · have hw := (hrow.resolve_left (fun q => c42 q.1)).2
        refine k_aload_n C d_X_goThroughRows_67 rfl rfl ?_
        refine k_aload_n C d_X_goThroughRows_68 rfl rfl ?_
        refine k_iload C d_X_goThroughRows_69 rfl ?_
        refine k_if_ne C (tgt := 78) d_X_goThroughRows_71 (by decide) (fun c71 => ?_) (fun c71 => ?_)
        · refine k_iconst C (v := 0) d_X_goThroughRows_78 (by decide) ?_
          refine k_iload C d_X_goThroughRows_79 rfl ?_
          refine k_iload_n C d_X_goThroughRows_81 rfl rfl ?_
          refine k_cvI X d_X_goThroughRows_82 (c_X_lookAt l b dA D g i hi _ (g.1 8 i k) m hw hL.2.1 (hL.1 _ (vi_lt hw))) cv_X_205 xr_0 rfl rfl ⟨by decide, by decide⟩ rfl rfl (Nat.le_of_ble_eq_true rfl) ?_
          refine k_istore C d_X_goThroughRows_85 (Nat.le_of_ble_eq_true rfl) rfl ?_
          refine k_iload C d_X_goThroughRows_87 rfl ?_
          refine k_iconst C (v := 1) d_X_goThroughRows_89 (by decide) ?_
          refine k_icmp_eq C (tgt := 96) d_X_goThroughRows_90 (by decide) (fun c90 => ?_) (fun c90 => ?_)
          · refine k_iload C d_X_goThroughRows_96 rfl ?_
            refine k_if_ne C (tgt := 112) d_X_goThroughRows_98 (by decide) (fun c98 => ?_) (fun c98 => ?_)
            · refine k_iinc C (w := nI (k + 1)) d_X_goThroughRows_112 rfl (nI_inc k) rfl ?_
              refine k_goto C (tgt := 12) d_X_goThroughRows_115 (by decide) ?_
              exact k_Qs ((if_neg c18).trans ((if_neg c42).trans ((if_neg c71).trans ((if_pos c90).trans ((if_neg c98).trans (rfl)))))) (ih (k + 1) _ (xLook g i 0 (g.1 8 i k) m).2 _ _ _ (xL_look hL 0 (g.1 8 i k) m) (by rw [xLook_6 g i 0 (g.1 8 i k) m i 2 (by decide)]; omega) (by omega))
            · refine k_aload_n C d_X_goThroughRows_101 rfl rfl ?_
              refine k_getR C O (r := (1, _)) d_X_goThroughRows_102 fl_X_11 xr_0 rfl rfl rfl rfl ?_
              refine k_iload C d_X_goThroughRows_105 rfl ?_
              refine k_aald2 C O (r := (5, _)) d_X_goThroughRows_107 xr_1 rfl 3 rfl hw rfl rfl ?_
              refine k_getJ C O d_X_goThroughRows_108 fl_X_136 (xr_5 (vi_lt hw)) rfl rfl rfl ?_
              refine k_lstore_n C d_X_goThroughRows_111 rfl (Nat.le_of_ble_eq_true rfl) rfl ?_
              refine k_iinc C (w := nI (k + 1)) d_X_goThroughRows_112 rfl (nI_inc k) rfl ?_
              refine k_goto C (tgt := 12) d_X_goThroughRows_115 (by decide) ?_
              exact k_Qs ((if_neg c18).trans ((if_neg c42).trans ((if_neg c71).trans ((if_pos c90).trans ((if_pos c98).trans (rfl)))))) (ih (k + 1) _ (xLook g i 0 (g.1 8 i k) m).2 _ _ _ (xL_look hL 0 (g.1 8 i k) m) (by rw [xLook_6 g i 0 (g.1 8 i k) m i 2 (by decide)]; omega) (by omega))
          · refine k_iload C d_X_goThroughRows_93 rfl ?_
            exact k_iret X d_X_goThroughRows_95 (k_pr ((if_neg c18).trans ((if_neg c42).trans ((if_neg c71).trans ((if_neg c90).trans (rfl))))))
        · refine k_iconst C (v := 1) d_X_goThroughRows_74 (by decide) ?_
          refine k_goto C (tgt := 79) d_X_goThroughRows_75 (by decide) ?_
          refine k_iload C d_X_goThroughRows_79 rfl ?_
          refine k_iload_n C d_X_goThroughRows_81 rfl rfl ?_
          refine k_cvI X d_X_goThroughRows_82 (c_X_lookAt l b dA D g i hi _ (g.1 8 i k) m hw hL.2.1 (hL.1 _ (vi_lt hw))) cv_X_205 xr_0 rfl rfl ⟨by decide, by decide⟩ rfl rfl (Nat.le_of_ble_eq_true rfl) ?_
          refine k_istore C d_X_goThroughRows_85 (Nat.le_of_ble_eq_true rfl) rfl ?_
          refine k_iload C d_X_goThroughRows_87 rfl ?_
          refine k_iconst C (v := 1) d_X_goThroughRows_89 (by decide) ?_
          refine k_icmp_eq C (tgt := 96) d_X_goThroughRows_90 (by decide) (fun c90 => ?_) (fun c90 => ?_)
          · refine k_iload C d_X_goThroughRows_96 rfl ?_
            refine k_if_ne C (tgt := 112) d_X_goThroughRows_98 (by decide) (fun c98 => ?_) (fun c98 => ?_)
            · refine k_iinc C (w := nI (k + 1)) d_X_goThroughRows_112 rfl (nI_inc k) rfl ?_
              refine k_goto C (tgt := 12) d_X_goThroughRows_115 (by decide) ?_
              exact k_Qs ((if_neg c18).trans ((if_neg c42).trans ((if_pos c71).trans ((if_pos c90).trans ((if_neg c98).trans (rfl)))))) (ih (k + 1) _ (xLook g i 1 (g.1 8 i k) m).2 _ _ _ (xL_look hL 1 (g.1 8 i k) m) (by rw [xLook_6 g i 1 (g.1 8 i k) m i 2 (by decide)]; omega) (by omega))
            · refine k_aload_n C d_X_goThroughRows_101 rfl rfl ?_
              refine k_getR C O (r := (1, _)) d_X_goThroughRows_102 fl_X_11 xr_0 rfl rfl rfl rfl ?_
              refine k_iload C d_X_goThroughRows_105 rfl ?_
              refine k_aald2 C O (r := (5, _)) d_X_goThroughRows_107 xr_1 rfl 3 rfl hw rfl rfl ?_
              refine k_getJ C O d_X_goThroughRows_108 fl_X_136 (xr_5 (vi_lt hw)) rfl rfl rfl ?_
              refine k_lstore_n C d_X_goThroughRows_111 rfl (Nat.le_of_ble_eq_true rfl) rfl ?_
              refine k_iinc C (w := nI (k + 1)) d_X_goThroughRows_112 rfl (nI_inc k) rfl ?_
              refine k_goto C (tgt := 12) d_X_goThroughRows_115 (by decide) ?_
              exact k_Qs ((if_neg c18).trans ((if_neg c42).trans ((if_pos c71).trans ((if_pos c90).trans ((if_pos c98).trans (rfl)))))) (ih (k + 1) _ (xLook g i 1 (g.1 8 i k) m).2 _ _ _ (xL_look hL 1 (g.1 8 i k) m) (by rw [xLook_6 g i 1 (g.1 8 i k) m i 2 (by decide)]; omega) (by omega))
          · refine k_iload C d_X_goThroughRows_93 rfl ?_
            exact k_iret X d_X_goThroughRows_95 (k_pr ((if_neg c18).trans ((if_neg c42).trans ((if_pos c71).trans ((if_neg c90).trans (rfl))))))
      · have hw := (hrow.resolve_right (fun q => q.1 c42)).2
        have hw1 := hw.1
        have hw2 := hw.2
        have e9 : nI k + g.1 8 i k + Int32.ofInt 1 = nI (k + tn (g.1 8 i k) + 1) := by
          conv => lhs; rw [hw1]
          rw [nI_add]
          exact nI_1 _
        refine k_iload C d_X_goThroughRows_45 rfl ?_
        refine k_lload_n C d_X_goThroughRows_47 rfl rfl ?_
        refine k_lconst C (v := 1) d_X_goThroughRows_48 (by decide) ?_
        refine k_land C d_X_goThroughRows_49 ?_
        refine k_lconst C (v := 0) d_X_goThroughRows_50 (by decide) ?_
        refine k_lcmp C d_X_goThroughRows_51 ?_
        refine k_if_eq C (tgt := 60) d_X_goThroughRows_52 (by decide) (fun c52 => ?_) (fun c52 => ?_)
        · refine k_iconst C (v := 0) d_X_goThroughRows_60 (by decide) ?_
          refine k_iadd C d_X_goThroughRows_61 ?_
          refine k_istore C d_X_goThroughRows_62 (Nat.le_of_ble_eq_true rfl) rfl ?_
          refine k_goto C (tgt := 112) d_X_goThroughRows_64 (by decide) ?_
          refine k_iinc C (w := nI (k + 1)) d_X_goThroughRows_112 rfl (by rw [Int32.add_zero]; exact nI_inc k) rfl ?_
          refine k_goto C (tgt := 12) d_X_goThroughRows_115 (by decide) ?_
          exact k_Qs ((if_neg c18).trans ((if_pos c42).trans ((if_pos c52).trans (rfl)))) (ih (k + 1) _ g _ _ _ hL (by omega) (by omega))
        · refine k_iload C d_X_goThroughRows_55 rfl ?_
          refine k_goto C (tgt := 61) d_X_goThroughRows_57 (by decide) ?_
          refine k_iadd C d_X_goThroughRows_61 ?_
          refine k_istore C d_X_goThroughRows_62 (Nat.le_of_ble_eq_true rfl) rfl ?_
          refine k_goto C (tgt := 112) d_X_goThroughRows_64 (by decide) ?_
          refine k_iinc C (w := nI (k + 1 + tn (g.1 8 i k))) d_X_goThroughRows_112 rfl (by rw [Nat.add_right_comm]; exact e9) rfl ?_
          refine k_goto C (tgt := 12) d_X_goThroughRows_115 (by decide) ?_
          exact k_Qs ((if_neg c18).trans ((if_pos c42).trans ((if_neg c52).trans (rfl)))) (ih (k + 1 + tn (g.1 8 i k)) _ g _ _ _ hL (by omega) (by omega))

set_option maxHeartbeats 4000000 in
set_option maxRecDepth 100000 in
theorem c_X_goThroughRows (l : Launch) (b : Nat → Nat → Nat) (dA : Nat → ClassId) (D : va_G) (g : kG) (i : Nat) (hi : i < 12) (m : Int32) (hL : xL g i) : kMd (sysX b dA D) l y_X_goThroughRows b_X_goThroughRows 9 (some .int) 3 71 [.inr (.inr (0, 0)), .inr (.inr (6, i)), .inl m] g (some (.inl (xGo g i m).1)) (xGo g i m).2 := by
  refine k_enter (by decide) [some (.inr (.inr (0, 0))), some (.inr (.inr (6, i))), some (.inl m), none, none, none, none, none, none] rfl rfl (Nat.le_of_ble_eq_true rfl) (fun x X => ?_)
  have C := X.1
  have O := X.2.1
  refine k_aload_n C d_X_goThroughRows_0 rfl rfl ?_
  refine k_ldc2 C (v := 7) d_X_goThroughRows_1 (by decide +kernel) ?_
  refine k_putJ C O d_X_goThroughRows_4 fp_X_191 (xr_6 hi) rfl rfl rfl ?_
  refine k_lconst C (v := 0) d_X_goThroughRows_7 (by decide) ?_
  refine k_lstore_n C d_X_goThroughRows_8 rfl (Nat.le_of_ble_eq_true rfl) rfl ?_
  refine k_iconst C (v := 0) d_X_goThroughRows_9 (by decide) ?_
  refine k_istore C d_X_goThroughRows_10 (Nat.le_of_ble_eq_true rfl) rfl ?_
  exact l_X_rows l b dA D i hi m X 13 0 0 (g.1, kUJ g.2 6 i 8 7) none none none hL (by have := hL.2.2.1.2; show tn (g.1 6 i 2) < 0 + 13; omega) (by decide)
