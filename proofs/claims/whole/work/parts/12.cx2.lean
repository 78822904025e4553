/-! the class: specs and contracts, 2: loops over notes, members, actions (by program: wip/gen/cx2.py) -/
def xPl (g : kG) (i : Nat) (num : Int32) : Nat → Nat → Nat
  | 0, k => k
  | n + 1, k => if g.1 10 i k = num then k else xPl g i num n (k + 1)
def xFb (g : kG) (i : Nat) : Nat → Nat → Int32 → Int32
  | 0, _, a => a
  | n + 1, k, a => xFb g i n (k + 1) (a ||| (1 <<< (g.1 10 i k &&& 31)))
def xHm (g : kG) (i : Nat) (d : Int64) : Nat → Nat → Int32
  | 0, _ => 0
  | n + 1, k => if lg_cmp (xMem (g.2 14 i 2) (nI k)) d = 0 then 1 else xHm g i d n (k + 1)
def xTk (g : kG) (i : Nat) (d : Int64) : Nat → Nat → Int32 → Int32
  | 0, _, a => a
  | n + 1, k, a => xTk g i d n (k + 1) (if xHm g i (xMem d (nI k)) (tn (g.1 14 i 3)) 0 = 0 then a + 1 else a)
def xRes (g : kG) (i : Nat) (j : Int32) : Int64 := if j < 0 then 0 else if g.1 14 i 3 ≤ j then 0 else 17 * xMem (g.2 14 i 2) j + g.2 14 i 1
def xHo (g : kG) (i : Nat) (m : Int32) : Nat → Nat → Int32
  | 0, _ => 1
  | n + 1, k => if xLike g i (nI k) (tn (g.1 10 i k)) = 0 then 0 else if xFr g (tn (g.1 10 i k)) m = 0 then 0 else xHo g i m n (k + 1)
def xHold (g : kG) (i : Nat) (m : Int32) : Int32 := if g.1 6 i 6 = 0 then 0 else xHo g i m (tn (g.1 9 i 4)) 0
def xRd (g : kG) : Nat → Nat → Int32 → Int32
  | 0, _, m => m
  | n + 1, k, m => xRd g n (k + 1) (if xHold g k m = 0 then m else m ||| (1 <<< (nI k &&& 31)))
def xFa (g : kG) (na : Nat) : Nat → Int32 → Int32
  | 0, m => m
  | n + 1, m => if xRd g na 0 m = m then xRd g na 0 m else xFa g na n (xRd g na 0 m)
def xFresh (g : kG) : Int32 := xFa g (tn (g.1 0 0 5)) (tn (g.1 0 0 5)) 0
def xTr (g : kG) (mk : Int32) (dp : Nat) : Nat → Nat → Int32 × kG
  | 0, _ => (0, g)
  | n + 1, k => if g.1 4 0 k = mk then (1, (kU (kU g.1 0 0 8 (nI k)) 0 0 9 (nI dp - nI k), g.2)) else xTr g mk dp n (k + 1)
theorem x_ge {c k : Nat} {v : Int32} (hv : v = nI c) (h : c ≤ k) (hk : k < 2 ^ 31) : v ≤ nI k := by rw [hv]; exact nI_le h hk
theorem x_lt {c k : Nat} {v : Int32} (hv : v = nI c) (h : k < c) (hc : c < 2 ^ 31) : ¬ v ≤ nI k := by rw [hv]; exact nI_ge h hc
set_option maxHeartbeats 4000000 in
set_option maxRecDepth 100000 in
theorem l_N_placeOf {x : kCx} (l : Launch) (b : Nat → Nat → Nat) (dA : Nat → ClassId) (D : va_G) (g : kG) (i : Nat) (hi : i < 12) (num : Int32) (c : Nat) (hc : g.1 9 i 4 = nI c) (h12 : c ≤ 12) (X : kIn (sysX b dA D) l b_N_placeOf y_N_placeOf.cls 3 (some .int) 0 0 x) : ∀ (n : Nat) (k : Nat), k + n = c → Wk (kWd (sysX b dA D)) (kAA (sysX b dA D)) (y_ad (sysX b dA D)) x (0, 0) (kQ (sysX b dA D) (fun r g2 => r = some (.inl (nI (xPl g i num n k))) ∧ g2 = g) x) 2 [some (.inr (.inr (9, i))), some (.inl num), some (.inl (nI k))] [] g := by
  have C := X.1
  have O := X.2.1
  intro n
  induction n with
  | zero =>
    intro k hk
    refine k_iload_n C d_N_placeOf_2 rfl rfl ?_
    refine k_aload_n C d_N_placeOf_3 rfl rfl ?_
    refine k_getI C O d_N_placeOf_4 fl_N_26 (xr_9 hi) rfl rfl rfl ?_
    refine k_icmp_ge C (tgt := 28) d_N_placeOf_7 (by decide) (fun c7 => ?_) (fun c7 => ?_)
    · refine k_aload_n C d_N_placeOf_28 rfl rfl ?_
      refine k_getI C O d_N_placeOf_29 fl_N_26 (xr_9 hi) rfl rfl rfl ?_
      exact k_iret X d_N_placeOf_32 (⟨by rw [hc]; simp only [xPl]; rw [show c = k by omega], rfl⟩)
    · exact absurd (x_ge hc (by omega) (by omega)) c7
  | succ n ih =>
    intro k hk
    refine k_iload_n C d_N_placeOf_2 rfl rfl ?_
    refine k_aload_n C d_N_placeOf_3 rfl rfl ?_
    refine k_getI C O d_N_placeOf_4 fl_N_26 (xr_9 hi) rfl rfl rfl ?_
    refine k_icmp_ge C (tgt := 28) d_N_placeOf_7 (by decide) (fun c7 => ?_) (fun c7 => ?_)
    · exact absurd c7 (x_lt hc (by omega) (by omega))
    · refine k_aload_n C d_N_placeOf_10 rfl rfl ?_
      refine k_getR C O (r := (10, _)) d_N_placeOf_11 fl_N_9 (xr_9 hi) rfl rfl rfl rfl ?_
      refine k_iload_n C d_N_placeOf_14 rfl rfl ?_
      refine k_iald2 C O (q := k) d_N_placeOf_15 (xr_10 hi) rfl 0 rfl (show vp_in (nI k) 12 from vp_in_nI (by omega) (by decide)) (nI_clamp (by omega)) ?_
      refine k_iload_n C d_N_placeOf_16 rfl rfl ?_
      refine k_icmp_ne C (tgt := 22) d_N_placeOf_17 (by decide) (fun c17 => ?_) (fun c17 => ?_)
      · refine k_iinc C (w := nI (k + 1)) d_N_placeOf_22 rfl (nI_inc k) rfl ?_
        refine k_goto C (tgt := 2) d_N_placeOf_25 (by decide) ?_
        have h9 := ih (k + 1) (by omega)
        simp only [xPl, if_neg c17]
        exact h9
      · refine k_iload_n C d_N_placeOf_20 rfl rfl ?_
        exact k_iret X d_N_placeOf_21 (⟨by simp only [xPl, if_pos c17], rfl⟩)

set_option maxHeartbeats 4000000 in
set_option maxRecDepth 100000 in
theorem c_N_placeOf (l : Launch) (b : Nat → Nat → Nat) (dA : Nat → ClassId) (D : va_G) (g : kG) (i : Nat) (hi : i < 12) (num : Int32) (c : Nat) (hc : g.1 9 i 4 = nI c) (h12 : c ≤ 12) : kMd (sysX b dA D) l y_N_placeOf b_N_placeOf 3 (some .int) 0 0 [.inr (.inr (9, i)), .inl num] g (some (.inl (nI (xPl g i num c 0)))) g := by
  refine k_enter (by decide) [some (.inr (.inr (9, i))), some (.inl num), none] rfl rfl (Nat.le_of_ble_eq_true rfl) (fun x X => ?_)
  have C := X.1
  have O := X.2.1
  refine k_iconst C (v := 0) d_N_placeOf_0 (by decide) ?_
  refine k_istore_n C d_N_placeOf_1 rfl (Nat.le_of_ble_eq_true rfl) rfl ?_
  exact l_N_placeOf l b dA D g i hi num c hc h12 X c 0 (by omega)

set_option maxHeartbeats 4000000 in
set_option maxRecDepth 100000 in
theorem l_N_fileBits {x : kCx} (l : Launch) (b : Nat → Nat → Nat) (dA : Nat → ClassId) (D : va_G) (g : kG) (i : Nat) (hi : i < 12) (c : Nat) (hc : g.1 9 i 4 = nI c) (h12 : c ≤ 12) (X : kIn (sysX b dA D) l b_N_fileBits y_N_fileBits.cls 3 (some .int) 0 0 x) : ∀ (n : Nat) (k : Nat) (a : Int32), k + n = c → Wk (kWd (sysX b dA D)) (kAA (sysX b dA D)) (y_ad (sysX b dA D)) x (0, 0) (kQ (sysX b dA D) (fun r g2 => r = some (.inl (xFb g i n k a)) ∧ g2 = g) x) 4 [some (.inr (.inr (9, i))), some (.inl a), some (.inl (nI k))] [] g := by
  have C := X.1
  have O := X.2.1
  intro n
  induction n with
  | zero =>
    intro k a hk
    refine k_iload_n C d_N_fileBits_4 rfl rfl ?_
    refine k_aload_n C d_N_fileBits_5 rfl rfl ?_
    refine k_getI C O d_N_fileBits_6 fl_N_26 (xr_9 hi) rfl rfl rfl ?_
    refine k_icmp_ge C (tgt := 29) d_N_fileBits_9 (by decide) (fun c9 => ?_) (fun c9 => ?_)
    · refine k_iload_n C d_N_fileBits_29 rfl rfl ?_
      exact k_iret X d_N_fileBits_30 (⟨by simp only [xFb], rfl⟩)
    · exact absurd (x_ge hc (by omega) (by omega)) c9
  | succ n ih =>
    intro k a hk
    refine k_iload_n C d_N_fileBits_4 rfl rfl ?_
    refine k_aload_n C d_N_fileBits_5 rfl rfl ?_
    refine k_getI C O d_N_fileBits_6 fl_N_26 (xr_9 hi) rfl rfl rfl ?_
    refine k_icmp_ge C (tgt := 29) d_N_fileBits_9 (by decide) (fun c9 => ?_) (fun c9 => ?_)
    · exact absurd c9 (x_lt hc (by omega) (by omega))
    · refine k_iload_n C d_N_fileBits_12 rfl rfl ?_
      refine k_iconst C (v := 1) d_N_fileBits_13 (by decide) ?_
      refine k_aload_n C d_N_fileBits_14 rfl rfl ?_
      refine k_getR C O (r := (10, _)) d_N_fileBits_15 fl_N_9 (xr_9 hi) rfl rfl rfl rfl ?_
      refine k_iload_n C d_N_fileBits_18 rfl rfl ?_
      refine k_iald2 C O (q := k) d_N_fileBits_19 (xr_10 hi) rfl 0 rfl (show vp_in (nI k) 12 from vp_in_nI (by omega) (by decide)) (nI_clamp (by omega)) ?_
      refine k_ishl C d_N_fileBits_20 ?_
      refine k_ior C d_N_fileBits_21 ?_
      refine k_istore_n C d_N_fileBits_22 rfl (Nat.le_of_ble_eq_true rfl) rfl ?_
      refine k_iinc C (w := nI (k + 1)) d_N_fileBits_23 rfl (nI_inc k) rfl ?_
      refine k_goto C (tgt := 4) d_N_fileBits_26 (by decide) ?_
      exact ih (k + 1) _ (by omega)

set_option maxHeartbeats 4000000 in
set_option maxRecDepth 100000 in
theorem c_N_fileBits (l : Launch) (b : Nat → Nat → Nat) (dA : Nat → ClassId) (D : va_G) (g : kG) (i : Nat) (hi : i < 12) (c : Nat) (hc : g.1 9 i 4 = nI c) (h12 : c ≤ 12) : kMd (sysX b dA D) l y_N_fileBits b_N_fileBits 3 (some .int) 0 0 [.inr (.inr (9, i))] g (some (.inl (xFb g i c 0 0))) g := by
  refine k_enter (by decide) [some (.inr (.inr (9, i))), none, none] rfl rfl (Nat.le_of_ble_eq_true rfl) (fun x X => ?_)
  have C := X.1
  have O := X.2.1
  refine k_iconst C (v := 0) d_N_fileBits_0 (by decide) ?_
  refine k_istore_n C d_N_fileBits_1 rfl (Nat.le_of_ble_eq_true rfl) rfl ?_
  refine k_iconst C (v := 0) d_N_fileBits_2 (by decide) ?_
  refine k_istore_n C d_N_fileBits_3 rfl (Nat.le_of_ble_eq_true rfl) rfl ?_
  exact l_N_fileBits l b dA D g i hi c hc h12 X c 0 0 (by omega)

set_option maxHeartbeats 4000000 in
set_option maxRecDepth 100000 in
theorem l_G_hasMember {x : kCx} (l : Launch) (b : Nat → Nat → Nat) (dA : Nat → ClassId) (D : va_G) (g : kG) (i : Nat) (hi : i < 6) (d : Int64) (c : Nat) (hc : g.1 14 i 3 = nI c) (h12 : c ≤ 4) (X : kIn (sysX b dA D) l b_G_hasMember y_G_hasMember.cls 4 (some .boolean) 1 22 x) : ∀ (n : Nat) (k : Nat), k + n = c → Wk (kWd (sysX b dA D)) (kAA (sysX b dA D)) (y_ad (sysX b dA D)) x (0, 0) (kQ (sysX b dA D) (fun r g2 => r = some (.inl (xHm g i d n k)) ∧ g2 = g) x) 2 [some (.inr (.inr (14, i))), some (.inr (.inl d)), none, some (.inl (nI k))] [] g := by
  have C := X.1
  have O := X.2.1
  intro n
  induction n with
  | zero =>
    intro k hk
    refine k_iload_n C d_G_hasMember_2 rfl rfl ?_
    refine k_aload_n C d_G_hasMember_3 rfl rfl ?_
    refine k_getI C O d_G_hasMember_4 fl_G_22 (xr_14 hi) rfl rfl rfl ?_
    refine k_icmp_ge C (tgt := 31) d_G_hasMember_7 (by decide) (fun c7 => ?_) (fun c7 => ?_)
    · refine k_iconst C (v := 0) d_G_hasMember_31 (by decide) ?_
      exact k_zret X d_G_hasMember_32 (Or.inl rfl) (⟨by simp only [xHm], rfl⟩)
    · exact absurd (x_ge hc (by omega) (by omega)) c7
  | succ n ih =>
    intro k hk
    refine k_iload_n C d_G_hasMember_2 rfl rfl ?_
    refine k_aload_n C d_G_hasMember_3 rfl rfl ?_
    refine k_getI C O d_G_hasMember_4 fl_G_22 (xr_14 hi) rfl rfl rfl ?_
    refine k_icmp_ge C (tgt := 31) d_G_hasMember_7 (by decide) (fun c7 => ?_) (fun c7 => ?_)
    · exact absurd c7 (x_lt hc (by omega) (by omega))
    · refine k_aload_n C d_G_hasMember_10 rfl rfl ?_
      refine k_getJ C O d_G_hasMember_11 fl_G_19 (xr_14 hi) rfl rfl rfl ?_
      refine k_iload_n C d_G_hasMember_14 rfl rfl ?_
      refine k_cnJ X d_G_hasMember_15 (c_X_memberDigest l b dA D g (g.2 14 i 2) (nI k)) rfl ⟨by decide, by decide⟩ rfl rfl (Nat.le_of_ble_eq_true rfl) ?_
      refine k_lload_n C d_G_hasMember_18 rfl rfl ?_
      refine k_lcmp C d_G_hasMember_19 ?_
      refine k_if_ne C (tgt := 25) d_G_hasMember_20 (by decide) (fun c20 => ?_) (fun c20 => ?_)
      · refine k_iinc C (w := nI (k + 1)) d_G_hasMember_25 rfl (nI_inc k) rfl ?_
        refine k_goto C (tgt := 2) d_G_hasMember_28 (by decide) ?_
        have h9 := ih (k + 1) (by omega)
        simp only [xHm, if_neg c20]
        exact h9
      · refine k_iconst C (v := 1) d_G_hasMember_23 (by decide) ?_
        exact k_zret X d_G_hasMember_24 (Or.inr rfl) (⟨by simp only [xHm, if_pos c20], rfl⟩)

set_option maxHeartbeats 4000000 in
set_option maxRecDepth 100000 in
theorem c_G_hasMember (l : Launch) (b : Nat → Nat → Nat) (dA : Nat → ClassId) (D : va_G) (g : kG) (i : Nat) (hi : i < 6) (d : Int64) (c : Nat) (hc : g.1 14 i 3 = nI c) (h12 : c ≤ 4) : kMd (sysX b dA D) l y_G_hasMember b_G_hasMember 4 (some .boolean) 1 22 [.inr (.inr (14, i)), .inr (.inl d)] g (some (.inl (xHm g i d c 0))) g := by
  refine k_enter (by decide) [some (.inr (.inr (14, i))), some (.inr (.inl d)), none, none] rfl rfl (Nat.le_of_ble_eq_true rfl) (fun x X => ?_)
  have C := X.1
  have O := X.2.1
  refine k_iconst C (v := 0) d_G_hasMember_0 (by decide) ?_
  refine k_istore_n C d_G_hasMember_1 rfl (Nat.le_of_ble_eq_true rfl) rfl ?_
  exact l_G_hasMember l b dA D g i hi d c hc h12 X c 0 (by omega)

set_option maxHeartbeats 4000000 in
set_option maxRecDepth 100000 in
theorem l_G_take {x : kCx} (l : Launch) (b : Nat → Nat → Nat) (dA : Nat → ClassId) (D : va_G) (g : kG) (i : Nat) (hi : i < 6) (d : Int64) (c : Nat) (hc : g.1 14 i 3 = nI c) (h12 : c ≤ 4) (w : Nat) (hw : w ≤ 4) (X : kIn (sysX b dA D) l b_G_take y_G_take.cls 6 (some .int) 2 45 x) : ∀ (n : Nat) (k : Nat) (a : Int32), k + n = w → Wk (kWd (sysX b dA D)) (kAA (sysX b dA D)) (y_ad (sysX b dA D)) x (0, 0) (kQ (sysX b dA D) (fun r g2 => r = some (.inl (xTk g i d n k a)) ∧ g2 = (kU g.1 14 i 3 (nI w), kUJ g.2 14 i 2 d)) x) 6 [some (.inr (.inr (14, i))), some (.inr (.inl d)), none, some (.inl (nI w)), some (.inl a), some (.inl (nI k))] [] g := by
  have C := X.1
  have O := X.2.1
  intro n
  induction n with
  | zero =>
    intro k a hk
    refine k_iload C d_G_take_6 rfl ?_
    refine k_iload_n C d_G_take_8 rfl rfl ?_
    refine k_icmp_ge C (tgt := 34) d_G_take_9 (by decide) (fun c9 => ?_) (fun c9 => ?_)
    · refine k_aload_n C d_G_take_34 rfl rfl ?_
      refine k_lload_n C d_G_take_35 rfl rfl ?_
      refine k_putJ C O d_G_take_36 fp_G_19 (xr_14 hi) rfl rfl rfl ?_
      refine k_aload_n C d_G_take_39 rfl rfl ?_
      refine k_iload_n C d_G_take_40 rfl rfl ?_
      refine k_putI C O d_G_take_41 fp_G_22 (xr_14 hi) rfl rfl rfl ?_
      refine k_iload C d_G_take_44 rfl ?_
      exact k_iret X d_G_take_46 (⟨by simp only [xTk], rfl⟩)
    · exact absurd (x_ge rfl (by omega) (by omega)) c9
  | succ n ih =>
    intro k a hk
    refine k_iload C d_G_take_6 rfl ?_
    refine k_iload_n C d_G_take_8 rfl rfl ?_
    refine k_icmp_ge C (tgt := 34) d_G_take_9 (by decide) (fun c9 => ?_) (fun c9 => ?_)
    · exact absurd c9 (x_lt rfl (by omega) (by omega))
    · refine k_aload_n C d_G_take_12 rfl rfl ?_
      refine k_lload_n C d_G_take_13 rfl rfl ?_
      refine k_iload C d_G_take_14 rfl ?_
      refine k_cnJ X d_G_take_16 (c_X_memberDigest l b dA D g d (nI k)) rfl ⟨by decide, by decide⟩ rfl rfl (Nat.le_of_ble_eq_true rfl) ?_
      refine k_cvI X d_G_take_19 (c_G_hasMember l b dA D g i hi (xMem d (nI k)) c hc h12) cv_G_29 (xr_14 hi) rfl rfl ⟨by decide, by decide⟩ rfl rfl (Nat.le_of_ble_eq_true rfl) ?_
      refine k_if_ne C (tgt := 28) d_G_take_22 (by decide) (fun c22 => ?_) (fun c22 => ?_)
      · refine k_iinc C (w := nI (k + 1)) d_G_take_28 rfl (nI_inc k) rfl ?_
        refine k_goto C (tgt := 6) d_G_take_31 (by decide) ?_
        have e9 : tn (g.1 14 i 3) = c := by rw [hc]; exact nI_clamp (by omega)
        simp only [xTk, e9, if_neg c22]
        exact ih (k + 1) _ (by omega)
      · refine k_iinc C d_G_take_25 rfl rfl rfl ?_
        refine k_iinc C (w := nI (k + 1)) d_G_take_28 rfl (nI_inc k) rfl ?_
        refine k_goto C (tgt := 6) d_G_take_31 (by decide) ?_
        have e9 : tn (g.1 14 i 3) = c := by rw [hc]; exact nI_clamp (by omega)
        simp only [xTk, e9, if_pos c22]
        exact ih (k + 1) _ (by omega)

set_option maxHeartbeats 4000000 in
set_option maxRecDepth 100000 in
theorem c_G_take (l : Launch) (b : Nat → Nat → Nat) (dA : Nat → ClassId) (D : va_G) (g : kG) (i : Nat) (hi : i < 6) (d : Int64) (c : Nat) (hc : g.1 14 i 3 = nI c) (h12 : c ≤ 4) (w : Nat) (hw : w ≤ 4) : kMd (sysX b dA D) l y_G_take b_G_take 6 (some .int) 2 45 [.inr (.inr (14, i)), .inr (.inl d), .inl (nI w)] g (some (.inl (xTk g i d w 0 0))) (kU g.1 14 i 3 (nI w), kUJ g.2 14 i 2 d) := by
  refine k_enter (by decide) [some (.inr (.inr (14, i))), some (.inr (.inl d)), none, some (.inl (nI w)), none, none] rfl rfl (Nat.le_of_ble_eq_true rfl) (fun x X => ?_)
  have C := X.1
  have O := X.2.1
  refine k_iconst C (v := 0) d_G_take_0 (by decide) ?_
  refine k_istore C d_G_take_1 (Nat.le_of_ble_eq_true rfl) rfl ?_
  refine k_iconst C (v := 0) d_G_take_3 (by decide) ?_
  refine k_istore C d_G_take_4 (Nat.le_of_ble_eq_true rfl) rfl ?_
  exact l_G_take l b dA D g i hi d c hc h12 w hw X w 0 0 (by omega)

set_option maxHeartbeats 4000000 in
set_option maxRecDepth 100000 in
theorem c_G_resultOf (l : Launch) (b : Nat → Nat → Nat) (dA : Nat → ClassId) (D : va_G) (g : kG) (i : Nat) (hi : i < 6) (j : Int32) : kMd (sysX b dA D) l y_G_resultOf b_G_resultOf 2 (some .long) 1 22 [.inr (.inr (14, i)), .inl j] g (some (.inr (.inl (xRes g i j)))) g := by
  refine k_enter (by decide) [some (.inr (.inr (14, i))), some (.inl j)] rfl rfl (Nat.le_of_ble_eq_true rfl) (fun x X => ?_)
  have C := X.1
  have O := X.2.1
  refine k_iload_n C d_G_resultOf_0 rfl rfl ?_
  refine k_if_lt C (tgt := 32) d_G_resultOf_1 (by decide) (fun c1 => ?_) (fun c1 => ?_)
  · refine k_lconst C (v := 0) d_G_resultOf_32 (by decide) ?_
    exact k_lret X d_G_resultOf_33 (⟨by simp only [xRes, if_pos c1], by simp only [xRes, if_pos c1]⟩)
  · refine k_iload_n C d_G_resultOf_4 rfl rfl ?_
    refine k_aload_n C d_G_resultOf_5 rfl rfl ?_
    refine k_getI C O d_G_resultOf_6 fl_G_22 (xr_14 hi) rfl rfl rfl ?_
    refine k_icmp_ge C (tgt := 32) d_G_resultOf_9 (by decide) (fun c9 => ?_) (fun c9 => ?_)
    · refine k_lconst C (v := 0) d_G_resultOf_32 (by decide) ?_
      exact k_lret X d_G_resultOf_33 (⟨by simp only [xRes, if_neg c1, if_pos c9], by simp only [xRes, if_neg c1, if_pos c9]⟩)
    · refine k_ldc2 C (v := 17) d_G_resultOf_12 (by decide +kernel) ?_
      refine k_aload_n C d_G_resultOf_15 rfl rfl ?_
      refine k_getJ C O d_G_resultOf_16 fl_G_19 (xr_14 hi) rfl rfl rfl ?_
      refine k_iload_n C d_G_resultOf_19 rfl rfl ?_
      refine k_cnJ X d_G_resultOf_20 (c_X_memberDigest l b dA D g (g.2 14 i 2) j) rfl ⟨by decide, by decide⟩ rfl rfl (Nat.le_of_ble_eq_true rfl) ?_
      refine k_lmul C d_G_resultOf_23 ?_
      refine k_aload_n C d_G_resultOf_24 rfl rfl ?_
      refine k_getJ C O d_G_resultOf_25 fl_G_15 (xr_14 hi) rfl rfl rfl ?_
      refine k_ladd C d_G_resultOf_28 ?_
      refine k_goto C (tgt := 33) d_G_resultOf_29 (by decide) ?_
      exact k_lret X d_G_resultOf_33 (⟨by simp only [xRes, if_neg c1, if_neg c9], by simp only [xRes, if_neg c1, if_neg c9]⟩)

set_option maxHeartbeats 4000000 in
set_option maxRecDepth 100000 in
theorem l_X_holds {x : kCx} (l : Launch) (b : Nat → Nat → Nat) (dA : Nat → ClassId) (D : va_G) (g : kG) (i : Nat) (hi : i < 12) (m : Int32) (c : Nat) (hc : g.1 9 i 4 = nI c) (h12 : c ≤ 12) (hn : ∀ k, k < c → vp_in (g.1 10 i k) 24) (X : kIn (sysX b dA D) l b_X_holds y_X_holds.cls 6 (some .boolean) 2 42 x) : ∀ (n : Nat) (k : Nat) (z : Option kV), k + n = c → Wk (kWd (sysX b dA D)) (kAA (sysX b dA D)) (y_ad (sysX b dA D)) x (0, 0) (kQ (sysX b dA D) (fun r g2 => r = some (.inl (xHo g i m n k)) ∧ g2 = g) x) 17 [some (.inr (.inr (0, 0))), some (.inr (.inr (6, i))), some (.inl m), some (.inr (.inr (9, i))), some (.inl (nI k)), z] [] g := by
  have C := X.1
  have O := X.2.1
  intro n
  induction n with
  | zero =>
    intro k z hk
    refine k_iload C d_X_holds_17 rfl ?_
    refine k_aload_n C d_X_holds_19 rfl rfl ?_
    refine k_getI C O d_X_holds_20 fl_X_222 (xr_9 hi) rfl rfl rfl ?_
    refine k_icmp_ge C (tgt := 68) d_X_holds_23 (by decide) (fun c23 => ?_) (fun c23 => ?_)
    · refine k_iconst C (v := 1) d_X_holds_68 (by decide) ?_
      exact k_zret X d_X_holds_69 (Or.inr rfl) (⟨by simp only [xHo], rfl⟩)
    · exact absurd (x_ge hc (by omega) (by omega)) c23
  | succ n ih =>
    intro k z hk
    refine k_iload C d_X_holds_17 rfl ?_
    refine k_aload_n C d_X_holds_19 rfl rfl ?_
    refine k_getI C O d_X_holds_20 fl_X_222 (xr_9 hi) rfl rfl rfl ?_
    refine k_icmp_ge C (tgt := 68) d_X_holds_23 (by decide) (fun c23 => ?_) (fun c23 => ?_)
    · exact absurd c23 (x_lt hc (by omega) (by omega))
    · refine k_aload_n C d_X_holds_26 rfl rfl ?_
      refine k_getR C O (r := (1, _)) d_X_holds_27 fl_X_11 xr_0 rfl rfl rfl rfl ?_
      refine k_aload_n C d_X_holds_30 rfl rfl ?_
      refine k_getR C O (r := (10, _)) d_X_holds_31 fl_X_225 (xr_9 hi) rfl rfl rfl rfl ?_
      refine k_iload C d_X_holds_34 rfl ?_
      refine k_iald2 C O (q := k) d_X_holds_36 (xr_10 hi) rfl 0 rfl (show vp_in (nI k) 12 from vp_in_nI (by omega) (by decide)) (nI_clamp (by omega)) ?_
      refine k_aald2 C O (r := (5, _)) d_X_holds_37 xr_1 rfl 3 rfl (hn k (by omega)) rfl rfl ?_
      refine k_astore C d_X_holds_38 (Nat.le_of_ble_eq_true rfl) rfl ?_
      refine k_aload_n C d_X_holds_40 rfl rfl ?_
      refine k_iload C d_X_holds_41 rfl ?_
      refine k_aload C d_X_holds_43 rfl ?_
      refine k_cvI X d_X_holds_45 (c_N_isLike l b dA D g i hi (nI k) (show vp_in (nI k) 12 from vp_in_nI (by omega) (by decide)) (tn (g.1 10 i k)) (vi_lt (hn k (by omega)))) cv_X_228 (xr_9 hi) rfl rfl ⟨by decide, by decide⟩ rfl rfl (Nat.le_of_ble_eq_true rfl) ?_
      refine k_if_eq C (tgt := 60) d_X_holds_48 (by decide) (fun c48 => ?_) (fun c48 => ?_)
      · refine k_iconst C (v := 0) d_X_holds_60 (by decide) ?_
        exact k_zret X d_X_holds_61 (Or.inl rfl) (⟨by simp only [xHo, if_neg c23, if_pos c48], rfl⟩)
      · refine k_aload C d_X_holds_51 rfl ?_
        refine k_iload_n C d_X_holds_53 rfl rfl ?_
        refine k_csI X d_X_holds_54 (c_X_isFresh l b dA D g (tn (g.1 10 i k)) (vi_lt (hn k (by omega))) m) cs_X_165 ⟨by decide, by decide⟩ rfl rfl (Nat.le_of_ble_eq_true rfl) ?_
        refine k_if_ne C (tgt := 62) d_X_holds_57 (by decide) (fun c57 => ?_) (fun c57 => ?_)
        · refine k_iinc C (w := nI (k + 1)) d_X_holds_62 rfl (nI_inc k) rfl ?_
          refine k_goto C (tgt := 17) d_X_holds_65 (by decide) ?_
          have h9 := ih (k + 1) (some (.inr (.inr (5, tn (g.1 10 i k))))) (by omega)
          simp only [xHo, if_neg c48, if_neg c57]
          exact h9
        · refine k_iconst C (v := 0) d_X_holds_60 (by decide) ?_
          exact k_zret X d_X_holds_61 (Or.inl rfl) (⟨by simp only [xHo, if_neg c23, if_neg c48, if_pos c57], rfl⟩)

set_option maxHeartbeats 4000000 in
set_option maxRecDepth 100000 in
theorem c_X_holds (l : Launch) (b : Nat → Nat → Nat) (dA : Nat → ClassId) (D : va_G) (g : kG) (i : Nat) (hi : i < 12) (m : Int32) (c : Nat) (hc : g.1 9 i 4 = nI c) (h12 : c ≤ 12) (hn : ∀ k, k < c → vp_in (g.1 10 i k) 24) : kMd (sysX b dA D) l y_X_holds b_X_holds 6 (some .boolean) 2 42 [.inr (.inr (0, 0)), .inr (.inr (6, i)), .inl m] g (some (.inl (xHold g i m))) g := by
  refine k_enter (by decide) [some (.inr (.inr (0, 0))), some (.inr (.inr (6, i))), some (.inl m), none, none, none] rfl rfl (Nat.le_of_ble_eq_true rfl) (fun x X => ?_)
  have C := X.1
  have O := X.2.1
  refine k_aload_n C d_X_holds_0 rfl rfl ?_
  refine k_getI C O d_X_holds_1 fl_X_120 (xr_6 hi) rfl rfl rfl ?_
  refine k_if_ne C (tgt := 9) d_X_holds_4 (by decide) (fun c4 => ?_) (fun c4 => ?_)
  · refine k_aload_n C d_X_holds_9 rfl rfl ?_
    refine k_getR C O (r := (9, _)) d_X_holds_10 fl_X_124 (xr_6 hi) rfl rfl rfl rfl ?_
    refine k_astore_n C d_X_holds_13 rfl (Nat.le_of_ble_eq_true rfl) rfl ?_
    refine k_iconst C (v := 0) d_X_holds_14 (by decide) ?_
    refine k_istore C d_X_holds_15 (Nat.le_of_ble_eq_true rfl) rfl ?_
    have e9 : tn (g.1 9 i 4) = c := by rw [hc]; exact nI_clamp (by omega)
    simp only [xHold, if_neg c4, e9]
    exact l_X_holds l b dA D g i hi m c hc h12 hn X c 0 none (by omega)
  · refine k_iconst C (v := 0) d_X_holds_7 (by decide) ?_
    exact k_zret X d_X_holds_8 (Or.inl rfl) (⟨by simp only [xHold, if_pos c4], by simp only [xHold, if_pos c4]⟩)

set_option maxHeartbeats 4000000 in
set_option maxRecDepth 100000 in
theorem l_X_freshIn {x : kCx} {Q : State → Prop} (l : Launch) (b : Nat → Nat → Nat) (dA : Nat → ClassId) (D : va_G) (g : kG) (na : Nat) (ha : g.1 0 0 5 = nI na) (h12 : na ≤ 12) (hn : ∀ i, i < na → kN (g.1 9 i 4) 12 ∧ ∀ k, k < tn (g.1 9 i 4) → vp_in (g.1 10 i k) 24) (r bf : Int32) (X : kIn (sysX b dA D) l b_X_freshActions y_X_freshActions.cls 5 (some .int) 3 67 x) : ∀ (n : Nat) (k : Nat) (m : Int32), k + n = na → (Wk (kWd (sysX b dA D)) (kAA (sysX b dA D)) (y_ad (sysX b dA D)) x (0, 0) Q 54 [some (.inr (.inr (0, 0))), some (.inl (xRd g n k m)), some (.inl r), some (.inl bf), some (.inl (nI na))] [] g) → Wk (kWd (sysX b dA D)) (kAA (sysX b dA D)) (y_ad (sysX b dA D)) x (0, 0) Q 17 [some (.inr (.inr (0, 0))), some (.inl m), some (.inl r), some (.inl bf), some (.inl (nI k))] [] g := by
  have C := X.1
  have O := X.2.1
  intro n
  induction n with
  | zero =>
    intro k m hk K
    refine k_iload C d_X_freshActions_17 rfl ?_
    refine k_aload_n C d_X_freshActions_19 rfl rfl ?_
    refine k_getI C O d_X_freshActions_20 fl_X_31 xr_0 rfl rfl rfl ?_
    refine k_icmp_ge C (tgt := 54) d_X_freshActions_23 (by decide) (fun c23 => ?_) (fun c23 => ?_)
    · have e9 : k = na := by omega
      rw [e9]
      exact K
    · exact absurd (x_ge ha (by omega) (by omega)) c23
  | succ n ih =>
    intro k m hk K
    refine k_iload C d_X_freshActions_17 rfl ?_
    refine k_aload_n C d_X_freshActions_19 rfl rfl ?_
    refine k_getI C O d_X_freshActions_20 fl_X_31 xr_0 rfl rfl rfl ?_
    refine k_icmp_ge C (tgt := 54) d_X_freshActions_23 (by decide) (fun c23 => ?_) (fun c23 => ?_)
    · exact absurd c23 (x_lt ha (by omega) (by omega))
    · refine k_aload_n C d_X_freshActions_26 rfl rfl ?_
      refine k_aload_n C d_X_freshActions_27 rfl rfl ?_
      refine k_getR C O (r := (2, _)) d_X_freshActions_28 fl_X_17 xr_0 rfl rfl rfl rfl ?_
      refine k_iload C d_X_freshActions_31 rfl ?_
      refine k_aald2 C O (q := k) (r := (6, _)) d_X_freshActions_33 xr_2 rfl 4 rfl (show vp_in (nI k) 12 from vp_in_nI (by omega) (by decide)) (nI_clamp (by omega)) rfl ?_
      refine k_iload_n C d_X_freshActions_34 rfl rfl ?_
      refine k_cvI X d_X_freshActions_35 (c_X_holds l b dA D g k (by omega) m (tn (g.1 9 k 4)) (hn k (by omega)).1.1 (hn k (by omega)).1.2 (hn k (by omega)).2) cv_X_218 xr_0 rfl rfl ⟨by decide, by decide⟩ rfl rfl (Nat.le_of_ble_eq_true rfl) ?_
      refine k_if_eq C (tgt := 48) d_X_freshActions_38 (by decide) (fun c38 => ?_) (fun c38 => ?_)
      · refine k_iinc C (w := nI (k + 1)) d_X_freshActions_48 rfl (nI_inc k) rfl ?_
        refine k_goto C (tgt := 17) d_X_freshActions_51 (by decide) ?_
        simp only [xRd, if_pos c38] at K
        exact ih (k + 1) _ (by omega) K
      · refine k_iload_n C d_X_freshActions_41 rfl rfl ?_
        refine k_iconst C (v := 1) d_X_freshActions_42 (by decide) ?_
        refine k_iload C d_X_freshActions_43 rfl ?_
        refine k_ishl C d_X_freshActions_45 ?_
        refine k_ior C d_X_freshActions_46 ?_
        refine k_istore_n C d_X_freshActions_47 rfl (Nat.le_of_ble_eq_true rfl) rfl ?_
        refine k_iinc C (w := nI (k + 1)) d_X_freshActions_48 rfl (nI_inc k) rfl ?_
        refine k_goto C (tgt := 17) d_X_freshActions_51 (by decide) ?_
        simp only [xRd, if_neg c38] at K
        exact ih (k + 1) _ (by omega) K

set_option maxHeartbeats 4000000 in
set_option maxRecDepth 100000 in
theorem l_X_freshOut {x : kCx} (l : Launch) (b : Nat → Nat → Nat) (dA : Nat → ClassId) (D : va_G) (g : kG) (na : Nat) (ha : g.1 0 0 5 = nI na) (h12 : na ≤ 12) (hn : ∀ i, i < na → kN (g.1 9 i 4) 12 ∧ ∀ k, k < tn (g.1 9 i 4) → vp_in (g.1 10 i k) 24) (X : kIn (sysX b dA D) l b_X_freshActions y_X_freshActions.cls 5 (some .int) 3 67 x) : ∀ (n : Nat) (k : Nat) (m : Int32) (z3 z4 : Option kV), k + n = na → Wk (kWd (sysX b dA D)) (kAA (sysX b dA D)) (y_ad (sysX b dA D)) x (0, 0) (kQ (sysX b dA D) (fun r g2 => r = some (.inl (xFa g na n m)) ∧ g2 = g) x) 4 [some (.inr (.inr (0, 0))), some (.inl m), some (.inl (nI k)), z3, z4] [] g := by
  have C := X.1
  have O := X.2.1
  intro n
  induction n with
  | zero =>
    intro k m z3 z4 hk
    refine k_iload_n C d_X_freshActions_4 rfl rfl ?_
    refine k_aload_n C d_X_freshActions_5 rfl rfl ?_
    refine k_getI C O d_X_freshActions_6 fl_X_31 xr_0 rfl rfl rfl ?_
    refine k_icmp_ge C (tgt := 67) d_X_freshActions_9 (by decide) (fun c9 => ?_) (fun c9 => ?_)
    · refine k_iload_n C d_X_freshActions_67 rfl rfl ?_
      exact k_iret X d_X_freshActions_68 (⟨by simp only [xFa], rfl⟩)
    · exact absurd (x_ge ha (by omega) (by omega)) c9
  | succ n ih =>
    intro k m z3 z4 hk
    refine k_iload_n C d_X_freshActions_4 rfl rfl ?_
    refine k_aload_n C d_X_freshActions_5 rfl rfl ?_
    refine k_getI C O d_X_freshActions_6 fl_X_31 xr_0 rfl rfl rfl ?_
    refine k_icmp_ge C (tgt := 67) d_X_freshActions_9 (by decide) (fun c9 => ?_) (fun c9 => ?_)
    · exact absurd c9 (x_lt ha (by omega) (by omega))
    · refine k_iload_n C d_X_freshActions_12 rfl rfl ?_
      refine k_istore_n C d_X_freshActions_13 rfl (Nat.le_of_ble_eq_true rfl) rfl ?_
      refine k_iconst C (v := 0) d_X_freshActions_14 (by decide) ?_
      refine k_istore C d_X_freshActions_15 (Nat.le_of_ble_eq_true rfl) rfl ?_
      refine l_X_freshIn l b dA D g na ha h12 hn (nI k) m X na 0 m (by omega) ?_
      refine k_iload_n C d_X_freshActions_54 rfl rfl ?_
      refine k_iload_n C d_X_freshActions_55 rfl rfl ?_
      refine k_icmp_ne C (tgt := 61) d_X_freshActions_56 (by decide) (fun c56 => ?_) (fun c56 => ?_)
      · refine k_iinc C (w := nI (k + 1)) d_X_freshActions_61 rfl (nI_inc k) rfl ?_
        refine k_goto C (tgt := 4) d_X_freshActions_64 (by decide) ?_
        have h9 := ih (k + 1) (xRd g na 0 m) (some (.inl m)) (some (.inl (nI na))) (by omega)
        simp only [xFa, if_neg c56]
        exact h9
      · refine k_iload_n C d_X_freshActions_59 rfl rfl ?_
        exact k_iret X d_X_freshActions_60 (⟨by simp only [xFa, if_pos c56], rfl⟩)

set_option maxHeartbeats 4000000 in
set_option maxRecDepth 100000 in
theorem c_X_freshActions (l : Launch) (b : Nat → Nat → Nat) (dA : Nat → ClassId) (D : va_G) (g : kG) (na : Nat) (ha : g.1 0 0 5 = nI na) (h12 : na ≤ 12) (hn : ∀ i, i < na → kN (g.1 9 i 4) 12 ∧ ∀ k, k < tn (g.1 9 i 4) → vp_in (g.1 10 i k) 24) : kMd (sysX b dA D) l y_X_freshActions b_X_freshActions 5 (some .int) 3 67 [.inr (.inr (0, 0))] g (some (.inl (xFresh g))) g := by
  refine k_enter (by decide) [some (.inr (.inr (0, 0))), none, none, none, none] rfl rfl (Nat.le_of_ble_eq_true rfl) (fun x X => ?_)
  have C := X.1
  have O := X.2.1
  refine k_iconst C (v := 0) d_X_freshActions_0 (by decide) ?_
  refine k_istore_n C d_X_freshActions_1 rfl (Nat.le_of_ble_eq_true rfl) rfl ?_
  refine k_iconst C (v := 0) d_X_freshActions_2 (by decide) ?_
  refine k_istore_n C d_X_freshActions_3 rfl (Nat.le_of_ble_eq_true rfl) rfl ?_
  have e9 : tn (g.1 0 0 5) = na := by rw [ha]; exact nI_clamp (by omega)
  simp only [xFresh, e9]
  exact l_X_freshOut l b dA D g na ha h12 hn X na 0 0 none none (by omega)

set_option maxHeartbeats 4000000 in
set_option maxRecDepth 100000 in
theorem l_X_tellRing {x : kCx} (l : Launch) (b : Nat → Nat → Nat) (dA : Nat → ClassId) (D : va_G) (g : kG) (mk : Int32) (dp : Nat) (hd : dp ≤ 13) (X : kIn (sysX b dA D) l b_X_tellRing y_X_tellRing.cls 4 (some .boolean) 0 0 x) : ∀ (n : Nat) (k : Nat), k + n = dp → Wk (kWd (sysX b dA D)) (kAA (sysX b dA D)) (y_ad (sysX b dA D)) x (0, 0) (kQ (sysX b dA D) (fun r g2 => r = some (.inl (xTr g mk dp n k).1) ∧ g2 = (xTr g mk dp n k).2) x) 2 [some (.inr (.inr (0, 0))), some (.inl mk), some (.inl (nI dp)), some (.inl (nI k))] [] g := by
  have C := X.1
  have O := X.2.1
  intro n
  induction n with
  | zero =>
    intro k hk
    refine k_iload_n C d_X_tellRing_2 rfl rfl ?_
    refine k_iload_n C d_X_tellRing_3 rfl rfl ?_
    refine k_icmp_ge C (tgt := 37) d_X_tellRing_4 (by decide) (fun c4 => ?_) (fun c4 => ?_)
    · refine k_iconst C (v := 0) d_X_tellRing_37 (by decide) ?_
      exact k_zret X d_X_tellRing_38 (Or.inl rfl) (⟨by simp only [xTr], by simp only [xTr]⟩)
    · exact absurd (x_ge rfl (by omega) (by omega)) c4
  | succ n ih =>
    intro k hk
    refine k_iload_n C d_X_tellRing_2 rfl rfl ?_
    refine k_iload_n C d_X_tellRing_3 rfl rfl ?_
    refine k_icmp_ge C (tgt := 37) d_X_tellRing_4 (by decide) (fun c4 => ?_) (fun c4 => ?_)
    · exact absurd c4 (x_lt rfl (by omega) (by omega))
    · refine k_aload_n C d_X_tellRing_7 rfl rfl ?_
      refine k_getR C O (r := (4, _)) d_X_tellRing_8 fl_X_37 xr_0 rfl rfl rfl rfl ?_
      refine k_iload_n C d_X_tellRing_11 rfl rfl ?_
      refine k_iald2 C O (q := k) d_X_tellRing_12 xr_4 rfl 0 rfl (show vp_in (nI k) 13 from vp_in_nI (by omega) (by decide)) (nI_clamp (by omega)) ?_
      refine k_iload_n C d_X_tellRing_13 rfl rfl ?_
      refine k_icmp_ne C (tgt := 31) d_X_tellRing_14 (by decide) (fun c14 => ?_) (fun c14 => ?_)
      · refine k_iinc C (w := nI (k + 1)) d_X_tellRing_31 rfl (nI_inc k) rfl ?_
        refine k_goto C (tgt := 2) d_X_tellRing_34 (by decide) ?_
        have h9 := ih (k + 1) (by omega)
        simp only [xTr, if_neg c14]
        exact h9
      · refine k_aload_n C d_X_tellRing_17 rfl rfl ?_
        refine k_iload_n C d_X_tellRing_18 rfl rfl ?_
        refine k_putI C O d_X_tellRing_19 fp_X_41 xr_0 rfl rfl rfl ?_
        refine k_aload_n C d_X_tellRing_22 rfl rfl ?_
        refine k_iload_n C d_X_tellRing_23 rfl rfl ?_
        refine k_iload_n C d_X_tellRing_24 rfl rfl ?_
        refine k_isub C d_X_tellRing_25 ?_
        refine k_putI C O d_X_tellRing_26 fp_X_44 xr_0 rfl rfl rfl ?_
        refine k_iconst C (v := 1) d_X_tellRing_29 (by decide) ?_
        exact k_zret X d_X_tellRing_30 (Or.inr rfl) (⟨by simp only [xTr, if_pos c14], by simp only [xTr, if_pos c14]⟩)

set_option maxHeartbeats 4000000 in
set_option maxRecDepth 100000 in
theorem c_X_tellRing (l : Launch) (b : Nat → Nat → Nat) (dA : Nat → ClassId) (D : va_G) (g : kG) (mk : Int32) (dp : Nat) (hd : dp ≤ 13) : kMd (sysX b dA D) l y_X_tellRing b_X_tellRing 4 (some .boolean) 0 0 [.inr (.inr (0, 0)), .inl mk, .inl (nI dp)] g (some (.inl (xTr g mk dp dp 0).1)) (xTr g mk dp dp 0).2 := by
  refine k_enter (by decide) [some (.inr (.inr (0, 0))), some (.inl mk), some (.inl (nI dp)), none] rfl rfl (Nat.le_of_ble_eq_true rfl) (fun x X => ?_)
  have C := X.1
  have O := X.2.1
  refine k_iconst C (v := 0) d_X_tellRing_0 (by decide) ?_
  refine k_istore_n C d_X_tellRing_1 rfl (Nat.le_of_ble_eq_true rfl) rfl ?_
  exact l_X_tellRing l b dA D g mk dp hd X dp 0 (by omega)
