/-! the class: specs and contracts, 4: keep, try, run, the calls but resolve (by program: wip/gen/cx4.py) -/
def xKp (g : kG) (i : Nat) (r : Int32) : kG := (kU (kU g.1 6 i 6 1) 6 i 7 r, g.2)
def xKeep (g : kG) (i : Nat) (r : Int32) : kG := if xIn (g.1 6 i 4) (g.1 0 0 4) = 0 then xKp g i r else if r = 1 then xPut (xKp g i r) (tn (g.1 6 i 4)) (g.2 6 i 8) else xRem (xKp g i r) (tn (g.1 6 i 4))
def xTryA (g : kG) (i : Nat) : kG := xFgt (kU (kU g.1 6 i 11 (g.1 6 i 11 + 1)) 6 i 12 (g.1 6 i 12 + 1), g.2) i
def xTryB (r : Int32) (g : kG) (i : Nat) : Int32 × kG := if r = 1 then (r, xKeep g i r) else if r = -3 then (r, xKeep g i r) else (r, xFgt g i)
def xTry (g : kG) (i : Nat) (m : Int32) : Int32 × kG := if (xGo (xTryA g i) i m).1 = 0 then xTryB (xGo (xTryA g i) i m).1 (xGo (xTryA g i) i m).2 i else xTryB (xGo (xTryA g i) i m).1 (kU (xGo (xTryA g i) i m).2.1 6 i 12 0, (xGo (xTryA g i) i m).2.2) i
def xW (g : kG) (i : Nat) : kG := (kU g.1 6 i 9 (-1), g.2)
def xRun (g : kG) (n : Int32) : Int32 × kG := if xBit (xFresh g) n = 0 then (if g.1 6 (tn n) 12 < g.1 0 0 0 then xTry (xW g (tn n)) (tn n) (xFresh g) else (-2, (kU (xFgt (xW g (tn n)) (tn n)).1 6 (tn n) 12 0, g.2))) else (g.1 6 (tn n) 7, (kU (xW g (tn n)).1 6 (tn n) 10 (g.1 6 (tn n) 10 + 1), g.2))
theorem xRows_fr (i : Nat) (m : Int32) (k a j : Nat) (h : k ≠ 9 ∧ k ≠ 10 ∧ k ≠ 11 ∧ k ≠ 12 ∧ k ≠ 6) : ∀ (n q : Nat) (last : Int64) (g : kG), (xRows i m n q last g).2.1 k a j = g.1 k a j
  | 0, q, last, g => rfl
  | n + 1, q, last, g => by
    have e1 := xLook_fr g i 1 (g.1 8 i q) m k a j h
    have e0 := xLook_fr g i 0 (g.1 8 i q) m k a j h
    unfold xRows
    split
    · rfl
    · split
      · split
        · exact xRows_fr i m k a j h n _ _ _
        · exact xRows_fr i m k a j h n _ _ _
      · split
        · split
          · (try split) <;> (rw [xRows_fr i m k a j h n]; exact e1)
          · exact e1
        · split
          · (try split) <;> (rw [xRows_fr i m k a j h n]; exact e0)
          · exact e0
theorem xRows_6 (i : Nat) (m : Int32) (a j : Nat) (h : j ≠ 9) : ∀ (n q : Nat) (last : Int64) (g : kG), (xRows i m n q last g).2.1 6 a j = g.1 6 a j
  | 0, q, last, g => rfl
  | n + 1, q, last, g => by
    have e1 := xLook_6 g i 1 (g.1 8 i q) m a j h
    have e0 := xLook_6 g i 0 (g.1 8 i q) m a j h
    unfold xRows
    split
    · rfl
    · split
      · split
        · exact xRows_6 i m a j h n _ _ _
        · exact xRows_6 i m a j h n _ _ _
      · split
        · split
          · (try split) <;> (rw [xRows_6 i m a j h n]; exact e1)
          · exact e1
        · split
          · (try split) <;> (rw [xRows_6 i m a j h n]; exact e0)
          · exact e0
theorem xL_tryA {g : kG} {i : Nat} (h : xL g i) : xL (xTryA g i) i := by
  obtain ⟨h1, h2, h3, h4⟩ := h
  refine ⟨h1, ?_, h3, h4⟩
  have e : (xTryA g i).1 9 i 4 = nI 0 := by
    show kU _ 9 i 4 0 9 i 4 = nI 0
    rw [kU_s]; exact nI_0.symm
  rw [e]
  exact kN_of (by omega) (by omega)
/-- what always holds of the class's memory, as far as its own walks ask it -/
def xI (g : kG) : Prop := kN (g.1 0 0 4) 24 ∧ kN (g.1 0 0 5) 12 ∧ kN (g.1 0 0 6) 6 ∧ (∀ a, a < 12 → xL g a ∧ ∀ k, k < tn (g.1 9 a 4) → vp_in (g.1 10 a k) 24) ∧ (∀ m, m < 6 → kN (g.1 14 m 3) 4 ∧ vp_in (g.1 14 m 0) 24) ∧ ∃ rs rl : Nat, g.1 0 0 8 = nI rs ∧ g.1 0 0 9 = nI rl ∧ rs + rl ≤ 13
def xFile (g : kG) (d : Int64) : Int32 × kG := if g.1 0 0 4 < 24 then (g.1 0 0 4 + 1 - 1, (kU (xPut g (tn (g.1 0 0 4)) d).1 0 0 4 (g.1 0 0 4 + 1), (xPut g (tn (g.1 0 0 4)) d).2)) else (-1, g)
def xChange (g : kG) (n t : Int32) (d : Int64) : Int32 × kG := if xIn n (g.1 0 0 4) = 0 then (0, g) else if xMade g (tn n) = 0 then (if t = 0 then (1, xRem g (tn n)) else (1, xPut g (tn n) d)) else (0, g)
def xAction (g : kG) (al : Int32) : Int32 × kG := if g.1 0 0 5 < 12 then (g.1 0 0 5 + 1 - 1, (kU (kU g.1 6 (tn (g.1 0 0 5)) 3 al) 0 0 5 (g.1 0 0 5 + 1), g.2)) else (-1, g)
def xMakes (g : kG) (n f : Int32) : Int32 × kG := if xIn n (g.1 0 0 5) = 0 then (0, g) else if xIn f (g.1 0 0 4) = 0 then (0, g) else if g.1 6 (tn n) 4 = -1 then (if xMade g (tn f) = 0 then (1, xRem (kU (xFgt (kU g.1 6 (tn n) 4 f, g.2) (tn n)).1 5 (tn f) 2 n, g.2) (tn f)) else (0, g)) else (0, g)
def xIsRow (g : kG) (k w : Int32) : Int32 := if k = 2 then (if w < 1 then 0 else if 8 < w then 0 else 1) else if k = 0 then (if xIn w (g.1 0 0 4) = 0 then 0 else 1) else if k = 1 then (if xIn w (g.1 0 0 4) = 0 then 0 else 1) else 0
def xRow (g : kG) (n k w : Int32) : Int32 × kG := if xIn n (g.1 0 0 5) = 0 then (0, g) else if xIsRow g k w = 0 then (0, g) else ((xAddRow g (tn n) k w).1, (xAddRow g (tn n) k w).2)
def xRunP (g : kG) (n : Int32) : Int32 × kG := if xIn n (g.1 0 0 5) = 0 then (-9, g) else ((xRun g n).1, (xRun g n).2)
def xRing (g : kG) (i : Int32) : Int32 := if i < 0 then -1 else if g.1 0 0 9 ≤ i then -1 else g.1 4 0 (tn (g.1 0 0 8 + i))
def xWaits (g : kG) (n : Int32) : Int32 := if xIn n (g.1 0 0 5) = 0 then -1 else g.1 6 (tn n) 9
def xFreshP (g : kG) (n : Int32) : Int32 := if xIn n (g.1 0 0 5) = 0 then 0 else if xBit (xFresh g) n = 0 then 0 else 1
def xKept (g : kG) (n i w : Int32) : Int32 := if xIn n (g.1 0 0 5) = 0 then -1 else if g.1 6 (tn n) 6 = 0 then -1 else xTell g (tn n) i w
def xUnused (g : kG) (n : Int32) : Int32 := if xIn n (g.1 0 0 5) = 0 then 0 else (g.1 6 (tn n) 3 &&& ((1 <<< (g.1 0 0 4 &&& 31)) - 1)) &&& (xFb g (tn n) (tn (g.1 9 (tn n) 4)) 0 0 ^^^ (-1))
def xDigest (g : kG) (n : Int32) : Int64 := if xIn n (g.1 0 0 4) = 0 then 0 else g.2 5 (tn n) 1
def xCounted (g : kG) (n w : Int32) : Int32 := if xIn n (g.1 0 0 5) = 0 then -1 else if w.toInt < 0 ∨ 2 < w.toInt then -1 else if w = 0 then g.1 6 (tn n) 10 else if w = 1 then g.1 6 (tn n) 11 else g.1 6 (tn n) 12
def xMembers (g : kG) (n : Int32) : Int32 := if xIn n (g.1 0 0 4) = 0 then 0 else xTree g (tn n)
def xMapping (g : kG) (n : Int32) (s : Int64) : Int32 × kG := if xIn n (g.1 0 0 4) = 0 then (-1, g) else if g.1 0 0 6 < 6 then (g.1 0 0 6 + 1 - 1, (kU (kU g.1 14 (tn (g.1 0 0 6)) 0 n) 0 0 6 (g.1 0 0 6 + 1), kUJ g.2 14 (tn (g.1 0 0 6)) 1 s)) else (-1, g)
def xTake (g : kG) (i f : Nat) : Int32 × kG := (xTk g i (g.2 5 f 1) (tn (xTree g f)) 0 0, (kU g.1 14 i 3 (xTree g f), kUJ g.2 14 i 2 (g.2 5 f 1)))
def xMap (g : kG) (n : Int32) : Int32 × kG := if xIn n (g.1 0 0 6) = 0 then (-1, g) else if xMade g (tn (g.1 14 (tn n) 0)) = 0 then (-1, g) else if g.1 5 (tn (g.1 14 (tn n) 0)) 0 = 0 then (-1, g) else if xFr g (tn (g.1 14 (tn n) 0)) (xFresh g) = 0 then (-1, g) else xTake g (tn n) (tn (g.1 14 (tn n) 0))
def xResult (g : kG) (n i : Int32) : Int64 := if xIn n (g.1 0 0 6) = 0 then 0 else xRes g (tn n) i
theorem xFresh_Z (m n : Int32) : kZ (xBit m n) := by
  unfold xBit
  split
  · exact Or.inl rfl
  · exact Or.inr rfl
theorem xAddRow_Z (g : kG) (i : Nat) (k t : Int32) : kZ (xAddRow g i k t).1 := by
  unfold xAddRow
  split
  · exact Or.inr rfl
  · exact Or.inl rfl
set_option maxHeartbeats 4000000 in
set_option maxRecDepth 100000 in
theorem c_X_keep (l : Launch) (b : Nat → Nat → Nat) (dA : Nat → ClassId) (D : va_G) (g : kG) (i : Nat) (hi : i < 12) (r : Int32) (hF : kN (g.1 0 0 4) 24) : kMd (sysX b dA D) l y_X_keep b_X_keep 3 none 1 22 [.inr (.inr (0, 0)), .inr (.inr (6, i)), .inl r] g none (xKeep g i r) := by
  refine k_enter (by decide) [some (.inr (.inr (0, 0))), some (.inr (.inr (6, i))), some (.inl r)] rfl rfl (Nat.le_of_ble_eq_true rfl) (fun x X => ?_)
  have C := X.1
  have O := X.2.1
  refine k_aload_n C d_X_keep_0 rfl rfl ?_
  refine k_iconst C (v := 1) d_X_keep_1 (by decide) ?_
  refine k_putZ C O d_X_keep_2 fp_X_120 (Or.inr rfl) (xr_6 hi) rfl rfl rfl ?_
  refine k_aload_n C d_X_keep_5 rfl rfl ?_
  refine k_iload_n C d_X_keep_6 rfl rfl ?_
  refine k_putI C O d_X_keep_7 fp_X_177 (xr_6 hi) rfl rfl rfl ?_
  refine k_aload_n C d_X_keep_10 rfl rfl ?_
  refine k_aload_n C d_X_keep_11 rfl rfl ?_
  refine k_getI C O d_X_keep_12 fl_X_83 (xr_6 hi) rfl rfl rfl ?_
  refine k_cvI X d_X_keep_15 (c_X_isFile l b dA D _ _) cv_X_66 xr_0 rfl rfl ⟨by decide, by decide⟩ rfl rfl (Nat.le_of_ble_eq_true rfl) ?_
  refine k_if_ne C (tgt := 22) d_X_keep_18 (by decide) (fun c18 => ?_) (fun c18 => ?_)
  · refine k_iload_n C d_X_keep_22 rfl rfl ?_
    refine k_iconst C (v := 1) d_X_keep_23 (by decide) ?_
    refine k_icmp_ne C (tgt := 46) d_X_keep_24 (by decide) (fun c24 => ?_) (fun c24 => ?_)
    · refine k_aload_n C d_X_keep_46 rfl rfl ?_
      refine k_getR C O (r := (1, _)) d_X_keep_47 fl_X_11 xr_0 rfl rfl rfl rfl ?_
      refine k_aload_n C d_X_keep_50 rfl rfl ?_
      refine k_getI C O d_X_keep_51 fl_X_83 (xr_6 hi) rfl rfl rfl ?_
      refine k_aald2 C O (r := (5, _)) d_X_keep_54 xr_1 rfl 3 rfl (in_x (n := 24) hF (by decide) c18) rfl rfl ?_
      refine k_cvV X d_X_keep_55 (c_F_remove l b dA D _ _ (vi_lt (in_x (n := 24) hF (by decide) c18))) cv_X_74 (xr_5 (vi_lt (in_x (n := 24) hF (by decide) c18))) rfl rfl ⟨by decide, by decide⟩ rfl rfl (Nat.le_of_ble_eq_true rfl) ?_
      exact k_vret X d_X_keep_58 (k_pv ((if_neg c18).trans ((if_neg c24).trans (rfl))))
    · refine k_aload_n C d_X_keep_27 rfl rfl ?_
      refine k_getR C O (r := (1, _)) d_X_keep_28 fl_X_11 xr_0 rfl rfl rfl rfl ?_
      refine k_aload_n C d_X_keep_31 rfl rfl ?_
      refine k_getI C O d_X_keep_32 fl_X_83 (xr_6 hi) rfl rfl rfl ?_
      refine k_aald2 C O (r := (5, _)) d_X_keep_35 xr_1 rfl 3 rfl (in_x (n := 24) hF (by decide) c18) rfl rfl ?_
      refine k_aload_n C d_X_keep_36 rfl rfl ?_
      refine k_getJ C O d_X_keep_37 fl_X_191 (xr_6 hi) rfl rfl rfl ?_
      refine k_cvV X d_X_keep_40 (c_F_put l b dA D _ _ (vi_lt (in_x (n := 24) hF (by decide) c18)) _) cv_X_62 (xr_5 (vi_lt (in_x (n := 24) hF (by decide) c18))) rfl rfl ⟨by decide, by decide⟩ rfl rfl (Nat.le_of_ble_eq_true rfl) ?_
      refine k_goto C (tgt := 58) d_X_keep_43 (by decide) ?_
      exact k_vret X d_X_keep_58 (k_pv ((if_neg c18).trans ((if_pos c24).trans (rfl))))
  · exact k_vret X d_X_keep_21 (k_pv ((if_pos c18).trans (rfl)))

set_option maxHeartbeats 4000000 in
set_option maxRecDepth 100000 in
theorem c_X_tryOnce (l : Launch) (b : Nat → Nat → Nat) (dA : Nat → ClassId) (D : va_G) (g : kG) (i : Nat) (hi : i < 12) (m : Int32) (hL : xL g i) (hF : kN (g.1 0 0 4) 24) : kMd (sysX b dA D) l y_X_tryOnce b_X_tryOnce 4 (some .int) 4 99 [.inr (.inr (0, 0)), .inr (.inr (6, i)), .inl m] g (some (.inl (xTry g i m).1)) (xTry g i m).2 := by
  have hF2 : kN ((xGo (xTryA g i) i m).2.1 0 0 4) 24 := by
    have e := xRows_fr i m 0 0 4 (by decide) 13 0 0 ((xTryA g i).1, kUJ (xTryA g i).2 6 i 8 7)
    unfold xGo
    rw [e]
    exact hF
  refine k_enter (by decide) [some (.inr (.inr (0, 0))), some (.inr (.inr (6, i))), some (.inl m), none] rfl rfl (Nat.le_of_ble_eq_true rfl) (fun x X => ?_)
  have C := X.1
  have O := X.2.1
  refine k_aload_n C d_X_tryOnce_0 rfl rfl ?_
  refine k_dup C d_X_tryOnce_1 rfl ?_
  refine k_getI C O d_X_tryOnce_2 fl_X_143 (xr_6 hi) rfl rfl rfl ?_
  refine k_iconst C (v := 1) d_X_tryOnce_5 (by decide) ?_
  refine k_iadd C d_X_tryOnce_6 ?_
  refine k_putI C O d_X_tryOnce_7 fp_X_143 (xr_6 hi) rfl rfl rfl ?_
  refine k_aload_n C d_X_tryOnce_10 rfl rfl ?_
  refine k_dup C d_X_tryOnce_11 rfl ?_
  refine k_getI C O d_X_tryOnce_12 fl_X_146 (xr_6 hi) rfl rfl rfl ?_
  refine k_iconst C (v := 1) d_X_tryOnce_15 (by decide) ?_
  refine k_iadd C d_X_tryOnce_16 ?_
  refine k_putI C O d_X_tryOnce_17 fp_X_146 (xr_6 hi) rfl rfl rfl ?_
  refine k_aload_n C d_X_tryOnce_20 rfl rfl ?_
  refine k_cvV X d_X_tryOnce_21 (c_A_forget l b dA D _ i hi) cv_X_86 (xr_6 hi) rfl rfl ⟨by decide, by decide⟩ rfl rfl (Nat.le_of_ble_eq_true rfl) ?_
  refine k_aload_n C d_X_tryOnce_24 rfl rfl ?_
  refine k_aload_n C d_X_tryOnce_25 rfl rfl ?_
  refine k_iload_n C d_X_tryOnce_26 rfl rfl ?_
  refine k_cvI X d_X_tryOnce_27 (c_X_goThroughRows l b dA D (xTryA g i) i hi m (xL_tryA hL)) cv_X_184 xr_0 rfl rfl ⟨by decide, by decide⟩ rfl rfl (Nat.le_of_ble_eq_true rfl) ?_
  refine k_istore_n C d_X_tryOnce_30 rfl (Nat.le_of_ble_eq_true rfl) rfl ?_
  refine k_iload_n C d_X_tryOnce_31 rfl rfl ?_
  refine k_if_eq C (tgt := 40) d_X_tryOnce_32 (by decide) (fun c32 => ?_) (fun c32 => ?_)
  · refine k_iload_n C d_X_tryOnce_40 rfl rfl ?_
    refine k_iconst C (v := 1) d_X_tryOnce_41 (by decide) ?_
    refine k_icmp_eq C (tgt := 51) d_X_tryOnce_42 (by decide) (fun c42 => ?_) (fun c42 => ?_)
    · refine k_aload_n C d_X_tryOnce_51 rfl rfl ?_
      refine k_aload_n C d_X_tryOnce_52 rfl rfl ?_
      refine k_iload_n C d_X_tryOnce_53 rfl rfl ?_
      refine k_cvV X d_X_tryOnce_54 (c_X_keep l b dA D _ i hi _ hF2) cv_X_187 xr_0 rfl rfl ⟨by decide, by decide⟩ rfl rfl (Nat.le_of_ble_eq_true rfl) ?_
      refine k_goto C (tgt := 64) d_X_tryOnce_57 (by decide) ?_
      refine k_iload_n C d_X_tryOnce_64 rfl rfl ?_
      exact k_iret X d_X_tryOnce_65 (k_pr ((if_pos c32).trans ((if_pos c42).trans (rfl))))
    · refine k_iload_n C d_X_tryOnce_45 rfl rfl ?_
      refine k_bipush C (v := (-3)) d_X_tryOnce_46 (by decide) ?_
      refine k_icmp_ne C (tgt := 60) d_X_tryOnce_48 (by decide) (fun c48 => ?_) (fun c48 => ?_)
      · refine k_aload_n C d_X_tryOnce_60 rfl rfl ?_
        refine k_cvV X d_X_tryOnce_61 (c_A_forget l b dA D _ i hi) cv_X_86 (xr_6 hi) rfl rfl ⟨by decide, by decide⟩ rfl rfl (Nat.le_of_ble_eq_true rfl) ?_
        refine k_iload_n C d_X_tryOnce_64 rfl rfl ?_
        exact k_iret X d_X_tryOnce_65 (k_pr ((if_pos c32).trans ((if_neg c42).trans ((if_neg c48).trans (rfl)))))
      · refine k_aload_n C d_X_tryOnce_51 rfl rfl ?_
        refine k_aload_n C d_X_tryOnce_52 rfl rfl ?_
        refine k_iload_n C d_X_tryOnce_53 rfl rfl ?_
        refine k_cvV X d_X_tryOnce_54 (c_X_keep l b dA D _ i hi _ hF2) cv_X_187 xr_0 rfl rfl ⟨by decide, by decide⟩ rfl rfl (Nat.le_of_ble_eq_true rfl) ?_
        refine k_goto C (tgt := 64) d_X_tryOnce_57 (by decide) ?_
        refine k_iload_n C d_X_tryOnce_64 rfl rfl ?_
        exact k_iret X d_X_tryOnce_65 (k_pr ((if_pos c32).trans ((if_neg c42).trans ((if_pos c48).trans (rfl)))))
  · refine k_aload_n C d_X_tryOnce_35 rfl rfl ?_
    refine k_iconst C (v := 0) d_X_tryOnce_36 (by decide) ?_
    refine k_putI C O d_X_tryOnce_37 fp_X_146 (xr_6 hi) rfl rfl rfl ?_
    refine k_iload_n C d_X_tryOnce_40 rfl rfl ?_
    refine k_iconst C (v := 1) d_X_tryOnce_41 (by decide) ?_
    refine k_icmp_eq C (tgt := 51) d_X_tryOnce_42 (by decide) (fun c42 => ?_) (fun c42 => ?_)
    · refine k_aload_n C d_X_tryOnce_51 rfl rfl ?_
      refine k_aload_n C d_X_tryOnce_52 rfl rfl ?_
      refine k_iload_n C d_X_tryOnce_53 rfl rfl ?_
      refine k_cvV X d_X_tryOnce_54 (c_X_keep l b dA D _ i hi _ hF2) cv_X_187 xr_0 rfl rfl ⟨by decide, by decide⟩ rfl rfl (Nat.le_of_ble_eq_true rfl) ?_
      refine k_goto C (tgt := 64) d_X_tryOnce_57 (by decide) ?_
      refine k_iload_n C d_X_tryOnce_64 rfl rfl ?_
      exact k_iret X d_X_tryOnce_65 (k_pr ((if_neg c32).trans ((if_pos c42).trans (rfl))))
    · refine k_iload_n C d_X_tryOnce_45 rfl rfl ?_
      refine k_bipush C (v := (-3)) d_X_tryOnce_46 (by decide) ?_
      refine k_icmp_ne C (tgt := 60) d_X_tryOnce_48 (by decide) (fun c48 => ?_) (fun c48 => ?_)
      · refine k_aload_n C d_X_tryOnce_60 rfl rfl ?_
        refine k_cvV X d_X_tryOnce_61 (c_A_forget l b dA D _ i hi) cv_X_86 (xr_6 hi) rfl rfl ⟨by decide, by decide⟩ rfl rfl (Nat.le_of_ble_eq_true rfl) ?_
        refine k_iload_n C d_X_tryOnce_64 rfl rfl ?_
        exact k_iret X d_X_tryOnce_65 (k_pr ((if_neg c32).trans ((if_neg c42).trans ((if_neg c48).trans (rfl)))))
      · refine k_aload_n C d_X_tryOnce_51 rfl rfl ?_
        refine k_aload_n C d_X_tryOnce_52 rfl rfl ?_
        refine k_iload_n C d_X_tryOnce_53 rfl rfl ?_
        refine k_cvV X d_X_tryOnce_54 (c_X_keep l b dA D _ i hi _ hF2) cv_X_187 xr_0 rfl rfl ⟨by decide, by decide⟩ rfl rfl (Nat.le_of_ble_eq_true rfl) ?_
        refine k_goto C (tgt := 64) d_X_tryOnce_57 (by decide) ?_
        refine k_iload_n C d_X_tryOnce_64 rfl rfl ?_
        exact k_iret X d_X_tryOnce_65 (k_pr ((if_neg c32).trans ((if_neg c42).trans ((if_pos c48).trans (rfl)))))

set_option maxHeartbeats 4000000 in
set_option maxRecDepth 100000 in
theorem c_X_runOnce (l : Launch) (b : Nat → Nat → Nat) (dA : Nat → ClassId) (D : va_G) (g : kG) (n : Int32) (hn : vp_in n 12) (hI : xI g) : kMd (sysX b dA D) l y_X_runOnce b_X_runOnce 4 (some .int) 5 122 [.inr (.inr (0, 0)), .inl n] g (some (.inl (xRun g n).1)) (xRun g n).2 := by
  refine k_enter (by decide) [some (.inr (.inr (0, 0))), some (.inl n), none, none] rfl rfl (Nat.le_of_ble_eq_true rfl) (fun x X => ?_)
  have C := X.1
  have O := X.2.1
  refine k_aload_n C d_X_runOnce_0 rfl rfl ?_
  refine k_getR C O (r := (2, _)) d_X_runOnce_1 fl_X_17 xr_0 rfl rfl rfl rfl ?_
  refine k_iload_n C d_X_runOnce_4 rfl rfl ?_
  refine k_aald2 C O (r := (6, _)) d_X_runOnce_5 xr_2 rfl 4 rfl hn rfl rfl ?_
  refine k_astore_n C d_X_runOnce_6 rfl (Nat.le_of_ble_eq_true rfl) rfl ?_
  refine k_aload_n C d_X_runOnce_7 rfl rfl ?_
  refine k_cvI X d_X_runOnce_8 (c_X_freshActions l b dA D g (tn (g.1 0 0 5)) hI.2.1.1 hI.2.1.2 (fun i hi => ⟨(hI.2.2.2.1 i (Nat.lt_of_lt_of_le hi hI.2.1.2)).1.2.1, (hI.2.2.2.1 i (Nat.lt_of_lt_of_le hi hI.2.1.2)).2⟩)) cv_X_113 xr_0 rfl rfl ⟨by decide, by decide⟩ rfl rfl (Nat.le_of_ble_eq_true rfl) ?_
  refine k_istore_n C d_X_runOnce_11 rfl (Nat.le_of_ble_eq_true rfl) rfl ?_
  refine k_aload_n C d_X_runOnce_12 rfl rfl ?_
  refine k_iconst C (v := (-1)) d_X_runOnce_13 (by decide) ?_
  refine k_putI C O d_X_runOnce_14 fp_X_110 (xr_6 (vi_lt hn)) rfl rfl rfl ?_
  refine k_iload_n C d_X_runOnce_17 rfl rfl ?_
  refine k_iload_n C d_X_runOnce_18 rfl rfl ?_
  refine k_csI X d_X_runOnce_19 (c_X_hasBit l b dA D _ (xFresh g) n) cs_X_117 ⟨by decide, by decide⟩ rfl rfl (Nat.le_of_ble_eq_true rfl) ?_
  refine k_if_eq C (tgt := 40) d_X_runOnce_22 (by decide) (fun c22 => ?_) (fun c22 => ?_)
  · refine k_aload_n C d_X_runOnce_40 rfl rfl ?_
    refine k_getI C O d_X_runOnce_41 fl_X_146 (xr_6 (vi_lt hn)) rfl rfl rfl ?_
    refine k_aload_n C d_X_runOnce_44 rfl rfl ?_
    refine k_getI C O d_X_runOnce_45 fl_X_56 xr_0 rfl rfl rfl ?_
    refine k_icmp_lt C (tgt := 63) d_X_runOnce_48 (by decide) (fun c48 => ?_) (fun c48 => ?_)
    · refine k_aload_n C d_X_runOnce_63 rfl rfl ?_
      refine k_aload_n C d_X_runOnce_64 rfl rfl ?_
      refine k_iload_n C d_X_runOnce_65 rfl rfl ?_
      refine k_cvI X d_X_runOnce_66 (c_X_tryOnce l b dA D (xW g (tn n)) (tn n) (vi_lt hn) (xFresh g) (hI.2.2.2.1 _ (vi_lt hn)).1 hI.1) cv_X_180 xr_0 rfl rfl ⟨by decide, by decide⟩ rfl rfl (Nat.le_of_ble_eq_true rfl) ?_
      exact k_iret X d_X_runOnce_69 (k_pr ((if_pos c22).trans ((if_pos c48).trans (rfl))))
    · refine k_aload_n C d_X_runOnce_51 rfl rfl ?_
      refine k_cvV X d_X_runOnce_52 (c_A_forget l b dA D _ (tn n) (vi_lt hn)) cv_X_86 (xr_6 (vi_lt hn)) rfl rfl ⟨by decide, by decide⟩ rfl rfl (Nat.le_of_ble_eq_true rfl) ?_
      refine k_aload_n C d_X_runOnce_55 rfl rfl ?_
      refine k_iconst C (v := 0) d_X_runOnce_56 (by decide) ?_
      refine k_putI C O d_X_runOnce_57 fp_X_146 (xr_6 (vi_lt hn)) rfl rfl rfl ?_
      refine k_bipush C (v := (-2)) d_X_runOnce_60 (by decide) ?_
      exact k_iret X d_X_runOnce_62 (k_pr ((if_pos c22).trans ((if_neg c48).trans (rfl))))
  · refine k_aload_n C d_X_runOnce_25 rfl rfl ?_
    refine k_dup C d_X_runOnce_26 rfl ?_
    refine k_getI C O d_X_runOnce_27 fl_X_140 (xr_6 (vi_lt hn)) rfl rfl rfl ?_
    refine k_iconst C (v := 1) d_X_runOnce_30 (by decide) ?_
    refine k_iadd C d_X_runOnce_31 ?_
    refine k_putI C O d_X_runOnce_32 fp_X_140 (xr_6 (vi_lt hn)) rfl rfl rfl ?_
    refine k_aload_n C d_X_runOnce_35 rfl rfl ?_
    refine k_getI C O d_X_runOnce_36 fl_X_177 (xr_6 (vi_lt hn)) rfl rfl rfl ?_
    exact k_iret X d_X_runOnce_39 (k_pr ((if_neg c22).trans (rfl)))

set_option maxHeartbeats 4000000 in
set_option maxRecDepth 100000 in
theorem c_X_file (l : Launch) (b : Nat → Nat → Nat) (dA : Nat → ClassId) (D : va_G) (g : kG) (d : Int64) (hI : xI g) : kMd (sysX b dA D) l y_X_file b_X_file 3 (some .int) 1 22 [.inr (.inr (0, 0)), .inr (.inl d)] g (some (.inl (xFile g d).1)) (xFile g d).2 := by
  refine k_enter (by decide) [some (.inr (.inr (0, 0))), some (.inr (.inl d)), none] rfl rfl (Nat.le_of_ble_eq_true rfl) (fun x X => ?_)
  have C := X.1
  have O := X.2.1
  refine k_aload_n C d_X_file_0 rfl rfl ?_
  refine k_getI C O d_X_file_1 fl_X_27 xr_0 rfl rfl rfl ?_
  refine k_bipush C (v := 24) d_X_file_4 (by decide) ?_
  refine k_icmp_lt C (tgt := 11) d_X_file_6 (by decide) (fun c6 => ?_) (fun c6 => ?_)
  · refine k_aload_n C d_X_file_11 rfl rfl ?_
    refine k_getR C O (r := (1, _)) d_X_file_12 fl_X_11 xr_0 rfl rfl rfl rfl ?_
    refine k_aload_n C d_X_file_15 rfl rfl ?_
    refine k_getI C O d_X_file_16 fl_X_27 xr_0 rfl rfl rfl ?_
    refine k_aald2 C O (r := (5, _)) d_X_file_19 xr_1 rfl 3 rfl (in_lt hI.1 (by decide) (n := 24) rfl (by decide) c6) rfl rfl ?_
    refine k_lload_n C d_X_file_20 rfl rfl ?_
    refine k_cvV X d_X_file_21 (c_F_put l b dA D g (tn (g.1 0 0 4)) (vi_lt (in_lt hI.1 (by decide) (n := 24) rfl (by decide) c6)) d) cv_X_62 (xr_5 (vi_lt (in_lt hI.1 (by decide) (n := 24) rfl (by decide) c6))) rfl rfl ⟨by decide, by decide⟩ rfl rfl (Nat.le_of_ble_eq_true rfl) ?_
    refine k_aload_n C d_X_file_24 rfl rfl ?_
    refine k_dup C d_X_file_25 rfl ?_
    refine k_getI C O d_X_file_26 fl_X_27 xr_0 rfl rfl rfl ?_
    refine k_iconst C (v := 1) d_X_file_29 (by decide) ?_
    refine k_iadd C d_X_file_30 ?_
    refine k_putI C O d_X_file_31 fp_X_27 xr_0 rfl rfl rfl ?_
    refine k_aload_n C d_X_file_34 rfl rfl ?_
    refine k_getI C O d_X_file_35 fl_X_27 xr_0 rfl rfl rfl ?_
    refine k_iconst C (v := 1) d_X_file_38 (by decide) ?_
    refine k_isub C d_X_file_39 ?_
    exact k_iret X d_X_file_40 (k_pr ((if_pos c6).trans (rfl)))
  · refine k_iconst C (v := (-1)) d_X_file_9 (by decide) ?_
    exact k_iret X d_X_file_10 (k_pr ((if_neg c6).trans (rfl)))

set_option maxHeartbeats 4000000 in
set_option maxRecDepth 100000 in
theorem c_X_change (l : Launch) (b : Nat → Nat → Nat) (dA : Nat → ClassId) (D : va_G) (g : kG) (n t : Int32) (d : Int64) (hI : xI g) : kMd (sysX b dA D) l y_X_change b_X_change 5 (some .boolean) 1 22 [.inr (.inr (0, 0)), .inl n, .inl t, .inr (.inl d)] g (some (.inl (xChange g n t d).1)) (xChange g n t d).2 := by
  refine k_enter (by decide) [some (.inr (.inr (0, 0))), some (.inl n), some (.inl t), some (.inr (.inl d)), none] rfl rfl (Nat.le_of_ble_eq_true rfl) (fun x X => ?_)
  have C := X.1
  have O := X.2.1
  refine k_aload_n C d_X_change_0 rfl rfl ?_
  refine k_iload_n C d_X_change_1 rfl rfl ?_
  refine k_cvI X d_X_change_2 (c_X_isFile l b dA D g n) cv_X_66 xr_0 rfl rfl ⟨by decide, by decide⟩ rfl rfl (Nat.le_of_ble_eq_true rfl) ?_
  refine k_if_eq C (tgt := 20) d_X_change_5 (by decide) (fun c5 => ?_) (fun c5 => ?_)
  · refine k_iconst C (v := 0) d_X_change_20 (by decide) ?_
    exact k_zret X d_X_change_21 (Or.inl rfl) (k_pr ((if_pos c5).trans (rfl)))
  · refine k_aload_n C d_X_change_8 rfl rfl ?_
    refine k_getR C O (r := (1, _)) d_X_change_9 fl_X_11 xr_0 rfl rfl rfl rfl ?_
    refine k_iload_n C d_X_change_12 rfl rfl ?_
    refine k_aald2 C O (r := (5, _)) d_X_change_13 xr_1 rfl 3 rfl (in_x (n := 24) hI.1 (by decide) c5) rfl rfl ?_
    refine k_cvI X d_X_change_14 (c_F_isMade l b dA D g (tn n) (vi_lt (in_x (n := 24) hI.1 (by decide) c5))) cv_X_70 (xr_5 (vi_lt (in_x (n := 24) hI.1 (by decide) c5))) rfl rfl ⟨by decide, by decide⟩ rfl rfl (Nat.le_of_ble_eq_true rfl) ?_
    refine k_if_eq C (tgt := 22) d_X_change_17 (by decide) (fun c17 => ?_) (fun c17 => ?_)
    · refine k_iload_n C d_X_change_22 rfl rfl ?_
      refine k_if_eq C (tgt := 39) d_X_change_23 (by decide) (fun c23 => ?_) (fun c23 => ?_)
      · refine k_aload_n C d_X_change_39 rfl rfl ?_
        refine k_getR C O (r := (1, _)) d_X_change_40 fl_X_11 xr_0 rfl rfl rfl rfl ?_
        refine k_iload_n C d_X_change_43 rfl rfl ?_
        refine k_aald2 C O (r := (5, _)) d_X_change_44 xr_1 rfl 3 rfl (in_x (n := 24) hI.1 (by decide) c5) rfl rfl ?_
        refine k_cvV X d_X_change_45 (c_F_remove l b dA D g (tn n) (vi_lt (in_x (n := 24) hI.1 (by decide) c5))) cv_X_74 (xr_5 (vi_lt (in_x (n := 24) hI.1 (by decide) c5))) rfl rfl ⟨by decide, by decide⟩ rfl rfl (Nat.le_of_ble_eq_true rfl) ?_
        refine k_iconst C (v := 1) d_X_change_48 (by decide) ?_
        exact k_zret X d_X_change_49 (Or.inr rfl) (k_pr ((if_neg c5).trans ((if_pos c17).trans ((if_pos c23).trans (rfl)))))
      · refine k_aload_n C d_X_change_26 rfl rfl ?_
        refine k_getR C O (r := (1, _)) d_X_change_27 fl_X_11 xr_0 rfl rfl rfl rfl ?_
        refine k_iload_n C d_X_change_30 rfl rfl ?_
        refine k_aald2 C O (r := (5, _)) d_X_change_31 xr_1 rfl 3 rfl (in_x (n := 24) hI.1 (by decide) c5) rfl rfl ?_
        refine k_lload_n C d_X_change_32 rfl rfl ?_
        refine k_cvV X d_X_change_33 (c_F_put l b dA D g (tn n) (vi_lt (in_x (n := 24) hI.1 (by decide) c5)) d) cv_X_62 (xr_5 (vi_lt (in_x (n := 24) hI.1 (by decide) c5))) rfl rfl ⟨by decide, by decide⟩ rfl rfl (Nat.le_of_ble_eq_true rfl) ?_
        refine k_goto C (tgt := 48) d_X_change_36 (by decide) ?_
        refine k_iconst C (v := 1) d_X_change_48 (by decide) ?_
        exact k_zret X d_X_change_49 (Or.inr rfl) (k_pr ((if_neg c5).trans ((if_pos c17).trans ((if_neg c23).trans (rfl)))))
    · refine k_iconst C (v := 0) d_X_change_20 (by decide) ?_
      exact k_zret X d_X_change_21 (Or.inl rfl) (k_pr ((if_neg c5).trans ((if_neg c17).trans (rfl))))

set_option maxHeartbeats 4000000 in
set_option maxRecDepth 100000 in
theorem c_X_action (l : Launch) (b : Nat → Nat → Nat) (dA : Nat → ClassId) (D : va_G) (g : kG) (al : Int32) (hI : xI g) : kMd (sysX b dA D) l y_X_action b_X_action 2 (some .int) 0 0 [.inr (.inr (0, 0)), .inl al] g (some (.inl (xAction g al).1)) (xAction g al).2 := by
  refine k_enter (by decide) [some (.inr (.inr (0, 0))), some (.inl al)] rfl rfl (Nat.le_of_ble_eq_true rfl) (fun x X => ?_)
  have C := X.1
  have O := X.2.1
  refine k_aload_n C d_X_action_0 rfl rfl ?_
  refine k_getI C O d_X_action_1 fl_X_31 xr_0 rfl rfl rfl ?_
  refine k_bipush C (v := 12) d_X_action_4 (by decide) ?_
  refine k_icmp_lt C (tgt := 11) d_X_action_6 (by decide) (fun c6 => ?_) (fun c6 => ?_)
  · refine k_aload_n C d_X_action_11 rfl rfl ?_
    refine k_getR C O (r := (2, _)) d_X_action_12 fl_X_17 xr_0 rfl rfl rfl rfl ?_
    refine k_aload_n C d_X_action_15 rfl rfl ?_
    refine k_getI C O d_X_action_16 fl_X_31 xr_0 rfl rfl rfl ?_
    refine k_aald2 C O (r := (6, _)) d_X_action_19 xr_2 rfl 4 rfl (in_lt hI.2.1 (by decide) (n := 12) rfl (by decide) c6) rfl rfl ?_
    refine k_iload_n C d_X_action_20 rfl rfl ?_
    refine k_putI C O d_X_action_21 fp_X_77 (xr_6 (vi_lt (in_lt hI.2.1 (by decide) (n := 12) rfl (by decide) c6))) rfl rfl rfl ?_
    refine k_aload_n C d_X_action_24 rfl rfl ?_
    refine k_dup C d_X_action_25 rfl ?_
    refine k_getI C O d_X_action_26 fl_X_31 xr_0 rfl rfl rfl ?_
    refine k_iconst C (v := 1) d_X_action_29 (by decide) ?_
    refine k_iadd C d_X_action_30 ?_
    refine k_putI C O d_X_action_31 fp_X_31 xr_0 rfl rfl rfl ?_
    refine k_aload_n C d_X_action_34 rfl rfl ?_
    refine k_getI C O d_X_action_35 fl_X_31 xr_0 rfl rfl rfl ?_
    refine k_iconst C (v := 1) d_X_action_38 (by decide) ?_
    refine k_isub C d_X_action_39 ?_
    exact k_iret X d_X_action_40 (k_pr ((if_pos c6).trans (rfl)))
  · refine k_iconst C (v := (-1)) d_X_action_9 (by decide) ?_
    exact k_iret X d_X_action_10 (k_pr ((if_neg c6).trans (rfl)))

set_option maxHeartbeats 4000000 in
set_option maxRecDepth 100000 in
theorem c_X_makes (l : Launch) (b : Nat → Nat → Nat) (dA : Nat → ClassId) (D : va_G) (g : kG) (n f : Int32) (hI : xI g) : kMd (sysX b dA D) l y_X_makes b_X_makes 3 (some .boolean) 1 21 [.inr (.inr (0, 0)), .inl n, .inl f] g (some (.inl (xMakes g n f).1)) (xMakes g n f).2 := by
  refine k_enter (by decide) [some (.inr (.inr (0, 0))), some (.inl n), some (.inl f)] rfl rfl (Nat.le_of_ble_eq_true rfl) (fun x X => ?_)
  have C := X.1
  have O := X.2.1
  refine k_aload_n C d_X_makes_0 rfl rfl ?_
  refine k_iload_n C d_X_makes_1 rfl rfl ?_
  refine k_cvI X d_X_makes_2 (c_X_isAction l b dA D g n) cv_X_80 xr_0 rfl rfl ⟨by decide, by decide⟩ rfl rfl (Nat.le_of_ble_eq_true rfl) ?_
  refine k_if_eq C (tgt := 16) d_X_makes_5 (by decide) (fun c5 => ?_) (fun c5 => ?_)
  · refine k_iconst C (v := 0) d_X_makes_16 (by decide) ?_
    exact k_zret X d_X_makes_17 (Or.inl rfl) (k_pr ((if_pos c5).trans (rfl)))
  · refine k_aload_n C d_X_makes_8 rfl rfl ?_
    refine k_iload_n C d_X_makes_9 rfl rfl ?_
    refine k_cvI X d_X_makes_10 (c_X_isFile l b dA D g f) cv_X_66 xr_0 rfl rfl ⟨by decide, by decide⟩ rfl rfl (Nat.le_of_ble_eq_true rfl) ?_
    refine k_if_ne C (tgt := 18) d_X_makes_13 (by decide) (fun c13 => ?_) (fun c13 => ?_)
    · refine k_aload_n C d_X_makes_18 rfl rfl ?_
      refine k_getR C O (r := (2, _)) d_X_makes_19 fl_X_17 xr_0 rfl rfl rfl rfl ?_
      refine k_iload_n C d_X_makes_22 rfl rfl ?_
      refine k_aald2 C O (r := (6, _)) d_X_makes_23 xr_2 rfl 4 rfl (in_x (n := 12) hI.2.1 (by decide) c5) rfl rfl ?_
      refine k_getI C O d_X_makes_24 fl_X_83 (xr_6 (vi_lt (in_x (n := 12) hI.2.1 (by decide) c5))) rfl rfl rfl ?_
      refine k_iconst C (v := (-1)) d_X_makes_27 (by decide) ?_
      refine k_icmp_ne C (tgt := 43) d_X_makes_28 (by decide) (fun c28 => ?_) (fun c28 => ?_)
      · refine k_iconst C (v := 0) d_X_makes_43 (by decide) ?_
        exact k_zret X d_X_makes_44 (Or.inl rfl) (k_pr ((if_neg c5).trans ((if_neg c13).trans ((if_neg c28).trans (rfl)))))
      · refine k_aload_n C d_X_makes_31 rfl rfl ?_
        refine k_getR C O (r := (1, _)) d_X_makes_32 fl_X_11 xr_0 rfl rfl rfl rfl ?_
        refine k_iload_n C d_X_makes_35 rfl rfl ?_
        refine k_aald2 C O (r := (5, _)) d_X_makes_36 xr_1 rfl 3 rfl (in_x (n := 24) hI.1 (by decide) c13) rfl rfl ?_
        refine k_cvI X d_X_makes_37 (c_F_isMade l b dA D g (tn f) (vi_lt (in_x (n := 24) hI.1 (by decide) c13))) cv_X_70 (xr_5 (vi_lt (in_x (n := 24) hI.1 (by decide) c13))) rfl rfl ⟨by decide, by decide⟩ rfl rfl (Nat.le_of_ble_eq_true rfl) ?_
        refine k_if_eq C (tgt := 45) d_X_makes_40 (by decide) (fun c40 => ?_) (fun c40 => ?_)
        · refine k_aload_n C d_X_makes_45 rfl rfl ?_
          refine k_getR C O (r := (2, _)) d_X_makes_46 fl_X_17 xr_0 rfl rfl rfl rfl ?_
          refine k_iload_n C d_X_makes_49 rfl rfl ?_
          refine k_aald2 C O (r := (6, _)) d_X_makes_50 xr_2 rfl 4 rfl (in_x (n := 12) hI.2.1 (by decide) c5) rfl rfl ?_
          refine k_iload_n C d_X_makes_51 rfl rfl ?_
          refine k_putI C O d_X_makes_52 fp_X_83 (xr_6 (vi_lt (in_x (n := 12) hI.2.1 (by decide) c5))) rfl rfl rfl ?_
          refine k_aload_n C d_X_makes_55 rfl rfl ?_
          refine k_getR C O (r := (2, _)) d_X_makes_56 fl_X_17 xr_0 rfl rfl rfl rfl ?_
          refine k_iload_n C d_X_makes_59 rfl rfl ?_
          refine k_aald2 C O (r := (6, _)) d_X_makes_60 xr_2 rfl 4 rfl (in_x (n := 12) hI.2.1 (by decide) c5) rfl rfl ?_
          refine k_cvV X d_X_makes_61 (c_A_forget l b dA D _ (tn n) (vi_lt (in_x (n := 12) hI.2.1 (by decide) c5))) cv_X_86 (xr_6 (vi_lt (in_x (n := 12) hI.2.1 (by decide) c5))) rfl rfl ⟨by decide, by decide⟩ rfl rfl (Nat.le_of_ble_eq_true rfl) ?_
          refine k_aload_n C d_X_makes_64 rfl rfl ?_
          refine k_getR C O (r := (1, _)) d_X_makes_65 fl_X_11 xr_0 rfl rfl rfl rfl ?_
          refine k_iload_n C d_X_makes_68 rfl rfl ?_
          refine k_aald2 C O (r := (5, _)) d_X_makes_69 xr_1 rfl 3 rfl (in_x (n := 24) hI.1 (by decide) c13) rfl rfl ?_
          refine k_iload_n C d_X_makes_70 rfl rfl ?_
          refine k_putI C O d_X_makes_71 fp_X_89 (xr_5 (vi_lt (in_x (n := 24) hI.1 (by decide) c13))) rfl rfl rfl ?_
          refine k_aload_n C d_X_makes_74 rfl rfl ?_
          refine k_getR C O (r := (1, _)) d_X_makes_75 fl_X_11 xr_0 rfl rfl rfl rfl ?_
          refine k_iload_n C d_X_makes_78 rfl rfl ?_
          refine k_aald2 C O (r := (5, _)) d_X_makes_79 xr_1 rfl 3 rfl (in_x (n := 24) hI.1 (by decide) c13) rfl rfl ?_
          refine k_cvV X d_X_makes_80 (c_F_remove l b dA D _ (tn f) (vi_lt (in_x (n := 24) hI.1 (by decide) c13))) cv_X_74 (xr_5 (vi_lt (in_x (n := 24) hI.1 (by decide) c13))) rfl rfl ⟨by decide, by decide⟩ rfl rfl (Nat.le_of_ble_eq_true rfl) ?_
          refine k_iconst C (v := 1) d_X_makes_83 (by decide) ?_
          exact k_zret X d_X_makes_84 (Or.inr rfl) (k_pr ((if_neg c5).trans ((if_neg c13).trans ((if_pos c28).trans ((if_pos c40).trans (rfl))))))
        · refine k_iconst C (v := 0) d_X_makes_43 (by decide) ?_
          exact k_zret X d_X_makes_44 (Or.inl rfl) (k_pr ((if_neg c5).trans ((if_neg c13).trans ((if_pos c28).trans ((if_neg c40).trans (rfl))))))
    · refine k_iconst C (v := 0) d_X_makes_16 (by decide) ?_
      exact k_zret X d_X_makes_17 (Or.inl rfl) (k_pr ((if_neg c5).trans ((if_pos c13).trans (rfl))))

set_option maxHeartbeats 4000000 in
set_option maxRecDepth 100000 in
theorem c_X_isRow (l : Launch) (b : Nat → Nat → Nat) (dA : Nat → ClassId) (D : va_G) (g : kG) (k w : Int32) : kMd (sysX b dA D) l y_X_isRow b_X_isRow 3 (some .boolean) 1 21 [.inr (.inr (0, 0)), .inl k, .inl w] g (some (.inl (xIsRow g k w))) g := by
  refine k_enter (by decide) [some (.inr (.inr (0, 0))), some (.inl k), some (.inl w)] rfl rfl (Nat.le_of_ble_eq_true rfl) (fun x X => ?_)
  have C := X.1
  have O := X.2.1
  refine k_iload_n C d_X_isRow_0 rfl rfl ?_
  refine k_iconst C (v := 2) d_X_isRow_1 (by decide) ?_
  refine k_icmp_ne C (tgt := 22) d_X_isRow_2 (by decide) (fun c2 => ?_) (fun c2 => ?_)
  · refine k_iload_n C d_X_isRow_22 rfl rfl ?_
    refine k_if_eq C (tgt := 31) d_X_isRow_23 (by decide) (fun c23 => ?_) (fun c23 => ?_)
    · refine k_aload_n C d_X_isRow_31 rfl rfl ?_
      refine k_iload_n C d_X_isRow_32 rfl rfl ?_
      refine k_cvI X d_X_isRow_33 (c_X_isFile l b dA D g w) cv_X_66 xr_0 rfl rfl ⟨by decide, by decide⟩ rfl rfl (Nat.le_of_ble_eq_true rfl) ?_
      refine k_if_eq C (tgt := 43) d_X_isRow_36 (by decide) (fun c36 => ?_) (fun c36 => ?_)
      · refine k_iconst C (v := 0) d_X_isRow_43 (by decide) ?_
        exact k_zret X d_X_isRow_44 (Or.inl rfl) (k_pi ((if_neg c2).trans ((if_pos c23).trans ((if_pos c36).trans (rfl)))))
      · refine k_iconst C (v := 1) d_X_isRow_39 (by decide) ?_
        refine k_goto C (tgt := 44) d_X_isRow_40 (by decide) ?_
        exact k_zret X d_X_isRow_44 (Or.inr rfl) (k_pi ((if_neg c2).trans ((if_pos c23).trans ((if_neg c36).trans (rfl)))))
    · refine k_iload_n C d_X_isRow_26 rfl rfl ?_
      refine k_iconst C (v := 1) d_X_isRow_27 (by decide) ?_
      refine k_icmp_ne C (tgt := 43) d_X_isRow_28 (by decide) (fun c28 => ?_) (fun c28 => ?_)
      · refine k_iconst C (v := 0) d_X_isRow_43 (by decide) ?_
        exact k_zret X d_X_isRow_44 (Or.inl rfl) (k_pi ((if_neg c2).trans ((if_neg c23).trans ((if_neg c28).trans (rfl)))))
      · refine k_aload_n C d_X_isRow_31 rfl rfl ?_
        refine k_iload_n C d_X_isRow_32 rfl rfl ?_
        refine k_cvI X d_X_isRow_33 (c_X_isFile l b dA D g w) cv_X_66 xr_0 rfl rfl ⟨by decide, by decide⟩ rfl rfl (Nat.le_of_ble_eq_true rfl) ?_
        refine k_if_eq C (tgt := 43) d_X_isRow_36 (by decide) (fun c36 => ?_) (fun c36 => ?_)
        · refine k_iconst C (v := 0) d_X_isRow_43 (by decide) ?_
          exact k_zret X d_X_isRow_44 (Or.inl rfl) (k_pi ((if_neg c2).trans ((if_neg c23).trans ((if_pos c28).trans ((if_pos c36).trans (rfl))))))
        · refine k_iconst C (v := 1) d_X_isRow_39 (by decide) ?_
          refine k_goto C (tgt := 44) d_X_isRow_40 (by decide) ?_
          exact k_zret X d_X_isRow_44 (Or.inr rfl) (k_pi ((if_neg c2).trans ((if_neg c23).trans ((if_pos c28).trans ((if_neg c36).trans (rfl))))))
  · refine k_iload_n C d_X_isRow_5 rfl rfl ?_
    refine k_iconst C (v := 1) d_X_isRow_6 (by decide) ?_
    refine k_icmp_lt C (tgt := 20) d_X_isRow_7 (by decide) (fun c7 => ?_) (fun c7 => ?_)
    · refine k_iconst C (v := 0) d_X_isRow_20 (by decide) ?_
      exact k_zret X d_X_isRow_21 (Or.inl rfl) (k_pi ((if_pos c2).trans ((if_pos c7).trans (rfl))))
    · refine k_iload_n C d_X_isRow_10 rfl rfl ?_
      refine k_bipush C (v := 8) d_X_isRow_11 (by decide) ?_
      refine k_icmp_gt C (tgt := 20) d_X_isRow_13 (by decide) (fun c13 => ?_) (fun c13 => ?_)
      · refine k_iconst C (v := 0) d_X_isRow_20 (by decide) ?_
        exact k_zret X d_X_isRow_21 (Or.inl rfl) (k_pi ((if_pos c2).trans ((if_neg c7).trans ((if_pos c13).trans (rfl)))))
      · refine k_iconst C (v := 1) d_X_isRow_16 (by decide) ?_
        refine k_goto C (tgt := 21) d_X_isRow_17 (by decide) ?_
        exact k_zret X d_X_isRow_21 (Or.inr rfl) (k_pi ((if_pos c2).trans ((if_neg c7).trans ((if_neg c13).trans (rfl)))))

set_option maxHeartbeats 4000000 in
set_option maxRecDepth 100000 in
theorem c_X_row (l : Launch) (b : Nat → Nat → Nat) (dA : Nat → ClassId) (D : va_G) (g : kG) (n k w : Int32) (hI : xI g) : kMd (sysX b dA D) l y_X_row b_X_row 4 (some .boolean) 2 43 [.inr (.inr (0, 0)), .inl n, .inl k, .inl w] g (some (.inl (xRow g n k w).1)) (xRow g n k w).2 := by
  refine k_enter (by decide) [some (.inr (.inr (0, 0))), some (.inl n), some (.inl k), some (.inl w)] rfl rfl (Nat.le_of_ble_eq_true rfl) (fun x X => ?_)
  have C := X.1
  have O := X.2.1
  refine k_aload_n C d_X_row_0 rfl rfl ?_
  refine k_iload_n C d_X_row_1 rfl rfl ?_
  refine k_cvI X d_X_row_2 (c_X_isAction l b dA D g n) cv_X_80 xr_0 rfl rfl ⟨by decide, by decide⟩ rfl rfl (Nat.le_of_ble_eq_true rfl) ?_
  refine k_if_eq C (tgt := 17) d_X_row_5 (by decide) (fun c5 => ?_) (fun c5 => ?_)
  · refine k_iconst C (v := 0) d_X_row_17 (by decide) ?_
    exact k_zret X d_X_row_18 (Or.inl rfl) (k_pr ((if_pos c5).trans (rfl)))
  · refine k_aload_n C d_X_row_8 rfl rfl ?_
    refine k_iload_n C d_X_row_9 rfl rfl ?_
    refine k_iload_n C d_X_row_10 rfl rfl ?_
    refine k_cvI X d_X_row_11 (c_X_isRow l b dA D g k w) cv_X_92 xr_0 rfl rfl ⟨by decide, by decide⟩ rfl rfl (Nat.le_of_ble_eq_true rfl) ?_
    refine k_if_ne C (tgt := 19) d_X_row_14 (by decide) (fun c14 => ?_) (fun c14 => ?_)
    · refine k_aload_n C d_X_row_19 rfl rfl ?_
      refine k_getR C O (r := (2, _)) d_X_row_20 fl_X_17 xr_0 rfl rfl rfl rfl ?_
      refine k_iload_n C d_X_row_23 rfl rfl ?_
      refine k_aald2 C O (r := (6, _)) d_X_row_24 xr_2 rfl 4 rfl (in_x (n := 12) hI.2.1 (by decide) c5) rfl rfl ?_
      refine k_iload_n C d_X_row_25 rfl rfl ?_
      refine k_iload_n C d_X_row_26 rfl rfl ?_
      refine k_cvI X d_X_row_27 (c_A_addRow l b dA D g (tn n) (vi_lt (in_x (n := 12) hI.2.1 (by decide) c5)) k w (fun q => in_lt (hI.2.2.2.1 _ (vi_lt (in_x (n := 12) hI.2.1 (by decide) c5))).1.2.2.1 (by decide) (n := 12) rfl (by decide) q)) cv_X_96 (xr_6 (vi_lt (in_x (n := 12) hI.2.1 (by decide) c5))) rfl rfl ⟨by decide, by decide⟩ rfl rfl (Nat.le_of_ble_eq_true rfl) ?_
      exact k_zret X d_X_row_30 (xAddRow_Z _ _ _ _) (k_pr ((if_neg c5).trans ((if_neg c14).trans (rfl))))
    · refine k_iconst C (v := 0) d_X_row_17 (by decide) ?_
      exact k_zret X d_X_row_18 (Or.inl rfl) (k_pr ((if_neg c5).trans ((if_pos c14).trans (rfl))))

set_option maxHeartbeats 4000000 in
set_option maxRecDepth 100000 in
theorem c_X_run (l : Launch) (b : Nat → Nat → Nat) (dA : Nat → ClassId) (D : va_G) (g : kG) (n : Int32) (hI : xI g) : kMd (sysX b dA D) l y_X_run b_X_run 2 (some .int) 6 145 [.inr (.inr (0, 0)), .inl n] g (some (.inl (xRunP g n).1)) (xRunP g n).2 := by
  refine k_enter (by decide) [some (.inr (.inr (0, 0))), some (.inl n)] rfl rfl (Nat.le_of_ble_eq_true rfl) (fun x X => ?_)
  have C := X.1
  have O := X.2.1
  refine k_aload_n C d_X_run_0 rfl rfl ?_
  refine k_iload_n C d_X_run_1 rfl rfl ?_
  refine k_cvI X d_X_run_2 (c_X_isAction l b dA D g n) cv_X_80 xr_0 rfl rfl ⟨by decide, by decide⟩ rfl rfl (Nat.le_of_ble_eq_true rfl) ?_
  refine k_if_eq C (tgt := 16) d_X_run_5 (by decide) (fun c5 => ?_) (fun c5 => ?_)
  · refine k_bipush C (v := (-9)) d_X_run_16 (by decide) ?_
    exact k_iret X d_X_run_18 (k_pr ((if_pos c5).trans (rfl)))
  · refine k_aload_n C d_X_run_8 rfl rfl ?_
    refine k_iload_n C d_X_run_9 rfl rfl ?_
    refine k_cvI X d_X_run_10 (c_X_runOnce l b dA D g n (in_x (n := 12) hI.2.1 (by decide) c5) hI) cv_X_99 xr_0 rfl rfl ⟨by decide, by decide⟩ rfl rfl (Nat.le_of_ble_eq_true rfl) ?_
    refine k_goto C (tgt := 18) d_X_run_13 (by decide) ?_
    exact k_iret X d_X_run_18 (k_pr ((if_neg c5).trans (rfl)))

set_option maxHeartbeats 4000000 in
set_option maxRecDepth 100000 in
theorem c_X_ring (l : Launch) (b : Nat → Nat → Nat) (dA : Nat → ClassId) (D : va_G) (g : kG) (i : Int32) (hI : xI g) : kMd (sysX b dA D) l y_X_ring b_X_ring 2 (some .int) 0 0 [.inr (.inr (0, 0)), .inl i] g (some (.inl (xRing g i))) g := by
  obtain ⟨rs, rl, e1, e2, e3⟩ := hI.2.2.2.2.2
  refine k_enter (by decide) [some (.inr (.inr (0, 0))), some (.inl i)] rfl rfl (Nat.le_of_ble_eq_true rfl) (fun x X => ?_)
  have C := X.1
  have O := X.2.1
  refine k_iload_n C d_X_ring_0 rfl rfl ?_
  refine k_if_lt C (tgt := 26) d_X_ring_1 (by decide) (fun c1 => ?_) (fun c1 => ?_)
  · refine k_iconst C (v := (-1)) d_X_ring_26 (by decide) ?_
    exact k_iret X d_X_ring_27 (k_pi ((if_pos c1).trans (rfl)))
  · refine k_iload_n C d_X_ring_4 rfl rfl ?_
    refine k_aload_n C d_X_ring_5 rfl rfl ?_
    refine k_getI C O d_X_ring_6 fl_X_44 xr_0 rfl rfl rfl ?_
    refine k_icmp_ge C (tgt := 26) d_X_ring_9 (by decide) (fun c9 => ?_) (fun c9 => ?_)
    · refine k_iconst C (v := (-1)) d_X_ring_26 (by decide) ?_
      exact k_iret X d_X_ring_27 (k_pi ((if_neg c1).trans ((if_pos c9).trans (rfl))))
    · refine k_aload_n C d_X_ring_12 rfl rfl ?_
      refine k_getR C O (r := (4, _)) d_X_ring_13 fl_X_37 xr_0 rfl rfl rfl rfl ?_
      refine k_aload_n C d_X_ring_16 rfl rfl ?_
      refine k_getI C O d_X_ring_17 fl_X_41 xr_0 rfl rfl rfl ?_
      refine k_iload_n C d_X_ring_20 rfl rfl ?_
      refine k_iadd C d_X_ring_21 ?_
      refine k_iald2 C O d_X_ring_22 xr_4 rfl 0 rfl (show vp_in (g.1 0 0 8 + i) 13 from by
      obtain ⟨j, hj, rfl⟩ := nI_of c1
      rw [e2] at c9
      rw [e1, nI_add]
      rcases Nat.lt_or_ge j rl with q | q
      · exact vp_in_nI (by omega) (by decide)
      · exact absurd (nI_le q hj) c9) rfl ?_
      refine k_goto C (tgt := 27) d_X_ring_23 (by decide) ?_
      exact k_iret X d_X_ring_27 (k_pi ((if_neg c1).trans ((if_neg c9).trans (rfl))))

set_option maxHeartbeats 4000000 in
set_option maxRecDepth 100000 in
theorem c_X_waits (l : Launch) (b : Nat → Nat → Nat) (dA : Nat → ClassId) (D : va_G) (g : kG) (n : Int32) (hI : xI g) : kMd (sysX b dA D) l y_X_waits b_X_waits 2 (some .int) 1 21 [.inr (.inr (0, 0)), .inl n] g (some (.inl (xWaits g n))) g := by
  refine k_enter (by decide) [some (.inr (.inr (0, 0))), some (.inl n)] rfl rfl (Nat.le_of_ble_eq_true rfl) (fun x X => ?_)
  have C := X.1
  have O := X.2.1
  refine k_aload_n C d_X_waits_0 rfl rfl ?_
  refine k_iload_n C d_X_waits_1 rfl rfl ?_
  refine k_cvI X d_X_waits_2 (c_X_isAction l b dA D g n) cv_X_80 xr_0 rfl rfl ⟨by decide, by decide⟩ rfl rfl (Nat.le_of_ble_eq_true rfl) ?_
  refine k_if_eq C (tgt := 20) d_X_waits_5 (by decide) (fun c5 => ?_) (fun c5 => ?_)
  · refine k_iconst C (v := (-1)) d_X_waits_20 (by decide) ?_
    exact k_iret X d_X_waits_21 (k_pi ((if_pos c5).trans (rfl)))
  · refine k_aload_n C d_X_waits_8 rfl rfl ?_
    refine k_getR C O (r := (2, _)) d_X_waits_9 fl_X_17 xr_0 rfl rfl rfl rfl ?_
    refine k_iload_n C d_X_waits_12 rfl rfl ?_
    refine k_aald2 C O (r := (6, _)) d_X_waits_13 xr_2 rfl 4 rfl (in_x (n := 12) hI.2.1 (by decide) c5) rfl rfl ?_
    refine k_getI C O d_X_waits_14 fl_X_110 (xr_6 (vi_lt (in_x (n := 12) hI.2.1 (by decide) c5))) rfl rfl rfl ?_
    refine k_goto C (tgt := 21) d_X_waits_17 (by decide) ?_
    exact k_iret X d_X_waits_21 (k_pi ((if_neg c5).trans (rfl)))

set_option maxHeartbeats 4000000 in
set_option maxRecDepth 100000 in
theorem c_X_fresh (l : Launch) (b : Nat → Nat → Nat) (dA : Nat → ClassId) (D : va_G) (g : kG) (n : Int32) (hI : xI g) : kMd (sysX b dA D) l y_X_fresh b_X_fresh 2 (some .boolean) 4 91 [.inr (.inr (0, 0)), .inl n] g (some (.inl (xFreshP g n))) g := by
  refine k_enter (by decide) [some (.inr (.inr (0, 0))), some (.inl n)] rfl rfl (Nat.le_of_ble_eq_true rfl) (fun x X => ?_)
  have C := X.1
  have O := X.2.1
  refine k_aload_n C d_X_fresh_0 rfl rfl ?_
  refine k_iload_n C d_X_fresh_1 rfl rfl ?_
  refine k_cvI X d_X_fresh_2 (c_X_isAction l b dA D g n) cv_X_80 xr_0 rfl rfl ⟨by decide, by decide⟩ rfl rfl (Nat.le_of_ble_eq_true rfl) ?_
  refine k_if_eq C (tgt := 23) d_X_fresh_5 (by decide) (fun c5 => ?_) (fun c5 => ?_)
  · refine k_iconst C (v := 0) d_X_fresh_23 (by decide) ?_
    exact k_zret X d_X_fresh_24 (Or.inl rfl) (k_pi ((if_pos c5).trans (rfl)))
  · refine k_aload_n C d_X_fresh_8 rfl rfl ?_
    refine k_cvI X d_X_fresh_9 (c_X_freshActions l b dA D g (tn (g.1 0 0 5)) hI.2.1.1 hI.2.1.2 (fun i hi => ⟨(hI.2.2.2.1 i (Nat.lt_of_lt_of_le hi hI.2.1.2)).1.2.1, (hI.2.2.2.1 i (Nat.lt_of_lt_of_le hi hI.2.1.2)).2⟩)) cv_X_113 xr_0 rfl rfl ⟨by decide, by decide⟩ rfl rfl (Nat.le_of_ble_eq_true rfl) ?_
    refine k_iload_n C d_X_fresh_12 rfl rfl ?_
    refine k_csI X d_X_fresh_13 (c_X_hasBit l b dA D g (xFresh g) n) cs_X_117 ⟨by decide, by decide⟩ rfl rfl (Nat.le_of_ble_eq_true rfl) ?_
    refine k_if_eq C (tgt := 23) d_X_fresh_16 (by decide) (fun c16 => ?_) (fun c16 => ?_)
    · refine k_iconst C (v := 0) d_X_fresh_23 (by decide) ?_
      exact k_zret X d_X_fresh_24 (Or.inl rfl) (k_pi ((if_neg c5).trans ((if_pos c16).trans (rfl))))
    · refine k_iconst C (v := 1) d_X_fresh_19 (by decide) ?_
      refine k_goto C (tgt := 24) d_X_fresh_20 (by decide) ?_
      exact k_zret X d_X_fresh_24 (Or.inr rfl) (k_pi ((if_neg c5).trans ((if_neg c16).trans (rfl))))

set_option maxHeartbeats 4000000 in
set_option maxRecDepth 100000 in
theorem c_X_kept (l : Launch) (b : Nat → Nat → Nat) (dA : Nat → ClassId) (D : va_G) (g : kG) (n i w : Int32) (hI : xI g) : kMd (sysX b dA D) l y_X_kept b_X_kept 4 (some .int) 1 22 [.inr (.inr (0, 0)), .inl n, .inl i, .inl w] g (some (.inl (xKept g n i w))) g := by
  refine k_enter (by decide) [some (.inr (.inr (0, 0))), some (.inl n), some (.inl i), some (.inl w)] rfl rfl (Nat.le_of_ble_eq_true rfl) (fun x X => ?_)
  have C := X.1
  have O := X.2.1
  refine k_aload_n C d_X_kept_0 rfl rfl ?_
  refine k_iload_n C d_X_kept_1 rfl rfl ?_
  refine k_cvI X d_X_kept_2 (c_X_isAction l b dA D g n) cv_X_80 xr_0 rfl rfl ⟨by decide, by decide⟩ rfl rfl (Nat.le_of_ble_eq_true rfl) ?_
  refine k_if_eq C (tgt := 20) d_X_kept_5 (by decide) (fun c5 => ?_) (fun c5 => ?_)
  · refine k_iconst C (v := (-1)) d_X_kept_20 (by decide) ?_
    exact k_iret X d_X_kept_21 (k_pi ((if_pos c5).trans (rfl)))
  · refine k_aload_n C d_X_kept_8 rfl rfl ?_
    refine k_getR C O (r := (2, _)) d_X_kept_9 fl_X_17 xr_0 rfl rfl rfl rfl ?_
    refine k_iload_n C d_X_kept_12 rfl rfl ?_
    refine k_aald2 C O (r := (6, _)) d_X_kept_13 xr_2 rfl 4 rfl (in_x (n := 12) hI.2.1 (by decide) c5) rfl rfl ?_
    refine k_getI C O d_X_kept_14 fl_X_120 (xr_6 (vi_lt (in_x (n := 12) hI.2.1 (by decide) c5))) rfl rfl rfl ?_
    refine k_if_ne C (tgt := 22) d_X_kept_17 (by decide) (fun c17 => ?_) (fun c17 => ?_)
    · refine k_aload_n C d_X_kept_22 rfl rfl ?_
      refine k_getR C O (r := (2, _)) d_X_kept_23 fl_X_17 xr_0 rfl rfl rfl rfl ?_
      refine k_iload_n C d_X_kept_26 rfl rfl ?_
      refine k_aald2 C O (r := (6, _)) d_X_kept_27 xr_2 rfl 4 rfl (in_x (n := 12) hI.2.1 (by decide) c5) rfl rfl ?_
      refine k_getR C O (r := (9, _)) d_X_kept_28 fl_X_124 (xr_6 (vi_lt (in_x (n := 12) hI.2.1 (by decide) c5))) rfl rfl rfl rfl ?_
      refine k_iload_n C d_X_kept_31 rfl rfl ?_
      refine k_iload_n C d_X_kept_32 rfl rfl ?_
      refine k_cvI X d_X_kept_33 (c_N_tell l b dA D g (tn n) (vi_lt (in_x (n := 12) hI.2.1 (by decide) c5)) i w (fun q1 q2 => in_v (hI.2.2.2.1 _ (vi_lt (in_x (n := 12) hI.2.1 (by decide) c5))).1.2.1 (by decide) q1 (fun q3 => absurd q2 (Int32.not_lt.mpr q3)))) cv_X_128 (xr_9 (vi_lt (in_x (n := 12) hI.2.1 (by decide) c5))) rfl rfl ⟨by decide, by decide⟩ rfl rfl (Nat.le_of_ble_eq_true rfl) ?_
      exact k_iret X d_X_kept_36 (k_pi ((if_neg c5).trans ((if_neg c17).trans (rfl))))
    · refine k_iconst C (v := (-1)) d_X_kept_20 (by decide) ?_
      exact k_iret X d_X_kept_21 (k_pi ((if_neg c5).trans ((if_pos c17).trans (rfl))))

set_option maxHeartbeats 4000000 in
set_option maxRecDepth 100000 in
theorem c_X_unused (l : Launch) (b : Nat → Nat → Nat) (dA : Nat → ClassId) (D : va_G) (g : kG) (n : Int32) (hI : xI g) : kMd (sysX b dA D) l y_X_unused b_X_unused 3 (some .int) 1 22 [.inr (.inr (0, 0)), .inl n] g (some (.inl (xUnused g n))) g := by
  refine k_enter (by decide) [some (.inr (.inr (0, 0))), some (.inl n), none] rfl rfl (Nat.le_of_ble_eq_true rfl) (fun x X => ?_)
  have C := X.1
  have O := X.2.1
  refine k_aload_n C d_X_unused_0 rfl rfl ?_
  refine k_iload_n C d_X_unused_1 rfl rfl ?_
  refine k_cvI X d_X_unused_2 (c_X_isAction l b dA D g n) cv_X_80 xr_0 rfl rfl ⟨by decide, by decide⟩ rfl rfl (Nat.le_of_ble_eq_true rfl) ?_
  refine k_if_ne C (tgt := 10) d_X_unused_5 (by decide) (fun c5 => ?_) (fun c5 => ?_)
  · refine k_aload_n C d_X_unused_10 rfl rfl ?_
    refine k_getR C O (r := (2, _)) d_X_unused_11 fl_X_17 xr_0 rfl rfl rfl rfl ?_
    refine k_iload_n C d_X_unused_14 rfl rfl ?_
    refine k_aald2 C O (r := (6, _)) d_X_unused_15 xr_2 rfl 4 rfl (in_x (n := 12) hI.2.1 (by decide) c5) rfl rfl ?_
    refine k_getI C O d_X_unused_16 fl_X_77 (xr_6 (vi_lt (in_x (n := 12) hI.2.1 (by decide) c5))) rfl rfl rfl ?_
    refine k_iconst C (v := 1) d_X_unused_19 (by decide) ?_
    refine k_aload_n C d_X_unused_20 rfl rfl ?_
    refine k_getI C O d_X_unused_21 fl_X_27 xr_0 rfl rfl rfl ?_
    refine k_ishl C d_X_unused_24 ?_
    refine k_iconst C (v := 1) d_X_unused_25 (by decide) ?_
    refine k_isub C d_X_unused_26 ?_
    refine k_iand C d_X_unused_27 ?_
    refine k_istore_n C d_X_unused_28 rfl (Nat.le_of_ble_eq_true rfl) rfl ?_
    refine k_iload_n C d_X_unused_29 rfl rfl ?_
    refine k_aload_n C d_X_unused_30 rfl rfl ?_
    refine k_getR C O (r := (2, _)) d_X_unused_31 fl_X_17 xr_0 rfl rfl rfl rfl ?_
    refine k_iload_n C d_X_unused_34 rfl rfl ?_
    refine k_aald2 C O (r := (6, _)) d_X_unused_35 xr_2 rfl 4 rfl (in_x (n := 12) hI.2.1 (by decide) c5) rfl rfl ?_
    refine k_getR C O (r := (9, _)) d_X_unused_36 fl_X_124 (xr_6 (vi_lt (in_x (n := 12) hI.2.1 (by decide) c5))) rfl rfl rfl rfl ?_
    refine k_cvI X d_X_unused_39 (c_N_fileBits l b dA D g (tn n) (vi_lt (in_x (n := 12) hI.2.1 (by decide) c5)) (tn (g.1 9 (tn n) 4)) (hI.2.2.2.1 _ (vi_lt (in_x (n := 12) hI.2.1 (by decide) c5))).1.2.1.1 (hI.2.2.2.1 _ (vi_lt (in_x (n := 12) hI.2.1 (by decide) c5))).1.2.1.2) cv_X_133 (xr_9 (vi_lt (in_x (n := 12) hI.2.1 (by decide) c5))) rfl rfl ⟨by decide, by decide⟩ rfl rfl (Nat.le_of_ble_eq_true rfl) ?_
    refine k_iconst C (v := (-1)) d_X_unused_42 (by decide) ?_
    refine k_ixor C d_X_unused_43 ?_
    refine k_iand C d_X_unused_44 ?_
    exact k_iret X d_X_unused_45 (k_pi ((if_neg c5).trans (rfl)))
  · refine k_iconst C (v := 0) d_X_unused_8 (by decide) ?_
    exact k_iret X d_X_unused_9 (k_pi ((if_pos c5).trans (rfl)))

set_option maxHeartbeats 4000000 in
set_option maxRecDepth 100000 in
theorem c_X_digest (l : Launch) (b : Nat → Nat → Nat) (dA : Nat → ClassId) (D : va_G) (g : kG) (n : Int32) (hI : xI g) : kMd (sysX b dA D) l y_X_digest b_X_digest 2 (some .long) 1 21 [.inr (.inr (0, 0)), .inl n] g (some (.inr (.inl (xDigest g n)))) g := by
  refine k_enter (by decide) [some (.inr (.inr (0, 0))), some (.inl n)] rfl rfl (Nat.le_of_ble_eq_true rfl) (fun x X => ?_)
  have C := X.1
  have O := X.2.1
  refine k_aload_n C d_X_digest_0 rfl rfl ?_
  refine k_iload_n C d_X_digest_1 rfl rfl ?_
  refine k_cvI X d_X_digest_2 (c_X_isFile l b dA D g n) cv_X_66 xr_0 rfl rfl ⟨by decide, by decide⟩ rfl rfl (Nat.le_of_ble_eq_true rfl) ?_
  refine k_if_eq C (tgt := 20) d_X_digest_5 (by decide) (fun c5 => ?_) (fun c5 => ?_)
  · refine k_lconst C (v := 0) d_X_digest_20 (by decide) ?_
    exact k_lret X d_X_digest_21 (k_pl ((if_pos c5).trans (rfl)))
  · refine k_aload_n C d_X_digest_8 rfl rfl ?_
    refine k_getR C O (r := (1, _)) d_X_digest_9 fl_X_11 xr_0 rfl rfl rfl rfl ?_
    refine k_iload_n C d_X_digest_12 rfl rfl ?_
    refine k_aald2 C O (r := (5, _)) d_X_digest_13 xr_1 rfl 3 rfl (in_x (n := 24) hI.1 (by decide) c5) rfl rfl ?_
    refine k_getJ C O d_X_digest_14 fl_X_136 (xr_5 (vi_lt (in_x (n := 24) hI.1 (by decide) c5))) rfl rfl rfl ?_
    refine k_goto C (tgt := 21) d_X_digest_17 (by decide) ?_
    exact k_lret X d_X_digest_21 (k_pl ((if_neg c5).trans (rfl)))

set_option maxHeartbeats 4000000 in
set_option maxRecDepth 100000 in
theorem c_X_counted (l : Launch) (b : Nat → Nat → Nat) (dA : Nat → ClassId) (D : va_G) (g : kG) (n w : Int32) (hI : xI g) : kMd (sysX b dA D) l y_X_counted b_X_counted 3 (some .int) 1 21 [.inr (.inr (0, 0)), .inl n, .inl w] g (some (.inl (xCounted g n w))) g := by
  refine k_enter (by decide) [some (.inr (.inr (0, 0))), some (.inl n), some (.inl w)] rfl rfl (Nat.le_of_ble_eq_true rfl) (fun x X => ?_)
  have C := X.1
  have O := X.2.1
  refine k_aload_n C d_X_counted_0 rfl rfl ?_
  refine k_iload_n C d_X_counted_1 rfl rfl ?_
  refine k_cvI X d_X_counted_2 (c_X_isAction l b dA D g n) cv_X_80 xr_0 rfl rfl ⟨by decide, by decide⟩ rfl rfl (Nat.le_of_ble_eq_true rfl) ?_
  refine k_if_ne C (tgt := 10) d_X_counted_5 (by decide) (fun c5 => ?_) (fun c5 => ?_)
  · refine k_iload_n C d_X_counted_10 rfl rfl ?_
    by_cases s11 : (w).toInt < 0 ∨ 2 < (w).toInt
    · refine k_tabOut C (tgt := 66) d_X_counted_11 s11 (by decide) ?_
      refine k_iconst C (v := (-1)) d_X_counted_66 (by decide) ?_
      exact k_iret X d_X_counted_67 (k_pi ((if_neg c5).trans ((if_pos s11).trans (rfl))))
    · have q11 : (w) = 0 ∨ (w) = 1 ∨ (w) = 2 := by
        have h1 : 0 ≤ (w).toInt := by omega
        have h2 : (w).toInt ≤ 2 := by omega
        have h3 : (w).toInt = 0 ∨ (w).toInt = 1 ∨ (w).toInt = 2 := by omega
        rcases h3 with h3 | h3 | h3
        · exact Or.inl (Int32.toInt_inj.mp (h3.trans (by decide)))
        · exact Or.inr (Or.inl (Int32.toInt_inj.mp (h3.trans (by decide))))
        · exact Or.inr (Or.inr ((Int32.toInt_inj.mp (h3.trans (by decide)))))
      rcases q11 with q11 | q11 | q11
      · refine k_tabIn C (tgt := 36) (off := 25) d_X_counted_11 (fun h => s11 (Or.inl h)) (fun h => s11 (Or.inr h)) (by rw [q11]; decide +kernel) (by decide) ?_
        refine k_aload_n C d_X_counted_36 rfl rfl ?_
        refine k_getR C O (r := (2, _)) d_X_counted_37 fl_X_17 xr_0 rfl rfl rfl rfl ?_
        refine k_iload_n C d_X_counted_40 rfl rfl ?_
        refine k_aald2 C O (r := (6, _)) d_X_counted_41 xr_2 rfl 4 rfl (in_x (n := 12) hI.2.1 (by decide) c5) rfl rfl ?_
        refine k_getI C O d_X_counted_42 fl_X_140 (xr_6 (vi_lt (in_x (n := 12) hI.2.1 (by decide) c5))) rfl rfl rfl ?_
        exact k_iret X d_X_counted_45 (k_pi ((if_neg c5).trans ((if_neg s11).trans ((if_pos q11).trans (rfl)))))
      · refine k_tabIn C (tgt := 46) (off := 35) d_X_counted_11 (fun h => s11 (Or.inl h)) (fun h => s11 (Or.inr h)) (by rw [q11]; decide +kernel) (by decide) ?_
        refine k_aload_n C d_X_counted_46 rfl rfl ?_
        refine k_getR C O (r := (2, _)) d_X_counted_47 fl_X_17 xr_0 rfl rfl rfl rfl ?_
        refine k_iload_n C d_X_counted_50 rfl rfl ?_
        refine k_aald2 C O (r := (6, _)) d_X_counted_51 xr_2 rfl 4 rfl (in_x (n := 12) hI.2.1 (by decide) c5) rfl rfl ?_
        refine k_getI C O d_X_counted_52 fl_X_143 (xr_6 (vi_lt (in_x (n := 12) hI.2.1 (by decide) c5))) rfl rfl rfl ?_
        exact k_iret X d_X_counted_55 (k_pi ((if_neg c5).trans ((if_neg s11).trans ((if_neg (show ¬ _ = _ by rw [q11]; decide)).trans ((if_pos q11).trans (rfl))))))
      · refine k_tabIn C (tgt := 56) (off := 45) d_X_counted_11 (fun h => s11 (Or.inl h)) (fun h => s11 (Or.inr h)) (by rw [q11]; decide +kernel) (by decide) ?_
        refine k_aload_n C d_X_counted_56 rfl rfl ?_
        refine k_getR C O (r := (2, _)) d_X_counted_57 fl_X_17 xr_0 rfl rfl rfl rfl ?_
        refine k_iload_n C d_X_counted_60 rfl rfl ?_
        refine k_aald2 C O (r := (6, _)) d_X_counted_61 xr_2 rfl 4 rfl (in_x (n := 12) hI.2.1 (by decide) c5) rfl rfl ?_
        refine k_getI C O d_X_counted_62 fl_X_146 (xr_6 (vi_lt (in_x (n := 12) hI.2.1 (by decide) c5))) rfl rfl rfl ?_
        exact k_iret X d_X_counted_65 (k_pi ((if_neg c5).trans ((if_neg s11).trans ((if_neg (show ¬ _ = _ by rw [q11]; decide)).trans ((if_neg (show ¬ _ = _ by rw [q11]; decide)).trans (rfl))))))
  · refine k_iconst C (v := (-1)) d_X_counted_8 (by decide) ?_
    exact k_iret X d_X_counted_9 (k_pi ((if_pos c5).trans (rfl)))

set_option maxHeartbeats 4000000 in
set_option maxRecDepth 100000 in
theorem c_X_members (l : Launch) (b : Nat → Nat → Nat) (dA : Nat → ClassId) (D : va_G) (g : kG) (n : Int32) (hI : xI g) : kMd (sysX b dA D) l y_X_members b_X_members 2 (some .int) 2 45 [.inr (.inr (0, 0)), .inl n] g (some (.inl (xMembers g n))) g := by
  refine k_enter (by decide) [some (.inr (.inr (0, 0))), some (.inl n)] rfl rfl (Nat.le_of_ble_eq_true rfl) (fun x X => ?_)
  have C := X.1
  have O := X.2.1
  refine k_aload_n C d_X_members_0 rfl rfl ?_
  refine k_iload_n C d_X_members_1 rfl rfl ?_
  refine k_cvI X d_X_members_2 (c_X_isFile l b dA D g n) cv_X_66 xr_0 rfl rfl ⟨by decide, by decide⟩ rfl rfl (Nat.le_of_ble_eq_true rfl) ?_
  refine k_if_eq C (tgt := 20) d_X_members_5 (by decide) (fun c5 => ?_) (fun c5 => ?_)
  · refine k_iconst C (v := 0) d_X_members_20 (by decide) ?_
    exact k_iret X d_X_members_21 (k_pi ((if_pos c5).trans (rfl)))
  · refine k_aload_n C d_X_members_8 rfl rfl ?_
    refine k_getR C O (r := (1, _)) d_X_members_9 fl_X_11 xr_0 rfl rfl rfl rfl ?_
    refine k_iload_n C d_X_members_12 rfl rfl ?_
    refine k_aald2 C O (r := (5, _)) d_X_members_13 xr_1 rfl 3 rfl (in_x (n := 24) hI.1 (by decide) c5) rfl rfl ?_
    refine k_csI X d_X_members_14 (c_X_treeSize l b dA D g (tn n) (vi_lt (in_x (n := 24) hI.1 (by decide) c5))) cs_X_149 ⟨by decide, by decide⟩ rfl rfl (Nat.le_of_ble_eq_true rfl) ?_
    refine k_goto C (tgt := 21) d_X_members_17 (by decide) ?_
    exact k_iret X d_X_members_21 (k_pi ((if_neg c5).trans (rfl)))

set_option maxHeartbeats 4000000 in
set_option maxRecDepth 100000 in
theorem c_X_mapping (l : Launch) (b : Nat → Nat → Nat) (dA : Nat → ClassId) (D : va_G) (g : kG) (n : Int32) (s : Int64) (hI : xI g) : kMd (sysX b dA D) l y_X_mapping b_X_mapping 4 (some .int) 1 21 [.inr (.inr (0, 0)), .inl n, .inr (.inl s)] g (some (.inl (xMapping g n s).1)) (xMapping g n s).2 := by
  refine k_enter (by decide) [some (.inr (.inr (0, 0))), some (.inl n), some (.inr (.inl s)), none] rfl rfl (Nat.le_of_ble_eq_true rfl) (fun x X => ?_)
  have C := X.1
  have O := X.2.1
  refine k_aload_n C d_X_mapping_0 rfl rfl ?_
  refine k_iload_n C d_X_mapping_1 rfl rfl ?_
  refine k_cvI X d_X_mapping_2 (c_X_isFile l b dA D g n) cv_X_66 xr_0 rfl rfl ⟨by decide, by decide⟩ rfl rfl (Nat.le_of_ble_eq_true rfl) ?_
  refine k_if_eq C (tgt := 17) d_X_mapping_5 (by decide) (fun c5 => ?_) (fun c5 => ?_)
  · refine k_iconst C (v := (-1)) d_X_mapping_17 (by decide) ?_
    exact k_iret X d_X_mapping_18 (k_pr ((if_pos c5).trans (rfl)))
  · refine k_aload_n C d_X_mapping_8 rfl rfl ?_
    refine k_getI C O d_X_mapping_9 fl_X_34 xr_0 rfl rfl rfl ?_
    refine k_bipush C (v := 6) d_X_mapping_12 (by decide) ?_
    refine k_icmp_lt C (tgt := 19) d_X_mapping_14 (by decide) (fun c14 => ?_) (fun c14 => ?_)
    · refine k_aload_n C d_X_mapping_19 rfl rfl ?_
      refine k_getR C O (r := (3, _)) d_X_mapping_20 fl_X_23 xr_0 rfl rfl rfl rfl ?_
      refine k_aload_n C d_X_mapping_23 rfl rfl ?_
      refine k_getI C O d_X_mapping_24 fl_X_34 xr_0 rfl rfl rfl ?_
      refine k_aald2 C O (r := (14, _)) d_X_mapping_27 xr_3 rfl 5 rfl (in_lt hI.2.2.1 (by decide) (n := 6) rfl (by decide) c14) rfl rfl ?_
      refine k_iload_n C d_X_mapping_28 rfl rfl ?_
      refine k_putI C O d_X_mapping_29 fp_X_153 (xr_14 (vi_lt (in_lt hI.2.2.1 (by decide) (n := 6) rfl (by decide) c14))) rfl rfl rfl ?_
      refine k_aload_n C d_X_mapping_32 rfl rfl ?_
      refine k_getR C O (r := (3, _)) d_X_mapping_33 fl_X_23 xr_0 rfl rfl rfl rfl ?_
      refine k_aload_n C d_X_mapping_36 rfl rfl ?_
      refine k_getI C O d_X_mapping_37 fl_X_34 xr_0 rfl rfl rfl ?_
      refine k_aald2 C O (r := (14, _)) d_X_mapping_40 xr_3 rfl 5 rfl (in_lt hI.2.2.1 (by decide) (n := 6) rfl (by decide) c14) rfl rfl ?_
      refine k_lload_n C d_X_mapping_41 rfl rfl ?_
      refine k_putJ C O d_X_mapping_42 fp_X_156 (xr_14 (vi_lt (in_lt hI.2.2.1 (by decide) (n := 6) rfl (by decide) c14))) rfl rfl rfl ?_
      refine k_aload_n C d_X_mapping_45 rfl rfl ?_
      refine k_dup C d_X_mapping_46 rfl ?_
      refine k_getI C O d_X_mapping_47 fl_X_34 xr_0 rfl rfl rfl ?_
      refine k_iconst C (v := 1) d_X_mapping_50 (by decide) ?_
      refine k_iadd C d_X_mapping_51 ?_
      refine k_putI C O d_X_mapping_52 fp_X_34 xr_0 rfl rfl rfl ?_
      refine k_aload_n C d_X_mapping_55 rfl rfl ?_
      refine k_getI C O d_X_mapping_56 fl_X_34 xr_0 rfl rfl rfl ?_
      refine k_iconst C (v := 1) d_X_mapping_59 (by decide) ?_
      refine k_isub C d_X_mapping_60 ?_
      exact k_iret X d_X_mapping_61 (k_pr ((if_neg c5).trans ((if_pos c14).trans (rfl))))
    · refine k_iconst C (v := (-1)) d_X_mapping_17 (by decide) ?_
      exact k_iret X d_X_mapping_18 (k_pr ((if_neg c5).trans ((if_neg c14).trans (rfl))))

theorem xTake_c (l : Launch) (b : Nat → Nat → Nat) (dA : Nat → ClassId) (D : va_G) (g : kG) (i : Nat) (hi : i < 6) (f : Nat) (hs : kN (g.1 14 i 3) 4) (ht : ∃ w : Nat, w ≤ 4 ∧ xTree g f = nI w) : kMd (sysX b dA D) l y_G_take b_G_take 6 (some .int) 2 45 [.inr (.inr (14, i)), .inr (.inl (g.2 5 f 1)), .inl (xTree g f)] g (some (.inl (xTake g i f).1)) (xTake g i f).2 := by
  obtain ⟨w, hw, e⟩ := ht
  have h := c_G_take l b dA D g i hi (g.2 5 f 1) (tn (g.1 14 i 3)) hs.1 hs.2 w hw
  have e2 : tn (xTree g f) = w := by rw [e]; exact nI_clamp (by omega)
  unfold xTake
  rw [e2, e]
  exact h
set_option maxHeartbeats 4000000 in
set_option maxRecDepth 100000 in
theorem c_X_map (l : Launch) (b : Nat → Nat → Nat) (dA : Nat → ClassId) (D : va_G) (g : kG) (n : Int32) (hI : xI g) (ht : ∃ w : Nat, w ≤ 4 ∧ xTree g (tn (g.1 14 (tn n) 0)) = nI w) : kMd (sysX b dA D) l y_X_map b_X_map 3 (some .int) 4 91 [.inr (.inr (0, 0)), .inl n] g (some (.inl (xMap g n).1)) (xMap g n).2 := by
  refine k_enter (by decide) [some (.inr (.inr (0, 0))), some (.inl n), none] rfl rfl (Nat.le_of_ble_eq_true rfl) (fun x X => ?_)
  have C := X.1
  have O := X.2.1
  refine k_aload_n C d_X_map_0 rfl rfl ?_
  refine k_iload_n C d_X_map_1 rfl rfl ?_
  refine k_cvI X d_X_map_2 (c_X_isMapping l b dA D g n) cv_X_159 xr_0 rfl rfl ⟨by decide, by decide⟩ rfl rfl (Nat.le_of_ble_eq_true rfl) ?_
  refine k_if_ne C (tgt := 10) d_X_map_5 (by decide) (fun c5 => ?_) (fun c5 => ?_)
  · refine k_aload_n C d_X_map_10 rfl rfl ?_
    refine k_getR C O (r := (1, _)) d_X_map_11 fl_X_11 xr_0 rfl rfl rfl rfl ?_
    refine k_aload_n C d_X_map_14 rfl rfl ?_
    refine k_getR C O (r := (3, _)) d_X_map_15 fl_X_23 xr_0 rfl rfl rfl rfl ?_
    refine k_iload_n C d_X_map_18 rfl rfl ?_
    refine k_aald2 C O (r := (14, _)) d_X_map_19 xr_3 rfl 5 rfl (in_x (n := 6) hI.2.2.1 (by decide) c5) rfl rfl ?_
    refine k_getI C O d_X_map_20 fl_X_153 (xr_14 (vi_lt (in_x (n := 6) hI.2.2.1 (by decide) c5))) rfl rfl rfl ?_
    refine k_aald2 C O (r := (5, _)) d_X_map_23 xr_1 rfl 3 rfl ((hI.2.2.2.2.1 _ (vi_lt (in_x (n := 6) hI.2.2.1 (by decide) c5))).2) rfl rfl ?_
    refine k_astore_n C d_X_map_24 rfl (Nat.le_of_ble_eq_true rfl) rfl ?_
    refine k_aload_n C d_X_map_25 rfl rfl ?_
    refine k_cvI X d_X_map_26 (c_F_isMade l b dA D g (tn (g.1 14 (tn n) 0)) (vi_lt ((hI.2.2.2.2.1 _ (vi_lt (in_x (n := 6) hI.2.2.1 (by decide) c5))).2))) cv_X_70 (xr_5 (vi_lt ((hI.2.2.2.2.1 _ (vi_lt (in_x (n := 6) hI.2.2.1 (by decide) c5))).2))) rfl rfl ⟨by decide, by decide⟩ rfl rfl (Nat.le_of_ble_eq_true rfl) ?_
    refine k_if_eq C (tgt := 50) d_X_map_29 (by decide) (fun c29 => ?_) (fun c29 => ?_)
    · refine k_iconst C (v := (-1)) d_X_map_50 (by decide) ?_
      exact k_iret X d_X_map_51 (k_pr ((if_neg c5).trans ((if_pos c29).trans (rfl))))
    · refine k_aload_n C d_X_map_32 rfl rfl ?_
      refine k_getI C O d_X_map_33 fl_X_162 (xr_5 (vi_lt ((hI.2.2.2.2.1 _ (vi_lt (in_x (n := 6) hI.2.2.1 (by decide) c5))).2))) rfl rfl rfl ?_
      refine k_if_eq C (tgt := 50) d_X_map_36 (by decide) (fun c36 => ?_) (fun c36 => ?_)
      · refine k_iconst C (v := (-1)) d_X_map_50 (by decide) ?_
        exact k_iret X d_X_map_51 (k_pr ((if_neg c5).trans ((if_neg c29).trans ((if_pos c36).trans (rfl)))))
      · refine k_aload_n C d_X_map_39 rfl rfl ?_
        refine k_aload_n C d_X_map_40 rfl rfl ?_
        refine k_cvI X d_X_map_41 (c_X_freshActions l b dA D g (tn (g.1 0 0 5)) hI.2.1.1 hI.2.1.2 (fun i hi => ⟨(hI.2.2.2.1 i (Nat.lt_of_lt_of_le hi hI.2.1.2)).1.2.1, (hI.2.2.2.1 i (Nat.lt_of_lt_of_le hi hI.2.1.2)).2⟩)) cv_X_113 xr_0 rfl rfl ⟨by decide, by decide⟩ rfl rfl (Nat.le_of_ble_eq_true rfl) ?_
        refine k_csI X d_X_map_44 (c_X_isFresh l b dA D g (tn (g.1 14 (tn n) 0)) (vi_lt ((hI.2.2.2.2.1 _ (vi_lt (in_x (n := 6) hI.2.2.1 (by decide) c5))).2)) (xFresh g)) cs_X_165 ⟨by decide, by decide⟩ rfl rfl (Nat.le_of_ble_eq_true rfl) ?_
        refine k_if_ne C (tgt := 52) d_X_map_47 (by decide) (fun c47 => ?_) (fun c47 => ?_)
        · refine k_aload_n C d_X_map_52 rfl rfl ?_
          refine k_getR C O (r := (3, _)) d_X_map_53 fl_X_23 xr_0 rfl rfl rfl rfl ?_
          refine k_iload_n C d_X_map_56 rfl rfl ?_
          refine k_aald2 C O (r := (14, _)) d_X_map_57 xr_3 rfl 5 rfl (in_x (n := 6) hI.2.2.1 (by decide) c5) rfl rfl ?_
          refine k_aload_n C d_X_map_58 rfl rfl ?_
          refine k_getJ C O d_X_map_59 fl_X_136 (xr_5 (vi_lt ((hI.2.2.2.2.1 _ (vi_lt (in_x (n := 6) hI.2.2.1 (by decide) c5))).2))) rfl rfl rfl ?_
          refine k_aload_n C d_X_map_62 rfl rfl ?_
          refine k_csI X d_X_map_63 (c_X_treeSize l b dA D g (tn (g.1 14 (tn n) 0)) (vi_lt ((hI.2.2.2.2.1 _ (vi_lt (in_x (n := 6) hI.2.2.1 (by decide) c5))).2))) cs_X_149 ⟨by decide, by decide⟩ rfl rfl (Nat.le_of_ble_eq_true rfl) ?_
          refine k_cvI X d_X_map_66 (xTake_c l b dA D g (tn n) (vi_lt (in_x (n := 6) hI.2.2.1 (by decide) c5)) (tn (g.1 14 (tn n) 0)) (hI.2.2.2.2.1 _ (vi_lt (in_x (n := 6) hI.2.2.1 (by decide) c5))).1 ht) cv_X_169 (xr_14 (vi_lt (in_x (n := 6) hI.2.2.1 (by decide) c5))) rfl rfl ⟨by decide, by decide⟩ rfl rfl (Nat.le_of_ble_eq_true rfl) ?_
          exact k_iret X d_X_map_69 (k_pr ((if_neg c5).trans ((if_neg c29).trans ((if_neg c36).trans ((if_neg c47).trans (rfl))))))
        · refine k_iconst C (v := (-1)) d_X_map_50 (by decide) ?_
          exact k_iret X d_X_map_51 (k_pr ((if_neg c5).trans ((if_neg c29).trans ((if_neg c36).trans ((if_pos c47).trans (rfl))))))
  · refine k_iconst C (v := (-1)) d_X_map_8 (by decide) ?_
    exact k_iret X d_X_map_9 (k_pr ((if_pos c5).trans (rfl)))

set_option maxHeartbeats 4000000 in
set_option maxRecDepth 100000 in
theorem c_X_result (l : Launch) (b : Nat → Nat → Nat) (dA : Nat → ClassId) (D : va_G) (g : kG) (n i : Int32) (hI : xI g) : kMd (sysX b dA D) l y_X_result b_X_result 3 (some .long) 2 43 [.inr (.inr (0, 0)), .inl n, .inl i] g (some (.inr (.inl (xResult g n i)))) g := by
  refine k_enter (by decide) [some (.inr (.inr (0, 0))), some (.inl n), some (.inl i)] rfl rfl (Nat.le_of_ble_eq_true rfl) (fun x X => ?_)
  have C := X.1
  have O := X.2.1
  refine k_aload_n C d_X_result_0 rfl rfl ?_
  refine k_iload_n C d_X_result_1 rfl rfl ?_
  refine k_cvI X d_X_result_2 (c_X_isMapping l b dA D g n) cv_X_159 xr_0 rfl rfl ⟨by decide, by decide⟩ rfl rfl (Nat.le_of_ble_eq_true rfl) ?_
  refine k_if_eq C (tgt := 21) d_X_result_5 (by decide) (fun c5 => ?_) (fun c5 => ?_)
  · refine k_lconst C (v := 0) d_X_result_21 (by decide) ?_
    exact k_lret X d_X_result_22 (k_pl ((if_pos c5).trans (rfl)))
  · refine k_aload_n C d_X_result_8 rfl rfl ?_
    refine k_getR C O (r := (3, _)) d_X_result_9 fl_X_23 xr_0 rfl rfl rfl rfl ?_
    refine k_iload_n C d_X_result_12 rfl rfl ?_
    refine k_aald2 C O (r := (14, _)) d_X_result_13 xr_3 rfl 5 rfl (in_x (n := 6) hI.2.2.1 (by decide) c5) rfl rfl ?_
    refine k_iload_n C d_X_result_14 rfl rfl ?_
    refine k_cvJ X d_X_result_15 (c_G_resultOf l b dA D g (tn n) (vi_lt (in_x (n := 6) hI.2.2.1 (by decide) c5)) i) cv_X_173 (xr_14 (vi_lt (in_x (n := 6) hI.2.2.1 (by decide) c5))) rfl rfl ⟨by decide, by decide⟩ rfl rfl (Nat.le_of_ble_eq_true rfl) ?_
    refine k_goto C (tgt := 22) d_X_result_18 (by decide) ?_
    exact k_lret X d_X_result_22 (k_pl ((if_neg c5).trans (rfl)))
