/-! the class: specs and contracts, 1: leaves (by program: wip/gen/cx1.py) -/
def xIn (n c : Int32) : Int32 := if n < 0 then 0 else if c ≤ n then 0 else 1
def xMade (g : kG) (i : Nat) : Int32 := if g.1 5 i 2 = -1 then 0 else 1
def xPut (g : kG) (i : Nat) (d : Int64) : kG := (kU g.1 5 i 0 1, kUJ g.2 5 i 1 d)
def xRem (g : kG) (i : Nat) : kG := (kU g.1 5 i 0 0, kUJ g.2 5 i 1 0)
def xFgt (g : kG) (i : Nat) : kG := (kU (kU g.1 6 i 6 0) 9 i 4 0, g.2)
def xSum (g : kG) (i : Nat) (t : Int64) : kG := (g.1, kUJ g.2 6 i 8 (31 * g.2 6 i 8 + t))
def xAddRow (g : kG) (i : Nat) (k t : Int32) : Int32 × kG := if g.1 6 i 2 < 12 then (1, xFgt (kU (kU (kU g.1 7 i (g.1 6 i 2).toNatClampNeg k) 8 i (g.1 6 i 2).toNatClampNeg t) 6 i 2 (g.1 6 i 2 + 1), g.2) i) else (0, g)
def xBit (m n : Int32) : Int32 := if ((m.toUInt32 >>> (n.toUInt32 &&& Int32.toUInt32 31)).toInt32 &&& 1) = 0 then 0 else 1
def xFr (g : kG) (i : Nat) (m : Int32) : Int32 := if xMade g i = 0 then 1 else if xBit m (g.1 5 i 2) = 0 then 0 else 1
def xMem (d : Int64) (i : Int32) : Int64 := d ^^^ (i.toInt64 * 1000003)
def jFm (a b : Int64) : Int64 := if 0 ≤ lg_cmp (a ^^^ b) 0 then a - a / b * b else if lg_cmp (a - a / b * b) 0 = 0 then a - a / b * b else a - a / b * b + b
def xTree (g : kG) (i : Nat) : Int32 := if xMade g i = 0 then 0 else if g.1 5 i 0 = 0 then 0 else (jFm (g.2 5 i 1) 5).toInt32
def xLike (g : kG) (i : Nat) (j : Int32) (f : Nat) : Int32 := if g.1 11 i j.toNatClampNeg = g.1 5 f 0 then (if g.1 12 i j.toNatClampNeg = 0 then 1 else if lg_cmp (g.2 13 i j.toNatClampNeg) (g.2 5 f 1) = 0 then 1 else 0) else 0
def xTell (g : kG) (i : Nat) (j w : Int32) : Int32 := if j < 0 then -1 else if j < g.1 9 i 4 then (if w.toInt < 0 ∨ 2 < w.toInt then -1 else if w = 0 then g.1 10 i j.toNatClampNeg else if w = 1 then (if g.1 11 i j.toNatClampNeg = 0 then 0 else 1) else (if g.1 12 i j.toNatClampNeg = 0 then 0 else 1)) else -1
set_option maxHeartbeats 4000000 in
set_option maxRecDepth 100000 in
theorem c_F_put (l : Launch) (b : Nat → Nat → Nat) (dA : Nat → ClassId) (D : va_G) (g : kG) (i : Nat) (hi : i < 24) (d : Int64) : kMd (sysX b dA D) l y_F_put b_F_put 3 none 0 0 [.inr (.inr (5, i)), .inr (.inl d)] g none (xPut g i d) := by
  refine k_enter (by decide) [some (.inr (.inr (5, i))), some (.inr (.inl d)), none] rfl rfl (Nat.le_of_ble_eq_true rfl) (fun x X => ?_)
  have C := X.1
  have O := X.2.1
  refine k_aload_n C d_F_put_0 rfl rfl ?_
  refine k_iconst C (v := 1) d_F_put_1 (by decide) ?_
  refine k_putZ C O d_F_put_2 fp_F_9 (Or.inr rfl) (xr_5 hi) rfl rfl rfl ?_
  refine k_aload_n C d_F_put_5 rfl rfl ?_
  refine k_lload_n C d_F_put_6 rfl rfl ?_
  refine k_putJ C O d_F_put_7 fp_F_15 (xr_5 hi) rfl rfl rfl ?_
  exact k_vret X d_F_put_10 (⟨by simp only [xPut], by simp only [xPut]⟩)

set_option maxHeartbeats 4000000 in
set_option maxRecDepth 100000 in
theorem c_F_remove (l : Launch) (b : Nat → Nat → Nat) (dA : Nat → ClassId) (D : va_G) (g : kG) (i : Nat) (hi : i < 24) : kMd (sysX b dA D) l y_F_remove b_F_remove 1 none 0 0 [.inr (.inr (5, i))] g none (xRem g i) := by
  refine k_enter (by decide) [some (.inr (.inr (5, i)))] rfl rfl (Nat.le_of_ble_eq_true rfl) (fun x X => ?_)
  have C := X.1
  have O := X.2.1
  refine k_aload_n C d_F_remove_0 rfl rfl ?_
  refine k_iconst C (v := 0) d_F_remove_1 (by decide) ?_
  refine k_putZ C O d_F_remove_2 fp_F_9 (Or.inl rfl) (xr_5 hi) rfl rfl rfl ?_
  refine k_aload_n C d_F_remove_5 rfl rfl ?_
  refine k_lconst C (v := 0) d_F_remove_6 (by decide) ?_
  refine k_putJ C O d_F_remove_7 fp_F_15 (xr_5 hi) rfl rfl rfl ?_
  exact k_vret X d_F_remove_10 (⟨by simp only [xRem], by simp only [xRem]⟩)

set_option maxHeartbeats 4000000 in
set_option maxRecDepth 100000 in
theorem c_F_isMade (l : Launch) (b : Nat → Nat → Nat) (dA : Nat → ClassId) (D : va_G) (g : kG) (i : Nat) (hi : i < 24) : kMd (sysX b dA D) l y_F_isMade b_F_isMade 1 (some .boolean) 0 0 [.inr (.inr (5, i))] g (some (.inl (xMade g i))) g := by
  refine k_enter (by decide) [some (.inr (.inr (5, i)))] rfl rfl (Nat.le_of_ble_eq_true rfl) (fun x X => ?_)
  have C := X.1
  have O := X.2.1
  refine k_aload_n C d_F_isMade_0 rfl rfl ?_
  refine k_getI C O d_F_isMade_1 fl_F_19 (xr_5 hi) rfl rfl rfl ?_
  refine k_iconst C (v := (-1)) d_F_isMade_4 (by decide) ?_
  refine k_icmp_eq C (tgt := 12) d_F_isMade_5 (by decide) (fun c5 => ?_) (fun c5 => ?_)
  · refine k_iconst C (v := 0) d_F_isMade_12 (by decide) ?_
    exact k_zret X d_F_isMade_13 (Or.inl rfl) (⟨by simp only [xMade, if_pos c5], by simp only [xMade, if_pos c5]⟩)
  · refine k_iconst C (v := 1) d_F_isMade_8 (by decide) ?_
    refine k_goto C (tgt := 13) d_F_isMade_9 (by decide) ?_
    exact k_zret X d_F_isMade_13 (Or.inr rfl) (⟨by simp only [xMade, if_neg c5], by simp only [xMade, if_neg c5]⟩)

set_option maxHeartbeats 4000000 in
set_option maxRecDepth 100000 in
theorem c_A_forget (l : Launch) (b : Nat → Nat → Nat) (dA : Nat → ClassId) (D : va_G) (g : kG) (i : Nat) (hi : i < 12) : kMd (sysX b dA D) l y_A_forget b_A_forget 1 none 0 0 [.inr (.inr (6, i))] g none (xFgt g i) := by
  refine k_enter (by decide) [some (.inr (.inr (6, i)))] rfl rfl (Nat.le_of_ble_eq_true rfl) (fun x X => ?_)
  have C := X.1
  have O := X.2.1
  refine k_aload_n C d_A_forget_0 rfl rfl ?_
  refine k_iconst C (v := 0) d_A_forget_1 (by decide) ?_
  refine k_putZ C O d_A_forget_2 fp_A_35 (Or.inl rfl) (xr_6 hi) rfl rfl rfl ?_
  refine k_aload_n C d_A_forget_5 rfl rfl ?_
  refine k_getR C O (r := (9, _)) d_A_forget_6 fl_A_31 (xr_6 hi) rfl rfl rfl rfl ?_
  refine k_iconst C (v := 0) d_A_forget_9 (by decide) ?_
  refine k_putI C O d_A_forget_10 fp_A_63 (xr_9 hi) rfl rfl rfl ?_
  exact k_vret X d_A_forget_13 (⟨by simp only [xFgt], by simp only [xFgt]⟩)

set_option maxHeartbeats 4000000 in
set_option maxRecDepth 100000 in
theorem c_A_addToSum (l : Launch) (b : Nat → Nat → Nat) (dA : Nat → ClassId) (D : va_G) (g : kG) (i : Nat) (hi : i < 12) (t : Int64) : kMd (sysX b dA D) l y_A_addToSum b_A_addToSum 3 none 0 0 [.inr (.inr (6, i)), .inr (.inl t)] g none (xSum g i t) := by
  refine k_enter (by decide) [some (.inr (.inr (6, i))), some (.inr (.inl t)), none] rfl rfl (Nat.le_of_ble_eq_true rfl) (fun x X => ?_)
  have C := X.1
  have O := X.2.1
  refine k_aload_n C d_A_addToSum_0 rfl rfl ?_
  refine k_ldc2 C (v := 31) d_A_addToSum_1 (by decide +kernel) ?_
  refine k_aload_n C d_A_addToSum_4 rfl rfl ?_
  refine k_getJ C O d_A_addToSum_5 fl_A_42 (xr_6 hi) rfl rfl rfl ?_
  refine k_lmul C d_A_addToSum_8 ?_
  refine k_lload_n C d_A_addToSum_9 rfl rfl ?_
  refine k_ladd C d_A_addToSum_10 ?_
  refine k_putJ C O d_A_addToSum_11 fp_A_42 (xr_6 hi) rfl rfl rfl ?_
  exact k_vret X d_A_addToSum_14 (⟨by simp only [xSum], by simp only [xSum]⟩)

set_option maxHeartbeats 4000000 in
set_option maxRecDepth 100000 in
theorem c_A_addRow (l : Launch) (b : Nat → Nat → Nat) (dA : Nat → ClassId) (D : va_G) (g : kG) (i : Nat) (hi : i < 12) (k t : Int32) (h0 : g.1 6 i 2 < 12 → vp_in (g.1 6 i 2) 12) : kMd (sysX b dA D) l y_A_addRow b_A_addRow 3 (some .boolean) 1 20 [.inr (.inr (6, i)), .inl k, .inl t] g (some (.inl (xAddRow g i k t).1)) (xAddRow g i k t).2 := by
  refine k_enter (by decide) [some (.inr (.inr (6, i))), some (.inl k), some (.inl t)] rfl rfl (Nat.le_of_ble_eq_true rfl) (fun x X => ?_)
  have C := X.1
  have O := X.2.1
  refine k_aload_n C d_A_addRow_0 rfl rfl ?_
  refine k_getI C O d_A_addRow_1 fl_A_18 (xr_6 hi) rfl rfl rfl ?_
  refine k_bipush C (v := 12) d_A_addRow_4 (by decide) ?_
  refine k_icmp_lt C (tgt := 11) d_A_addRow_6 (by decide) (fun c6 => ?_) (fun c6 => ?_)
  · refine k_aload_n C d_A_addRow_11 rfl rfl ?_
    refine k_getR C O (r := (7, _)) d_A_addRow_12 fl_A_9 (xr_6 hi) rfl rfl rfl rfl ?_
    refine k_aload_n C d_A_addRow_15 rfl rfl ?_
    refine k_getI C O d_A_addRow_16 fl_A_18 (xr_6 hi) rfl rfl rfl ?_
    refine k_iload_n C d_A_addRow_19 rfl rfl ?_
    refine k_iast2 C O d_A_addRow_20 (xr_7 hi) rfl 0 rfl (h0 c6) rfl ?_
    refine k_aload_n C d_A_addRow_21 rfl rfl ?_
    refine k_getR C O (r := (8, _)) d_A_addRow_22 fl_A_15 (xr_6 hi) rfl rfl rfl rfl ?_
    refine k_aload_n C d_A_addRow_25 rfl rfl ?_
    refine k_getI C O d_A_addRow_26 fl_A_18 (xr_6 hi) rfl rfl rfl ?_
    refine k_iload_n C d_A_addRow_29 rfl rfl ?_
    refine k_iast2 C O d_A_addRow_30 (xr_8 hi) rfl 0 rfl (h0 c6) rfl ?_
    refine k_aload_n C d_A_addRow_31 rfl rfl ?_
    refine k_dup C d_A_addRow_32 rfl ?_
    refine k_getI C O d_A_addRow_33 fl_A_18 (xr_6 hi) rfl rfl rfl ?_
    refine k_iconst C (v := 1) d_A_addRow_36 (by decide) ?_
    refine k_iadd C d_A_addRow_37 ?_
    refine k_putI C O d_A_addRow_38 fp_A_18 (xr_6 hi) rfl rfl rfl ?_
    refine k_aload_n C d_A_addRow_41 rfl rfl ?_
    refine k_cvV X d_A_addRow_42 (c_A_forget l b dA D _ i hi) cv_A_58 (xr_6 hi) rfl rfl ⟨by decide, by decide⟩ rfl rfl (Nat.le_of_ble_eq_true rfl) ?_
    refine k_iconst C (v := 1) d_A_addRow_45 (by decide) ?_
    exact k_zret X d_A_addRow_46 (Or.inr rfl) (⟨by simp only [xAddRow, if_pos c6], by simp only [xAddRow, if_pos c6]; rfl⟩)
  · refine k_iconst C (v := 0) d_A_addRow_9 (by decide) ?_
    exact k_zret X d_A_addRow_10 (Or.inl rfl) (⟨by simp only [xAddRow, if_neg c6], by simp only [xAddRow, if_neg c6]⟩)

set_option maxHeartbeats 4000000 in
set_option maxRecDepth 100000 in
theorem c_X_isFile (l : Launch) (b : Nat → Nat → Nat) (dA : Nat → ClassId) (D : va_G) (g : kG) (n : Int32) : kMd (sysX b dA D) l y_X_isFile b_X_isFile 2 (some .boolean) 0 0 [.inr (.inr (0, 0)), .inl n] g (some (.inl (xIn n (g.1 0 0 4)))) g := by
  refine k_enter (by decide) [some (.inr (.inr (0, 0))), some (.inl n)] rfl rfl (Nat.le_of_ble_eq_true rfl) (fun x X => ?_)
  have C := X.1
  have O := X.2.1
  refine k_iload_n C d_X_isFile_0 rfl rfl ?_
  refine k_if_lt C (tgt := 16) d_X_isFile_1 (by decide) (fun c1 => ?_) (fun c1 => ?_)
  · refine k_iconst C (v := 0) d_X_isFile_16 (by decide) ?_
    exact k_zret X d_X_isFile_17 (Or.inl rfl) (⟨by simp only [xIn, if_pos c1], by simp only [xIn, if_pos c1]⟩)
  · refine k_iload_n C d_X_isFile_4 rfl rfl ?_
    refine k_aload_n C d_X_isFile_5 rfl rfl ?_
    refine k_getI C O d_X_isFile_6 fl_X_27 xr_0 rfl rfl rfl ?_
    refine k_icmp_ge C (tgt := 16) d_X_isFile_9 (by decide) (fun c9 => ?_) (fun c9 => ?_)
    · refine k_iconst C (v := 0) d_X_isFile_16 (by decide) ?_
      exact k_zret X d_X_isFile_17 (Or.inl rfl) (⟨by simp only [xIn, if_neg c1, if_pos c9], by simp only [xIn, if_neg c1, if_pos c9]⟩)
    · refine k_iconst C (v := 1) d_X_isFile_12 (by decide) ?_
      refine k_goto C (tgt := 17) d_X_isFile_13 (by decide) ?_
      exact k_zret X d_X_isFile_17 (Or.inr rfl) (⟨by simp only [xIn, if_neg c1, if_neg c9], by simp only [xIn, if_neg c1, if_neg c9]⟩)

set_option maxHeartbeats 4000000 in
set_option maxRecDepth 100000 in
theorem c_X_isAction (l : Launch) (b : Nat → Nat → Nat) (dA : Nat → ClassId) (D : va_G) (g : kG) (n : Int32) : kMd (sysX b dA D) l y_X_isAction b_X_isAction 2 (some .boolean) 0 0 [.inr (.inr (0, 0)), .inl n] g (some (.inl (xIn n (g.1 0 0 5)))) g := by
  refine k_enter (by decide) [some (.inr (.inr (0, 0))), some (.inl n)] rfl rfl (Nat.le_of_ble_eq_true rfl) (fun x X => ?_)
  have C := X.1
  have O := X.2.1
  refine k_iload_n C d_X_isAction_0 rfl rfl ?_
  refine k_if_lt C (tgt := 16) d_X_isAction_1 (by decide) (fun c1 => ?_) (fun c1 => ?_)
  · refine k_iconst C (v := 0) d_X_isAction_16 (by decide) ?_
    exact k_zret X d_X_isAction_17 (Or.inl rfl) (⟨by simp only [xIn, if_pos c1], by simp only [xIn, if_pos c1]⟩)
  · refine k_iload_n C d_X_isAction_4 rfl rfl ?_
    refine k_aload_n C d_X_isAction_5 rfl rfl ?_
    refine k_getI C O d_X_isAction_6 fl_X_31 xr_0 rfl rfl rfl ?_
    refine k_icmp_ge C (tgt := 16) d_X_isAction_9 (by decide) (fun c9 => ?_) (fun c9 => ?_)
    · refine k_iconst C (v := 0) d_X_isAction_16 (by decide) ?_
      exact k_zret X d_X_isAction_17 (Or.inl rfl) (⟨by simp only [xIn, if_neg c1, if_pos c9], by simp only [xIn, if_neg c1, if_pos c9]⟩)
    · refine k_iconst C (v := 1) d_X_isAction_12 (by decide) ?_
      refine k_goto C (tgt := 17) d_X_isAction_13 (by decide) ?_
      exact k_zret X d_X_isAction_17 (Or.inr rfl) (⟨by simp only [xIn, if_neg c1, if_neg c9], by simp only [xIn, if_neg c1, if_neg c9]⟩)

set_option maxHeartbeats 4000000 in
set_option maxRecDepth 100000 in
theorem c_X_isMapping (l : Launch) (b : Nat → Nat → Nat) (dA : Nat → ClassId) (D : va_G) (g : kG) (n : Int32) : kMd (sysX b dA D) l y_X_isMapping b_X_isMapping 2 (some .boolean) 0 0 [.inr (.inr (0, 0)), .inl n] g (some (.inl (xIn n (g.1 0 0 6)))) g := by
  refine k_enter (by decide) [some (.inr (.inr (0, 0))), some (.inl n)] rfl rfl (Nat.le_of_ble_eq_true rfl) (fun x X => ?_)
  have C := X.1
  have O := X.2.1
  refine k_iload_n C d_X_isMapping_0 rfl rfl ?_
  refine k_if_lt C (tgt := 16) d_X_isMapping_1 (by decide) (fun c1 => ?_) (fun c1 => ?_)
  · refine k_iconst C (v := 0) d_X_isMapping_16 (by decide) ?_
    exact k_zret X d_X_isMapping_17 (Or.inl rfl) (⟨by simp only [xIn, if_pos c1], by simp only [xIn, if_pos c1]⟩)
  · refine k_iload_n C d_X_isMapping_4 rfl rfl ?_
    refine k_aload_n C d_X_isMapping_5 rfl rfl ?_
    refine k_getI C O d_X_isMapping_6 fl_X_34 xr_0 rfl rfl rfl ?_
    refine k_icmp_ge C (tgt := 16) d_X_isMapping_9 (by decide) (fun c9 => ?_) (fun c9 => ?_)
    · refine k_iconst C (v := 0) d_X_isMapping_16 (by decide) ?_
      exact k_zret X d_X_isMapping_17 (Or.inl rfl) (⟨by simp only [xIn, if_neg c1, if_pos c9], by simp only [xIn, if_neg c1, if_pos c9]⟩)
    · refine k_iconst C (v := 1) d_X_isMapping_12 (by decide) ?_
      refine k_goto C (tgt := 17) d_X_isMapping_13 (by decide) ?_
      exact k_zret X d_X_isMapping_17 (Or.inr rfl) (⟨by simp only [xIn, if_neg c1, if_neg c9], by simp only [xIn, if_neg c1, if_neg c9]⟩)

set_option maxHeartbeats 4000000 in
set_option maxRecDepth 100000 in
theorem c_X_hasBit (l : Launch) (b : Nat → Nat → Nat) (dA : Nat → ClassId) (D : va_G) (g : kG) (m n : Int32) : kMd (sysX b dA D) l y_X_hasBit b_X_hasBit 2 (some .boolean) 0 0 [.inl m, .inl n] g (some (.inl (xBit m n))) g := by
  refine k_enter (by decide) [some (.inl m), some (.inl n)] rfl rfl (Nat.le_of_ble_eq_true rfl) (fun x X => ?_)
  have C := X.1
  have O := X.2.1
  refine k_iload_n C d_X_hasBit_0 rfl rfl ?_
  refine k_iload_n C d_X_hasBit_1 rfl rfl ?_
  refine k_iushr C d_X_hasBit_2 rfl ?_
  refine k_iconst C (v := 1) d_X_hasBit_3 (by decide) ?_
  refine k_iand C d_X_hasBit_4 ?_
  refine k_if_eq C (tgt := 12) d_X_hasBit_5 (by decide) (fun c5 => ?_) (fun c5 => ?_)
  · refine k_iconst C (v := 0) d_X_hasBit_12 (by decide) ?_
    exact k_zret X d_X_hasBit_13 (Or.inl rfl) (⟨by simp only [xBit, if_pos c5], by simp only [xBit, if_pos c5]⟩)
  · refine k_iconst C (v := 1) d_X_hasBit_8 (by decide) ?_
    refine k_goto C (tgt := 13) d_X_hasBit_9 (by decide) ?_
    exact k_zret X d_X_hasBit_13 (Or.inr rfl) (⟨by simp only [xBit, if_neg c5], by simp only [xBit, if_neg c5]⟩)

set_option maxHeartbeats 4000000 in
set_option maxRecDepth 100000 in
theorem c_X_isFresh (l : Launch) (b : Nat → Nat → Nat) (dA : Nat → ClassId) (D : va_G) (g : kG) (i : Nat) (hi : i < 24) (m : Int32) : kMd (sysX b dA D) l y_X_isFresh b_X_isFresh 2 (some .boolean) 1 21 [.inr (.inr (5, i)), .inl m] g (some (.inl (xFr g i m))) g := by
  refine k_enter (by decide) [some (.inr (.inr (5, i))), some (.inl m)] rfl rfl (Nat.le_of_ble_eq_true rfl) (fun x X => ?_)
  have C := X.1
  have O := X.2.1
  refine k_aload_n C d_X_isFresh_0 rfl rfl ?_
  refine k_cvI X d_X_isFresh_1 (c_F_isMade l b dA D g i hi) cv_X_70 (xr_5 hi) rfl rfl ⟨by decide, by decide⟩ rfl rfl (Nat.le_of_ble_eq_true rfl) ?_
  refine k_if_eq C (tgt := 18) d_X_isFresh_4 (by decide) (fun c4 => ?_) (fun c4 => ?_)
  · refine k_iconst C (v := 1) d_X_isFresh_18 (by decide) ?_
    refine k_goto C (tgt := 23) d_X_isFresh_19 (by decide) ?_
    exact k_zret X d_X_isFresh_23 (Or.inr rfl) (⟨by simp only [xFr, if_pos c4], by simp only [xFr, if_pos c4]⟩)
  · refine k_iload_n C d_X_isFresh_7 rfl rfl ?_
    refine k_aload_n C d_X_isFresh_8 rfl rfl ?_
    refine k_getI C O d_X_isFresh_9 fl_X_89 (xr_5 hi) rfl rfl rfl ?_
    refine k_csI X d_X_isFresh_12 (c_X_hasBit l b dA D g m (g.1 5 i 2)) cs_X_117 ⟨by decide, by decide⟩ rfl rfl (Nat.le_of_ble_eq_true rfl) ?_
    refine k_if_eq C (tgt := 22) d_X_isFresh_15 (by decide) (fun c15 => ?_) (fun c15 => ?_)
    · refine k_iconst C (v := 0) d_X_isFresh_22 (by decide) ?_
      exact k_zret X d_X_isFresh_23 (Or.inl rfl) (⟨by simp only [xFr, if_neg c4, if_pos c15], by simp only [xFr, if_neg c4, if_pos c15]⟩)
    · refine k_iconst C (v := 1) d_X_isFresh_18 (by decide) ?_
      refine k_goto C (tgt := 23) d_X_isFresh_19 (by decide) ?_
      exact k_zret X d_X_isFresh_23 (Or.inr rfl) (⟨by simp only [xFr, if_neg c4, if_neg c15], by simp only [xFr, if_neg c4, if_neg c15]⟩)

set_option maxHeartbeats 4000000 in
set_option maxRecDepth 100000 in
theorem c_X_memberDigest (l : Launch) (b : Nat → Nat → Nat) (dA : Nat → ClassId) (D : va_G) (g : kG) (d : Int64) (i : Int32) : kMd (sysX b dA D) l y_X_memberDigest b_X_memberDigest 3 (some .long) 0 0 [.inr (.inl d), .inl i] g (some (.inr (.inl (xMem d i)))) g := by
  refine k_enter (by decide) [some (.inr (.inl d)), none, some (.inl i)] rfl rfl (Nat.le_of_ble_eq_true rfl) (fun x X => ?_)
  have C := X.1
  have O := X.2.1
  refine k_lload_n C d_X_memberDigest_0 rfl rfl ?_
  refine k_iload_n C d_X_memberDigest_1 rfl rfl ?_
  refine k_i2l C d_X_memberDigest_2 ?_
  refine k_ldc2 C (v := 1000003) d_X_memberDigest_3 (by decide +kernel) ?_
  refine k_lmul C d_X_memberDigest_6 ?_
  refine k_lxor C d_X_memberDigest_7 ?_
  exact k_lret X d_X_memberDigest_8 (⟨by simp only [xMem], by simp only [xMem]⟩)

set_option maxHeartbeats 4000000 in
set_option maxRecDepth 100000 in
theorem c_J_floorMod (l : Launch) (b : Nat → Nat → Nat) (dA : Nat → ClassId) (D : va_G) (g : kG) (p q : Int64) (hq : ¬ q = 0) : kMd (sysX b dA D) l y_J_floorMod b_J_floorMod 6 (some .long) 0 0 [.inr (.inl p), .inr (.inl q)] g (some (.inr (.inl (jFm p q)))) g := by
  refine k_enterF (by decide +kernel) [some (.inr (.inl p)), none, some (.inr (.inl q)), none, none, none] rfl rfl (Nat.le_of_ble_eq_true rfl) (fun x X => ?_)
  have C := X.1
  have O := X.2.1
  refine k_lload_n C d_J_floorMod_0 rfl rfl ?_
  refine k_lload_n C d_J_floorMod_1 rfl rfl ?_
  refine k_lrem C d_J_floorMod_2 hq ?_
  refine k_lstore C d_J_floorMod_3 (Nat.le_of_ble_eq_true rfl) rfl ?_
  refine k_lload_n C d_J_floorMod_5 rfl rfl ?_
  refine k_lload_n C d_J_floorMod_6 rfl rfl ?_
  refine k_lxor C d_J_floorMod_7 ?_
  refine k_lconst C (v := 0) d_J_floorMod_8 (by decide) ?_
  refine k_lcmp C d_J_floorMod_9 ?_
  refine k_if_ge C (tgt := 25) d_J_floorMod_10 (by decide) (fun c10 => ?_) (fun c10 => ?_)
  · refine k_lload C d_J_floorMod_25 rfl ?_
    exact k_lret X d_J_floorMod_27 (⟨by simp only [jFm, if_pos c10], by simp only [jFm, if_pos c10]⟩)
  · refine k_lload C d_J_floorMod_13 rfl ?_
    refine k_lconst C (v := 0) d_J_floorMod_15 (by decide) ?_
    refine k_lcmp C d_J_floorMod_16 ?_
    refine k_if_eq C (tgt := 25) d_J_floorMod_17 (by decide) (fun c17 => ?_) (fun c17 => ?_)
    · refine k_lload C d_J_floorMod_25 rfl ?_
      exact k_lret X d_J_floorMod_27 (⟨by simp only [jFm, if_neg c10, if_pos c17], by simp only [jFm, if_neg c10, if_pos c17]⟩)
    · refine k_lload C d_J_floorMod_20 rfl ?_
      refine k_lload_n C d_J_floorMod_22 rfl rfl ?_
      refine k_ladd C d_J_floorMod_23 ?_
      exact k_lret X d_J_floorMod_24 (⟨by simp only [jFm, if_neg c10, if_neg c17], by simp only [jFm, if_neg c10, if_neg c17]⟩)

set_option maxHeartbeats 4000000 in
set_option maxRecDepth 100000 in
theorem c_X_treeSize (l : Launch) (b : Nat → Nat → Nat) (dA : Nat → ClassId) (D : va_G) (g : kG) (i : Nat) (hi : i < 24) : kMd (sysX b dA D) l y_X_treeSize b_X_treeSize 1 (some .int) 1 25 [.inr (.inr (5, i))] g (some (.inl (xTree g i))) g := by
  refine k_enter (by decide) [some (.inr (.inr (5, i)))] rfl rfl (Nat.le_of_ble_eq_true rfl) (fun x X => ?_)
  have C := X.1
  have O := X.2.1
  refine k_aload_n C d_X_treeSize_0 rfl rfl ?_
  refine k_cvI X d_X_treeSize_1 (c_F_isMade l b dA D g i hi) cv_X_70 (xr_5 hi) rfl rfl ⟨by decide, by decide⟩ rfl rfl (Nat.le_of_ble_eq_true rfl) ?_
  refine k_if_eq C (tgt := 14) d_X_treeSize_4 (by decide) (fun c4 => ?_) (fun c4 => ?_)
  · refine k_iconst C (v := 0) d_X_treeSize_14 (by decide) ?_
    exact k_iret X d_X_treeSize_15 (⟨by simp only [xTree, if_pos c4], by simp only [xTree, if_pos c4]⟩)
  · refine k_aload_n C d_X_treeSize_7 rfl rfl ?_
    refine k_getI C O d_X_treeSize_8 fl_X_162 (xr_5 hi) rfl rfl rfl ?_
    refine k_if_ne C (tgt := 16) d_X_treeSize_11 (by decide) (fun c11 => ?_) (fun c11 => ?_)
    · refine k_aload_n C d_X_treeSize_16 rfl rfl ?_
      refine k_getJ C O d_X_treeSize_17 fl_X_136 (xr_5 hi) rfl rfl rfl ?_
      refine k_ldc2 C (v := 5) d_X_treeSize_20 (by decide +kernel) ?_
      refine k_csJ X d_X_treeSize_23 (c_J_floorMod l b dA D g (g.2 5 i 1) 5 (by decide)) cs_X_234 ⟨by decide, by decide⟩ rfl rfl (Nat.le_of_ble_eq_true rfl) ?_
      refine k_l2i C d_X_treeSize_26 ?_
      exact k_iret X d_X_treeSize_27 (⟨by simp only [xTree, if_neg c4, if_neg c11], by simp only [xTree, if_neg c4, if_neg c11]⟩)
    · refine k_iconst C (v := 0) d_X_treeSize_14 (by decide) ?_
      exact k_iret X d_X_treeSize_15 (⟨by simp only [xTree, if_neg c4, if_pos c11], by simp only [xTree, if_neg c4, if_pos c11]⟩)

set_option maxHeartbeats 4000000 in
set_option maxRecDepth 100000 in
theorem c_N_isLike (l : Launch) (b : Nat → Nat → Nat) (dA : Nat → ClassId) (D : va_G) (g : kG) (i : Nat) (hi : i < 12) (j : Int32) (hj : vp_in j 12) (f : Nat) (hf : f < 24) : kMd (sysX b dA D) l y_N_isLike b_N_isLike 3 (some .boolean) 0 0 [.inr (.inr (9, i)), .inl j, .inr (.inr (5, f))] g (some (.inl (xLike g i j f))) g := by
  refine k_enter (by decide) [some (.inr (.inr (9, i))), some (.inl j), some (.inr (.inr (5, f)))] rfl rfl (Nat.le_of_ble_eq_true rfl) (fun x X => ?_)
  have C := X.1
  have O := X.2.1
  refine k_aload_n C d_N_isLike_0 rfl rfl ?_
  refine k_getR C O (r := (11, _)) d_N_isLike_1 fl_N_15 (xr_9 hi) rfl rfl rfl rfl ?_
  refine k_iload_n C d_N_isLike_4 rfl rfl ?_
  refine k_zald2 C O d_N_isLike_5 (xr_11 hi) rfl 1 rfl hj rfl ?_
  refine k_aload_n C d_N_isLike_6 rfl rfl ?_
  refine k_getI C O d_N_isLike_7 fl_N_34 (xr_5 hf) rfl rfl rfl ?_
  refine k_icmp_ne C (tgt := 40) d_N_isLike_10 (by decide) (fun c10 => ?_) (fun c10 => ?_)
  · refine k_iconst C (v := 0) d_N_isLike_40 (by decide) ?_
    exact k_zret X d_N_isLike_41 (Or.inl rfl) (⟨by simp only [xLike, if_neg c10], by simp only [xLike, if_neg c10]⟩)
  · refine k_aload_n C d_N_isLike_13 rfl rfl ?_
    refine k_getR C O (r := (12, _)) d_N_isLike_14 fl_N_19 (xr_9 hi) rfl rfl rfl rfl ?_
    refine k_iload_n C d_N_isLike_17 rfl rfl ?_
    refine k_zald2 C O d_N_isLike_18 (xr_12 hi) rfl 1 rfl hj rfl ?_
    refine k_if_eq C (tgt := 36) d_N_isLike_19 (by decide) (fun c19 => ?_) (fun c19 => ?_)
    · refine k_iconst C (v := 1) d_N_isLike_36 (by decide) ?_
      refine k_goto C (tgt := 41) d_N_isLike_37 (by decide) ?_
      exact k_zret X d_N_isLike_41 (Or.inr rfl) (⟨by simp only [xLike, if_pos c10, if_pos c19], by simp only [xLike, if_pos c10, if_pos c19]⟩)
    · refine k_aload_n C d_N_isLike_22 rfl rfl ?_
      refine k_getR C O (r := (13, _)) d_N_isLike_23 fl_N_22 (xr_9 hi) rfl rfl rfl rfl ?_
      refine k_iload_n C d_N_isLike_26 rfl rfl ?_
      refine k_lald2 C O d_N_isLike_27 (xr_13 hi) rfl 2 rfl hj rfl ?_
      refine k_aload_n C d_N_isLike_28 rfl rfl ?_
      refine k_getJ C O d_N_isLike_29 fl_N_39 (xr_5 hf) rfl rfl rfl ?_
      refine k_lcmp C d_N_isLike_32 ?_
      refine k_if_ne C (tgt := 40) d_N_isLike_33 (by decide) (fun c33 => ?_) (fun c33 => ?_)
      · refine k_iconst C (v := 0) d_N_isLike_40 (by decide) ?_
        exact k_zret X d_N_isLike_41 (Or.inl rfl) (⟨by simp only [xLike, if_pos c10, if_neg c19, if_neg c33], by simp only [xLike, if_pos c10, if_neg c19, if_neg c33]⟩)
      · refine k_iconst C (v := 1) d_N_isLike_36 (by decide) ?_
        refine k_goto C (tgt := 41) d_N_isLike_37 (by decide) ?_
        exact k_zret X d_N_isLike_41 (Or.inr rfl) (⟨by simp only [xLike, if_pos c10, if_neg c19, if_pos c33], by simp only [xLike, if_pos c10, if_neg c19, if_pos c33]⟩)

set_option maxHeartbeats 4000000 in
set_option maxRecDepth 100000 in
theorem c_N_tell (l : Launch) (b : Nat → Nat → Nat) (dA : Nat → ClassId) (D : va_G) (g : kG) (i : Nat) (hi : i < 12) (j w : Int32) (hj : ¬ j < 0 → j < g.1 9 i 4 → vp_in j 12) : kMd (sysX b dA D) l y_N_tell b_N_tell 3 (some .int) 0 0 [.inr (.inr (9, i)), .inl j, .inl w] g (some (.inl (xTell g i j w))) g := by
  refine k_enter (by decide) [some (.inr (.inr (9, i))), some (.inl j), some (.inl w)] rfl rfl (Nat.le_of_ble_eq_true rfl) (fun x X => ?_)
  have C := X.1
  have O := X.2.1
  refine k_iload_n C d_N_tell_0 rfl rfl ?_
  refine k_if_lt C (tgt := 12) d_N_tell_1 (by decide) (fun c1 => ?_) (fun c1 => ?_)
  · refine k_iconst C (v := (-1)) d_N_tell_12 (by decide) ?_
    exact k_iret X d_N_tell_13 (⟨by simp only [xTell, if_pos c1]; try simp [], by simp only [xTell, if_pos c1]⟩)
  · refine k_iload_n C d_N_tell_4 rfl rfl ?_
    refine k_aload_n C d_N_tell_5 rfl rfl ?_
    refine k_getI C O d_N_tell_6 fl_N_26 (xr_9 hi) rfl rfl rfl ?_
    refine k_icmp_lt C (tgt := 14) d_N_tell_9 (by decide) (fun c9 => ?_) (fun c9 => ?_)
    · refine k_iload_n C d_N_tell_14 rfl rfl ?_
      by_cases s15 : (w).toInt < 0 ∨ 2 < (w).toInt
      · refine k_tabOut C (tgt := 77) d_N_tell_15 s15 (by decide) ?_
        refine k_iconst C (v := (-1)) d_N_tell_77 (by decide) ?_
        exact k_iret X d_N_tell_78 (⟨by simp only [xTell, if_neg c1, if_pos c9, if_pos s15]; try simp [], by simp only [xTell, if_neg c1, if_pos c9, if_pos s15]⟩)
      · have q15 : (w) = 0 ∨ (w) = 1 ∨ (w) = 2 := by
          have h1 : 0 ≤ (w).toInt := by omega
          have h2 : (w).toInt ≤ 2 := by omega
          have h3 : (w).toInt = 0 ∨ (w).toInt = 1 ∨ (w).toInt = 2 := by omega
          rcases h3 with h3 | h3 | h3
          · exact Or.inl (Int32.toInt_inj.mp (h3.trans (by decide)))
          · exact Or.inr (Or.inl (Int32.toInt_inj.mp (h3.trans (by decide))))
          · exact Or.inr (Or.inr ((Int32.toInt_inj.mp (h3.trans (by decide)))))
        rcases q15 with q15 | q15 | q15
        · refine k_tabIn C (tgt := 40) (off := 25) d_N_tell_15 (fun h => s15 (Or.inl h)) (fun h => s15 (Or.inr h)) (by rw [q15]; decide +kernel) (by decide) ?_
          refine k_aload_n C d_N_tell_40 rfl rfl ?_
          refine k_getR C O (r := (10, _)) d_N_tell_41 fl_N_9 (xr_9 hi) rfl rfl rfl rfl ?_
          refine k_iload_n C d_N_tell_44 rfl rfl ?_
          refine k_iald2 C O d_N_tell_45 (xr_10 hi) rfl 0 rfl (hj c1 c9) rfl ?_
          exact k_iret X d_N_tell_46 (⟨by simp only [xTell, if_neg c1, if_pos c9, if_neg s15]; try simp [q15], by simp only [xTell, if_neg c1, if_pos c9, if_neg s15]⟩)
        · refine k_tabIn C (tgt := 47) (off := 32) d_N_tell_15 (fun h => s15 (Or.inl h)) (fun h => s15 (Or.inr h)) (by rw [q15]; decide +kernel) (by decide) ?_
          refine k_aload_n C d_N_tell_47 rfl rfl ?_
          refine k_getR C O (r := (11, _)) d_N_tell_48 fl_N_15 (xr_9 hi) rfl rfl rfl rfl ?_
          refine k_iload_n C d_N_tell_51 rfl rfl ?_
          refine k_zald2 C O d_N_tell_52 (xr_11 hi) rfl 1 rfl (hj c1 c9) rfl ?_
          refine k_if_eq C (tgt := 60) d_N_tell_53 (by decide) (fun c53 => ?_) (fun c53 => ?_)
          · refine k_iconst C (v := 0) d_N_tell_60 (by decide) ?_
            exact k_iret X d_N_tell_61 (⟨by simp only [xTell, if_neg c1, if_pos c9, if_neg s15, if_pos c53]; try simp [q15], by simp only [xTell, if_neg c1, if_pos c9, if_neg s15, if_pos c53]⟩)
          · refine k_iconst C (v := 1) d_N_tell_56 (by decide) ?_
            refine k_goto C (tgt := 61) d_N_tell_57 (by decide) ?_
            exact k_iret X d_N_tell_61 (⟨by simp only [xTell, if_neg c1, if_pos c9, if_neg s15, if_neg c53]; try simp [q15], by simp only [xTell, if_neg c1, if_pos c9, if_neg s15, if_neg c53]⟩)
        · refine k_tabIn C (tgt := 62) (off := 47) d_N_tell_15 (fun h => s15 (Or.inl h)) (fun h => s15 (Or.inr h)) (by rw [q15]; decide +kernel) (by decide) ?_
          refine k_aload_n C d_N_tell_62 rfl rfl ?_
          refine k_getR C O (r := (12, _)) d_N_tell_63 fl_N_19 (xr_9 hi) rfl rfl rfl rfl ?_
          refine k_iload_n C d_N_tell_66 rfl rfl ?_
          refine k_zald2 C O d_N_tell_67 (xr_12 hi) rfl 1 rfl (hj c1 c9) rfl ?_
          refine k_if_eq C (tgt := 75) d_N_tell_68 (by decide) (fun c68 => ?_) (fun c68 => ?_)
          · refine k_iconst C (v := 0) d_N_tell_75 (by decide) ?_
            exact k_iret X d_N_tell_76 (⟨by simp only [xTell, if_neg c1, if_pos c9, if_neg s15, if_pos c68]; try simp [q15], by simp only [xTell, if_neg c1, if_pos c9, if_neg s15, if_pos c68]⟩)
          · refine k_iconst C (v := 1) d_N_tell_71 (by decide) ?_
            refine k_goto C (tgt := 76) d_N_tell_72 (by decide) ?_
            exact k_iret X d_N_tell_76 (⟨by simp only [xTell, if_neg c1, if_pos c9, if_neg s15, if_neg c68]; try simp [q15], by simp only [xTell, if_neg c1, if_pos c9, if_neg s15, if_neg c68]⟩)
    · refine k_iconst C (v := (-1)) d_N_tell_12 (by decide) ?_
      exact k_iret X d_N_tell_13 (⟨by simp only [xTell, if_neg c1, if_neg c9]; try simp [], by simp only [xTell, if_neg c1, if_neg c9]⟩)
