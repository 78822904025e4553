/-! the class's constructor (by program: wip/gen/ctorx.py) -/
abbrev cF0 : va_E := .inr (1, [.int 0, .long 0, .int (-1)])
abbrev cG0 : va_E := .inr (2, [.int 0, .long 0, .long 0, .int 0])
abbrev qA (f : Nat → Option Nat) : (Nat → Int32) ⊕ (Nat → Int64) ⊕ (Nat → UInt32) ⊕ (Nat → UInt64) ⊕ (Nat → Option Nat) := .inr (.inr (.inr (.inr f)))
def aG (dA : Nat → ClassId) (p : Nat → Nat) : va_W := [(p 0, .inr (0, [.ref (p 1), .ref (p 2), .int 0, .int 0, .int (-1), .ref (p 3), .int 0, .int 0, .long 0, .int (-1), .int 0, .int 0, .int 0])), (p 1, .inl (dA 0, 12, .inl (fun _ => 0))), (p 2, .inl (dA 0, 12, .inl (fun _ => 0))), (p 3, .inr (3, [.ref (p 4), .ref (p 5), .ref (p 6), .ref (p 7), .int 0])), (p 4, .inl (dA 0, 12, .inl (fun _ => 0))), (p 5, .inl (dA 1, 12, .inl (fun _ => 0))), (p 6, .inl (dA 1, 12, .inl (fun _ => 0))), (p 7, .inl (dA 2, 12, .inr (.inl (fun _ => 0))))]
def xB (dA : Nat → ClassId) (T : Int32) (h0 q1 q2 q3 q4 : Nat) (LF : List Nat) (LA : List (Nat → Nat)) (LM : List Nat) : va_W := [(h0, .inr (4, [.int T, .ref q1, .ref q2, .ref q3, .int 0, .int 0, .int 0, .ref q4, .int 0, .int 0])), (q1, .inl (dA 3, 24, qA (fun j => LF[j]?))), (q2, .inl (dA 4, 12, qA (fun j => LA[j]?.map (fun p => p 0)))), (q3, .inl (dA 5, 6, qA (fun j => LM[j]?))), (q4, .inl (dA 0, 13, .inl (fun _ => 0)))]
def xFS (LF : List Nat) : va_W := LF.map (fun a => (a, cF0))
def xAS (dA : Nat → ClassId) (LA : List (Nat → Nat)) : va_W := LA.flatMap (aG dA)
def xMS (LM : List Nat) : va_W := LM.map (fun a => (a, cG0))
def xWd (dA : Nat → ClassId) (T : Int32) (h0 q1 q2 q3 q4 : Nat) (LF : List Nat) (LA : List (Nat → Nat)) (LM : List Nat) : va_W := ((xB dA T h0 q1 q2 q3 q4 LF LA LM ++ xFS LF) ++ xAS dA LA) ++ xMS LM
theorem up_list {α : Type} {k : Nat} {LF : List α} {f : α → Nat} (hk : LF.length = k) (q : α) : va_up (fun j => LF[j]?.map f) k (some (f q)) = fun j => (LF ++ [q])[j]?.map f := by
  funext j
  unfold va_up
  by_cases e : j = k
  · subst e
    rw [if_pos rfl, List.getElem?_append_right (by omega), show j - LF.length = 0 by omega]
    rfl
  · rw [if_neg e]
    by_cases h : j < LF.length
    · rw [List.getElem?_append_left h]
    · show LF[j]?.map f = _
      rw [List.getElem?_append_right (by omega), List.getElem?_eq_none (show LF.length ≤ j by omega), List.getElem?_eq_none (show [q].length ≤ j - LF.length by show 1 ≤ j - LF.length; omega)]
theorem up_list0 {k : Nat} {LF : List Nat} (hk : LF.length = k) (q : Nat) : va_up (fun j => LF[j]?) k (some q) = fun j => (LF ++ [q])[j]? := by
  have h := up_list (f := fun a => a) hk q
  simpa using h
theorem at_end {α : Type} (l : List α) (z : α) (r : List α) : (l ++ z :: r)[l.length]? = some z := by
  rw [List.getElem?_append_right (Nat.le_refl _), Nat.sub_self]
  rfl
theorem r_nn {S : Type} {wd : S → Heap → Prop} {A : Nat → Prop} {ad : Nat → Nat → Nat} {x : kCx} {nn : Nat × Nat} {Q : State → Prop} {pc : Nat} {ls : List (Option kV)} {st : List kV} {g : S} {a b : Nat} (e1 : nn.1 = a) (e2 : nn.2 = b) (kk : Wk wd A ad x (a, b) Q pc ls st g) : Wk wd A ad x nn Q pc ls st g := by
  subst e1; subst e2
  exact kk
theorem r_ws {S : Type} {wd : S → Heap → Prop} {A : Nat → Prop} {ad : Nat → Nat → Nat} {x : kCx} {nn : Nat × Nat} {Q : State → Prop} {pc : Nat} {ls : List (Option kV)} {st : List kV} {g g2 : S} (e : g = g2) (kk : Wk wd A ad x nn Q pc ls st g2) : Wk wd A ad x nn Q pc ls st g := by
  subst e
  exact kk
def xTm (a : Int32) : Int32 := if 1 < (if a < 9 then a else 9) then (if a < 9 then a else 9) else 1
set_option maxHeartbeats 4000000 in
set_option maxRecDepth 100000 in
theorem l_X_i1 {x : kCx} {Q : State → Prop} (l : Launch) (D : va_G) (dA : Nat → ClassId) (sz h0 q1 q2 q3 q4 : Nat) (T a0 : Int32) (X : rIn l D dA b_X_init y_X_init.cls 3 3 60 130 1231 sz x) (K9 : ∀ LF : List Nat, LF.length = 24 → Wk (rWd D (va_A [(h0, (.inr (4, [.int 0, .null, .null, .null, .int 0, .int 0, .int 0, .null, .int 0, .int 0])))] sz)) (va_A [(h0, (.inr (4, [.int 0, .null, .null, .null, .int 0, .int 0, .int 0, .null, .int 0, .int 0])))] sz) rAd x (28, 127) Q 105 [some (.inr (.inr (0, h0))), some (.inl a0), some (.inl (nI 24))] [] (xWd dA T h0 q1 q2 q3 q4 LF [] [])) : ∀ (n k : Nat) (LF : List Nat), k + n = 24 → LF.length = k → Wk (rWd D (va_A [(h0, (.inr (4, [.int 0, .null, .null, .null, .int 0, .int 0, .int 0, .null, .int 0, .int 0])))] sz)) (va_A [(h0, (.inr (4, [.int 0, .null, .null, .null, .int 0, .int 0, .int 0, .null, .int 0, .int 0])))] sz) rAd x (4 + k, 55 + 3 * k) Q 80 [some (.inr (.inr (0, h0))), some (.inl a0), some (.inl (nI k))] [] (xWd dA T h0 q1 q2 q3 q4 LF [] []) := by
  have C := X.1
  intro n
  induction n with
  | zero =>
    intro k LF hk hl
    refine k_iload_n C d_X_init_80 rfl rfl ?_
    refine k_bipush C (v := 24) d_X_init_81 (by decide) ?_
    refine k_icmp_ge C (tgt := 105) d_X_init_83 (by decide) (fun c1 => ?_) (fun c1 => ?_)
    · have e9 : k = 24 := by omega
      subst e9
      exact K9 LF hl
    · exact absurd (show (24 : Int32) ≤ nI k from nI_le (a := 24) (by omega) (by omega)) c1
  | succ n ih =>
    intro k LF hk hl
    refine k_iload_n C d_X_init_80 rfl rfl ?_
    refine k_bipush C (v := 24) d_X_init_81 (by decide) ?_
    refine k_icmp_ge C (tgt := 105) d_X_init_83 (by decide) (fun c1 => ?_) (fun c1 => ?_)
    · exact absurd c1 (show ¬ (24 : Int32) ≤ nI k from nI_ge (b := 24) (by omega) (by omega))
    · refine k_aload_n C d_X_init_86 rfl rfl ?_
      refine r_get (v := .inr (.inr (0, q1))) C X.2.1.1 0 d_X_init_87 fl_X_11 rfl rfl ?_
      refine k_iload_n C d_X_init_90 rfl rfl ?_
      refine r_new C X.2.1.1 (fun q h => Or.inr (by rw [← X.2.2.2.2.2.2.2.2]; exact h)) d_X_init_91 nw_X_9 (by rw [X.2.2.2.1]; show 4 + k + 1 ≤ 130; omega) (by rw [X.2.2.2.1]; show 55 + 3 * k + 3 ≤ 1231; omega) (fun q => ?_)
      refine k_dup C d_X_init_94 rfl ?_
      refine r_callN (wr := xWd dA T h0 q1 q2 q3 q4 LF [] []) X (fun q h => Or.inr h) d_X_init_95 (fun sz2 => c_F_init l D dA sz2 q) X.2.1.2.1 kc_F_init ki_F_init kn_F_init rfl (by decide +kernel) ⟨by decide, by decide⟩ ⟨by show 4 + k + 1 + 0 ≤ 130; omega, by show 55 + 3 * k + 3 + 0 ≤ 1231; omega⟩ rfl rfl (Nat.le_of_ble_eq_true rfl) (fun w1 hw1 => ?_)
      subst hw1
      refine r_aast (ws' := xWd dA T h0 q1 q2 q3 q4 (LF ++ [q]) [] []) C X.2.1.1 1 3 (xWd dA T h0 q1 q2 q3 q4 LF [] []).length 1 (r := (R_F, T_F, 3)) d_X_init_98 rfl rfl (at_end _ _ _) rfl (show vp_in (nI k) 24 from vp_in_nI (by omega) (by decide)) ?_ ?_
      · have e1 : (nI k).toNatClampNeg = k := nI_clamp (by omega)
        rw [e1, up_list0 hl]
        simp [xWd, xB, xFS, xAS, xMS]
      refine k_iinc C (w := nI (k + 1)) d_X_init_99 rfl (nI_inc k) rfl ?_
      refine k_goto C (tgt := 80) d_X_init_102 (by decide) ?_
      refine r_nn (a := 4 + (k + 1)) (b := 55 + 3 * (k + 1)) (by show 4 + k + 1 + 0 = _; omega) (by show 55 + 3 * k + 3 + 0 = _; omega) ?_
      exact ih (k + 1) (LF ++ [q]) (by omega) (by simp [hl])
set_option maxHeartbeats 4000000 in
set_option maxRecDepth 100000 in
theorem l_X_i2 {x : kCx} {Q : State → Prop} (l : Launch) (D : va_G) (dA : Nat → ClassId) (sz h0 q1 q2 q3 q4 : Nat) (T a0 : Int32) (X : rIn l D dA b_X_init y_X_init.cls 3 3 60 130 1231 sz x) (LF : List Nat) (K9 : ∀ LA : List (Nat → Nat), LA.length = 12 → Wk (rWd D (va_A [(h0, (.inr (4, [.int 0, .null, .null, .null, .int 0, .int 0, .int 0, .null, .int 0, .int 0])))] sz)) (va_A [(h0, (.inr (4, [.int 0, .null, .null, .null, .int 0, .int 0, .int 0, .null, .int 0, .int 0])))] sz) rAd x (124, 1207) Q 132 [some (.inr (.inr (0, h0))), some (.inl a0), some (.inl (nI 12))] [] (xWd dA T h0 q1 q2 q3 q4 LF LA [])) : ∀ (n k : Nat) (LA : List (Nat → Nat)), k + n = 12 → LA.length = k → Wk (rWd D (va_A [(h0, (.inr (4, [.int 0, .null, .null, .null, .int 0, .int 0, .int 0, .null, .int 0, .int 0])))] sz)) (va_A [(h0, (.inr (4, [.int 0, .null, .null, .null, .int 0, .int 0, .int 0, .null, .int 0, .int 0])))] sz) rAd x (28 + 8 * k, 127 + 90 * k) Q 107 [some (.inr (.inr (0, h0))), some (.inl a0), some (.inl (nI k))] [] (xWd dA T h0 q1 q2 q3 q4 LF LA []) := by
  have C := X.1
  intro n
  induction n with
  | zero =>
    intro k LA hk hl
    refine k_iload_n C d_X_init_107 rfl rfl ?_
    refine k_bipush C (v := 12) d_X_init_108 (by decide) ?_
    refine k_icmp_ge C (tgt := 132) d_X_init_110 (by decide) (fun c1 => ?_) (fun c1 => ?_)
    · have e9 : k = 12 := by omega
      subst e9
      exact K9 LA hl
    · exact absurd (show (12 : Int32) ≤ nI k from nI_le (a := 12) (by omega) (by omega)) c1
  | succ n ih =>
    intro k LA hk hl
    refine k_iload_n C d_X_init_107 rfl rfl ?_
    refine k_bipush C (v := 12) d_X_init_108 (by decide) ?_
    refine k_icmp_ge C (tgt := 132) d_X_init_110 (by decide) (fun c1 => ?_) (fun c1 => ?_)
    · exact absurd c1 (show ¬ (12 : Int32) ≤ nI k from nI_ge (b := 12) (by omega) (by omega))
    · refine k_aload_n C d_X_init_113 rfl rfl ?_
      refine r_get (v := .inr (.inr (0, q2))) C X.2.1.1 0 d_X_init_114 fl_X_17 rfl rfl ?_
      refine k_iload_n C d_X_init_117 rfl rfl ?_
      refine r_new C X.2.1.1 (fun q h => Or.inr (by rw [← X.2.2.2.2.2.2.2.2]; exact h)) d_X_init_118 nw_X_15 (by rw [X.2.2.2.1]; show 28 + 8 * k + 1 ≤ 130; omega) (by rw [X.2.2.2.1]; show 127 + 90 * k + 13 ≤ 1231; omega) (fun q => ?_)
      refine k_dup C d_X_init_121 rfl ?_
      refine r_callN (wr := xWd dA T h0 q1 q2 q3 q4 LF LA []) X (fun q h => Or.inr h) d_X_init_122 (fun sz2 => c_A_init l D dA sz2 q) X.2.1.2.2.1 kc_A_init ki_A_init kn_A_init rfl (by decide +kernel) ⟨by decide, by decide⟩ ⟨by show 28 + 8 * k + 1 + 7 ≤ 130; omega, by show 127 + 90 * k + 13 + 77 ≤ 1231; omega⟩ rfl rfl (Nat.le_of_ble_eq_true rfl) (fun w1 hw1 => ?_)
      obtain ⟨b1, b2, b3, b4, b5, b6, b7, hw1⟩ := hw1
      obtain ⟨p, ep⟩ : ∃ p : Nat → Nat, p = (fun r => match r with | 0 => q | 1 => b1 | 2 => b2 | 3 => b3 | 4 => b4 | 5 => b5 | 6 => b6 | _ => b7) := ⟨_, rfl⟩
      have hw2 : w1 = aG dA p := by rw [hw1, ep]; rfl
      have hq : q = p 0 := by subst ep; rfl
      rw [hq]
      rw [hw2]
      refine r_aast (ws' := xWd dA T h0 q1 q2 q3 q4 LF (LA ++ [p]) []) C X.2.1.1 2 4 (xWd dA T h0 q1 q2 q3 q4 LF LA []).length 0 (r := (R_A, T_A, 13)) d_X_init_125 rfl rfl (at_end _ _ _) rfl (show vp_in (nI k) 12 from vp_in_nI (by omega) (by decide)) ?_ ?_
      · have e1 : (nI k).toNatClampNeg = k := nI_clamp (by omega)
        rw [e1, up_list (f := fun p : Nat → Nat => p 0) hl]
        simp [xWd, xB, xFS, xAS, xMS]
      refine k_iinc C (w := nI (k + 1)) d_X_init_126 rfl (nI_inc k) rfl ?_
      refine k_goto C (tgt := 107) d_X_init_129 (by decide) ?_
      refine r_nn (a := 28 + 8 * (k + 1)) (b := 127 + 90 * (k + 1)) (by show 28 + 8 * k + 1 + 7 = _; omega) (by show 127 + 90 * k + 13 + 77 = _; omega) ?_
      exact ih (k + 1) (LA ++ [p]) (by omega) (by simp [hl])
set_option maxHeartbeats 4000000 in
set_option maxRecDepth 100000 in
theorem l_X_i3 {x : kCx} {Q : State → Prop} (l : Launch) (D : va_G) (dA : Nat → ClassId) (sz h0 q1 q2 q3 q4 : Nat) (T a0 : Int32) (X : rIn l D dA b_X_init y_X_init.cls 3 3 60 130 1231 sz x) (LF : List Nat) (LA : List (Nat → Nat)) (K9 : ∀ LM : List Nat, LM.length = 6 → Wk (rWd D (va_A [(h0, (.inr (4, [.int 0, .null, .null, .null, .int 0, .int 0, .int 0, .null, .int 0, .int 0])))] sz)) (va_A [(h0, (.inr (4, [.int 0, .null, .null, .null, .int 0, .int 0, .int 0, .null, .int 0, .int 0])))] sz) rAd x (130, 1231) Q 159 [some (.inr (.inr (0, h0))), some (.inl a0), some (.inl (nI 6))] [] (xWd dA T h0 q1 q2 q3 q4 LF LA LM)) : ∀ (n k : Nat) (LM : List Nat), k + n = 6 → LM.length = k → Wk (rWd D (va_A [(h0, (.inr (4, [.int 0, .null, .null, .null, .int 0, .int 0, .int 0, .null, .int 0, .int 0])))] sz)) (va_A [(h0, (.inr (4, [.int 0, .null, .null, .null, .int 0, .int 0, .int 0, .null, .int 0, .int 0])))] sz) rAd x (124 + k, 1207 + 4 * k) Q 134 [some (.inr (.inr (0, h0))), some (.inl a0), some (.inl (nI k))] [] (xWd dA T h0 q1 q2 q3 q4 LF LA LM) := by
  have C := X.1
  intro n
  induction n with
  | zero =>
    intro k LM hk hl
    refine k_iload_n C d_X_init_134 rfl rfl ?_
    refine k_bipush C (v := 6) d_X_init_135 (by decide) ?_
    refine k_icmp_ge C (tgt := 159) d_X_init_137 (by decide) (fun c1 => ?_) (fun c1 => ?_)
    · have e9 : k = 6 := by omega
      subst e9
      exact K9 LM hl
    · exact absurd (show (6 : Int32) ≤ nI k from nI_le (a := 6) (by omega) (by omega)) c1
  | succ n ih =>
    intro k LM hk hl
    refine k_iload_n C d_X_init_134 rfl rfl ?_
    refine k_bipush C (v := 6) d_X_init_135 (by decide) ?_
    refine k_icmp_ge C (tgt := 159) d_X_init_137 (by decide) (fun c1 => ?_) (fun c1 => ?_)
    · exact absurd c1 (show ¬ (6 : Int32) ≤ nI k from nI_ge (b := 6) (by omega) (by omega))
    · refine k_aload_n C d_X_init_140 rfl rfl ?_
      refine r_get (v := .inr (.inr (0, q3))) C X.2.1.1 0 d_X_init_141 fl_X_23 rfl rfl ?_
      refine k_iload_n C d_X_init_144 rfl rfl ?_
      refine r_new C X.2.1.1 (fun q h => Or.inr (by rw [← X.2.2.2.2.2.2.2.2]; exact h)) d_X_init_145 nw_X_21 (by rw [X.2.2.2.1]; show 124 + k + 1 ≤ 130; omega) (by rw [X.2.2.2.1]; show 1207 + 4 * k + 4 ≤ 1231; omega) (fun q => ?_)
      refine k_dup C d_X_init_148 rfl ?_
      refine r_callN (wr := xWd dA T h0 q1 q2 q3 q4 LF LA LM) X (fun q h => Or.inr h) d_X_init_149 (fun sz2 => c_G_init l D dA sz2 q) X.2.1.2.2.2.1 kc_G_init ki_G_init kn_G_init rfl (by decide +kernel) ⟨by decide, by decide⟩ ⟨by show 124 + k + 1 + 0 ≤ 130; omega, by show 1207 + 4 * k + 4 + 0 ≤ 1231; omega⟩ rfl rfl (Nat.le_of_ble_eq_true rfl) (fun w1 hw1 => ?_)
      subst hw1
      refine r_aast (ws' := xWd dA T h0 q1 q2 q3 q4 LF LA (LM ++ [q])) C X.2.1.1 3 5 (xWd dA T h0 q1 q2 q3 q4 LF LA LM).length 2 (r := (R_G, T_G, 4)) d_X_init_152 rfl rfl (at_end _ _ _) rfl (show vp_in (nI k) 6 from vp_in_nI (by omega) (by decide)) ?_ ?_
      · have e1 : (nI k).toNatClampNeg = k := nI_clamp (by omega)
        rw [e1, up_list0 hl]
        simp [xWd, xB, xFS, xAS, xMS]
      refine k_iinc C (w := nI (k + 1)) d_X_init_153 rfl (nI_inc k) rfl ?_
      refine k_goto C (tgt := 134) d_X_init_156 (by decide) ?_
      refine r_nn (a := 124 + (k + 1)) (b := 1207 + 4 * (k + 1)) (by show 124 + k + 1 + 0 = _; omega) (by show 1207 + 4 * k + 4 + 0 = _; omega) ?_
      exact ih (k + 1) (LM ++ [q]) (by omega) (by simp [hl])
theorem mm_l : Cond.methodLink "DynamicNeeds" 47 Lib.Math.min.name ∈ kT := kT_in (by decide +kernel)
theorem mm_s : Cond.static Lib.Math.min.name ∈ kT := kT_in (by decide +kernel)
theorem mx_l : Cond.methodLink "DynamicNeeds" 53 Lib.Math.max.name ∈ kT := kT_in (by decide +kernel)
theorem mx_s : Cond.static Lib.Math.max.name ∈ kT := kT_in (by decide +kernel)
theorem mm_i : Cond.initialized "java/lang/Math" ∈ kT := kT_in (by decide +kernel)
theorem mm_c : Cond.code Lib.Math.min.name Lib.Math.min.code 2 (some .int) ∈ kT := kT_in ⟨List.mem_of_getElem? (i := 50) (by decide +kernel), by decide +kernel⟩
theorem mx_c : Cond.code Lib.Math.max.name Lib.Math.max.code 2 (some .int) ∈ kT := kT_in ⟨List.mem_of_getElem? (i := 53) (by decide +kernel), by decide +kernel⟩
set_option maxHeartbeats 4000000 in
set_option maxRecDepth 100000 in
theorem c_X_init (l : Launch) (D : va_G) (dA : Nat → ClassId) (sz h0 : Nat) (a0 : Int32) : rMet l D dA y_X_init b_X_init 3 3 60 130 1231 sz h0 (.inr (4, [.int 0, .null, .null, .null, .int 0, .int 0, .int 0, .null, .int 0, .int 0])) [.inl a0] (fun ws => ∃ (q1 q2 q3 q4 : Nat) (LF : List Nat) (LA : List (Nat → Nat)) (LM : List Nat), LF.length = 24 ∧ LA.length = 12 ∧ LM.length = 6 ∧ ws = xWd dA (xTm a0) h0 q1 q2 q3 q4 LF LA LM) := by
  refine r_enter (by decide) rfl [some (.inr (.inr (0, h0))), some (.inl a0), none] rfl rfl (Nat.le_of_ble_eq_true rfl) (fun x X => ?_)
  have C := X.1
  refine k_aload_n C d_X_init_0 rfl rfl ?_
  refine r_obj C d_X_init_1 ol_X ob_i ob_c X.2.2.2.2.1 (by rw [X.2.2.2.1]; decide) (by rw [X.2.2.2.1]; exact Nat.le_of_ble_eq_true rfl) ?_
  refine k_aload_n C d_X_init_4 rfl rfl ?_
  refine k_bipush C (v := 24) d_X_init_5 (by decide) ?_
  refine r_newq (N := 24) X (fun q h => Or.inr h) 3 d_X_init_7 (kT_in (by decide +kernel)) X.2.1.2.2.2.2.2.1 rfl (by decide) (by decide) (by decide) (by decide) (by decide) (fun q1 => ?_)
  refine r_putF (ws' := [(h0, .inr (4, [.int 0, .ref q1, .null, .null, .int 0, .int 0, .int 0, .null, .int 0, .int 0])), (q1, .inl (dA 3, 24, .inr (.inr (.inr (.inr (fun _ => none))))))]) C X.2.1.1 X.2.2.2.2.2.2.2.1 0 d_X_init_10 ff_X_11 rfl rfl rfl (Nat.le_of_ble_eq_true rfl) rfl ?_
  refine k_aload_n C d_X_init_13 rfl rfl ?_
  refine k_bipush C (v := 12) d_X_init_14 (by decide) ?_
  refine r_newq (N := 12) X (fun q h => Or.inr h) 4 d_X_init_16 (kT_in (by decide +kernel)) X.2.1.2.2.2.2.2.2.1 rfl (by decide) (by decide) (by decide) (by decide) (by decide) (fun q2 => ?_)
  refine r_putF (ws' := [(h0, .inr (4, [.int 0, .ref q1, .ref q2, .null, .int 0, .int 0, .int 0, .null, .int 0, .int 0])), (q1, .inl (dA 3, 24, .inr (.inr (.inr (.inr (fun _ => none)))))), (q2, .inl (dA 4, 12, .inr (.inr (.inr (.inr (fun _ => none))))))]) C X.2.1.1 X.2.2.2.2.2.2.2.1 0 d_X_init_19 ff_X_17 rfl rfl rfl (Nat.le_of_ble_eq_true rfl) rfl ?_
  refine k_aload_n C d_X_init_22 rfl rfl ?_
  refine k_bipush C (v := 6) d_X_init_23 (by decide) ?_
  refine r_newq (N := 6) X (fun q h => Or.inr h) 5 d_X_init_25 (kT_in (by decide +kernel)) X.2.1.2.2.2.2.2.2.2 rfl (by decide) (by decide) (by decide) (by decide) (by decide) (fun q3 => ?_)
  refine r_putF (ws' := [(h0, .inr (4, [.int 0, .ref q1, .ref q2, .ref q3, .int 0, .int 0, .int 0, .null, .int 0, .int 0])), (q1, .inl (dA 3, 24, .inr (.inr (.inr (.inr (fun _ => none)))))), (q2, .inl (dA 4, 12, .inr (.inr (.inr (.inr (fun _ => none)))))), (q3, .inl (dA 5, 6, .inr (.inr (.inr (.inr (fun _ => none))))))]) C X.2.1.1 X.2.2.2.2.2.2.2.1 0 d_X_init_28 ff_X_23 rfl rfl rfl (Nat.le_of_ble_eq_true rfl) rfl ?_
  refine k_aload_n C d_X_init_31 rfl rfl ?_
  refine k_iconst C (v := 0) d_X_init_32 (by decide) ?_
  refine r_put (ws' := [(h0, .inr (4, [.int 0, .ref q1, .ref q2, .ref q3, .int 0, .int 0, .int 0, .null, .int 0, .int 0])), (q1, .inl (dA 3, 24, .inr (.inr (.inr (.inr (fun _ => none)))))), (q2, .inl (dA 4, 12, .inr (.inr (.inr (.inr (fun _ => none)))))), (q3, .inl (dA 5, 6, .inr (.inr (.inr (.inr (fun _ => none))))))]) C X.2.1.1 0 d_X_init_33 fp_X_27 rfl rfl rfl (Nat.le_of_ble_eq_true rfl) rfl ?_
  refine k_aload_n C d_X_init_36 rfl rfl ?_
  refine k_iconst C (v := 0) d_X_init_37 (by decide) ?_
  refine r_put (ws' := [(h0, .inr (4, [.int 0, .ref q1, .ref q2, .ref q3, .int 0, .int 0, .int 0, .null, .int 0, .int 0])), (q1, .inl (dA 3, 24, .inr (.inr (.inr (.inr (fun _ => none)))))), (q2, .inl (dA 4, 12, .inr (.inr (.inr (.inr (fun _ => none)))))), (q3, .inl (dA 5, 6, .inr (.inr (.inr (.inr (fun _ => none))))))]) C X.2.1.1 0 d_X_init_38 fp_X_31 rfl rfl rfl (Nat.le_of_ble_eq_true rfl) rfl ?_
  refine k_aload_n C d_X_init_41 rfl rfl ?_
  refine k_iconst C (v := 0) d_X_init_42 (by decide) ?_
  refine r_put (ws' := [(h0, .inr (4, [.int 0, .ref q1, .ref q2, .ref q3, .int 0, .int 0, .int 0, .null, .int 0, .int 0])), (q1, .inl (dA 3, 24, .inr (.inr (.inr (.inr (fun _ => none)))))), (q2, .inl (dA 4, 12, .inr (.inr (.inr (.inr (fun _ => none)))))), (q3, .inl (dA 5, 6, .inr (.inr (.inr (.inr (fun _ => none))))))]) C X.2.1.1 0 d_X_init_43 fp_X_34 rfl rfl rfl (Nat.le_of_ble_eq_true rfl) rfl ?_
  refine k_aload_n C d_X_init_46 rfl rfl ?_
  refine k_bipush C (v := 13) d_X_init_47 (by decide) ?_
  refine r_newa (a0 := (13, .inl (fun _ => 0))) X (fun q h => Or.inr h) 0 d_X_init_49 ac_i rfl rfl ru_i (fun _ => rfl) (by decide) (by decide) (by decide) (by decide) (by decide) (fun q4 => ?_)
  refine r_putF (ws' := [(h0, .inr (4, [.int 0, .ref q1, .ref q2, .ref q3, .int 0, .int 0, .int 0, .ref q4, .int 0, .int 0])), (q1, .inl (dA 3, 24, .inr (.inr (.inr (.inr (fun _ => none)))))), (q2, .inl (dA 4, 12, .inr (.inr (.inr (.inr (fun _ => none)))))), (q3, .inl (dA 5, 6, .inr (.inr (.inr (.inr (fun _ => none)))))), (q4, .inl (dA 0, 13, .inl (fun _ => 0)))]) C X.2.1.1 X.2.2.2.2.2.2.2.1 0 d_X_init_51 ff_X_37 rfl rfl rfl (Nat.le_of_ble_eq_true rfl) rfl ?_
  refine k_aload_n C d_X_init_54 rfl rfl ?_
  refine k_iconst C (v := 0) d_X_init_55 (by decide) ?_
  refine r_put (ws' := [(h0, .inr (4, [.int 0, .ref q1, .ref q2, .ref q3, .int 0, .int 0, .int 0, .ref q4, .int 0, .int 0])), (q1, .inl (dA 3, 24, .inr (.inr (.inr (.inr (fun _ => none)))))), (q2, .inl (dA 4, 12, .inr (.inr (.inr (.inr (fun _ => none)))))), (q3, .inl (dA 5, 6, .inr (.inr (.inr (.inr (fun _ => none)))))), (q4, .inl (dA 0, 13, .inl (fun _ => 0)))]) C X.2.1.1 0 d_X_init_56 fp_X_41 rfl rfl rfl (Nat.le_of_ble_eq_true rfl) rfl ?_
  refine k_aload_n C d_X_init_59 rfl rfl ?_
  refine k_iconst C (v := 0) d_X_init_60 (by decide) ?_
  refine r_put (ws' := [(h0, .inr (4, [.int 0, .ref q1, .ref q2, .ref q3, .int 0, .int 0, .int 0, .ref q4, .int 0, .int 0])), (q1, .inl (dA 3, 24, .inr (.inr (.inr (.inr (fun _ => none)))))), (q2, .inl (dA 4, 12, .inr (.inr (.inr (.inr (fun _ => none)))))), (q3, .inl (dA 5, 6, .inr (.inr (.inr (.inr (fun _ => none)))))), (q4, .inl (dA 0, 13, .inl (fun _ => 0)))]) C X.2.1.1 0 d_X_init_61 fp_X_44 rfl rfl rfl (Nat.le_of_ble_eq_true rfl) rfl ?_
  refine k_aload_n C d_X_init_64 rfl rfl ?_
  refine k_iconst C (v := 1) d_X_init_65 (by decide) ?_
  refine k_bipush C (v := 9) d_X_init_66 (by decide) ?_
  refine k_iload_n C d_X_init_68 rfl rfl ?_
  refine r_min X d_X_init_69 mm_l mm_s mm_i mm_c rfl (by decide) (Nat.le_of_ble_eq_true rfl) ⟨by decide, by decide⟩ ?_
  refine r_max X d_X_init_72 mx_l mx_s mm_i mx_c rfl (by decide) (Nat.le_of_ble_eq_true rfl) ⟨by decide, by decide⟩ ?_
  refine r_putF (ws' := [(h0, .inr (4, [.int (xTm a0), .ref q1, .ref q2, .ref q3, .int 0, .int 0, .int 0, .ref q4, .int 0, .int 0])), (q1, .inl (dA 3, 24, .inr (.inr (.inr (.inr (fun _ => none)))))), (q2, .inl (dA 4, 12, .inr (.inr (.inr (.inr (fun _ => none)))))), (q3, .inl (dA 5, 6, .inr (.inr (.inr (.inr (fun _ => none)))))), (q4, .inl (dA 0, 13, .inl (fun _ => 0)))]) C X.2.1.1 X.2.2.2.2.2.2.2.1 0 d_X_init_75 ff_X_56 rfl rfl rfl (Nat.le_of_ble_eq_true rfl) rfl ?_
  refine k_iconst C (v := 0) d_X_init_78 (by decide) ?_
  refine k_istore_n C d_X_init_79 rfl (Nat.le_of_ble_eq_true rfl) rfl ?_
  refine r_nn (a := 4 + 0) (b := 55 + 3 * 0) rfl rfl ?_
  refine l_X_i1 l D dA sz h0 q1 q2 q3 q4 (xTm a0) a0 X (fun LF hF => ?_) 24 0 [] (by omega) rfl
  refine k_iconst C (v := 0) d_X_init_105 (by decide) ?_
  refine k_istore_n C d_X_init_106 rfl (Nat.le_of_ble_eq_true rfl) rfl ?_
  refine r_nn (a := 28 + 8 * 0) (b := 127 + 90 * 0) rfl rfl ?_
  refine l_X_i2 l D dA sz h0 q1 q2 q3 q4 (xTm a0) a0 X LF (fun LA hA => ?_) 12 0 [] (by omega) rfl
  refine k_iconst C (v := 0) d_X_init_132 (by decide) ?_
  refine k_istore_n C d_X_init_133 rfl (Nat.le_of_ble_eq_true rfl) rfl ?_
  refine r_nn (a := 124 + 0) (b := 1207 + 4 * 0) rfl rfl ?_
  refine l_X_i3 l D dA sz h0 q1 q2 q3 q4 (xTm a0) a0 X LF LA (fun LM hM => ?_) 6 0 [] (by omega) rfl
  exact r_vret X ⟨by decide, by decide⟩ d_X_init_159 ⟨q1, q2, q3, q4, LF, LA, LM, hF, hA, hM, rfl⟩
