/-! the systems out of the constructors' worlds -/
theorem cell_q {cA : ClassId} {N : Nat} {f f' : Nat → Option Nat} (h : ∀ j, j < N → f j = f' j) : vp_cell cA (N, qA f) = vp_cell cA (N, qA f') := by
  rw [vp_cell_q, vp_cell_q]
  unfold arrV
  have e : (fun j : Fin N => va_rf (f j.val)) = fun j : Fin N => va_rf (f' j.val) := funext fun j => by rw [h j.val j.isLt]
  rw [e]
theorem fm_len {α β : Type} (f : α → List β) (m : Nat) (hf : ∀ a, (f a).length = m) : ∀ L : List α, (L.flatMap f).length = m * L.length
  | [] => by simp
  | a :: L => by rw [List.flatMap_cons, List.length_append, hf, fm_len f m hf L, List.length_cons, Nat.mul_add, Nat.mul_one, Nat.add_comm]
theorem fm_get {α β : Type} (f : α → List β) (m : Nat) (hf : ∀ a, (f a).length = m) : ∀ (L : List α) (i j : Nat), j < m → (L.flatMap f)[m * i + j]? = L[i]?.bind (fun a => (f a)[j]?)
  | [], i, j, hj => by simp
  | a :: L, 0, j, hj => by
    rw [List.flatMap_cons, Nat.mul_zero, Nat.zero_add, List.getElem?_append_left (by rw [hf]; exact hj)]
    rfl
  | a :: L, i + 1, j, hj => by
    rw [List.flatMap_cons, List.getElem?_append_right (by rw [hf, Nat.mul_add]; omega), hf, show m * (i + 1) + j - m = m * i + j by rw [Nat.mul_add]; omega, fm_get f m hf L i j hj]
    rfl
theorem sys_of {y : kSys} {g0 : kG} {ws : va_W} {A : Nat → Prop} {H : Heap} (ix : Nat → Nat → Nat) (hat : ∀ r ∈ y_refs y, ∃ e : va_E, ws[ix r.1 r.2]? = some (y_ad y r.1 r.2, e) ∧ ∀ H : Heap, va_at (y_D y) kCl (y_ad y r.1 r.2, e) H → va_at (y_D y) kCl (y_ad y r.1 r.2, kCel y r.1 r.2 g0.1 g0.2) H) (hinj : ∀ r ∈ y_refs y, ∀ r' ∈ y_refs y, ix r.1 r.2 = ix r'.1 r'.2 → r = r') (hP : va_P (y_D y) kCl ws H) (hD : va_D A ws) : kWd y g0 H ∧ (∀ r ∈ y_refs y, ∀ r' ∈ y_refs y, y_ad y r.1 r.2 = y_ad y r'.1 r'.2 → r = r') ∧ (∀ q, kAA y q → A q ∧ ∃ r ∈ y_refs y, ∃ e, ws[ix r.1 r.2]? = some (q, e)) := by
  refine ⟨fun k q hk => ?_, fun r hr r' hr' e => ?_, fun q hq => ?_⟩
  · unfold kLs at hk
    rw [List.getElem?_map] at hk
    cases h1 : (y_refs y)[k]? with
    | none => rw [h1] at hk; cases hk
    | some r =>
      rw [h1] at hk
      cases hk
      obtain ⟨e, e1, e2⟩ := hat r (List.mem_of_getElem? h1)
      exact e2 H (hP _ _ e1)
  · obtain ⟨e1, a1, -⟩ := hat r hr
    obtain ⟨e2, a2, -⟩ := hat r' hr'
    exact hinj r hr r' hr' (hD.1 _ _ _ _ a1 a2 e)
  · obtain ⟨r, hr, rfl⟩ := hq
    obtain ⟨e, a1, -⟩ := hat r hr
    exact ⟨hD.2 _ _ a1, r, hr, e, a1⟩
def bX (h0 q1 q2 q3 q4 : Nat) (LF : List Nat) (LA : List (Nat → Nat)) (LM : List Nat) : Nat → Nat → Nat := fun k i => match k with
  | 0 => h0
  | 1 => q1
  | 2 => q2
  | 3 => q3
  | 4 => q4
  | 5 => LF.getD i 0
  | 6 => LA.getD i (fun _ => 0) 0
  | 7 => LA.getD i (fun _ => 0) 1
  | 8 => LA.getD i (fun _ => 0) 2
  | 9 => LA.getD i (fun _ => 0) 3
  | 10 => LA.getD i (fun _ => 0) 4
  | 11 => LA.getD i (fun _ => 0) 5
  | 12 => LA.getD i (fun _ => 0) 6
  | 13 => LA.getD i (fun _ => 0) 7
  | _ => LM.getD i 0
def iX : Nat → Nat → Nat := fun k i => if k < 5 then k else if k = 5 then 5 + i else if k < 14 then 29 + (8 * i + (k - 6)) else 125 + i
def x0 (T : Int32) : kG := (fun k _ j => match k with
  | 0 => (match j with
    | 0 => T
    | _ => 0)
  | 5 => (match j with
    | 2 => -1
    | _ => 0)
  | 6 => (match j with
    | 4 => -1
    | 9 => -1
    | _ => 0)
  | _ => 0, fun _ _ _ => 0)
theorem xRefs_c : ∀ r ∈ xRefs, (r.1 < 5 ∧ r.2 = 0) ∨ (r.1 = 5 ∧ r.2 < 24) ∨ (6 ≤ r.1 ∧ r.1 < 14 ∧ r.2 < 12) ∨ (r.1 = 14 ∧ r.2 < 6) := by decide +kernel
theorem iX_inj : ∀ r ∈ xRefs, ∀ r' ∈ xRefs, iX r.1 r.2 = iX r'.1 r'.2 → r = r' := by
  intro r hr r' hr' e
  have a := xRefs_c r hr
  have b := xRefs_c r' hr'
  obtain ⟨k, i⟩ := r
  obtain ⟨k', i'⟩ := r'
  unfold iX at e
  dsimp only at a b e
  have : k = k' ∧ i = i' := by
    split at e <;> split at e <;> (try (split at e)) <;> (try (split at e)) <;> (try (split at e)) <;> (try (split at e)) <;> omega
  rw [this.1, this.2]
theorem gd {α : Type} {L : List α} {i : Nat} (h : i < L.length) (d : α) : L[i]? = some (L.getD i d) := by
  rw [List.getElem?_eq_getElem h, List.getD_eq_getElem?_getD, List.getElem?_eq_getElem h]
  rfl
section IX
variable {dA : Nat → ClassId} {D : va_G} {T : Int32} {h0 q1 q2 q3 q4 : Nat} {LF : List Nat} {LA : List (Nat → Nat)} {LM : List Nat}
theorem aG_len (p : Nat → Nat) : (aG dA p).length = 8 := rfl
theorem xAS_len : (xAS dA LA).length = 8 * LA.length := fm_len (aG dA) 8 aG_len LA
theorem xw_A (hF : LF.length = 24) (hA : LA.length = 12) (hM : LM.length = 6) {i j : Nat} (hi : i < 12) (hj : j < 8) {q : Nat × va_E} (h : (aG dA (LA.getD i (fun _ => 0)))[j]? = some q) : (xWd dA T h0 q1 q2 q3 q4 LF LA LM)[29 + (8 * i + j)]? = some q := by
  have e1 : (xB dA T h0 q1 q2 q3 q4 LF LA LM ++ xFS LF).length = 29 := by
    rw [List.length_append]
    unfold xFS
    rw [List.length_map, hF]
    rfl
  have e2 : (xAS dA LA).length = 96 := by rw [xAS_len, hA]
  unfold xWd
  rw [List.getElem?_append_left (by rw [List.length_append, e1, e2]; omega), List.getElem?_append_right (by rw [e1]; omega), e1, show 29 + (8 * i + j) - 29 = 8 * i + j by omega]
  unfold xAS
  rw [fm_get (aG dA) 8 aG_len LA i j hj, gd (by omega) (fun _ => 0)]
  exact h
theorem xw_at (hF : LF.length = 24) (hA : LA.length = 12) (hM : LM.length = 6) : ∀ r ∈ xRefs, ∃ e : va_E, (xWd dA T h0 q1 q2 q3 q4 LF LA LM)[iX r.1 r.2]? = some (bX h0 q1 q2 q3 q4 LF LA LM r.1 r.2, e) ∧ ∀ H : Heap, va_at D kCl (bX h0 q1 q2 q3 q4 LF LA LM r.1 r.2, e) H → va_at D kCl (bX h0 q1 q2 q3 q4 LF LA LM r.1 r.2, kCel (sysX (bX h0 q1 q2 q3 q4 LF LA LM) dA D) r.1 r.2 (x0 T).1 (x0 T).2) H := by
  intro r hr
  have c := xRefs_c r hr
  obtain ⟨k, i⟩ := r
  dsimp only at c ⊢
  have e1 : (xB dA T h0 q1 q2 q3 q4 LF LA LM ++ xFS LF).length = 29 := by
    rw [List.length_append]
    unfold xFS
    rw [List.length_map, hF]
    rfl
  have e2 : (xAS dA LA).length = 96 := by rw [xAS_len, hA]
  rcases c with ⟨c1, c2⟩ | ⟨c1, c2⟩ | ⟨c1, c2, c3⟩ | ⟨c1, c2⟩
  · subst c2
    have hk : ∀ q, (xB dA T h0 q1 q2 q3 q4 LF LA LM)[k]? = some q → (xWd dA T h0 q1 q2 q3 q4 LF LA LM)[iX k 0]? = some q := by
      intro q hq
      have : iX k 0 = k := if_pos c1
      rw [this]
      unfold xWd
      rw [List.getElem?_append_left (by rw [List.length_append, e1, e2]; omega), List.getElem?_append_left (by rw [e1]; omega), List.getElem?_append_left (by show k < 5; exact c1)]
      exact hq
    rcases (show k = 0 ∨ k = 1 ∨ k = 2 ∨ k = 3 ∨ k = 4 by omega) with rfl | rfl | rfl | rfl | rfl
    · exact ⟨_, hk _ rfl, fun H h => h⟩
    · refine ⟨_, hk _ rfl, fun H h => ?_⟩
      have h2 : H[q1]? = some (vp_cell (dA 3) (24, qA (fun j => LF[j]?))) := h
      rw [cell_q (f' := fun j => some (LF.getD j 0)) (fun j hj => gd (by omega) 0)] at h2
      exact h2
    · refine ⟨_, hk _ rfl, fun H h => ?_⟩
      have h2 : H[q2]? = some (vp_cell (dA 4) (12, qA (fun j => LA[j]?.map (fun p => p 0)))) := h
      rw [cell_q (f' := fun j => some (LA.getD j (fun _ => 0) 0)) (fun j hj => by rw [gd (by omega) (fun _ => 0)]; rfl)] at h2
      exact h2
    · refine ⟨_, hk _ rfl, fun H h => ?_⟩
      have h2 : H[q3]? = some (vp_cell (dA 5) (6, qA (fun j => LM[j]?))) := h
      rw [cell_q (f' := fun j => some (LM.getD j 0)) (fun j hj => gd (by omega) 0)] at h2
      exact h2
    · exact ⟨_, hk _ rfl, fun H h => h⟩
  · subst c1
    refine ⟨cF0, ?_, fun H h => h⟩
    show (xWd dA T h0 q1 q2 q3 q4 LF LA LM)[5 + i]? = some (LF.getD i 0, cF0)
    unfold xWd
    rw [List.getElem?_append_left (by rw [List.length_append, e1, e2]; omega), List.getElem?_append_left (by rw [e1]; omega), List.getElem?_append_right (by show 5 ≤ 5 + i; omega), show 5 + i - (xB dA T h0 q1 q2 q3 q4 LF LA LM).length = i by show 5 + i - 5 = i; omega]
    unfold xFS
    rw [List.getElem?_map, gd (by omega) 0]
    rfl
  · rcases (show k = 6 ∨ k = 7 ∨ k = 8 ∨ k = 9 ∨ k = 10 ∨ k = 11 ∨ k = 12 ∨ k = 13 by omega) with rfl | rfl | rfl | rfl | rfl | rfl | rfl | rfl
    · exact ⟨_, xw_A hF hA hM c3 (j := 0) (by omega) rfl, fun H h => h⟩
    · exact ⟨_, xw_A hF hA hM c3 (j := 1) (by omega) rfl, fun H h => h⟩
    · exact ⟨_, xw_A hF hA hM c3 (j := 2) (by omega) rfl, fun H h => h⟩
    · exact ⟨_, xw_A hF hA hM c3 (j := 3) (by omega) rfl, fun H h => h⟩
    · exact ⟨_, xw_A hF hA hM c3 (j := 4) (by omega) rfl, fun H h => h⟩
    · exact ⟨_, xw_A hF hA hM c3 (j := 5) (by omega) rfl, fun H h => h⟩
    · exact ⟨_, xw_A hF hA hM c3 (j := 6) (by omega) rfl, fun H h => h⟩
    · exact ⟨_, xw_A hF hA hM c3 (j := 7) (by omega) rfl, fun H h => h⟩
  · subst c1
    refine ⟨cG0, ?_, fun H h => h⟩
    show (xWd dA T h0 q1 q2 q3 q4 LF LA LM)[125 + i]? = some (LM.getD i 0, cG0)
    unfold xWd
    rw [List.getElem?_append_right (by rw [List.length_append, e1, e2]; omega), show 125 + i - (xB dA T h0 q1 q2 q3 q4 LF LA LM ++ xFS LF ++ xAS dA LA).length = i by rw [List.length_append, e1, e2]; omega]
    unfold xMS
    rw [List.getElem?_map, gd (by omega) 0]
    rfl
theorem xWd_len (hF : LF.length = 24) (hA : LA.length = 12) (hM : LM.length = 6) : (xWd dA T h0 q1 q2 q3 q4 LF LA LM).length = 131 := by
  unfold xWd xFS xMS
  rw [List.length_append, List.length_append, List.length_append, List.length_map, List.length_map, xAS_len, hF, hA, hM]
  rfl
end IX
def mWd (dA : Nat → ClassId) (T : Int32) (h0 q1 q2 q3 q4 q5 q6 q7 q8 q9 q10 q11 q12 q13 q14 q15 q16 q17 q18 q19 q20 q21 q22 q23 q24 q25 q26 : Nat) : va_W := [(h0, .inr (5, [.int T, .int 0, .int 0, .int 0, .int 0, .ref q1, .ref q2, .ref q3, .ref q4, .ref q5, .ref q6, .ref q7, .ref q8, .ref q9, .ref q10, .ref q11, .ref q12, .ref q13, .ref q14, .ref q15, .ref q16, .ref q17, .ref q18, .ref q19, .ref q20, .ref q21, .int 0, .ref q22, .ref q23, .ref q24, .ref q25, .ref q26, .long 0, .long 0])), (q1, .inl (dA 1, 24, .inl (fun _ => 0))), (q2, .inl (dA 2, 24, .inr (.inl (fun _ => 0)))), (q3, .inl (dA 0, 24, .inl (fun _ => 0))), (q4, .inl (dA 0, 12, .inl (fun _ => 0))), (q5, .inl (dA 0, 12, .inl (fun _ => 0))), (q6, .inl (dA 0, 12, .inl (fun _ => 0))), (q7, .inl (dA 0, 144, .inl (fun _ => 0))), (q8, .inl (dA 0, 144, .inl (fun _ => 0))), (q9, .inl (dA 0, 12, .inl (fun _ => 0))), (q10, .inl (dA 0, 12, .inl (fun _ => 0))), (q11, .inl (dA 0, 288, .inl (fun _ => 0))), (q12, .inl (dA 0, 12, .inl (fun _ => 0))), (q13, .inl (dA 0, 12, .inl (fun _ => 0))), (q14, .inl (dA 0, 12, .inl (fun _ => 0))), (q15, .inl (dA 0, 12, .inl (fun _ => 0))), (q16, .inl (dA 1, 288, .inl (fun _ => 0))), (q17, .inl (dA 1, 288, .inl (fun _ => 0))), (q18, .inl (dA 1, 12, .inl (fun _ => 0))), (q19, .inl (dA 2, 288, .inr (.inl (fun _ => 0)))), (q20, .inl (dA 0, 12, .inl (fun _ => 0))), (q21, .inl (dA 0, 12, .inl (fun _ => 0))), (q22, .inl (dA 0, 6, .inl (fun _ => 0))), (q23, .inl (dA 0, 6, .inl (fun _ => 0))), (q24, .inl (dA 2, 6, .inr (.inl (fun _ => 0)))), (q25, .inl (dA 2, 24, .inr (.inl (fun _ => 0)))), (q26, .inl (dA 2, 24, .inr (.inl (fun _ => 0))))]
def bM (h0 q1 q2 q3 q4 q5 q6 q7 q8 q9 q10 q11 q12 q13 q14 q15 q16 q17 q18 q19 q20 q21 q22 q23 q24 q25 q26 : Nat) : Nat → Nat → Nat := fun k _ => match k with
  | 0 => h0
  | 5 => q1
  | 6 => q2
  | 7 => q3
  | 8 => q4
  | 9 => q5
  | 10 => q6
  | 11 => q7
  | 12 => q8
  | 13 => q9
  | 14 => q10
  | 15 => q11
  | 16 => q12
  | 17 => q13
  | 18 => q14
  | 19 => q15
  | 20 => q16
  | 21 => q17
  | 22 => q18
  | 23 => q19
  | 24 => q20
  | 25 => q21
  | 27 => q22
  | 28 => q23
  | 29 => q24
  | 30 => q25
  | _ => q26
def iM : Nat → Nat → Nat := fun k _ => if k = 0 then 0 else if k < 26 then k - 4 else k - 5
def h0m (T : Int32) : kG := (fun k _ j => match k with
  | 0 => (match j with
    | 0 => T
    | _ => 0)
  | _ => 0, fun _ _ _ => 0)
theorem iM_inj : ∀ r ∈ mRefs, ∀ r' ∈ mRefs, iM r.1 r.2 = iM r'.1 r'.2 → r = r' := by decide +kernel
theorem iM_lt : ∀ r ∈ mRefs, iM r.1 r.2 < 27 := by decide +kernel
theorem iX_lt : ∀ r ∈ xRefs, iX r.1 r.2 < 131 := by decide +kernel
theorem mw_at {dA : Nat → ClassId} {D : va_G} {T : Int32} {h0 q1 q2 q3 q4 q5 q6 q7 q8 q9 q10 q11 q12 q13 q14 q15 q16 q17 q18 q19 q20 q21 q22 q23 q24 q25 q26 : Nat} : ∀ r ∈ mRefs, ∃ e : va_E, (mWd dA T h0 q1 q2 q3 q4 q5 q6 q7 q8 q9 q10 q11 q12 q13 q14 q15 q16 q17 q18 q19 q20 q21 q22 q23 q24 q25 q26)[iM r.1 r.2]? = some (bM h0 q1 q2 q3 q4 q5 q6 q7 q8 q9 q10 q11 q12 q13 q14 q15 q16 q17 q18 q19 q20 q21 q22 q23 q24 q25 q26 r.1 r.2, e) ∧ ∀ H : Heap, va_at D kCl (bM h0 q1 q2 q3 q4 q5 q6 q7 q8 q9 q10 q11 q12 q13 q14 q15 q16 q17 q18 q19 q20 q21 q22 q23 q24 q25 q26 r.1 r.2, e) H → va_at D kCl (bM h0 q1 q2 q3 q4 q5 q6 q7 q8 q9 q10 q11 q12 q13 q14 q15 q16 q17 q18 q19 q20 q21 q22 q23 q24 q25 q26 r.1 r.2, kCel (sysM (bM h0 q1 q2 q3 q4 q5 q6 q7 q8 q9 q10 q11 q12 q13 q14 q15 q16 q17 q18 q19 q20 q21 q22 q23 q24 q25 q26) dA D) r.1 r.2 (h0m T).1 (h0m T).2) H := by
  intro r hr
  simp only [mRefs, List.mem_cons, List.not_mem_nil, or_false] at hr
  rcases hr with rfl | rfl | rfl | rfl | rfl | rfl | rfl | rfl | rfl | rfl | rfl | rfl | rfl | rfl | rfl | rfl | rfl | rfl | rfl | rfl | rfl | rfl | rfl | rfl | rfl | rfl | rfl
  · exact ⟨_, rfl, fun H h => h⟩
  · exact ⟨_, rfl, fun H h => h⟩
  · exact ⟨_, rfl, fun H h => h⟩
  · exact ⟨_, rfl, fun H h => h⟩
  · exact ⟨_, rfl, fun H h => h⟩
  · exact ⟨_, rfl, fun H h => h⟩
  · exact ⟨_, rfl, fun H h => h⟩
  · exact ⟨_, rfl, fun H h => h⟩
  · exact ⟨_, rfl, fun H h => h⟩
  · exact ⟨_, rfl, fun H h => h⟩
  · exact ⟨_, rfl, fun H h => h⟩
  · exact ⟨_, rfl, fun H h => h⟩
  · exact ⟨_, rfl, fun H h => h⟩
  · exact ⟨_, rfl, fun H h => h⟩
  · exact ⟨_, rfl, fun H h => h⟩
  · exact ⟨_, rfl, fun H h => h⟩
  · exact ⟨_, rfl, fun H h => h⟩
  · exact ⟨_, rfl, fun H h => h⟩
  · exact ⟨_, rfl, fun H h => h⟩
  · exact ⟨_, rfl, fun H h => h⟩
  · exact ⟨_, rfl, fun H h => h⟩
  · exact ⟨_, rfl, fun H h => h⟩
  · exact ⟨_, rfl, fun H h => h⟩
  · exact ⟨_, rfl, fun H h => h⟩
  · exact ⟨_, rfl, fun H h => h⟩
  · exact ⟨_, rfl, fun H h => h⟩
  · exact ⟨_, rfl, fun H h => h⟩
theorem tm_of (a : Int32) : ∃ t, 1 ≤ t ∧ t ≤ 9 ∧ xTm a = nI t ∧ mTm a = nI t := by
  unfold xTm mTm
  by_cases z : a < 1
  · have z1 : ¬ 1 ≤ a := Int32.not_le.mpr z
    have z2 : a < 9 := Int32.lt_trans z (by decide)
    have z3 : ¬ 1 < a := fun q => Int32.lt_irrefl (Int32.lt_trans q z)
    rw [if_pos z2, if_neg z3, if_neg z1]
    exact ⟨1, by decide, by decide, rfl, rfl⟩
  · have n0 : ¬ a < 0 := fun q => z (Int32.lt_trans q (by decide))
    obtain ⟨j, hj, rfl⟩ := nI_of n0
    have j1 : 1 ≤ j := by
      rcases Nat.lt_or_ge j 1 with q | q
      · exact absurd (show nI j < 1 from nI_lt (b := 1) q (by decide)) z
      · exact q
    have z1 : (1 : Int32) ≤ nI j := nI_le (a := 1) j1 hj
    rw [if_pos z1]
    by_cases q : j < 9
    · have q1 : nI j < 9 := nI_lt (b := 9) q (by decide)
      have q2 : nI j ≤ 9 := nI_le (b := 9) (by omega) (by decide)
      rw [if_pos q1, if_pos q2]
      by_cases y : 1 < j
      · rw [if_pos (show (1 : Int32) < nI j from nI_lt (a := 1) y hj)]
        exact ⟨j, j1, by omega, rfl, rfl⟩
      · have : j = 1 := by omega
        subst this
        exact ⟨1, by decide, by decide, rfl, rfl⟩
    · have q1 : ¬ nI j < 9 := nI_nlt (b := 9) (by omega) hj
      rw [if_neg q1, if_pos (show (1 : Int32) < 9 by decide)]
      refine ⟨9, by decide, by decide, rfl, ?_⟩
      split
      · next y =>
        have : j ≤ 9 := by
          rcases Nat.lt_or_ge 9 j with c | c
          · exact absurd y (nI_ge (a := 9) c hj)
          · exact c
        have : j = 9 := by omega
        rw [this]
      · rfl
theorem K_0 {t : Nat} (h1 : 1 ≤ t) (h9 : t ≤ 9) : K t (x0 (nI t)) (h0m (nI t)) := by
  have k0 : ∀ n, kN (0 : Int32) n := fun n => ⟨rfl, Nat.zero_le _⟩
  refine ⟨0, 0, 0, ⟨⟨by decide, by decide, by decide, h1, h9⟩, ⟨rfl, rfl⟩, ⟨rfl, rfl⟩, ⟨rfl, rfl⟩, ⟨rfl, rfl⟩, fun _ _ => rfl, fun _ _ => rfl, fun _ _ => ⟨Or.inl rfl, fun _ => rfl⟩, fun _ h => absurd h (Nat.not_lt_zero _), fun _ _ _ => ⟨rfl, rfl⟩, fun _ _ => rfl, fun _ h => absurd h (Nat.not_lt_zero _), fun _ _ _ => ⟨rfl, rfl⟩, fun _ h => absurd h (Nat.not_lt_zero _), fun _ _ => ⟨rfl, k0 12⟩, fun _ _ _ _ => ⟨rfl, rfl⟩, fun _ _ _ h => absurd h (Nat.not_lt_zero _), fun _ h => absurd h (Nat.not_lt_zero _), fun _ _ _ => rfl, fun _ _ => ⟨rfl, k0 12⟩, fun _ _ _ _ => rfl, fun _ _ _ _ => rfl, fun _ _ _ _ => rfl, fun _ _ _ _ => rfl, fun _ _ _ _ _ => rfl, fun _ _ _ h => absurd h (Nat.not_lt_zero _), fun _ _ => rfl, fun _ _ => rfl, fun _ _ => rfl, fun _ _ => ⟨0, Nat.zero_le _, rfl⟩, fun _ h => absurd h (Nat.not_lt_zero _), fun _ _ _ => rfl, fun _ _ => ⟨rfl, 0, by decide, rfl⟩, fun _ _ => ⟨rfl, k0 4⟩, fun _ _ => rfl, fun _ h => absurd h (Nat.not_lt_zero _), fun _ _ _ h => absurd h (Nat.not_lt_zero _), fun _ _ _ => rfl, fun _ => Or.inl rfl, fun _ _ => rfl⟩, fun _ _ _ => rfl, 0, 0, rfl, rfl, rfl, by decide, by decide, fun _ h => absurd h (Nat.not_lt_zero _)⟩
