/-! memory: systems of cells at fixed places; rows that read and write them; contracts, calls, returns -/
def kT : List Cond := lw_tbl.filter goodWord
theorem kT_in {w : Cond} (h : w ∈ lw_tbl ∧ goodWord w = true) : w ∈ kT := List.mem_filter.mpr h
theorem kT_good {ws : List Cond} (h : ∀ w ∈ ws, w ∈ kT) : GoodIn kT ws := fun w hw => ⟨h w hw, good_of_word (List.mem_filter.mp (h w hw)).2⟩
theorem kOk.ts {x : kCx} {cc : ByteArray} {own : String} (C : kOk x cc own) : ∀ w ∈ kT, w.before x.2.2.2.2.2.2.1 x.2.2.2.2.1 = true := fun w h => C.2.2.2 w (List.mem_filter.mp h).1 (List.mem_filter.mp h).2
abbrev kSys : Type := List (Nat × Nat) × (Nat → Nat → Nat) × (Nat → Nat → Nat → Nat × Nat) × (Nat → Nat) × (Nat → List Nat) × (Nat → Nat) × (Nat → Nat) × (Nat → ClassId) × va_G × List (ClassId × FieldType)
abbrev y_refs (y : kSys) : List (Nat × Nat) := y.1
abbrev y_ad (y : kSys) : Nat → Nat → Nat := y.2.1
abbrev y_rt (y : kSys) : Nat → Nat → Nat → Nat × Nat := y.2.2.1
abbrev y_kc (y : kSys) : Nat → Nat := y.2.2.2.1
abbrev y_ft (y : kSys) : Nat → List Nat := y.2.2.2.2.1
abbrev y_is (y : kSys) : Nat → Nat := y.2.2.2.2.2.1
abbrev y_ln (y : kSys) : Nat → Nat := y.2.2.2.2.2.2.1
abbrev y_ca (y : kSys) : Nat → ClassId := y.2.2.2.2.2.2.2.1
abbrev y_D (y : kSys) : va_G := y.2.2.2.2.2.2.2.2.1
abbrev y_ty (y : kSys) : List (ClassId × FieldType) := y.2.2.2.2.2.2.2.2.2
abbrev kG : Type := kI × kJ
def kU (I : kI) (k i j : Nat) (v : Int32) : kI := fun a b c => if a = k ∧ c = j ∧ b = i then v else I a b c
def kUJ (J : kJ) (k i j : Nat) (v : Int64) : kJ := fun a b c => if a = k ∧ c = j ∧ b = i then v else J a b c
theorem kU_s (I : kI) (k i j : Nat) (v : Int32) : kU I k i j v k i j = v := if_pos ⟨rfl, rfl, rfl⟩
theorem kUJ_s (J : kJ) (k i j : Nat) (v : Int64) : kUJ J k i j v k i j = v := if_pos ⟨rfl, rfl, rfl⟩
theorem kU_n {I : kI} {k i j a b c : Nat} {v : Int32} (h : ¬ (a = k ∧ c = j ∧ b = i)) : kU I k i j v a b c = I a b c := if_neg h
theorem kUJ_n {J : kJ} {k i j a b c : Nat} {v : Int64} (h : ¬ (a = k ∧ c = j ∧ b = i)) : kUJ J k i j v a b c = J a b c := if_neg h
def k_fv (rt : Nat → Nat → Nat → Nat × Nat) (k i : Nat) (I : kI) (J : kJ) (m t : Nat) : kV := match t with
  | 0 => .inl (I k i m)
  | 1 => .inr (.inl (J k i m))
  | _ => .inr (.inr (rt k i m))
def k_fl (rt : Nat → Nat → Nat → Nat × Nat) (k i : Nat) (I : kI) (J : kJ) : Nat → List Nat → List kV
  | _, [] => []
  | n, t :: r => k_fv rt k i I J n t :: k_fl rt k i I J (n + 1) r
theorem k_fl_get {rt : Nat → Nat → Nat → Nat × Nat} {k i : Nat} {I : kI} {J : kJ} : ∀ (l : List Nat) (n j : Nat), (k_fl rt k i I J n l)[j]? = l[j]?.map (k_fv rt k i I J (n + j))
  | [], n, j => by simp [k_fl]
  | t :: r, n, 0 => by simp [k_fl]
  | t :: r, n, j + 1 => by
    simp only [k_fl, List.getElem?_cons_succ]
    rw [k_fl_get r (n + 1) j, Nat.add_assoc, Nat.add_comm 1 j]
theorem k_fl_len {rt : Nat → Nat → Nat → Nat × Nat} {k i : Nat} {I : kI} {J : kJ} : ∀ (l : List Nat) (n : Nat), (k_fl rt k i I J n l).length = l.length
  | [], n => rfl
  | t :: r, n => by simp only [k_fl, List.length_cons]; rw [k_fl_len r (n + 1)]
theorem k_fl_congr {rt : Nat → Nat → Nat → Nat × Nat} {k i : Nat} {I I' : kI} {J J' : kJ} (h1 : I' k i = I k i) (h2 : J' k i = J k i) : ∀ (l : List Nat) (n : Nat), k_fl rt k i I' J' n l = k_fl rt k i I J n l
  | [], n => rfl
  | t :: r, n => by
    simp only [k_fl]
    rw [k_fl_congr h1 h2 r (n + 1)]
    have : k_fv rt k i I' J' n t = k_fv rt k i I J n t := by
      rcases t with _ | _ | t
      · show Sum.inl (I' k i n) = Sum.inl (I k i n)
        rw [h1]
      · show Sum.inr (Sum.inl (J' k i n)) = Sum.inr (Sum.inl (J k i n))
        rw [h2]
      · rfl
    rw [this]
theorem k_fl_setI {rt : Nat → Nat → Nat → Nat × Nat} {k i sl : Nat} {I : kI} {J : kJ} {v : Int32} {l : List Nat} (h : l[sl]? = some 0) : k_fl rt k i (kU I k i sl v) J 0 l = (k_fl rt k i I J 0 l).set sl (.inl v) := by
  apply List.ext_getElem?
  intro j
  rw [k_fl_get, List.getElem?_set, k_fl_get, Nat.zero_add, k_fl_len]
  by_cases e : sl = j
  · subst e
    rw [if_pos rfl, if_pos (List.getElem?_eq_some_iff.mp h).1, h]
    show some (Sum.inl (kU I k i sl v k i sl)) = _
    rw [kU_s]
  · rw [if_neg e]
    cases l[j]? with
    | none => rfl
    | some t =>
      show some _ = some _
      congr 1
      rcases t with _ | _ | t
      · show Sum.inl (kU I k i sl v k i j) = Sum.inl (I k i j)
        rw [kU_n (fun q => e q.2.1.symm)]
      · rfl
      · rfl
theorem k_fl_setJ {rt : Nat → Nat → Nat → Nat × Nat} {k i sl : Nat} {I : kI} {J : kJ} {v : Int64} {l : List Nat} (h : l[sl]? = some 1) : k_fl rt k i I (kUJ J k i sl v) 0 l = (k_fl rt k i I J 0 l).set sl (.inr (.inl v)) := by
  apply List.ext_getElem?
  intro j
  rw [k_fl_get, List.getElem?_set, k_fl_get, Nat.zero_add, k_fl_len]
  by_cases e : sl = j
  · subst e
    rw [if_pos rfl, if_pos (List.getElem?_eq_some_iff.mp h).1, h]
    show some (Sum.inr (Sum.inl (kUJ J k i sl v k i sl))) = _
    rw [kUJ_s]
  · rw [if_neg e]
    cases l[j]? with
    | none => rfl
    | some t =>
      show some _ = some _
      congr 1
      rcases t with _ | _ | t
      · rfl
      · show Sum.inr (Sum.inl (kUJ J k i sl v k i j)) = Sum.inr (Sum.inl (J k i j))
        rw [kUJ_n (fun q => e q.2.1.symm)]
      · rfl
def kCel (y : kSys) (k i : Nat) (I : kI) (J : kJ) : va_E := match y_is y k with
  | 0 => .inr (y_kc y k, (k_fl (y_rt y) k i I J 0 (y_ft y k)).map (k_cv (y_ad y)))
  | 1 => .inl (y_ca y k, y_ln y k, .inl (I k i))
  | 2 => .inl (y_ca y k, y_ln y k, .inl (I k i))
  | 3 => .inl (y_ca y k, y_ln y k, .inr (.inl (J k i)))
  | _ => .inl (y_ca y k, y_ln y k, .inr (.inr (.inr (.inr (fun j => some (y_ad y (y_rt y k i j).1 (y_rt y k i j).2))))))
theorem kCel_congr {y : kSys} {k i : Nat} {I I' : kI} {J J' : kJ} (h1 : I' k i = I k i) (h2 : J' k i = J k i) : kCel y k i I' J' = kCel y k i I J := by
  unfold kCel
  rw [k_fl_congr h1 h2, h1, h2]
theorem kCel_0 {y : kSys} {k i : Nat} {I : kI} {J : kJ} (h : y_is y k = 0) : kCel y k i I J = .inr (y_kc y k, (k_fl (y_rt y) k i I J 0 (y_ft y k)).map (k_cv (y_ad y))) := by
  unfold kCel
  rw [h]
  rfl
theorem kCel_1 {y : kSys} {k i : Nat} {I : kI} {J : kJ} (h : y_is y k = 1) : kCel y k i I J = .inl (y_ca y k, y_ln y k, .inl (I k i)) := by
  unfold kCel
  rw [h]
  rfl
theorem kCel_2 {y : kSys} {k i : Nat} {I : kI} {J : kJ} (h : y_is y k = 2) : kCel y k i I J = .inl (y_ca y k, y_ln y k, .inl (I k i)) := by
  unfold kCel
  rw [h]
  rfl
theorem kCel_3 {y : kSys} {k i : Nat} {I : kI} {J : kJ} (h : y_is y k = 3) : kCel y k i I J = .inl (y_ca y k, y_ln y k, .inr (.inl (J k i))) := by
  unfold kCel
  rw [h]
  rfl
theorem kCel_4 {y : kSys} {k i : Nat} {I : kI} {J : kJ} (h : y_is y k = 4) : kCel y k i I J = .inl (y_ca y k, y_ln y k, .inr (.inr (.inr (.inr (fun j => some (y_ad y (y_rt y k i j).1 (y_rt y k i j).2)))))) := by
  unfold kCel
  rw [h]
  rfl
def kLs (y : kSys) (g : kG) : va_W := (y_refs y).map fun r => (y_ad y r.1 r.2, kCel y r.1 r.2 g.1 g.2)
def kWd (y : kSys) (g : kG) (H : Heap) : Prop := va_P (y_D y) kCl (kLs y g) H
def kAA (y : kSys) : Nat → Prop := fun q => ∃ r ∈ y_refs y, y_ad y r.1 r.2 = q
abbrev kNest : Cond := .methodLinkNest "DynamicNeeds$Mapping" 25 y_X_memberDigest "DynamicNeeds"
def kSO (y : kSys) (s : State) : Prop := va_K (y_D y) kCl (y_ty y) s ∧ (y_refs y).Nodup ∧ (∀ r ∈ y_refs y, ∀ r' ∈ y_refs y, y_ad y r.1 r.2 = y_ad y r'.1 r'.2 → r = r') ∧ va_Nw kNest s
theorem kSO.warm {y : kSys} {s U : State} (O : kSO y s) (hW : s.WarmedH U.vm) : kSO y U := ⟨va_K.moved hW.alike O.1, O.2.1, O.2.2.1, va_Nw.warmM hW O.2.2.2⟩
theorem kSO.same {y : kSys} {s U : State} (O : kSO y s) (h : s.vm = U.vm) : kSO y U := ⟨va_K.moved (by rw [h]; exact Vm.Alike.refl _) O.1, O.2.1, O.2.2.1, va_Nw.same rfl h O.2.2.2⟩
theorem k_D {y : kSys} {s : State} (O : kSO y s) (g : kG) : va_D (kAA y) (kLs y g) := by
  refine ⟨fun i j p q hp hq e => ?_, fun k q hq => ?_⟩
  · unfold kLs at hp hq
    rw [List.getElem?_map] at hp hq
    cases h1 : (y_refs y)[i]? with
    | none => rw [h1] at hp; cases hp
    | some r =>
      cases h2 : (y_refs y)[j]? with
      | none => rw [h2] at hq; cases hq
      | some r' =>
        rw [h1] at hp
        rw [h2] at hq
        cases hp
        cases hq
        have hrr : r = r' := O.2.2.1 r (List.mem_of_getElem? h1) r' (List.mem_of_getElem? h2) e
        subst hrr
        exact (List.getElem?_inj (List.getElem?_eq_some_iff.mp h1).1 O.2.1).mp (h1.trans h2.symm)
  · unfold kLs at hq
    rw [List.getElem?_map] at hq
    cases h1 : (y_refs y)[k]? with
    | none => rw [h1] at hq; cases hq
    | some r =>
      rw [h1] at hq
      cases hq
      exact ⟨r, List.mem_of_getElem? h1, rfl⟩
theorem k_lget {y : kSys} {g : kG} {q : Nat} {r : Nat × Nat} {e : va_E} (hq : (y_refs y)[q]? = some r) (he : kCel y r.1 r.2 g.1 g.2 = e) : (kLs y g)[q]? = some (y_ad y r.1 r.2, e) := by
  unfold kLs
  rw [List.getElem?_map, hq, ← he]
  rfl
theorem k_lset {y : kSys} {s : State} (O : kSO y s) {g g' : kG} {q : Nat} {r : Nat × Nat} {e : va_E} (hq : (y_refs y)[q]? = some r) (he : kCel y r.1 r.2 g'.1 g'.2 = e) (h : ∀ r' : Nat × Nat, r' ≠ r → g'.1 r'.1 r'.2 = g.1 r'.1 r'.2 ∧ g'.2 r'.1 r'.2 = g.2 r'.1 r'.2) : (kLs y g).set q (y_ad y r.1 r.2, e) = kLs y g' := by
  apply List.ext_getElem?
  intro j
  have hl : q < (kLs y g).length := by
    unfold kLs
    rw [List.length_map]
    exact (List.getElem?_eq_some_iff.mp hq).1
  rw [List.getElem?_set]
  by_cases ej : q = j
  · subst ej
    rw [if_pos rfl, if_pos hl, k_lget hq he]
  · rw [if_neg ej]
    unfold kLs
    rw [List.getElem?_map, List.getElem?_map]
    cases h1 : (y_refs y)[j]? with
    | none => rfl
    | some r' =>
      have hne : r' ≠ r := by
        intro e1
        subst e1
        exact ej ((List.getElem?_inj (List.getElem?_eq_some_iff.mp hq).1 O.2.1).mp (hq.trans h1.symm))
      show some (y_ad y r'.1 r'.2, kCel y r'.1 r'.2 g.1 g.2) = some (y_ad y r'.1 r'.2, kCel y r'.1 r'.2 g'.1 g'.2)
      rw [kCel_congr (h r' hne).1 (h r' hne).2]
theorem k_Une {I : kI} {k i j : Nat} {v : Int32} {r' : Nat × Nat} (h : r' ≠ (k, i)) : kU I k i j v r'.1 r'.2 = I r'.1 r'.2 := by
  funext c
  exact kU_n (fun q => h (Prod.ext q.1 q.2.2))
theorem k_UJne {J : kJ} {k i j : Nat} {v : Int64} {r' : Nat × Nat} (h : r' ≠ (k, i)) : kUJ J k i j v r'.1 r'.2 = J r'.1 r'.2 := by
  funext c
  exact kUJ_n (fun q => h (Prod.ext q.1 q.2.2))
def kZ (v : Int32) : Prop := v = 0 ∨ v = 1
theorem kZ_nar {v : Int32} (h : kZ v) : narrow .boolean (.int v) = .int v ∧ fits .boolean (.int v) = true ∧ vp_nar .boolean v = v := by
  rcases h with rfl | rfl <;> exact ⟨by decide +kernel, by decide +kernel, by decide +kernel⟩
/-- a field's link, for reading -/
def kFl (own : String) (idx ci sl : Nat) : Prop := ∃ (Cn : String) (T : u_T) (N : Nat), kCl[ci]? = some (Cn, T, N) ∧ (∀ w ∈ u_ws Cn T N, w ∈ kT) ∧ sl < N ∧ Cond.fieldLink own idx (T sl).1 (T sl).2.1 (T sl).2.2.1 ∈ kT
/-- and for writing -/
def kFp (own : String) (idx ci sl : Nat) (ty : FieldType) : Prop := ∃ (Cn : String) (T : u_T) (N : Nat) (ty0 : Nat → FieldType), kCl[ci]? = some (Cn, T, N) ∧ (∀ w ∈ u_ws Cn T N, w ∈ kT) ∧ (∀ k, k < N → parseFieldDescriptor (T k).2.2.1 = some (ty0 k)) ∧ (∀ a, a < N → ∀ b, b < N → a ≠ b → (T a).2.1 ≠ (T b).2.1) ∧ sl < N ∧ Cond.fieldLink own idx (T sl).1 (T sl).2.1 (T sl).2.2.1 ∈ kT ∧ (T sl).2.2.2 = false ∧ parseFieldDescriptor (T sl).2.2.1 = some ty
section KM
variable {y : kSys} {x : kCx} {n : Nat × Nat} {Q : State → Prop} {pc : Nat} {ls : List (Option kV)} {st : List kV} {g : kG} {cc : ByteArray} {own : String}
theorem k_getf (C : kOk x cc own) (O : kSO y x.2.2.2.2.1) {k i idx ci sl : Nat} {v : kV} (hd : decode cc pc = .ok (.getfield idx, 3)) (F : kFl own idx ci sl) (hr : (k, i) ∈ y_refs y) (hk : y_is y k = 0) (hc : y_kc y k = ci) (hv : (k_fl (y_rt y) k i g.1 g.2 0 (y_ft y k))[sl]? = some v)
    (kk : Wk (kWd y) (kAA y) (y_ad y) x n Q (pc + 3) ls (v :: st) g) : Wk (kWd y) (kAA y) (y_ad y) x n Q pc ls (.inr (.inr (k, i)) :: st) g := by
  intro H locs la hw hS hl
  obtain ⟨Cn, T, N, h1, h2, h3, h4⟩ := F
  obtain ⟨q, hq⟩ := List.getElem?_of_mem hr
  exact va_get C.1 C.2.1 C.ts h2 C.2.2.1 O.1 hw q (k_lget hq (kCel_0 hk)) (by rw [hc]; exact h1) sl h3 (C.ts _ h4) (fun _ h => h) (v := k_cv (y_ad y) v) (by rw [List.getElem?_map, hv]; rfl) hd (kk H locs la hw hS hl)
theorem k_putI (C : kOk x cc own) (O : kSO y x.2.2.2.2.1) {k i idx ci sl : Nat} {v : Int32} (hd : decode cc pc = .ok (.putfield idx, 3)) (F : kFp own idx ci sl .int) (hr : (k, i) ∈ y_refs y) (hk : y_is y k = 0) (hc : y_kc y k = ci) (ht : (y_ft y k)[sl]? = some 0)
    (kk : Wk (kWd y) (kAA y) (y_ad y) x n Q (pc + 3) ls st (kU g.1 k i sl v, g.2)) : Wk (kWd y) (kAA y) (y_ad y) x n Q pc ls (.inl v :: .inr (.inr (k, i)) :: st) g := by
  intro H locs la hw hS hl
  obtain ⟨Cn, T, N, ty0, h1, h2, h5, h6, h3, h4, h7, h8⟩ := F
  obtain ⟨q, hq⟩ := List.getElem?_of_mem hr
  refine va_put C.1 C.2.1 C.ts h2 ty0 h5 h6 C.2.2.1 O.1 hw (k_D O g) hS q (k_lget hq (kCel_0 hk)) (by rw [hc]; exact h1) sl h3 (C.ts _ h4) (fun _ h => h) h7 (v := .int v) h8 rfl rfl (by rw [List.length_map, k_fl_len]; exact (List.getElem?_eq_some_iff.mp ht).1) hd fun H1 locs1 hP1 hD1 hS1 => ?_
  refine kk H1 locs1 la ?_ hS1 hl
  have e : (kLs y g).set q (y_ad y k i, .inr (y_kc y k, ((k_fl (y_rt y) k i g.1 g.2 0 (y_ft y k)).map (k_cv (y_ad y))).set sl (.int v))) = kLs y (kU g.1 k i sl v, g.2) := by
    refine k_lset O (g' := (kU g.1 k i sl v, g.2)) hq ?_ (fun r' hne => ⟨k_Une hne, rfl⟩)
    rw [kCel_0 hk, k_fl_setI ht, List.map_set]
    rfl
  unfold kWd
  rw [← e]
  exact hP1
theorem k_putZ (C : kOk x cc own) (O : kSO y x.2.2.2.2.1) {k i idx ci sl : Nat} {v : Int32} (hd : decode cc pc = .ok (.putfield idx, 3)) (F : kFp own idx ci sl .boolean) (hz : kZ v) (hr : (k, i) ∈ y_refs y) (hk : y_is y k = 0) (hc : y_kc y k = ci) (ht : (y_ft y k)[sl]? = some 0)
    (kk : Wk (kWd y) (kAA y) (y_ad y) x n Q (pc + 3) ls st (kU g.1 k i sl v, g.2)) : Wk (kWd y) (kAA y) (y_ad y) x n Q pc ls (.inl v :: .inr (.inr (k, i)) :: st) g := by
  intro H locs la hw hS hl
  obtain ⟨Cn, T, N, ty0, h1, h2, h5, h6, h3, h4, h7, h8⟩ := F
  obtain ⟨q, hq⟩ := List.getElem?_of_mem hr
  refine va_put C.1 C.2.1 C.ts h2 ty0 h5 h6 C.2.2.1 O.1 hw (k_D O g) hS q (k_lget hq (kCel_0 hk)) (by rw [hc]; exact h1) sl h3 (C.ts _ h4) (fun _ h => h) h7 (v := .int v) h8 (kZ_nar hz).1 (kZ_nar hz).2.1 (by rw [List.length_map, k_fl_len]; exact (List.getElem?_eq_some_iff.mp ht).1) hd fun H1 locs1 hP1 hD1 hS1 => ?_
  refine kk H1 locs1 la ?_ hS1 hl
  have e : (kLs y g).set q (y_ad y k i, .inr (y_kc y k, ((k_fl (y_rt y) k i g.1 g.2 0 (y_ft y k)).map (k_cv (y_ad y))).set sl (.int v))) = kLs y (kU g.1 k i sl v, g.2) := by
    refine k_lset O (g' := (kU g.1 k i sl v, g.2)) hq ?_ (fun r' hne => ⟨k_Une hne, rfl⟩)
    rw [kCel_0 hk, k_fl_setI ht, List.map_set]
    rfl
  unfold kWd
  rw [← e]
  exact hP1
theorem k_putJ (C : kOk x cc own) (O : kSO y x.2.2.2.2.1) {k i idx ci sl : Nat} {v : Int64} (hd : decode cc pc = .ok (.putfield idx, 3)) (F : kFp own idx ci sl .long) (hr : (k, i) ∈ y_refs y) (hk : y_is y k = 0) (hc : y_kc y k = ci) (ht : (y_ft y k)[sl]? = some 1)
    (kk : Wk (kWd y) (kAA y) (y_ad y) x n Q (pc + 3) ls st (g.1, kUJ g.2 k i sl v)) : Wk (kWd y) (kAA y) (y_ad y) x n Q pc ls (.inr (.inl v) :: .inr (.inr (k, i)) :: st) g := by
  intro H locs la hw hS hl
  obtain ⟨Cn, T, N, ty0, h1, h2, h5, h6, h3, h4, h7, h8⟩ := F
  obtain ⟨q, hq⟩ := List.getElem?_of_mem hr
  refine va_put C.1 C.2.1 C.ts h2 ty0 h5 h6 C.2.2.1 O.1 hw (k_D O g) hS q (k_lget hq (kCel_0 hk)) (by rw [hc]; exact h1) sl h3 (C.ts _ h4) (fun _ h => h) h7 (v := .long v) h8 rfl rfl (by rw [List.length_map, k_fl_len]; exact (List.getElem?_eq_some_iff.mp ht).1) hd fun H1 locs1 hP1 hD1 hS1 => ?_
  refine kk H1 locs1 la ?_ hS1 hl
  have e : (kLs y g).set q (y_ad y k i, .inr (y_kc y k, ((k_fl (y_rt y) k i g.1 g.2 0 (y_ft y k)).map (k_cv (y_ad y))).set sl (.long v))) = kLs y (g.1, kUJ g.2 k i sl v) := by
    refine k_lset O (g' := (g.1, kUJ g.2 k i sl v)) hq ?_ (fun r' hne => ⟨rfl, k_UJne hne⟩)
    rw [kCel_0 hk, k_fl_setJ ht, List.map_set]
    rfl
  unfold kWd
  rw [← e]
  exact hP1
theorem k_iald (C : kOk x cc own) (O : kSO y x.2.2.2.2.1) {k i : Nat} {j : Int32} (hd : decode cc pc = .ok (.iaload, 1)) (hr : (k, i) ∈ y_refs y) (hk : y_is y k = 1) (t0 : Nat) (ht : (y_ty y)[t0]? = some (y_ca y k, .int)) (hin : vp_in j (y_ln y k))
    (kk : Wk (kWd y) (kAA y) (y_ad y) x n Q (pc + 1) ls (.inl (g.1 k i j.toNatClampNeg) :: st) g) : Wk (kWd y) (kAA y) (y_ad y) x n Q pc ls (.inl j :: .inr (.inr (k, i)) :: st) g := by
  intro H locs la hw hS hl
  obtain ⟨q, hq⟩ := List.getElem?_of_mem hr
  exact va_iald C.1 C.2.1 O.1 hw q t0 (k_lget hq (kCel_1 hk)) ht hin hd (kk H locs la hw hS hl)
theorem k_zald (C : kOk x cc own) (O : kSO y x.2.2.2.2.1) {k i : Nat} {j : Int32} (hd : decode cc pc = .ok (.baload, 1)) (hr : (k, i) ∈ y_refs y) (hk : y_is y k = 2) (t0 : Nat) (ht : (y_ty y)[t0]? = some (y_ca y k, .boolean)) (hin : vp_in j (y_ln y k))
    (kk : Wk (kWd y) (kAA y) (y_ad y) x n Q (pc + 1) ls (.inl (g.1 k i j.toNatClampNeg) :: st) g) : Wk (kWd y) (kAA y) (y_ad y) x n Q pc ls (.inl j :: .inr (.inr (k, i)) :: st) g := by
  intro H locs la hw hS hl
  obtain ⟨q, hq⟩ := List.getElem?_of_mem hr
  exact va_zald C.1 C.2.1 O.1 hw q t0 (k_lget hq (kCel_2 hk)) ht hin hd (kk H locs la hw hS hl)
theorem k_lald (C : kOk x cc own) (O : kSO y x.2.2.2.2.1) {k i : Nat} {j : Int32} (hd : decode cc pc = .ok (.laload, 1)) (hr : (k, i) ∈ y_refs y) (hk : y_is y k = 3) (t0 : Nat) (ht : (y_ty y)[t0]? = some (y_ca y k, .long)) (hin : vp_in j (y_ln y k))
    (kk : Wk (kWd y) (kAA y) (y_ad y) x n Q (pc + 1) ls (.inr (.inl (g.2 k i j.toNatClampNeg)) :: st) g) : Wk (kWd y) (kAA y) (y_ad y) x n Q pc ls (.inl j :: .inr (.inr (k, i)) :: st) g := by
  intro H locs la hw hS hl
  obtain ⟨q, hq⟩ := List.getElem?_of_mem hr
  exact va_lald C.1 C.2.1 O.1 hw q t0 (k_lget hq (kCel_3 hk)) ht hin hd (kk H locs la hw hS hl)
theorem k_aald (C : kOk x cc own) (O : kSO y x.2.2.2.2.1) {k i : Nat} {j : Int32} {E : String} (hd : decode cc pc = .ok (.aaload, 1)) (hr : (k, i) ∈ y_refs y) (hk : y_is y k = 4) (t0 : Nat) (ht : (y_ty y)[t0]? = some (y_ca y k, .object E)) (hin : vp_in j (y_ln y k))
    (kk : Wk (kWd y) (kAA y) (y_ad y) x n Q (pc + 1) ls (.inr (.inr (y_rt y k i j.toNatClampNeg)) :: st) g) : Wk (kWd y) (kAA y) (y_ad y) x n Q pc ls (.inl j :: .inr (.inr (k, i)) :: st) g := by
  intro H locs la hw hS hl
  obtain ⟨q, hq⟩ := List.getElem?_of_mem hr
  exact va_aldq C.1 C.2.1 O.1 hw q t0 (k_lget hq (kCel_4 hk)) ht hin hd (kk H locs la hw hS hl)
theorem k_alen (C : kOk x cc own) (O : kSO y x.2.2.2.2.1) {k i : Nat} {v : Int32} (hd : decode cc pc = .ok (.arraylength, 1)) (hr : (k, i) ∈ y_refs y) (hk : y_is y k = 1) (t0 : Nat) (ht : (y_ty y)[t0]? = some (y_ca y k, .int)) (hv : Int32.ofNat (y_ln y k) = v)
    (kk : Wk (kWd y) (kAA y) (y_ad y) x n Q (pc + 1) ls (.inl v :: st) g) : Wk (kWd y) (kAA y) (y_ad y) x n Q pc ls (.inr (.inr (k, i)) :: st) g := by
  intro H locs la hw hS hl
  obtain ⟨q, hq⟩ := List.getElem?_of_mem hr
  exact va_alen C.1 C.2.1 O.1 hw q t0 (k_lget hq (kCel_1 hk)) ht hv hd (kk H locs la hw hS hl)
theorem k_iast (C : kOk x cc own) (O : kSO y x.2.2.2.2.1) {k i : Nat} {j v : Int32} (hd : decode cc pc = .ok (.iastore, 1)) (hr : (k, i) ∈ y_refs y) (hk : y_is y k = 1) (t0 : Nat) (ht : (y_ty y)[t0]? = some (y_ca y k, .int)) (hin : vp_in j (y_ln y k))
    (kk : Wk (kWd y) (kAA y) (y_ad y) x n Q (pc + 1) ls st (kU g.1 k i j.toNatClampNeg v, g.2)) : Wk (kWd y) (kAA y) (y_ad y) x n Q pc ls (.inl v :: .inl j :: .inr (.inr (k, i)) :: st) g := by
  intro H locs la hw hS hl
  obtain ⟨q, hq⟩ := List.getElem?_of_mem hr
  refine va_iast C.1 C.2.1 O.1 hw (k_D O g) hS q t0 (k_lget hq (kCel_1 hk)) ht hin hd fun H1 locs1 hP1 hD1 hS1 => ?_
  refine kk H1 locs1 la ?_ hS1 hl
  have e : (kLs y g).set q (y_ad y k i, .inl (y_ca y k, y_ln y k, .inl (upd (g.1 k i) j.toNatClampNeg v))) = kLs y (kU g.1 k i j.toNatClampNeg v, g.2) := by
    refine k_lset O (g' := (kU g.1 k i j.toNatClampNeg v, g.2)) hq ?_ (fun r' hne => ⟨k_Une hne, rfl⟩)
    rw [kCel_1 hk]
    have h9 : kU g.1 k i j.toNatClampNeg v k i = upd (g.1 k i) j.toNatClampNeg v := by
      funext c
      simp [kU, upd]
    exact congrArg (fun f => (Sum.inl (y_ca y k, y_ln y k, Sum.inl f) : va_E)) h9
  unfold kWd
  rw [← e]
  exact hP1
theorem k_zast (C : kOk x cc own) (O : kSO y x.2.2.2.2.1) {k i : Nat} {j v : Int32} (hd : decode cc pc = .ok (.bastore, 1)) (hz : kZ v) (hr : (k, i) ∈ y_refs y) (hk : y_is y k = 2) (t0 : Nat) (ht : (y_ty y)[t0]? = some (y_ca y k, .boolean)) (hin : vp_in j (y_ln y k))
    (kk : Wk (kWd y) (kAA y) (y_ad y) x n Q (pc + 1) ls st (kU g.1 k i j.toNatClampNeg v, g.2)) : Wk (kWd y) (kAA y) (y_ad y) x n Q pc ls (.inl v :: .inl j :: .inr (.inr (k, i)) :: st) g := by
  intro H locs la hw hS hl
  obtain ⟨q, hq⟩ := List.getElem?_of_mem hr
  refine va_zast C.1 C.2.1 O.1 hw (k_D O g) hS q t0 (k_lget hq (kCel_2 hk)) ht hin hd fun H1 locs1 hP1 hD1 hS1 => ?_
  refine kk H1 locs1 la ?_ hS1 hl
  rw [(kZ_nar hz).2.2] at hP1
  have e : (kLs y g).set q (y_ad y k i, .inl (y_ca y k, y_ln y k, .inl (upd (g.1 k i) j.toNatClampNeg v))) = kLs y (kU g.1 k i j.toNatClampNeg v, g.2) := by
    refine k_lset O (g' := (kU g.1 k i j.toNatClampNeg v, g.2)) hq ?_ (fun r' hne => ⟨k_Une hne, rfl⟩)
    rw [kCel_2 hk]
    have h9 : kU g.1 k i j.toNatClampNeg v k i = upd (g.1 k i) j.toNatClampNeg v := by
      funext c
      simp [kU, upd]
    exact congrArg (fun f => (Sum.inl (y_ca y k, y_ln y k, Sum.inl f) : va_E)) h9
  unfold kWd
  rw [← e]
  exact hP1
theorem k_last (C : kOk x cc own) (O : kSO y x.2.2.2.2.1) {k i : Nat} {j : Int32} {v : Int64} (hd : decode cc pc = .ok (.lastore, 1)) (hr : (k, i) ∈ y_refs y) (hk : y_is y k = 3) (t0 : Nat) (ht : (y_ty y)[t0]? = some (y_ca y k, .long)) (hin : vp_in j (y_ln y k))
    (kk : Wk (kWd y) (kAA y) (y_ad y) x n Q (pc + 1) ls st (g.1, kUJ g.2 k i j.toNatClampNeg v)) : Wk (kWd y) (kAA y) (y_ad y) x n Q pc ls (.inr (.inl v) :: .inl j :: .inr (.inr (k, i)) :: st) g := by
  intro H locs la hw hS hl
  obtain ⟨q, hq⟩ := List.getElem?_of_mem hr
  refine va_last C.1 C.2.1 O.1 hw (k_D O g) hS q t0 (k_lget hq (kCel_3 hk)) ht hin hd fun H1 locs1 hP1 hD1 hS1 => ?_
  refine kk H1 locs1 la ?_ hS1 hl
  have e : (kLs y g).set q (y_ad y k i, .inl (y_ca y k, y_ln y k, .inr (.inl (vp_updL (g.2 k i) j.toNatClampNeg v)))) = kLs y (g.1, kUJ g.2 k i j.toNatClampNeg v) := by
    refine k_lset O (g' := (g.1, kUJ g.2 k i j.toNatClampNeg v)) hq ?_ (fun r' hne => ⟨rfl, k_UJne hne⟩)
    rw [kCel_3 hk]
    have h9 : kUJ g.2 k i j.toNatClampNeg v k i = vp_updL (g.2 k i) j.toNatClampNeg v := by
      funext c
      simp [kUJ, vp_updL]
    exact congrArg (fun f => (Sum.inl (y_ca y k, y_ln y k, Sum.inr (Sum.inl f)) : va_E)) h9
  unfold kWd
  rw [← e]
  exact hP1
end KM
