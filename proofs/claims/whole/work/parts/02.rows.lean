/-! the layer: values, locals, the judgement Wk; then a row an instruction (by program: wip/gen/rows.py) -/
abbrev kV : Type := Int32 ⊕ (Int64 ⊕ (Nat × Nat))
abbrev kI : Type := Nat → Nat → Nat → Int32
abbrev kJ : Type := Nat → Nat → Nat → Int64
abbrev kCx : Type := Program × Launch × Env × Room × State × MethodId × Array Value × List Frame × Method × Code
def k_cv (ad : Nat → Nat → Nat) : kV → Value
  | .inl a => .int a
  | .inr (.inl a) => .long a
  | .inr (.inr r) => .ref (ad r.1 r.2)
def k_tl (ad : Nat → Nat → Nat) : Nat → List (Option kV) → List (Nat × Value)
  | _, [] => []
  | n, none :: r => k_tl ad (n + 1) r
  | n, some v :: r => (n, k_cv ad v) :: k_tl ad (n + 1) r
theorem k_tl_mem {ad : Nat → Nat → Nat} : ∀ (ls : List (Option kV)) (n : Nat) (q : Nat × Value), q ∈ k_tl ad n ls ↔ ∃ (i : Nat) (v : kV), ls[i]? = some (some v) ∧ q = (n + i, k_cv ad v)
  | [], n, q => by simp [k_tl]
  | none :: r, n, q => by
    rw [k_tl, k_tl_mem r (n + 1) q]
    constructor
    · rintro ⟨i, v, h, rfl⟩
      exact ⟨i + 1, v, by simpa using h, by rw [Nat.add_assoc, Nat.add_comm 1 i]⟩
    · rintro ⟨i, v, h, rfl⟩
      cases i with
      | zero => simp at h
      | succ i => exact ⟨i, v, by simpa using h, by rw [Nat.add_assoc, Nat.add_comm 1 i]⟩
  | some w :: r, n, q => by
    rw [k_tl, List.mem_cons, k_tl_mem r (n + 1) q]
    constructor
    · rintro (rfl | ⟨i, v, h, rfl⟩)
      · exact ⟨0, w, by simp, by simp⟩
      · exact ⟨i + 1, v, by simpa using h, by rw [Nat.add_assoc, Nat.add_comm 1 i]⟩
    · rintro ⟨i, v, h, rfl⟩
      cases i with
      | zero =>
        simp at h
        subst h
        exact Or.inl (by simp)
      | succ i => exact Or.inr ⟨i, v, by simpa using h, by rw [Nat.add_assoc, Nat.add_comm 1 i]⟩
def k_nl (ls : List (Option kV)) : Nat → Bool
  | 0 => true
  | j + 1 => match ls[j]? with
    | some (some (.inr (.inl _))) => false
    | _ => true
theorem k_cat {ad : Nat → Nat → Nat} {u : kV} (h : (k_cv ad u).category = 2) : ∃ a, u = .inr (.inl a) := by
  match u, h with
  | .inl a, h => simp [k_cv, Value.category] at h
  | .inr (.inl a), _ => exact ⟨a, rfl⟩
  | .inr (.inr r), h => simp [k_cv, Value.category] at h
theorem k_lat {ad : Nat → Nat → Nat} {la : Array Slot} {n i : Nat} {ls : List (Option kV)} {v : kV} (hl : lv_has la n (k_tl ad 0 ls)) (h : ls[i]? = some (some v)) : la[i]? = some (.val (k_cv ad v)) :=
  hl.2.2 (i, k_cv ad v) ((k_tl_mem ls 0 _).mpr ⟨i, v, h, by rw [Nat.zero_add]⟩)
theorem k_st1 {ad : Nat → Nat → Nat} {la : Array Slot} {n i : Nat} {ls : List (Option kV)} {v : kV} (hn : k_nl ls i = true) (h : lv_has la n ((i, k_cv ad v) :: (k_tl ad 0 ls).filter (fun q => !(q.1 == i) && !(q.1 + 1 == i && q.2.category == 2)))) : lv_has la n (k_tl ad 0 (ls.set i (some v))) := by
  refine ⟨h.1, h.2.1, fun q hq => ?_⟩
  obtain ⟨j, u, hj, rfl⟩ := (k_tl_mem _ 0 q).mp hq
  rw [Nat.zero_add]
  by_cases e : j = i
  · subst e
    have hu : u = v := by
      rw [List.getElem?_set] at hj
      simp at hj
      exact hj.2.symm
    rw [hu]
    exact h.2.2 _ List.mem_cons_self
  · have hj' : ls[j]? = some (some u) := by
      rw [List.getElem?_set_ne (Ne.symm e)] at hj
      exact hj
    refine h.2.2 (j, k_cv ad u) (List.mem_cons_of_mem _ (List.mem_filter.mpr ⟨(k_tl_mem ls 0 _).mpr ⟨j, u, hj', by rw [Nat.zero_add]⟩, ?_⟩))
    have h2 : ¬ (j + 1 = i ∧ (k_cv ad u).category = 2) := by
      rintro ⟨e1, e2⟩
      obtain ⟨a, rfl⟩ := k_cat e2
      subst e1
      simp [k_nl, hj'] at hn
    simp only [Bool.and_eq_true, Bool.not_eq_true', beq_eq_false_iff_ne, ne_eq, Bool.and_eq_false_iff]
    refine ⟨e, ?_⟩
    by_cases e1 : j + 1 = i
    · exact Or.inr (fun q => h2 ⟨e1, q⟩)
    · exact Or.inl e1
theorem k_st2 {ad : Nat → Nat → Nat} {la : Array Slot} {n i : Nat} {ls : List (Option kV)} {v : kV} (hn : k_nl ls i = true) (h : lv_has la n ((i, k_cv ad v) :: (k_tl ad 0 ls).filter (fun q => !(q.1 == i) && (!(q.1 == i + 1) && !(q.1 + 1 == i && q.2.category == 2))))) : lv_has la n (k_tl ad 0 ((ls.set i (some v)).set (i + 1) none)) := by
  refine ⟨h.1, h.2.1, fun q hq => ?_⟩
  obtain ⟨j, u, hj, rfl⟩ := (k_tl_mem _ 0 q).mp hq
  rw [Nat.zero_add]
  have e0 : j ≠ i + 1 := by
    intro e0
    subst e0
    rw [List.getElem?_set] at hj
    simp at hj
  rw [List.getElem?_set_ne (Ne.symm e0)] at hj
  by_cases e : j = i
  · subst e
    have hu : u = v := by
      rw [List.getElem?_set] at hj
      simp at hj
      exact hj.2.symm
    rw [hu]
    exact h.2.2 _ List.mem_cons_self
  · have hj' : ls[j]? = some (some u) := by
      rw [List.getElem?_set_ne (Ne.symm e)] at hj
      exact hj
    refine h.2.2 (j, k_cv ad u) (List.mem_cons_of_mem _ (List.mem_filter.mpr ⟨(k_tl_mem ls 0 _).mpr ⟨j, u, hj', by rw [Nat.zero_add]⟩, ?_⟩))
    have h2 : ¬ (j + 1 = i ∧ (k_cv ad u).category = 2) := by
      rintro ⟨e1, e2⟩
      obtain ⟨a, rfl⟩ := k_cat e2
      subst e1
      simp [k_nl, hj'] at hn
    simp only [Bool.and_eq_true, Bool.not_eq_true', beq_eq_false_iff_ne, ne_eq, Bool.and_eq_false_iff]
    refine ⟨e, e0, ?_⟩
    by_cases e1 : j + 1 = i
    · exact Or.inr (fun q => h2 ⟨e1, q⟩)
    · exact Or.inl e1
/-- W at a frame given by values: any heap that holds the state g, any machine locals that hold ls -/
def Wk {S : Type} (wd : S → Heap → Prop) (A : Nat → Prop) (ad : Nat → Nat → Nat) (x : kCx) (n : Nat × Nat) (Q : State → Prop) (pc : Nat) (ls : List (Option kV)) (st : List kV) (g : S) : Prop :=
  ∀ (H : Heap) (locs : List Loc) (la : Array Slot), wd g H → va_S A x.2.2.2.2.1.heap H locs → lv_has la ls.length (k_tl ad 0 ls) → W x.1 x.2.1 x.2.2.1 x.2.2.2.1 x.2.2.2.2.1 x.2.2.2.2.2.1 x.2.2.2.2.2.2.1 x.2.2.2.2.2.2.2.1 x.2.2.2.2.2.2.2.2.1 x.2.2.2.2.2.2.2.2.2 H locs n.1 n.2 Q (F0 x.2.2.2.2.2.1 pc la (st.map (k_cv ad)))
/-- the machine, the code, the method's own class -/
def kOk (x : kCx) (cc : ByteArray) (own : String) : Prop := x.1.tables.exec = Jvm.exec ∧ x.2.2.2.2.2.2.2.2.2.code = cc ∧ x.2.2.2.2.1.vm.findClass own = some x.2.2.2.2.2.1.cls ∧ ∀ w ∈ lw_tbl, goodWord w = true → w.before x.2.2.2.2.2.2.1 x.2.2.2.2.1 = true
section KR
variable {S : Type} {wd : S → Heap → Prop} {A : Nat → Prop} {ad : Nat → Nat → Nat} {x : kCx} {n : Nat × Nat} {Q : State → Prop} {pc : Nat} {ls : List (Option kV)} {st : List kV} {g : S} {cc : ByteArray} {own : String}
theorem k_iconst (C : kOk x cc own) {k : Int} {v : Int32} (hd : decode cc pc = .ok (.iconst k, 1)) (hv : Int32.ofInt k = v)
    (kk : Wk wd A ad x n Q (pc + 1) ls (.inl v :: st) g) : Wk wd A ad x n Q pc ls (st) g := fun H locs la hw hS hl => lv_iconst C.1 C.2.1 hd hv (kk H locs la hw hS hl)
theorem k_bipush (C : kOk x cc own) {k : Int} {v : Int32} (hd : decode cc pc = .ok (.bipush k, 2)) (hv : (Int8.ofInt k).toInt32 = v)
    (kk : Wk wd A ad x n Q (pc + 2) ls (.inl v :: st) g) : Wk wd A ad x n Q pc ls (st) g := fun H locs la hw hS hl => lv_bipush C.1 C.2.1 hd hv (kk H locs la hw hS hl)
theorem k_sipush (C : kOk x cc own) {k : Int} {v : Int32} (hd : decode cc pc = .ok (.sipush k, 3)) (hv : (Int16.ofInt k).toInt32 = v)
    (kk : Wk wd A ad x n Q (pc + 3) ls (.inl v :: st) g) : Wk wd A ad x n Q pc ls (st) g := fun H locs la hw hS hl => lv_sipush C.1 C.2.1 hd hv (kk H locs la hw hS hl)
theorem k_lconst (C : kOk x cc own) {k : Fin 2} {v : Int64} (hd : decode cc pc = .ok (.lconst k, 1)) (hv : Int64.ofNat (k : Nat) = v)
    (kk : Wk wd A ad x n Q (pc + 1) ls (.inr (.inl v) :: st) g) : Wk wd A ad x n Q pc ls (st) g := fun H locs la hw hS hl => lv_lconst C.1 C.2.1 hd hv (kk H locs la hw hS hl)
theorem k_ldc2 (C : kOk x cc own) {i : Nat} {v : Int64} (hd : decode cc pc = .ok (.ldc2_w i, 3)) (hv : Cond.constantLong own i v ∈ lw_tbl)
    (kk : Wk wd A ad x n Q (pc + 3) ls (.inr (.inl v) :: st) g) : Wk wd A ad x n Q pc ls (st) g := fun H locs la hw hS hl => lv_ldc2 C.1 C.2.1 C.2.2.1 (C.2.2.2 _ hv (by rfl)) hd (kk H locs la hw hS hl)
theorem k_iload_n (C : kOk x cc own) {k : Fin 4} {i : Nat} {v : Int32} (hd : decode cc pc = .ok (.iload_n k, 1)) (hi : (k : Nat) = i) (h : ls[i]? = some (some (.inl v)))
    (kk : Wk wd A ad x n Q (pc + 1) ls (.inl v :: st) g) : Wk wd A ad x n Q pc ls (st) g := fun H locs la hw hS hl => lv_iload_n C.1 C.2.1 hd hi (k_lat hl h) (kk H locs la hw hS hl)
theorem k_iload (C : kOk x cc own) {i : Nat} {v : Int32} (hd : decode cc pc = .ok (.iload i, 2)) (h : ls[i]? = some (some (.inl v)))
    (kk : Wk wd A ad x n Q (pc + 2) ls (.inl v :: st) g) : Wk wd A ad x n Q pc ls (st) g := fun H locs la hw hS hl => lv_iload C.1 C.2.1 hd (k_lat hl h) (kk H locs la hw hS hl)
theorem k_istore_n (C : kOk x cc own) {k : Fin 4} {i : Nat} {v : Int32} (hd : decode cc pc = .ok (.istore_n k, 1)) (hi : (k : Nat) = i) (hb : i < ls.length) (hn : k_nl ls i = true)
    (kk : Wk wd A ad x n Q (pc + 1) (ls.set i (some (.inl v))) st g) : Wk wd A ad x n Q pc ls (.inl v :: st) g := fun H locs la hw hS hl => lv_istore_n C.1 C.2.1 hd hi hl hb rfl (fun la h => kk H locs la hw hS (by rw [List.length_set]; exact k_st1 (v := .inl v) hn h))
theorem k_istore (C : kOk x cc own) {i : Nat} {v : Int32} (hd : decode cc pc = .ok (.istore i, 2)) (hb : i < ls.length) (hn : k_nl ls i = true)
    (kk : Wk wd A ad x n Q (pc + 2) (ls.set i (some (.inl v))) st g) : Wk wd A ad x n Q pc ls (.inl v :: st) g := fun H locs la hw hS hl => lv_istore C.1 C.2.1 hd hl hb rfl (fun la h => kk H locs la hw hS (by rw [List.length_set]; exact k_st1 (v := .inl v) hn h))
theorem k_lload_n (C : kOk x cc own) {k : Fin 4} {i : Nat} {v : Int64} (hd : decode cc pc = .ok (.lload_n k, 1)) (hi : (k : Nat) = i) (h : ls[i]? = some (some (.inr (.inl v))))
    (kk : Wk wd A ad x n Q (pc + 1) ls (.inr (.inl v) :: st) g) : Wk wd A ad x n Q pc ls (st) g := fun H locs la hw hS hl => lv_lload_n C.1 C.2.1 hd hi (k_lat hl h) (kk H locs la hw hS hl)
theorem k_lload (C : kOk x cc own) {i : Nat} {v : Int64} (hd : decode cc pc = .ok (.lload i, 2)) (h : ls[i]? = some (some (.inr (.inl v))))
    (kk : Wk wd A ad x n Q (pc + 2) ls (.inr (.inl v) :: st) g) : Wk wd A ad x n Q pc ls (st) g := fun H locs la hw hS hl => lv_lload C.1 C.2.1 hd (k_lat hl h) (kk H locs la hw hS hl)
theorem k_lstore_n (C : kOk x cc own) {k : Fin 4} {i : Nat} {v : Int64} (hd : decode cc pc = .ok (.lstore_n k, 1)) (hi : (k : Nat) = i) (hb : i + 1 < ls.length) (hn : k_nl ls i = true)
    (kk : Wk wd A ad x n Q (pc + 1) ((ls.set i (some (.inr (.inl v)))).set (i + 1) none) st g) : Wk wd A ad x n Q pc ls (.inr (.inl v) :: st) g := fun H locs la hw hS hl => lv_lstore_n C.1 C.2.1 hd hi hl hb rfl (fun la h => kk H locs la hw hS (by rw [List.length_set, List.length_set]; exact k_st2 (v := .inr (.inl v)) hn h))
theorem k_lstore (C : kOk x cc own) {i : Nat} {v : Int64} (hd : decode cc pc = .ok (.lstore i, 2)) (hb : i + 1 < ls.length) (hn : k_nl ls i = true)
    (kk : Wk wd A ad x n Q (pc + 2) ((ls.set i (some (.inr (.inl v)))).set (i + 1) none) st g) : Wk wd A ad x n Q pc ls (.inr (.inl v) :: st) g := fun H locs la hw hS hl => lv_lstore C.1 C.2.1 hd hl hb rfl (fun la h => kk H locs la hw hS (by rw [List.length_set, List.length_set]; exact k_st2 (v := .inr (.inl v)) hn h))
theorem k_aload_n (C : kOk x cc own) {k : Fin 4} {i : Nat} {v : Nat × Nat} (hd : decode cc pc = .ok (.aload_n k, 1)) (hi : (k : Nat) = i) (h : ls[i]? = some (some (.inr (.inr v))))
    (kk : Wk wd A ad x n Q (pc + 1) ls (.inr (.inr v) :: st) g) : Wk wd A ad x n Q pc ls (st) g := fun H locs la hw hS hl => lv_aload_n C.1 C.2.1 hd hi (k_lat hl h) (kk H locs la hw hS hl)
theorem k_aload (C : kOk x cc own) {i : Nat} {v : Nat × Nat} (hd : decode cc pc = .ok (.aload i, 2)) (h : ls[i]? = some (some (.inr (.inr v))))
    (kk : Wk wd A ad x n Q (pc + 2) ls (.inr (.inr v) :: st) g) : Wk wd A ad x n Q pc ls (st) g := fun H locs la hw hS hl => lv_aload C.1 C.2.1 hd (k_lat hl h) (kk H locs la hw hS hl)
theorem k_astore_n (C : kOk x cc own) {k : Fin 4} {i : Nat} {v : Nat × Nat} (hd : decode cc pc = .ok (.astore_n k, 1)) (hi : (k : Nat) = i) (hb : i < ls.length) (hn : k_nl ls i = true)
    (kk : Wk wd A ad x n Q (pc + 1) (ls.set i (some (.inr (.inr v)))) st g) : Wk wd A ad x n Q pc ls (.inr (.inr v) :: st) g := fun H locs la hw hS hl => lv_astore_n C.1 C.2.1 hd hi hl hb rfl (fun la h => kk H locs la hw hS (by rw [List.length_set]; exact k_st1 (v := .inr (.inr v)) hn h))
theorem k_astore (C : kOk x cc own) {i : Nat} {v : Nat × Nat} (hd : decode cc pc = .ok (.astore i, 2)) (hb : i < ls.length) (hn : k_nl ls i = true)
    (kk : Wk wd A ad x n Q (pc + 2) (ls.set i (some (.inr (.inr v)))) st g) : Wk wd A ad x n Q pc ls (.inr (.inr v) :: st) g := fun H locs la hw hS hl => lv_astore C.1 C.2.1 hd hl hb rfl (fun la h => kk H locs la hw hS (by rw [List.length_set]; exact k_st1 (v := .inr (.inr v)) hn h))
theorem k_iinc (C : kOk x cc own) {i : Nat} {k : Int} {v w : Int32} (hd : decode cc pc = .ok (.iinc i k, 3)) (h : ls[i]? = some (some (.inl v))) (hw : v + Int32.ofInt k = w) (hn : k_nl ls i = true)
    (kk : Wk wd A ad x n Q (pc + 3) (ls.set i (some (.inl w))) st g) : Wk wd A ad x n Q pc ls st g := fun H locs la hw1 hS hl => by
  obtain ⟨q, hq⟩ := List.getElem?_of_mem ((k_tl_mem (ad := ad) ls 0 (i, .int v)).mpr ⟨i, .inl v, h, by rw [Nat.zero_add]; rfl⟩)
  exact lv_iinc C.1 C.2.1 hd hl hq hw (List.getElem?_eq_some_iff.mp h).1 rfl (fun la h2 => kk H locs la hw1 hS (by rw [List.length_set]; exact k_st1 (v := .inl w) hn h2))
theorem k_iadd (C : kOk x cc own) {a b : Int32} (hd : decode cc pc = .ok (.iadd, 1))
    (kk : Wk wd A ad x n Q (pc + 1) ls (.inl (a + b) :: st) g) : Wk wd A ad x n Q pc ls (.inl b :: .inl a :: st) g := fun H locs la hw hS hl => lv_iadd C.1 C.2.1 hd (kk H locs la hw hS hl)
theorem k_isub (C : kOk x cc own) {a b : Int32} (hd : decode cc pc = .ok (.isub, 1))
    (kk : Wk wd A ad x n Q (pc + 1) ls (.inl (a - b) :: st) g) : Wk wd A ad x n Q pc ls (.inl b :: .inl a :: st) g := fun H locs la hw hS hl => lv_isub C.1 C.2.1 hd (kk H locs la hw hS hl)
theorem k_imul (C : kOk x cc own) {a b : Int32} (hd : decode cc pc = .ok (.imul, 1))
    (kk : Wk wd A ad x n Q (pc + 1) ls (.inl (a * b) :: st) g) : Wk wd A ad x n Q pc ls (.inl b :: .inl a :: st) g := fun H locs la hw hS hl => lv_imul C.1 C.2.1 hd (kk H locs la hw hS hl)
theorem k_iand (C : kOk x cc own) {a b : Int32} (hd : decode cc pc = .ok (.iand, 1))
    (kk : Wk wd A ad x n Q (pc + 1) ls (.inl (a &&& b) :: st) g) : Wk wd A ad x n Q pc ls (.inl b :: .inl a :: st) g := fun H locs la hw hS hl => lv_iand C.1 C.2.1 hd (kk H locs la hw hS hl)
theorem k_ior (C : kOk x cc own) {a b : Int32} (hd : decode cc pc = .ok (.ior, 1))
    (kk : Wk wd A ad x n Q (pc + 1) ls (.inl (a ||| b) :: st) g) : Wk wd A ad x n Q pc ls (.inl b :: .inl a :: st) g := fun H locs la hw hS hl => lv_ior C.1 C.2.1 hd (kk H locs la hw hS hl)
theorem k_ixor (C : kOk x cc own) {a b : Int32} (hd : decode cc pc = .ok (.ixor, 1))
    (kk : Wk wd A ad x n Q (pc + 1) ls (.inl (a ^^^ b) :: st) g) : Wk wd A ad x n Q pc ls (.inl b :: .inl a :: st) g := fun H locs la hw hS hl => lv_ixor C.1 C.2.1 hd (kk H locs la hw hS hl)
theorem k_ishl (C : kOk x cc own) {a b : Int32} (hd : decode cc pc = .ok (.ishl, 1))
    (kk : Wk wd A ad x n Q (pc + 1) ls (.inl (a <<< (b &&& 31)) :: st) g) : Wk wd A ad x n Q pc ls (.inl b :: .inl a :: st) g := fun H locs la hw hS hl => lv_ishl C.1 C.2.1 hd (kk H locs la hw hS hl)
theorem k_ishr (C : kOk x cc own) {a b : Int32} (hd : decode cc pc = .ok (.ishr, 1))
    (kk : Wk wd A ad x n Q (pc + 1) ls (.inl (a >>> (b &&& 31)) :: st) g) : Wk wd A ad x n Q pc ls (.inl b :: .inl a :: st) g := fun H locs la hw hS hl => lv_ishr C.1 C.2.1 hd (kk H locs la hw hS hl)
theorem k_iushr (C : kOk x cc own) {a b v : Int32} (hd : decode cc pc = .ok (.iushr, 1)) (hv : (a.toUInt32 >>> (b.toUInt32 &&& Int32.toUInt32 31)).toInt32 = v)
    (kk : Wk wd A ad x n Q (pc + 1) ls (.inl v :: st) g) : Wk wd A ad x n Q pc ls (.inl b :: .inl a :: st) g := fun H locs la hw hS hl => lv_iushr C.1 C.2.1 hd hv (kk H locs la hw hS hl)
theorem k_ladd (C : kOk x cc own) {a b : Int64} (hd : decode cc pc = .ok (.ladd, 1))
    (kk : Wk wd A ad x n Q (pc + 1) ls (.inr (.inl (a + b)) :: st) g) : Wk wd A ad x n Q pc ls (.inr (.inl b) :: .inr (.inl a) :: st) g := fun H locs la hw hS hl => lv_ladd C.1 C.2.1 hd (kk H locs la hw hS hl)
theorem k_lmul (C : kOk x cc own) {a b : Int64} (hd : decode cc pc = .ok (.lmul, 1))
    (kk : Wk wd A ad x n Q (pc + 1) ls (.inr (.inl (a * b)) :: st) g) : Wk wd A ad x n Q pc ls (.inr (.inl b) :: .inr (.inl a) :: st) g := fun H locs la hw hS hl => lv_lmul C.1 C.2.1 hd (kk H locs la hw hS hl)
theorem k_land (C : kOk x cc own) {a b : Int64} (hd : decode cc pc = .ok (.land, 1))
    (kk : Wk wd A ad x n Q (pc + 1) ls (.inr (.inl (a &&& b)) :: st) g) : Wk wd A ad x n Q pc ls (.inr (.inl b) :: .inr (.inl a) :: st) g := fun H locs la hw hS hl => lv_land C.1 C.2.1 hd (kk H locs la hw hS hl)
theorem k_lor (C : kOk x cc own) {a b : Int64} (hd : decode cc pc = .ok (.lor, 1))
    (kk : Wk wd A ad x n Q (pc + 1) ls (.inr (.inl (a ||| b)) :: st) g) : Wk wd A ad x n Q pc ls (.inr (.inl b) :: .inr (.inl a) :: st) g := fun H locs la hw hS hl => lv_lor C.1 C.2.1 hd (kk H locs la hw hS hl)
theorem k_lxor (C : kOk x cc own) {a b : Int64} (hd : decode cc pc = .ok (.lxor, 1))
    (kk : Wk wd A ad x n Q (pc + 1) ls (.inr (.inl (a ^^^ b)) :: st) g) : Wk wd A ad x n Q pc ls (.inr (.inl b) :: .inr (.inl a) :: st) g := fun H locs la hw hS hl => lv_lxor C.1 C.2.1 hd (kk H locs la hw hS hl)
theorem k_lrem (C : kOk x cc own) {a b : Int64} (hd : decode cc pc = .ok (.lrem, 1)) (hb : ¬ b = 0)
    (kk : Wk wd A ad x n Q (pc + 1) ls (.inr (.inl (a - a / b * b)) :: st) g) : Wk wd A ad x n Q pc ls (.inr (.inl b) :: .inr (.inl a) :: st) g := fun H locs la hw hS hl => lv_lrem C.1 C.2.1 hd hb (kk H locs la hw hS hl)
theorem k_lshl (C : kOk x cc own) {a v : Int64} {b : Int32} (hd : decode cc pc = .ok (.lshl, 1)) (hv : a <<< (b.toInt64 &&& 63) = v)
    (kk : Wk wd A ad x n Q (pc + 1) ls (.inr (.inl v) :: st) g) : Wk wd A ad x n Q pc ls (.inl b :: .inr (.inl a) :: st) g := fun H locs la hw hS hl => lv_lshl C.1 C.2.1 hd hv (kk H locs la hw hS hl)
theorem k_i2l (C : kOk x cc own) {a : Int32} (hd : decode cc pc = .ok (.i2l, 1))
    (kk : Wk wd A ad x n Q (pc + 1) ls (.inr (.inl a.toInt64) :: st) g) : Wk wd A ad x n Q pc ls (.inl a :: st) g := fun H locs la hw hS hl => lv_i2l C.1 C.2.1 hd rfl (kk H locs la hw hS hl)
theorem k_l2i (C : kOk x cc own) {a : Int64} (hd : decode cc pc = .ok (.l2i, 1))
    (kk : Wk wd A ad x n Q (pc + 1) ls (.inl a.toInt32 :: st) g) : Wk wd A ad x n Q pc ls (.inr (.inl a) :: st) g := fun H locs la hw hS hl => lv_l2i C.1 C.2.1 hd rfl (kk H locs la hw hS hl)
theorem k_lcmp (C : kOk x cc own) {a b : Int64} (hd : decode cc pc = .ok (.lcmp, 1))
    (kk : Wk wd A ad x n Q (pc + 1) ls (.inl (lg_cmp a b) :: st) g) : Wk wd A ad x n Q pc ls (.inr (.inl b) :: .inr (.inl a) :: st) g := fun H locs la hw hS hl => W.lcmp C.1 C.2.1 hd (kk H locs la hw hS hl)
theorem k_dup (C : kOk x cc own) {a : kV} (hd : decode cc pc = .ok (.dup, 1)) (h : (k_cv ad a).category = 1)
    (kk : Wk wd A ad x n Q (pc + 1) ls (a :: a :: st) g) : Wk wd A ad x n Q pc ls (a :: st) g := fun H locs la hw hS hl => lv_dup C.1 C.2.1 hd h (kk H locs la hw hS hl)
theorem k_dup2 (C : kOk x cc own) {a b : kV} (hd : decode cc pc = .ok (.dup2, 1)) (h : (k_cv ad a).category = 1) (h2 : (k_cv ad b).category = 1)
    (kk : Wk wd A ad x n Q (pc + 1) ls (a :: b :: a :: b :: st) g) : Wk wd A ad x n Q pc ls (a :: b :: st) g := fun H locs la hw hS hl => lv_dup2_11 C.1 C.2.1 hd h h2 (kk H locs la hw hS hl)
theorem k_pop (C : kOk x cc own) {a : kV} (hd : decode cc pc = .ok (.pop, 1)) (h : (k_cv ad a).category = 1)
    (kk : Wk wd A ad x n Q (pc + 1) ls (st) g) : Wk wd A ad x n Q pc ls (a :: st) g := fun H locs la hw hS hl => lv_pop C.1 C.2.1 hd h (kk H locs la hw hS hl)
theorem k_if_eq (C : kOk x cc own) {a : Int32} {off : Int} {tgt : Nat} (hd : decode cc pc = .ok (.ifCond .eq off, 3)) (ht : (pc : Int) + off = (tgt : Int)) (kt : a = 0 → Wk wd A ad x n Q tgt ls st g) (kf : ¬ a = 0 → Wk wd A ad x n Q (pc + 3) ls st g) : Wk wd A ad x n Q pc ls (.inl a :: st) g := fun H locs la hw hS hl => lv_if_eq C.1 C.2.1 hd ht (fun q => kt q H locs la hw hS hl) (fun q => kf q H locs la hw hS hl)
theorem k_icmp_eq (C : kOk x cc own) {a b : Int32} {off : Int} {tgt : Nat} (hd : decode cc pc = .ok (.if_icmp .eq off, 3)) (ht : (pc : Int) + off = (tgt : Int)) (kt : a = b → Wk wd A ad x n Q tgt ls st g) (kf : ¬ a = b → Wk wd A ad x n Q (pc + 3) ls st g) : Wk wd A ad x n Q pc ls (.inl b :: .inl a :: st) g := fun H locs la hw hS hl => lv_icmp_eq C.1 C.2.1 hd ht (fun q => kt q H locs la hw hS hl) (fun q => kf q H locs la hw hS hl)
theorem k_if_ne (C : kOk x cc own) {a : Int32} {off : Int} {tgt : Nat} (hd : decode cc pc = .ok (.ifCond .ne off, 3)) (ht : (pc : Int) + off = (tgt : Int)) (kt : ¬ a = 0 → Wk wd A ad x n Q tgt ls st g) (kf : a = 0 → Wk wd A ad x n Q (pc + 3) ls st g) : Wk wd A ad x n Q pc ls (.inl a :: st) g := fun H locs la hw hS hl => lv_if_ne C.1 C.2.1 hd ht (fun q => kt q H locs la hw hS hl) (fun q => kf q H locs la hw hS hl)
theorem k_icmp_ne (C : kOk x cc own) {a b : Int32} {off : Int} {tgt : Nat} (hd : decode cc pc = .ok (.if_icmp .ne off, 3)) (ht : (pc : Int) + off = (tgt : Int)) (kt : ¬ a = b → Wk wd A ad x n Q tgt ls st g) (kf : a = b → Wk wd A ad x n Q (pc + 3) ls st g) : Wk wd A ad x n Q pc ls (.inl b :: .inl a :: st) g := fun H locs la hw hS hl => lv_icmp_ne C.1 C.2.1 hd ht (fun q => kt q H locs la hw hS hl) (fun q => kf q H locs la hw hS hl)
theorem k_if_lt (C : kOk x cc own) {a : Int32} {off : Int} {tgt : Nat} (hd : decode cc pc = .ok (.ifCond .lt off, 3)) (ht : (pc : Int) + off = (tgt : Int)) (kt : a < 0 → Wk wd A ad x n Q tgt ls st g) (kf : ¬ a < 0 → Wk wd A ad x n Q (pc + 3) ls st g) : Wk wd A ad x n Q pc ls (.inl a :: st) g := fun H locs la hw hS hl => lv_if_lt C.1 C.2.1 hd ht (fun q => kt q H locs la hw hS hl) (fun q => kf q H locs la hw hS hl)
theorem k_icmp_lt (C : kOk x cc own) {a b : Int32} {off : Int} {tgt : Nat} (hd : decode cc pc = .ok (.if_icmp .lt off, 3)) (ht : (pc : Int) + off = (tgt : Int)) (kt : a < b → Wk wd A ad x n Q tgt ls st g) (kf : ¬ a < b → Wk wd A ad x n Q (pc + 3) ls st g) : Wk wd A ad x n Q pc ls (.inl b :: .inl a :: st) g := fun H locs la hw hS hl => lv_icmp_lt C.1 C.2.1 hd ht (fun q => kt q H locs la hw hS hl) (fun q => kf q H locs la hw hS hl)
theorem k_if_ge (C : kOk x cc own) {a : Int32} {off : Int} {tgt : Nat} (hd : decode cc pc = .ok (.ifCond .ge off, 3)) (ht : (pc : Int) + off = (tgt : Int)) (kt : 0 ≤ a → Wk wd A ad x n Q tgt ls st g) (kf : ¬ 0 ≤ a → Wk wd A ad x n Q (pc + 3) ls st g) : Wk wd A ad x n Q pc ls (.inl a :: st) g := fun H locs la hw hS hl => lv_if_ge C.1 C.2.1 hd ht (fun q => kt q H locs la hw hS hl) (fun q => kf q H locs la hw hS hl)
theorem k_icmp_ge (C : kOk x cc own) {a b : Int32} {off : Int} {tgt : Nat} (hd : decode cc pc = .ok (.if_icmp .ge off, 3)) (ht : (pc : Int) + off = (tgt : Int)) (kt : b ≤ a → Wk wd A ad x n Q tgt ls st g) (kf : ¬ b ≤ a → Wk wd A ad x n Q (pc + 3) ls st g) : Wk wd A ad x n Q pc ls (.inl b :: .inl a :: st) g := fun H locs la hw hS hl => lv_icmp_ge C.1 C.2.1 hd ht (fun q => kt q H locs la hw hS hl) (fun q => kf q H locs la hw hS hl)
theorem k_if_gt (C : kOk x cc own) {a : Int32} {off : Int} {tgt : Nat} (hd : decode cc pc = .ok (.ifCond .gt off, 3)) (ht : (pc : Int) + off = (tgt : Int)) (kt : 0 < a → Wk wd A ad x n Q tgt ls st g) (kf : ¬ 0 < a → Wk wd A ad x n Q (pc + 3) ls st g) : Wk wd A ad x n Q pc ls (.inl a :: st) g := fun H locs la hw hS hl => lv_if_gt C.1 C.2.1 hd ht (fun q => kt q H locs la hw hS hl) (fun q => kf q H locs la hw hS hl)
theorem k_icmp_gt (C : kOk x cc own) {a b : Int32} {off : Int} {tgt : Nat} (hd : decode cc pc = .ok (.if_icmp .gt off, 3)) (ht : (pc : Int) + off = (tgt : Int)) (kt : b < a → Wk wd A ad x n Q tgt ls st g) (kf : ¬ b < a → Wk wd A ad x n Q (pc + 3) ls st g) : Wk wd A ad x n Q pc ls (.inl b :: .inl a :: st) g := fun H locs la hw hS hl => lv_icmp_gt C.1 C.2.1 hd ht (fun q => kt q H locs la hw hS hl) (fun q => kf q H locs la hw hS hl)
theorem k_if_le (C : kOk x cc own) {a : Int32} {off : Int} {tgt : Nat} (hd : decode cc pc = .ok (.ifCond .le off, 3)) (ht : (pc : Int) + off = (tgt : Int)) (kt : a ≤ 0 → Wk wd A ad x n Q tgt ls st g) (kf : ¬ a ≤ 0 → Wk wd A ad x n Q (pc + 3) ls st g) : Wk wd A ad x n Q pc ls (.inl a :: st) g := fun H locs la hw hS hl => lv_if_le C.1 C.2.1 hd ht (fun q => kt q H locs la hw hS hl) (fun q => kf q H locs la hw hS hl)
theorem k_icmp_le (C : kOk x cc own) {a b : Int32} {off : Int} {tgt : Nat} (hd : decode cc pc = .ok (.if_icmp .le off, 3)) (ht : (pc : Int) + off = (tgt : Int)) (kt : a ≤ b → Wk wd A ad x n Q tgt ls st g) (kf : ¬ a ≤ b → Wk wd A ad x n Q (pc + 3) ls st g) : Wk wd A ad x n Q pc ls (.inl b :: .inl a :: st) g := fun H locs la hw hS hl => lv_icmp_le C.1 C.2.1 hd ht (fun q => kt q H locs la hw hS hl) (fun q => kf q H locs la hw hS hl)
theorem k_goto (C : kOk x cc own) {off : Int} {tgt : Nat} (hd : decode cc pc = .ok (.goto off, 3)) (ht : (pc : Int) + off = (tgt : Int)) (kk : Wk wd A ad x n Q tgt ls st g) : Wk wd A ad x n Q pc ls st g := fun H locs la hw hS hl => lv_goto C.1 C.2.1 hd ht (kk H locs la hw hS hl)
theorem k_tabOut (C : kOk x cc own) {dflt lo hi : Int} {offs : Array Int} {len : Nat} {a : Int32} {tgt : Nat} (hd : decode cc pc = .ok (.tableswitch dflt lo hi offs, len)) (h : a.toInt < lo ∨ hi < a.toInt) (ht : (pc : Int) + dflt = (tgt : Int)) (kk : Wk wd A ad x n Q tgt ls st g) : Wk wd A ad x n Q pc ls (.inl a :: st) g := fun H locs la hw hS hl => lv_tableOut C.1 C.2.1 hd h ht (kk H locs la hw hS hl)
theorem k_tabIn (C : kOk x cc own) {dflt lo hi : Int} {offs : Array Int} {len : Nat} {a : Int32} {off : Int} {tgt : Nat} (hd : decode cc pc = .ok (.tableswitch dflt lo hi offs, len)) (h1 : ¬ a.toInt < lo) (h2 : ¬ hi < a.toInt) (ho : offs[(a.toInt - lo).toNat]? = some off) (ht : (pc : Int) + off = (tgt : Int)) (kk : Wk wd A ad x n Q tgt ls st g) : Wk wd A ad x n Q pc ls (.inl a :: st) g := fun H locs la hw hS hl => lv_tableIn C.1 C.2.1 hd h1 h2 ho ht (kk H locs la hw hS hl)
/-- a number or a state gets a name -/
theorem k_top {a : kV} (kk : ∀ b : kV, b = a → Wk wd A ad x n Q pc ls (b :: st) g) : Wk wd A ad x n Q pc ls (a :: st) g := kk a rfl
theorem k_topi {a : Int32} (kk : ∀ b : Int32, b = a → Wk wd A ad x n Q pc ls (.inl b :: st) g) : Wk wd A ad x n Q pc ls (.inl a :: st) g := kk a rfl
theorem k_topl {a : Int64} (kk : ∀ b : Int64, b = a → Wk wd A ad x n Q pc ls (.inr (.inl b) :: st) g) : Wk wd A ad x n Q pc ls (.inr (.inl a) :: st) g := kk a rfl
theorem k_g {g2 : S} (e : g = g2) (kk : Wk wd A ad x n Q pc ls st g2) : Wk wd A ad x n Q pc ls st g := e ▸ kk
end KR
