section
-- ===== PART A: goes FIRST, ahead of the names: the tables' words, and 'selects' of the private methods out of them =====
/-- a private method of a class that the tables say can be made, by its rows of tables_1 -/
def lw_okq (q : MethodName × Nat) : Prop := (q.1.cls ≠ "java/lang/invoke/MethodHandle" ∧ q.1.cls ≠ "java/lang/invoke/VarHandle") ∧ Cond.instantiable q.1.cls q.2 ∈ tables_1 ∧ Cond.privateMethod q.1 ∈ tables_1 ∧ Cond.instanceMethod q.1 ∈ tables_1
theorem lw_p0 : lw_okq (⟨"DynamicNeeds", "isFile", "(I)Z"⟩, 10) := ⟨⟨by decide +kernel, by decide +kernel⟩, List.mem_of_getElem? (i := 9) (by decide +kernel), List.mem_of_getElem? (i := 198) (by decide +kernel), List.mem_of_getElem? (i := 199) (by decide +kernel)⟩
theorem lw_p1 : lw_okq (⟨"DynamicNeeds", "isAction", "(I)Z"⟩, 10) := ⟨⟨by decide +kernel, by decide +kernel⟩, List.mem_of_getElem? (i := 9) (by decide +kernel), List.mem_of_getElem? (i := 218) (by decide +kernel), List.mem_of_getElem? (i := 219) (by decide +kernel)⟩
theorem lw_p2 : lw_okq (⟨"DynamicNeeds", "isRow", "(II)Z"⟩, 10) := ⟨⟨by decide +kernel, by decide +kernel⟩, List.mem_of_getElem? (i := 9) (by decide +kernel), List.mem_of_getElem? (i := 230) (by decide +kernel), List.mem_of_getElem? (i := 231) (by decide +kernel)⟩
theorem lw_p3 : lw_okq (⟨"DynamicNeeds", "runOnce", "(I)I"⟩, 10) := ⟨⟨by decide +kernel, by decide +kernel⟩, List.mem_of_getElem? (i := 9) (by decide +kernel), List.mem_of_getElem? (i := 243) (by decide +kernel), List.mem_of_getElem? (i := 244) (by decide +kernel)⟩
theorem lw_p4 : lw_okq (⟨"DynamicNeeds", "freshActions", "()I"⟩, 10) := ⟨⟨by decide +kernel, by decide +kernel⟩, List.mem_of_getElem? (i := 9) (by decide +kernel), List.mem_of_getElem? (i := 247) (by decide +kernel), List.mem_of_getElem? (i := 248) (by decide +kernel)⟩
theorem lw_p5 : lw_okq (⟨"DynamicNeeds", "holds", "(LDynamicNeeds$Action;I)Z"⟩, 10) := ⟨⟨by decide +kernel, by decide +kernel⟩, List.mem_of_getElem? (i := 9) (by decide +kernel), List.mem_of_getElem? (i := 251) (by decide +kernel), List.mem_of_getElem? (i := 252) (by decide +kernel)⟩
theorem lw_p6 : lw_okq (⟨"DynamicNeeds", "tryOnce", "(LDynamicNeeds$Action;I)I"⟩, 10) := ⟨⟨by decide +kernel, by decide +kernel⟩, List.mem_of_getElem? (i := 9) (by decide +kernel), List.mem_of_getElem? (i := 265) (by decide +kernel), List.mem_of_getElem? (i := 266) (by decide +kernel)⟩
theorem lw_p7 : lw_okq (⟨"DynamicNeeds", "goThroughRows", "(LDynamicNeeds$Action;I)I"⟩, 10) := ⟨⟨by decide +kernel, by decide +kernel⟩, List.mem_of_getElem? (i := 9) (by decide +kernel), List.mem_of_getElem? (i := 269) (by decide +kernel), List.mem_of_getElem? (i := 270) (by decide +kernel)⟩
theorem lw_p8 : lw_okq (⟨"DynamicNeeds", "lookAt", "(LDynamicNeeds$Action;ZII)I"⟩, 10) := ⟨⟨by decide +kernel, by decide +kernel⟩, List.mem_of_getElem? (i := 9) (by decide +kernel), List.mem_of_getElem? (i := 274) (by decide +kernel), List.mem_of_getElem? (i := 275) (by decide +kernel)⟩
theorem lw_p9 : lw_okq (⟨"DynamicNeeds", "keep", "(LDynamicNeeds$Action;I)V"⟩, 10) := ⟨⟨by decide +kernel, by decide +kernel⟩, List.mem_of_getElem? (i := 9) (by decide +kernel), List.mem_of_getElem? (i := 292) (by decide +kernel), List.mem_of_getElem? (i := 293) (by decide +kernel)⟩
theorem lw_p10 : lw_okq (⟨"DynamicNeeds", "tellRing", "(II)Z"⟩, 10) := ⟨⟨by decide +kernel, by decide +kernel⟩, List.mem_of_getElem? (i := 9) (by decide +kernel), List.mem_of_getElem? (i := 300) (by decide +kernel), List.mem_of_getElem? (i := 301) (by decide +kernel)⟩
theorem lw_p11 : lw_okq (⟨"DynamicNeeds", "isMapping", "(I)Z"⟩, 10) := ⟨⟨by decide +kernel, by decide +kernel⟩, List.mem_of_getElem? (i := 9) (by decide +kernel), List.mem_of_getElem? (i := 359) (by decide +kernel), List.mem_of_getElem? (i := 360) (by decide +kernel)⟩
theorem lw_p12 : lw_okq (⟨"DynamicNeedsModel", "isFile", "(I)Z"⟩, 34) := ⟨⟨by decide +kernel, by decide +kernel⟩, List.mem_of_getElem? (i := 387) (by decide +kernel), List.mem_of_getElem? (i := 504) (by decide +kernel), List.mem_of_getElem? (i := 505) (by decide +kernel)⟩
theorem lw_p13 : lw_okq (⟨"DynamicNeedsModel", "isAction", "(I)Z"⟩, 34) := ⟨⟨by decide +kernel, by decide +kernel⟩, List.mem_of_getElem? (i := 387) (by decide +kernel), List.mem_of_getElem? (i := 516) (by decide +kernel), List.mem_of_getElem? (i := 517) (by decide +kernel)⟩
theorem lw_p14 : lw_okq (⟨"DynamicNeedsModel", "forget", "(I)V"⟩, 34) := ⟨⟨by decide +kernel, by decide +kernel⟩, List.mem_of_getElem? (i := 387) (by decide +kernel), List.mem_of_getElem? (i := 520) (by decide +kernel), List.mem_of_getElem? (i := 521) (by decide +kernel)⟩
theorem lw_p15 : lw_okq (⟨"DynamicNeedsModel", "runOne", "(I)I"⟩, 34) := ⟨⟨by decide +kernel, by decide +kernel⟩, List.mem_of_getElem? (i := 387) (by decide +kernel), List.mem_of_getElem? (i := 532) (by decide +kernel), List.mem_of_getElem? (i := 533) (by decide +kernel)⟩
def lw_privs_1 : List (MethodName × Nat) := [(⟨"DynamicNeeds", "isFile", "(I)Z"⟩, 10), (⟨"DynamicNeeds", "isAction", "(I)Z"⟩, 10), (⟨"DynamicNeeds", "isRow", "(II)Z"⟩, 10), (⟨"DynamicNeeds", "runOnce", "(I)I"⟩, 10), (⟨"DynamicNeeds", "freshActions", "()I"⟩, 10), (⟨"DynamicNeeds", "holds", "(LDynamicNeeds$Action;I)Z"⟩, 10), (⟨"DynamicNeeds", "tryOnce", "(LDynamicNeeds$Action;I)I"⟩, 10), (⟨"DynamicNeeds", "goThroughRows", "(LDynamicNeeds$Action;I)I"⟩, 10), (⟨"DynamicNeeds", "lookAt", "(LDynamicNeeds$Action;ZII)I"⟩, 10), (⟨"DynamicNeeds", "keep", "(LDynamicNeeds$Action;I)V"⟩, 10), (⟨"DynamicNeeds", "tellRing", "(II)Z"⟩, 10), (⟨"DynamicNeeds", "isMapping", "(I)Z"⟩, 10), (⟨"DynamicNeedsModel", "isFile", "(I)Z"⟩, 34), (⟨"DynamicNeedsModel", "isAction", "(I)Z"⟩, 34), (⟨"DynamicNeedsModel", "forget", "(I)V"⟩, 34), (⟨"DynamicNeedsModel", "runOne", "(I)I"⟩, 34)]
theorem lw_r1 : ∀ q ∈ lw_privs_1, lw_okq q := List.forall_mem_cons.mpr ⟨lw_p0, List.forall_mem_cons.mpr ⟨lw_p1, List.forall_mem_cons.mpr ⟨lw_p2, List.forall_mem_cons.mpr ⟨lw_p3, List.forall_mem_cons.mpr ⟨lw_p4, List.forall_mem_cons.mpr ⟨lw_p5, List.forall_mem_cons.mpr ⟨lw_p6, List.forall_mem_cons.mpr ⟨lw_p7, List.forall_mem_cons.mpr ⟨lw_p8, List.forall_mem_cons.mpr ⟨lw_p9, List.forall_mem_cons.mpr ⟨lw_p10, List.forall_mem_cons.mpr ⟨lw_p11, List.forall_mem_cons.mpr ⟨lw_p12, List.forall_mem_cons.mpr ⟨lw_p13, List.forall_mem_cons.mpr ⟨lw_p14, List.forall_mem_cons.mpr ⟨lw_p15, fun _ h => absurd h List.not_mem_nil⟩⟩⟩⟩⟩⟩⟩⟩⟩⟩⟩⟩⟩⟩⟩⟩
theorem lw_p16 : lw_okq (⟨"DynamicNeedsModel", "isFreshNow", "(I)Z"⟩, 34) := ⟨⟨by decide +kernel, by decide +kernel⟩, List.mem_of_getElem? (i := 387) (by decide +kernel), List.mem_of_getElem? (i := 536) (by decide +kernel), List.mem_of_getElem? (i := 537) (by decide +kernel)⟩
theorem lw_p17 : lw_okq (⟨"DynamicNeedsModel", "freshen", "()V"⟩, 34) := ⟨⟨by decide +kernel, by decide +kernel⟩, List.mem_of_getElem? (i := 387) (by decide +kernel), List.mem_of_getElem? (i := 540) (by decide +kernel), List.mem_of_getElem? (i := 541) (by decide +kernel)⟩
theorem lw_p18 : lw_okq (⟨"DynamicNeedsModel", "isSo", "(I)Z"⟩, 34) := ⟨⟨by decide +kernel, by decide +kernel⟩, List.mem_of_getElem? (i := 387) (by decide +kernel), List.mem_of_getElem? (i := 544) (by decide +kernel), List.mem_of_getElem? (i := 545) (by decide +kernel)⟩
theorem lw_p19 : lw_okq (⟨"DynamicNeedsModel", "tryRows", "(I)I"⟩, 34) := ⟨⟨by decide +kernel, by decide +kernel⟩, List.mem_of_getElem? (i := 387) (by decide +kernel), List.mem_of_getElem? (i := 548) (by decide +kernel), List.mem_of_getElem? (i := 549) (by decide +kernel)⟩
theorem lw_p20 : lw_okq (⟨"DynamicNeedsModel", "look", "(III)I"⟩, 34) := ⟨⟨by decide +kernel, by decide +kernel⟩, List.mem_of_getElem? (i := 387) (by decide +kernel), List.mem_of_getElem? (i := 553) (by decide +kernel), List.mem_of_getElem? (i := 554) (by decide +kernel)⟩
theorem lw_p21 : lw_okq (⟨"DynamicNeedsModel", "note", "(IIZ)V"⟩, 34) := ⟨⟨by decide +kernel, by decide +kernel⟩, List.mem_of_getElem? (i := 387) (by decide +kernel), List.mem_of_getElem? (i := 557) (by decide +kernel), List.mem_of_getElem? (i := 558) (by decide +kernel)⟩
theorem lw_p22 : lw_okq (⟨"DynamicNeedsModel", "tellRing", "(II)I"⟩, 34) := ⟨⟨by decide +kernel, by decide +kernel⟩, List.mem_of_getElem? (i := 387) (by decide +kernel), List.mem_of_getElem? (i := 567) (by decide +kernel), List.mem_of_getElem? (i := 568) (by decide +kernel)⟩
theorem lw_p23 : lw_okq (⟨"DynamicNeedsModel", "membersOf", "(I)I"⟩, 34) := ⟨⟨by decide +kernel, by decide +kernel⟩, List.mem_of_getElem? (i := 387) (by decide +kernel), List.mem_of_getElem? (i := 603) (by decide +kernel), List.mem_of_getElem? (i := 604) (by decide +kernel)⟩
theorem lw_p24 : lw_okq (⟨"DynamicNeedsModel", "isMapped", "(IJ)Z"⟩, 34) := ⟨⟨by decide +kernel, by decide +kernel⟩, List.mem_of_getElem? (i := 387) (by decide +kernel), List.mem_of_getElem? (i := 620) (by decide +kernel), List.mem_of_getElem? (i := 621) (by decide +kernel)⟩
def lw_privs_2 : List (MethodName × Nat) := [(⟨"DynamicNeedsModel", "isFreshNow", "(I)Z"⟩, 34), (⟨"DynamicNeedsModel", "freshen", "()V"⟩, 34), (⟨"DynamicNeedsModel", "isSo", "(I)Z"⟩, 34), (⟨"DynamicNeedsModel", "tryRows", "(I)I"⟩, 34), (⟨"DynamicNeedsModel", "look", "(III)I"⟩, 34), (⟨"DynamicNeedsModel", "note", "(IIZ)V"⟩, 34), (⟨"DynamicNeedsModel", "tellRing", "(II)I"⟩, 34), (⟨"DynamicNeedsModel", "membersOf", "(I)I"⟩, 34), (⟨"DynamicNeedsModel", "isMapped", "(IJ)Z"⟩, 34)]
theorem lw_r2 : ∀ q ∈ lw_privs_2, lw_okq q := List.forall_mem_cons.mpr ⟨lw_p16, List.forall_mem_cons.mpr ⟨lw_p17, List.forall_mem_cons.mpr ⟨lw_p18, List.forall_mem_cons.mpr ⟨lw_p19, List.forall_mem_cons.mpr ⟨lw_p20, List.forall_mem_cons.mpr ⟨lw_p21, List.forall_mem_cons.mpr ⟨lw_p22, List.forall_mem_cons.mpr ⟨lw_p23, List.forall_mem_cons.mpr ⟨lw_p24, fun _ h => absurd h List.not_mem_nil⟩⟩⟩⟩⟩⟩⟩⟩⟩
def lw_privs : List (MethodName × Nat) := lw_privs_1 ++ (lw_privs_2)
def lw_tbl : List Cond := k2_sels lw_privs ++ tables_1
theorem lw_privs_ok : ∀ q ∈ lw_privs, lw_okq q := by
  show ∀ q ∈ lw_privs_1 ++ (lw_privs_2), lw_okq q
  exact List.forall_mem_append.mpr ⟨lw_r1, lw_r2⟩
end
section
/-! the layer: values, locals, the judgement Wk; then a row an instruction (by program: wip/gen/rows.py) -/
abbrev kV : Type := Int32 ⊕ (Int64 ⊕ (Nat × Nat))
abbrev kI : Type := Nat → Nat → Nat → Int32
abbrev kJ : Type := Nat → Nat → Nat → Int64
abbrev kCx : Type := Program × Launch × Env × Room × State × MethodId × Array Value × List Frame × Method × Code
def k_cv (ad : Nat → Nat → Nat) : kV → Value
  | .inl a => .int a
  | .inr (.inl a) => .long a
  | .inr (.inr r) => .ref (ad r.1 r.2)
def k_tl (ad : Nat → Nat → Nat) : Nat → List (Option kV) → List (Nat × Value)
  | _, [] => []
  | n, none :: r => k_tl ad (n + 1) r
  | n, some v :: r => (n, k_cv ad v) :: k_tl ad (n + 1) r
theorem k_tl_mem {ad : Nat → Nat → Nat} : ∀ (ls : List (Option kV)) (n : Nat) (q : Nat × Value), q ∈ k_tl ad n ls ↔ ∃ (i : Nat) (v : kV), ls[i]? = some (some v) ∧ q = (n + i, k_cv ad v)
  | [], n, q => by simp [k_tl]
  | none :: r, n, q => by
    rw [k_tl, k_tl_mem r (n + 1) q]
    constructor
    · rintro ⟨i, v, h, rfl⟩
      exact ⟨i + 1, v, by simpa using h, by rw [Nat.add_assoc, Nat.add_comm 1 i]⟩
    · rintro ⟨i, v, h, rfl⟩
      cases i with
      | zero => simp at h
      | succ i => exact ⟨i, v, by simpa using h, by rw [Nat.add_assoc, Nat.add_comm 1 i]⟩
  | some w :: r, n, q => by
    rw [k_tl, List.mem_cons, k_tl_mem r (n + 1) q]
    constructor
    · rintro (rfl | ⟨i, v, h, rfl⟩)
      · exact ⟨0, w, by simp, by simp⟩
      · exact ⟨i + 1, v, by simpa using h, by rw [Nat.add_assoc, Nat.add_comm 1 i]⟩
    · rintro ⟨i, v, h, rfl⟩
      cases i with
      | zero =>
        simp at h
        subst h
        exact Or.inl (by simp)
      | succ i => exact Or.inr ⟨i, v, by simpa using h, by rw [Nat.add_assoc, Nat.add_comm 1 i]⟩
def k_nl (ls : List (Option kV)) : Nat → Bool
  | 0 => true
  | j + 1 => match ls[j]? with
    | some (some (.inr (.inl _))) => false
    | _ => true
theorem k_cat {ad : Nat → Nat → Nat} {u : kV} (h : (k_cv ad u).category = 2) : ∃ a, u = .inr (.inl a) := by
  match u, h with
  | .inl a, h => simp [k_cv, Value.category] at h
  | .inr (.inl a), _ => exact ⟨a, rfl⟩
  | .inr (.inr r), h => simp [k_cv, Value.category] at h
theorem k_lat {ad : Nat → Nat → Nat} {la : Array Slot} {n i : Nat} {ls : List (Option kV)} {v : kV} (hl : lv_has la n (k_tl ad 0 ls)) (h : ls[i]? = some (some v)) : la[i]? = some (.val (k_cv ad v)) :=
  hl.2.2 (i, k_cv ad v) ((k_tl_mem ls 0 _).mpr ⟨i, v, h, by rw [Nat.zero_add]⟩)
theorem k_st1 {ad : Nat → Nat → Nat} {la : Array Slot} {n i : Nat} {ls : List (Option kV)} {v : kV} (hn : k_nl ls i = true) (h : lv_has la n ((i, k_cv ad v) :: (k_tl ad 0 ls).filter (fun q => !(q.1 == i) && !(q.1 + 1 == i && q.2.category == 2)))) : lv_has la n (k_tl ad 0 (ls.set i (some v))) := by
  refine ⟨h.1, h.2.1, fun q hq => ?_⟩
  obtain ⟨j, u, hj, rfl⟩ := (k_tl_mem _ 0 q).mp hq
  rw [Nat.zero_add]
  by_cases e : j = i
  · subst e
    have hu : u = v := by
      rw [List.getElem?_set] at hj
      simp at hj
      exact hj.2.symm
    rw [hu]
    exact h.2.2 _ List.mem_cons_self
  · have hj' : ls[j]? = some (some u) := by
      rw [List.getElem?_set_ne (Ne.symm e)] at hj
      exact hj
    refine h.2.2 (j, k_cv ad u) (List.mem_cons_of_mem _ (List.mem_filter.mpr ⟨(k_tl_mem ls 0 _).mpr ⟨j, u, hj', by rw [Nat.zero_add]⟩, ?_⟩))
    have h2 : ¬ (j + 1 = i ∧ (k_cv ad u).category = 2) := by
      rintro ⟨e1, e2⟩
      obtain ⟨a, rfl⟩ := k_cat e2
      subst e1
      simp [k_nl, hj'] at hn
    simp only [Bool.and_eq_true, Bool.not_eq_true', beq_eq_false_iff_ne, ne_eq, Bool.and_eq_false_iff]
    refine ⟨e, ?_⟩
    by_cases e1 : j + 1 = i
    · exact Or.inr (fun q => h2 ⟨e1, q⟩)
    · exact Or.inl e1
theorem k_st2 {ad : Nat → Nat → Nat} {la : Array Slot} {n i : Nat} {ls : List (Option kV)} {v : kV} (hn : k_nl ls i = true) (h : lv_has la n ((i, k_cv ad v) :: (k_tl ad 0 ls).filter (fun q => !(q.1 == i) && (!(q.1 == i + 1) && !(q.1 + 1 == i && q.2.category == 2))))) : lv_has la n (k_tl ad 0 ((ls.set i (some v)).set (i + 1) none)) := by
  refine ⟨h.1, h.2.1, fun q hq => ?_⟩
  obtain ⟨j, u, hj, rfl⟩ := (k_tl_mem _ 0 q).mp hq
  rw [Nat.zero_add]
  have e0 : j ≠ i + 1 := by
    intro e0
    subst e0
    rw [List.getElem?_set] at hj
    simp at hj
  rw [List.getElem?_set_ne (Ne.symm e0)] at hj
  by_cases e : j = i
  · subst e
    have hu : u = v := by
      rw [List.getElem?_set] at hj
      simp at hj
      exact hj.2.symm
    rw [hu]
    exact h.2.2 _ List.mem_cons_self
  · have hj' : ls[j]? = some (some u) := by
      rw [List.getElem?_set_ne (Ne.symm e)] at hj
      exact hj
    refine h.2.2 (j, k_cv ad u) (List.mem_cons_of_mem _ (List.mem_filter.mpr ⟨(k_tl_mem ls 0 _).mpr ⟨j, u, hj', by rw [Nat.zero_add]⟩, ?_⟩))
    have h2 : ¬ (j + 1 = i ∧ (k_cv ad u).category = 2) := by
      rintro ⟨e1, e2⟩
      obtain ⟨a, rfl⟩ := k_cat e2
      subst e1
      simp [k_nl, hj'] at hn
    simp only [Bool.and_eq_true, Bool.not_eq_true', beq_eq_false_iff_ne, ne_eq, Bool.and_eq_false_iff]
    refine ⟨e, e0, ?_⟩
    by_cases e1 : j + 1 = i
    · exact Or.inr (fun q => h2 ⟨e1, q⟩)
    · exact Or.inl e1
/-- W at a frame given by values: any heap that holds the state g, any machine locals that hold ls -/
def Wk {S : Type} (wd : S → Heap → Prop) (A : Nat → Prop) (ad : Nat → Nat → Nat) (x : kCx) (n : Nat × Nat) (Q : State → Prop) (pc : Nat) (ls : List (Option kV)) (st : List kV) (g : S) : Prop :=
  ∀ (H : Heap) (locs : List Loc) (la : Array Slot), wd g H → va_S A x.2.2.2.2.1.heap H locs → lv_has la ls.length (k_tl ad 0 ls) → W x.1 x.2.1 x.2.2.1 x.2.2.2.1 x.2.2.2.2.1 x.2.2.2.2.2.1 x.2.2.2.2.2.2.1 x.2.2.2.2.2.2.2.1 x.2.2.2.2.2.2.2.2.1 x.2.2.2.2.2.2.2.2.2 H locs n.1 n.2 Q (F0 x.2.2.2.2.2.1 pc la (st.map (k_cv ad)))
/-- the machine, the code, the method's own class -/
def kOk (x : kCx) (cc : ByteArray) (own : String) : Prop := x.1.tables.exec = Jvm.exec ∧ x.2.2.2.2.2.2.2.2.2.code = cc ∧ x.2.2.2.2.1.vm.findClass own = some x.2.2.2.2.2.1.cls ∧ ∀ w ∈ lw_tbl, goodWord w = true → w.before x.2.2.2.2.2.2.1 x.2.2.2.2.1 = true
section KR
variable {S : Type} {wd : S → Heap → Prop} {A : Nat → Prop} {ad : Nat → Nat → Nat} {x : kCx} {n : Nat × Nat} {Q : State → Prop} {pc : Nat} {ls : List (Option kV)} {st : List kV} {g : S} {cc : ByteArray} {own : String}
theorem k_iconst (C : kOk x cc own) {k : Int} {v : Int32} (hd : decode cc pc = .ok (.iconst k, 1)) (hv : Int32.ofInt k = v)
    (kk : Wk wd A ad x n Q (pc + 1) ls (.inl v :: st) g) : Wk wd A ad x n Q pc ls (st) g := fun H locs la hw hS hl => lv_iconst C.1 C.2.1 hd hv (kk H locs la hw hS hl)
theorem k_bipush (C : kOk x cc own) {k : Int} {v : Int32} (hd : decode cc pc = .ok (.bipush k, 2)) (hv : (Int8.ofInt k).toInt32 = v)
    (kk : Wk wd A ad x n Q (pc + 2) ls (.inl v :: st) g) : Wk wd A ad x n Q pc ls (st) g := fun H locs la hw hS hl => lv_bipush C.1 C.2.1 hd hv (kk H locs la hw hS hl)
theorem k_sipush (C : kOk x cc own) {k : Int} {v : Int32} (hd : decode cc pc = .ok (.sipush k, 3)) (hv : (Int16.ofInt k).toInt32 = v)
    (kk : Wk wd A ad x n Q (pc + 3) ls (.inl v :: st) g) : Wk wd A ad x n Q pc ls (st) g := fun H locs la hw hS hl => lv_sipush C.1 C.2.1 hd hv (kk H locs la hw hS hl)
theorem k_lconst (C : kOk x cc own) {k : Fin 2} {v : Int64} (hd : decode cc pc = .ok (.lconst k, 1)) (hv : Int64.ofNat (k : Nat) = v)
    (kk : Wk wd A ad x n Q (pc + 1) ls (.inr (.inl v) :: st) g) : Wk wd A ad x n Q pc ls (st) g := fun H locs la hw hS hl => lv_lconst C.1 C.2.1 hd hv (kk H locs la hw hS hl)
theorem k_ldc2 (C : kOk x cc own) {i : Nat} {v : Int64} (hd : decode cc pc = .ok (.ldc2_w i, 3)) (hv : Cond.constantLong own i v ∈ lw_tbl)
    (kk : Wk wd A ad x n Q (pc + 3) ls (.inr (.inl v) :: st) g) : Wk wd A ad x n Q pc ls (st) g := fun H locs la hw hS hl => lv_ldc2 C.1 C.2.1 C.2.2.1 (C.2.2.2 _ hv (by rfl)) hd (kk H locs la hw hS hl)
theorem k_iload_n (C : kOk x cc own) {k : Fin 4} {i : Nat} {v : Int32} (hd : decode cc pc = .ok (.iload_n k, 1)) (hi : (k : Nat) = i) (h : ls[i]? = some (some (.inl v)))
    (kk : Wk wd A ad x n Q (pc + 1) ls (.inl v :: st) g) : Wk wd A ad x n Q pc ls (st) g := fun H locs la hw hS hl => lv_iload_n C.1 C.2.1 hd hi (k_lat hl h) (kk H locs la hw hS hl)
theorem k_iload (C : kOk x cc own) {i : Nat} {v : Int32} (hd : decode cc pc = .ok (.iload i, 2)) (h : ls[i]? = some (some (.inl v)))
    (kk : Wk wd A ad x n Q (pc + 2) ls (.inl v :: st) g) : Wk wd A ad x n Q pc ls (st) g := fun H locs la hw hS hl => lv_iload C.1 C.2.1 hd (k_lat hl h) (kk H locs la hw hS hl)
theorem k_istore_n (C : kOk x cc own) {k : Fin 4} {i : Nat} {v : Int32} (hd : decode cc pc = .ok (.istore_n k, 1)) (hi : (k : Nat) = i) (hb : i < ls.length) (hn : k_nl ls i = true)
    (kk : Wk wd A ad x n Q (pc + 1) (ls.set i (some (.inl v))) st g) : Wk wd A ad x n Q pc ls (.inl v :: st) g := fun H locs la hw hS hl => lv_istore_n C.1 C.2.1 hd hi hl hb rfl (fun la h => kk H locs la hw hS (by rw [List.length_set]; exact k_st1 (v := .inl v) hn h))
theorem k_istore (C : kOk x cc own) {i : Nat} {v : Int32} (hd : decode cc pc = .ok (.istore i, 2)) (hb : i < ls.length) (hn : k_nl ls i = true)
    (kk : Wk wd A ad x n Q (pc + 2) (ls.set i (some (.inl v))) st g) : Wk wd A ad x n Q pc ls (.inl v :: st) g := fun H locs la hw hS hl => lv_istore C.1 C.2.1 hd hl hb rfl (fun la h => kk H locs la hw hS (by rw [List.length_set]; exact k_st1 (v := .inl v) hn h))
theorem k_lload_n (C : kOk x cc own) {k : Fin 4} {i : Nat} {v : Int64} (hd : decode cc pc = .ok (.lload_n k, 1)) (hi : (k : Nat) = i) (h : ls[i]? = some (some (.inr (.inl v))))
    (kk : Wk wd A ad x n Q (pc + 1) ls (.inr (.inl v) :: st) g) : Wk wd A ad x n Q pc ls (st) g := fun H locs la hw hS hl => lv_lload_n C.1 C.2.1 hd hi (k_lat hl h) (kk H locs la hw hS hl)
theorem k_lload (C : kOk x cc own) {i : Nat} {v : Int64} (hd : decode cc pc = .ok (.lload i, 2)) (h : ls[i]? = some (some (.inr (.inl v))))
    (kk : Wk wd A ad x n Q (pc + 2) ls (.inr (.inl v) :: st) g) : Wk wd A ad x n Q pc ls (st) g := fun H locs la hw hS hl => lv_lload C.1 C.2.1 hd (k_lat hl h) (kk H locs la hw hS hl)
theorem k_lstore_n (C : kOk x cc own) {k : Fin 4} {i : Nat} {v : Int64} (hd : decode cc pc = .ok (.lstore_n k, 1)) (hi : (k : Nat) = i) (hb : i + 1 < ls.length) (hn : k_nl ls i = true)
    (kk : Wk wd A ad x n Q (pc + 1) ((ls.set i (some (.inr (.inl v)))).set (i + 1) none) st g) : Wk wd A ad x n Q pc ls (.inr (.inl v) :: st) g := fun H locs la hw hS hl => lv_lstore_n C.1 C.2.1 hd hi hl hb rfl (fun la h => kk H locs la hw hS (by rw [List.length_set, List.length_set]; exact k_st2 (v := .inr (.inl v)) hn h))
theorem k_lstore (C : kOk x cc own) {i : Nat} {v : Int64} (hd : decode cc pc = .ok (.lstore i, 2)) (hb : i + 1 < ls.length) (hn : k_nl ls i = true)
    (kk : Wk wd A ad x n Q (pc + 2) ((ls.set i (some (.inr (.inl v)))).set (i + 1) none) st g) : Wk wd A ad x n Q pc ls (.inr (.inl v) :: st) g := fun H locs la hw hS hl => lv_lstore C.1 C.2.1 hd hl hb rfl (fun la h => kk H locs la hw hS (by rw [List.length_set, List.length_set]; exact k_st2 (v := .inr (.inl v)) hn h))
theorem k_aload_n (C : kOk x cc own) {k : Fin 4} {i : Nat} {v : Nat × Nat} (hd : decode cc pc = .ok (.aload_n k, 1)) (hi : (k : Nat) = i) (h : ls[i]? = some (some (.inr (.inr v))))
    (kk : Wk wd A ad x n Q (pc + 1) ls (.inr (.inr v) :: st) g) : Wk wd A ad x n Q pc ls (st) g := fun H locs la hw hS hl => lv_aload_n C.1 C.2.1 hd hi (k_lat hl h) (kk H locs la hw hS hl)
theorem k_aload (C : kOk x cc own) {i : Nat} {v : Nat × Nat} (hd : decode cc pc = .ok (.aload i, 2)) (h : ls[i]? = some (some (.inr (.inr v))))
    (kk : Wk wd A ad x n Q (pc + 2) ls (.inr (.inr v) :: st) g) : Wk wd A ad x n Q pc ls (st) g := fun H locs la hw hS hl => lv_aload C.1 C.2.1 hd (k_lat hl h) (kk H locs la hw hS hl)
theorem k_astore_n (C : kOk x cc own) {k : Fin 4} {i : Nat} {v : Nat × Nat} (hd : decode cc pc = .ok (.astore_n k, 1)) (hi : (k : Nat) = i) (hb : i < ls.length) (hn : k_nl ls i = true)
    (kk : Wk wd A ad x n Q (pc + 1) (ls.set i (some (.inr (.inr v)))) st g) : Wk wd A ad x n Q pc ls (.inr (.inr v) :: st) g := fun H locs la hw hS hl => lv_astore_n C.1 C.2.1 hd hi hl hb rfl (fun la h => kk H locs la hw hS (by rw [List.length_set]; exact k_st1 (v := .inr (.inr v)) hn h))
theorem k_astore (C : kOk x cc own) {i : Nat} {v : Nat × Nat} (hd : decode cc pc = .ok (.astore i, 2)) (hb : i < ls.length) (hn : k_nl ls i = true)
    (kk : Wk wd A ad x n Q (pc + 2) (ls.set i (some (.inr (.inr v)))) st g) : Wk wd A ad x n Q pc ls (.inr (.inr v) :: st) g := fun H locs la hw hS hl => lv_astore C.1 C.2.1 hd hl hb rfl (fun la h => kk H locs la hw hS (by rw [List.length_set]; exact k_st1 (v := .inr (.inr v)) hn h))
theorem k_iinc (C : kOk x cc own) {i : Nat} {k : Int} {v w : Int32} (hd : decode cc pc = .ok (.iinc i k, 3)) (h : ls[i]? = some (some (.inl v))) (hw : v + Int32.ofInt k = w) (hn : k_nl ls i = true)
    (kk : Wk wd A ad x n Q (pc + 3) (ls.set i (some (.inl w))) st g) : Wk wd A ad x n Q pc ls st g := fun H locs la hw1 hS hl => by
  obtain ⟨q, hq⟩ := List.getElem?_of_mem ((k_tl_mem (ad := ad) ls 0 (i, .int v)).mpr ⟨i, .inl v, h, by rw [Nat.zero_add]; rfl⟩)
  exact lv_iinc C.1 C.2.1 hd hl hq hw (List.getElem?_eq_some_iff.mp h).1 rfl (fun la h2 => kk H locs la hw1 hS (by rw [List.length_set]; exact k_st1 (v := .inl w) hn h2))
theorem k_iadd (C : kOk x cc own) {a b : Int32} (hd : decode cc pc = .ok (.iadd, 1))
    (kk : Wk wd A ad x n Q (pc + 1) ls (.inl (a + b) :: st) g) : Wk wd A ad x n Q pc ls (.inl b :: .inl a :: st) g := fun H locs la hw hS hl => lv_iadd C.1 C.2.1 hd (kk H locs la hw hS hl)
theorem k_isub (C : kOk x cc own) {a b : Int32} (hd : decode cc pc = .ok (.isub, 1))
    (kk : Wk wd A ad x n Q (pc + 1) ls (.inl (a - b) :: st) g) : Wk wd A ad x n Q pc ls (.inl b :: .inl a :: st) g := fun H locs la hw hS hl => lv_isub C.1 C.2.1 hd (kk H locs la hw hS hl)
theorem k_imul (C : kOk x cc own) {a b : Int32} (hd : decode cc pc = .ok (.imul, 1))
    (kk : Wk wd A ad x n Q (pc + 1) ls (.inl (a * b) :: st) g) : Wk wd A ad x n Q pc ls (.inl b :: .inl a :: st) g := fun H locs la hw hS hl => lv_imul C.1 C.2.1 hd (kk H locs la hw hS hl)
theorem k_iand (C : kOk x cc own) {a b : Int32} (hd : decode cc pc = .ok (.iand, 1))
    (kk : Wk wd A ad x n Q (pc + 1) ls (.inl (a &&& b) :: st) g) : Wk wd A ad x n Q pc ls (.inl b :: .inl a :: st) g := fun H locs la hw hS hl => lv_iand C.1 C.2.1 hd (kk H locs la hw hS hl)
theorem k_ior (C : kOk x cc own) {a b : Int32} (hd : decode cc pc = .ok (.ior, 1))
    (kk : Wk wd A ad x n Q (pc + 1) ls (.inl (a ||| b) :: st) g) : Wk wd A ad x n Q pc ls (.inl b :: .inl a :: st) g := fun H locs la hw hS hl => lv_ior C.1 C.2.1 hd (kk H locs la hw hS hl)
theorem k_ixor (C : kOk x cc own) {a b : Int32} (hd : decode cc pc = .ok (.ixor, 1))
    (kk : Wk wd A ad x n Q (pc + 1) ls (.inl (a ^^^ b) :: st) g) : Wk wd A ad x n Q pc ls (.inl b :: .inl a :: st) g := fun H locs la hw hS hl => lv_ixor C.1 C.2.1 hd (kk H locs la hw hS hl)
theorem k_ishl (C : kOk x cc own) {a b : Int32} (hd : decode cc pc = .ok (.ishl, 1))
    (kk : Wk wd A ad x n Q (pc + 1) ls (.inl (a <<< (b &&& 31)) :: st) g) : Wk wd A ad x n Q pc ls (.inl b :: .inl a :: st) g := fun H locs la hw hS hl => lv_ishl C.1 C.2.1 hd (kk H locs la hw hS hl)
theorem k_ishr (C : kOk x cc own) {a b : Int32} (hd : decode cc pc = .ok (.ishr, 1))
    (kk : Wk wd A ad x n Q (pc + 1) ls (.inl (a >>> (b &&& 31)) :: st) g) : Wk wd A ad x n Q pc ls (.inl b :: .inl a :: st) g := fun H locs la hw hS hl => lv_ishr C.1 C.2.1 hd (kk H locs la hw hS hl)
theorem k_iushr (C : kOk x cc own) {a b v : Int32} (hd : decode cc pc = .ok (.iushr, 1)) (hv : (a.toUInt32 >>> (b.toUInt32 &&& Int32.toUInt32 31)).toInt32 = v)
    (kk : Wk wd A ad x n Q (pc + 1) ls (.inl v :: st) g) : Wk wd A ad x n Q pc ls (.inl b :: .inl a :: st) g := fun H locs la hw hS hl => lv_iushr C.1 C.2.1 hd hv (kk H locs la hw hS hl)
theorem k_ladd (C : kOk x cc own) {a b : Int64} (hd : decode cc pc = .ok (.ladd, 1))
    (kk : Wk wd A ad x n Q (pc + 1) ls (.inr (.inl (a + b)) :: st) g) : Wk wd A ad x n Q pc ls (.inr (.inl b) :: .inr (.inl a) :: st) g := fun H locs la hw hS hl => lv_ladd C.1 C.2.1 hd (kk H locs la hw hS hl)
theorem k_lmul (C : kOk x cc own) {a b : Int64} (hd : decode cc pc = .ok (.lmul, 1))
    (kk : Wk wd A ad x n Q (pc + 1) ls (.inr (.inl (a * b)) :: st) g) : Wk wd A ad x n Q pc ls (.inr (.inl b) :: .inr (.inl a) :: st) g := fun H locs la hw hS hl => lv_lmul C.1 C.2.1 hd (kk H locs la hw hS hl)
theorem k_land (C : kOk x cc own) {a b : Int64} (hd : decode cc pc = .ok (.land, 1))
    (kk : Wk wd A ad x n Q (pc + 1) ls (.inr (.inl (a &&& b)) :: st) g) : Wk wd A ad x n Q pc ls (.inr (.inl b) :: .inr (.inl a) :: st) g := fun H locs la hw hS hl => lv_land C.1 C.2.1 hd (kk H locs la hw hS hl)
theorem k_lor (C : kOk x cc own) {a b : Int64} (hd : decode cc pc = .ok (.lor, 1))
    (kk : Wk wd A ad x n Q (pc + 1) ls (.inr (.inl (a ||| b)) :: st) g) : Wk wd A ad x n Q pc ls (.inr (.inl b) :: .inr (.inl a) :: st) g := fun H locs la hw hS hl => lv_lor C.1 C.2.1 hd (kk H locs la hw hS hl)
theorem k_lxor (C : kOk x cc own) {a b : Int64} (hd : decode cc pc = .ok (.lxor, 1))
    (kk : Wk wd A ad x n Q (pc + 1) ls (.inr (.inl (a ^^^ b)) :: st) g) : Wk wd A ad x n Q pc ls (.inr (.inl b) :: .inr (.inl a) :: st) g := fun H locs la hw hS hl => lv_lxor C.1 C.2.1 hd (kk H locs la hw hS hl)
theorem k_lrem (C : kOk x cc own) {a b : Int64} (hd : decode cc pc = .ok (.lrem, 1)) (hb : ¬ b = 0)
    (kk : Wk wd A ad x n Q (pc + 1) ls (.inr (.inl (a - a / b * b)) :: st) g) : Wk wd A ad x n Q pc ls (.inr (.inl b) :: .inr (.inl a) :: st) g := fun H locs la hw hS hl => lv_lrem C.1 C.2.1 hd hb (kk H locs la hw hS hl)
theorem k_lshl (C : kOk x cc own) {a v : Int64} {b : Int32} (hd : decode cc pc = .ok (.lshl, 1)) (hv : a <<< (b.toInt64 &&& 63) = v)
    (kk : Wk wd A ad x n Q (pc + 1) ls (.inr (.inl v) :: st) g) : Wk wd A ad x n Q pc ls (.inl b :: .inr (.inl a) :: st) g := fun H locs la hw hS hl => lv_lshl C.1 C.2.1 hd hv (kk H locs la hw hS hl)
theorem k_i2l (C : kOk x cc own) {a : Int32} (hd : decode cc pc = .ok (.i2l, 1))
    (kk : Wk wd A ad x n Q (pc + 1) ls (.inr (.inl a.toInt64) :: st) g) : Wk wd A ad x n Q pc ls (.inl a :: st) g := fun H locs la hw hS hl => lv_i2l C.1 C.2.1 hd rfl (kk H locs la hw hS hl)
theorem k_l2i (C : kOk x cc own) {a : Int64} (hd : decode cc pc = .ok (.l2i, 1))
    (kk : Wk wd A ad x n Q (pc + 1) ls (.inl a.toInt32 :: st) g) : Wk wd A ad x n Q pc ls (.inr (.inl a) :: st) g := fun H locs la hw hS hl => lv_l2i C.1 C.2.1 hd rfl (kk H locs la hw hS hl)
theorem k_lcmp (C : kOk x cc own) {a b : Int64} (hd : decode cc pc = .ok (.lcmp, 1))
    (kk : Wk wd A ad x n Q (pc + 1) ls (.inl (lg_cmp a b) :: st) g) : Wk wd A ad x n Q pc ls (.inr (.inl b) :: .inr (.inl a) :: st) g := fun H locs la hw hS hl => W.lcmp C.1 C.2.1 hd (kk H locs la hw hS hl)
theorem k_dup (C : kOk x cc own) {a : kV} (hd : decode cc pc = .ok (.dup, 1)) (h : (k_cv ad a).category = 1)
    (kk : Wk wd A ad x n Q (pc + 1) ls (a :: a :: st) g) : Wk wd A ad x n Q pc ls (a :: st) g := fun H locs la hw hS hl => lv_dup C.1 C.2.1 hd h (kk H locs la hw hS hl)
theorem k_dup2 (C : kOk x cc own) {a b : kV} (hd : decode cc pc = .ok (.dup2, 1)) (h : (k_cv ad a).category = 1) (h2 : (k_cv ad b).category = 1)
    (kk : Wk wd A ad x n Q (pc + 1) ls (a :: b :: a :: b :: st) g) : Wk wd A ad x n Q pc ls (a :: b :: st) g := fun H locs la hw hS hl => lv_dup2_11 C.1 C.2.1 hd h h2 (kk H locs la hw hS hl)
theorem k_pop (C : kOk x cc own) {a : kV} (hd : decode cc pc = .ok (.pop, 1)) (h : (k_cv ad a).category = 1)
    (kk : Wk wd A ad x n Q (pc + 1) ls (st) g) : Wk wd A ad x n Q pc ls (a :: st) g := fun H locs la hw hS hl => lv_pop C.1 C.2.1 hd h (kk H locs la hw hS hl)
theorem k_if_eq (C : kOk x cc own) {a : Int32} {off : Int} {tgt : Nat} (hd : decode cc pc = .ok (.ifCond .eq off, 3)) (ht : (pc : Int) + off = (tgt : Int)) (kt : a = 0 → Wk wd A ad x n Q tgt ls st g) (kf : ¬ a = 0 → Wk wd A ad x n Q (pc + 3) ls st g) : Wk wd A ad x n Q pc ls (.inl a :: st) g := fun H locs la hw hS hl => lv_if_eq C.1 C.2.1 hd ht (fun q => kt q H locs la hw hS hl) (fun q => kf q H locs la hw hS hl)
theorem k_icmp_eq (C : kOk x cc own) {a b : Int32} {off : Int} {tgt : Nat} (hd : decode cc pc = .ok (.if_icmp .eq off, 3)) (ht : (pc : Int) + off = (tgt : Int)) (kt : a = b → Wk wd A ad x n Q tgt ls st g) (kf : ¬ a = b → Wk wd A ad x n Q (pc + 3) ls st g) : Wk wd A ad x n Q pc ls (.inl b :: .inl a :: st) g := fun H locs la hw hS hl => lv_icmp_eq C.1 C.2.1 hd ht (fun q => kt q H locs la hw hS hl) (fun q => kf q H locs la hw hS hl)
theorem k_if_ne (C : kOk x cc own) {a : Int32} {off : Int} {tgt : Nat} (hd : decode cc pc = .ok (.ifCond .ne off, 3)) (ht : (pc : Int) + off = (tgt : Int)) (kt : ¬ a = 0 → Wk wd A ad x n Q tgt ls st g) (kf : a = 0 → Wk wd A ad x n Q (pc + 3) ls st g) : Wk wd A ad x n Q pc ls (.inl a :: st) g := fun H locs la hw hS hl => lv_if_ne C.1 C.2.1 hd ht (fun q => kt q H locs la hw hS hl) (fun q => kf q H locs la hw hS hl)
theorem k_icmp_ne (C : kOk x cc own) {a b : Int32} {off : Int} {tgt : Nat} (hd : decode cc pc = .ok (.if_icmp .ne off, 3)) (ht : (pc : Int) + off = (tgt : Int)) (kt : ¬ a = b → Wk wd A ad x n Q tgt ls st g) (kf : a = b → Wk wd A ad x n Q (pc + 3) ls st g) : Wk wd A ad x n Q pc ls (.inl b :: .inl a :: st) g := fun H locs la hw hS hl => lv_icmp_ne C.1 C.2.1 hd ht (fun q => kt q H locs la hw hS hl) (fun q => kf q H locs la hw hS hl)
theorem k_if_lt (C : kOk x cc own) {a : Int32} {off : Int} {tgt : Nat} (hd : decode cc pc = .ok (.ifCond .lt off, 3)) (ht : (pc : Int) + off = (tgt : Int)) (kt : a < 0 → Wk wd A ad x n Q tgt ls st g) (kf : ¬ a < 0 → Wk wd A ad x n Q (pc + 3) ls st g) : Wk wd A ad x n Q pc ls (.inl a :: st) g := fun H locs la hw hS hl => lv_if_lt C.1 C.2.1 hd ht (fun q => kt q H locs la hw hS hl) (fun q => kf q H locs la hw hS hl)
theorem k_icmp_lt (C : kOk x cc own) {a b : Int32} {off : Int} {tgt : Nat} (hd : decode cc pc = .ok (.if_icmp .lt off, 3)) (ht : (pc : Int) + off = (tgt : Int)) (kt : a < b → Wk wd A ad x n Q tgt ls st g) (kf : ¬ a < b → Wk wd A ad x n Q (pc + 3) ls st g) : Wk wd A ad x n Q pc ls (.inl b :: .inl a :: st) g := fun H locs la hw hS hl => lv_icmp_lt C.1 C.2.1 hd ht (fun q => kt q H locs la hw hS hl) (fun q => kf q H locs la hw hS hl)
theorem k_if_ge (C : kOk x cc own) {a : Int32} {off : Int} {tgt : Nat} (hd : decode cc pc = .ok (.ifCond .ge off, 3)) (ht : (pc : Int) + off = (tgt : Int)) (kt : 0 ≤ a → Wk wd A ad x n Q tgt ls st g) (kf : ¬ 0 ≤ a → Wk wd A ad x n Q (pc + 3) ls st g) : Wk wd A ad x n Q pc ls (.inl a :: st) g := fun H locs la hw hS hl => lv_if_ge C.1 C.2.1 hd ht (fun q => kt q H locs la hw hS hl) (fun q => kf q H locs la hw hS hl)
theorem k_icmp_ge (C : kOk x cc own) {a b : Int32} {off : Int} {tgt : Nat} (hd : decode cc pc = .ok (.if_icmp .ge off, 3)) (ht : (pc : Int) + off = (tgt : Int)) (kt : b ≤ a → Wk wd A ad x n Q tgt ls st g) (kf : ¬ b ≤ a → Wk wd A ad x n Q (pc + 3) ls st g) : Wk wd A ad x n Q pc ls (.inl b :: .inl a :: st) g := fun H locs la hw hS hl => lv_icmp_ge C.1 C.2.1 hd ht (fun q => kt q H locs la hw hS hl) (fun q => kf q H locs la hw hS hl)
theorem k_if_gt (C : kOk x cc own) {a : Int32} {off : Int} {tgt : Nat} (hd : decode cc pc = .ok (.ifCond .gt off, 3)) (ht : (pc : Int) + off = (tgt : Int)) (kt : 0 < a → Wk wd A ad x n Q tgt ls st g) (kf : ¬ 0 < a → Wk wd A ad x n Q (pc + 3) ls st g) : Wk wd A ad x n Q pc ls (.inl a :: st) g := fun H locs la hw hS hl => lv_if_gt C.1 C.2.1 hd ht (fun q => kt q H locs la hw hS hl) (fun q => kf q H locs la hw hS hl)
theorem k_icmp_gt (C : kOk x cc own) {a b : Int32} {off : Int} {tgt : Nat} (hd : decode cc pc = .ok (.if_icmp .gt off, 3)) (ht : (pc : Int) + off = (tgt : Int)) (kt : b < a → Wk wd A ad x n Q tgt ls st g) (kf : ¬ b < a → Wk wd A ad x n Q (pc + 3) ls st g) : Wk wd A ad x n Q pc ls (.inl b :: .inl a :: st) g := fun H locs la hw hS hl => lv_icmp_gt C.1 C.2.1 hd ht (fun q => kt q H locs la hw hS hl) (fun q => kf q H locs la hw hS hl)
theorem k_if_le (C : kOk x cc own) {a : Int32} {off : Int} {tgt : Nat} (hd : decode cc pc = .ok (.ifCond .le off, 3)) (ht : (pc : Int) + off = (tgt : Int)) (kt : a ≤ 0 → Wk wd A ad x n Q tgt ls st g) (kf : ¬ a ≤ 0 → Wk wd A ad x n Q (pc + 3) ls st g) : Wk wd A ad x n Q pc ls (.inl a :: st) g := fun H locs la hw hS hl => lv_if_le C.1 C.2.1 hd ht (fun q => kt q H locs la hw hS hl) (fun q => kf q H locs la hw hS hl)
theorem k_icmp_le (C : kOk x cc own) {a b : Int32} {off : Int} {tgt : Nat} (hd : decode cc pc = .ok (.if_icmp .le off, 3)) (ht : (pc : Int) + off = (tgt : Int)) (kt : a ≤ b → Wk wd A ad x n Q tgt ls st g) (kf : ¬ a ≤ b → Wk wd A ad x n Q (pc + 3) ls st g) : Wk wd A ad x n Q pc ls (.inl b :: .inl a :: st) g := fun H locs la hw hS hl => lv_icmp_le C.1 C.2.1 hd ht (fun q => kt q H locs la hw hS hl) (fun q => kf q H locs la hw hS hl)
theorem k_goto (C : kOk x cc own) {off : Int} {tgt : Nat} (hd : decode cc pc = .ok (.goto off, 3)) (ht : (pc : Int) + off = (tgt : Int)) (kk : Wk wd A ad x n Q tgt ls st g) : Wk wd A ad x n Q pc ls st g := fun H locs la hw hS hl => lv_goto C.1 C.2.1 hd ht (kk H locs la hw hS hl)
theorem k_tabOut (C : kOk x cc own) {dflt lo hi : Int} {offs : Array Int} {len : Nat} {a : Int32} {tgt : Nat} (hd : decode cc pc = .ok (.tableswitch dflt lo hi offs, len)) (h : a.toInt < lo ∨ hi < a.toInt) (ht : (pc : Int) + dflt = (tgt : Int)) (kk : Wk wd A ad x n Q tgt ls st g) : Wk wd A ad x n Q pc ls (.inl a :: st) g := fun H locs la hw hS hl => lv_tableOut C.1 C.2.1 hd h ht (kk H locs la hw hS hl)
theorem k_tabIn (C : kOk x cc own) {dflt lo hi : Int} {offs : Array Int} {len : Nat} {a : Int32} {off : Int} {tgt : Nat} (hd : decode cc pc = .ok (.tableswitch dflt lo hi offs, len)) (h1 : ¬ a.toInt < lo) (h2 : ¬ hi < a.toInt) (ho : offs[(a.toInt - lo).toNat]? = some off) (ht : (pc : Int) + off = (tgt : Int)) (kk : Wk wd A ad x n Q tgt ls st g) : Wk wd A ad x n Q pc ls (.inl a :: st) g := fun H locs la hw hS hl => lv_tableIn C.1 C.2.1 hd h1 h2 ho ht (kk H locs la hw hS hl)
/-- a number or a state gets a name -/
theorem k_top {a : kV} (kk : ∀ b : kV, b = a → Wk wd A ad x n Q pc ls (b :: st) g) : Wk wd A ad x n Q pc ls (a :: st) g := kk a rfl
theorem k_topi {a : Int32} (kk : ∀ b : Int32, b = a → Wk wd A ad x n Q pc ls (.inl b :: st) g) : Wk wd A ad x n Q pc ls (.inl a :: st) g := kk a rfl
theorem k_topl {a : Int64} (kk : ∀ b : Int64, b = a → Wk wd A ad x n Q pc ls (.inr (.inl b) :: st) g) : Wk wd A ad x n Q pc ls (.inr (.inl a) :: st) g := kk a rfl
theorem k_g {g2 : S} (e : g = g2) (kk : Wk wd A ad x n Q pc ls st g2) : Wk wd A ad x n Q pc ls st g := e ▸ kk
end KR
end
section
/-! classes, fields, methods: names (by program) -/
def R_A : String := "DynamicNeeds$Action"
def T_A : u_T := fun k => match k with
  | 0 => ("DynamicNeeds$Action", "kinds", "[I", true)
  | 1 => ("DynamicNeeds$Action", "targets", "[I", true)
  | 2 => ("DynamicNeeds$Action", "rowCount", "I", false)
  | 3 => ("DynamicNeeds$Action", "allowed", "I", false)
  | 4 => ("DynamicNeeds$Action", "made", "I", false)
  | 5 => ("DynamicNeeds$Action", "notes", "LDynamicNeeds$Notes;", true)
  | 6 => ("DynamicNeeds$Action", "hasKept", "Z", false)
  | 7 => ("DynamicNeeds$Action", "outcome", "I", false)
  | 8 => ("DynamicNeeds$Action", "sum", "J", false)
  | 9 => ("DynamicNeeds$Action", "waitsFor", "I", false)
  | 10 => ("DynamicNeeds$Action", "reused", "I", false)
  | 11 => ("DynamicNeeds$Action", "triesInAll", "I", false)
  | _ => ("DynamicNeeds$Action", "triesSince", "I", false)
def t_A : Nat → FieldType := fun k => match k with
  | 0 => .array (.int)
  | 1 => .array (.int)
  | 2 => .int
  | 3 => .int
  | 4 => .int
  | 5 => .object "DynamicNeeds$Notes"
  | 6 => .boolean
  | 7 => .int
  | 8 => .long
  | 9 => .int
  | 10 => .int
  | 11 => .int
  | _ => .int
theorem n_A : ∀ a, a < 13 → ∀ b, b < 13 → a ≠ b → (T_A a).2.1 ≠ (T_A b).2.1 := by decide +kernel
theorem t_A_ok : ∀ k, k < 13 → parseFieldDescriptor (T_A k).2.2.1 = some (t_A k) := by decide +kernel
theorem i_A : ∀ w ∈ u_ws R_A T_A 13, w ∈ lw_tbl ∧ goodWord w = true := by decide +kernel
def R_F : String := "DynamicNeeds$FileState"
def T_F : u_T := fun k => match k with
  | 0 => ("DynamicNeeds$FileState", "there", "Z", false)
  | 1 => ("DynamicNeeds$FileState", "digest", "J", false)
  | _ => ("DynamicNeeds$FileState", "maker", "I", false)
def t_F : Nat → FieldType := fun k => match k with
  | 0 => .boolean
  | 1 => .long
  | _ => .int
theorem n_F : ∀ a, a < 3 → ∀ b, b < 3 → a ≠ b → (T_F a).2.1 ≠ (T_F b).2.1 := by decide +kernel
theorem t_F_ok : ∀ k, k < 3 → parseFieldDescriptor (T_F k).2.2.1 = some (t_F k) := by decide +kernel
theorem i_F : ∀ w ∈ u_ws R_F T_F 3, w ∈ lw_tbl ∧ goodWord w = true := by decide +kernel
def R_G : String := "DynamicNeeds$Mapping"
def T_G : u_T := fun k => match k with
  | 0 => ("DynamicNeeds$Mapping", "file", "I", false)
  | 1 => ("DynamicNeeds$Mapping", "salt", "J", false)
  | 2 => ("DynamicNeeds$Mapping", "treeDigest", "J", false)
  | _ => ("DynamicNeeds$Mapping", "size", "I", false)
def t_G : Nat → FieldType := fun k => match k with
  | 0 => .int
  | 1 => .long
  | 2 => .long
  | _ => .int
theorem n_G : ∀ a, a < 4 → ∀ b, b < 4 → a ≠ b → (T_G a).2.1 ≠ (T_G b).2.1 := by decide +kernel
theorem t_G_ok : ∀ k, k < 4 → parseFieldDescriptor (T_G k).2.2.1 = some (t_G k) := by decide +kernel
theorem i_G : ∀ w ∈ u_ws R_G T_G 4, w ∈ lw_tbl ∧ goodWord w = true := by decide +kernel
def R_N : String := "DynamicNeeds$Notes"
def T_N : u_T := fun k => match k with
  | 0 => ("DynamicNeeds$Notes", "numbers", "[I", true)
  | 1 => ("DynamicNeeds$Notes", "there", "[Z", true)
  | 2 => ("DynamicNeeds$Notes", "wasRead", "[Z", true)
  | 3 => ("DynamicNeeds$Notes", "digests", "[J", true)
  | _ => ("DynamicNeeds$Notes", "count", "I", false)
def t_N : Nat → FieldType := fun k => match k with
  | 0 => .array (.int)
  | 1 => .array (.boolean)
  | 2 => .array (.boolean)
  | 3 => .array (.long)
  | _ => .int
theorem n_N : ∀ a, a < 5 → ∀ b, b < 5 → a ≠ b → (T_N a).2.1 ≠ (T_N b).2.1 := by decide +kernel
theorem t_N_ok : ∀ k, k < 5 → parseFieldDescriptor (T_N k).2.2.1 = some (t_N k) := by decide +kernel
theorem i_N : ∀ w ∈ u_ws R_N T_N 5, w ∈ lw_tbl ∧ goodWord w = true := by decide +kernel
def R_X : String := "DynamicNeeds"
def T_X : u_T := fun k => match k with
  | 0 => ("DynamicNeeds", "triesEach", "I", true)
  | 1 => ("DynamicNeeds", "files", "[LDynamicNeeds$FileState;", true)
  | 2 => ("DynamicNeeds", "actions", "[LDynamicNeeds$Action;", true)
  | 3 => ("DynamicNeeds", "mappings", "[LDynamicNeeds$Mapping;", true)
  | 4 => ("DynamicNeeds", "fileCount", "I", false)
  | 5 => ("DynamicNeeds", "actionCount", "I", false)
  | 6 => ("DynamicNeeds", "mappingCount", "I", false)
  | 7 => ("DynamicNeeds", "way", "[I", true)
  | 8 => ("DynamicNeeds", "ringStart", "I", false)
  | _ => ("DynamicNeeds", "ringLength", "I", false)
def t_X : Nat → FieldType := fun k => match k with
  | 0 => .int
  | 1 => .array (.object "DynamicNeeds$FileState")
  | 2 => .array (.object "DynamicNeeds$Action")
  | 3 => .array (.object "DynamicNeeds$Mapping")
  | 4 => .int
  | 5 => .int
  | 6 => .int
  | 7 => .array (.int)
  | 8 => .int
  | _ => .int
theorem n_X : ∀ a, a < 10 → ∀ b, b < 10 → a ≠ b → (T_X a).2.1 ≠ (T_X b).2.1 := by decide +kernel
theorem t_X_ok : ∀ k, k < 10 → parseFieldDescriptor (T_X k).2.2.1 = some (t_X k) := by decide +kernel
theorem i_X : ∀ w ∈ u_ws R_X T_X 10, w ∈ lw_tbl ∧ goodWord w = true := by decide +kernel
def R_M : String := "DynamicNeedsModel"
def T_M : u_T := fun k => match k with
  | 0 => ("DynamicNeedsModel", "triesMost", "I", true)
  | 1 => ("DynamicNeedsModel", "code", "I", false)
  | 2 => ("DynamicNeedsModel", "files", "I", false)
  | 3 => ("DynamicNeedsModel", "actions", "I", false)
  | 4 => ("DynamicNeedsModel", "mappings", "I", false)
  | 5 => ("DynamicNeedsModel", "isThere", "[Z", true)
  | 6 => ("DynamicNeedsModel", "digest", "[J", true)
  | 7 => ("DynamicNeedsModel", "maker", "[I", true)
  | 8 => ("DynamicNeedsModel", "allowed", "[I", true)
  | 9 => ("DynamicNeedsModel", "makes", "[I", true)
  | 10 => ("DynamicNeedsModel", "rowMany", "[I", true)
  | 11 => ("DynamicNeedsModel", "rowKind", "[I", true)
  | 12 => ("DynamicNeedsModel", "rowWhich", "[I", true)
  | 13 => ("DynamicNeedsModel", "outcome", "[I", true)
  | 14 => ("DynamicNeedsModel", "noted", "[I", true)
  | 15 => ("DynamicNeedsModel", "notedFile", "[I", true)
  | 16 => ("DynamicNeedsModel", "reused", "[I", true)
  | 17 => ("DynamicNeedsModel", "tried", "[I", true)
  | 18 => ("DynamicNeedsModel", "tries", "[I", true)
  | 19 => ("DynamicNeedsModel", "waited", "[I", true)
  | 20 => ("DynamicNeedsModel", "notedThere", "[Z", true)
  | 21 => ("DynamicNeedsModel", "notedRead", "[Z", true)
  | 22 => ("DynamicNeedsModel", "isFresh", "[Z", true)
  | 23 => ("DynamicNeedsModel", "notedDigest", "[J", true)
  | 24 => ("DynamicNeedsModel", "ring", "[I", true)
  | 25 => ("DynamicNeedsModel", "way", "[I", true)
  | 26 => ("DynamicNeedsModel", "ringMany", "I", false)
  | 27 => ("DynamicNeedsModel", "mapFile", "[I", true)
  | 28 => ("DynamicNeedsModel", "mapMany", "[I", true)
  | 29 => ("DynamicNeedsModel", "salt", "[J", true)
  | 30 => ("DynamicNeedsModel", "mapDigest", "[J", true)
  | 31 => ("DynamicNeedsModel", "mapResult", "[J", true)
  | 32 => ("DynamicNeedsModel", "sum", "J", false)
  | _ => ("DynamicNeedsModel", "last", "J", false)
def t_M : Nat → FieldType := fun k => match k with
  | 0 => .int
  | 1 => .int
  | 2 => .int
  | 3 => .int
  | 4 => .int
  | 5 => .array (.boolean)
  | 6 => .array (.long)
  | 7 => .array (.int)
  | 8 => .array (.int)
  | 9 => .array (.int)
  | 10 => .array (.int)
  | 11 => .array (.int)
  | 12 => .array (.int)
  | 13 => .array (.int)
  | 14 => .array (.int)
  | 15 => .array (.int)
  | 16 => .array (.int)
  | 17 => .array (.int)
  | 18 => .array (.int)
  | 19 => .array (.int)
  | 20 => .array (.boolean)
  | 21 => .array (.boolean)
  | 22 => .array (.boolean)
  | 23 => .array (.long)
  | 24 => .array (.int)
  | 25 => .array (.int)
  | 26 => .int
  | 27 => .array (.int)
  | 28 => .array (.int)
  | 29 => .array (.long)
  | 30 => .array (.long)
  | 31 => .array (.long)
  | 32 => .long
  | _ => .long
theorem n_M : ∀ a, a < 34 → ∀ b, b < 34 → a ≠ b → (T_M a).2.1 ≠ (T_M b).2.1 := by decide +kernel
theorem t_M_ok : ∀ k, k < 34 → parseFieldDescriptor (T_M k).2.2.1 = some (t_M k) := by decide +kernel
theorem i_M : ∀ w ∈ u_ws R_M T_M 34, w ∈ lw_tbl ∧ goodWord w = true := by decide +kernel
abbrev kCl : List vw_C := [(R_A, T_A, 13), (R_F, T_F, 3), (R_G, T_G, 4), (R_N, T_N, 5), (R_X, T_X, 10), (R_M, T_M, 34)]
abbrev b_X_init : ByteArray := prog_1_method_1_code
def y_X_init : MethodName := ⟨"DynamicNeeds", "<init>", "(I)V"⟩
abbrev b_J_min : ByteArray := prog_8_method_69_code
def y_J_min : MethodName := ⟨"java/lang/Math", "min", "(II)I"⟩
abbrev b_J_max : ByteArray := prog_8_method_65_code
def y_J_max : MethodName := ⟨"java/lang/Math", "max", "(II)I"⟩
abbrev b_F_init : ByteArray := prog_3_method_1_code
def y_F_init : MethodName := ⟨"DynamicNeeds$FileState", "<init>", "()V"⟩
abbrev b_A_init : ByteArray := prog_2_method_1_code
def y_A_init : MethodName := ⟨"DynamicNeeds$Action", "<init>", "()V"⟩
abbrev b_N_init : ByteArray := prog_5_method_1_code
def y_N_init : MethodName := ⟨"DynamicNeeds$Notes", "<init>", "()V"⟩
abbrev b_G_init : ByteArray := prog_4_method_1_code
def y_G_init : MethodName := ⟨"DynamicNeeds$Mapping", "<init>", "()V"⟩
abbrev b_X_file : ByteArray := prog_1_method_2_code
def y_X_file : MethodName := ⟨"DynamicNeeds", "file", "(J)I"⟩
abbrev b_F_put : ByteArray := prog_3_method_2_code
def y_F_put : MethodName := ⟨"DynamicNeeds$FileState", "put", "(J)V"⟩
abbrev b_X_change : ByteArray := prog_1_method_3_code
def y_X_change : MethodName := ⟨"DynamicNeeds", "change", "(IZJ)Z"⟩
abbrev b_X_isFile : ByteArray := prog_1_method_20_code
def y_X_isFile : MethodName := ⟨"DynamicNeeds", "isFile", "(I)Z"⟩
abbrev b_F_isMade : ByteArray := prog_3_method_4_code
def y_F_isMade : MethodName := ⟨"DynamicNeeds$FileState", "isMade", "()Z"⟩
abbrev b_F_remove : ByteArray := prog_3_method_3_code
def y_F_remove : MethodName := ⟨"DynamicNeeds$FileState", "remove", "()V"⟩
abbrev b_X_action : ByteArray := prog_1_method_4_code
def y_X_action : MethodName := ⟨"DynamicNeeds", "action", "(I)I"⟩
abbrev b_X_makes : ByteArray := prog_1_method_5_code
def y_X_makes : MethodName := ⟨"DynamicNeeds", "makes", "(II)Z"⟩
abbrev b_X_isAction : ByteArray := prog_1_method_21_code
def y_X_isAction : MethodName := ⟨"DynamicNeeds", "isAction", "(I)Z"⟩
abbrev b_A_forget : ByteArray := prog_2_method_4_code
def y_A_forget : MethodName := ⟨"DynamicNeeds$Action", "forget", "()V"⟩
abbrev b_X_row : ByteArray := prog_1_method_6_code
def y_X_row : MethodName := ⟨"DynamicNeeds", "row", "(III)Z"⟩
abbrev b_X_isRow : ByteArray := prog_1_method_23_code
def y_X_isRow : MethodName := ⟨"DynamicNeeds", "isRow", "(II)Z"⟩
abbrev b_A_addRow : ByteArray := prog_2_method_2_code
def y_A_addRow : MethodName := ⟨"DynamicNeeds$Action", "addRow", "(II)Z"⟩
abbrev b_X_run : ByteArray := prog_1_method_7_code
def y_X_run : MethodName := ⟨"DynamicNeeds", "run", "(I)I"⟩
abbrev b_X_runOnce : ByteArray := prog_1_method_24_code
def y_X_runOnce : MethodName := ⟨"DynamicNeeds", "runOnce", "(I)I"⟩
abbrev b_X_freshActions : ByteArray := prog_1_method_29_code
def y_X_freshActions : MethodName := ⟨"DynamicNeeds", "freshActions", "()I"⟩
abbrev b_X_holds : ByteArray := prog_1_method_30_code
def y_X_holds : MethodName := ⟨"DynamicNeeds", "holds", "(LDynamicNeeds$Action;I)Z"⟩
abbrev b_N_isLike : ByteArray := prog_5_method_4_code
def y_N_isLike : MethodName := ⟨"DynamicNeeds$Notes", "isLike", "(ILDynamicNeeds$FileState;)Z"⟩
abbrev b_X_isFresh : ByteArray := prog_1_method_31_code
def y_X_isFresh : MethodName := ⟨"DynamicNeeds", "isFresh", "(LDynamicNeeds$FileState;I)Z"⟩
abbrev b_X_hasBit : ByteArray := prog_1_method_32_code
def y_X_hasBit : MethodName := ⟨"DynamicNeeds", "hasBit", "(II)Z"⟩
abbrev b_X_tryOnce : ByteArray := prog_1_method_25_code
def y_X_tryOnce : MethodName := ⟨"DynamicNeeds", "tryOnce", "(LDynamicNeeds$Action;I)I"⟩
abbrev b_X_goThroughRows : ByteArray := prog_1_method_27_code
def y_X_goThroughRows : MethodName := ⟨"DynamicNeeds", "goThroughRows", "(LDynamicNeeds$Action;I)I"⟩
abbrev b_X_lookAt : ByteArray := prog_1_method_28_code
def y_X_lookAt : MethodName := ⟨"DynamicNeeds", "lookAt", "(LDynamicNeeds$Action;ZII)I"⟩
abbrev b_N_add : ByteArray := prog_5_method_2_code
def y_N_add : MethodName := ⟨"DynamicNeeds$Notes", "add", "(ILDynamicNeeds$FileState;Z)V"⟩
abbrev b_N_placeOf : ByteArray := prog_5_method_3_code
def y_N_placeOf : MethodName := ⟨"DynamicNeeds$Notes", "placeOf", "(I)I"⟩
abbrev b_A_addToSum : ByteArray := prog_2_method_3_code
def y_A_addToSum : MethodName := ⟨"DynamicNeeds$Action", "addToSum", "(J)V"⟩
abbrev b_X_keep : ByteArray := prog_1_method_26_code
def y_X_keep : MethodName := ⟨"DynamicNeeds", "keep", "(LDynamicNeeds$Action;I)V"⟩
abbrev b_X_resolve : ByteArray := prog_1_method_8_code
def y_X_resolve : MethodName := ⟨"DynamicNeeds", "resolve", "(I)I"⟩
abbrev b_X_tellRing : ByteArray := prog_1_method_33_code
def y_X_tellRing : MethodName := ⟨"DynamicNeeds", "tellRing", "(II)Z"⟩
abbrev b_X_ring : ByteArray := prog_1_method_9_code
def y_X_ring : MethodName := ⟨"DynamicNeeds", "ring", "(I)I"⟩
abbrev b_X_waits : ByteArray := prog_1_method_10_code
def y_X_waits : MethodName := ⟨"DynamicNeeds", "waits", "(I)I"⟩
abbrev b_X_fresh : ByteArray := prog_1_method_11_code
def y_X_fresh : MethodName := ⟨"DynamicNeeds", "fresh", "(I)Z"⟩
abbrev b_X_kept : ByteArray := prog_1_method_12_code
def y_X_kept : MethodName := ⟨"DynamicNeeds", "kept", "(III)I"⟩
abbrev b_N_tell : ByteArray := prog_5_method_6_code
def y_N_tell : MethodName := ⟨"DynamicNeeds$Notes", "tell", "(II)I"⟩
abbrev b_X_unused : ByteArray := prog_1_method_13_code
def y_X_unused : MethodName := ⟨"DynamicNeeds", "unused", "(I)I"⟩
abbrev b_N_fileBits : ByteArray := prog_5_method_5_code
def y_N_fileBits : MethodName := ⟨"DynamicNeeds$Notes", "fileBits", "()I"⟩
abbrev b_X_digest : ByteArray := prog_1_method_14_code
def y_X_digest : MethodName := ⟨"DynamicNeeds", "digest", "(I)J"⟩
abbrev b_X_counted : ByteArray := prog_1_method_15_code
def y_X_counted : MethodName := ⟨"DynamicNeeds", "counted", "(II)I"⟩
abbrev b_X_members : ByteArray := prog_1_method_16_code
def y_X_members : MethodName := ⟨"DynamicNeeds", "members", "(I)I"⟩
abbrev b_X_treeSize : ByteArray := prog_1_method_34_code
def y_X_treeSize : MethodName := ⟨"DynamicNeeds", "treeSize", "(LDynamicNeeds$FileState;)I"⟩
abbrev b_J_floorMod : ByteArray := prog_8_method_52_code
def y_J_floorMod : MethodName := ⟨"java/lang/Math", "floorMod", "(JJ)J"⟩
abbrev b_X_mapping : ByteArray := prog_1_method_17_code
def y_X_mapping : MethodName := ⟨"DynamicNeeds", "mapping", "(IJ)I"⟩
abbrev b_X_map : ByteArray := prog_1_method_18_code
def y_X_map : MethodName := ⟨"DynamicNeeds", "map", "(I)I"⟩
abbrev b_X_isMapping : ByteArray := prog_1_method_22_code
def y_X_isMapping : MethodName := ⟨"DynamicNeeds", "isMapping", "(I)Z"⟩
abbrev b_G_take : ByteArray := prog_4_method_2_code
def y_G_take : MethodName := ⟨"DynamicNeeds$Mapping", "take", "(JI)I"⟩
abbrev b_X_memberDigest : ByteArray := prog_1_method_35_code
def y_X_memberDigest : MethodName := ⟨"DynamicNeeds", "memberDigest", "(JI)J"⟩
abbrev b_G_hasMember : ByteArray := prog_4_method_3_code
def y_G_hasMember : MethodName := ⟨"DynamicNeeds$Mapping", "hasMember", "(J)Z"⟩
abbrev b_X_result : ByteArray := prog_1_method_19_code
def y_X_result : MethodName := ⟨"DynamicNeeds", "result", "(II)J"⟩
abbrev b_G_resultOf : ByteArray := prog_4_method_4_code
def y_G_resultOf : MethodName := ⟨"DynamicNeeds$Mapping", "resultOf", "(I)J"⟩
abbrev b_L_cell : ByteArray := method_2_code
def y_L_cell : MethodName := ⟨"DynamicNeedsLaw", "cell", "([II)I"⟩
abbrev b_M_init : ByteArray := prog_7_method_1_code
def y_M_init : MethodName := ⟨"DynamicNeedsModel", "<init>", "(I)V"⟩
abbrev b_M_file : ByteArray := prog_7_method_5_code
def y_M_file : MethodName := ⟨"DynamicNeedsModel", "file", "(J)I"⟩
abbrev b_M_change : ByteArray := prog_7_method_6_code
def y_M_change : MethodName := ⟨"DynamicNeedsModel", "change", "(IZJ)Z"⟩
abbrev b_M_isFile : ByteArray := prog_7_method_3_code
def y_M_isFile : MethodName := ⟨"DynamicNeedsModel", "isFile", "(I)Z"⟩
abbrev b_M_action : ByteArray := prog_7_method_7_code
def y_M_action : MethodName := ⟨"DynamicNeedsModel", "action", "(I)I"⟩
abbrev b_M_makes : ByteArray := prog_7_method_9_code
def y_M_makes : MethodName := ⟨"DynamicNeedsModel", "makes", "(II)Z"⟩
abbrev b_M_isAction : ByteArray := prog_7_method_4_code
def y_M_isAction : MethodName := ⟨"DynamicNeedsModel", "isAction", "(I)Z"⟩
abbrev b_M_forget : ByteArray := prog_7_method_8_code
def y_M_forget : MethodName := ⟨"DynamicNeedsModel", "forget", "(I)V"⟩
abbrev b_M_row : ByteArray := prog_7_method_10_code
def y_M_row : MethodName := ⟨"DynamicNeedsModel", "row", "(III)Z"⟩
abbrev b_M_run : ByteArray := prog_7_method_18_code
def y_M_run : MethodName := ⟨"DynamicNeedsModel", "run", "(I)I"⟩
abbrev b_M_runOne : ByteArray := prog_7_method_17_code
def y_M_runOne : MethodName := ⟨"DynamicNeedsModel", "runOne", "(I)I"⟩
abbrev b_M_isFreshNow : ByteArray := prog_7_method_13_code
def y_M_isFreshNow : MethodName := ⟨"DynamicNeedsModel", "isFreshNow", "(I)Z"⟩
abbrev b_M_freshen : ByteArray := prog_7_method_12_code
def y_M_freshen : MethodName := ⟨"DynamicNeedsModel", "freshen", "()V"⟩
abbrev b_M_isSo : ByteArray := prog_7_method_11_code
def y_M_isSo : MethodName := ⟨"DynamicNeedsModel", "isSo", "(I)Z"⟩
abbrev b_M_tryRows : ByteArray := prog_7_method_16_code
def y_M_tryRows : MethodName := ⟨"DynamicNeedsModel", "tryRows", "(I)I"⟩
abbrev b_M_look : ByteArray := prog_7_method_15_code
def y_M_look : MethodName := ⟨"DynamicNeedsModel", "look", "(III)I"⟩
abbrev b_M_note : ByteArray := prog_7_method_14_code
def y_M_note : MethodName := ⟨"DynamicNeedsModel", "note", "(IIZ)V"⟩
abbrev b_M_resolve : ByteArray := prog_7_method_19_code
def y_M_resolve : MethodName := ⟨"DynamicNeedsModel", "resolve", "(I)I"⟩
abbrev b_M_tellRing : ByteArray := prog_7_method_20_code
def y_M_tellRing : MethodName := ⟨"DynamicNeedsModel", "tellRing", "(II)I"⟩
abbrev b_M_ring : ByteArray := prog_7_method_21_code
def y_M_ring : MethodName := ⟨"DynamicNeedsModel", "ring", "(I)I"⟩
abbrev b_M_waits : ByteArray := prog_7_method_22_code
def y_M_waits : MethodName := ⟨"DynamicNeedsModel", "waits", "(I)I"⟩
abbrev b_M_fresh : ByteArray := prog_7_method_23_code
def y_M_fresh : MethodName := ⟨"DynamicNeedsModel", "fresh", "(I)Z"⟩
abbrev b_M_kept : ByteArray := prog_7_method_24_code
def y_M_kept : MethodName := ⟨"DynamicNeedsModel", "kept", "(III)I"⟩
abbrev b_M_unused : ByteArray := prog_7_method_25_code
def y_M_unused : MethodName := ⟨"DynamicNeedsModel", "unused", "(I)I"⟩
abbrev b_M_digest : ByteArray := prog_7_method_26_code
def y_M_digest : MethodName := ⟨"DynamicNeedsModel", "digest", "(I)J"⟩
abbrev b_M_counted : ByteArray := prog_7_method_27_code
def y_M_counted : MethodName := ⟨"DynamicNeedsModel", "counted", "(II)I"⟩
abbrev b_M_members : ByteArray := prog_7_method_29_code
def y_M_members : MethodName := ⟨"DynamicNeedsModel", "members", "(I)I"⟩
abbrev b_M_membersOf : ByteArray := prog_7_method_28_code
def y_M_membersOf : MethodName := ⟨"DynamicNeedsModel", "membersOf", "(I)I"⟩
abbrev b_M_mapping : ByteArray := prog_7_method_30_code
def y_M_mapping : MethodName := ⟨"DynamicNeedsModel", "mapping", "(IJ)I"⟩
abbrev b_M_map : ByteArray := prog_7_method_33_code
def y_M_map : MethodName := ⟨"DynamicNeedsModel", "map", "(I)I"⟩
abbrev b_M_member : ByteArray := prog_7_method_31_code
def y_M_member : MethodName := ⟨"DynamicNeedsModel", "member", "(JI)J"⟩
abbrev b_M_isMapped : ByteArray := prog_7_method_32_code
def y_M_isMapped : MethodName := ⟨"DynamicNeedsModel", "isMapped", "(IJ)Z"⟩
abbrev b_M_result : ByteArray := prog_7_method_34_code
def y_M_result : MethodName := ⟨"DynamicNeedsModel", "result", "(II)J"⟩
abbrev b_L_law : ByteArray := code
def y_L_law : MethodName := ⟨"DynamicNeedsLaw", "law", "([I)Z"⟩
end
section
/-! decode rows of the class (by program) -/
theorem d_X_init_0 : decode b_X_init 0 = .ok (.aload_n 0, 1) := by decide +kernel
theorem d_X_init_1 : decode b_X_init 1 = .ok (.invokespecial 1, 3) := by decide +kernel
theorem d_X_init_4 : decode b_X_init 4 = .ok (.aload_n 0, 1) := by decide +kernel
theorem d_X_init_5 : decode b_X_init 5 = .ok (.bipush 24, 2) := by decide +kernel
theorem d_X_init_7 : decode b_X_init 7 = .ok (.anewarray 9, 3) := by decide +kernel
theorem d_X_init_10 : decode b_X_init 10 = .ok (.putfield 11, 3) := by decide +kernel
theorem d_X_init_13 : decode b_X_init 13 = .ok (.aload_n 0, 1) := by decide +kernel
theorem d_X_init_14 : decode b_X_init 14 = .ok (.bipush 12, 2) := by decide +kernel
theorem d_X_init_16 : decode b_X_init 16 = .ok (.anewarray 15, 3) := by decide +kernel
theorem d_X_init_19 : decode b_X_init 19 = .ok (.putfield 17, 3) := by decide +kernel
theorem d_X_init_22 : decode b_X_init 22 = .ok (.aload_n 0, 1) := by decide +kernel
theorem d_X_init_23 : decode b_X_init 23 = .ok (.bipush 6, 2) := by decide +kernel
theorem d_X_init_25 : decode b_X_init 25 = .ok (.anewarray 21, 3) := by decide +kernel
theorem d_X_init_28 : decode b_X_init 28 = .ok (.putfield 23, 3) := by decide +kernel
theorem d_X_init_31 : decode b_X_init 31 = .ok (.aload_n 0, 1) := by decide +kernel
theorem d_X_init_32 : decode b_X_init 32 = .ok (.iconst 0, 1) := by decide +kernel
theorem d_X_init_33 : decode b_X_init 33 = .ok (.putfield 27, 3) := by decide +kernel
theorem d_X_init_36 : decode b_X_init 36 = .ok (.aload_n 0, 1) := by decide +kernel
theorem d_X_init_37 : decode b_X_init 37 = .ok (.iconst 0, 1) := by decide +kernel
theorem d_X_init_38 : decode b_X_init 38 = .ok (.putfield 31, 3) := by decide +kernel
theorem d_X_init_41 : decode b_X_init 41 = .ok (.aload_n 0, 1) := by decide +kernel
theorem d_X_init_42 : decode b_X_init 42 = .ok (.iconst 0, 1) := by decide +kernel
theorem d_X_init_43 : decode b_X_init 43 = .ok (.putfield 34, 3) := by decide +kernel
theorem d_X_init_46 : decode b_X_init 46 = .ok (.aload_n 0, 1) := by decide +kernel
theorem d_X_init_47 : decode b_X_init 47 = .ok (.bipush 13, 2) := by decide +kernel
theorem d_X_init_49 : decode b_X_init 49 = .ok (.newarray .int, 2) := by decide +kernel
theorem d_X_init_51 : decode b_X_init 51 = .ok (.putfield 37, 3) := by decide +kernel
theorem d_X_init_54 : decode b_X_init 54 = .ok (.aload_n 0, 1) := by decide +kernel
theorem d_X_init_55 : decode b_X_init 55 = .ok (.iconst 0, 1) := by decide +kernel
theorem d_X_init_56 : decode b_X_init 56 = .ok (.putfield 41, 3) := by decide +kernel
theorem d_X_init_59 : decode b_X_init 59 = .ok (.aload_n 0, 1) := by decide +kernel
theorem d_X_init_60 : decode b_X_init 60 = .ok (.iconst 0, 1) := by decide +kernel
theorem d_X_init_61 : decode b_X_init 61 = .ok (.putfield 44, 3) := by decide +kernel
theorem d_X_init_64 : decode b_X_init 64 = .ok (.aload_n 0, 1) := by decide +kernel
theorem d_X_init_65 : decode b_X_init 65 = .ok (.iconst 1, 1) := by decide +kernel
theorem d_X_init_66 : decode b_X_init 66 = .ok (.bipush 9, 2) := by decide +kernel
theorem d_X_init_68 : decode b_X_init 68 = .ok (.iload_n 1, 1) := by decide +kernel
theorem d_X_init_69 : decode b_X_init 69 = .ok (.invokestatic 47, 3) := by decide +kernel
theorem d_X_init_72 : decode b_X_init 72 = .ok (.invokestatic 53, 3) := by decide +kernel
theorem d_X_init_75 : decode b_X_init 75 = .ok (.putfield 56, 3) := by decide +kernel
theorem d_X_init_78 : decode b_X_init 78 = .ok (.iconst 0, 1) := by decide +kernel
theorem d_X_init_79 : decode b_X_init 79 = .ok (.istore_n 2, 1) := by decide +kernel
theorem d_X_init_80 : decode b_X_init 80 = .ok (.iload_n 2, 1) := by decide +kernel
theorem d_X_init_81 : decode b_X_init 81 = .ok (.bipush 24, 2) := by decide +kernel
theorem d_X_init_83 : decode b_X_init 83 = .ok (.if_icmp .ge 22, 3) := by decide +kernel
theorem d_X_init_86 : decode b_X_init 86 = .ok (.aload_n 0, 1) := by decide +kernel
theorem d_X_init_87 : decode b_X_init 87 = .ok (.getfield 11, 3) := by decide +kernel
theorem d_X_init_90 : decode b_X_init 90 = .ok (.iload_n 2, 1) := by decide +kernel
theorem d_X_init_91 : decode b_X_init 91 = .ok (.new 9, 3) := by decide +kernel
theorem d_X_init_94 : decode b_X_init 94 = .ok (.dup, 1) := by decide +kernel
theorem d_X_init_95 : decode b_X_init 95 = .ok (.invokespecial 59, 3) := by decide +kernel
theorem d_X_init_98 : decode b_X_init 98 = .ok (.aastore, 1) := by decide +kernel
theorem d_X_init_99 : decode b_X_init 99 = .ok (.iinc 2 1, 3) := by decide +kernel
theorem d_X_init_102 : decode b_X_init 102 = .ok (.goto (-22), 3) := by decide +kernel
theorem d_X_init_105 : decode b_X_init 105 = .ok (.iconst 0, 1) := by decide +kernel
theorem d_X_init_106 : decode b_X_init 106 = .ok (.istore_n 2, 1) := by decide +kernel
theorem d_X_init_107 : decode b_X_init 107 = .ok (.iload_n 2, 1) := by decide +kernel
theorem d_X_init_108 : decode b_X_init 108 = .ok (.bipush 12, 2) := by decide +kernel
theorem d_X_init_110 : decode b_X_init 110 = .ok (.if_icmp .ge 22, 3) := by decide +kernel
theorem d_X_init_113 : decode b_X_init 113 = .ok (.aload_n 0, 1) := by decide +kernel
theorem d_X_init_114 : decode b_X_init 114 = .ok (.getfield 17, 3) := by decide +kernel
theorem d_X_init_117 : decode b_X_init 117 = .ok (.iload_n 2, 1) := by decide +kernel
theorem d_X_init_118 : decode b_X_init 118 = .ok (.new 15, 3) := by decide +kernel
theorem d_X_init_121 : decode b_X_init 121 = .ok (.dup, 1) := by decide +kernel
theorem d_X_init_122 : decode b_X_init 122 = .ok (.invokespecial 60, 3) := by decide +kernel
theorem d_X_init_125 : decode b_X_init 125 = .ok (.aastore, 1) := by decide +kernel
theorem d_X_init_126 : decode b_X_init 126 = .ok (.iinc 2 1, 3) := by decide +kernel
theorem d_X_init_129 : decode b_X_init 129 = .ok (.goto (-22), 3) := by decide +kernel
theorem d_X_init_132 : decode b_X_init 132 = .ok (.iconst 0, 1) := by decide +kernel
theorem d_X_init_133 : decode b_X_init 133 = .ok (.istore_n 2, 1) := by decide +kernel
theorem d_X_init_134 : decode b_X_init 134 = .ok (.iload_n 2, 1) := by decide +kernel
theorem d_X_init_135 : decode b_X_init 135 = .ok (.bipush 6, 2) := by decide +kernel
theorem d_X_init_137 : decode b_X_init 137 = .ok (.if_icmp .ge 22, 3) := by decide +kernel
theorem d_X_init_140 : decode b_X_init 140 = .ok (.aload_n 0, 1) := by decide +kernel
theorem d_X_init_141 : decode b_X_init 141 = .ok (.getfield 23, 3) := by decide +kernel
theorem d_X_init_144 : decode b_X_init 144 = .ok (.iload_n 2, 1) := by decide +kernel
theorem d_X_init_145 : decode b_X_init 145 = .ok (.new 21, 3) := by decide +kernel
theorem d_X_init_148 : decode b_X_init 148 = .ok (.dup, 1) := by decide +kernel
theorem d_X_init_149 : decode b_X_init 149 = .ok (.invokespecial 61, 3) := by decide +kernel
theorem d_X_init_152 : decode b_X_init 152 = .ok (.aastore, 1) := by decide +kernel
theorem d_X_init_153 : decode b_X_init 153 = .ok (.iinc 2 1, 3) := by decide +kernel
theorem d_X_init_156 : decode b_X_init 156 = .ok (.goto (-22), 3) := by decide +kernel
theorem d_X_init_159 : decode b_X_init 159 = .ok (.return_, 1) := by decide +kernel
theorem d_J_min_0 : decode b_J_min 0 = .ok (.iload_n 0, 1) := by decide +kernel
theorem d_J_min_1 : decode b_J_min 1 = .ok (.iload_n 1, 1) := by decide +kernel
theorem d_J_min_2 : decode b_J_min 2 = .ok (.if_icmp .gt 7, 3) := by decide +kernel
theorem d_J_min_5 : decode b_J_min 5 = .ok (.iload_n 0, 1) := by decide +kernel
theorem d_J_min_6 : decode b_J_min 6 = .ok (.goto 4, 3) := by decide +kernel
theorem d_J_min_9 : decode b_J_min 9 = .ok (.iload_n 1, 1) := by decide +kernel
theorem d_J_min_10 : decode b_J_min 10 = .ok (.ireturn, 1) := by decide +kernel
theorem d_J_max_0 : decode b_J_max 0 = .ok (.iload_n 0, 1) := by decide +kernel
theorem d_J_max_1 : decode b_J_max 1 = .ok (.iload_n 1, 1) := by decide +kernel
theorem d_J_max_2 : decode b_J_max 2 = .ok (.if_icmp .lt 7, 3) := by decide +kernel
theorem d_J_max_5 : decode b_J_max 5 = .ok (.iload_n 0, 1) := by decide +kernel
theorem d_J_max_6 : decode b_J_max 6 = .ok (.goto 4, 3) := by decide +kernel
theorem d_J_max_9 : decode b_J_max 9 = .ok (.iload_n 1, 1) := by decide +kernel
theorem d_J_max_10 : decode b_J_max 10 = .ok (.ireturn, 1) := by decide +kernel
theorem d_F_init_0 : decode b_F_init 0 = .ok (.aload_n 0, 1) := by decide +kernel
theorem d_F_init_1 : decode b_F_init 1 = .ok (.invokespecial 3, 3) := by decide +kernel
theorem d_F_init_4 : decode b_F_init 4 = .ok (.aload_n 0, 1) := by decide +kernel
theorem d_F_init_5 : decode b_F_init 5 = .ok (.iconst 0, 1) := by decide +kernel
theorem d_F_init_6 : decode b_F_init 6 = .ok (.putfield 9, 3) := by decide +kernel
theorem d_F_init_9 : decode b_F_init 9 = .ok (.aload_n 0, 1) := by decide +kernel
theorem d_F_init_10 : decode b_F_init 10 = .ok (.lconst 0, 1) := by decide +kernel
theorem d_F_init_11 : decode b_F_init 11 = .ok (.putfield 15, 3) := by decide +kernel
theorem d_F_init_14 : decode b_F_init 14 = .ok (.aload_n 0, 1) := by decide +kernel
theorem d_F_init_15 : decode b_F_init 15 = .ok (.iconst (-1), 1) := by decide +kernel
theorem d_F_init_16 : decode b_F_init 16 = .ok (.putfield 19, 3) := by decide +kernel
theorem d_F_init_19 : decode b_F_init 19 = .ok (.return_, 1) := by decide +kernel
theorem d_A_init_0 : decode b_A_init 0 = .ok (.aload_n 0, 1) := by decide +kernel
theorem d_A_init_1 : decode b_A_init 1 = .ok (.invokespecial 3, 3) := by decide +kernel
theorem d_A_init_4 : decode b_A_init 4 = .ok (.aload_n 0, 1) := by decide +kernel
theorem d_A_init_5 : decode b_A_init 5 = .ok (.bipush 12, 2) := by decide +kernel
theorem d_A_init_7 : decode b_A_init 7 = .ok (.newarray .int, 2) := by decide +kernel
theorem d_A_init_9 : decode b_A_init 9 = .ok (.putfield 9, 3) := by decide +kernel
theorem d_A_init_12 : decode b_A_init 12 = .ok (.aload_n 0, 1) := by decide +kernel
theorem d_A_init_13 : decode b_A_init 13 = .ok (.bipush 12, 2) := by decide +kernel
theorem d_A_init_15 : decode b_A_init 15 = .ok (.newarray .int, 2) := by decide +kernel
theorem d_A_init_17 : decode b_A_init 17 = .ok (.putfield 15, 3) := by decide +kernel
theorem d_A_init_20 : decode b_A_init 20 = .ok (.aload_n 0, 1) := by decide +kernel
theorem d_A_init_21 : decode b_A_init 21 = .ok (.iconst 0, 1) := by decide +kernel
theorem d_A_init_22 : decode b_A_init 22 = .ok (.putfield 18, 3) := by decide +kernel
theorem d_A_init_25 : decode b_A_init 25 = .ok (.aload_n 0, 1) := by decide +kernel
theorem d_A_init_26 : decode b_A_init 26 = .ok (.iconst 0, 1) := by decide +kernel
theorem d_A_init_27 : decode b_A_init 27 = .ok (.putfield 22, 3) := by decide +kernel
theorem d_A_init_30 : decode b_A_init 30 = .ok (.aload_n 0, 1) := by decide +kernel
theorem d_A_init_31 : decode b_A_init 31 = .ok (.iconst (-1), 1) := by decide +kernel
theorem d_A_init_32 : decode b_A_init 32 = .ok (.putfield 25, 3) := by decide +kernel
theorem d_A_init_35 : decode b_A_init 35 = .ok (.aload_n 0, 1) := by decide +kernel
theorem d_A_init_36 : decode b_A_init 36 = .ok (.new 28, 3) := by decide +kernel
theorem d_A_init_39 : decode b_A_init 39 = .ok (.dup, 1) := by decide +kernel
theorem d_A_init_40 : decode b_A_init 40 = .ok (.invokespecial 30, 3) := by decide +kernel
theorem d_A_init_43 : decode b_A_init 43 = .ok (.putfield 31, 3) := by decide +kernel
theorem d_A_init_46 : decode b_A_init 46 = .ok (.aload_n 0, 1) := by decide +kernel
theorem d_A_init_47 : decode b_A_init 47 = .ok (.iconst 0, 1) := by decide +kernel
theorem d_A_init_48 : decode b_A_init 48 = .ok (.putfield 35, 3) := by decide +kernel
theorem d_A_init_51 : decode b_A_init 51 = .ok (.aload_n 0, 1) := by decide +kernel
theorem d_A_init_52 : decode b_A_init 52 = .ok (.iconst 0, 1) := by decide +kernel
theorem d_A_init_53 : decode b_A_init 53 = .ok (.putfield 39, 3) := by decide +kernel
theorem d_A_init_56 : decode b_A_init 56 = .ok (.aload_n 0, 1) := by decide +kernel
theorem d_A_init_57 : decode b_A_init 57 = .ok (.lconst 0, 1) := by decide +kernel
theorem d_A_init_58 : decode b_A_init 58 = .ok (.putfield 42, 3) := by decide +kernel
theorem d_A_init_61 : decode b_A_init 61 = .ok (.aload_n 0, 1) := by decide +kernel
theorem d_A_init_62 : decode b_A_init 62 = .ok (.iconst (-1), 1) := by decide +kernel
theorem d_A_init_63 : decode b_A_init 63 = .ok (.putfield 46, 3) := by decide +kernel
theorem d_A_init_66 : decode b_A_init 66 = .ok (.aload_n 0, 1) := by decide +kernel
theorem d_A_init_67 : decode b_A_init 67 = .ok (.iconst 0, 1) := by decide +kernel
theorem d_A_init_68 : decode b_A_init 68 = .ok (.putfield 49, 3) := by decide +kernel
theorem d_A_init_71 : decode b_A_init 71 = .ok (.aload_n 0, 1) := by decide +kernel
theorem d_A_init_72 : decode b_A_init 72 = .ok (.iconst 0, 1) := by decide +kernel
theorem d_A_init_73 : decode b_A_init 73 = .ok (.putfield 52, 3) := by decide +kernel
theorem d_A_init_76 : decode b_A_init 76 = .ok (.aload_n 0, 1) := by decide +kernel
theorem d_A_init_77 : decode b_A_init 77 = .ok (.iconst 0, 1) := by decide +kernel
theorem d_A_init_78 : decode b_A_init 78 = .ok (.putfield 55, 3) := by decide +kernel
theorem d_A_init_81 : decode b_A_init 81 = .ok (.return_, 1) := by decide +kernel
theorem d_N_init_0 : decode b_N_init 0 = .ok (.aload_n 0, 1) := by decide +kernel
theorem d_N_init_1 : decode b_N_init 1 = .ok (.invokespecial 3, 3) := by decide +kernel
theorem d_N_init_4 : decode b_N_init 4 = .ok (.aload_n 0, 1) := by decide +kernel
theorem d_N_init_5 : decode b_N_init 5 = .ok (.bipush 12, 2) := by decide +kernel
theorem d_N_init_7 : decode b_N_init 7 = .ok (.newarray .int, 2) := by decide +kernel
theorem d_N_init_9 : decode b_N_init 9 = .ok (.putfield 9, 3) := by decide +kernel
theorem d_N_init_12 : decode b_N_init 12 = .ok (.aload_n 0, 1) := by decide +kernel
theorem d_N_init_13 : decode b_N_init 13 = .ok (.bipush 12, 2) := by decide +kernel
theorem d_N_init_15 : decode b_N_init 15 = .ok (.newarray .boolean, 2) := by decide +kernel
theorem d_N_init_17 : decode b_N_init 17 = .ok (.putfield 15, 3) := by decide +kernel
theorem d_N_init_20 : decode b_N_init 20 = .ok (.aload_n 0, 1) := by decide +kernel
theorem d_N_init_21 : decode b_N_init 21 = .ok (.bipush 12, 2) := by decide +kernel
theorem d_N_init_23 : decode b_N_init 23 = .ok (.newarray .boolean, 2) := by decide +kernel
theorem d_N_init_25 : decode b_N_init 25 = .ok (.putfield 19, 3) := by decide +kernel
theorem d_N_init_28 : decode b_N_init 28 = .ok (.aload_n 0, 1) := by decide +kernel
theorem d_N_init_29 : decode b_N_init 29 = .ok (.bipush 12, 2) := by decide +kernel
theorem d_N_init_31 : decode b_N_init 31 = .ok (.newarray .long, 2) := by decide +kernel
theorem d_N_init_33 : decode b_N_init 33 = .ok (.putfield 22, 3) := by decide +kernel
theorem d_N_init_36 : decode b_N_init 36 = .ok (.aload_n 0, 1) := by decide +kernel
theorem d_N_init_37 : decode b_N_init 37 = .ok (.iconst 0, 1) := by decide +kernel
theorem d_N_init_38 : decode b_N_init 38 = .ok (.putfield 26, 3) := by decide +kernel
theorem d_N_init_41 : decode b_N_init 41 = .ok (.return_, 1) := by decide +kernel
theorem d_G_init_0 : decode b_G_init 0 = .ok (.aload_n 0, 1) := by decide +kernel
theorem d_G_init_1 : decode b_G_init 1 = .ok (.invokespecial 3, 3) := by decide +kernel
theorem d_G_init_4 : decode b_G_init 4 = .ok (.aload_n 0, 1) := by decide +kernel
theorem d_G_init_5 : decode b_G_init 5 = .ok (.iconst 0, 1) := by decide +kernel
theorem d_G_init_6 : decode b_G_init 6 = .ok (.putfield 9, 3) := by decide +kernel
theorem d_G_init_9 : decode b_G_init 9 = .ok (.aload_n 0, 1) := by decide +kernel
theorem d_G_init_10 : decode b_G_init 10 = .ok (.lconst 0, 1) := by decide +kernel
theorem d_G_init_11 : decode b_G_init 11 = .ok (.putfield 15, 3) := by decide +kernel
theorem d_G_init_14 : decode b_G_init 14 = .ok (.aload_n 0, 1) := by decide +kernel
theorem d_G_init_15 : decode b_G_init 15 = .ok (.lconst 0, 1) := by decide +kernel
theorem d_G_init_16 : decode b_G_init 16 = .ok (.putfield 19, 3) := by decide +kernel
theorem d_G_init_19 : decode b_G_init 19 = .ok (.aload_n 0, 1) := by decide +kernel
theorem d_G_init_20 : decode b_G_init 20 = .ok (.iconst 0, 1) := by decide +kernel
theorem d_G_init_21 : decode b_G_init 21 = .ok (.putfield 22, 3) := by decide +kernel
theorem d_G_init_24 : decode b_G_init 24 = .ok (.return_, 1) := by decide +kernel
theorem d_X_file_0 : decode b_X_file 0 = .ok (.aload_n 0, 1) := by decide +kernel
theorem d_X_file_1 : decode b_X_file 1 = .ok (.getfield 27, 3) := by decide +kernel
theorem d_X_file_4 : decode b_X_file 4 = .ok (.bipush 24, 2) := by decide +kernel
theorem d_X_file_6 : decode b_X_file 6 = .ok (.if_icmp .lt 5, 3) := by decide +kernel
theorem d_X_file_9 : decode b_X_file 9 = .ok (.iconst (-1), 1) := by decide +kernel
theorem d_X_file_10 : decode b_X_file 10 = .ok (.ireturn, 1) := by decide +kernel
theorem d_X_file_11 : decode b_X_file 11 = .ok (.aload_n 0, 1) := by decide +kernel
theorem d_X_file_12 : decode b_X_file 12 = .ok (.getfield 11, 3) := by decide +kernel
theorem d_X_file_15 : decode b_X_file 15 = .ok (.aload_n 0, 1) := by decide +kernel
theorem d_X_file_16 : decode b_X_file 16 = .ok (.getfield 27, 3) := by decide +kernel
theorem d_X_file_19 : decode b_X_file 19 = .ok (.aaload, 1) := by decide +kernel
theorem d_X_file_20 : decode b_X_file 20 = .ok (.lload_n 1, 1) := by decide +kernel
theorem d_X_file_21 : decode b_X_file 21 = .ok (.invokevirtual 62, 3) := by decide +kernel
theorem d_X_file_24 : decode b_X_file 24 = .ok (.aload_n 0, 1) := by decide +kernel
theorem d_X_file_25 : decode b_X_file 25 = .ok (.dup, 1) := by decide +kernel
theorem d_X_file_26 : decode b_X_file 26 = .ok (.getfield 27, 3) := by decide +kernel
theorem d_X_file_29 : decode b_X_file 29 = .ok (.iconst 1, 1) := by decide +kernel
theorem d_X_file_30 : decode b_X_file 30 = .ok (.iadd, 1) := by decide +kernel
theorem d_X_file_31 : decode b_X_file 31 = .ok (.putfield 27, 3) := by decide +kernel
theorem d_X_file_34 : decode b_X_file 34 = .ok (.aload_n 0, 1) := by decide +kernel
theorem d_X_file_35 : decode b_X_file 35 = .ok (.getfield 27, 3) := by decide +kernel
theorem d_X_file_38 : decode b_X_file 38 = .ok (.iconst 1, 1) := by decide +kernel
theorem d_X_file_39 : decode b_X_file 39 = .ok (.isub, 1) := by decide +kernel
theorem d_X_file_40 : decode b_X_file 40 = .ok (.ireturn, 1) := by decide +kernel
theorem d_F_put_0 : decode b_F_put 0 = .ok (.aload_n 0, 1) := by decide +kernel
theorem d_F_put_1 : decode b_F_put 1 = .ok (.iconst 1, 1) := by decide +kernel
theorem d_F_put_2 : decode b_F_put 2 = .ok (.putfield 9, 3) := by decide +kernel
theorem d_F_put_5 : decode b_F_put 5 = .ok (.aload_n 0, 1) := by decide +kernel
theorem d_F_put_6 : decode b_F_put 6 = .ok (.lload_n 1, 1) := by decide +kernel
theorem d_F_put_7 : decode b_F_put 7 = .ok (.putfield 15, 3) := by decide +kernel
theorem d_F_put_10 : decode b_F_put 10 = .ok (.return_, 1) := by decide +kernel
theorem d_X_change_0 : decode b_X_change 0 = .ok (.aload_n 0, 1) := by decide +kernel
theorem d_X_change_1 : decode b_X_change 1 = .ok (.iload_n 1, 1) := by decide +kernel
theorem d_X_change_2 : decode b_X_change 2 = .ok (.invokevirtual 66, 3) := by decide +kernel
theorem d_X_change_5 : decode b_X_change 5 = .ok (.ifCond .eq 15, 3) := by decide +kernel
theorem d_X_change_8 : decode b_X_change 8 = .ok (.aload_n 0, 1) := by decide +kernel
theorem d_X_change_9 : decode b_X_change 9 = .ok (.getfield 11, 3) := by decide +kernel
theorem d_X_change_12 : decode b_X_change 12 = .ok (.iload_n 1, 1) := by decide +kernel
theorem d_X_change_13 : decode b_X_change 13 = .ok (.aaload, 1) := by decide +kernel
theorem d_X_change_14 : decode b_X_change 14 = .ok (.invokevirtual 70, 3) := by decide +kernel
theorem d_X_change_17 : decode b_X_change 17 = .ok (.ifCond .eq 5, 3) := by decide +kernel
theorem d_X_change_20 : decode b_X_change 20 = .ok (.iconst 0, 1) := by decide +kernel
theorem d_X_change_21 : decode b_X_change 21 = .ok (.ireturn, 1) := by decide +kernel
theorem d_X_change_22 : decode b_X_change 22 = .ok (.iload_n 2, 1) := by decide +kernel
theorem d_X_change_23 : decode b_X_change 23 = .ok (.ifCond .eq 16, 3) := by decide +kernel
theorem d_X_change_26 : decode b_X_change 26 = .ok (.aload_n 0, 1) := by decide +kernel
theorem d_X_change_27 : decode b_X_change 27 = .ok (.getfield 11, 3) := by decide +kernel
theorem d_X_change_30 : decode b_X_change 30 = .ok (.iload_n 1, 1) := by decide +kernel
theorem d_X_change_31 : decode b_X_change 31 = .ok (.aaload, 1) := by decide +kernel
theorem d_X_change_32 : decode b_X_change 32 = .ok (.lload_n 3, 1) := by decide +kernel
theorem d_X_change_33 : decode b_X_change 33 = .ok (.invokevirtual 62, 3) := by decide +kernel
theorem d_X_change_36 : decode b_X_change 36 = .ok (.goto 12, 3) := by decide +kernel
theorem d_X_change_39 : decode b_X_change 39 = .ok (.aload_n 0, 1) := by decide +kernel
theorem d_X_change_40 : decode b_X_change 40 = .ok (.getfield 11, 3) := by decide +kernel
theorem d_X_change_43 : decode b_X_change 43 = .ok (.iload_n 1, 1) := by decide +kernel
theorem d_X_change_44 : decode b_X_change 44 = .ok (.aaload, 1) := by decide +kernel
theorem d_X_change_45 : decode b_X_change 45 = .ok (.invokevirtual 74, 3) := by decide +kernel
theorem d_X_change_48 : decode b_X_change 48 = .ok (.iconst 1, 1) := by decide +kernel
theorem d_X_change_49 : decode b_X_change 49 = .ok (.ireturn, 1) := by decide +kernel
theorem d_X_isFile_0 : decode b_X_isFile 0 = .ok (.iload_n 1, 1) := by decide +kernel
theorem d_X_isFile_1 : decode b_X_isFile 1 = .ok (.ifCond .lt 15, 3) := by decide +kernel
theorem d_X_isFile_4 : decode b_X_isFile 4 = .ok (.iload_n 1, 1) := by decide +kernel
theorem d_X_isFile_5 : decode b_X_isFile 5 = .ok (.aload_n 0, 1) := by decide +kernel
theorem d_X_isFile_6 : decode b_X_isFile 6 = .ok (.getfield 27, 3) := by decide +kernel
theorem d_X_isFile_9 : decode b_X_isFile 9 = .ok (.if_icmp .ge 7, 3) := by decide +kernel
theorem d_X_isFile_12 : decode b_X_isFile 12 = .ok (.iconst 1, 1) := by decide +kernel
theorem d_X_isFile_13 : decode b_X_isFile 13 = .ok (.goto 4, 3) := by decide +kernel
theorem d_X_isFile_16 : decode b_X_isFile 16 = .ok (.iconst 0, 1) := by decide +kernel
theorem d_X_isFile_17 : decode b_X_isFile 17 = .ok (.ireturn, 1) := by decide +kernel
theorem d_F_isMade_0 : decode b_F_isMade 0 = .ok (.aload_n 0, 1) := by decide +kernel
theorem d_F_isMade_1 : decode b_F_isMade 1 = .ok (.getfield 19, 3) := by decide +kernel
theorem d_F_isMade_4 : decode b_F_isMade 4 = .ok (.iconst (-1), 1) := by decide +kernel
theorem d_F_isMade_5 : decode b_F_isMade 5 = .ok (.if_icmp .eq 7, 3) := by decide +kernel
theorem d_F_isMade_8 : decode b_F_isMade 8 = .ok (.iconst 1, 1) := by decide +kernel
theorem d_F_isMade_9 : decode b_F_isMade 9 = .ok (.goto 4, 3) := by decide +kernel
theorem d_F_isMade_12 : decode b_F_isMade 12 = .ok (.iconst 0, 1) := by decide +kernel
theorem d_F_isMade_13 : decode b_F_isMade 13 = .ok (.ireturn, 1) := by decide +kernel
theorem d_F_remove_0 : decode b_F_remove 0 = .ok (.aload_n 0, 1) := by decide +kernel
theorem d_F_remove_1 : decode b_F_remove 1 = .ok (.iconst 0, 1) := by decide +kernel
theorem d_F_remove_2 : decode b_F_remove 2 = .ok (.putfield 9, 3) := by decide +kernel
theorem d_F_remove_5 : decode b_F_remove 5 = .ok (.aload_n 0, 1) := by decide +kernel
theorem d_F_remove_6 : decode b_F_remove 6 = .ok (.lconst 0, 1) := by decide +kernel
theorem d_F_remove_7 : decode b_F_remove 7 = .ok (.putfield 15, 3) := by decide +kernel
theorem d_F_remove_10 : decode b_F_remove 10 = .ok (.return_, 1) := by decide +kernel
theorem d_X_action_0 : decode b_X_action 0 = .ok (.aload_n 0, 1) := by decide +kernel
theorem d_X_action_1 : decode b_X_action 1 = .ok (.getfield 31, 3) := by decide +kernel
theorem d_X_action_4 : decode b_X_action 4 = .ok (.bipush 12, 2) := by decide +kernel
theorem d_X_action_6 : decode b_X_action 6 = .ok (.if_icmp .lt 5, 3) := by decide +kernel
theorem d_X_action_9 : decode b_X_action 9 = .ok (.iconst (-1), 1) := by decide +kernel
theorem d_X_action_10 : decode b_X_action 10 = .ok (.ireturn, 1) := by decide +kernel
theorem d_X_action_11 : decode b_X_action 11 = .ok (.aload_n 0, 1) := by decide +kernel
theorem d_X_action_12 : decode b_X_action 12 = .ok (.getfield 17, 3) := by decide +kernel
theorem d_X_action_15 : decode b_X_action 15 = .ok (.aload_n 0, 1) := by decide +kernel
theorem d_X_action_16 : decode b_X_action 16 = .ok (.getfield 31, 3) := by decide +kernel
theorem d_X_action_19 : decode b_X_action 19 = .ok (.aaload, 1) := by decide +kernel
theorem d_X_action_20 : decode b_X_action 20 = .ok (.iload_n 1, 1) := by decide +kernel
theorem d_X_action_21 : decode b_X_action 21 = .ok (.putfield 77, 3) := by decide +kernel
theorem d_X_action_24 : decode b_X_action 24 = .ok (.aload_n 0, 1) := by decide +kernel
theorem d_X_action_25 : decode b_X_action 25 = .ok (.dup, 1) := by decide +kernel
theorem d_X_action_26 : decode b_X_action 26 = .ok (.getfield 31, 3) := by decide +kernel
theorem d_X_action_29 : decode b_X_action 29 = .ok (.iconst 1, 1) := by decide +kernel
theorem d_X_action_30 : decode b_X_action 30 = .ok (.iadd, 1) := by decide +kernel
theorem d_X_action_31 : decode b_X_action 31 = .ok (.putfield 31, 3) := by decide +kernel
theorem d_X_action_34 : decode b_X_action 34 = .ok (.aload_n 0, 1) := by decide +kernel
theorem d_X_action_35 : decode b_X_action 35 = .ok (.getfield 31, 3) := by decide +kernel
theorem d_X_action_38 : decode b_X_action 38 = .ok (.iconst 1, 1) := by decide +kernel
theorem d_X_action_39 : decode b_X_action 39 = .ok (.isub, 1) := by decide +kernel
theorem d_X_action_40 : decode b_X_action 40 = .ok (.ireturn, 1) := by decide +kernel
theorem d_X_makes_0 : decode b_X_makes 0 = .ok (.aload_n 0, 1) := by decide +kernel
theorem d_X_makes_1 : decode b_X_makes 1 = .ok (.iload_n 1, 1) := by decide +kernel
theorem d_X_makes_2 : decode b_X_makes 2 = .ok (.invokevirtual 80, 3) := by decide +kernel
theorem d_X_makes_5 : decode b_X_makes 5 = .ok (.ifCond .eq 11, 3) := by decide +kernel
theorem d_X_makes_8 : decode b_X_makes 8 = .ok (.aload_n 0, 1) := by decide +kernel
theorem d_X_makes_9 : decode b_X_makes 9 = .ok (.iload_n 2, 1) := by decide +kernel
theorem d_X_makes_10 : decode b_X_makes 10 = .ok (.invokevirtual 66, 3) := by decide +kernel
theorem d_X_makes_13 : decode b_X_makes 13 = .ok (.ifCond .ne 5, 3) := by decide +kernel
theorem d_X_makes_16 : decode b_X_makes 16 = .ok (.iconst 0, 1) := by decide +kernel
theorem d_X_makes_17 : decode b_X_makes 17 = .ok (.ireturn, 1) := by decide +kernel
theorem d_X_makes_18 : decode b_X_makes 18 = .ok (.aload_n 0, 1) := by decide +kernel
theorem d_X_makes_19 : decode b_X_makes 19 = .ok (.getfield 17, 3) := by decide +kernel
theorem d_X_makes_22 : decode b_X_makes 22 = .ok (.iload_n 1, 1) := by decide +kernel
theorem d_X_makes_23 : decode b_X_makes 23 = .ok (.aaload, 1) := by decide +kernel
theorem d_X_makes_24 : decode b_X_makes 24 = .ok (.getfield 83, 3) := by decide +kernel
theorem d_X_makes_27 : decode b_X_makes 27 = .ok (.iconst (-1), 1) := by decide +kernel
theorem d_X_makes_28 : decode b_X_makes 28 = .ok (.if_icmp .ne 15, 3) := by decide +kernel
theorem d_X_makes_31 : decode b_X_makes 31 = .ok (.aload_n 0, 1) := by decide +kernel
theorem d_X_makes_32 : decode b_X_makes 32 = .ok (.getfield 11, 3) := by decide +kernel
theorem d_X_makes_35 : decode b_X_makes 35 = .ok (.iload_n 2, 1) := by decide +kernel
theorem d_X_makes_36 : decode b_X_makes 36 = .ok (.aaload, 1) := by decide +kernel
theorem d_X_makes_37 : decode b_X_makes 37 = .ok (.invokevirtual 70, 3) := by decide +kernel
theorem d_X_makes_40 : decode b_X_makes 40 = .ok (.ifCond .eq 5, 3) := by decide +kernel
theorem d_X_makes_43 : decode b_X_makes 43 = .ok (.iconst 0, 1) := by decide +kernel
theorem d_X_makes_44 : decode b_X_makes 44 = .ok (.ireturn, 1) := by decide +kernel
theorem d_X_makes_45 : decode b_X_makes 45 = .ok (.aload_n 0, 1) := by decide +kernel
theorem d_X_makes_46 : decode b_X_makes 46 = .ok (.getfield 17, 3) := by decide +kernel
theorem d_X_makes_49 : decode b_X_makes 49 = .ok (.iload_n 1, 1) := by decide +kernel
theorem d_X_makes_50 : decode b_X_makes 50 = .ok (.aaload, 1) := by decide +kernel
theorem d_X_makes_51 : decode b_X_makes 51 = .ok (.iload_n 2, 1) := by decide +kernel
theorem d_X_makes_52 : decode b_X_makes 52 = .ok (.putfield 83, 3) := by decide +kernel
theorem d_X_makes_55 : decode b_X_makes 55 = .ok (.aload_n 0, 1) := by decide +kernel
theorem d_X_makes_56 : decode b_X_makes 56 = .ok (.getfield 17, 3) := by decide +kernel
theorem d_X_makes_59 : decode b_X_makes 59 = .ok (.iload_n 1, 1) := by decide +kernel
theorem d_X_makes_60 : decode b_X_makes 60 = .ok (.aaload, 1) := by decide +kernel
theorem d_X_makes_61 : decode b_X_makes 61 = .ok (.invokevirtual 86, 3) := by decide +kernel
theorem d_X_makes_64 : decode b_X_makes 64 = .ok (.aload_n 0, 1) := by decide +kernel
theorem d_X_makes_65 : decode b_X_makes 65 = .ok (.getfield 11, 3) := by decide +kernel
theorem d_X_makes_68 : decode b_X_makes 68 = .ok (.iload_n 2, 1) := by decide +kernel
theorem d_X_makes_69 : decode b_X_makes 69 = .ok (.aaload, 1) := by decide +kernel
theorem d_X_makes_70 : decode b_X_makes 70 = .ok (.iload_n 1, 1) := by decide +kernel
theorem d_X_makes_71 : decode b_X_makes 71 = .ok (.putfield 89, 3) := by decide +kernel
theorem d_X_makes_74 : decode b_X_makes 74 = .ok (.aload_n 0, 1) := by decide +kernel
theorem d_X_makes_75 : decode b_X_makes 75 = .ok (.getfield 11, 3) := by decide +kernel
theorem d_X_makes_78 : decode b_X_makes 78 = .ok (.iload_n 2, 1) := by decide +kernel
theorem d_X_makes_79 : decode b_X_makes 79 = .ok (.aaload, 1) := by decide +kernel
theorem d_X_makes_80 : decode b_X_makes 80 = .ok (.invokevirtual 74, 3) := by decide +kernel
theorem d_X_makes_83 : decode b_X_makes 83 = .ok (.iconst 1, 1) := by decide +kernel
theorem d_X_makes_84 : decode b_X_makes 84 = .ok (.ireturn, 1) := by decide +kernel
theorem d_X_isAction_0 : decode b_X_isAction 0 = .ok (.iload_n 1, 1) := by decide +kernel
theorem d_X_isAction_1 : decode b_X_isAction 1 = .ok (.ifCond .lt 15, 3) := by decide +kernel
theorem d_X_isAction_4 : decode b_X_isAction 4 = .ok (.iload_n 1, 1) := by decide +kernel
theorem d_X_isAction_5 : decode b_X_isAction 5 = .ok (.aload_n 0, 1) := by decide +kernel
theorem d_X_isAction_6 : decode b_X_isAction 6 = .ok (.getfield 31, 3) := by decide +kernel
theorem d_X_isAction_9 : decode b_X_isAction 9 = .ok (.if_icmp .ge 7, 3) := by decide +kernel
theorem d_X_isAction_12 : decode b_X_isAction 12 = .ok (.iconst 1, 1) := by decide +kernel
theorem d_X_isAction_13 : decode b_X_isAction 13 = .ok (.goto 4, 3) := by decide +kernel
theorem d_X_isAction_16 : decode b_X_isAction 16 = .ok (.iconst 0, 1) := by decide +kernel
theorem d_X_isAction_17 : decode b_X_isAction 17 = .ok (.ireturn, 1) := by decide +kernel
theorem d_A_forget_0 : decode b_A_forget 0 = .ok (.aload_n 0, 1) := by decide +kernel
theorem d_A_forget_1 : decode b_A_forget 1 = .ok (.iconst 0, 1) := by decide +kernel
theorem d_A_forget_2 : decode b_A_forget 2 = .ok (.putfield 35, 3) := by decide +kernel
theorem d_A_forget_5 : decode b_A_forget 5 = .ok (.aload_n 0, 1) := by decide +kernel
theorem d_A_forget_6 : decode b_A_forget 6 = .ok (.getfield 31, 3) := by decide +kernel
theorem d_A_forget_9 : decode b_A_forget 9 = .ok (.iconst 0, 1) := by decide +kernel
theorem d_A_forget_10 : decode b_A_forget 10 = .ok (.putfield 63, 3) := by decide +kernel
theorem d_A_forget_13 : decode b_A_forget 13 = .ok (.return_, 1) := by decide +kernel
theorem d_X_row_0 : decode b_X_row 0 = .ok (.aload_n 0, 1) := by decide +kernel
theorem d_X_row_1 : decode b_X_row 1 = .ok (.iload_n 1, 1) := by decide +kernel
theorem d_X_row_2 : decode b_X_row 2 = .ok (.invokevirtual 80, 3) := by decide +kernel
theorem d_X_row_5 : decode b_X_row 5 = .ok (.ifCond .eq 12, 3) := by decide +kernel
theorem d_X_row_8 : decode b_X_row 8 = .ok (.aload_n 0, 1) := by decide +kernel
theorem d_X_row_9 : decode b_X_row 9 = .ok (.iload_n 2, 1) := by decide +kernel
theorem d_X_row_10 : decode b_X_row 10 = .ok (.iload_n 3, 1) := by decide +kernel
theorem d_X_row_11 : decode b_X_row 11 = .ok (.invokevirtual 92, 3) := by decide +kernel
theorem d_X_row_14 : decode b_X_row 14 = .ok (.ifCond .ne 5, 3) := by decide +kernel
theorem d_X_row_17 : decode b_X_row 17 = .ok (.iconst 0, 1) := by decide +kernel
theorem d_X_row_18 : decode b_X_row 18 = .ok (.ireturn, 1) := by decide +kernel
theorem d_X_row_19 : decode b_X_row 19 = .ok (.aload_n 0, 1) := by decide +kernel
theorem d_X_row_20 : decode b_X_row 20 = .ok (.getfield 17, 3) := by decide +kernel
theorem d_X_row_23 : decode b_X_row 23 = .ok (.iload_n 1, 1) := by decide +kernel
theorem d_X_row_24 : decode b_X_row 24 = .ok (.aaload, 1) := by decide +kernel
theorem d_X_row_25 : decode b_X_row 25 = .ok (.iload_n 2, 1) := by decide +kernel
theorem d_X_row_26 : decode b_X_row 26 = .ok (.iload_n 3, 1) := by decide +kernel
theorem d_X_row_27 : decode b_X_row 27 = .ok (.invokevirtual 96, 3) := by decide +kernel
theorem d_X_row_30 : decode b_X_row 30 = .ok (.ireturn, 1) := by decide +kernel
theorem d_X_isRow_0 : decode b_X_isRow 0 = .ok (.iload_n 1, 1) := by decide +kernel
theorem d_X_isRow_1 : decode b_X_isRow 1 = .ok (.iconst 2, 1) := by decide +kernel
theorem d_X_isRow_2 : decode b_X_isRow 2 = .ok (.if_icmp .ne 20, 3) := by decide +kernel
theorem d_X_isRow_5 : decode b_X_isRow 5 = .ok (.iload_n 2, 1) := by decide +kernel
theorem d_X_isRow_6 : decode b_X_isRow 6 = .ok (.iconst 1, 1) := by decide +kernel
theorem d_X_isRow_7 : decode b_X_isRow 7 = .ok (.if_icmp .lt 13, 3) := by decide +kernel
theorem d_X_isRow_10 : decode b_X_isRow 10 = .ok (.iload_n 2, 1) := by decide +kernel
theorem d_X_isRow_11 : decode b_X_isRow 11 = .ok (.bipush 8, 2) := by decide +kernel
theorem d_X_isRow_13 : decode b_X_isRow 13 = .ok (.if_icmp .gt 7, 3) := by decide +kernel
theorem d_X_isRow_16 : decode b_X_isRow 16 = .ok (.iconst 1, 1) := by decide +kernel
theorem d_X_isRow_17 : decode b_X_isRow 17 = .ok (.goto 4, 3) := by decide +kernel
theorem d_X_isRow_20 : decode b_X_isRow 20 = .ok (.iconst 0, 1) := by decide +kernel
theorem d_X_isRow_21 : decode b_X_isRow 21 = .ok (.ireturn, 1) := by decide +kernel
theorem d_X_isRow_22 : decode b_X_isRow 22 = .ok (.iload_n 1, 1) := by decide +kernel
theorem d_X_isRow_23 : decode b_X_isRow 23 = .ok (.ifCond .eq 8, 3) := by decide +kernel
theorem d_X_isRow_26 : decode b_X_isRow 26 = .ok (.iload_n 1, 1) := by decide +kernel
theorem d_X_isRow_27 : decode b_X_isRow 27 = .ok (.iconst 1, 1) := by decide +kernel
theorem d_X_isRow_28 : decode b_X_isRow 28 = .ok (.if_icmp .ne 15, 3) := by decide +kernel
theorem d_X_isRow_31 : decode b_X_isRow 31 = .ok (.aload_n 0, 1) := by decide +kernel
theorem d_X_isRow_32 : decode b_X_isRow 32 = .ok (.iload_n 2, 1) := by decide +kernel
theorem d_X_isRow_33 : decode b_X_isRow 33 = .ok (.invokevirtual 66, 3) := by decide +kernel
theorem d_X_isRow_36 : decode b_X_isRow 36 = .ok (.ifCond .eq 7, 3) := by decide +kernel
theorem d_X_isRow_39 : decode b_X_isRow 39 = .ok (.iconst 1, 1) := by decide +kernel
theorem d_X_isRow_40 : decode b_X_isRow 40 = .ok (.goto 4, 3) := by decide +kernel
theorem d_X_isRow_43 : decode b_X_isRow 43 = .ok (.iconst 0, 1) := by decide +kernel
theorem d_X_isRow_44 : decode b_X_isRow 44 = .ok (.ireturn, 1) := by decide +kernel
theorem d_A_addRow_0 : decode b_A_addRow 0 = .ok (.aload_n 0, 1) := by decide +kernel
theorem d_A_addRow_1 : decode b_A_addRow 1 = .ok (.getfield 18, 3) := by decide +kernel
theorem d_A_addRow_4 : decode b_A_addRow 4 = .ok (.bipush 12, 2) := by decide +kernel
theorem d_A_addRow_6 : decode b_A_addRow 6 = .ok (.if_icmp .lt 5, 3) := by decide +kernel
theorem d_A_addRow_9 : decode b_A_addRow 9 = .ok (.iconst 0, 1) := by decide +kernel
theorem d_A_addRow_10 : decode b_A_addRow 10 = .ok (.ireturn, 1) := by decide +kernel
theorem d_A_addRow_11 : decode b_A_addRow 11 = .ok (.aload_n 0, 1) := by decide +kernel
theorem d_A_addRow_12 : decode b_A_addRow 12 = .ok (.getfield 9, 3) := by decide +kernel
theorem d_A_addRow_15 : decode b_A_addRow 15 = .ok (.aload_n 0, 1) := by decide +kernel
theorem d_A_addRow_16 : decode b_A_addRow 16 = .ok (.getfield 18, 3) := by decide +kernel
theorem d_A_addRow_19 : decode b_A_addRow 19 = .ok (.iload_n 1, 1) := by decide +kernel
theorem d_A_addRow_20 : decode b_A_addRow 20 = .ok (.iastore, 1) := by decide +kernel
theorem d_A_addRow_21 : decode b_A_addRow 21 = .ok (.aload_n 0, 1) := by decide +kernel
theorem d_A_addRow_22 : decode b_A_addRow 22 = .ok (.getfield 15, 3) := by decide +kernel
theorem d_A_addRow_25 : decode b_A_addRow 25 = .ok (.aload_n 0, 1) := by decide +kernel
theorem d_A_addRow_26 : decode b_A_addRow 26 = .ok (.getfield 18, 3) := by decide +kernel
theorem d_A_addRow_29 : decode b_A_addRow 29 = .ok (.iload_n 2, 1) := by decide +kernel
theorem d_A_addRow_30 : decode b_A_addRow 30 = .ok (.iastore, 1) := by decide +kernel
theorem d_A_addRow_31 : decode b_A_addRow 31 = .ok (.aload_n 0, 1) := by decide +kernel
theorem d_A_addRow_32 : decode b_A_addRow 32 = .ok (.dup, 1) := by decide +kernel
theorem d_A_addRow_33 : decode b_A_addRow 33 = .ok (.getfield 18, 3) := by decide +kernel
theorem d_A_addRow_36 : decode b_A_addRow 36 = .ok (.iconst 1, 1) := by decide +kernel
theorem d_A_addRow_37 : decode b_A_addRow 37 = .ok (.iadd, 1) := by decide +kernel
theorem d_A_addRow_38 : decode b_A_addRow 38 = .ok (.putfield 18, 3) := by decide +kernel
theorem d_A_addRow_41 : decode b_A_addRow 41 = .ok (.aload_n 0, 1) := by decide +kernel
theorem d_A_addRow_42 : decode b_A_addRow 42 = .ok (.invokevirtual 58, 3) := by decide +kernel
theorem d_A_addRow_45 : decode b_A_addRow 45 = .ok (.iconst 1, 1) := by decide +kernel
theorem d_A_addRow_46 : decode b_A_addRow 46 = .ok (.ireturn, 1) := by decide +kernel
theorem d_X_run_0 : decode b_X_run 0 = .ok (.aload_n 0, 1) := by decide +kernel
theorem d_X_run_1 : decode b_X_run 1 = .ok (.iload_n 1, 1) := by decide +kernel
theorem d_X_run_2 : decode b_X_run 2 = .ok (.invokevirtual 80, 3) := by decide +kernel
theorem d_X_run_5 : decode b_X_run 5 = .ok (.ifCond .eq 11, 3) := by decide +kernel
theorem d_X_run_8 : decode b_X_run 8 = .ok (.aload_n 0, 1) := by decide +kernel
theorem d_X_run_9 : decode b_X_run 9 = .ok (.iload_n 1, 1) := by decide +kernel
theorem d_X_run_10 : decode b_X_run 10 = .ok (.invokevirtual 99, 3) := by decide +kernel
theorem d_X_run_13 : decode b_X_run 13 = .ok (.goto 5, 3) := by decide +kernel
theorem d_X_run_16 : decode b_X_run 16 = .ok (.bipush (-9), 2) := by decide +kernel
theorem d_X_run_18 : decode b_X_run 18 = .ok (.ireturn, 1) := by decide +kernel
theorem d_X_runOnce_0 : decode b_X_runOnce 0 = .ok (.aload_n 0, 1) := by decide +kernel
theorem d_X_runOnce_1 : decode b_X_runOnce 1 = .ok (.getfield 17, 3) := by decide +kernel
theorem d_X_runOnce_4 : decode b_X_runOnce 4 = .ok (.iload_n 1, 1) := by decide +kernel
theorem d_X_runOnce_5 : decode b_X_runOnce 5 = .ok (.aaload, 1) := by decide +kernel
theorem d_X_runOnce_6 : decode b_X_runOnce 6 = .ok (.astore_n 2, 1) := by decide +kernel
theorem d_X_runOnce_7 : decode b_X_runOnce 7 = .ok (.aload_n 0, 1) := by decide +kernel
theorem d_X_runOnce_8 : decode b_X_runOnce 8 = .ok (.invokevirtual 109, 3) := by decide +kernel
theorem d_X_runOnce_11 : decode b_X_runOnce 11 = .ok (.istore_n 3, 1) := by decide +kernel
theorem d_X_runOnce_12 : decode b_X_runOnce 12 = .ok (.aload_n 2, 1) := by decide +kernel
theorem d_X_runOnce_13 : decode b_X_runOnce 13 = .ok (.iconst (-1), 1) := by decide +kernel
theorem d_X_runOnce_14 : decode b_X_runOnce 14 = .ok (.putfield 103, 3) := by decide +kernel
theorem d_X_runOnce_17 : decode b_X_runOnce 17 = .ok (.iload_n 3, 1) := by decide +kernel
theorem d_X_runOnce_18 : decode b_X_runOnce 18 = .ok (.iload_n 1, 1) := by decide +kernel
theorem d_X_runOnce_19 : decode b_X_runOnce 19 = .ok (.invokestatic 113, 3) := by decide +kernel
theorem d_X_runOnce_22 : decode b_X_runOnce 22 = .ok (.ifCond .eq 18, 3) := by decide +kernel
theorem d_X_runOnce_25 : decode b_X_runOnce 25 = .ok (.aload_n 2, 1) := by decide +kernel
theorem d_X_runOnce_26 : decode b_X_runOnce 26 = .ok (.dup, 1) := by decide +kernel
theorem d_X_runOnce_27 : decode b_X_runOnce 27 = .ok (.getfield 136, 3) := by decide +kernel
theorem d_X_runOnce_30 : decode b_X_runOnce 30 = .ok (.iconst 1, 1) := by decide +kernel
theorem d_X_runOnce_31 : decode b_X_runOnce 31 = .ok (.iadd, 1) := by decide +kernel
theorem d_X_runOnce_32 : decode b_X_runOnce 32 = .ok (.putfield 136, 3) := by decide +kernel
theorem d_X_runOnce_35 : decode b_X_runOnce 35 = .ok (.aload_n 2, 1) := by decide +kernel
theorem d_X_runOnce_36 : decode b_X_runOnce 36 = .ok (.getfield 173, 3) := by decide +kernel
theorem d_X_runOnce_39 : decode b_X_runOnce 39 = .ok (.ireturn, 1) := by decide +kernel
theorem d_X_runOnce_40 : decode b_X_runOnce 40 = .ok (.aload_n 2, 1) := by decide +kernel
theorem d_X_runOnce_41 : decode b_X_runOnce 41 = .ok (.getfield 142, 3) := by decide +kernel
theorem d_X_runOnce_44 : decode b_X_runOnce 44 = .ok (.aload_n 0, 1) := by decide +kernel
theorem d_X_runOnce_45 : decode b_X_runOnce 45 = .ok (.getfield 56, 3) := by decide +kernel
theorem d_X_runOnce_48 : decode b_X_runOnce 48 = .ok (.if_icmp .lt 15, 3) := by decide +kernel
theorem d_X_runOnce_51 : decode b_X_runOnce 51 = .ok (.aload_n 2, 1) := by decide +kernel
theorem d_X_runOnce_52 : decode b_X_runOnce 52 = .ok (.invokevirtual 86, 3) := by decide +kernel
theorem d_X_runOnce_55 : decode b_X_runOnce 55 = .ok (.aload_n 2, 1) := by decide +kernel
theorem d_X_runOnce_56 : decode b_X_runOnce 56 = .ok (.iconst 0, 1) := by decide +kernel
theorem d_X_runOnce_57 : decode b_X_runOnce 57 = .ok (.putfield 142, 3) := by decide +kernel
theorem d_X_runOnce_60 : decode b_X_runOnce 60 = .ok (.bipush (-2), 2) := by decide +kernel
theorem d_X_runOnce_62 : decode b_X_runOnce 62 = .ok (.ireturn, 1) := by decide +kernel
theorem d_X_runOnce_63 : decode b_X_runOnce 63 = .ok (.aload_n 0, 1) := by decide +kernel
theorem d_X_runOnce_64 : decode b_X_runOnce 64 = .ok (.aload_n 2, 1) := by decide +kernel
theorem d_X_runOnce_65 : decode b_X_runOnce 65 = .ok (.iload_n 3, 1) := by decide +kernel
theorem d_X_runOnce_66 : decode b_X_runOnce 66 = .ok (.invokevirtual 176, 3) := by decide +kernel
theorem d_X_runOnce_69 : decode b_X_runOnce 69 = .ok (.ireturn, 1) := by decide +kernel
theorem d_X_freshActions_0 : decode b_X_freshActions 0 = .ok (.iconst 0, 1) := by decide +kernel
theorem d_X_freshActions_1 : decode b_X_freshActions 1 = .ok (.istore_n 1, 1) := by decide +kernel
theorem d_X_freshActions_2 : decode b_X_freshActions 2 = .ok (.iconst 0, 1) := by decide +kernel
theorem d_X_freshActions_3 : decode b_X_freshActions 3 = .ok (.istore_n 2, 1) := by decide +kernel
theorem d_X_freshActions_4 : decode b_X_freshActions 4 = .ok (.iload_n 2, 1) := by decide +kernel
theorem d_X_freshActions_5 : decode b_X_freshActions 5 = .ok (.aload_n 0, 1) := by decide +kernel
theorem d_X_freshActions_6 : decode b_X_freshActions 6 = .ok (.getfield 31, 3) := by decide +kernel
theorem d_X_freshActions_9 : decode b_X_freshActions 9 = .ok (.if_icmp .ge 58, 3) := by decide +kernel
theorem d_X_freshActions_12 : decode b_X_freshActions 12 = .ok (.iload_n 1, 1) := by decide +kernel
theorem d_X_freshActions_13 : decode b_X_freshActions 13 = .ok (.istore_n 3, 1) := by decide +kernel
theorem d_X_freshActions_14 : decode b_X_freshActions 14 = .ok (.iconst 0, 1) := by decide +kernel
theorem d_X_freshActions_15 : decode b_X_freshActions 15 = .ok (.istore 4, 2) := by decide +kernel
theorem d_X_freshActions_17 : decode b_X_freshActions 17 = .ok (.iload 4, 2) := by decide +kernel
theorem d_X_freshActions_19 : decode b_X_freshActions 19 = .ok (.aload_n 0, 1) := by decide +kernel
theorem d_X_freshActions_20 : decode b_X_freshActions 20 = .ok (.getfield 31, 3) := by decide +kernel
theorem d_X_freshActions_23 : decode b_X_freshActions 23 = .ok (.if_icmp .ge 31, 3) := by decide +kernel
theorem d_X_freshActions_26 : decode b_X_freshActions 26 = .ok (.aload_n 0, 1) := by decide +kernel
theorem d_X_freshActions_27 : decode b_X_freshActions 27 = .ok (.aload_n 0, 1) := by decide +kernel
theorem d_X_freshActions_28 : decode b_X_freshActions 28 = .ok (.getfield 17, 3) := by decide +kernel
theorem d_X_freshActions_31 : decode b_X_freshActions 31 = .ok (.iload 4, 2) := by decide +kernel
theorem d_X_freshActions_33 : decode b_X_freshActions 33 = .ok (.aaload, 1) := by decide +kernel
theorem d_X_freshActions_34 : decode b_X_freshActions 34 = .ok (.iload_n 1, 1) := by decide +kernel
theorem d_X_freshActions_35 : decode b_X_freshActions 35 = .ok (.invokevirtual 214, 3) := by decide +kernel
theorem d_X_freshActions_38 : decode b_X_freshActions 38 = .ok (.ifCond .eq 10, 3) := by decide +kernel
theorem d_X_freshActions_41 : decode b_X_freshActions 41 = .ok (.iload_n 1, 1) := by decide +kernel
theorem d_X_freshActions_42 : decode b_X_freshActions 42 = .ok (.iconst 1, 1) := by decide +kernel
theorem d_X_freshActions_43 : decode b_X_freshActions 43 = .ok (.iload 4, 2) := by decide +kernel
theorem d_X_freshActions_45 : decode b_X_freshActions 45 = .ok (.ishl, 1) := by decide +kernel
theorem d_X_freshActions_46 : decode b_X_freshActions 46 = .ok (.ior, 1) := by decide +kernel
theorem d_X_freshActions_47 : decode b_X_freshActions 47 = .ok (.istore_n 1, 1) := by decide +kernel
theorem d_X_freshActions_48 : decode b_X_freshActions 48 = .ok (.iinc 4 1, 3) := by decide +kernel
theorem d_X_freshActions_51 : decode b_X_freshActions 51 = .ok (.goto (-34), 3) := by decide +kernel
theorem d_X_freshActions_54 : decode b_X_freshActions 54 = .ok (.iload_n 1, 1) := by decide +kernel
theorem d_X_freshActions_55 : decode b_X_freshActions 55 = .ok (.iload_n 3, 1) := by decide +kernel
theorem d_X_freshActions_56 : decode b_X_freshActions 56 = .ok (.if_icmp .ne 5, 3) := by decide +kernel
theorem d_X_freshActions_59 : decode b_X_freshActions 59 = .ok (.iload_n 1, 1) := by decide +kernel
theorem d_X_freshActions_60 : decode b_X_freshActions 60 = .ok (.ireturn, 1) := by decide +kernel
theorem d_X_freshActions_61 : decode b_X_freshActions 61 = .ok (.iinc 2 1, 3) := by decide +kernel
theorem d_X_freshActions_64 : decode b_X_freshActions 64 = .ok (.goto (-60), 3) := by decide +kernel
theorem d_X_freshActions_67 : decode b_X_freshActions 67 = .ok (.iload_n 1, 1) := by decide +kernel
theorem d_X_freshActions_68 : decode b_X_freshActions 68 = .ok (.ireturn, 1) := by decide +kernel
theorem d_X_holds_0 : decode b_X_holds 0 = .ok (.aload_n 1, 1) := by decide +kernel
theorem d_X_holds_1 : decode b_X_holds 1 = .ok (.getfield 116, 3) := by decide +kernel
theorem d_X_holds_4 : decode b_X_holds 4 = .ok (.ifCond .ne 5, 3) := by decide +kernel
theorem d_X_holds_7 : decode b_X_holds 7 = .ok (.iconst 0, 1) := by decide +kernel
theorem d_X_holds_8 : decode b_X_holds 8 = .ok (.ireturn, 1) := by decide +kernel
theorem d_X_holds_9 : decode b_X_holds 9 = .ok (.aload_n 1, 1) := by decide +kernel
theorem d_X_holds_10 : decode b_X_holds 10 = .ok (.getfield 120, 3) := by decide +kernel
theorem d_X_holds_13 : decode b_X_holds 13 = .ok (.astore_n 3, 1) := by decide +kernel
theorem d_X_holds_14 : decode b_X_holds 14 = .ok (.iconst 0, 1) := by decide +kernel
theorem d_X_holds_15 : decode b_X_holds 15 = .ok (.istore 4, 2) := by decide +kernel
theorem d_X_holds_17 : decode b_X_holds 17 = .ok (.iload 4, 2) := by decide +kernel
theorem d_X_holds_19 : decode b_X_holds 19 = .ok (.aload_n 3, 1) := by decide +kernel
theorem d_X_holds_20 : decode b_X_holds 20 = .ok (.getfield 218, 3) := by decide +kernel
theorem d_X_holds_23 : decode b_X_holds 23 = .ok (.if_icmp .ge 45, 3) := by decide +kernel
theorem d_X_holds_26 : decode b_X_holds 26 = .ok (.aload_n 0, 1) := by decide +kernel
theorem d_X_holds_27 : decode b_X_holds 27 = .ok (.getfield 11, 3) := by decide +kernel
theorem d_X_holds_30 : decode b_X_holds 30 = .ok (.aload_n 3, 1) := by decide +kernel
theorem d_X_holds_31 : decode b_X_holds 31 = .ok (.getfield 221, 3) := by decide +kernel
theorem d_X_holds_34 : decode b_X_holds 34 = .ok (.iload 4, 2) := by decide +kernel
theorem d_X_holds_36 : decode b_X_holds 36 = .ok (.iaload, 1) := by decide +kernel
theorem d_X_holds_37 : decode b_X_holds 37 = .ok (.aaload, 1) := by decide +kernel
theorem d_X_holds_38 : decode b_X_holds 38 = .ok (.astore 5, 2) := by decide +kernel
theorem d_X_holds_40 : decode b_X_holds 40 = .ok (.aload_n 3, 1) := by decide +kernel
theorem d_X_holds_41 : decode b_X_holds 41 = .ok (.iload 4, 2) := by decide +kernel
theorem d_X_holds_43 : decode b_X_holds 43 = .ok (.aload 5, 2) := by decide +kernel
theorem d_X_holds_45 : decode b_X_holds 45 = .ok (.invokevirtual 224, 3) := by decide +kernel
theorem d_X_holds_48 : decode b_X_holds 48 = .ok (.ifCond .eq 12, 3) := by decide +kernel
theorem d_X_holds_51 : decode b_X_holds 51 = .ok (.aload 5, 2) := by decide +kernel
theorem d_X_holds_53 : decode b_X_holds 53 = .ok (.iload_n 2, 1) := by decide +kernel
theorem d_X_holds_54 : decode b_X_holds 54 = .ok (.invokestatic 161, 3) := by decide +kernel
theorem d_X_holds_57 : decode b_X_holds 57 = .ok (.ifCond .ne 5, 3) := by decide +kernel
theorem d_X_holds_60 : decode b_X_holds 60 = .ok (.iconst 0, 1) := by decide +kernel
theorem d_X_holds_61 : decode b_X_holds 61 = .ok (.ireturn, 1) := by decide +kernel
theorem d_X_holds_62 : decode b_X_holds 62 = .ok (.iinc 4 1, 3) := by decide +kernel
theorem d_X_holds_65 : decode b_X_holds 65 = .ok (.goto (-48), 3) := by decide +kernel
theorem d_X_holds_68 : decode b_X_holds 68 = .ok (.iconst 1, 1) := by decide +kernel
theorem d_X_holds_69 : decode b_X_holds 69 = .ok (.ireturn, 1) := by decide +kernel
theorem d_N_isLike_0 : decode b_N_isLike 0 = .ok (.aload_n 0, 1) := by decide +kernel
theorem d_N_isLike_1 : decode b_N_isLike 1 = .ok (.getfield 15, 3) := by decide +kernel
theorem d_N_isLike_4 : decode b_N_isLike 4 = .ok (.iload_n 1, 1) := by decide +kernel
theorem d_N_isLike_5 : decode b_N_isLike 5 = .ok (.baload, 1) := by decide +kernel
theorem d_N_isLike_6 : decode b_N_isLike 6 = .ok (.aload_n 2, 1) := by decide +kernel
theorem d_N_isLike_7 : decode b_N_isLike 7 = .ok (.getfield 34, 3) := by decide +kernel
theorem d_N_isLike_10 : decode b_N_isLike 10 = .ok (.if_icmp .ne 30, 3) := by decide +kernel
theorem d_N_isLike_13 : decode b_N_isLike 13 = .ok (.aload_n 0, 1) := by decide +kernel
theorem d_N_isLike_14 : decode b_N_isLike 14 = .ok (.getfield 19, 3) := by decide +kernel
theorem d_N_isLike_17 : decode b_N_isLike 17 = .ok (.iload_n 1, 1) := by decide +kernel
theorem d_N_isLike_18 : decode b_N_isLike 18 = .ok (.baload, 1) := by decide +kernel
theorem d_N_isLike_19 : decode b_N_isLike 19 = .ok (.ifCond .eq 17, 3) := by decide +kernel
theorem d_N_isLike_22 : decode b_N_isLike 22 = .ok (.aload_n 0, 1) := by decide +kernel
theorem d_N_isLike_23 : decode b_N_isLike 23 = .ok (.getfield 22, 3) := by decide +kernel
theorem d_N_isLike_26 : decode b_N_isLike 26 = .ok (.iload_n 1, 1) := by decide +kernel
theorem d_N_isLike_27 : decode b_N_isLike 27 = .ok (.laload, 1) := by decide +kernel
theorem d_N_isLike_28 : decode b_N_isLike 28 = .ok (.aload_n 2, 1) := by decide +kernel
theorem d_N_isLike_29 : decode b_N_isLike 29 = .ok (.getfield 39, 3) := by decide +kernel
theorem d_N_isLike_32 : decode b_N_isLike 32 = .ok (.lcmp, 1) := by decide +kernel
theorem d_N_isLike_33 : decode b_N_isLike 33 = .ok (.ifCond .ne 7, 3) := by decide +kernel
theorem d_N_isLike_36 : decode b_N_isLike 36 = .ok (.iconst 1, 1) := by decide +kernel
theorem d_N_isLike_37 : decode b_N_isLike 37 = .ok (.goto 4, 3) := by decide +kernel
theorem d_N_isLike_40 : decode b_N_isLike 40 = .ok (.iconst 0, 1) := by decide +kernel
theorem d_N_isLike_41 : decode b_N_isLike 41 = .ok (.ireturn, 1) := by decide +kernel
theorem d_X_isFresh_0 : decode b_X_isFresh 0 = .ok (.aload_n 0, 1) := by decide +kernel
theorem d_X_isFresh_1 : decode b_X_isFresh 1 = .ok (.invokevirtual 70, 3) := by decide +kernel
theorem d_X_isFresh_4 : decode b_X_isFresh 4 = .ok (.ifCond .eq 14, 3) := by decide +kernel
theorem d_X_isFresh_7 : decode b_X_isFresh 7 = .ok (.iload_n 1, 1) := by decide +kernel
theorem d_X_isFresh_8 : decode b_X_isFresh 8 = .ok (.aload_n 0, 1) := by decide +kernel
theorem d_X_isFresh_9 : decode b_X_isFresh 9 = .ok (.getfield 89, 3) := by decide +kernel
theorem d_X_isFresh_12 : decode b_X_isFresh 12 = .ok (.invokestatic 113, 3) := by decide +kernel
theorem d_X_isFresh_15 : decode b_X_isFresh 15 = .ok (.ifCond .eq 7, 3) := by decide +kernel
theorem d_X_isFresh_18 : decode b_X_isFresh 18 = .ok (.iconst 1, 1) := by decide +kernel
theorem d_X_isFresh_19 : decode b_X_isFresh 19 = .ok (.goto 4, 3) := by decide +kernel
theorem d_X_isFresh_22 : decode b_X_isFresh 22 = .ok (.iconst 0, 1) := by decide +kernel
theorem d_X_isFresh_23 : decode b_X_isFresh 23 = .ok (.ireturn, 1) := by decide +kernel
theorem d_X_hasBit_0 : decode b_X_hasBit 0 = .ok (.iload_n 0, 1) := by decide +kernel
theorem d_X_hasBit_1 : decode b_X_hasBit 1 = .ok (.iload_n 1, 1) := by decide +kernel
theorem d_X_hasBit_2 : decode b_X_hasBit 2 = .ok (.iushr, 1) := by decide +kernel
theorem d_X_hasBit_3 : decode b_X_hasBit 3 = .ok (.iconst 1, 1) := by decide +kernel
theorem d_X_hasBit_4 : decode b_X_hasBit 4 = .ok (.iand, 1) := by decide +kernel
theorem d_X_hasBit_5 : decode b_X_hasBit 5 = .ok (.ifCond .eq 7, 3) := by decide +kernel
theorem d_X_hasBit_8 : decode b_X_hasBit 8 = .ok (.iconst 1, 1) := by decide +kernel
theorem d_X_hasBit_9 : decode b_X_hasBit 9 = .ok (.goto 4, 3) := by decide +kernel
theorem d_X_hasBit_12 : decode b_X_hasBit 12 = .ok (.iconst 0, 1) := by decide +kernel
theorem d_X_hasBit_13 : decode b_X_hasBit 13 = .ok (.ireturn, 1) := by decide +kernel
theorem d_X_tryOnce_0 : decode b_X_tryOnce 0 = .ok (.aload_n 1, 1) := by decide +kernel
theorem d_X_tryOnce_1 : decode b_X_tryOnce 1 = .ok (.dup, 1) := by decide +kernel
theorem d_X_tryOnce_2 : decode b_X_tryOnce 2 = .ok (.getfield 139, 3) := by decide +kernel
theorem d_X_tryOnce_5 : decode b_X_tryOnce 5 = .ok (.iconst 1, 1) := by decide +kernel
theorem d_X_tryOnce_6 : decode b_X_tryOnce 6 = .ok (.iadd, 1) := by decide +kernel
theorem d_X_tryOnce_7 : decode b_X_tryOnce 7 = .ok (.putfield 139, 3) := by decide +kernel
theorem d_X_tryOnce_10 : decode b_X_tryOnce 10 = .ok (.aload_n 1, 1) := by decide +kernel
theorem d_X_tryOnce_11 : decode b_X_tryOnce 11 = .ok (.dup, 1) := by decide +kernel
theorem d_X_tryOnce_12 : decode b_X_tryOnce 12 = .ok (.getfield 142, 3) := by decide +kernel
theorem d_X_tryOnce_15 : decode b_X_tryOnce 15 = .ok (.iconst 1, 1) := by decide +kernel
theorem d_X_tryOnce_16 : decode b_X_tryOnce 16 = .ok (.iadd, 1) := by decide +kernel
theorem d_X_tryOnce_17 : decode b_X_tryOnce 17 = .ok (.putfield 142, 3) := by decide +kernel
theorem d_X_tryOnce_20 : decode b_X_tryOnce 20 = .ok (.aload_n 1, 1) := by decide +kernel
theorem d_X_tryOnce_21 : decode b_X_tryOnce 21 = .ok (.invokevirtual 86, 3) := by decide +kernel
theorem d_X_tryOnce_24 : decode b_X_tryOnce 24 = .ok (.aload_n 0, 1) := by decide +kernel
theorem d_X_tryOnce_25 : decode b_X_tryOnce 25 = .ok (.aload_n 1, 1) := by decide +kernel
theorem d_X_tryOnce_26 : decode b_X_tryOnce 26 = .ok (.iload_n 2, 1) := by decide +kernel
theorem d_X_tryOnce_27 : decode b_X_tryOnce 27 = .ok (.invokevirtual 180, 3) := by decide +kernel
theorem d_X_tryOnce_30 : decode b_X_tryOnce 30 = .ok (.istore_n 3, 1) := by decide +kernel
theorem d_X_tryOnce_31 : decode b_X_tryOnce 31 = .ok (.iload_n 3, 1) := by decide +kernel
theorem d_X_tryOnce_32 : decode b_X_tryOnce 32 = .ok (.ifCond .eq 8, 3) := by decide +kernel
theorem d_X_tryOnce_35 : decode b_X_tryOnce 35 = .ok (.aload_n 1, 1) := by decide +kernel
theorem d_X_tryOnce_36 : decode b_X_tryOnce 36 = .ok (.iconst 0, 1) := by decide +kernel
theorem d_X_tryOnce_37 : decode b_X_tryOnce 37 = .ok (.putfield 142, 3) := by decide +kernel
theorem d_X_tryOnce_40 : decode b_X_tryOnce 40 = .ok (.iload_n 3, 1) := by decide +kernel
theorem d_X_tryOnce_41 : decode b_X_tryOnce 41 = .ok (.iconst 1, 1) := by decide +kernel
theorem d_X_tryOnce_42 : decode b_X_tryOnce 42 = .ok (.if_icmp .eq 9, 3) := by decide +kernel
theorem d_X_tryOnce_45 : decode b_X_tryOnce 45 = .ok (.iload_n 3, 1) := by decide +kernel
theorem d_X_tryOnce_46 : decode b_X_tryOnce 46 = .ok (.bipush (-3), 2) := by decide +kernel
theorem d_X_tryOnce_48 : decode b_X_tryOnce 48 = .ok (.if_icmp .ne 12, 3) := by decide +kernel
theorem d_X_tryOnce_51 : decode b_X_tryOnce 51 = .ok (.aload_n 0, 1) := by decide +kernel
theorem d_X_tryOnce_52 : decode b_X_tryOnce 52 = .ok (.aload_n 1, 1) := by decide +kernel
theorem d_X_tryOnce_53 : decode b_X_tryOnce 53 = .ok (.iload_n 3, 1) := by decide +kernel
theorem d_X_tryOnce_54 : decode b_X_tryOnce 54 = .ok (.invokevirtual 183, 3) := by decide +kernel
theorem d_X_tryOnce_57 : decode b_X_tryOnce 57 = .ok (.goto 7, 3) := by decide +kernel
theorem d_X_tryOnce_60 : decode b_X_tryOnce 60 = .ok (.aload_n 1, 1) := by decide +kernel
theorem d_X_tryOnce_61 : decode b_X_tryOnce 61 = .ok (.invokevirtual 86, 3) := by decide +kernel
theorem d_X_tryOnce_64 : decode b_X_tryOnce 64 = .ok (.iload_n 3, 1) := by decide +kernel
theorem d_X_tryOnce_65 : decode b_X_tryOnce 65 = .ok (.ireturn, 1) := by decide +kernel
theorem d_X_goThroughRows_0 : decode b_X_goThroughRows 0 = .ok (.aload_n 1, 1) := by decide +kernel
theorem d_X_goThroughRows_1 : decode b_X_goThroughRows 1 = .ok (.ldc2_w 190, 3) := by decide +kernel
theorem d_X_goThroughRows_4 : decode b_X_goThroughRows 4 = .ok (.putfield 187, 3) := by decide +kernel
theorem d_X_goThroughRows_7 : decode b_X_goThroughRows 7 = .ok (.lconst 0, 1) := by decide +kernel
theorem d_X_goThroughRows_8 : decode b_X_goThroughRows 8 = .ok (.lstore_n 3, 1) := by decide +kernel
theorem d_X_goThroughRows_9 : decode b_X_goThroughRows 9 = .ok (.iconst 0, 1) := by decide +kernel
theorem d_X_goThroughRows_10 : decode b_X_goThroughRows 10 = .ok (.istore 5, 2) := by decide +kernel
theorem d_X_goThroughRows_12 : decode b_X_goThroughRows 12 = .ok (.iload 5, 2) := by decide +kernel
theorem d_X_goThroughRows_14 : decode b_X_goThroughRows 14 = .ok (.aload_n 1, 1) := by decide +kernel
theorem d_X_goThroughRows_15 : decode b_X_goThroughRows 15 = .ok (.getfield 192, 3) := by decide +kernel
theorem d_X_goThroughRows_18 : decode b_X_goThroughRows 18 = .ok (.if_icmp .ge 100, 3) := by decide +kernel
theorem d_X_goThroughRows_21 : decode b_X_goThroughRows 21 = .ok (.aload_n 1, 1) := by decide +kernel
theorem d_X_goThroughRows_22 : decode b_X_goThroughRows 22 = .ok (.getfield 195, 3) := by decide +kernel
theorem d_X_goThroughRows_25 : decode b_X_goThroughRows 25 = .ok (.iload 5, 2) := by decide +kernel
theorem d_X_goThroughRows_27 : decode b_X_goThroughRows 27 = .ok (.iaload, 1) := by decide +kernel
theorem d_X_goThroughRows_28 : decode b_X_goThroughRows 28 = .ok (.istore 6, 2) := by decide +kernel
theorem d_X_goThroughRows_30 : decode b_X_goThroughRows 30 = .ok (.aload_n 1, 1) := by decide +kernel
theorem d_X_goThroughRows_31 : decode b_X_goThroughRows 31 = .ok (.getfield 198, 3) := by decide +kernel
theorem d_X_goThroughRows_34 : decode b_X_goThroughRows 34 = .ok (.iload 5, 2) := by decide +kernel
theorem d_X_goThroughRows_36 : decode b_X_goThroughRows 36 = .ok (.iaload, 1) := by decide +kernel
theorem d_X_goThroughRows_37 : decode b_X_goThroughRows 37 = .ok (.istore 7, 2) := by decide +kernel
theorem d_X_goThroughRows_39 : decode b_X_goThroughRows 39 = .ok (.iload 6, 2) := by decide +kernel
theorem d_X_goThroughRows_41 : decode b_X_goThroughRows 41 = .ok (.iconst 2, 1) := by decide +kernel
theorem d_X_goThroughRows_42 : decode b_X_goThroughRows 42 = .ok (.if_icmp .ne 25, 3) := by decide +kernel
theorem d_X_goThroughRows_45 : decode b_X_goThroughRows 45 = .ok (.iload 5, 2) := by decide +kernel
theorem d_X_goThroughRows_47 : decode b_X_goThroughRows 47 = .ok (.lload_n 3, 1) := by decide +kernel
theorem d_X_goThroughRows_48 : decode b_X_goThroughRows 48 = .ok (.lconst 1, 1) := by decide +kernel
theorem d_X_goThroughRows_49 : decode b_X_goThroughRows 49 = .ok (.land, 1) := by decide +kernel
theorem d_X_goThroughRows_50 : decode b_X_goThroughRows 50 = .ok (.lconst 0, 1) := by decide +kernel
theorem d_X_goThroughRows_51 : decode b_X_goThroughRows 51 = .ok (.lcmp, 1) := by decide +kernel
theorem d_X_goThroughRows_52 : decode b_X_goThroughRows 52 = .ok (.ifCond .eq 8, 3) := by decide +kernel
theorem d_X_goThroughRows_55 : decode b_X_goThroughRows 55 = .ok (.iload 7, 2) := by decide +kernel
theorem d_X_goThroughRows_57 : decode b_X_goThroughRows 57 = .ok (.goto 4, 3) := by decide +kernel
theorem d_X_goThroughRows_60 : decode b_X_goThroughRows 60 = .ok (.iconst 0, 1) := by decide +kernel
theorem d_X_goThroughRows_61 : decode b_X_goThroughRows 61 = .ok (.iadd, 1) := by decide +kernel
theorem d_X_goThroughRows_62 : decode b_X_goThroughRows 62 = .ok (.istore 5, 2) := by decide +kernel
theorem d_X_goThroughRows_64 : decode b_X_goThroughRows 64 = .ok (.goto 48, 3) := by decide +kernel
theorem d_X_goThroughRows_67 : decode b_X_goThroughRows 67 = .ok (.aload_n 0, 1) := by decide +kernel
theorem d_X_goThroughRows_68 : decode b_X_goThroughRows 68 = .ok (.aload_n 1, 1) := by decide +kernel
theorem d_X_goThroughRows_69 : decode b_X_goThroughRows 69 = .ok (.iload 6, 2) := by decide +kernel
theorem d_X_goThroughRows_71 : decode b_X_goThroughRows 71 = .ok (.ifCond .ne 7, 3) := by decide +kernel
theorem d_X_goThroughRows_74 : decode b_X_goThroughRows 74 = .ok (.iconst 1, 1) := by decide +kernel
theorem d_X_goThroughRows_75 : decode b_X_goThroughRows 75 = .ok (.goto 4, 3) := by decide +kernel
theorem d_X_goThroughRows_78 : decode b_X_goThroughRows 78 = .ok (.iconst 0, 1) := by decide +kernel
theorem d_X_goThroughRows_79 : decode b_X_goThroughRows 79 = .ok (.iload 7, 2) := by decide +kernel
theorem d_X_goThroughRows_81 : decode b_X_goThroughRows 81 = .ok (.iload_n 2, 1) := by decide +kernel
theorem d_X_goThroughRows_82 : decode b_X_goThroughRows 82 = .ok (.invokevirtual 201, 3) := by decide +kernel
theorem d_X_goThroughRows_85 : decode b_X_goThroughRows 85 = .ok (.istore 8, 2) := by decide +kernel
theorem d_X_goThroughRows_87 : decode b_X_goThroughRows 87 = .ok (.iload 8, 2) := by decide +kernel
theorem d_X_goThroughRows_89 : decode b_X_goThroughRows 89 = .ok (.iconst 1, 1) := by decide +kernel
theorem d_X_goThroughRows_90 : decode b_X_goThroughRows 90 = .ok (.if_icmp .eq 6, 3) := by decide +kernel
theorem d_X_goThroughRows_93 : decode b_X_goThroughRows 93 = .ok (.iload 8, 2) := by decide +kernel
theorem d_X_goThroughRows_95 : decode b_X_goThroughRows 95 = .ok (.ireturn, 1) := by decide +kernel
theorem d_X_goThroughRows_96 : decode b_X_goThroughRows 96 = .ok (.iload 6, 2) := by decide +kernel
theorem d_X_goThroughRows_98 : decode b_X_goThroughRows 98 = .ok (.ifCond .ne 14, 3) := by decide +kernel
theorem d_X_goThroughRows_101 : decode b_X_goThroughRows 101 = .ok (.aload_n 0, 1) := by decide +kernel
theorem d_X_goThroughRows_102 : decode b_X_goThroughRows 102 = .ok (.getfield 11, 3) := by decide +kernel
theorem d_X_goThroughRows_105 : decode b_X_goThroughRows 105 = .ok (.iload 7, 2) := by decide +kernel
theorem d_X_goThroughRows_107 : decode b_X_goThroughRows 107 = .ok (.aaload, 1) := by decide +kernel
theorem d_X_goThroughRows_108 : decode b_X_goThroughRows 108 = .ok (.getfield 132, 3) := by decide +kernel
theorem d_X_goThroughRows_111 : decode b_X_goThroughRows 111 = .ok (.lstore_n 3, 1) := by decide +kernel
theorem d_X_goThroughRows_112 : decode b_X_goThroughRows 112 = .ok (.iinc 5 1, 3) := by decide +kernel
theorem d_X_goThroughRows_115 : decode b_X_goThroughRows 115 = .ok (.goto (-103), 3) := by decide +kernel
theorem d_X_goThroughRows_118 : decode b_X_goThroughRows 118 = .ok (.iconst 1, 1) := by decide +kernel
theorem d_X_goThroughRows_119 : decode b_X_goThroughRows 119 = .ok (.ireturn, 1) := by decide +kernel
theorem d_X_lookAt_0 : decode b_X_lookAt 0 = .ok (.aload_n 0, 1) := by decide +kernel
theorem d_X_lookAt_1 : decode b_X_lookAt 1 = .ok (.getfield 11, 3) := by decide +kernel
theorem d_X_lookAt_4 : decode b_X_lookAt 4 = .ok (.iload_n 3, 1) := by decide +kernel
theorem d_X_lookAt_5 : decode b_X_lookAt 5 = .ok (.aaload, 1) := by decide +kernel
theorem d_X_lookAt_6 : decode b_X_lookAt 6 = .ok (.astore 5, 2) := by decide +kernel
theorem d_X_lookAt_8 : decode b_X_lookAt 8 = .ok (.aload_n 1, 1) := by decide +kernel
theorem d_X_lookAt_9 : decode b_X_lookAt 9 = .ok (.getfield 77, 3) := by decide +kernel
theorem d_X_lookAt_12 : decode b_X_lookAt 12 = .ok (.iload_n 3, 1) := by decide +kernel
theorem d_X_lookAt_13 : decode b_X_lookAt 13 = .ok (.invokestatic 113, 3) := by decide +kernel
theorem d_X_lookAt_16 : decode b_X_lookAt 16 = .ok (.ifCond .ne 5, 3) := by decide +kernel
theorem d_X_lookAt_19 : decode b_X_lookAt 19 = .ok (.iconst (-1), 1) := by decide +kernel
theorem d_X_lookAt_20 : decode b_X_lookAt 20 = .ok (.ireturn, 1) := by decide +kernel
theorem d_X_lookAt_21 : decode b_X_lookAt 21 = .ok (.aload 5, 2) := by decide +kernel
theorem d_X_lookAt_23 : decode b_X_lookAt 23 = .ok (.iload 4, 2) := by decide +kernel
theorem d_X_lookAt_25 : decode b_X_lookAt 25 = .ok (.invokestatic 161, 3) := by decide +kernel
theorem d_X_lookAt_28 : decode b_X_lookAt 28 = .ok (.ifCond .ne 10, 3) := by decide +kernel
theorem d_X_lookAt_31 : decode b_X_lookAt 31 = .ok (.aload_n 1, 1) := by decide +kernel
theorem d_X_lookAt_32 : decode b_X_lookAt 32 = .ok (.iload_n 3, 1) := by decide +kernel
theorem d_X_lookAt_33 : decode b_X_lookAt 33 = .ok (.putfield 103, 3) := by decide +kernel
theorem d_X_lookAt_36 : decode b_X_lookAt 36 = .ok (.iconst 0, 1) := by decide +kernel
theorem d_X_lookAt_37 : decode b_X_lookAt 37 = .ok (.ireturn, 1) := by decide +kernel
theorem d_X_lookAt_38 : decode b_X_lookAt 38 = .ok (.aload_n 1, 1) := by decide +kernel
theorem d_X_lookAt_39 : decode b_X_lookAt 39 = .ok (.getfield 120, 3) := by decide +kernel
theorem d_X_lookAt_42 : decode b_X_lookAt 42 = .ok (.iload_n 3, 1) := by decide +kernel
theorem d_X_lookAt_43 : decode b_X_lookAt 43 = .ok (.aload 5, 2) := by decide +kernel
theorem d_X_lookAt_45 : decode b_X_lookAt 45 = .ok (.iload_n 2, 1) := by decide +kernel
theorem d_X_lookAt_46 : decode b_X_lookAt 46 = .ok (.invokevirtual 205, 3) := by decide +kernel
theorem d_X_lookAt_49 : decode b_X_lookAt 49 = .ok (.iload_n 2, 1) := by decide +kernel
theorem d_X_lookAt_50 : decode b_X_lookAt 50 = .ok (.ifCond .eq 14, 3) := by decide +kernel
theorem d_X_lookAt_53 : decode b_X_lookAt 53 = .ok (.aload 5, 2) := by decide +kernel
theorem d_X_lookAt_55 : decode b_X_lookAt 55 = .ok (.getfield 158, 3) := by decide +kernel
theorem d_X_lookAt_58 : decode b_X_lookAt 58 = .ok (.ifCond .ne 6, 3) := by decide +kernel
theorem d_X_lookAt_61 : decode b_X_lookAt 61 = .ok (.bipush (-3), 2) := by decide +kernel
theorem d_X_lookAt_63 : decode b_X_lookAt 63 = .ok (.ireturn, 1) := by decide +kernel
theorem d_X_lookAt_64 : decode b_X_lookAt 64 = .ok (.iload_n 2, 1) := by decide +kernel
theorem d_X_lookAt_65 : decode b_X_lookAt 65 = .ok (.ifCond .eq 15, 3) := by decide +kernel
theorem d_X_lookAt_68 : decode b_X_lookAt 68 = .ok (.aload_n 1, 1) := by decide +kernel
theorem d_X_lookAt_69 : decode b_X_lookAt 69 = .ok (.aload 5, 2) := by decide +kernel
theorem d_X_lookAt_71 : decode b_X_lookAt 71 = .ok (.getfield 132, 3) := by decide +kernel
theorem d_X_lookAt_74 : decode b_X_lookAt 74 = .ok (.invokevirtual 209, 3) := by decide +kernel
theorem d_X_lookAt_77 : decode b_X_lookAt 77 = .ok (.goto 22, 3) := by decide +kernel
theorem d_X_lookAt_80 : decode b_X_lookAt 80 = .ok (.aload_n 1, 1) := by decide +kernel
theorem d_X_lookAt_81 : decode b_X_lookAt 81 = .ok (.aload 5, 2) := by decide +kernel
theorem d_X_lookAt_83 : decode b_X_lookAt 83 = .ok (.getfield 158, 3) := by decide +kernel
theorem d_X_lookAt_86 : decode b_X_lookAt 86 = .ok (.ifCond .eq 7, 3) := by decide +kernel
theorem d_X_lookAt_89 : decode b_X_lookAt 89 = .ok (.lconst 1, 1) := by decide +kernel
theorem d_X_lookAt_90 : decode b_X_lookAt 90 = .ok (.goto 6, 3) := by decide +kernel
theorem d_X_lookAt_93 : decode b_X_lookAt 93 = .ok (.ldc2_w 212, 3) := by decide +kernel
theorem d_X_lookAt_96 : decode b_X_lookAt 96 = .ok (.invokevirtual 209, 3) := by decide +kernel
theorem d_X_lookAt_99 : decode b_X_lookAt 99 = .ok (.iconst 1, 1) := by decide +kernel
theorem d_X_lookAt_100 : decode b_X_lookAt 100 = .ok (.ireturn, 1) := by decide +kernel
theorem d_N_add_0 : decode b_N_add 0 = .ok (.aload_n 0, 1) := by decide +kernel
theorem d_N_add_1 : decode b_N_add 1 = .ok (.iload_n 1, 1) := by decide +kernel
theorem d_N_add_2 : decode b_N_add 2 = .ok (.invokevirtual 30, 3) := by decide +kernel
theorem d_N_add_5 : decode b_N_add 5 = .ok (.istore 4, 2) := by decide +kernel
theorem d_N_add_7 : decode b_N_add 7 = .ok (.iload 4, 2) := by decide +kernel
theorem d_N_add_9 : decode b_N_add 9 = .ok (.bipush 12, 2) := by decide +kernel
theorem d_N_add_11 : decode b_N_add 11 = .ok (.if_icmp .lt 4, 3) := by decide +kernel
theorem d_N_add_14 : decode b_N_add 14 = .ok (.return_, 1) := by decide +kernel
theorem d_N_add_15 : decode b_N_add 15 = .ok (.iload 4, 2) := by decide +kernel
theorem d_N_add_17 : decode b_N_add 17 = .ok (.aload_n 0, 1) := by decide +kernel
theorem d_N_add_18 : decode b_N_add 18 = .ok (.getfield 26, 3) := by decide +kernel
theorem d_N_add_21 : decode b_N_add 21 = .ok (.if_icmp .ne 29, 3) := by decide +kernel
theorem d_N_add_24 : decode b_N_add 24 = .ok (.aload_n 0, 1) := by decide +kernel
theorem d_N_add_25 : decode b_N_add 25 = .ok (.getfield 9, 3) := by decide +kernel
theorem d_N_add_28 : decode b_N_add 28 = .ok (.iload 4, 2) := by decide +kernel
theorem d_N_add_30 : decode b_N_add 30 = .ok (.iload_n 1, 1) := by decide +kernel
theorem d_N_add_31 : decode b_N_add 31 = .ok (.iastore, 1) := by decide +kernel
theorem d_N_add_32 : decode b_N_add 32 = .ok (.aload_n 0, 1) := by decide +kernel
theorem d_N_add_33 : decode b_N_add 33 = .ok (.getfield 19, 3) := by decide +kernel
theorem d_N_add_36 : decode b_N_add 36 = .ok (.iload 4, 2) := by decide +kernel
theorem d_N_add_38 : decode b_N_add 38 = .ok (.iconst 0, 1) := by decide +kernel
theorem d_N_add_39 : decode b_N_add 39 = .ok (.bastore, 1) := by decide +kernel
theorem d_N_add_40 : decode b_N_add 40 = .ok (.aload_n 0, 1) := by decide +kernel
theorem d_N_add_41 : decode b_N_add 41 = .ok (.dup, 1) := by decide +kernel
theorem d_N_add_42 : decode b_N_add 42 = .ok (.getfield 26, 3) := by decide +kernel
theorem d_N_add_45 : decode b_N_add 45 = .ok (.iconst 1, 1) := by decide +kernel
theorem d_N_add_46 : decode b_N_add 46 = .ok (.iadd, 1) := by decide +kernel
theorem d_N_add_47 : decode b_N_add 47 = .ok (.putfield 26, 3) := by decide +kernel
theorem d_N_add_50 : decode b_N_add 50 = .ok (.aload_n 0, 1) := by decide +kernel
theorem d_N_add_51 : decode b_N_add 51 = .ok (.getfield 15, 3) := by decide +kernel
theorem d_N_add_54 : decode b_N_add 54 = .ok (.iload 4, 2) := by decide +kernel
theorem d_N_add_56 : decode b_N_add 56 = .ok (.aload_n 2, 1) := by decide +kernel
theorem d_N_add_57 : decode b_N_add 57 = .ok (.getfield 34, 3) := by decide +kernel
theorem d_N_add_60 : decode b_N_add 60 = .ok (.bastore, 1) := by decide +kernel
theorem d_N_add_61 : decode b_N_add 61 = .ok (.aload_n 0, 1) := by decide +kernel
theorem d_N_add_62 : decode b_N_add 62 = .ok (.getfield 22, 3) := by decide +kernel
theorem d_N_add_65 : decode b_N_add 65 = .ok (.iload 4, 2) := by decide +kernel
theorem d_N_add_67 : decode b_N_add 67 = .ok (.aload_n 2, 1) := by decide +kernel
theorem d_N_add_68 : decode b_N_add 68 = .ok (.getfield 39, 3) := by decide +kernel
theorem d_N_add_71 : decode b_N_add 71 = .ok (.lastore, 1) := by decide +kernel
theorem d_N_add_72 : decode b_N_add 72 = .ok (.aload_n 0, 1) := by decide +kernel
theorem d_N_add_73 : decode b_N_add 73 = .ok (.getfield 19, 3) := by decide +kernel
theorem d_N_add_76 : decode b_N_add 76 = .ok (.iload 4, 2) := by decide +kernel
theorem d_N_add_78 : decode b_N_add 78 = .ok (.aload_n 0, 1) := by decide +kernel
theorem d_N_add_79 : decode b_N_add 79 = .ok (.getfield 19, 3) := by decide +kernel
theorem d_N_add_82 : decode b_N_add 82 = .ok (.iload 4, 2) := by decide +kernel
theorem d_N_add_84 : decode b_N_add 84 = .ok (.baload, 1) := by decide +kernel
theorem d_N_add_85 : decode b_N_add 85 = .ok (.ifCond .ne 7, 3) := by decide +kernel
theorem d_N_add_88 : decode b_N_add 88 = .ok (.iload_n 3, 1) := by decide +kernel
theorem d_N_add_89 : decode b_N_add 89 = .ok (.ifCond .eq 7, 3) := by decide +kernel
theorem d_N_add_92 : decode b_N_add 92 = .ok (.iconst 1, 1) := by decide +kernel
theorem d_N_add_93 : decode b_N_add 93 = .ok (.goto 4, 3) := by decide +kernel
theorem d_N_add_96 : decode b_N_add 96 = .ok (.iconst 0, 1) := by decide +kernel
theorem d_N_add_97 : decode b_N_add 97 = .ok (.bastore, 1) := by decide +kernel
theorem d_N_add_98 : decode b_N_add 98 = .ok (.return_, 1) := by decide +kernel
theorem d_N_placeOf_0 : decode b_N_placeOf 0 = .ok (.iconst 0, 1) := by decide +kernel
theorem d_N_placeOf_1 : decode b_N_placeOf 1 = .ok (.istore_n 2, 1) := by decide +kernel
theorem d_N_placeOf_2 : decode b_N_placeOf 2 = .ok (.iload_n 2, 1) := by decide +kernel
theorem d_N_placeOf_3 : decode b_N_placeOf 3 = .ok (.aload_n 0, 1) := by decide +kernel
theorem d_N_placeOf_4 : decode b_N_placeOf 4 = .ok (.getfield 26, 3) := by decide +kernel
theorem d_N_placeOf_7 : decode b_N_placeOf 7 = .ok (.if_icmp .ge 21, 3) := by decide +kernel
theorem d_N_placeOf_10 : decode b_N_placeOf 10 = .ok (.aload_n 0, 1) := by decide +kernel
theorem d_N_placeOf_11 : decode b_N_placeOf 11 = .ok (.getfield 9, 3) := by decide +kernel
theorem d_N_placeOf_14 : decode b_N_placeOf 14 = .ok (.iload_n 2, 1) := by decide +kernel
theorem d_N_placeOf_15 : decode b_N_placeOf 15 = .ok (.iaload, 1) := by decide +kernel
theorem d_N_placeOf_16 : decode b_N_placeOf 16 = .ok (.iload_n 1, 1) := by decide +kernel
theorem d_N_placeOf_17 : decode b_N_placeOf 17 = .ok (.if_icmp .ne 5, 3) := by decide +kernel
theorem d_N_placeOf_20 : decode b_N_placeOf 20 = .ok (.iload_n 2, 1) := by decide +kernel
theorem d_N_placeOf_21 : decode b_N_placeOf 21 = .ok (.ireturn, 1) := by decide +kernel
theorem d_N_placeOf_22 : decode b_N_placeOf 22 = .ok (.iinc 2 1, 3) := by decide +kernel
theorem d_N_placeOf_25 : decode b_N_placeOf 25 = .ok (.goto (-23), 3) := by decide +kernel
theorem d_N_placeOf_28 : decode b_N_placeOf 28 = .ok (.aload_n 0, 1) := by decide +kernel
theorem d_N_placeOf_29 : decode b_N_placeOf 29 = .ok (.getfield 26, 3) := by decide +kernel
theorem d_N_placeOf_32 : decode b_N_placeOf 32 = .ok (.ireturn, 1) := by decide +kernel
theorem d_A_addToSum_0 : decode b_A_addToSum 0 = .ok (.aload_n 0, 1) := by decide +kernel
theorem d_A_addToSum_1 : decode b_A_addToSum 1 = .ok (.ldc2_w 61, 3) := by decide +kernel
theorem d_A_addToSum_4 : decode b_A_addToSum 4 = .ok (.aload_n 0, 1) := by decide +kernel
theorem d_A_addToSum_5 : decode b_A_addToSum 5 = .ok (.getfield 42, 3) := by decide +kernel
theorem d_A_addToSum_8 : decode b_A_addToSum 8 = .ok (.lmul, 1) := by decide +kernel
theorem d_A_addToSum_9 : decode b_A_addToSum 9 = .ok (.lload_n 1, 1) := by decide +kernel
theorem d_A_addToSum_10 : decode b_A_addToSum 10 = .ok (.ladd, 1) := by decide +kernel
theorem d_A_addToSum_11 : decode b_A_addToSum 11 = .ok (.putfield 42, 3) := by decide +kernel
theorem d_A_addToSum_14 : decode b_A_addToSum 14 = .ok (.return_, 1) := by decide +kernel
theorem d_X_keep_0 : decode b_X_keep 0 = .ok (.aload_n 1, 1) := by decide +kernel
theorem d_X_keep_1 : decode b_X_keep 1 = .ok (.iconst 1, 1) := by decide +kernel
theorem d_X_keep_2 : decode b_X_keep 2 = .ok (.putfield 116, 3) := by decide +kernel
theorem d_X_keep_5 : decode b_X_keep 5 = .ok (.aload_n 1, 1) := by decide +kernel
theorem d_X_keep_6 : decode b_X_keep 6 = .ok (.iload_n 2, 1) := by decide +kernel
theorem d_X_keep_7 : decode b_X_keep 7 = .ok (.putfield 173, 3) := by decide +kernel
theorem d_X_keep_10 : decode b_X_keep 10 = .ok (.aload_n 0, 1) := by decide +kernel
theorem d_X_keep_11 : decode b_X_keep 11 = .ok (.aload_n 1, 1) := by decide +kernel
theorem d_X_keep_12 : decode b_X_keep 12 = .ok (.getfield 83, 3) := by decide +kernel
theorem d_X_keep_15 : decode b_X_keep 15 = .ok (.invokevirtual 66, 3) := by decide +kernel
theorem d_X_keep_18 : decode b_X_keep 18 = .ok (.ifCond .ne 4, 3) := by decide +kernel
theorem d_X_keep_21 : decode b_X_keep 21 = .ok (.return_, 1) := by decide +kernel
theorem d_X_keep_22 : decode b_X_keep 22 = .ok (.iload_n 2, 1) := by decide +kernel
theorem d_X_keep_23 : decode b_X_keep 23 = .ok (.iconst 1, 1) := by decide +kernel
theorem d_X_keep_24 : decode b_X_keep 24 = .ok (.if_icmp .ne 22, 3) := by decide +kernel
theorem d_X_keep_27 : decode b_X_keep 27 = .ok (.aload_n 0, 1) := by decide +kernel
theorem d_X_keep_28 : decode b_X_keep 28 = .ok (.getfield 11, 3) := by decide +kernel
theorem d_X_keep_31 : decode b_X_keep 31 = .ok (.aload_n 1, 1) := by decide +kernel
theorem d_X_keep_32 : decode b_X_keep 32 = .ok (.getfield 83, 3) := by decide +kernel
theorem d_X_keep_35 : decode b_X_keep 35 = .ok (.aaload, 1) := by decide +kernel
theorem d_X_keep_36 : decode b_X_keep 36 = .ok (.aload_n 1, 1) := by decide +kernel
theorem d_X_keep_37 : decode b_X_keep 37 = .ok (.getfield 187, 3) := by decide +kernel
theorem d_X_keep_40 : decode b_X_keep 40 = .ok (.invokevirtual 62, 3) := by decide +kernel
theorem d_X_keep_43 : decode b_X_keep 43 = .ok (.goto 15, 3) := by decide +kernel
theorem d_X_keep_46 : decode b_X_keep 46 = .ok (.aload_n 0, 1) := by decide +kernel
theorem d_X_keep_47 : decode b_X_keep 47 = .ok (.getfield 11, 3) := by decide +kernel
theorem d_X_keep_50 : decode b_X_keep 50 = .ok (.aload_n 1, 1) := by decide +kernel
theorem d_X_keep_51 : decode b_X_keep 51 = .ok (.getfield 83, 3) := by decide +kernel
theorem d_X_keep_54 : decode b_X_keep 54 = .ok (.aaload, 1) := by decide +kernel
theorem d_X_keep_55 : decode b_X_keep 55 = .ok (.invokevirtual 74, 3) := by decide +kernel
theorem d_X_keep_58 : decode b_X_keep 58 = .ok (.return_, 1) := by decide +kernel
theorem d_X_resolve_0 : decode b_X_resolve 0 = .ok (.aload_n 0, 1) := by decide +kernel
theorem d_X_resolve_1 : decode b_X_resolve 1 = .ok (.iload_n 1, 1) := by decide +kernel
theorem d_X_resolve_2 : decode b_X_resolve 2 = .ok (.invokevirtual 80, 3) := by decide +kernel
theorem d_X_resolve_5 : decode b_X_resolve 5 = .ok (.ifCond .ne 6, 3) := by decide +kernel
theorem d_X_resolve_8 : decode b_X_resolve 8 = .ok (.bipush (-9), 2) := by decide +kernel
theorem d_X_resolve_10 : decode b_X_resolve 10 = .ok (.ireturn, 1) := by decide +kernel
theorem d_X_resolve_11 : decode b_X_resolve 11 = .ok (.aload_n 0, 1) := by decide +kernel
theorem d_X_resolve_12 : decode b_X_resolve 12 = .ok (.iconst 0, 1) := by decide +kernel
theorem d_X_resolve_13 : decode b_X_resolve 13 = .ok (.putfield 44, 3) := by decide +kernel
theorem d_X_resolve_16 : decode b_X_resolve 16 = .ok (.aload_n 0, 1) := by decide +kernel
theorem d_X_resolve_17 : decode b_X_resolve 17 = .ok (.getfield 37, 3) := by decide +kernel
theorem d_X_resolve_20 : decode b_X_resolve 20 = .ok (.iconst 0, 1) := by decide +kernel
theorem d_X_resolve_21 : decode b_X_resolve 21 = .ok (.iload_n 1, 1) := by decide +kernel
theorem d_X_resolve_22 : decode b_X_resolve 22 = .ok (.iastore, 1) := by decide +kernel
theorem d_X_resolve_23 : decode b_X_resolve 23 = .ok (.iconst 1, 1) := by decide +kernel
theorem d_X_resolve_24 : decode b_X_resolve 24 = .ok (.istore_n 2, 1) := by decide +kernel
theorem d_X_resolve_25 : decode b_X_resolve 25 = .ok (.iconst 0, 1) := by decide +kernel
theorem d_X_resolve_26 : decode b_X_resolve 26 = .ok (.istore_n 3, 1) := by decide +kernel
theorem d_X_resolve_27 : decode b_X_resolve 27 = .ok (.iload_n 3, 1) := by decide +kernel
theorem d_X_resolve_28 : decode b_X_resolve 28 = .ok (.sipush 10000, 3) := by decide +kernel
theorem d_X_resolve_31 : decode b_X_resolve 31 = .ok (.if_icmp .ge 112, 3) := by decide +kernel
theorem d_X_resolve_34 : decode b_X_resolve 34 = .ok (.iload_n 2, 1) := by decide +kernel
theorem d_X_resolve_35 : decode b_X_resolve 35 = .ok (.aload_n 0, 1) := by decide +kernel
theorem d_X_resolve_36 : decode b_X_resolve 36 = .ok (.getfield 37, 3) := by decide +kernel
theorem d_X_resolve_39 : decode b_X_resolve 39 = .ok (.arraylength, 1) := by decide +kernel
theorem d_X_resolve_40 : decode b_X_resolve 40 = .ok (.if_icmp .ge 103, 3) := by decide +kernel
theorem d_X_resolve_43 : decode b_X_resolve 43 = .ok (.aload_n 0, 1) := by decide +kernel
theorem d_X_resolve_44 : decode b_X_resolve 44 = .ok (.getfield 37, 3) := by decide +kernel
theorem d_X_resolve_47 : decode b_X_resolve 47 = .ok (.iload_n 2, 1) := by decide +kernel
theorem d_X_resolve_48 : decode b_X_resolve 48 = .ok (.iconst 1, 1) := by decide +kernel
theorem d_X_resolve_49 : decode b_X_resolve 49 = .ok (.isub, 1) := by decide +kernel
theorem d_X_resolve_50 : decode b_X_resolve 50 = .ok (.iaload, 1) := by decide +kernel
theorem d_X_resolve_51 : decode b_X_resolve 51 = .ok (.istore 4, 2) := by decide +kernel
theorem d_X_resolve_53 : decode b_X_resolve 53 = .ok (.aload_n 0, 1) := by decide +kernel
theorem d_X_resolve_54 : decode b_X_resolve 54 = .ok (.iload 4, 2) := by decide +kernel
theorem d_X_resolve_56 : decode b_X_resolve 56 = .ok (.invokevirtual 99, 3) := by decide +kernel
theorem d_X_resolve_59 : decode b_X_resolve 59 = .ok (.istore 5, 2) := by decide +kernel
theorem d_X_resolve_61 : decode b_X_resolve 61 = .ok (.iload 5, 2) := by decide +kernel
theorem d_X_resolve_63 : decode b_X_resolve 63 = .ok (.ifCond .ne 50, 3) := by decide +kernel
theorem d_X_resolve_66 : decode b_X_resolve 66 = .ok (.aload_n 0, 1) := by decide +kernel
theorem d_X_resolve_67 : decode b_X_resolve 67 = .ok (.getfield 11, 3) := by decide +kernel
theorem d_X_resolve_70 : decode b_X_resolve 70 = .ok (.aload_n 0, 1) := by decide +kernel
theorem d_X_resolve_71 : decode b_X_resolve 71 = .ok (.getfield 17, 3) := by decide +kernel
theorem d_X_resolve_74 : decode b_X_resolve 74 = .ok (.iload 4, 2) := by decide +kernel
theorem d_X_resolve_76 : decode b_X_resolve 76 = .ok (.aaload, 1) := by decide +kernel
theorem d_X_resolve_77 : decode b_X_resolve 77 = .ok (.getfield 103, 3) := by decide +kernel
theorem d_X_resolve_80 : decode b_X_resolve 80 = .ok (.aaload, 1) := by decide +kernel
theorem d_X_resolve_81 : decode b_X_resolve 81 = .ok (.getfield 89, 3) := by decide +kernel
theorem d_X_resolve_84 : decode b_X_resolve 84 = .ok (.istore 6, 2) := by decide +kernel
theorem d_X_resolve_86 : decode b_X_resolve 86 = .ok (.aload_n 0, 1) := by decide +kernel
theorem d_X_resolve_87 : decode b_X_resolve 87 = .ok (.iload 6, 2) := by decide +kernel
theorem d_X_resolve_89 : decode b_X_resolve 89 = .ok (.iload_n 2, 1) := by decide +kernel
theorem d_X_resolve_90 : decode b_X_resolve 90 = .ok (.invokevirtual 106, 3) := by decide +kernel
theorem d_X_resolve_93 : decode b_X_resolve 93 = .ok (.ifCond .eq 6, 3) := by decide +kernel
theorem d_X_resolve_96 : decode b_X_resolve 96 = .ok (.bipush (-5), 2) := by decide +kernel
theorem d_X_resolve_98 : decode b_X_resolve 98 = .ok (.ireturn, 1) := by decide +kernel
theorem d_X_resolve_99 : decode b_X_resolve 99 = .ok (.aload_n 0, 1) := by decide +kernel
theorem d_X_resolve_100 : decode b_X_resolve 100 = .ok (.getfield 37, 3) := by decide +kernel
theorem d_X_resolve_103 : decode b_X_resolve 103 = .ok (.iload_n 2, 1) := by decide +kernel
theorem d_X_resolve_104 : decode b_X_resolve 104 = .ok (.iload 6, 2) := by decide +kernel
theorem d_X_resolve_106 : decode b_X_resolve 106 = .ok (.iastore, 1) := by decide +kernel
theorem d_X_resolve_107 : decode b_X_resolve 107 = .ok (.iinc 2 1, 3) := by decide +kernel
theorem d_X_resolve_110 : decode b_X_resolve 110 = .ok (.goto 27, 3) := by decide +kernel
theorem d_X_resolve_113 : decode b_X_resolve 113 = .ok (.iload_n 2, 1) := by decide +kernel
theorem d_X_resolve_114 : decode b_X_resolve 114 = .ok (.iconst 1, 1) := by decide +kernel
theorem d_X_resolve_115 : decode b_X_resolve 115 = .ok (.if_icmp .eq 16, 3) := by decide +kernel
theorem d_X_resolve_118 : decode b_X_resolve 118 = .ok (.iload 5, 2) := by decide +kernel
theorem d_X_resolve_120 : decode b_X_resolve 120 = .ok (.iconst (-1), 1) := by decide +kernel
theorem d_X_resolve_121 : decode b_X_resolve 121 = .ok (.if_icmp .eq 10, 3) := by decide +kernel
theorem d_X_resolve_124 : decode b_X_resolve 124 = .ok (.iload 5, 2) := by decide +kernel
theorem d_X_resolve_126 : decode b_X_resolve 126 = .ok (.bipush (-2), 2) := by decide +kernel
theorem d_X_resolve_128 : decode b_X_resolve 128 = .ok (.if_icmp .ne 6, 3) := by decide +kernel
theorem d_X_resolve_131 : decode b_X_resolve 131 = .ok (.iload 5, 2) := by decide +kernel
theorem d_X_resolve_133 : decode b_X_resolve 133 = .ok (.ireturn, 1) := by decide +kernel
theorem d_X_resolve_134 : decode b_X_resolve 134 = .ok (.iinc 2 (-1), 3) := by decide +kernel
theorem d_X_resolve_137 : decode b_X_resolve 137 = .ok (.iinc 3 1, 3) := by decide +kernel
theorem d_X_resolve_140 : decode b_X_resolve 140 = .ok (.goto (-113), 3) := by decide +kernel
theorem d_X_resolve_143 : decode b_X_resolve 143 = .ok (.bipush (-2), 2) := by decide +kernel
theorem d_X_resolve_145 : decode b_X_resolve 145 = .ok (.ireturn, 1) := by decide +kernel
theorem d_X_tellRing_0 : decode b_X_tellRing 0 = .ok (.iconst 0, 1) := by decide +kernel
theorem d_X_tellRing_1 : decode b_X_tellRing 1 = .ok (.istore_n 3, 1) := by decide +kernel
theorem d_X_tellRing_2 : decode b_X_tellRing 2 = .ok (.iload_n 3, 1) := by decide +kernel
theorem d_X_tellRing_3 : decode b_X_tellRing 3 = .ok (.iload_n 2, 1) := by decide +kernel
theorem d_X_tellRing_4 : decode b_X_tellRing 4 = .ok (.if_icmp .ge 33, 3) := by decide +kernel
theorem d_X_tellRing_7 : decode b_X_tellRing 7 = .ok (.aload_n 0, 1) := by decide +kernel
theorem d_X_tellRing_8 : decode b_X_tellRing 8 = .ok (.getfield 37, 3) := by decide +kernel
theorem d_X_tellRing_11 : decode b_X_tellRing 11 = .ok (.iload_n 3, 1) := by decide +kernel
theorem d_X_tellRing_12 : decode b_X_tellRing 12 = .ok (.iaload, 1) := by decide +kernel
theorem d_X_tellRing_13 : decode b_X_tellRing 13 = .ok (.iload_n 1, 1) := by decide +kernel
theorem d_X_tellRing_14 : decode b_X_tellRing 14 = .ok (.if_icmp .ne 17, 3) := by decide +kernel
theorem d_X_tellRing_17 : decode b_X_tellRing 17 = .ok (.aload_n 0, 1) := by decide +kernel
theorem d_X_tellRing_18 : decode b_X_tellRing 18 = .ok (.iload_n 3, 1) := by decide +kernel
theorem d_X_tellRing_19 : decode b_X_tellRing 19 = .ok (.putfield 41, 3) := by decide +kernel
theorem d_X_tellRing_22 : decode b_X_tellRing 22 = .ok (.aload_n 0, 1) := by decide +kernel
theorem d_X_tellRing_23 : decode b_X_tellRing 23 = .ok (.iload_n 2, 1) := by decide +kernel
theorem d_X_tellRing_24 : decode b_X_tellRing 24 = .ok (.iload_n 3, 1) := by decide +kernel
theorem d_X_tellRing_25 : decode b_X_tellRing 25 = .ok (.isub, 1) := by decide +kernel
theorem d_X_tellRing_26 : decode b_X_tellRing 26 = .ok (.putfield 44, 3) := by decide +kernel
theorem d_X_tellRing_29 : decode b_X_tellRing 29 = .ok (.iconst 1, 1) := by decide +kernel
theorem d_X_tellRing_30 : decode b_X_tellRing 30 = .ok (.ireturn, 1) := by decide +kernel
theorem d_X_tellRing_31 : decode b_X_tellRing 31 = .ok (.iinc 3 1, 3) := by decide +kernel
theorem d_X_tellRing_34 : decode b_X_tellRing 34 = .ok (.goto (-32), 3) := by decide +kernel
theorem d_X_tellRing_37 : decode b_X_tellRing 37 = .ok (.iconst 0, 1) := by decide +kernel
theorem d_X_tellRing_38 : decode b_X_tellRing 38 = .ok (.ireturn, 1) := by decide +kernel
theorem d_X_ring_0 : decode b_X_ring 0 = .ok (.iload_n 1, 1) := by decide +kernel
theorem d_X_ring_1 : decode b_X_ring 1 = .ok (.ifCond .lt 25, 3) := by decide +kernel
theorem d_X_ring_4 : decode b_X_ring 4 = .ok (.iload_n 1, 1) := by decide +kernel
theorem d_X_ring_5 : decode b_X_ring 5 = .ok (.aload_n 0, 1) := by decide +kernel
theorem d_X_ring_6 : decode b_X_ring 6 = .ok (.getfield 44, 3) := by decide +kernel
theorem d_X_ring_9 : decode b_X_ring 9 = .ok (.if_icmp .ge 17, 3) := by decide +kernel
theorem d_X_ring_12 : decode b_X_ring 12 = .ok (.aload_n 0, 1) := by decide +kernel
theorem d_X_ring_13 : decode b_X_ring 13 = .ok (.getfield 37, 3) := by decide +kernel
theorem d_X_ring_16 : decode b_X_ring 16 = .ok (.aload_n 0, 1) := by decide +kernel
theorem d_X_ring_17 : decode b_X_ring 17 = .ok (.getfield 41, 3) := by decide +kernel
theorem d_X_ring_20 : decode b_X_ring 20 = .ok (.iload_n 1, 1) := by decide +kernel
theorem d_X_ring_21 : decode b_X_ring 21 = .ok (.iadd, 1) := by decide +kernel
theorem d_X_ring_22 : decode b_X_ring 22 = .ok (.iaload, 1) := by decide +kernel
theorem d_X_ring_23 : decode b_X_ring 23 = .ok (.goto 4, 3) := by decide +kernel
theorem d_X_ring_26 : decode b_X_ring 26 = .ok (.iconst (-1), 1) := by decide +kernel
theorem d_X_ring_27 : decode b_X_ring 27 = .ok (.ireturn, 1) := by decide +kernel
theorem d_X_waits_0 : decode b_X_waits 0 = .ok (.aload_n 0, 1) := by decide +kernel
theorem d_X_waits_1 : decode b_X_waits 1 = .ok (.iload_n 1, 1) := by decide +kernel
theorem d_X_waits_2 : decode b_X_waits 2 = .ok (.invokevirtual 80, 3) := by decide +kernel
theorem d_X_waits_5 : decode b_X_waits 5 = .ok (.ifCond .eq 15, 3) := by decide +kernel
theorem d_X_waits_8 : decode b_X_waits 8 = .ok (.aload_n 0, 1) := by decide +kernel
theorem d_X_waits_9 : decode b_X_waits 9 = .ok (.getfield 17, 3) := by decide +kernel
theorem d_X_waits_12 : decode b_X_waits 12 = .ok (.iload_n 1, 1) := by decide +kernel
theorem d_X_waits_13 : decode b_X_waits 13 = .ok (.aaload, 1) := by decide +kernel
theorem d_X_waits_14 : decode b_X_waits 14 = .ok (.getfield 103, 3) := by decide +kernel
theorem d_X_waits_17 : decode b_X_waits 17 = .ok (.goto 4, 3) := by decide +kernel
theorem d_X_waits_20 : decode b_X_waits 20 = .ok (.iconst (-1), 1) := by decide +kernel
theorem d_X_waits_21 : decode b_X_waits 21 = .ok (.ireturn, 1) := by decide +kernel
theorem d_X_fresh_0 : decode b_X_fresh 0 = .ok (.aload_n 0, 1) := by decide +kernel
theorem d_X_fresh_1 : decode b_X_fresh 1 = .ok (.iload_n 1, 1) := by decide +kernel
theorem d_X_fresh_2 : decode b_X_fresh 2 = .ok (.invokevirtual 80, 3) := by decide +kernel
theorem d_X_fresh_5 : decode b_X_fresh 5 = .ok (.ifCond .eq 18, 3) := by decide +kernel
theorem d_X_fresh_8 : decode b_X_fresh 8 = .ok (.aload_n 0, 1) := by decide +kernel
theorem d_X_fresh_9 : decode b_X_fresh 9 = .ok (.invokevirtual 109, 3) := by decide +kernel
theorem d_X_fresh_12 : decode b_X_fresh 12 = .ok (.iload_n 1, 1) := by decide +kernel
theorem d_X_fresh_13 : decode b_X_fresh 13 = .ok (.invokestatic 113, 3) := by decide +kernel
theorem d_X_fresh_16 : decode b_X_fresh 16 = .ok (.ifCond .eq 7, 3) := by decide +kernel
theorem d_X_fresh_19 : decode b_X_fresh 19 = .ok (.iconst 1, 1) := by decide +kernel
theorem d_X_fresh_20 : decode b_X_fresh 20 = .ok (.goto 4, 3) := by decide +kernel
theorem d_X_fresh_23 : decode b_X_fresh 23 = .ok (.iconst 0, 1) := by decide +kernel
theorem d_X_fresh_24 : decode b_X_fresh 24 = .ok (.ireturn, 1) := by decide +kernel
theorem d_X_kept_0 : decode b_X_kept 0 = .ok (.aload_n 0, 1) := by decide +kernel
theorem d_X_kept_1 : decode b_X_kept 1 = .ok (.iload_n 1, 1) := by decide +kernel
theorem d_X_kept_2 : decode b_X_kept 2 = .ok (.invokevirtual 80, 3) := by decide +kernel
theorem d_X_kept_5 : decode b_X_kept 5 = .ok (.ifCond .eq 15, 3) := by decide +kernel
theorem d_X_kept_8 : decode b_X_kept 8 = .ok (.aload_n 0, 1) := by decide +kernel
theorem d_X_kept_9 : decode b_X_kept 9 = .ok (.getfield 17, 3) := by decide +kernel
theorem d_X_kept_12 : decode b_X_kept 12 = .ok (.iload_n 1, 1) := by decide +kernel
theorem d_X_kept_13 : decode b_X_kept 13 = .ok (.aaload, 1) := by decide +kernel
theorem d_X_kept_14 : decode b_X_kept 14 = .ok (.getfield 116, 3) := by decide +kernel
theorem d_X_kept_17 : decode b_X_kept 17 = .ok (.ifCond .ne 5, 3) := by decide +kernel
theorem d_X_kept_20 : decode b_X_kept 20 = .ok (.iconst (-1), 1) := by decide +kernel
theorem d_X_kept_21 : decode b_X_kept 21 = .ok (.ireturn, 1) := by decide +kernel
theorem d_X_kept_22 : decode b_X_kept 22 = .ok (.aload_n 0, 1) := by decide +kernel
theorem d_X_kept_23 : decode b_X_kept 23 = .ok (.getfield 17, 3) := by decide +kernel
theorem d_X_kept_26 : decode b_X_kept 26 = .ok (.iload_n 1, 1) := by decide +kernel
theorem d_X_kept_27 : decode b_X_kept 27 = .ok (.aaload, 1) := by decide +kernel
theorem d_X_kept_28 : decode b_X_kept 28 = .ok (.getfield 120, 3) := by decide +kernel
theorem d_X_kept_31 : decode b_X_kept 31 = .ok (.iload_n 2, 1) := by decide +kernel
theorem d_X_kept_32 : decode b_X_kept 32 = .ok (.iload_n 3, 1) := by decide +kernel
theorem d_X_kept_33 : decode b_X_kept 33 = .ok (.invokevirtual 124, 3) := by decide +kernel
theorem d_X_kept_36 : decode b_X_kept 36 = .ok (.ireturn, 1) := by decide +kernel
theorem d_N_tell_0 : decode b_N_tell 0 = .ok (.iload_n 1, 1) := by decide +kernel
theorem d_N_tell_1 : decode b_N_tell 1 = .ok (.ifCond .lt 11, 3) := by decide +kernel
theorem d_N_tell_4 : decode b_N_tell 4 = .ok (.iload_n 1, 1) := by decide +kernel
theorem d_N_tell_5 : decode b_N_tell 5 = .ok (.aload_n 0, 1) := by decide +kernel
theorem d_N_tell_6 : decode b_N_tell 6 = .ok (.getfield 26, 3) := by decide +kernel
theorem d_N_tell_9 : decode b_N_tell 9 = .ok (.if_icmp .lt 5, 3) := by decide +kernel
theorem d_N_tell_12 : decode b_N_tell 12 = .ok (.iconst (-1), 1) := by decide +kernel
theorem d_N_tell_13 : decode b_N_tell 13 = .ok (.ireturn, 1) := by decide +kernel
theorem d_N_tell_14 : decode b_N_tell 14 = .ok (.iload_n 2, 1) := by decide +kernel
theorem d_N_tell_15 : decode b_N_tell 15 = .ok (.tableswitch 62 0 2 #[25, 32, 47], 25) := by decide +kernel
theorem d_N_tell_40 : decode b_N_tell 40 = .ok (.aload_n 0, 1) := by decide +kernel
theorem d_N_tell_41 : decode b_N_tell 41 = .ok (.getfield 9, 3) := by decide +kernel
theorem d_N_tell_44 : decode b_N_tell 44 = .ok (.iload_n 1, 1) := by decide +kernel
theorem d_N_tell_45 : decode b_N_tell 45 = .ok (.iaload, 1) := by decide +kernel
theorem d_N_tell_46 : decode b_N_tell 46 = .ok (.ireturn, 1) := by decide +kernel
theorem d_N_tell_47 : decode b_N_tell 47 = .ok (.aload_n 0, 1) := by decide +kernel
theorem d_N_tell_48 : decode b_N_tell 48 = .ok (.getfield 15, 3) := by decide +kernel
theorem d_N_tell_51 : decode b_N_tell 51 = .ok (.iload_n 1, 1) := by decide +kernel
theorem d_N_tell_52 : decode b_N_tell 52 = .ok (.baload, 1) := by decide +kernel
theorem d_N_tell_53 : decode b_N_tell 53 = .ok (.ifCond .eq 7, 3) := by decide +kernel
theorem d_N_tell_56 : decode b_N_tell 56 = .ok (.iconst 1, 1) := by decide +kernel
theorem d_N_tell_57 : decode b_N_tell 57 = .ok (.goto 4, 3) := by decide +kernel
theorem d_N_tell_60 : decode b_N_tell 60 = .ok (.iconst 0, 1) := by decide +kernel
theorem d_N_tell_61 : decode b_N_tell 61 = .ok (.ireturn, 1) := by decide +kernel
theorem d_N_tell_62 : decode b_N_tell 62 = .ok (.aload_n 0, 1) := by decide +kernel
theorem d_N_tell_63 : decode b_N_tell 63 = .ok (.getfield 19, 3) := by decide +kernel
theorem d_N_tell_66 : decode b_N_tell 66 = .ok (.iload_n 1, 1) := by decide +kernel
theorem d_N_tell_67 : decode b_N_tell 67 = .ok (.baload, 1) := by decide +kernel
theorem d_N_tell_68 : decode b_N_tell 68 = .ok (.ifCond .eq 7, 3) := by decide +kernel
theorem d_N_tell_71 : decode b_N_tell 71 = .ok (.iconst 1, 1) := by decide +kernel
theorem d_N_tell_72 : decode b_N_tell 72 = .ok (.goto 4, 3) := by decide +kernel
theorem d_N_tell_75 : decode b_N_tell 75 = .ok (.iconst 0, 1) := by decide +kernel
theorem d_N_tell_76 : decode b_N_tell 76 = .ok (.ireturn, 1) := by decide +kernel
theorem d_N_tell_77 : decode b_N_tell 77 = .ok (.iconst (-1), 1) := by decide +kernel
theorem d_N_tell_78 : decode b_N_tell 78 = .ok (.ireturn, 1) := by decide +kernel
theorem d_X_unused_0 : decode b_X_unused 0 = .ok (.aload_n 0, 1) := by decide +kernel
theorem d_X_unused_1 : decode b_X_unused 1 = .ok (.iload_n 1, 1) := by decide +kernel
theorem d_X_unused_2 : decode b_X_unused 2 = .ok (.invokevirtual 80, 3) := by decide +kernel
theorem d_X_unused_5 : decode b_X_unused 5 = .ok (.ifCond .ne 5, 3) := by decide +kernel
theorem d_X_unused_8 : decode b_X_unused 8 = .ok (.iconst 0, 1) := by decide +kernel
theorem d_X_unused_9 : decode b_X_unused 9 = .ok (.ireturn, 1) := by decide +kernel
theorem d_X_unused_10 : decode b_X_unused 10 = .ok (.aload_n 0, 1) := by decide +kernel
theorem d_X_unused_11 : decode b_X_unused 11 = .ok (.getfield 17, 3) := by decide +kernel
theorem d_X_unused_14 : decode b_X_unused 14 = .ok (.iload_n 1, 1) := by decide +kernel
theorem d_X_unused_15 : decode b_X_unused 15 = .ok (.aaload, 1) := by decide +kernel
theorem d_X_unused_16 : decode b_X_unused 16 = .ok (.getfield 77, 3) := by decide +kernel
theorem d_X_unused_19 : decode b_X_unused 19 = .ok (.iconst 1, 1) := by decide +kernel
theorem d_X_unused_20 : decode b_X_unused 20 = .ok (.aload_n 0, 1) := by decide +kernel
theorem d_X_unused_21 : decode b_X_unused 21 = .ok (.getfield 27, 3) := by decide +kernel
theorem d_X_unused_24 : decode b_X_unused 24 = .ok (.ishl, 1) := by decide +kernel
theorem d_X_unused_25 : decode b_X_unused 25 = .ok (.iconst 1, 1) := by decide +kernel
theorem d_X_unused_26 : decode b_X_unused 26 = .ok (.isub, 1) := by decide +kernel
theorem d_X_unused_27 : decode b_X_unused 27 = .ok (.iand, 1) := by decide +kernel
theorem d_X_unused_28 : decode b_X_unused 28 = .ok (.istore_n 2, 1) := by decide +kernel
theorem d_X_unused_29 : decode b_X_unused 29 = .ok (.iload_n 2, 1) := by decide +kernel
theorem d_X_unused_30 : decode b_X_unused 30 = .ok (.aload_n 0, 1) := by decide +kernel
theorem d_X_unused_31 : decode b_X_unused 31 = .ok (.getfield 17, 3) := by decide +kernel
theorem d_X_unused_34 : decode b_X_unused 34 = .ok (.iload_n 1, 1) := by decide +kernel
theorem d_X_unused_35 : decode b_X_unused 35 = .ok (.aaload, 1) := by decide +kernel
theorem d_X_unused_36 : decode b_X_unused 36 = .ok (.getfield 120, 3) := by decide +kernel
theorem d_X_unused_39 : decode b_X_unused 39 = .ok (.invokevirtual 129, 3) := by decide +kernel
theorem d_X_unused_42 : decode b_X_unused 42 = .ok (.iconst (-1), 1) := by decide +kernel
theorem d_X_unused_43 : decode b_X_unused 43 = .ok (.ixor, 1) := by decide +kernel
theorem d_X_unused_44 : decode b_X_unused 44 = .ok (.iand, 1) := by decide +kernel
theorem d_X_unused_45 : decode b_X_unused 45 = .ok (.ireturn, 1) := by decide +kernel
theorem d_N_fileBits_0 : decode b_N_fileBits 0 = .ok (.iconst 0, 1) := by decide +kernel
theorem d_N_fileBits_1 : decode b_N_fileBits 1 = .ok (.istore_n 1, 1) := by decide +kernel
theorem d_N_fileBits_2 : decode b_N_fileBits 2 = .ok (.iconst 0, 1) := by decide +kernel
theorem d_N_fileBits_3 : decode b_N_fileBits 3 = .ok (.istore_n 2, 1) := by decide +kernel
theorem d_N_fileBits_4 : decode b_N_fileBits 4 = .ok (.iload_n 2, 1) := by decide +kernel
theorem d_N_fileBits_5 : decode b_N_fileBits 5 = .ok (.aload_n 0, 1) := by decide +kernel
theorem d_N_fileBits_6 : decode b_N_fileBits 6 = .ok (.getfield 26, 3) := by decide +kernel
theorem d_N_fileBits_9 : decode b_N_fileBits 9 = .ok (.if_icmp .ge 20, 3) := by decide +kernel
theorem d_N_fileBits_12 : decode b_N_fileBits 12 = .ok (.iload_n 1, 1) := by decide +kernel
theorem d_N_fileBits_13 : decode b_N_fileBits 13 = .ok (.iconst 1, 1) := by decide +kernel
theorem d_N_fileBits_14 : decode b_N_fileBits 14 = .ok (.aload_n 0, 1) := by decide +kernel
theorem d_N_fileBits_15 : decode b_N_fileBits 15 = .ok (.getfield 9, 3) := by decide +kernel
theorem d_N_fileBits_18 : decode b_N_fileBits 18 = .ok (.iload_n 2, 1) := by decide +kernel
theorem d_N_fileBits_19 : decode b_N_fileBits 19 = .ok (.iaload, 1) := by decide +kernel
theorem d_N_fileBits_20 : decode b_N_fileBits 20 = .ok (.ishl, 1) := by decide +kernel
theorem d_N_fileBits_21 : decode b_N_fileBits 21 = .ok (.ior, 1) := by decide +kernel
theorem d_N_fileBits_22 : decode b_N_fileBits 22 = .ok (.istore_n 1, 1) := by decide +kernel
theorem d_N_fileBits_23 : decode b_N_fileBits 23 = .ok (.iinc 2 1, 3) := by decide +kernel
theorem d_N_fileBits_26 : decode b_N_fileBits 26 = .ok (.goto (-22), 3) := by decide +kernel
theorem d_N_fileBits_29 : decode b_N_fileBits 29 = .ok (.iload_n 1, 1) := by decide +kernel
theorem d_N_fileBits_30 : decode b_N_fileBits 30 = .ok (.ireturn, 1) := by decide +kernel
theorem d_X_digest_0 : decode b_X_digest 0 = .ok (.aload_n 0, 1) := by decide +kernel
theorem d_X_digest_1 : decode b_X_digest 1 = .ok (.iload_n 1, 1) := by decide +kernel
theorem d_X_digest_2 : decode b_X_digest 2 = .ok (.invokevirtual 66, 3) := by decide +kernel
theorem d_X_digest_5 : decode b_X_digest 5 = .ok (.ifCond .eq 15, 3) := by decide +kernel
theorem d_X_digest_8 : decode b_X_digest 8 = .ok (.aload_n 0, 1) := by decide +kernel
theorem d_X_digest_9 : decode b_X_digest 9 = .ok (.getfield 11, 3) := by decide +kernel
theorem d_X_digest_12 : decode b_X_digest 12 = .ok (.iload_n 1, 1) := by decide +kernel
theorem d_X_digest_13 : decode b_X_digest 13 = .ok (.aaload, 1) := by decide +kernel
theorem d_X_digest_14 : decode b_X_digest 14 = .ok (.getfield 132, 3) := by decide +kernel
theorem d_X_digest_17 : decode b_X_digest 17 = .ok (.goto 4, 3) := by decide +kernel
theorem d_X_digest_20 : decode b_X_digest 20 = .ok (.lconst 0, 1) := by decide +kernel
theorem d_X_digest_21 : decode b_X_digest 21 = .ok (.lreturn, 1) := by decide +kernel
theorem d_X_counted_0 : decode b_X_counted 0 = .ok (.aload_n 0, 1) := by decide +kernel
theorem d_X_counted_1 : decode b_X_counted 1 = .ok (.iload_n 1, 1) := by decide +kernel
theorem d_X_counted_2 : decode b_X_counted 2 = .ok (.invokevirtual 80, 3) := by decide +kernel
theorem d_X_counted_5 : decode b_X_counted 5 = .ok (.ifCond .ne 5, 3) := by decide +kernel
theorem d_X_counted_8 : decode b_X_counted 8 = .ok (.iconst (-1), 1) := by decide +kernel
theorem d_X_counted_9 : decode b_X_counted 9 = .ok (.ireturn, 1) := by decide +kernel
theorem d_X_counted_10 : decode b_X_counted 10 = .ok (.iload_n 2, 1) := by decide +kernel
theorem d_X_counted_11 : decode b_X_counted 11 = .ok (.tableswitch 55 0 2 #[25, 35, 45], 25) := by decide +kernel
theorem d_X_counted_36 : decode b_X_counted 36 = .ok (.aload_n 0, 1) := by decide +kernel
theorem d_X_counted_37 : decode b_X_counted 37 = .ok (.getfield 17, 3) := by decide +kernel
theorem d_X_counted_40 : decode b_X_counted 40 = .ok (.iload_n 1, 1) := by decide +kernel
theorem d_X_counted_41 : decode b_X_counted 41 = .ok (.aaload, 1) := by decide +kernel
theorem d_X_counted_42 : decode b_X_counted 42 = .ok (.getfield 136, 3) := by decide +kernel
theorem d_X_counted_45 : decode b_X_counted 45 = .ok (.ireturn, 1) := by decide +kernel
theorem d_X_counted_46 : decode b_X_counted 46 = .ok (.aload_n 0, 1) := by decide +kernel
theorem d_X_counted_47 : decode b_X_counted 47 = .ok (.getfield 17, 3) := by decide +kernel
theorem d_X_counted_50 : decode b_X_counted 50 = .ok (.iload_n 1, 1) := by decide +kernel
theorem d_X_counted_51 : decode b_X_counted 51 = .ok (.aaload, 1) := by decide +kernel
theorem d_X_counted_52 : decode b_X_counted 52 = .ok (.getfield 139, 3) := by decide +kernel
theorem d_X_counted_55 : decode b_X_counted 55 = .ok (.ireturn, 1) := by decide +kernel
theorem d_X_counted_56 : decode b_X_counted 56 = .ok (.aload_n 0, 1) := by decide +kernel
theorem d_X_counted_57 : decode b_X_counted 57 = .ok (.getfield 17, 3) := by decide +kernel
theorem d_X_counted_60 : decode b_X_counted 60 = .ok (.iload_n 1, 1) := by decide +kernel
theorem d_X_counted_61 : decode b_X_counted 61 = .ok (.aaload, 1) := by decide +kernel
theorem d_X_counted_62 : decode b_X_counted 62 = .ok (.getfield 142, 3) := by decide +kernel
theorem d_X_counted_65 : decode b_X_counted 65 = .ok (.ireturn, 1) := by decide +kernel
theorem d_X_counted_66 : decode b_X_counted 66 = .ok (.iconst (-1), 1) := by decide +kernel
theorem d_X_counted_67 : decode b_X_counted 67 = .ok (.ireturn, 1) := by decide +kernel
theorem d_X_members_0 : decode b_X_members 0 = .ok (.aload_n 0, 1) := by decide +kernel
theorem d_X_members_1 : decode b_X_members 1 = .ok (.iload_n 1, 1) := by decide +kernel
theorem d_X_members_2 : decode b_X_members 2 = .ok (.invokevirtual 66, 3) := by decide +kernel
theorem d_X_members_5 : decode b_X_members 5 = .ok (.ifCond .eq 15, 3) := by decide +kernel
theorem d_X_members_8 : decode b_X_members 8 = .ok (.aload_n 0, 1) := by decide +kernel
theorem d_X_members_9 : decode b_X_members 9 = .ok (.getfield 11, 3) := by decide +kernel
theorem d_X_members_12 : decode b_X_members 12 = .ok (.iload_n 1, 1) := by decide +kernel
theorem d_X_members_13 : decode b_X_members 13 = .ok (.aaload, 1) := by decide +kernel
theorem d_X_members_14 : decode b_X_members 14 = .ok (.invokestatic 145, 3) := by decide +kernel
theorem d_X_members_17 : decode b_X_members 17 = .ok (.goto 4, 3) := by decide +kernel
theorem d_X_members_20 : decode b_X_members 20 = .ok (.iconst 0, 1) := by decide +kernel
theorem d_X_members_21 : decode b_X_members 21 = .ok (.ireturn, 1) := by decide +kernel
theorem d_X_treeSize_0 : decode b_X_treeSize 0 = .ok (.aload_n 0, 1) := by decide +kernel
theorem d_X_treeSize_1 : decode b_X_treeSize 1 = .ok (.invokevirtual 70, 3) := by decide +kernel
theorem d_X_treeSize_4 : decode b_X_treeSize 4 = .ok (.ifCond .eq 10, 3) := by decide +kernel
theorem d_X_treeSize_7 : decode b_X_treeSize 7 = .ok (.aload_n 0, 1) := by decide +kernel
theorem d_X_treeSize_8 : decode b_X_treeSize 8 = .ok (.getfield 158, 3) := by decide +kernel
theorem d_X_treeSize_11 : decode b_X_treeSize 11 = .ok (.ifCond .ne 5, 3) := by decide +kernel
theorem d_X_treeSize_14 : decode b_X_treeSize 14 = .ok (.iconst 0, 1) := by decide +kernel
theorem d_X_treeSize_15 : decode b_X_treeSize 15 = .ok (.ireturn, 1) := by decide +kernel
theorem d_X_treeSize_16 : decode b_X_treeSize 16 = .ok (.aload_n 0, 1) := by decide +kernel
theorem d_X_treeSize_17 : decode b_X_treeSize 17 = .ok (.getfield 132, 3) := by decide +kernel
theorem d_X_treeSize_20 : decode b_X_treeSize 20 = .ok (.ldc2_w 228, 3) := by decide +kernel
theorem d_X_treeSize_23 : decode b_X_treeSize 23 = .ok (.invokestatic 230, 3) := by decide +kernel
theorem d_X_treeSize_26 : decode b_X_treeSize 26 = .ok (.l2i, 1) := by decide +kernel
theorem d_X_treeSize_27 : decode b_X_treeSize 27 = .ok (.ireturn, 1) := by decide +kernel
theorem d_J_floorMod_0 : decode b_J_floorMod 0 = .ok (.lload_n 0, 1) := by decide +kernel
theorem d_J_floorMod_1 : decode b_J_floorMod 1 = .ok (.lload_n 2, 1) := by decide +kernel
theorem d_J_floorMod_2 : decode b_J_floorMod 2 = .ok (.lrem, 1) := by decide +kernel
theorem d_J_floorMod_3 : decode b_J_floorMod 3 = .ok (.lstore 4, 2) := by decide +kernel
theorem d_J_floorMod_5 : decode b_J_floorMod 5 = .ok (.lload_n 0, 1) := by decide +kernel
theorem d_J_floorMod_6 : decode b_J_floorMod 6 = .ok (.lload_n 2, 1) := by decide +kernel
theorem d_J_floorMod_7 : decode b_J_floorMod 7 = .ok (.lxor, 1) := by decide +kernel
theorem d_J_floorMod_8 : decode b_J_floorMod 8 = .ok (.lconst 0, 1) := by decide +kernel
theorem d_J_floorMod_9 : decode b_J_floorMod 9 = .ok (.lcmp, 1) := by decide +kernel
theorem d_J_floorMod_10 : decode b_J_floorMod 10 = .ok (.ifCond .ge 15, 3) := by decide +kernel
theorem d_J_floorMod_13 : decode b_J_floorMod 13 = .ok (.lload 4, 2) := by decide +kernel
theorem d_J_floorMod_15 : decode b_J_floorMod 15 = .ok (.lconst 0, 1) := by decide +kernel
theorem d_J_floorMod_16 : decode b_J_floorMod 16 = .ok (.lcmp, 1) := by decide +kernel
theorem d_J_floorMod_17 : decode b_J_floorMod 17 = .ok (.ifCond .eq 8, 3) := by decide +kernel
theorem d_J_floorMod_20 : decode b_J_floorMod 20 = .ok (.lload 4, 2) := by decide +kernel
theorem d_J_floorMod_22 : decode b_J_floorMod 22 = .ok (.lload_n 2, 1) := by decide +kernel
theorem d_J_floorMod_23 : decode b_J_floorMod 23 = .ok (.ladd, 1) := by decide +kernel
theorem d_J_floorMod_24 : decode b_J_floorMod 24 = .ok (.lreturn, 1) := by decide +kernel
theorem d_J_floorMod_25 : decode b_J_floorMod 25 = .ok (.lload 4, 2) := by decide +kernel
theorem d_J_floorMod_27 : decode b_J_floorMod 27 = .ok (.lreturn, 1) := by decide +kernel
theorem d_X_mapping_0 : decode b_X_mapping 0 = .ok (.aload_n 0, 1) := by decide +kernel
theorem d_X_mapping_1 : decode b_X_mapping 1 = .ok (.iload_n 1, 1) := by decide +kernel
theorem d_X_mapping_2 : decode b_X_mapping 2 = .ok (.invokevirtual 66, 3) := by decide +kernel
theorem d_X_mapping_5 : decode b_X_mapping 5 = .ok (.ifCond .eq 12, 3) := by decide +kernel
theorem d_X_mapping_8 : decode b_X_mapping 8 = .ok (.aload_n 0, 1) := by decide +kernel
theorem d_X_mapping_9 : decode b_X_mapping 9 = .ok (.getfield 34, 3) := by decide +kernel
theorem d_X_mapping_12 : decode b_X_mapping 12 = .ok (.bipush 6, 2) := by decide +kernel
theorem d_X_mapping_14 : decode b_X_mapping 14 = .ok (.if_icmp .lt 5, 3) := by decide +kernel
theorem d_X_mapping_17 : decode b_X_mapping 17 = .ok (.iconst (-1), 1) := by decide +kernel
theorem d_X_mapping_18 : decode b_X_mapping 18 = .ok (.ireturn, 1) := by decide +kernel
theorem d_X_mapping_19 : decode b_X_mapping 19 = .ok (.aload_n 0, 1) := by decide +kernel
theorem d_X_mapping_20 : decode b_X_mapping 20 = .ok (.getfield 23, 3) := by decide +kernel
theorem d_X_mapping_23 : decode b_X_mapping 23 = .ok (.aload_n 0, 1) := by decide +kernel
theorem d_X_mapping_24 : decode b_X_mapping 24 = .ok (.getfield 34, 3) := by decide +kernel
theorem d_X_mapping_27 : decode b_X_mapping 27 = .ok (.aaload, 1) := by decide +kernel
theorem d_X_mapping_28 : decode b_X_mapping 28 = .ok (.iload_n 1, 1) := by decide +kernel
theorem d_X_mapping_29 : decode b_X_mapping 29 = .ok (.putfield 149, 3) := by decide +kernel
theorem d_X_mapping_32 : decode b_X_mapping 32 = .ok (.aload_n 0, 1) := by decide +kernel
theorem d_X_mapping_33 : decode b_X_mapping 33 = .ok (.getfield 23, 3) := by decide +kernel
theorem d_X_mapping_36 : decode b_X_mapping 36 = .ok (.aload_n 0, 1) := by decide +kernel
theorem d_X_mapping_37 : decode b_X_mapping 37 = .ok (.getfield 34, 3) := by decide +kernel
theorem d_X_mapping_40 : decode b_X_mapping 40 = .ok (.aaload, 1) := by decide +kernel
theorem d_X_mapping_41 : decode b_X_mapping 41 = .ok (.lload_n 2, 1) := by decide +kernel
theorem d_X_mapping_42 : decode b_X_mapping 42 = .ok (.putfield 152, 3) := by decide +kernel
theorem d_X_mapping_45 : decode b_X_mapping 45 = .ok (.aload_n 0, 1) := by decide +kernel
theorem d_X_mapping_46 : decode b_X_mapping 46 = .ok (.dup, 1) := by decide +kernel
theorem d_X_mapping_47 : decode b_X_mapping 47 = .ok (.getfield 34, 3) := by decide +kernel
theorem d_X_mapping_50 : decode b_X_mapping 50 = .ok (.iconst 1, 1) := by decide +kernel
theorem d_X_mapping_51 : decode b_X_mapping 51 = .ok (.iadd, 1) := by decide +kernel
theorem d_X_mapping_52 : decode b_X_mapping 52 = .ok (.putfield 34, 3) := by decide +kernel
theorem d_X_mapping_55 : decode b_X_mapping 55 = .ok (.aload_n 0, 1) := by decide +kernel
theorem d_X_mapping_56 : decode b_X_mapping 56 = .ok (.getfield 34, 3) := by decide +kernel
theorem d_X_mapping_59 : decode b_X_mapping 59 = .ok (.iconst 1, 1) := by decide +kernel
theorem d_X_mapping_60 : decode b_X_mapping 60 = .ok (.isub, 1) := by decide +kernel
theorem d_X_mapping_61 : decode b_X_mapping 61 = .ok (.ireturn, 1) := by decide +kernel
theorem d_X_map_0 : decode b_X_map 0 = .ok (.aload_n 0, 1) := by decide +kernel
theorem d_X_map_1 : decode b_X_map 1 = .ok (.iload_n 1, 1) := by decide +kernel
theorem d_X_map_2 : decode b_X_map 2 = .ok (.invokevirtual 155, 3) := by decide +kernel
theorem d_X_map_5 : decode b_X_map 5 = .ok (.ifCond .ne 5, 3) := by decide +kernel
theorem d_X_map_8 : decode b_X_map 8 = .ok (.iconst (-1), 1) := by decide +kernel
theorem d_X_map_9 : decode b_X_map 9 = .ok (.ireturn, 1) := by decide +kernel
theorem d_X_map_10 : decode b_X_map 10 = .ok (.aload_n 0, 1) := by decide +kernel
theorem d_X_map_11 : decode b_X_map 11 = .ok (.getfield 11, 3) := by decide +kernel
theorem d_X_map_14 : decode b_X_map 14 = .ok (.aload_n 0, 1) := by decide +kernel
theorem d_X_map_15 : decode b_X_map 15 = .ok (.getfield 23, 3) := by decide +kernel
theorem d_X_map_18 : decode b_X_map 18 = .ok (.iload_n 1, 1) := by decide +kernel
theorem d_X_map_19 : decode b_X_map 19 = .ok (.aaload, 1) := by decide +kernel
theorem d_X_map_20 : decode b_X_map 20 = .ok (.getfield 149, 3) := by decide +kernel
theorem d_X_map_23 : decode b_X_map 23 = .ok (.aaload, 1) := by decide +kernel
theorem d_X_map_24 : decode b_X_map 24 = .ok (.astore_n 2, 1) := by decide +kernel
theorem d_X_map_25 : decode b_X_map 25 = .ok (.aload_n 2, 1) := by decide +kernel
theorem d_X_map_26 : decode b_X_map 26 = .ok (.invokevirtual 70, 3) := by decide +kernel
theorem d_X_map_29 : decode b_X_map 29 = .ok (.ifCond .eq 21, 3) := by decide +kernel
theorem d_X_map_32 : decode b_X_map 32 = .ok (.aload_n 2, 1) := by decide +kernel
theorem d_X_map_33 : decode b_X_map 33 = .ok (.getfield 158, 3) := by decide +kernel
theorem d_X_map_36 : decode b_X_map 36 = .ok (.ifCond .eq 14, 3) := by decide +kernel
theorem d_X_map_39 : decode b_X_map 39 = .ok (.aload_n 2, 1) := by decide +kernel
theorem d_X_map_40 : decode b_X_map 40 = .ok (.aload_n 0, 1) := by decide +kernel
theorem d_X_map_41 : decode b_X_map 41 = .ok (.invokevirtual 109, 3) := by decide +kernel
theorem d_X_map_44 : decode b_X_map 44 = .ok (.invokestatic 161, 3) := by decide +kernel
theorem d_X_map_47 : decode b_X_map 47 = .ok (.ifCond .ne 5, 3) := by decide +kernel
theorem d_X_map_50 : decode b_X_map 50 = .ok (.iconst (-1), 1) := by decide +kernel
theorem d_X_map_51 : decode b_X_map 51 = .ok (.ireturn, 1) := by decide +kernel
theorem d_X_map_52 : decode b_X_map 52 = .ok (.aload_n 0, 1) := by decide +kernel
theorem d_X_map_53 : decode b_X_map 53 = .ok (.getfield 23, 3) := by decide +kernel
theorem d_X_map_56 : decode b_X_map 56 = .ok (.iload_n 1, 1) := by decide +kernel
theorem d_X_map_57 : decode b_X_map 57 = .ok (.aaload, 1) := by decide +kernel
theorem d_X_map_58 : decode b_X_map 58 = .ok (.aload_n 2, 1) := by decide +kernel
theorem d_X_map_59 : decode b_X_map 59 = .ok (.getfield 132, 3) := by decide +kernel
theorem d_X_map_62 : decode b_X_map 62 = .ok (.aload_n 2, 1) := by decide +kernel
theorem d_X_map_63 : decode b_X_map 63 = .ok (.invokestatic 145, 3) := by decide +kernel
theorem d_X_map_66 : decode b_X_map 66 = .ok (.invokevirtual 165, 3) := by decide +kernel
theorem d_X_map_69 : decode b_X_map 69 = .ok (.ireturn, 1) := by decide +kernel
theorem d_X_isMapping_0 : decode b_X_isMapping 0 = .ok (.iload_n 1, 1) := by decide +kernel
theorem d_X_isMapping_1 : decode b_X_isMapping 1 = .ok (.ifCond .lt 15, 3) := by decide +kernel
theorem d_X_isMapping_4 : decode b_X_isMapping 4 = .ok (.iload_n 1, 1) := by decide +kernel
theorem d_X_isMapping_5 : decode b_X_isMapping 5 = .ok (.aload_n 0, 1) := by decide +kernel
theorem d_X_isMapping_6 : decode b_X_isMapping 6 = .ok (.getfield 34, 3) := by decide +kernel
theorem d_X_isMapping_9 : decode b_X_isMapping 9 = .ok (.if_icmp .ge 7, 3) := by decide +kernel
theorem d_X_isMapping_12 : decode b_X_isMapping 12 = .ok (.iconst 1, 1) := by decide +kernel
theorem d_X_isMapping_13 : decode b_X_isMapping 13 = .ok (.goto 4, 3) := by decide +kernel
theorem d_X_isMapping_16 : decode b_X_isMapping 16 = .ok (.iconst 0, 1) := by decide +kernel
theorem d_X_isMapping_17 : decode b_X_isMapping 17 = .ok (.ireturn, 1) := by decide +kernel
theorem d_G_take_0 : decode b_G_take 0 = .ok (.iconst 0, 1) := by decide +kernel
theorem d_G_take_1 : decode b_G_take 1 = .ok (.istore 4, 2) := by decide +kernel
theorem d_G_take_3 : decode b_G_take 3 = .ok (.iconst 0, 1) := by decide +kernel
theorem d_G_take_4 : decode b_G_take 4 = .ok (.istore 5, 2) := by decide +kernel
theorem d_G_take_6 : decode b_G_take 6 = .ok (.iload 5, 2) := by decide +kernel
theorem d_G_take_8 : decode b_G_take 8 = .ok (.iload_n 3, 1) := by decide +kernel
theorem d_G_take_9 : decode b_G_take 9 = .ok (.if_icmp .ge 25, 3) := by decide +kernel
theorem d_G_take_12 : decode b_G_take 12 = .ok (.aload_n 0, 1) := by decide +kernel
theorem d_G_take_13 : decode b_G_take 13 = .ok (.lload_n 1, 1) := by decide +kernel
theorem d_G_take_14 : decode b_G_take 14 = .ok (.iload 5, 2) := by decide +kernel
theorem d_G_take_16 : decode b_G_take 16 = .ok (.invokestatic 25, 3) := by decide +kernel
theorem d_G_take_19 : decode b_G_take 19 = .ok (.invokevirtual 29, 3) := by decide +kernel
theorem d_G_take_22 : decode b_G_take 22 = .ok (.ifCond .ne 6, 3) := by decide +kernel
theorem d_G_take_25 : decode b_G_take 25 = .ok (.iinc 4 1, 3) := by decide +kernel
theorem d_G_take_28 : decode b_G_take 28 = .ok (.iinc 5 1, 3) := by decide +kernel
theorem d_G_take_31 : decode b_G_take 31 = .ok (.goto (-25), 3) := by decide +kernel
theorem d_G_take_34 : decode b_G_take 34 = .ok (.aload_n 0, 1) := by decide +kernel
theorem d_G_take_35 : decode b_G_take 35 = .ok (.lload_n 1, 1) := by decide +kernel
theorem d_G_take_36 : decode b_G_take 36 = .ok (.putfield 19, 3) := by decide +kernel
theorem d_G_take_39 : decode b_G_take 39 = .ok (.aload_n 0, 1) := by decide +kernel
theorem d_G_take_40 : decode b_G_take 40 = .ok (.iload_n 3, 1) := by decide +kernel
theorem d_G_take_41 : decode b_G_take 41 = .ok (.putfield 22, 3) := by decide +kernel
theorem d_G_take_44 : decode b_G_take 44 = .ok (.iload 4, 2) := by decide +kernel
theorem d_G_take_46 : decode b_G_take 46 = .ok (.ireturn, 1) := by decide +kernel
theorem d_X_memberDigest_0 : decode b_X_memberDigest 0 = .ok (.lload_n 0, 1) := by decide +kernel
theorem d_X_memberDigest_1 : decode b_X_memberDigest 1 = .ok (.iload_n 2, 1) := by decide +kernel
theorem d_X_memberDigest_2 : decode b_X_memberDigest 2 = .ok (.i2l, 1) := by decide +kernel
theorem d_X_memberDigest_3 : decode b_X_memberDigest 3 = .ok (.ldc2_w 234, 3) := by decide +kernel
theorem d_X_memberDigest_6 : decode b_X_memberDigest 6 = .ok (.lmul, 1) := by decide +kernel
theorem d_X_memberDigest_7 : decode b_X_memberDigest 7 = .ok (.lxor, 1) := by decide +kernel
theorem d_X_memberDigest_8 : decode b_X_memberDigest 8 = .ok (.lreturn, 1) := by decide +kernel
theorem d_G_hasMember_0 : decode b_G_hasMember 0 = .ok (.iconst 0, 1) := by decide +kernel
theorem d_G_hasMember_1 : decode b_G_hasMember 1 = .ok (.istore_n 3, 1) := by decide +kernel
theorem d_G_hasMember_2 : decode b_G_hasMember 2 = .ok (.iload_n 3, 1) := by decide +kernel
theorem d_G_hasMember_3 : decode b_G_hasMember 3 = .ok (.aload_n 0, 1) := by decide +kernel
theorem d_G_hasMember_4 : decode b_G_hasMember 4 = .ok (.getfield 22, 3) := by decide +kernel
theorem d_G_hasMember_7 : decode b_G_hasMember 7 = .ok (.if_icmp .ge 24, 3) := by decide +kernel
theorem d_G_hasMember_10 : decode b_G_hasMember 10 = .ok (.aload_n 0, 1) := by decide +kernel
theorem d_G_hasMember_11 : decode b_G_hasMember 11 = .ok (.getfield 19, 3) := by decide +kernel
theorem d_G_hasMember_14 : decode b_G_hasMember 14 = .ok (.iload_n 3, 1) := by decide +kernel
theorem d_G_hasMember_15 : decode b_G_hasMember 15 = .ok (.invokestatic 25, 3) := by decide +kernel
theorem d_G_hasMember_18 : decode b_G_hasMember 18 = .ok (.lload_n 1, 1) := by decide +kernel
theorem d_G_hasMember_19 : decode b_G_hasMember 19 = .ok (.lcmp, 1) := by decide +kernel
theorem d_G_hasMember_20 : decode b_G_hasMember 20 = .ok (.ifCond .ne 5, 3) := by decide +kernel
theorem d_G_hasMember_23 : decode b_G_hasMember 23 = .ok (.iconst 1, 1) := by decide +kernel
theorem d_G_hasMember_24 : decode b_G_hasMember 24 = .ok (.ireturn, 1) := by decide +kernel
theorem d_G_hasMember_25 : decode b_G_hasMember 25 = .ok (.iinc 3 1, 3) := by decide +kernel
theorem d_G_hasMember_28 : decode b_G_hasMember 28 = .ok (.goto (-26), 3) := by decide +kernel
theorem d_G_hasMember_31 : decode b_G_hasMember 31 = .ok (.iconst 0, 1) := by decide +kernel
theorem d_G_hasMember_32 : decode b_G_hasMember 32 = .ok (.ireturn, 1) := by decide +kernel
theorem d_X_result_0 : decode b_X_result 0 = .ok (.aload_n 0, 1) := by decide +kernel
theorem d_X_result_1 : decode b_X_result 1 = .ok (.iload_n 1, 1) := by decide +kernel
theorem d_X_result_2 : decode b_X_result 2 = .ok (.invokevirtual 155, 3) := by decide +kernel
theorem d_X_result_5 : decode b_X_result 5 = .ok (.ifCond .eq 16, 3) := by decide +kernel
theorem d_X_result_8 : decode b_X_result 8 = .ok (.aload_n 0, 1) := by decide +kernel
theorem d_X_result_9 : decode b_X_result 9 = .ok (.getfield 23, 3) := by decide +kernel
theorem d_X_result_12 : decode b_X_result 12 = .ok (.iload_n 1, 1) := by decide +kernel
theorem d_X_result_13 : decode b_X_result 13 = .ok (.aaload, 1) := by decide +kernel
theorem d_X_result_14 : decode b_X_result 14 = .ok (.iload_n 2, 1) := by decide +kernel
theorem d_X_result_15 : decode b_X_result 15 = .ok (.invokevirtual 169, 3) := by decide +kernel
theorem d_X_result_18 : decode b_X_result 18 = .ok (.goto 4, 3) := by decide +kernel
theorem d_X_result_21 : decode b_X_result 21 = .ok (.lconst 0, 1) := by decide +kernel
theorem d_X_result_22 : decode b_X_result 22 = .ok (.lreturn, 1) := by decide +kernel
theorem d_G_resultOf_0 : decode b_G_resultOf 0 = .ok (.iload_n 1, 1) := by decide +kernel
theorem d_G_resultOf_1 : decode b_G_resultOf 1 = .ok (.ifCond .lt 31, 3) := by decide +kernel
theorem d_G_resultOf_4 : decode b_G_resultOf 4 = .ok (.iload_n 1, 1) := by decide +kernel
theorem d_G_resultOf_5 : decode b_G_resultOf 5 = .ok (.aload_n 0, 1) := by decide +kernel
theorem d_G_resultOf_6 : decode b_G_resultOf 6 = .ok (.getfield 22, 3) := by decide +kernel
theorem d_G_resultOf_9 : decode b_G_resultOf 9 = .ok (.if_icmp .ge 23, 3) := by decide +kernel
theorem d_G_resultOf_12 : decode b_G_resultOf 12 = .ok (.ldc2_w 33, 3) := by decide +kernel
theorem d_G_resultOf_15 : decode b_G_resultOf 15 = .ok (.aload_n 0, 1) := by decide +kernel
theorem d_G_resultOf_16 : decode b_G_resultOf 16 = .ok (.getfield 19, 3) := by decide +kernel
theorem d_G_resultOf_19 : decode b_G_resultOf 19 = .ok (.iload_n 1, 1) := by decide +kernel
theorem d_G_resultOf_20 : decode b_G_resultOf 20 = .ok (.invokestatic 25, 3) := by decide +kernel
theorem d_G_resultOf_23 : decode b_G_resultOf 23 = .ok (.lmul, 1) := by decide +kernel
theorem d_G_resultOf_24 : decode b_G_resultOf 24 = .ok (.aload_n 0, 1) := by decide +kernel
theorem d_G_resultOf_25 : decode b_G_resultOf 25 = .ok (.getfield 15, 3) := by decide +kernel
theorem d_G_resultOf_28 : decode b_G_resultOf 28 = .ok (.ladd, 1) := by decide +kernel
theorem d_G_resultOf_29 : decode b_G_resultOf 29 = .ok (.goto 4, 3) := by decide +kernel
theorem d_G_resultOf_32 : decode b_G_resultOf 32 = .ok (.lconst 0, 1) := by decide +kernel
theorem d_G_resultOf_33 : decode b_G_resultOf 33 = .ok (.lreturn, 1) := by decide +kernel
end
section
/-! decode rows of the reference (by program) -/
theorem d_M_init_0 : decode b_M_init 0 = .ok (.aload_n 0, 1) := by decide +kernel
theorem d_M_init_1 : decode b_M_init 1 = .ok (.invokespecial 1, 3) := by decide +kernel
theorem d_M_init_4 : decode b_M_init 4 = .ok (.aload_n 0, 1) := by decide +kernel
theorem d_M_init_5 : decode b_M_init 5 = .ok (.bipush 24, 2) := by decide +kernel
theorem d_M_init_7 : decode b_M_init 7 = .ok (.newarray .boolean, 2) := by decide +kernel
theorem d_M_init_9 : decode b_M_init 9 = .ok (.putfield 7, 3) := by decide +kernel
theorem d_M_init_12 : decode b_M_init 12 = .ok (.aload_n 0, 1) := by decide +kernel
theorem d_M_init_13 : decode b_M_init 13 = .ok (.bipush 24, 2) := by decide +kernel
theorem d_M_init_15 : decode b_M_init 15 = .ok (.newarray .long, 2) := by decide +kernel
theorem d_M_init_17 : decode b_M_init 17 = .ok (.putfield 13, 3) := by decide +kernel
theorem d_M_init_20 : decode b_M_init 20 = .ok (.aload_n 0, 1) := by decide +kernel
theorem d_M_init_21 : decode b_M_init 21 = .ok (.bipush 24, 2) := by decide +kernel
theorem d_M_init_23 : decode b_M_init 23 = .ok (.newarray .int, 2) := by decide +kernel
theorem d_M_init_25 : decode b_M_init 25 = .ok (.putfield 17, 3) := by decide +kernel
theorem d_M_init_28 : decode b_M_init 28 = .ok (.aload_n 0, 1) := by decide +kernel
theorem d_M_init_29 : decode b_M_init 29 = .ok (.bipush 12, 2) := by decide +kernel
theorem d_M_init_31 : decode b_M_init 31 = .ok (.newarray .int, 2) := by decide +kernel
theorem d_M_init_33 : decode b_M_init 33 = .ok (.putfield 21, 3) := by decide +kernel
theorem d_M_init_36 : decode b_M_init 36 = .ok (.aload_n 0, 1) := by decide +kernel
theorem d_M_init_37 : decode b_M_init 37 = .ok (.bipush 12, 2) := by decide +kernel
theorem d_M_init_39 : decode b_M_init 39 = .ok (.newarray .int, 2) := by decide +kernel
theorem d_M_init_41 : decode b_M_init 41 = .ok (.putfield 24, 3) := by decide +kernel
theorem d_M_init_44 : decode b_M_init 44 = .ok (.aload_n 0, 1) := by decide +kernel
theorem d_M_init_45 : decode b_M_init 45 = .ok (.bipush 12, 2) := by decide +kernel
theorem d_M_init_47 : decode b_M_init 47 = .ok (.newarray .int, 2) := by decide +kernel
theorem d_M_init_49 : decode b_M_init 49 = .ok (.putfield 27, 3) := by decide +kernel
theorem d_M_init_52 : decode b_M_init 52 = .ok (.aload_n 0, 1) := by decide +kernel
theorem d_M_init_53 : decode b_M_init 53 = .ok (.sipush 144, 3) := by decide +kernel
theorem d_M_init_56 : decode b_M_init 56 = .ok (.newarray .int, 2) := by decide +kernel
theorem d_M_init_58 : decode b_M_init 58 = .ok (.putfield 30, 3) := by decide +kernel
theorem d_M_init_61 : decode b_M_init 61 = .ok (.aload_n 0, 1) := by decide +kernel
theorem d_M_init_62 : decode b_M_init 62 = .ok (.sipush 144, 3) := by decide +kernel
theorem d_M_init_65 : decode b_M_init 65 = .ok (.newarray .int, 2) := by decide +kernel
theorem d_M_init_67 : decode b_M_init 67 = .ok (.putfield 33, 3) := by decide +kernel
theorem d_M_init_70 : decode b_M_init 70 = .ok (.aload_n 0, 1) := by decide +kernel
theorem d_M_init_71 : decode b_M_init 71 = .ok (.bipush 12, 2) := by decide +kernel
theorem d_M_init_73 : decode b_M_init 73 = .ok (.newarray .int, 2) := by decide +kernel
theorem d_M_init_75 : decode b_M_init 75 = .ok (.putfield 36, 3) := by decide +kernel
theorem d_M_init_78 : decode b_M_init 78 = .ok (.aload_n 0, 1) := by decide +kernel
theorem d_M_init_79 : decode b_M_init 79 = .ok (.bipush 12, 2) := by decide +kernel
theorem d_M_init_81 : decode b_M_init 81 = .ok (.newarray .int, 2) := by decide +kernel
theorem d_M_init_83 : decode b_M_init 83 = .ok (.putfield 39, 3) := by decide +kernel
theorem d_M_init_86 : decode b_M_init 86 = .ok (.aload_n 0, 1) := by decide +kernel
theorem d_M_init_87 : decode b_M_init 87 = .ok (.sipush 288, 3) := by decide +kernel
theorem d_M_init_90 : decode b_M_init 90 = .ok (.newarray .int, 2) := by decide +kernel
theorem d_M_init_92 : decode b_M_init 92 = .ok (.putfield 42, 3) := by decide +kernel
theorem d_M_init_95 : decode b_M_init 95 = .ok (.aload_n 0, 1) := by decide +kernel
theorem d_M_init_96 : decode b_M_init 96 = .ok (.bipush 12, 2) := by decide +kernel
theorem d_M_init_98 : decode b_M_init 98 = .ok (.newarray .int, 2) := by decide +kernel
theorem d_M_init_100 : decode b_M_init 100 = .ok (.putfield 45, 3) := by decide +kernel
theorem d_M_init_103 : decode b_M_init 103 = .ok (.aload_n 0, 1) := by decide +kernel
theorem d_M_init_104 : decode b_M_init 104 = .ok (.bipush 12, 2) := by decide +kernel
theorem d_M_init_106 : decode b_M_init 106 = .ok (.newarray .int, 2) := by decide +kernel
theorem d_M_init_108 : decode b_M_init 108 = .ok (.putfield 48, 3) := by decide +kernel
theorem d_M_init_111 : decode b_M_init 111 = .ok (.aload_n 0, 1) := by decide +kernel
theorem d_M_init_112 : decode b_M_init 112 = .ok (.bipush 12, 2) := by decide +kernel
theorem d_M_init_114 : decode b_M_init 114 = .ok (.newarray .int, 2) := by decide +kernel
theorem d_M_init_116 : decode b_M_init 116 = .ok (.putfield 51, 3) := by decide +kernel
theorem d_M_init_119 : decode b_M_init 119 = .ok (.aload_n 0, 1) := by decide +kernel
theorem d_M_init_120 : decode b_M_init 120 = .ok (.bipush 12, 2) := by decide +kernel
theorem d_M_init_122 : decode b_M_init 122 = .ok (.newarray .int, 2) := by decide +kernel
theorem d_M_init_124 : decode b_M_init 124 = .ok (.putfield 54, 3) := by decide +kernel
theorem d_M_init_127 : decode b_M_init 127 = .ok (.aload_n 0, 1) := by decide +kernel
theorem d_M_init_128 : decode b_M_init 128 = .ok (.sipush 288, 3) := by decide +kernel
theorem d_M_init_131 : decode b_M_init 131 = .ok (.newarray .boolean, 2) := by decide +kernel
theorem d_M_init_133 : decode b_M_init 133 = .ok (.putfield 57, 3) := by decide +kernel
theorem d_M_init_136 : decode b_M_init 136 = .ok (.aload_n 0, 1) := by decide +kernel
theorem d_M_init_137 : decode b_M_init 137 = .ok (.sipush 288, 3) := by decide +kernel
theorem d_M_init_140 : decode b_M_init 140 = .ok (.newarray .boolean, 2) := by decide +kernel
theorem d_M_init_142 : decode b_M_init 142 = .ok (.putfield 60, 3) := by decide +kernel
theorem d_M_init_145 : decode b_M_init 145 = .ok (.aload_n 0, 1) := by decide +kernel
theorem d_M_init_146 : decode b_M_init 146 = .ok (.bipush 12, 2) := by decide +kernel
theorem d_M_init_148 : decode b_M_init 148 = .ok (.newarray .boolean, 2) := by decide +kernel
theorem d_M_init_150 : decode b_M_init 150 = .ok (.putfield 63, 3) := by decide +kernel
theorem d_M_init_153 : decode b_M_init 153 = .ok (.aload_n 0, 1) := by decide +kernel
theorem d_M_init_154 : decode b_M_init 154 = .ok (.sipush 288, 3) := by decide +kernel
theorem d_M_init_157 : decode b_M_init 157 = .ok (.newarray .long, 2) := by decide +kernel
theorem d_M_init_159 : decode b_M_init 159 = .ok (.putfield 66, 3) := by decide +kernel
theorem d_M_init_162 : decode b_M_init 162 = .ok (.aload_n 0, 1) := by decide +kernel
theorem d_M_init_163 : decode b_M_init 163 = .ok (.bipush 12, 2) := by decide +kernel
theorem d_M_init_165 : decode b_M_init 165 = .ok (.newarray .int, 2) := by decide +kernel
theorem d_M_init_167 : decode b_M_init 167 = .ok (.putfield 69, 3) := by decide +kernel
theorem d_M_init_170 : decode b_M_init 170 = .ok (.aload_n 0, 1) := by decide +kernel
theorem d_M_init_171 : decode b_M_init 171 = .ok (.bipush 12, 2) := by decide +kernel
theorem d_M_init_173 : decode b_M_init 173 = .ok (.newarray .int, 2) := by decide +kernel
theorem d_M_init_175 : decode b_M_init 175 = .ok (.putfield 72, 3) := by decide +kernel
theorem d_M_init_178 : decode b_M_init 178 = .ok (.aload_n 0, 1) := by decide +kernel
theorem d_M_init_179 : decode b_M_init 179 = .ok (.bipush 6, 2) := by decide +kernel
theorem d_M_init_181 : decode b_M_init 181 = .ok (.newarray .int, 2) := by decide +kernel
theorem d_M_init_183 : decode b_M_init 183 = .ok (.putfield 75, 3) := by decide +kernel
theorem d_M_init_186 : decode b_M_init 186 = .ok (.aload_n 0, 1) := by decide +kernel
theorem d_M_init_187 : decode b_M_init 187 = .ok (.bipush 6, 2) := by decide +kernel
theorem d_M_init_189 : decode b_M_init 189 = .ok (.newarray .int, 2) := by decide +kernel
theorem d_M_init_191 : decode b_M_init 191 = .ok (.putfield 78, 3) := by decide +kernel
theorem d_M_init_194 : decode b_M_init 194 = .ok (.aload_n 0, 1) := by decide +kernel
theorem d_M_init_195 : decode b_M_init 195 = .ok (.bipush 6, 2) := by decide +kernel
theorem d_M_init_197 : decode b_M_init 197 = .ok (.newarray .long, 2) := by decide +kernel
theorem d_M_init_199 : decode b_M_init 199 = .ok (.putfield 81, 3) := by decide +kernel
theorem d_M_init_202 : decode b_M_init 202 = .ok (.aload_n 0, 1) := by decide +kernel
theorem d_M_init_203 : decode b_M_init 203 = .ok (.bipush 24, 2) := by decide +kernel
theorem d_M_init_205 : decode b_M_init 205 = .ok (.newarray .long, 2) := by decide +kernel
theorem d_M_init_207 : decode b_M_init 207 = .ok (.putfield 84, 3) := by decide +kernel
theorem d_M_init_210 : decode b_M_init 210 = .ok (.aload_n 0, 1) := by decide +kernel
theorem d_M_init_211 : decode b_M_init 211 = .ok (.bipush 24, 2) := by decide +kernel
theorem d_M_init_213 : decode b_M_init 213 = .ok (.newarray .long, 2) := by decide +kernel
theorem d_M_init_215 : decode b_M_init 215 = .ok (.putfield 87, 3) := by decide +kernel
theorem d_M_init_218 : decode b_M_init 218 = .ok (.aload_n 0, 1) := by decide +kernel
theorem d_M_init_219 : decode b_M_init 219 = .ok (.iload_n 1, 1) := by decide +kernel
theorem d_M_init_220 : decode b_M_init 220 = .ok (.iconst 1, 1) := by decide +kernel
theorem d_M_init_221 : decode b_M_init 221 = .ok (.if_icmp .ge 7, 3) := by decide +kernel
theorem d_M_init_224 : decode b_M_init 224 = .ok (.iconst 1, 1) := by decide +kernel
theorem d_M_init_225 : decode b_M_init 225 = .ok (.goto 15, 3) := by decide +kernel
theorem d_M_init_228 : decode b_M_init 228 = .ok (.iload_n 1, 1) := by decide +kernel
theorem d_M_init_229 : decode b_M_init 229 = .ok (.bipush 9, 2) := by decide +kernel
theorem d_M_init_231 : decode b_M_init 231 = .ok (.if_icmp .le 8, 3) := by decide +kernel
theorem d_M_init_234 : decode b_M_init 234 = .ok (.bipush 9, 2) := by decide +kernel
theorem d_M_init_236 : decode b_M_init 236 = .ok (.goto 4, 3) := by decide +kernel
theorem d_M_init_239 : decode b_M_init 239 = .ok (.iload_n 1, 1) := by decide +kernel
theorem d_M_init_240 : decode b_M_init 240 = .ok (.putfield 90, 3) := by decide +kernel
theorem d_M_init_243 : decode b_M_init 243 = .ok (.return_, 1) := by decide +kernel
theorem d_M_file_0 : decode b_M_file 0 = .ok (.aload_n 0, 1) := by decide +kernel
theorem d_M_file_1 : decode b_M_file 1 = .ok (.iconst 0, 1) := by decide +kernel
theorem d_M_file_2 : decode b_M_file 2 = .ok (.putfield 94, 3) := by decide +kernel
theorem d_M_file_5 : decode b_M_file 5 = .ok (.aload_n 0, 1) := by decide +kernel
theorem d_M_file_6 : decode b_M_file 6 = .ok (.getfield 97, 3) := by decide +kernel
theorem d_M_file_9 : decode b_M_file 9 = .ok (.bipush 24, 2) := by decide +kernel
theorem d_M_file_11 : decode b_M_file 11 = .ok (.if_icmp .ne 5, 3) := by decide +kernel
theorem d_M_file_14 : decode b_M_file 14 = .ok (.iconst (-1), 1) := by decide +kernel
theorem d_M_file_15 : decode b_M_file 15 = .ok (.ireturn, 1) := by decide +kernel
theorem d_M_file_16 : decode b_M_file 16 = .ok (.aload_n 0, 1) := by decide +kernel
theorem d_M_file_17 : decode b_M_file 17 = .ok (.getfield 7, 3) := by decide +kernel
theorem d_M_file_20 : decode b_M_file 20 = .ok (.aload_n 0, 1) := by decide +kernel
theorem d_M_file_21 : decode b_M_file 21 = .ok (.getfield 97, 3) := by decide +kernel
theorem d_M_file_24 : decode b_M_file 24 = .ok (.iconst 1, 1) := by decide +kernel
theorem d_M_file_25 : decode b_M_file 25 = .ok (.bastore, 1) := by decide +kernel
theorem d_M_file_26 : decode b_M_file 26 = .ok (.aload_n 0, 1) := by decide +kernel
theorem d_M_file_27 : decode b_M_file 27 = .ok (.getfield 13, 3) := by decide +kernel
theorem d_M_file_30 : decode b_M_file 30 = .ok (.aload_n 0, 1) := by decide +kernel
theorem d_M_file_31 : decode b_M_file 31 = .ok (.getfield 97, 3) := by decide +kernel
theorem d_M_file_34 : decode b_M_file 34 = .ok (.lload_n 1, 1) := by decide +kernel
theorem d_M_file_35 : decode b_M_file 35 = .ok (.lastore, 1) := by decide +kernel
theorem d_M_file_36 : decode b_M_file 36 = .ok (.aload_n 0, 1) := by decide +kernel
theorem d_M_file_37 : decode b_M_file 37 = .ok (.getfield 17, 3) := by decide +kernel
theorem d_M_file_40 : decode b_M_file 40 = .ok (.aload_n 0, 1) := by decide +kernel
theorem d_M_file_41 : decode b_M_file 41 = .ok (.getfield 97, 3) := by decide +kernel
theorem d_M_file_44 : decode b_M_file 44 = .ok (.iconst (-1), 1) := by decide +kernel
theorem d_M_file_45 : decode b_M_file 45 = .ok (.iastore, 1) := by decide +kernel
theorem d_M_file_46 : decode b_M_file 46 = .ok (.aload_n 0, 1) := by decide +kernel
theorem d_M_file_47 : decode b_M_file 47 = .ok (.dup, 1) := by decide +kernel
theorem d_M_file_48 : decode b_M_file 48 = .ok (.getfield 97, 3) := by decide +kernel
theorem d_M_file_51 : decode b_M_file 51 = .ok (.iconst 1, 1) := by decide +kernel
theorem d_M_file_52 : decode b_M_file 52 = .ok (.iadd, 1) := by decide +kernel
theorem d_M_file_53 : decode b_M_file 53 = .ok (.putfield 97, 3) := by decide +kernel
theorem d_M_file_56 : decode b_M_file 56 = .ok (.aload_n 0, 1) := by decide +kernel
theorem d_M_file_57 : decode b_M_file 57 = .ok (.getfield 97, 3) := by decide +kernel
theorem d_M_file_60 : decode b_M_file 60 = .ok (.iconst 1, 1) := by decide +kernel
theorem d_M_file_61 : decode b_M_file 61 = .ok (.isub, 1) := by decide +kernel
theorem d_M_file_62 : decode b_M_file 62 = .ok (.ireturn, 1) := by decide +kernel
theorem d_M_change_0 : decode b_M_change 0 = .ok (.aload_n 0, 1) := by decide +kernel
theorem d_M_change_1 : decode b_M_change 1 = .ok (.iconst 0, 1) := by decide +kernel
theorem d_M_change_2 : decode b_M_change 2 = .ok (.putfield 94, 3) := by decide +kernel
theorem d_M_change_5 : decode b_M_change 5 = .ok (.aload_n 0, 1) := by decide +kernel
theorem d_M_change_6 : decode b_M_change 6 = .ok (.iload_n 1, 1) := by decide +kernel
theorem d_M_change_7 : decode b_M_change 7 = .ok (.invokevirtual 103, 3) := by decide +kernel
theorem d_M_change_10 : decode b_M_change 10 = .ok (.ifCond .eq 13, 3) := by decide +kernel
theorem d_M_change_13 : decode b_M_change 13 = .ok (.aload_n 0, 1) := by decide +kernel
theorem d_M_change_14 : decode b_M_change 14 = .ok (.getfield 17, 3) := by decide +kernel
theorem d_M_change_17 : decode b_M_change 17 = .ok (.iload_n 1, 1) := by decide +kernel
theorem d_M_change_18 : decode b_M_change 18 = .ok (.iaload, 1) := by decide +kernel
theorem d_M_change_19 : decode b_M_change 19 = .ok (.iconst (-1), 1) := by decide +kernel
theorem d_M_change_20 : decode b_M_change 20 = .ok (.if_icmp .eq 5, 3) := by decide +kernel
theorem d_M_change_23 : decode b_M_change 23 = .ok (.iconst 0, 1) := by decide +kernel
theorem d_M_change_24 : decode b_M_change 24 = .ok (.ireturn, 1) := by decide +kernel
theorem d_M_change_25 : decode b_M_change 25 = .ok (.aload_n 0, 1) := by decide +kernel
theorem d_M_change_26 : decode b_M_change 26 = .ok (.getfield 7, 3) := by decide +kernel
theorem d_M_change_29 : decode b_M_change 29 = .ok (.iload_n 1, 1) := by decide +kernel
theorem d_M_change_30 : decode b_M_change 30 = .ok (.iload_n 2, 1) := by decide +kernel
theorem d_M_change_31 : decode b_M_change 31 = .ok (.bastore, 1) := by decide +kernel
theorem d_M_change_32 : decode b_M_change 32 = .ok (.aload_n 0, 1) := by decide +kernel
theorem d_M_change_33 : decode b_M_change 33 = .ok (.getfield 13, 3) := by decide +kernel
theorem d_M_change_36 : decode b_M_change 36 = .ok (.iload_n 1, 1) := by decide +kernel
theorem d_M_change_37 : decode b_M_change 37 = .ok (.iload_n 2, 1) := by decide +kernel
theorem d_M_change_38 : decode b_M_change 38 = .ok (.ifCond .eq 7, 3) := by decide +kernel
theorem d_M_change_41 : decode b_M_change 41 = .ok (.lload_n 3, 1) := by decide +kernel
theorem d_M_change_42 : decode b_M_change 42 = .ok (.goto 4, 3) := by decide +kernel
theorem d_M_change_45 : decode b_M_change 45 = .ok (.lconst 0, 1) := by decide +kernel
theorem d_M_change_46 : decode b_M_change 46 = .ok (.lastore, 1) := by decide +kernel
theorem d_M_change_47 : decode b_M_change 47 = .ok (.iconst 1, 1) := by decide +kernel
theorem d_M_change_48 : decode b_M_change 48 = .ok (.ireturn, 1) := by decide +kernel
theorem d_M_isFile_0 : decode b_M_isFile 0 = .ok (.iload_n 1, 1) := by decide +kernel
theorem d_M_isFile_1 : decode b_M_isFile 1 = .ok (.ifCond .lt 15, 3) := by decide +kernel
theorem d_M_isFile_4 : decode b_M_isFile 4 = .ok (.iload_n 1, 1) := by decide +kernel
theorem d_M_isFile_5 : decode b_M_isFile 5 = .ok (.aload_n 0, 1) := by decide +kernel
theorem d_M_isFile_6 : decode b_M_isFile 6 = .ok (.getfield 97, 3) := by decide +kernel
theorem d_M_isFile_9 : decode b_M_isFile 9 = .ok (.if_icmp .ge 7, 3) := by decide +kernel
theorem d_M_isFile_12 : decode b_M_isFile 12 = .ok (.iconst 1, 1) := by decide +kernel
theorem d_M_isFile_13 : decode b_M_isFile 13 = .ok (.goto 4, 3) := by decide +kernel
theorem d_M_isFile_16 : decode b_M_isFile 16 = .ok (.iconst 0, 1) := by decide +kernel
theorem d_M_isFile_17 : decode b_M_isFile 17 = .ok (.ireturn, 1) := by decide +kernel
theorem d_M_action_0 : decode b_M_action 0 = .ok (.aload_n 0, 1) := by decide +kernel
theorem d_M_action_1 : decode b_M_action 1 = .ok (.iconst 0, 1) := by decide +kernel
theorem d_M_action_2 : decode b_M_action 2 = .ok (.putfield 94, 3) := by decide +kernel
theorem d_M_action_5 : decode b_M_action 5 = .ok (.aload_n 0, 1) := by decide +kernel
theorem d_M_action_6 : decode b_M_action 6 = .ok (.getfield 100, 3) := by decide +kernel
theorem d_M_action_9 : decode b_M_action 9 = .ok (.bipush 12, 2) := by decide +kernel
theorem d_M_action_11 : decode b_M_action 11 = .ok (.if_icmp .ne 5, 3) := by decide +kernel
theorem d_M_action_14 : decode b_M_action 14 = .ok (.iconst (-1), 1) := by decide +kernel
theorem d_M_action_15 : decode b_M_action 15 = .ok (.ireturn, 1) := by decide +kernel
theorem d_M_action_16 : decode b_M_action 16 = .ok (.aload_n 0, 1) := by decide +kernel
theorem d_M_action_17 : decode b_M_action 17 = .ok (.getfield 21, 3) := by decide +kernel
theorem d_M_action_20 : decode b_M_action 20 = .ok (.aload_n 0, 1) := by decide +kernel
theorem d_M_action_21 : decode b_M_action 21 = .ok (.getfield 100, 3) := by decide +kernel
theorem d_M_action_24 : decode b_M_action 24 = .ok (.iload_n 1, 1) := by decide +kernel
theorem d_M_action_25 : decode b_M_action 25 = .ok (.iastore, 1) := by decide +kernel
theorem d_M_action_26 : decode b_M_action 26 = .ok (.aload_n 0, 1) := by decide +kernel
theorem d_M_action_27 : decode b_M_action 27 = .ok (.getfield 24, 3) := by decide +kernel
theorem d_M_action_30 : decode b_M_action 30 = .ok (.aload_n 0, 1) := by decide +kernel
theorem d_M_action_31 : decode b_M_action 31 = .ok (.getfield 100, 3) := by decide +kernel
theorem d_M_action_34 : decode b_M_action 34 = .ok (.iconst (-1), 1) := by decide +kernel
theorem d_M_action_35 : decode b_M_action 35 = .ok (.iastore, 1) := by decide +kernel
theorem d_M_action_36 : decode b_M_action 36 = .ok (.aload_n 0, 1) := by decide +kernel
theorem d_M_action_37 : decode b_M_action 37 = .ok (.getfield 36, 3) := by decide +kernel
theorem d_M_action_40 : decode b_M_action 40 = .ok (.aload_n 0, 1) := by decide +kernel
theorem d_M_action_41 : decode b_M_action 41 = .ok (.getfield 100, 3) := by decide +kernel
theorem d_M_action_44 : decode b_M_action 44 = .ok (.iconst 2, 1) := by decide +kernel
theorem d_M_action_45 : decode b_M_action 45 = .ok (.iastore, 1) := by decide +kernel
theorem d_M_action_46 : decode b_M_action 46 = .ok (.aload_n 0, 1) := by decide +kernel
theorem d_M_action_47 : decode b_M_action 47 = .ok (.getfield 54, 3) := by decide +kernel
theorem d_M_action_50 : decode b_M_action 50 = .ok (.aload_n 0, 1) := by decide +kernel
theorem d_M_action_51 : decode b_M_action 51 = .ok (.getfield 100, 3) := by decide +kernel
theorem d_M_action_54 : decode b_M_action 54 = .ok (.iconst (-1), 1) := by decide +kernel
theorem d_M_action_55 : decode b_M_action 55 = .ok (.iastore, 1) := by decide +kernel
theorem d_M_action_56 : decode b_M_action 56 = .ok (.aload_n 0, 1) := by decide +kernel
theorem d_M_action_57 : decode b_M_action 57 = .ok (.dup, 1) := by decide +kernel
theorem d_M_action_58 : decode b_M_action 58 = .ok (.getfield 100, 3) := by decide +kernel
theorem d_M_action_61 : decode b_M_action 61 = .ok (.iconst 1, 1) := by decide +kernel
theorem d_M_action_62 : decode b_M_action 62 = .ok (.iadd, 1) := by decide +kernel
theorem d_M_action_63 : decode b_M_action 63 = .ok (.putfield 100, 3) := by decide +kernel
theorem d_M_action_66 : decode b_M_action 66 = .ok (.aload_n 0, 1) := by decide +kernel
theorem d_M_action_67 : decode b_M_action 67 = .ok (.getfield 100, 3) := by decide +kernel
theorem d_M_action_70 : decode b_M_action 70 = .ok (.iconst 1, 1) := by decide +kernel
theorem d_M_action_71 : decode b_M_action 71 = .ok (.isub, 1) := by decide +kernel
theorem d_M_action_72 : decode b_M_action 72 = .ok (.ireturn, 1) := by decide +kernel
theorem d_M_makes_0 : decode b_M_makes 0 = .ok (.aload_n 0, 1) := by decide +kernel
theorem d_M_makes_1 : decode b_M_makes 1 = .ok (.iconst 0, 1) := by decide +kernel
theorem d_M_makes_2 : decode b_M_makes 2 = .ok (.putfield 94, 3) := by decide +kernel
theorem d_M_makes_5 : decode b_M_makes 5 = .ok (.aload_n 0, 1) := by decide +kernel
theorem d_M_makes_6 : decode b_M_makes 6 = .ok (.iload_n 1, 1) := by decide +kernel
theorem d_M_makes_7 : decode b_M_makes 7 = .ok (.invokevirtual 107, 3) := by decide +kernel
theorem d_M_makes_10 : decode b_M_makes 10 = .ok (.ifCond .eq 31, 3) := by decide +kernel
theorem d_M_makes_13 : decode b_M_makes 13 = .ok (.aload_n 0, 1) := by decide +kernel
theorem d_M_makes_14 : decode b_M_makes 14 = .ok (.iload_n 2, 1) := by decide +kernel
theorem d_M_makes_15 : decode b_M_makes 15 = .ok (.invokevirtual 103, 3) := by decide +kernel
theorem d_M_makes_18 : decode b_M_makes 18 = .ok (.ifCond .eq 23, 3) := by decide +kernel
theorem d_M_makes_21 : decode b_M_makes 21 = .ok (.aload_n 0, 1) := by decide +kernel
theorem d_M_makes_22 : decode b_M_makes 22 = .ok (.getfield 24, 3) := by decide +kernel
theorem d_M_makes_25 : decode b_M_makes 25 = .ok (.iload_n 1, 1) := by decide +kernel
theorem d_M_makes_26 : decode b_M_makes 26 = .ok (.iaload, 1) := by decide +kernel
theorem d_M_makes_27 : decode b_M_makes 27 = .ok (.iconst (-1), 1) := by decide +kernel
theorem d_M_makes_28 : decode b_M_makes 28 = .ok (.if_icmp .ne 13, 3) := by decide +kernel
theorem d_M_makes_31 : decode b_M_makes 31 = .ok (.aload_n 0, 1) := by decide +kernel
theorem d_M_makes_32 : decode b_M_makes 32 = .ok (.getfield 17, 3) := by decide +kernel
theorem d_M_makes_35 : decode b_M_makes 35 = .ok (.iload_n 2, 1) := by decide +kernel
theorem d_M_makes_36 : decode b_M_makes 36 = .ok (.iaload, 1) := by decide +kernel
theorem d_M_makes_37 : decode b_M_makes 37 = .ok (.iconst (-1), 1) := by decide +kernel
theorem d_M_makes_38 : decode b_M_makes 38 = .ok (.if_icmp .eq 5, 3) := by decide +kernel
theorem d_M_makes_41 : decode b_M_makes 41 = .ok (.iconst 0, 1) := by decide +kernel
theorem d_M_makes_42 : decode b_M_makes 42 = .ok (.ireturn, 1) := by decide +kernel
theorem d_M_makes_43 : decode b_M_makes 43 = .ok (.aload_n 0, 1) := by decide +kernel
theorem d_M_makes_44 : decode b_M_makes 44 = .ok (.getfield 24, 3) := by decide +kernel
theorem d_M_makes_47 : decode b_M_makes 47 = .ok (.iload_n 1, 1) := by decide +kernel
theorem d_M_makes_48 : decode b_M_makes 48 = .ok (.iload_n 2, 1) := by decide +kernel
theorem d_M_makes_49 : decode b_M_makes 49 = .ok (.iastore, 1) := by decide +kernel
theorem d_M_makes_50 : decode b_M_makes 50 = .ok (.aload_n 0, 1) := by decide +kernel
theorem d_M_makes_51 : decode b_M_makes 51 = .ok (.getfield 17, 3) := by decide +kernel
theorem d_M_makes_54 : decode b_M_makes 54 = .ok (.iload_n 2, 1) := by decide +kernel
theorem d_M_makes_55 : decode b_M_makes 55 = .ok (.iload_n 1, 1) := by decide +kernel
theorem d_M_makes_56 : decode b_M_makes 56 = .ok (.iastore, 1) := by decide +kernel
theorem d_M_makes_57 : decode b_M_makes 57 = .ok (.aload_n 0, 1) := by decide +kernel
theorem d_M_makes_58 : decode b_M_makes 58 = .ok (.getfield 7, 3) := by decide +kernel
theorem d_M_makes_61 : decode b_M_makes 61 = .ok (.iload_n 2, 1) := by decide +kernel
theorem d_M_makes_62 : decode b_M_makes 62 = .ok (.iconst 0, 1) := by decide +kernel
theorem d_M_makes_63 : decode b_M_makes 63 = .ok (.bastore, 1) := by decide +kernel
theorem d_M_makes_64 : decode b_M_makes 64 = .ok (.aload_n 0, 1) := by decide +kernel
theorem d_M_makes_65 : decode b_M_makes 65 = .ok (.getfield 13, 3) := by decide +kernel
theorem d_M_makes_68 : decode b_M_makes 68 = .ok (.iload_n 2, 1) := by decide +kernel
theorem d_M_makes_69 : decode b_M_makes 69 = .ok (.lconst 0, 1) := by decide +kernel
theorem d_M_makes_70 : decode b_M_makes 70 = .ok (.lastore, 1) := by decide +kernel
theorem d_M_makes_71 : decode b_M_makes 71 = .ok (.aload_n 0, 1) := by decide +kernel
theorem d_M_makes_72 : decode b_M_makes 72 = .ok (.iload_n 1, 1) := by decide +kernel
theorem d_M_makes_73 : decode b_M_makes 73 = .ok (.invokevirtual 110, 3) := by decide +kernel
theorem d_M_makes_76 : decode b_M_makes 76 = .ok (.iconst 1, 1) := by decide +kernel
theorem d_M_makes_77 : decode b_M_makes 77 = .ok (.ireturn, 1) := by decide +kernel
theorem d_M_isAction_0 : decode b_M_isAction 0 = .ok (.iload_n 1, 1) := by decide +kernel
theorem d_M_isAction_1 : decode b_M_isAction 1 = .ok (.ifCond .lt 15, 3) := by decide +kernel
theorem d_M_isAction_4 : decode b_M_isAction 4 = .ok (.iload_n 1, 1) := by decide +kernel
theorem d_M_isAction_5 : decode b_M_isAction 5 = .ok (.aload_n 0, 1) := by decide +kernel
theorem d_M_isAction_6 : decode b_M_isAction 6 = .ok (.getfield 100, 3) := by decide +kernel
theorem d_M_isAction_9 : decode b_M_isAction 9 = .ok (.if_icmp .ge 7, 3) := by decide +kernel
theorem d_M_isAction_12 : decode b_M_isAction 12 = .ok (.iconst 1, 1) := by decide +kernel
theorem d_M_isAction_13 : decode b_M_isAction 13 = .ok (.goto 4, 3) := by decide +kernel
theorem d_M_isAction_16 : decode b_M_isAction 16 = .ok (.iconst 0, 1) := by decide +kernel
theorem d_M_isAction_17 : decode b_M_isAction 17 = .ok (.ireturn, 1) := by decide +kernel
theorem d_M_forget_0 : decode b_M_forget 0 = .ok (.aload_n 0, 1) := by decide +kernel
theorem d_M_forget_1 : decode b_M_forget 1 = .ok (.getfield 36, 3) := by decide +kernel
theorem d_M_forget_4 : decode b_M_forget 4 = .ok (.iload_n 1, 1) := by decide +kernel
theorem d_M_forget_5 : decode b_M_forget 5 = .ok (.iconst 2, 1) := by decide +kernel
theorem d_M_forget_6 : decode b_M_forget 6 = .ok (.iastore, 1) := by decide +kernel
theorem d_M_forget_7 : decode b_M_forget 7 = .ok (.aload_n 0, 1) := by decide +kernel
theorem d_M_forget_8 : decode b_M_forget 8 = .ok (.getfield 39, 3) := by decide +kernel
theorem d_M_forget_11 : decode b_M_forget 11 = .ok (.iload_n 1, 1) := by decide +kernel
theorem d_M_forget_12 : decode b_M_forget 12 = .ok (.iconst 0, 1) := by decide +kernel
theorem d_M_forget_13 : decode b_M_forget 13 = .ok (.iastore, 1) := by decide +kernel
theorem d_M_forget_14 : decode b_M_forget 14 = .ok (.return_, 1) := by decide +kernel
theorem d_M_row_0 : decode b_M_row 0 = .ok (.aload_n 0, 1) := by decide +kernel
theorem d_M_row_1 : decode b_M_row 1 = .ok (.iconst 0, 1) := by decide +kernel
theorem d_M_row_2 : decode b_M_row 2 = .ok (.putfield 94, 3) := by decide +kernel
theorem d_M_row_5 : decode b_M_row 5 = .ok (.iload_n 2, 1) := by decide +kernel
theorem d_M_row_6 : decode b_M_row 6 = .ok (.iconst 2, 1) := by decide +kernel
theorem d_M_row_7 : decode b_M_row 7 = .ok (.if_icmp .ne 22, 3) := by decide +kernel
theorem d_M_row_10 : decode b_M_row 10 = .ok (.iload_n 3, 1) := by decide +kernel
theorem d_M_row_11 : decode b_M_row 11 = .ok (.iconst 1, 1) := by decide +kernel
theorem d_M_row_12 : decode b_M_row 12 = .ok (.if_icmp .lt 13, 3) := by decide +kernel
theorem d_M_row_15 : decode b_M_row 15 = .ok (.iload_n 3, 1) := by decide +kernel
theorem d_M_row_16 : decode b_M_row 16 = .ok (.bipush 8, 2) := by decide +kernel
theorem d_M_row_18 : decode b_M_row 18 = .ok (.if_icmp .gt 7, 3) := by decide +kernel
theorem d_M_row_21 : decode b_M_row 21 = .ok (.iconst 1, 1) := by decide +kernel
theorem d_M_row_22 : decode b_M_row 22 = .ok (.goto 29, 3) := by decide +kernel
theorem d_M_row_25 : decode b_M_row 25 = .ok (.iconst 0, 1) := by decide +kernel
theorem d_M_row_26 : decode b_M_row 26 = .ok (.goto 25, 3) := by decide +kernel
theorem d_M_row_29 : decode b_M_row 29 = .ok (.iload_n 2, 1) := by decide +kernel
theorem d_M_row_30 : decode b_M_row 30 = .ok (.ifCond .eq 8, 3) := by decide +kernel
theorem d_M_row_33 : decode b_M_row 33 = .ok (.iload_n 2, 1) := by decide +kernel
theorem d_M_row_34 : decode b_M_row 34 = .ok (.iconst 1, 1) := by decide +kernel
theorem d_M_row_35 : decode b_M_row 35 = .ok (.if_icmp .ne 15, 3) := by decide +kernel
theorem d_M_row_38 : decode b_M_row 38 = .ok (.aload_n 0, 1) := by decide +kernel
theorem d_M_row_39 : decode b_M_row 39 = .ok (.iload_n 3, 1) := by decide +kernel
theorem d_M_row_40 : decode b_M_row 40 = .ok (.invokevirtual 103, 3) := by decide +kernel
theorem d_M_row_43 : decode b_M_row 43 = .ok (.ifCond .eq 7, 3) := by decide +kernel
theorem d_M_row_46 : decode b_M_row 46 = .ok (.iconst 1, 1) := by decide +kernel
theorem d_M_row_47 : decode b_M_row 47 = .ok (.goto 4, 3) := by decide +kernel
theorem d_M_row_50 : decode b_M_row 50 = .ok (.iconst 0, 1) := by decide +kernel
theorem d_M_row_51 : decode b_M_row 51 = .ok (.istore 4, 2) := by decide +kernel
theorem d_M_row_53 : decode b_M_row 53 = .ok (.aload_n 0, 1) := by decide +kernel
theorem d_M_row_54 : decode b_M_row 54 = .ok (.iload_n 1, 1) := by decide +kernel
theorem d_M_row_55 : decode b_M_row 55 = .ok (.invokevirtual 107, 3) := by decide +kernel
theorem d_M_row_58 : decode b_M_row 58 = .ok (.ifCond .eq 19, 3) := by decide +kernel
theorem d_M_row_61 : decode b_M_row 61 = .ok (.iload 4, 2) := by decide +kernel
theorem d_M_row_63 : decode b_M_row 63 = .ok (.ifCond .eq 14, 3) := by decide +kernel
theorem d_M_row_66 : decode b_M_row 66 = .ok (.aload_n 0, 1) := by decide +kernel
theorem d_M_row_67 : decode b_M_row 67 = .ok (.getfield 27, 3) := by decide +kernel
theorem d_M_row_70 : decode b_M_row 70 = .ok (.iload_n 1, 1) := by decide +kernel
theorem d_M_row_71 : decode b_M_row 71 = .ok (.iaload, 1) := by decide +kernel
theorem d_M_row_72 : decode b_M_row 72 = .ok (.bipush 12, 2) := by decide +kernel
theorem d_M_row_74 : decode b_M_row 74 = .ok (.if_icmp .ne 5, 3) := by decide +kernel
theorem d_M_row_77 : decode b_M_row 77 = .ok (.iconst 0, 1) := by decide +kernel
theorem d_M_row_78 : decode b_M_row 78 = .ok (.ireturn, 1) := by decide +kernel
theorem d_M_row_79 : decode b_M_row 79 = .ok (.aload_n 0, 1) := by decide +kernel
theorem d_M_row_80 : decode b_M_row 80 = .ok (.getfield 30, 3) := by decide +kernel
theorem d_M_row_83 : decode b_M_row 83 = .ok (.bipush 12, 2) := by decide +kernel
theorem d_M_row_85 : decode b_M_row 85 = .ok (.iload_n 1, 1) := by decide +kernel
theorem d_M_row_86 : decode b_M_row 86 = .ok (.imul, 1) := by decide +kernel
theorem d_M_row_87 : decode b_M_row 87 = .ok (.aload_n 0, 1) := by decide +kernel
theorem d_M_row_88 : decode b_M_row 88 = .ok (.getfield 27, 3) := by decide +kernel
theorem d_M_row_91 : decode b_M_row 91 = .ok (.iload_n 1, 1) := by decide +kernel
theorem d_M_row_92 : decode b_M_row 92 = .ok (.iaload, 1) := by decide +kernel
theorem d_M_row_93 : decode b_M_row 93 = .ok (.iadd, 1) := by decide +kernel
theorem d_M_row_94 : decode b_M_row 94 = .ok (.iload_n 2, 1) := by decide +kernel
theorem d_M_row_95 : decode b_M_row 95 = .ok (.iastore, 1) := by decide +kernel
theorem d_M_row_96 : decode b_M_row 96 = .ok (.aload_n 0, 1) := by decide +kernel
theorem d_M_row_97 : decode b_M_row 97 = .ok (.getfield 33, 3) := by decide +kernel
theorem d_M_row_100 : decode b_M_row 100 = .ok (.bipush 12, 2) := by decide +kernel
theorem d_M_row_102 : decode b_M_row 102 = .ok (.iload_n 1, 1) := by decide +kernel
theorem d_M_row_103 : decode b_M_row 103 = .ok (.imul, 1) := by decide +kernel
theorem d_M_row_104 : decode b_M_row 104 = .ok (.aload_n 0, 1) := by decide +kernel
theorem d_M_row_105 : decode b_M_row 105 = .ok (.getfield 27, 3) := by decide +kernel
theorem d_M_row_108 : decode b_M_row 108 = .ok (.iload_n 1, 1) := by decide +kernel
theorem d_M_row_109 : decode b_M_row 109 = .ok (.iaload, 1) := by decide +kernel
theorem d_M_row_110 : decode b_M_row 110 = .ok (.iadd, 1) := by decide +kernel
theorem d_M_row_111 : decode b_M_row 111 = .ok (.iload_n 3, 1) := by decide +kernel
theorem d_M_row_112 : decode b_M_row 112 = .ok (.iastore, 1) := by decide +kernel
theorem d_M_row_113 : decode b_M_row 113 = .ok (.aload_n 0, 1) := by decide +kernel
theorem d_M_row_114 : decode b_M_row 114 = .ok (.getfield 27, 3) := by decide +kernel
theorem d_M_row_117 : decode b_M_row 117 = .ok (.iload_n 1, 1) := by decide +kernel
theorem d_M_row_118 : decode b_M_row 118 = .ok (.dup2, 1) := by decide +kernel
theorem d_M_row_119 : decode b_M_row 119 = .ok (.iaload, 1) := by decide +kernel
theorem d_M_row_120 : decode b_M_row 120 = .ok (.iconst 1, 1) := by decide +kernel
theorem d_M_row_121 : decode b_M_row 121 = .ok (.iadd, 1) := by decide +kernel
theorem d_M_row_122 : decode b_M_row 122 = .ok (.iastore, 1) := by decide +kernel
theorem d_M_row_123 : decode b_M_row 123 = .ok (.aload_n 0, 1) := by decide +kernel
theorem d_M_row_124 : decode b_M_row 124 = .ok (.iload_n 1, 1) := by decide +kernel
theorem d_M_row_125 : decode b_M_row 125 = .ok (.invokevirtual 110, 3) := by decide +kernel
theorem d_M_row_128 : decode b_M_row 128 = .ok (.iconst 1, 1) := by decide +kernel
theorem d_M_row_129 : decode b_M_row 129 = .ok (.ireturn, 1) := by decide +kernel
theorem d_M_run_0 : decode b_M_run 0 = .ok (.aload_n 0, 1) := by decide +kernel
theorem d_M_run_1 : decode b_M_run 1 = .ok (.iconst 0, 1) := by decide +kernel
theorem d_M_run_2 : decode b_M_run 2 = .ok (.putfield 94, 3) := by decide +kernel
theorem d_M_run_5 : decode b_M_run 5 = .ok (.aload_n 0, 1) := by decide +kernel
theorem d_M_run_6 : decode b_M_run 6 = .ok (.iload_n 1, 1) := by decide +kernel
theorem d_M_run_7 : decode b_M_run 7 = .ok (.invokevirtual 107, 3) := by decide +kernel
theorem d_M_run_10 : decode b_M_run 10 = .ok (.ifCond .eq 11, 3) := by decide +kernel
theorem d_M_run_13 : decode b_M_run 13 = .ok (.aload_n 0, 1) := by decide +kernel
theorem d_M_run_14 : decode b_M_run 14 = .ok (.iload_n 1, 1) := by decide +kernel
theorem d_M_run_15 : decode b_M_run 15 = .ok (.invokevirtual 148, 3) := by decide +kernel
theorem d_M_run_18 : decode b_M_run 18 = .ok (.goto 5, 3) := by decide +kernel
theorem d_M_run_21 : decode b_M_run 21 = .ok (.bipush (-9), 2) := by decide +kernel
theorem d_M_run_23 : decode b_M_run 23 = .ok (.ireturn, 1) := by decide +kernel
theorem d_M_runOne_0 : decode b_M_runOne 0 = .ok (.aload_n 0, 1) := by decide +kernel
theorem d_M_runOne_1 : decode b_M_runOne 1 = .ok (.getfield 54, 3) := by decide +kernel
theorem d_M_runOne_4 : decode b_M_runOne 4 = .ok (.iload_n 1, 1) := by decide +kernel
theorem d_M_runOne_5 : decode b_M_runOne 5 = .ok (.iconst (-1), 1) := by decide +kernel
theorem d_M_runOne_6 : decode b_M_runOne 6 = .ok (.iastore, 1) := by decide +kernel
theorem d_M_runOne_7 : decode b_M_runOne 7 = .ok (.aload_n 0, 1) := by decide +kernel
theorem d_M_runOne_8 : decode b_M_runOne 8 = .ok (.iload_n 1, 1) := by decide +kernel
theorem d_M_runOne_9 : decode b_M_runOne 9 = .ok (.invokevirtual 141, 3) := by decide +kernel
theorem d_M_runOne_12 : decode b_M_runOne 12 = .ok (.ifCond .eq 20, 3) := by decide +kernel
theorem d_M_runOne_15 : decode b_M_runOne 15 = .ok (.aload_n 0, 1) := by decide +kernel
theorem d_M_runOne_16 : decode b_M_runOne 16 = .ok (.getfield 45, 3) := by decide +kernel
theorem d_M_runOne_19 : decode b_M_runOne 19 = .ok (.iload_n 1, 1) := by decide +kernel
theorem d_M_runOne_20 : decode b_M_runOne 20 = .ok (.dup2, 1) := by decide +kernel
theorem d_M_runOne_21 : decode b_M_runOne 21 = .ok (.iaload, 1) := by decide +kernel
theorem d_M_runOne_22 : decode b_M_runOne 22 = .ok (.iconst 1, 1) := by decide +kernel
theorem d_M_runOne_23 : decode b_M_runOne 23 = .ok (.iadd, 1) := by decide +kernel
theorem d_M_runOne_24 : decode b_M_runOne 24 = .ok (.iastore, 1) := by decide +kernel
theorem d_M_runOne_25 : decode b_M_runOne 25 = .ok (.aload_n 0, 1) := by decide +kernel
theorem d_M_runOne_26 : decode b_M_runOne 26 = .ok (.getfield 36, 3) := by decide +kernel
theorem d_M_runOne_29 : decode b_M_runOne 29 = .ok (.iload_n 1, 1) := by decide +kernel
theorem d_M_runOne_30 : decode b_M_runOne 30 = .ok (.iaload, 1) := by decide +kernel
theorem d_M_runOne_31 : decode b_M_runOne 31 = .ok (.ireturn, 1) := by decide +kernel
theorem d_M_runOne_32 : decode b_M_runOne 32 = .ok (.aload_n 0, 1) := by decide +kernel
theorem d_M_runOne_33 : decode b_M_runOne 33 = .ok (.getfield 51, 3) := by decide +kernel
theorem d_M_runOne_36 : decode b_M_runOne 36 = .ok (.iload_n 1, 1) := by decide +kernel
theorem d_M_runOne_37 : decode b_M_runOne 37 = .ok (.iaload, 1) := by decide +kernel
theorem d_M_runOne_38 : decode b_M_runOne 38 = .ok (.aload_n 0, 1) := by decide +kernel
theorem d_M_runOne_39 : decode b_M_runOne 39 = .ok (.getfield 90, 3) := by decide +kernel
theorem d_M_runOne_42 : decode b_M_runOne 42 = .ok (.if_icmp .ne 18, 3) := by decide +kernel
theorem d_M_runOne_45 : decode b_M_runOne 45 = .ok (.aload_n 0, 1) := by decide +kernel
theorem d_M_runOne_46 : decode b_M_runOne 46 = .ok (.getfield 51, 3) := by decide +kernel
theorem d_M_runOne_49 : decode b_M_runOne 49 = .ok (.iload_n 1, 1) := by decide +kernel
theorem d_M_runOne_50 : decode b_M_runOne 50 = .ok (.iconst 0, 1) := by decide +kernel
theorem d_M_runOne_51 : decode b_M_runOne 51 = .ok (.iastore, 1) := by decide +kernel
theorem d_M_runOne_52 : decode b_M_runOne 52 = .ok (.aload_n 0, 1) := by decide +kernel
theorem d_M_runOne_53 : decode b_M_runOne 53 = .ok (.iload_n 1, 1) := by decide +kernel
theorem d_M_runOne_54 : decode b_M_runOne 54 = .ok (.invokevirtual 110, 3) := by decide +kernel
theorem d_M_runOne_57 : decode b_M_runOne 57 = .ok (.bipush (-2), 2) := by decide +kernel
theorem d_M_runOne_59 : decode b_M_runOne 59 = .ok (.ireturn, 1) := by decide +kernel
theorem d_M_runOne_60 : decode b_M_runOne 60 = .ok (.aload_n 0, 1) := by decide +kernel
theorem d_M_runOne_61 : decode b_M_runOne 61 = .ok (.getfield 51, 3) := by decide +kernel
theorem d_M_runOne_64 : decode b_M_runOne 64 = .ok (.iload_n 1, 1) := by decide +kernel
theorem d_M_runOne_65 : decode b_M_runOne 65 = .ok (.dup2, 1) := by decide +kernel
theorem d_M_runOne_66 : decode b_M_runOne 66 = .ok (.iaload, 1) := by decide +kernel
theorem d_M_runOne_67 : decode b_M_runOne 67 = .ok (.iconst 1, 1) := by decide +kernel
theorem d_M_runOne_68 : decode b_M_runOne 68 = .ok (.iadd, 1) := by decide +kernel
theorem d_M_runOne_69 : decode b_M_runOne 69 = .ok (.iastore, 1) := by decide +kernel
theorem d_M_runOne_70 : decode b_M_runOne 70 = .ok (.aload_n 0, 1) := by decide +kernel
theorem d_M_runOne_71 : decode b_M_runOne 71 = .ok (.getfield 48, 3) := by decide +kernel
theorem d_M_runOne_74 : decode b_M_runOne 74 = .ok (.iload_n 1, 1) := by decide +kernel
theorem d_M_runOne_75 : decode b_M_runOne 75 = .ok (.dup2, 1) := by decide +kernel
theorem d_M_runOne_76 : decode b_M_runOne 76 = .ok (.iaload, 1) := by decide +kernel
theorem d_M_runOne_77 : decode b_M_runOne 77 = .ok (.iconst 1, 1) := by decide +kernel
theorem d_M_runOne_78 : decode b_M_runOne 78 = .ok (.iadd, 1) := by decide +kernel
theorem d_M_runOne_79 : decode b_M_runOne 79 = .ok (.iastore, 1) := by decide +kernel
theorem d_M_runOne_80 : decode b_M_runOne 80 = .ok (.aload_n 0, 1) := by decide +kernel
theorem d_M_runOne_81 : decode b_M_runOne 81 = .ok (.iload_n 1, 1) := by decide +kernel
theorem d_M_runOne_82 : decode b_M_runOne 82 = .ok (.invokevirtual 144, 3) := by decide +kernel
theorem d_M_runOne_85 : decode b_M_runOne 85 = .ok (.istore_n 2, 1) := by decide +kernel
theorem d_M_runOne_86 : decode b_M_runOne 86 = .ok (.iload_n 2, 1) := by decide +kernel
theorem d_M_runOne_87 : decode b_M_runOne 87 = .ok (.ifCond .eq 10, 3) := by decide +kernel
theorem d_M_runOne_90 : decode b_M_runOne 90 = .ok (.aload_n 0, 1) := by decide +kernel
theorem d_M_runOne_91 : decode b_M_runOne 91 = .ok (.getfield 51, 3) := by decide +kernel
theorem d_M_runOne_94 : decode b_M_runOne 94 = .ok (.iload_n 1, 1) := by decide +kernel
theorem d_M_runOne_95 : decode b_M_runOne 95 = .ok (.iconst 0, 1) := by decide +kernel
theorem d_M_runOne_96 : decode b_M_runOne 96 = .ok (.iastore, 1) := by decide +kernel
theorem d_M_runOne_97 : decode b_M_runOne 97 = .ok (.iload_n 2, 1) := by decide +kernel
theorem d_M_runOne_98 : decode b_M_runOne 98 = .ok (.iconst 1, 1) := by decide +kernel
theorem d_M_runOne_99 : decode b_M_runOne 99 = .ok (.if_icmp .eq 16, 3) := by decide +kernel
theorem d_M_runOne_102 : decode b_M_runOne 102 = .ok (.iload_n 2, 1) := by decide +kernel
theorem d_M_runOne_103 : decode b_M_runOne 103 = .ok (.bipush (-3), 2) := by decide +kernel
theorem d_M_runOne_105 : decode b_M_runOne 105 = .ok (.if_icmp .eq 10, 3) := by decide +kernel
theorem d_M_runOne_108 : decode b_M_runOne 108 = .ok (.aload_n 0, 1) := by decide +kernel
theorem d_M_runOne_109 : decode b_M_runOne 109 = .ok (.iload_n 1, 1) := by decide +kernel
theorem d_M_runOne_110 : decode b_M_runOne 110 = .ok (.invokevirtual 110, 3) := by decide +kernel
theorem d_M_runOne_113 : decode b_M_runOne 113 = .ok (.iload_n 2, 1) := by decide +kernel
theorem d_M_runOne_114 : decode b_M_runOne 114 = .ok (.ireturn, 1) := by decide +kernel
theorem d_M_runOne_115 : decode b_M_runOne 115 = .ok (.aload_n 0, 1) := by decide +kernel
theorem d_M_runOne_116 : decode b_M_runOne 116 = .ok (.getfield 36, 3) := by decide +kernel
theorem d_M_runOne_119 : decode b_M_runOne 119 = .ok (.iload_n 1, 1) := by decide +kernel
theorem d_M_runOne_120 : decode b_M_runOne 120 = .ok (.iload_n 2, 1) := by decide +kernel
theorem d_M_runOne_121 : decode b_M_runOne 121 = .ok (.iastore, 1) := by decide +kernel
theorem d_M_runOne_122 : decode b_M_runOne 122 = .ok (.aload_n 0, 1) := by decide +kernel
theorem d_M_runOne_123 : decode b_M_runOne 123 = .ok (.getfield 24, 3) := by decide +kernel
theorem d_M_runOne_126 : decode b_M_runOne 126 = .ok (.iload_n 1, 1) := by decide +kernel
theorem d_M_runOne_127 : decode b_M_runOne 127 = .ok (.iaload, 1) := by decide +kernel
theorem d_M_runOne_128 : decode b_M_runOne 128 = .ok (.istore_n 3, 1) := by decide +kernel
theorem d_M_runOne_129 : decode b_M_runOne 129 = .ok (.iload_n 3, 1) := by decide +kernel
theorem d_M_runOne_130 : decode b_M_runOne 130 = .ok (.iconst (-1), 1) := by decide +kernel
theorem d_M_runOne_131 : decode b_M_runOne 131 = .ok (.if_icmp .eq 38, 3) := by decide +kernel
theorem d_M_runOne_134 : decode b_M_runOne 134 = .ok (.aload_n 0, 1) := by decide +kernel
theorem d_M_runOne_135 : decode b_M_runOne 135 = .ok (.getfield 7, 3) := by decide +kernel
theorem d_M_runOne_138 : decode b_M_runOne 138 = .ok (.iload_n 3, 1) := by decide +kernel
theorem d_M_runOne_139 : decode b_M_runOne 139 = .ok (.iload_n 2, 1) := by decide +kernel
theorem d_M_runOne_140 : decode b_M_runOne 140 = .ok (.iconst 1, 1) := by decide +kernel
theorem d_M_runOne_141 : decode b_M_runOne 141 = .ok (.if_icmp .ne 7, 3) := by decide +kernel
theorem d_M_runOne_144 : decode b_M_runOne 144 = .ok (.iconst 1, 1) := by decide +kernel
theorem d_M_runOne_145 : decode b_M_runOne 145 = .ok (.goto 4, 3) := by decide +kernel
theorem d_M_runOne_148 : decode b_M_runOne 148 = .ok (.iconst 0, 1) := by decide +kernel
theorem d_M_runOne_149 : decode b_M_runOne 149 = .ok (.bastore, 1) := by decide +kernel
theorem d_M_runOne_150 : decode b_M_runOne 150 = .ok (.aload_n 0, 1) := by decide +kernel
theorem d_M_runOne_151 : decode b_M_runOne 151 = .ok (.getfield 13, 3) := by decide +kernel
theorem d_M_runOne_154 : decode b_M_runOne 154 = .ok (.iload_n 3, 1) := by decide +kernel
theorem d_M_runOne_155 : decode b_M_runOne 155 = .ok (.iload_n 2, 1) := by decide +kernel
theorem d_M_runOne_156 : decode b_M_runOne 156 = .ok (.iconst 1, 1) := by decide +kernel
theorem d_M_runOne_157 : decode b_M_runOne 157 = .ok (.if_icmp .ne 10, 3) := by decide +kernel
theorem d_M_runOne_160 : decode b_M_runOne 160 = .ok (.aload_n 0, 1) := by decide +kernel
theorem d_M_runOne_161 : decode b_M_runOne 161 = .ok (.getfield 130, 3) := by decide +kernel
theorem d_M_runOne_164 : decode b_M_runOne 164 = .ok (.goto 4, 3) := by decide +kernel
theorem d_M_runOne_167 : decode b_M_runOne 167 = .ok (.lconst 0, 1) := by decide +kernel
theorem d_M_runOne_168 : decode b_M_runOne 168 = .ok (.lastore, 1) := by decide +kernel
theorem d_M_runOne_169 : decode b_M_runOne 169 = .ok (.iload_n 2, 1) := by decide +kernel
theorem d_M_runOne_170 : decode b_M_runOne 170 = .ok (.ireturn, 1) := by decide +kernel
theorem d_M_isFreshNow_0 : decode b_M_isFreshNow 0 = .ok (.aload_n 0, 1) := by decide +kernel
theorem d_M_isFreshNow_1 : decode b_M_isFreshNow 1 = .ok (.invokevirtual 117, 3) := by decide +kernel
theorem d_M_isFreshNow_4 : decode b_M_isFreshNow 4 = .ok (.aload_n 0, 1) := by decide +kernel
theorem d_M_isFreshNow_5 : decode b_M_isFreshNow 5 = .ok (.getfield 63, 3) := by decide +kernel
theorem d_M_isFreshNow_8 : decode b_M_isFreshNow 8 = .ok (.iload_n 1, 1) := by decide +kernel
theorem d_M_isFreshNow_9 : decode b_M_isFreshNow 9 = .ok (.baload, 1) := by decide +kernel
theorem d_M_isFreshNow_10 : decode b_M_isFreshNow 10 = .ok (.ireturn, 1) := by decide +kernel
theorem d_M_freshen_0 : decode b_M_freshen 0 = .ok (.iconst 0, 1) := by decide +kernel
theorem d_M_freshen_1 : decode b_M_freshen 1 = .ok (.istore_n 1, 1) := by decide +kernel
theorem d_M_freshen_2 : decode b_M_freshen 2 = .ok (.iload_n 1, 1) := by decide +kernel
theorem d_M_freshen_3 : decode b_M_freshen 3 = .ok (.bipush 12, 2) := by decide +kernel
theorem d_M_freshen_5 : decode b_M_freshen 5 = .ok (.if_icmp .ge 16, 3) := by decide +kernel
theorem d_M_freshen_8 : decode b_M_freshen 8 = .ok (.aload_n 0, 1) := by decide +kernel
theorem d_M_freshen_9 : decode b_M_freshen 9 = .ok (.getfield 63, 3) := by decide +kernel
theorem d_M_freshen_12 : decode b_M_freshen 12 = .ok (.iload_n 1, 1) := by decide +kernel
theorem d_M_freshen_13 : decode b_M_freshen 13 = .ok (.iconst 0, 1) := by decide +kernel
theorem d_M_freshen_14 : decode b_M_freshen 14 = .ok (.bastore, 1) := by decide +kernel
theorem d_M_freshen_15 : decode b_M_freshen 15 = .ok (.iinc 1 1, 3) := by decide +kernel
theorem d_M_freshen_18 : decode b_M_freshen 18 = .ok (.goto (-16), 3) := by decide +kernel
theorem d_M_freshen_21 : decode b_M_freshen 21 = .ok (.iconst 1, 1) := by decide +kernel
theorem d_M_freshen_22 : decode b_M_freshen 22 = .ok (.istore_n 1, 1) := by decide +kernel
theorem d_M_freshen_23 : decode b_M_freshen 23 = .ok (.iload_n 1, 1) := by decide +kernel
theorem d_M_freshen_24 : decode b_M_freshen 24 = .ok (.ifCond .eq 53, 3) := by decide +kernel
theorem d_M_freshen_27 : decode b_M_freshen 27 = .ok (.iconst 0, 1) := by decide +kernel
theorem d_M_freshen_28 : decode b_M_freshen 28 = .ok (.istore_n 1, 1) := by decide +kernel
theorem d_M_freshen_29 : decode b_M_freshen 29 = .ok (.iconst 0, 1) := by decide +kernel
theorem d_M_freshen_30 : decode b_M_freshen 30 = .ok (.istore_n 2, 1) := by decide +kernel
theorem d_M_freshen_31 : decode b_M_freshen 31 = .ok (.iload_n 2, 1) := by decide +kernel
theorem d_M_freshen_32 : decode b_M_freshen 32 = .ok (.aload_n 0, 1) := by decide +kernel
theorem d_M_freshen_33 : decode b_M_freshen 33 = .ok (.getfield 100, 3) := by decide +kernel
theorem d_M_freshen_36 : decode b_M_freshen 36 = .ok (.if_icmp .ge 38, 3) := by decide +kernel
theorem d_M_freshen_39 : decode b_M_freshen 39 = .ok (.aload_n 0, 1) := by decide +kernel
theorem d_M_freshen_40 : decode b_M_freshen 40 = .ok (.getfield 63, 3) := by decide +kernel
theorem d_M_freshen_43 : decode b_M_freshen 43 = .ok (.iload_n 2, 1) := by decide +kernel
theorem d_M_freshen_44 : decode b_M_freshen 44 = .ok (.baload, 1) := by decide +kernel
theorem d_M_freshen_45 : decode b_M_freshen 45 = .ok (.ifCond .ne 23, 3) := by decide +kernel
theorem d_M_freshen_48 : decode b_M_freshen 48 = .ok (.aload_n 0, 1) := by decide +kernel
theorem d_M_freshen_49 : decode b_M_freshen 49 = .ok (.iload_n 2, 1) := by decide +kernel
theorem d_M_freshen_50 : decode b_M_freshen 50 = .ok (.invokevirtual 114, 3) := by decide +kernel
theorem d_M_freshen_53 : decode b_M_freshen 53 = .ok (.ifCond .ne 6, 3) := by decide +kernel
theorem d_M_freshen_56 : decode b_M_freshen 56 = .ok (.goto 12, 3) := by decide +kernel
theorem d_M_freshen_59 : decode b_M_freshen 59 = .ok (.aload_n 0, 1) := by decide +kernel
theorem d_M_freshen_60 : decode b_M_freshen 60 = .ok (.getfield 63, 3) := by decide +kernel
theorem d_M_freshen_63 : decode b_M_freshen 63 = .ok (.iload_n 2, 1) := by decide +kernel
theorem d_M_freshen_64 : decode b_M_freshen 64 = .ok (.iconst 1, 1) := by decide +kernel
theorem d_M_freshen_65 : decode b_M_freshen 65 = .ok (.bastore, 1) := by decide +kernel
theorem d_M_freshen_66 : decode b_M_freshen 66 = .ok (.iconst 1, 1) := by decide +kernel
theorem d_M_freshen_67 : decode b_M_freshen 67 = .ok (.istore_n 1, 1) := by decide +kernel
theorem d_M_freshen_68 : decode b_M_freshen 68 = .ok (.iinc 2 1, 3) := by decide +kernel
theorem d_M_freshen_71 : decode b_M_freshen 71 = .ok (.goto (-40), 3) := by decide +kernel
theorem d_M_freshen_74 : decode b_M_freshen 74 = .ok (.goto (-51), 3) := by decide +kernel
theorem d_M_freshen_77 : decode b_M_freshen 77 = .ok (.return_, 1) := by decide +kernel
theorem d_M_isSo_0 : decode b_M_isSo 0 = .ok (.aload_n 0, 1) := by decide +kernel
theorem d_M_isSo_1 : decode b_M_isSo 1 = .ok (.getfield 36, 3) := by decide +kernel
theorem d_M_isSo_4 : decode b_M_isSo 4 = .ok (.iload_n 1, 1) := by decide +kernel
theorem d_M_isSo_5 : decode b_M_isSo 5 = .ok (.iaload, 1) := by decide +kernel
theorem d_M_isSo_6 : decode b_M_isSo 6 = .ok (.iconst 2, 1) := by decide +kernel
theorem d_M_isSo_7 : decode b_M_isSo 7 = .ok (.if_icmp .eq 7, 3) := by decide +kernel
theorem d_M_isSo_10 : decode b_M_isSo 10 = .ok (.iconst 1, 1) := by decide +kernel
theorem d_M_isSo_11 : decode b_M_isSo 11 = .ok (.goto 4, 3) := by decide +kernel
theorem d_M_isSo_14 : decode b_M_isSo 14 = .ok (.iconst 0, 1) := by decide +kernel
theorem d_M_isSo_15 : decode b_M_isSo 15 = .ok (.istore_n 2, 1) := by decide +kernel
theorem d_M_isSo_16 : decode b_M_isSo 16 = .ok (.iconst 0, 1) := by decide +kernel
theorem d_M_isSo_17 : decode b_M_isSo 17 = .ok (.istore_n 3, 1) := by decide +kernel
theorem d_M_isSo_18 : decode b_M_isSo 18 = .ok (.iload_n 3, 1) := by decide +kernel
theorem d_M_isSo_19 : decode b_M_isSo 19 = .ok (.aload_n 0, 1) := by decide +kernel
theorem d_M_isSo_20 : decode b_M_isSo 20 = .ok (.getfield 39, 3) := by decide +kernel
theorem d_M_isSo_23 : decode b_M_isSo 23 = .ok (.iload_n 1, 1) := by decide +kernel
theorem d_M_isSo_24 : decode b_M_isSo 24 = .ok (.iaload, 1) := by decide +kernel
theorem d_M_isSo_25 : decode b_M_isSo 25 = .ok (.if_icmp .ge 117, 3) := by decide +kernel
theorem d_M_isSo_28 : decode b_M_isSo 28 = .ok (.iload_n 2, 1) := by decide +kernel
theorem d_M_isSo_29 : decode b_M_isSo 29 = .ok (.ifCond .eq 113, 3) := by decide +kernel
theorem d_M_isSo_32 : decode b_M_isSo 32 = .ok (.bipush 24, 2) := by decide +kernel
theorem d_M_isSo_34 : decode b_M_isSo 34 = .ok (.iload_n 1, 1) := by decide +kernel
theorem d_M_isSo_35 : decode b_M_isSo 35 = .ok (.imul, 1) := by decide +kernel
theorem d_M_isSo_36 : decode b_M_isSo 36 = .ok (.iload_n 3, 1) := by decide +kernel
theorem d_M_isSo_37 : decode b_M_isSo 37 = .ok (.iadd, 1) := by decide +kernel
theorem d_M_isSo_38 : decode b_M_isSo 38 = .ok (.istore 4, 2) := by decide +kernel
theorem d_M_isSo_40 : decode b_M_isSo 40 = .ok (.aload_n 0, 1) := by decide +kernel
theorem d_M_isSo_41 : decode b_M_isSo 41 = .ok (.getfield 42, 3) := by decide +kernel
theorem d_M_isSo_44 : decode b_M_isSo 44 = .ok (.iload 4, 2) := by decide +kernel
theorem d_M_isSo_46 : decode b_M_isSo 46 = .ok (.iaload, 1) := by decide +kernel
theorem d_M_isSo_47 : decode b_M_isSo 47 = .ok (.istore 5, 2) := by decide +kernel
theorem d_M_isSo_49 : decode b_M_isSo 49 = .ok (.aload_n 0, 1) := by decide +kernel
theorem d_M_isSo_50 : decode b_M_isSo 50 = .ok (.getfield 7, 3) := by decide +kernel
theorem d_M_isSo_53 : decode b_M_isSo 53 = .ok (.iload 5, 2) := by decide +kernel
theorem d_M_isSo_55 : decode b_M_isSo 55 = .ok (.baload, 1) := by decide +kernel
theorem d_M_isSo_56 : decode b_M_isSo 56 = .ok (.aload_n 0, 1) := by decide +kernel
theorem d_M_isSo_57 : decode b_M_isSo 57 = .ok (.getfield 57, 3) := by decide +kernel
theorem d_M_isSo_60 : decode b_M_isSo 60 = .ok (.iload 4, 2) := by decide +kernel
theorem d_M_isSo_62 : decode b_M_isSo 62 = .ok (.baload, 1) := by decide +kernel
theorem d_M_isSo_63 : decode b_M_isSo 63 = .ok (.if_icmp .ne 71, 3) := by decide +kernel
theorem d_M_isSo_66 : decode b_M_isSo 66 = .ok (.aload_n 0, 1) := by decide +kernel
theorem d_M_isSo_67 : decode b_M_isSo 67 = .ok (.getfield 60, 3) := by decide +kernel
theorem d_M_isSo_70 : decode b_M_isSo 70 = .ok (.iload 4, 2) := by decide +kernel
theorem d_M_isSo_72 : decode b_M_isSo 72 = .ok (.baload, 1) := by decide +kernel
theorem d_M_isSo_73 : decode b_M_isSo 73 = .ok (.ifCond .eq 31, 3) := by decide +kernel
theorem d_M_isSo_76 : decode b_M_isSo 76 = .ok (.aload_n 0, 1) := by decide +kernel
theorem d_M_isSo_77 : decode b_M_isSo 77 = .ok (.getfield 7, 3) := by decide +kernel
theorem d_M_isSo_80 : decode b_M_isSo 80 = .ok (.iload 5, 2) := by decide +kernel
theorem d_M_isSo_82 : decode b_M_isSo 82 = .ok (.baload, 1) := by decide +kernel
theorem d_M_isSo_83 : decode b_M_isSo 83 = .ok (.ifCond .eq 21, 3) := by decide +kernel
theorem d_M_isSo_86 : decode b_M_isSo 86 = .ok (.aload_n 0, 1) := by decide +kernel
theorem d_M_isSo_87 : decode b_M_isSo 87 = .ok (.getfield 13, 3) := by decide +kernel
theorem d_M_isSo_90 : decode b_M_isSo 90 = .ok (.iload 5, 2) := by decide +kernel
theorem d_M_isSo_92 : decode b_M_isSo 92 = .ok (.laload, 1) := by decide +kernel
theorem d_M_isSo_93 : decode b_M_isSo 93 = .ok (.aload_n 0, 1) := by decide +kernel
theorem d_M_isSo_94 : decode b_M_isSo 94 = .ok (.getfield 66, 3) := by decide +kernel
theorem d_M_isSo_97 : decode b_M_isSo 97 = .ok (.iload 4, 2) := by decide +kernel
theorem d_M_isSo_99 : decode b_M_isSo 99 = .ok (.laload, 1) := by decide +kernel
theorem d_M_isSo_100 : decode b_M_isSo 100 = .ok (.lcmp, 1) := by decide +kernel
theorem d_M_isSo_101 : decode b_M_isSo 101 = .ok (.ifCond .ne 33, 3) := by decide +kernel
theorem d_M_isSo_104 : decode b_M_isSo 104 = .ok (.aload_n 0, 1) := by decide +kernel
theorem d_M_isSo_105 : decode b_M_isSo 105 = .ok (.getfield 17, 3) := by decide +kernel
theorem d_M_isSo_108 : decode b_M_isSo 108 = .ok (.iload 5, 2) := by decide +kernel
theorem d_M_isSo_110 : decode b_M_isSo 110 = .ok (.iaload, 1) := by decide +kernel
theorem d_M_isSo_111 : decode b_M_isSo 111 = .ok (.iconst (-1), 1) := by decide +kernel
theorem d_M_isSo_112 : decode b_M_isSo 112 = .ok (.if_icmp .eq 18, 3) := by decide +kernel
theorem d_M_isSo_115 : decode b_M_isSo 115 = .ok (.aload_n 0, 1) := by decide +kernel
theorem d_M_isSo_116 : decode b_M_isSo 116 = .ok (.getfield 63, 3) := by decide +kernel
theorem d_M_isSo_119 : decode b_M_isSo 119 = .ok (.aload_n 0, 1) := by decide +kernel
theorem d_M_isSo_120 : decode b_M_isSo 120 = .ok (.getfield 17, 3) := by decide +kernel
theorem d_M_isSo_123 : decode b_M_isSo 123 = .ok (.iload 5, 2) := by decide +kernel
theorem d_M_isSo_125 : decode b_M_isSo 125 = .ok (.iaload, 1) := by decide +kernel
theorem d_M_isSo_126 : decode b_M_isSo 126 = .ok (.baload, 1) := by decide +kernel
theorem d_M_isSo_127 : decode b_M_isSo 127 = .ok (.ifCond .eq 7, 3) := by decide +kernel
theorem d_M_isSo_130 : decode b_M_isSo 130 = .ok (.iconst 1, 1) := by decide +kernel
theorem d_M_isSo_131 : decode b_M_isSo 131 = .ok (.goto 4, 3) := by decide +kernel
theorem d_M_isSo_134 : decode b_M_isSo 134 = .ok (.iconst 0, 1) := by decide +kernel
theorem d_M_isSo_135 : decode b_M_isSo 135 = .ok (.istore_n 2, 1) := by decide +kernel
theorem d_M_isSo_136 : decode b_M_isSo 136 = .ok (.iinc 3 1, 3) := by decide +kernel
theorem d_M_isSo_139 : decode b_M_isSo 139 = .ok (.goto (-121), 3) := by decide +kernel
theorem d_M_isSo_142 : decode b_M_isSo 142 = .ok (.iload_n 2, 1) := by decide +kernel
theorem d_M_isSo_143 : decode b_M_isSo 143 = .ok (.ireturn, 1) := by decide +kernel
theorem d_M_tryRows_0 : decode b_M_tryRows 0 = .ok (.aload_n 0, 1) := by decide +kernel
theorem d_M_tryRows_1 : decode b_M_tryRows 1 = .ok (.ldc2_w 135, 3) := by decide +kernel
theorem d_M_tryRows_4 : decode b_M_tryRows 4 = .ok (.putfield 130, 3) := by decide +kernel
theorem d_M_tryRows_7 : decode b_M_tryRows 7 = .ok (.aload_n 0, 1) := by decide +kernel
theorem d_M_tryRows_8 : decode b_M_tryRows 8 = .ok (.lconst 0, 1) := by decide +kernel
theorem d_M_tryRows_9 : decode b_M_tryRows 9 = .ok (.putfield 124, 3) := by decide +kernel
theorem d_M_tryRows_12 : decode b_M_tryRows 12 = .ok (.aload_n 0, 1) := by decide +kernel
theorem d_M_tryRows_13 : decode b_M_tryRows 13 = .ok (.getfield 39, 3) := by decide +kernel
theorem d_M_tryRows_16 : decode b_M_tryRows 16 = .ok (.iload_n 1, 1) := by decide +kernel
theorem d_M_tryRows_17 : decode b_M_tryRows 17 = .ok (.iconst 0, 1) := by decide +kernel
theorem d_M_tryRows_18 : decode b_M_tryRows 18 = .ok (.iastore, 1) := by decide +kernel
theorem d_M_tryRows_19 : decode b_M_tryRows 19 = .ok (.aload_n 0, 1) := by decide +kernel
theorem d_M_tryRows_20 : decode b_M_tryRows 20 = .ok (.getfield 36, 3) := by decide +kernel
theorem d_M_tryRows_23 : decode b_M_tryRows 23 = .ok (.iload_n 1, 1) := by decide +kernel
theorem d_M_tryRows_24 : decode b_M_tryRows 24 = .ok (.iconst 2, 1) := by decide +kernel
theorem d_M_tryRows_25 : decode b_M_tryRows 25 = .ok (.iastore, 1) := by decide +kernel
theorem d_M_tryRows_26 : decode b_M_tryRows 26 = .ok (.iconst 0, 1) := by decide +kernel
theorem d_M_tryRows_27 : decode b_M_tryRows 27 = .ok (.istore_n 2, 1) := by decide +kernel
theorem d_M_tryRows_28 : decode b_M_tryRows 28 = .ok (.iload_n 2, 1) := by decide +kernel
theorem d_M_tryRows_29 : decode b_M_tryRows 29 = .ok (.aload_n 0, 1) := by decide +kernel
theorem d_M_tryRows_30 : decode b_M_tryRows 30 = .ok (.getfield 27, 3) := by decide +kernel
theorem d_M_tryRows_33 : decode b_M_tryRows 33 = .ok (.iload_n 1, 1) := by decide +kernel
theorem d_M_tryRows_34 : decode b_M_tryRows 34 = .ok (.iaload, 1) := by decide +kernel
theorem d_M_tryRows_35 : decode b_M_tryRows 35 = .ok (.if_icmp .ge 81, 3) := by decide +kernel
theorem d_M_tryRows_38 : decode b_M_tryRows 38 = .ok (.aload_n 0, 1) := by decide +kernel
theorem d_M_tryRows_39 : decode b_M_tryRows 39 = .ok (.getfield 30, 3) := by decide +kernel
theorem d_M_tryRows_42 : decode b_M_tryRows 42 = .ok (.bipush 12, 2) := by decide +kernel
theorem d_M_tryRows_44 : decode b_M_tryRows 44 = .ok (.iload_n 1, 1) := by decide +kernel
theorem d_M_tryRows_45 : decode b_M_tryRows 45 = .ok (.imul, 1) := by decide +kernel
theorem d_M_tryRows_46 : decode b_M_tryRows 46 = .ok (.iload_n 2, 1) := by decide +kernel
theorem d_M_tryRows_47 : decode b_M_tryRows 47 = .ok (.iadd, 1) := by decide +kernel
theorem d_M_tryRows_48 : decode b_M_tryRows 48 = .ok (.iaload, 1) := by decide +kernel
theorem d_M_tryRows_49 : decode b_M_tryRows 49 = .ok (.istore_n 3, 1) := by decide +kernel
theorem d_M_tryRows_50 : decode b_M_tryRows 50 = .ok (.aload_n 0, 1) := by decide +kernel
theorem d_M_tryRows_51 : decode b_M_tryRows 51 = .ok (.getfield 33, 3) := by decide +kernel
theorem d_M_tryRows_54 : decode b_M_tryRows 54 = .ok (.bipush 12, 2) := by decide +kernel
theorem d_M_tryRows_56 : decode b_M_tryRows 56 = .ok (.iload_n 1, 1) := by decide +kernel
theorem d_M_tryRows_57 : decode b_M_tryRows 57 = .ok (.imul, 1) := by decide +kernel
theorem d_M_tryRows_58 : decode b_M_tryRows 58 = .ok (.iload_n 2, 1) := by decide +kernel
theorem d_M_tryRows_59 : decode b_M_tryRows 59 = .ok (.iadd, 1) := by decide +kernel
theorem d_M_tryRows_60 : decode b_M_tryRows 60 = .ok (.iaload, 1) := by decide +kernel
theorem d_M_tryRows_61 : decode b_M_tryRows 61 = .ok (.istore 4, 2) := by decide +kernel
theorem d_M_tryRows_63 : decode b_M_tryRows 63 = .ok (.iinc 2 1, 3) := by decide +kernel
theorem d_M_tryRows_66 : decode b_M_tryRows 66 = .ok (.iload_n 3, 1) := by decide +kernel
theorem d_M_tryRows_67 : decode b_M_tryRows 67 = .ok (.iconst 2, 1) := by decide +kernel
theorem d_M_tryRows_68 : decode b_M_tryRows 68 = .ok (.if_icmp .ne 26, 3) := by decide +kernel
theorem d_M_tryRows_71 : decode b_M_tryRows 71 = .ok (.iload_n 2, 1) := by decide +kernel
theorem d_M_tryRows_72 : decode b_M_tryRows 72 = .ok (.aload_n 0, 1) := by decide +kernel
theorem d_M_tryRows_73 : decode b_M_tryRows 73 = .ok (.getfield 124, 3) := by decide +kernel
theorem d_M_tryRows_76 : decode b_M_tryRows 76 = .ok (.lconst 1, 1) := by decide +kernel
theorem d_M_tryRows_77 : decode b_M_tryRows 77 = .ok (.land, 1) := by decide +kernel
theorem d_M_tryRows_78 : decode b_M_tryRows 78 = .ok (.lconst 1, 1) := by decide +kernel
theorem d_M_tryRows_79 : decode b_M_tryRows 79 = .ok (.lcmp, 1) := by decide +kernel
theorem d_M_tryRows_80 : decode b_M_tryRows 80 = .ok (.ifCond .ne 8, 3) := by decide +kernel
theorem d_M_tryRows_83 : decode b_M_tryRows 83 = .ok (.iload 4, 2) := by decide +kernel
theorem d_M_tryRows_85 : decode b_M_tryRows 85 = .ok (.goto 4, 3) := by decide +kernel
theorem d_M_tryRows_88 : decode b_M_tryRows 88 = .ok (.iconst 0, 1) := by decide +kernel
theorem d_M_tryRows_89 : decode b_M_tryRows 89 = .ok (.iadd, 1) := by decide +kernel
theorem d_M_tryRows_90 : decode b_M_tryRows 90 = .ok (.istore_n 2, 1) := by decide +kernel
theorem d_M_tryRows_91 : decode b_M_tryRows 91 = .ok (.goto (-63), 3) := by decide +kernel
theorem d_M_tryRows_94 : decode b_M_tryRows 94 = .ok (.aload_n 0, 1) := by decide +kernel
theorem d_M_tryRows_95 : decode b_M_tryRows 95 = .ok (.iload_n 1, 1) := by decide +kernel
theorem d_M_tryRows_96 : decode b_M_tryRows 96 = .ok (.iload_n 3, 1) := by decide +kernel
theorem d_M_tryRows_97 : decode b_M_tryRows 97 = .ok (.iload 4, 2) := by decide +kernel
theorem d_M_tryRows_99 : decode b_M_tryRows 99 = .ok (.invokevirtual 137, 3) := by decide +kernel
theorem d_M_tryRows_102 : decode b_M_tryRows 102 = .ok (.istore 5, 2) := by decide +kernel
theorem d_M_tryRows_104 : decode b_M_tryRows 104 = .ok (.iload 5, 2) := by decide +kernel
theorem d_M_tryRows_106 : decode b_M_tryRows 106 = .ok (.iconst 1, 1) := by decide +kernel
theorem d_M_tryRows_107 : decode b_M_tryRows 107 = .ok (.if_icmp .eq 6, 3) := by decide +kernel
theorem d_M_tryRows_110 : decode b_M_tryRows 110 = .ok (.iload 5, 2) := by decide +kernel
theorem d_M_tryRows_112 : decode b_M_tryRows 112 = .ok (.ireturn, 1) := by decide +kernel
theorem d_M_tryRows_113 : decode b_M_tryRows 113 = .ok (.goto (-85), 3) := by decide +kernel
theorem d_M_tryRows_116 : decode b_M_tryRows 116 = .ok (.iconst 1, 1) := by decide +kernel
theorem d_M_tryRows_117 : decode b_M_tryRows 117 = .ok (.ireturn, 1) := by decide +kernel
theorem d_M_look_0 : decode b_M_look 0 = .ok (.aload_n 0, 1) := by decide +kernel
theorem d_M_look_1 : decode b_M_look 1 = .ok (.getfield 21, 3) := by decide +kernel
theorem d_M_look_4 : decode b_M_look 4 = .ok (.iload_n 1, 1) := by decide +kernel
theorem d_M_look_5 : decode b_M_look 5 = .ok (.iaload, 1) := by decide +kernel
theorem d_M_look_6 : decode b_M_look 6 = .ok (.iload_n 3, 1) := by decide +kernel
theorem d_M_look_7 : decode b_M_look 7 = .ok (.ishr, 1) := by decide +kernel
theorem d_M_look_8 : decode b_M_look 8 = .ok (.iconst 1, 1) := by decide +kernel
theorem d_M_look_9 : decode b_M_look 9 = .ok (.iand, 1) := by decide +kernel
theorem d_M_look_10 : decode b_M_look 10 = .ok (.ifCond .ne 5, 3) := by decide +kernel
theorem d_M_look_13 : decode b_M_look 13 = .ok (.iconst (-1), 1) := by decide +kernel
theorem d_M_look_14 : decode b_M_look 14 = .ok (.ireturn, 1) := by decide +kernel
theorem d_M_look_15 : decode b_M_look 15 = .ok (.aload_n 0, 1) := by decide +kernel
theorem d_M_look_16 : decode b_M_look 16 = .ok (.getfield 17, 3) := by decide +kernel
theorem d_M_look_19 : decode b_M_look 19 = .ok (.iload_n 3, 1) := by decide +kernel
theorem d_M_look_20 : decode b_M_look 20 = .ok (.iaload, 1) := by decide +kernel
theorem d_M_look_21 : decode b_M_look 21 = .ok (.iconst (-1), 1) := by decide +kernel
theorem d_M_look_22 : decode b_M_look 22 = .ok (.if_icmp .eq 26, 3) := by decide +kernel
theorem d_M_look_25 : decode b_M_look 25 = .ok (.aload_n 0, 1) := by decide +kernel
theorem d_M_look_26 : decode b_M_look 26 = .ok (.getfield 63, 3) := by decide +kernel
theorem d_M_look_29 : decode b_M_look 29 = .ok (.aload_n 0, 1) := by decide +kernel
theorem d_M_look_30 : decode b_M_look 30 = .ok (.getfield 17, 3) := by decide +kernel
theorem d_M_look_33 : decode b_M_look 33 = .ok (.iload_n 3, 1) := by decide +kernel
theorem d_M_look_34 : decode b_M_look 34 = .ok (.iaload, 1) := by decide +kernel
theorem d_M_look_35 : decode b_M_look 35 = .ok (.baload, 1) := by decide +kernel
theorem d_M_look_36 : decode b_M_look 36 = .ok (.ifCond .ne 12, 3) := by decide +kernel
theorem d_M_look_39 : decode b_M_look 39 = .ok (.aload_n 0, 1) := by decide +kernel
theorem d_M_look_40 : decode b_M_look 40 = .ok (.getfield 54, 3) := by decide +kernel
theorem d_M_look_43 : decode b_M_look 43 = .ok (.iload_n 1, 1) := by decide +kernel
theorem d_M_look_44 : decode b_M_look 44 = .ok (.iload_n 3, 1) := by decide +kernel
theorem d_M_look_45 : decode b_M_look 45 = .ok (.iastore, 1) := by decide +kernel
theorem d_M_look_46 : decode b_M_look 46 = .ok (.iconst 0, 1) := by decide +kernel
theorem d_M_look_47 : decode b_M_look 47 = .ok (.ireturn, 1) := by decide +kernel
theorem d_M_look_48 : decode b_M_look 48 = .ok (.aload_n 0, 1) := by decide +kernel
theorem d_M_look_49 : decode b_M_look 49 = .ok (.iload_n 1, 1) := by decide +kernel
theorem d_M_look_50 : decode b_M_look 50 = .ok (.iload_n 3, 1) := by decide +kernel
theorem d_M_look_51 : decode b_M_look 51 = .ok (.iload_n 2, 1) := by decide +kernel
theorem d_M_look_52 : decode b_M_look 52 = .ok (.ifCond .ne 7, 3) := by decide +kernel
theorem d_M_look_55 : decode b_M_look 55 = .ok (.iconst 1, 1) := by decide +kernel
theorem d_M_look_56 : decode b_M_look 56 = .ok (.goto 4, 3) := by decide +kernel
theorem d_M_look_59 : decode b_M_look 59 = .ok (.iconst 0, 1) := by decide +kernel
theorem d_M_look_60 : decode b_M_look 60 = .ok (.invokevirtual 120, 3) := by decide +kernel
theorem d_M_look_63 : decode b_M_look 63 = .ok (.iload_n 2, 1) := by decide +kernel
theorem d_M_look_64 : decode b_M_look 64 = .ok (.ifCond .ne 15, 3) := by decide +kernel
theorem d_M_look_67 : decode b_M_look 67 = .ok (.aload_n 0, 1) := by decide +kernel
theorem d_M_look_68 : decode b_M_look 68 = .ok (.getfield 7, 3) := by decide +kernel
theorem d_M_look_71 : decode b_M_look 71 = .ok (.iload_n 3, 1) := by decide +kernel
theorem d_M_look_72 : decode b_M_look 72 = .ok (.baload, 1) := by decide +kernel
theorem d_M_look_73 : decode b_M_look 73 = .ok (.ifCond .ne 6, 3) := by decide +kernel
theorem d_M_look_76 : decode b_M_look 76 = .ok (.bipush (-3), 2) := by decide +kernel
theorem d_M_look_78 : decode b_M_look 78 = .ok (.ireturn, 1) := by decide +kernel
theorem d_M_look_79 : decode b_M_look 79 = .ok (.iload_n 2, 1) := by decide +kernel
theorem d_M_look_80 : decode b_M_look 80 = .ok (.ifCond .ne 13, 3) := by decide +kernel
theorem d_M_look_83 : decode b_M_look 83 = .ok (.aload_n 0, 1) := by decide +kernel
theorem d_M_look_84 : decode b_M_look 84 = .ok (.aload_n 0, 1) := by decide +kernel
theorem d_M_look_85 : decode b_M_look 85 = .ok (.getfield 13, 3) := by decide +kernel
theorem d_M_look_88 : decode b_M_look 88 = .ok (.iload_n 3, 1) := by decide +kernel
theorem d_M_look_89 : decode b_M_look 89 = .ok (.laload, 1) := by decide +kernel
theorem d_M_look_90 : decode b_M_look 90 = .ok (.putfield 124, 3) := by decide +kernel
theorem d_M_look_93 : decode b_M_look 93 = .ok (.aload_n 0, 1) := by decide +kernel
theorem d_M_look_94 : decode b_M_look 94 = .ok (.ldc2_w 128, 3) := by decide +kernel
theorem d_M_look_97 : decode b_M_look 97 = .ok (.aload_n 0, 1) := by decide +kernel
theorem d_M_look_98 : decode b_M_look 98 = .ok (.getfield 130, 3) := by decide +kernel
theorem d_M_look_101 : decode b_M_look 101 = .ok (.lmul, 1) := by decide +kernel
theorem d_M_look_102 : decode b_M_look 102 = .ok (.iload_n 2, 1) := by decide +kernel
theorem d_M_look_103 : decode b_M_look 103 = .ok (.ifCond .ne 12, 3) := by decide +kernel
theorem d_M_look_106 : decode b_M_look 106 = .ok (.aload_n 0, 1) := by decide +kernel
theorem d_M_look_107 : decode b_M_look 107 = .ok (.getfield 13, 3) := by decide +kernel
theorem d_M_look_110 : decode b_M_look 110 = .ok (.iload_n 3, 1) := by decide +kernel
theorem d_M_look_111 : decode b_M_look 111 = .ok (.laload, 1) := by decide +kernel
theorem d_M_look_112 : decode b_M_look 112 = .ok (.goto 19, 3) := by decide +kernel
theorem d_M_look_115 : decode b_M_look 115 = .ok (.aload_n 0, 1) := by decide +kernel
theorem d_M_look_116 : decode b_M_look 116 = .ok (.getfield 7, 3) := by decide +kernel
theorem d_M_look_119 : decode b_M_look 119 = .ok (.iload_n 3, 1) := by decide +kernel
theorem d_M_look_120 : decode b_M_look 120 = .ok (.baload, 1) := by decide +kernel
theorem d_M_look_121 : decode b_M_look 121 = .ok (.ifCond .eq 7, 3) := by decide +kernel
theorem d_M_look_124 : decode b_M_look 124 = .ok (.lconst 1, 1) := by decide +kernel
theorem d_M_look_125 : decode b_M_look 125 = .ok (.goto 6, 3) := by decide +kernel
theorem d_M_look_128 : decode b_M_look 128 = .ok (.ldc2_w 133, 3) := by decide +kernel
theorem d_M_look_131 : decode b_M_look 131 = .ok (.ladd, 1) := by decide +kernel
theorem d_M_look_132 : decode b_M_look 132 = .ok (.putfield 130, 3) := by decide +kernel
theorem d_M_look_135 : decode b_M_look 135 = .ok (.iconst 1, 1) := by decide +kernel
theorem d_M_look_136 : decode b_M_look 136 = .ok (.ireturn, 1) := by decide +kernel
theorem d_M_note_0 : decode b_M_note 0 = .ok (.iconst 0, 1) := by decide +kernel
theorem d_M_note_1 : decode b_M_note 1 = .ok (.istore 4, 2) := by decide +kernel
theorem d_M_note_3 : decode b_M_note 3 = .ok (.iload 4, 2) := by decide +kernel
theorem d_M_note_5 : decode b_M_note 5 = .ok (.aload_n 0, 1) := by decide +kernel
theorem d_M_note_6 : decode b_M_note 6 = .ok (.getfield 39, 3) := by decide +kernel
theorem d_M_note_9 : decode b_M_note 9 = .ok (.iload_n 1, 1) := by decide +kernel
theorem d_M_note_10 : decode b_M_note 10 = .ok (.iaload, 1) := by decide +kernel
theorem d_M_note_11 : decode b_M_note 11 = .ok (.if_icmp .ge 25, 3) := by decide +kernel
theorem d_M_note_14 : decode b_M_note 14 = .ok (.aload_n 0, 1) := by decide +kernel
theorem d_M_note_15 : decode b_M_note 15 = .ok (.getfield 42, 3) := by decide +kernel
theorem d_M_note_18 : decode b_M_note 18 = .ok (.bipush 24, 2) := by decide +kernel
theorem d_M_note_20 : decode b_M_note 20 = .ok (.iload_n 1, 1) := by decide +kernel
theorem d_M_note_21 : decode b_M_note 21 = .ok (.imul, 1) := by decide +kernel
theorem d_M_note_22 : decode b_M_note 22 = .ok (.iload 4, 2) := by decide +kernel
theorem d_M_note_24 : decode b_M_note 24 = .ok (.iadd, 1) := by decide +kernel
theorem d_M_note_25 : decode b_M_note 25 = .ok (.iaload, 1) := by decide +kernel
theorem d_M_note_26 : decode b_M_note 26 = .ok (.iload_n 2, 1) := by decide +kernel
theorem d_M_note_27 : decode b_M_note 27 = .ok (.if_icmp .eq 9, 3) := by decide +kernel
theorem d_M_note_30 : decode b_M_note 30 = .ok (.iinc 4 1, 3) := by decide +kernel
theorem d_M_note_33 : decode b_M_note 33 = .ok (.goto (-30), 3) := by decide +kernel
theorem d_M_note_36 : decode b_M_note 36 = .ok (.bipush 24, 2) := by decide +kernel
theorem d_M_note_38 : decode b_M_note 38 = .ok (.iload_n 1, 1) := by decide +kernel
theorem d_M_note_39 : decode b_M_note 39 = .ok (.imul, 1) := by decide +kernel
theorem d_M_note_40 : decode b_M_note 40 = .ok (.iload 4, 2) := by decide +kernel
theorem d_M_note_42 : decode b_M_note 42 = .ok (.iadd, 1) := by decide +kernel
theorem d_M_note_43 : decode b_M_note 43 = .ok (.istore 5, 2) := by decide +kernel
theorem d_M_note_45 : decode b_M_note 45 = .ok (.iload 4, 2) := by decide +kernel
theorem d_M_note_47 : decode b_M_note 47 = .ok (.aload_n 0, 1) := by decide +kernel
theorem d_M_note_48 : decode b_M_note 48 = .ok (.getfield 39, 3) := by decide +kernel
theorem d_M_note_51 : decode b_M_note 51 = .ok (.iload_n 1, 1) := by decide +kernel
theorem d_M_note_52 : decode b_M_note 52 = .ok (.iaload, 1) := by decide +kernel
theorem d_M_note_53 : decode b_M_note 53 = .ok (.if_icmp .ne 29, 3) := by decide +kernel
theorem d_M_note_56 : decode b_M_note 56 = .ok (.aload_n 0, 1) := by decide +kernel
theorem d_M_note_57 : decode b_M_note 57 = .ok (.getfield 42, 3) := by decide +kernel
theorem d_M_note_60 : decode b_M_note 60 = .ok (.iload 5, 2) := by decide +kernel
theorem d_M_note_62 : decode b_M_note 62 = .ok (.iload_n 2, 1) := by decide +kernel
theorem d_M_note_63 : decode b_M_note 63 = .ok (.iastore, 1) := by decide +kernel
theorem d_M_note_64 : decode b_M_note 64 = .ok (.aload_n 0, 1) := by decide +kernel
theorem d_M_note_65 : decode b_M_note 65 = .ok (.getfield 60, 3) := by decide +kernel
theorem d_M_note_68 : decode b_M_note 68 = .ok (.iload 5, 2) := by decide +kernel
theorem d_M_note_70 : decode b_M_note 70 = .ok (.iconst 0, 1) := by decide +kernel
theorem d_M_note_71 : decode b_M_note 71 = .ok (.bastore, 1) := by decide +kernel
theorem d_M_note_72 : decode b_M_note 72 = .ok (.aload_n 0, 1) := by decide +kernel
theorem d_M_note_73 : decode b_M_note 73 = .ok (.getfield 39, 3) := by decide +kernel
theorem d_M_note_76 : decode b_M_note 76 = .ok (.iload_n 1, 1) := by decide +kernel
theorem d_M_note_77 : decode b_M_note 77 = .ok (.dup2, 1) := by decide +kernel
theorem d_M_note_78 : decode b_M_note 78 = .ok (.iaload, 1) := by decide +kernel
theorem d_M_note_79 : decode b_M_note 79 = .ok (.iconst 1, 1) := by decide +kernel
theorem d_M_note_80 : decode b_M_note 80 = .ok (.iadd, 1) := by decide +kernel
theorem d_M_note_81 : decode b_M_note 81 = .ok (.iastore, 1) := by decide +kernel
theorem d_M_note_82 : decode b_M_note 82 = .ok (.aload_n 0, 1) := by decide +kernel
theorem d_M_note_83 : decode b_M_note 83 = .ok (.getfield 57, 3) := by decide +kernel
theorem d_M_note_86 : decode b_M_note 86 = .ok (.iload 5, 2) := by decide +kernel
theorem d_M_note_88 : decode b_M_note 88 = .ok (.aload_n 0, 1) := by decide +kernel
theorem d_M_note_89 : decode b_M_note 89 = .ok (.getfield 7, 3) := by decide +kernel
theorem d_M_note_92 : decode b_M_note 92 = .ok (.iload_n 2, 1) := by decide +kernel
theorem d_M_note_93 : decode b_M_note 93 = .ok (.baload, 1) := by decide +kernel
theorem d_M_note_94 : decode b_M_note 94 = .ok (.bastore, 1) := by decide +kernel
theorem d_M_note_95 : decode b_M_note 95 = .ok (.aload_n 0, 1) := by decide +kernel
theorem d_M_note_96 : decode b_M_note 96 = .ok (.getfield 60, 3) := by decide +kernel
theorem d_M_note_99 : decode b_M_note 99 = .ok (.iload 5, 2) := by decide +kernel
theorem d_M_note_101 : decode b_M_note 101 = .ok (.aload_n 0, 1) := by decide +kernel
theorem d_M_note_102 : decode b_M_note 102 = .ok (.getfield 60, 3) := by decide +kernel
theorem d_M_note_105 : decode b_M_note 105 = .ok (.iload 5, 2) := by decide +kernel
theorem d_M_note_107 : decode b_M_note 107 = .ok (.baload, 1) := by decide +kernel
theorem d_M_note_108 : decode b_M_note 108 = .ok (.ifCond .ne 7, 3) := by decide +kernel
theorem d_M_note_111 : decode b_M_note 111 = .ok (.iload_n 3, 1) := by decide +kernel
theorem d_M_note_112 : decode b_M_note 112 = .ok (.ifCond .eq 7, 3) := by decide +kernel
theorem d_M_note_115 : decode b_M_note 115 = .ok (.iconst 1, 1) := by decide +kernel
theorem d_M_note_116 : decode b_M_note 116 = .ok (.goto 4, 3) := by decide +kernel
theorem d_M_note_119 : decode b_M_note 119 = .ok (.iconst 0, 1) := by decide +kernel
theorem d_M_note_120 : decode b_M_note 120 = .ok (.bastore, 1) := by decide +kernel
theorem d_M_note_121 : decode b_M_note 121 = .ok (.aload_n 0, 1) := by decide +kernel
theorem d_M_note_122 : decode b_M_note 122 = .ok (.getfield 66, 3) := by decide +kernel
theorem d_M_note_125 : decode b_M_note 125 = .ok (.iload 5, 2) := by decide +kernel
theorem d_M_note_127 : decode b_M_note 127 = .ok (.aload_n 0, 1) := by decide +kernel
theorem d_M_note_128 : decode b_M_note 128 = .ok (.getfield 13, 3) := by decide +kernel
theorem d_M_note_131 : decode b_M_note 131 = .ok (.iload_n 2, 1) := by decide +kernel
theorem d_M_note_132 : decode b_M_note 132 = .ok (.laload, 1) := by decide +kernel
theorem d_M_note_133 : decode b_M_note 133 = .ok (.lastore, 1) := by decide +kernel
theorem d_M_note_134 : decode b_M_note 134 = .ok (.return_, 1) := by decide +kernel
theorem d_M_resolve_0 : decode b_M_resolve 0 = .ok (.aload_n 0, 1) := by decide +kernel
theorem d_M_resolve_1 : decode b_M_resolve 1 = .ok (.iconst 0, 1) := by decide +kernel
theorem d_M_resolve_2 : decode b_M_resolve 2 = .ok (.putfield 94, 3) := by decide +kernel
theorem d_M_resolve_5 : decode b_M_resolve 5 = .ok (.aload_n 0, 1) := by decide +kernel
theorem d_M_resolve_6 : decode b_M_resolve 6 = .ok (.iload_n 1, 1) := by decide +kernel
theorem d_M_resolve_7 : decode b_M_resolve 7 = .ok (.invokevirtual 107, 3) := by decide +kernel
theorem d_M_resolve_10 : decode b_M_resolve 10 = .ok (.ifCond .ne 6, 3) := by decide +kernel
theorem d_M_resolve_13 : decode b_M_resolve 13 = .ok (.bipush (-9), 2) := by decide +kernel
theorem d_M_resolve_15 : decode b_M_resolve 15 = .ok (.ireturn, 1) := by decide +kernel
theorem d_M_resolve_16 : decode b_M_resolve 16 = .ok (.aload_n 0, 1) := by decide +kernel
theorem d_M_resolve_17 : decode b_M_resolve 17 = .ok (.iconst 0, 1) := by decide +kernel
theorem d_M_resolve_18 : decode b_M_resolve 18 = .ok (.putfield 151, 3) := by decide +kernel
theorem d_M_resolve_21 : decode b_M_resolve 21 = .ok (.aload_n 0, 1) := by decide +kernel
theorem d_M_resolve_22 : decode b_M_resolve 22 = .ok (.getfield 72, 3) := by decide +kernel
theorem d_M_resolve_25 : decode b_M_resolve 25 = .ok (.iconst 0, 1) := by decide +kernel
theorem d_M_resolve_26 : decode b_M_resolve 26 = .ok (.iload_n 1, 1) := by decide +kernel
theorem d_M_resolve_27 : decode b_M_resolve 27 = .ok (.iastore, 1) := by decide +kernel
theorem d_M_resolve_28 : decode b_M_resolve 28 = .ok (.iconst 1, 1) := by decide +kernel
theorem d_M_resolve_29 : decode b_M_resolve 29 = .ok (.istore_n 2, 1) := by decide +kernel
theorem d_M_resolve_30 : decode b_M_resolve 30 = .ok (.aload_n 0, 1) := by decide +kernel
theorem d_M_resolve_31 : decode b_M_resolve 31 = .ok (.getfield 72, 3) := by decide +kernel
theorem d_M_resolve_34 : decode b_M_resolve 34 = .ok (.iload_n 2, 1) := by decide +kernel
theorem d_M_resolve_35 : decode b_M_resolve 35 = .ok (.iconst 1, 1) := by decide +kernel
theorem d_M_resolve_36 : decode b_M_resolve 36 = .ok (.isub, 1) := by decide +kernel
theorem d_M_resolve_37 : decode b_M_resolve 37 = .ok (.iaload, 1) := by decide +kernel
theorem d_M_resolve_38 : decode b_M_resolve 38 = .ok (.istore_n 3, 1) := by decide +kernel
theorem d_M_resolve_39 : decode b_M_resolve 39 = .ok (.aload_n 0, 1) := by decide +kernel
theorem d_M_resolve_40 : decode b_M_resolve 40 = .ok (.iload_n 3, 1) := by decide +kernel
theorem d_M_resolve_41 : decode b_M_resolve 41 = .ok (.invokevirtual 148, 3) := by decide +kernel
theorem d_M_resolve_44 : decode b_M_resolve 44 = .ok (.istore 4, 2) := by decide +kernel
theorem d_M_resolve_46 : decode b_M_resolve 46 = .ok (.iload 4, 2) := by decide +kernel
theorem d_M_resolve_48 : decode b_M_resolve 48 = .ok (.ifCond .ne 71, 3) := by decide +kernel
theorem d_M_resolve_51 : decode b_M_resolve 51 = .ok (.aload_n 0, 1) := by decide +kernel
theorem d_M_resolve_52 : decode b_M_resolve 52 = .ok (.getfield 17, 3) := by decide +kernel
theorem d_M_resolve_55 : decode b_M_resolve 55 = .ok (.aload_n 0, 1) := by decide +kernel
theorem d_M_resolve_56 : decode b_M_resolve 56 = .ok (.getfield 54, 3) := by decide +kernel
theorem d_M_resolve_59 : decode b_M_resolve 59 = .ok (.iload_n 3, 1) := by decide +kernel
theorem d_M_resolve_60 : decode b_M_resolve 60 = .ok (.iaload, 1) := by decide +kernel
theorem d_M_resolve_61 : decode b_M_resolve 61 = .ok (.iaload, 1) := by decide +kernel
theorem d_M_resolve_62 : decode b_M_resolve 62 = .ok (.istore 5, 2) := by decide +kernel
theorem d_M_resolve_64 : decode b_M_resolve 64 = .ok (.iconst 0, 1) := by decide +kernel
theorem d_M_resolve_65 : decode b_M_resolve 65 = .ok (.istore 6, 2) := by decide +kernel
theorem d_M_resolve_67 : decode b_M_resolve 67 = .ok (.iload 6, 2) := by decide +kernel
theorem d_M_resolve_69 : decode b_M_resolve 69 = .ok (.iload_n 2, 1) := by decide +kernel
theorem d_M_resolve_70 : decode b_M_resolve 70 = .ok (.if_icmp .ge 21, 3) := by decide +kernel
theorem d_M_resolve_73 : decode b_M_resolve 73 = .ok (.aload_n 0, 1) := by decide +kernel
theorem d_M_resolve_74 : decode b_M_resolve 74 = .ok (.getfield 72, 3) := by decide +kernel
theorem d_M_resolve_77 : decode b_M_resolve 77 = .ok (.iload 6, 2) := by decide +kernel
theorem d_M_resolve_79 : decode b_M_resolve 79 = .ok (.iaload, 1) := by decide +kernel
theorem d_M_resolve_80 : decode b_M_resolve 80 = .ok (.iload 5, 2) := by decide +kernel
theorem d_M_resolve_82 : decode b_M_resolve 82 = .ok (.if_icmp .eq 9, 3) := by decide +kernel
theorem d_M_resolve_85 : decode b_M_resolve 85 = .ok (.iinc 6 1, 3) := by decide +kernel
theorem d_M_resolve_88 : decode b_M_resolve 88 = .ok (.goto (-21), 3) := by decide +kernel
theorem d_M_resolve_91 : decode b_M_resolve 91 = .ok (.iload 6, 2) := by decide +kernel
theorem d_M_resolve_93 : decode b_M_resolve 93 = .ok (.iload_n 2, 1) := by decide +kernel
theorem d_M_resolve_94 : decode b_M_resolve 94 = .ok (.if_icmp .ge 11, 3) := by decide +kernel
theorem d_M_resolve_97 : decode b_M_resolve 97 = .ok (.aload_n 0, 1) := by decide +kernel
theorem d_M_resolve_98 : decode b_M_resolve 98 = .ok (.iload 6, 2) := by decide +kernel
theorem d_M_resolve_100 : decode b_M_resolve 100 = .ok (.iload_n 2, 1) := by decide +kernel
theorem d_M_resolve_101 : decode b_M_resolve 101 = .ok (.invokevirtual 154, 3) := by decide +kernel
theorem d_M_resolve_104 : decode b_M_resolve 104 = .ok (.ireturn, 1) := by decide +kernel
theorem d_M_resolve_105 : decode b_M_resolve 105 = .ok (.aload_n 0, 1) := by decide +kernel
theorem d_M_resolve_106 : decode b_M_resolve 106 = .ok (.getfield 72, 3) := by decide +kernel
theorem d_M_resolve_109 : decode b_M_resolve 109 = .ok (.iload_n 2, 1) := by decide +kernel
theorem d_M_resolve_110 : decode b_M_resolve 110 = .ok (.iload 5, 2) := by decide +kernel
theorem d_M_resolve_112 : decode b_M_resolve 112 = .ok (.iastore, 1) := by decide +kernel
theorem d_M_resolve_113 : decode b_M_resolve 113 = .ok (.iinc 2 1, 3) := by decide +kernel
theorem d_M_resolve_116 : decode b_M_resolve 116 = .ok (.goto 27, 3) := by decide +kernel
theorem d_M_resolve_119 : decode b_M_resolve 119 = .ok (.iload_n 2, 1) := by decide +kernel
theorem d_M_resolve_120 : decode b_M_resolve 120 = .ok (.iconst 1, 1) := by decide +kernel
theorem d_M_resolve_121 : decode b_M_resolve 121 = .ok (.if_icmp .eq 16, 3) := by decide +kernel
theorem d_M_resolve_124 : decode b_M_resolve 124 = .ok (.iload 4, 2) := by decide +kernel
theorem d_M_resolve_126 : decode b_M_resolve 126 = .ok (.iconst (-1), 1) := by decide +kernel
theorem d_M_resolve_127 : decode b_M_resolve 127 = .ok (.if_icmp .eq 10, 3) := by decide +kernel
theorem d_M_resolve_130 : decode b_M_resolve 130 = .ok (.iload 4, 2) := by decide +kernel
theorem d_M_resolve_132 : decode b_M_resolve 132 = .ok (.bipush (-2), 2) := by decide +kernel
theorem d_M_resolve_134 : decode b_M_resolve 134 = .ok (.if_icmp .ne 6, 3) := by decide +kernel
theorem d_M_resolve_137 : decode b_M_resolve 137 = .ok (.iload 4, 2) := by decide +kernel
theorem d_M_resolve_139 : decode b_M_resolve 139 = .ok (.ireturn, 1) := by decide +kernel
theorem d_M_resolve_140 : decode b_M_resolve 140 = .ok (.iinc 2 (-1), 3) := by decide +kernel
theorem d_M_resolve_143 : decode b_M_resolve 143 = .ok (.goto (-113), 3) := by decide +kernel
theorem d_M_tellRing_0 : decode b_M_tellRing 0 = .ok (.iload_n 1, 1) := by decide +kernel
theorem d_M_tellRing_1 : decode b_M_tellRing 1 = .ok (.istore_n 3, 1) := by decide +kernel
theorem d_M_tellRing_2 : decode b_M_tellRing 2 = .ok (.iload_n 3, 1) := by decide +kernel
theorem d_M_tellRing_3 : decode b_M_tellRing 3 = .ok (.iload_n 2, 1) := by decide +kernel
theorem d_M_tellRing_4 : decode b_M_tellRing 4 = .ok (.if_icmp .ge 34, 3) := by decide +kernel
theorem d_M_tellRing_7 : decode b_M_tellRing 7 = .ok (.aload_n 0, 1) := by decide +kernel
theorem d_M_tellRing_8 : decode b_M_tellRing 8 = .ok (.getfield 69, 3) := by decide +kernel
theorem d_M_tellRing_11 : decode b_M_tellRing 11 = .ok (.aload_n 0, 1) := by decide +kernel
theorem d_M_tellRing_12 : decode b_M_tellRing 12 = .ok (.getfield 151, 3) := by decide +kernel
theorem d_M_tellRing_15 : decode b_M_tellRing 15 = .ok (.aload_n 0, 1) := by decide +kernel
theorem d_M_tellRing_16 : decode b_M_tellRing 16 = .ok (.getfield 72, 3) := by decide +kernel
theorem d_M_tellRing_19 : decode b_M_tellRing 19 = .ok (.iload_n 3, 1) := by decide +kernel
theorem d_M_tellRing_20 : decode b_M_tellRing 20 = .ok (.iaload, 1) := by decide +kernel
theorem d_M_tellRing_21 : decode b_M_tellRing 21 = .ok (.iastore, 1) := by decide +kernel
theorem d_M_tellRing_22 : decode b_M_tellRing 22 = .ok (.aload_n 0, 1) := by decide +kernel
theorem d_M_tellRing_23 : decode b_M_tellRing 23 = .ok (.dup, 1) := by decide +kernel
theorem d_M_tellRing_24 : decode b_M_tellRing 24 = .ok (.getfield 151, 3) := by decide +kernel
theorem d_M_tellRing_27 : decode b_M_tellRing 27 = .ok (.iconst 1, 1) := by decide +kernel
theorem d_M_tellRing_28 : decode b_M_tellRing 28 = .ok (.iadd, 1) := by decide +kernel
theorem d_M_tellRing_29 : decode b_M_tellRing 29 = .ok (.putfield 151, 3) := by decide +kernel
theorem d_M_tellRing_32 : decode b_M_tellRing 32 = .ok (.iinc 3 1, 3) := by decide +kernel
theorem d_M_tellRing_35 : decode b_M_tellRing 35 = .ok (.goto (-33), 3) := by decide +kernel
theorem d_M_tellRing_38 : decode b_M_tellRing 38 = .ok (.bipush (-5), 2) := by decide +kernel
theorem d_M_tellRing_40 : decode b_M_tellRing 40 = .ok (.ireturn, 1) := by decide +kernel
theorem d_M_ring_0 : decode b_M_ring 0 = .ok (.aload_n 0, 1) := by decide +kernel
theorem d_M_ring_1 : decode b_M_ring 1 = .ok (.iconst 0, 1) := by decide +kernel
theorem d_M_ring_2 : decode b_M_ring 2 = .ok (.putfield 94, 3) := by decide +kernel
theorem d_M_ring_5 : decode b_M_ring 5 = .ok (.iload_n 1, 1) := by decide +kernel
theorem d_M_ring_6 : decode b_M_ring 6 = .ok (.ifCond .lt 11, 3) := by decide +kernel
theorem d_M_ring_9 : decode b_M_ring 9 = .ok (.iload_n 1, 1) := by decide +kernel
theorem d_M_ring_10 : decode b_M_ring 10 = .ok (.aload_n 0, 1) := by decide +kernel
theorem d_M_ring_11 : decode b_M_ring 11 = .ok (.getfield 151, 3) := by decide +kernel
theorem d_M_ring_14 : decode b_M_ring 14 = .ok (.if_icmp .lt 7, 3) := by decide +kernel
theorem d_M_ring_17 : decode b_M_ring 17 = .ok (.iconst (-1), 1) := by decide +kernel
theorem d_M_ring_18 : decode b_M_ring 18 = .ok (.goto 9, 3) := by decide +kernel
theorem d_M_ring_21 : decode b_M_ring 21 = .ok (.aload_n 0, 1) := by decide +kernel
theorem d_M_ring_22 : decode b_M_ring 22 = .ok (.getfield 69, 3) := by decide +kernel
theorem d_M_ring_25 : decode b_M_ring 25 = .ok (.iload_n 1, 1) := by decide +kernel
theorem d_M_ring_26 : decode b_M_ring 26 = .ok (.iaload, 1) := by decide +kernel
theorem d_M_ring_27 : decode b_M_ring 27 = .ok (.ireturn, 1) := by decide +kernel
theorem d_M_waits_0 : decode b_M_waits 0 = .ok (.aload_n 0, 1) := by decide +kernel
theorem d_M_waits_1 : decode b_M_waits 1 = .ok (.iconst 0, 1) := by decide +kernel
theorem d_M_waits_2 : decode b_M_waits 2 = .ok (.putfield 94, 3) := by decide +kernel
theorem d_M_waits_5 : decode b_M_waits 5 = .ok (.aload_n 0, 1) := by decide +kernel
theorem d_M_waits_6 : decode b_M_waits 6 = .ok (.iload_n 1, 1) := by decide +kernel
theorem d_M_waits_7 : decode b_M_waits 7 = .ok (.invokevirtual 107, 3) := by decide +kernel
theorem d_M_waits_10 : decode b_M_waits 10 = .ok (.ifCond .eq 12, 3) := by decide +kernel
theorem d_M_waits_13 : decode b_M_waits 13 = .ok (.aload_n 0, 1) := by decide +kernel
theorem d_M_waits_14 : decode b_M_waits 14 = .ok (.getfield 54, 3) := by decide +kernel
theorem d_M_waits_17 : decode b_M_waits 17 = .ok (.iload_n 1, 1) := by decide +kernel
theorem d_M_waits_18 : decode b_M_waits 18 = .ok (.iaload, 1) := by decide +kernel
theorem d_M_waits_19 : decode b_M_waits 19 = .ok (.goto 4, 3) := by decide +kernel
theorem d_M_waits_22 : decode b_M_waits 22 = .ok (.iconst (-1), 1) := by decide +kernel
theorem d_M_waits_23 : decode b_M_waits 23 = .ok (.ireturn, 1) := by decide +kernel
theorem d_M_fresh_0 : decode b_M_fresh 0 = .ok (.aload_n 0, 1) := by decide +kernel
theorem d_M_fresh_1 : decode b_M_fresh 1 = .ok (.iconst 0, 1) := by decide +kernel
theorem d_M_fresh_2 : decode b_M_fresh 2 = .ok (.putfield 94, 3) := by decide +kernel
theorem d_M_fresh_5 : decode b_M_fresh 5 = .ok (.aload_n 0, 1) := by decide +kernel
theorem d_M_fresh_6 : decode b_M_fresh 6 = .ok (.iload_n 1, 1) := by decide +kernel
theorem d_M_fresh_7 : decode b_M_fresh 7 = .ok (.invokevirtual 107, 3) := by decide +kernel
theorem d_M_fresh_10 : decode b_M_fresh 10 = .ok (.ifCond .eq 15, 3) := by decide +kernel
theorem d_M_fresh_13 : decode b_M_fresh 13 = .ok (.aload_n 0, 1) := by decide +kernel
theorem d_M_fresh_14 : decode b_M_fresh 14 = .ok (.iload_n 1, 1) := by decide +kernel
theorem d_M_fresh_15 : decode b_M_fresh 15 = .ok (.invokevirtual 141, 3) := by decide +kernel
theorem d_M_fresh_18 : decode b_M_fresh 18 = .ok (.ifCond .eq 7, 3) := by decide +kernel
theorem d_M_fresh_21 : decode b_M_fresh 21 = .ok (.iconst 1, 1) := by decide +kernel
theorem d_M_fresh_22 : decode b_M_fresh 22 = .ok (.goto 4, 3) := by decide +kernel
theorem d_M_fresh_25 : decode b_M_fresh 25 = .ok (.iconst 0, 1) := by decide +kernel
theorem d_M_fresh_26 : decode b_M_fresh 26 = .ok (.ireturn, 1) := by decide +kernel
theorem d_M_kept_0 : decode b_M_kept 0 = .ok (.aload_n 0, 1) := by decide +kernel
theorem d_M_kept_1 : decode b_M_kept 1 = .ok (.iconst 0, 1) := by decide +kernel
theorem d_M_kept_2 : decode b_M_kept 2 = .ok (.putfield 94, 3) := by decide +kernel
theorem d_M_kept_5 : decode b_M_kept 5 = .ok (.aload_n 0, 1) := by decide +kernel
theorem d_M_kept_6 : decode b_M_kept 6 = .ok (.iload_n 1, 1) := by decide +kernel
theorem d_M_kept_7 : decode b_M_kept 7 = .ok (.invokevirtual 107, 3) := by decide +kernel
theorem d_M_kept_10 : decode b_M_kept 10 = .ok (.ifCond .eq 27, 3) := by decide +kernel
theorem d_M_kept_13 : decode b_M_kept 13 = .ok (.aload_n 0, 1) := by decide +kernel
theorem d_M_kept_14 : decode b_M_kept 14 = .ok (.getfield 36, 3) := by decide +kernel
theorem d_M_kept_17 : decode b_M_kept 17 = .ok (.iload_n 1, 1) := by decide +kernel
theorem d_M_kept_18 : decode b_M_kept 18 = .ok (.iaload, 1) := by decide +kernel
theorem d_M_kept_19 : decode b_M_kept 19 = .ok (.iconst 2, 1) := by decide +kernel
theorem d_M_kept_20 : decode b_M_kept 20 = .ok (.if_icmp .eq 17, 3) := by decide +kernel
theorem d_M_kept_23 : decode b_M_kept 23 = .ok (.iload_n 2, 1) := by decide +kernel
theorem d_M_kept_24 : decode b_M_kept 24 = .ok (.ifCond .lt 13, 3) := by decide +kernel
theorem d_M_kept_27 : decode b_M_kept 27 = .ok (.iload_n 2, 1) := by decide +kernel
theorem d_M_kept_28 : decode b_M_kept 28 = .ok (.aload_n 0, 1) := by decide +kernel
theorem d_M_kept_29 : decode b_M_kept 29 = .ok (.getfield 39, 3) := by decide +kernel
theorem d_M_kept_32 : decode b_M_kept 32 = .ok (.iload_n 1, 1) := by decide +kernel
theorem d_M_kept_33 : decode b_M_kept 33 = .ok (.iaload, 1) := by decide +kernel
theorem d_M_kept_34 : decode b_M_kept 34 = .ok (.if_icmp .lt 5, 3) := by decide +kernel
theorem d_M_kept_37 : decode b_M_kept 37 = .ok (.iconst (-1), 1) := by decide +kernel
theorem d_M_kept_38 : decode b_M_kept 38 = .ok (.ireturn, 1) := by decide +kernel
theorem d_M_kept_39 : decode b_M_kept 39 = .ok (.bipush 24, 2) := by decide +kernel
theorem d_M_kept_41 : decode b_M_kept 41 = .ok (.iload_n 1, 1) := by decide +kernel
theorem d_M_kept_42 : decode b_M_kept 42 = .ok (.imul, 1) := by decide +kernel
theorem d_M_kept_43 : decode b_M_kept 43 = .ok (.iload_n 2, 1) := by decide +kernel
theorem d_M_kept_44 : decode b_M_kept 44 = .ok (.iadd, 1) := by decide +kernel
theorem d_M_kept_45 : decode b_M_kept 45 = .ok (.istore 4, 2) := by decide +kernel
theorem d_M_kept_47 : decode b_M_kept 47 = .ok (.iload_n 3, 1) := by decide +kernel
theorem d_M_kept_48 : decode b_M_kept 48 = .ok (.ifCond .ne 13, 3) := by decide +kernel
theorem d_M_kept_51 : decode b_M_kept 51 = .ok (.aload_n 0, 1) := by decide +kernel
theorem d_M_kept_52 : decode b_M_kept 52 = .ok (.getfield 42, 3) := by decide +kernel
theorem d_M_kept_55 : decode b_M_kept 55 = .ok (.iload 4, 2) := by decide +kernel
theorem d_M_kept_57 : decode b_M_kept 57 = .ok (.iaload, 1) := by decide +kernel
theorem d_M_kept_58 : decode b_M_kept 58 = .ok (.goto 50, 3) := by decide +kernel
theorem d_M_kept_61 : decode b_M_kept 61 = .ok (.iload_n 3, 1) := by decide +kernel
theorem d_M_kept_62 : decode b_M_kept 62 = .ok (.iconst 1, 1) := by decide +kernel
theorem d_M_kept_63 : decode b_M_kept 63 = .ok (.if_icmp .ne 21, 3) := by decide +kernel
theorem d_M_kept_66 : decode b_M_kept 66 = .ok (.aload_n 0, 1) := by decide +kernel
theorem d_M_kept_67 : decode b_M_kept 67 = .ok (.getfield 57, 3) := by decide +kernel
theorem d_M_kept_70 : decode b_M_kept 70 = .ok (.iload 4, 2) := by decide +kernel
theorem d_M_kept_72 : decode b_M_kept 72 = .ok (.baload, 1) := by decide +kernel
theorem d_M_kept_73 : decode b_M_kept 73 = .ok (.ifCond .eq 7, 3) := by decide +kernel
theorem d_M_kept_76 : decode b_M_kept 76 = .ok (.iconst 1, 1) := by decide +kernel
theorem d_M_kept_77 : decode b_M_kept 77 = .ok (.goto 31, 3) := by decide +kernel
theorem d_M_kept_80 : decode b_M_kept 80 = .ok (.iconst 0, 1) := by decide +kernel
theorem d_M_kept_81 : decode b_M_kept 81 = .ok (.goto 27, 3) := by decide +kernel
theorem d_M_kept_84 : decode b_M_kept 84 = .ok (.iload_n 3, 1) := by decide +kernel
theorem d_M_kept_85 : decode b_M_kept 85 = .ok (.iconst 2, 1) := by decide +kernel
theorem d_M_kept_86 : decode b_M_kept 86 = .ok (.if_icmp .ne 21, 3) := by decide +kernel
theorem d_M_kept_89 : decode b_M_kept 89 = .ok (.aload_n 0, 1) := by decide +kernel
theorem d_M_kept_90 : decode b_M_kept 90 = .ok (.getfield 60, 3) := by decide +kernel
theorem d_M_kept_93 : decode b_M_kept 93 = .ok (.iload 4, 2) := by decide +kernel
theorem d_M_kept_95 : decode b_M_kept 95 = .ok (.baload, 1) := by decide +kernel
theorem d_M_kept_96 : decode b_M_kept 96 = .ok (.ifCond .eq 7, 3) := by decide +kernel
theorem d_M_kept_99 : decode b_M_kept 99 = .ok (.iconst 1, 1) := by decide +kernel
theorem d_M_kept_100 : decode b_M_kept 100 = .ok (.goto 8, 3) := by decide +kernel
theorem d_M_kept_103 : decode b_M_kept 103 = .ok (.iconst 0, 1) := by decide +kernel
theorem d_M_kept_104 : decode b_M_kept 104 = .ok (.goto 4, 3) := by decide +kernel
theorem d_M_kept_107 : decode b_M_kept 107 = .ok (.iconst (-1), 1) := by decide +kernel
theorem d_M_kept_108 : decode b_M_kept 108 = .ok (.ireturn, 1) := by decide +kernel
theorem d_M_unused_0 : decode b_M_unused 0 = .ok (.aload_n 0, 1) := by decide +kernel
theorem d_M_unused_1 : decode b_M_unused 1 = .ok (.iconst 0, 1) := by decide +kernel
theorem d_M_unused_2 : decode b_M_unused 2 = .ok (.putfield 94, 3) := by decide +kernel
theorem d_M_unused_5 : decode b_M_unused 5 = .ok (.aload_n 0, 1) := by decide +kernel
theorem d_M_unused_6 : decode b_M_unused 6 = .ok (.iload_n 1, 1) := by decide +kernel
theorem d_M_unused_7 : decode b_M_unused 7 = .ok (.invokevirtual 107, 3) := by decide +kernel
theorem d_M_unused_10 : decode b_M_unused 10 = .ok (.ifCond .ne 5, 3) := by decide +kernel
theorem d_M_unused_13 : decode b_M_unused 13 = .ok (.iconst 0, 1) := by decide +kernel
theorem d_M_unused_14 : decode b_M_unused 14 = .ok (.ireturn, 1) := by decide +kernel
theorem d_M_unused_15 : decode b_M_unused 15 = .ok (.aload_n 0, 1) := by decide +kernel
theorem d_M_unused_16 : decode b_M_unused 16 = .ok (.getfield 21, 3) := by decide +kernel
theorem d_M_unused_19 : decode b_M_unused 19 = .ok (.iload_n 1, 1) := by decide +kernel
theorem d_M_unused_20 : decode b_M_unused 20 = .ok (.iaload, 1) := by decide +kernel
theorem d_M_unused_21 : decode b_M_unused 21 = .ok (.iconst 1, 1) := by decide +kernel
theorem d_M_unused_22 : decode b_M_unused 22 = .ok (.aload_n 0, 1) := by decide +kernel
theorem d_M_unused_23 : decode b_M_unused 23 = .ok (.getfield 97, 3) := by decide +kernel
theorem d_M_unused_26 : decode b_M_unused 26 = .ok (.ishl, 1) := by decide +kernel
theorem d_M_unused_27 : decode b_M_unused 27 = .ok (.iconst 1, 1) := by decide +kernel
theorem d_M_unused_28 : decode b_M_unused 28 = .ok (.isub, 1) := by decide +kernel
theorem d_M_unused_29 : decode b_M_unused 29 = .ok (.iand, 1) := by decide +kernel
theorem d_M_unused_30 : decode b_M_unused 30 = .ok (.istore_n 2, 1) := by decide +kernel
theorem d_M_unused_31 : decode b_M_unused 31 = .ok (.iconst 0, 1) := by decide +kernel
theorem d_M_unused_32 : decode b_M_unused 32 = .ok (.istore_n 3, 1) := by decide +kernel
theorem d_M_unused_33 : decode b_M_unused 33 = .ok (.iload_n 3, 1) := by decide +kernel
theorem d_M_unused_34 : decode b_M_unused 34 = .ok (.aload_n 0, 1) := by decide +kernel
theorem d_M_unused_35 : decode b_M_unused 35 = .ok (.getfield 39, 3) := by decide +kernel
theorem d_M_unused_38 : decode b_M_unused 38 = .ok (.iload_n 1, 1) := by decide +kernel
theorem d_M_unused_39 : decode b_M_unused 39 = .ok (.iaload, 1) := by decide +kernel
theorem d_M_unused_40 : decode b_M_unused 40 = .ok (.if_icmp .ge 37, 3) := by decide +kernel
theorem d_M_unused_43 : decode b_M_unused 43 = .ok (.aload_n 0, 1) := by decide +kernel
theorem d_M_unused_44 : decode b_M_unused 44 = .ok (.getfield 36, 3) := by decide +kernel
theorem d_M_unused_47 : decode b_M_unused 47 = .ok (.iload_n 1, 1) := by decide +kernel
theorem d_M_unused_48 : decode b_M_unused 48 = .ok (.iaload, 1) := by decide +kernel
theorem d_M_unused_49 : decode b_M_unused 49 = .ok (.iconst 2, 1) := by decide +kernel
theorem d_M_unused_50 : decode b_M_unused 50 = .ok (.if_icmp .eq 27, 3) := by decide +kernel
theorem d_M_unused_53 : decode b_M_unused 53 = .ok (.iload_n 2, 1) := by decide +kernel
theorem d_M_unused_54 : decode b_M_unused 54 = .ok (.iconst 1, 1) := by decide +kernel
theorem d_M_unused_55 : decode b_M_unused 55 = .ok (.aload_n 0, 1) := by decide +kernel
theorem d_M_unused_56 : decode b_M_unused 56 = .ok (.getfield 42, 3) := by decide +kernel
theorem d_M_unused_59 : decode b_M_unused 59 = .ok (.bipush 24, 2) := by decide +kernel
theorem d_M_unused_61 : decode b_M_unused 61 = .ok (.iload_n 1, 1) := by decide +kernel
theorem d_M_unused_62 : decode b_M_unused 62 = .ok (.imul, 1) := by decide +kernel
theorem d_M_unused_63 : decode b_M_unused 63 = .ok (.iload_n 3, 1) := by decide +kernel
theorem d_M_unused_64 : decode b_M_unused 64 = .ok (.iadd, 1) := by decide +kernel
theorem d_M_unused_65 : decode b_M_unused 65 = .ok (.iaload, 1) := by decide +kernel
theorem d_M_unused_66 : decode b_M_unused 66 = .ok (.ishl, 1) := by decide +kernel
theorem d_M_unused_67 : decode b_M_unused 67 = .ok (.iconst (-1), 1) := by decide +kernel
theorem d_M_unused_68 : decode b_M_unused 68 = .ok (.ixor, 1) := by decide +kernel
theorem d_M_unused_69 : decode b_M_unused 69 = .ok (.iand, 1) := by decide +kernel
theorem d_M_unused_70 : decode b_M_unused 70 = .ok (.istore_n 2, 1) := by decide +kernel
theorem d_M_unused_71 : decode b_M_unused 71 = .ok (.iinc 3 1, 3) := by decide +kernel
theorem d_M_unused_74 : decode b_M_unused 74 = .ok (.goto (-41), 3) := by decide +kernel
theorem d_M_unused_77 : decode b_M_unused 77 = .ok (.iload_n 2, 1) := by decide +kernel
theorem d_M_unused_78 : decode b_M_unused 78 = .ok (.ireturn, 1) := by decide +kernel
theorem d_M_digest_0 : decode b_M_digest 0 = .ok (.aload_n 0, 1) := by decide +kernel
theorem d_M_digest_1 : decode b_M_digest 1 = .ok (.iconst 0, 1) := by decide +kernel
theorem d_M_digest_2 : decode b_M_digest 2 = .ok (.putfield 94, 3) := by decide +kernel
theorem d_M_digest_5 : decode b_M_digest 5 = .ok (.aload_n 0, 1) := by decide +kernel
theorem d_M_digest_6 : decode b_M_digest 6 = .ok (.iload_n 1, 1) := by decide +kernel
theorem d_M_digest_7 : decode b_M_digest 7 = .ok (.invokevirtual 103, 3) := by decide +kernel
theorem d_M_digest_10 : decode b_M_digest 10 = .ok (.ifCond .eq 21, 3) := by decide +kernel
theorem d_M_digest_13 : decode b_M_digest 13 = .ok (.aload_n 0, 1) := by decide +kernel
theorem d_M_digest_14 : decode b_M_digest 14 = .ok (.getfield 7, 3) := by decide +kernel
theorem d_M_digest_17 : decode b_M_digest 17 = .ok (.iload_n 1, 1) := by decide +kernel
theorem d_M_digest_18 : decode b_M_digest 18 = .ok (.baload, 1) := by decide +kernel
theorem d_M_digest_19 : decode b_M_digest 19 = .ok (.ifCond .eq 12, 3) := by decide +kernel
theorem d_M_digest_22 : decode b_M_digest 22 = .ok (.aload_n 0, 1) := by decide +kernel
theorem d_M_digest_23 : decode b_M_digest 23 = .ok (.getfield 13, 3) := by decide +kernel
theorem d_M_digest_26 : decode b_M_digest 26 = .ok (.iload_n 1, 1) := by decide +kernel
theorem d_M_digest_27 : decode b_M_digest 27 = .ok (.laload, 1) := by decide +kernel
theorem d_M_digest_28 : decode b_M_digest 28 = .ok (.goto 4, 3) := by decide +kernel
theorem d_M_digest_31 : decode b_M_digest 31 = .ok (.lconst 0, 1) := by decide +kernel
theorem d_M_digest_32 : decode b_M_digest 32 = .ok (.lreturn, 1) := by decide +kernel
theorem d_M_counted_0 : decode b_M_counted 0 = .ok (.aload_n 0, 1) := by decide +kernel
theorem d_M_counted_1 : decode b_M_counted 1 = .ok (.iconst 0, 1) := by decide +kernel
theorem d_M_counted_2 : decode b_M_counted 2 = .ok (.putfield 94, 3) := by decide +kernel
theorem d_M_counted_5 : decode b_M_counted 5 = .ok (.aload_n 0, 1) := by decide +kernel
theorem d_M_counted_6 : decode b_M_counted 6 = .ok (.iload_n 1, 1) := by decide +kernel
theorem d_M_counted_7 : decode b_M_counted 7 = .ok (.invokevirtual 107, 3) := by decide +kernel
theorem d_M_counted_10 : decode b_M_counted 10 = .ok (.ifCond .ne 5, 3) := by decide +kernel
theorem d_M_counted_13 : decode b_M_counted 13 = .ok (.iconst (-1), 1) := by decide +kernel
theorem d_M_counted_14 : decode b_M_counted 14 = .ok (.ireturn, 1) := by decide +kernel
theorem d_M_counted_15 : decode b_M_counted 15 = .ok (.iload_n 2, 1) := by decide +kernel
theorem d_M_counted_16 : decode b_M_counted 16 = .ok (.ifCond .ne 12, 3) := by decide +kernel
theorem d_M_counted_19 : decode b_M_counted 19 = .ok (.aload_n 0, 1) := by decide +kernel
theorem d_M_counted_20 : decode b_M_counted 20 = .ok (.getfield 45, 3) := by decide +kernel
theorem d_M_counted_23 : decode b_M_counted 23 = .ok (.iload_n 1, 1) := by decide +kernel
theorem d_M_counted_24 : decode b_M_counted 24 = .ok (.iaload, 1) := by decide +kernel
theorem d_M_counted_25 : decode b_M_counted 25 = .ok (.goto 32, 3) := by decide +kernel
theorem d_M_counted_28 : decode b_M_counted 28 = .ok (.iload_n 2, 1) := by decide +kernel
theorem d_M_counted_29 : decode b_M_counted 29 = .ok (.iconst 1, 1) := by decide +kernel
theorem d_M_counted_30 : decode b_M_counted 30 = .ok (.if_icmp .ne 12, 3) := by decide +kernel
theorem d_M_counted_33 : decode b_M_counted 33 = .ok (.aload_n 0, 1) := by decide +kernel
theorem d_M_counted_34 : decode b_M_counted 34 = .ok (.getfield 48, 3) := by decide +kernel
theorem d_M_counted_37 : decode b_M_counted 37 = .ok (.iload_n 1, 1) := by decide +kernel
theorem d_M_counted_38 : decode b_M_counted 38 = .ok (.iaload, 1) := by decide +kernel
theorem d_M_counted_39 : decode b_M_counted 39 = .ok (.goto 18, 3) := by decide +kernel
theorem d_M_counted_42 : decode b_M_counted 42 = .ok (.iload_n 2, 1) := by decide +kernel
theorem d_M_counted_43 : decode b_M_counted 43 = .ok (.iconst 2, 1) := by decide +kernel
theorem d_M_counted_44 : decode b_M_counted 44 = .ok (.if_icmp .ne 12, 3) := by decide +kernel
theorem d_M_counted_47 : decode b_M_counted 47 = .ok (.aload_n 0, 1) := by decide +kernel
theorem d_M_counted_48 : decode b_M_counted 48 = .ok (.getfield 51, 3) := by decide +kernel
theorem d_M_counted_51 : decode b_M_counted 51 = .ok (.iload_n 1, 1) := by decide +kernel
theorem d_M_counted_52 : decode b_M_counted 52 = .ok (.iaload, 1) := by decide +kernel
theorem d_M_counted_53 : decode b_M_counted 53 = .ok (.goto 4, 3) := by decide +kernel
theorem d_M_counted_56 : decode b_M_counted 56 = .ok (.iconst (-1), 1) := by decide +kernel
theorem d_M_counted_57 : decode b_M_counted 57 = .ok (.ireturn, 1) := by decide +kernel
theorem d_M_members_0 : decode b_M_members 0 = .ok (.aload_n 0, 1) := by decide +kernel
theorem d_M_members_1 : decode b_M_members 1 = .ok (.iconst 0, 1) := by decide +kernel
theorem d_M_members_2 : decode b_M_members 2 = .ok (.putfield 94, 3) := by decide +kernel
theorem d_M_members_5 : decode b_M_members 5 = .ok (.aload_n 0, 1) := by decide +kernel
theorem d_M_members_6 : decode b_M_members 6 = .ok (.iload_n 1, 1) := by decide +kernel
theorem d_M_members_7 : decode b_M_members 7 = .ok (.invokevirtual 103, 3) := by decide +kernel
theorem d_M_members_10 : decode b_M_members 10 = .ok (.ifCond .eq 11, 3) := by decide +kernel
theorem d_M_members_13 : decode b_M_members 13 = .ok (.aload_n 0, 1) := by decide +kernel
theorem d_M_members_14 : decode b_M_members 14 = .ok (.iload_n 1, 1) := by decide +kernel
theorem d_M_members_15 : decode b_M_members 15 = .ok (.invokevirtual 160, 3) := by decide +kernel
theorem d_M_members_18 : decode b_M_members 18 = .ok (.goto 4, 3) := by decide +kernel
theorem d_M_members_21 : decode b_M_members 21 = .ok (.iconst 0, 1) := by decide +kernel
theorem d_M_members_22 : decode b_M_members 22 = .ok (.ireturn, 1) := by decide +kernel
theorem d_M_membersOf_0 : decode b_M_membersOf 0 = .ok (.aload_n 0, 1) := by decide +kernel
theorem d_M_membersOf_1 : decode b_M_membersOf 1 = .ok (.getfield 17, 3) := by decide +kernel
theorem d_M_membersOf_4 : decode b_M_membersOf 4 = .ok (.iload_n 1, 1) := by decide +kernel
theorem d_M_membersOf_5 : decode b_M_membersOf 5 = .ok (.iaload, 1) := by decide +kernel
theorem d_M_membersOf_6 : decode b_M_membersOf 6 = .ok (.iconst (-1), 1) := by decide +kernel
theorem d_M_membersOf_7 : decode b_M_membersOf 7 = .ok (.if_icmp .eq 12, 3) := by decide +kernel
theorem d_M_membersOf_10 : decode b_M_membersOf 10 = .ok (.aload_n 0, 1) := by decide +kernel
theorem d_M_membersOf_11 : decode b_M_membersOf 11 = .ok (.getfield 7, 3) := by decide +kernel
theorem d_M_membersOf_14 : decode b_M_membersOf 14 = .ok (.iload_n 1, 1) := by decide +kernel
theorem d_M_membersOf_15 : decode b_M_membersOf 15 = .ok (.baload, 1) := by decide +kernel
theorem d_M_membersOf_16 : decode b_M_membersOf 16 = .ok (.ifCond .ne 5, 3) := by decide +kernel
theorem d_M_membersOf_19 : decode b_M_membersOf 19 = .ok (.iconst 0, 1) := by decide +kernel
theorem d_M_membersOf_20 : decode b_M_membersOf 20 = .ok (.ireturn, 1) := by decide +kernel
theorem d_M_membersOf_21 : decode b_M_membersOf 21 = .ok (.aload_n 0, 1) := by decide +kernel
theorem d_M_membersOf_22 : decode b_M_membersOf 22 = .ok (.getfield 13, 3) := by decide +kernel
theorem d_M_membersOf_25 : decode b_M_membersOf 25 = .ok (.iload_n 1, 1) := by decide +kernel
theorem d_M_membersOf_26 : decode b_M_membersOf 26 = .ok (.laload, 1) := by decide +kernel
theorem d_M_membersOf_27 : decode b_M_membersOf 27 = .ok (.ldc2_w 158, 3) := by decide +kernel
theorem d_M_membersOf_30 : decode b_M_membersOf 30 = .ok (.lrem, 1) := by decide +kernel
theorem d_M_membersOf_31 : decode b_M_membersOf 31 = .ok (.l2i, 1) := by decide +kernel
theorem d_M_membersOf_32 : decode b_M_membersOf 32 = .ok (.istore_n 2, 1) := by decide +kernel
theorem d_M_membersOf_33 : decode b_M_membersOf 33 = .ok (.iload_n 2, 1) := by decide +kernel
theorem d_M_membersOf_34 : decode b_M_membersOf 34 = .ok (.ifCond .ge 9, 3) := by decide +kernel
theorem d_M_membersOf_37 : decode b_M_membersOf 37 = .ok (.iload_n 2, 1) := by decide +kernel
theorem d_M_membersOf_38 : decode b_M_membersOf 38 = .ok (.iconst 5, 1) := by decide +kernel
theorem d_M_membersOf_39 : decode b_M_membersOf 39 = .ok (.iadd, 1) := by decide +kernel
theorem d_M_membersOf_40 : decode b_M_membersOf 40 = .ok (.goto 4, 3) := by decide +kernel
theorem d_M_membersOf_43 : decode b_M_membersOf 43 = .ok (.iload_n 2, 1) := by decide +kernel
theorem d_M_membersOf_44 : decode b_M_membersOf 44 = .ok (.ireturn, 1) := by decide +kernel
theorem d_M_mapping_0 : decode b_M_mapping 0 = .ok (.aload_n 0, 1) := by decide +kernel
theorem d_M_mapping_1 : decode b_M_mapping 1 = .ok (.iconst 0, 1) := by decide +kernel
theorem d_M_mapping_2 : decode b_M_mapping 2 = .ok (.putfield 94, 3) := by decide +kernel
theorem d_M_mapping_5 : decode b_M_mapping 5 = .ok (.aload_n 0, 1) := by decide +kernel
theorem d_M_mapping_6 : decode b_M_mapping 6 = .ok (.iload_n 1, 1) := by decide +kernel
theorem d_M_mapping_7 : decode b_M_mapping 7 = .ok (.invokevirtual 103, 3) := by decide +kernel
theorem d_M_mapping_10 : decode b_M_mapping 10 = .ok (.ifCond .eq 12, 3) := by decide +kernel
theorem d_M_mapping_13 : decode b_M_mapping 13 = .ok (.aload_n 0, 1) := by decide +kernel
theorem d_M_mapping_14 : decode b_M_mapping 14 = .ok (.getfield 163, 3) := by decide +kernel
theorem d_M_mapping_17 : decode b_M_mapping 17 = .ok (.bipush 6, 2) := by decide +kernel
theorem d_M_mapping_19 : decode b_M_mapping 19 = .ok (.if_icmp .ne 5, 3) := by decide +kernel
theorem d_M_mapping_22 : decode b_M_mapping 22 = .ok (.iconst (-1), 1) := by decide +kernel
theorem d_M_mapping_23 : decode b_M_mapping 23 = .ok (.ireturn, 1) := by decide +kernel
theorem d_M_mapping_24 : decode b_M_mapping 24 = .ok (.aload_n 0, 1) := by decide +kernel
theorem d_M_mapping_25 : decode b_M_mapping 25 = .ok (.getfield 75, 3) := by decide +kernel
theorem d_M_mapping_28 : decode b_M_mapping 28 = .ok (.aload_n 0, 1) := by decide +kernel
theorem d_M_mapping_29 : decode b_M_mapping 29 = .ok (.getfield 163, 3) := by decide +kernel
theorem d_M_mapping_32 : decode b_M_mapping 32 = .ok (.iload_n 1, 1) := by decide +kernel
theorem d_M_mapping_33 : decode b_M_mapping 33 = .ok (.iastore, 1) := by decide +kernel
theorem d_M_mapping_34 : decode b_M_mapping 34 = .ok (.aload_n 0, 1) := by decide +kernel
theorem d_M_mapping_35 : decode b_M_mapping 35 = .ok (.getfield 81, 3) := by decide +kernel
theorem d_M_mapping_38 : decode b_M_mapping 38 = .ok (.aload_n 0, 1) := by decide +kernel
theorem d_M_mapping_39 : decode b_M_mapping 39 = .ok (.getfield 163, 3) := by decide +kernel
theorem d_M_mapping_42 : decode b_M_mapping 42 = .ok (.lload_n 2, 1) := by decide +kernel
theorem d_M_mapping_43 : decode b_M_mapping 43 = .ok (.lastore, 1) := by decide +kernel
theorem d_M_mapping_44 : decode b_M_mapping 44 = .ok (.aload_n 0, 1) := by decide +kernel
theorem d_M_mapping_45 : decode b_M_mapping 45 = .ok (.dup, 1) := by decide +kernel
theorem d_M_mapping_46 : decode b_M_mapping 46 = .ok (.getfield 163, 3) := by decide +kernel
theorem d_M_mapping_49 : decode b_M_mapping 49 = .ok (.iconst 1, 1) := by decide +kernel
theorem d_M_mapping_50 : decode b_M_mapping 50 = .ok (.iadd, 1) := by decide +kernel
theorem d_M_mapping_51 : decode b_M_mapping 51 = .ok (.putfield 163, 3) := by decide +kernel
theorem d_M_mapping_54 : decode b_M_mapping 54 = .ok (.aload_n 0, 1) := by decide +kernel
theorem d_M_mapping_55 : decode b_M_mapping 55 = .ok (.getfield 163, 3) := by decide +kernel
theorem d_M_mapping_58 : decode b_M_mapping 58 = .ok (.iconst 1, 1) := by decide +kernel
theorem d_M_mapping_59 : decode b_M_mapping 59 = .ok (.isub, 1) := by decide +kernel
theorem d_M_mapping_60 : decode b_M_mapping 60 = .ok (.ireturn, 1) := by decide +kernel
theorem d_M_map_0 : decode b_M_map 0 = .ok (.aload_n 0, 1) := by decide +kernel
theorem d_M_map_1 : decode b_M_map 1 = .ok (.iconst 0, 1) := by decide +kernel
theorem d_M_map_2 : decode b_M_map 2 = .ok (.putfield 94, 3) := by decide +kernel
theorem d_M_map_5 : decode b_M_map 5 = .ok (.iload_n 1, 1) := by decide +kernel
theorem d_M_map_6 : decode b_M_map 6 = .ok (.ifCond .lt 11, 3) := by decide +kernel
theorem d_M_map_9 : decode b_M_map 9 = .ok (.iload_n 1, 1) := by decide +kernel
theorem d_M_map_10 : decode b_M_map 10 = .ok (.aload_n 0, 1) := by decide +kernel
theorem d_M_map_11 : decode b_M_map 11 = .ok (.getfield 163, 3) := by decide +kernel
theorem d_M_map_14 : decode b_M_map 14 = .ok (.if_icmp .lt 5, 3) := by decide +kernel
theorem d_M_map_17 : decode b_M_map 17 = .ok (.iconst (-1), 1) := by decide +kernel
theorem d_M_map_18 : decode b_M_map 18 = .ok (.ireturn, 1) := by decide +kernel
theorem d_M_map_19 : decode b_M_map 19 = .ok (.aload_n 0, 1) := by decide +kernel
theorem d_M_map_20 : decode b_M_map 20 = .ok (.getfield 75, 3) := by decide +kernel
theorem d_M_map_23 : decode b_M_map 23 = .ok (.iload_n 1, 1) := by decide +kernel
theorem d_M_map_24 : decode b_M_map 24 = .ok (.iaload, 1) := by decide +kernel
theorem d_M_map_25 : decode b_M_map 25 = .ok (.istore_n 2, 1) := by decide +kernel
theorem d_M_map_26 : decode b_M_map 26 = .ok (.aload_n 0, 1) := by decide +kernel
theorem d_M_map_27 : decode b_M_map 27 = .ok (.getfield 17, 3) := by decide +kernel
theorem d_M_map_30 : decode b_M_map 30 = .ok (.iload_n 2, 1) := by decide +kernel
theorem d_M_map_31 : decode b_M_map 31 = .ok (.iaload, 1) := by decide +kernel
theorem d_M_map_32 : decode b_M_map 32 = .ok (.iconst (-1), 1) := by decide +kernel
theorem d_M_map_33 : decode b_M_map 33 = .ok (.if_icmp .eq 25, 3) := by decide +kernel
theorem d_M_map_36 : decode b_M_map 36 = .ok (.aload_n 0, 1) := by decide +kernel
theorem d_M_map_37 : decode b_M_map 37 = .ok (.getfield 7, 3) := by decide +kernel
theorem d_M_map_40 : decode b_M_map 40 = .ok (.iload_n 2, 1) := by decide +kernel
theorem d_M_map_41 : decode b_M_map 41 = .ok (.baload, 1) := by decide +kernel
theorem d_M_map_42 : decode b_M_map 42 = .ok (.ifCond .eq 16, 3) := by decide +kernel
theorem d_M_map_45 : decode b_M_map 45 = .ok (.aload_n 0, 1) := by decide +kernel
theorem d_M_map_46 : decode b_M_map 46 = .ok (.aload_n 0, 1) := by decide +kernel
theorem d_M_map_47 : decode b_M_map 47 = .ok (.getfield 17, 3) := by decide +kernel
theorem d_M_map_50 : decode b_M_map 50 = .ok (.iload_n 2, 1) := by decide +kernel
theorem d_M_map_51 : decode b_M_map 51 = .ok (.iaload, 1) := by decide +kernel
theorem d_M_map_52 : decode b_M_map 52 = .ok (.invokevirtual 141, 3) := by decide +kernel
theorem d_M_map_55 : decode b_M_map 55 = .ok (.ifCond .ne 5, 3) := by decide +kernel
theorem d_M_map_58 : decode b_M_map 58 = .ok (.iconst (-1), 1) := by decide +kernel
theorem d_M_map_59 : decode b_M_map 59 = .ok (.ireturn, 1) := by decide +kernel
theorem d_M_map_60 : decode b_M_map 60 = .ok (.aload_n 0, 1) := by decide +kernel
theorem d_M_map_61 : decode b_M_map 61 = .ok (.iload_n 2, 1) := by decide +kernel
theorem d_M_map_62 : decode b_M_map 62 = .ok (.invokevirtual 160, 3) := by decide +kernel
theorem d_M_map_65 : decode b_M_map 65 = .ok (.istore_n 3, 1) := by decide +kernel
theorem d_M_map_66 : decode b_M_map 66 = .ok (.iconst 0, 1) := by decide +kernel
theorem d_M_map_67 : decode b_M_map 67 = .ok (.istore 4, 2) := by decide +kernel
theorem d_M_map_69 : decode b_M_map 69 = .ok (.iconst 0, 1) := by decide +kernel
theorem d_M_map_70 : decode b_M_map 70 = .ok (.istore 5, 2) := by decide +kernel
theorem d_M_map_72 : decode b_M_map 72 = .ok (.iload 5, 2) := by decide +kernel
theorem d_M_map_74 : decode b_M_map 74 = .ok (.iload_n 3, 1) := by decide +kernel
theorem d_M_map_75 : decode b_M_map 75 = .ok (.if_icmp .ge 38, 3) := by decide +kernel
theorem d_M_map_78 : decode b_M_map 78 = .ok (.iload 4, 2) := by decide +kernel
theorem d_M_map_80 : decode b_M_map 80 = .ok (.aload_n 0, 1) := by decide +kernel
theorem d_M_map_81 : decode b_M_map 81 = .ok (.iload_n 1, 1) := by decide +kernel
theorem d_M_map_82 : decode b_M_map 82 = .ok (.aload_n 0, 1) := by decide +kernel
theorem d_M_map_83 : decode b_M_map 83 = .ok (.getfield 13, 3) := by decide +kernel
theorem d_M_map_86 : decode b_M_map 86 = .ok (.iload_n 2, 1) := by decide +kernel
theorem d_M_map_87 : decode b_M_map 87 = .ok (.laload, 1) := by decide +kernel
theorem d_M_map_88 : decode b_M_map 88 = .ok (.iload 5, 2) := by decide +kernel
theorem d_M_map_90 : decode b_M_map 90 = .ok (.invokestatic 168, 3) := by decide +kernel
theorem d_M_map_93 : decode b_M_map 93 = .ok (.invokevirtual 172, 3) := by decide +kernel
theorem d_M_map_96 : decode b_M_map 96 = .ok (.ifCond .eq 7, 3) := by decide +kernel
theorem d_M_map_99 : decode b_M_map 99 = .ok (.iconst 0, 1) := by decide +kernel
theorem d_M_map_100 : decode b_M_map 100 = .ok (.goto 4, 3) := by decide +kernel
theorem d_M_map_103 : decode b_M_map 103 = .ok (.iconst 1, 1) := by decide +kernel
theorem d_M_map_104 : decode b_M_map 104 = .ok (.iadd, 1) := by decide +kernel
theorem d_M_map_105 : decode b_M_map 105 = .ok (.istore 4, 2) := by decide +kernel
theorem d_M_map_107 : decode b_M_map 107 = .ok (.iinc 5 1, 3) := by decide +kernel
theorem d_M_map_110 : decode b_M_map 110 = .ok (.goto (-38), 3) := by decide +kernel
theorem d_M_map_113 : decode b_M_map 113 = .ok (.iconst 0, 1) := by decide +kernel
theorem d_M_map_114 : decode b_M_map 114 = .ok (.istore 5, 2) := by decide +kernel
theorem d_M_map_116 : decode b_M_map 116 = .ok (.iload 5, 2) := by decide +kernel
theorem d_M_map_118 : decode b_M_map 118 = .ok (.iload_n 3, 1) := by decide +kernel
theorem d_M_map_119 : decode b_M_map 119 = .ok (.if_icmp .ge 64, 3) := by decide +kernel
theorem d_M_map_122 : decode b_M_map 122 = .ok (.aload_n 0, 1) := by decide +kernel
theorem d_M_map_123 : decode b_M_map 123 = .ok (.getfield 84, 3) := by decide +kernel
theorem d_M_map_126 : decode b_M_map 126 = .ok (.iconst 4, 1) := by decide +kernel
theorem d_M_map_127 : decode b_M_map 127 = .ok (.iload_n 1, 1) := by decide +kernel
theorem d_M_map_128 : decode b_M_map 128 = .ok (.imul, 1) := by decide +kernel
theorem d_M_map_129 : decode b_M_map 129 = .ok (.iload 5, 2) := by decide +kernel
theorem d_M_map_131 : decode b_M_map 131 = .ok (.iadd, 1) := by decide +kernel
theorem d_M_map_132 : decode b_M_map 132 = .ok (.aload_n 0, 1) := by decide +kernel
theorem d_M_map_133 : decode b_M_map 133 = .ok (.getfield 13, 3) := by decide +kernel
theorem d_M_map_136 : decode b_M_map 136 = .ok (.iload_n 2, 1) := by decide +kernel
theorem d_M_map_137 : decode b_M_map 137 = .ok (.laload, 1) := by decide +kernel
theorem d_M_map_138 : decode b_M_map 138 = .ok (.iload 5, 2) := by decide +kernel
theorem d_M_map_140 : decode b_M_map 140 = .ok (.invokestatic 168, 3) := by decide +kernel
theorem d_M_map_143 : decode b_M_map 143 = .ok (.lastore, 1) := by decide +kernel
theorem d_M_map_144 : decode b_M_map 144 = .ok (.aload_n 0, 1) := by decide +kernel
theorem d_M_map_145 : decode b_M_map 145 = .ok (.getfield 87, 3) := by decide +kernel
theorem d_M_map_148 : decode b_M_map 148 = .ok (.iconst 4, 1) := by decide +kernel
theorem d_M_map_149 : decode b_M_map 149 = .ok (.iload_n 1, 1) := by decide +kernel
theorem d_M_map_150 : decode b_M_map 150 = .ok (.imul, 1) := by decide +kernel
theorem d_M_map_151 : decode b_M_map 151 = .ok (.iload 5, 2) := by decide +kernel
theorem d_M_map_153 : decode b_M_map 153 = .ok (.iadd, 1) := by decide +kernel
theorem d_M_map_154 : decode b_M_map 154 = .ok (.ldc2_w 176, 3) := by decide +kernel
theorem d_M_map_157 : decode b_M_map 157 = .ok (.aload_n 0, 1) := by decide +kernel
theorem d_M_map_158 : decode b_M_map 158 = .ok (.getfield 13, 3) := by decide +kernel
theorem d_M_map_161 : decode b_M_map 161 = .ok (.iload_n 2, 1) := by decide +kernel
theorem d_M_map_162 : decode b_M_map 162 = .ok (.laload, 1) := by decide +kernel
theorem d_M_map_163 : decode b_M_map 163 = .ok (.iload 5, 2) := by decide +kernel
theorem d_M_map_165 : decode b_M_map 165 = .ok (.invokestatic 168, 3) := by decide +kernel
theorem d_M_map_168 : decode b_M_map 168 = .ok (.lmul, 1) := by decide +kernel
theorem d_M_map_169 : decode b_M_map 169 = .ok (.aload_n 0, 1) := by decide +kernel
theorem d_M_map_170 : decode b_M_map 170 = .ok (.getfield 81, 3) := by decide +kernel
theorem d_M_map_173 : decode b_M_map 173 = .ok (.iload_n 1, 1) := by decide +kernel
theorem d_M_map_174 : decode b_M_map 174 = .ok (.laload, 1) := by decide +kernel
theorem d_M_map_175 : decode b_M_map 175 = .ok (.ladd, 1) := by decide +kernel
theorem d_M_map_176 : decode b_M_map 176 = .ok (.lastore, 1) := by decide +kernel
theorem d_M_map_177 : decode b_M_map 177 = .ok (.iinc 5 1, 3) := by decide +kernel
theorem d_M_map_180 : decode b_M_map 180 = .ok (.goto (-64), 3) := by decide +kernel
theorem d_M_map_183 : decode b_M_map 183 = .ok (.aload_n 0, 1) := by decide +kernel
theorem d_M_map_184 : decode b_M_map 184 = .ok (.getfield 78, 3) := by decide +kernel
theorem d_M_map_187 : decode b_M_map 187 = .ok (.iload_n 1, 1) := by decide +kernel
theorem d_M_map_188 : decode b_M_map 188 = .ok (.iload_n 3, 1) := by decide +kernel
theorem d_M_map_189 : decode b_M_map 189 = .ok (.iastore, 1) := by decide +kernel
theorem d_M_map_190 : decode b_M_map 190 = .ok (.iload 4, 2) := by decide +kernel
theorem d_M_map_192 : decode b_M_map 192 = .ok (.ireturn, 1) := by decide +kernel
theorem d_M_member_0 : decode b_M_member 0 = .ok (.lload_n 0, 1) := by decide +kernel
theorem d_M_member_1 : decode b_M_member 1 = .ok (.iload_n 2, 1) := by decide +kernel
theorem d_M_member_2 : decode b_M_member 2 = .ok (.i2l, 1) := by decide +kernel
theorem d_M_member_3 : decode b_M_member 3 = .ok (.ldc2_w 166, 3) := by decide +kernel
theorem d_M_member_6 : decode b_M_member 6 = .ok (.lmul, 1) := by decide +kernel
theorem d_M_member_7 : decode b_M_member 7 = .ok (.lxor, 1) := by decide +kernel
theorem d_M_member_8 : decode b_M_member 8 = .ok (.lreturn, 1) := by decide +kernel
theorem d_M_isMapped_0 : decode b_M_isMapped 0 = .ok (.iconst 0, 1) := by decide +kernel
theorem d_M_isMapped_1 : decode b_M_isMapped 1 = .ok (.istore 4, 2) := by decide +kernel
theorem d_M_isMapped_3 : decode b_M_isMapped 3 = .ok (.iconst 0, 1) := by decide +kernel
theorem d_M_isMapped_4 : decode b_M_isMapped 4 = .ok (.istore 5, 2) := by decide +kernel
theorem d_M_isMapped_6 : decode b_M_isMapped 6 = .ok (.iload 5, 2) := by decide +kernel
theorem d_M_isMapped_8 : decode b_M_isMapped 8 = .ok (.aload_n 0, 1) := by decide +kernel
theorem d_M_isMapped_9 : decode b_M_isMapped 9 = .ok (.getfield 78, 3) := by decide +kernel
theorem d_M_isMapped_12 : decode b_M_isMapped 12 = .ok (.iload_n 1, 1) := by decide +kernel
theorem d_M_isMapped_13 : decode b_M_isMapped 13 = .ok (.iaload, 1) := by decide +kernel
theorem d_M_isMapped_14 : decode b_M_isMapped 14 = .ok (.if_icmp .ge 37, 3) := by decide +kernel
theorem d_M_isMapped_17 : decode b_M_isMapped 17 = .ok (.iload 4, 2) := by decide +kernel
theorem d_M_isMapped_19 : decode b_M_isMapped 19 = .ok (.ifCond .ne 19, 3) := by decide +kernel
theorem d_M_isMapped_22 : decode b_M_isMapped 22 = .ok (.aload_n 0, 1) := by decide +kernel
theorem d_M_isMapped_23 : decode b_M_isMapped 23 = .ok (.getfield 84, 3) := by decide +kernel
theorem d_M_isMapped_26 : decode b_M_isMapped 26 = .ok (.iconst 4, 1) := by decide +kernel
theorem d_M_isMapped_27 : decode b_M_isMapped 27 = .ok (.iload_n 1, 1) := by decide +kernel
theorem d_M_isMapped_28 : decode b_M_isMapped 28 = .ok (.imul, 1) := by decide +kernel
theorem d_M_isMapped_29 : decode b_M_isMapped 29 = .ok (.iload 5, 2) := by decide +kernel
theorem d_M_isMapped_31 : decode b_M_isMapped 31 = .ok (.iadd, 1) := by decide +kernel
theorem d_M_isMapped_32 : decode b_M_isMapped 32 = .ok (.laload, 1) := by decide +kernel
theorem d_M_isMapped_33 : decode b_M_isMapped 33 = .ok (.lload_n 2, 1) := by decide +kernel
theorem d_M_isMapped_34 : decode b_M_isMapped 34 = .ok (.lcmp, 1) := by decide +kernel
theorem d_M_isMapped_35 : decode b_M_isMapped 35 = .ok (.ifCond .ne 7, 3) := by decide +kernel
theorem d_M_isMapped_38 : decode b_M_isMapped 38 = .ok (.iconst 1, 1) := by decide +kernel
theorem d_M_isMapped_39 : decode b_M_isMapped 39 = .ok (.goto 4, 3) := by decide +kernel
theorem d_M_isMapped_42 : decode b_M_isMapped 42 = .ok (.iconst 0, 1) := by decide +kernel
theorem d_M_isMapped_43 : decode b_M_isMapped 43 = .ok (.istore 4, 2) := by decide +kernel
theorem d_M_isMapped_45 : decode b_M_isMapped 45 = .ok (.iinc 5 1, 3) := by decide +kernel
theorem d_M_isMapped_48 : decode b_M_isMapped 48 = .ok (.goto (-42), 3) := by decide +kernel
theorem d_M_isMapped_51 : decode b_M_isMapped 51 = .ok (.iload 4, 2) := by decide +kernel
theorem d_M_isMapped_53 : decode b_M_isMapped 53 = .ok (.ireturn, 1) := by decide +kernel
theorem d_M_result_0 : decode b_M_result 0 = .ok (.aload_n 0, 1) := by decide +kernel
theorem d_M_result_1 : decode b_M_result 1 = .ok (.iconst 0, 1) := by decide +kernel
theorem d_M_result_2 : decode b_M_result 2 = .ok (.putfield 94, 3) := by decide +kernel
theorem d_M_result_5 : decode b_M_result 5 = .ok (.iload_n 1, 1) := by decide +kernel
theorem d_M_result_6 : decode b_M_result 6 = .ok (.ifCond .lt 25, 3) := by decide +kernel
theorem d_M_result_9 : decode b_M_result 9 = .ok (.iload_n 1, 1) := by decide +kernel
theorem d_M_result_10 : decode b_M_result 10 = .ok (.aload_n 0, 1) := by decide +kernel
theorem d_M_result_11 : decode b_M_result 11 = .ok (.getfield 163, 3) := by decide +kernel
theorem d_M_result_14 : decode b_M_result 14 = .ok (.if_icmp .ge 17, 3) := by decide +kernel
theorem d_M_result_17 : decode b_M_result 17 = .ok (.iload_n 2, 1) := by decide +kernel
theorem d_M_result_18 : decode b_M_result 18 = .ok (.ifCond .lt 13, 3) := by decide +kernel
theorem d_M_result_21 : decode b_M_result 21 = .ok (.iload_n 2, 1) := by decide +kernel
theorem d_M_result_22 : decode b_M_result 22 = .ok (.aload_n 0, 1) := by decide +kernel
theorem d_M_result_23 : decode b_M_result 23 = .ok (.getfield 78, 3) := by decide +kernel
theorem d_M_result_26 : decode b_M_result 26 = .ok (.iload_n 1, 1) := by decide +kernel
theorem d_M_result_27 : decode b_M_result 27 = .ok (.iaload, 1) := by decide +kernel
theorem d_M_result_28 : decode b_M_result 28 = .ok (.if_icmp .lt 7, 3) := by decide +kernel
theorem d_M_result_31 : decode b_M_result 31 = .ok (.lconst 0, 1) := by decide +kernel
theorem d_M_result_32 : decode b_M_result 32 = .ok (.goto 13, 3) := by decide +kernel
theorem d_M_result_35 : decode b_M_result 35 = .ok (.aload_n 0, 1) := by decide +kernel
theorem d_M_result_36 : decode b_M_result 36 = .ok (.getfield 87, 3) := by decide +kernel
theorem d_M_result_39 : decode b_M_result 39 = .ok (.iconst 4, 1) := by decide +kernel
theorem d_M_result_40 : decode b_M_result 40 = .ok (.iload_n 1, 1) := by decide +kernel
theorem d_M_result_41 : decode b_M_result 41 = .ok (.imul, 1) := by decide +kernel
theorem d_M_result_42 : decode b_M_result 42 = .ok (.iload_n 2, 1) := by decide +kernel
theorem d_M_result_43 : decode b_M_result 43 = .ok (.iadd, 1) := by decide +kernel
theorem d_M_result_44 : decode b_M_result 44 = .ok (.laload, 1) := by decide +kernel
theorem d_M_result_45 : decode b_M_result 45 = .ok (.lreturn, 1) := by decide +kernel
end
section
/-! memory: systems of cells at fixed places; rows that read and write them; contracts, calls, returns -/
def kT : List Cond := lw_tbl.filter goodWord
theorem kT_in {w : Cond} (h : w ∈ lw_tbl ∧ goodWord w = true) : w ∈ kT := List.mem_filter.mpr h
theorem kT_good {ws : List Cond} (h : ∀ w ∈ ws, w ∈ kT) : GoodIn kT ws := fun w hw => ⟨h w hw, good_of_word (List.mem_filter.mp (h w hw)).2⟩
theorem kOk.ts {x : kCx} {cc : ByteArray} {own : String} (C : kOk x cc own) : ∀ w ∈ kT, w.before x.2.2.2.2.2.2.1 x.2.2.2.2.1 = true := fun w h => C.2.2.2 w (List.mem_filter.mp h).1 (List.mem_filter.mp h).2
abbrev kSys : Type := List (Nat × Nat) × (Nat → Nat → Nat) × (Nat → Nat → Nat → Nat × Nat) × (Nat → Nat) × (Nat → List Nat) × (Nat → Nat) × (Nat → Nat) × (Nat → ClassId) × va_G × List (ClassId × FieldType)
abbrev y_refs (y : kSys) : List (Nat × Nat) := y.1
abbrev y_ad (y : kSys) : Nat → Nat → Nat := y.2.1
abbrev y_rt (y : kSys) : Nat → Nat → Nat → Nat × Nat := y.2.2.1
abbrev y_kc (y : kSys) : Nat → Nat := y.2.2.2.1
abbrev y_ft (y : kSys) : Nat → List Nat := y.2.2.2.2.1
abbrev y_is (y : kSys) : Nat → Nat := y.2.2.2.2.2.1
abbrev y_ln (y : kSys) : Nat → Nat := y.2.2.2.2.2.2.1
abbrev y_ca (y : kSys) : Nat → ClassId := y.2.2.2.2.2.2.2.1
abbrev y_D (y : kSys) : va_G := y.2.2.2.2.2.2.2.2.1
abbrev y_ty (y : kSys) : List (ClassId × FieldType) := y.2.2.2.2.2.2.2.2.2
abbrev kG : Type := kI × kJ
def kU (I : kI) (k i j : Nat) (v : Int32) : kI := fun a b c => if a = k ∧ c = j ∧ b = i then v else I a b c
def kUJ (J : kJ) (k i j : Nat) (v : Int64) : kJ := fun a b c => if a = k ∧ c = j ∧ b = i then v else J a b c
theorem kU_s (I : kI) (k i j : Nat) (v : Int32) : kU I k i j v k i j = v := if_pos ⟨rfl, rfl, rfl⟩
theorem kUJ_s (J : kJ) (k i j : Nat) (v : Int64) : kUJ J k i j v k i j = v := if_pos ⟨rfl, rfl, rfl⟩
theorem kU_n {I : kI} {k i j a b c : Nat} {v : Int32} (h : ¬ (a = k ∧ c = j ∧ b = i)) : kU I k i j v a b c = I a b c := if_neg h
theorem kUJ_n {J : kJ} {k i j a b c : Nat} {v : Int64} (h : ¬ (a = k ∧ c = j ∧ b = i)) : kUJ J k i j v a b c = J a b c := if_neg h
def k_fv (rt : Nat → Nat → Nat → Nat × Nat) (k i : Nat) (I : kI) (J : kJ) (m t : Nat) : kV := match t with
  | 0 => .inl (I k i m)
  | 1 => .inr (.inl (J k i m))
  | _ => .inr (.inr (rt k i m))
def k_fl (rt : Nat → Nat → Nat → Nat × Nat) (k i : Nat) (I : kI) (J : kJ) : Nat → List Nat → List kV
  | _, [] => []
  | n, t :: r => k_fv rt k i I J n t :: k_fl rt k i I J (n + 1) r
theorem k_fl_get {rt : Nat → Nat → Nat → Nat × Nat} {k i : Nat} {I : kI} {J : kJ} : ∀ (l : List Nat) (n j : Nat), (k_fl rt k i I J n l)[j]? = l[j]?.map (k_fv rt k i I J (n + j))
  | [], n, j => by simp [k_fl]
  | t :: r, n, 0 => by simp [k_fl]
  | t :: r, n, j + 1 => by
    simp only [k_fl, List.getElem?_cons_succ]
    rw [k_fl_get r (n + 1) j, Nat.add_assoc, Nat.add_comm 1 j]
theorem k_fl_len {rt : Nat → Nat → Nat → Nat × Nat} {k i : Nat} {I : kI} {J : kJ} : ∀ (l : List Nat) (n : Nat), (k_fl rt k i I J n l).length = l.length
  | [], n => rfl
  | t :: r, n => by simp only [k_fl, List.length_cons]; rw [k_fl_len r (n + 1)]
theorem k_fl_congr {rt : Nat → Nat → Nat → Nat × Nat} {k i : Nat} {I I' : kI} {J J' : kJ} (h1 : I' k i = I k i) (h2 : J' k i = J k i) : ∀ (l : List Nat) (n : Nat), k_fl rt k i I' J' n l = k_fl rt k i I J n l
  | [], n => rfl
  | t :: r, n => by
    simp only [k_fl]
    rw [k_fl_congr h1 h2 r (n + 1)]
    have : k_fv rt k i I' J' n t = k_fv rt k i I J n t := by
      rcases t with _ | _ | t
      · show Sum.inl (I' k i n) = Sum.inl (I k i n)
        rw [h1]
      · show Sum.inr (Sum.inl (J' k i n)) = Sum.inr (Sum.inl (J k i n))
        rw [h2]
      · rfl
    rw [this]
theorem k_fl_setI {rt : Nat → Nat → Nat → Nat × Nat} {k i sl : Nat} {I : kI} {J : kJ} {v : Int32} {l : List Nat} (h : l[sl]? = some 0) : k_fl rt k i (kU I k i sl v) J 0 l = (k_fl rt k i I J 0 l).set sl (.inl v) := by
  apply List.ext_getElem?
  intro j
  rw [k_fl_get, List.getElem?_set, k_fl_get, Nat.zero_add, k_fl_len]
  by_cases e : sl = j
  · subst e
    rw [if_pos rfl, if_pos (List.getElem?_eq_some_iff.mp h).1, h]
    show some (Sum.inl (kU I k i sl v k i sl)) = _
    rw [kU_s]
  · rw [if_neg e]
    cases l[j]? with
    | none => rfl
    | some t =>
      show some _ = some _
      congr 1
      rcases t with _ | _ | t
      · show Sum.inl (kU I k i sl v k i j) = Sum.inl (I k i j)
        rw [kU_n (fun q => e q.2.1.symm)]
      · rfl
      · rfl
theorem k_fl_setJ {rt : Nat → Nat → Nat → Nat × Nat} {k i sl : Nat} {I : kI} {J : kJ} {v : Int64} {l : List Nat} (h : l[sl]? = some 1) : k_fl rt k i I (kUJ J k i sl v) 0 l = (k_fl rt k i I J 0 l).set sl (.inr (.inl v)) := by
  apply List.ext_getElem?
  intro j
  rw [k_fl_get, List.getElem?_set, k_fl_get, Nat.zero_add, k_fl_len]
  by_cases e : sl = j
  · subst e
    rw [if_pos rfl, if_pos (List.getElem?_eq_some_iff.mp h).1, h]
    show some (Sum.inr (Sum.inl (kUJ J k i sl v k i sl))) = _
    rw [kUJ_s]
  · rw [if_neg e]
    cases l[j]? with
    | none => rfl
    | some t =>
      show some _ = some _
      congr 1
      rcases t with _ | _ | t
      · rfl
      · show Sum.inr (Sum.inl (kUJ J k i sl v k i j)) = Sum.inr (Sum.inl (J k i j))
        rw [kUJ_n (fun q => e q.2.1.symm)]
      · rfl
def kCel (y : kSys) (k i : Nat) (I : kI) (J : kJ) : va_E := match y_is y k with
  | 0 => .inr (y_kc y k, (k_fl (y_rt y) k i I J 0 (y_ft y k)).map (k_cv (y_ad y)))
  | 1 => .inl (y_ca y k, y_ln y k, .inl (I k i))
  | 2 => .inl (y_ca y k, y_ln y k, .inl (I k i))
  | 3 => .inl (y_ca y k, y_ln y k, .inr (.inl (J k i)))
  | _ => .inl (y_ca y k, y_ln y k, .inr (.inr (.inr (.inr (fun j => some (y_ad y (y_rt y k i j).1 (y_rt y k i j).2))))))
theorem kCel_congr {y : kSys} {k i : Nat} {I I' : kI} {J J' : kJ} (h1 : I' k i = I k i) (h2 : J' k i = J k i) : kCel y k i I' J' = kCel y k i I J := by
  unfold kCel
  rw [k_fl_congr h1 h2, h1, h2]
theorem kCel_0 {y : kSys} {k i : Nat} {I : kI} {J : kJ} (h : y_is y k = 0) : kCel y k i I J = .inr (y_kc y k, (k_fl (y_rt y) k i I J 0 (y_ft y k)).map (k_cv (y_ad y))) := by
  unfold kCel
  rw [h]
  rfl
theorem kCel_1 {y : kSys} {k i : Nat} {I : kI} {J : kJ} (h : y_is y k = 1) : kCel y k i I J = .inl (y_ca y k, y_ln y k, .inl (I k i)) := by
  unfold kCel
  rw [h]
  rfl
theorem kCel_2 {y : kSys} {k i : Nat} {I : kI} {J : kJ} (h : y_is y k = 2) : kCel y k i I J = .inl (y_ca y k, y_ln y k, .inl (I k i)) := by
  unfold kCel
  rw [h]
  rfl
theorem kCel_3 {y : kSys} {k i : Nat} {I : kI} {J : kJ} (h : y_is y k = 3) : kCel y k i I J = .inl (y_ca y k, y_ln y k, .inr (.inl (J k i))) := by
  unfold kCel
  rw [h]
  rfl
theorem kCel_4 {y : kSys} {k i : Nat} {I : kI} {J : kJ} (h : y_is y k = 4) : kCel y k i I J = .inl (y_ca y k, y_ln y k, .inr (.inr (.inr (.inr (fun j => some (y_ad y (y_rt y k i j).1 (y_rt y k i j).2)))))) := by
  unfold kCel
  rw [h]
  rfl
def kLs (y : kSys) (g : kG) : va_W := (y_refs y).map fun r => (y_ad y r.1 r.2, kCel y r.1 r.2 g.1 g.2)
def kWd (y : kSys) (g : kG) (H : Heap) : Prop := va_P (y_D y) kCl (kLs y g) H
def kAA (y : kSys) : Nat → Prop := fun q => ∃ r ∈ y_refs y, y_ad y r.1 r.2 = q
abbrev kNest : Cond := .methodLinkNest "DynamicNeeds$Mapping" 25 y_X_memberDigest "DynamicNeeds"
def kSO (y : kSys) (s : State) : Prop := va_K (y_D y) kCl (y_ty y) s ∧ (y_refs y).Nodup ∧ (∀ r ∈ y_refs y, ∀ r' ∈ y_refs y, y_ad y r.1 r.2 = y_ad y r'.1 r'.2 → r = r') ∧ va_Nw kNest s
theorem kSO.warm {y : kSys} {s U : State} (O : kSO y s) (hW : s.WarmedH U.vm) : kSO y U := ⟨va_K.moved hW.alike O.1, O.2.1, O.2.2.1, va_Nw.warmM hW O.2.2.2⟩
theorem kSO.same {y : kSys} {s U : State} (O : kSO y s) (h : s.vm = U.vm) : kSO y U := ⟨va_K.moved (by rw [h]; exact Vm.Alike.refl _) O.1, O.2.1, O.2.2.1, va_Nw.same rfl h O.2.2.2⟩
theorem k_D {y : kSys} {s : State} (O : kSO y s) (g : kG) : va_D (kAA y) (kLs y g) := by
  refine ⟨fun i j p q hp hq e => ?_, fun k q hq => ?_⟩
  · unfold kLs at hp hq
    rw [List.getElem?_map] at hp hq
    cases h1 : (y_refs y)[i]? with
    | none => rw [h1] at hp; cases hp
    | some r =>
      cases h2 : (y_refs y)[j]? with
      | none => rw [h2] at hq; cases hq
      | some r' =>
        rw [h1] at hp
        rw [h2] at hq
        cases hp
        cases hq
        have hrr : r = r' := O.2.2.1 r (List.mem_of_getElem? h1) r' (List.mem_of_getElem? h2) e
        subst hrr
        exact (List.getElem?_inj (List.getElem?_eq_some_iff.mp h1).1 O.2.1).mp (h1.trans h2.symm)
  · unfold kLs at hq
    rw [List.getElem?_map] at hq
    cases h1 : (y_refs y)[k]? with
    | none => rw [h1] at hq; cases hq
    | some r =>
      rw [h1] at hq
      cases hq
      exact ⟨r, List.mem_of_getElem? h1, rfl⟩
theorem k_lget {y : kSys} {g : kG} {q : Nat} {r : Nat × Nat} {e : va_E} (hq : (y_refs y)[q]? = some r) (he : kCel y r.1 r.2 g.1 g.2 = e) : (kLs y g)[q]? = some (y_ad y r.1 r.2, e) := by
  unfold kLs
  rw [List.getElem?_map, hq, ← he]
  rfl
theorem k_lset {y : kSys} {s : State} (O : kSO y s) {g g' : kG} {q : Nat} {r : Nat × Nat} {e : va_E} (hq : (y_refs y)[q]? = some r) (he : kCel y r.1 r.2 g'.1 g'.2 = e) (h : ∀ r' : Nat × Nat, r' ≠ r → g'.1 r'.1 r'.2 = g.1 r'.1 r'.2 ∧ g'.2 r'.1 r'.2 = g.2 r'.1 r'.2) : (kLs y g).set q (y_ad y r.1 r.2, e) = kLs y g' := by
  apply List.ext_getElem?
  intro j
  have hl : q < (kLs y g).length := by
    unfold kLs
    rw [List.length_map]
    exact (List.getElem?_eq_some_iff.mp hq).1
  rw [List.getElem?_set]
  by_cases ej : q = j
  · subst ej
    rw [if_pos rfl, if_pos hl, k_lget hq he]
  · rw [if_neg ej]
    unfold kLs
    rw [List.getElem?_map, List.getElem?_map]
    cases h1 : (y_refs y)[j]? with
    | none => rfl
    | some r' =>
      have hne : r' ≠ r := by
        intro e1
        subst e1
        exact ej ((List.getElem?_inj (List.getElem?_eq_some_iff.mp hq).1 O.2.1).mp (hq.trans h1.symm))
      show some (y_ad y r'.1 r'.2, kCel y r'.1 r'.2 g.1 g.2) = some (y_ad y r'.1 r'.2, kCel y r'.1 r'.2 g'.1 g'.2)
      rw [kCel_congr (h r' hne).1 (h r' hne).2]
theorem k_Une {I : kI} {k i j : Nat} {v : Int32} {r' : Nat × Nat} (h : r' ≠ (k, i)) : kU I k i j v r'.1 r'.2 = I r'.1 r'.2 := by
  funext c
  exact kU_n (fun q => h (Prod.ext q.1 q.2.2))
theorem k_UJne {J : kJ} {k i j : Nat} {v : Int64} {r' : Nat × Nat} (h : r' ≠ (k, i)) : kUJ J k i j v r'.1 r'.2 = J r'.1 r'.2 := by
  funext c
  exact kUJ_n (fun q => h (Prod.ext q.1 q.2.2))
def kZ (v : Int32) : Prop := v = 0 ∨ v = 1
theorem kZ_nar {v : Int32} (h : kZ v) : narrow .boolean (.int v) = .int v ∧ fits .boolean (.int v) = true ∧ vp_nar .boolean v = v := by
  rcases h with rfl | rfl <;> exact ⟨by decide +kernel, by decide +kernel, by decide +kernel⟩
/-- a field's link, for reading -/
def kFl (own : String) (idx ci sl : Nat) : Prop := ∃ (Cn : String) (T : u_T) (N : Nat), kCl[ci]? = some (Cn, T, N) ∧ (∀ w ∈ u_ws Cn T N, w ∈ kT) ∧ sl < N ∧ Cond.fieldLink own idx (T sl).1 (T sl).2.1 (T sl).2.2.1 ∈ kT
/-- and for writing -/
def kFp (own : String) (idx ci sl : Nat) (ty : FieldType) : Prop := ∃ (Cn : String) (T : u_T) (N : Nat) (ty0 : Nat → FieldType), kCl[ci]? = some (Cn, T, N) ∧ (∀ w ∈ u_ws Cn T N, w ∈ kT) ∧ (∀ k, k < N → parseFieldDescriptor (T k).2.2.1 = some (ty0 k)) ∧ (∀ a, a < N → ∀ b, b < N → a ≠ b → (T a).2.1 ≠ (T b).2.1) ∧ sl < N ∧ Cond.fieldLink own idx (T sl).1 (T sl).2.1 (T sl).2.2.1 ∈ kT ∧ (T sl).2.2.2 = false ∧ parseFieldDescriptor (T sl).2.2.1 = some ty
section KM
variable {y : kSys} {x : kCx} {n : Nat × Nat} {Q : State → Prop} {pc : Nat} {ls : List (Option kV)} {st : List kV} {g : kG} {cc : ByteArray} {own : String}
theorem k_getf (C : kOk x cc own) (O : kSO y x.2.2.2.2.1) {k i idx ci sl : Nat} {v : kV} (hd : decode cc pc = .ok (.getfield idx, 3)) (F : kFl own idx ci sl) (hr : (k, i) ∈ y_refs y) (hk : y_is y k = 0) (hc : y_kc y k = ci) (hv : (k_fl (y_rt y) k i g.1 g.2 0 (y_ft y k))[sl]? = some v)
    (kk : Wk (kWd y) (kAA y) (y_ad y) x n Q (pc + 3) ls (v :: st) g) : Wk (kWd y) (kAA y) (y_ad y) x n Q pc ls (.inr (.inr (k, i)) :: st) g := by
  intro H locs la hw hS hl
  obtain ⟨Cn, T, N, h1, h2, h3, h4⟩ := F
  obtain ⟨q, hq⟩ := List.getElem?_of_mem hr
  exact va_get C.1 C.2.1 C.ts h2 C.2.2.1 O.1 hw q (k_lget hq (kCel_0 hk)) (by rw [hc]; exact h1) sl h3 (C.ts _ h4) (fun _ h => h) (v := k_cv (y_ad y) v) (by rw [List.getElem?_map, hv]; rfl) hd (kk H locs la hw hS hl)
theorem k_putI (C : kOk x cc own) (O : kSO y x.2.2.2.2.1) {k i idx ci sl : Nat} {v : Int32} (hd : decode cc pc = .ok (.putfield idx, 3)) (F : kFp own idx ci sl .int) (hr : (k, i) ∈ y_refs y) (hk : y_is y k = 0) (hc : y_kc y k = ci) (ht : (y_ft y k)[sl]? = some 0)
    (kk : Wk (kWd y) (kAA y) (y_ad y) x n Q (pc + 3) ls st (kU g.1 k i sl v, g.2)) : Wk (kWd y) (kAA y) (y_ad y) x n Q pc ls (.inl v :: .inr (.inr (k, i)) :: st) g := by
  intro H locs la hw hS hl
  obtain ⟨Cn, T, N, ty0, h1, h2, h5, h6, h3, h4, h7, h8⟩ := F
  obtain ⟨q, hq⟩ := List.getElem?_of_mem hr
  refine va_put C.1 C.2.1 C.ts h2 ty0 h5 h6 C.2.2.1 O.1 hw (k_D O g) hS q (k_lget hq (kCel_0 hk)) (by rw [hc]; exact h1) sl h3 (C.ts _ h4) (fun _ h => h) h7 (v := .int v) h8 rfl rfl (by rw [List.length_map, k_fl_len]; exact (List.getElem?_eq_some_iff.mp ht).1) hd fun H1 locs1 hP1 hD1 hS1 => ?_
  refine kk H1 locs1 la ?_ hS1 hl
  have e : (kLs y g).set q (y_ad y k i, .inr (y_kc y k, ((k_fl (y_rt y) k i g.1 g.2 0 (y_ft y k)).map (k_cv (y_ad y))).set sl (.int v))) = kLs y (kU g.1 k i sl v, g.2) := by
    refine k_lset O (g' := (kU g.1 k i sl v, g.2)) hq ?_ (fun r' hne => ⟨k_Une hne, rfl⟩)
    rw [kCel_0 hk, k_fl_setI ht, List.map_set]
    rfl
  unfold kWd
  rw [← e]
  exact hP1
theorem k_putZ (C : kOk x cc own) (O : kSO y x.2.2.2.2.1) {k i idx ci sl : Nat} {v : Int32} (hd : decode cc pc = .ok (.putfield idx, 3)) (F : kFp own idx ci sl .boolean) (hz : kZ v) (hr : (k, i) ∈ y_refs y) (hk : y_is y k = 0) (hc : y_kc y k = ci) (ht : (y_ft y k)[sl]? = some 0)
    (kk : Wk (kWd y) (kAA y) (y_ad y) x n Q (pc + 3) ls st (kU g.1 k i sl v, g.2)) : Wk (kWd y) (kAA y) (y_ad y) x n Q pc ls (.inl v :: .inr (.inr (k, i)) :: st) g := by
  intro H locs la hw hS hl
  obtain ⟨Cn, T, N, ty0, h1, h2, h5, h6, h3, h4, h7, h8⟩ := F
  obtain ⟨q, hq⟩ := List.getElem?_of_mem hr
  refine va_put C.1 C.2.1 C.ts h2 ty0 h5 h6 C.2.2.1 O.1 hw (k_D O g) hS q (k_lget hq (kCel_0 hk)) (by rw [hc]; exact h1) sl h3 (C.ts _ h4) (fun _ h => h) h7 (v := .int v) h8 (kZ_nar hz).1 (kZ_nar hz).2.1 (by rw [List.length_map, k_fl_len]; exact (List.getElem?_eq_some_iff.mp ht).1) hd fun H1 locs1 hP1 hD1 hS1 => ?_
  refine kk H1 locs1 la ?_ hS1 hl
  have e : (kLs y g).set q (y_ad y k i, .inr (y_kc y k, ((k_fl (y_rt y) k i g.1 g.2 0 (y_ft y k)).map (k_cv (y_ad y))).set sl (.int v))) = kLs y (kU g.1 k i sl v, g.2) := by
    refine k_lset O (g' := (kU g.1 k i sl v, g.2)) hq ?_ (fun r' hne => ⟨k_Une hne, rfl⟩)
    rw [kCel_0 hk, k_fl_setI ht, List.map_set]
    rfl
  unfold kWd
  rw [← e]
  exact hP1
theorem k_putJ (C : kOk x cc own) (O : kSO y x.2.2.2.2.1) {k i idx ci sl : Nat} {v : Int64} (hd : decode cc pc = .ok (.putfield idx, 3)) (F : kFp own idx ci sl .long) (hr : (k, i) ∈ y_refs y) (hk : y_is y k = 0) (hc : y_kc y k = ci) (ht : (y_ft y k)[sl]? = some 1)
    (kk : Wk (kWd y) (kAA y) (y_ad y) x n Q (pc + 3) ls st (g.1, kUJ g.2 k i sl v)) : Wk (kWd y) (kAA y) (y_ad y) x n Q pc ls (.inr (.inl v) :: .inr (.inr (k, i)) :: st) g := by
  intro H locs la hw hS hl
  obtain ⟨Cn, T, N, ty0, h1, h2, h5, h6, h3, h4, h7, h8⟩ := F
  obtain ⟨q, hq⟩ := List.getElem?_of_mem hr
  refine va_put C.1 C.2.1 C.ts h2 ty0 h5 h6 C.2.2.1 O.1 hw (k_D O g) hS q (k_lget hq (kCel_0 hk)) (by rw [hc]; exact h1) sl h3 (C.ts _ h4) (fun _ h => h) h7 (v := .long v) h8 rfl rfl (by rw [List.length_map, k_fl_len]; exact (List.getElem?_eq_some_iff.mp ht).1) hd fun H1 locs1 hP1 hD1 hS1 => ?_
  refine kk H1 locs1 la ?_ hS1 hl
  have e : (kLs y g).set q (y_ad y k i, .inr (y_kc y k, ((k_fl (y_rt y) k i g.1 g.2 0 (y_ft y k)).map (k_cv (y_ad y))).set sl (.long v))) = kLs y (g.1, kUJ g.2 k i sl v) := by
    refine k_lset O (g' := (g.1, kUJ g.2 k i sl v)) hq ?_ (fun r' hne => ⟨rfl, k_UJne hne⟩)
    rw [kCel_0 hk, k_fl_setJ ht, List.map_set]
    rfl
  unfold kWd
  rw [← e]
  exact hP1
theorem k_iald (C : kOk x cc own) (O : kSO y x.2.2.2.2.1) {k i : Nat} {j : Int32} (hd : decode cc pc = .ok (.iaload, 1)) (hr : (k, i) ∈ y_refs y) (hk : y_is y k = 1) (t0 : Nat) (ht : (y_ty y)[t0]? = some (y_ca y k, .int)) (hin : vp_in j (y_ln y k))
    (kk : Wk (kWd y) (kAA y) (y_ad y) x n Q (pc + 1) ls (.inl (g.1 k i j.toNatClampNeg) :: st) g) : Wk (kWd y) (kAA y) (y_ad y) x n Q pc ls (.inl j :: .inr (.inr (k, i)) :: st) g := by
  intro H locs la hw hS hl
  obtain ⟨q, hq⟩ := List.getElem?_of_mem hr
  exact va_iald C.1 C.2.1 O.1 hw q t0 (k_lget hq (kCel_1 hk)) ht hin hd (kk H locs la hw hS hl)
theorem k_zald (C : kOk x cc own) (O : kSO y x.2.2.2.2.1) {k i : Nat} {j : Int32} (hd : decode cc pc = .ok (.baload, 1)) (hr : (k, i) ∈ y_refs y) (hk : y_is y k = 2) (t0 : Nat) (ht : (y_ty y)[t0]? = some (y_ca y k, .boolean)) (hin : vp_in j (y_ln y k))
    (kk : Wk (kWd y) (kAA y) (y_ad y) x n Q (pc + 1) ls (.inl (g.1 k i j.toNatClampNeg) :: st) g) : Wk (kWd y) (kAA y) (y_ad y) x n Q pc ls (.inl j :: .inr (.inr (k, i)) :: st) g := by
  intro H locs la hw hS hl
  obtain ⟨q, hq⟩ := List.getElem?_of_mem hr
  exact va_zald C.1 C.2.1 O.1 hw q t0 (k_lget hq (kCel_2 hk)) ht hin hd (kk H locs la hw hS hl)
theorem k_lald (C : kOk x cc own) (O : kSO y x.2.2.2.2.1) {k i : Nat} {j : Int32} (hd : decode cc pc = .ok (.laload, 1)) (hr : (k, i) ∈ y_refs y) (hk : y_is y k = 3) (t0 : Nat) (ht : (y_ty y)[t0]? = some (y_ca y k, .long)) (hin : vp_in j (y_ln y k))
    (kk : Wk (kWd y) (kAA y) (y_ad y) x n Q (pc + 1) ls (.inr (.inl (g.2 k i j.toNatClampNeg)) :: st) g) : Wk (kWd y) (kAA y) (y_ad y) x n Q pc ls (.inl j :: .inr (.inr (k, i)) :: st) g := by
  intro H locs la hw hS hl
  obtain ⟨q, hq⟩ := List.getElem?_of_mem hr
  exact va_lald C.1 C.2.1 O.1 hw q t0 (k_lget hq (kCel_3 hk)) ht hin hd (kk H locs la hw hS hl)
theorem k_aald (C : kOk x cc own) (O : kSO y x.2.2.2.2.1) {k i : Nat} {j : Int32} {E : String} (hd : decode cc pc = .ok (.aaload, 1)) (hr : (k, i) ∈ y_refs y) (hk : y_is y k = 4) (t0 : Nat) (ht : (y_ty y)[t0]? = some (y_ca y k, .object E)) (hin : vp_in j (y_ln y k))
    (kk : Wk (kWd y) (kAA y) (y_ad y) x n Q (pc + 1) ls (.inr (.inr (y_rt y k i j.toNatClampNeg)) :: st) g) : Wk (kWd y) (kAA y) (y_ad y) x n Q pc ls (.inl j :: .inr (.inr (k, i)) :: st) g := by
  intro H locs la hw hS hl
  obtain ⟨q, hq⟩ := List.getElem?_of_mem hr
  exact va_aldq C.1 C.2.1 O.1 hw q t0 (k_lget hq (kCel_4 hk)) ht hin hd (kk H locs la hw hS hl)
theorem k_alen (C : kOk x cc own) (O : kSO y x.2.2.2.2.1) {k i : Nat} {v : Int32} (hd : decode cc pc = .ok (.arraylength, 1)) (hr : (k, i) ∈ y_refs y) (hk : y_is y k = 1) (t0 : Nat) (ht : (y_ty y)[t0]? = some (y_ca y k, .int)) (hv : Int32.ofNat (y_ln y k) = v)
    (kk : Wk (kWd y) (kAA y) (y_ad y) x n Q (pc + 1) ls (.inl v :: st) g) : Wk (kWd y) (kAA y) (y_ad y) x n Q pc ls (.inr (.inr (k, i)) :: st) g := by
  intro H locs la hw hS hl
  obtain ⟨q, hq⟩ := List.getElem?_of_mem hr
  exact va_alen C.1 C.2.1 O.1 hw q t0 (k_lget hq (kCel_1 hk)) ht hv hd (kk H locs la hw hS hl)
theorem k_iast (C : kOk x cc own) (O : kSO y x.2.2.2.2.1) {k i : Nat} {j v : Int32} (hd : decode cc pc = .ok (.iastore, 1)) (hr : (k, i) ∈ y_refs y) (hk : y_is y k = 1) (t0 : Nat) (ht : (y_ty y)[t0]? = some (y_ca y k, .int)) (hin : vp_in j (y_ln y k))
    (kk : Wk (kWd y) (kAA y) (y_ad y) x n Q (pc + 1) ls st (kU g.1 k i j.toNatClampNeg v, g.2)) : Wk (kWd y) (kAA y) (y_ad y) x n Q pc ls (.inl v :: .inl j :: .inr (.inr (k, i)) :: st) g := by
  intro H locs la hw hS hl
  obtain ⟨q, hq⟩ := List.getElem?_of_mem hr
  refine va_iast C.1 C.2.1 O.1 hw (k_D O g) hS q t0 (k_lget hq (kCel_1 hk)) ht hin hd fun H1 locs1 hP1 hD1 hS1 => ?_
  refine kk H1 locs1 la ?_ hS1 hl
  have e : (kLs y g).set q (y_ad y k i, .inl (y_ca y k, y_ln y k, .inl (upd (g.1 k i) j.toNatClampNeg v))) = kLs y (kU g.1 k i j.toNatClampNeg v, g.2) := by
    refine k_lset O (g' := (kU g.1 k i j.toNatClampNeg v, g.2)) hq ?_ (fun r' hne => ⟨k_Une hne, rfl⟩)
    rw [kCel_1 hk]
    have h9 : kU g.1 k i j.toNatClampNeg v k i = upd (g.1 k i) j.toNatClampNeg v := by
      funext c
      simp [kU, upd]
    exact congrArg (fun f => (Sum.inl (y_ca y k, y_ln y k, Sum.inl f) : va_E)) h9
  unfold kWd
  rw [← e]
  exact hP1
theorem k_zast (C : kOk x cc own) (O : kSO y x.2.2.2.2.1) {k i : Nat} {j v : Int32} (hd : decode cc pc = .ok (.bastore, 1)) (hz : kZ v) (hr : (k, i) ∈ y_refs y) (hk : y_is y k = 2) (t0 : Nat) (ht : (y_ty y)[t0]? = some (y_ca y k, .boolean)) (hin : vp_in j (y_ln y k))
    (kk : Wk (kWd y) (kAA y) (y_ad y) x n Q (pc + 1) ls st (kU g.1 k i j.toNatClampNeg v, g.2)) : Wk (kWd y) (kAA y) (y_ad y) x n Q pc ls (.inl v :: .inl j :: .inr (.inr (k, i)) :: st) g := by
  intro H locs la hw hS hl
  obtain ⟨q, hq⟩ := List.getElem?_of_mem hr
  refine va_zast C.1 C.2.1 O.1 hw (k_D O g) hS q t0 (k_lget hq (kCel_2 hk)) ht hin hd fun H1 locs1 hP1 hD1 hS1 => ?_
  refine kk H1 locs1 la ?_ hS1 hl
  rw [(kZ_nar hz).2.2] at hP1
  have e : (kLs y g).set q (y_ad y k i, .inl (y_ca y k, y_ln y k, .inl (upd (g.1 k i) j.toNatClampNeg v))) = kLs y (kU g.1 k i j.toNatClampNeg v, g.2) := by
    refine k_lset O (g' := (kU g.1 k i j.toNatClampNeg v, g.2)) hq ?_ (fun r' hne => ⟨k_Une hne, rfl⟩)
    rw [kCel_2 hk]
    have h9 : kU g.1 k i j.toNatClampNeg v k i = upd (g.1 k i) j.toNatClampNeg v := by
      funext c
      simp [kU, upd]
    exact congrArg (fun f => (Sum.inl (y_ca y k, y_ln y k, Sum.inl f) : va_E)) h9
  unfold kWd
  rw [← e]
  exact hP1
theorem k_last (C : kOk x cc own) (O : kSO y x.2.2.2.2.1) {k i : Nat} {j : Int32} {v : Int64} (hd : decode cc pc = .ok (.lastore, 1)) (hr : (k, i) ∈ y_refs y) (hk : y_is y k = 3) (t0 : Nat) (ht : (y_ty y)[t0]? = some (y_ca y k, .long)) (hin : vp_in j (y_ln y k))
    (kk : Wk (kWd y) (kAA y) (y_ad y) x n Q (pc + 1) ls st (g.1, kUJ g.2 k i j.toNatClampNeg v)) : Wk (kWd y) (kAA y) (y_ad y) x n Q pc ls (.inr (.inl v) :: .inl j :: .inr (.inr (k, i)) :: st) g := by
  intro H locs la hw hS hl
  obtain ⟨q, hq⟩ := List.getElem?_of_mem hr
  refine va_last C.1 C.2.1 O.1 hw (k_D O g) hS q t0 (k_lget hq (kCel_3 hk)) ht hin hd fun H1 locs1 hP1 hD1 hS1 => ?_
  refine kk H1 locs1 la ?_ hS1 hl
  have e : (kLs y g).set q (y_ad y k i, .inl (y_ca y k, y_ln y k, .inr (.inl (vp_updL (g.2 k i) j.toNatClampNeg v)))) = kLs y (g.1, kUJ g.2 k i j.toNatClampNeg v) := by
    refine k_lset O (g' := (g.1, kUJ g.2 k i j.toNatClampNeg v)) hq ?_ (fun r' hne => ⟨rfl, k_UJne hne⟩)
    rw [kCel_3 hk]
    have h9 : kUJ g.2 k i j.toNatClampNeg v k i = vp_updL (g.2 k i) j.toNatClampNeg v := by
      funext c
      simp [kUJ, vp_updL]
    exact congrArg (fun f => (Sum.inl (y_ca y k, y_ln y k, Sum.inr (Sum.inl f)) : va_E)) h9
  unfold kWd
  rw [← e]
  exact hP1
end KM
end
section
/-! contracts over a system's memory, entries, returns, calls -/
def kPre (y : kSys) (as : List kV) (g : kG) : Array Value → State → Prop := va_Pc (as.map (k_cv (y_ad y))) (fun U => kWd y g U.heap ∧ kSO y U)
def kPost (y : kSys) (post : Option kV → kG → Prop) : Array Value → State → Outcome → State → Prop := fun _ st oc t => (∃ (r : Option kV) (g2 : kG), oc = .returned (r.map (k_cv (y_ad y))) ∧ post r g2 ∧ kWd y g2 t.heap) ∧ va_F (kAA y) st t
def kRm (f n : Nat) : Room := { frames := f, cells := 0, slots := 0, locals := n }
def kMet (y : kSys) (l : Launch) (ym : MethodName) (cc : ByteArray) (nL : Nat) (ret : Option FieldType) (f n : Nat) (as : List kV) (g : kG) (post : Option kV → kG → Prop) : Prop := Met l ym (.code ym cc nL ret :: kT) (kRm f n) (kPre y as g) (kPost y post) 0 0 (kAA y)
/-- the end that a walk is to come to -/
def kQ (y : kSys) (post : Option kV → kG → Prop) (x : kCx) : State → Prop := MQ x.2.2.2.2.2.2.2.1 (kPost y post) x.2.2.2.2.2.2.1 x.2.2.2.2.1 0 0 (kAA y)
/-- what a walk has of its method: machine, memory, launch, room, locals, answer's type -/
def kIn (y : kSys) (l : Launch) (cc : ByteArray) (own : String) (nL : Nat) (ret : Option FieldType) (f n : Nat) (x : kCx) : Prop := kOk x cc own ∧ kSO y x.2.2.2.2.1 ∧ x.2.1 = l ∧ x.2.2.2.1 = kRm f n ∧ x.2.2.2.2.2.2.2.2.2.maxLocals = nL ∧ x.2.2.2.2.2.2.2.2.1.sig.returnType = ret ∧ x.2.2.2.2.2.2.2.2.1.locks = false
theorem k_enter {y : kSys} {l : Launch} {ym : MethodName} {cc : ByteArray} {nL : Nat} {ret : Option FieldType} {f n : Nat} {as : List kV} {g : kG} {post : Option kV → kG → Prop} (hy : plainName ym.cls = true) (ls0 : List (Option kV)) (hls : k_tl (y_ad y) 0 ls0 = lv_args 0 (as.map (k_cv (y_ad y)))) (hlen : ls0.length = nL) (hsl : (lg_sl (as.map (k_cv (y_ad y)))).length ≤ nL)
    (body : ∀ x : kCx, kIn y l cc ym.cls nL ret f n x → Wk (kWd y) (kAA y) (y_ad y) x (0, 0) (kQ y post x) 0 ls0 [] g) : kMet y l ym cc nL ret f n as g post := by
  refine Met.ofW (cc := cc) (maxL := nL) (ret := ret) hy rfl ?_
  intro p e s m args below meth c s₁ B hml hv
  obtain ⟨rfl, hw, hO⟩ := hv
  have h := body (p, l, e, kRm f n, s, m, (as.map (k_cv (y_ad y))).toArray, below, meth, c) ⟨⟨B.exec, B.bytes, findClass_of_methodNamed B.named, fun w h hg => atoms_spec B.pre w (List.mem_cons_of_mem _ (kT_in ⟨h, hg⟩))⟩, hO, rfl, rfl, hml, B.returns, B.notSynchronized⟩
  rw [lg_entry_eq]
  exact h s.heap [] _ hw va_S.rf (by rw [hls, hlen]; exact lv_entry _ hsl)
section KC
variable {y : kSys} {x : kCx} {pc : Nat} {ls : List (Option kV)} {st : List kV} {g : kG} {cc : ByteArray} {own : String} {l : Launch} {nL f n : Nat} {ret : Option FieldType} {post : Option kV → kG → Prop}
theorem k_iret (X : kIn y l cc own nL (some .int) f n x) {v : Int32} (hd : decode cc pc = .ok (.ireturn, 1)) (hp : post (some (.inl v)) g) : Wk (kWd y) (kAA y) (y_ad y) x (0, 0) (kQ y post x) pc ls [.inl v] g :=
  fun H locs la hw hS hl => W.iret X.1.1 X.1.2.1 X.2.2.2.2.2.1 (fun t ht hW => ⟨⟨some (.inl v), g, rfl, hp, by rw [ht]; exact hw⟩, hS.F ht⟩) hS.2.2 hd X.2.2.2.2.2.2
theorem k_zret (X : kIn y l cc own nL (some .boolean) f n x) {v : Int32} (hd : decode cc pc = .ok (.ireturn, 1)) (hz : kZ v) (hp : post (some (.inl v)) g) : Wk (kWd y) (kAA y) (y_ad y) x (0, 0) (kQ y post x) pc ls [.inl v] g :=
  fun H locs la hw hS hl => W.zret X.1.1 X.1.2.1 X.2.2.2.2.2.1 (kZ_nar hz).1 (fun t ht hW => ⟨⟨some (.inl v), g, rfl, hp, by rw [ht]; exact hw⟩, hS.F ht⟩) hS.2.2 hd X.2.2.2.2.2.2
theorem k_lret (X : kIn y l cc own nL (some .long) f n x) {v : Int64} (hd : decode cc pc = .ok (.lreturn, 1)) (hp : post (some (.inr (.inl v))) g) : Wk (kWd y) (kAA y) (y_ad y) x (0, 0) (kQ y post x) pc ls [.inr (.inl v)] g :=
  fun H locs la hw hS hl => W.lret X.1.1 X.1.2.1 X.2.2.2.2.2.1 (fun t ht hW => ⟨⟨some (.inr (.inl v)), g, rfl, hp, by rw [ht]; exact hw⟩, hS.F ht⟩) hS.2.2 hd X.2.2.2.2.2.2
theorem k_vret (X : kIn y l cc own nL none f n x) (hd : decode cc pc = .ok (.return_, 1)) (hp : post none g) : Wk (kWd y) (kAA y) (y_ad y) x (0, 0) (kQ y post x) pc ls [] g :=
  fun H locs la hw hS hl => W.vret X.1.1 X.1.2.1 X.2.2.2.2.2.1 (fun t ht hW => ⟨⟨none, g, rfl, hp, by rw [ht]; exact hw⟩, hS.F ht⟩) hS.2.2 hd X.2.2.2.2.2.2
end KC
theorem kPre_blind {y : kSys} {as : List kV} {g : kG} : FrameBlind (kPre y as g) := fun a U gf mk q => ⟨q.1, q.2.1, q.2.2.same rfl⟩
/-- behind a call -/
theorem k_after {y : kSys} {x : kCx} {nn : Nat × Nat} {Q : State → Prop} {pc : Nat} {ls : List (Option kV)} {rest : List kV} {post : Option kV → kG → Prop} {a : Array Value} {H : Heap} {locs : List Loc} {la : Array Slot} {st' : List Value}
    (hrun : va_Run x.1 x.2.1 x.2.2.1 x.2.2.2.1 x.2.2.2.2.1 x.2.2.2.2.2.1 x.2.2.2.2.2.2.1 x.2.2.2.2.2.2.2.1 x.2.2.2.2.2.2.2.2.1 x.2.2.2.2.2.2.2.2.2 H locs nn.1 nn.2 0 0 (F0 x.2.2.2.2.2.1 pc la st') (rest.map (k_cv (y_ad y))) (kPost y post a) (kAA y))
    (hS : va_S (kAA y) x.2.2.2.2.1.heap H locs) (hl : lv_has la ls.length (k_tl (y_ad y) 0 ls))
    (kk : ∀ r g2, post r g2 → Wk (kWd y) (kAA y) (y_ad y) x nn Q (pc + 3) ls (r.toList ++ rest) g2) : W x.1 x.2.1 x.2.2.1 x.2.2.2.1 x.2.2.2.2.1 x.2.2.2.2.2.1 x.2.2.2.2.2.2.1 x.2.2.2.2.2.2.2.1 x.2.2.2.2.2.2.2.2.1 x.2.2.2.2.2.2.2.2.2 H locs nn.1 nn.2 Q (F0 x.2.2.2.2.2.1 pc la st') := by
  intro T hT X
  obtain ⟨v, st₀, t, T', L, h0, X', hL, e1, e2, ⟨⟨r, g2, hv, hp, hb⟩, hz, hk⟩, stp⟩ := hrun T hT X
  cases hv
  rw [h0] at hz hk
  obtain ⟨t2, a1, b1⟩ := kk r g2 hp T'.heap (locs ++ L) la (by rw [e1]; exact hb)
    ⟨Nat.le_trans hS.1 (by rw [e1]; exact hz), fun q h1 h2 => by rw [e1, hk q (Nat.lt_of_lt_of_le h1 hS.1) h2]; exact hS.2.1 q h1 h2, fun q hq => by
      rcases List.mem_append.mp hq with h | h
      · exact hS.2.2 q h
      · exact hL q h⟩ hl T' rfl X'
  have e3 : (r.toList ++ rest).map (k_cv (y_ad y)) = (r.map (k_cv (y_ad y))).toList ++ rest.map (k_cv (y_ad y)) := by cases r <;> rfl
  rw [e3] at a1
  exact ⟨t2, stp t2 a1, b1⟩
/-- a call's words: an instance method of a class of ours -/
def kCv (own : String) (idx : Nat) (ym : MethodName) (cc : ByteArray) (nL : Nat) (ret : Option FieldType) (ci na : Nat) : Prop := ∃ (Cn : String) (T : u_T) (N : Nat), kCl[ci]? = some (Cn, T, N) ∧ ym.cls = Cn ∧ Cond.methodLink own idx ym ∈ kT ∧ Cond.instanceMethod ym ∈ kT ∧ Cond.selects Cn ym ym ∈ kT ∧ Cond.initialized Cn ∈ kT ∧ Cond.code ym cc nL ret ∈ kT ∧ ym.cls ≠ "java/lang/invoke/MethodHandle" ∧ ym.cls ≠ "java/lang/invoke/VarHandle" ∧ (parseMethodDescriptor ym.desc).map (fun d => d.parameters.length) = some na
/-- a static method's -/
def kCs (own : String) (idx : Nat) (ym : MethodName) (cc : ByteArray) (nL : Nat) (ret : Option FieldType) (na : Nat) : Prop := Cond.methodLink own idx ym ∈ kT ∧ Cond.static ym ∈ kT ∧ Cond.initialized ym.cls ∈ kT ∧ Cond.code ym cc nL ret ∈ kT ∧ ym.cls ≠ "java/lang/invoke/MethodHandle" ∧ ym.cls ≠ "java/lang/invoke/VarHandle" ∧ (parseMethodDescriptor ym.desc).map (fun d => d.parameters.length) = some na
section KD
variable {y : kSys} {x : kCx} {pc : Nat} {ls : List (Option kV)} {st rest : List kV} {g : kG} {cc : ByteArray} {own : String} {l : Launch} {nL f n : Nat} {ret : Option FieldType} {post : Option kV → kG → Prop} {Q : State → Prop}
theorem k_callV (X : kIn y l cc own nL ret f n x) {idx : Nat} {ym : MethodName} {cc2 : ByteArray} {nL2 f2 n2 ci k i : Nat} {ret2 : Option FieldType} {as : List kV} (hd : decode cc pc = .ok (.invokevirtual idx, 3)) (hM : kMet y l ym cc2 nL2 ret2 f2 n2 (.inr (.inr (k, i)) :: as) g post) (hc : kCv own idx ym cc2 nL2 ret2 ci as.length) (hr : (k, i) ∈ y_refs y) (hk : y_is y k = 0) (hkc : y_kc y k = ci) (hR : f2 + 1 ≤ f ∧ 8 + (nL2 + 11) + n2 ≤ n) (hst : st = as.reverse ++ .inr (.inr (k, i)) :: rest) (hll : ls.length = nL) (hW : ((rest.map (k_cv (y_ad y))).map fun v => v.category).sum ≤ 8)
    (kk : ∀ r g2, post r g2 → Wk (kWd y) (kAA y) (y_ad y) x (0, 0) Q (pc + 3) ls (r.toList ++ rest) g2) : Wk (kWd y) (kAA y) (y_ad y) x (0, 0) Q pc ls st g := by
  intro H locs la hw hS hl
  obtain ⟨C, O, h1, h2, h3, -, -⟩ := X
  obtain ⟨Cn, T, N, c1, c2, c3, c4, c5, c6, c7, c8, c9, c10⟩ := hc
  obtain ⟨q, hq⟩ := List.getElem?_of_mem hr
  subst hst
  subst h1
  have hrec := va_recv (q := (Cn, T, N)) O.1 hw (by rw [hkc]; exact c1) (k_lget hq (kCel_0 hk))
  refine k_after (ls := ls) (rest := rest) (post := post) (a := ((.inr (.inr (k, i)) :: as).map (k_cv (y_ad y))).toArray) ?_ hS hl kk
  refine va_runV (As := as.map (k_cv (y_ad y))) (nL := nL) (C := Cn) (Ts := kT) ⟨C.1, C.2.1, h3, C.2.2.1, C.ts⟩ hM
    (cwV as.length C.ts (kT_good (fun w hw => ?_)) rfl rfl rfl ⟨c2, c8, c9, c10⟩ (by rw [h2]; exact hR)) ⟨kPre_blind, hrec, fun U hU hW => ⟨rfl, by rw [hU]; exact hw, O.warm hW⟩⟩ rfl (List.length_map ..) (hl.1.trans hll) ?_ (lv_room hW) hd ⟨by rw [h2]; exact Nat.zero_le _, by rw [h2]; exact Nat.zero_le _⟩
  · unfold wsV at hw
    rcases List.mem_append.mp hw with h | h
    · simp only [List.mem_cons, List.not_mem_nil, or_false] at h
      rcases h with rfl | rfl | rfl | rfl
      · exact c3
      · exact c4
      · exact c5
      · exact c6
    · rcases List.mem_cons.mp h with rfl | h
      · exact c7
      · exact h
  · show (as.reverse ++ .inr (.inr (k, i)) :: rest).map (k_cv (y_ad y)) = _
    rw [List.map_append, List.map_cons, List.map_reverse]
    rfl
theorem k_callS (X : kIn y l cc own nL ret f n x) {idx : Nat} {ym : MethodName} {cc2 : ByteArray} {nL2 f2 n2 : Nat} {ret2 : Option FieldType} {as : List kV} (hd : decode cc pc = .ok (.invokestatic idx, 3)) (hM : kMet y l ym cc2 nL2 ret2 f2 n2 as g post) (hc : kCs own idx ym cc2 nL2 ret2 as.length) (hR : f2 + 1 ≤ f ∧ 8 + (nL2 + 11) + n2 ≤ n) (hst : st = as.reverse ++ rest) (hll : ls.length = nL) (hW : ((rest.map (k_cv (y_ad y))).map fun v => v.category).sum ≤ 8)
    (kk : ∀ r g2, post r g2 → Wk (kWd y) (kAA y) (y_ad y) x (0, 0) Q (pc + 3) ls (r.toList ++ rest) g2) : Wk (kWd y) (kAA y) (y_ad y) x (0, 0) Q pc ls st g := by
  intro H locs la hw hS hl
  obtain ⟨C, O, h1, h2, h3, -, -⟩ := X
  obtain ⟨c3, c4, c6, c7, c8, c9, c10⟩ := hc
  subst hst
  subst h1
  refine k_after (ls := ls) (rest := rest) (post := post) (a := (as.map (k_cv (y_ad y))).toArray) ?_ hS hl kk
  refine va_runS (As := as.map (k_cv (y_ad y))) (nL := nL) (Ts := kT) ⟨C.1, C.2.1, h3, C.2.2.1, C.ts⟩ hM
    ⟨callB_of as.length C.ts (kT_good (fun w hw => ?_)) rfl rfl rfl (C.ts _ c6) (C.ts _ c3) ⟨c8, c9, c10⟩ (by rw [h2]; exact hR), C.ts _ c4⟩ ⟨kPre_blind, fun U hU hW => ⟨rfl, by rw [hU]; exact hw, O.warm hW⟩⟩ rfl (List.length_map ..) (hl.1.trans hll) ?_ (lv_room hW) hd ⟨by rw [h2]; exact Nat.zero_le _, by rw [h2]; exact Nat.zero_le _⟩
  · rcases List.mem_cons.mp hw with rfl | h
    · exact c7
    · exact h
  · show (as.reverse ++ rest).map (k_cv (y_ad y)) = _
    rw [List.map_append, List.map_reverse]
/-- memberDigest, called by the nest mate Mapping -/
theorem k_callN (X : kIn y l cc "DynamicNeeds$Mapping" nL ret f n x) {nL2 f2 n2 : Nat} {ret2 : Option FieldType} {cc2 : ByteArray} {as : List kV} (hd : decode cc pc = .ok (.invokestatic 25, 3)) (hM : kMet y l y_X_memberDigest cc2 nL2 ret2 f2 n2 as g post) (h7 : Cond.code y_X_memberDigest cc2 nL2 ret2 ∈ kT) (h4 : Cond.static y_X_memberDigest ∈ kT) (h6 : Cond.initialized "DynamicNeeds" ∈ kT) (h10 : as.length = 2) (hR : f2 + 1 ≤ f ∧ 8 + (nL2 + 11) + n2 ≤ n) (hst : st = as.reverse ++ rest) (hll : ls.length = nL) (hW : ((rest.map (k_cv (y_ad y))).map fun v => v.category).sum ≤ 8)
    (kk : ∀ r g2, post r g2 → Wk (kWd y) (kAA y) (y_ad y) x (0, 0) Q (pc + 3) ls (r.toList ++ rest) g2) : Wk (kWd y) (kAA y) (y_ad y) x (0, 0) Q pc ls st g := by
  intro H locs la hw hS hl
  obtain ⟨C, O, h1, h2, h3, -, -⟩ := X
  subst hst
  subst h1
  refine k_after (ls := ls) (rest := rest) (post := post) (a := (as.map (k_cv (y_ad y))).toArray) ?_ hS hl kk
  refine va_runSN (As := as.map (k_cv (y_ad y))) (nL := nL) (Ts := kT) ⟨C.1, C.2.1, h3, C.2.2.1, C.ts⟩ hM
    ⟨va_cnB 2 C.ts (kT_good (fun w hw => ?_)) rfl rfl rfl O.2.2.2 (C.ts _ h6) ⟨by decide, by decide, by decide +kernel⟩ (by rw [h2]; exact hR), C.ts _ h4, trivial⟩ ⟨kPre_blind, fun U hU hW => ⟨rfl, by rw [hU]; exact hw, O.warm hW⟩⟩ rfl (by rw [List.length_map]; exact h10) (hl.1.trans hll) ?_ (lv_room hW) hd ⟨by rw [h2]; exact Nat.zero_le _, by rw [h2]; exact Nat.zero_le _⟩
  · rcases List.mem_cons.mp hw with rfl | h
    · exact h7
    · exact h
  · show (as.reverse ++ rest).map (k_cv (y_ad y)) = _
    rw [List.map_append, List.map_reverse]
end KD
end
section
/-! links of fields and of calls (by program) -/
theorem fp_X_27 : kFp "DynamicNeeds" 27 4 4 (.int) := ⟨R_X, T_X, 10, t_X, rfl, fun w h => kT_in (i_X w h), t_X_ok, n_X, by decide, kT_in (by decide +kernel), rfl, by decide +kernel⟩
theorem fp_X_31 : kFp "DynamicNeeds" 31 4 5 (.int) := ⟨R_X, T_X, 10, t_X, rfl, fun w h => kT_in (i_X w h), t_X_ok, n_X, by decide, kT_in (by decide +kernel), rfl, by decide +kernel⟩
theorem fp_X_34 : kFp "DynamicNeeds" 34 4 6 (.int) := ⟨R_X, T_X, 10, t_X, rfl, fun w h => kT_in (i_X w h), t_X_ok, n_X, by decide, kT_in (by decide +kernel), rfl, by decide +kernel⟩
theorem fp_X_41 : kFp "DynamicNeeds" 41 4 8 (.int) := ⟨R_X, T_X, 10, t_X, rfl, fun w h => kT_in (i_X w h), t_X_ok, n_X, by decide, kT_in (by decide +kernel), rfl, by decide +kernel⟩
theorem fp_X_44 : kFp "DynamicNeeds" 44 4 9 (.int) := ⟨R_X, T_X, 10, t_X, rfl, fun w h => kT_in (i_X w h), t_X_ok, n_X, by decide, kT_in (by decide +kernel), rfl, by decide +kernel⟩
theorem cs_X_47 : kCs "DynamicNeeds" 47 y_J_min b_J_min 2 (some .int) 2 := ⟨kT_in (by decide +kernel), kT_in (by decide +kernel), kT_in (by decide +kernel), kT_in ⟨List.mem_of_getElem? (i := 49) (by decide +kernel), by decide +kernel⟩, by decide, by decide, by decide +kernel⟩
theorem cs_X_53 : kCs "DynamicNeeds" 53 y_J_max b_J_max 2 (some .int) 2 := ⟨kT_in (by decide +kernel), kT_in (by decide +kernel), kT_in (by decide +kernel), kT_in ⟨List.mem_of_getElem? (i := 52) (by decide +kernel), by decide +kernel⟩, by decide, by decide, by decide +kernel⟩
theorem fl_X_11 : kFl "DynamicNeeds" 11 4 1 := ⟨R_X, T_X, 10, rfl, fun w h => kT_in (i_X w h), by decide, kT_in (by decide +kernel)⟩
theorem fl_X_17 : kFl "DynamicNeeds" 17 4 2 := ⟨R_X, T_X, 10, rfl, fun w h => kT_in (i_X w h), by decide, kT_in (by decide +kernel)⟩
theorem fl_X_23 : kFl "DynamicNeeds" 23 4 3 := ⟨R_X, T_X, 10, rfl, fun w h => kT_in (i_X w h), by decide, kT_in (by decide +kernel)⟩
theorem fp_F_9 : kFp "DynamicNeeds$FileState" 9 1 0 (.boolean) := ⟨R_F, T_F, 3, t_F, rfl, fun w h => kT_in (i_F w h), t_F_ok, n_F, by decide, kT_in (by decide +kernel), rfl, by decide +kernel⟩
theorem fp_F_15 : kFp "DynamicNeeds$FileState" 15 1 1 (.long) := ⟨R_F, T_F, 3, t_F, rfl, fun w h => kT_in (i_F w h), t_F_ok, n_F, by decide, kT_in (by decide +kernel), rfl, by decide +kernel⟩
theorem fp_F_19 : kFp "DynamicNeeds$FileState" 19 1 2 (.int) := ⟨R_F, T_F, 3, t_F, rfl, fun w h => kT_in (i_F w h), t_F_ok, n_F, by decide, kT_in (by decide +kernel), rfl, by decide +kernel⟩
theorem fp_A_18 : kFp "DynamicNeeds$Action" 18 0 2 (.int) := ⟨R_A, T_A, 13, t_A, rfl, fun w h => kT_in (i_A w h), t_A_ok, n_A, by decide, kT_in (by decide +kernel), rfl, by decide +kernel⟩
theorem fp_A_22 : kFp "DynamicNeeds$Action" 22 0 3 (.int) := ⟨R_A, T_A, 13, t_A, rfl, fun w h => kT_in (i_A w h), t_A_ok, n_A, by decide, kT_in (by decide +kernel), rfl, by decide +kernel⟩
theorem fp_A_25 : kFp "DynamicNeeds$Action" 25 0 4 (.int) := ⟨R_A, T_A, 13, t_A, rfl, fun w h => kT_in (i_A w h), t_A_ok, n_A, by decide, kT_in (by decide +kernel), rfl, by decide +kernel⟩
theorem fp_A_35 : kFp "DynamicNeeds$Action" 35 0 6 (.boolean) := ⟨R_A, T_A, 13, t_A, rfl, fun w h => kT_in (i_A w h), t_A_ok, n_A, by decide, kT_in (by decide +kernel), rfl, by decide +kernel⟩
theorem fp_A_39 : kFp "DynamicNeeds$Action" 39 0 7 (.int) := ⟨R_A, T_A, 13, t_A, rfl, fun w h => kT_in (i_A w h), t_A_ok, n_A, by decide, kT_in (by decide +kernel), rfl, by decide +kernel⟩
theorem fp_A_42 : kFp "DynamicNeeds$Action" 42 0 8 (.long) := ⟨R_A, T_A, 13, t_A, rfl, fun w h => kT_in (i_A w h), t_A_ok, n_A, by decide, kT_in (by decide +kernel), rfl, by decide +kernel⟩
theorem fp_A_46 : kFp "DynamicNeeds$Action" 46 0 9 (.int) := ⟨R_A, T_A, 13, t_A, rfl, fun w h => kT_in (i_A w h), t_A_ok, n_A, by decide, kT_in (by decide +kernel), rfl, by decide +kernel⟩
theorem fp_A_49 : kFp "DynamicNeeds$Action" 49 0 10 (.int) := ⟨R_A, T_A, 13, t_A, rfl, fun w h => kT_in (i_A w h), t_A_ok, n_A, by decide, kT_in (by decide +kernel), rfl, by decide +kernel⟩
theorem fp_A_52 : kFp "DynamicNeeds$Action" 52 0 11 (.int) := ⟨R_A, T_A, 13, t_A, rfl, fun w h => kT_in (i_A w h), t_A_ok, n_A, by decide, kT_in (by decide +kernel), rfl, by decide +kernel⟩
theorem fp_A_55 : kFp "DynamicNeeds$Action" 55 0 12 (.int) := ⟨R_A, T_A, 13, t_A, rfl, fun w h => kT_in (i_A w h), t_A_ok, n_A, by decide, kT_in (by decide +kernel), rfl, by decide +kernel⟩
theorem fp_N_26 : kFp "DynamicNeeds$Notes" 26 3 4 (.int) := ⟨R_N, T_N, 5, t_N, rfl, fun w h => kT_in (i_N w h), t_N_ok, n_N, by decide, kT_in (by decide +kernel), rfl, by decide +kernel⟩
theorem fp_G_9 : kFp "DynamicNeeds$Mapping" 9 2 0 (.int) := ⟨R_G, T_G, 4, t_G, rfl, fun w h => kT_in (i_G w h), t_G_ok, n_G, by decide, kT_in (by decide +kernel), rfl, by decide +kernel⟩
theorem fp_G_15 : kFp "DynamicNeeds$Mapping" 15 2 1 (.long) := ⟨R_G, T_G, 4, t_G, rfl, fun w h => kT_in (i_G w h), t_G_ok, n_G, by decide, kT_in (by decide +kernel), rfl, by decide +kernel⟩
theorem fp_G_19 : kFp "DynamicNeeds$Mapping" 19 2 2 (.long) := ⟨R_G, T_G, 4, t_G, rfl, fun w h => kT_in (i_G w h), t_G_ok, n_G, by decide, kT_in (by decide +kernel), rfl, by decide +kernel⟩
theorem fp_G_22 : kFp "DynamicNeeds$Mapping" 22 2 3 (.int) := ⟨R_G, T_G, 4, t_G, rfl, fun w h => kT_in (i_G w h), t_G_ok, n_G, by decide, kT_in (by decide +kernel), rfl, by decide +kernel⟩
theorem fl_X_27 : kFl "DynamicNeeds" 27 4 4 := ⟨R_X, T_X, 10, rfl, fun w h => kT_in (i_X w h), by decide, kT_in (by decide +kernel)⟩
theorem cv_X_62 : kCv "DynamicNeeds" 62 y_F_put b_F_put 3 none 1 1 := ⟨R_F, T_F, 3, rfl, rfl, kT_in (by decide +kernel), kT_in (by decide +kernel), kT_in (by decide +kernel), kT_in (by decide +kernel), kT_in ⟨List.mem_of_getElem? (i := 217) (by decide +kernel), by decide +kernel⟩, by decide, by decide, by decide +kernel⟩
theorem cv_X_66 : kCv "DynamicNeeds" 66 y_X_isFile b_X_isFile 2 (some .boolean) 4 1 := ⟨R_X, T_X, 10, rfl, rfl, kT_in (by decide +kernel), kT_in (by decide +kernel), kT_in (by decide +kernel), kT_in (by decide +kernel), kT_in ⟨List.mem_of_getElem? (i := 225) (by decide +kernel), by decide +kernel⟩, by decide, by decide, by decide +kernel⟩
theorem cv_X_70 : kCv "DynamicNeeds" 70 y_F_isMade b_F_isMade 1 (some .boolean) 1 0 := ⟨R_F, T_F, 3, rfl, rfl, kT_in (by decide +kernel), kT_in (by decide +kernel), kT_in (by decide +kernel), kT_in (by decide +kernel), kT_in ⟨List.mem_of_getElem? (i := 229) (by decide +kernel), by decide +kernel⟩, by decide, by decide, by decide +kernel⟩
theorem cv_X_74 : kCv "DynamicNeeds" 74 y_F_remove b_F_remove 1 none 1 0 := ⟨R_F, T_F, 3, rfl, rfl, kT_in (by decide +kernel), kT_in (by decide +kernel), kT_in (by decide +kernel), kT_in (by decide +kernel), kT_in ⟨List.mem_of_getElem? (i := 233) (by decide +kernel), by decide +kernel⟩, by decide, by decide, by decide +kernel⟩
theorem fl_F_19 : kFl "DynamicNeeds$FileState" 19 1 2 := ⟨R_F, T_F, 3, rfl, fun w h => kT_in (i_F w h), by decide, kT_in (by decide +kernel)⟩
theorem fl_X_31 : kFl "DynamicNeeds" 31 4 5 := ⟨R_X, T_X, 10, rfl, fun w h => kT_in (i_X w h), by decide, kT_in (by decide +kernel)⟩
theorem fp_X_77 : kFp "DynamicNeeds" 77 0 3 (.int) := ⟨R_A, T_A, 13, t_A, rfl, fun w h => kT_in (i_A w h), t_A_ok, n_A, by decide, kT_in (by decide +kernel), rfl, by decide +kernel⟩
theorem cv_X_80 : kCv "DynamicNeeds" 80 y_X_isAction b_X_isAction 2 (some .boolean) 4 1 := ⟨R_X, T_X, 10, rfl, rfl, kT_in (by decide +kernel), kT_in (by decide +kernel), kT_in (by decide +kernel), kT_in (by decide +kernel), kT_in ⟨List.mem_of_getElem? (i := 245) (by decide +kernel), by decide +kernel⟩, by decide, by decide, by decide +kernel⟩
theorem fl_X_83 : kFl "DynamicNeeds" 83 0 4 := ⟨R_A, T_A, 13, rfl, fun w h => kT_in (i_A w h), by decide, kT_in (by decide +kernel)⟩
theorem fp_X_83 : kFp "DynamicNeeds" 83 0 4 (.int) := ⟨R_A, T_A, 13, t_A, rfl, fun w h => kT_in (i_A w h), t_A_ok, n_A, by decide, kT_in (by decide +kernel), rfl, by decide +kernel⟩
theorem cv_X_86 : kCv "DynamicNeeds" 86 y_A_forget b_A_forget 1 none 0 0 := ⟨R_A, T_A, 13, rfl, rfl, kT_in (by decide +kernel), kT_in (by decide +kernel), kT_in (by decide +kernel), kT_in (by decide +kernel), kT_in ⟨List.mem_of_getElem? (i := 249) (by decide +kernel), by decide +kernel⟩, by decide, by decide, by decide +kernel⟩
theorem fp_X_89 : kFp "DynamicNeeds" 89 1 2 (.int) := ⟨R_F, T_F, 3, t_F, rfl, fun w h => kT_in (i_F w h), t_F_ok, n_F, by decide, kT_in (by decide +kernel), rfl, by decide +kernel⟩
theorem fl_A_31 : kFl "DynamicNeeds$Action" 31 0 5 := ⟨R_A, T_A, 13, rfl, fun w h => kT_in (i_A w h), by decide, kT_in (by decide +kernel)⟩
theorem fp_A_63 : kFp "DynamicNeeds$Action" 63 3 4 (.int) := ⟨R_N, T_N, 5, t_N, rfl, fun w h => kT_in (i_N w h), t_N_ok, n_N, by decide, kT_in (by decide +kernel), rfl, by decide +kernel⟩
theorem cv_X_92 : kCv "DynamicNeeds" 92 y_X_isRow b_X_isRow 3 (some .boolean) 4 2 := ⟨R_X, T_X, 10, rfl, rfl, kT_in (by decide +kernel), kT_in (by decide +kernel), kT_in (by decide +kernel), kT_in (by decide +kernel), kT_in ⟨List.mem_of_getElem? (i := 257) (by decide +kernel), by decide +kernel⟩, by decide, by decide, by decide +kernel⟩
theorem cv_X_96 : kCv "DynamicNeeds" 96 y_A_addRow b_A_addRow 3 (some .boolean) 0 2 := ⟨R_A, T_A, 13, rfl, rfl, kT_in (by decide +kernel), kT_in (by decide +kernel), kT_in (by decide +kernel), kT_in (by decide +kernel), kT_in ⟨List.mem_of_getElem? (i := 261) (by decide +kernel), by decide +kernel⟩, by decide, by decide, by decide +kernel⟩
theorem fl_A_18 : kFl "DynamicNeeds$Action" 18 0 2 := ⟨R_A, T_A, 13, rfl, fun w h => kT_in (i_A w h), by decide, kT_in (by decide +kernel)⟩
theorem fl_A_9 : kFl "DynamicNeeds$Action" 9 0 0 := ⟨R_A, T_A, 13, rfl, fun w h => kT_in (i_A w h), by decide, kT_in (by decide +kernel)⟩
theorem fl_A_15 : kFl "DynamicNeeds$Action" 15 0 1 := ⟨R_A, T_A, 13, rfl, fun w h => kT_in (i_A w h), by decide, kT_in (by decide +kernel)⟩
theorem cv_A_58 : kCv "DynamicNeeds$Action" 58 y_A_forget b_A_forget 1 none 0 0 := ⟨R_A, T_A, 13, rfl, rfl, kT_in (by decide +kernel), kT_in (by decide +kernel), kT_in (by decide +kernel), kT_in (by decide +kernel), kT_in ⟨List.mem_of_getElem? (i := 249) (by decide +kernel), by decide +kernel⟩, by decide, by decide, by decide +kernel⟩
theorem cv_X_99 : kCv "DynamicNeeds" 99 y_X_runOnce b_X_runOnce 4 (some .int) 4 1 := ⟨R_X, T_X, 10, rfl, rfl, kT_in (by decide +kernel), kT_in (by decide +kernel), kT_in (by decide +kernel), kT_in (by decide +kernel), kT_in ⟨List.mem_of_getElem? (i := 270) (by decide +kernel), by decide +kernel⟩, by decide, by decide, by decide +kernel⟩
theorem cv_X_109 : kCv "DynamicNeeds" 109 y_X_freshActions b_X_freshActions 5 (some .int) 4 0 := ⟨R_X, T_X, 10, rfl, rfl, kT_in (by decide +kernel), kT_in (by decide +kernel), kT_in (by decide +kernel), kT_in (by decide +kernel), kT_in ⟨List.mem_of_getElem? (i := 274) (by decide +kernel), by decide +kernel⟩, by decide, by decide, by decide +kernel⟩
theorem fp_X_103 : kFp "DynamicNeeds" 103 0 9 (.int) := ⟨R_A, T_A, 13, t_A, rfl, fun w h => kT_in (i_A w h), t_A_ok, n_A, by decide, kT_in (by decide +kernel), rfl, by decide +kernel⟩
theorem cs_X_113 : kCs "DynamicNeeds" 113 y_X_hasBit b_X_hasBit 2 (some .boolean) 2 := ⟨kT_in (by decide +kernel), kT_in (by decide +kernel), kT_in (by decide +kernel), kT_in ⟨List.mem_of_getElem? (i := 288) (by decide +kernel), by decide +kernel⟩, by decide, by decide, by decide +kernel⟩
theorem fl_X_136 : kFl "DynamicNeeds" 136 0 10 := ⟨R_A, T_A, 13, rfl, fun w h => kT_in (i_A w h), by decide, kT_in (by decide +kernel)⟩
theorem fp_X_136 : kFp "DynamicNeeds" 136 0 10 (.int) := ⟨R_A, T_A, 13, t_A, rfl, fun w h => kT_in (i_A w h), t_A_ok, n_A, by decide, kT_in (by decide +kernel), rfl, by decide +kernel⟩
theorem fl_X_173 : kFl "DynamicNeeds" 173 0 7 := ⟨R_A, T_A, 13, rfl, fun w h => kT_in (i_A w h), by decide, kT_in (by decide +kernel)⟩
theorem fl_X_142 : kFl "DynamicNeeds" 142 0 12 := ⟨R_A, T_A, 13, rfl, fun w h => kT_in (i_A w h), by decide, kT_in (by decide +kernel)⟩
theorem fl_X_56 : kFl "DynamicNeeds" 56 4 0 := ⟨R_X, T_X, 10, rfl, fun w h => kT_in (i_X w h), by decide, kT_in (by decide +kernel)⟩
theorem fp_X_142 : kFp "DynamicNeeds" 142 0 12 (.int) := ⟨R_A, T_A, 13, t_A, rfl, fun w h => kT_in (i_A w h), t_A_ok, n_A, by decide, kT_in (by decide +kernel), rfl, by decide +kernel⟩
theorem cv_X_176 : kCv "DynamicNeeds" 176 y_X_tryOnce b_X_tryOnce 4 (some .int) 4 2 := ⟨R_X, T_X, 10, rfl, rfl, kT_in (by decide +kernel), kT_in (by decide +kernel), kT_in (by decide +kernel), kT_in (by decide +kernel), kT_in ⟨List.mem_of_getElem? (i := 292) (by decide +kernel), by decide +kernel⟩, by decide, by decide, by decide +kernel⟩
theorem cv_X_214 : kCv "DynamicNeeds" 214 y_X_holds b_X_holds 6 (some .boolean) 4 2 := ⟨R_X, T_X, 10, rfl, rfl, kT_in (by decide +kernel), kT_in (by decide +kernel), kT_in (by decide +kernel), kT_in (by decide +kernel), kT_in ⟨List.mem_of_getElem? (i := 278) (by decide +kernel), by decide +kernel⟩, by decide, by decide, by decide +kernel⟩
theorem fl_X_116 : kFl "DynamicNeeds" 116 0 6 := ⟨R_A, T_A, 13, rfl, fun w h => kT_in (i_A w h), by decide, kT_in (by decide +kernel)⟩
theorem fl_X_120 : kFl "DynamicNeeds" 120 0 5 := ⟨R_A, T_A, 13, rfl, fun w h => kT_in (i_A w h), by decide, kT_in (by decide +kernel)⟩
theorem fl_X_218 : kFl "DynamicNeeds" 218 3 4 := ⟨R_N, T_N, 5, rfl, fun w h => kT_in (i_N w h), by decide, kT_in (by decide +kernel)⟩
theorem fl_X_221 : kFl "DynamicNeeds" 221 3 0 := ⟨R_N, T_N, 5, rfl, fun w h => kT_in (i_N w h), by decide, kT_in (by decide +kernel)⟩
theorem cv_X_224 : kCv "DynamicNeeds" 224 y_N_isLike b_N_isLike 3 (some .boolean) 3 2 := ⟨R_N, T_N, 5, rfl, rfl, kT_in (by decide +kernel), kT_in (by decide +kernel), kT_in (by decide +kernel), kT_in (by decide +kernel), kT_in ⟨List.mem_of_getElem? (i := 282) (by decide +kernel), by decide +kernel⟩, by decide, by decide, by decide +kernel⟩
theorem cs_X_161 : kCs "DynamicNeeds" 161 y_X_isFresh b_X_isFresh 2 (some .boolean) 2 := ⟨kT_in (by decide +kernel), kT_in (by decide +kernel), kT_in (by decide +kernel), kT_in ⟨List.mem_of_getElem? (i := 285) (by decide +kernel), by decide +kernel⟩, by decide, by decide, by decide +kernel⟩
theorem fl_N_15 : kFl "DynamicNeeds$Notes" 15 3 1 := ⟨R_N, T_N, 5, rfl, fun w h => kT_in (i_N w h), by decide, kT_in (by decide +kernel)⟩
theorem fl_N_34 : kFl "DynamicNeeds$Notes" 34 1 0 := ⟨R_F, T_F, 3, rfl, fun w h => kT_in (i_F w h), by decide, kT_in (by decide +kernel)⟩
theorem fl_N_19 : kFl "DynamicNeeds$Notes" 19 3 2 := ⟨R_N, T_N, 5, rfl, fun w h => kT_in (i_N w h), by decide, kT_in (by decide +kernel)⟩
theorem fl_N_22 : kFl "DynamicNeeds$Notes" 22 3 3 := ⟨R_N, T_N, 5, rfl, fun w h => kT_in (i_N w h), by decide, kT_in (by decide +kernel)⟩
theorem fl_N_39 : kFl "DynamicNeeds$Notes" 39 1 1 := ⟨R_F, T_F, 3, rfl, fun w h => kT_in (i_F w h), by decide, kT_in (by decide +kernel)⟩
theorem fl_X_89 : kFl "DynamicNeeds" 89 1 2 := ⟨R_F, T_F, 3, rfl, fun w h => kT_in (i_F w h), by decide, kT_in (by decide +kernel)⟩
theorem fl_X_139 : kFl "DynamicNeeds" 139 0 11 := ⟨R_A, T_A, 13, rfl, fun w h => kT_in (i_A w h), by decide, kT_in (by decide +kernel)⟩
theorem fp_X_139 : kFp "DynamicNeeds" 139 0 11 (.int) := ⟨R_A, T_A, 13, t_A, rfl, fun w h => kT_in (i_A w h), t_A_ok, n_A, by decide, kT_in (by decide +kernel), rfl, by decide +kernel⟩
theorem cv_X_180 : kCv "DynamicNeeds" 180 y_X_goThroughRows b_X_goThroughRows 9 (some .int) 4 2 := ⟨R_X, T_X, 10, rfl, rfl, kT_in (by decide +kernel), kT_in (by decide +kernel), kT_in (by decide +kernel), kT_in (by decide +kernel), kT_in ⟨List.mem_of_getElem? (i := 296) (by decide +kernel), by decide +kernel⟩, by decide, by decide, by decide +kernel⟩
theorem cv_X_183 : kCv "DynamicNeeds" 183 y_X_keep b_X_keep 3 none 4 2 := ⟨R_X, T_X, 10, rfl, rfl, kT_in (by decide +kernel), kT_in (by decide +kernel), kT_in (by decide +kernel), kT_in (by decide +kernel), kT_in ⟨List.mem_of_getElem? (i := 319) (by decide +kernel), by decide +kernel⟩, by decide, by decide, by decide +kernel⟩
theorem fp_X_187 : kFp "DynamicNeeds" 187 0 8 (.long) := ⟨R_A, T_A, 13, t_A, rfl, fun w h => kT_in (i_A w h), t_A_ok, n_A, by decide, kT_in (by decide +kernel), rfl, by decide +kernel⟩
theorem fl_X_192 : kFl "DynamicNeeds" 192 0 2 := ⟨R_A, T_A, 13, rfl, fun w h => kT_in (i_A w h), by decide, kT_in (by decide +kernel)⟩
theorem fl_X_195 : kFl "DynamicNeeds" 195 0 0 := ⟨R_A, T_A, 13, rfl, fun w h => kT_in (i_A w h), by decide, kT_in (by decide +kernel)⟩
theorem fl_X_198 : kFl "DynamicNeeds" 198 0 1 := ⟨R_A, T_A, 13, rfl, fun w h => kT_in (i_A w h), by decide, kT_in (by decide +kernel)⟩
theorem cv_X_201 : kCv "DynamicNeeds" 201 y_X_lookAt b_X_lookAt 6 (some .int) 4 4 := ⟨R_X, T_X, 10, rfl, rfl, kT_in (by decide +kernel), kT_in (by decide +kernel), kT_in (by decide +kernel), kT_in (by decide +kernel), kT_in ⟨List.mem_of_getElem? (i := 301) (by decide +kernel), by decide +kernel⟩, by decide, by decide, by decide +kernel⟩
theorem fl_X_132 : kFl "DynamicNeeds" 132 1 1 := ⟨R_F, T_F, 3, rfl, fun w h => kT_in (i_F w h), by decide, kT_in (by decide +kernel)⟩
theorem fl_X_77 : kFl "DynamicNeeds" 77 0 3 := ⟨R_A, T_A, 13, rfl, fun w h => kT_in (i_A w h), by decide, kT_in (by decide +kernel)⟩
theorem cv_X_205 : kCv "DynamicNeeds" 205 y_N_add b_N_add 5 none 3 3 := ⟨R_N, T_N, 5, rfl, rfl, kT_in (by decide +kernel), kT_in (by decide +kernel), kT_in (by decide +kernel), kT_in (by decide +kernel), kT_in ⟨List.mem_of_getElem? (i := 305) (by decide +kernel), by decide +kernel⟩, by decide, by decide, by decide +kernel⟩
theorem fl_X_158 : kFl "DynamicNeeds" 158 1 0 := ⟨R_F, T_F, 3, rfl, fun w h => kT_in (i_F w h), by decide, kT_in (by decide +kernel)⟩
theorem cv_X_209 : kCv "DynamicNeeds" 209 y_A_addToSum b_A_addToSum 3 none 0 1 := ⟨R_A, T_A, 13, rfl, rfl, kT_in (by decide +kernel), kT_in (by decide +kernel), kT_in (by decide +kernel), kT_in (by decide +kernel), kT_in ⟨List.mem_of_getElem? (i := 313) (by decide +kernel), by decide +kernel⟩, by decide, by decide, by decide +kernel⟩
theorem cv_N_30 : kCv "DynamicNeeds$Notes" 30 y_N_placeOf b_N_placeOf 3 (some .int) 3 1 := ⟨R_N, T_N, 5, rfl, rfl, kT_in (by decide +kernel), kT_in (by decide +kernel), kT_in (by decide +kernel), kT_in (by decide +kernel), kT_in ⟨List.mem_of_getElem? (i := 309) (by decide +kernel), by decide +kernel⟩, by decide, by decide, by decide +kernel⟩
theorem fl_N_26 : kFl "DynamicNeeds$Notes" 26 3 4 := ⟨R_N, T_N, 5, rfl, fun w h => kT_in (i_N w h), by decide, kT_in (by decide +kernel)⟩
theorem fl_N_9 : kFl "DynamicNeeds$Notes" 9 3 0 := ⟨R_N, T_N, 5, rfl, fun w h => kT_in (i_N w h), by decide, kT_in (by decide +kernel)⟩
theorem fl_A_42 : kFl "DynamicNeeds$Action" 42 0 8 := ⟨R_A, T_A, 13, rfl, fun w h => kT_in (i_A w h), by decide, kT_in (by decide +kernel)⟩
theorem fp_X_116 : kFp "DynamicNeeds" 116 0 6 (.boolean) := ⟨R_A, T_A, 13, t_A, rfl, fun w h => kT_in (i_A w h), t_A_ok, n_A, by decide, kT_in (by decide +kernel), rfl, by decide +kernel⟩
theorem fp_X_173 : kFp "DynamicNeeds" 173 0 7 (.int) := ⟨R_A, T_A, 13, t_A, rfl, fun w h => kT_in (i_A w h), t_A_ok, n_A, by decide, kT_in (by decide +kernel), rfl, by decide +kernel⟩
theorem fl_X_187 : kFl "DynamicNeeds" 187 0 8 := ⟨R_A, T_A, 13, rfl, fun w h => kT_in (i_A w h), by decide, kT_in (by decide +kernel)⟩
theorem fl_X_37 : kFl "DynamicNeeds" 37 4 7 := ⟨R_X, T_X, 10, rfl, fun w h => kT_in (i_X w h), by decide, kT_in (by decide +kernel)⟩
theorem fl_X_103 : kFl "DynamicNeeds" 103 0 9 := ⟨R_A, T_A, 13, rfl, fun w h => kT_in (i_A w h), by decide, kT_in (by decide +kernel)⟩
theorem cv_X_106 : kCv "DynamicNeeds" 106 y_X_tellRing b_X_tellRing 4 (some .boolean) 4 2 := ⟨R_X, T_X, 10, rfl, rfl, kT_in (by decide +kernel), kT_in (by decide +kernel), kT_in (by decide +kernel), kT_in (by decide +kernel), kT_in ⟨List.mem_of_getElem? (i := 327) (by decide +kernel), by decide +kernel⟩, by decide, by decide, by decide +kernel⟩
theorem fl_X_44 : kFl "DynamicNeeds" 44 4 9 := ⟨R_X, T_X, 10, rfl, fun w h => kT_in (i_X w h), by decide, kT_in (by decide +kernel)⟩
theorem fl_X_41 : kFl "DynamicNeeds" 41 4 8 := ⟨R_X, T_X, 10, rfl, fun w h => kT_in (i_X w h), by decide, kT_in (by decide +kernel)⟩
theorem cv_X_124 : kCv "DynamicNeeds" 124 y_N_tell b_N_tell 3 (some .int) 3 2 := ⟨R_N, T_N, 5, rfl, rfl, kT_in (by decide +kernel), kT_in (by decide +kernel), kT_in (by decide +kernel), kT_in (by decide +kernel), kT_in ⟨List.mem_of_getElem? (i := 347) (by decide +kernel), by decide +kernel⟩, by decide, by decide, by decide +kernel⟩
theorem cv_X_129 : kCv "DynamicNeeds" 129 y_N_fileBits b_N_fileBits 3 (some .int) 3 0 := ⟨R_N, T_N, 5, rfl, rfl, kT_in (by decide +kernel), kT_in (by decide +kernel), kT_in (by decide +kernel), kT_in (by decide +kernel), kT_in ⟨List.mem_of_getElem? (i := 355) (by decide +kernel), by decide +kernel⟩, by decide, by decide, by decide +kernel⟩
theorem cs_X_145 : kCs "DynamicNeeds" 145 y_X_treeSize b_X_treeSize 1 (some .int) 1 := ⟨kT_in (by decide +kernel), kT_in (by decide +kernel), kT_in (by decide +kernel), kT_in ⟨List.mem_of_getElem? (i := 370) (by decide +kernel), by decide +kernel⟩, by decide, by decide, by decide +kernel⟩
theorem cs_X_230 : kCs "DynamicNeeds" 230 y_J_floorMod b_J_floorMod 6 (some .long) 2 := ⟨kT_in (by decide +kernel), kT_in (by decide +kernel), kT_in (by decide +kernel), kT_in ⟨List.mem_of_getElem? (i := 374) (by decide +kernel), by decide +kernel⟩, by decide, by decide, by decide +kernel⟩
theorem fl_X_34 : kFl "DynamicNeeds" 34 4 6 := ⟨R_X, T_X, 10, rfl, fun w h => kT_in (i_X w h), by decide, kT_in (by decide +kernel)⟩
theorem fp_X_149 : kFp "DynamicNeeds" 149 2 0 (.int) := ⟨R_G, T_G, 4, t_G, rfl, fun w h => kT_in (i_G w h), t_G_ok, n_G, by decide, kT_in (by decide +kernel), rfl, by decide +kernel⟩
theorem fp_X_152 : kFp "DynamicNeeds" 152 2 1 (.long) := ⟨R_G, T_G, 4, t_G, rfl, fun w h => kT_in (i_G w h), t_G_ok, n_G, by decide, kT_in (by decide +kernel), rfl, by decide +kernel⟩
theorem cv_X_155 : kCv "DynamicNeeds" 155 y_X_isMapping b_X_isMapping 2 (some .boolean) 4 1 := ⟨R_X, T_X, 10, rfl, rfl, kT_in (by decide +kernel), kT_in (by decide +kernel), kT_in (by decide +kernel), kT_in (by decide +kernel), kT_in ⟨List.mem_of_getElem? (i := 386) (by decide +kernel), by decide +kernel⟩, by decide, by decide, by decide +kernel⟩
theorem fl_X_149 : kFl "DynamicNeeds" 149 2 0 := ⟨R_G, T_G, 4, rfl, fun w h => kT_in (i_G w h), by decide, kT_in (by decide +kernel)⟩
theorem cv_X_165 : kCv "DynamicNeeds" 165 y_G_take b_G_take 6 (some .int) 2 2 := ⟨R_G, T_G, 4, rfl, rfl, kT_in (by decide +kernel), kT_in (by decide +kernel), kT_in (by decide +kernel), kT_in (by decide +kernel), kT_in ⟨List.mem_of_getElem? (i := 390) (by decide +kernel), by decide +kernel⟩, by decide, by decide, by decide +kernel⟩
theorem cv_G_29 : kCv "DynamicNeeds$Mapping" 29 y_G_hasMember b_G_hasMember 4 (some .boolean) 2 1 := ⟨R_G, T_G, 4, rfl, rfl, kT_in (by decide +kernel), kT_in (by decide +kernel), kT_in (by decide +kernel), kT_in (by decide +kernel), kT_in ⟨List.mem_of_getElem? (i := 398) (by decide +kernel), by decide +kernel⟩, by decide, by decide, by decide +kernel⟩
theorem fl_G_22 : kFl "DynamicNeeds$Mapping" 22 2 3 := ⟨R_G, T_G, 4, rfl, fun w h => kT_in (i_G w h), by decide, kT_in (by decide +kernel)⟩
theorem fl_G_19 : kFl "DynamicNeeds$Mapping" 19 2 2 := ⟨R_G, T_G, 4, rfl, fun w h => kT_in (i_G w h), by decide, kT_in (by decide +kernel)⟩
theorem cv_X_169 : kCv "DynamicNeeds" 169 y_G_resultOf b_G_resultOf 2 (some .long) 2 1 := ⟨R_G, T_G, 4, rfl, rfl, kT_in (by decide +kernel), kT_in (by decide +kernel), kT_in (by decide +kernel), kT_in (by decide +kernel), kT_in ⟨List.mem_of_getElem? (i := 406) (by decide +kernel), by decide +kernel⟩, by decide, by decide, by decide +kernel⟩
theorem fl_G_15 : kFl "DynamicNeeds$Mapping" 15 2 1 := ⟨R_G, T_G, 4, rfl, fun w h => kT_in (i_G w h), by decide, kT_in (by decide +kernel)⟩
theorem fp_M_94 : kFp "DynamicNeedsModel" 94 5 1 (.int) := ⟨R_M, T_M, 34, t_M, rfl, fun w h => kT_in (i_M w h), t_M_ok, n_M, by decide, kT_in (by decide +kernel), rfl, by decide +kernel⟩
theorem fl_M_97 : kFl "DynamicNeedsModel" 97 5 2 := ⟨R_M, T_M, 34, rfl, fun w h => kT_in (i_M w h), by decide, kT_in (by decide +kernel)⟩
theorem fl_M_7 : kFl "DynamicNeedsModel" 7 5 5 := ⟨R_M, T_M, 34, rfl, fun w h => kT_in (i_M w h), by decide, kT_in (by decide +kernel)⟩
theorem fl_M_13 : kFl "DynamicNeedsModel" 13 5 6 := ⟨R_M, T_M, 34, rfl, fun w h => kT_in (i_M w h), by decide, kT_in (by decide +kernel)⟩
theorem fl_M_17 : kFl "DynamicNeedsModel" 17 5 7 := ⟨R_M, T_M, 34, rfl, fun w h => kT_in (i_M w h), by decide, kT_in (by decide +kernel)⟩
theorem fp_M_97 : kFp "DynamicNeedsModel" 97 5 2 (.int) := ⟨R_M, T_M, 34, t_M, rfl, fun w h => kT_in (i_M w h), t_M_ok, n_M, by decide, kT_in (by decide +kernel), rfl, by decide +kernel⟩
theorem cv_M_103 : kCv "DynamicNeedsModel" 103 y_M_isFile b_M_isFile 2 (some .boolean) 5 1 := ⟨R_M, T_M, 34, rfl, rfl, kT_in (by decide +kernel), kT_in (by decide +kernel), kT_in (by decide +kernel), kT_in (by decide +kernel), kT_in ⟨List.mem_of_getElem? (i := 531) (by decide +kernel), by decide +kernel⟩, by decide, by decide, by decide +kernel⟩
theorem fl_M_100 : kFl "DynamicNeedsModel" 100 5 3 := ⟨R_M, T_M, 34, rfl, fun w h => kT_in (i_M w h), by decide, kT_in (by decide +kernel)⟩
theorem fl_M_21 : kFl "DynamicNeedsModel" 21 5 8 := ⟨R_M, T_M, 34, rfl, fun w h => kT_in (i_M w h), by decide, kT_in (by decide +kernel)⟩
theorem fl_M_24 : kFl "DynamicNeedsModel" 24 5 9 := ⟨R_M, T_M, 34, rfl, fun w h => kT_in (i_M w h), by decide, kT_in (by decide +kernel)⟩
theorem fl_M_36 : kFl "DynamicNeedsModel" 36 5 13 := ⟨R_M, T_M, 34, rfl, fun w h => kT_in (i_M w h), by decide, kT_in (by decide +kernel)⟩
theorem fl_M_54 : kFl "DynamicNeedsModel" 54 5 19 := ⟨R_M, T_M, 34, rfl, fun w h => kT_in (i_M w h), by decide, kT_in (by decide +kernel)⟩
theorem fp_M_100 : kFp "DynamicNeedsModel" 100 5 3 (.int) := ⟨R_M, T_M, 34, t_M, rfl, fun w h => kT_in (i_M w h), t_M_ok, n_M, by decide, kT_in (by decide +kernel), rfl, by decide +kernel⟩
theorem cv_M_107 : kCv "DynamicNeedsModel" 107 y_M_isAction b_M_isAction 2 (some .boolean) 5 1 := ⟨R_M, T_M, 34, rfl, rfl, kT_in (by decide +kernel), kT_in (by decide +kernel), kT_in (by decide +kernel), kT_in (by decide +kernel), kT_in ⟨List.mem_of_getElem? (i := 543) (by decide +kernel), by decide +kernel⟩, by decide, by decide, by decide +kernel⟩
theorem cv_M_110 : kCv "DynamicNeedsModel" 110 y_M_forget b_M_forget 2 none 5 1 := ⟨R_M, T_M, 34, rfl, rfl, kT_in (by decide +kernel), kT_in (by decide +kernel), kT_in (by decide +kernel), kT_in (by decide +kernel), kT_in ⟨List.mem_of_getElem? (i := 547) (by decide +kernel), by decide +kernel⟩, by decide, by decide, by decide +kernel⟩
theorem fl_M_39 : kFl "DynamicNeedsModel" 39 5 14 := ⟨R_M, T_M, 34, rfl, fun w h => kT_in (i_M w h), by decide, kT_in (by decide +kernel)⟩
theorem fl_M_27 : kFl "DynamicNeedsModel" 27 5 10 := ⟨R_M, T_M, 34, rfl, fun w h => kT_in (i_M w h), by decide, kT_in (by decide +kernel)⟩
theorem fl_M_30 : kFl "DynamicNeedsModel" 30 5 11 := ⟨R_M, T_M, 34, rfl, fun w h => kT_in (i_M w h), by decide, kT_in (by decide +kernel)⟩
theorem fl_M_33 : kFl "DynamicNeedsModel" 33 5 12 := ⟨R_M, T_M, 34, rfl, fun w h => kT_in (i_M w h), by decide, kT_in (by decide +kernel)⟩
theorem cv_M_148 : kCv "DynamicNeedsModel" 148 y_M_runOne b_M_runOne 4 (some .int) 5 1 := ⟨R_M, T_M, 34, rfl, rfl, kT_in (by decide +kernel), kT_in (by decide +kernel), kT_in (by decide +kernel), kT_in (by decide +kernel), kT_in ⟨List.mem_of_getElem? (i := 559) (by decide +kernel), by decide +kernel⟩, by decide, by decide, by decide +kernel⟩
theorem cv_M_141 : kCv "DynamicNeedsModel" 141 y_M_isFreshNow b_M_isFreshNow 2 (some .boolean) 5 1 := ⟨R_M, T_M, 34, rfl, rfl, kT_in (by decide +kernel), kT_in (by decide +kernel), kT_in (by decide +kernel), kT_in (by decide +kernel), kT_in ⟨List.mem_of_getElem? (i := 563) (by decide +kernel), by decide +kernel⟩, by decide, by decide, by decide +kernel⟩
theorem fl_M_45 : kFl "DynamicNeedsModel" 45 5 16 := ⟨R_M, T_M, 34, rfl, fun w h => kT_in (i_M w h), by decide, kT_in (by decide +kernel)⟩
theorem fl_M_51 : kFl "DynamicNeedsModel" 51 5 18 := ⟨R_M, T_M, 34, rfl, fun w h => kT_in (i_M w h), by decide, kT_in (by decide +kernel)⟩
theorem fl_M_90 : kFl "DynamicNeedsModel" 90 5 0 := ⟨R_M, T_M, 34, rfl, fun w h => kT_in (i_M w h), by decide, kT_in (by decide +kernel)⟩
theorem fl_M_48 : kFl "DynamicNeedsModel" 48 5 17 := ⟨R_M, T_M, 34, rfl, fun w h => kT_in (i_M w h), by decide, kT_in (by decide +kernel)⟩
theorem cv_M_144 : kCv "DynamicNeedsModel" 144 y_M_tryRows b_M_tryRows 6 (some .int) 5 1 := ⟨R_M, T_M, 34, rfl, rfl, kT_in (by decide +kernel), kT_in (by decide +kernel), kT_in (by decide +kernel), kT_in (by decide +kernel), kT_in ⟨List.mem_of_getElem? (i := 575) (by decide +kernel), by decide +kernel⟩, by decide, by decide, by decide +kernel⟩
theorem fl_M_130 : kFl "DynamicNeedsModel" 130 5 32 := ⟨R_M, T_M, 34, rfl, fun w h => kT_in (i_M w h), by decide, kT_in (by decide +kernel)⟩
theorem cv_M_117 : kCv "DynamicNeedsModel" 117 y_M_freshen b_M_freshen 3 none 5 0 := ⟨R_M, T_M, 34, rfl, rfl, kT_in (by decide +kernel), kT_in (by decide +kernel), kT_in (by decide +kernel), kT_in (by decide +kernel), kT_in ⟨List.mem_of_getElem? (i := 567) (by decide +kernel), by decide +kernel⟩, by decide, by decide, by decide +kernel⟩
theorem fl_M_63 : kFl "DynamicNeedsModel" 63 5 22 := ⟨R_M, T_M, 34, rfl, fun w h => kT_in (i_M w h), by decide, kT_in (by decide +kernel)⟩
theorem cv_M_114 : kCv "DynamicNeedsModel" 114 y_M_isSo b_M_isSo 6 (some .boolean) 5 1 := ⟨R_M, T_M, 34, rfl, rfl, kT_in (by decide +kernel), kT_in (by decide +kernel), kT_in (by decide +kernel), kT_in (by decide +kernel), kT_in ⟨List.mem_of_getElem? (i := 571) (by decide +kernel), by decide +kernel⟩, by decide, by decide, by decide +kernel⟩
theorem fl_M_42 : kFl "DynamicNeedsModel" 42 5 15 := ⟨R_M, T_M, 34, rfl, fun w h => kT_in (i_M w h), by decide, kT_in (by decide +kernel)⟩
theorem fl_M_57 : kFl "DynamicNeedsModel" 57 5 20 := ⟨R_M, T_M, 34, rfl, fun w h => kT_in (i_M w h), by decide, kT_in (by decide +kernel)⟩
theorem fl_M_60 : kFl "DynamicNeedsModel" 60 5 21 := ⟨R_M, T_M, 34, rfl, fun w h => kT_in (i_M w h), by decide, kT_in (by decide +kernel)⟩
theorem fl_M_66 : kFl "DynamicNeedsModel" 66 5 23 := ⟨R_M, T_M, 34, rfl, fun w h => kT_in (i_M w h), by decide, kT_in (by decide +kernel)⟩
theorem fp_M_130 : kFp "DynamicNeedsModel" 130 5 32 (.long) := ⟨R_M, T_M, 34, t_M, rfl, fun w h => kT_in (i_M w h), t_M_ok, n_M, by decide, kT_in (by decide +kernel), rfl, by decide +kernel⟩
theorem fp_M_124 : kFp "DynamicNeedsModel" 124 5 33 (.long) := ⟨R_M, T_M, 34, t_M, rfl, fun w h => kT_in (i_M w h), t_M_ok, n_M, by decide, kT_in (by decide +kernel), rfl, by decide +kernel⟩
theorem fl_M_124 : kFl "DynamicNeedsModel" 124 5 33 := ⟨R_M, T_M, 34, rfl, fun w h => kT_in (i_M w h), by decide, kT_in (by decide +kernel)⟩
theorem cv_M_137 : kCv "DynamicNeedsModel" 137 y_M_look b_M_look 4 (some .int) 5 3 := ⟨R_M, T_M, 34, rfl, rfl, kT_in (by decide +kernel), kT_in (by decide +kernel), kT_in (by decide +kernel), kT_in (by decide +kernel), kT_in ⟨List.mem_of_getElem? (i := 580) (by decide +kernel), by decide +kernel⟩, by decide, by decide, by decide +kernel⟩
theorem cv_M_120 : kCv "DynamicNeedsModel" 120 y_M_note b_M_note 6 none 5 3 := ⟨R_M, T_M, 34, rfl, rfl, kT_in (by decide +kernel), kT_in (by decide +kernel), kT_in (by decide +kernel), kT_in (by decide +kernel), kT_in ⟨List.mem_of_getElem? (i := 584) (by decide +kernel), by decide +kernel⟩, by decide, by decide, by decide +kernel⟩
theorem fp_M_151 : kFp "DynamicNeedsModel" 151 5 26 (.int) := ⟨R_M, T_M, 34, t_M, rfl, fun w h => kT_in (i_M w h), t_M_ok, n_M, by decide, kT_in (by decide +kernel), rfl, by decide +kernel⟩
theorem fl_M_72 : kFl "DynamicNeedsModel" 72 5 25 := ⟨R_M, T_M, 34, rfl, fun w h => kT_in (i_M w h), by decide, kT_in (by decide +kernel)⟩
theorem cv_M_154 : kCv "DynamicNeedsModel" 154 y_M_tellRing b_M_tellRing 4 (some .int) 5 2 := ⟨R_M, T_M, 34, rfl, rfl, kT_in (by decide +kernel), kT_in (by decide +kernel), kT_in (by decide +kernel), kT_in (by decide +kernel), kT_in ⟨List.mem_of_getElem? (i := 594) (by decide +kernel), by decide +kernel⟩, by decide, by decide, by decide +kernel⟩
theorem fl_M_69 : kFl "DynamicNeedsModel" 69 5 24 := ⟨R_M, T_M, 34, rfl, fun w h => kT_in (i_M w h), by decide, kT_in (by decide +kernel)⟩
theorem fl_M_151 : kFl "DynamicNeedsModel" 151 5 26 := ⟨R_M, T_M, 34, rfl, fun w h => kT_in (i_M w h), by decide, kT_in (by decide +kernel)⟩
theorem cv_M_160 : kCv "DynamicNeedsModel" 160 y_M_membersOf b_M_membersOf 3 (some .int) 5 1 := ⟨R_M, T_M, 34, rfl, rfl, kT_in (by decide +kernel), kT_in (by decide +kernel), kT_in (by decide +kernel), kT_in (by decide +kernel), kT_in ⟨List.mem_of_getElem? (i := 630) (by decide +kernel), by decide +kernel⟩, by decide, by decide, by decide +kernel⟩
theorem fl_M_163 : kFl "DynamicNeedsModel" 163 5 4 := ⟨R_M, T_M, 34, rfl, fun w h => kT_in (i_M w h), by decide, kT_in (by decide +kernel)⟩
theorem fl_M_75 : kFl "DynamicNeedsModel" 75 5 27 := ⟨R_M, T_M, 34, rfl, fun w h => kT_in (i_M w h), by decide, kT_in (by decide +kernel)⟩
theorem fl_M_81 : kFl "DynamicNeedsModel" 81 5 29 := ⟨R_M, T_M, 34, rfl, fun w h => kT_in (i_M w h), by decide, kT_in (by decide +kernel)⟩
theorem fp_M_163 : kFp "DynamicNeedsModel" 163 5 4 (.int) := ⟨R_M, T_M, 34, t_M, rfl, fun w h => kT_in (i_M w h), t_M_ok, n_M, by decide, kT_in (by decide +kernel), rfl, by decide +kernel⟩
theorem cs_M_168 : kCs "DynamicNeedsModel" 168 y_M_member b_M_member 3 (some .long) 2 := ⟨kT_in (by decide +kernel), kT_in (by decide +kernel), kT_in (by decide +kernel), kT_in ⟨List.mem_of_getElem? (i := 642) (by decide +kernel), by decide +kernel⟩, by decide, by decide, by decide +kernel⟩
theorem cv_M_172 : kCv "DynamicNeedsModel" 172 y_M_isMapped b_M_isMapped 6 (some .boolean) 5 2 := ⟨R_M, T_M, 34, rfl, rfl, kT_in (by decide +kernel), kT_in (by decide +kernel), kT_in (by decide +kernel), kT_in (by decide +kernel), kT_in ⟨List.mem_of_getElem? (i := 647) (by decide +kernel), by decide +kernel⟩, by decide, by decide, by decide +kernel⟩
theorem fl_M_84 : kFl "DynamicNeedsModel" 84 5 30 := ⟨R_M, T_M, 34, rfl, fun w h => kT_in (i_M w h), by decide, kT_in (by decide +kernel)⟩
theorem fl_M_87 : kFl "DynamicNeedsModel" 87 5 31 := ⟨R_M, T_M, 34, rfl, fun w h => kT_in (i_M w h), by decide, kT_in (by decide +kernel)⟩
theorem fl_M_78 : kFl "DynamicNeedsModel" 78 5 28 := ⟨R_M, T_M, 34, rfl, fun w h => kT_in (i_M w h), by decide, kT_in (by decide +kernel)⟩
theorem cs_L_9 : kCs "DynamicNeedsLaw" 9 y_L_cell b_L_cell 2 (some .int) 2 := ⟨kT_in (by decide +kernel), kT_in (by decide +kernel), kT_in (by decide +kernel), kT_in ⟨List.mem_of_getElem? (i := 410) (by decide +kernel), by decide +kernel⟩, by decide, by decide, by decide +kernel⟩
theorem cv_L_23 : kCv "DynamicNeedsLaw" 23 y_X_file b_X_file 3 (some .int) 4 1 := ⟨R_X, T_X, 10, rfl, rfl, kT_in (by decide +kernel), kT_in (by decide +kernel), kT_in (by decide +kernel), kT_in (by decide +kernel), kT_in ⟨List.mem_of_getElem? (i := 213) (by decide +kernel), by decide +kernel⟩, by decide, by decide, by decide +kernel⟩
theorem cv_L_27 : kCv "DynamicNeedsLaw" 27 y_M_file b_M_file 3 (some .int) 5 1 := ⟨R_M, T_M, 34, rfl, rfl, kT_in (by decide +kernel), kT_in (by decide +kernel), kT_in (by decide +kernel), kT_in (by decide +kernel), kT_in ⟨List.mem_of_getElem? (i := 523) (by decide +kernel), by decide +kernel⟩, by decide, by decide, by decide +kernel⟩
theorem cv_L_28 : kCv "DynamicNeedsLaw" 28 y_X_change b_X_change 5 (some .boolean) 4 3 := ⟨R_X, T_X, 10, rfl, rfl, kT_in (by decide +kernel), kT_in (by decide +kernel), kT_in (by decide +kernel), kT_in (by decide +kernel), kT_in ⟨List.mem_of_getElem? (i := 221) (by decide +kernel), by decide +kernel⟩, by decide, by decide, by decide +kernel⟩
theorem cv_L_32 : kCv "DynamicNeedsLaw" 32 y_M_change b_M_change 5 (some .boolean) 5 3 := ⟨R_M, T_M, 34, rfl, rfl, kT_in (by decide +kernel), kT_in (by decide +kernel), kT_in (by decide +kernel), kT_in (by decide +kernel), kT_in ⟨List.mem_of_getElem? (i := 527) (by decide +kernel), by decide +kernel⟩, by decide, by decide, by decide +kernel⟩
theorem cv_L_33 : kCv "DynamicNeedsLaw" 33 y_X_action b_X_action 2 (some .int) 4 1 := ⟨R_X, T_X, 10, rfl, rfl, kT_in (by decide +kernel), kT_in (by decide +kernel), kT_in (by decide +kernel), kT_in (by decide +kernel), kT_in ⟨List.mem_of_getElem? (i := 237) (by decide +kernel), by decide +kernel⟩, by decide, by decide, by decide +kernel⟩
theorem cv_L_37 : kCv "DynamicNeedsLaw" 37 y_M_action b_M_action 2 (some .int) 5 1 := ⟨R_M, T_M, 34, rfl, rfl, kT_in (by decide +kernel), kT_in (by decide +kernel), kT_in (by decide +kernel), kT_in (by decide +kernel), kT_in ⟨List.mem_of_getElem? (i := 535) (by decide +kernel), by decide +kernel⟩, by decide, by decide, by decide +kernel⟩
theorem cv_L_38 : kCv "DynamicNeedsLaw" 38 y_X_makes b_X_makes 3 (some .boolean) 4 2 := ⟨R_X, T_X, 10, rfl, rfl, kT_in (by decide +kernel), kT_in (by decide +kernel), kT_in (by decide +kernel), kT_in (by decide +kernel), kT_in ⟨List.mem_of_getElem? (i := 241) (by decide +kernel), by decide +kernel⟩, by decide, by decide, by decide +kernel⟩
theorem cv_L_42 : kCv "DynamicNeedsLaw" 42 y_M_makes b_M_makes 3 (some .boolean) 5 2 := ⟨R_M, T_M, 34, rfl, rfl, kT_in (by decide +kernel), kT_in (by decide +kernel), kT_in (by decide +kernel), kT_in (by decide +kernel), kT_in ⟨List.mem_of_getElem? (i := 539) (by decide +kernel), by decide +kernel⟩, by decide, by decide, by decide +kernel⟩
theorem cv_L_43 : kCv "DynamicNeedsLaw" 43 y_X_row b_X_row 4 (some .boolean) 4 3 := ⟨R_X, T_X, 10, rfl, rfl, kT_in (by decide +kernel), kT_in (by decide +kernel), kT_in (by decide +kernel), kT_in (by decide +kernel), kT_in ⟨List.mem_of_getElem? (i := 253) (by decide +kernel), by decide +kernel⟩, by decide, by decide, by decide +kernel⟩
theorem cv_L_47 : kCv "DynamicNeedsLaw" 47 y_M_row b_M_row 5 (some .boolean) 5 3 := ⟨R_M, T_M, 34, rfl, rfl, kT_in (by decide +kernel), kT_in (by decide +kernel), kT_in (by decide +kernel), kT_in (by decide +kernel), kT_in ⟨List.mem_of_getElem? (i := 551) (by decide +kernel), by decide +kernel⟩, by decide, by decide, by decide +kernel⟩
theorem cv_L_48 : kCv "DynamicNeedsLaw" 48 y_X_run b_X_run 2 (some .int) 4 1 := ⟨R_X, T_X, 10, rfl, rfl, kT_in (by decide +kernel), kT_in (by decide +kernel), kT_in (by decide +kernel), kT_in (by decide +kernel), kT_in ⟨List.mem_of_getElem? (i := 266) (by decide +kernel), by decide +kernel⟩, by decide, by decide, by decide +kernel⟩
theorem cv_L_51 : kCv "DynamicNeedsLaw" 51 y_M_run b_M_run 2 (some .int) 5 1 := ⟨R_M, T_M, 34, rfl, rfl, kT_in (by decide +kernel), kT_in (by decide +kernel), kT_in (by decide +kernel), kT_in (by decide +kernel), kT_in ⟨List.mem_of_getElem? (i := 555) (by decide +kernel), by decide +kernel⟩, by decide, by decide, by decide +kernel⟩
theorem cv_L_52 : kCv "DynamicNeedsLaw" 52 y_X_resolve b_X_resolve 7 (some .int) 4 1 := ⟨R_X, T_X, 10, rfl, rfl, kT_in (by decide +kernel), kT_in (by decide +kernel), kT_in (by decide +kernel), kT_in (by decide +kernel), kT_in ⟨List.mem_of_getElem? (i := 323) (by decide +kernel), by decide +kernel⟩, by decide, by decide, by decide +kernel⟩
theorem cv_L_55 : kCv "DynamicNeedsLaw" 55 y_M_resolve b_M_resolve 7 (some .int) 5 1 := ⟨R_M, T_M, 34, rfl, rfl, kT_in (by decide +kernel), kT_in (by decide +kernel), kT_in (by decide +kernel), kT_in (by decide +kernel), kT_in ⟨List.mem_of_getElem? (i := 590) (by decide +kernel), by decide +kernel⟩, by decide, by decide, by decide +kernel⟩
theorem cv_L_56 : kCv "DynamicNeedsLaw" 56 y_X_ring b_X_ring 2 (some .int) 4 1 := ⟨R_X, T_X, 10, rfl, rfl, kT_in (by decide +kernel), kT_in (by decide +kernel), kT_in (by decide +kernel), kT_in (by decide +kernel), kT_in ⟨List.mem_of_getElem? (i := 331) (by decide +kernel), by decide +kernel⟩, by decide, by decide, by decide +kernel⟩
theorem cv_L_59 : kCv "DynamicNeedsLaw" 59 y_M_ring b_M_ring 2 (some .int) 5 1 := ⟨R_M, T_M, 34, rfl, rfl, kT_in (by decide +kernel), kT_in (by decide +kernel), kT_in (by decide +kernel), kT_in (by decide +kernel), kT_in ⟨List.mem_of_getElem? (i := 598) (by decide +kernel), by decide +kernel⟩, by decide, by decide, by decide +kernel⟩
theorem cv_L_60 : kCv "DynamicNeedsLaw" 60 y_X_waits b_X_waits 2 (some .int) 4 1 := ⟨R_X, T_X, 10, rfl, rfl, kT_in (by decide +kernel), kT_in (by decide +kernel), kT_in (by decide +kernel), kT_in (by decide +kernel), kT_in ⟨List.mem_of_getElem? (i := 335) (by decide +kernel), by decide +kernel⟩, by decide, by decide, by decide +kernel⟩
theorem cv_L_63 : kCv "DynamicNeedsLaw" 63 y_M_waits b_M_waits 2 (some .int) 5 1 := ⟨R_M, T_M, 34, rfl, rfl, kT_in (by decide +kernel), kT_in (by decide +kernel), kT_in (by decide +kernel), kT_in (by decide +kernel), kT_in ⟨List.mem_of_getElem? (i := 602) (by decide +kernel), by decide +kernel⟩, by decide, by decide, by decide +kernel⟩
theorem cv_L_64 : kCv "DynamicNeedsLaw" 64 y_X_fresh b_X_fresh 2 (some .boolean) 4 1 := ⟨R_X, T_X, 10, rfl, rfl, kT_in (by decide +kernel), kT_in (by decide +kernel), kT_in (by decide +kernel), kT_in (by decide +kernel), kT_in ⟨List.mem_of_getElem? (i := 339) (by decide +kernel), by decide +kernel⟩, by decide, by decide, by decide +kernel⟩
theorem cv_L_68 : kCv "DynamicNeedsLaw" 68 y_M_fresh b_M_fresh 2 (some .boolean) 5 1 := ⟨R_M, T_M, 34, rfl, rfl, kT_in (by decide +kernel), kT_in (by decide +kernel), kT_in (by decide +kernel), kT_in (by decide +kernel), kT_in ⟨List.mem_of_getElem? (i := 606) (by decide +kernel), by decide +kernel⟩, by decide, by decide, by decide +kernel⟩
theorem cv_L_69 : kCv "DynamicNeedsLaw" 69 y_X_kept b_X_kept 4 (some .int) 4 3 := ⟨R_X, T_X, 10, rfl, rfl, kT_in (by decide +kernel), kT_in (by decide +kernel), kT_in (by decide +kernel), kT_in (by decide +kernel), kT_in ⟨List.mem_of_getElem? (i := 343) (by decide +kernel), by decide +kernel⟩, by decide, by decide, by decide +kernel⟩
theorem cv_L_73 : kCv "DynamicNeedsLaw" 73 y_M_kept b_M_kept 5 (some .int) 5 3 := ⟨R_M, T_M, 34, rfl, rfl, kT_in (by decide +kernel), kT_in (by decide +kernel), kT_in (by decide +kernel), kT_in (by decide +kernel), kT_in ⟨List.mem_of_getElem? (i := 610) (by decide +kernel), by decide +kernel⟩, by decide, by decide, by decide +kernel⟩
theorem cv_L_74 : kCv "DynamicNeedsLaw" 74 y_X_unused b_X_unused 3 (some .int) 4 1 := ⟨R_X, T_X, 10, rfl, rfl, kT_in (by decide +kernel), kT_in (by decide +kernel), kT_in (by decide +kernel), kT_in (by decide +kernel), kT_in ⟨List.mem_of_getElem? (i := 351) (by decide +kernel), by decide +kernel⟩, by decide, by decide, by decide +kernel⟩
theorem cv_L_77 : kCv "DynamicNeedsLaw" 77 y_M_unused b_M_unused 4 (some .int) 5 1 := ⟨R_M, T_M, 34, rfl, rfl, kT_in (by decide +kernel), kT_in (by decide +kernel), kT_in (by decide +kernel), kT_in (by decide +kernel), kT_in ⟨List.mem_of_getElem? (i := 614) (by decide +kernel), by decide +kernel⟩, by decide, by decide, by decide +kernel⟩
theorem cv_L_78 : kCv "DynamicNeedsLaw" 78 y_X_digest b_X_digest 2 (some .long) 4 1 := ⟨R_X, T_X, 10, rfl, rfl, kT_in (by decide +kernel), kT_in (by decide +kernel), kT_in (by decide +kernel), kT_in (by decide +kernel), kT_in ⟨List.mem_of_getElem? (i := 359) (by decide +kernel), by decide +kernel⟩, by decide, by decide, by decide +kernel⟩
theorem cv_L_82 : kCv "DynamicNeedsLaw" 82 y_M_digest b_M_digest 2 (some .long) 5 1 := ⟨R_M, T_M, 34, rfl, rfl, kT_in (by decide +kernel), kT_in (by decide +kernel), kT_in (by decide +kernel), kT_in (by decide +kernel), kT_in ⟨List.mem_of_getElem? (i := 618) (by decide +kernel), by decide +kernel⟩, by decide, by decide, by decide +kernel⟩
theorem cv_L_83 : kCv "DynamicNeedsLaw" 83 y_X_counted b_X_counted 3 (some .int) 4 2 := ⟨R_X, T_X, 10, rfl, rfl, kT_in (by decide +kernel), kT_in (by decide +kernel), kT_in (by decide +kernel), kT_in (by decide +kernel), kT_in ⟨List.mem_of_getElem? (i := 363) (by decide +kernel), by decide +kernel⟩, by decide, by decide, by decide +kernel⟩
theorem cv_L_87 : kCv "DynamicNeedsLaw" 87 y_M_counted b_M_counted 3 (some .int) 5 2 := ⟨R_M, T_M, 34, rfl, rfl, kT_in (by decide +kernel), kT_in (by decide +kernel), kT_in (by decide +kernel), kT_in (by decide +kernel), kT_in ⟨List.mem_of_getElem? (i := 622) (by decide +kernel), by decide +kernel⟩, by decide, by decide, by decide +kernel⟩
theorem cv_L_88 : kCv "DynamicNeedsLaw" 88 y_X_members b_X_members 2 (some .int) 4 1 := ⟨R_X, T_X, 10, rfl, rfl, kT_in (by decide +kernel), kT_in (by decide +kernel), kT_in (by decide +kernel), kT_in (by decide +kernel), kT_in ⟨List.mem_of_getElem? (i := 367) (by decide +kernel), by decide +kernel⟩, by decide, by decide, by decide +kernel⟩
theorem cv_L_91 : kCv "DynamicNeedsLaw" 91 y_M_members b_M_members 2 (some .int) 5 1 := ⟨R_M, T_M, 34, rfl, rfl, kT_in (by decide +kernel), kT_in (by decide +kernel), kT_in (by decide +kernel), kT_in (by decide +kernel), kT_in ⟨List.mem_of_getElem? (i := 626) (by decide +kernel), by decide +kernel⟩, by decide, by decide, by decide +kernel⟩
theorem cv_L_92 : kCv "DynamicNeedsLaw" 92 y_X_mapping b_X_mapping 4 (some .int) 4 2 := ⟨R_X, T_X, 10, rfl, rfl, kT_in (by decide +kernel), kT_in (by decide +kernel), kT_in (by decide +kernel), kT_in (by decide +kernel), kT_in ⟨List.mem_of_getElem? (i := 378) (by decide +kernel), by decide +kernel⟩, by decide, by decide, by decide +kernel⟩
theorem cv_L_96 : kCv "DynamicNeedsLaw" 96 y_M_mapping b_M_mapping 4 (some .int) 5 2 := ⟨R_M, T_M, 34, rfl, rfl, kT_in (by decide +kernel), kT_in (by decide +kernel), kT_in (by decide +kernel), kT_in (by decide +kernel), kT_in ⟨List.mem_of_getElem? (i := 635) (by decide +kernel), by decide +kernel⟩, by decide, by decide, by decide +kernel⟩
theorem cv_L_97 : kCv "DynamicNeedsLaw" 97 y_X_map b_X_map 3 (some .int) 4 1 := ⟨R_X, T_X, 10, rfl, rfl, kT_in (by decide +kernel), kT_in (by decide +kernel), kT_in (by decide +kernel), kT_in (by decide +kernel), kT_in ⟨List.mem_of_getElem? (i := 382) (by decide +kernel), by decide +kernel⟩, by decide, by decide, by decide +kernel⟩
theorem cv_L_100 : kCv "DynamicNeedsLaw" 100 y_M_map b_M_map 6 (some .int) 5 1 := ⟨R_M, T_M, 34, rfl, rfl, kT_in (by decide +kernel), kT_in (by decide +kernel), kT_in (by decide +kernel), kT_in (by decide +kernel), kT_in ⟨List.mem_of_getElem? (i := 639) (by decide +kernel), by decide +kernel⟩, by decide, by decide, by decide +kernel⟩
theorem cv_L_101 : kCv "DynamicNeedsLaw" 101 y_X_result b_X_result 3 (some .long) 4 2 := ⟨R_X, T_X, 10, rfl, rfl, kT_in (by decide +kernel), kT_in (by decide +kernel), kT_in (by decide +kernel), kT_in (by decide +kernel), kT_in ⟨List.mem_of_getElem? (i := 402) (by decide +kernel), by decide +kernel⟩, by decide, by decide, by decide +kernel⟩
theorem cv_L_105 : kCv "DynamicNeedsLaw" 105 y_M_result b_M_result 3 (some .long) 5 2 := ⟨R_M, T_M, 34, rfl, rfl, kT_in (by decide +kernel), kT_in (by decide +kernel), kT_in (by decide +kernel), kT_in (by decide +kernel), kT_in ⟨List.mem_of_getElem? (i := 652) (by decide +kernel), by decide +kernel⟩, by decide, by decide, by decide +kernel⟩
theorem cn_code : Cond.code y_X_memberDigest b_X_memberDigest 3 (some .long) ∈ kT := kT_in ⟨List.mem_of_getElem? (i := 393) (by decide +kernel), by decide +kernel⟩
theorem cn_stat : Cond.static y_X_memberDigest ∈ kT := kT_in (by decide +kernel)
theorem cn_ini : Cond.initialized "DynamicNeeds" ∈ kT := kT_in (by decide +kernel)
end
section
/-! deterministic contracts; reads by type -/
def kMd (y : kSys) (l : Launch) (ym : MethodName) (cc : ByteArray) (nL : Nat) (ret : Option FieldType) (f n : Nat) (as : List kV) (g : kG) (R : Option kV) (G : kG) : Prop := kMet y l ym cc nL ret f n as g (fun r g2 => r = R ∧ g2 = G)
theorem k_enterF {y : kSys} {l : Launch} {ym : MethodName} {cc : ByteArray} {nL : Nat} {ret : Option FieldType} {f n : Nat} {as : List kV} {g : kG} {post : Option kV → kG → Prop} (hy : plainFor ym = true) (ls0 : List (Option kV)) (hls : k_tl (y_ad y) 0 ls0 = lv_args 0 (as.map (k_cv (y_ad y)))) (hlen : ls0.length = nL) (hsl : (lg_sl (as.map (k_cv (y_ad y)))).length ≤ nL)
    (body : ∀ x : kCx, kIn y l cc ym.cls nL ret f n x → Wk (kWd y) (kAA y) (y_ad y) x (0, 0) (kQ y post x) 0 ls0 [] g) : kMet y l ym cc nL ret f n as g post := by
  refine va_MetF (cc := cc) (maxL := nL) (ret := ret) hy rfl ?_
  intro p e s m args below meth c s₁ B hml hv
  obtain ⟨rfl, hw, hO⟩ := hv
  have h := body (p, l, e, kRm f n, s, m, (as.map (k_cv (y_ad y))).toArray, below, meth, c) ⟨⟨B.exec, B.bytes, findClass_of_methodNamed B.named, fun w h hg => atoms_spec B.pre w (List.mem_cons_of_mem _ (kT_in ⟨h, hg⟩))⟩, hO, rfl, rfl, hml, B.returns, B.notSynchronized⟩
  rw [lg_entry_eq]
  exact h s.heap [] _ hw va_S.rf (by rw [hls, hlen]; exact lv_entry _ hsl)
section KN
variable {y : kSys} {x : kCx} {nn : Nat × Nat} {Q : State → Prop} {pc : Nat} {ls : List (Option kV)} {st rest : List kV} {g : kG} {cc : ByteArray} {own : String} {l : Launch} {nL f n : Nat} {ret : Option FieldType}
theorem k_getI (C : kOk x cc own) (O : kSO y x.2.2.2.2.1) {k i idx ci sl : Nat} (hd : decode cc pc = .ok (.getfield idx, 3)) (F : kFl own idx ci sl) (hr : (k, i) ∈ y_refs y) (hk : y_is y k = 0) (hc : y_kc y k = ci) (ht : (y_ft y k)[sl]? = some 0)
    (kk : Wk (kWd y) (kAA y) (y_ad y) x nn Q (pc + 3) ls (.inl (g.1 k i sl) :: st) g) : Wk (kWd y) (kAA y) (y_ad y) x nn Q pc ls (.inr (.inr (k, i)) :: st) g :=
  k_getf C O hd F hr hk hc (by rw [k_fl_get, ht, Nat.zero_add]; rfl) kk
theorem k_getJ (C : kOk x cc own) (O : kSO y x.2.2.2.2.1) {k i idx ci sl : Nat} (hd : decode cc pc = .ok (.getfield idx, 3)) (F : kFl own idx ci sl) (hr : (k, i) ∈ y_refs y) (hk : y_is y k = 0) (hc : y_kc y k = ci) (ht : (y_ft y k)[sl]? = some 1)
    (kk : Wk (kWd y) (kAA y) (y_ad y) x nn Q (pc + 3) ls (.inr (.inl (g.2 k i sl)) :: st) g) : Wk (kWd y) (kAA y) (y_ad y) x nn Q pc ls (.inr (.inr (k, i)) :: st) g :=
  k_getf C O hd F hr hk hc (by rw [k_fl_get, ht, Nat.zero_add]; rfl) kk
theorem k_getR (C : kOk x cc own) (O : kSO y x.2.2.2.2.1) {k i idx ci sl : Nat} {r : Nat × Nat} (hd : decode cc pc = .ok (.getfield idx, 3)) (F : kFl own idx ci sl) (hr : (k, i) ∈ y_refs y) (hk : y_is y k = 0) (hc : y_kc y k = ci) (ht : (y_ft y k)[sl]? = some 2) (hv : y_rt y k i sl = r)
    (kk : Wk (kWd y) (kAA y) (y_ad y) x nn Q (pc + 3) ls (.inr (.inr r) :: st) g) : Wk (kWd y) (kAA y) (y_ad y) x nn Q pc ls (.inr (.inr (k, i)) :: st) g :=
  k_getf C O hd F hr hk hc (by rw [k_fl_get, ht, Nat.zero_add, ← hv]; rfl) kk
theorem k_aaldr (C : kOk x cc own) (O : kSO y x.2.2.2.2.1) {k i : Nat} {j : Int32} {E : String} {r : Nat × Nat} (hd : decode cc pc = .ok (.aaload, 1)) (hr : (k, i) ∈ y_refs y) (hk : y_is y k = 4) (t0 : Nat) (ht : (y_ty y)[t0]? = some (y_ca y k, .object E)) (hin : vp_in j (y_ln y k)) (hv : y_rt y k i j.toNatClampNeg = r)
    (kk : Wk (kWd y) (kAA y) (y_ad y) x nn Q (pc + 1) ls (.inr (.inr r) :: st) g) : Wk (kWd y) (kAA y) (y_ad y) x nn Q pc ls (.inl j :: .inr (.inr (k, i)) :: st) g :=
  k_aald C O hd hr hk t0 ht hin (by rw [hv]; exact kk)
theorem k_cvI (X : kIn y l cc own nL ret f n x) {idx : Nat} {ym : MethodName} {cc2 : ByteArray} {nL2 f2 n2 ci k i : Nat} {ret2 : Option FieldType} {as : List kV} {v : Int32} {G : kG} (hd : decode cc pc = .ok (.invokevirtual idx, 3)) (hM : kMd y l ym cc2 nL2 ret2 f2 n2 (.inr (.inr (k, i)) :: as) g (some (.inl v)) G) (hc : kCv own idx ym cc2 nL2 ret2 ci as.length) (hr : (k, i) ∈ y_refs y) (hk : y_is y k = 0) (hkc : y_kc y k = ci) (hR : f2 + 1 ≤ f ∧ 8 + (nL2 + 11) + n2 ≤ n) (hst : st = as.reverse ++ .inr (.inr (k, i)) :: rest) (hll : ls.length = nL) (hW : ((rest.map (k_cv (y_ad y))).map fun v => v.category).sum ≤ 8)
    (kk : Wk (kWd y) (kAA y) (y_ad y) x (0, 0) Q (pc + 3) ls (.inl v :: rest) G) : Wk (kWd y) (kAA y) (y_ad y) x (0, 0) Q pc ls st g :=
  k_callV X hd hM hc hr hk hkc hR hst hll hW (fun r g2 h => by obtain ⟨rfl, rfl⟩ := h; exact kk)
theorem k_cvJ (X : kIn y l cc own nL ret f n x) {idx : Nat} {ym : MethodName} {cc2 : ByteArray} {nL2 f2 n2 ci k i : Nat} {ret2 : Option FieldType} {as : List kV} {v : Int64} {G : kG} (hd : decode cc pc = .ok (.invokevirtual idx, 3)) (hM : kMd y l ym cc2 nL2 ret2 f2 n2 (.inr (.inr (k, i)) :: as) g (some (.inr (.inl v))) G) (hc : kCv own idx ym cc2 nL2 ret2 ci as.length) (hr : (k, i) ∈ y_refs y) (hk : y_is y k = 0) (hkc : y_kc y k = ci) (hR : f2 + 1 ≤ f ∧ 8 + (nL2 + 11) + n2 ≤ n) (hst : st = as.reverse ++ .inr (.inr (k, i)) :: rest) (hll : ls.length = nL) (hW : ((rest.map (k_cv (y_ad y))).map fun v => v.category).sum ≤ 8)
    (kk : Wk (kWd y) (kAA y) (y_ad y) x (0, 0) Q (pc + 3) ls (.inr (.inl v) :: rest) G) : Wk (kWd y) (kAA y) (y_ad y) x (0, 0) Q pc ls st g :=
  k_callV X hd hM hc hr hk hkc hR hst hll hW (fun r g2 h => by obtain ⟨rfl, rfl⟩ := h; exact kk)
theorem k_cvV (X : kIn y l cc own nL ret f n x) {idx : Nat} {ym : MethodName} {cc2 : ByteArray} {nL2 f2 n2 ci k i : Nat} {ret2 : Option FieldType} {as : List kV} {G : kG} (hd : decode cc pc = .ok (.invokevirtual idx, 3)) (hM : kMd y l ym cc2 nL2 ret2 f2 n2 (.inr (.inr (k, i)) :: as) g none G) (hc : kCv own idx ym cc2 nL2 ret2 ci as.length) (hr : (k, i) ∈ y_refs y) (hk : y_is y k = 0) (hkc : y_kc y k = ci) (hR : f2 + 1 ≤ f ∧ 8 + (nL2 + 11) + n2 ≤ n) (hst : st = as.reverse ++ .inr (.inr (k, i)) :: rest) (hll : ls.length = nL) (hW : ((rest.map (k_cv (y_ad y))).map fun v => v.category).sum ≤ 8)
    (kk : Wk (kWd y) (kAA y) (y_ad y) x (0, 0) Q (pc + 3) ls rest G) : Wk (kWd y) (kAA y) (y_ad y) x (0, 0) Q pc ls st g :=
  k_callV X hd hM hc hr hk hkc hR hst hll hW (fun r g2 h => by obtain ⟨rfl, rfl⟩ := h; exact kk)
theorem k_csI (X : kIn y l cc own nL ret f n x) {idx : Nat} {ym : MethodName} {cc2 : ByteArray} {nL2 f2 n2 : Nat} {ret2 : Option FieldType} {as : List kV} {v : Int32} {G : kG} (hd : decode cc pc = .ok (.invokestatic idx, 3)) (hM : kMd y l ym cc2 nL2 ret2 f2 n2 as g (some (.inl v)) G) (hc : kCs own idx ym cc2 nL2 ret2 as.length) (hR : f2 + 1 ≤ f ∧ 8 + (nL2 + 11) + n2 ≤ n) (hst : st = as.reverse ++ rest) (hll : ls.length = nL) (hW : ((rest.map (k_cv (y_ad y))).map fun v => v.category).sum ≤ 8)
    (kk : Wk (kWd y) (kAA y) (y_ad y) x (0, 0) Q (pc + 3) ls (.inl v :: rest) G) : Wk (kWd y) (kAA y) (y_ad y) x (0, 0) Q pc ls st g :=
  k_callS X hd hM hc hR hst hll hW (fun r g2 h => by obtain ⟨rfl, rfl⟩ := h; exact kk)
theorem k_csJ (X : kIn y l cc own nL ret f n x) {idx : Nat} {ym : MethodName} {cc2 : ByteArray} {nL2 f2 n2 : Nat} {ret2 : Option FieldType} {as : List kV} {v : Int64} {G : kG} (hd : decode cc pc = .ok (.invokestatic idx, 3)) (hM : kMd y l ym cc2 nL2 ret2 f2 n2 as g (some (.inr (.inl v))) G) (hc : kCs own idx ym cc2 nL2 ret2 as.length) (hR : f2 + 1 ≤ f ∧ 8 + (nL2 + 11) + n2 ≤ n) (hst : st = as.reverse ++ rest) (hll : ls.length = nL) (hW : ((rest.map (k_cv (y_ad y))).map fun v => v.category).sum ≤ 8)
    (kk : Wk (kWd y) (kAA y) (y_ad y) x (0, 0) Q (pc + 3) ls (.inr (.inl v) :: rest) G) : Wk (kWd y) (kAA y) (y_ad y) x (0, 0) Q pc ls st g :=
  k_callS X hd hM hc hR hst hll hW (fun r g2 h => by obtain ⟨rfl, rfl⟩ := h; exact kk)
theorem k_cnJ (X : kIn y l cc "DynamicNeeds$Mapping" nL ret f n x) {f2 n2 : Nat} {as : List kV} {v : Int64} {G : kG} (hd : decode cc pc = .ok (.invokestatic 25, 3)) (hM : kMd y l y_X_memberDigest b_X_memberDigest 3 (some .long) f2 n2 as g (some (.inr (.inl v))) G) (h10 : as.length = 2) (hR : f2 + 1 ≤ f ∧ 8 + (3 + 11) + n2 ≤ n) (hst : st = as.reverse ++ rest) (hll : ls.length = nL) (hW : ((rest.map (k_cv (y_ad y))).map fun v => v.category).sum ≤ 8)
    (kk : Wk (kWd y) (kAA y) (y_ad y) x (0, 0) Q (pc + 3) ls (.inr (.inl v) :: rest) G) : Wk (kWd y) (kAA y) (y_ad y) x (0, 0) Q pc ls st g :=
  k_callN X hd hM cn_code cn_stat cn_ini h10 hR hst hll hW (fun r g2 h => by obtain ⟨rfl, rfl⟩ := h; exact kk)
end KN
theorem vi_lt {j : Int32} {n : Nat} (h : vp_in j n) : j.toNatClampNeg < n := Nat.not_le.mp fun q => h (Or.inr q)
/-! the class's cells -/
def xRefs : List (Nat × Nat) := [(0, 0), (1, 0), (2, 0), (3, 0), (4, 0)] ++ (List.range 24).map (fun i => (5, i)) ++ ((List.range 8).flatMap fun k => (List.range 12).map fun i => (6 + k, i)) ++ (List.range 6).map (fun i => (14, i))
def xRt : Nat → Nat → Nat → Nat × Nat := fun k i j => match k with
  | 0 => match j with
    | 1 => (1, 0)
    | 2 => (2, 0)
    | 3 => (3, 0)
    | _ => (4, 0)
  | 1 => (5, j)
  | 2 => (6, j)
  | 3 => (14, j)
  | 6 => match j with
    | 0 => (7, i)
    | 1 => (8, i)
    | _ => (9, i)
  | _ => match j with
    | 0 => (10, i)
    | 1 => (11, i)
    | 2 => (12, i)
    | _ => (13, i)
def xKc : Nat → Nat := fun k => match k with
  | 0 => 4
  | 5 => 1
  | 6 => 0
  | 9 => 3
  | _ => 2
def xFt : Nat → List Nat := fun k => match k with
  | 0 => [0, 2, 2, 2, 0, 0, 0, 2, 0, 0]
  | 5 => [0, 1, 0]
  | 6 => [2, 2, 0, 0, 0, 2, 0, 0, 1, 0, 0, 0, 0]
  | 9 => [2, 2, 2, 2, 0]
  | _ => [0, 1, 1, 0]
def xIs : Nat → Nat := fun k => match k with
  | 0 => 0
  | 1 => 4
  | 2 => 4
  | 3 => 4
  | 4 => 1
  | 5 => 0
  | 6 => 0
  | 7 => 1
  | 8 => 1
  | 9 => 0
  | 10 => 1
  | 11 => 2
  | 12 => 2
  | 13 => 3
  | _ => 0
def xLn : Nat → Nat := fun k => match k with
  | 1 => 24
  | 3 => 6
  | 4 => 13
  | _ => 12
def xCa (dA : Nat → ClassId) : Nat → ClassId := fun k => match k with
  | 1 => dA 3
  | 2 => dA 4
  | 3 => dA 5
  | 11 => dA 1
  | 12 => dA 1
  | 13 => dA 2
  | _ => dA 0
def kTys (dA : Nat → ClassId) : List (ClassId × FieldType) := [(dA 0, .int), (dA 1, .boolean), (dA 2, .long), (dA 3, .object "DynamicNeeds$FileState"), (dA 4, .object "DynamicNeeds$Action"), (dA 5, .object "DynamicNeeds$Mapping")]
def sysX (b : Nat → Nat → Nat) (dA : Nat → ClassId) (D : va_G) : kSys := (xRefs, b, xRt, xKc, xFt, xIs, xLn, xCa dA, D, kTys dA)
theorem xr_0 : (0, 0) ∈ xRefs := by decide +kernel
theorem xr_1 : (1, 0) ∈ xRefs := by decide +kernel
theorem xr_2 : (2, 0) ∈ xRefs := by decide +kernel
theorem xr_3 : (3, 0) ∈ xRefs := by decide +kernel
theorem xr_4 : (4, 0) ∈ xRefs := by decide +kernel
theorem xr_5 {i : Nat} (h : i < 24) : (5, i) ∈ xRefs := (show ∀ i, i < 24 → (5, i) ∈ xRefs by decide +kernel) i h
theorem xr_6 {i : Nat} (h : i < 12) : (6, i) ∈ xRefs := (show ∀ i, i < 12 → (6, i) ∈ xRefs by decide +kernel) i h
theorem xr_7 {i : Nat} (h : i < 12) : (7, i) ∈ xRefs := (show ∀ i, i < 12 → (7, i) ∈ xRefs by decide +kernel) i h
theorem xr_8 {i : Nat} (h : i < 12) : (8, i) ∈ xRefs := (show ∀ i, i < 12 → (8, i) ∈ xRefs by decide +kernel) i h
theorem xr_9 {i : Nat} (h : i < 12) : (9, i) ∈ xRefs := (show ∀ i, i < 12 → (9, i) ∈ xRefs by decide +kernel) i h
theorem xr_10 {i : Nat} (h : i < 12) : (10, i) ∈ xRefs := (show ∀ i, i < 12 → (10, i) ∈ xRefs by decide +kernel) i h
theorem xr_11 {i : Nat} (h : i < 12) : (11, i) ∈ xRefs := (show ∀ i, i < 12 → (11, i) ∈ xRefs by decide +kernel) i h
theorem xr_12 {i : Nat} (h : i < 12) : (12, i) ∈ xRefs := (show ∀ i, i < 12 → (12, i) ∈ xRefs by decide +kernel) i h
theorem xr_13 {i : Nat} (h : i < 12) : (13, i) ∈ xRefs := (show ∀ i, i < 12 → (13, i) ∈ xRefs by decide +kernel) i h
theorem xr_14 {i : Nat} (h : i < 6) : (14, i) ∈ xRefs := (show ∀ i, i < 6 → (14, i) ∈ xRefs by decide +kernel) i h
theorem x_nodup : xRefs.Nodup := by decide +kernel
end
section
/-! array rows with the place as a number -/
theorem nI_inc (k : Nat) : nI k + Int32.ofInt 1 = nI (k + 1) := nI_1 k
abbrev tn (v : Int32) : Nat := v.toNatClampNeg
def kN (v : Int32) (n : Nat) : Prop := v = nI (tn v) ∧ tn v ≤ n
theorem kN_of {k n : Nat} (h : k ≤ n) (hn : n < 2 ^ 31) : kN (nI k) n := by
  have e : tn (nI k) = k := nI_clamp (by omega)
  exact ⟨by rw [e], by rw [e]; exact h⟩
section KN2
variable {y : kSys} {x : kCx} {nn : Nat × Nat} {Q : State → Prop} {pc : Nat} {ls : List (Option kV)} {st rest : List kV} {g : kG} {cc : ByteArray} {own : String}
theorem k_iald2 (C : kOk x cc own) (O : kSO y x.2.2.2.2.1) {k i q : Nat} {j : Int32} (hd : decode cc pc = .ok (.iaload, 1)) (hr : (k, i) ∈ y_refs y) (hk : y_is y k = 1) (t0 : Nat) (ht : (y_ty y)[t0]? = some (y_ca y k, .int)) (hin : vp_in j (y_ln y k)) (hq : j.toNatClampNeg = q)
    (kk : Wk (kWd y) (kAA y) (y_ad y) x nn Q (pc + 1) ls (.inl (g.1 k i q) :: st) g) : Wk (kWd y) (kAA y) (y_ad y) x nn Q pc ls (.inl j :: .inr (.inr (k, i)) :: st) g := by
  subst hq
  exact k_iald C O hd hr hk t0 ht hin kk
theorem k_zald2 (C : kOk x cc own) (O : kSO y x.2.2.2.2.1) {k i q : Nat} {j : Int32} (hd : decode cc pc = .ok (.baload, 1)) (hr : (k, i) ∈ y_refs y) (hk : y_is y k = 2) (t0 : Nat) (ht : (y_ty y)[t0]? = some (y_ca y k, .boolean)) (hin : vp_in j (y_ln y k)) (hq : j.toNatClampNeg = q)
    (kk : Wk (kWd y) (kAA y) (y_ad y) x nn Q (pc + 1) ls (.inl (g.1 k i q) :: st) g) : Wk (kWd y) (kAA y) (y_ad y) x nn Q pc ls (.inl j :: .inr (.inr (k, i)) :: st) g := by
  subst hq
  exact k_zald C O hd hr hk t0 ht hin kk
theorem k_lald2 (C : kOk x cc own) (O : kSO y x.2.2.2.2.1) {k i q : Nat} {j : Int32} (hd : decode cc pc = .ok (.laload, 1)) (hr : (k, i) ∈ y_refs y) (hk : y_is y k = 3) (t0 : Nat) (ht : (y_ty y)[t0]? = some (y_ca y k, .long)) (hin : vp_in j (y_ln y k)) (hq : j.toNatClampNeg = q)
    (kk : Wk (kWd y) (kAA y) (y_ad y) x nn Q (pc + 1) ls (.inr (.inl (g.2 k i q)) :: st) g) : Wk (kWd y) (kAA y) (y_ad y) x nn Q pc ls (.inl j :: .inr (.inr (k, i)) :: st) g := by
  subst hq
  exact k_lald C O hd hr hk t0 ht hin kk
theorem k_aald2 (C : kOk x cc own) (O : kSO y x.2.2.2.2.1) {k i q : Nat} {j : Int32} {E : String} {r : Nat × Nat} (hd : decode cc pc = .ok (.aaload, 1)) (hr : (k, i) ∈ y_refs y) (hk : y_is y k = 4) (t0 : Nat) (ht : (y_ty y)[t0]? = some (y_ca y k, .object E)) (hin : vp_in j (y_ln y k)) (hq : j.toNatClampNeg = q) (hv : y_rt y k i q = r)
    (kk : Wk (kWd y) (kAA y) (y_ad y) x nn Q (pc + 1) ls (.inr (.inr r) :: st) g) : Wk (kWd y) (kAA y) (y_ad y) x nn Q pc ls (.inl j :: .inr (.inr (k, i)) :: st) g := by
  subst hq
  exact k_aaldr C O hd hr hk t0 ht hin hv kk
theorem k_iast2 (C : kOk x cc own) (O : kSO y x.2.2.2.2.1) {k i q : Nat} {j v : Int32} (hd : decode cc pc = .ok (.iastore, 1)) (hr : (k, i) ∈ y_refs y) (hk : y_is y k = 1) (t0 : Nat) (ht : (y_ty y)[t0]? = some (y_ca y k, .int)) (hin : vp_in j (y_ln y k)) (hq : j.toNatClampNeg = q)
    (kk : Wk (kWd y) (kAA y) (y_ad y) x nn Q (pc + 1) ls st (kU g.1 k i q v, g.2)) : Wk (kWd y) (kAA y) (y_ad y) x nn Q pc ls (.inl v :: .inl j :: .inr (.inr (k, i)) :: st) g := by
  subst hq
  exact k_iast C O hd hr hk t0 ht hin kk
theorem k_zast2 (C : kOk x cc own) (O : kSO y x.2.2.2.2.1) {k i q : Nat} {j v : Int32} (hd : decode cc pc = .ok (.bastore, 1)) (hz : kZ v) (hr : (k, i) ∈ y_refs y) (hk : y_is y k = 2) (t0 : Nat) (ht : (y_ty y)[t0]? = some (y_ca y k, .boolean)) (hin : vp_in j (y_ln y k)) (hq : j.toNatClampNeg = q)
    (kk : Wk (kWd y) (kAA y) (y_ad y) x nn Q (pc + 1) ls st (kU g.1 k i q v, g.2)) : Wk (kWd y) (kAA y) (y_ad y) x nn Q pc ls (.inl v :: .inl j :: .inr (.inr (k, i)) :: st) g := by
  subst hq
  exact k_zast C O hd hz hr hk t0 ht hin kk
theorem k_last2 (C : kOk x cc own) (O : kSO y x.2.2.2.2.1) {k i q : Nat} {j : Int32} {v : Int64} (hd : decode cc pc = .ok (.lastore, 1)) (hr : (k, i) ∈ y_refs y) (hk : y_is y k = 3) (t0 : Nat) (ht : (y_ty y)[t0]? = some (y_ca y k, .long)) (hin : vp_in j (y_ln y k)) (hq : j.toNatClampNeg = q)
    (kk : Wk (kWd y) (kAA y) (y_ad y) x nn Q (pc + 1) ls st (g.1, kUJ g.2 k i q v)) : Wk (kWd y) (kAA y) (y_ad y) x nn Q pc ls (.inr (.inl v) :: .inl j :: .inr (.inr (k, i)) :: st) g := by
  subst hq
  exact k_last C O hd hr hk t0 ht hin kk
end KN2
end
section
/-! the class: specs and contracts, 1: leaves (by program: wip/gen/cx1.py) -/
def xIn (n c : Int32) : Int32 := if n < 0 then 0 else if c ≤ n then 0 else 1
def xMade (g : kG) (i : Nat) : Int32 := if g.1 5 i 2 = -1 then 0 else 1
def xPut (g : kG) (i : Nat) (d : Int64) : kG := (kU g.1 5 i 0 1, kUJ g.2 5 i 1 d)
def xRem (g : kG) (i : Nat) : kG := (kU g.1 5 i 0 0, kUJ g.2 5 i 1 0)
def xFgt (g : kG) (i : Nat) : kG := (kU (kU g.1 6 i 6 0) 9 i 4 0, g.2)
def xSum (g : kG) (i : Nat) (t : Int64) : kG := (g.1, kUJ g.2 6 i 8 (31 * g.2 6 i 8 + t))
def xAddRow (g : kG) (i : Nat) (k t : Int32) : Int32 × kG := if g.1 6 i 2 < 12 then (1, xFgt (kU (kU (kU g.1 7 i (g.1 6 i 2).toNatClampNeg k) 8 i (g.1 6 i 2).toNatClampNeg t) 6 i 2 (g.1 6 i 2 + 1), g.2) i) else (0, g)
def xBit (m n : Int32) : Int32 := if ((m.toUInt32 >>> (n.toUInt32 &&& Int32.toUInt32 31)).toInt32 &&& 1) = 0 then 0 else 1
def xFr (g : kG) (i : Nat) (m : Int32) : Int32 := if xMade g i = 0 then 1 else if xBit m (g.1 5 i 2) = 0 then 0 else 1
def xMem (d : Int64) (i : Int32) : Int64 := d ^^^ (i.toInt64 * 1000003)
def jFm (a b : Int64) : Int64 := if 0 ≤ lg_cmp (a ^^^ b) 0 then a - a / b * b else if lg_cmp (a - a / b * b) 0 = 0 then a - a / b * b else a - a / b * b + b
def xTree (g : kG) (i : Nat) : Int32 := if xMade g i = 0 then 0 else if g.1 5 i 0 = 0 then 0 else (jFm (g.2 5 i 1) 5).toInt32
def xLike (g : kG) (i : Nat) (j : Int32) (f : Nat) : Int32 := if g.1 11 i j.toNatClampNeg = g.1 5 f 0 then (if g.1 12 i j.toNatClampNeg = 0 then 1 else if lg_cmp (g.2 13 i j.toNatClampNeg) (g.2 5 f 1) = 0 then 1 else 0) else 0
def xTell (g : kG) (i : Nat) (j w : Int32) : Int32 := if j < 0 then -1 else if j < g.1 9 i 4 then (if w.toInt < 0 ∨ 2 < w.toInt then -1 else if w = 0 then g.1 10 i j.toNatClampNeg else if w = 1 then (if g.1 11 i j.toNatClampNeg = 0 then 0 else 1) else (if g.1 12 i j.toNatClampNeg = 0 then 0 else 1)) else -1
set_option maxHeartbeats 4000000 in
set_option maxRecDepth 100000 in
theorem c_F_put (l : Launch) (b : Nat → Nat → Nat) (dA : Nat → ClassId) (D : va_G) (g : kG) (i : Nat) (hi : i < 24) (d : Int64) : kMd (sysX b dA D) l y_F_put b_F_put 3 none 0 0 [.inr (.inr (5, i)), .inr (.inl d)] g none (xPut g i d) := by
  refine k_enter (by decide) [some (.inr (.inr (5, i))), some (.inr (.inl d)), none] rfl rfl (Nat.le_of_ble_eq_true rfl) (fun x X => ?_)
  have C := X.1
  have O := X.2.1
  refine k_aload_n C d_F_put_0 rfl rfl ?_
  refine k_iconst C (v := 1) d_F_put_1 (by decide) ?_
  refine k_putZ C O d_F_put_2 fp_F_9 (Or.inr rfl) (xr_5 hi) rfl rfl rfl ?_
  refine k_aload_n C d_F_put_5 rfl rfl ?_
  refine k_lload_n C d_F_put_6 rfl rfl ?_
  refine k_putJ C O d_F_put_7 fp_F_15 (xr_5 hi) rfl rfl rfl ?_
  exact k_vret X d_F_put_10 (⟨by simp only [xPut], by simp only [xPut]⟩)

set_option maxHeartbeats 4000000 in
set_option maxRecDepth 100000 in
theorem c_F_remove (l : Launch) (b : Nat → Nat → Nat) (dA : Nat → ClassId) (D : va_G) (g : kG) (i : Nat) (hi : i < 24) : kMd (sysX b dA D) l y_F_remove b_F_remove 1 none 0 0 [.inr (.inr (5, i))] g none (xRem g i) := by
  refine k_enter (by decide) [some (.inr (.inr (5, i)))] rfl rfl (Nat.le_of_ble_eq_true rfl) (fun x X => ?_)
  have C := X.1
  have O := X.2.1
  refine k_aload_n C d_F_remove_0 rfl rfl ?_
  refine k_iconst C (v := 0) d_F_remove_1 (by decide) ?_
  refine k_putZ C O d_F_remove_2 fp_F_9 (Or.inl rfl) (xr_5 hi) rfl rfl rfl ?_
  refine k_aload_n C d_F_remove_5 rfl rfl ?_
  refine k_lconst C (v := 0) d_F_remove_6 (by decide) ?_
  refine k_putJ C O d_F_remove_7 fp_F_15 (xr_5 hi) rfl rfl rfl ?_
  exact k_vret X d_F_remove_10 (⟨by simp only [xRem], by simp only [xRem]⟩)

set_option maxHeartbeats 4000000 in
set_option maxRecDepth 100000 in
theorem c_F_isMade (l : Launch) (b : Nat → Nat → Nat) (dA : Nat → ClassId) (D : va_G) (g : kG) (i : Nat) (hi : i < 24) : kMd (sysX b dA D) l y_F_isMade b_F_isMade 1 (some .boolean) 0 0 [.inr (.inr (5, i))] g (some (.inl (xMade g i))) g := by
  refine k_enter (by decide) [some (.inr (.inr (5, i)))] rfl rfl (Nat.le_of_ble_eq_true rfl) (fun x X => ?_)
  have C := X.1
  have O := X.2.1
  refine k_aload_n C d_F_isMade_0 rfl rfl ?_
  refine k_getI C O d_F_isMade_1 fl_F_19 (xr_5 hi) rfl rfl rfl ?_
  refine k_iconst C (v := (-1)) d_F_isMade_4 (by decide) ?_
  refine k_icmp_eq C (tgt := 12) d_F_isMade_5 (by decide) (fun c5 => ?_) (fun c5 => ?_)
  · refine k_iconst C (v := 0) d_F_isMade_12 (by decide) ?_
    exact k_zret X d_F_isMade_13 (Or.inl rfl) (⟨by simp only [xMade, if_pos c5], by simp only [xMade, if_pos c5]⟩)
  · refine k_iconst C (v := 1) d_F_isMade_8 (by decide) ?_
    refine k_goto C (tgt := 13) d_F_isMade_9 (by decide) ?_
    exact k_zret X d_F_isMade_13 (Or.inr rfl) (⟨by simp only [xMade, if_neg c5], by simp only [xMade, if_neg c5]⟩)

set_option maxHeartbeats 4000000 in
set_option maxRecDepth 100000 in
theorem c_A_forget (l : Launch) (b : Nat → Nat → Nat) (dA : Nat → ClassId) (D : va_G) (g : kG) (i : Nat) (hi : i < 12) : kMd (sysX b dA D) l y_A_forget b_A_forget 1 none 0 0 [.inr (.inr (6, i))] g none (xFgt g i) := by
  refine k_enter (by decide) [some (.inr (.inr (6, i)))] rfl rfl (Nat.le_of_ble_eq_true rfl) (fun x X => ?_)
  have C := X.1
  have O := X.2.1
  refine k_aload_n C d_A_forget_0 rfl rfl ?_
  refine k_iconst C (v := 0) d_A_forget_1 (by decide) ?_
  refine k_putZ C O d_A_forget_2 fp_A_35 (Or.inl rfl) (xr_6 hi) rfl rfl rfl ?_
  refine k_aload_n C d_A_forget_5 rfl rfl ?_
  refine k_getR C O (r := (9, _)) d_A_forget_6 fl_A_31 (xr_6 hi) rfl rfl rfl rfl ?_
  refine k_iconst C (v := 0) d_A_forget_9 (by decide) ?_
  refine k_putI C O d_A_forget_10 fp_A_63 (xr_9 hi) rfl rfl rfl ?_
  exact k_vret X d_A_forget_13 (⟨by simp only [xFgt], by simp only [xFgt]⟩)

set_option maxHeartbeats 4000000 in
set_option maxRecDepth 100000 in
theorem c_A_addToSum (l : Launch) (b : Nat → Nat → Nat) (dA : Nat → ClassId) (D : va_G) (g : kG) (i : Nat) (hi : i < 12) (t : Int64) : kMd (sysX b dA D) l y_A_addToSum b_A_addToSum 3 none 0 0 [.inr (.inr (6, i)), .inr (.inl t)] g none (xSum g i t) := by
  refine k_enter (by decide) [some (.inr (.inr (6, i))), some (.inr (.inl t)), none] rfl rfl (Nat.le_of_ble_eq_true rfl) (fun x X => ?_)
  have C := X.1
  have O := X.2.1
  refine k_aload_n C d_A_addToSum_0 rfl rfl ?_
  refine k_ldc2 C (v := 31) d_A_addToSum_1 (by decide +kernel) ?_
  refine k_aload_n C d_A_addToSum_4 rfl rfl ?_
  refine k_getJ C O d_A_addToSum_5 fl_A_42 (xr_6 hi) rfl rfl rfl ?_
  refine k_lmul C d_A_addToSum_8 ?_
  refine k_lload_n C d_A_addToSum_9 rfl rfl ?_
  refine k_ladd C d_A_addToSum_10 ?_
  refine k_putJ C O d_A_addToSum_11 fp_A_42 (xr_6 hi) rfl rfl rfl ?_
  exact k_vret X d_A_addToSum_14 (⟨by simp only [xSum], by simp only [xSum]⟩)

set_option maxHeartbeats 4000000 in
set_option maxRecDepth 100000 in
theorem c_A_addRow (l : Launch) (b : Nat → Nat → Nat) (dA : Nat → ClassId) (D : va_G) (g : kG) (i : Nat) (hi : i < 12) (k t : Int32) (h0 : g.1 6 i 2 < 12 → vp_in (g.1 6 i 2) 12) : kMd (sysX b dA D) l y_A_addRow b_A_addRow 3 (some .boolean) 1 20 [.inr (.inr (6, i)), .inl k, .inl t] g (some (.inl (xAddRow g i k t).1)) (xAddRow g i k t).2 := by
  refine k_enter (by decide) [some (.inr (.inr (6, i))), some (.inl k), some (.inl t)] rfl rfl (Nat.le_of_ble_eq_true rfl) (fun x X => ?_)
  have C := X.1
  have O := X.2.1
  refine k_aload_n C d_A_addRow_0 rfl rfl ?_
  refine k_getI C O d_A_addRow_1 fl_A_18 (xr_6 hi) rfl rfl rfl ?_
  refine k_bipush C (v := 12) d_A_addRow_4 (by decide) ?_
  refine k_icmp_lt C (tgt := 11) d_A_addRow_6 (by decide) (fun c6 => ?_) (fun c6 => ?_)
  · refine k_aload_n C d_A_addRow_11 rfl rfl ?_
    refine k_getR C O (r := (7, _)) d_A_addRow_12 fl_A_9 (xr_6 hi) rfl rfl rfl rfl ?_
    refine k_aload_n C d_A_addRow_15 rfl rfl ?_
    refine k_getI C O d_A_addRow_16 fl_A_18 (xr_6 hi) rfl rfl rfl ?_
    refine k_iload_n C d_A_addRow_19 rfl rfl ?_
    refine k_iast2 C O d_A_addRow_20 (xr_7 hi) rfl 0 rfl (h0 c6) rfl ?_
    refine k_aload_n C d_A_addRow_21 rfl rfl ?_
    refine k_getR C O (r := (8, _)) d_A_addRow_22 fl_A_15 (xr_6 hi) rfl rfl rfl rfl ?_
    refine k_aload_n C d_A_addRow_25 rfl rfl ?_
    refine k_getI C O d_A_addRow_26 fl_A_18 (xr_6 hi) rfl rfl rfl ?_
    refine k_iload_n C d_A_addRow_29 rfl rfl ?_
    refine k_iast2 C O d_A_addRow_30 (xr_8 hi) rfl 0 rfl (h0 c6) rfl ?_
    refine k_aload_n C d_A_addRow_31 rfl rfl ?_
    refine k_dup C d_A_addRow_32 rfl ?_
    refine k_getI C O d_A_addRow_33 fl_A_18 (xr_6 hi) rfl rfl rfl ?_
    refine k_iconst C (v := 1) d_A_addRow_36 (by decide) ?_
    refine k_iadd C d_A_addRow_37 ?_
    refine k_putI C O d_A_addRow_38 fp_A_18 (xr_6 hi) rfl rfl rfl ?_
    refine k_aload_n C d_A_addRow_41 rfl rfl ?_
    refine k_cvV X d_A_addRow_42 (c_A_forget l b dA D _ i hi) cv_A_58 (xr_6 hi) rfl rfl ⟨by decide, by decide⟩ rfl rfl (Nat.le_of_ble_eq_true rfl) ?_
    refine k_iconst C (v := 1) d_A_addRow_45 (by decide) ?_
    exact k_zret X d_A_addRow_46 (Or.inr rfl) (⟨by simp only [xAddRow, if_pos c6], by simp only [xAddRow, if_pos c6]; rfl⟩)
  · refine k_iconst C (v := 0) d_A_addRow_9 (by decide) ?_
    exact k_zret X d_A_addRow_10 (Or.inl rfl) (⟨by simp only [xAddRow, if_neg c6], by simp only [xAddRow, if_neg c6]⟩)

set_option maxHeartbeats 4000000 in
set_option maxRecDepth 100000 in
theorem c_X_isFile (l : Launch) (b : Nat → Nat → Nat) (dA : Nat → ClassId) (D : va_G) (g : kG) (n : Int32) : kMd (sysX b dA D) l y_X_isFile b_X_isFile 2 (some .boolean) 0 0 [.inr (.inr (0, 0)), .inl n] g (some (.inl (xIn n (g.1 0 0 4)))) g := by
  refine k_enter (by decide) [some (.inr (.inr (0, 0))), some (.inl n)] rfl rfl (Nat.le_of_ble_eq_true rfl) (fun x X => ?_)
  have C := X.1
  have O := X.2.1
  refine k_iload_n C d_X_isFile_0 rfl rfl ?_
  refine k_if_lt C (tgt := 16) d_X_isFile_1 (by decide) (fun c1 => ?_) (fun c1 => ?_)
  · refine k_iconst C (v := 0) d_X_isFile_16 (by decide) ?_
    exact k_zret X d_X_isFile_17 (Or.inl rfl) (⟨by simp only [xIn, if_pos c1], by simp only [xIn, if_pos c1]⟩)
  · refine k_iload_n C d_X_isFile_4 rfl rfl ?_
    refine k_aload_n C d_X_isFile_5 rfl rfl ?_
    refine k_getI C O d_X_isFile_6 fl_X_27 xr_0 rfl rfl rfl ?_
    refine k_icmp_ge C (tgt := 16) d_X_isFile_9 (by decide) (fun c9 => ?_) (fun c9 => ?_)
    · refine k_iconst C (v := 0) d_X_isFile_16 (by decide) ?_
      exact k_zret X d_X_isFile_17 (Or.inl rfl) (⟨by simp only [xIn, if_neg c1, if_pos c9], by simp only [xIn, if_neg c1, if_pos c9]⟩)
    · refine k_iconst C (v := 1) d_X_isFile_12 (by decide) ?_
      refine k_goto C (tgt := 17) d_X_isFile_13 (by decide) ?_
      exact k_zret X d_X_isFile_17 (Or.inr rfl) (⟨by simp only [xIn, if_neg c1, if_neg c9], by simp only [xIn, if_neg c1, if_neg c9]⟩)

set_option maxHeartbeats 4000000 in
set_option maxRecDepth 100000 in
theorem c_X_isAction (l : Launch) (b : Nat → Nat → Nat) (dA : Nat → ClassId) (D : va_G) (g : kG) (n : Int32) : kMd (sysX b dA D) l y_X_isAction b_X_isAction 2 (some .boolean) 0 0 [.inr (.inr (0, 0)), .inl n] g (some (.inl (xIn n (g.1 0 0 5)))) g := by
  refine k_enter (by decide) [some (.inr (.inr (0, 0))), some (.inl n)] rfl rfl (Nat.le_of_ble_eq_true rfl) (fun x X => ?_)
  have C := X.1
  have O := X.2.1
  refine k_iload_n C d_X_isAction_0 rfl rfl ?_
  refine k_if_lt C (tgt := 16) d_X_isAction_1 (by decide) (fun c1 => ?_) (fun c1 => ?_)
  · refine k_iconst C (v := 0) d_X_isAction_16 (by decide) ?_
    exact k_zret X d_X_isAction_17 (Or.inl rfl) (⟨by simp only [xIn, if_pos c1], by simp only [xIn, if_pos c1]⟩)
  · refine k_iload_n C d_X_isAction_4 rfl rfl ?_
    refine k_aload_n C d_X_isAction_5 rfl rfl ?_
    refine k_getI C O d_X_isAction_6 fl_X_31 xr_0 rfl rfl rfl ?_
    refine k_icmp_ge C (tgt := 16) d_X_isAction_9 (by decide) (fun c9 => ?_) (fun c9 => ?_)
    · refine k_iconst C (v := 0) d_X_isAction_16 (by decide) ?_
      exact k_zret X d_X_isAction_17 (Or.inl rfl) (⟨by simp only [xIn, if_neg c1, if_pos c9], by simp only [xIn, if_neg c1, if_pos c9]⟩)
    · refine k_iconst C (v := 1) d_X_isAction_12 (by decide) ?_
      refine k_goto C (tgt := 17) d_X_isAction_13 (by decide) ?_
      exact k_zret X d_X_isAction_17 (Or.inr rfl) (⟨by simp only [xIn, if_neg c1, if_neg c9], by simp only [xIn, if_neg c1, if_neg c9]⟩)

set_option maxHeartbeats 4000000 in
set_option maxRecDepth 100000 in
theorem c_X_isMapping (l : Launch) (b : Nat → Nat → Nat) (dA : Nat → ClassId) (D : va_G) (g : kG) (n : Int32) : kMd (sysX b dA D) l y_X_isMapping b_X_isMapping 2 (some .boolean) 0 0 [.inr (.inr (0, 0)), .inl n] g (some (.inl (xIn n (g.1 0 0 6)))) g := by
  refine k_enter (by decide) [some (.inr (.inr (0, 0))), some (.inl n)] rfl rfl (Nat.le_of_ble_eq_true rfl) (fun x X => ?_)
  have C := X.1
  have O := X.2.1
  refine k_iload_n C d_X_isMapping_0 rfl rfl ?_
  refine k_if_lt C (tgt := 16) d_X_isMapping_1 (by decide) (fun c1 => ?_) (fun c1 => ?_)
  · refine k_iconst C (v := 0) d_X_isMapping_16 (by decide) ?_
    exact k_zret X d_X_isMapping_17 (Or.inl rfl) (⟨by simp only [xIn, if_pos c1], by simp only [xIn, if_pos c1]⟩)
  · refine k_iload_n C d_X_isMapping_4 rfl rfl ?_
    refine k_aload_n C d_X_isMapping_5 rfl rfl ?_
    refine k_getI C O d_X_isMapping_6 fl_X_34 xr_0 rfl rfl rfl ?_
    refine k_icmp_ge C (tgt := 16) d_X_isMapping_9 (by decide) (fun c9 => ?_) (fun c9 => ?_)
    · refine k_iconst C (v := 0) d_X_isMapping_16 (by decide) ?_
      exact k_zret X d_X_isMapping_17 (Or.inl rfl) (⟨by simp only [xIn, if_neg c1, if_pos c9], by simp only [xIn, if_neg c1, if_pos c9]⟩)
    · refine k_iconst C (v := 1) d_X_isMapping_12 (by decide) ?_
      refine k_goto C (tgt := 17) d_X_isMapping_13 (by decide) ?_
      exact k_zret X d_X_isMapping_17 (Or.inr rfl) (⟨by simp only [xIn, if_neg c1, if_neg c9], by simp only [xIn, if_neg c1, if_neg c9]⟩)

set_option maxHeartbeats 4000000 in
set_option maxRecDepth 100000 in
theorem c_X_hasBit (l : Launch) (b : Nat → Nat → Nat) (dA : Nat → ClassId) (D : va_G) (g : kG) (m n : Int32) : kMd (sysX b dA D) l y_X_hasBit b_X_hasBit 2 (some .boolean) 0 0 [.inl m, .inl n] g (some (.inl (xBit m n))) g := by
  refine k_enter (by decide) [some (.inl m), some (.inl n)] rfl rfl (Nat.le_of_ble_eq_true rfl) (fun x X => ?_)
  have C := X.1
  have O := X.2.1
  refine k_iload_n C d_X_hasBit_0 rfl rfl ?_
  refine k_iload_n C d_X_hasBit_1 rfl rfl ?_
  refine k_iushr C d_X_hasBit_2 rfl ?_
  refine k_iconst C (v := 1) d_X_hasBit_3 (by decide) ?_
  refine k_iand C d_X_hasBit_4 ?_
  refine k_if_eq C (tgt := 12) d_X_hasBit_5 (by decide) (fun c5 => ?_) (fun c5 => ?_)
  · refine k_iconst C (v := 0) d_X_hasBit_12 (by decide) ?_
    exact k_zret X d_X_hasBit_13 (Or.inl rfl) (⟨by simp only [xBit, if_pos c5], by simp only [xBit, if_pos c5]⟩)
  · refine k_iconst C (v := 1) d_X_hasBit_8 (by decide) ?_
    refine k_goto C (tgt := 13) d_X_hasBit_9 (by decide) ?_
    exact k_zret X d_X_hasBit_13 (Or.inr rfl) (⟨by simp only [xBit, if_neg c5], by simp only [xBit, if_neg c5]⟩)

set_option maxHeartbeats 4000000 in
set_option maxRecDepth 100000 in
theorem c_X_isFresh (l : Launch) (b : Nat → Nat → Nat) (dA : Nat → ClassId) (D : va_G) (g : kG) (i : Nat) (hi : i < 24) (m : Int32) : kMd (sysX b dA D) l y_X_isFresh b_X_isFresh 2 (some .boolean) 1 21 [.inr (.inr (5, i)), .inl m] g (some (.inl (xFr g i m))) g := by
  refine k_enter (by decide) [some (.inr (.inr (5, i))), some (.inl m)] rfl rfl (Nat.le_of_ble_eq_true rfl) (fun x X => ?_)
  have C := X.1
  have O := X.2.1
  refine k_aload_n C d_X_isFresh_0 rfl rfl ?_
  refine k_cvI X d_X_isFresh_1 (c_F_isMade l b dA D g i hi) cv_X_70 (xr_5 hi) rfl rfl ⟨by decide, by decide⟩ rfl rfl (Nat.le_of_ble_eq_true rfl) ?_
  refine k_if_eq C (tgt := 18) d_X_isFresh_4 (by decide) (fun c4 => ?_) (fun c4 => ?_)
  · refine k_iconst C (v := 1) d_X_isFresh_18 (by decide) ?_
    refine k_goto C (tgt := 23) d_X_isFresh_19 (by decide) ?_
    exact k_zret X d_X_isFresh_23 (Or.inr rfl) (⟨by simp only [xFr, if_pos c4], by simp only [xFr, if_pos c4]⟩)
  · refine k_iload_n C d_X_isFresh_7 rfl rfl ?_
    refine k_aload_n C d_X_isFresh_8 rfl rfl ?_
    refine k_getI C O d_X_isFresh_9 fl_X_89 (xr_5 hi) rfl rfl rfl ?_
    refine k_csI X d_X_isFresh_12 (c_X_hasBit l b dA D g m (g.1 5 i 2)) cs_X_113 ⟨by decide, by decide⟩ rfl rfl (Nat.le_of_ble_eq_true rfl) ?_
    refine k_if_eq C (tgt := 22) d_X_isFresh_15 (by decide) (fun c15 => ?_) (fun c15 => ?_)
    · refine k_iconst C (v := 0) d_X_isFresh_22 (by decide) ?_
      exact k_zret X d_X_isFresh_23 (Or.inl rfl) (⟨by simp only [xFr, if_neg c4, if_pos c15], by simp only [xFr, if_neg c4, if_pos c15]⟩)
    · refine k_iconst C (v := 1) d_X_isFresh_18 (by decide) ?_
      refine k_goto C (tgt := 23) d_X_isFresh_19 (by decide) ?_
      exact k_zret X d_X_isFresh_23 (Or.inr rfl) (⟨by simp only [xFr, if_neg c4, if_neg c15], by simp only [xFr, if_neg c4, if_neg c15]⟩)

set_option maxHeartbeats 4000000 in
set_option maxRecDepth 100000 in
theorem c_X_memberDigest (l : Launch) (b : Nat → Nat → Nat) (dA : Nat → ClassId) (D : va_G) (g : kG) (d : Int64) (i : Int32) : kMd (sysX b dA D) l y_X_memberDigest b_X_memberDigest 3 (some .long) 0 0 [.inr (.inl d), .inl i] g (some (.inr (.inl (xMem d i)))) g := by
  refine k_enter (by decide) [some (.inr (.inl d)), none, some (.inl i)] rfl rfl (Nat.le_of_ble_eq_true rfl) (fun x X => ?_)
  have C := X.1
  have O := X.2.1
  refine k_lload_n C d_X_memberDigest_0 rfl rfl ?_
  refine k_iload_n C d_X_memberDigest_1 rfl rfl ?_
  refine k_i2l C d_X_memberDigest_2 ?_
  refine k_ldc2 C (v := 1000003) d_X_memberDigest_3 (by decide +kernel) ?_
  refine k_lmul C d_X_memberDigest_6 ?_
  refine k_lxor C d_X_memberDigest_7 ?_
  exact k_lret X d_X_memberDigest_8 (⟨by simp only [xMem], by simp only [xMem]⟩)

set_option maxHeartbeats 4000000 in
set_option maxRecDepth 100000 in
theorem c_J_floorMod (l : Launch) (b : Nat → Nat → Nat) (dA : Nat → ClassId) (D : va_G) (g : kG) (p q : Int64) (hq : ¬ q = 0) : kMd (sysX b dA D) l y_J_floorMod b_J_floorMod 6 (some .long) 0 0 [.inr (.inl p), .inr (.inl q)] g (some (.inr (.inl (jFm p q)))) g := by
  refine k_enterF (by decide +kernel) [some (.inr (.inl p)), none, some (.inr (.inl q)), none, none, none] rfl rfl (Nat.le_of_ble_eq_true rfl) (fun x X => ?_)
  have C := X.1
  have O := X.2.1
  refine k_lload_n C d_J_floorMod_0 rfl rfl ?_
  refine k_lload_n C d_J_floorMod_1 rfl rfl ?_
  refine k_lrem C d_J_floorMod_2 hq ?_
  refine k_lstore C d_J_floorMod_3 (Nat.le_of_ble_eq_true rfl) rfl ?_
  refine k_lload_n C d_J_floorMod_5 rfl rfl ?_
  refine k_lload_n C d_J_floorMod_6 rfl rfl ?_
  refine k_lxor C d_J_floorMod_7 ?_
  refine k_lconst C (v := 0) d_J_floorMod_8 (by decide) ?_
  refine k_lcmp C d_J_floorMod_9 ?_
  refine k_if_ge C (tgt := 25) d_J_floorMod_10 (by decide) (fun c10 => ?_) (fun c10 => ?_)
  · refine k_lload C d_J_floorMod_25 rfl ?_
    exact k_lret X d_J_floorMod_27 (⟨by simp only [jFm, if_pos c10], by simp only [jFm, if_pos c10]⟩)
  · refine k_lload C d_J_floorMod_13 rfl ?_
    refine k_lconst C (v := 0) d_J_floorMod_15 (by decide) ?_
    refine k_lcmp C d_J_floorMod_16 ?_
    refine k_if_eq C (tgt := 25) d_J_floorMod_17 (by decide) (fun c17 => ?_) (fun c17 => ?_)
    · refine k_lload C d_J_floorMod_25 rfl ?_
      exact k_lret X d_J_floorMod_27 (⟨by simp only [jFm, if_neg c10, if_pos c17], by simp only [jFm, if_neg c10, if_pos c17]⟩)
    · refine k_lload C d_J_floorMod_20 rfl ?_
      refine k_lload_n C d_J_floorMod_22 rfl rfl ?_
      refine k_ladd C d_J_floorMod_23 ?_
      exact k_lret X d_J_floorMod_24 (⟨by simp only [jFm, if_neg c10, if_neg c17], by simp only [jFm, if_neg c10, if_neg c17]⟩)

set_option maxHeartbeats 4000000 in
set_option maxRecDepth 100000 in
theorem c_X_treeSize (l : Launch) (b : Nat → Nat → Nat) (dA : Nat → ClassId) (D : va_G) (g : kG) (i : Nat) (hi : i < 24) : kMd (sysX b dA D) l y_X_treeSize b_X_treeSize 1 (some .int) 1 25 [.inr (.inr (5, i))] g (some (.inl (xTree g i))) g := by
  refine k_enter (by decide) [some (.inr (.inr (5, i)))] rfl rfl (Nat.le_of_ble_eq_true rfl) (fun x X => ?_)
  have C := X.1
  have O := X.2.1
  refine k_aload_n C d_X_treeSize_0 rfl rfl ?_
  refine k_cvI X d_X_treeSize_1 (c_F_isMade l b dA D g i hi) cv_X_70 (xr_5 hi) rfl rfl ⟨by decide, by decide⟩ rfl rfl (Nat.le_of_ble_eq_true rfl) ?_
  refine k_if_eq C (tgt := 14) d_X_treeSize_4 (by decide) (fun c4 => ?_) (fun c4 => ?_)
  · refine k_iconst C (v := 0) d_X_treeSize_14 (by decide) ?_
    exact k_iret X d_X_treeSize_15 (⟨by simp only [xTree, if_pos c4], by simp only [xTree, if_pos c4]⟩)
  · refine k_aload_n C d_X_treeSize_7 rfl rfl ?_
    refine k_getI C O d_X_treeSize_8 fl_X_158 (xr_5 hi) rfl rfl rfl ?_
    refine k_if_ne C (tgt := 16) d_X_treeSize_11 (by decide) (fun c11 => ?_) (fun c11 => ?_)
    · refine k_aload_n C d_X_treeSize_16 rfl rfl ?_
      refine k_getJ C O d_X_treeSize_17 fl_X_132 (xr_5 hi) rfl rfl rfl ?_
      refine k_ldc2 C (v := 5) d_X_treeSize_20 (by decide +kernel) ?_
      refine k_csJ X d_X_treeSize_23 (c_J_floorMod l b dA D g (g.2 5 i 1) 5 (by decide)) cs_X_230 ⟨by decide, by decide⟩ rfl rfl (Nat.le_of_ble_eq_true rfl) ?_
      refine k_l2i C d_X_treeSize_26 ?_
      exact k_iret X d_X_treeSize_27 (⟨by simp only [xTree, if_neg c4, if_neg c11], by simp only [xTree, if_neg c4, if_neg c11]⟩)
    · refine k_iconst C (v := 0) d_X_treeSize_14 (by decide) ?_
      exact k_iret X d_X_treeSize_15 (⟨by simp only [xTree, if_neg c4, if_pos c11], by simp only [xTree, if_neg c4, if_pos c11]⟩)

set_option maxHeartbeats 4000000 in
set_option maxRecDepth 100000 in
theorem c_N_isLike (l : Launch) (b : Nat → Nat → Nat) (dA : Nat → ClassId) (D : va_G) (g : kG) (i : Nat) (hi : i < 12) (j : Int32) (hj : vp_in j 12) (f : Nat) (hf : f < 24) : kMd (sysX b dA D) l y_N_isLike b_N_isLike 3 (some .boolean) 0 0 [.inr (.inr (9, i)), .inl j, .inr (.inr (5, f))] g (some (.inl (xLike g i j f))) g := by
  refine k_enter (by decide) [some (.inr (.inr (9, i))), some (.inl j), some (.inr (.inr (5, f)))] rfl rfl (Nat.le_of_ble_eq_true rfl) (fun x X => ?_)
  have C := X.1
  have O := X.2.1
  refine k_aload_n C d_N_isLike_0 rfl rfl ?_
  refine k_getR C O (r := (11, _)) d_N_isLike_1 fl_N_15 (xr_9 hi) rfl rfl rfl rfl ?_
  refine k_iload_n C d_N_isLike_4 rfl rfl ?_
  refine k_zald2 C O d_N_isLike_5 (xr_11 hi) rfl 1 rfl hj rfl ?_
  refine k_aload_n C d_N_isLike_6 rfl rfl ?_
  refine k_getI C O d_N_isLike_7 fl_N_34 (xr_5 hf) rfl rfl rfl ?_
  refine k_icmp_ne C (tgt := 40) d_N_isLike_10 (by decide) (fun c10 => ?_) (fun c10 => ?_)
  · refine k_iconst C (v := 0) d_N_isLike_40 (by decide) ?_
    exact k_zret X d_N_isLike_41 (Or.inl rfl) (⟨by simp only [xLike, if_neg c10], by simp only [xLike, if_neg c10]⟩)
  · refine k_aload_n C d_N_isLike_13 rfl rfl ?_
    refine k_getR C O (r := (12, _)) d_N_isLike_14 fl_N_19 (xr_9 hi) rfl rfl rfl rfl ?_
    refine k_iload_n C d_N_isLike_17 rfl rfl ?_
    refine k_zald2 C O d_N_isLike_18 (xr_12 hi) rfl 1 rfl hj rfl ?_
    refine k_if_eq C (tgt := 36) d_N_isLike_19 (by decide) (fun c19 => ?_) (fun c19 => ?_)
    · refine k_iconst C (v := 1) d_N_isLike_36 (by decide) ?_
      refine k_goto C (tgt := 41) d_N_isLike_37 (by decide) ?_
      exact k_zret X d_N_isLike_41 (Or.inr rfl) (⟨by simp only [xLike, if_pos c10, if_pos c19], by simp only [xLike, if_pos c10, if_pos c19]⟩)
    · refine k_aload_n C d_N_isLike_22 rfl rfl ?_
      refine k_getR C O (r := (13, _)) d_N_isLike_23 fl_N_22 (xr_9 hi) rfl rfl rfl rfl ?_
      refine k_iload_n C d_N_isLike_26 rfl rfl ?_
      refine k_lald2 C O d_N_isLike_27 (xr_13 hi) rfl 2 rfl hj rfl ?_
      refine k_aload_n C d_N_isLike_28 rfl rfl ?_
      refine k_getJ C O d_N_isLike_29 fl_N_39 (xr_5 hf) rfl rfl rfl ?_
      refine k_lcmp C d_N_isLike_32 ?_
      refine k_if_ne C (tgt := 40) d_N_isLike_33 (by decide) (fun c33 => ?_) (fun c33 => ?_)
      · refine k_iconst C (v := 0) d_N_isLike_40 (by decide) ?_
        exact k_zret X d_N_isLike_41 (Or.inl rfl) (⟨by simp only [xLike, if_pos c10, if_neg c19, if_neg c33], by simp only [xLike, if_pos c10, if_neg c19, if_neg c33]⟩)
      · refine k_iconst C (v := 1) d_N_isLike_36 (by decide) ?_
        refine k_goto C (tgt := 41) d_N_isLike_37 (by decide) ?_
        exact k_zret X d_N_isLike_41 (Or.inr rfl) (⟨by simp only [xLike, if_pos c10, if_neg c19, if_pos c33], by simp only [xLike, if_pos c10, if_neg c19, if_pos c33]⟩)

set_option maxHeartbeats 4000000 in
set_option maxRecDepth 100000 in
theorem c_N_tell (l : Launch) (b : Nat → Nat → Nat) (dA : Nat → ClassId) (D : va_G) (g : kG) (i : Nat) (hi : i < 12) (j w : Int32) (hj : ¬ j < 0 → j < g.1 9 i 4 → vp_in j 12) : kMd (sysX b dA D) l y_N_tell b_N_tell 3 (some .int) 0 0 [.inr (.inr (9, i)), .inl j, .inl w] g (some (.inl (xTell g i j w))) g := by
  refine k_enter (by decide) [some (.inr (.inr (9, i))), some (.inl j), some (.inl w)] rfl rfl (Nat.le_of_ble_eq_true rfl) (fun x X => ?_)
  have C := X.1
  have O := X.2.1
  refine k_iload_n C d_N_tell_0 rfl rfl ?_
  refine k_if_lt C (tgt := 12) d_N_tell_1 (by decide) (fun c1 => ?_) (fun c1 => ?_)
  · refine k_iconst C (v := (-1)) d_N_tell_12 (by decide) ?_
    exact k_iret X d_N_tell_13 (⟨by simp only [xTell, if_pos c1]; try simp [], by simp only [xTell, if_pos c1]⟩)
  · refine k_iload_n C d_N_tell_4 rfl rfl ?_
    refine k_aload_n C d_N_tell_5 rfl rfl ?_
    refine k_getI C O d_N_tell_6 fl_N_26 (xr_9 hi) rfl rfl rfl ?_
    refine k_icmp_lt C (tgt := 14) d_N_tell_9 (by decide) (fun c9 => ?_) (fun c9 => ?_)
    · refine k_iload_n C d_N_tell_14 rfl rfl ?_
      by_cases s15 : (w).toInt < 0 ∨ 2 < (w).toInt
      · refine k_tabOut C (tgt := 77) d_N_tell_15 s15 (by decide) ?_
        refine k_iconst C (v := (-1)) d_N_tell_77 (by decide) ?_
        exact k_iret X d_N_tell_78 (⟨by simp only [xTell, if_neg c1, if_pos c9, if_pos s15]; try simp [], by simp only [xTell, if_neg c1, if_pos c9, if_pos s15]⟩)
      · have q15 : (w) = 0 ∨ (w) = 1 ∨ (w) = 2 := by
          have h1 : 0 ≤ (w).toInt := by omega
          have h2 : (w).toInt ≤ 2 := by omega
          have h3 : (w).toInt = 0 ∨ (w).toInt = 1 ∨ (w).toInt = 2 := by omega
          rcases h3 with h3 | h3 | h3
          · exact Or.inl (Int32.toInt_inj.mp (h3.trans (by decide)))
          · exact Or.inr (Or.inl (Int32.toInt_inj.mp (h3.trans (by decide))))
          · exact Or.inr (Or.inr ((Int32.toInt_inj.mp (h3.trans (by decide)))))
        rcases q15 with q15 | q15 | q15
        · refine k_tabIn C (tgt := 40) (off := 25) d_N_tell_15 (fun h => s15 (Or.inl h)) (fun h => s15 (Or.inr h)) (by rw [q15]; decide +kernel) (by decide) ?_
          refine k_aload_n C d_N_tell_40 rfl rfl ?_
          refine k_getR C O (r := (10, _)) d_N_tell_41 fl_N_9 (xr_9 hi) rfl rfl rfl rfl ?_
          refine k_iload_n C d_N_tell_44 rfl rfl ?_
          refine k_iald2 C O d_N_tell_45 (xr_10 hi) rfl 0 rfl (hj c1 c9) rfl ?_
          exact k_iret X d_N_tell_46 (⟨by simp only [xTell, if_neg c1, if_pos c9, if_neg s15]; try simp [q15], by simp only [xTell, if_neg c1, if_pos c9, if_neg s15]⟩)
        · refine k_tabIn C (tgt := 47) (off := 32) d_N_tell_15 (fun h => s15 (Or.inl h)) (fun h => s15 (Or.inr h)) (by rw [q15]; decide +kernel) (by decide) ?_
          refine k_aload_n C d_N_tell_47 rfl rfl ?_
          refine k_getR C O (r := (11, _)) d_N_tell_48 fl_N_15 (xr_9 hi) rfl rfl rfl rfl ?_
          refine k_iload_n C d_N_tell_51 rfl rfl ?_
          refine k_zald2 C O d_N_tell_52 (xr_11 hi) rfl 1 rfl (hj c1 c9) rfl ?_
          refine k_if_eq C (tgt := 60) d_N_tell_53 (by decide) (fun c53 => ?_) (fun c53 => ?_)
          · refine k_iconst C (v := 0) d_N_tell_60 (by decide) ?_
            exact k_iret X d_N_tell_61 (⟨by simp only [xTell, if_neg c1, if_pos c9, if_neg s15, if_pos c53]; try simp [q15], by simp only [xTell, if_neg c1, if_pos c9, if_neg s15, if_pos c53]⟩)
          · refine k_iconst C (v := 1) d_N_tell_56 (by decide) ?_
            refine k_goto C (tgt := 61) d_N_tell_57 (by decide) ?_
            exact k_iret X d_N_tell_61 (⟨by simp only [xTell, if_neg c1, if_pos c9, if_neg s15, if_neg c53]; try simp [q15], by simp only [xTell, if_neg c1, if_pos c9, if_neg s15, if_neg c53]⟩)
        · refine k_tabIn C (tgt := 62) (off := 47) d_N_tell_15 (fun h => s15 (Or.inl h)) (fun h => s15 (Or.inr h)) (by rw [q15]; decide +kernel) (by decide) ?_
          refine k_aload_n C d_N_tell_62 rfl rfl ?_
          refine k_getR C O (r := (12, _)) d_N_tell_63 fl_N_19 (xr_9 hi) rfl rfl rfl rfl ?_
          refine k_iload_n C d_N_tell_66 rfl rfl ?_
          refine k_zald2 C O d_N_tell_67 (xr_12 hi) rfl 1 rfl (hj c1 c9) rfl ?_
          refine k_if_eq C (tgt := 75) d_N_tell_68 (by decide) (fun c68 => ?_) (fun c68 => ?_)
          · refine k_iconst C (v := 0) d_N_tell_75 (by decide) ?_
            exact k_iret X d_N_tell_76 (⟨by simp only [xTell, if_neg c1, if_pos c9, if_neg s15, if_pos c68]; try simp [q15], by simp only [xTell, if_neg c1, if_pos c9, if_neg s15, if_pos c68]⟩)
          · refine k_iconst C (v := 1) d_N_tell_71 (by decide) ?_
            refine k_goto C (tgt := 76) d_N_tell_72 (by decide) ?_
            exact k_iret X d_N_tell_76 (⟨by simp only [xTell, if_neg c1, if_pos c9, if_neg s15, if_neg c68]; try simp [q15], by simp only [xTell, if_neg c1, if_pos c9, if_neg s15, if_neg c68]⟩)
    · refine k_iconst C (v := (-1)) d_N_tell_12 (by decide) ?_
      exact k_iret X d_N_tell_13 (⟨by simp only [xTell, if_neg c1, if_neg c9]; try simp [], by simp only [xTell, if_neg c1, if_neg c9]⟩)
end
section
/-! the class: specs and contracts, 2: loops over notes, members, actions (by program: wip/gen/cx2.py) -/
def xPl (g : kG) (i : Nat) (num : Int32) : Nat → Nat → Nat
  | 0, k => k
  | n + 1, k => if g.1 10 i k = num then k else xPl g i num n (k + 1)
def xFb (g : kG) (i : Nat) : Nat → Nat → Int32 → Int32
  | 0, _, a => a
  | n + 1, k, a => xFb g i n (k + 1) (a ||| (1 <<< (g.1 10 i k &&& 31)))
def xHm (g : kG) (i : Nat) (d : Int64) : Nat → Nat → Int32
  | 0, _ => 0
  | n + 1, k => if lg_cmp (xMem (g.2 14 i 2) (nI k)) d = 0 then 1 else xHm g i d n (k + 1)
def xTk (g : kG) (i : Nat) (d : Int64) : Nat → Nat → Int32 → Int32
  | 0, _, a => a
  | n + 1, k, a => xTk g i d n (k + 1) (if xHm g i (xMem d (nI k)) (tn (g.1 14 i 3)) 0 = 0 then a + 1 else a)
def xRes (g : kG) (i : Nat) (j : Int32) : Int64 := if j < 0 then 0 else if g.1 14 i 3 ≤ j then 0 else 17 * xMem (g.2 14 i 2) j + g.2 14 i 1
def xHo (g : kG) (i : Nat) (m : Int32) : Nat → Nat → Int32
  | 0, _ => 1
  | n + 1, k => if xLike g i (nI k) (tn (g.1 10 i k)) = 0 then 0 else if xFr g (tn (g.1 10 i k)) m = 0 then 0 else xHo g i m n (k + 1)
def xHold (g : kG) (i : Nat) (m : Int32) : Int32 := if g.1 6 i 6 = 0 then 0 else xHo g i m (tn (g.1 9 i 4)) 0
def xRd (g : kG) : Nat → Nat → Int32 → Int32
  | 0, _, m => m
  | n + 1, k, m => xRd g n (k + 1) (if xHold g k m = 0 then m else m ||| (1 <<< (nI k &&& 31)))
def xFa (g : kG) (na : Nat) : Nat → Int32 → Int32
  | 0, m => m
  | n + 1, m => if xRd g na 0 m = m then xRd g na 0 m else xFa g na n (xRd g na 0 m)
def xFresh (g : kG) : Int32 := xFa g (tn (g.1 0 0 5)) (tn (g.1 0 0 5)) 0
def xTr (g : kG) (mk : Int32) (dp : Nat) : Nat → Nat → Int32 × kG
  | 0, _ => (0, g)
  | n + 1, k => if g.1 4 0 k = mk then (1, (kU (kU g.1 0 0 8 (nI k)) 0 0 9 (nI dp - nI k), g.2)) else xTr g mk dp n (k + 1)
theorem x_ge {c k : Nat} {v : Int32} (hv : v = nI c) (h : c ≤ k) (hk : k < 2 ^ 31) : v ≤ nI k := by rw [hv]; exact nI_le h hk
theorem x_lt {c k : Nat} {v : Int32} (hv : v = nI c) (h : k < c) (hc : c < 2 ^ 31) : ¬ v ≤ nI k := by rw [hv]; exact nI_ge h hc
set_option maxHeartbeats 4000000 in
set_option maxRecDepth 100000 in
theorem l_N_placeOf {x : kCx} (l : Launch) (b : Nat → Nat → Nat) (dA : Nat → ClassId) (D : va_G) (g : kG) (i : Nat) (hi : i < 12) (num : Int32) (c : Nat) (hc : g.1 9 i 4 = nI c) (h12 : c ≤ 12) (X : kIn (sysX b dA D) l b_N_placeOf y_N_placeOf.cls 3 (some .int) 0 0 x) : ∀ (n : Nat) (k : Nat), k + n = c → Wk (kWd (sysX b dA D)) (kAA (sysX b dA D)) (y_ad (sysX b dA D)) x (0, 0) (kQ (sysX b dA D) (fun r g2 => r = some (.inl (nI (xPl g i num n k))) ∧ g2 = g) x) 2 [some (.inr (.inr (9, i))), some (.inl num), some (.inl (nI k))] [] g := by
  have C := X.1
  have O := X.2.1
  intro n
  induction n with
  | zero =>
    intro k hk
    refine k_iload_n C d_N_placeOf_2 rfl rfl ?_
    refine k_aload_n C d_N_placeOf_3 rfl rfl ?_
    refine k_getI C O d_N_placeOf_4 fl_N_26 (xr_9 hi) rfl rfl rfl ?_
    refine k_icmp_ge C (tgt := 28) d_N_placeOf_7 (by decide) (fun c7 => ?_) (fun c7 => ?_)
    · refine k_aload_n C d_N_placeOf_28 rfl rfl ?_
      refine k_getI C O d_N_placeOf_29 fl_N_26 (xr_9 hi) rfl rfl rfl ?_
      exact k_iret X d_N_placeOf_32 (⟨by rw [hc]; simp only [xPl]; rw [show c = k by omega], rfl⟩)
    · exact absurd (x_ge hc (by omega) (by omega)) c7
  | succ n ih =>
    intro k hk
    refine k_iload_n C d_N_placeOf_2 rfl rfl ?_
    refine k_aload_n C d_N_placeOf_3 rfl rfl ?_
    refine k_getI C O d_N_placeOf_4 fl_N_26 (xr_9 hi) rfl rfl rfl ?_
    refine k_icmp_ge C (tgt := 28) d_N_placeOf_7 (by decide) (fun c7 => ?_) (fun c7 => ?_)
    · exact absurd c7 (x_lt hc (by omega) (by omega))
    · refine k_aload_n C d_N_placeOf_10 rfl rfl ?_
      refine k_getR C O (r := (10, _)) d_N_placeOf_11 fl_N_9 (xr_9 hi) rfl rfl rfl rfl ?_
      refine k_iload_n C d_N_placeOf_14 rfl rfl ?_
      refine k_iald2 C O (q := k) d_N_placeOf_15 (xr_10 hi) rfl 0 rfl (show vp_in (nI k) 12 from vp_in_nI (by omega) (by decide)) (nI_clamp (by omega)) ?_
      refine k_iload_n C d_N_placeOf_16 rfl rfl ?_
      refine k_icmp_ne C (tgt := 22) d_N_placeOf_17 (by decide) (fun c17 => ?_) (fun c17 => ?_)
      · refine k_iinc C (w := nI (k + 1)) d_N_placeOf_22 rfl (nI_inc k) rfl ?_
        refine k_goto C (tgt := 2) d_N_placeOf_25 (by decide) ?_
        have h9 := ih (k + 1) (by omega)
        simp only [xPl, if_neg c17]
        exact h9
      · refine k_iload_n C d_N_placeOf_20 rfl rfl ?_
        exact k_iret X d_N_placeOf_21 (⟨by simp only [xPl, if_pos c17], rfl⟩)

set_option maxHeartbeats 4000000 in
set_option maxRecDepth 100000 in
theorem c_N_placeOf (l : Launch) (b : Nat → Nat → Nat) (dA : Nat → ClassId) (D : va_G) (g : kG) (i : Nat) (hi : i < 12) (num : Int32) (c : Nat) (hc : g.1 9 i 4 = nI c) (h12 : c ≤ 12) : kMd (sysX b dA D) l y_N_placeOf b_N_placeOf 3 (some .int) 0 0 [.inr (.inr (9, i)), .inl num] g (some (.inl (nI (xPl g i num c 0)))) g := by
  refine k_enter (by decide) [some (.inr (.inr (9, i))), some (.inl num), none] rfl rfl (Nat.le_of_ble_eq_true rfl) (fun x X => ?_)
  have C := X.1
  have O := X.2.1
  refine k_iconst C (v := 0) d_N_placeOf_0 (by decide) ?_
  refine k_istore_n C d_N_placeOf_1 rfl (Nat.le_of_ble_eq_true rfl) rfl ?_
  exact l_N_placeOf l b dA D g i hi num c hc h12 X c 0 (by omega)

set_option maxHeartbeats 4000000 in
set_option maxRecDepth 100000 in
theorem l_N_fileBits {x : kCx} (l : Launch) (b : Nat → Nat → Nat) (dA : Nat → ClassId) (D : va_G) (g : kG) (i : Nat) (hi : i < 12) (c : Nat) (hc : g.1 9 i 4 = nI c) (h12 : c ≤ 12) (X : kIn (sysX b dA D) l b_N_fileBits y_N_fileBits.cls 3 (some .int) 0 0 x) : ∀ (n : Nat) (k : Nat) (a : Int32), k + n = c → Wk (kWd (sysX b dA D)) (kAA (sysX b dA D)) (y_ad (sysX b dA D)) x (0, 0) (kQ (sysX b dA D) (fun r g2 => r = some (.inl (xFb g i n k a)) ∧ g2 = g) x) 4 [some (.inr (.inr (9, i))), some (.inl a), some (.inl (nI k))] [] g := by
  have C := X.1
  have O := X.2.1
  intro n
  induction n with
  | zero =>
    intro k a hk
    refine k_iload_n C d_N_fileBits_4 rfl rfl ?_
    refine k_aload_n C d_N_fileBits_5 rfl rfl ?_
    refine k_getI C O d_N_fileBits_6 fl_N_26 (xr_9 hi) rfl rfl rfl ?_
    refine k_icmp_ge C (tgt := 29) d_N_fileBits_9 (by decide) (fun c9 => ?_) (fun c9 => ?_)
    · refine k_iload_n C d_N_fileBits_29 rfl rfl ?_
      exact k_iret X d_N_fileBits_30 (⟨by simp only [xFb], rfl⟩)
    · exact absurd (x_ge hc (by omega) (by omega)) c9
  | succ n ih =>
    intro k a hk
    refine k_iload_n C d_N_fileBits_4 rfl rfl ?_
    refine k_aload_n C d_N_fileBits_5 rfl rfl ?_
    refine k_getI C O d_N_fileBits_6 fl_N_26 (xr_9 hi) rfl rfl rfl ?_
    refine k_icmp_ge C (tgt := 29) d_N_fileBits_9 (by decide) (fun c9 => ?_) (fun c9 => ?_)
    · exact absurd c9 (x_lt hc (by omega) (by omega))
    · refine k_iload_n C d_N_fileBits_12 rfl rfl ?_
      refine k_iconst C (v := 1) d_N_fileBits_13 (by decide) ?_
      refine k_aload_n C d_N_fileBits_14 rfl rfl ?_
      refine k_getR C O (r := (10, _)) d_N_fileBits_15 fl_N_9 (xr_9 hi) rfl rfl rfl rfl ?_
      refine k_iload_n C d_N_fileBits_18 rfl rfl ?_
      refine k_iald2 C O (q := k) d_N_fileBits_19 (xr_10 hi) rfl 0 rfl (show vp_in (nI k) 12 from vp_in_nI (by omega) (by decide)) (nI_clamp (by omega)) ?_
      refine k_ishl C d_N_fileBits_20 ?_
      refine k_ior C d_N_fileBits_21 ?_
      refine k_istore_n C d_N_fileBits_22 rfl (Nat.le_of_ble_eq_true rfl) rfl ?_
      refine k_iinc C (w := nI (k + 1)) d_N_fileBits_23 rfl (nI_inc k) rfl ?_
      refine k_goto C (tgt := 4) d_N_fileBits_26 (by decide) ?_
      exact ih (k + 1) _ (by omega)

set_option maxHeartbeats 4000000 in
set_option maxRecDepth 100000 in
theorem c_N_fileBits (l : Launch) (b : Nat → Nat → Nat) (dA : Nat → ClassId) (D : va_G) (g : kG) (i : Nat) (hi : i < 12) (c : Nat) (hc : g.1 9 i 4 = nI c) (h12 : c ≤ 12) : kMd (sysX b dA D) l y_N_fileBits b_N_fileBits 3 (some .int) 0 0 [.inr (.inr (9, i))] g (some (.inl (xFb g i c 0 0))) g := by
  refine k_enter (by decide) [some (.inr (.inr (9, i))), none, none] rfl rfl (Nat.le_of_ble_eq_true rfl) (fun x X => ?_)
  have C := X.1
  have O := X.2.1
  refine k_iconst C (v := 0) d_N_fileBits_0 (by decide) ?_
  refine k_istore_n C d_N_fileBits_1 rfl (Nat.le_of_ble_eq_true rfl) rfl ?_
  refine k_iconst C (v := 0) d_N_fileBits_2 (by decide) ?_
  refine k_istore_n C d_N_fileBits_3 rfl (Nat.le_of_ble_eq_true rfl) rfl ?_
  exact l_N_fileBits l b dA D g i hi c hc h12 X c 0 0 (by omega)

set_option maxHeartbeats 4000000 in
set_option maxRecDepth 100000 in
theorem l_G_hasMember {x : kCx} (l : Launch) (b : Nat → Nat → Nat) (dA : Nat → ClassId) (D : va_G) (g : kG) (i : Nat) (hi : i < 6) (d : Int64) (c : Nat) (hc : g.1 14 i 3 = nI c) (h12 : c ≤ 4) (X : kIn (sysX b dA D) l b_G_hasMember y_G_hasMember.cls 4 (some .boolean) 1 22 x) : ∀ (n : Nat) (k : Nat), k + n = c → Wk (kWd (sysX b dA D)) (kAA (sysX b dA D)) (y_ad (sysX b dA D)) x (0, 0) (kQ (sysX b dA D) (fun r g2 => r = some (.inl (xHm g i d n k)) ∧ g2 = g) x) 2 [some (.inr (.inr (14, i))), some (.inr (.inl d)), none, some (.inl (nI k))] [] g := by
  have C := X.1
  have O := X.2.1
  intro n
  induction n with
  | zero =>
    intro k hk
    refine k_iload_n C d_G_hasMember_2 rfl rfl ?_
    refine k_aload_n C d_G_hasMember_3 rfl rfl ?_
    refine k_getI C O d_G_hasMember_4 fl_G_22 (xr_14 hi) rfl rfl rfl ?_
    refine k_icmp_ge C (tgt := 31) d_G_hasMember_7 (by decide) (fun c7 => ?_) (fun c7 => ?_)
    · refine k_iconst C (v := 0) d_G_hasMember_31 (by decide) ?_
      exact k_zret X d_G_hasMember_32 (Or.inl rfl) (⟨by simp only [xHm], rfl⟩)
    · exact absurd (x_ge hc (by omega) (by omega)) c7
  | succ n ih =>
    intro k hk
    refine k_iload_n C d_G_hasMember_2 rfl rfl ?_
    refine k_aload_n C d_G_hasMember_3 rfl rfl ?_
    refine k_getI C O d_G_hasMember_4 fl_G_22 (xr_14 hi) rfl rfl rfl ?_
    refine k_icmp_ge C (tgt := 31) d_G_hasMember_7 (by decide) (fun c7 => ?_) (fun c7 => ?_)
    · exact absurd c7 (x_lt hc (by omega) (by omega))
    · refine k_aload_n C d_G_hasMember_10 rfl rfl ?_
      refine k_getJ C O d_G_hasMember_11 fl_G_19 (xr_14 hi) rfl rfl rfl ?_
      refine k_iload_n C d_G_hasMember_14 rfl rfl ?_
      refine k_cnJ X d_G_hasMember_15 (c_X_memberDigest l b dA D g (g.2 14 i 2) (nI k)) rfl ⟨by decide, by decide⟩ rfl rfl (Nat.le_of_ble_eq_true rfl) ?_
      refine k_lload_n C d_G_hasMember_18 rfl rfl ?_
      refine k_lcmp C d_G_hasMember_19 ?_
      refine k_if_ne C (tgt := 25) d_G_hasMember_20 (by decide) (fun c20 => ?_) (fun c20 => ?_)
      · refine k_iinc C (w := nI (k + 1)) d_G_hasMember_25 rfl (nI_inc k) rfl ?_
        refine k_goto C (tgt := 2) d_G_hasMember_28 (by decide) ?_
        have h9 := ih (k + 1) (by omega)
        simp only [xHm, if_neg c20]
        exact h9
      · refine k_iconst C (v := 1) d_G_hasMember_23 (by decide) ?_
        exact k_zret X d_G_hasMember_24 (Or.inr rfl) (⟨by simp only [xHm, if_pos c20], rfl⟩)

set_option maxHeartbeats 4000000 in
set_option maxRecDepth 100000 in
theorem c_G_hasMember (l : Launch) (b : Nat → Nat → Nat) (dA : Nat → ClassId) (D : va_G) (g : kG) (i : Nat) (hi : i < 6) (d : Int64) (c : Nat) (hc : g.1 14 i 3 = nI c) (h12 : c ≤ 4) : kMd (sysX b dA D) l y_G_hasMember b_G_hasMember 4 (some .boolean) 1 22 [.inr (.inr (14, i)), .inr (.inl d)] g (some (.inl (xHm g i d c 0))) g := by
  refine k_enter (by decide) [some (.inr (.inr (14, i))), some (.inr (.inl d)), none, none] rfl rfl (Nat.le_of_ble_eq_true rfl) (fun x X => ?_)
  have C := X.1
  have O := X.2.1
  refine k_iconst C (v := 0) d_G_hasMember_0 (by decide) ?_
  refine k_istore_n C d_G_hasMember_1 rfl (Nat.le_of_ble_eq_true rfl) rfl ?_
  exact l_G_hasMember l b dA D g i hi d c hc h12 X c 0 (by omega)

set_option maxHeartbeats 4000000 in
set_option maxRecDepth 100000 in
theorem l_G_take {x : kCx} (l : Launch) (b : Nat → Nat → Nat) (dA : Nat → ClassId) (D : va_G) (g : kG) (i : Nat) (hi : i < 6) (d : Int64) (c : Nat) (hc : g.1 14 i 3 = nI c) (h12 : c ≤ 4) (w : Nat) (hw : w ≤ 4) (X : kIn (sysX b dA D) l b_G_take y_G_take.cls 6 (some .int) 2 45 x) : ∀ (n : Nat) (k : Nat) (a : Int32), k + n = w → Wk (kWd (sysX b dA D)) (kAA (sysX b dA D)) (y_ad (sysX b dA D)) x (0, 0) (kQ (sysX b dA D) (fun r g2 => r = some (.inl (xTk g i d n k a)) ∧ g2 = (kU g.1 14 i 3 (nI w), kUJ g.2 14 i 2 d)) x) 6 [some (.inr (.inr (14, i))), some (.inr (.inl d)), none, some (.inl (nI w)), some (.inl a), some (.inl (nI k))] [] g := by
  have C := X.1
  have O := X.2.1
  intro n
  induction n with
  | zero =>
    intro k a hk
    refine k_iload C d_G_take_6 rfl ?_
    refine k_iload_n C d_G_take_8 rfl rfl ?_
    refine k_icmp_ge C (tgt := 34) d_G_take_9 (by decide) (fun c9 => ?_) (fun c9 => ?_)
    · refine k_aload_n C d_G_take_34 rfl rfl ?_
      refine k_lload_n C d_G_take_35 rfl rfl ?_
      refine k_putJ C O d_G_take_36 fp_G_19 (xr_14 hi) rfl rfl rfl ?_
      refine k_aload_n C d_G_take_39 rfl rfl ?_
      refine k_iload_n C d_G_take_40 rfl rfl ?_
      refine k_putI C O d_G_take_41 fp_G_22 (xr_14 hi) rfl rfl rfl ?_
      refine k_iload C d_G_take_44 rfl ?_
      exact k_iret X d_G_take_46 (⟨by simp only [xTk], rfl⟩)
    · exact absurd (x_ge rfl (by omega) (by omega)) c9
  | succ n ih =>
    intro k a hk
    refine k_iload C d_G_take_6 rfl ?_
    refine k_iload_n C d_G_take_8 rfl rfl ?_
    refine k_icmp_ge C (tgt := 34) d_G_take_9 (by decide) (fun c9 => ?_) (fun c9 => ?_)
    · exact absurd c9 (x_lt rfl (by omega) (by omega))
    · refine k_aload_n C d_G_take_12 rfl rfl ?_
      refine k_lload_n C d_G_take_13 rfl rfl ?_
      refine k_iload C d_G_take_14 rfl ?_
      refine k_cnJ X d_G_take_16 (c_X_memberDigest l b dA D g d (nI k)) rfl ⟨by decide, by decide⟩ rfl rfl (Nat.le_of_ble_eq_true rfl) ?_
      refine k_cvI X d_G_take_19 (c_G_hasMember l b dA D g i hi (xMem d (nI k)) c hc h12) cv_G_29 (xr_14 hi) rfl rfl ⟨by decide, by decide⟩ rfl rfl (Nat.le_of_ble_eq_true rfl) ?_
      refine k_if_ne C (tgt := 28) d_G_take_22 (by decide) (fun c22 => ?_) (fun c22 => ?_)
      · refine k_iinc C (w := nI (k + 1)) d_G_take_28 rfl (nI_inc k) rfl ?_
        refine k_goto C (tgt := 6) d_G_take_31 (by decide) ?_
        have e9 : tn (g.1 14 i 3) = c := by rw [hc]; exact nI_clamp (by omega)
        simp only [xTk, e9, if_neg c22]
        exact ih (k + 1) _ (by omega)
      · refine k_iinc C d_G_take_25 rfl rfl rfl ?_
        refine k_iinc C (w := nI (k + 1)) d_G_take_28 rfl (nI_inc k) rfl ?_
        refine k_goto C (tgt := 6) d_G_take_31 (by decide) ?_
        have e9 : tn (g.1 14 i 3) = c := by rw [hc]; exact nI_clamp (by omega)
        simp only [xTk, e9, if_pos c22]
        exact ih (k + 1) _ (by omega)

set_option maxHeartbeats 4000000 in
set_option maxRecDepth 100000 in
theorem c_G_take (l : Launch) (b : Nat → Nat → Nat) (dA : Nat → ClassId) (D : va_G) (g : kG) (i : Nat) (hi : i < 6) (d : Int64) (c : Nat) (hc : g.1 14 i 3 = nI c) (h12 : c ≤ 4) (w : Nat) (hw : w ≤ 4) : kMd (sysX b dA D) l y_G_take b_G_take 6 (some .int) 2 45 [.inr (.inr (14, i)), .inr (.inl d), .inl (nI w)] g (some (.inl (xTk g i d w 0 0))) (kU g.1 14 i 3 (nI w), kUJ g.2 14 i 2 d) := by
  refine k_enter (by decide) [some (.inr (.inr (14, i))), some (.inr (.inl d)), none, some (.inl (nI w)), none, none] rfl rfl (Nat.le_of_ble_eq_true rfl) (fun x X => ?_)
  have C := X.1
  have O := X.2.1
  refine k_iconst C (v := 0) d_G_take_0 (by decide) ?_
  refine k_istore C d_G_take_1 (Nat.le_of_ble_eq_true rfl) rfl ?_
  refine k_iconst C (v := 0) d_G_take_3 (by decide) ?_
  refine k_istore C d_G_take_4 (Nat.le_of_ble_eq_true rfl) rfl ?_
  exact l_G_take l b dA D g i hi d c hc h12 w hw X w 0 0 (by omega)

set_option maxHeartbeats 4000000 in
set_option maxRecDepth 100000 in
theorem c_G_resultOf (l : Launch) (b : Nat → Nat → Nat) (dA : Nat → ClassId) (D : va_G) (g : kG) (i : Nat) (hi : i < 6) (j : Int32) : kMd (sysX b dA D) l y_G_resultOf b_G_resultOf 2 (some .long) 1 22 [.inr (.inr (14, i)), .inl j] g (some (.inr (.inl (xRes g i j)))) g := by
  refine k_enter (by decide) [some (.inr (.inr (14, i))), some (.inl j)] rfl rfl (Nat.le_of_ble_eq_true rfl) (fun x X => ?_)
  have C := X.1
  have O := X.2.1
  refine k_iload_n C d_G_resultOf_0 rfl rfl ?_
  refine k_if_lt C (tgt := 32) d_G_resultOf_1 (by decide) (fun c1 => ?_) (fun c1 => ?_)
  · refine k_lconst C (v := 0) d_G_resultOf_32 (by decide) ?_
    exact k_lret X d_G_resultOf_33 (⟨by simp only [xRes, if_pos c1], by simp only [xRes, if_pos c1]⟩)
  · refine k_iload_n C d_G_resultOf_4 rfl rfl ?_
    refine k_aload_n C d_G_resultOf_5 rfl rfl ?_
    refine k_getI C O d_G_resultOf_6 fl_G_22 (xr_14 hi) rfl rfl rfl ?_
    refine k_icmp_ge C (tgt := 32) d_G_resultOf_9 (by decide) (fun c9 => ?_) (fun c9 => ?_)
    · refine k_lconst C (v := 0) d_G_resultOf_32 (by decide) ?_
      exact k_lret X d_G_resultOf_33 (⟨by simp only [xRes, if_neg c1, if_pos c9], by simp only [xRes, if_neg c1, if_pos c9]⟩)
    · refine k_ldc2 C (v := 17) d_G_resultOf_12 (by decide +kernel) ?_
      refine k_aload_n C d_G_resultOf_15 rfl rfl ?_
      refine k_getJ C O d_G_resultOf_16 fl_G_19 (xr_14 hi) rfl rfl rfl ?_
      refine k_iload_n C d_G_resultOf_19 rfl rfl ?_
      refine k_cnJ X d_G_resultOf_20 (c_X_memberDigest l b dA D g (g.2 14 i 2) j) rfl ⟨by decide, by decide⟩ rfl rfl (Nat.le_of_ble_eq_true rfl) ?_
      refine k_lmul C d_G_resultOf_23 ?_
      refine k_aload_n C d_G_resultOf_24 rfl rfl ?_
      refine k_getJ C O d_G_resultOf_25 fl_G_15 (xr_14 hi) rfl rfl rfl ?_
      refine k_ladd C d_G_resultOf_28 ?_
      refine k_goto C (tgt := 33) d_G_resultOf_29 (by decide) ?_
      exact k_lret X d_G_resultOf_33 (⟨by simp only [xRes, if_neg c1, if_neg c9], by simp only [xRes, if_neg c1, if_neg c9]⟩)

set_option maxHeartbeats 4000000 in
set_option maxRecDepth 100000 in
theorem l_X_holds {x : kCx} (l : Launch) (b : Nat → Nat → Nat) (dA : Nat → ClassId) (D : va_G) (g : kG) (i : Nat) (hi : i < 12) (m : Int32) (c : Nat) (hc : g.1 9 i 4 = nI c) (h12 : c ≤ 12) (hn : ∀ k, k < c → vp_in (g.1 10 i k) 24) (X : kIn (sysX b dA D) l b_X_holds y_X_holds.cls 6 (some .boolean) 2 42 x) : ∀ (n : Nat) (k : Nat) (z : Option kV), k + n = c → Wk (kWd (sysX b dA D)) (kAA (sysX b dA D)) (y_ad (sysX b dA D)) x (0, 0) (kQ (sysX b dA D) (fun r g2 => r = some (.inl (xHo g i m n k)) ∧ g2 = g) x) 17 [some (.inr (.inr (0, 0))), some (.inr (.inr (6, i))), some (.inl m), some (.inr (.inr (9, i))), some (.inl (nI k)), z] [] g := by
  have C := X.1
  have O := X.2.1
  intro n
  induction n with
  | zero =>
    intro k z hk
    refine k_iload C d_X_holds_17 rfl ?_
    refine k_aload_n C d_X_holds_19 rfl rfl ?_
    refine k_getI C O d_X_holds_20 fl_X_218 (xr_9 hi) rfl rfl rfl ?_
    refine k_icmp_ge C (tgt := 68) d_X_holds_23 (by decide) (fun c23 => ?_) (fun c23 => ?_)
    · refine k_iconst C (v := 1) d_X_holds_68 (by decide) ?_
      exact k_zret X d_X_holds_69 (Or.inr rfl) (⟨by simp only [xHo], rfl⟩)
    · exact absurd (x_ge hc (by omega) (by omega)) c23
  | succ n ih =>
    intro k z hk
    refine k_iload C d_X_holds_17 rfl ?_
    refine k_aload_n C d_X_holds_19 rfl rfl ?_
    refine k_getI C O d_X_holds_20 fl_X_218 (xr_9 hi) rfl rfl rfl ?_
    refine k_icmp_ge C (tgt := 68) d_X_holds_23 (by decide) (fun c23 => ?_) (fun c23 => ?_)
    · exact absurd c23 (x_lt hc (by omega) (by omega))
    · refine k_aload_n C d_X_holds_26 rfl rfl ?_
      refine k_getR C O (r := (1, _)) d_X_holds_27 fl_X_11 xr_0 rfl rfl rfl rfl ?_
      refine k_aload_n C d_X_holds_30 rfl rfl ?_
      refine k_getR C O (r := (10, _)) d_X_holds_31 fl_X_221 (xr_9 hi) rfl rfl rfl rfl ?_
      refine k_iload C d_X_holds_34 rfl ?_
      refine k_iald2 C O (q := k) d_X_holds_36 (xr_10 hi) rfl 0 rfl (show vp_in (nI k) 12 from vp_in_nI (by omega) (by decide)) (nI_clamp (by omega)) ?_
      refine k_aald2 C O (r := (5, _)) d_X_holds_37 xr_1 rfl 3 rfl (hn k (by omega)) rfl rfl ?_
      refine k_astore C d_X_holds_38 (Nat.le_of_ble_eq_true rfl) rfl ?_
      refine k_aload_n C d_X_holds_40 rfl rfl ?_
      refine k_iload C d_X_holds_41 rfl ?_
      refine k_aload C d_X_holds_43 rfl ?_
      refine k_cvI X d_X_holds_45 (c_N_isLike l b dA D g i hi (nI k) (show vp_in (nI k) 12 from vp_in_nI (by omega) (by decide)) (tn (g.1 10 i k)) (vi_lt (hn k (by omega)))) cv_X_224 (xr_9 hi) rfl rfl ⟨by decide, by decide⟩ rfl rfl (Nat.le_of_ble_eq_true rfl) ?_
      refine k_if_eq C (tgt := 60) d_X_holds_48 (by decide) (fun c48 => ?_) (fun c48 => ?_)
      · refine k_iconst C (v := 0) d_X_holds_60 (by decide) ?_
        exact k_zret X d_X_holds_61 (Or.inl rfl) (⟨by simp only [xHo, if_neg c23, if_pos c48], rfl⟩)
      · refine k_aload C d_X_holds_51 rfl ?_
        refine k_iload_n C d_X_holds_53 rfl rfl ?_
        refine k_csI X d_X_holds_54 (c_X_isFresh l b dA D g (tn (g.1 10 i k)) (vi_lt (hn k (by omega))) m) cs_X_161 ⟨by decide, by decide⟩ rfl rfl (Nat.le_of_ble_eq_true rfl) ?_
        refine k_if_ne C (tgt := 62) d_X_holds_57 (by decide) (fun c57 => ?_) (fun c57 => ?_)
        · refine k_iinc C (w := nI (k + 1)) d_X_holds_62 rfl (nI_inc k) rfl ?_
          refine k_goto C (tgt := 17) d_X_holds_65 (by decide) ?_
          have h9 := ih (k + 1) (some (.inr (.inr (5, tn (g.1 10 i k))))) (by omega)
          simp only [xHo, if_neg c48, if_neg c57]
          exact h9
        · refine k_iconst C (v := 0) d_X_holds_60 (by decide) ?_
          exact k_zret X d_X_holds_61 (Or.inl rfl) (⟨by simp only [xHo, if_neg c23, if_neg c48, if_pos c57], rfl⟩)

set_option maxHeartbeats 4000000 in
set_option maxRecDepth 100000 in
theorem c_X_holds (l : Launch) (b : Nat → Nat → Nat) (dA : Nat → ClassId) (D : va_G) (g : kG) (i : Nat) (hi : i < 12) (m : Int32) (c : Nat) (hc : g.1 9 i 4 = nI c) (h12 : c ≤ 12) (hn : ∀ k, k < c → vp_in (g.1 10 i k) 24) : kMd (sysX b dA D) l y_X_holds b_X_holds 6 (some .boolean) 2 42 [.inr (.inr (0, 0)), .inr (.inr (6, i)), .inl m] g (some (.inl (xHold g i m))) g := by
  refine k_enter (by decide) [some (.inr (.inr (0, 0))), some (.inr (.inr (6, i))), some (.inl m), none, none, none] rfl rfl (Nat.le_of_ble_eq_true rfl) (fun x X => ?_)
  have C := X.1
  have O := X.2.1
  refine k_aload_n C d_X_holds_0 rfl rfl ?_
  refine k_getI C O d_X_holds_1 fl_X_116 (xr_6 hi) rfl rfl rfl ?_
  refine k_if_ne C (tgt := 9) d_X_holds_4 (by decide) (fun c4 => ?_) (fun c4 => ?_)
  · refine k_aload_n C d_X_holds_9 rfl rfl ?_
    refine k_getR C O (r := (9, _)) d_X_holds_10 fl_X_120 (xr_6 hi) rfl rfl rfl rfl ?_
    refine k_astore_n C d_X_holds_13 rfl (Nat.le_of_ble_eq_true rfl) rfl ?_
    refine k_iconst C (v := 0) d_X_holds_14 (by decide) ?_
    refine k_istore C d_X_holds_15 (Nat.le_of_ble_eq_true rfl) rfl ?_
    have e9 : tn (g.1 9 i 4) = c := by rw [hc]; exact nI_clamp (by omega)
    simp only [xHold, if_neg c4, e9]
    exact l_X_holds l b dA D g i hi m c hc h12 hn X c 0 none (by omega)
  · refine k_iconst C (v := 0) d_X_holds_7 (by decide) ?_
    exact k_zret X d_X_holds_8 (Or.inl rfl) (⟨by simp only [xHold, if_pos c4], by simp only [xHold, if_pos c4]⟩)

set_option maxHeartbeats 4000000 in
set_option maxRecDepth 100000 in
theorem l_X_freshIn {x : kCx} {Q : State → Prop} (l : Launch) (b : Nat → Nat → Nat) (dA : Nat → ClassId) (D : va_G) (g : kG) (na : Nat) (ha : g.1 0 0 5 = nI na) (h12 : na ≤ 12) (hn : ∀ i, i < na → kN (g.1 9 i 4) 12 ∧ ∀ k, k < tn (g.1 9 i 4) → vp_in (g.1 10 i k) 24) (r bf : Int32) (X : kIn (sysX b dA D) l b_X_freshActions y_X_freshActions.cls 5 (some .int) 3 67 x) : ∀ (n : Nat) (k : Nat) (m : Int32), k + n = na → (Wk (kWd (sysX b dA D)) (kAA (sysX b dA D)) (y_ad (sysX b dA D)) x (0, 0) Q 54 [some (.inr (.inr (0, 0))), some (.inl (xRd g n k m)), some (.inl r), some (.inl bf), some (.inl (nI na))] [] g) → Wk (kWd (sysX b dA D)) (kAA (sysX b dA D)) (y_ad (sysX b dA D)) x (0, 0) Q 17 [some (.inr (.inr (0, 0))), some (.inl m), some (.inl r), some (.inl bf), some (.inl (nI k))] [] g := by
  have C := X.1
  have O := X.2.1
  intro n
  induction n with
  | zero =>
    intro k m hk K
    refine k_iload C d_X_freshActions_17 rfl ?_
    refine k_aload_n C d_X_freshActions_19 rfl rfl ?_
    refine k_getI C O d_X_freshActions_20 fl_X_31 xr_0 rfl rfl rfl ?_
    refine k_icmp_ge C (tgt := 54) d_X_freshActions_23 (by decide) (fun c23 => ?_) (fun c23 => ?_)
    · have e9 : k = na := by omega
      rw [e9]
      exact K
    · exact absurd (x_ge ha (by omega) (by omega)) c23
  | succ n ih =>
    intro k m hk K
    refine k_iload C d_X_freshActions_17 rfl ?_
    refine k_aload_n C d_X_freshActions_19 rfl rfl ?_
    refine k_getI C O d_X_freshActions_20 fl_X_31 xr_0 rfl rfl rfl ?_
    refine k_icmp_ge C (tgt := 54) d_X_freshActions_23 (by decide) (fun c23 => ?_) (fun c23 => ?_)
    · exact absurd c23 (x_lt ha (by omega) (by omega))
    · refine k_aload_n C d_X_freshActions_26 rfl rfl ?_
      refine k_aload_n C d_X_freshActions_27 rfl rfl ?_
      refine k_getR C O (r := (2, _)) d_X_freshActions_28 fl_X_17 xr_0 rfl rfl rfl rfl ?_
      refine k_iload C d_X_freshActions_31 rfl ?_
      refine k_aald2 C O (q := k) (r := (6, _)) d_X_freshActions_33 xr_2 rfl 4 rfl (show vp_in (nI k) 12 from vp_in_nI (by omega) (by decide)) (nI_clamp (by omega)) rfl ?_
      refine k_iload_n C d_X_freshActions_34 rfl rfl ?_
      refine k_cvI X d_X_freshActions_35 (c_X_holds l b dA D g k (by omega) m (tn (g.1 9 k 4)) (hn k (by omega)).1.1 (hn k (by omega)).1.2 (hn k (by omega)).2) cv_X_214 xr_0 rfl rfl ⟨by decide, by decide⟩ rfl rfl (Nat.le_of_ble_eq_true rfl) ?_
      refine k_if_eq C (tgt := 48) d_X_freshActions_38 (by decide) (fun c38 => ?_) (fun c38 => ?_)
      · refine k_iinc C (w := nI (k + 1)) d_X_freshActions_48 rfl (nI_inc k) rfl ?_
        refine k_goto C (tgt := 17) d_X_freshActions_51 (by decide) ?_
        simp only [xRd, if_pos c38] at K
        exact ih (k + 1) _ (by omega) K
      · refine k_iload_n C d_X_freshActions_41 rfl rfl ?_
        refine k_iconst C (v := 1) d_X_freshActions_42 (by decide) ?_
        refine k_iload C d_X_freshActions_43 rfl ?_
        refine k_ishl C d_X_freshActions_45 ?_
        refine k_ior C d_X_freshActions_46 ?_
        refine k_istore_n C d_X_freshActions_47 rfl (Nat.le_of_ble_eq_true rfl) rfl ?_
        refine k_iinc C (w := nI (k + 1)) d_X_freshActions_48 rfl (nI_inc k) rfl ?_
        refine k_goto C (tgt := 17) d_X_freshActions_51 (by decide) ?_
        simp only [xRd, if_neg c38] at K
        exact ih (k + 1) _ (by omega) K

set_option maxHeartbeats 4000000 in
set_option maxRecDepth 100000 in
theorem l_X_freshOut {x : kCx} (l : Launch) (b : Nat → Nat → Nat) (dA : Nat → ClassId) (D : va_G) (g : kG) (na : Nat) (ha : g.1 0 0 5 = nI na) (h12 : na ≤ 12) (hn : ∀ i, i < na → kN (g.1 9 i 4) 12 ∧ ∀ k, k < tn (g.1 9 i 4) → vp_in (g.1 10 i k) 24) (X : kIn (sysX b dA D) l b_X_freshActions y_X_freshActions.cls 5 (some .int) 3 67 x) : ∀ (n : Nat) (k : Nat) (m : Int32) (z3 z4 : Option kV), k + n = na → Wk (kWd (sysX b dA D)) (kAA (sysX b dA D)) (y_ad (sysX b dA D)) x (0, 0) (kQ (sysX b dA D) (fun r g2 => r = some (.inl (xFa g na n m)) ∧ g2 = g) x) 4 [some (.inr (.inr (0, 0))), some (.inl m), some (.inl (nI k)), z3, z4] [] g := by
  have C := X.1
  have O := X.2.1
  intro n
  induction n with
  | zero =>
    intro k m z3 z4 hk
    refine k_iload_n C d_X_freshActions_4 rfl rfl ?_
    refine k_aload_n C d_X_freshActions_5 rfl rfl ?_
    refine k_getI C O d_X_freshActions_6 fl_X_31 xr_0 rfl rfl rfl ?_
    refine k_icmp_ge C (tgt := 67) d_X_freshActions_9 (by decide) (fun c9 => ?_) (fun c9 => ?_)
    · refine k_iload_n C d_X_freshActions_67 rfl rfl ?_
      exact k_iret X d_X_freshActions_68 (⟨by simp only [xFa], rfl⟩)
    · exact absurd (x_ge ha (by omega) (by omega)) c9
  | succ n ih =>
    intro k m z3 z4 hk
    refine k_iload_n C d_X_freshActions_4 rfl rfl ?_
    refine k_aload_n C d_X_freshActions_5 rfl rfl ?_
    refine k_getI C O d_X_freshActions_6 fl_X_31 xr_0 rfl rfl rfl ?_
    refine k_icmp_ge C (tgt := 67) d_X_freshActions_9 (by decide) (fun c9 => ?_) (fun c9 => ?_)
    · exact absurd c9 (x_lt ha (by omega) (by omega))
    · refine k_iload_n C d_X_freshActions_12 rfl rfl ?_
      refine k_istore_n C d_X_freshActions_13 rfl (Nat.le_of_ble_eq_true rfl) rfl ?_
      refine k_iconst C (v := 0) d_X_freshActions_14 (by decide) ?_
      refine k_istore C d_X_freshActions_15 (Nat.le_of_ble_eq_true rfl) rfl ?_
      refine l_X_freshIn l b dA D g na ha h12 hn (nI k) m X na 0 m (by omega) ?_
      refine k_iload_n C d_X_freshActions_54 rfl rfl ?_
      refine k_iload_n C d_X_freshActions_55 rfl rfl ?_
      refine k_icmp_ne C (tgt := 61) d_X_freshActions_56 (by decide) (fun c56 => ?_) (fun c56 => ?_)
      · refine k_iinc C (w := nI (k + 1)) d_X_freshActions_61 rfl (nI_inc k) rfl ?_
        refine k_goto C (tgt := 4) d_X_freshActions_64 (by decide) ?_
        have h9 := ih (k + 1) (xRd g na 0 m) (some (.inl m)) (some (.inl (nI na))) (by omega)
        simp only [xFa, if_neg c56]
        exact h9
      · refine k_iload_n C d_X_freshActions_59 rfl rfl ?_
        exact k_iret X d_X_freshActions_60 (⟨by simp only [xFa, if_pos c56], rfl⟩)

set_option maxHeartbeats 4000000 in
set_option maxRecDepth 100000 in
theorem c_X_freshActions (l : Launch) (b : Nat → Nat → Nat) (dA : Nat → ClassId) (D : va_G) (g : kG) (na : Nat) (ha : g.1 0 0 5 = nI na) (h12 : na ≤ 12) (hn : ∀ i, i < na → kN (g.1 9 i 4) 12 ∧ ∀ k, k < tn (g.1 9 i 4) → vp_in (g.1 10 i k) 24) : kMd (sysX b dA D) l y_X_freshActions b_X_freshActions 5 (some .int) 3 67 [.inr (.inr (0, 0))] g (some (.inl (xFresh g))) g := by
  refine k_enter (by decide) [some (.inr (.inr (0, 0))), none, none, none, none] rfl rfl (Nat.le_of_ble_eq_true rfl) (fun x X => ?_)
  have C := X.1
  have O := X.2.1
  refine k_iconst C (v := 0) d_X_freshActions_0 (by decide) ?_
  refine k_istore_n C d_X_freshActions_1 rfl (Nat.le_of_ble_eq_true rfl) rfl ?_
  refine k_iconst C (v := 0) d_X_freshActions_2 (by decide) ?_
  refine k_istore_n C d_X_freshActions_3 rfl (Nat.le_of_ble_eq_true rfl) rfl ?_
  have e9 : tn (g.1 0 0 5) = na := by rw [ha]; exact nI_clamp (by omega)
  simp only [xFresh, e9]
  exact l_X_freshOut l b dA D g na ha h12 hn X na 0 0 none none (by omega)

set_option maxHeartbeats 4000000 in
set_option maxRecDepth 100000 in
theorem l_X_tellRing {x : kCx} (l : Launch) (b : Nat → Nat → Nat) (dA : Nat → ClassId) (D : va_G) (g : kG) (mk : Int32) (dp : Nat) (hd : dp ≤ 13) (X : kIn (sysX b dA D) l b_X_tellRing y_X_tellRing.cls 4 (some .boolean) 0 0 x) : ∀ (n : Nat) (k : Nat), k + n = dp → Wk (kWd (sysX b dA D)) (kAA (sysX b dA D)) (y_ad (sysX b dA D)) x (0, 0) (kQ (sysX b dA D) (fun r g2 => r = some (.inl (xTr g mk dp n k).1) ∧ g2 = (xTr g mk dp n k).2) x) 2 [some (.inr (.inr (0, 0))), some (.inl mk), some (.inl (nI dp)), some (.inl (nI k))] [] g := by
  have C := X.1
  have O := X.2.1
  intro n
  induction n with
  | zero =>
    intro k hk
    refine k_iload_n C d_X_tellRing_2 rfl rfl ?_
    refine k_iload_n C d_X_tellRing_3 rfl rfl ?_
    refine k_icmp_ge C (tgt := 37) d_X_tellRing_4 (by decide) (fun c4 => ?_) (fun c4 => ?_)
    · refine k_iconst C (v := 0) d_X_tellRing_37 (by decide) ?_
      exact k_zret X d_X_tellRing_38 (Or.inl rfl) (⟨by simp only [xTr], by simp only [xTr]⟩)
    · exact absurd (x_ge rfl (by omega) (by omega)) c4
  | succ n ih =>
    intro k hk
    refine k_iload_n C d_X_tellRing_2 rfl rfl ?_
    refine k_iload_n C d_X_tellRing_3 rfl rfl ?_
    refine k_icmp_ge C (tgt := 37) d_X_tellRing_4 (by decide) (fun c4 => ?_) (fun c4 => ?_)
    · exact absurd c4 (x_lt rfl (by omega) (by omega))
    · refine k_aload_n C d_X_tellRing_7 rfl rfl ?_
      refine k_getR C O (r := (4, _)) d_X_tellRing_8 fl_X_37 xr_0 rfl rfl rfl rfl ?_
      refine k_iload_n C d_X_tellRing_11 rfl rfl ?_
      refine k_iald2 C O (q := k) d_X_tellRing_12 xr_4 rfl 0 rfl (show vp_in (nI k) 13 from vp_in_nI (by omega) (by decide)) (nI_clamp (by omega)) ?_
      refine k_iload_n C d_X_tellRing_13 rfl rfl ?_
      refine k_icmp_ne C (tgt := 31) d_X_tellRing_14 (by decide) (fun c14 => ?_) (fun c14 => ?_)
      · refine k_iinc C (w := nI (k + 1)) d_X_tellRing_31 rfl (nI_inc k) rfl ?_
        refine k_goto C (tgt := 2) d_X_tellRing_34 (by decide) ?_
        have h9 := ih (k + 1) (by omega)
        simp only [xTr, if_neg c14]
        exact h9
      · refine k_aload_n C d_X_tellRing_17 rfl rfl ?_
        refine k_iload_n C d_X_tellRing_18 rfl rfl ?_
        refine k_putI C O d_X_tellRing_19 fp_X_41 xr_0 rfl rfl rfl ?_
        refine k_aload_n C d_X_tellRing_22 rfl rfl ?_
        refine k_iload_n C d_X_tellRing_23 rfl rfl ?_
        refine k_iload_n C d_X_tellRing_24 rfl rfl ?_
        refine k_isub C d_X_tellRing_25 ?_
        refine k_putI C O d_X_tellRing_26 fp_X_44 xr_0 rfl rfl rfl ?_
        refine k_iconst C (v := 1) d_X_tellRing_29 (by decide) ?_
        exact k_zret X d_X_tellRing_30 (Or.inr rfl) (⟨by simp only [xTr, if_pos c14], by simp only [xTr, if_pos c14]⟩)

set_option maxHeartbeats 4000000 in
set_option maxRecDepth 100000 in
theorem c_X_tellRing (l : Launch) (b : Nat → Nat → Nat) (dA : Nat → ClassId) (D : va_G) (g : kG) (mk : Int32) (dp : Nat) (hd : dp ≤ 13) : kMd (sysX b dA D) l y_X_tellRing b_X_tellRing 4 (some .boolean) 0 0 [.inr (.inr (0, 0)), .inl mk, .inl (nI dp)] g (some (.inl (xTr g mk dp dp 0).1)) (xTr g mk dp dp 0).2 := by
  refine k_enter (by decide) [some (.inr (.inr (0, 0))), some (.inl mk), some (.inl (nI dp)), none] rfl rfl (Nat.le_of_ble_eq_true rfl) (fun x X => ?_)
  have C := X.1
  have O := X.2.1
  refine k_iconst C (v := 0) d_X_tellRing_0 (by decide) ?_
  refine k_istore_n C d_X_tellRing_1 rfl (Nat.le_of_ble_eq_true rfl) rfl ?_
  exact l_X_tellRing l b dA D g mk dp hd X dp 0 (by omega)
end
section
/-! a walk's end against its spec -/
theorem k_pi {v s : Int32} {g : kG} (h : s = v) : (some (Sum.inl v) : Option kV) = some (.inl s) ∧ g = g := by subst h; exact ⟨rfl, rfl⟩
theorem k_pl {v s : Int64} {g : kG} (h : s = v) : (some (Sum.inr (Sum.inl v)) : Option kV) = some (.inr (.inl s)) ∧ g = g := by subst h; exact ⟨rfl, rfl⟩
theorem k_pr {s : Int32 × kG} {v : Int32} {g' : kG} (h : s = (v, g')) : (some (Sum.inl v) : Option kV) = some (.inl s.1) ∧ g' = s.2 := by subst h; exact ⟨rfl, rfl⟩
theorem k_pv {s g' : kG} (h : s = g') : (none : Option kV) = none ∧ g' = s := ⟨rfl, h.symm⟩
section KQ
variable {y : kSys} {x : kCx} {pc : Nat} {ls : List (Option kV)} {st : List kV} {g : kG}
theorem k_Qs {s s' : Int32 × kG} (h : s = s') (kk : Wk (kWd y) (kAA y) (y_ad y) x (0, 0) (kQ y (fun r g2 => r = some (.inl s'.1) ∧ g2 = s'.2) x) pc ls st g) : Wk (kWd y) (kAA y) (y_ad y) x (0, 0) (kQ y (fun r g2 => r = some (.inl s.1) ∧ g2 = s.2) x) pc ls st g := by subst h; exact kk
theorem k_Qi {s s' : Int32} {G : kG} (h : s = s') (kk : Wk (kWd y) (kAA y) (y_ad y) x (0, 0) (kQ y (fun r g2 => r = some (.inl s') ∧ g2 = G) x) pc ls st g) : Wk (kWd y) (kAA y) (y_ad y) x (0, 0) (kQ y (fun r g2 => r = some (.inl s) ∧ g2 = G) x) pc ls st g := by subst h; exact kk
theorem k_Qv {s s' : kG} (h : s = s') (kk : Wk (kWd y) (kAA y) (y_ad y) x (0, 0) (kQ y (fun r g2 => r = none ∧ g2 = s') x) pc ls st g) : Wk (kWd y) (kAA y) (y_ad y) x (0, 0) (kQ y (fun r g2 => r = none ∧ g2 = s) x) pc ls st g := by subst h; exact kk
end KQ
theorem in_nI {p n : Nat} {v : Int32} (hv : v = nI n) (hp : p < 2 ^ 30) (hn : n < 2 ^ 30) (h : nI p < v) : vp_in (nI p) n := vp_in_nI ((nI_ltI (by omega) (by omega)).mp (hv ▸ h)) (by omega)
theorem in_v {v w : Int32} {n : Nat} (hw : kN w n) (hn : n < 2 ^ 30) (h0 : ¬ v < 0) (h1 : ¬ w ≤ v) : vp_in v n := by
  obtain ⟨j, hj, rfl⟩ := nI_of h0
  rw [hw.1] at h1
  rcases Nat.lt_or_ge j (tn w) with q | q
  · have := hw.2
    exact vp_in_nI (by omega) (by omega)
  · exact absurd (nI_le q hj) h1
theorem in_x {v w : Int32} {n : Nat} (hw : kN w n) (hn : n < 2 ^ 30) (h : ¬ xIn v w = 0) : vp_in v n := by
  unfold xIn at h
  by_cases h0 : v < 0
  · exact absurd (if_pos h0) h
  · rw [if_neg h0] at h
    by_cases h1 : w ≤ v
    · exact absurd (if_pos h1) h
    · exact in_v hw hn h0 h1
theorem in_lt {v : Int32} {n m : Nat} {w : Int32} (hv : kN v m) (hm : m < 2 ^ 30) (hw : w = nI n) (hn : n < 2 ^ 30) (h : v < w) : vp_in v n := by
  rw [hv.1] at h ⊢
  exact in_nI hw (by have := hv.2; omega) hn h
end
section
/-! the class: specs and contracts, 3: notes, rows, tries, runs (by program: wip/gen/cx3.py) -/
theorem xPl_le (g : kG) (i : Nat) (num : Int32) : ∀ n k, k ≤ xPl g i num n k ∧ xPl g i num n k ≤ k + n
  | 0, k => ⟨Nat.le_refl _, Nat.le_refl _⟩
  | n + 1, k => by
    unfold xPl
    split
    · omega
    · have := xPl_le g i num n (k + 1)
      omega
def xAdd0 (g : kG) (i p : Nat) (num : Int32) : kG := (kU (kU (kU g.1 10 i p num) 12 i p 0) 9 i 4 (g.1 9 i 4 + 1), g.2)
def xAdd1 (g : kG) (i p f : Nat) (rd : Int32) : kG := if kU g.1 11 i p (g.1 5 f 0) 12 i p = 0 then (if rd = 0 then (kU (kU g.1 11 i p (g.1 5 f 0)) 12 i p 0, kUJ g.2 13 i p (g.2 5 f 1)) else (kU (kU g.1 11 i p (g.1 5 f 0)) 12 i p 1, kUJ g.2 13 i p (g.2 5 f 1))) else (kU (kU g.1 11 i p (g.1 5 f 0)) 12 i p 1, kUJ g.2 13 i p (g.2 5 f 1))
def xAddAt (g : kG) (i p : Nat) (num : Int32) (f : Nat) (rd : Int32) : kG := if nI p < 12 then (if nI p = g.1 9 i 4 then xAdd1 (xAdd0 g i p num) i p f rd else xAdd1 g i p f rd) else g
def xAdd (g : kG) (i : Nat) (num : Int32) (f : Nat) (rd : Int32) : kG := xAddAt g i (xPl g i num (tn (g.1 9 i 4)) 0) num f rd
def xLook2 (g : kG) (i f : Nat) (rd : Int32) : Int32 × kG := if rd = 0 then (if g.1 5 f 0 = 0 then (1, xSum g i 2) else (1, xSum g i 1)) else (1, xSum g i (g.2 5 f 1))
def xLook (g : kG) (i : Nat) (rd num m : Int32) : Int32 × kG := if xBit (g.1 6 i 3) num = 0 then (-1, g) else if xFr g (tn num) m = 0 then (0, (kU g.1 6 i 9 num, g.2)) else if rd = 0 then xLook2 (xAdd g i num (tn num) rd) i (tn num) rd else if (xAdd g i num (tn num) rd).1 5 (tn num) 0 = 0 then (-3, xAdd g i num (tn num) rd) else xLook2 (xAdd g i num (tn num) rd) i (tn num) rd
def xRows (i : Nat) (m : Int32) : Nat → Nat → Int64 → kG → Int32 × kG
  | 0, _, _, g => (1, g)
  | n + 1, k, last, g => if g.1 6 i 2 ≤ nI k then (1, g) else if g.1 7 i k = 2 then (if lg_cmp (last &&& 1) 0 = 0 then xRows i m n (k + 1) last g else xRows i m n (k + 1 + tn (g.1 8 i k)) last g) else if g.1 7 i k = 0 then (if (xLook g i 1 (g.1 8 i k) m).1 = 1 then (if g.1 7 i k = 0 then xRows i m n (k + 1) ((xLook g i 1 (g.1 8 i k) m).2.2 5 (tn (g.1 8 i k)) 1) (xLook g i 1 (g.1 8 i k) m).2 else xRows i m n (k + 1) last (xLook g i 1 (g.1 8 i k) m).2) else ((xLook g i 1 (g.1 8 i k) m).1, (xLook g i 1 (g.1 8 i k) m).2)) else (if (xLook g i 0 (g.1 8 i k) m).1 = 1 then (if g.1 7 i k = 0 then xRows i m n (k + 1) ((xLook g i 0 (g.1 8 i k) m).2.2 5 (tn (g.1 8 i k)) 1) (xLook g i 0 (g.1 8 i k) m).2 else xRows i m n (k + 1) last (xLook g i 0 (g.1 8 i k) m).2) else ((xLook g i 0 (g.1 8 i k) m).1, (xLook g i 0 (g.1 8 i k) m).2))
def xGo (g : kG) (i : Nat) (m : Int32) : Int32 × kG := xRows i m 13 0 0 (g.1, kUJ g.2 6 i 8 7)
theorem xAdd_fr (g : kG) (i : Nat) (num : Int32) (f : Nat) (rd : Int32) (k a j : Nat) (h : k ≠ 9 ∧ k ≠ 10 ∧ k ≠ 11 ∧ k ≠ 12) : (xAdd g i num f rd).1 k a j = g.1 k a j := by
  obtain ⟨h1, h2, h3, h4⟩ := h
  unfold xAdd xAddAt
  split
  · split
    · unfold xAdd1 xAdd0
      split
      · split <;> simp [kU, h1, h2, h3, h4]
      · simp [kU, h1, h2, h3, h4]
    · unfold xAdd1
      split
      · split <;> simp [kU, h1, h2, h3, h4]
      · simp [kU, h1, h2, h3, h4]
  · rfl
theorem xLook2_1 (g : kG) (i f : Nat) (rd : Int32) : (xLook2 g i f rd).2.1 = g.1 := by
  unfold xLook2 xSum
  split
  · split <;> rfl
  · rfl
theorem xLook_fr (g : kG) (i : Nat) (rd num m : Int32) (k a j : Nat) (h : k ≠ 9 ∧ k ≠ 10 ∧ k ≠ 11 ∧ k ≠ 12 ∧ k ≠ 6) : (xLook g i rd num m).2.1 k a j = g.1 k a j := by
  obtain ⟨h1, h2, h3, h4, h5⟩ := h
  have e := xAdd_fr g i num (tn num) rd k a j ⟨h1, h2, h3, h4⟩
  unfold xLook
  split
  · rfl
  · split
    · simp [kU, h5]
    · split
      · rw [xLook2_1]; exact e
      · split
        · exact e
        · rw [xLook2_1]; exact e
theorem xLook_6 (g : kG) (i : Nat) (rd num m : Int32) (a j : Nat) (hj : j ≠ 9) : (xLook g i rd num m).2.1 6 a j = g.1 6 a j := by
  have e := xAdd_fr g i num (tn num) rd 6 a j (by decide)
  unfold xLook
  split
  · rfl
  · split
    · simp [kU, hj]
    · split
      · rw [xLook2_1]; exact e
      · split
        · exact e
        · rw [xLook2_1]; exact e
theorem xAdd_cnt (g : kG) (i : Nat) (num : Int32) (f : Nat) (rd : Int32) (hc : kN (g.1 9 i 4) 12) : kN ((xAdd g i num f rd).1 9 i 4) 12 := by
  unfold xAdd xAddAt
  generalize xPl g i num (tn (g.1 9 i 4)) 0 = p
  split
  next hp =>
    split
    next hq =>
      have h9 : kN (g.1 9 i 4 + 1) 12 := by
        obtain ⟨h1, h2⟩ := hc
        rw [hq, h1] at hp
        have h3 : g.1 9 i 4 + 1 = nI (tn (g.1 9 i 4) + 1) := by
          conv => lhs; rw [h1]
          exact nI_1 _
        rw [h3]
        have h4 := (nI_ltI (b := 12) (by omega) (by omega)).mp hp
        exact kN_of (by omega) (by omega)
      unfold xAdd1 xAdd0
      split
      · split <;> simpa [kU] using h9
      · simpa [kU] using h9
    next hq =>
      unfold xAdd1
      split
      · split <;> simpa [kU] using hc
      · simpa [kU] using hc
  next => exact hc
theorem xLook_cnt (g : kG) (i : Nat) (rd num m : Int32) (hc : kN (g.1 9 i 4) 12) : kN ((xLook g i rd num m).2.1 9 i 4) 12 := by
  have e := xAdd_cnt g i num (tn num) rd hc
  unfold xLook
  split
  · exact hc
  · split
    · simpa [kU] using hc
    · split
      · rw [xLook2_1]; exact e
      · split
        · exact e
        · rw [xLook2_1]; exact e
def xL (g : kG) (i : Nat) : Prop := (∀ f, f < 24 → kZ (g.1 5 f 0)) ∧ kN (g.1 9 i 4) 12 ∧ kN (g.1 6 i 2) 12 ∧ ∀ k, k < tn (g.1 6 i 2) → (g.1 7 i k = 2 ∧ kN (g.1 8 i k) 8) ∨ (¬ g.1 7 i k = 2 ∧ vp_in (g.1 8 i k) 24)
theorem xL_look {g : kG} {i : Nat} (h : xL g i) (rd num m : Int32) : xL (xLook g i rd num m).2 i := by
  obtain ⟨h1, h2, h3, h4⟩ := h
  refine ⟨fun f hf => ?_, xLook_cnt g i rd num m h2, ?_, fun k hk => ?_⟩
  · rw [xLook_fr g i rd num m 5 f 0 (by decide)]; exact h1 f hf
  · rw [xLook_6 g i rd num m i 2 (by decide)]; exact h3
  · rw [xLook_6 g i rd num m i 2 (by decide)] at hk
    rw [xLook_fr g i rd num m 7 i k (by decide), xLook_fr g i rd num m 8 i k (by decide)]
    exact h4 k hk
set_option maxHeartbeats 4000000 in
set_option maxRecDepth 100000 in
theorem c_N_add (l : Launch) (b : Nat → Nat → Nat) (dA : Nat → ClassId) (D : va_G) (g : kG) (i : Nat) (hi : i < 12) (num : Int32) (f : Nat) (hf : f < 24) (rd : Int32) (hc : kN (g.1 9 i 4) 12) (hz : kZ (g.1 5 f 0)) : kMd (sysX b dA D) l y_N_add b_N_add 5 none 1 22 [.inr (.inr (9, i)), .inl num, .inr (.inr (5, f)), .inl rd] g none (xAdd g i num f rd) := by
  have hp := (xPl_le g i num (tn (g.1 9 i 4)) 0).2
  have hp2 := hc.2
  refine k_enter (by decide) [some (.inr (.inr (9, i))), some (.inl num), some (.inr (.inr (5, f))), some (.inl rd), none] rfl rfl (Nat.le_of_ble_eq_true rfl) (fun x X => ?_)
  have C := X.1
  have O := X.2.1
  refine k_aload_n C d_N_add_0 rfl rfl ?_
  refine k_iload_n C d_N_add_1 rfl rfl ?_
  refine k_cvI X d_N_add_2 (c_N_placeOf l b dA D g i hi num (tn (g.1 9 i 4)) hc.1 hc.2) cv_N_30 (xr_9 hi) rfl rfl ⟨by decide, by decide⟩ rfl rfl (Nat.le_of_ble_eq_true rfl) ?_
  refine k_istore C d_N_add_5 (Nat.le_of_ble_eq_true rfl) rfl ?_
  refine k_iload C d_N_add_7 rfl ?_
  refine k_bipush C (v := 12) d_N_add_9 (by decide) ?_
  refine k_icmp_lt C (tgt := 15) d_N_add_11 (by decide) (fun c11 => ?_) (fun c11 => ?_)
  · refine k_iload C d_N_add_15 rfl ?_
    refine k_aload_n C d_N_add_17 rfl rfl ?_
    refine k_getI C O d_N_add_18 fl_N_26 (xr_9 hi) rfl rfl rfl ?_
    refine k_icmp_ne C (tgt := 50) d_N_add_21 (by decide) (fun c21 => ?_) (fun c21 => ?_)
    · refine k_aload_n C d_N_add_50 rfl rfl ?_
      refine k_getR C O (r := (11, _)) d_N_add_51 fl_N_15 (xr_9 hi) rfl rfl rfl rfl ?_
      refine k_iload C d_N_add_54 rfl ?_
      refine k_aload_n C d_N_add_56 rfl rfl ?_
      refine k_getI C O d_N_add_57 fl_N_34 (xr_5 hf) rfl rfl rfl ?_
      refine k_zast2 C O (q := (xPl g i num (tn (g.1 9 i 4)) 0)) d_N_add_60 hz (xr_11 hi) rfl 1 rfl (in_nI (n := 12) rfl (by omega) (by decide) c11) (nI_clamp (by omega)) ?_
      refine k_aload_n C d_N_add_61 rfl rfl ?_
      refine k_getR C O (r := (13, _)) d_N_add_62 fl_N_22 (xr_9 hi) rfl rfl rfl rfl ?_
      refine k_iload C d_N_add_65 rfl ?_
      refine k_aload_n C d_N_add_67 rfl rfl ?_
      refine k_getJ C O d_N_add_68 fl_N_39 (xr_5 hf) rfl rfl rfl ?_
      refine k_last2 C O (q := (xPl g i num (tn (g.1 9 i 4)) 0)) d_N_add_71 (xr_13 hi) rfl 2 rfl (in_nI (n := 12) rfl (by omega) (by decide) c11) (nI_clamp (by omega)) ?_
      refine k_aload_n C d_N_add_72 rfl rfl ?_
      refine k_getR C O (r := (12, _)) d_N_add_73 fl_N_19 (xr_9 hi) rfl rfl rfl rfl ?_
      refine k_iload C d_N_add_76 rfl ?_
      refine k_aload_n C d_N_add_78 rfl rfl ?_
      refine k_getR C O (r := (12, _)) d_N_add_79 fl_N_19 (xr_9 hi) rfl rfl rfl rfl ?_
      refine k_iload C d_N_add_82 rfl ?_
      refine k_zald2 C O (q := (xPl g i num (tn (g.1 9 i 4)) 0)) d_N_add_84 (xr_12 hi) rfl 1 rfl (in_nI (n := 12) rfl (by omega) (by decide) c11) (nI_clamp (by omega)) ?_
      refine k_if_ne C (tgt := 92) d_N_add_85 (by decide) (fun c85 => ?_) (fun c85 => ?_)
      · refine k_iconst C (v := 1) d_N_add_92 (by decide) ?_
        refine k_goto C (tgt := 97) d_N_add_93 (by decide) ?_
        refine k_zast2 C O (q := (xPl g i num (tn (g.1 9 i 4)) 0)) d_N_add_97 (Or.inr rfl) (xr_12 hi) rfl 1 rfl (in_nI (n := 12) rfl (by omega) (by decide) c11) (nI_clamp (by omega)) ?_
        exact k_vret X d_N_add_98 (k_pv ((if_pos c11).trans ((if_neg c21).trans ((if_neg c85).trans (rfl)))))
      · refine k_iload_n C d_N_add_88 rfl rfl ?_
        refine k_if_eq C (tgt := 96) d_N_add_89 (by decide) (fun c89 => ?_) (fun c89 => ?_)
        · refine k_iconst C (v := 0) d_N_add_96 (by decide) ?_
          refine k_zast2 C O (q := (xPl g i num (tn (g.1 9 i 4)) 0)) d_N_add_97 (Or.inl rfl) (xr_12 hi) rfl 1 rfl (in_nI (n := 12) rfl (by omega) (by decide) c11) (nI_clamp (by omega)) ?_
          exact k_vret X d_N_add_98 (k_pv ((if_pos c11).trans ((if_neg c21).trans ((if_pos c85).trans ((if_pos c89).trans (rfl))))))
        · refine k_iconst C (v := 1) d_N_add_92 (by decide) ?_
          refine k_goto C (tgt := 97) d_N_add_93 (by decide) ?_
          refine k_zast2 C O (q := (xPl g i num (tn (g.1 9 i 4)) 0)) d_N_add_97 (Or.inr rfl) (xr_12 hi) rfl 1 rfl (in_nI (n := 12) rfl (by omega) (by decide) c11) (nI_clamp (by omega)) ?_
          exact k_vret X d_N_add_98 (k_pv ((if_pos c11).trans ((if_neg c21).trans ((if_pos c85).trans ((if_neg c89).trans (rfl))))))
    · refine k_aload_n C d_N_add_24 rfl rfl ?_
      refine k_getR C O (r := (10, _)) d_N_add_25 fl_N_9 (xr_9 hi) rfl rfl rfl rfl ?_
      refine k_iload C d_N_add_28 rfl ?_
      refine k_iload_n C d_N_add_30 rfl rfl ?_
      refine k_iast2 C O (q := (xPl g i num (tn (g.1 9 i 4)) 0)) d_N_add_31 (xr_10 hi) rfl 0 rfl (in_nI (n := 12) rfl (by omega) (by decide) c11) (nI_clamp (by omega)) ?_
      refine k_aload_n C d_N_add_32 rfl rfl ?_
      refine k_getR C O (r := (12, _)) d_N_add_33 fl_N_19 (xr_9 hi) rfl rfl rfl rfl ?_
      refine k_iload C d_N_add_36 rfl ?_
      refine k_iconst C (v := 0) d_N_add_38 (by decide) ?_
      refine k_zast2 C O (q := (xPl g i num (tn (g.1 9 i 4)) 0)) d_N_add_39 (Or.inl rfl) (xr_12 hi) rfl 1 rfl (in_nI (n := 12) rfl (by omega) (by decide) c11) (nI_clamp (by omega)) ?_
      refine k_aload_n C d_N_add_40 rfl rfl ?_
      refine k_dup C d_N_add_41 rfl ?_
      refine k_getI C O d_N_add_42 fl_N_26 (xr_9 hi) rfl rfl rfl ?_
      refine k_iconst C (v := 1) d_N_add_45 (by decide) ?_
      refine k_iadd C d_N_add_46 ?_
      refine k_putI C O d_N_add_47 fp_N_26 (xr_9 hi) rfl rfl rfl ?_
      refine k_aload_n C d_N_add_50 rfl rfl ?_
      refine k_getR C O (r := (11, _)) d_N_add_51 fl_N_15 (xr_9 hi) rfl rfl rfl rfl ?_
      refine k_iload C d_N_add_54 rfl ?_
      refine k_aload_n C d_N_add_56 rfl rfl ?_
      refine k_getI C O d_N_add_57 fl_N_34 (xr_5 hf) rfl rfl rfl ?_
      refine k_zast2 C O (q := (xPl g i num (tn (g.1 9 i 4)) 0)) d_N_add_60 hz (xr_11 hi) rfl 1 rfl (in_nI (n := 12) rfl (by omega) (by decide) c11) (nI_clamp (by omega)) ?_
      refine k_aload_n C d_N_add_61 rfl rfl ?_
      refine k_getR C O (r := (13, _)) d_N_add_62 fl_N_22 (xr_9 hi) rfl rfl rfl rfl ?_
      refine k_iload C d_N_add_65 rfl ?_
      refine k_aload_n C d_N_add_67 rfl rfl ?_
      refine k_getJ C O d_N_add_68 fl_N_39 (xr_5 hf) rfl rfl rfl ?_
      refine k_last2 C O (q := (xPl g i num (tn (g.1 9 i 4)) 0)) d_N_add_71 (xr_13 hi) rfl 2 rfl (in_nI (n := 12) rfl (by omega) (by decide) c11) (nI_clamp (by omega)) ?_
      refine k_aload_n C d_N_add_72 rfl rfl ?_
      refine k_getR C O (r := (12, _)) d_N_add_73 fl_N_19 (xr_9 hi) rfl rfl rfl rfl ?_
      refine k_iload C d_N_add_76 rfl ?_
      refine k_aload_n C d_N_add_78 rfl rfl ?_
      refine k_getR C O (r := (12, _)) d_N_add_79 fl_N_19 (xr_9 hi) rfl rfl rfl rfl ?_
      refine k_iload C d_N_add_82 rfl ?_
      refine k_zald2 C O (q := (xPl g i num (tn (g.1 9 i 4)) 0)) d_N_add_84 (xr_12 hi) rfl 1 rfl (in_nI (n := 12) rfl (by omega) (by decide) c11) (nI_clamp (by omega)) ?_
      refine k_if_ne C (tgt := 92) d_N_add_85 (by decide) (fun c85 => ?_) (fun c85 => ?_)
      · refine k_iconst C (v := 1) d_N_add_92 (by decide) ?_
        refine k_goto C (tgt := 97) d_N_add_93 (by decide) ?_
        refine k_zast2 C O (q := (xPl g i num (tn (g.1 9 i 4)) 0)) d_N_add_97 (Or.inr rfl) (xr_12 hi) rfl 1 rfl (in_nI (n := 12) rfl (by omega) (by decide) c11) (nI_clamp (by omega)) ?_
        exact k_vret X d_N_add_98 (k_pv ((if_pos c11).trans ((if_pos c21).trans ((if_neg c85).trans (rfl)))))
      · refine k_iload_n C d_N_add_88 rfl rfl ?_
        refine k_if_eq C (tgt := 96) d_N_add_89 (by decide) (fun c89 => ?_) (fun c89 => ?_)
        · refine k_iconst C (v := 0) d_N_add_96 (by decide) ?_
          refine k_zast2 C O (q := (xPl g i num (tn (g.1 9 i 4)) 0)) d_N_add_97 (Or.inl rfl) (xr_12 hi) rfl 1 rfl (in_nI (n := 12) rfl (by omega) (by decide) c11) (nI_clamp (by omega)) ?_
          exact k_vret X d_N_add_98 (k_pv ((if_pos c11).trans ((if_pos c21).trans ((if_pos c85).trans ((if_pos c89).trans (rfl))))))
        · refine k_iconst C (v := 1) d_N_add_92 (by decide) ?_
          refine k_goto C (tgt := 97) d_N_add_93 (by decide) ?_
          refine k_zast2 C O (q := (xPl g i num (tn (g.1 9 i 4)) 0)) d_N_add_97 (Or.inr rfl) (xr_12 hi) rfl 1 rfl (in_nI (n := 12) rfl (by omega) (by decide) c11) (nI_clamp (by omega)) ?_
          exact k_vret X d_N_add_98 (k_pv ((if_pos c11).trans ((if_pos c21).trans ((if_pos c85).trans ((if_neg c89).trans (rfl))))))
  · exact k_vret X d_N_add_14 (k_pv ((if_neg c11).trans (rfl)))

set_option maxHeartbeats 4000000 in
set_option maxRecDepth 100000 in
theorem c_X_lookAt (l : Launch) (b : Nat → Nat → Nat) (dA : Nat → ClassId) (D : va_G) (g : kG) (i : Nat) (hi : i < 12) (rd num m : Int32) (hn : vp_in num 24) (hc : kN (g.1 9 i 4) 12) (hz : kZ (g.1 5 (tn num) 0)) : kMd (sysX b dA D) l y_X_lookAt b_X_lookAt 6 (some .int) 2 46 [.inr (.inr (0, 0)), .inr (.inr (6, i)), .inl rd, .inl num, .inl m] g (some (.inl (xLook g i rd num m).1)) (xLook g i rd num m).2 := by
  refine k_enter (by decide) [some (.inr (.inr (0, 0))), some (.inr (.inr (6, i))), some (.inl rd), some (.inl num), some (.inl m), none] rfl rfl (Nat.le_of_ble_eq_true rfl) (fun x X => ?_)
  have C := X.1
  have O := X.2.1
  refine k_aload_n C d_X_lookAt_0 rfl rfl ?_
  refine k_getR C O (r := (1, _)) d_X_lookAt_1 fl_X_11 xr_0 rfl rfl rfl rfl ?_
  refine k_iload_n C d_X_lookAt_4 rfl rfl ?_
  refine k_aald2 C O (r := (5, _)) d_X_lookAt_5 xr_1 rfl 3 rfl hn rfl rfl ?_
  refine k_astore C d_X_lookAt_6 (Nat.le_of_ble_eq_true rfl) rfl ?_
  refine k_aload_n C d_X_lookAt_8 rfl rfl ?_
  refine k_getI C O d_X_lookAt_9 fl_X_77 (xr_6 hi) rfl rfl rfl ?_
  refine k_iload_n C d_X_lookAt_12 rfl rfl ?_
  refine k_csI X d_X_lookAt_13 (c_X_hasBit l b dA D g (g.1 6 i 3) num) cs_X_113 ⟨by decide, by decide⟩ rfl rfl (Nat.le_of_ble_eq_true rfl) ?_
  refine k_if_ne C (tgt := 21) d_X_lookAt_16 (by decide) (fun c16 => ?_) (fun c16 => ?_)
  · refine k_aload C d_X_lookAt_21 rfl ?_
    refine k_iload C d_X_lookAt_23 rfl ?_
    refine k_csI X d_X_lookAt_25 (c_X_isFresh l b dA D g (tn num) (vi_lt hn) m) cs_X_161 ⟨by decide, by decide⟩ rfl rfl (Nat.le_of_ble_eq_true rfl) ?_
    refine k_if_ne C (tgt := 38) d_X_lookAt_28 (by decide) (fun c28 => ?_) (fun c28 => ?_)
    · refine k_aload_n C d_X_lookAt_38 rfl rfl ?_
      refine k_getR C O (r := (9, _)) d_X_lookAt_39 fl_X_120 (xr_6 hi) rfl rfl rfl rfl ?_
      refine k_iload_n C d_X_lookAt_42 rfl rfl ?_
      refine k_aload C d_X_lookAt_43 rfl ?_
      refine k_iload_n C d_X_lookAt_45 rfl rfl ?_
      refine k_cvV X d_X_lookAt_46 (c_N_add l b dA D g i hi num (tn num) (vi_lt hn) rd hc hz) cv_X_205 (xr_9 hi) rfl rfl ⟨by decide, by decide⟩ rfl rfl (Nat.le_of_ble_eq_true rfl) ?_
      refine k_iload_n C d_X_lookAt_49 rfl rfl ?_
      refine k_if_eq C (tgt := 64) d_X_lookAt_50 (by decide) (fun c50 => ?_) (fun c50 => ?_)
      · refine k_iload_n C d_X_lookAt_64 rfl rfl ?_
        refine k_if_eq C (tgt := 80) d_X_lookAt_65 (by decide) (fun c65 => ?_) (fun c65 => ?_)
        · refine k_aload_n C d_X_lookAt_80 rfl rfl ?_
          refine k_aload C d_X_lookAt_81 rfl ?_
          refine k_getI C O d_X_lookAt_83 fl_X_158 (xr_5 (vi_lt hn)) rfl rfl rfl ?_
          refine k_if_eq C (tgt := 93) d_X_lookAt_86 (by decide) (fun c86 => ?_) (fun c86 => ?_)
          · refine k_ldc2 C (v := 2) d_X_lookAt_93 (by decide +kernel) ?_
            refine k_cvV X d_X_lookAt_96 (c_A_addToSum l b dA D _ i hi _) cv_X_209 (xr_6 hi) rfl rfl ⟨by decide, by decide⟩ rfl rfl (Nat.le_of_ble_eq_true rfl) ?_
            refine k_iconst C (v := 1) d_X_lookAt_99 (by decide) ?_
            exact k_iret X d_X_lookAt_100 (k_pr ((if_neg c16).trans ((if_neg c28).trans ((if_pos c50).trans ((if_pos c65).trans ((if_pos c86).trans (rfl)))))))
          · refine k_lconst C (v := 1) d_X_lookAt_89 (by decide) ?_
            refine k_goto C (tgt := 96) d_X_lookAt_90 (by decide) ?_
            refine k_cvV X d_X_lookAt_96 (c_A_addToSum l b dA D _ i hi _) cv_X_209 (xr_6 hi) rfl rfl ⟨by decide, by decide⟩ rfl rfl (Nat.le_of_ble_eq_true rfl) ?_
            refine k_iconst C (v := 1) d_X_lookAt_99 (by decide) ?_
            exact k_iret X d_X_lookAt_100 (k_pr ((if_neg c16).trans ((if_neg c28).trans ((if_pos c50).trans ((if_pos c65).trans ((if_neg c86).trans (rfl)))))))
        · refine k_aload_n C d_X_lookAt_68 rfl rfl ?_
          refine k_aload C d_X_lookAt_69 rfl ?_
          refine k_getJ C O d_X_lookAt_71 fl_X_132 (xr_5 (vi_lt hn)) rfl rfl rfl ?_
          refine k_cvV X d_X_lookAt_74 (c_A_addToSum l b dA D _ i hi _) cv_X_209 (xr_6 hi) rfl rfl ⟨by decide, by decide⟩ rfl rfl (Nat.le_of_ble_eq_true rfl) ?_
          refine k_goto C (tgt := 99) d_X_lookAt_77 (by decide) ?_
          refine k_iconst C (v := 1) d_X_lookAt_99 (by decide) ?_
          exact k_iret X d_X_lookAt_100 (k_pr ((if_neg c16).trans ((if_neg c28).trans ((if_pos c50).trans ((if_neg c65).trans (rfl))))))
      · refine k_aload C d_X_lookAt_53 rfl ?_
        refine k_getI C O d_X_lookAt_55 fl_X_158 (xr_5 (vi_lt hn)) rfl rfl rfl ?_
        refine k_if_ne C (tgt := 64) d_X_lookAt_58 (by decide) (fun c58 => ?_) (fun c58 => ?_)
        · refine k_iload_n C d_X_lookAt_64 rfl rfl ?_
          refine k_if_eq C (tgt := 80) d_X_lookAt_65 (by decide) (fun c65 => ?_) (fun c65 => ?_)
          · refine k_aload_n C d_X_lookAt_80 rfl rfl ?_
            refine k_aload C d_X_lookAt_81 rfl ?_
            refine k_getI C O d_X_lookAt_83 fl_X_158 (xr_5 (vi_lt hn)) rfl rfl rfl ?_
            refine k_if_eq C (tgt := 93) d_X_lookAt_86 (by decide) (fun c86 => ?_) (fun c86 => ?_)
            · refine k_ldc2 C (v := 2) d_X_lookAt_93 (by decide +kernel) ?_
              refine k_cvV X d_X_lookAt_96 (c_A_addToSum l b dA D _ i hi _) cv_X_209 (xr_6 hi) rfl rfl ⟨by decide, by decide⟩ rfl rfl (Nat.le_of_ble_eq_true rfl) ?_
              refine k_iconst C (v := 1) d_X_lookAt_99 (by decide) ?_
              exact k_iret X d_X_lookAt_100 (k_pr ((if_neg c16).trans ((if_neg c28).trans ((if_neg c50).trans ((if_neg c58).trans ((if_pos c65).trans ((if_pos c86).trans (rfl))))))))
            · refine k_lconst C (v := 1) d_X_lookAt_89 (by decide) ?_
              refine k_goto C (tgt := 96) d_X_lookAt_90 (by decide) ?_
              refine k_cvV X d_X_lookAt_96 (c_A_addToSum l b dA D _ i hi _) cv_X_209 (xr_6 hi) rfl rfl ⟨by decide, by decide⟩ rfl rfl (Nat.le_of_ble_eq_true rfl) ?_
              refine k_iconst C (v := 1) d_X_lookAt_99 (by decide) ?_
              exact k_iret X d_X_lookAt_100 (k_pr ((if_neg c16).trans ((if_neg c28).trans ((if_neg c50).trans ((if_neg c58).trans ((if_pos c65).trans ((if_neg c86).trans (rfl))))))))
          · refine k_aload_n C d_X_lookAt_68 rfl rfl ?_
            refine k_aload C d_X_lookAt_69 rfl ?_
            refine k_getJ C O d_X_lookAt_71 fl_X_132 (xr_5 (vi_lt hn)) rfl rfl rfl ?_
            refine k_cvV X d_X_lookAt_74 (c_A_addToSum l b dA D _ i hi _) cv_X_209 (xr_6 hi) rfl rfl ⟨by decide, by decide⟩ rfl rfl (Nat.le_of_ble_eq_true rfl) ?_
            refine k_goto C (tgt := 99) d_X_lookAt_77 (by decide) ?_
            refine k_iconst C (v := 1) d_X_lookAt_99 (by decide) ?_
            exact k_iret X d_X_lookAt_100 (k_pr ((if_neg c16).trans ((if_neg c28).trans ((if_neg c50).trans ((if_neg c58).trans ((if_neg c65).trans (rfl)))))))
        · refine k_bipush C (v := (-3)) d_X_lookAt_61 (by decide) ?_
          exact k_iret X d_X_lookAt_63 (k_pr ((if_neg c16).trans ((if_neg c28).trans ((if_neg c50).trans ((if_pos c58).trans (rfl))))))
    · refine k_aload_n C d_X_lookAt_31 rfl rfl ?_
      refine k_iload_n C d_X_lookAt_32 rfl rfl ?_
      refine k_putI C O d_X_lookAt_33 fp_X_103 (xr_6 hi) rfl rfl rfl ?_
      refine k_iconst C (v := 0) d_X_lookAt_36 (by decide) ?_
      exact k_iret X d_X_lookAt_37 (k_pr ((if_neg c16).trans ((if_pos c28).trans (rfl))))
  · refine k_iconst C (v := (-1)) d_X_lookAt_19 (by decide) ?_
    exact k_iret X d_X_lookAt_20 (k_pr ((if_pos c16).trans (rfl)))

set_option maxHeartbeats 4000000 in
set_option maxRecDepth 100000 in
theorem l_X_rows {x : kCx} (l : Launch) (b : Nat → Nat → Nat) (dA : Nat → ClassId) (D : va_G) (i : Nat) (hi : i < 12) (m : Int32) (X : kIn (sysX b dA D) l b_X_goThroughRows y_X_goThroughRows.cls 9 (some .int) 3 71 x) : ∀ (n : Nat) (k : Nat) (last : Int64) (g : kG) (z6 z7 z8 : Option kV), xL g i → tn (g.1 6 i 2) < k + n → k ≤ 21 → Wk (kWd (sysX b dA D)) (kAA (sysX b dA D)) (y_ad (sysX b dA D)) x (0, 0) (kQ (sysX b dA D) (fun r g2 => r = some (.inl (xRows i m n k last g).1) ∧ g2 = (xRows i m n k last g).2) x) 12 [some (.inr (.inr (0, 0))), some (.inr (.inr (6, i))), some (.inl m), some (.inr (.inl last)), none, some (.inl (nI k)), z6, z7, z8] [] g := by
  have C := X.1
  have O := X.2.1
  intro n
  induction n with
  | zero =>
    intro k last g z6 z7 z8 hL hk hk2
    have hr := hL.2.2.1
    refine k_iload C d_X_goThroughRows_12 rfl ?_
    refine k_aload_n C d_X_goThroughRows_14 rfl rfl ?_
    refine k_getI C O d_X_goThroughRows_15 fl_X_192 (xr_6 hi) rfl rfl rfl ?_
    refine k_icmp_ge C (tgt := 118) d_X_goThroughRows_18 (by decide) (fun c18 => ?_) (fun c18 => ?_)
    · refine k_iconst C (v := 1) d_X_goThroughRows_118 (by decide) ?_
      exact k_iret X d_X_goThroughRows_119 (⟨rfl, rfl⟩)
    · exact absurd (x_ge hr.1 (by omega) (by have := hr.2; omega)) c18
  | succ n ih =>
    intro k last g z6 z7 z8 hL hk hk2
    have hr := hL.2.2.1
    refine k_iload C d_X_goThroughRows_12 rfl ?_
    refine k_aload_n C d_X_goThroughRows_14 rfl rfl ?_
    refine k_getI C O d_X_goThroughRows_15 fl_X_192 (xr_6 hi) rfl rfl rfl ?_
    refine k_icmp_ge C (tgt := 118) d_X_goThroughRows_18 (by decide) (fun c18 => ?_) (fun c18 => ?_)
    · refine k_iconst C (v := 1) d_X_goThroughRows_118 (by decide) ?_
      exact k_iret X d_X_goThroughRows_119 (k_pr ((if_pos c18).trans (rfl)))
    · have hlt : k < tn (g.1 6 i 2) := by
        rcases Nat.lt_or_ge k (tn (g.1 6 i 2)) with q | q
        · exact q
        · exact absurd (x_ge hr.1 q (by omega)) c18
      have hr2 := hr.2
      have hrow := hL.2.2.2 k hlt
      refine k_aload_n C d_X_goThroughRows_21 rfl rfl ?_
      refine k_getR C O (r := (7, _)) d_X_goThroughRows_22 fl_X_195 (xr_6 hi) rfl rfl rfl rfl ?_
      refine k_iload C d_X_goThroughRows_25 rfl ?_
      refine k_iald2 C O (q := k) d_X_goThroughRows_27 (xr_7 hi) rfl 0 rfl (show vp_in (nI k) 12 from vp_in_nI (by omega) (by decide)) (nI_clamp (by omega)) ?_
      refine k_istore C d_X_goThroughRows_28 (Nat.le_of_ble_eq_true rfl) rfl ?_
      refine k_aload_n C d_X_goThroughRows_30 rfl rfl ?_
      refine k_getR C O (r := (8, _)) d_X_goThroughRows_31 fl_X_198 (xr_6 hi) rfl rfl rfl rfl ?_
      refine k_iload C d_X_goThroughRows_34 rfl ?_
      refine k_iald2 C O (q := k) d_X_goThroughRows_36 (xr_8 hi) rfl 0 rfl (show vp_in (nI k) 12 from vp_in_nI (by omega) (by decide)) (nI_clamp (by omega)) ?_
      refine k_istore C d_X_goThroughRows_37 (Nat.le_of_ble_eq_true rfl) rfl ?_
      refine k_iload C d_X_goThroughRows_39 rfl ?_
      refine k_iconst C (v := 2) d_X_goThroughRows_41 (by decide) ?_
      refine k_icmp_ne C (tgt := 67) d_X_goThroughRows_42 (by decide) (fun c42 => ?_) (fun c42 => ?_)
      · have hw := (hrow.resolve_left (fun q => c42 q.1)).2
        refine k_aload_n C d_X_goThroughRows_67 rfl rfl ?_
        refine k_aload_n C d_X_goThroughRows_68 rfl rfl ?_
        refine k_iload C d_X_goThroughRows_69 rfl ?_
        refine k_if_ne C (tgt := 78) d_X_goThroughRows_71 (by decide) (fun c71 => ?_) (fun c71 => ?_)
        · refine k_iconst C (v := 0) d_X_goThroughRows_78 (by decide) ?_
          refine k_iload C d_X_goThroughRows_79 rfl ?_
          refine k_iload_n C d_X_goThroughRows_81 rfl rfl ?_
          refine k_cvI X d_X_goThroughRows_82 (c_X_lookAt l b dA D g i hi _ (g.1 8 i k) m hw hL.2.1 (hL.1 _ (vi_lt hw))) cv_X_201 xr_0 rfl rfl ⟨by decide, by decide⟩ rfl rfl (Nat.le_of_ble_eq_true rfl) ?_
          refine k_istore C d_X_goThroughRows_85 (Nat.le_of_ble_eq_true rfl) rfl ?_
          refine k_iload C d_X_goThroughRows_87 rfl ?_
          refine k_iconst C (v := 1) d_X_goThroughRows_89 (by decide) ?_
          refine k_icmp_eq C (tgt := 96) d_X_goThroughRows_90 (by decide) (fun c90 => ?_) (fun c90 => ?_)
          · refine k_iload C d_X_goThroughRows_96 rfl ?_
            refine k_if_ne C (tgt := 112) d_X_goThroughRows_98 (by decide) (fun c98 => ?_) (fun c98 => ?_)
            · refine k_iinc C (w := nI (k + 1)) d_X_goThroughRows_112 rfl (nI_inc k) rfl ?_
              refine k_goto C (tgt := 12) d_X_goThroughRows_115 (by decide) ?_
              exact k_Qs ((if_neg c18).trans ((if_neg c42).trans ((if_neg c71).trans ((if_pos c90).trans ((if_neg c98).trans (rfl)))))) (ih (k + 1) _ (xLook g i 0 (g.1 8 i k) m).2 _ _ _ (xL_look hL 0 (g.1 8 i k) m) (by rw [xLook_6 g i 0 (g.1 8 i k) m i 2 (by decide)]; omega) (by omega))
            · refine k_aload_n C d_X_goThroughRows_101 rfl rfl ?_
              refine k_getR C O (r := (1, _)) d_X_goThroughRows_102 fl_X_11 xr_0 rfl rfl rfl rfl ?_
              refine k_iload C d_X_goThroughRows_105 rfl ?_
              refine k_aald2 C O (r := (5, _)) d_X_goThroughRows_107 xr_1 rfl 3 rfl hw rfl rfl ?_
              refine k_getJ C O d_X_goThroughRows_108 fl_X_132 (xr_5 (vi_lt hw)) rfl rfl rfl ?_
              refine k_lstore_n C d_X_goThroughRows_111 rfl (Nat.le_of_ble_eq_true rfl) rfl ?_
              refine k_iinc C (w := nI (k + 1)) d_X_goThroughRows_112 rfl (nI_inc k) rfl ?_
              refine k_goto C (tgt := 12) d_X_goThroughRows_115 (by decide) ?_
              exact k_Qs ((if_neg c18).trans ((if_neg c42).trans ((if_neg c71).trans ((if_pos c90).trans ((if_pos c98).trans (rfl)))))) (ih (k + 1) _ (xLook g i 0 (g.1 8 i k) m).2 _ _ _ (xL_look hL 0 (g.1 8 i k) m) (by rw [xLook_6 g i 0 (g.1 8 i k) m i 2 (by decide)]; omega) (by omega))
          · refine k_iload C d_X_goThroughRows_93 rfl ?_
            exact k_iret X d_X_goThroughRows_95 (k_pr ((if_neg c18).trans ((if_neg c42).trans ((if_neg c71).trans ((if_neg c90).trans (rfl))))))
        · refine k_iconst C (v := 1) d_X_goThroughRows_74 (by decide) ?_
          refine k_goto C (tgt := 79) d_X_goThroughRows_75 (by decide) ?_
          refine k_iload C d_X_goThroughRows_79 rfl ?_
          refine k_iload_n C d_X_goThroughRows_81 rfl rfl ?_
          refine k_cvI X d_X_goThroughRows_82 (c_X_lookAt l b dA D g i hi _ (g.1 8 i k) m hw hL.2.1 (hL.1 _ (vi_lt hw))) cv_X_201 xr_0 rfl rfl ⟨by decide, by decide⟩ rfl rfl (Nat.le_of_ble_eq_true rfl) ?_
          refine k_istore C d_X_goThroughRows_85 (Nat.le_of_ble_eq_true rfl) rfl ?_
          refine k_iload C d_X_goThroughRows_87 rfl ?_
          refine k_iconst C (v := 1) d_X_goThroughRows_89 (by decide) ?_
          refine k_icmp_eq C (tgt := 96) d_X_goThroughRows_90 (by decide) (fun c90 => ?_) (fun c90 => ?_)
          · refine k_iload C d_X_goThroughRows_96 rfl ?_
            refine k_if_ne C (tgt := 112) d_X_goThroughRows_98 (by decide) (fun c98 => ?_) (fun c98 => ?_)
            · refine k_iinc C (w := nI (k + 1)) d_X_goThroughRows_112 rfl (nI_inc k) rfl ?_
              refine k_goto C (tgt := 12) d_X_goThroughRows_115 (by decide) ?_
              exact k_Qs ((if_neg c18).trans ((if_neg c42).trans ((if_pos c71).trans ((if_pos c90).trans ((if_neg c98).trans (rfl)))))) (ih (k + 1) _ (xLook g i 1 (g.1 8 i k) m).2 _ _ _ (xL_look hL 1 (g.1 8 i k) m) (by rw [xLook_6 g i 1 (g.1 8 i k) m i 2 (by decide)]; omega) (by omega))
            · refine k_aload_n C d_X_goThroughRows_101 rfl rfl ?_
              refine k_getR C O (r := (1, _)) d_X_goThroughRows_102 fl_X_11 xr_0 rfl rfl rfl rfl ?_
              refine k_iload C d_X_goThroughRows_105 rfl ?_
              refine k_aald2 C O (r := (5, _)) d_X_goThroughRows_107 xr_1 rfl 3 rfl hw rfl rfl ?_
              refine k_getJ C O d_X_goThroughRows_108 fl_X_132 (xr_5 (vi_lt hw)) rfl rfl rfl ?_
              refine k_lstore_n C d_X_goThroughRows_111 rfl (Nat.le_of_ble_eq_true rfl) rfl ?_
              refine k_iinc C (w := nI (k + 1)) d_X_goThroughRows_112 rfl (nI_inc k) rfl ?_
              refine k_goto C (tgt := 12) d_X_goThroughRows_115 (by decide) ?_
              exact k_Qs ((if_neg c18).trans ((if_neg c42).trans ((if_pos c71).trans ((if_pos c90).trans ((if_pos c98).trans (rfl)))))) (ih (k + 1) _ (xLook g i 1 (g.1 8 i k) m).2 _ _ _ (xL_look hL 1 (g.1 8 i k) m) (by rw [xLook_6 g i 1 (g.1 8 i k) m i 2 (by decide)]; omega) (by omega))
          · refine k_iload C d_X_goThroughRows_93 rfl ?_
            exact k_iret X d_X_goThroughRows_95 (k_pr ((if_neg c18).trans ((if_neg c42).trans ((if_pos c71).trans ((if_neg c90).trans (rfl))))))
      · have hw := (hrow.resolve_right (fun q => q.1 c42)).2
        have hw1 := hw.1
        have hw2 := hw.2
        have e9 : nI k + g.1 8 i k + Int32.ofInt 1 = nI (k + tn (g.1 8 i k) + 1) := by
          conv => lhs; rw [hw1]
          rw [nI_add]
          exact nI_1 _
        refine k_iload C d_X_goThroughRows_45 rfl ?_
        refine k_lload_n C d_X_goThroughRows_47 rfl rfl ?_
        refine k_lconst C (v := 1) d_X_goThroughRows_48 (by decide) ?_
        refine k_land C d_X_goThroughRows_49 ?_
        refine k_lconst C (v := 0) d_X_goThroughRows_50 (by decide) ?_
        refine k_lcmp C d_X_goThroughRows_51 ?_
        refine k_if_eq C (tgt := 60) d_X_goThroughRows_52 (by decide) (fun c52 => ?_) (fun c52 => ?_)
        · refine k_iconst C (v := 0) d_X_goThroughRows_60 (by decide) ?_
          refine k_iadd C d_X_goThroughRows_61 ?_
          refine k_istore C d_X_goThroughRows_62 (Nat.le_of_ble_eq_true rfl) rfl ?_
          refine k_goto C (tgt := 112) d_X_goThroughRows_64 (by decide) ?_
          refine k_iinc C (w := nI (k + 1)) d_X_goThroughRows_112 rfl (by rw [Int32.add_zero]; exact nI_inc k) rfl ?_
          refine k_goto C (tgt := 12) d_X_goThroughRows_115 (by decide) ?_
          exact k_Qs ((if_neg c18).trans ((if_pos c42).trans ((if_pos c52).trans (rfl)))) (ih (k + 1) _ g _ _ _ hL (by omega) (by omega))
        · refine k_iload C d_X_goThroughRows_55 rfl ?_
          refine k_goto C (tgt := 61) d_X_goThroughRows_57 (by decide) ?_
          refine k_iadd C d_X_goThroughRows_61 ?_
          refine k_istore C d_X_goThroughRows_62 (Nat.le_of_ble_eq_true rfl) rfl ?_
          refine k_goto C (tgt := 112) d_X_goThroughRows_64 (by decide) ?_
          refine k_iinc C (w := nI (k + 1 + tn (g.1 8 i k))) d_X_goThroughRows_112 rfl (by rw [Nat.add_right_comm]; exact e9) rfl ?_
          refine k_goto C (tgt := 12) d_X_goThroughRows_115 (by decide) ?_
          exact k_Qs ((if_neg c18).trans ((if_pos c42).trans ((if_neg c52).trans (rfl)))) (ih (k + 1 + tn (g.1 8 i k)) _ g _ _ _ hL (by omega) (by omega))

set_option maxHeartbeats 4000000 in
set_option maxRecDepth 100000 in
theorem c_X_goThroughRows (l : Launch) (b : Nat → Nat → Nat) (dA : Nat → ClassId) (D : va_G) (g : kG) (i : Nat) (hi : i < 12) (m : Int32) (hL : xL g i) : kMd (sysX b dA D) l y_X_goThroughRows b_X_goThroughRows 9 (some .int) 3 71 [.inr (.inr (0, 0)), .inr (.inr (6, i)), .inl m] g (some (.inl (xGo g i m).1)) (xGo g i m).2 := by
  refine k_enter (by decide) [some (.inr (.inr (0, 0))), some (.inr (.inr (6, i))), some (.inl m), none, none, none, none, none, none] rfl rfl (Nat.le_of_ble_eq_true rfl) (fun x X => ?_)
  have C := X.1
  have O := X.2.1
  refine k_aload_n C d_X_goThroughRows_0 rfl rfl ?_
  refine k_ldc2 C (v := 7) d_X_goThroughRows_1 (by decide +kernel) ?_
  refine k_putJ C O d_X_goThroughRows_4 fp_X_187 (xr_6 hi) rfl rfl rfl ?_
  refine k_lconst C (v := 0) d_X_goThroughRows_7 (by decide) ?_
  refine k_lstore_n C d_X_goThroughRows_8 rfl (Nat.le_of_ble_eq_true rfl) rfl ?_
  refine k_iconst C (v := 0) d_X_goThroughRows_9 (by decide) ?_
  refine k_istore C d_X_goThroughRows_10 (Nat.le_of_ble_eq_true rfl) rfl ?_
  exact l_X_rows l b dA D i hi m X 13 0 0 (g.1, kUJ g.2 6 i 8 7) none none none hL (by have := hL.2.2.1.2; show tn (g.1 6 i 2) < 0 + 13; omega) (by decide)
end
section
/-! the class: specs and contracts, 4: keep, try, run, the calls but resolve (by program: wip/gen/cx4.py) -/
def xKp (g : kG) (i : Nat) (r : Int32) : kG := (kU (kU g.1 6 i 6 1) 6 i 7 r, g.2)
def xKeep (g : kG) (i : Nat) (r : Int32) : kG := if xIn (g.1 6 i 4) (g.1 0 0 4) = 0 then xKp g i r else if r = 1 then xPut (xKp g i r) (tn (g.1 6 i 4)) (g.2 6 i 8) else xRem (xKp g i r) (tn (g.1 6 i 4))
def xTryA (g : kG) (i : Nat) : kG := xFgt (kU (kU g.1 6 i 11 (g.1 6 i 11 + 1)) 6 i 12 (g.1 6 i 12 + 1), g.2) i
def xTryB (r : Int32) (g : kG) (i : Nat) : Int32 × kG := if r = 1 then (r, xKeep g i r) else if r = -3 then (r, xKeep g i r) else (r, xFgt g i)
def xTry (g : kG) (i : Nat) (m : Int32) : Int32 × kG := if (xGo (xTryA g i) i m).1 = 0 then xTryB (xGo (xTryA g i) i m).1 (xGo (xTryA g i) i m).2 i else xTryB (xGo (xTryA g i) i m).1 (kU (xGo (xTryA g i) i m).2.1 6 i 12 0, (xGo (xTryA g i) i m).2.2) i
def xW (g : kG) (i : Nat) : kG := (kU g.1 6 i 9 (-1), g.2)
def xRun (g : kG) (n : Int32) : Int32 × kG := if xBit (xFresh g) n = 0 then (if g.1 6 (tn n) 12 < g.1 0 0 0 then xTry (xW g (tn n)) (tn n) (xFresh g) else (-2, (kU (xFgt (xW g (tn n)) (tn n)).1 6 (tn n) 12 0, g.2))) else (g.1 6 (tn n) 7, (kU (xW g (tn n)).1 6 (tn n) 10 (g.1 6 (tn n) 10 + 1), g.2))
theorem xRows_fr (i : Nat) (m : Int32) (k a j : Nat) (h : k ≠ 9 ∧ k ≠ 10 ∧ k ≠ 11 ∧ k ≠ 12 ∧ k ≠ 6) : ∀ (n q : Nat) (last : Int64) (g : kG), (xRows i m n q last g).2.1 k a j = g.1 k a j
  | 0, q, last, g => rfl
  | n + 1, q, last, g => by
    have e1 := xLook_fr g i 1 (g.1 8 i q) m k a j h
    have e0 := xLook_fr g i 0 (g.1 8 i q) m k a j h
    unfold xRows
    split
    · rfl
    · split
      · split
        · exact xRows_fr i m k a j h n _ _ _
        · exact xRows_fr i m k a j h n _ _ _
      · split
        · split
          · (try split) <;> (rw [xRows_fr i m k a j h n]; exact e1)
          · exact e1
        · split
          · (try split) <;> (rw [xRows_fr i m k a j h n]; exact e0)
          · exact e0
theorem xRows_6 (i : Nat) (m : Int32) (a j : Nat) (h : j ≠ 9) : ∀ (n q : Nat) (last : Int64) (g : kG), (xRows i m n q last g).2.1 6 a j = g.1 6 a j
  | 0, q, last, g => rfl
  | n + 1, q, last, g => by
    have e1 := xLook_6 g i 1 (g.1 8 i q) m a j h
    have e0 := xLook_6 g i 0 (g.1 8 i q) m a j h
    unfold xRows
    split
    · rfl
    · split
      · split
        · exact xRows_6 i m a j h n _ _ _
        · exact xRows_6 i m a j h n _ _ _
      · split
        · split
          · (try split) <;> (rw [xRows_6 i m a j h n]; exact e1)
          · exact e1
        · split
          · (try split) <;> (rw [xRows_6 i m a j h n]; exact e0)
          · exact e0
theorem xL_tryA {g : kG} {i : Nat} (h : xL g i) : xL (xTryA g i) i := by
  obtain ⟨h1, h2, h3, h4⟩ := h
  refine ⟨h1, ?_, h3, h4⟩
  have e : (xTryA g i).1 9 i 4 = nI 0 := by
    show kU _ 9 i 4 0 9 i 4 = nI 0
    rw [kU_s]; exact nI_0.symm
  rw [e]
  exact kN_of (by omega) (by omega)
/-- what always holds of the class's memory, as far as its own walks ask it -/
def xI (g : kG) : Prop := kN (g.1 0 0 4) 24 ∧ kN (g.1 0 0 5) 12 ∧ kN (g.1 0 0 6) 6 ∧ (∀ a, a < 12 → xL g a ∧ ∀ k, k < tn (g.1 9 a 4) → vp_in (g.1 10 a k) 24) ∧ (∀ m, m < 6 → kN (g.1 14 m 3) 4 ∧ vp_in (g.1 14 m 0) 24) ∧ ∃ rs rl : Nat, g.1 0 0 8 = nI rs ∧ g.1 0 0 9 = nI rl ∧ rs + rl ≤ 13
def xFile (g : kG) (d : Int64) : Int32 × kG := if g.1 0 0 4 < 24 then (g.1 0 0 4 + 1 - 1, (kU (xPut g (tn (g.1 0 0 4)) d).1 0 0 4 (g.1 0 0 4 + 1), (xPut g (tn (g.1 0 0 4)) d).2)) else (-1, g)
def xChange (g : kG) (n t : Int32) (d : Int64) : Int32 × kG := if xIn n (g.1 0 0 4) = 0 then (0, g) else if xMade g (tn n) = 0 then (if t = 0 then (1, xRem g (tn n)) else (1, xPut g (tn n) d)) else (0, g)
def xAction (g : kG) (al : Int32) : Int32 × kG := if g.1 0 0 5 < 12 then (g.1 0 0 5 + 1 - 1, (kU (kU g.1 6 (tn (g.1 0 0 5)) 3 al) 0 0 5 (g.1 0 0 5 + 1), g.2)) else (-1, g)
def xMakes (g : kG) (n f : Int32) : Int32 × kG := if xIn n (g.1 0 0 5) = 0 then (0, g) else if xIn f (g.1 0 0 4) = 0 then (0, g) else if g.1 6 (tn n) 4 = -1 then (if xMade g (tn f) = 0 then (1, xRem (kU (xFgt (kU g.1 6 (tn n) 4 f, g.2) (tn n)).1 5 (tn f) 2 n, g.2) (tn f)) else (0, g)) else (0, g)
def xIsRow (g : kG) (k w : Int32) : Int32 := if k = 2 then (if w < 1 then 0 else if 8 < w then 0 else 1) else if k = 0 then (if xIn w (g.1 0 0 4) = 0 then 0 else 1) else if k = 1 then (if xIn w (g.1 0 0 4) = 0 then 0 else 1) else 0
def xRow (g : kG) (n k w : Int32) : Int32 × kG := if xIn n (g.1 0 0 5) = 0 then (0, g) else if xIsRow g k w = 0 then (0, g) else ((xAddRow g (tn n) k w).1, (xAddRow g (tn n) k w).2)
def xRunP (g : kG) (n : Int32) : Int32 × kG := if xIn n (g.1 0 0 5) = 0 then (-9, g) else ((xRun g n).1, (xRun g n).2)
def xRing (g : kG) (i : Int32) : Int32 := if i < 0 then -1 else if g.1 0 0 9 ≤ i then -1 else g.1 4 0 (tn (g.1 0 0 8 + i))
def xWaits (g : kG) (n : Int32) : Int32 := if xIn n (g.1 0 0 5) = 0 then -1 else g.1 6 (tn n) 9
def xFreshP (g : kG) (n : Int32) : Int32 := if xIn n (g.1 0 0 5) = 0 then 0 else if xBit (xFresh g) n = 0 then 0 else 1
def xKept (g : kG) (n i w : Int32) : Int32 := if xIn n (g.1 0 0 5) = 0 then -1 else if g.1 6 (tn n) 6 = 0 then -1 else xTell g (tn n) i w
def xUnused (g : kG) (n : Int32) : Int32 := if xIn n (g.1 0 0 5) = 0 then 0 else (g.1 6 (tn n) 3 &&& ((1 <<< (g.1 0 0 4 &&& 31)) - 1)) &&& (xFb g (tn n) (tn (g.1 9 (tn n) 4)) 0 0 ^^^ (-1))
def xDigest (g : kG) (n : Int32) : Int64 := if xIn n (g.1 0 0 4) = 0 then 0 else g.2 5 (tn n) 1
def xCounted (g : kG) (n w : Int32) : Int32 := if xIn n (g.1 0 0 5) = 0 then -1 else if w.toInt < 0 ∨ 2 < w.toInt then -1 else if w = 0 then g.1 6 (tn n) 10 else if w = 1 then g.1 6 (tn n) 11 else g.1 6 (tn n) 12
def xMembers (g : kG) (n : Int32) : Int32 := if xIn n (g.1 0 0 4) = 0 then 0 else xTree g (tn n)
def xMapping (g : kG) (n : Int32) (s : Int64) : Int32 × kG := if xIn n (g.1 0 0 4) = 0 then (-1, g) else if g.1 0 0 6 < 6 then (g.1 0 0 6 + 1 - 1, (kU (kU g.1 14 (tn (g.1 0 0 6)) 0 n) 0 0 6 (g.1 0 0 6 + 1), kUJ g.2 14 (tn (g.1 0 0 6)) 1 s)) else (-1, g)
def xTake (g : kG) (i f : Nat) : Int32 × kG := (xTk g i (g.2 5 f 1) (tn (xTree g f)) 0 0, (kU g.1 14 i 3 (xTree g f), kUJ g.2 14 i 2 (g.2 5 f 1)))
def xMap (g : kG) (n : Int32) : Int32 × kG := if xIn n (g.1 0 0 6) = 0 then (-1, g) else if xMade g (tn (g.1 14 (tn n) 0)) = 0 then (-1, g) else if g.1 5 (tn (g.1 14 (tn n) 0)) 0 = 0 then (-1, g) else if xFr g (tn (g.1 14 (tn n) 0)) (xFresh g) = 0 then (-1, g) else xTake g (tn n) (tn (g.1 14 (tn n) 0))
def xResult (g : kG) (n i : Int32) : Int64 := if xIn n (g.1 0 0 6) = 0 then 0 else xRes g (tn n) i
theorem xFresh_Z (m n : Int32) : kZ (xBit m n) := by
  unfold xBit
  split
  · exact Or.inl rfl
  · exact Or.inr rfl
theorem xAddRow_Z (g : kG) (i : Nat) (k t : Int32) : kZ (xAddRow g i k t).1 := by
  unfold xAddRow
  split
  · exact Or.inr rfl
  · exact Or.inl rfl
set_option maxHeartbeats 4000000 in
set_option maxRecDepth 100000 in
theorem c_X_keep (l : Launch) (b : Nat → Nat → Nat) (dA : Nat → ClassId) (D : va_G) (g : kG) (i : Nat) (hi : i < 12) (r : Int32) (hF : kN (g.1 0 0 4) 24) : kMd (sysX b dA D) l y_X_keep b_X_keep 3 none 1 22 [.inr (.inr (0, 0)), .inr (.inr (6, i)), .inl r] g none (xKeep g i r) := by
  refine k_enter (by decide) [some (.inr (.inr (0, 0))), some (.inr (.inr (6, i))), some (.inl r)] rfl rfl (Nat.le_of_ble_eq_true rfl) (fun x X => ?_)
  have C := X.1
  have O := X.2.1
  refine k_aload_n C d_X_keep_0 rfl rfl ?_
  refine k_iconst C (v := 1) d_X_keep_1 (by decide) ?_
  refine k_putZ C O d_X_keep_2 fp_X_116 (Or.inr rfl) (xr_6 hi) rfl rfl rfl ?_
  refine k_aload_n C d_X_keep_5 rfl rfl ?_
  refine k_iload_n C d_X_keep_6 rfl rfl ?_
  refine k_putI C O d_X_keep_7 fp_X_173 (xr_6 hi) rfl rfl rfl ?_
  refine k_aload_n C d_X_keep_10 rfl rfl ?_
  refine k_aload_n C d_X_keep_11 rfl rfl ?_
  refine k_getI C O d_X_keep_12 fl_X_83 (xr_6 hi) rfl rfl rfl ?_
  refine k_cvI X d_X_keep_15 (c_X_isFile l b dA D _ _) cv_X_66 xr_0 rfl rfl ⟨by decide, by decide⟩ rfl rfl (Nat.le_of_ble_eq_true rfl) ?_
  refine k_if_ne C (tgt := 22) d_X_keep_18 (by decide) (fun c18 => ?_) (fun c18 => ?_)
  · refine k_iload_n C d_X_keep_22 rfl rfl ?_
    refine k_iconst C (v := 1) d_X_keep_23 (by decide) ?_
    refine k_icmp_ne C (tgt := 46) d_X_keep_24 (by decide) (fun c24 => ?_) (fun c24 => ?_)
    · refine k_aload_n C d_X_keep_46 rfl rfl ?_
      refine k_getR C O (r := (1, _)) d_X_keep_47 fl_X_11 xr_0 rfl rfl rfl rfl ?_
      refine k_aload_n C d_X_keep_50 rfl rfl ?_
      refine k_getI C O d_X_keep_51 fl_X_83 (xr_6 hi) rfl rfl rfl ?_
      refine k_aald2 C O (r := (5, _)) d_X_keep_54 xr_1 rfl 3 rfl (in_x (n := 24) hF (by decide) c18) rfl rfl ?_
      refine k_cvV X d_X_keep_55 (c_F_remove l b dA D _ _ (vi_lt (in_x (n := 24) hF (by decide) c18))) cv_X_74 (xr_5 (vi_lt (in_x (n := 24) hF (by decide) c18))) rfl rfl ⟨by decide, by decide⟩ rfl rfl (Nat.le_of_ble_eq_true rfl) ?_
      exact k_vret X d_X_keep_58 (k_pv ((if_neg c18).trans ((if_neg c24).trans (rfl))))
    · refine k_aload_n C d_X_keep_27 rfl rfl ?_
      refine k_getR C O (r := (1, _)) d_X_keep_28 fl_X_11 xr_0 rfl rfl rfl rfl ?_
      refine k_aload_n C d_X_keep_31 rfl rfl ?_
      refine k_getI C O d_X_keep_32 fl_X_83 (xr_6 hi) rfl rfl rfl ?_
      refine k_aald2 C O (r := (5, _)) d_X_keep_35 xr_1 rfl 3 rfl (in_x (n := 24) hF (by decide) c18) rfl rfl ?_
      refine k_aload_n C d_X_keep_36 rfl rfl ?_
      refine k_getJ C O d_X_keep_37 fl_X_187 (xr_6 hi) rfl rfl rfl ?_
      refine k_cvV X d_X_keep_40 (c_F_put l b dA D _ _ (vi_lt (in_x (n := 24) hF (by decide) c18)) _) cv_X_62 (xr_5 (vi_lt (in_x (n := 24) hF (by decide) c18))) rfl rfl ⟨by decide, by decide⟩ rfl rfl (Nat.le_of_ble_eq_true rfl) ?_
      refine k_goto C (tgt := 58) d_X_keep_43 (by decide) ?_
      exact k_vret X d_X_keep_58 (k_pv ((if_neg c18).trans ((if_pos c24).trans (rfl))))
  · exact k_vret X d_X_keep_21 (k_pv ((if_pos c18).trans (rfl)))

set_option maxHeartbeats 4000000 in
set_option maxRecDepth 100000 in
theorem c_X_tryOnce (l : Launch) (b : Nat → Nat → Nat) (dA : Nat → ClassId) (D : va_G) (g : kG) (i : Nat) (hi : i < 12) (m : Int32) (hL : xL g i) (hF : kN (g.1 0 0 4) 24) : kMd (sysX b dA D) l y_X_tryOnce b_X_tryOnce 4 (some .int) 4 99 [.inr (.inr (0, 0)), .inr (.inr (6, i)), .inl m] g (some (.inl (xTry g i m).1)) (xTry g i m).2 := by
  have hF2 : kN ((xGo (xTryA g i) i m).2.1 0 0 4) 24 := by
    have e := xRows_fr i m 0 0 4 (by decide) 13 0 0 ((xTryA g i).1, kUJ (xTryA g i).2 6 i 8 7)
    unfold xGo
    rw [e]
    exact hF
  refine k_enter (by decide) [some (.inr (.inr (0, 0))), some (.inr (.inr (6, i))), some (.inl m), none] rfl rfl (Nat.le_of_ble_eq_true rfl) (fun x X => ?_)
  have C := X.1
  have O := X.2.1
  refine k_aload_n C d_X_tryOnce_0 rfl rfl ?_
  refine k_dup C d_X_tryOnce_1 rfl ?_
  refine k_getI C O d_X_tryOnce_2 fl_X_139 (xr_6 hi) rfl rfl rfl ?_
  refine k_iconst C (v := 1) d_X_tryOnce_5 (by decide) ?_
  refine k_iadd C d_X_tryOnce_6 ?_
  refine k_putI C O d_X_tryOnce_7 fp_X_139 (xr_6 hi) rfl rfl rfl ?_
  refine k_aload_n C d_X_tryOnce_10 rfl rfl ?_
  refine k_dup C d_X_tryOnce_11 rfl ?_
  refine k_getI C O d_X_tryOnce_12 fl_X_142 (xr_6 hi) rfl rfl rfl ?_
  refine k_iconst C (v := 1) d_X_tryOnce_15 (by decide) ?_
  refine k_iadd C d_X_tryOnce_16 ?_
  refine k_putI C O d_X_tryOnce_17 fp_X_142 (xr_6 hi) rfl rfl rfl ?_
  refine k_aload_n C d_X_tryOnce_20 rfl rfl ?_
  refine k_cvV X d_X_tryOnce_21 (c_A_forget l b dA D _ i hi) cv_X_86 (xr_6 hi) rfl rfl ⟨by decide, by decide⟩ rfl rfl (Nat.le_of_ble_eq_true rfl) ?_
  refine k_aload_n C d_X_tryOnce_24 rfl rfl ?_
  refine k_aload_n C d_X_tryOnce_25 rfl rfl ?_
  refine k_iload_n C d_X_tryOnce_26 rfl rfl ?_
  refine k_cvI X d_X_tryOnce_27 (c_X_goThroughRows l b dA D (xTryA g i) i hi m (xL_tryA hL)) cv_X_180 xr_0 rfl rfl ⟨by decide, by decide⟩ rfl rfl (Nat.le_of_ble_eq_true rfl) ?_
  refine k_istore_n C d_X_tryOnce_30 rfl (Nat.le_of_ble_eq_true rfl) rfl ?_
  refine k_iload_n C d_X_tryOnce_31 rfl rfl ?_
  refine k_if_eq C (tgt := 40) d_X_tryOnce_32 (by decide) (fun c32 => ?_) (fun c32 => ?_)
  · refine k_iload_n C d_X_tryOnce_40 rfl rfl ?_
    refine k_iconst C (v := 1) d_X_tryOnce_41 (by decide) ?_
    refine k_icmp_eq C (tgt := 51) d_X_tryOnce_42 (by decide) (fun c42 => ?_) (fun c42 => ?_)
    · refine k_aload_n C d_X_tryOnce_51 rfl rfl ?_
      refine k_aload_n C d_X_tryOnce_52 rfl rfl ?_
      refine k_iload_n C d_X_tryOnce_53 rfl rfl ?_
      refine k_cvV X d_X_tryOnce_54 (c_X_keep l b dA D _ i hi _ hF2) cv_X_183 xr_0 rfl rfl ⟨by decide, by decide⟩ rfl rfl (Nat.le_of_ble_eq_true rfl) ?_
      refine k_goto C (tgt := 64) d_X_tryOnce_57 (by decide) ?_
      refine k_iload_n C d_X_tryOnce_64 rfl rfl ?_
      exact k_iret X d_X_tryOnce_65 (k_pr ((if_pos c32).trans ((if_pos c42).trans (rfl))))
    · refine k_iload_n C d_X_tryOnce_45 rfl rfl ?_
      refine k_bipush C (v := (-3)) d_X_tryOnce_46 (by decide) ?_
      refine k_icmp_ne C (tgt := 60) d_X_tryOnce_48 (by decide) (fun c48 => ?_) (fun c48 => ?_)
      · refine k_aload_n C d_X_tryOnce_60 rfl rfl ?_
        refine k_cvV X d_X_tryOnce_61 (c_A_forget l b dA D _ i hi) cv_X_86 (xr_6 hi) rfl rfl ⟨by decide, by decide⟩ rfl rfl (Nat.le_of_ble_eq_true rfl) ?_
        refine k_iload_n C d_X_tryOnce_64 rfl rfl ?_
        exact k_iret X d_X_tryOnce_65 (k_pr ((if_pos c32).trans ((if_neg c42).trans ((if_neg c48).trans (rfl)))))
      · refine k_aload_n C d_X_tryOnce_51 rfl rfl ?_
        refine k_aload_n C d_X_tryOnce_52 rfl rfl ?_
        refine k_iload_n C d_X_tryOnce_53 rfl rfl ?_
        refine k_cvV X d_X_tryOnce_54 (c_X_keep l b dA D _ i hi _ hF2) cv_X_183 xr_0 rfl rfl ⟨by decide, by decide⟩ rfl rfl (Nat.le_of_ble_eq_true rfl) ?_
        refine k_goto C (tgt := 64) d_X_tryOnce_57 (by decide) ?_
        refine k_iload_n C d_X_tryOnce_64 rfl rfl ?_
        exact k_iret X d_X_tryOnce_65 (k_pr ((if_pos c32).trans ((if_neg c42).trans ((if_pos c48).trans (rfl)))))
  · refine k_aload_n C d_X_tryOnce_35 rfl rfl ?_
    refine k_iconst C (v := 0) d_X_tryOnce_36 (by decide) ?_
    refine k_putI C O d_X_tryOnce_37 fp_X_142 (xr_6 hi) rfl rfl rfl ?_
    refine k_iload_n C d_X_tryOnce_40 rfl rfl ?_
    refine k_iconst C (v := 1) d_X_tryOnce_41 (by decide) ?_
    refine k_icmp_eq C (tgt := 51) d_X_tryOnce_42 (by decide) (fun c42 => ?_) (fun c42 => ?_)
    · refine k_aload_n C d_X_tryOnce_51 rfl rfl ?_
      refine k_aload_n C d_X_tryOnce_52 rfl rfl ?_
      refine k_iload_n C d_X_tryOnce_53 rfl rfl ?_
      refine k_cvV X d_X_tryOnce_54 (c_X_keep l b dA D _ i hi _ hF2) cv_X_183 xr_0 rfl rfl ⟨by decide, by decide⟩ rfl rfl (Nat.le_of_ble_eq_true rfl) ?_
      refine k_goto C (tgt := 64) d_X_tryOnce_57 (by decide) ?_
      refine k_iload_n C d_X_tryOnce_64 rfl rfl ?_
      exact k_iret X d_X_tryOnce_65 (k_pr ((if_neg c32).trans ((if_pos c42).trans (rfl))))
    · refine k_iload_n C d_X_tryOnce_45 rfl rfl ?_
      refine k_bipush C (v := (-3)) d_X_tryOnce_46 (by decide) ?_
      refine k_icmp_ne C (tgt := 60) d_X_tryOnce_48 (by decide) (fun c48 => ?_) (fun c48 => ?_)
      · refine k_aload_n C d_X_tryOnce_60 rfl rfl ?_
        refine k_cvV X d_X_tryOnce_61 (c_A_forget l b dA D _ i hi) cv_X_86 (xr_6 hi) rfl rfl ⟨by decide, by decide⟩ rfl rfl (Nat.le_of_ble_eq_true rfl) ?_
        refine k_iload_n C d_X_tryOnce_64 rfl rfl ?_
        exact k_iret X d_X_tryOnce_65 (k_pr ((if_neg c32).trans ((if_neg c42).trans ((if_neg c48).trans (rfl)))))
      · refine k_aload_n C d_X_tryOnce_51 rfl rfl ?_
        refine k_aload_n C d_X_tryOnce_52 rfl rfl ?_
        refine k_iload_n C d_X_tryOnce_53 rfl rfl ?_
        refine k_cvV X d_X_tryOnce_54 (c_X_keep l b dA D _ i hi _ hF2) cv_X_183 xr_0 rfl rfl ⟨by decide, by decide⟩ rfl rfl (Nat.le_of_ble_eq_true rfl) ?_
        refine k_goto C (tgt := 64) d_X_tryOnce_57 (by decide) ?_
        refine k_iload_n C d_X_tryOnce_64 rfl rfl ?_
        exact k_iret X d_X_tryOnce_65 (k_pr ((if_neg c32).trans ((if_neg c42).trans ((if_pos c48).trans (rfl)))))

set_option maxHeartbeats 4000000 in
set_option maxRecDepth 100000 in
theorem c_X_runOnce (l : Launch) (b : Nat → Nat → Nat) (dA : Nat → ClassId) (D : va_G) (g : kG) (n : Int32) (hn : vp_in n 12) (hI : xI g) : kMd (sysX b dA D) l y_X_runOnce b_X_runOnce 4 (some .int) 5 122 [.inr (.inr (0, 0)), .inl n] g (some (.inl (xRun g n).1)) (xRun g n).2 := by
  refine k_enter (by decide) [some (.inr (.inr (0, 0))), some (.inl n), none, none] rfl rfl (Nat.le_of_ble_eq_true rfl) (fun x X => ?_)
  have C := X.1
  have O := X.2.1
  refine k_aload_n C d_X_runOnce_0 rfl rfl ?_
  refine k_getR C O (r := (2, _)) d_X_runOnce_1 fl_X_17 xr_0 rfl rfl rfl rfl ?_
  refine k_iload_n C d_X_runOnce_4 rfl rfl ?_
  refine k_aald2 C O (r := (6, _)) d_X_runOnce_5 xr_2 rfl 4 rfl hn rfl rfl ?_
  refine k_astore_n C d_X_runOnce_6 rfl (Nat.le_of_ble_eq_true rfl) rfl ?_
  refine k_aload_n C d_X_runOnce_7 rfl rfl ?_
  refine k_cvI X d_X_runOnce_8 (c_X_freshActions l b dA D g (tn (g.1 0 0 5)) hI.2.1.1 hI.2.1.2 (fun i hi => ⟨(hI.2.2.2.1 i (Nat.lt_of_lt_of_le hi hI.2.1.2)).1.2.1, (hI.2.2.2.1 i (Nat.lt_of_lt_of_le hi hI.2.1.2)).2⟩)) cv_X_109 xr_0 rfl rfl ⟨by decide, by decide⟩ rfl rfl (Nat.le_of_ble_eq_true rfl) ?_
  refine k_istore_n C d_X_runOnce_11 rfl (Nat.le_of_ble_eq_true rfl) rfl ?_
  refine k_aload_n C d_X_runOnce_12 rfl rfl ?_
  refine k_iconst C (v := (-1)) d_X_runOnce_13 (by decide) ?_
  refine k_putI C O d_X_runOnce_14 fp_X_103 (xr_6 (vi_lt hn)) rfl rfl rfl ?_
  refine k_iload_n C d_X_runOnce_17 rfl rfl ?_
  refine k_iload_n C d_X_runOnce_18 rfl rfl ?_
  refine k_csI X d_X_runOnce_19 (c_X_hasBit l b dA D _ (xFresh g) n) cs_X_113 ⟨by decide, by decide⟩ rfl rfl (Nat.le_of_ble_eq_true rfl) ?_
  refine k_if_eq C (tgt := 40) d_X_runOnce_22 (by decide) (fun c22 => ?_) (fun c22 => ?_)
  · refine k_aload_n C d_X_runOnce_40 rfl rfl ?_
    refine k_getI C O d_X_runOnce_41 fl_X_142 (xr_6 (vi_lt hn)) rfl rfl rfl ?_
    refine k_aload_n C d_X_runOnce_44 rfl rfl ?_
    refine k_getI C O d_X_runOnce_45 fl_X_56 xr_0 rfl rfl rfl ?_
    refine k_icmp_lt C (tgt := 63) d_X_runOnce_48 (by decide) (fun c48 => ?_) (fun c48 => ?_)
    · refine k_aload_n C d_X_runOnce_63 rfl rfl ?_
      refine k_aload_n C d_X_runOnce_64 rfl rfl ?_
      refine k_iload_n C d_X_runOnce_65 rfl rfl ?_
      refine k_cvI X d_X_runOnce_66 (c_X_tryOnce l b dA D (xW g (tn n)) (tn n) (vi_lt hn) (xFresh g) (hI.2.2.2.1 _ (vi_lt hn)).1 hI.1) cv_X_176 xr_0 rfl rfl ⟨by decide, by decide⟩ rfl rfl (Nat.le_of_ble_eq_true rfl) ?_
      exact k_iret X d_X_runOnce_69 (k_pr ((if_pos c22).trans ((if_pos c48).trans (rfl))))
    · refine k_aload_n C d_X_runOnce_51 rfl rfl ?_
      refine k_cvV X d_X_runOnce_52 (c_A_forget l b dA D _ (tn n) (vi_lt hn)) cv_X_86 (xr_6 (vi_lt hn)) rfl rfl ⟨by decide, by decide⟩ rfl rfl (Nat.le_of_ble_eq_true rfl) ?_
      refine k_aload_n C d_X_runOnce_55 rfl rfl ?_
      refine k_iconst C (v := 0) d_X_runOnce_56 (by decide) ?_
      refine k_putI C O d_X_runOnce_57 fp_X_142 (xr_6 (vi_lt hn)) rfl rfl rfl ?_
      refine k_bipush C (v := (-2)) d_X_runOnce_60 (by decide) ?_
      exact k_iret X d_X_runOnce_62 (k_pr ((if_pos c22).trans ((if_neg c48).trans (rfl))))
  · refine k_aload_n C d_X_runOnce_25 rfl rfl ?_
    refine k_dup C d_X_runOnce_26 rfl ?_
    refine k_getI C O d_X_runOnce_27 fl_X_136 (xr_6 (vi_lt hn)) rfl rfl rfl ?_
    refine k_iconst C (v := 1) d_X_runOnce_30 (by decide) ?_
    refine k_iadd C d_X_runOnce_31 ?_
    refine k_putI C O d_X_runOnce_32 fp_X_136 (xr_6 (vi_lt hn)) rfl rfl rfl ?_
    refine k_aload_n C d_X_runOnce_35 rfl rfl ?_
    refine k_getI C O d_X_runOnce_36 fl_X_173 (xr_6 (vi_lt hn)) rfl rfl rfl ?_
    exact k_iret X d_X_runOnce_39 (k_pr ((if_neg c22).trans (rfl)))

set_option maxHeartbeats 4000000 in
set_option maxRecDepth 100000 in
theorem c_X_file (l : Launch) (b : Nat → Nat → Nat) (dA : Nat → ClassId) (D : va_G) (g : kG) (d : Int64) (hI : xI g) : kMd (sysX b dA D) l y_X_file b_X_file 3 (some .int) 1 22 [.inr (.inr (0, 0)), .inr (.inl d)] g (some (.inl (xFile g d).1)) (xFile g d).2 := by
  refine k_enter (by decide) [some (.inr (.inr (0, 0))), some (.inr (.inl d)), none] rfl rfl (Nat.le_of_ble_eq_true rfl) (fun x X => ?_)
  have C := X.1
  have O := X.2.1
  refine k_aload_n C d_X_file_0 rfl rfl ?_
  refine k_getI C O d_X_file_1 fl_X_27 xr_0 rfl rfl rfl ?_
  refine k_bipush C (v := 24) d_X_file_4 (by decide) ?_
  refine k_icmp_lt C (tgt := 11) d_X_file_6 (by decide) (fun c6 => ?_) (fun c6 => ?_)
  · refine k_aload_n C d_X_file_11 rfl rfl ?_
    refine k_getR C O (r := (1, _)) d_X_file_12 fl_X_11 xr_0 rfl rfl rfl rfl ?_
    refine k_aload_n C d_X_file_15 rfl rfl ?_
    refine k_getI C O d_X_file_16 fl_X_27 xr_0 rfl rfl rfl ?_
    refine k_aald2 C O (r := (5, _)) d_X_file_19 xr_1 rfl 3 rfl (in_lt hI.1 (by decide) (n := 24) rfl (by decide) c6) rfl rfl ?_
    refine k_lload_n C d_X_file_20 rfl rfl ?_
    refine k_cvV X d_X_file_21 (c_F_put l b dA D g (tn (g.1 0 0 4)) (vi_lt (in_lt hI.1 (by decide) (n := 24) rfl (by decide) c6)) d) cv_X_62 (xr_5 (vi_lt (in_lt hI.1 (by decide) (n := 24) rfl (by decide) c6))) rfl rfl ⟨by decide, by decide⟩ rfl rfl (Nat.le_of_ble_eq_true rfl) ?_
    refine k_aload_n C d_X_file_24 rfl rfl ?_
    refine k_dup C d_X_file_25 rfl ?_
    refine k_getI C O d_X_file_26 fl_X_27 xr_0 rfl rfl rfl ?_
    refine k_iconst C (v := 1) d_X_file_29 (by decide) ?_
    refine k_iadd C d_X_file_30 ?_
    refine k_putI C O d_X_file_31 fp_X_27 xr_0 rfl rfl rfl ?_
    refine k_aload_n C d_X_file_34 rfl rfl ?_
    refine k_getI C O d_X_file_35 fl_X_27 xr_0 rfl rfl rfl ?_
    refine k_iconst C (v := 1) d_X_file_38 (by decide) ?_
    refine k_isub C d_X_file_39 ?_
    exact k_iret X d_X_file_40 (k_pr ((if_pos c6).trans (rfl)))
  · refine k_iconst C (v := (-1)) d_X_file_9 (by decide) ?_
    exact k_iret X d_X_file_10 (k_pr ((if_neg c6).trans (rfl)))

set_option maxHeartbeats 4000000 in
set_option maxRecDepth 100000 in
theorem c_X_change (l : Launch) (b : Nat → Nat → Nat) (dA : Nat → ClassId) (D : va_G) (g : kG) (n t : Int32) (d : Int64) (hI : xI g) : kMd (sysX b dA D) l y_X_change b_X_change 5 (some .boolean) 1 22 [.inr (.inr (0, 0)), .inl n, .inl t, .inr (.inl d)] g (some (.inl (xChange g n t d).1)) (xChange g n t d).2 := by
  refine k_enter (by decide) [some (.inr (.inr (0, 0))), some (.inl n), some (.inl t), some (.inr (.inl d)), none] rfl rfl (Nat.le_of_ble_eq_true rfl) (fun x X => ?_)
  have C := X.1
  have O := X.2.1
  refine k_aload_n C d_X_change_0 rfl rfl ?_
  refine k_iload_n C d_X_change_1 rfl rfl ?_
  refine k_cvI X d_X_change_2 (c_X_isFile l b dA D g n) cv_X_66 xr_0 rfl rfl ⟨by decide, by decide⟩ rfl rfl (Nat.le_of_ble_eq_true rfl) ?_
  refine k_if_eq C (tgt := 20) d_X_change_5 (by decide) (fun c5 => ?_) (fun c5 => ?_)
  · refine k_iconst C (v := 0) d_X_change_20 (by decide) ?_
    exact k_zret X d_X_change_21 (Or.inl rfl) (k_pr ((if_pos c5).trans (rfl)))
  · refine k_aload_n C d_X_change_8 rfl rfl ?_
    refine k_getR C O (r := (1, _)) d_X_change_9 fl_X_11 xr_0 rfl rfl rfl rfl ?_
    refine k_iload_n C d_X_change_12 rfl rfl ?_
    refine k_aald2 C O (r := (5, _)) d_X_change_13 xr_1 rfl 3 rfl (in_x (n := 24) hI.1 (by decide) c5) rfl rfl ?_
    refine k_cvI X d_X_change_14 (c_F_isMade l b dA D g (tn n) (vi_lt (in_x (n := 24) hI.1 (by decide) c5))) cv_X_70 (xr_5 (vi_lt (in_x (n := 24) hI.1 (by decide) c5))) rfl rfl ⟨by decide, by decide⟩ rfl rfl (Nat.le_of_ble_eq_true rfl) ?_
    refine k_if_eq C (tgt := 22) d_X_change_17 (by decide) (fun c17 => ?_) (fun c17 => ?_)
    · refine k_iload_n C d_X_change_22 rfl rfl ?_
      refine k_if_eq C (tgt := 39) d_X_change_23 (by decide) (fun c23 => ?_) (fun c23 => ?_)
      · refine k_aload_n C d_X_change_39 rfl rfl ?_
        refine k_getR C O (r := (1, _)) d_X_change_40 fl_X_11 xr_0 rfl rfl rfl rfl ?_
        refine k_iload_n C d_X_change_43 rfl rfl ?_
        refine k_aald2 C O (r := (5, _)) d_X_change_44 xr_1 rfl 3 rfl (in_x (n := 24) hI.1 (by decide) c5) rfl rfl ?_
        refine k_cvV X d_X_change_45 (c_F_remove l b dA D g (tn n) (vi_lt (in_x (n := 24) hI.1 (by decide) c5))) cv_X_74 (xr_5 (vi_lt (in_x (n := 24) hI.1 (by decide) c5))) rfl rfl ⟨by decide, by decide⟩ rfl rfl (Nat.le_of_ble_eq_true rfl) ?_
        refine k_iconst C (v := 1) d_X_change_48 (by decide) ?_
        exact k_zret X d_X_change_49 (Or.inr rfl) (k_pr ((if_neg c5).trans ((if_pos c17).trans ((if_pos c23).trans (rfl)))))
      · refine k_aload_n C d_X_change_26 rfl rfl ?_
        refine k_getR C O (r := (1, _)) d_X_change_27 fl_X_11 xr_0 rfl rfl rfl rfl ?_
        refine k_iload_n C d_X_change_30 rfl rfl ?_
        refine k_aald2 C O (r := (5, _)) d_X_change_31 xr_1 rfl 3 rfl (in_x (n := 24) hI.1 (by decide) c5) rfl rfl ?_
        refine k_lload_n C d_X_change_32 rfl rfl ?_
        refine k_cvV X d_X_change_33 (c_F_put l b dA D g (tn n) (vi_lt (in_x (n := 24) hI.1 (by decide) c5)) d) cv_X_62 (xr_5 (vi_lt (in_x (n := 24) hI.1 (by decide) c5))) rfl rfl ⟨by decide, by decide⟩ rfl rfl (Nat.le_of_ble_eq_true rfl) ?_
        refine k_goto C (tgt := 48) d_X_change_36 (by decide) ?_
        refine k_iconst C (v := 1) d_X_change_48 (by decide) ?_
        exact k_zret X d_X_change_49 (Or.inr rfl) (k_pr ((if_neg c5).trans ((if_pos c17).trans ((if_neg c23).trans (rfl)))))
    · refine k_iconst C (v := 0) d_X_change_20 (by decide) ?_
      exact k_zret X d_X_change_21 (Or.inl rfl) (k_pr ((if_neg c5).trans ((if_neg c17).trans (rfl))))

set_option maxHeartbeats 4000000 in
set_option maxRecDepth 100000 in
theorem c_X_action (l : Launch) (b : Nat → Nat → Nat) (dA : Nat → ClassId) (D : va_G) (g : kG) (al : Int32) (hI : xI g) : kMd (sysX b dA D) l y_X_action b_X_action 2 (some .int) 0 0 [.inr (.inr (0, 0)), .inl al] g (some (.inl (xAction g al).1)) (xAction g al).2 := by
  refine k_enter (by decide) [some (.inr (.inr (0, 0))), some (.inl al)] rfl rfl (Nat.le_of_ble_eq_true rfl) (fun x X => ?_)
  have C := X.1
  have O := X.2.1
  refine k_aload_n C d_X_action_0 rfl rfl ?_
  refine k_getI C O d_X_action_1 fl_X_31 xr_0 rfl rfl rfl ?_
  refine k_bipush C (v := 12) d_X_action_4 (by decide) ?_
  refine k_icmp_lt C (tgt := 11) d_X_action_6 (by decide) (fun c6 => ?_) (fun c6 => ?_)
  · refine k_aload_n C d_X_action_11 rfl rfl ?_
    refine k_getR C O (r := (2, _)) d_X_action_12 fl_X_17 xr_0 rfl rfl rfl rfl ?_
    refine k_aload_n C d_X_action_15 rfl rfl ?_
    refine k_getI C O d_X_action_16 fl_X_31 xr_0 rfl rfl rfl ?_
    refine k_aald2 C O (r := (6, _)) d_X_action_19 xr_2 rfl 4 rfl (in_lt hI.2.1 (by decide) (n := 12) rfl (by decide) c6) rfl rfl ?_
    refine k_iload_n C d_X_action_20 rfl rfl ?_
    refine k_putI C O d_X_action_21 fp_X_77 (xr_6 (vi_lt (in_lt hI.2.1 (by decide) (n := 12) rfl (by decide) c6))) rfl rfl rfl ?_
    refine k_aload_n C d_X_action_24 rfl rfl ?_
    refine k_dup C d_X_action_25 rfl ?_
    refine k_getI C O d_X_action_26 fl_X_31 xr_0 rfl rfl rfl ?_
    refine k_iconst C (v := 1) d_X_action_29 (by decide) ?_
    refine k_iadd C d_X_action_30 ?_
    refine k_putI C O d_X_action_31 fp_X_31 xr_0 rfl rfl rfl ?_
    refine k_aload_n C d_X_action_34 rfl rfl ?_
    refine k_getI C O d_X_action_35 fl_X_31 xr_0 rfl rfl rfl ?_
    refine k_iconst C (v := 1) d_X_action_38 (by decide) ?_
    refine k_isub C d_X_action_39 ?_
    exact k_iret X d_X_action_40 (k_pr ((if_pos c6).trans (rfl)))
  · refine k_iconst C (v := (-1)) d_X_action_9 (by decide) ?_
    exact k_iret X d_X_action_10 (k_pr ((if_neg c6).trans (rfl)))

set_option maxHeartbeats 4000000 in
set_option maxRecDepth 100000 in
theorem c_X_makes (l : Launch) (b : Nat → Nat → Nat) (dA : Nat → ClassId) (D : va_G) (g : kG) (n f : Int32) (hI : xI g) : kMd (sysX b dA D) l y_X_makes b_X_makes 3 (some .boolean) 1 21 [.inr (.inr (0, 0)), .inl n, .inl f] g (some (.inl (xMakes g n f).1)) (xMakes g n f).2 := by
  refine k_enter (by decide) [some (.inr (.inr (0, 0))), some (.inl n), some (.inl f)] rfl rfl (Nat.le_of_ble_eq_true rfl) (fun x X => ?_)
  have C := X.1
  have O := X.2.1
  refine k_aload_n C d_X_makes_0 rfl rfl ?_
  refine k_iload_n C d_X_makes_1 rfl rfl ?_
  refine k_cvI X d_X_makes_2 (c_X_isAction l b dA D g n) cv_X_80 xr_0 rfl rfl ⟨by decide, by decide⟩ rfl rfl (Nat.le_of_ble_eq_true rfl) ?_
  refine k_if_eq C (tgt := 16) d_X_makes_5 (by decide) (fun c5 => ?_) (fun c5 => ?_)
  · refine k_iconst C (v := 0) d_X_makes_16 (by decide) ?_
    exact k_zret X d_X_makes_17 (Or.inl rfl) (k_pr ((if_pos c5).trans (rfl)))
  · refine k_aload_n C d_X_makes_8 rfl rfl ?_
    refine k_iload_n C d_X_makes_9 rfl rfl ?_
    refine k_cvI X d_X_makes_10 (c_X_isFile l b dA D g f) cv_X_66 xr_0 rfl rfl ⟨by decide, by decide⟩ rfl rfl (Nat.le_of_ble_eq_true rfl) ?_
    refine k_if_ne C (tgt := 18) d_X_makes_13 (by decide) (fun c13 => ?_) (fun c13 => ?_)
    · refine k_aload_n C d_X_makes_18 rfl rfl ?_
      refine k_getR C O (r := (2, _)) d_X_makes_19 fl_X_17 xr_0 rfl rfl rfl rfl ?_
      refine k_iload_n C d_X_makes_22 rfl rfl ?_
      refine k_aald2 C O (r := (6, _)) d_X_makes_23 xr_2 rfl 4 rfl (in_x (n := 12) hI.2.1 (by decide) c5) rfl rfl ?_
      refine k_getI C O d_X_makes_24 fl_X_83 (xr_6 (vi_lt (in_x (n := 12) hI.2.1 (by decide) c5))) rfl rfl rfl ?_
      refine k_iconst C (v := (-1)) d_X_makes_27 (by decide) ?_
      refine k_icmp_ne C (tgt := 43) d_X_makes_28 (by decide) (fun c28 => ?_) (fun c28 => ?_)
      · refine k_iconst C (v := 0) d_X_makes_43 (by decide) ?_
        exact k_zret X d_X_makes_44 (Or.inl rfl) (k_pr ((if_neg c5).trans ((if_neg c13).trans ((if_neg c28).trans (rfl)))))
      · refine k_aload_n C d_X_makes_31 rfl rfl ?_
        refine k_getR C O (r := (1, _)) d_X_makes_32 fl_X_11 xr_0 rfl rfl rfl rfl ?_
        refine k_iload_n C d_X_makes_35 rfl rfl ?_
        refine k_aald2 C O (r := (5, _)) d_X_makes_36 xr_1 rfl 3 rfl (in_x (n := 24) hI.1 (by decide) c13) rfl rfl ?_
        refine k_cvI X d_X_makes_37 (c_F_isMade l b dA D g (tn f) (vi_lt (in_x (n := 24) hI.1 (by decide) c13))) cv_X_70 (xr_5 (vi_lt (in_x (n := 24) hI.1 (by decide) c13))) rfl rfl ⟨by decide, by decide⟩ rfl rfl (Nat.le_of_ble_eq_true rfl) ?_
        refine k_if_eq C (tgt := 45) d_X_makes_40 (by decide) (fun c40 => ?_) (fun c40 => ?_)
        · refine k_aload_n C d_X_makes_45 rfl rfl ?_
          refine k_getR C O (r := (2, _)) d_X_makes_46 fl_X_17 xr_0 rfl rfl rfl rfl ?_
          refine k_iload_n C d_X_makes_49 rfl rfl ?_
          refine k_aald2 C O (r := (6, _)) d_X_makes_50 xr_2 rfl 4 rfl (in_x (n := 12) hI.2.1 (by decide) c5) rfl rfl ?_
          refine k_iload_n C d_X_makes_51 rfl rfl ?_
          refine k_putI C O d_X_makes_52 fp_X_83 (xr_6 (vi_lt (in_x (n := 12) hI.2.1 (by decide) c5))) rfl rfl rfl ?_
          refine k_aload_n C d_X_makes_55 rfl rfl ?_
          refine k_getR C O (r := (2, _)) d_X_makes_56 fl_X_17 xr_0 rfl rfl rfl rfl ?_
          refine k_iload_n C d_X_makes_59 rfl rfl ?_
          refine k_aald2 C O (r := (6, _)) d_X_makes_60 xr_2 rfl 4 rfl (in_x (n := 12) hI.2.1 (by decide) c5) rfl rfl ?_
          refine k_cvV X d_X_makes_61 (c_A_forget l b dA D _ (tn n) (vi_lt (in_x (n := 12) hI.2.1 (by decide) c5))) cv_X_86 (xr_6 (vi_lt (in_x (n := 12) hI.2.1 (by decide) c5))) rfl rfl ⟨by decide, by decide⟩ rfl rfl (Nat.le_of_ble_eq_true rfl) ?_
          refine k_aload_n C d_X_makes_64 rfl rfl ?_
          refine k_getR C O (r := (1, _)) d_X_makes_65 fl_X_11 xr_0 rfl rfl rfl rfl ?_
          refine k_iload_n C d_X_makes_68 rfl rfl ?_
          refine k_aald2 C O (r := (5, _)) d_X_makes_69 xr_1 rfl 3 rfl (in_x (n := 24) hI.1 (by decide) c13) rfl rfl ?_
          refine k_iload_n C d_X_makes_70 rfl rfl ?_
          refine k_putI C O d_X_makes_71 fp_X_89 (xr_5 (vi_lt (in_x (n := 24) hI.1 (by decide) c13))) rfl rfl rfl ?_
          refine k_aload_n C d_X_makes_74 rfl rfl ?_
          refine k_getR C O (r := (1, _)) d_X_makes_75 fl_X_11 xr_0 rfl rfl rfl rfl ?_
          refine k_iload_n C d_X_makes_78 rfl rfl ?_
          refine k_aald2 C O (r := (5, _)) d_X_makes_79 xr_1 rfl 3 rfl (in_x (n := 24) hI.1 (by decide) c13) rfl rfl ?_
          refine k_cvV X d_X_makes_80 (c_F_remove l b dA D _ (tn f) (vi_lt (in_x (n := 24) hI.1 (by decide) c13))) cv_X_74 (xr_5 (vi_lt (in_x (n := 24) hI.1 (by decide) c13))) rfl rfl ⟨by decide, by decide⟩ rfl rfl (Nat.le_of_ble_eq_true rfl) ?_
          refine k_iconst C (v := 1) d_X_makes_83 (by decide) ?_
          exact k_zret X d_X_makes_84 (Or.inr rfl) (k_pr ((if_neg c5).trans ((if_neg c13).trans ((if_pos c28).trans ((if_pos c40).trans (rfl))))))
        · refine k_iconst C (v := 0) d_X_makes_43 (by decide) ?_
          exact k_zret X d_X_makes_44 (Or.inl rfl) (k_pr ((if_neg c5).trans ((if_neg c13).trans ((if_pos c28).trans ((if_neg c40).trans (rfl))))))
    · refine k_iconst C (v := 0) d_X_makes_16 (by decide) ?_
      exact k_zret X d_X_makes_17 (Or.inl rfl) (k_pr ((if_neg c5).trans ((if_pos c13).trans (rfl))))

set_option maxHeartbeats 4000000 in
set_option maxRecDepth 100000 in
theorem c_X_isRow (l : Launch) (b : Nat → Nat → Nat) (dA : Nat → ClassId) (D : va_G) (g : kG) (k w : Int32) : kMd (sysX b dA D) l y_X_isRow b_X_isRow 3 (some .boolean) 1 21 [.inr (.inr (0, 0)), .inl k, .inl w] g (some (.inl (xIsRow g k w))) g := by
  refine k_enter (by decide) [some (.inr (.inr (0, 0))), some (.inl k), some (.inl w)] rfl rfl (Nat.le_of_ble_eq_true rfl) (fun x X => ?_)
  have C := X.1
  have O := X.2.1
  refine k_iload_n C d_X_isRow_0 rfl rfl ?_
  refine k_iconst C (v := 2) d_X_isRow_1 (by decide) ?_
  refine k_icmp_ne C (tgt := 22) d_X_isRow_2 (by decide) (fun c2 => ?_) (fun c2 => ?_)
  · refine k_iload_n C d_X_isRow_22 rfl rfl ?_
    refine k_if_eq C (tgt := 31) d_X_isRow_23 (by decide) (fun c23 => ?_) (fun c23 => ?_)
    · refine k_aload_n C d_X_isRow_31 rfl rfl ?_
      refine k_iload_n C d_X_isRow_32 rfl rfl ?_
      refine k_cvI X d_X_isRow_33 (c_X_isFile l b dA D g w) cv_X_66 xr_0 rfl rfl ⟨by decide, by decide⟩ rfl rfl (Nat.le_of_ble_eq_true rfl) ?_
      refine k_if_eq C (tgt := 43) d_X_isRow_36 (by decide) (fun c36 => ?_) (fun c36 => ?_)
      · refine k_iconst C (v := 0) d_X_isRow_43 (by decide) ?_
        exact k_zret X d_X_isRow_44 (Or.inl rfl) (k_pi ((if_neg c2).trans ((if_pos c23).trans ((if_pos c36).trans (rfl)))))
      · refine k_iconst C (v := 1) d_X_isRow_39 (by decide) ?_
        refine k_goto C (tgt := 44) d_X_isRow_40 (by decide) ?_
        exact k_zret X d_X_isRow_44 (Or.inr rfl) (k_pi ((if_neg c2).trans ((if_pos c23).trans ((if_neg c36).trans (rfl)))))
    · refine k_iload_n C d_X_isRow_26 rfl rfl ?_
      refine k_iconst C (v := 1) d_X_isRow_27 (by decide) ?_
      refine k_icmp_ne C (tgt := 43) d_X_isRow_28 (by decide) (fun c28 => ?_) (fun c28 => ?_)
      · refine k_iconst C (v := 0) d_X_isRow_43 (by decide) ?_
        exact k_zret X d_X_isRow_44 (Or.inl rfl) (k_pi ((if_neg c2).trans ((if_neg c23).trans ((if_neg c28).trans (rfl)))))
      · refine k_aload_n C d_X_isRow_31 rfl rfl ?_
        refine k_iload_n C d_X_isRow_32 rfl rfl ?_
        refine k_cvI X d_X_isRow_33 (c_X_isFile l b dA D g w) cv_X_66 xr_0 rfl rfl ⟨by decide, by decide⟩ rfl rfl (Nat.le_of_ble_eq_true rfl) ?_
        refine k_if_eq C (tgt := 43) d_X_isRow_36 (by decide) (fun c36 => ?_) (fun c36 => ?_)
        · refine k_iconst C (v := 0) d_X_isRow_43 (by decide) ?_
          exact k_zret X d_X_isRow_44 (Or.inl rfl) (k_pi ((if_neg c2).trans ((if_neg c23).trans ((if_pos c28).trans ((if_pos c36).trans (rfl))))))
        · refine k_iconst C (v := 1) d_X_isRow_39 (by decide) ?_
          refine k_goto C (tgt := 44) d_X_isRow_40 (by decide) ?_
          exact k_zret X d_X_isRow_44 (Or.inr rfl) (k_pi ((if_neg c2).trans ((if_neg c23).trans ((if_pos c28).trans ((if_neg c36).trans (rfl))))))
  · refine k_iload_n C d_X_isRow_5 rfl rfl ?_
    refine k_iconst C (v := 1) d_X_isRow_6 (by decide) ?_
    refine k_icmp_lt C (tgt := 20) d_X_isRow_7 (by decide) (fun c7 => ?_) (fun c7 => ?_)
    · refine k_iconst C (v := 0) d_X_isRow_20 (by decide) ?_
      exact k_zret X d_X_isRow_21 (Or.inl rfl) (k_pi ((if_pos c2).trans ((if_pos c7).trans (rfl))))
    · refine k_iload_n C d_X_isRow_10 rfl rfl ?_
      refine k_bipush C (v := 8) d_X_isRow_11 (by decide) ?_
      refine k_icmp_gt C (tgt := 20) d_X_isRow_13 (by decide) (fun c13 => ?_) (fun c13 => ?_)
      · refine k_iconst C (v := 0) d_X_isRow_20 (by decide) ?_
        exact k_zret X d_X_isRow_21 (Or.inl rfl) (k_pi ((if_pos c2).trans ((if_neg c7).trans ((if_pos c13).trans (rfl)))))
      · refine k_iconst C (v := 1) d_X_isRow_16 (by decide) ?_
        refine k_goto C (tgt := 21) d_X_isRow_17 (by decide) ?_
        exact k_zret X d_X_isRow_21 (Or.inr rfl) (k_pi ((if_pos c2).trans ((if_neg c7).trans ((if_neg c13).trans (rfl)))))

set_option maxHeartbeats 4000000 in
set_option maxRecDepth 100000 in
theorem c_X_row (l : Launch) (b : Nat → Nat → Nat) (dA : Nat → ClassId) (D : va_G) (g : kG) (n k w : Int32) (hI : xI g) : kMd (sysX b dA D) l y_X_row b_X_row 4 (some .boolean) 2 43 [.inr (.inr (0, 0)), .inl n, .inl k, .inl w] g (some (.inl (xRow g n k w).1)) (xRow g n k w).2 := by
  refine k_enter (by decide) [some (.inr (.inr (0, 0))), some (.inl n), some (.inl k), some (.inl w)] rfl rfl (Nat.le_of_ble_eq_true rfl) (fun x X => ?_)
  have C := X.1
  have O := X.2.1
  refine k_aload_n C d_X_row_0 rfl rfl ?_
  refine k_iload_n C d_X_row_1 rfl rfl ?_
  refine k_cvI X d_X_row_2 (c_X_isAction l b dA D g n) cv_X_80 xr_0 rfl rfl ⟨by decide, by decide⟩ rfl rfl (Nat.le_of_ble_eq_true rfl) ?_
  refine k_if_eq C (tgt := 17) d_X_row_5 (by decide) (fun c5 => ?_) (fun c5 => ?_)
  · refine k_iconst C (v := 0) d_X_row_17 (by decide) ?_
    exact k_zret X d_X_row_18 (Or.inl rfl) (k_pr ((if_pos c5).trans (rfl)))
  · refine k_aload_n C d_X_row_8 rfl rfl ?_
    refine k_iload_n C d_X_row_9 rfl rfl ?_
    refine k_iload_n C d_X_row_10 rfl rfl ?_
    refine k_cvI X d_X_row_11 (c_X_isRow l b dA D g k w) cv_X_92 xr_0 rfl rfl ⟨by decide, by decide⟩ rfl rfl (Nat.le_of_ble_eq_true rfl) ?_
    refine k_if_ne C (tgt := 19) d_X_row_14 (by decide) (fun c14 => ?_) (fun c14 => ?_)
    · refine k_aload_n C d_X_row_19 rfl rfl ?_
      refine k_getR C O (r := (2, _)) d_X_row_20 fl_X_17 xr_0 rfl rfl rfl rfl ?_
      refine k_iload_n C d_X_row_23 rfl rfl ?_
      refine k_aald2 C O (r := (6, _)) d_X_row_24 xr_2 rfl 4 rfl (in_x (n := 12) hI.2.1 (by decide) c5) rfl rfl ?_
      refine k_iload_n C d_X_row_25 rfl rfl ?_
      refine k_iload_n C d_X_row_26 rfl rfl ?_
      refine k_cvI X d_X_row_27 (c_A_addRow l b dA D g (tn n) (vi_lt (in_x (n := 12) hI.2.1 (by decide) c5)) k w (fun q => in_lt (hI.2.2.2.1 _ (vi_lt (in_x (n := 12) hI.2.1 (by decide) c5))).1.2.2.1 (by decide) (n := 12) rfl (by decide) q)) cv_X_96 (xr_6 (vi_lt (in_x (n := 12) hI.2.1 (by decide) c5))) rfl rfl ⟨by decide, by decide⟩ rfl rfl (Nat.le_of_ble_eq_true rfl) ?_
      exact k_zret X d_X_row_30 (xAddRow_Z _ _ _ _) (k_pr ((if_neg c5).trans ((if_neg c14).trans (rfl))))
    · refine k_iconst C (v := 0) d_X_row_17 (by decide) ?_
      exact k_zret X d_X_row_18 (Or.inl rfl) (k_pr ((if_neg c5).trans ((if_pos c14).trans (rfl))))

set_option maxHeartbeats 4000000 in
set_option maxRecDepth 100000 in
theorem c_X_run (l : Launch) (b : Nat → Nat → Nat) (dA : Nat → ClassId) (D : va_G) (g : kG) (n : Int32) (hI : xI g) : kMd (sysX b dA D) l y_X_run b_X_run 2 (some .int) 6 145 [.inr (.inr (0, 0)), .inl n] g (some (.inl (xRunP g n).1)) (xRunP g n).2 := by
  refine k_enter (by decide) [some (.inr (.inr (0, 0))), some (.inl n)] rfl rfl (Nat.le_of_ble_eq_true rfl) (fun x X => ?_)
  have C := X.1
  have O := X.2.1
  refine k_aload_n C d_X_run_0 rfl rfl ?_
  refine k_iload_n C d_X_run_1 rfl rfl ?_
  refine k_cvI X d_X_run_2 (c_X_isAction l b dA D g n) cv_X_80 xr_0 rfl rfl ⟨by decide, by decide⟩ rfl rfl (Nat.le_of_ble_eq_true rfl) ?_
  refine k_if_eq C (tgt := 16) d_X_run_5 (by decide) (fun c5 => ?_) (fun c5 => ?_)
  · refine k_bipush C (v := (-9)) d_X_run_16 (by decide) ?_
    exact k_iret X d_X_run_18 (k_pr ((if_pos c5).trans (rfl)))
  · refine k_aload_n C d_X_run_8 rfl rfl ?_
    refine k_iload_n C d_X_run_9 rfl rfl ?_
    refine k_cvI X d_X_run_10 (c_X_runOnce l b dA D g n (in_x (n := 12) hI.2.1 (by decide) c5) hI) cv_X_99 xr_0 rfl rfl ⟨by decide, by decide⟩ rfl rfl (Nat.le_of_ble_eq_true rfl) ?_
    refine k_goto C (tgt := 18) d_X_run_13 (by decide) ?_
    exact k_iret X d_X_run_18 (k_pr ((if_neg c5).trans (rfl)))

set_option maxHeartbeats 4000000 in
set_option maxRecDepth 100000 in
theorem c_X_ring (l : Launch) (b : Nat → Nat → Nat) (dA : Nat → ClassId) (D : va_G) (g : kG) (i : Int32) (hI : xI g) : kMd (sysX b dA D) l y_X_ring b_X_ring 2 (some .int) 0 0 [.inr (.inr (0, 0)), .inl i] g (some (.inl (xRing g i))) g := by
  obtain ⟨rs, rl, e1, e2, e3⟩ := hI.2.2.2.2.2
  refine k_enter (by decide) [some (.inr (.inr (0, 0))), some (.inl i)] rfl rfl (Nat.le_of_ble_eq_true rfl) (fun x X => ?_)
  have C := X.1
  have O := X.2.1
  refine k_iload_n C d_X_ring_0 rfl rfl ?_
  refine k_if_lt C (tgt := 26) d_X_ring_1 (by decide) (fun c1 => ?_) (fun c1 => ?_)
  · refine k_iconst C (v := (-1)) d_X_ring_26 (by decide) ?_
    exact k_iret X d_X_ring_27 (k_pi ((if_pos c1).trans (rfl)))
  · refine k_iload_n C d_X_ring_4 rfl rfl ?_
    refine k_aload_n C d_X_ring_5 rfl rfl ?_
    refine k_getI C O d_X_ring_6 fl_X_44 xr_0 rfl rfl rfl ?_
    refine k_icmp_ge C (tgt := 26) d_X_ring_9 (by decide) (fun c9 => ?_) (fun c9 => ?_)
    · refine k_iconst C (v := (-1)) d_X_ring_26 (by decide) ?_
      exact k_iret X d_X_ring_27 (k_pi ((if_neg c1).trans ((if_pos c9).trans (rfl))))
    · refine k_aload_n C d_X_ring_12 rfl rfl ?_
      refine k_getR C O (r := (4, _)) d_X_ring_13 fl_X_37 xr_0 rfl rfl rfl rfl ?_
      refine k_aload_n C d_X_ring_16 rfl rfl ?_
      refine k_getI C O d_X_ring_17 fl_X_41 xr_0 rfl rfl rfl ?_
      refine k_iload_n C d_X_ring_20 rfl rfl ?_
      refine k_iadd C d_X_ring_21 ?_
      refine k_iald2 C O d_X_ring_22 xr_4 rfl 0 rfl (show vp_in (g.1 0 0 8 + i) 13 from by
      obtain ⟨j, hj, rfl⟩ := nI_of c1
      rw [e2] at c9
      rw [e1, nI_add]
      rcases Nat.lt_or_ge j rl with q | q
      · exact vp_in_nI (by omega) (by decide)
      · exact absurd (nI_le q hj) c9) rfl ?_
      refine k_goto C (tgt := 27) d_X_ring_23 (by decide) ?_
      exact k_iret X d_X_ring_27 (k_pi ((if_neg c1).trans ((if_neg c9).trans (rfl))))

set_option maxHeartbeats 4000000 in
set_option maxRecDepth 100000 in
theorem c_X_waits (l : Launch) (b : Nat → Nat → Nat) (dA : Nat → ClassId) (D : va_G) (g : kG) (n : Int32) (hI : xI g) : kMd (sysX b dA D) l y_X_waits b_X_waits 2 (some .int) 1 21 [.inr (.inr (0, 0)), .inl n] g (some (.inl (xWaits g n))) g := by
  refine k_enter (by decide) [some (.inr (.inr (0, 0))), some (.inl n)] rfl rfl (Nat.le_of_ble_eq_true rfl) (fun x X => ?_)
  have C := X.1
  have O := X.2.1
  refine k_aload_n C d_X_waits_0 rfl rfl ?_
  refine k_iload_n C d_X_waits_1 rfl rfl ?_
  refine k_cvI X d_X_waits_2 (c_X_isAction l b dA D g n) cv_X_80 xr_0 rfl rfl ⟨by decide, by decide⟩ rfl rfl (Nat.le_of_ble_eq_true rfl) ?_
  refine k_if_eq C (tgt := 20) d_X_waits_5 (by decide) (fun c5 => ?_) (fun c5 => ?_)
  · refine k_iconst C (v := (-1)) d_X_waits_20 (by decide) ?_
    exact k_iret X d_X_waits_21 (k_pi ((if_pos c5).trans (rfl)))
  · refine k_aload_n C d_X_waits_8 rfl rfl ?_
    refine k_getR C O (r := (2, _)) d_X_waits_9 fl_X_17 xr_0 rfl rfl rfl rfl ?_
    refine k_iload_n C d_X_waits_12 rfl rfl ?_
    refine k_aald2 C O (r := (6, _)) d_X_waits_13 xr_2 rfl 4 rfl (in_x (n := 12) hI.2.1 (by decide) c5) rfl rfl ?_
    refine k_getI C O d_X_waits_14 fl_X_103 (xr_6 (vi_lt (in_x (n := 12) hI.2.1 (by decide) c5))) rfl rfl rfl ?_
    refine k_goto C (tgt := 21) d_X_waits_17 (by decide) ?_
    exact k_iret X d_X_waits_21 (k_pi ((if_neg c5).trans (rfl)))

set_option maxHeartbeats 4000000 in
set_option maxRecDepth 100000 in
theorem c_X_fresh (l : Launch) (b : Nat → Nat → Nat) (dA : Nat → ClassId) (D : va_G) (g : kG) (n : Int32) (hI : xI g) : kMd (sysX b dA D) l y_X_fresh b_X_fresh 2 (some .boolean) 4 91 [.inr (.inr (0, 0)), .inl n] g (some (.inl (xFreshP g n))) g := by
  refine k_enter (by decide) [some (.inr (.inr (0, 0))), some (.inl n)] rfl rfl (Nat.le_of_ble_eq_true rfl) (fun x X => ?_)
  have C := X.1
  have O := X.2.1
  refine k_aload_n C d_X_fresh_0 rfl rfl ?_
  refine k_iload_n C d_X_fresh_1 rfl rfl ?_
  refine k_cvI X d_X_fresh_2 (c_X_isAction l b dA D g n) cv_X_80 xr_0 rfl rfl ⟨by decide, by decide⟩ rfl rfl (Nat.le_of_ble_eq_true rfl) ?_
  refine k_if_eq C (tgt := 23) d_X_fresh_5 (by decide) (fun c5 => ?_) (fun c5 => ?_)
  · refine k_iconst C (v := 0) d_X_fresh_23 (by decide) ?_
    exact k_zret X d_X_fresh_24 (Or.inl rfl) (k_pi ((if_pos c5).trans (rfl)))
  · refine k_aload_n C d_X_fresh_8 rfl rfl ?_
    refine k_cvI X d_X_fresh_9 (c_X_freshActions l b dA D g (tn (g.1 0 0 5)) hI.2.1.1 hI.2.1.2 (fun i hi => ⟨(hI.2.2.2.1 i (Nat.lt_of_lt_of_le hi hI.2.1.2)).1.2.1, (hI.2.2.2.1 i (Nat.lt_of_lt_of_le hi hI.2.1.2)).2⟩)) cv_X_109 xr_0 rfl rfl ⟨by decide, by decide⟩ rfl rfl (Nat.le_of_ble_eq_true rfl) ?_
    refine k_iload_n C d_X_fresh_12 rfl rfl ?_
    refine k_csI X d_X_fresh_13 (c_X_hasBit l b dA D g (xFresh g) n) cs_X_113 ⟨by decide, by decide⟩ rfl rfl (Nat.le_of_ble_eq_true rfl) ?_
    refine k_if_eq C (tgt := 23) d_X_fresh_16 (by decide) (fun c16 => ?_) (fun c16 => ?_)
    · refine k_iconst C (v := 0) d_X_fresh_23 (by decide) ?_
      exact k_zret X d_X_fresh_24 (Or.inl rfl) (k_pi ((if_neg c5).trans ((if_pos c16).trans (rfl))))
    · refine k_iconst C (v := 1) d_X_fresh_19 (by decide) ?_
      refine k_goto C (tgt := 24) d_X_fresh_20 (by decide) ?_
      exact k_zret X d_X_fresh_24 (Or.inr rfl) (k_pi ((if_neg c5).trans ((if_neg c16).trans (rfl))))

set_option maxHeartbeats 4000000 in
set_option maxRecDepth 100000 in
theorem c_X_kept (l : Launch) (b : Nat → Nat → Nat) (dA : Nat → ClassId) (D : va_G) (g : kG) (n i w : Int32) (hI : xI g) : kMd (sysX b dA D) l y_X_kept b_X_kept 4 (some .int) 1 22 [.inr (.inr (0, 0)), .inl n, .inl i, .inl w] g (some (.inl (xKept g n i w))) g := by
  refine k_enter (by decide) [some (.inr (.inr (0, 0))), some (.inl n), some (.inl i), some (.inl w)] rfl rfl (Nat.le_of_ble_eq_true rfl) (fun x X => ?_)
  have C := X.1
  have O := X.2.1
  refine k_aload_n C d_X_kept_0 rfl rfl ?_
  refine k_iload_n C d_X_kept_1 rfl rfl ?_
  refine k_cvI X d_X_kept_2 (c_X_isAction l b dA D g n) cv_X_80 xr_0 rfl rfl ⟨by decide, by decide⟩ rfl rfl (Nat.le_of_ble_eq_true rfl) ?_
  refine k_if_eq C (tgt := 20) d_X_kept_5 (by decide) (fun c5 => ?_) (fun c5 => ?_)
  · refine k_iconst C (v := (-1)) d_X_kept_20 (by decide) ?_
    exact k_iret X d_X_kept_21 (k_pi ((if_pos c5).trans (rfl)))
  · refine k_aload_n C d_X_kept_8 rfl rfl ?_
    refine k_getR C O (r := (2, _)) d_X_kept_9 fl_X_17 xr_0 rfl rfl rfl rfl ?_
    refine k_iload_n C d_X_kept_12 rfl rfl ?_
    refine k_aald2 C O (r := (6, _)) d_X_kept_13 xr_2 rfl 4 rfl (in_x (n := 12) hI.2.1 (by decide) c5) rfl rfl ?_
    refine k_getI C O d_X_kept_14 fl_X_116 (xr_6 (vi_lt (in_x (n := 12) hI.2.1 (by decide) c5))) rfl rfl rfl ?_
    refine k_if_ne C (tgt := 22) d_X_kept_17 (by decide) (fun c17 => ?_) (fun c17 => ?_)
    · refine k_aload_n C d_X_kept_22 rfl rfl ?_
      refine k_getR C O (r := (2, _)) d_X_kept_23 fl_X_17 xr_0 rfl rfl rfl rfl ?_
      refine k_iload_n C d_X_kept_26 rfl rfl ?_
      refine k_aald2 C O (r := (6, _)) d_X_kept_27 xr_2 rfl 4 rfl (in_x (n := 12) hI.2.1 (by decide) c5) rfl rfl ?_
      refine k_getR C O (r := (9, _)) d_X_kept_28 fl_X_120 (xr_6 (vi_lt (in_x (n := 12) hI.2.1 (by decide) c5))) rfl rfl rfl rfl ?_
      refine k_iload_n C d_X_kept_31 rfl rfl ?_
      refine k_iload_n C d_X_kept_32 rfl rfl ?_
      refine k_cvI X d_X_kept_33 (c_N_tell l b dA D g (tn n) (vi_lt (in_x (n := 12) hI.2.1 (by decide) c5)) i w (fun q1 q2 => in_v (hI.2.2.2.1 _ (vi_lt (in_x (n := 12) hI.2.1 (by decide) c5))).1.2.1 (by decide) q1 (fun q3 => absurd q2 (Int32.not_lt.mpr q3)))) cv_X_124 (xr_9 (vi_lt (in_x (n := 12) hI.2.1 (by decide) c5))) rfl rfl ⟨by decide, by decide⟩ rfl rfl (Nat.le_of_ble_eq_true rfl) ?_
      exact k_iret X d_X_kept_36 (k_pi ((if_neg c5).trans ((if_neg c17).trans (rfl))))
    · refine k_iconst C (v := (-1)) d_X_kept_20 (by decide) ?_
      exact k_iret X d_X_kept_21 (k_pi ((if_neg c5).trans ((if_pos c17).trans (rfl))))

set_option maxHeartbeats 4000000 in
set_option maxRecDepth 100000 in
theorem c_X_unused (l : Launch) (b : Nat → Nat → Nat) (dA : Nat → ClassId) (D : va_G) (g : kG) (n : Int32) (hI : xI g) : kMd (sysX b dA D) l y_X_unused b_X_unused 3 (some .int) 1 22 [.inr (.inr (0, 0)), .inl n] g (some (.inl (xUnused g n))) g := by
  refine k_enter (by decide) [some (.inr (.inr (0, 0))), some (.inl n), none] rfl rfl (Nat.le_of_ble_eq_true rfl) (fun x X => ?_)
  have C := X.1
  have O := X.2.1
  refine k_aload_n C d_X_unused_0 rfl rfl ?_
  refine k_iload_n C d_X_unused_1 rfl rfl ?_
  refine k_cvI X d_X_unused_2 (c_X_isAction l b dA D g n) cv_X_80 xr_0 rfl rfl ⟨by decide, by decide⟩ rfl rfl (Nat.le_of_ble_eq_true rfl) ?_
  refine k_if_ne C (tgt := 10) d_X_unused_5 (by decide) (fun c5 => ?_) (fun c5 => ?_)
  · refine k_aload_n C d_X_unused_10 rfl rfl ?_
    refine k_getR C O (r := (2, _)) d_X_unused_11 fl_X_17 xr_0 rfl rfl rfl rfl ?_
    refine k_iload_n C d_X_unused_14 rfl rfl ?_
    refine k_aald2 C O (r := (6, _)) d_X_unused_15 xr_2 rfl 4 rfl (in_x (n := 12) hI.2.1 (by decide) c5) rfl rfl ?_
    refine k_getI C O d_X_unused_16 fl_X_77 (xr_6 (vi_lt (in_x (n := 12) hI.2.1 (by decide) c5))) rfl rfl rfl ?_
    refine k_iconst C (v := 1) d_X_unused_19 (by decide) ?_
    refine k_aload_n C d_X_unused_20 rfl rfl ?_
    refine k_getI C O d_X_unused_21 fl_X_27 xr_0 rfl rfl rfl ?_
    refine k_ishl C d_X_unused_24 ?_
    refine k_iconst C (v := 1) d_X_unused_25 (by decide) ?_
    refine k_isub C d_X_unused_26 ?_
    refine k_iand C d_X_unused_27 ?_
    refine k_istore_n C d_X_unused_28 rfl (Nat.le_of_ble_eq_true rfl) rfl ?_
    refine k_iload_n C d_X_unused_29 rfl rfl ?_
    refine k_aload_n C d_X_unused_30 rfl rfl ?_
    refine k_getR C O (r := (2, _)) d_X_unused_31 fl_X_17 xr_0 rfl rfl rfl rfl ?_
    refine k_iload_n C d_X_unused_34 rfl rfl ?_
    refine k_aald2 C O (r := (6, _)) d_X_unused_35 xr_2 rfl 4 rfl (in_x (n := 12) hI.2.1 (by decide) c5) rfl rfl ?_
    refine k_getR C O (r := (9, _)) d_X_unused_36 fl_X_120 (xr_6 (vi_lt (in_x (n := 12) hI.2.1 (by decide) c5))) rfl rfl rfl rfl ?_
    refine k_cvI X d_X_unused_39 (c_N_fileBits l b dA D g (tn n) (vi_lt (in_x (n := 12) hI.2.1 (by decide) c5)) (tn (g.1 9 (tn n) 4)) (hI.2.2.2.1 _ (vi_lt (in_x (n := 12) hI.2.1 (by decide) c5))).1.2.1.1 (hI.2.2.2.1 _ (vi_lt (in_x (n := 12) hI.2.1 (by decide) c5))).1.2.1.2) cv_X_129 (xr_9 (vi_lt (in_x (n := 12) hI.2.1 (by decide) c5))) rfl rfl ⟨by decide, by decide⟩ rfl rfl (Nat.le_of_ble_eq_true rfl) ?_
    refine k_iconst C (v := (-1)) d_X_unused_42 (by decide) ?_
    refine k_ixor C d_X_unused_43 ?_
    refine k_iand C d_X_unused_44 ?_
    exact k_iret X d_X_unused_45 (k_pi ((if_neg c5).trans (rfl)))
  · refine k_iconst C (v := 0) d_X_unused_8 (by decide) ?_
    exact k_iret X d_X_unused_9 (k_pi ((if_pos c5).trans (rfl)))

set_option maxHeartbeats 4000000 in
set_option maxRecDepth 100000 in
theorem c_X_digest (l : Launch) (b : Nat → Nat → Nat) (dA : Nat → ClassId) (D : va_G) (g : kG) (n : Int32) (hI : xI g) : kMd (sysX b dA D) l y_X_digest b_X_digest 2 (some .long) 1 21 [.inr (.inr (0, 0)), .inl n] g (some (.inr (.inl (xDigest g n)))) g := by
  refine k_enter (by decide) [some (.inr (.inr (0, 0))), some (.inl n)] rfl rfl (Nat.le_of_ble_eq_true rfl) (fun x X => ?_)
  have C := X.1
  have O := X.2.1
  refine k_aload_n C d_X_digest_0 rfl rfl ?_
  refine k_iload_n C d_X_digest_1 rfl rfl ?_
  refine k_cvI X d_X_digest_2 (c_X_isFile l b dA D g n) cv_X_66 xr_0 rfl rfl ⟨by decide, by decide⟩ rfl rfl (Nat.le_of_ble_eq_true rfl) ?_
  refine k_if_eq C (tgt := 20) d_X_digest_5 (by decide) (fun c5 => ?_) (fun c5 => ?_)
  · refine k_lconst C (v := 0) d_X_digest_20 (by decide) ?_
    exact k_lret X d_X_digest_21 (k_pl ((if_pos c5).trans (rfl)))
  · refine k_aload_n C d_X_digest_8 rfl rfl ?_
    refine k_getR C O (r := (1, _)) d_X_digest_9 fl_X_11 xr_0 rfl rfl rfl rfl ?_
    refine k_iload_n C d_X_digest_12 rfl rfl ?_
    refine k_aald2 C O (r := (5, _)) d_X_digest_13 xr_1 rfl 3 rfl (in_x (n := 24) hI.1 (by decide) c5) rfl rfl ?_
    refine k_getJ C O d_X_digest_14 fl_X_132 (xr_5 (vi_lt (in_x (n := 24) hI.1 (by decide) c5))) rfl rfl rfl ?_
    refine k_goto C (tgt := 21) d_X_digest_17 (by decide) ?_
    exact k_lret X d_X_digest_21 (k_pl ((if_neg c5).trans (rfl)))

set_option maxHeartbeats 4000000 in
set_option maxRecDepth 100000 in
theorem c_X_counted (l : Launch) (b : Nat → Nat → Nat) (dA : Nat → ClassId) (D : va_G) (g : kG) (n w : Int32) (hI : xI g) : kMd (sysX b dA D) l y_X_counted b_X_counted 3 (some .int) 1 21 [.inr (.inr (0, 0)), .inl n, .inl w] g (some (.inl (xCounted g n w))) g := by
  refine k_enter (by decide) [some (.inr (.inr (0, 0))), some (.inl n), some (.inl w)] rfl rfl (Nat.le_of_ble_eq_true rfl) (fun x X => ?_)
  have C := X.1
  have O := X.2.1
  refine k_aload_n C d_X_counted_0 rfl rfl ?_
  refine k_iload_n C d_X_counted_1 rfl rfl ?_
  refine k_cvI X d_X_counted_2 (c_X_isAction l b dA D g n) cv_X_80 xr_0 rfl rfl ⟨by decide, by decide⟩ rfl rfl (Nat.le_of_ble_eq_true rfl) ?_
  refine k_if_ne C (tgt := 10) d_X_counted_5 (by decide) (fun c5 => ?_) (fun c5 => ?_)
  · refine k_iload_n C d_X_counted_10 rfl rfl ?_
    by_cases s11 : (w).toInt < 0 ∨ 2 < (w).toInt
    · refine k_tabOut C (tgt := 66) d_X_counted_11 s11 (by decide) ?_
      refine k_iconst C (v := (-1)) d_X_counted_66 (by decide) ?_
      exact k_iret X d_X_counted_67 (k_pi ((if_neg c5).trans ((if_pos s11).trans (rfl))))
    · have q11 : (w) = 0 ∨ (w) = 1 ∨ (w) = 2 := by
        have h1 : 0 ≤ (w).toInt := by omega
        have h2 : (w).toInt ≤ 2 := by omega
        have h3 : (w).toInt = 0 ∨ (w).toInt = 1 ∨ (w).toInt = 2 := by omega
        rcases h3 with h3 | h3 | h3
        · exact Or.inl (Int32.toInt_inj.mp (h3.trans (by decide)))
        · exact Or.inr (Or.inl (Int32.toInt_inj.mp (h3.trans (by decide))))
        · exact Or.inr (Or.inr ((Int32.toInt_inj.mp (h3.trans (by decide)))))
      rcases q11 with q11 | q11 | q11
      · refine k_tabIn C (tgt := 36) (off := 25) d_X_counted_11 (fun h => s11 (Or.inl h)) (fun h => s11 (Or.inr h)) (by rw [q11]; decide +kernel) (by decide) ?_
        refine k_aload_n C d_X_counted_36 rfl rfl ?_
        refine k_getR C O (r := (2, _)) d_X_counted_37 fl_X_17 xr_0 rfl rfl rfl rfl ?_
        refine k_iload_n C d_X_counted_40 rfl rfl ?_
        refine k_aald2 C O (r := (6, _)) d_X_counted_41 xr_2 rfl 4 rfl (in_x (n := 12) hI.2.1 (by decide) c5) rfl rfl ?_
        refine k_getI C O d_X_counted_42 fl_X_136 (xr_6 (vi_lt (in_x (n := 12) hI.2.1 (by decide) c5))) rfl rfl rfl ?_
        exact k_iret X d_X_counted_45 (k_pi ((if_neg c5).trans ((if_neg s11).trans ((if_pos q11).trans (rfl)))))
      · refine k_tabIn C (tgt := 46) (off := 35) d_X_counted_11 (fun h => s11 (Or.inl h)) (fun h => s11 (Or.inr h)) (by rw [q11]; decide +kernel) (by decide) ?_
        refine k_aload_n C d_X_counted_46 rfl rfl ?_
        refine k_getR C O (r := (2, _)) d_X_counted_47 fl_X_17 xr_0 rfl rfl rfl rfl ?_
        refine k_iload_n C d_X_counted_50 rfl rfl ?_
        refine k_aald2 C O (r := (6, _)) d_X_counted_51 xr_2 rfl 4 rfl (in_x (n := 12) hI.2.1 (by decide) c5) rfl rfl ?_
        refine k_getI C O d_X_counted_52 fl_X_139 (xr_6 (vi_lt (in_x (n := 12) hI.2.1 (by decide) c5))) rfl rfl rfl ?_
        exact k_iret X d_X_counted_55 (k_pi ((if_neg c5).trans ((if_neg s11).trans ((if_neg (show ¬ _ = _ by rw [q11]; decide)).trans ((if_pos q11).trans (rfl))))))
      · refine k_tabIn C (tgt := 56) (off := 45) d_X_counted_11 (fun h => s11 (Or.inl h)) (fun h => s11 (Or.inr h)) (by rw [q11]; decide +kernel) (by decide) ?_
        refine k_aload_n C d_X_counted_56 rfl rfl ?_
        refine k_getR C O (r := (2, _)) d_X_counted_57 fl_X_17 xr_0 rfl rfl rfl rfl ?_
        refine k_iload_n C d_X_counted_60 rfl rfl ?_
        refine k_aald2 C O (r := (6, _)) d_X_counted_61 xr_2 rfl 4 rfl (in_x (n := 12) hI.2.1 (by decide) c5) rfl rfl ?_
        refine k_getI C O d_X_counted_62 fl_X_142 (xr_6 (vi_lt (in_x (n := 12) hI.2.1 (by decide) c5))) rfl rfl rfl ?_
        exact k_iret X d_X_counted_65 (k_pi ((if_neg c5).trans ((if_neg s11).trans ((if_neg (show ¬ _ = _ by rw [q11]; decide)).trans ((if_neg (show ¬ _ = _ by rw [q11]; decide)).trans (rfl))))))
  · refine k_iconst C (v := (-1)) d_X_counted_8 (by decide) ?_
    exact k_iret X d_X_counted_9 (k_pi ((if_pos c5).trans (rfl)))

set_option maxHeartbeats 4000000 in
set_option maxRecDepth 100000 in
theorem c_X_members (l : Launch) (b : Nat → Nat → Nat) (dA : Nat → ClassId) (D : va_G) (g : kG) (n : Int32) (hI : xI g) : kMd (sysX b dA D) l y_X_members b_X_members 2 (some .int) 2 45 [.inr (.inr (0, 0)), .inl n] g (some (.inl (xMembers g n))) g := by
  refine k_enter (by decide) [some (.inr (.inr (0, 0))), some (.inl n)] rfl rfl (Nat.le_of_ble_eq_true rfl) (fun x X => ?_)
  have C := X.1
  have O := X.2.1
  refine k_aload_n C d_X_members_0 rfl rfl ?_
  refine k_iload_n C d_X_members_1 rfl rfl ?_
  refine k_cvI X d_X_members_2 (c_X_isFile l b dA D g n) cv_X_66 xr_0 rfl rfl ⟨by decide, by decide⟩ rfl rfl (Nat.le_of_ble_eq_true rfl) ?_
  refine k_if_eq C (tgt := 20) d_X_members_5 (by decide) (fun c5 => ?_) (fun c5 => ?_)
  · refine k_iconst C (v := 0) d_X_members_20 (by decide) ?_
    exact k_iret X d_X_members_21 (k_pi ((if_pos c5).trans (rfl)))
  · refine k_aload_n C d_X_members_8 rfl rfl ?_
    refine k_getR C O (r := (1, _)) d_X_members_9 fl_X_11 xr_0 rfl rfl rfl rfl ?_
    refine k_iload_n C d_X_members_12 rfl rfl ?_
    refine k_aald2 C O (r := (5, _)) d_X_members_13 xr_1 rfl 3 rfl (in_x (n := 24) hI.1 (by decide) c5) rfl rfl ?_
    refine k_csI X d_X_members_14 (c_X_treeSize l b dA D g (tn n) (vi_lt (in_x (n := 24) hI.1 (by decide) c5))) cs_X_145 ⟨by decide, by decide⟩ rfl rfl (Nat.le_of_ble_eq_true rfl) ?_
    refine k_goto C (tgt := 21) d_X_members_17 (by decide) ?_
    exact k_iret X d_X_members_21 (k_pi ((if_neg c5).trans (rfl)))

set_option maxHeartbeats 4000000 in
set_option maxRecDepth 100000 in
theorem c_X_mapping (l : Launch) (b : Nat → Nat → Nat) (dA : Nat → ClassId) (D : va_G) (g : kG) (n : Int32) (s : Int64) (hI : xI g) : kMd (sysX b dA D) l y_X_mapping b_X_mapping 4 (some .int) 1 21 [.inr (.inr (0, 0)), .inl n, .inr (.inl s)] g (some (.inl (xMapping g n s).1)) (xMapping g n s).2 := by
  refine k_enter (by decide) [some (.inr (.inr (0, 0))), some (.inl n), some (.inr (.inl s)), none] rfl rfl (Nat.le_of_ble_eq_true rfl) (fun x X => ?_)
  have C := X.1
  have O := X.2.1
  refine k_aload_n C d_X_mapping_0 rfl rfl ?_
  refine k_iload_n C d_X_mapping_1 rfl rfl ?_
  refine k_cvI X d_X_mapping_2 (c_X_isFile l b dA D g n) cv_X_66 xr_0 rfl rfl ⟨by decide, by decide⟩ rfl rfl (Nat.le_of_ble_eq_true rfl) ?_
  refine k_if_eq C (tgt := 17) d_X_mapping_5 (by decide) (fun c5 => ?_) (fun c5 => ?_)
  · refine k_iconst C (v := (-1)) d_X_mapping_17 (by decide) ?_
    exact k_iret X d_X_mapping_18 (k_pr ((if_pos c5).trans (rfl)))
  · refine k_aload_n C d_X_mapping_8 rfl rfl ?_
    refine k_getI C O d_X_mapping_9 fl_X_34 xr_0 rfl rfl rfl ?_
    refine k_bipush C (v := 6) d_X_mapping_12 (by decide) ?_
    refine k_icmp_lt C (tgt := 19) d_X_mapping_14 (by decide) (fun c14 => ?_) (fun c14 => ?_)
    · refine k_aload_n C d_X_mapping_19 rfl rfl ?_
      refine k_getR C O (r := (3, _)) d_X_mapping_20 fl_X_23 xr_0 rfl rfl rfl rfl ?_
      refine k_aload_n C d_X_mapping_23 rfl rfl ?_
      refine k_getI C O d_X_mapping_24 fl_X_34 xr_0 rfl rfl rfl ?_
      refine k_aald2 C O (r := (14, _)) d_X_mapping_27 xr_3 rfl 5 rfl (in_lt hI.2.2.1 (by decide) (n := 6) rfl (by decide) c14) rfl rfl ?_
      refine k_iload_n C d_X_mapping_28 rfl rfl ?_
      refine k_putI C O d_X_mapping_29 fp_X_149 (xr_14 (vi_lt (in_lt hI.2.2.1 (by decide) (n := 6) rfl (by decide) c14))) rfl rfl rfl ?_
      refine k_aload_n C d_X_mapping_32 rfl rfl ?_
      refine k_getR C O (r := (3, _)) d_X_mapping_33 fl_X_23 xr_0 rfl rfl rfl rfl ?_
      refine k_aload_n C d_X_mapping_36 rfl rfl ?_
      refine k_getI C O d_X_mapping_37 fl_X_34 xr_0 rfl rfl rfl ?_
      refine k_aald2 C O (r := (14, _)) d_X_mapping_40 xr_3 rfl 5 rfl (in_lt hI.2.2.1 (by decide) (n := 6) rfl (by decide) c14) rfl rfl ?_
      refine k_lload_n C d_X_mapping_41 rfl rfl ?_
      refine k_putJ C O d_X_mapping_42 fp_X_152 (xr_14 (vi_lt (in_lt hI.2.2.1 (by decide) (n := 6) rfl (by decide) c14))) rfl rfl rfl ?_
      refine k_aload_n C d_X_mapping_45 rfl rfl ?_
      refine k_dup C d_X_mapping_46 rfl ?_
      refine k_getI C O d_X_mapping_47 fl_X_34 xr_0 rfl rfl rfl ?_
      refine k_iconst C (v := 1) d_X_mapping_50 (by decide) ?_
      refine k_iadd C d_X_mapping_51 ?_
      refine k_putI C O d_X_mapping_52 fp_X_34 xr_0 rfl rfl rfl ?_
      refine k_aload_n C d_X_mapping_55 rfl rfl ?_
      refine k_getI C O d_X_mapping_56 fl_X_34 xr_0 rfl rfl rfl ?_
      refine k_iconst C (v := 1) d_X_mapping_59 (by decide) ?_
      refine k_isub C d_X_mapping_60 ?_
      exact k_iret X d_X_mapping_61 (k_pr ((if_neg c5).trans ((if_pos c14).trans (rfl))))
    · refine k_iconst C (v := (-1)) d_X_mapping_17 (by decide) ?_
      exact k_iret X d_X_mapping_18 (k_pr ((if_neg c5).trans ((if_neg c14).trans (rfl))))

theorem xTake_c (l : Launch) (b : Nat → Nat → Nat) (dA : Nat → ClassId) (D : va_G) (g : kG) (i : Nat) (hi : i < 6) (f : Nat) (hs : kN (g.1 14 i 3) 4) (ht : ∃ w : Nat, w ≤ 4 ∧ xTree g f = nI w) : kMd (sysX b dA D) l y_G_take b_G_take 6 (some .int) 2 45 [.inr (.inr (14, i)), .inr (.inl (g.2 5 f 1)), .inl (xTree g f)] g (some (.inl (xTake g i f).1)) (xTake g i f).2 := by
  obtain ⟨w, hw, e⟩ := ht
  have h := c_G_take l b dA D g i hi (g.2 5 f 1) (tn (g.1 14 i 3)) hs.1 hs.2 w hw
  have e2 : tn (xTree g f) = w := by rw [e]; exact nI_clamp (by omega)
  unfold xTake
  rw [e2, e]
  exact h
set_option maxHeartbeats 4000000 in
set_option maxRecDepth 100000 in
theorem c_X_map (l : Launch) (b : Nat → Nat → Nat) (dA : Nat → ClassId) (D : va_G) (g : kG) (n : Int32) (hI : xI g) (ht : ∃ w : Nat, w ≤ 4 ∧ xTree g (tn (g.1 14 (tn n) 0)) = nI w) : kMd (sysX b dA D) l y_X_map b_X_map 3 (some .int) 4 91 [.inr (.inr (0, 0)), .inl n] g (some (.inl (xMap g n).1)) (xMap g n).2 := by
  refine k_enter (by decide) [some (.inr (.inr (0, 0))), some (.inl n), none] rfl rfl (Nat.le_of_ble_eq_true rfl) (fun x X => ?_)
  have C := X.1
  have O := X.2.1
  refine k_aload_n C d_X_map_0 rfl rfl ?_
  refine k_iload_n C d_X_map_1 rfl rfl ?_
  refine k_cvI X d_X_map_2 (c_X_isMapping l b dA D g n) cv_X_155 xr_0 rfl rfl ⟨by decide, by decide⟩ rfl rfl (Nat.le_of_ble_eq_true rfl) ?_
  refine k_if_ne C (tgt := 10) d_X_map_5 (by decide) (fun c5 => ?_) (fun c5 => ?_)
  · refine k_aload_n C d_X_map_10 rfl rfl ?_
    refine k_getR C O (r := (1, _)) d_X_map_11 fl_X_11 xr_0 rfl rfl rfl rfl ?_
    refine k_aload_n C d_X_map_14 rfl rfl ?_
    refine k_getR C O (r := (3, _)) d_X_map_15 fl_X_23 xr_0 rfl rfl rfl rfl ?_
    refine k_iload_n C d_X_map_18 rfl rfl ?_
    refine k_aald2 C O (r := (14, _)) d_X_map_19 xr_3 rfl 5 rfl (in_x (n := 6) hI.2.2.1 (by decide) c5) rfl rfl ?_
    refine k_getI C O d_X_map_20 fl_X_149 (xr_14 (vi_lt (in_x (n := 6) hI.2.2.1 (by decide) c5))) rfl rfl rfl ?_
    refine k_aald2 C O (r := (5, _)) d_X_map_23 xr_1 rfl 3 rfl ((hI.2.2.2.2.1 _ (vi_lt (in_x (n := 6) hI.2.2.1 (by decide) c5))).2) rfl rfl ?_
    refine k_astore_n C d_X_map_24 rfl (Nat.le_of_ble_eq_true rfl) rfl ?_
    refine k_aload_n C d_X_map_25 rfl rfl ?_
    refine k_cvI X d_X_map_26 (c_F_isMade l b dA D g (tn (g.1 14 (tn n) 0)) (vi_lt ((hI.2.2.2.2.1 _ (vi_lt (in_x (n := 6) hI.2.2.1 (by decide) c5))).2))) cv_X_70 (xr_5 (vi_lt ((hI.2.2.2.2.1 _ (vi_lt (in_x (n := 6) hI.2.2.1 (by decide) c5))).2))) rfl rfl ⟨by decide, by decide⟩ rfl rfl (Nat.le_of_ble_eq_true rfl) ?_
    refine k_if_eq C (tgt := 50) d_X_map_29 (by decide) (fun c29 => ?_) (fun c29 => ?_)
    · refine k_iconst C (v := (-1)) d_X_map_50 (by decide) ?_
      exact k_iret X d_X_map_51 (k_pr ((if_neg c5).trans ((if_pos c29).trans (rfl))))
    · refine k_aload_n C d_X_map_32 rfl rfl ?_
      refine k_getI C O d_X_map_33 fl_X_158 (xr_5 (vi_lt ((hI.2.2.2.2.1 _ (vi_lt (in_x (n := 6) hI.2.2.1 (by decide) c5))).2))) rfl rfl rfl ?_
      refine k_if_eq C (tgt := 50) d_X_map_36 (by decide) (fun c36 => ?_) (fun c36 => ?_)
      · refine k_iconst C (v := (-1)) d_X_map_50 (by decide) ?_
        exact k_iret X d_X_map_51 (k_pr ((if_neg c5).trans ((if_neg c29).trans ((if_pos c36).trans (rfl)))))
      · refine k_aload_n C d_X_map_39 rfl rfl ?_
        refine k_aload_n C d_X_map_40 rfl rfl ?_
        refine k_cvI X d_X_map_41 (c_X_freshActions l b dA D g (tn (g.1 0 0 5)) hI.2.1.1 hI.2.1.2 (fun i hi => ⟨(hI.2.2.2.1 i (Nat.lt_of_lt_of_le hi hI.2.1.2)).1.2.1, (hI.2.2.2.1 i (Nat.lt_of_lt_of_le hi hI.2.1.2)).2⟩)) cv_X_109 xr_0 rfl rfl ⟨by decide, by decide⟩ rfl rfl (Nat.le_of_ble_eq_true rfl) ?_
        refine k_csI X d_X_map_44 (c_X_isFresh l b dA D g (tn (g.1 14 (tn n) 0)) (vi_lt ((hI.2.2.2.2.1 _ (vi_lt (in_x (n := 6) hI.2.2.1 (by decide) c5))).2)) (xFresh g)) cs_X_161 ⟨by decide, by decide⟩ rfl rfl (Nat.le_of_ble_eq_true rfl) ?_
        refine k_if_ne C (tgt := 52) d_X_map_47 (by decide) (fun c47 => ?_) (fun c47 => ?_)
        · refine k_aload_n C d_X_map_52 rfl rfl ?_
          refine k_getR C O (r := (3, _)) d_X_map_53 fl_X_23 xr_0 rfl rfl rfl rfl ?_
          refine k_iload_n C d_X_map_56 rfl rfl ?_
          refine k_aald2 C O (r := (14, _)) d_X_map_57 xr_3 rfl 5 rfl (in_x (n := 6) hI.2.2.1 (by decide) c5) rfl rfl ?_
          refine k_aload_n C d_X_map_58 rfl rfl ?_
          refine k_getJ C O d_X_map_59 fl_X_132 (xr_5 (vi_lt ((hI.2.2.2.2.1 _ (vi_lt (in_x (n := 6) hI.2.2.1 (by decide) c5))).2))) rfl rfl rfl ?_
          refine k_aload_n C d_X_map_62 rfl rfl ?_
          refine k_csI X d_X_map_63 (c_X_treeSize l b dA D g (tn (g.1 14 (tn n) 0)) (vi_lt ((hI.2.2.2.2.1 _ (vi_lt (in_x (n := 6) hI.2.2.1 (by decide) c5))).2))) cs_X_145 ⟨by decide, by decide⟩ rfl rfl (Nat.le_of_ble_eq_true rfl) ?_
          refine k_cvI X d_X_map_66 (xTake_c l b dA D g (tn n) (vi_lt (in_x (n := 6) hI.2.2.1 (by decide) c5)) (tn (g.1 14 (tn n) 0)) (hI.2.2.2.2.1 _ (vi_lt (in_x (n := 6) hI.2.2.1 (by decide) c5))).1 ht) cv_X_165 (xr_14 (vi_lt (in_x (n := 6) hI.2.2.1 (by decide) c5))) rfl rfl ⟨by decide, by decide⟩ rfl rfl (Nat.le_of_ble_eq_true rfl) ?_
          exact k_iret X d_X_map_69 (k_pr ((if_neg c5).trans ((if_neg c29).trans ((if_neg c36).trans ((if_neg c47).trans (rfl))))))
        · refine k_iconst C (v := (-1)) d_X_map_50 (by decide) ?_
          exact k_iret X d_X_map_51 (k_pr ((if_neg c5).trans ((if_neg c29).trans ((if_neg c36).trans ((if_pos c47).trans (rfl))))))
  · refine k_iconst C (v := (-1)) d_X_map_8 (by decide) ?_
    exact k_iret X d_X_map_9 (k_pr ((if_pos c5).trans (rfl)))

set_option maxHeartbeats 4000000 in
set_option maxRecDepth 100000 in
theorem c_X_result (l : Launch) (b : Nat → Nat → Nat) (dA : Nat → ClassId) (D : va_G) (g : kG) (n i : Int32) (hI : xI g) : kMd (sysX b dA D) l y_X_result b_X_result 3 (some .long) 2 43 [.inr (.inr (0, 0)), .inl n, .inl i] g (some (.inr (.inl (xResult g n i)))) g := by
  refine k_enter (by decide) [some (.inr (.inr (0, 0))), some (.inl n), some (.inl i)] rfl rfl (Nat.le_of_ble_eq_true rfl) (fun x X => ?_)
  have C := X.1
  have O := X.2.1
  refine k_aload_n C d_X_result_0 rfl rfl ?_
  refine k_iload_n C d_X_result_1 rfl rfl ?_
  refine k_cvI X d_X_result_2 (c_X_isMapping l b dA D g n) cv_X_155 xr_0 rfl rfl ⟨by decide, by decide⟩ rfl rfl (Nat.le_of_ble_eq_true rfl) ?_
  refine k_if_eq C (tgt := 21) d_X_result_5 (by decide) (fun c5 => ?_) (fun c5 => ?_)
  · refine k_lconst C (v := 0) d_X_result_21 (by decide) ?_
    exact k_lret X d_X_result_22 (k_pl ((if_pos c5).trans (rfl)))
  · refine k_aload_n C d_X_result_8 rfl rfl ?_
    refine k_getR C O (r := (3, _)) d_X_result_9 fl_X_23 xr_0 rfl rfl rfl rfl ?_
    refine k_iload_n C d_X_result_12 rfl rfl ?_
    refine k_aald2 C O (r := (14, _)) d_X_result_13 xr_3 rfl 5 rfl (in_x (n := 6) hI.2.2.1 (by decide) c5) rfl rfl ?_
    refine k_iload_n C d_X_result_14 rfl rfl ?_
    refine k_cvJ X d_X_result_15 (c_G_resultOf l b dA D g (tn n) (vi_lt (in_x (n := 6) hI.2.2.1 (by decide) c5)) i) cv_X_169 (xr_14 (vi_lt (in_x (n := 6) hI.2.2.1 (by decide) c5))) rfl rfl ⟨by decide, by decide⟩ rfl rfl (Nat.le_of_ble_eq_true rfl) ?_
    refine k_goto C (tgt := 22) d_X_result_18 (by decide) ?_
    exact k_lret X d_X_result_22 (k_pl ((if_neg c5).trans (rfl)))
end
section
/-! the class: resolve (by program: wip/gen/cx5.py) -/
def xMk (g : kG) (e : Nat) : Int32 := ((xRun g (g.1 4 0 e)).2.1 5 (tn ((xRun g (g.1 4 0 e)).2.1 6 (tn (g.1 4 0 e)) 9)) 2)
def xTl (g : kG) (e : Nat) : Int32 × kG := xTr (xRun g (g.1 4 0 e)).2 (xMk g e) (e + 1) (e + 1) 0
def xPush (g : kG) (e : Nat) : kG := (kU (xTl g e).2.1 4 0 (e + 1) (xMk g e), (xTl g e).2.2)
def xRs : Nat → Nat → kG → Int32 × kG
  | 0, _, g => (-2, g)
  | n + 1, e, g => if 13 ≤ nI (e + 1) then (-2, g) else if (xRun g (g.1 4 0 e)).1 = 0 then (if (xTl g e).1 = 0 then xRs n (e + 1) (xPush g e) else (-5, (xTl g e).2)) else if nI (e + 1) = 1 then (xRun g (g.1 4 0 e)) else if (xRun g (g.1 4 0 e)).1 = -1 then (xRun g (g.1 4 0 e)) else if (xRun g (g.1 4 0 e)).1 = -2 then (xRun g (g.1 4 0 e)) else xRs n (e - 1) (xRun g (g.1 4 0 e)).2
def xResolve (g : kG) (n : Int32) : Int32 × kG := if xIn n (g.1 0 0 5) = 0 then (-9, g) else xRs 10000 0 (kU (kU g.1 0 0 9 0) 4 0 0 n, g.2)
theorem x_dp (e : Nat) : nI (e + 1) - 1 = nI e := nI_pred e
theorem x_dec (e : Nat) (h : 1 ≤ e) : nI (e + 1) + Int32.ofInt (-1) = nI (e - 1 + 1) := by
  rw [show e - 1 + 1 = e by omega]
  exact pk_m1 e
set_option maxHeartbeats 4000000 in
set_option maxRecDepth 100000 in
theorem l_X_resolve {x : kCx} (l : Launch) (b : Nat → Nat → Nat) (dA : Nat → ClassId) (D : va_G) (P : Nat → kG → Prop) (hP : ∀ e g, P e g → xI g ∧ e ≤ 11 ∧ vp_in (g.1 4 0 e) 12) (hP1 : ∀ e g, P e g → (xRun g (g.1 4 0 e)).1 = 0 → vp_in ((xRun g (g.1 4 0 e)).2.1 6 (tn (g.1 4 0 e)) 9) 24 ∧ ((xTl g e).1 = 0 → P (e + 1) (xPush g e))) (hP2 : ∀ e g, P e g → 1 ≤ e → ¬ (xRun g (g.1 4 0 e)).1 = 0 → ¬ (xRun g (g.1 4 0 e)).1 = -1 → ¬ (xRun g (g.1 4 0 e)).1 = -2 → P (e - 1) (xRun g (g.1 4 0 e)).2) (n0 : Int32) (X : kIn (sysX b dA D) l b_X_resolve y_X_resolve.cls 7 (some .int) 6 145 x) : ∀ (n : Nat) (r e : Nat) (g : kG) (z4 z5 z6 : Option kV), r + n = 10000 → P e g → Wk (kWd (sysX b dA D)) (kAA (sysX b dA D)) (y_ad (sysX b dA D)) x (0, 0) (kQ (sysX b dA D) (fun r g2 => r = some (.inl (xRs n e g).1) ∧ g2 = (xRs n e g).2) x) 27 [some (.inr (.inr (0, 0))), some (.inl n0), some (.inl (nI (e + 1))), some (.inl (nI r)), z4, z5, z6] [] g := by
  have C := X.1
  have O := X.2.1
  intro n
  induction n with
  | zero =>
    intro r e g z4 z5 z6 hr hPe
    refine k_iload_n C d_X_resolve_27 rfl rfl ?_
    refine k_sipush C (v := 10000) d_X_resolve_28 (by decide) ?_
    refine k_icmp_ge C (tgt := 143) d_X_resolve_31 (by decide) (fun c31 => ?_) (fun c31 => ?_)
    · refine k_bipush C (v := (-2)) d_X_resolve_143 (by decide) ?_
      exact k_iret X d_X_resolve_145 (⟨rfl, rfl⟩)
    · exact absurd (show (10000 : Int32) ≤ nI r from nI_le (a := 10000) (by omega) (by omega)) c31
  | succ n ih =>
    intro r e g z4 z5 z6 hr hPe
    obtain ⟨hI, he, hv⟩ := hP e g hPe
    refine k_iload_n C d_X_resolve_27 rfl rfl ?_
    refine k_sipush C (v := 10000) d_X_resolve_28 (by decide) ?_
    refine k_icmp_ge C (tgt := 143) d_X_resolve_31 (by decide) (fun c31 => ?_) (fun c31 => ?_)
    · exact absurd c31 (show ¬ (10000 : Int32) ≤ nI r from nI_ge (b := 10000) (by omega) (by omega))
    · refine k_iload_n C d_X_resolve_34 rfl rfl ?_
      refine k_aload_n C d_X_resolve_35 rfl rfl ?_
      refine k_getR C O (r := (4, _)) d_X_resolve_36 fl_X_37 xr_0 rfl rfl rfl rfl ?_
      refine k_alen C O (v := 13) d_X_resolve_39 xr_4 rfl 0 rfl rfl ?_
      refine k_icmp_ge C (tgt := 143) d_X_resolve_40 (by decide) (fun c40 => ?_) (fun c40 => ?_)
      · refine k_bipush C (v := (-2)) d_X_resolve_143 (by decide) ?_
        exact k_iret X d_X_resolve_145 (k_pr ((if_pos c40).trans (rfl)))
      · refine k_aload_n C d_X_resolve_43 rfl rfl ?_
        refine k_getR C O (r := (4, _)) d_X_resolve_44 fl_X_37 xr_0 rfl rfl rfl rfl ?_
        refine k_iload_n C d_X_resolve_47 rfl rfl ?_
        refine k_iconst C (v := 1) d_X_resolve_48 (by decide) ?_
        refine k_isub C d_X_resolve_49 ?_
        refine k_iald2 C O (q := e) d_X_resolve_50 xr_4 rfl 0 rfl (show vp_in (nI (e + 1) - 1) 13 from by rw [x_dp]; exact vp_in_nI (by omega) (by decide)) (by rw [x_dp]; exact nI_clamp (by omega)) ?_
        refine k_istore C d_X_resolve_51 (Nat.le_of_ble_eq_true rfl) rfl ?_
        refine k_aload_n C d_X_resolve_53 rfl rfl ?_
        refine k_iload C d_X_resolve_54 rfl ?_
        refine k_cvI X d_X_resolve_56 (c_X_runOnce l b dA D g (g.1 4 0 e) hv hI) cv_X_99 xr_0 rfl rfl ⟨by decide, by decide⟩ rfl rfl (Nat.le_of_ble_eq_true rfl) ?_
        refine k_istore C d_X_resolve_59 (Nat.le_of_ble_eq_true rfl) rfl ?_
        refine k_iload C d_X_resolve_61 rfl ?_
        refine k_if_ne C (tgt := 113) d_X_resolve_63 (by decide) (fun c63 => ?_) (fun c63 => ?_)
        · refine k_iload_n C d_X_resolve_113 rfl rfl ?_
          refine k_iconst C (v := 1) d_X_resolve_114 (by decide) ?_
          refine k_icmp_eq C (tgt := 131) d_X_resolve_115 (by decide) (fun c115 => ?_) (fun c115 => ?_)
          · refine k_iload C d_X_resolve_131 rfl ?_
            exact k_iret X d_X_resolve_133 (k_pr ((if_neg c40).trans ((if_neg c63).trans ((if_pos c115).trans (rfl)))))
          · refine k_iload C d_X_resolve_118 rfl ?_
            refine k_iconst C (v := (-1)) d_X_resolve_120 (by decide) ?_
            refine k_icmp_eq C (tgt := 131) d_X_resolve_121 (by decide) (fun c121 => ?_) (fun c121 => ?_)
            · refine k_iload C d_X_resolve_131 rfl ?_
              exact k_iret X d_X_resolve_133 (k_pr ((if_neg c40).trans ((if_neg c63).trans ((if_neg c115).trans ((if_pos c121).trans (rfl))))))
            · refine k_iload C d_X_resolve_124 rfl ?_
              refine k_bipush C (v := (-2)) d_X_resolve_126 (by decide) ?_
              refine k_icmp_ne C (tgt := 134) d_X_resolve_128 (by decide) (fun c128 => ?_) (fun c128 => ?_)
              · have h1e : 1 ≤ e := by
                  rcases Nat.eq_zero_or_pos e with q | q
                  · exact absurd (by rw [q]; rfl) c115
                  · exact q
                refine k_iinc C (w := nI (e - 1 + 1)) d_X_resolve_134 rfl (x_dec e h1e) rfl ?_
                refine k_iinc C (w := nI (r + 1)) d_X_resolve_137 rfl (nI_inc r) rfl ?_
                refine k_goto C (tgt := 27) d_X_resolve_140 (by decide) ?_
                exact k_Qs ((if_neg c40).trans ((if_neg c63).trans ((if_neg c115).trans ((if_neg c121).trans ((if_neg c128).trans (rfl)))))) (ih (r + 1) (e - 1) _ _ _ _ (by omega) (hP2 e g hPe h1e c63 c121 c128))
              · refine k_iload C d_X_resolve_131 rfl ?_
                exact k_iret X d_X_resolve_133 (k_pr ((if_neg c40).trans ((if_neg c63).trans ((if_neg c115).trans ((if_neg c121).trans ((if_pos c128).trans (rfl)))))))
        · refine k_aload_n C d_X_resolve_66 rfl rfl ?_
          refine k_getR C O (r := (1, _)) d_X_resolve_67 fl_X_11 xr_0 rfl rfl rfl rfl ?_
          refine k_aload_n C d_X_resolve_70 rfl rfl ?_
          refine k_getR C O (r := (2, _)) d_X_resolve_71 fl_X_17 xr_0 rfl rfl rfl rfl ?_
          refine k_iload C d_X_resolve_74 rfl ?_
          refine k_aald2 C O (r := (6, _)) d_X_resolve_76 xr_2 rfl 4 rfl hv rfl rfl ?_
          refine k_getI C O d_X_resolve_77 fl_X_103 (xr_6 (vi_lt hv)) rfl rfl rfl ?_
          refine k_aald2 C O (r := (5, _)) d_X_resolve_80 xr_1 rfl 3 rfl (hP1 e g hPe c63).1 rfl rfl ?_
          refine k_getI C O d_X_resolve_81 fl_X_89 (xr_5 (vi_lt (hP1 e g hPe c63).1)) rfl rfl rfl ?_
          refine k_istore C d_X_resolve_84 (Nat.le_of_ble_eq_true rfl) rfl ?_
          refine k_aload_n C d_X_resolve_86 rfl rfl ?_
          refine k_iload C d_X_resolve_87 rfl ?_
          refine k_iload_n C d_X_resolve_89 rfl rfl ?_
          refine k_cvI X d_X_resolve_90 (c_X_tellRing l b dA D _ _ (e + 1) (by omega)) cv_X_106 xr_0 rfl rfl ⟨by decide, by decide⟩ rfl rfl (Nat.le_of_ble_eq_true rfl) ?_
          refine k_if_eq C (tgt := 99) d_X_resolve_93 (by decide) (fun c93 => ?_) (fun c93 => ?_)
          · refine k_aload_n C d_X_resolve_99 rfl rfl ?_
            refine k_getR C O (r := (4, _)) d_X_resolve_100 fl_X_37 xr_0 rfl rfl rfl rfl ?_
            refine k_iload_n C d_X_resolve_103 rfl rfl ?_
            refine k_iload C d_X_resolve_104 rfl ?_
            refine k_iast2 C O (q := (e + 1)) d_X_resolve_106 xr_4 rfl 0 rfl (show vp_in (nI (e + 1)) 13 from vp_in_nI (by omega) (by decide)) (nI_clamp (by omega)) ?_
            refine k_iinc C (w := nI (e + 1 + 1)) d_X_resolve_107 rfl (nI_inc (e + 1)) rfl ?_
            refine k_goto C (tgt := 137) d_X_resolve_110 (by decide) ?_
            refine k_iinc C (w := nI (r + 1)) d_X_resolve_137 rfl (nI_inc r) rfl ?_
            refine k_goto C (tgt := 27) d_X_resolve_140 (by decide) ?_
            exact k_Qs ((if_neg c40).trans ((if_pos c63).trans ((if_pos c93).trans (rfl)))) (ih (r + 1) (e + 1) _ _ _ _ (by omega) ((hP1 e g hPe c63).2 c93))
          · refine k_bipush C (v := (-5)) d_X_resolve_96 (by decide) ?_
            exact k_iret X d_X_resolve_98 (k_pr ((if_neg c40).trans ((if_pos c63).trans ((if_neg c93).trans (rfl)))))

set_option maxHeartbeats 4000000 in
set_option maxRecDepth 100000 in
theorem c_X_resolve (l : Launch) (b : Nat → Nat → Nat) (dA : Nat → ClassId) (D : va_G) (g : kG) (n : Int32) (P : Nat → kG → Prop) (hP : ∀ e g, P e g → xI g ∧ e ≤ 11 ∧ vp_in (g.1 4 0 e) 12) (hP1 : ∀ e g, P e g → (xRun g (g.1 4 0 e)).1 = 0 → vp_in ((xRun g (g.1 4 0 e)).2.1 6 (tn (g.1 4 0 e)) 9) 24 ∧ ((xTl g e).1 = 0 → P (e + 1) (xPush g e))) (hP2 : ∀ e g, P e g → 1 ≤ e → ¬ (xRun g (g.1 4 0 e)).1 = 0 → ¬ (xRun g (g.1 4 0 e)).1 = -1 → ¬ (xRun g (g.1 4 0 e)).1 = -2 → P (e - 1) (xRun g (g.1 4 0 e)).2) (h0 : ¬ xIn n (g.1 0 0 5) = 0 → P 0 (kU (kU g.1 0 0 9 0) 4 0 0 n, g.2)) : kMd (sysX b dA D) l y_X_resolve b_X_resolve 7 (some .int) 6 145 [.inr (.inr (0, 0)), .inl n] g (some (.inl (xResolve g n).1)) (xResolve g n).2 := by
  refine k_enter (by decide) [some (.inr (.inr (0, 0))), some (.inl n), none, none, none, none, none] rfl rfl (Nat.le_of_ble_eq_true rfl) (fun x X => ?_)
  have C := X.1
  have O := X.2.1
  refine k_aload_n C d_X_resolve_0 rfl rfl ?_
  refine k_iload_n C d_X_resolve_1 rfl rfl ?_
  refine k_cvI X d_X_resolve_2 (c_X_isAction l b dA D g n) cv_X_80 xr_0 rfl rfl ⟨by decide, by decide⟩ rfl rfl (Nat.le_of_ble_eq_true rfl) ?_
  refine k_if_ne C (tgt := 11) d_X_resolve_5 (by decide) (fun c5 => ?_) (fun c5 => ?_)
  · refine k_aload_n C d_X_resolve_11 rfl rfl ?_
    refine k_iconst C (v := 0) d_X_resolve_12 (by decide) ?_
    refine k_putI C O d_X_resolve_13 fp_X_44 xr_0 rfl rfl rfl ?_
    refine k_aload_n C d_X_resolve_16 rfl rfl ?_
    refine k_getR C O (r := (4, _)) d_X_resolve_17 fl_X_37 xr_0 rfl rfl rfl rfl ?_
    refine k_iconst C (v := 0) d_X_resolve_20 (by decide) ?_
    refine k_iload_n C d_X_resolve_21 rfl rfl ?_
    refine k_iast2 C O (q := 0) d_X_resolve_22 xr_4 rfl 0 rfl (show vp_in 0 13 from vp_in_nI (n := 0) (by decide) (by decide)) rfl ?_
    refine k_iconst C (v := 1) d_X_resolve_23 (by decide) ?_
    refine k_istore_n C d_X_resolve_24 rfl (Nat.le_of_ble_eq_true rfl) rfl ?_
    refine k_iconst C (v := 0) d_X_resolve_25 (by decide) ?_
    refine k_istore_n C d_X_resolve_26 rfl (Nat.le_of_ble_eq_true rfl) rfl ?_
    exact k_Qs ((if_neg c5).trans rfl) (l_X_resolve l b dA D P hP hP1 hP2 n X 10000 0 0 _ none none none (by omega) (h0 c5))
  · refine k_bipush C (v := (-9)) d_X_resolve_8 (by decide) ?_
    exact k_iret X d_X_resolve_10 (k_pr ((if_pos c5).trans (rfl)))
end
section
/-! the reference's cells -/
def mRefs : List (Nat × Nat) := [(0, 0), (5, 0), (6, 0), (7, 0), (8, 0), (9, 0), (10, 0), (11, 0), (12, 0), (13, 0), (14, 0), (15, 0), (16, 0), (17, 0), (18, 0), (19, 0), (20, 0), (21, 0), (22, 0), (23, 0), (24, 0), (25, 0), (27, 0), (28, 0), (29, 0), (30, 0), (31, 0)]
def mRt : Nat → Nat → Nat → Nat × Nat := fun _ _ j => (j, 0)
def mKc : Nat → Nat := fun _ => 5
def mFt : Nat → List Nat := fun _ => [0, 0, 0, 0, 0, 2, 2, 2, 2, 2, 2, 2, 2, 2, 2, 2, 2, 2, 2, 2, 2, 2, 2, 2, 2, 2, 0, 2, 2, 2, 2, 2, 1, 1]
def mIs : Nat → Nat := fun k => match k with
  | 0 => 0
  | 5 => 2
  | 6 => 3
  | 20 => 2
  | 21 => 2
  | 22 => 2
  | 23 => 3
  | 29 => 3
  | 30 => 3
  | 31 => 3
  | _ => 1
def mLn : Nat → Nat := fun k => match k with
  | 5 => 24
  | 6 => 24
  | 7 => 24
  | 11 => 144
  | 12 => 144
  | 15 => 288
  | 20 => 288
  | 21 => 288
  | 23 => 288
  | 27 => 6
  | 28 => 6
  | 29 => 6
  | 30 => 24
  | 31 => 24
  | _ => 12
def mCa (dA : Nat → ClassId) : Nat → ClassId := fun k => match mIs k with
  | 2 => dA 1
  | 3 => dA 2
  | _ => dA 0
def sysM (b : Nat → Nat → Nat) (dA : Nat → ClassId) (D : va_G) : kSys := (mRefs, b, mRt, mKc, mFt, mIs, mLn, mCa dA, D, kTys dA)
theorem mr_0 : (0, 0) ∈ mRefs := by decide +kernel
theorem mr_5 : (5, 0) ∈ mRefs := by decide +kernel
theorem mr_6 : (6, 0) ∈ mRefs := by decide +kernel
theorem mr_7 : (7, 0) ∈ mRefs := by decide +kernel
theorem mr_8 : (8, 0) ∈ mRefs := by decide +kernel
theorem mr_9 : (9, 0) ∈ mRefs := by decide +kernel
theorem mr_10 : (10, 0) ∈ mRefs := by decide +kernel
theorem mr_11 : (11, 0) ∈ mRefs := by decide +kernel
theorem mr_12 : (12, 0) ∈ mRefs := by decide +kernel
theorem mr_13 : (13, 0) ∈ mRefs := by decide +kernel
theorem mr_14 : (14, 0) ∈ mRefs := by decide +kernel
theorem mr_15 : (15, 0) ∈ mRefs := by decide +kernel
theorem mr_16 : (16, 0) ∈ mRefs := by decide +kernel
theorem mr_17 : (17, 0) ∈ mRefs := by decide +kernel
theorem mr_18 : (18, 0) ∈ mRefs := by decide +kernel
theorem mr_19 : (19, 0) ∈ mRefs := by decide +kernel
theorem mr_20 : (20, 0) ∈ mRefs := by decide +kernel
theorem mr_21 : (21, 0) ∈ mRefs := by decide +kernel
theorem mr_22 : (22, 0) ∈ mRefs := by decide +kernel
theorem mr_23 : (23, 0) ∈ mRefs := by decide +kernel
theorem mr_24 : (24, 0) ∈ mRefs := by decide +kernel
theorem mr_25 : (25, 0) ∈ mRefs := by decide +kernel
theorem mr_27 : (27, 0) ∈ mRefs := by decide +kernel
theorem mr_28 : (28, 0) ∈ mRefs := by decide +kernel
theorem mr_29 : (29, 0) ∈ mRefs := by decide +kernel
theorem mr_30 : (30, 0) ∈ mRefs := by decide +kernel
theorem mr_31 : (31, 0) ∈ mRefs := by decide +kernel
theorem m_nodup : mRefs.Nodup := by decide +kernel
theorem vi_nI {n : Int32} {k : Nat} (h : vp_in n k) (hk : k < 2 ^ 31) : n = nI (tn n) := by
  obtain ⟨j, hj, rfl⟩ := vp_in_of h hk
  rw [show tn (nI j) = j from nI_clamp (by omega)]
theorem vt_lt {j : Int32} {n : Nat} (h : vp_in j n) : tn j < n := vi_lt h
theorem ix_l {n v C : Int32} {c k N : Nat} (hC : C = nI c) (hn : vp_in n N) (hN : N < 1000) (hv : v = nI k) : C * n + v = nI (c * tn n + k) := by
  have e := vi_nI hn (by omega)
  rw [hC, hv]
  conv => lhs; rw [e]
  rw [pk_mul, nI_add]
theorem ix_q {n v C : Int32} {c k N : Nat} (hC : C = nI c) (hn : vp_in n N) (hN : N < 1000) (hv : v = nI k) (hb : c ≤ 24 ∧ k < 1000) : (C * n + v).toNatClampNeg = c * tn n + k := by
  rw [ix_l hC hn hN hv]
  have h1 : tn n < N := vi_lt hn
  have h2 : c * tn n ≤ 24 * 1000 := Nat.mul_le_mul hb.1 (by omega)
  exact nI_clamp (by omega)
theorem ix_in {n v C : Int32} {c k N L : Nat} (hC : C = nI c) (hn : vp_in n N) (hN : N < 1000) (hv : v = nI k) (hL : L < 1000) (hb : c * (N - 1) + k < L) : vp_in (C * n + v) L := by
  rw [ix_l hC hn hN hv]
  have h1 : tn n < N := vi_lt hn
  have h2 : c * tn n ≤ c * (N - 1) := Nat.mul_le_mul_left c (by omega)
  exact vp_in_nI (by omega) (by omega)
end
section
/-! the reference: specs and contracts, 1 (by program: wip/gen/cm1.py) -/
def m0 (g : kG) : kG := (kU g.1 0 0 1 0, g.2)
def mFgt (g : kG) (a : Nat) : kG := (kU (kU g.1 13 0 a 2) 14 0 a 0, g.2)
def mFile (g : kG) (d : Int64) : Int32 × kG := if g.1 0 0 2 = 24 then (-1, m0 g) else (g.1 0 0 2 + 1 - 1, (kU (kU (kU (m0 g).1 5 0 (tn (g.1 0 0 2)) 1) 7 0 (tn (g.1 0 0 2)) (-1)) 0 0 2 (g.1 0 0 2 + 1), kUJ g.2 6 0 (tn (g.1 0 0 2)) d))
def mChange (g : kG) (n t : Int32) (d : Int64) : Int32 × kG := if xIn n (g.1 0 0 2) = 0 then (0, m0 g) else if g.1 7 0 (tn n) = -1 then (if t = 0 then (1, (kU (m0 g).1 5 0 (tn n) t, kUJ g.2 6 0 (tn n) 0)) else (1, (kU (m0 g).1 5 0 (tn n) t, kUJ g.2 6 0 (tn n) d))) else (0, m0 g)
def mAction (g : kG) (al : Int32) : Int32 × kG := if g.1 0 0 3 = 12 then (-1, m0 g) else (g.1 0 0 3 + 1 - 1, (kU (kU (kU (kU (kU (m0 g).1 8 0 (tn (g.1 0 0 3)) al) 9 0 (tn (g.1 0 0 3)) (-1)) 13 0 (tn (g.1 0 0 3)) 2) 19 0 (tn (g.1 0 0 3)) (-1)) 0 0 3 (g.1 0 0 3 + 1), g.2))
def mMakes (g : kG) (n f : Int32) : Int32 × kG := if xIn n (g.1 0 0 3) = 0 then (0, m0 g) else if xIn f (g.1 0 0 2) = 0 then (0, m0 g) else if g.1 9 0 (tn n) = -1 then (if g.1 7 0 (tn f) = -1 then (1, mFgt (kU (kU (kU (m0 g).1 9 0 (tn n) f) 7 0 (tn f) n) 5 0 (tn f) 0, kUJ g.2 6 0 (tn f) 0) (tn n)) else (0, m0 g)) else (0, m0 g)
def mRing (g : kG) (i : Int32) : Int32 := if i < 0 then -1 else if i < g.1 0 0 26 then g.1 24 0 (tn i) else -1
def mWaits (g : kG) (n : Int32) : Int32 := if xIn n (g.1 0 0 3) = 0 then -1 else g.1 19 0 (tn n)
def mDigest (g : kG) (n : Int32) : Int64 := if xIn n (g.1 0 0 2) = 0 then 0 else if g.1 5 0 (tn n) = 0 then 0 else g.2 6 0 (tn n)
def mCounted (g : kG) (n w : Int32) : Int32 := if xIn n (g.1 0 0 3) = 0 then -1 else if w = 0 then g.1 16 0 (tn n) else if w = 1 then g.1 17 0 (tn n) else if w = 2 then g.1 18 0 (tn n) else -1
def mMof (g : kG) (f : Nat) : Int32 := if g.1 7 0 f = -1 then 0 else if g.1 5 0 f = 0 then 0 else if 0 ≤ (g.2 6 0 f - g.2 6 0 f / 5 * 5).toInt32 then (g.2 6 0 f - g.2 6 0 f / 5 * 5).toInt32 else (g.2 6 0 f - g.2 6 0 f / 5 * 5).toInt32 + 5
def mMembers (g : kG) (n : Int32) : Int32 := if xIn n (g.1 0 0 2) = 0 then 0 else mMof (m0 g) (tn n)
def mMapping (g : kG) (n : Int32) (s : Int64) : Int32 × kG := if xIn n (g.1 0 0 2) = 0 then (-1, m0 g) else if g.1 0 0 4 = 6 then (-1, m0 g) else (g.1 0 0 4 + 1 - 1, (kU (kU (m0 g).1 27 0 (tn (g.1 0 0 4)) n) 0 0 4 (g.1 0 0 4 + 1), kUJ g.2 29 0 (tn (g.1 0 0 4)) s))
def mKept (g : kG) (n i w : Int32) : Int32 := if xIn n (g.1 0 0 3) = 0 then -1 else if g.1 13 0 (tn n) = 2 then -1 else if i < 0 then -1 else if i < g.1 14 0 (tn n) then (if w = 0 then g.1 15 0 (24 * tn n + tn i) else if w = 1 then (if g.1 20 0 (24 * tn n + tn i) = 0 then 0 else 1) else if w = 2 then (if g.1 21 0 (24 * tn n + tn i) = 0 then 0 else 1) else -1) else -1
def mResult (g : kG) (n i : Int32) : Int64 := if n < 0 then 0 else if g.1 0 0 4 ≤ n then 0 else if i < 0 then 0 else if i < g.1 28 0 (tn n) then g.2 31 0 (4 * tn n + tn i) else 0
def mRight (g : kG) (k w : Int32) : Int32 := if k = 2 then (if w < 1 then 0 else if 8 < w then 0 else 1) else if k = 0 then (if xIn w (g.1 0 0 2) = 0 then 0 else 1) else if k = 1 then (if xIn w (g.1 0 0 2) = 0 then 0 else 1) else 0
def mAddRow (g : kG) (a : Nat) (k w : Int32) : kG := mFgt (kU (kU (kU g.1 11 0 (12 * a + tn (g.1 10 0 a)) k) 12 0 (12 * a + tn (g.1 10 0 a)) w) 10 0 a (g.1 10 0 a + 1), g.2) a
def mRow2 (g : kG) (n k w r : Int32) : Int32 × kG := if xIn n (g.1 0 0 3) = 0 then (0, m0 g) else if r = 0 then (0, m0 g) else if g.1 10 0 (tn n) = 12 then (0, m0 g) else (1, mAddRow (m0 g) (tn n) k w)
def mRow (g : kG) (n k w : Int32) : Int32 × kG := if k = 2 then (if w < 1 then mRow2 g n k w 0 else if 8 < w then mRow2 g n k w 0 else mRow2 g n k w 1) else if k = 0 then (if xIn w (g.1 0 0 2) = 0 then mRow2 g n k w 0 else mRow2 g n k w 1) else if k = 1 then (if xIn w (g.1 0 0 2) = 0 then mRow2 g n k w 0 else mRow2 g n k w 1) else mRow2 g n k w 0
/-- what always holds of the reference's memory, as far as its own walks ask it -/
def mI (g : kG) : Prop := kN (g.1 0 0 2) 24 ∧ kN (g.1 0 0 3) 12 ∧ kN (g.1 0 0 4) 6 ∧ (∀ f, f < 24 → kZ (g.1 5 0 f)) ∧ (∀ a, a < 12 → kN (g.1 10 0 a) 12 ∧ kN (g.1 14 0 a) 12) ∧ (∀ m, m < 6 → kN (g.1 28 0 m) 4 ∧ vp_in (g.1 27 0 m) 24) ∧ kN (g.1 0 0 26) 12
theorem in_ne {v : Int32} {n : Nat} {w : Int32} (hv : kN v n) (hw : w = nI n) (hn : n < 2 ^ 30) (h : ¬ v = w) : vp_in v n := by
  have h1 := hv.1
  have h2 := hv.2
  rcases Nat.lt_or_ge (tn v) n with q | q
  · rw [h1]
    exact vp_in_nI q (by omega)
  · exact absurd (by rw [hw, h1, show tn v = n by omega]) h
set_option maxHeartbeats 4000000 in
set_option maxRecDepth 100000 in
theorem c_M_isFile (l : Launch) (b : Nat → Nat → Nat) (dA : Nat → ClassId) (D : va_G) (g : kG) (n : Int32) : kMd (sysM b dA D) l y_M_isFile b_M_isFile 2 (some .boolean) 0 0 [.inr (.inr (0, 0)), .inl n] g (some (.inl (xIn n (g.1 0 0 2)))) g := by
  refine k_enter (by decide) [some (.inr (.inr (0, 0))), some (.inl n)] rfl rfl (Nat.le_of_ble_eq_true rfl) (fun x X => ?_)
  have C := X.1
  have O := X.2.1
  refine k_iload_n C d_M_isFile_0 rfl rfl ?_
  refine k_if_lt C (tgt := 16) d_M_isFile_1 (by decide) (fun c1 => ?_) (fun c1 => ?_)
  · refine k_iconst C (v := 0) d_M_isFile_16 (by decide) ?_
    exact k_zret X d_M_isFile_17 (Or.inl rfl) (⟨by simp only [xIn, if_pos c1], by simp only [xIn, if_pos c1]⟩)
  · refine k_iload_n C d_M_isFile_4 rfl rfl ?_
    refine k_aload_n C d_M_isFile_5 rfl rfl ?_
    refine k_getI C O d_M_isFile_6 fl_M_97 mr_0 rfl rfl rfl ?_
    refine k_icmp_ge C (tgt := 16) d_M_isFile_9 (by decide) (fun c9 => ?_) (fun c9 => ?_)
    · refine k_iconst C (v := 0) d_M_isFile_16 (by decide) ?_
      exact k_zret X d_M_isFile_17 (Or.inl rfl) (⟨by simp only [xIn, if_neg c1, if_pos c9], by simp only [xIn, if_neg c1, if_pos c9]⟩)
    · refine k_iconst C (v := 1) d_M_isFile_12 (by decide) ?_
      refine k_goto C (tgt := 17) d_M_isFile_13 (by decide) ?_
      exact k_zret X d_M_isFile_17 (Or.inr rfl) (⟨by simp only [xIn, if_neg c1, if_neg c9], by simp only [xIn, if_neg c1, if_neg c9]⟩)

set_option maxHeartbeats 4000000 in
set_option maxRecDepth 100000 in
theorem c_M_isAction (l : Launch) (b : Nat → Nat → Nat) (dA : Nat → ClassId) (D : va_G) (g : kG) (n : Int32) : kMd (sysM b dA D) l y_M_isAction b_M_isAction 2 (some .boolean) 0 0 [.inr (.inr (0, 0)), .inl n] g (some (.inl (xIn n (g.1 0 0 3)))) g := by
  refine k_enter (by decide) [some (.inr (.inr (0, 0))), some (.inl n)] rfl rfl (Nat.le_of_ble_eq_true rfl) (fun x X => ?_)
  have C := X.1
  have O := X.2.1
  refine k_iload_n C d_M_isAction_0 rfl rfl ?_
  refine k_if_lt C (tgt := 16) d_M_isAction_1 (by decide) (fun c1 => ?_) (fun c1 => ?_)
  · refine k_iconst C (v := 0) d_M_isAction_16 (by decide) ?_
    exact k_zret X d_M_isAction_17 (Or.inl rfl) (⟨by simp only [xIn, if_pos c1], by simp only [xIn, if_pos c1]⟩)
  · refine k_iload_n C d_M_isAction_4 rfl rfl ?_
    refine k_aload_n C d_M_isAction_5 rfl rfl ?_
    refine k_getI C O d_M_isAction_6 fl_M_100 mr_0 rfl rfl rfl ?_
    refine k_icmp_ge C (tgt := 16) d_M_isAction_9 (by decide) (fun c9 => ?_) (fun c9 => ?_)
    · refine k_iconst C (v := 0) d_M_isAction_16 (by decide) ?_
      exact k_zret X d_M_isAction_17 (Or.inl rfl) (⟨by simp only [xIn, if_neg c1, if_pos c9], by simp only [xIn, if_neg c1, if_pos c9]⟩)
    · refine k_iconst C (v := 1) d_M_isAction_12 (by decide) ?_
      refine k_goto C (tgt := 17) d_M_isAction_13 (by decide) ?_
      exact k_zret X d_M_isAction_17 (Or.inr rfl) (⟨by simp only [xIn, if_neg c1, if_neg c9], by simp only [xIn, if_neg c1, if_neg c9]⟩)

set_option maxHeartbeats 4000000 in
set_option maxRecDepth 100000 in
theorem c_M_forget (l : Launch) (b : Nat → Nat → Nat) (dA : Nat → ClassId) (D : va_G) (g : kG) (n : Int32) (hn : vp_in n 12) : kMd (sysM b dA D) l y_M_forget b_M_forget 2 none 0 0 [.inr (.inr (0, 0)), .inl n] g none (mFgt g (tn n)) := by
  refine k_enter (by decide) [some (.inr (.inr (0, 0))), some (.inl n)] rfl rfl (Nat.le_of_ble_eq_true rfl) (fun x X => ?_)
  have C := X.1
  have O := X.2.1
  refine k_aload_n C d_M_forget_0 rfl rfl ?_
  refine k_getR C O (r := (13, _)) d_M_forget_1 fl_M_36 mr_0 rfl rfl rfl rfl ?_
  refine k_iload_n C d_M_forget_4 rfl rfl ?_
  refine k_iconst C (v := 2) d_M_forget_5 (by decide) ?_
  refine k_iast2 C O d_M_forget_6 mr_13 rfl 0 rfl hn rfl ?_
  refine k_aload_n C d_M_forget_7 rfl rfl ?_
  refine k_getR C O (r := (14, _)) d_M_forget_8 fl_M_39 mr_0 rfl rfl rfl rfl ?_
  refine k_iload_n C d_M_forget_11 rfl rfl ?_
  refine k_iconst C (v := 0) d_M_forget_12 (by decide) ?_
  refine k_iast2 C O d_M_forget_13 mr_14 rfl 0 rfl hn rfl ?_
  exact k_vret X d_M_forget_14 (k_pv (rfl))

set_option maxHeartbeats 4000000 in
set_option maxRecDepth 100000 in
theorem c_M_member (l : Launch) (b : Nat → Nat → Nat) (dA : Nat → ClassId) (D : va_G) (g : kG) (d : Int64) (i : Int32) : kMd (sysM b dA D) l y_M_member b_M_member 3 (some .long) 0 0 [.inr (.inl d), .inl i] g (some (.inr (.inl (xMem d i)))) g := by
  refine k_enter (by decide) [some (.inr (.inl d)), none, some (.inl i)] rfl rfl (Nat.le_of_ble_eq_true rfl) (fun x X => ?_)
  have C := X.1
  have O := X.2.1
  refine k_lload_n C d_M_member_0 rfl rfl ?_
  refine k_iload_n C d_M_member_1 rfl rfl ?_
  refine k_i2l C d_M_member_2 ?_
  refine k_ldc2 C (v := 1000003) d_M_member_3 (by decide +kernel) ?_
  refine k_lmul C d_M_member_6 ?_
  refine k_lxor C d_M_member_7 ?_
  exact k_lret X d_M_member_8 (⟨by simp only [xMem], by simp only [xMem]⟩)

set_option maxHeartbeats 4000000 in
set_option maxRecDepth 100000 in
theorem c_M_file (l : Launch) (b : Nat → Nat → Nat) (dA : Nat → ClassId) (D : va_G) (g : kG) (d : Int64) (hI : mI g) : kMd (sysM b dA D) l y_M_file b_M_file 3 (some .int) 0 0 [.inr (.inr (0, 0)), .inr (.inl d)] g (some (.inl (mFile g d).1)) (mFile g d).2 := by
  refine k_enter (by decide) [some (.inr (.inr (0, 0))), some (.inr (.inl d)), none] rfl rfl (Nat.le_of_ble_eq_true rfl) (fun x X => ?_)
  have C := X.1
  have O := X.2.1
  refine k_aload_n C d_M_file_0 rfl rfl ?_
  refine k_iconst C (v := 0) d_M_file_1 (by decide) ?_
  refine k_putI C O d_M_file_2 fp_M_94 mr_0 rfl rfl rfl ?_
  refine k_aload_n C d_M_file_5 rfl rfl ?_
  refine k_getI C O d_M_file_6 fl_M_97 mr_0 rfl rfl rfl ?_
  refine k_bipush C (v := 24) d_M_file_9 (by decide) ?_
  refine k_icmp_ne C (tgt := 16) d_M_file_11 (by decide) (fun c11 => ?_) (fun c11 => ?_)
  · refine k_aload_n C d_M_file_16 rfl rfl ?_
    refine k_getR C O (r := (5, _)) d_M_file_17 fl_M_7 mr_0 rfl rfl rfl rfl ?_
    refine k_aload_n C d_M_file_20 rfl rfl ?_
    refine k_getI C O d_M_file_21 fl_M_97 mr_0 rfl rfl rfl ?_
    refine k_iconst C (v := 1) d_M_file_24 (by decide) ?_
    refine k_zast2 C O d_M_file_25 (Or.inr rfl) mr_5 rfl 1 rfl (in_ne (n := 24) hI.1 rfl (by decide) c11) rfl ?_
    refine k_aload_n C d_M_file_26 rfl rfl ?_
    refine k_getR C O (r := (6, _)) d_M_file_27 fl_M_13 mr_0 rfl rfl rfl rfl ?_
    refine k_aload_n C d_M_file_30 rfl rfl ?_
    refine k_getI C O d_M_file_31 fl_M_97 mr_0 rfl rfl rfl ?_
    refine k_lload_n C d_M_file_34 rfl rfl ?_
    refine k_last2 C O d_M_file_35 mr_6 rfl 2 rfl (in_ne (n := 24) hI.1 rfl (by decide) c11) rfl ?_
    refine k_aload_n C d_M_file_36 rfl rfl ?_
    refine k_getR C O (r := (7, _)) d_M_file_37 fl_M_17 mr_0 rfl rfl rfl rfl ?_
    refine k_aload_n C d_M_file_40 rfl rfl ?_
    refine k_getI C O d_M_file_41 fl_M_97 mr_0 rfl rfl rfl ?_
    refine k_iconst C (v := (-1)) d_M_file_44 (by decide) ?_
    refine k_iast2 C O d_M_file_45 mr_7 rfl 0 rfl (in_ne (n := 24) hI.1 rfl (by decide) c11) rfl ?_
    refine k_aload_n C d_M_file_46 rfl rfl ?_
    refine k_dup C d_M_file_47 rfl ?_
    refine k_getI C O d_M_file_48 fl_M_97 mr_0 rfl rfl rfl ?_
    refine k_iconst C (v := 1) d_M_file_51 (by decide) ?_
    refine k_iadd C d_M_file_52 ?_
    refine k_putI C O d_M_file_53 fp_M_97 mr_0 rfl rfl rfl ?_
    refine k_aload_n C d_M_file_56 rfl rfl ?_
    refine k_getI C O d_M_file_57 fl_M_97 mr_0 rfl rfl rfl ?_
    refine k_iconst C (v := 1) d_M_file_60 (by decide) ?_
    refine k_isub C d_M_file_61 ?_
    exact k_iret X d_M_file_62 (k_pr ((if_neg c11).trans (rfl)))
  · refine k_iconst C (v := (-1)) d_M_file_14 (by decide) ?_
    exact k_iret X d_M_file_15 (k_pr ((if_pos c11).trans (rfl)))

set_option maxHeartbeats 4000000 in
set_option maxRecDepth 100000 in
theorem c_M_change (l : Launch) (b : Nat → Nat → Nat) (dA : Nat → ClassId) (D : va_G) (g : kG) (n t : Int32) (ht : kZ t) (d : Int64) (hI : mI g) : kMd (sysM b dA D) l y_M_change b_M_change 5 (some .boolean) 1 21 [.inr (.inr (0, 0)), .inl n, .inl t, .inr (.inl d)] g (some (.inl (mChange g n t d).1)) (mChange g n t d).2 := by
  refine k_enter (by decide) [some (.inr (.inr (0, 0))), some (.inl n), some (.inl t), some (.inr (.inl d)), none] rfl rfl (Nat.le_of_ble_eq_true rfl) (fun x X => ?_)
  have C := X.1
  have O := X.2.1
  refine k_aload_n C d_M_change_0 rfl rfl ?_
  refine k_iconst C (v := 0) d_M_change_1 (by decide) ?_
  refine k_putI C O d_M_change_2 fp_M_94 mr_0 rfl rfl rfl ?_
  refine k_aload_n C d_M_change_5 rfl rfl ?_
  refine k_iload_n C d_M_change_6 rfl rfl ?_
  refine k_cvI X d_M_change_7 (c_M_isFile l b dA D _ n) cv_M_103 mr_0 rfl rfl ⟨by decide, by decide⟩ rfl rfl (Nat.le_of_ble_eq_true rfl) ?_
  refine k_if_eq C (tgt := 23) d_M_change_10 (by decide) (fun c10 => ?_) (fun c10 => ?_)
  · refine k_iconst C (v := 0) d_M_change_23 (by decide) ?_
    exact k_zret X d_M_change_24 (Or.inl rfl) (k_pr ((if_pos c10).trans (rfl)))
  · refine k_aload_n C d_M_change_13 rfl rfl ?_
    refine k_getR C O (r := (7, _)) d_M_change_14 fl_M_17 mr_0 rfl rfl rfl rfl ?_
    refine k_iload_n C d_M_change_17 rfl rfl ?_
    refine k_iald2 C O d_M_change_18 mr_7 rfl 0 rfl (in_x (n := 24) hI.1 (by decide) c10) rfl ?_
    refine k_iconst C (v := (-1)) d_M_change_19 (by decide) ?_
    refine k_icmp_eq C (tgt := 25) d_M_change_20 (by decide) (fun c20 => ?_) (fun c20 => ?_)
    · refine k_aload_n C d_M_change_25 rfl rfl ?_
      refine k_getR C O (r := (5, _)) d_M_change_26 fl_M_7 mr_0 rfl rfl rfl rfl ?_
      refine k_iload_n C d_M_change_29 rfl rfl ?_
      refine k_iload_n C d_M_change_30 rfl rfl ?_
      refine k_zast2 C O d_M_change_31 ht mr_5 rfl 1 rfl (in_x (n := 24) hI.1 (by decide) c10) rfl ?_
      refine k_aload_n C d_M_change_32 rfl rfl ?_
      refine k_getR C O (r := (6, _)) d_M_change_33 fl_M_13 mr_0 rfl rfl rfl rfl ?_
      refine k_iload_n C d_M_change_36 rfl rfl ?_
      refine k_iload_n C d_M_change_37 rfl rfl ?_
      refine k_if_eq C (tgt := 45) d_M_change_38 (by decide) (fun c38 => ?_) (fun c38 => ?_)
      · refine k_lconst C (v := 0) d_M_change_45 (by decide) ?_
        refine k_last2 C O d_M_change_46 mr_6 rfl 2 rfl (in_x (n := 24) hI.1 (by decide) c10) rfl ?_
        refine k_iconst C (v := 1) d_M_change_47 (by decide) ?_
        exact k_zret X d_M_change_48 (Or.inr rfl) (k_pr ((if_neg c10).trans ((if_pos c20).trans ((if_pos c38).trans (rfl)))))
      · refine k_lload_n C d_M_change_41 rfl rfl ?_
        refine k_goto C (tgt := 46) d_M_change_42 (by decide) ?_
        refine k_last2 C O d_M_change_46 mr_6 rfl 2 rfl (in_x (n := 24) hI.1 (by decide) c10) rfl ?_
        refine k_iconst C (v := 1) d_M_change_47 (by decide) ?_
        exact k_zret X d_M_change_48 (Or.inr rfl) (k_pr ((if_neg c10).trans ((if_pos c20).trans ((if_neg c38).trans (rfl)))))
    · refine k_iconst C (v := 0) d_M_change_23 (by decide) ?_
      exact k_zret X d_M_change_24 (Or.inl rfl) (k_pr ((if_neg c10).trans ((if_neg c20).trans (rfl))))

set_option maxHeartbeats 4000000 in
set_option maxRecDepth 100000 in
theorem c_M_action (l : Launch) (b : Nat → Nat → Nat) (dA : Nat → ClassId) (D : va_G) (g : kG) (al : Int32) (hI : mI g) : kMd (sysM b dA D) l y_M_action b_M_action 2 (some .int) 0 0 [.inr (.inr (0, 0)), .inl al] g (some (.inl (mAction g al).1)) (mAction g al).2 := by
  refine k_enter (by decide) [some (.inr (.inr (0, 0))), some (.inl al)] rfl rfl (Nat.le_of_ble_eq_true rfl) (fun x X => ?_)
  have C := X.1
  have O := X.2.1
  refine k_aload_n C d_M_action_0 rfl rfl ?_
  refine k_iconst C (v := 0) d_M_action_1 (by decide) ?_
  refine k_putI C O d_M_action_2 fp_M_94 mr_0 rfl rfl rfl ?_
  refine k_aload_n C d_M_action_5 rfl rfl ?_
  refine k_getI C O d_M_action_6 fl_M_100 mr_0 rfl rfl rfl ?_
  refine k_bipush C (v := 12) d_M_action_9 (by decide) ?_
  refine k_icmp_ne C (tgt := 16) d_M_action_11 (by decide) (fun c11 => ?_) (fun c11 => ?_)
  · refine k_aload_n C d_M_action_16 rfl rfl ?_
    refine k_getR C O (r := (8, _)) d_M_action_17 fl_M_21 mr_0 rfl rfl rfl rfl ?_
    refine k_aload_n C d_M_action_20 rfl rfl ?_
    refine k_getI C O d_M_action_21 fl_M_100 mr_0 rfl rfl rfl ?_
    refine k_iload_n C d_M_action_24 rfl rfl ?_
    refine k_iast2 C O d_M_action_25 mr_8 rfl 0 rfl (in_ne (n := 12) hI.2.1 rfl (by decide) c11) rfl ?_
    refine k_aload_n C d_M_action_26 rfl rfl ?_
    refine k_getR C O (r := (9, _)) d_M_action_27 fl_M_24 mr_0 rfl rfl rfl rfl ?_
    refine k_aload_n C d_M_action_30 rfl rfl ?_
    refine k_getI C O d_M_action_31 fl_M_100 mr_0 rfl rfl rfl ?_
    refine k_iconst C (v := (-1)) d_M_action_34 (by decide) ?_
    refine k_iast2 C O d_M_action_35 mr_9 rfl 0 rfl (in_ne (n := 12) hI.2.1 rfl (by decide) c11) rfl ?_
    refine k_aload_n C d_M_action_36 rfl rfl ?_
    refine k_getR C O (r := (13, _)) d_M_action_37 fl_M_36 mr_0 rfl rfl rfl rfl ?_
    refine k_aload_n C d_M_action_40 rfl rfl ?_
    refine k_getI C O d_M_action_41 fl_M_100 mr_0 rfl rfl rfl ?_
    refine k_iconst C (v := 2) d_M_action_44 (by decide) ?_
    refine k_iast2 C O d_M_action_45 mr_13 rfl 0 rfl (in_ne (n := 12) hI.2.1 rfl (by decide) c11) rfl ?_
    refine k_aload_n C d_M_action_46 rfl rfl ?_
    refine k_getR C O (r := (19, _)) d_M_action_47 fl_M_54 mr_0 rfl rfl rfl rfl ?_
    refine k_aload_n C d_M_action_50 rfl rfl ?_
    refine k_getI C O d_M_action_51 fl_M_100 mr_0 rfl rfl rfl ?_
    refine k_iconst C (v := (-1)) d_M_action_54 (by decide) ?_
    refine k_iast2 C O d_M_action_55 mr_19 rfl 0 rfl (in_ne (n := 12) hI.2.1 rfl (by decide) c11) rfl ?_
    refine k_aload_n C d_M_action_56 rfl rfl ?_
    refine k_dup C d_M_action_57 rfl ?_
    refine k_getI C O d_M_action_58 fl_M_100 mr_0 rfl rfl rfl ?_
    refine k_iconst C (v := 1) d_M_action_61 (by decide) ?_
    refine k_iadd C d_M_action_62 ?_
    refine k_putI C O d_M_action_63 fp_M_100 mr_0 rfl rfl rfl ?_
    refine k_aload_n C d_M_action_66 rfl rfl ?_
    refine k_getI C O d_M_action_67 fl_M_100 mr_0 rfl rfl rfl ?_
    refine k_iconst C (v := 1) d_M_action_70 (by decide) ?_
    refine k_isub C d_M_action_71 ?_
    exact k_iret X d_M_action_72 (k_pr ((if_neg c11).trans (rfl)))
  · refine k_iconst C (v := (-1)) d_M_action_14 (by decide) ?_
    exact k_iret X d_M_action_15 (k_pr ((if_pos c11).trans (rfl)))

set_option maxHeartbeats 4000000 in
set_option maxRecDepth 100000 in
theorem c_M_makes (l : Launch) (b : Nat → Nat → Nat) (dA : Nat → ClassId) (D : va_G) (g : kG) (n f : Int32) (hI : mI g) : kMd (sysM b dA D) l y_M_makes b_M_makes 3 (some .boolean) 1 21 [.inr (.inr (0, 0)), .inl n, .inl f] g (some (.inl (mMakes g n f).1)) (mMakes g n f).2 := by
  refine k_enter (by decide) [some (.inr (.inr (0, 0))), some (.inl n), some (.inl f)] rfl rfl (Nat.le_of_ble_eq_true rfl) (fun x X => ?_)
  have C := X.1
  have O := X.2.1
  refine k_aload_n C d_M_makes_0 rfl rfl ?_
  refine k_iconst C (v := 0) d_M_makes_1 (by decide) ?_
  refine k_putI C O d_M_makes_2 fp_M_94 mr_0 rfl rfl rfl ?_
  refine k_aload_n C d_M_makes_5 rfl rfl ?_
  refine k_iload_n C d_M_makes_6 rfl rfl ?_
  refine k_cvI X d_M_makes_7 (c_M_isAction l b dA D _ n) cv_M_107 mr_0 rfl rfl ⟨by decide, by decide⟩ rfl rfl (Nat.le_of_ble_eq_true rfl) ?_
  refine k_if_eq C (tgt := 41) d_M_makes_10 (by decide) (fun c10 => ?_) (fun c10 => ?_)
  · refine k_iconst C (v := 0) d_M_makes_41 (by decide) ?_
    exact k_zret X d_M_makes_42 (Or.inl rfl) (k_pr ((if_pos c10).trans (rfl)))
  · refine k_aload_n C d_M_makes_13 rfl rfl ?_
    refine k_iload_n C d_M_makes_14 rfl rfl ?_
    refine k_cvI X d_M_makes_15 (c_M_isFile l b dA D _ f) cv_M_103 mr_0 rfl rfl ⟨by decide, by decide⟩ rfl rfl (Nat.le_of_ble_eq_true rfl) ?_
    refine k_if_eq C (tgt := 41) d_M_makes_18 (by decide) (fun c18 => ?_) (fun c18 => ?_)
    · refine k_iconst C (v := 0) d_M_makes_41 (by decide) ?_
      exact k_zret X d_M_makes_42 (Or.inl rfl) (k_pr ((if_neg c10).trans ((if_pos c18).trans (rfl))))
    · refine k_aload_n C d_M_makes_21 rfl rfl ?_
      refine k_getR C O (r := (9, _)) d_M_makes_22 fl_M_24 mr_0 rfl rfl rfl rfl ?_
      refine k_iload_n C d_M_makes_25 rfl rfl ?_
      refine k_iald2 C O d_M_makes_26 mr_9 rfl 0 rfl (in_x (n := 12) hI.2.1 (by decide) c10) rfl ?_
      refine k_iconst C (v := (-1)) d_M_makes_27 (by decide) ?_
      refine k_icmp_ne C (tgt := 41) d_M_makes_28 (by decide) (fun c28 => ?_) (fun c28 => ?_)
      · refine k_iconst C (v := 0) d_M_makes_41 (by decide) ?_
        exact k_zret X d_M_makes_42 (Or.inl rfl) (k_pr ((if_neg c10).trans ((if_neg c18).trans ((if_neg c28).trans (rfl)))))
      · refine k_aload_n C d_M_makes_31 rfl rfl ?_
        refine k_getR C O (r := (7, _)) d_M_makes_32 fl_M_17 mr_0 rfl rfl rfl rfl ?_
        refine k_iload_n C d_M_makes_35 rfl rfl ?_
        refine k_iald2 C O d_M_makes_36 mr_7 rfl 0 rfl (in_x (n := 24) hI.1 (by decide) c18) rfl ?_
        refine k_iconst C (v := (-1)) d_M_makes_37 (by decide) ?_
        refine k_icmp_eq C (tgt := 43) d_M_makes_38 (by decide) (fun c38 => ?_) (fun c38 => ?_)
        · refine k_aload_n C d_M_makes_43 rfl rfl ?_
          refine k_getR C O (r := (9, _)) d_M_makes_44 fl_M_24 mr_0 rfl rfl rfl rfl ?_
          refine k_iload_n C d_M_makes_47 rfl rfl ?_
          refine k_iload_n C d_M_makes_48 rfl rfl ?_
          refine k_iast2 C O d_M_makes_49 mr_9 rfl 0 rfl (in_x (n := 12) hI.2.1 (by decide) c10) rfl ?_
          refine k_aload_n C d_M_makes_50 rfl rfl ?_
          refine k_getR C O (r := (7, _)) d_M_makes_51 fl_M_17 mr_0 rfl rfl rfl rfl ?_
          refine k_iload_n C d_M_makes_54 rfl rfl ?_
          refine k_iload_n C d_M_makes_55 rfl rfl ?_
          refine k_iast2 C O d_M_makes_56 mr_7 rfl 0 rfl (in_x (n := 24) hI.1 (by decide) c18) rfl ?_
          refine k_aload_n C d_M_makes_57 rfl rfl ?_
          refine k_getR C O (r := (5, _)) d_M_makes_58 fl_M_7 mr_0 rfl rfl rfl rfl ?_
          refine k_iload_n C d_M_makes_61 rfl rfl ?_
          refine k_iconst C (v := 0) d_M_makes_62 (by decide) ?_
          refine k_zast2 C O d_M_makes_63 (Or.inl rfl) mr_5 rfl 1 rfl (in_x (n := 24) hI.1 (by decide) c18) rfl ?_
          refine k_aload_n C d_M_makes_64 rfl rfl ?_
          refine k_getR C O (r := (6, _)) d_M_makes_65 fl_M_13 mr_0 rfl rfl rfl rfl ?_
          refine k_iload_n C d_M_makes_68 rfl rfl ?_
          refine k_lconst C (v := 0) d_M_makes_69 (by decide) ?_
          refine k_last2 C O d_M_makes_70 mr_6 rfl 2 rfl (in_x (n := 24) hI.1 (by decide) c18) rfl ?_
          refine k_aload_n C d_M_makes_71 rfl rfl ?_
          refine k_iload_n C d_M_makes_72 rfl rfl ?_
          refine k_cvV X d_M_makes_73 (c_M_forget l b dA D _ n (in_x (n := 12) hI.2.1 (by decide) c10)) cv_M_110 mr_0 rfl rfl ⟨by decide, by decide⟩ rfl rfl (Nat.le_of_ble_eq_true rfl) ?_
          refine k_iconst C (v := 1) d_M_makes_76 (by decide) ?_
          exact k_zret X d_M_makes_77 (Or.inr rfl) (k_pr ((if_neg c10).trans ((if_neg c18).trans ((if_pos c28).trans ((if_pos c38).trans (rfl))))))
        · refine k_iconst C (v := 0) d_M_makes_41 (by decide) ?_
          exact k_zret X d_M_makes_42 (Or.inl rfl) (k_pr ((if_neg c10).trans ((if_neg c18).trans ((if_pos c28).trans ((if_neg c38).trans (rfl))))))

set_option maxHeartbeats 4000000 in
set_option maxRecDepth 100000 in
theorem c_M_ring (l : Launch) (b : Nat → Nat → Nat) (dA : Nat → ClassId) (D : va_G) (g : kG) (i : Int32) (hI : mI g) : kMd (sysM b dA D) l y_M_ring b_M_ring 2 (some .int) 0 0 [.inr (.inr (0, 0)), .inl i] g (some (.inl (mRing g i))) (m0 g) := by
  refine k_enter (by decide) [some (.inr (.inr (0, 0))), some (.inl i)] rfl rfl (Nat.le_of_ble_eq_true rfl) (fun x X => ?_)
  have C := X.1
  have O := X.2.1
  refine k_aload_n C d_M_ring_0 rfl rfl ?_
  refine k_iconst C (v := 0) d_M_ring_1 (by decide) ?_
  refine k_putI C O d_M_ring_2 fp_M_94 mr_0 rfl rfl rfl ?_
  refine k_iload_n C d_M_ring_5 rfl rfl ?_
  refine k_if_lt C (tgt := 17) d_M_ring_6 (by decide) (fun c6 => ?_) (fun c6 => ?_)
  · refine k_iconst C (v := (-1)) d_M_ring_17 (by decide) ?_
    refine k_goto C (tgt := 27) d_M_ring_18 (by decide) ?_
    exact k_iret X d_M_ring_27 (k_pi ((if_pos c6).trans (rfl)))
  · refine k_iload_n C d_M_ring_9 rfl rfl ?_
    refine k_aload_n C d_M_ring_10 rfl rfl ?_
    refine k_getI C O d_M_ring_11 fl_M_151 mr_0 rfl rfl rfl ?_
    refine k_icmp_lt C (tgt := 21) d_M_ring_14 (by decide) (fun c14 => ?_) (fun c14 => ?_)
    · refine k_aload_n C d_M_ring_21 rfl rfl ?_
      refine k_getR C O (r := (24, _)) d_M_ring_22 fl_M_69 mr_0 rfl rfl rfl rfl ?_
      refine k_iload_n C d_M_ring_25 rfl rfl ?_
      refine k_iald2 C O d_M_ring_26 mr_24 rfl 0 rfl (in_v (n := 12) hI.2.2.2.2.2.2 (by decide) c6 (fun q3 => absurd c14 (Int32.not_lt.mpr q3))) rfl ?_
      exact k_iret X d_M_ring_27 (k_pi ((if_neg c6).trans ((if_pos c14).trans (rfl))))
    · refine k_iconst C (v := (-1)) d_M_ring_17 (by decide) ?_
      refine k_goto C (tgt := 27) d_M_ring_18 (by decide) ?_
      exact k_iret X d_M_ring_27 (k_pi ((if_neg c6).trans ((if_neg c14).trans (rfl))))

set_option maxHeartbeats 4000000 in
set_option maxRecDepth 100000 in
theorem c_M_waits (l : Launch) (b : Nat → Nat → Nat) (dA : Nat → ClassId) (D : va_G) (g : kG) (n : Int32) (hI : mI g) : kMd (sysM b dA D) l y_M_waits b_M_waits 2 (some .int) 1 21 [.inr (.inr (0, 0)), .inl n] g (some (.inl (mWaits g n))) (m0 g) := by
  refine k_enter (by decide) [some (.inr (.inr (0, 0))), some (.inl n)] rfl rfl (Nat.le_of_ble_eq_true rfl) (fun x X => ?_)
  have C := X.1
  have O := X.2.1
  refine k_aload_n C d_M_waits_0 rfl rfl ?_
  refine k_iconst C (v := 0) d_M_waits_1 (by decide) ?_
  refine k_putI C O d_M_waits_2 fp_M_94 mr_0 rfl rfl rfl ?_
  refine k_aload_n C d_M_waits_5 rfl rfl ?_
  refine k_iload_n C d_M_waits_6 rfl rfl ?_
  refine k_cvI X d_M_waits_7 (c_M_isAction l b dA D _ n) cv_M_107 mr_0 rfl rfl ⟨by decide, by decide⟩ rfl rfl (Nat.le_of_ble_eq_true rfl) ?_
  refine k_if_eq C (tgt := 22) d_M_waits_10 (by decide) (fun c10 => ?_) (fun c10 => ?_)
  · refine k_iconst C (v := (-1)) d_M_waits_22 (by decide) ?_
    exact k_iret X d_M_waits_23 (k_pi ((if_pos c10).trans (rfl)))
  · refine k_aload_n C d_M_waits_13 rfl rfl ?_
    refine k_getR C O (r := (19, _)) d_M_waits_14 fl_M_54 mr_0 rfl rfl rfl rfl ?_
    refine k_iload_n C d_M_waits_17 rfl rfl ?_
    refine k_iald2 C O d_M_waits_18 mr_19 rfl 0 rfl (in_x (n := 12) hI.2.1 (by decide) c10) rfl ?_
    refine k_goto C (tgt := 23) d_M_waits_19 (by decide) ?_
    exact k_iret X d_M_waits_23 (k_pi ((if_neg c10).trans (rfl)))

set_option maxHeartbeats 4000000 in
set_option maxRecDepth 100000 in
theorem c_M_digest (l : Launch) (b : Nat → Nat → Nat) (dA : Nat → ClassId) (D : va_G) (g : kG) (n : Int32) (hI : mI g) : kMd (sysM b dA D) l y_M_digest b_M_digest 2 (some .long) 1 21 [.inr (.inr (0, 0)), .inl n] g (some (.inr (.inl (mDigest g n)))) (m0 g) := by
  refine k_enter (by decide) [some (.inr (.inr (0, 0))), some (.inl n)] rfl rfl (Nat.le_of_ble_eq_true rfl) (fun x X => ?_)
  have C := X.1
  have O := X.2.1
  refine k_aload_n C d_M_digest_0 rfl rfl ?_
  refine k_iconst C (v := 0) d_M_digest_1 (by decide) ?_
  refine k_putI C O d_M_digest_2 fp_M_94 mr_0 rfl rfl rfl ?_
  refine k_aload_n C d_M_digest_5 rfl rfl ?_
  refine k_iload_n C d_M_digest_6 rfl rfl ?_
  refine k_cvI X d_M_digest_7 (c_M_isFile l b dA D _ n) cv_M_103 mr_0 rfl rfl ⟨by decide, by decide⟩ rfl rfl (Nat.le_of_ble_eq_true rfl) ?_
  refine k_if_eq C (tgt := 31) d_M_digest_10 (by decide) (fun c10 => ?_) (fun c10 => ?_)
  · refine k_lconst C (v := 0) d_M_digest_31 (by decide) ?_
    exact k_lret X d_M_digest_32 (k_pl ((if_pos c10).trans (rfl)))
  · refine k_aload_n C d_M_digest_13 rfl rfl ?_
    refine k_getR C O (r := (5, _)) d_M_digest_14 fl_M_7 mr_0 rfl rfl rfl rfl ?_
    refine k_iload_n C d_M_digest_17 rfl rfl ?_
    refine k_zald2 C O d_M_digest_18 mr_5 rfl 1 rfl (in_x (n := 24) hI.1 (by decide) c10) rfl ?_
    refine k_if_eq C (tgt := 31) d_M_digest_19 (by decide) (fun c19 => ?_) (fun c19 => ?_)
    · refine k_lconst C (v := 0) d_M_digest_31 (by decide) ?_
      exact k_lret X d_M_digest_32 (k_pl ((if_neg c10).trans ((if_pos c19).trans (rfl))))
    · refine k_aload_n C d_M_digest_22 rfl rfl ?_
      refine k_getR C O (r := (6, _)) d_M_digest_23 fl_M_13 mr_0 rfl rfl rfl rfl ?_
      refine k_iload_n C d_M_digest_26 rfl rfl ?_
      refine k_lald2 C O d_M_digest_27 mr_6 rfl 2 rfl (in_x (n := 24) hI.1 (by decide) c10) rfl ?_
      refine k_goto C (tgt := 32) d_M_digest_28 (by decide) ?_
      exact k_lret X d_M_digest_32 (k_pl ((if_neg c10).trans ((if_neg c19).trans (rfl))))

set_option maxHeartbeats 4000000 in
set_option maxRecDepth 100000 in
theorem c_M_counted (l : Launch) (b : Nat → Nat → Nat) (dA : Nat → ClassId) (D : va_G) (g : kG) (n w : Int32) (hI : mI g) : kMd (sysM b dA D) l y_M_counted b_M_counted 3 (some .int) 1 21 [.inr (.inr (0, 0)), .inl n, .inl w] g (some (.inl (mCounted g n w))) (m0 g) := by
  refine k_enter (by decide) [some (.inr (.inr (0, 0))), some (.inl n), some (.inl w)] rfl rfl (Nat.le_of_ble_eq_true rfl) (fun x X => ?_)
  have C := X.1
  have O := X.2.1
  refine k_aload_n C d_M_counted_0 rfl rfl ?_
  refine k_iconst C (v := 0) d_M_counted_1 (by decide) ?_
  refine k_putI C O d_M_counted_2 fp_M_94 mr_0 rfl rfl rfl ?_
  refine k_aload_n C d_M_counted_5 rfl rfl ?_
  refine k_iload_n C d_M_counted_6 rfl rfl ?_
  refine k_cvI X d_M_counted_7 (c_M_isAction l b dA D _ n) cv_M_107 mr_0 rfl rfl ⟨by decide, by decide⟩ rfl rfl (Nat.le_of_ble_eq_true rfl) ?_
  refine k_if_ne C (tgt := 15) d_M_counted_10 (by decide) (fun c10 => ?_) (fun c10 => ?_)
  · refine k_iload_n C d_M_counted_15 rfl rfl ?_
    refine k_if_ne C (tgt := 28) d_M_counted_16 (by decide) (fun c16 => ?_) (fun c16 => ?_)
    · refine k_iload_n C d_M_counted_28 rfl rfl ?_
      refine k_iconst C (v := 1) d_M_counted_29 (by decide) ?_
      refine k_icmp_ne C (tgt := 42) d_M_counted_30 (by decide) (fun c30 => ?_) (fun c30 => ?_)
      · refine k_iload_n C d_M_counted_42 rfl rfl ?_
        refine k_iconst C (v := 2) d_M_counted_43 (by decide) ?_
        refine k_icmp_ne C (tgt := 56) d_M_counted_44 (by decide) (fun c44 => ?_) (fun c44 => ?_)
        · refine k_iconst C (v := (-1)) d_M_counted_56 (by decide) ?_
          exact k_iret X d_M_counted_57 (k_pi ((if_neg c10).trans ((if_neg c16).trans ((if_neg c30).trans ((if_neg c44).trans (rfl))))))
        · refine k_aload_n C d_M_counted_47 rfl rfl ?_
          refine k_getR C O (r := (18, _)) d_M_counted_48 fl_M_51 mr_0 rfl rfl rfl rfl ?_
          refine k_iload_n C d_M_counted_51 rfl rfl ?_
          refine k_iald2 C O d_M_counted_52 mr_18 rfl 0 rfl (in_x (n := 12) hI.2.1 (by decide) c10) rfl ?_
          refine k_goto C (tgt := 57) d_M_counted_53 (by decide) ?_
          exact k_iret X d_M_counted_57 (k_pi ((if_neg c10).trans ((if_neg c16).trans ((if_neg c30).trans ((if_pos c44).trans (rfl))))))
      · refine k_aload_n C d_M_counted_33 rfl rfl ?_
        refine k_getR C O (r := (17, _)) d_M_counted_34 fl_M_48 mr_0 rfl rfl rfl rfl ?_
        refine k_iload_n C d_M_counted_37 rfl rfl ?_
        refine k_iald2 C O d_M_counted_38 mr_17 rfl 0 rfl (in_x (n := 12) hI.2.1 (by decide) c10) rfl ?_
        refine k_goto C (tgt := 57) d_M_counted_39 (by decide) ?_
        exact k_iret X d_M_counted_57 (k_pi ((if_neg c10).trans ((if_neg c16).trans ((if_pos c30).trans (rfl)))))
    · refine k_aload_n C d_M_counted_19 rfl rfl ?_
      refine k_getR C O (r := (16, _)) d_M_counted_20 fl_M_45 mr_0 rfl rfl rfl rfl ?_
      refine k_iload_n C d_M_counted_23 rfl rfl ?_
      refine k_iald2 C O d_M_counted_24 mr_16 rfl 0 rfl (in_x (n := 12) hI.2.1 (by decide) c10) rfl ?_
      refine k_goto C (tgt := 57) d_M_counted_25 (by decide) ?_
      exact k_iret X d_M_counted_57 (k_pi ((if_neg c10).trans ((if_pos c16).trans (rfl))))
  · refine k_iconst C (v := (-1)) d_M_counted_13 (by decide) ?_
    exact k_iret X d_M_counted_14 (k_pi ((if_pos c10).trans (rfl)))

set_option maxHeartbeats 4000000 in
set_option maxRecDepth 100000 in
theorem c_M_membersOf (l : Launch) (b : Nat → Nat → Nat) (dA : Nat → ClassId) (D : va_G) (g : kG) (n : Int32) (hn : vp_in n 24) : kMd (sysM b dA D) l y_M_membersOf b_M_membersOf 3 (some .int) 0 0 [.inr (.inr (0, 0)), .inl n] g (some (.inl (mMof g (tn n)))) g := by
  refine k_enter (by decide) [some (.inr (.inr (0, 0))), some (.inl n), none] rfl rfl (Nat.le_of_ble_eq_true rfl) (fun x X => ?_)
  have C := X.1
  have O := X.2.1
  refine k_aload_n C d_M_membersOf_0 rfl rfl ?_
  refine k_getR C O (r := (7, _)) d_M_membersOf_1 fl_M_17 mr_0 rfl rfl rfl rfl ?_
  refine k_iload_n C d_M_membersOf_4 rfl rfl ?_
  refine k_iald2 C O d_M_membersOf_5 mr_7 rfl 0 rfl hn rfl ?_
  refine k_iconst C (v := (-1)) d_M_membersOf_6 (by decide) ?_
  refine k_icmp_eq C (tgt := 19) d_M_membersOf_7 (by decide) (fun c7 => ?_) (fun c7 => ?_)
  · refine k_iconst C (v := 0) d_M_membersOf_19 (by decide) ?_
    exact k_iret X d_M_membersOf_20 (k_pi ((if_pos c7).trans (rfl)))
  · refine k_aload_n C d_M_membersOf_10 rfl rfl ?_
    refine k_getR C O (r := (5, _)) d_M_membersOf_11 fl_M_7 mr_0 rfl rfl rfl rfl ?_
    refine k_iload_n C d_M_membersOf_14 rfl rfl ?_
    refine k_zald2 C O d_M_membersOf_15 mr_5 rfl 1 rfl hn rfl ?_
    refine k_if_ne C (tgt := 21) d_M_membersOf_16 (by decide) (fun c16 => ?_) (fun c16 => ?_)
    · refine k_aload_n C d_M_membersOf_21 rfl rfl ?_
      refine k_getR C O (r := (6, _)) d_M_membersOf_22 fl_M_13 mr_0 rfl rfl rfl rfl ?_
      refine k_iload_n C d_M_membersOf_25 rfl rfl ?_
      refine k_lald2 C O d_M_membersOf_26 mr_6 rfl 2 rfl hn rfl ?_
      refine k_ldc2 C (v := 5) d_M_membersOf_27 (by decide +kernel) ?_
      refine k_lrem C d_M_membersOf_30 (by decide) ?_
      refine k_l2i C d_M_membersOf_31 ?_
      refine k_istore_n C d_M_membersOf_32 rfl (Nat.le_of_ble_eq_true rfl) rfl ?_
      refine k_iload_n C d_M_membersOf_33 rfl rfl ?_
      refine k_if_ge C (tgt := 43) d_M_membersOf_34 (by decide) (fun c34 => ?_) (fun c34 => ?_)
      · refine k_iload_n C d_M_membersOf_43 rfl rfl ?_
        exact k_iret X d_M_membersOf_44 (k_pi ((if_neg c7).trans ((if_neg c16).trans ((if_pos c34).trans (rfl)))))
      · refine k_iload_n C d_M_membersOf_37 rfl rfl ?_
        refine k_iconst C (v := 5) d_M_membersOf_38 (by decide) ?_
        refine k_iadd C d_M_membersOf_39 ?_
        refine k_goto C (tgt := 44) d_M_membersOf_40 (by decide) ?_
        exact k_iret X d_M_membersOf_44 (k_pi ((if_neg c7).trans ((if_neg c16).trans ((if_neg c34).trans (rfl)))))
    · refine k_iconst C (v := 0) d_M_membersOf_19 (by decide) ?_
      exact k_iret X d_M_membersOf_20 (k_pi ((if_neg c7).trans ((if_pos c16).trans (rfl))))

set_option maxHeartbeats 4000000 in
set_option maxRecDepth 100000 in
theorem c_M_members (l : Launch) (b : Nat → Nat → Nat) (dA : Nat → ClassId) (D : va_G) (g : kG) (n : Int32) (hI : mI g) : kMd (sysM b dA D) l y_M_members b_M_members 2 (some .int) 1 22 [.inr (.inr (0, 0)), .inl n] g (some (.inl (mMembers g n))) (m0 g) := by
  refine k_enter (by decide) [some (.inr (.inr (0, 0))), some (.inl n)] rfl rfl (Nat.le_of_ble_eq_true rfl) (fun x X => ?_)
  have C := X.1
  have O := X.2.1
  refine k_aload_n C d_M_members_0 rfl rfl ?_
  refine k_iconst C (v := 0) d_M_members_1 (by decide) ?_
  refine k_putI C O d_M_members_2 fp_M_94 mr_0 rfl rfl rfl ?_
  refine k_aload_n C d_M_members_5 rfl rfl ?_
  refine k_iload_n C d_M_members_6 rfl rfl ?_
  refine k_cvI X d_M_members_7 (c_M_isFile l b dA D _ n) cv_M_103 mr_0 rfl rfl ⟨by decide, by decide⟩ rfl rfl (Nat.le_of_ble_eq_true rfl) ?_
  refine k_if_eq C (tgt := 21) d_M_members_10 (by decide) (fun c10 => ?_) (fun c10 => ?_)
  · refine k_iconst C (v := 0) d_M_members_21 (by decide) ?_
    exact k_iret X d_M_members_22 (k_pi ((if_pos c10).trans (rfl)))
  · refine k_aload_n C d_M_members_13 rfl rfl ?_
    refine k_iload_n C d_M_members_14 rfl rfl ?_
    refine k_cvI X d_M_members_15 (c_M_membersOf l b dA D _ n (in_x (n := 24) hI.1 (by decide) c10)) cv_M_160 mr_0 rfl rfl ⟨by decide, by decide⟩ rfl rfl (Nat.le_of_ble_eq_true rfl) ?_
    refine k_goto C (tgt := 22) d_M_members_18 (by decide) ?_
    exact k_iret X d_M_members_22 (k_pi ((if_neg c10).trans (rfl)))

set_option maxHeartbeats 4000000 in
set_option maxRecDepth 100000 in
theorem c_M_mapping (l : Launch) (b : Nat → Nat → Nat) (dA : Nat → ClassId) (D : va_G) (g : kG) (n : Int32) (s : Int64) (hI : mI g) : kMd (sysM b dA D) l y_M_mapping b_M_mapping 4 (some .int) 1 21 [.inr (.inr (0, 0)), .inl n, .inr (.inl s)] g (some (.inl (mMapping g n s).1)) (mMapping g n s).2 := by
  refine k_enter (by decide) [some (.inr (.inr (0, 0))), some (.inl n), some (.inr (.inl s)), none] rfl rfl (Nat.le_of_ble_eq_true rfl) (fun x X => ?_)
  have C := X.1
  have O := X.2.1
  refine k_aload_n C d_M_mapping_0 rfl rfl ?_
  refine k_iconst C (v := 0) d_M_mapping_1 (by decide) ?_
  refine k_putI C O d_M_mapping_2 fp_M_94 mr_0 rfl rfl rfl ?_
  refine k_aload_n C d_M_mapping_5 rfl rfl ?_
  refine k_iload_n C d_M_mapping_6 rfl rfl ?_
  refine k_cvI X d_M_mapping_7 (c_M_isFile l b dA D _ n) cv_M_103 mr_0 rfl rfl ⟨by decide, by decide⟩ rfl rfl (Nat.le_of_ble_eq_true rfl) ?_
  refine k_if_eq C (tgt := 22) d_M_mapping_10 (by decide) (fun c10 => ?_) (fun c10 => ?_)
  · refine k_iconst C (v := (-1)) d_M_mapping_22 (by decide) ?_
    exact k_iret X d_M_mapping_23 (k_pr ((if_pos c10).trans (rfl)))
  · refine k_aload_n C d_M_mapping_13 rfl rfl ?_
    refine k_getI C O d_M_mapping_14 fl_M_163 mr_0 rfl rfl rfl ?_
    refine k_bipush C (v := 6) d_M_mapping_17 (by decide) ?_
    refine k_icmp_ne C (tgt := 24) d_M_mapping_19 (by decide) (fun c19 => ?_) (fun c19 => ?_)
    · refine k_aload_n C d_M_mapping_24 rfl rfl ?_
      refine k_getR C O (r := (27, _)) d_M_mapping_25 fl_M_75 mr_0 rfl rfl rfl rfl ?_
      refine k_aload_n C d_M_mapping_28 rfl rfl ?_
      refine k_getI C O d_M_mapping_29 fl_M_163 mr_0 rfl rfl rfl ?_
      refine k_iload_n C d_M_mapping_32 rfl rfl ?_
      refine k_iast2 C O d_M_mapping_33 mr_27 rfl 0 rfl (in_ne (n := 6) hI.2.2.1 rfl (by decide) c19) rfl ?_
      refine k_aload_n C d_M_mapping_34 rfl rfl ?_
      refine k_getR C O (r := (29, _)) d_M_mapping_35 fl_M_81 mr_0 rfl rfl rfl rfl ?_
      refine k_aload_n C d_M_mapping_38 rfl rfl ?_
      refine k_getI C O d_M_mapping_39 fl_M_163 mr_0 rfl rfl rfl ?_
      refine k_lload_n C d_M_mapping_42 rfl rfl ?_
      refine k_last2 C O d_M_mapping_43 mr_29 rfl 2 rfl (in_ne (n := 6) hI.2.2.1 rfl (by decide) c19) rfl ?_
      refine k_aload_n C d_M_mapping_44 rfl rfl ?_
      refine k_dup C d_M_mapping_45 rfl ?_
      refine k_getI C O d_M_mapping_46 fl_M_163 mr_0 rfl rfl rfl ?_
      refine k_iconst C (v := 1) d_M_mapping_49 (by decide) ?_
      refine k_iadd C d_M_mapping_50 ?_
      refine k_putI C O d_M_mapping_51 fp_M_163 mr_0 rfl rfl rfl ?_
      refine k_aload_n C d_M_mapping_54 rfl rfl ?_
      refine k_getI C O d_M_mapping_55 fl_M_163 mr_0 rfl rfl rfl ?_
      refine k_iconst C (v := 1) d_M_mapping_58 (by decide) ?_
      refine k_isub C d_M_mapping_59 ?_
      exact k_iret X d_M_mapping_60 (k_pr ((if_neg c10).trans ((if_neg c19).trans (rfl))))
    · refine k_iconst C (v := (-1)) d_M_mapping_22 (by decide) ?_
      exact k_iret X d_M_mapping_23 (k_pr ((if_neg c10).trans ((if_pos c19).trans (rfl))))

set_option maxHeartbeats 4000000 in
set_option maxRecDepth 100000 in
theorem c_M_kept (l : Launch) (b : Nat → Nat → Nat) (dA : Nat → ClassId) (D : va_G) (g : kG) (n i w : Int32) (hI : mI g) : kMd (sysM b dA D) l y_M_kept b_M_kept 5 (some .int) 1 21 [.inr (.inr (0, 0)), .inl n, .inl i, .inl w] g (some (.inl (mKept g n i w))) (m0 g) := by
  refine k_enter (by decide) [some (.inr (.inr (0, 0))), some (.inl n), some (.inl i), some (.inl w), none] rfl rfl (Nat.le_of_ble_eq_true rfl) (fun x X => ?_)
  have C := X.1
  have O := X.2.1
  refine k_aload_n C d_M_kept_0 rfl rfl ?_
  refine k_iconst C (v := 0) d_M_kept_1 (by decide) ?_
  refine k_putI C O d_M_kept_2 fp_M_94 mr_0 rfl rfl rfl ?_
  refine k_aload_n C d_M_kept_5 rfl rfl ?_
  refine k_iload_n C d_M_kept_6 rfl rfl ?_
  refine k_cvI X d_M_kept_7 (c_M_isAction l b dA D _ n) cv_M_107 mr_0 rfl rfl ⟨by decide, by decide⟩ rfl rfl (Nat.le_of_ble_eq_true rfl) ?_
  refine k_if_eq C (tgt := 37) d_M_kept_10 (by decide) (fun c10 => ?_) (fun c10 => ?_)
  · refine k_iconst C (v := (-1)) d_M_kept_37 (by decide) ?_
    exact k_iret X d_M_kept_38 (k_pi ((if_pos c10).trans (rfl)))
  · refine k_aload_n C d_M_kept_13 rfl rfl ?_
    refine k_getR C O (r := (13, _)) d_M_kept_14 fl_M_36 mr_0 rfl rfl rfl rfl ?_
    refine k_iload_n C d_M_kept_17 rfl rfl ?_
    refine k_iald2 C O d_M_kept_18 mr_13 rfl 0 rfl (in_x (n := 12) hI.2.1 (by decide) c10) rfl ?_
    refine k_iconst C (v := 2) d_M_kept_19 (by decide) ?_
    refine k_icmp_eq C (tgt := 37) d_M_kept_20 (by decide) (fun c20 => ?_) (fun c20 => ?_)
    · refine k_iconst C (v := (-1)) d_M_kept_37 (by decide) ?_
      exact k_iret X d_M_kept_38 (k_pi ((if_neg c10).trans ((if_pos c20).trans (rfl))))
    · refine k_iload_n C d_M_kept_23 rfl rfl ?_
      refine k_if_lt C (tgt := 37) d_M_kept_24 (by decide) (fun c24 => ?_) (fun c24 => ?_)
      · refine k_iconst C (v := (-1)) d_M_kept_37 (by decide) ?_
        exact k_iret X d_M_kept_38 (k_pi ((if_neg c10).trans ((if_neg c20).trans ((if_pos c24).trans (rfl)))))
      · refine k_iload_n C d_M_kept_27 rfl rfl ?_
        refine k_aload_n C d_M_kept_28 rfl rfl ?_
        refine k_getR C O (r := (14, _)) d_M_kept_29 fl_M_39 mr_0 rfl rfl rfl rfl ?_
        refine k_iload_n C d_M_kept_32 rfl rfl ?_
        refine k_iald2 C O d_M_kept_33 mr_14 rfl 0 rfl (in_x (n := 12) hI.2.1 (by decide) c10) rfl ?_
        refine k_icmp_lt C (tgt := 39) d_M_kept_34 (by decide) (fun c34 => ?_) (fun c34 => ?_)
        · refine k_bipush C (v := 24) d_M_kept_39 (by decide) ?_
          refine k_iload_n C d_M_kept_41 rfl rfl ?_
          refine k_imul C d_M_kept_42 ?_
          refine k_iload_n C d_M_kept_43 rfl rfl ?_
          refine k_iadd C d_M_kept_44 ?_
          refine k_istore C d_M_kept_45 (Nat.le_of_ble_eq_true rfl) rfl ?_
          refine k_iload_n C d_M_kept_47 rfl rfl ?_
          refine k_if_ne C (tgt := 61) d_M_kept_48 (by decide) (fun c48 => ?_) (fun c48 => ?_)
          · refine k_iload_n C d_M_kept_61 rfl rfl ?_
            refine k_iconst C (v := 1) d_M_kept_62 (by decide) ?_
            refine k_icmp_ne C (tgt := 84) d_M_kept_63 (by decide) (fun c63 => ?_) (fun c63 => ?_)
            · refine k_iload_n C d_M_kept_84 rfl rfl ?_
              refine k_iconst C (v := 2) d_M_kept_85 (by decide) ?_
              refine k_icmp_ne C (tgt := 107) d_M_kept_86 (by decide) (fun c86 => ?_) (fun c86 => ?_)
              · refine k_iconst C (v := (-1)) d_M_kept_107 (by decide) ?_
                exact k_iret X d_M_kept_108 (k_pi ((if_neg c10).trans ((if_neg c20).trans ((if_neg c24).trans ((if_pos c34).trans ((if_neg c48).trans ((if_neg c63).trans ((if_neg c86).trans (rfl)))))))))
              · refine k_aload_n C d_M_kept_89 rfl rfl ?_
                refine k_getR C O (r := (21, _)) d_M_kept_90 fl_M_60 mr_0 rfl rfl rfl rfl ?_
                refine k_iload C d_M_kept_93 rfl ?_
                refine k_zald2 C O (q := (24 * tn n + tn i)) d_M_kept_95 mr_21 rfl 1 rfl (ix_in (L := 288) (c := 24) (N := 12) rfl (in_x (n := 12) hI.2.1 (by decide) c10) (by decide) (vi_nI (in_v (n := 12) (hI.2.2.2.2.1 _ (vi_lt (in_x (n := 12) hI.2.1 (by decide) c10))).2 (by decide) c24 (fun q3 => absurd c34 (Int32.not_lt.mpr q3))) (by decide)) (by decide) (by have := vt_lt (in_v (n := 12) (hI.2.2.2.2.1 _ (vi_lt (in_x (n := 12) hI.2.1 (by decide) c10))).2 (by decide) c24 (fun q3 => absurd c34 (Int32.not_lt.mpr q3))); omega)) (ix_q (c := 24) (N := 12) rfl (in_x (n := 12) hI.2.1 (by decide) c10) (by decide) (vi_nI (in_v (n := 12) (hI.2.2.2.2.1 _ (vi_lt (in_x (n := 12) hI.2.1 (by decide) c10))).2 (by decide) c24 (fun q3 => absurd c34 (Int32.not_lt.mpr q3))) (by decide)) ⟨by decide, by have := vt_lt (in_v (n := 12) (hI.2.2.2.2.1 _ (vi_lt (in_x (n := 12) hI.2.1 (by decide) c10))).2 (by decide) c24 (fun q3 => absurd c34 (Int32.not_lt.mpr q3))); omega⟩) ?_
                refine k_if_eq C (tgt := 103) d_M_kept_96 (by decide) (fun c96 => ?_) (fun c96 => ?_)
                · refine k_iconst C (v := 0) d_M_kept_103 (by decide) ?_
                  refine k_goto C (tgt := 108) d_M_kept_104 (by decide) ?_
                  exact k_iret X d_M_kept_108 (k_pi ((if_neg c10).trans ((if_neg c20).trans ((if_neg c24).trans ((if_pos c34).trans ((if_neg c48).trans ((if_neg c63).trans ((if_pos c86).trans ((if_pos c96).trans (rfl))))))))))
                · refine k_iconst C (v := 1) d_M_kept_99 (by decide) ?_
                  refine k_goto C (tgt := 108) d_M_kept_100 (by decide) ?_
                  exact k_iret X d_M_kept_108 (k_pi ((if_neg c10).trans ((if_neg c20).trans ((if_neg c24).trans ((if_pos c34).trans ((if_neg c48).trans ((if_neg c63).trans ((if_pos c86).trans ((if_neg c96).trans (rfl))))))))))
            · refine k_aload_n C d_M_kept_66 rfl rfl ?_
              refine k_getR C O (r := (20, _)) d_M_kept_67 fl_M_57 mr_0 rfl rfl rfl rfl ?_
              refine k_iload C d_M_kept_70 rfl ?_
              refine k_zald2 C O (q := (24 * tn n + tn i)) d_M_kept_72 mr_20 rfl 1 rfl (ix_in (L := 288) (c := 24) (N := 12) rfl (in_x (n := 12) hI.2.1 (by decide) c10) (by decide) (vi_nI (in_v (n := 12) (hI.2.2.2.2.1 _ (vi_lt (in_x (n := 12) hI.2.1 (by decide) c10))).2 (by decide) c24 (fun q3 => absurd c34 (Int32.not_lt.mpr q3))) (by decide)) (by decide) (by have := vt_lt (in_v (n := 12) (hI.2.2.2.2.1 _ (vi_lt (in_x (n := 12) hI.2.1 (by decide) c10))).2 (by decide) c24 (fun q3 => absurd c34 (Int32.not_lt.mpr q3))); omega)) (ix_q (c := 24) (N := 12) rfl (in_x (n := 12) hI.2.1 (by decide) c10) (by decide) (vi_nI (in_v (n := 12) (hI.2.2.2.2.1 _ (vi_lt (in_x (n := 12) hI.2.1 (by decide) c10))).2 (by decide) c24 (fun q3 => absurd c34 (Int32.not_lt.mpr q3))) (by decide)) ⟨by decide, by have := vt_lt (in_v (n := 12) (hI.2.2.2.2.1 _ (vi_lt (in_x (n := 12) hI.2.1 (by decide) c10))).2 (by decide) c24 (fun q3 => absurd c34 (Int32.not_lt.mpr q3))); omega⟩) ?_
              refine k_if_eq C (tgt := 80) d_M_kept_73 (by decide) (fun c73 => ?_) (fun c73 => ?_)
              · refine k_iconst C (v := 0) d_M_kept_80 (by decide) ?_
                refine k_goto C (tgt := 108) d_M_kept_81 (by decide) ?_
                exact k_iret X d_M_kept_108 (k_pi ((if_neg c10).trans ((if_neg c20).trans ((if_neg c24).trans ((if_pos c34).trans ((if_neg c48).trans ((if_pos c63).trans ((if_pos c73).trans (rfl)))))))))
              · refine k_iconst C (v := 1) d_M_kept_76 (by decide) ?_
                refine k_goto C (tgt := 108) d_M_kept_77 (by decide) ?_
                exact k_iret X d_M_kept_108 (k_pi ((if_neg c10).trans ((if_neg c20).trans ((if_neg c24).trans ((if_pos c34).trans ((if_neg c48).trans ((if_pos c63).trans ((if_neg c73).trans (rfl)))))))))
          · refine k_aload_n C d_M_kept_51 rfl rfl ?_
            refine k_getR C O (r := (15, _)) d_M_kept_52 fl_M_42 mr_0 rfl rfl rfl rfl ?_
            refine k_iload C d_M_kept_55 rfl ?_
            refine k_iald2 C O (q := (24 * tn n + tn i)) d_M_kept_57 mr_15 rfl 0 rfl (ix_in (L := 288) (c := 24) (N := 12) rfl (in_x (n := 12) hI.2.1 (by decide) c10) (by decide) (vi_nI (in_v (n := 12) (hI.2.2.2.2.1 _ (vi_lt (in_x (n := 12) hI.2.1 (by decide) c10))).2 (by decide) c24 (fun q3 => absurd c34 (Int32.not_lt.mpr q3))) (by decide)) (by decide) (by have := vt_lt (in_v (n := 12) (hI.2.2.2.2.1 _ (vi_lt (in_x (n := 12) hI.2.1 (by decide) c10))).2 (by decide) c24 (fun q3 => absurd c34 (Int32.not_lt.mpr q3))); omega)) (ix_q (c := 24) (N := 12) rfl (in_x (n := 12) hI.2.1 (by decide) c10) (by decide) (vi_nI (in_v (n := 12) (hI.2.2.2.2.1 _ (vi_lt (in_x (n := 12) hI.2.1 (by decide) c10))).2 (by decide) c24 (fun q3 => absurd c34 (Int32.not_lt.mpr q3))) (by decide)) ⟨by decide, by have := vt_lt (in_v (n := 12) (hI.2.2.2.2.1 _ (vi_lt (in_x (n := 12) hI.2.1 (by decide) c10))).2 (by decide) c24 (fun q3 => absurd c34 (Int32.not_lt.mpr q3))); omega⟩) ?_
            refine k_goto C (tgt := 108) d_M_kept_58 (by decide) ?_
            exact k_iret X d_M_kept_108 (k_pi ((if_neg c10).trans ((if_neg c20).trans ((if_neg c24).trans ((if_pos c34).trans ((if_pos c48).trans (rfl)))))))
        · refine k_iconst C (v := (-1)) d_M_kept_37 (by decide) ?_
          exact k_iret X d_M_kept_38 (k_pi ((if_neg c10).trans ((if_neg c20).trans ((if_neg c24).trans ((if_neg c34).trans (rfl))))))

set_option maxHeartbeats 4000000 in
set_option maxRecDepth 100000 in
theorem c_M_result (l : Launch) (b : Nat → Nat → Nat) (dA : Nat → ClassId) (D : va_G) (g : kG) (n i : Int32) (hI : mI g) : kMd (sysM b dA D) l y_M_result b_M_result 3 (some .long) 0 0 [.inr (.inr (0, 0)), .inl n, .inl i] g (some (.inr (.inl (mResult g n i)))) (m0 g) := by
  refine k_enter (by decide) [some (.inr (.inr (0, 0))), some (.inl n), some (.inl i)] rfl rfl (Nat.le_of_ble_eq_true rfl) (fun x X => ?_)
  have C := X.1
  have O := X.2.1
  refine k_aload_n C d_M_result_0 rfl rfl ?_
  refine k_iconst C (v := 0) d_M_result_1 (by decide) ?_
  refine k_putI C O d_M_result_2 fp_M_94 mr_0 rfl rfl rfl ?_
  refine k_iload_n C d_M_result_5 rfl rfl ?_
  refine k_if_lt C (tgt := 31) d_M_result_6 (by decide) (fun c6 => ?_) (fun c6 => ?_)
  · refine k_lconst C (v := 0) d_M_result_31 (by decide) ?_
    refine k_goto C (tgt := 45) d_M_result_32 (by decide) ?_
    exact k_lret X d_M_result_45 (k_pl ((if_pos c6).trans (rfl)))
  · refine k_iload_n C d_M_result_9 rfl rfl ?_
    refine k_aload_n C d_M_result_10 rfl rfl ?_
    refine k_getI C O d_M_result_11 fl_M_163 mr_0 rfl rfl rfl ?_
    refine k_icmp_ge C (tgt := 31) d_M_result_14 (by decide) (fun c14 => ?_) (fun c14 => ?_)
    · refine k_lconst C (v := 0) d_M_result_31 (by decide) ?_
      refine k_goto C (tgt := 45) d_M_result_32 (by decide) ?_
      exact k_lret X d_M_result_45 (k_pl ((if_neg c6).trans ((if_pos c14).trans (rfl))))
    · refine k_iload_n C d_M_result_17 rfl rfl ?_
      refine k_if_lt C (tgt := 31) d_M_result_18 (by decide) (fun c18 => ?_) (fun c18 => ?_)
      · refine k_lconst C (v := 0) d_M_result_31 (by decide) ?_
        refine k_goto C (tgt := 45) d_M_result_32 (by decide) ?_
        exact k_lret X d_M_result_45 (k_pl ((if_neg c6).trans ((if_neg c14).trans ((if_pos c18).trans (rfl)))))
      · refine k_iload_n C d_M_result_21 rfl rfl ?_
        refine k_aload_n C d_M_result_22 rfl rfl ?_
        refine k_getR C O (r := (28, _)) d_M_result_23 fl_M_78 mr_0 rfl rfl rfl rfl ?_
        refine k_iload_n C d_M_result_26 rfl rfl ?_
        refine k_iald2 C O d_M_result_27 mr_28 rfl 0 rfl (in_v (n := 6) hI.2.2.1 (by decide) c6 c14) rfl ?_
        refine k_icmp_lt C (tgt := 35) d_M_result_28 (by decide) (fun c28 => ?_) (fun c28 => ?_)
        · refine k_aload_n C d_M_result_35 rfl rfl ?_
          refine k_getR C O (r := (31, _)) d_M_result_36 fl_M_87 mr_0 rfl rfl rfl rfl ?_
          refine k_iconst C (v := 4) d_M_result_39 (by decide) ?_
          refine k_iload_n C d_M_result_40 rfl rfl ?_
          refine k_imul C d_M_result_41 ?_
          refine k_iload_n C d_M_result_42 rfl rfl ?_
          refine k_iadd C d_M_result_43 ?_
          refine k_lald2 C O (q := (4 * tn n + tn i)) d_M_result_44 mr_31 rfl 2 rfl (ix_in (L := 24) (c := 4) (N := 6) rfl (in_v (n := 6) hI.2.2.1 (by decide) c6 c14) (by decide) (vi_nI (in_v (n := 4) (hI.2.2.2.2.2.1 _ (vi_lt (in_v (n := 6) hI.2.2.1 (by decide) c6 c14))).1 (by decide) c18 (fun q3 => absurd c28 (Int32.not_lt.mpr q3))) (by decide)) (by decide) (by have := vt_lt (in_v (n := 4) (hI.2.2.2.2.2.1 _ (vi_lt (in_v (n := 6) hI.2.2.1 (by decide) c6 c14))).1 (by decide) c18 (fun q3 => absurd c28 (Int32.not_lt.mpr q3))); omega)) (ix_q (c := 4) (N := 6) rfl (in_v (n := 6) hI.2.2.1 (by decide) c6 c14) (by decide) (vi_nI (in_v (n := 4) (hI.2.2.2.2.2.1 _ (vi_lt (in_v (n := 6) hI.2.2.1 (by decide) c6 c14))).1 (by decide) c18 (fun q3 => absurd c28 (Int32.not_lt.mpr q3))) (by decide)) ⟨by decide, by have := vt_lt (in_v (n := 4) (hI.2.2.2.2.2.1 _ (vi_lt (in_v (n := 6) hI.2.2.1 (by decide) c6 c14))).1 (by decide) c18 (fun q3 => absurd c28 (Int32.not_lt.mpr q3))); omega⟩) ?_
          exact k_lret X d_M_result_45 (k_pl ((if_neg c6).trans ((if_neg c14).trans ((if_neg c18).trans ((if_pos c28).trans (rfl))))))
        · refine k_lconst C (v := 0) d_M_result_31 (by decide) ?_
          refine k_goto C (tgt := 45) d_M_result_32 (by decide) ?_
          exact k_lret X d_M_result_45 (k_pl ((if_neg c6).trans ((if_neg c14).trans ((if_neg c18).trans ((if_neg c28).trans (rfl))))))

set_option maxHeartbeats 4000000 in
set_option maxRecDepth 100000 in
theorem c_M_row (l : Launch) (b : Nat → Nat → Nat) (dA : Nat → ClassId) (D : va_G) (g : kG) (n k w : Int32) (hI : mI g) : kMd (sysM b dA D) l y_M_row b_M_row 5 (some .boolean) 1 21 [.inr (.inr (0, 0)), .inl n, .inl k, .inl w] g (some (.inl (mRow g n k w).1)) (mRow g n k w).2 := by
  refine k_enter (by decide) [some (.inr (.inr (0, 0))), some (.inl n), some (.inl k), some (.inl w), none] rfl rfl (Nat.le_of_ble_eq_true rfl) (fun x X => ?_)
  have C := X.1
  have O := X.2.1
  refine k_aload_n C d_M_row_0 rfl rfl ?_
  refine k_iconst C (v := 0) d_M_row_1 (by decide) ?_
  refine k_putI C O d_M_row_2 fp_M_94 mr_0 rfl rfl rfl ?_
  refine k_iload_n C d_M_row_5 rfl rfl ?_
  refine k_iconst C (v := 2) d_M_row_6 (by decide) ?_
  refine k_icmp_ne C (tgt := 29) d_M_row_7 (by decide) (fun c7 => ?_) (fun c7 => ?_)
  · refine k_iload_n C d_M_row_29 rfl rfl ?_
    refine k_if_eq C (tgt := 38) d_M_row_30 (by decide) (fun c30 => ?_) (fun c30 => ?_)
    · refine k_aload_n C d_M_row_38 rfl rfl ?_
      refine k_iload_n C d_M_row_39 rfl rfl ?_
      refine k_cvI X d_M_row_40 (c_M_isFile l b dA D _ w) cv_M_103 mr_0 rfl rfl ⟨by decide, by decide⟩ rfl rfl (Nat.le_of_ble_eq_true rfl) ?_
      refine k_if_eq C (tgt := 50) d_M_row_43 (by decide) (fun c43 => ?_) (fun c43 => ?_)
      · refine k_iconst C (v := 0) d_M_row_50 (by decide) ?_
        refine k_istore C d_M_row_51 (Nat.le_of_ble_eq_true rfl) rfl ?_
        refine k_aload_n C d_M_row_53 rfl rfl ?_
        refine k_iload_n C d_M_row_54 rfl rfl ?_
        refine k_cvI X d_M_row_55 (c_M_isAction l b dA D _ n) cv_M_107 mr_0 rfl rfl ⟨by decide, by decide⟩ rfl rfl (Nat.le_of_ble_eq_true rfl) ?_
        refine k_if_eq C (tgt := 77) d_M_row_58 (by decide) (fun c58 => ?_) (fun c58 => ?_)
        · refine k_iconst C (v := 0) d_M_row_77 (by decide) ?_
          exact k_zret X d_M_row_78 (Or.inl rfl) (k_pr ((if_neg c7).trans ((if_pos c30).trans ((if_pos c43).trans ((if_pos c58).trans (rfl))))))
        · refine k_iload C d_M_row_61 rfl ?_
          refine k_if_eq C (tgt := 77) d_M_row_63 (by decide) (fun _ => ?_) (fun q => absurd (by decide) q)
          refine k_iconst C (v := 0) d_M_row_77 (by decide) ?_
          exact k_zret X d_M_row_78 (Or.inl rfl) (k_pr ((if_neg c7).trans ((if_pos c30).trans ((if_pos c43).trans ((if_neg c58).trans (rfl))))))
      · refine k_iconst C (v := 1) d_M_row_46 (by decide) ?_
        refine k_goto C (tgt := 51) d_M_row_47 (by decide) ?_
        refine k_istore C d_M_row_51 (Nat.le_of_ble_eq_true rfl) rfl ?_
        refine k_aload_n C d_M_row_53 rfl rfl ?_
        refine k_iload_n C d_M_row_54 rfl rfl ?_
        refine k_cvI X d_M_row_55 (c_M_isAction l b dA D _ n) cv_M_107 mr_0 rfl rfl ⟨by decide, by decide⟩ rfl rfl (Nat.le_of_ble_eq_true rfl) ?_
        refine k_if_eq C (tgt := 77) d_M_row_58 (by decide) (fun c58 => ?_) (fun c58 => ?_)
        · refine k_iconst C (v := 0) d_M_row_77 (by decide) ?_
          exact k_zret X d_M_row_78 (Or.inl rfl) (k_pr ((if_neg c7).trans ((if_pos c30).trans ((if_neg c43).trans ((if_pos c58).trans (rfl))))))
        · refine k_iload C d_M_row_61 rfl ?_
          refine k_if_eq C (tgt := 77) d_M_row_63 (by decide) (fun q => absurd q (by decide)) (fun _ => ?_)
          refine k_aload_n C d_M_row_66 rfl rfl ?_
          refine k_getR C O (r := (10, _)) d_M_row_67 fl_M_27 mr_0 rfl rfl rfl rfl ?_
          refine k_iload_n C d_M_row_70 rfl rfl ?_
          refine k_iald2 C O d_M_row_71 mr_10 rfl 0 rfl (in_x (n := 12) hI.2.1 (by decide) c58) rfl ?_
          refine k_bipush C (v := 12) d_M_row_72 (by decide) ?_
          refine k_icmp_ne C (tgt := 79) d_M_row_74 (by decide) (fun c74 => ?_) (fun c74 => ?_)
          · refine k_aload_n C d_M_row_79 rfl rfl ?_
            refine k_getR C O (r := (11, _)) d_M_row_80 fl_M_30 mr_0 rfl rfl rfl rfl ?_
            refine k_bipush C (v := 12) d_M_row_83 (by decide) ?_
            refine k_iload_n C d_M_row_85 rfl rfl ?_
            refine k_imul C d_M_row_86 ?_
            refine k_aload_n C d_M_row_87 rfl rfl ?_
            refine k_getR C O (r := (10, _)) d_M_row_88 fl_M_27 mr_0 rfl rfl rfl rfl ?_
            refine k_iload_n C d_M_row_91 rfl rfl ?_
            refine k_iald2 C O d_M_row_92 mr_10 rfl 0 rfl (in_x (n := 12) hI.2.1 (by decide) c58) rfl ?_
            refine k_iadd C d_M_row_93 ?_
            refine k_iload_n C d_M_row_94 rfl rfl ?_
            refine k_iast2 C O (q := (12 * tn n + tn (g.1 10 0 (tn n)))) d_M_row_95 mr_11 rfl 0 rfl (ix_in (L := 144) (c := 12) (N := 12) (k := tn (g.1 10 0 (tn n))) rfl (in_x (n := 12) hI.2.1 (by decide) c58) (by decide) ((hI.2.2.2.2.1 _ (vi_lt (in_x (n := 12) hI.2.1 (by decide) c58))).1).1 (by decide) (by have : tn (g.1 10 0 (tn n)) < 12 := vt_lt (in_ne (n := 12) (hI.2.2.2.2.1 _ (vi_lt (in_x (n := 12) hI.2.1 (by decide) c58))).1 rfl (by decide) c74); omega)) (ix_q (c := 12) (N := 12) (k := tn (g.1 10 0 (tn n))) rfl (in_x (n := 12) hI.2.1 (by decide) c58) (by decide) ((hI.2.2.2.2.1 _ (vi_lt (in_x (n := 12) hI.2.1 (by decide) c58))).1).1 ⟨by decide, by have : tn (g.1 10 0 (tn n)) < 12 := vt_lt (in_ne (n := 12) (hI.2.2.2.2.1 _ (vi_lt (in_x (n := 12) hI.2.1 (by decide) c58))).1 rfl (by decide) c74); omega⟩) ?_
            refine k_aload_n C d_M_row_96 rfl rfl ?_
            refine k_getR C O (r := (12, _)) d_M_row_97 fl_M_33 mr_0 rfl rfl rfl rfl ?_
            refine k_bipush C (v := 12) d_M_row_100 (by decide) ?_
            refine k_iload_n C d_M_row_102 rfl rfl ?_
            refine k_imul C d_M_row_103 ?_
            refine k_aload_n C d_M_row_104 rfl rfl ?_
            refine k_getR C O (r := (10, _)) d_M_row_105 fl_M_27 mr_0 rfl rfl rfl rfl ?_
            refine k_iload_n C d_M_row_108 rfl rfl ?_
            refine k_iald2 C O d_M_row_109 mr_10 rfl 0 rfl (in_x (n := 12) hI.2.1 (by decide) c58) rfl ?_
            refine k_iadd C d_M_row_110 ?_
            refine k_iload_n C d_M_row_111 rfl rfl ?_
            refine k_iast2 C O (q := (12 * tn n + tn (g.1 10 0 (tn n)))) d_M_row_112 mr_12 rfl 0 rfl (ix_in (L := 144) (c := 12) (N := 12) (k := tn (g.1 10 0 (tn n))) rfl (in_x (n := 12) hI.2.1 (by decide) c58) (by decide) ((hI.2.2.2.2.1 _ (vi_lt (in_x (n := 12) hI.2.1 (by decide) c58))).1).1 (by decide) (by have : tn (g.1 10 0 (tn n)) < 12 := vt_lt (in_ne (n := 12) (hI.2.2.2.2.1 _ (vi_lt (in_x (n := 12) hI.2.1 (by decide) c58))).1 rfl (by decide) c74); omega)) (ix_q (c := 12) (N := 12) (k := tn (g.1 10 0 (tn n))) rfl (in_x (n := 12) hI.2.1 (by decide) c58) (by decide) ((hI.2.2.2.2.1 _ (vi_lt (in_x (n := 12) hI.2.1 (by decide) c58))).1).1 ⟨by decide, by have : tn (g.1 10 0 (tn n)) < 12 := vt_lt (in_ne (n := 12) (hI.2.2.2.2.1 _ (vi_lt (in_x (n := 12) hI.2.1 (by decide) c58))).1 rfl (by decide) c74); omega⟩) ?_
            refine k_aload_n C d_M_row_113 rfl rfl ?_
            refine k_getR C O (r := (10, _)) d_M_row_114 fl_M_27 mr_0 rfl rfl rfl rfl ?_
            refine k_iload_n C d_M_row_117 rfl rfl ?_
            refine k_dup2 C d_M_row_118 rfl rfl ?_
            refine k_iald2 C O d_M_row_119 mr_10 rfl 0 rfl (in_x (n := 12) hI.2.1 (by decide) c58) rfl ?_
            refine k_iconst C (v := 1) d_M_row_120 (by decide) ?_
            refine k_iadd C d_M_row_121 ?_
            refine k_iast2 C O d_M_row_122 mr_10 rfl 0 rfl (in_x (n := 12) hI.2.1 (by decide) c58) rfl ?_
            refine k_aload_n C d_M_row_123 rfl rfl ?_
            refine k_iload_n C d_M_row_124 rfl rfl ?_
            refine k_cvV X d_M_row_125 (c_M_forget l b dA D _ n (in_x (n := 12) hI.2.1 (by decide) c58)) cv_M_110 mr_0 rfl rfl ⟨by decide, by decide⟩ rfl rfl (Nat.le_of_ble_eq_true rfl) ?_
            refine k_iconst C (v := 1) d_M_row_128 (by decide) ?_
            exact k_zret X d_M_row_129 (Or.inr rfl) (k_pr ((if_neg c7).trans ((if_pos c30).trans ((if_neg c43).trans ((if_neg c58).trans ((if_neg c74).trans (rfl)))))))
          · refine k_iconst C (v := 0) d_M_row_77 (by decide) ?_
            exact k_zret X d_M_row_78 (Or.inl rfl) (k_pr ((if_neg c7).trans ((if_pos c30).trans ((if_neg c43).trans ((if_neg c58).trans ((if_pos c74).trans (rfl)))))))
    · refine k_iload_n C d_M_row_33 rfl rfl ?_
      refine k_iconst C (v := 1) d_M_row_34 (by decide) ?_
      refine k_icmp_ne C (tgt := 50) d_M_row_35 (by decide) (fun c35 => ?_) (fun c35 => ?_)
      · refine k_iconst C (v := 0) d_M_row_50 (by decide) ?_
        refine k_istore C d_M_row_51 (Nat.le_of_ble_eq_true rfl) rfl ?_
        refine k_aload_n C d_M_row_53 rfl rfl ?_
        refine k_iload_n C d_M_row_54 rfl rfl ?_
        refine k_cvI X d_M_row_55 (c_M_isAction l b dA D _ n) cv_M_107 mr_0 rfl rfl ⟨by decide, by decide⟩ rfl rfl (Nat.le_of_ble_eq_true rfl) ?_
        refine k_if_eq C (tgt := 77) d_M_row_58 (by decide) (fun c58 => ?_) (fun c58 => ?_)
        · refine k_iconst C (v := 0) d_M_row_77 (by decide) ?_
          exact k_zret X d_M_row_78 (Or.inl rfl) (k_pr ((if_neg c7).trans ((if_neg c30).trans ((if_neg c35).trans ((if_pos c58).trans (rfl))))))
        · refine k_iload C d_M_row_61 rfl ?_
          refine k_if_eq C (tgt := 77) d_M_row_63 (by decide) (fun _ => ?_) (fun q => absurd (by decide) q)
          refine k_iconst C (v := 0) d_M_row_77 (by decide) ?_
          exact k_zret X d_M_row_78 (Or.inl rfl) (k_pr ((if_neg c7).trans ((if_neg c30).trans ((if_neg c35).trans ((if_neg c58).trans (rfl))))))
      · refine k_aload_n C d_M_row_38 rfl rfl ?_
        refine k_iload_n C d_M_row_39 rfl rfl ?_
        refine k_cvI X d_M_row_40 (c_M_isFile l b dA D _ w) cv_M_103 mr_0 rfl rfl ⟨by decide, by decide⟩ rfl rfl (Nat.le_of_ble_eq_true rfl) ?_
        refine k_if_eq C (tgt := 50) d_M_row_43 (by decide) (fun c43 => ?_) (fun c43 => ?_)
        · refine k_iconst C (v := 0) d_M_row_50 (by decide) ?_
          refine k_istore C d_M_row_51 (Nat.le_of_ble_eq_true rfl) rfl ?_
          refine k_aload_n C d_M_row_53 rfl rfl ?_
          refine k_iload_n C d_M_row_54 rfl rfl ?_
          refine k_cvI X d_M_row_55 (c_M_isAction l b dA D _ n) cv_M_107 mr_0 rfl rfl ⟨by decide, by decide⟩ rfl rfl (Nat.le_of_ble_eq_true rfl) ?_
          refine k_if_eq C (tgt := 77) d_M_row_58 (by decide) (fun c58 => ?_) (fun c58 => ?_)
          · refine k_iconst C (v := 0) d_M_row_77 (by decide) ?_
            exact k_zret X d_M_row_78 (Or.inl rfl) (k_pr ((if_neg c7).trans ((if_neg c30).trans ((if_pos c35).trans ((if_pos c43).trans ((if_pos c58).trans (rfl)))))))
          · refine k_iload C d_M_row_61 rfl ?_
            refine k_if_eq C (tgt := 77) d_M_row_63 (by decide) (fun _ => ?_) (fun q => absurd (by decide) q)
            refine k_iconst C (v := 0) d_M_row_77 (by decide) ?_
            exact k_zret X d_M_row_78 (Or.inl rfl) (k_pr ((if_neg c7).trans ((if_neg c30).trans ((if_pos c35).trans ((if_pos c43).trans ((if_neg c58).trans (rfl)))))))
        · refine k_iconst C (v := 1) d_M_row_46 (by decide) ?_
          refine k_goto C (tgt := 51) d_M_row_47 (by decide) ?_
          refine k_istore C d_M_row_51 (Nat.le_of_ble_eq_true rfl) rfl ?_
          refine k_aload_n C d_M_row_53 rfl rfl ?_
          refine k_iload_n C d_M_row_54 rfl rfl ?_
          refine k_cvI X d_M_row_55 (c_M_isAction l b dA D _ n) cv_M_107 mr_0 rfl rfl ⟨by decide, by decide⟩ rfl rfl (Nat.le_of_ble_eq_true rfl) ?_
          refine k_if_eq C (tgt := 77) d_M_row_58 (by decide) (fun c58 => ?_) (fun c58 => ?_)
          · refine k_iconst C (v := 0) d_M_row_77 (by decide) ?_
            exact k_zret X d_M_row_78 (Or.inl rfl) (k_pr ((if_neg c7).trans ((if_neg c30).trans ((if_pos c35).trans ((if_neg c43).trans ((if_pos c58).trans (rfl)))))))
          · refine k_iload C d_M_row_61 rfl ?_
            refine k_if_eq C (tgt := 77) d_M_row_63 (by decide) (fun q => absurd q (by decide)) (fun _ => ?_)
            refine k_aload_n C d_M_row_66 rfl rfl ?_
            refine k_getR C O (r := (10, _)) d_M_row_67 fl_M_27 mr_0 rfl rfl rfl rfl ?_
            refine k_iload_n C d_M_row_70 rfl rfl ?_
            refine k_iald2 C O d_M_row_71 mr_10 rfl 0 rfl (in_x (n := 12) hI.2.1 (by decide) c58) rfl ?_
            refine k_bipush C (v := 12) d_M_row_72 (by decide) ?_
            refine k_icmp_ne C (tgt := 79) d_M_row_74 (by decide) (fun c74 => ?_) (fun c74 => ?_)
            · refine k_aload_n C d_M_row_79 rfl rfl ?_
              refine k_getR C O (r := (11, _)) d_M_row_80 fl_M_30 mr_0 rfl rfl rfl rfl ?_
              refine k_bipush C (v := 12) d_M_row_83 (by decide) ?_
              refine k_iload_n C d_M_row_85 rfl rfl ?_
              refine k_imul C d_M_row_86 ?_
              refine k_aload_n C d_M_row_87 rfl rfl ?_
              refine k_getR C O (r := (10, _)) d_M_row_88 fl_M_27 mr_0 rfl rfl rfl rfl ?_
              refine k_iload_n C d_M_row_91 rfl rfl ?_
              refine k_iald2 C O d_M_row_92 mr_10 rfl 0 rfl (in_x (n := 12) hI.2.1 (by decide) c58) rfl ?_
              refine k_iadd C d_M_row_93 ?_
              refine k_iload_n C d_M_row_94 rfl rfl ?_
              refine k_iast2 C O (q := (12 * tn n + tn (g.1 10 0 (tn n)))) d_M_row_95 mr_11 rfl 0 rfl (ix_in (L := 144) (c := 12) (N := 12) (k := tn (g.1 10 0 (tn n))) rfl (in_x (n := 12) hI.2.1 (by decide) c58) (by decide) ((hI.2.2.2.2.1 _ (vi_lt (in_x (n := 12) hI.2.1 (by decide) c58))).1).1 (by decide) (by have : tn (g.1 10 0 (tn n)) < 12 := vt_lt (in_ne (n := 12) (hI.2.2.2.2.1 _ (vi_lt (in_x (n := 12) hI.2.1 (by decide) c58))).1 rfl (by decide) c74); omega)) (ix_q (c := 12) (N := 12) (k := tn (g.1 10 0 (tn n))) rfl (in_x (n := 12) hI.2.1 (by decide) c58) (by decide) ((hI.2.2.2.2.1 _ (vi_lt (in_x (n := 12) hI.2.1 (by decide) c58))).1).1 ⟨by decide, by have : tn (g.1 10 0 (tn n)) < 12 := vt_lt (in_ne (n := 12) (hI.2.2.2.2.1 _ (vi_lt (in_x (n := 12) hI.2.1 (by decide) c58))).1 rfl (by decide) c74); omega⟩) ?_
              refine k_aload_n C d_M_row_96 rfl rfl ?_
              refine k_getR C O (r := (12, _)) d_M_row_97 fl_M_33 mr_0 rfl rfl rfl rfl ?_
              refine k_bipush C (v := 12) d_M_row_100 (by decide) ?_
              refine k_iload_n C d_M_row_102 rfl rfl ?_
              refine k_imul C d_M_row_103 ?_
              refine k_aload_n C d_M_row_104 rfl rfl ?_
              refine k_getR C O (r := (10, _)) d_M_row_105 fl_M_27 mr_0 rfl rfl rfl rfl ?_
              refine k_iload_n C d_M_row_108 rfl rfl ?_
              refine k_iald2 C O d_M_row_109 mr_10 rfl 0 rfl (in_x (n := 12) hI.2.1 (by decide) c58) rfl ?_
              refine k_iadd C d_M_row_110 ?_
              refine k_iload_n C d_M_row_111 rfl rfl ?_
              refine k_iast2 C O (q := (12 * tn n + tn (g.1 10 0 (tn n)))) d_M_row_112 mr_12 rfl 0 rfl (ix_in (L := 144) (c := 12) (N := 12) (k := tn (g.1 10 0 (tn n))) rfl (in_x (n := 12) hI.2.1 (by decide) c58) (by decide) ((hI.2.2.2.2.1 _ (vi_lt (in_x (n := 12) hI.2.1 (by decide) c58))).1).1 (by decide) (by have : tn (g.1 10 0 (tn n)) < 12 := vt_lt (in_ne (n := 12) (hI.2.2.2.2.1 _ (vi_lt (in_x (n := 12) hI.2.1 (by decide) c58))).1 rfl (by decide) c74); omega)) (ix_q (c := 12) (N := 12) (k := tn (g.1 10 0 (tn n))) rfl (in_x (n := 12) hI.2.1 (by decide) c58) (by decide) ((hI.2.2.2.2.1 _ (vi_lt (in_x (n := 12) hI.2.1 (by decide) c58))).1).1 ⟨by decide, by have : tn (g.1 10 0 (tn n)) < 12 := vt_lt (in_ne (n := 12) (hI.2.2.2.2.1 _ (vi_lt (in_x (n := 12) hI.2.1 (by decide) c58))).1 rfl (by decide) c74); omega⟩) ?_
              refine k_aload_n C d_M_row_113 rfl rfl ?_
              refine k_getR C O (r := (10, _)) d_M_row_114 fl_M_27 mr_0 rfl rfl rfl rfl ?_
              refine k_iload_n C d_M_row_117 rfl rfl ?_
              refine k_dup2 C d_M_row_118 rfl rfl ?_
              refine k_iald2 C O d_M_row_119 mr_10 rfl 0 rfl (in_x (n := 12) hI.2.1 (by decide) c58) rfl ?_
              refine k_iconst C (v := 1) d_M_row_120 (by decide) ?_
              refine k_iadd C d_M_row_121 ?_
              refine k_iast2 C O d_M_row_122 mr_10 rfl 0 rfl (in_x (n := 12) hI.2.1 (by decide) c58) rfl ?_
              refine k_aload_n C d_M_row_123 rfl rfl ?_
              refine k_iload_n C d_M_row_124 rfl rfl ?_
              refine k_cvV X d_M_row_125 (c_M_forget l b dA D _ n (in_x (n := 12) hI.2.1 (by decide) c58)) cv_M_110 mr_0 rfl rfl ⟨by decide, by decide⟩ rfl rfl (Nat.le_of_ble_eq_true rfl) ?_
              refine k_iconst C (v := 1) d_M_row_128 (by decide) ?_
              exact k_zret X d_M_row_129 (Or.inr rfl) (k_pr ((if_neg c7).trans ((if_neg c30).trans ((if_pos c35).trans ((if_neg c43).trans ((if_neg c58).trans ((if_neg c74).trans (rfl))))))))
            · refine k_iconst C (v := 0) d_M_row_77 (by decide) ?_
              exact k_zret X d_M_row_78 (Or.inl rfl) (k_pr ((if_neg c7).trans ((if_neg c30).trans ((if_pos c35).trans ((if_neg c43).trans ((if_neg c58).trans ((if_pos c74).trans (rfl))))))))
  · refine k_iload_n C d_M_row_10 rfl rfl ?_
    refine k_iconst C (v := 1) d_M_row_11 (by decide) ?_
    refine k_icmp_lt C (tgt := 25) d_M_row_12 (by decide) (fun c12 => ?_) (fun c12 => ?_)
    · refine k_iconst C (v := 0) d_M_row_25 (by decide) ?_
      refine k_goto C (tgt := 51) d_M_row_26 (by decide) ?_
      refine k_istore C d_M_row_51 (Nat.le_of_ble_eq_true rfl) rfl ?_
      refine k_aload_n C d_M_row_53 rfl rfl ?_
      refine k_iload_n C d_M_row_54 rfl rfl ?_
      refine k_cvI X d_M_row_55 (c_M_isAction l b dA D _ n) cv_M_107 mr_0 rfl rfl ⟨by decide, by decide⟩ rfl rfl (Nat.le_of_ble_eq_true rfl) ?_
      refine k_if_eq C (tgt := 77) d_M_row_58 (by decide) (fun c58 => ?_) (fun c58 => ?_)
      · refine k_iconst C (v := 0) d_M_row_77 (by decide) ?_
        exact k_zret X d_M_row_78 (Or.inl rfl) (k_pr ((if_pos c7).trans ((if_pos c12).trans ((if_pos c58).trans (rfl)))))
      · refine k_iload C d_M_row_61 rfl ?_
        refine k_if_eq C (tgt := 77) d_M_row_63 (by decide) (fun _ => ?_) (fun q => absurd (by decide) q)
        refine k_iconst C (v := 0) d_M_row_77 (by decide) ?_
        exact k_zret X d_M_row_78 (Or.inl rfl) (k_pr ((if_pos c7).trans ((if_pos c12).trans ((if_neg c58).trans (rfl)))))
    · refine k_iload_n C d_M_row_15 rfl rfl ?_
      refine k_bipush C (v := 8) d_M_row_16 (by decide) ?_
      refine k_icmp_gt C (tgt := 25) d_M_row_18 (by decide) (fun c18 => ?_) (fun c18 => ?_)
      · refine k_iconst C (v := 0) d_M_row_25 (by decide) ?_
        refine k_goto C (tgt := 51) d_M_row_26 (by decide) ?_
        refine k_istore C d_M_row_51 (Nat.le_of_ble_eq_true rfl) rfl ?_
        refine k_aload_n C d_M_row_53 rfl rfl ?_
        refine k_iload_n C d_M_row_54 rfl rfl ?_
        refine k_cvI X d_M_row_55 (c_M_isAction l b dA D _ n) cv_M_107 mr_0 rfl rfl ⟨by decide, by decide⟩ rfl rfl (Nat.le_of_ble_eq_true rfl) ?_
        refine k_if_eq C (tgt := 77) d_M_row_58 (by decide) (fun c58 => ?_) (fun c58 => ?_)
        · refine k_iconst C (v := 0) d_M_row_77 (by decide) ?_
          exact k_zret X d_M_row_78 (Or.inl rfl) (k_pr ((if_pos c7).trans ((if_neg c12).trans ((if_pos c18).trans ((if_pos c58).trans (rfl))))))
        · refine k_iload C d_M_row_61 rfl ?_
          refine k_if_eq C (tgt := 77) d_M_row_63 (by decide) (fun _ => ?_) (fun q => absurd (by decide) q)
          refine k_iconst C (v := 0) d_M_row_77 (by decide) ?_
          exact k_zret X d_M_row_78 (Or.inl rfl) (k_pr ((if_pos c7).trans ((if_neg c12).trans ((if_pos c18).trans ((if_neg c58).trans (rfl))))))
      · refine k_iconst C (v := 1) d_M_row_21 (by decide) ?_
        refine k_goto C (tgt := 51) d_M_row_22 (by decide) ?_
        refine k_istore C d_M_row_51 (Nat.le_of_ble_eq_true rfl) rfl ?_
        refine k_aload_n C d_M_row_53 rfl rfl ?_
        refine k_iload_n C d_M_row_54 rfl rfl ?_
        refine k_cvI X d_M_row_55 (c_M_isAction l b dA D _ n) cv_M_107 mr_0 rfl rfl ⟨by decide, by decide⟩ rfl rfl (Nat.le_of_ble_eq_true rfl) ?_
        refine k_if_eq C (tgt := 77) d_M_row_58 (by decide) (fun c58 => ?_) (fun c58 => ?_)
        · refine k_iconst C (v := 0) d_M_row_77 (by decide) ?_
          exact k_zret X d_M_row_78 (Or.inl rfl) (k_pr ((if_pos c7).trans ((if_neg c12).trans ((if_neg c18).trans ((if_pos c58).trans (rfl))))))
        · refine k_iload C d_M_row_61 rfl ?_
          refine k_if_eq C (tgt := 77) d_M_row_63 (by decide) (fun q => absurd q (by decide)) (fun _ => ?_)
          refine k_aload_n C d_M_row_66 rfl rfl ?_
          refine k_getR C O (r := (10, _)) d_M_row_67 fl_M_27 mr_0 rfl rfl rfl rfl ?_
          refine k_iload_n C d_M_row_70 rfl rfl ?_
          refine k_iald2 C O d_M_row_71 mr_10 rfl 0 rfl (in_x (n := 12) hI.2.1 (by decide) c58) rfl ?_
          refine k_bipush C (v := 12) d_M_row_72 (by decide) ?_
          refine k_icmp_ne C (tgt := 79) d_M_row_74 (by decide) (fun c74 => ?_) (fun c74 => ?_)
          · refine k_aload_n C d_M_row_79 rfl rfl ?_
            refine k_getR C O (r := (11, _)) d_M_row_80 fl_M_30 mr_0 rfl rfl rfl rfl ?_
            refine k_bipush C (v := 12) d_M_row_83 (by decide) ?_
            refine k_iload_n C d_M_row_85 rfl rfl ?_
            refine k_imul C d_M_row_86 ?_
            refine k_aload_n C d_M_row_87 rfl rfl ?_
            refine k_getR C O (r := (10, _)) d_M_row_88 fl_M_27 mr_0 rfl rfl rfl rfl ?_
            refine k_iload_n C d_M_row_91 rfl rfl ?_
            refine k_iald2 C O d_M_row_92 mr_10 rfl 0 rfl (in_x (n := 12) hI.2.1 (by decide) c58) rfl ?_
            refine k_iadd C d_M_row_93 ?_
            refine k_iload_n C d_M_row_94 rfl rfl ?_
            refine k_iast2 C O (q := (12 * tn n + tn (g.1 10 0 (tn n)))) d_M_row_95 mr_11 rfl 0 rfl (ix_in (L := 144) (c := 12) (N := 12) (k := tn (g.1 10 0 (tn n))) rfl (in_x (n := 12) hI.2.1 (by decide) c58) (by decide) ((hI.2.2.2.2.1 _ (vi_lt (in_x (n := 12) hI.2.1 (by decide) c58))).1).1 (by decide) (by have : tn (g.1 10 0 (tn n)) < 12 := vt_lt (in_ne (n := 12) (hI.2.2.2.2.1 _ (vi_lt (in_x (n := 12) hI.2.1 (by decide) c58))).1 rfl (by decide) c74); omega)) (ix_q (c := 12) (N := 12) (k := tn (g.1 10 0 (tn n))) rfl (in_x (n := 12) hI.2.1 (by decide) c58) (by decide) ((hI.2.2.2.2.1 _ (vi_lt (in_x (n := 12) hI.2.1 (by decide) c58))).1).1 ⟨by decide, by have : tn (g.1 10 0 (tn n)) < 12 := vt_lt (in_ne (n := 12) (hI.2.2.2.2.1 _ (vi_lt (in_x (n := 12) hI.2.1 (by decide) c58))).1 rfl (by decide) c74); omega⟩) ?_
            refine k_aload_n C d_M_row_96 rfl rfl ?_
            refine k_getR C O (r := (12, _)) d_M_row_97 fl_M_33 mr_0 rfl rfl rfl rfl ?_
            refine k_bipush C (v := 12) d_M_row_100 (by decide) ?_
            refine k_iload_n C d_M_row_102 rfl rfl ?_
            refine k_imul C d_M_row_103 ?_
            refine k_aload_n C d_M_row_104 rfl rfl ?_
            refine k_getR C O (r := (10, _)) d_M_row_105 fl_M_27 mr_0 rfl rfl rfl rfl ?_
            refine k_iload_n C d_M_row_108 rfl rfl ?_
            refine k_iald2 C O d_M_row_109 mr_10 rfl 0 rfl (in_x (n := 12) hI.2.1 (by decide) c58) rfl ?_
            refine k_iadd C d_M_row_110 ?_
            refine k_iload_n C d_M_row_111 rfl rfl ?_
            refine k_iast2 C O (q := (12 * tn n + tn (g.1 10 0 (tn n)))) d_M_row_112 mr_12 rfl 0 rfl (ix_in (L := 144) (c := 12) (N := 12) (k := tn (g.1 10 0 (tn n))) rfl (in_x (n := 12) hI.2.1 (by decide) c58) (by decide) ((hI.2.2.2.2.1 _ (vi_lt (in_x (n := 12) hI.2.1 (by decide) c58))).1).1 (by decide) (by have : tn (g.1 10 0 (tn n)) < 12 := vt_lt (in_ne (n := 12) (hI.2.2.2.2.1 _ (vi_lt (in_x (n := 12) hI.2.1 (by decide) c58))).1 rfl (by decide) c74); omega)) (ix_q (c := 12) (N := 12) (k := tn (g.1 10 0 (tn n))) rfl (in_x (n := 12) hI.2.1 (by decide) c58) (by decide) ((hI.2.2.2.2.1 _ (vi_lt (in_x (n := 12) hI.2.1 (by decide) c58))).1).1 ⟨by decide, by have : tn (g.1 10 0 (tn n)) < 12 := vt_lt (in_ne (n := 12) (hI.2.2.2.2.1 _ (vi_lt (in_x (n := 12) hI.2.1 (by decide) c58))).1 rfl (by decide) c74); omega⟩) ?_
            refine k_aload_n C d_M_row_113 rfl rfl ?_
            refine k_getR C O (r := (10, _)) d_M_row_114 fl_M_27 mr_0 rfl rfl rfl rfl ?_
            refine k_iload_n C d_M_row_117 rfl rfl ?_
            refine k_dup2 C d_M_row_118 rfl rfl ?_
            refine k_iald2 C O d_M_row_119 mr_10 rfl 0 rfl (in_x (n := 12) hI.2.1 (by decide) c58) rfl ?_
            refine k_iconst C (v := 1) d_M_row_120 (by decide) ?_
            refine k_iadd C d_M_row_121 ?_
            refine k_iast2 C O d_M_row_122 mr_10 rfl 0 rfl (in_x (n := 12) hI.2.1 (by decide) c58) rfl ?_
            refine k_aload_n C d_M_row_123 rfl rfl ?_
            refine k_iload_n C d_M_row_124 rfl rfl ?_
            refine k_cvV X d_M_row_125 (c_M_forget l b dA D _ n (in_x (n := 12) hI.2.1 (by decide) c58)) cv_M_110 mr_0 rfl rfl ⟨by decide, by decide⟩ rfl rfl (Nat.le_of_ble_eq_true rfl) ?_
            refine k_iconst C (v := 1) d_M_row_128 (by decide) ?_
            exact k_zret X d_M_row_129 (Or.inr rfl) (k_pr ((if_pos c7).trans ((if_neg c12).trans ((if_neg c18).trans ((if_neg c58).trans ((if_neg c74).trans (rfl)))))))
          · refine k_iconst C (v := 0) d_M_row_77 (by decide) ?_
            exact k_zret X d_M_row_78 (Or.inl rfl) (k_pr ((if_pos c7).trans ((if_neg c12).trans ((if_neg c18).trans ((if_neg c58).trans ((if_pos c74).trans (rfl)))))))
end
section
/-! the reference: specs and contracts, 2: fresh (by program: wip/gen/cm2.py) -/
def mSoM (g : kG) (f : Nat) (K : Int32 → Int32) : Int32 := if g.1 7 0 f = -1 then K 1 else if g.1 22 0 (tn (g.1 7 0 f)) = 0 then K 0 else K 1
def mSoB (g : kG) (e f : Nat) (K : Int32 → Int32) : Int32 := if g.1 5 0 f = g.1 20 0 e then (if g.1 21 0 e = 0 then mSoM g f K else if g.1 5 0 f = 0 then mSoM g f K else if lg_cmp (g.2 6 0 f) (g.2 23 0 e) = 0 then mSoM g f K else K 0) else K 0
def mSo (g : kG) (a : Nat) : Nat → Nat → Int32 → Int32
  | 0, _, s => s
  | n + 1, k, s => if s = 0 then s else mSoB g (24 * a + k) (tn (g.1 15 0 (24 * a + k))) (fun z => mSo g a n (k + 1) z)
def mIsSo (g : kG) (a : Nat) : Int32 := if g.1 13 0 a = 2 then mSo g a (tn (g.1 14 0 a)) 0 0 else mSo g a (tn (g.1 14 0 a)) 0 1
def mClr : Nat → Nat → kG → kG
  | 0, _, g => g
  | n + 1, k, g => mClr n (k + 1) (kU g.1 22 0 k 0, g.2)
def mRd : Nat → Nat → Int32 → kG → Int32 × kG
  | 0, _, mo, g => (mo, g)
  | n + 1, k, mo, g => if g.1 22 0 k = 0 then (if mIsSo g k = 0 then mRd n (k + 1) mo g else mRd n (k + 1) 1 (kU g.1 22 0 k 1, g.2)) else mRd n (k + 1) mo g
def mFv (na : Nat) : Nat → Int32 → kG → kG
  | 0, _, g => g
  | n + 1, mo, g => if mo = 0 then g else mFv na n (mRd na 0 0 g).1 (mRd na 0 0 g).2
def mFr (g : kG) : kG := mFv (tn (g.1 0 0 3)) 13 1 (mClr 12 0 g)
theorem mClr_fr : ∀ (n k : Nat) (g : kG) (q a j : Nat), q ≠ 22 → (mClr n k g).1 q a j = g.1 q a j
  | 0, k, g, q, a, j, h => rfl
  | n + 1, k, g, q, a, j, h => (mClr_fr n (k + 1) (kU g.1 22 0 k 0, g.2) q a j h).trans (kU_n (fun e => h e.1))
/-- what the walks of fresh ask of the memory -/
def mS (g : kG) : Prop := kN (g.1 0 0 3) 12 ∧ (∀ a, a < 12 → kN (g.1 14 0 a) 12 ∧ ∀ k, k < tn (g.1 14 0 a) → vp_in (g.1 15 0 (24 * a + k)) 24) ∧ ∀ f, f < 24 → g.1 7 0 f = -1 ∨ vp_in (g.1 7 0 f) 12
def mCt (g : kG) : Nat → Nat
  | 0 => 0
  | n + 1 => mCt g n + if g.1 22 0 n = 0 then 1 else 0
theorem mCt_le (g : kG) : ∀ n, mCt g n ≤ n
  | 0 => Nat.le_refl _
  | n + 1 => by
    have := mCt_le g n
    unfold mCt
    split <;> omega
theorem mCt_mono {g g' : kG} (h : ∀ j, g'.1 22 0 j = 0 → g.1 22 0 j = 0) : ∀ n, mCt g' n ≤ mCt g n
  | 0 => Nat.le_refl _
  | n + 1 => by
    have h1 := mCt_mono h n
    have h2 := h n
    unfold mCt
    by_cases q : g'.1 22 0 n = 0
    · rw [if_pos q, if_pos (h2 q)]; omega
    · rw [if_neg q]; omega
theorem mCt_lt {g g' : kG} (h : ∀ j, g'.1 22 0 j = 0 → g.1 22 0 j = 0) {k : Nat} (h1 : g.1 22 0 k = 0) (h2 : ¬ g'.1 22 0 k = 0) : ∀ n, k < n → mCt g' n < mCt g n
  | 0, hk => by omega
  | n + 1, hk => by
    have hm := mCt_mono h n
    unfold mCt
    by_cases e : k = n
    · subst e
      rw [if_neg h2, if_pos h1]; omega
    · have := mCt_lt h h1 h2 n (by omega)
      by_cases q : g'.1 22 0 n = 0
      · rw [if_pos q, if_pos (h n q)]; omega
      · rw [if_neg q]; omega
theorem kU22 (g : kG) (k : Nat) (v : Int32) (j : Nat) : kU g.1 22 0 k v 22 0 j = if j = k then v else g.1 22 0 j := by
  unfold kU
  by_cases e : j = k
  · rw [if_pos ⟨rfl, e, rfl⟩, if_pos e]
  · rw [if_neg (fun q => e q.2.1), if_neg e]
theorem mRd_fr : ∀ (n k : Nat) (mo : Int32) (g : kG) (q a j : Nat), q ≠ 22 → (mRd n k mo g).2.1 q a j = g.1 q a j ∧ (mRd n k mo g).2.2 = g.2
  | 0, k, mo, g, q, a, j, h => ⟨rfl, rfl⟩
  | n + 1, k, mo, g, q, a, j, h => by
    unfold mRd
    split
    · split
      · exact mRd_fr n _ _ _ q a j h
      · have h1 := mRd_fr n (k + 1) 1 (kU g.1 22 0 k 1, g.2) q a j h
        refine ⟨h1.1.trans ?_, h1.2⟩
        exact kU_n (fun e => h e.1)
    · exact mRd_fr n _ _ _ q a j h
theorem mRd_dn : ∀ (n k : Nat) (mo : Int32) (g : kG), k + n ≤ 12 → (∀ j, (mRd n k mo g).2.1 22 0 j = 0 → g.1 22 0 j = 0) ∧ ((mRd n k mo g).1 = mo ∨ mCt (mRd n k mo g).2 12 < mCt g 12)
  | 0, k, mo, g, hk => ⟨fun _ h => h, Or.inl rfl⟩
  | n + 1, k, mo, g, hk => by
    unfold mRd
    split
    next h0 =>
      split
      · exact mRd_dn n _ _ _ (by omega)
      · have h1 := mRd_dn n (k + 1) 1 (kU g.1 22 0 k 1, g.2) (by omega)
        have hd : ∀ j, (kU g.1 22 0 k 1, g.2).1 22 0 j = 0 → g.1 22 0 j = 0 := by
          intro j hj
          have hj2 : kU g.1 22 0 k 1 22 0 j = 0 := hj
          rw [kU22] at hj2
          split at hj2
          · exact absurd hj2 (by decide)
          · exact hj2
        refine ⟨fun j hj => hd j (h1.1 j hj), Or.inr ?_⟩
        have hlt := mCt_lt (g := g) (g' := (kU g.1 22 0 k 1, g.2)) hd h0 (k := k) (by show ¬ kU g.1 22 0 k 1 22 0 k = 0; rw [kU22, if_pos rfl]; decide) 12 (by omega)
        have hle := mCt_mono h1.1 12
        omega
    · exact mRd_dn n _ _ _ (by omega)
theorem mS_rd {g : kG} (h : mS g) (n k : Nat) (mo : Int32) : mS (mRd n k mo g).2 := by
  have e := fun q a j (hq : q ≠ 22) => (mRd_fr n k mo g q a j hq).1
  refine ⟨?_, fun a ha => ⟨?_, fun j hj => ?_⟩, fun f hf => ?_⟩
  · rw [e 0 0 3 (by decide)]; exact h.1
  · rw [e 14 0 a (by decide)]; exact (h.2.1 a ha).1
  · rw [e 14 0 a (by decide)] at hj
    rw [e 15 0 _ (by decide)]; exact (h.2.1 a ha).2 j hj
  · rw [e 7 0 f (by decide)]; exact h.2.2 f hf
set_option maxHeartbeats 4000000 in
set_option maxRecDepth 100000 in
theorem l_M_isSo {x : kCx} (l : Launch) (b : Nat → Nat → Nat) (dA : Nat → ClassId) (D : va_G) (g : kG) (n0 : Int32) (hn : vp_in n0 12) (c : Nat) (hc : g.1 14 0 (tn n0) = nI c) (h12 : c ≤ 12) (hf : ∀ k, k < c → vp_in (g.1 15 0 (24 * tn n0 + k)) 24) (hm : ∀ f, f < 24 → g.1 7 0 f = -1 ∨ vp_in (g.1 7 0 f) 12) (X : kIn (sysM b dA D) l b_M_isSo y_M_isSo.cls 6 (some .boolean) 0 0 x) : ∀ (n : Nat) (k : Nat) (s : Int32) (z4 z5 : Option kV), kZ s → k + n = c → Wk (kWd (sysM b dA D)) (kAA (sysM b dA D)) (y_ad (sysM b dA D)) x (0, 0) (kQ (sysM b dA D) (fun r g2 => r = some (.inl (mSo g (tn n0) n k s)) ∧ g2 = g) x) 18 [some (.inr (.inr (0, 0))), some (.inl n0), some (.inl s), some (.inl (nI k)), z4, z5] [] g := by
  have C := X.1
  have O := X.2.1
  intro n
  induction n with
  | zero =>
    intro k s z4 z5 hz hk
    refine k_iload_n C d_M_isSo_18 rfl rfl ?_
    refine k_aload_n C d_M_isSo_19 rfl rfl ?_
    refine k_getR C O (r := (14, _)) d_M_isSo_20 fl_M_39 mr_0 rfl rfl rfl rfl ?_
    refine k_iload_n C d_M_isSo_23 rfl rfl ?_
    refine k_iald2 C O d_M_isSo_24 mr_14 rfl 0 rfl hn rfl ?_
    refine k_icmp_ge C (tgt := 142) d_M_isSo_25 (by decide) (fun c25 => ?_) (fun c25 => ?_)
    · refine k_iload_n C d_M_isSo_142 rfl rfl ?_
      exact k_zret X d_M_isSo_143 hz (⟨rfl, rfl⟩)
    · exact absurd (x_ge hc (by omega) (by omega)) c25
  | succ n ih =>
    intro k s z4 z5 hz hk
    refine k_iload_n C d_M_isSo_18 rfl rfl ?_
    refine k_aload_n C d_M_isSo_19 rfl rfl ?_
    refine k_getR C O (r := (14, _)) d_M_isSo_20 fl_M_39 mr_0 rfl rfl rfl rfl ?_
    refine k_iload_n C d_M_isSo_23 rfl rfl ?_
    refine k_iald2 C O d_M_isSo_24 mr_14 rfl 0 rfl hn rfl ?_
    refine k_icmp_ge C (tgt := 142) d_M_isSo_25 (by decide) (fun c25 => ?_) (fun c25 => ?_)
    · exact absurd c25 (x_lt hc (by omega) (by omega))
    · refine k_iload_n C d_M_isSo_28 rfl rfl ?_
      refine k_if_eq C (tgt := 142) d_M_isSo_29 (by decide) (fun c29 => ?_) (fun c29 => ?_)
      · refine k_iload_n C d_M_isSo_142 rfl rfl ?_
        exact k_zret X d_M_isSo_143 hz (k_pi ((if_pos c29).trans (rfl)))
      · refine k_bipush C (v := 24) d_M_isSo_32 (by decide) ?_
        refine k_iload_n C d_M_isSo_34 rfl rfl ?_
        refine k_imul C d_M_isSo_35 ?_
        refine k_iload_n C d_M_isSo_36 rfl rfl ?_
        refine k_iadd C d_M_isSo_37 ?_
        refine k_istore C d_M_isSo_38 (Nat.le_of_ble_eq_true rfl) rfl ?_
        refine k_aload_n C d_M_isSo_40 rfl rfl ?_
        refine k_getR C O (r := (15, _)) d_M_isSo_41 fl_M_42 mr_0 rfl rfl rfl rfl ?_
        refine k_iload C d_M_isSo_44 rfl ?_
        refine k_iald2 C O (q := (24 * tn n0 + k)) d_M_isSo_46 mr_15 rfl 0 rfl (ix_in (L := 288) (c := 24) (N := 12) rfl hn (by decide) rfl (by decide) (by omega)) (ix_q (c := 24) (N := 12) rfl hn (by decide) rfl ⟨by decide, by omega⟩) ?_
        refine k_istore C d_M_isSo_47 (Nat.le_of_ble_eq_true rfl) rfl ?_
        refine k_aload_n C d_M_isSo_49 rfl rfl ?_
        refine k_getR C O (r := (5, _)) d_M_isSo_50 fl_M_7 mr_0 rfl rfl rfl rfl ?_
        refine k_iload C d_M_isSo_53 rfl ?_
        refine k_zald2 C O d_M_isSo_55 mr_5 rfl 1 rfl (hf k (by omega)) rfl ?_
        refine k_aload_n C d_M_isSo_56 rfl rfl ?_
        refine k_getR C O (r := (20, _)) d_M_isSo_57 fl_M_57 mr_0 rfl rfl rfl rfl ?_
        refine k_iload C d_M_isSo_60 rfl ?_
        refine k_zald2 C O (q := (24 * tn n0 + k)) d_M_isSo_62 mr_20 rfl 1 rfl (ix_in (L := 288) (c := 24) (N := 12) rfl hn (by decide) rfl (by decide) (by omega)) (ix_q (c := 24) (N := 12) rfl hn (by decide) rfl ⟨by decide, by omega⟩) ?_
        refine k_icmp_ne C (tgt := 134) d_M_isSo_63 (by decide) (fun c63 => ?_) (fun c63 => ?_)
        · refine k_iconst C (v := 0) d_M_isSo_134 (by decide) ?_
          refine k_istore_n C d_M_isSo_135 rfl (Nat.le_of_ble_eq_true rfl) rfl ?_
          refine k_iinc C (w := nI (k + 1)) d_M_isSo_136 rfl (nI_inc k) rfl ?_
          refine k_goto C (tgt := 18) d_M_isSo_139 (by decide) ?_
          exact k_Qi ((if_neg c29).trans ((if_neg c63).trans (rfl))) (ih (k + 1) _ _ _ (by first | exact Or.inl rfl | exact Or.inr rfl) (by omega))
        · refine k_aload_n C d_M_isSo_66 rfl rfl ?_
          refine k_getR C O (r := (21, _)) d_M_isSo_67 fl_M_60 mr_0 rfl rfl rfl rfl ?_
          refine k_iload C d_M_isSo_70 rfl ?_
          refine k_zald2 C O (q := (24 * tn n0 + k)) d_M_isSo_72 mr_21 rfl 1 rfl (ix_in (L := 288) (c := 24) (N := 12) rfl hn (by decide) rfl (by decide) (by omega)) (ix_q (c := 24) (N := 12) rfl hn (by decide) rfl ⟨by decide, by omega⟩) ?_
          refine k_if_eq C (tgt := 104) d_M_isSo_73 (by decide) (fun c73 => ?_) (fun c73 => ?_)
          · refine k_aload_n C d_M_isSo_104 rfl rfl ?_
            refine k_getR C O (r := (7, _)) d_M_isSo_105 fl_M_17 mr_0 rfl rfl rfl rfl ?_
            refine k_iload C d_M_isSo_108 rfl ?_
            refine k_iald2 C O d_M_isSo_110 mr_7 rfl 0 rfl (hf k (by omega)) rfl ?_
            refine k_iconst C (v := (-1)) d_M_isSo_111 (by decide) ?_
            refine k_icmp_eq C (tgt := 130) d_M_isSo_112 (by decide) (fun c112 => ?_) (fun c112 => ?_)
            · refine k_iconst C (v := 1) d_M_isSo_130 (by decide) ?_
              refine k_goto C (tgt := 135) d_M_isSo_131 (by decide) ?_
              refine k_istore_n C d_M_isSo_135 rfl (Nat.le_of_ble_eq_true rfl) rfl ?_
              refine k_iinc C (w := nI (k + 1)) d_M_isSo_136 rfl (nI_inc k) rfl ?_
              refine k_goto C (tgt := 18) d_M_isSo_139 (by decide) ?_
              exact k_Qi ((if_neg c29).trans ((if_pos c63).trans ((if_pos c73).trans ((if_pos c112).trans (rfl))))) (ih (k + 1) _ _ _ (by first | exact Or.inl rfl | exact Or.inr rfl) (by omega))
            · refine k_aload_n C d_M_isSo_115 rfl rfl ?_
              refine k_getR C O (r := (22, _)) d_M_isSo_116 fl_M_63 mr_0 rfl rfl rfl rfl ?_
              refine k_aload_n C d_M_isSo_119 rfl rfl ?_
              refine k_getR C O (r := (7, _)) d_M_isSo_120 fl_M_17 mr_0 rfl rfl rfl rfl ?_
              refine k_iload C d_M_isSo_123 rfl ?_
              refine k_iald2 C O d_M_isSo_125 mr_7 rfl 0 rfl (hf k (by omega)) rfl ?_
              refine k_zald2 C O d_M_isSo_126 mr_22 rfl 1 rfl ((hm _ (vi_lt (hf k (by omega)))).resolve_left c112) rfl ?_
              refine k_if_eq C (tgt := 134) d_M_isSo_127 (by decide) (fun c127 => ?_) (fun c127 => ?_)
              · refine k_iconst C (v := 0) d_M_isSo_134 (by decide) ?_
                refine k_istore_n C d_M_isSo_135 rfl (Nat.le_of_ble_eq_true rfl) rfl ?_
                refine k_iinc C (w := nI (k + 1)) d_M_isSo_136 rfl (nI_inc k) rfl ?_
                refine k_goto C (tgt := 18) d_M_isSo_139 (by decide) ?_
                exact k_Qi ((if_neg c29).trans ((if_pos c63).trans ((if_pos c73).trans ((if_neg c112).trans ((if_pos c127).trans (rfl)))))) (ih (k + 1) _ _ _ (by first | exact Or.inl rfl | exact Or.inr rfl) (by omega))
              · refine k_iconst C (v := 1) d_M_isSo_130 (by decide) ?_
                refine k_goto C (tgt := 135) d_M_isSo_131 (by decide) ?_
                refine k_istore_n C d_M_isSo_135 rfl (Nat.le_of_ble_eq_true rfl) rfl ?_
                refine k_iinc C (w := nI (k + 1)) d_M_isSo_136 rfl (nI_inc k) rfl ?_
                refine k_goto C (tgt := 18) d_M_isSo_139 (by decide) ?_
                exact k_Qi ((if_neg c29).trans ((if_pos c63).trans ((if_pos c73).trans ((if_neg c112).trans ((if_neg c127).trans (rfl)))))) (ih (k + 1) _ _ _ (by first | exact Or.inl rfl | exact Or.inr rfl) (by omega))
          · refine k_aload_n C d_M_isSo_76 rfl rfl ?_
            refine k_getR C O (r := (5, _)) d_M_isSo_77 fl_M_7 mr_0 rfl rfl rfl rfl ?_
            refine k_iload C d_M_isSo_80 rfl ?_
            refine k_zald2 C O d_M_isSo_82 mr_5 rfl 1 rfl (hf k (by omega)) rfl ?_
            refine k_if_eq C (tgt := 104) d_M_isSo_83 (by decide) (fun c83 => ?_) (fun c83 => ?_)
            · refine k_aload_n C d_M_isSo_104 rfl rfl ?_
              refine k_getR C O (r := (7, _)) d_M_isSo_105 fl_M_17 mr_0 rfl rfl rfl rfl ?_
              refine k_iload C d_M_isSo_108 rfl ?_
              refine k_iald2 C O d_M_isSo_110 mr_7 rfl 0 rfl (hf k (by omega)) rfl ?_
              refine k_iconst C (v := (-1)) d_M_isSo_111 (by decide) ?_
              refine k_icmp_eq C (tgt := 130) d_M_isSo_112 (by decide) (fun c112 => ?_) (fun c112 => ?_)
              · refine k_iconst C (v := 1) d_M_isSo_130 (by decide) ?_
                refine k_goto C (tgt := 135) d_M_isSo_131 (by decide) ?_
                refine k_istore_n C d_M_isSo_135 rfl (Nat.le_of_ble_eq_true rfl) rfl ?_
                refine k_iinc C (w := nI (k + 1)) d_M_isSo_136 rfl (nI_inc k) rfl ?_
                refine k_goto C (tgt := 18) d_M_isSo_139 (by decide) ?_
                exact k_Qi ((if_neg c29).trans ((if_pos c63).trans ((if_neg c73).trans ((if_pos c83).trans ((if_pos c112).trans (rfl)))))) (ih (k + 1) _ _ _ (by first | exact Or.inl rfl | exact Or.inr rfl) (by omega))
              · refine k_aload_n C d_M_isSo_115 rfl rfl ?_
                refine k_getR C O (r := (22, _)) d_M_isSo_116 fl_M_63 mr_0 rfl rfl rfl rfl ?_
                refine k_aload_n C d_M_isSo_119 rfl rfl ?_
                refine k_getR C O (r := (7, _)) d_M_isSo_120 fl_M_17 mr_0 rfl rfl rfl rfl ?_
                refine k_iload C d_M_isSo_123 rfl ?_
                refine k_iald2 C O d_M_isSo_125 mr_7 rfl 0 rfl (hf k (by omega)) rfl ?_
                refine k_zald2 C O d_M_isSo_126 mr_22 rfl 1 rfl ((hm _ (vi_lt (hf k (by omega)))).resolve_left c112) rfl ?_
                refine k_if_eq C (tgt := 134) d_M_isSo_127 (by decide) (fun c127 => ?_) (fun c127 => ?_)
                · refine k_iconst C (v := 0) d_M_isSo_134 (by decide) ?_
                  refine k_istore_n C d_M_isSo_135 rfl (Nat.le_of_ble_eq_true rfl) rfl ?_
                  refine k_iinc C (w := nI (k + 1)) d_M_isSo_136 rfl (nI_inc k) rfl ?_
                  refine k_goto C (tgt := 18) d_M_isSo_139 (by decide) ?_
                  exact k_Qi ((if_neg c29).trans ((if_pos c63).trans ((if_neg c73).trans ((if_pos c83).trans ((if_neg c112).trans ((if_pos c127).trans (rfl))))))) (ih (k + 1) _ _ _ (by first | exact Or.inl rfl | exact Or.inr rfl) (by omega))
                · refine k_iconst C (v := 1) d_M_isSo_130 (by decide) ?_
                  refine k_goto C (tgt := 135) d_M_isSo_131 (by decide) ?_
                  refine k_istore_n C d_M_isSo_135 rfl (Nat.le_of_ble_eq_true rfl) rfl ?_
                  refine k_iinc C (w := nI (k + 1)) d_M_isSo_136 rfl (nI_inc k) rfl ?_
                  refine k_goto C (tgt := 18) d_M_isSo_139 (by decide) ?_
                  exact k_Qi ((if_neg c29).trans ((if_pos c63).trans ((if_neg c73).trans ((if_pos c83).trans ((if_neg c112).trans ((if_neg c127).trans (rfl))))))) (ih (k + 1) _ _ _ (by first | exact Or.inl rfl | exact Or.inr rfl) (by omega))
            · refine k_aload_n C d_M_isSo_86 rfl rfl ?_
              refine k_getR C O (r := (6, _)) d_M_isSo_87 fl_M_13 mr_0 rfl rfl rfl rfl ?_
              refine k_iload C d_M_isSo_90 rfl ?_
              refine k_lald2 C O d_M_isSo_92 mr_6 rfl 2 rfl (hf k (by omega)) rfl ?_
              refine k_aload_n C d_M_isSo_93 rfl rfl ?_
              refine k_getR C O (r := (23, _)) d_M_isSo_94 fl_M_66 mr_0 rfl rfl rfl rfl ?_
              refine k_iload C d_M_isSo_97 rfl ?_
              refine k_lald2 C O (q := (24 * tn n0 + k)) d_M_isSo_99 mr_23 rfl 2 rfl (ix_in (L := 288) (c := 24) (N := 12) rfl hn (by decide) rfl (by decide) (by omega)) (ix_q (c := 24) (N := 12) rfl hn (by decide) rfl ⟨by decide, by omega⟩) ?_
              refine k_lcmp C d_M_isSo_100 ?_
              refine k_if_ne C (tgt := 134) d_M_isSo_101 (by decide) (fun c101 => ?_) (fun c101 => ?_)
              · refine k_iconst C (v := 0) d_M_isSo_134 (by decide) ?_
                refine k_istore_n C d_M_isSo_135 rfl (Nat.le_of_ble_eq_true rfl) rfl ?_
                refine k_iinc C (w := nI (k + 1)) d_M_isSo_136 rfl (nI_inc k) rfl ?_
                refine k_goto C (tgt := 18) d_M_isSo_139 (by decide) ?_
                exact k_Qi ((if_neg c29).trans ((if_pos c63).trans ((if_neg c73).trans ((if_neg c83).trans ((if_neg c101).trans (rfl)))))) (ih (k + 1) _ _ _ (by first | exact Or.inl rfl | exact Or.inr rfl) (by omega))
              · refine k_aload_n C d_M_isSo_104 rfl rfl ?_
                refine k_getR C O (r := (7, _)) d_M_isSo_105 fl_M_17 mr_0 rfl rfl rfl rfl ?_
                refine k_iload C d_M_isSo_108 rfl ?_
                refine k_iald2 C O d_M_isSo_110 mr_7 rfl 0 rfl (hf k (by omega)) rfl ?_
                refine k_iconst C (v := (-1)) d_M_isSo_111 (by decide) ?_
                refine k_icmp_eq C (tgt := 130) d_M_isSo_112 (by decide) (fun c112 => ?_) (fun c112 => ?_)
                · refine k_iconst C (v := 1) d_M_isSo_130 (by decide) ?_
                  refine k_goto C (tgt := 135) d_M_isSo_131 (by decide) ?_
                  refine k_istore_n C d_M_isSo_135 rfl (Nat.le_of_ble_eq_true rfl) rfl ?_
                  refine k_iinc C (w := nI (k + 1)) d_M_isSo_136 rfl (nI_inc k) rfl ?_
                  refine k_goto C (tgt := 18) d_M_isSo_139 (by decide) ?_
                  exact k_Qi ((if_neg c29).trans ((if_pos c63).trans ((if_neg c73).trans ((if_neg c83).trans ((if_pos c101).trans ((if_pos c112).trans (rfl))))))) (ih (k + 1) _ _ _ (by first | exact Or.inl rfl | exact Or.inr rfl) (by omega))
                · refine k_aload_n C d_M_isSo_115 rfl rfl ?_
                  refine k_getR C O (r := (22, _)) d_M_isSo_116 fl_M_63 mr_0 rfl rfl rfl rfl ?_
                  refine k_aload_n C d_M_isSo_119 rfl rfl ?_
                  refine k_getR C O (r := (7, _)) d_M_isSo_120 fl_M_17 mr_0 rfl rfl rfl rfl ?_
                  refine k_iload C d_M_isSo_123 rfl ?_
                  refine k_iald2 C O d_M_isSo_125 mr_7 rfl 0 rfl (hf k (by omega)) rfl ?_
                  refine k_zald2 C O d_M_isSo_126 mr_22 rfl 1 rfl ((hm _ (vi_lt (hf k (by omega)))).resolve_left c112) rfl ?_
                  refine k_if_eq C (tgt := 134) d_M_isSo_127 (by decide) (fun c127 => ?_) (fun c127 => ?_)
                  · refine k_iconst C (v := 0) d_M_isSo_134 (by decide) ?_
                    refine k_istore_n C d_M_isSo_135 rfl (Nat.le_of_ble_eq_true rfl) rfl ?_
                    refine k_iinc C (w := nI (k + 1)) d_M_isSo_136 rfl (nI_inc k) rfl ?_
                    refine k_goto C (tgt := 18) d_M_isSo_139 (by decide) ?_
                    exact k_Qi ((if_neg c29).trans ((if_pos c63).trans ((if_neg c73).trans ((if_neg c83).trans ((if_pos c101).trans ((if_neg c112).trans ((if_pos c127).trans (rfl)))))))) (ih (k + 1) _ _ _ (by first | exact Or.inl rfl | exact Or.inr rfl) (by omega))
                  · refine k_iconst C (v := 1) d_M_isSo_130 (by decide) ?_
                    refine k_goto C (tgt := 135) d_M_isSo_131 (by decide) ?_
                    refine k_istore_n C d_M_isSo_135 rfl (Nat.le_of_ble_eq_true rfl) rfl ?_
                    refine k_iinc C (w := nI (k + 1)) d_M_isSo_136 rfl (nI_inc k) rfl ?_
                    refine k_goto C (tgt := 18) d_M_isSo_139 (by decide) ?_
                    exact k_Qi ((if_neg c29).trans ((if_pos c63).trans ((if_neg c73).trans ((if_neg c83).trans ((if_pos c101).trans ((if_neg c112).trans ((if_neg c127).trans (rfl)))))))) (ih (k + 1) _ _ _ (by first | exact Or.inl rfl | exact Or.inr rfl) (by omega))

set_option maxHeartbeats 4000000 in
set_option maxRecDepth 100000 in
theorem c_M_isSo (l : Launch) (b : Nat → Nat → Nat) (dA : Nat → ClassId) (D : va_G) (g : kG) (n0 : Int32) (hn : vp_in n0 12) (hS : mS g) : kMd (sysM b dA D) l y_M_isSo b_M_isSo 6 (some .boolean) 0 0 [.inr (.inr (0, 0)), .inl n0] g (some (.inl (mIsSo g (tn n0)))) g := by
  refine k_enter (by decide) [some (.inr (.inr (0, 0))), some (.inl n0), none, none, none, none] rfl rfl (Nat.le_of_ble_eq_true rfl) (fun x X => ?_)
  have C := X.1
  have O := X.2.1
  refine k_aload_n C d_M_isSo_0 rfl rfl ?_
  refine k_getR C O (r := (13, _)) d_M_isSo_1 fl_M_36 mr_0 rfl rfl rfl rfl ?_
  refine k_iload_n C d_M_isSo_4 rfl rfl ?_
  refine k_iald2 C O d_M_isSo_5 mr_13 rfl 0 rfl hn rfl ?_
  refine k_iconst C (v := 2) d_M_isSo_6 (by decide) ?_
  refine k_icmp_eq C (tgt := 14) d_M_isSo_7 (by decide) (fun c7 => ?_) (fun c7 => ?_)
  · refine k_iconst C (v := 0) d_M_isSo_14 (by decide) ?_
    refine k_istore_n C d_M_isSo_15 rfl (Nat.le_of_ble_eq_true rfl) rfl ?_
    refine k_iconst C (v := 0) d_M_isSo_16 (by decide) ?_
    refine k_istore_n C d_M_isSo_17 rfl (Nat.le_of_ble_eq_true rfl) rfl ?_
    exact k_Qi ((if_pos c7).trans rfl) (l_M_isSo l b dA D g n0 hn (tn (g.1 14 0 (tn n0))) (hS.2.1 _ (vi_lt hn)).1.1 (hS.2.1 _ (vi_lt hn)).1.2 (hS.2.1 _ (vi_lt hn)).2 hS.2.2 X (tn (g.1 14 0 (tn n0))) 0 _ none none (by first | exact Or.inl rfl | exact Or.inr rfl) (by omega))
  · refine k_iconst C (v := 1) d_M_isSo_10 (by decide) ?_
    refine k_goto C (tgt := 15) d_M_isSo_11 (by decide) ?_
    refine k_istore_n C d_M_isSo_15 rfl (Nat.le_of_ble_eq_true rfl) rfl ?_
    refine k_iconst C (v := 0) d_M_isSo_16 (by decide) ?_
    refine k_istore_n C d_M_isSo_17 rfl (Nat.le_of_ble_eq_true rfl) rfl ?_
    exact k_Qi ((if_neg c7).trans rfl) (l_M_isSo l b dA D g n0 hn (tn (g.1 14 0 (tn n0))) (hS.2.1 _ (vi_lt hn)).1.1 (hS.2.1 _ (vi_lt hn)).1.2 (hS.2.1 _ (vi_lt hn)).2 hS.2.2 X (tn (g.1 14 0 (tn n0))) 0 _ none none (by first | exact Or.inl rfl | exact Or.inr rfl) (by omega))

set_option maxHeartbeats 4000000 in
set_option maxRecDepth 100000 in
theorem l_M_clr {x : kCx} {Q : State → Prop} (l : Launch) (b : Nat → Nat → Nat) (dA : Nat → ClassId) (D : va_G)  (X : kIn (sysM b dA D) l b_M_freshen y_M_freshen.cls 3 none 1 25 x) : ∀ (n : Nat) (k : Nat) (g : kG) (z2 : Option kV), k + n = 12 → (Wk (kWd (sysM b dA D)) (kAA (sysM b dA D)) (y_ad (sysM b dA D)) x (0, 0) Q 21 [some (.inr (.inr (0, 0))), some (.inl (nI 12)), z2] [] (mClr n k g)) → Wk (kWd (sysM b dA D)) (kAA (sysM b dA D)) (y_ad (sysM b dA D)) x (0, 0) Q 2 [some (.inr (.inr (0, 0))), some (.inl (nI k)), z2] [] g := by
  have C := X.1
  have O := X.2.1
  intro n
  induction n with
  | zero =>
    intro k g z2 hk K
    refine k_iload_n C d_M_freshen_2 rfl rfl ?_
    refine k_bipush C (v := 12) d_M_freshen_3 (by decide) ?_
    refine k_icmp_ge C (tgt := 21) d_M_freshen_5 (by decide) (fun c5 => ?_) (fun c5 => ?_)
    · have e9 : k = 12 := by omega
      rw [e9]
      exact K
    · exact absurd (show (12 : Int32) ≤ nI k from nI_le (a := 12) (by omega) (by omega)) c5
  | succ n ih =>
    intro k g z2 hk K
    refine k_iload_n C d_M_freshen_2 rfl rfl ?_
    refine k_bipush C (v := 12) d_M_freshen_3 (by decide) ?_
    refine k_icmp_ge C (tgt := 21) d_M_freshen_5 (by decide) (fun c5 => ?_) (fun c5 => ?_)
    · exact absurd c5 (show ¬ (12 : Int32) ≤ nI k from nI_ge (b := 12) (by omega) (by omega))
    · refine k_aload_n C d_M_freshen_8 rfl rfl ?_
      refine k_getR C O (r := (22, _)) d_M_freshen_9 fl_M_63 mr_0 rfl rfl rfl rfl ?_
      refine k_iload_n C d_M_freshen_12 rfl rfl ?_
      refine k_iconst C (v := 0) d_M_freshen_13 (by decide) ?_
      refine k_zast2 C O (q := k) d_M_freshen_14 (Or.inl rfl) mr_22 rfl 1 rfl (show vp_in (nI k) 12 from vp_in_nI (by omega) (by decide)) (nI_clamp (by omega)) ?_
      refine k_iinc C (w := nI (k + 1)) d_M_freshen_15 rfl (nI_inc k) rfl ?_
      refine k_goto C (tgt := 2) d_M_freshen_18 (by decide) ?_
      exact ih (k + 1) _ z2 (by omega) K

set_option maxHeartbeats 4000000 in
set_option maxRecDepth 100000 in
theorem l_M_rd {x : kCx} {Q : State → Prop} (l : Launch) (b : Nat → Nat → Nat) (dA : Nat → ClassId) (D : va_G) (na : Nat) (h12 : na ≤ 12) (X : kIn (sysM b dA D) l b_M_freshen y_M_freshen.cls 3 none 1 25 x) : ∀ (n : Nat) (k : Nat) (mo : Int32) (g : kG), k + n = na → g.1 0 0 3 = nI na → mS g → (Wk (kWd (sysM b dA D)) (kAA (sysM b dA D)) (y_ad (sysM b dA D)) x (0, 0) Q 74 [some (.inr (.inr (0, 0))), some (.inl (mRd n k mo g).1), some (.inl (nI na))] [] (mRd n k mo g).2) → Wk (kWd (sysM b dA D)) (kAA (sysM b dA D)) (y_ad (sysM b dA D)) x (0, 0) Q 31 [some (.inr (.inr (0, 0))), some (.inl mo), some (.inl (nI k))] [] g := by
  have C := X.1
  have O := X.2.1
  intro n
  induction n with
  | zero =>
    intro k mo g hk ha hS K
    refine k_iload_n C d_M_freshen_31 rfl rfl ?_
    refine k_aload_n C d_M_freshen_32 rfl rfl ?_
    refine k_getI C O d_M_freshen_33 fl_M_100 mr_0 rfl rfl rfl ?_
    refine k_icmp_ge C (tgt := 74) d_M_freshen_36 (by decide) (fun c36 => ?_) (fun c36 => ?_)
    · have e9 : k = na := by omega
      rw [e9]
      exact K
    · exact absurd (x_ge ha (by omega) (by omega)) c36
  | succ n ih =>
    intro k mo g hk ha hS K
    refine k_iload_n C d_M_freshen_31 rfl rfl ?_
    refine k_aload_n C d_M_freshen_32 rfl rfl ?_
    refine k_getI C O d_M_freshen_33 fl_M_100 mr_0 rfl rfl rfl ?_
    refine k_icmp_ge C (tgt := 74) d_M_freshen_36 (by decide) (fun c36 => ?_) (fun c36 => ?_)
    · exact absurd c36 (x_lt ha (by omega) (by omega))
    · refine k_aload_n C d_M_freshen_39 rfl rfl ?_
      refine k_getR C O (r := (22, _)) d_M_freshen_40 fl_M_63 mr_0 rfl rfl rfl rfl ?_
      refine k_iload_n C d_M_freshen_43 rfl rfl ?_
      refine k_zald2 C O (q := k) d_M_freshen_44 mr_22 rfl 1 rfl (show vp_in (nI k) 12 from vp_in_nI (by omega) (by decide)) (nI_clamp (by omega)) ?_
      refine k_if_ne C (tgt := 68) d_M_freshen_45 (by decide) (fun c45 => ?_) (fun c45 => ?_)
      · refine k_iinc C (w := nI (k + 1)) d_M_freshen_68 rfl (nI_inc k) rfl ?_
        refine k_goto C (tgt := 31) d_M_freshen_71 (by decide) ?_
        have e9 : tn (nI k) = k := nI_clamp (by omega)
        simp only [mRd, if_neg c45] at K
        exact ih (k + 1) _ _ (by omega) ha hS K
      · refine k_aload_n C d_M_freshen_48 rfl rfl ?_
        refine k_iload_n C d_M_freshen_49 rfl rfl ?_
        refine k_cvI X d_M_freshen_50 (c_M_isSo l b dA D g (nI k) (show vp_in (nI k) 12 from vp_in_nI (by omega) (by decide)) hS) cv_M_114 mr_0 rfl rfl ⟨by decide, by decide⟩ rfl rfl (Nat.le_of_ble_eq_true rfl) ?_
        refine k_if_ne C (tgt := 59) d_M_freshen_53 (by decide) (fun c53 => ?_) (fun c53 => ?_)
        · refine k_aload_n C d_M_freshen_59 rfl rfl ?_
          refine k_getR C O (r := (22, _)) d_M_freshen_60 fl_M_63 mr_0 rfl rfl rfl rfl ?_
          refine k_iload_n C d_M_freshen_63 rfl rfl ?_
          refine k_iconst C (v := 1) d_M_freshen_64 (by decide) ?_
          refine k_zast2 C O (q := k) d_M_freshen_65 (Or.inr rfl) mr_22 rfl 1 rfl (show vp_in (nI k) 12 from vp_in_nI (by omega) (by decide)) (nI_clamp (by omega)) ?_
          refine k_iconst C (v := 1) d_M_freshen_66 (by decide) ?_
          refine k_istore_n C d_M_freshen_67 rfl (Nat.le_of_ble_eq_true rfl) rfl ?_
          refine k_iinc C (w := nI (k + 1)) d_M_freshen_68 rfl (nI_inc k) rfl ?_
          refine k_goto C (tgt := 31) d_M_freshen_71 (by decide) ?_
          have e9 : tn (nI k) = k := nI_clamp (by omega)
          rw [e9] at c53
          simp only [mRd, if_pos c45, if_neg c53] at K
          exact ih (k + 1) _ _ (by omega) ha hS K
        · refine k_goto C (tgt := 68) d_M_freshen_56 (by decide) ?_
          refine k_iinc C (w := nI (k + 1)) d_M_freshen_68 rfl (nI_inc k) rfl ?_
          refine k_goto C (tgt := 31) d_M_freshen_71 (by decide) ?_
          have e9 : tn (nI k) = k := nI_clamp (by omega)
          rw [e9] at c53
          simp only [mRd, if_pos c45, if_pos c53] at K
          exact ih (k + 1) _ _ (by omega) ha hS K

set_option maxHeartbeats 4000000 in
set_option maxRecDepth 100000 in
theorem l_M_fw {x : kCx} (l : Launch) (b : Nat → Nat → Nat) (dA : Nat → ClassId) (D : va_G) (na : Nat) (h12 : na ≤ 12) (X : kIn (sysM b dA D) l b_M_freshen y_M_freshen.cls 3 none 1 25 x) : ∀ (n : Nat) (mo : Int32) (g : kG) (z2 : Option kV), mo = 0 ∨ mCt g 12 < n → g.1 0 0 3 = nI na → mS g → Wk (kWd (sysM b dA D)) (kAA (sysM b dA D)) (y_ad (sysM b dA D)) x (0, 0) (kQ (sysM b dA D) (fun r g2 => r = none ∧ g2 = (mFv na n mo g)) x) 23 [some (.inr (.inr (0, 0))), some (.inl mo), z2] [] g := by
  have C := X.1
  have O := X.2.1
  intro n
  induction n with
  | zero =>
    intro mo g z2 hc ha hS
    refine k_iload_n C d_M_freshen_23 rfl rfl ?_
    refine k_if_eq C (tgt := 77) d_M_freshen_24 (by decide) (fun c24 => ?_) (fun c24 => ?_)
    · exact k_vret X d_M_freshen_77 (⟨rfl, rfl⟩)
    · exact absurd (hc.resolve_right (by omega)) c24
  | succ n ih =>
    intro mo g z2 hc ha hS
    refine k_iload_n C d_M_freshen_23 rfl rfl ?_
    refine k_if_eq C (tgt := 77) d_M_freshen_24 (by decide) (fun c24 => ?_) (fun c24 => ?_)
    · exact k_vret X d_M_freshen_77 (k_pv ((if_pos c24).trans (rfl)))
    · have h0 := hc.resolve_left c24
      have h1 := (mRd_dn na 0 0 g (by omega)).2
      refine k_iconst C (v := 0) d_M_freshen_27 (by decide) ?_
      refine k_istore_n C d_M_freshen_28 rfl (Nat.le_of_ble_eq_true rfl) rfl ?_
      refine k_iconst C (v := 0) d_M_freshen_29 (by decide) ?_
      refine k_istore_n C d_M_freshen_30 rfl (Nat.le_of_ble_eq_true rfl) rfl ?_
      refine l_M_rd l b dA D na h12 X na 0 0 g (by omega) ha hS ?_
      refine k_goto C (tgt := 23) d_M_freshen_74 (by decide) ?_
      exact k_Qv ((if_neg c24).trans rfl) (ih _ _ _ (by rcases h1 with q | q; exact Or.inl q; exact Or.inr (by omega)) (by rw [(mRd_fr na 0 0 g 0 0 3 (by decide)).1]; exact ha) (mS_rd hS na 0 0))

theorem mS_clr {g : kG} (h : mS g) : mS (mClr 12 0 g) := by
  have e := fun q a j (hq : q ≠ 22) => mClr_fr 12 0 g q a j hq
  refine ⟨?_, fun a ha => ⟨?_, fun j hj => ?_⟩, fun f hf => ?_⟩
  · rw [e 0 0 3 (by decide)]; exact h.1
  · rw [e 14 0 a (by decide)]; exact (h.2.1 a ha).1
  · rw [e 14 0 a (by decide)] at hj
    rw [e 15 0 _ (by decide)]; exact (h.2.1 a ha).2 j hj
  · rw [e 7 0 f (by decide)]; exact h.2.2 f hf
set_option maxHeartbeats 4000000 in
set_option maxRecDepth 100000 in
theorem c_M_freshen (l : Launch) (b : Nat → Nat → Nat) (dA : Nat → ClassId) (D : va_G) (g : kG) (hS : mS g) : kMd (sysM b dA D) l y_M_freshen b_M_freshen 3 none 1 25 [.inr (.inr (0, 0))] g none (mFr g) := by
  refine k_enter (by decide) [some (.inr (.inr (0, 0))), none, none] rfl rfl (Nat.le_of_ble_eq_true rfl) (fun x X => ?_)
  have C := X.1
  have O := X.2.1
  refine k_iconst C (v := 0) d_M_freshen_0 (by decide) ?_
  refine k_istore_n C d_M_freshen_1 rfl (Nat.le_of_ble_eq_true rfl) rfl ?_
  refine l_M_clr l b dA D X 12 0 g none (by omega) ?_
  refine k_iconst C (v := 1) d_M_freshen_21 (by decide) ?_
  refine k_istore_n C d_M_freshen_22 rfl (Nat.le_of_ble_eq_true rfl) rfl ?_
  exact l_M_fw l b dA D (tn (g.1 0 0 3)) hS.1.2 X 13 1 (mClr 12 0 g) none (Or.inr (by have := mCt_le (mClr 12 0 g) 12; omega)) (by rw [mClr_fr 12 0 g 0 0 3 (by decide)]; exact hS.1.1) (mS_clr hS)

def mNow (g : kG) (n : Int32) : Int32 := (mFr g).1 22 0 (tn n)
theorem mRd_Z : ∀ (n k : Nat) (mo : Int32) (g : kG), (∀ j, kZ (g.1 22 0 j)) → ∀ j, kZ ((mRd n k mo g).2.1 22 0 j)
  | 0, k, mo, g, h, j => h j
  | n + 1, k, mo, g, h, j => by
    unfold mRd
    split
    · split
      · exact mRd_Z n _ _ _ h j
      · refine mRd_Z n _ _ _ (fun j => ?_) j
        show kZ (kU g.1 22 0 k 1 22 0 j)
        rw [kU22]
        split
        · exact Or.inr rfl
        · exact h j
    · exact mRd_Z n _ _ _ h j
theorem mFv_Z (na : Nat) : ∀ (n : Nat) (mo : Int32) (g : kG), (∀ j, kZ (g.1 22 0 j)) → ∀ j, kZ ((mFv na n mo g).1 22 0 j)
  | 0, mo, g, h, j => h j
  | n + 1, mo, g, h, j => by
    unfold mFv
    split
    · exact h j
    · exact mFv_Z na n _ _ (mRd_Z na 0 0 g h) j
theorem mClr_Z : ∀ (n k : Nat) (g : kG), (∀ j, kZ (g.1 22 0 j)) → ∀ j, kZ ((mClr n k g).1 22 0 j)
  | 0, k, g, h, j => h j
  | n + 1, k, g, h, j => by
    unfold mClr
    refine mClr_Z n _ _ (fun j => ?_) j
    show kZ (kU g.1 22 0 k 0 22 0 j)
    rw [kU22]
    split
    · exact Or.inl rfl
    · exact h j
set_option maxHeartbeats 4000000 in
set_option maxRecDepth 100000 in
theorem c_M_isFreshNow (l : Launch) (b : Nat → Nat → Nat) (dA : Nat → ClassId) (D : va_G) (g : kG) (n : Int32) (hn : vp_in n 12) (hS : mS g) (hz : ∀ j, kZ (g.1 22 0 j)) : kMd (sysM b dA D) l y_M_isFreshNow b_M_isFreshNow 2 (some .boolean) 2 47 [.inr (.inr (0, 0)), .inl n] g (some (.inl (mNow g n))) (mFr g) := by
  refine k_enter (by decide) [some (.inr (.inr (0, 0))), some (.inl n)] rfl rfl (Nat.le_of_ble_eq_true rfl) (fun x X => ?_)
  have C := X.1
  have O := X.2.1
  refine k_aload_n C d_M_isFreshNow_0 rfl rfl ?_
  refine k_cvV X d_M_isFreshNow_1 (c_M_freshen l b dA D g hS) cv_M_117 mr_0 rfl rfl ⟨by decide, by decide⟩ rfl rfl (Nat.le_of_ble_eq_true rfl) ?_
  refine k_aload_n C d_M_isFreshNow_4 rfl rfl ?_
  refine k_getR C O (r := (22, _)) d_M_isFreshNow_5 fl_M_63 mr_0 rfl rfl rfl rfl ?_
  refine k_iload_n C d_M_isFreshNow_8 rfl rfl ?_
  refine k_zald2 C O d_M_isFreshNow_9 mr_22 rfl 1 rfl hn rfl ?_
  exact k_zret X d_M_isFreshNow_10 (mFv_Z _ _ _ _ (mClr_Z _ _ _ hz) _) (k_pi (rfl))
end
section
/-! the reference: specs and contracts, 3: notes, rows, runs (by program: wip/gen/cm3.py) -/
def mPl (g : kG) (a : Nat) (f : Int32) : Nat → Nat → Nat
  | 0, k => k
  | n + 1, k => if g.1 15 0 (24 * a + k) = f then k else mPl g a f n (k + 1)
theorem mPl_le (g : kG) (a : Nat) (f : Int32) : ∀ n k, k ≤ mPl g a f n k ∧ mPl g a f n k ≤ k + n
  | 0, k => ⟨Nat.le_refl _, Nat.le_refl _⟩
  | n + 1, k => by
    unfold mPl
    split
    · omega
    · have := mPl_le g a f n (k + 1)
      omega
def mNt0 (g : kG) (a p : Nat) (f : Int32) : kG := (kU (kU (kU g.1 15 0 (24 * a + p) f) 21 0 (24 * a + p) 0) 14 0 a (g.1 14 0 a + 1), g.2)
def mNt1 (g : kG) (e f : Nat) (rd : Int32) : kG := if kU g.1 20 0 e (g.1 5 0 f) 21 0 e = 0 then (if rd = 0 then (kU (kU g.1 20 0 e (g.1 5 0 f)) 21 0 e 0, kUJ g.2 23 0 e (g.2 6 0 f)) else (kU (kU g.1 20 0 e (g.1 5 0 f)) 21 0 e 1, kUJ g.2 23 0 e (g.2 6 0 f))) else (kU (kU g.1 20 0 e (g.1 5 0 f)) 21 0 e 1, kUJ g.2 23 0 e (g.2 6 0 f))
def mNtAt (g : kG) (a p : Nat) (f rd : Int32) : kG := if nI p = g.1 14 0 a then mNt1 (mNt0 g a p f) (24 * a + p) (tn f) rd else mNt1 g (24 * a + p) (tn f) rd
def mNote (g : kG) (a : Nat) (f rd : Int32) : kG := mNtAt g a (mPl g a f (tn (g.1 14 0 a)) 0) f rd
def mLk2 (g : kG) (kd : Int32) (f : Nat) : Int32 × kG := if kd = 0 then (if g.1 5 0 f = 0 then (-3, g) else (1, (g.1, kUJ (kUJ g.2 0 0 33 (g.2 6 0 f)) 0 0 32 (31 * g.2 0 0 32 + g.2 6 0 f)))) else (if g.1 5 0 f = 0 then (1, (g.1, kUJ g.2 0 0 32 (31 * g.2 0 0 32 + 2))) else (1, (g.1, kUJ g.2 0 0 32 (31 * g.2 0 0 32 + 1))))
def mLk1 (g : kG) (a : Nat) (kd f : Int32) : Int32 × kG := if kd = 0 then (if (mNote g a f 1).1 5 0 (tn f) = 0 then (-3, mNote g a f 1) else (1, ((mNote g a f 1).1, kUJ (kUJ (mNote g a f 1).2 0 0 33 ((mNote g a f 1).2 6 0 (tn f))) 0 0 32 (31 * (mNote g a f 1).2 0 0 32 + (mNote g a f 1).2 6 0 (tn f))))) else (if (mNote g a f 0).1 5 0 (tn f) = 0 then (1, ((mNote g a f 0).1, kUJ (mNote g a f 0).2 0 0 32 (31 * (mNote g a f 0).2 0 0 32 + 2))) else (1, ((mNote g a f 0).1, kUJ (mNote g a f 0).2 0 0 32 (31 * (mNote g a f 0).2 0 0 32 + 1))))
def mLook (g : kG) (a : Nat) (kd f : Int32) : Int32 × kG := if (g.1 8 0 a >>> (f &&& 31)) &&& 1 = 0 then (-1, g) else if g.1 7 0 (tn f) = -1 then mLk1 g a kd f else if g.1 22 0 (tn (g.1 7 0 (tn f))) = 0 then (0, (kU g.1 19 0 a f, g.2)) else mLk1 g a kd f
def mRows (a : Nat) : Nat → Nat → kG → Int32 × kG
  | 0, _, g => (1, g)
  | n + 1, k, g => if g.1 10 0 a ≤ nI k then (1, g) else if g.1 11 0 (12 * a + k) = 2 then (if lg_cmp (g.2 0 0 33 &&& 1) 1 = 0 then mRows a n (k + 1 + tn (g.1 12 0 (12 * a + k))) g else mRows a n (k + 1) g) else if (mLook g a (g.1 11 0 (12 * a + k)) (g.1 12 0 (12 * a + k))).1 = 1 then mRows a n (k + 1) (mLook g a (g.1 11 0 (12 * a + k)) (g.1 12 0 (12 * a + k))).2 else mLook g a (g.1 11 0 (12 * a + k)) (g.1 12 0 (12 * a + k))
def mTry0 (g : kG) (a : Nat) : kG := (kU (kU g.1 14 0 a 0) 13 0 a 2, kUJ (kUJ g.2 0 0 32 7) 0 0 33 0)
def mTry (g : kG) (a : Nat) : Int32 × kG := mRows a 13 0 (mTry0 g a)
/-- what the walks of a try ask of the memory -/
def mL (g : kG) (a : Nat) : Prop := (∀ f, f < 24 → kZ (g.1 5 0 f)) ∧ kN (g.1 14 0 a) 12 ∧ kN (g.1 10 0 a) 12 ∧ (∀ f, f < 24 → g.1 7 0 f = -1 ∨ vp_in (g.1 7 0 f) 12) ∧ ∀ k, k < tn (g.1 10 0 a) → (g.1 11 0 (12 * a + k) = 2 ∧ kN (g.1 12 0 (12 * a + k)) 8) ∨ (¬ g.1 11 0 (12 * a + k) = 2 ∧ vp_in (g.1 12 0 (12 * a + k)) 24)
set_option maxHeartbeats 4000000 in
set_option maxRecDepth 100000 in
theorem l_M_note {x : kCx} {Q : State → Prop} (l : Launch) (b : Nat → Nat → Nat) (dA : Nat → ClassId) (D : va_G) (g : kG) (n0 f : Int32) (hn : vp_in n0 12) (c : Nat) (hc : g.1 14 0 (tn n0) = nI c) (h12 : c ≤ 12) (rd : Int32) (X : kIn (sysM b dA D) l b_M_note y_M_note.cls 6 none 0 0 x) : ∀ (n : Nat) (k : Nat), k + n = c → (Wk (kWd (sysM b dA D)) (kAA (sysM b dA D)) (y_ad (sysM b dA D)) x (0, 0) Q 36 [some (.inr (.inr (0, 0))), some (.inl n0), some (.inl f), some (.inl rd), some (.inl (nI (mPl g (tn n0) f n k))), none] [] g) → Wk (kWd (sysM b dA D)) (kAA (sysM b dA D)) (y_ad (sysM b dA D)) x (0, 0) Q 3 [some (.inr (.inr (0, 0))), some (.inl n0), some (.inl f), some (.inl rd), some (.inl (nI k)), none] [] g := by
  have C := X.1
  have O := X.2.1
  intro n
  induction n with
  | zero =>
    intro k hk K
    refine k_iload C d_M_note_3 rfl ?_
    refine k_aload_n C d_M_note_5 rfl rfl ?_
    refine k_getR C O (r := (14, _)) d_M_note_6 fl_M_39 mr_0 rfl rfl rfl rfl ?_
    refine k_iload_n C d_M_note_9 rfl rfl ?_
    refine k_iald2 C O d_M_note_10 mr_14 rfl 0 rfl hn rfl ?_
    refine k_icmp_ge C (tgt := 36) d_M_note_11 (by decide) (fun c11 => ?_) (fun c11 => ?_)
    · exact K
    · exact absurd (x_ge hc (by omega) (by omega)) c11
  | succ n ih =>
    intro k hk K
    refine k_iload C d_M_note_3 rfl ?_
    refine k_aload_n C d_M_note_5 rfl rfl ?_
    refine k_getR C O (r := (14, _)) d_M_note_6 fl_M_39 mr_0 rfl rfl rfl rfl ?_
    refine k_iload_n C d_M_note_9 rfl rfl ?_
    refine k_iald2 C O d_M_note_10 mr_14 rfl 0 rfl hn rfl ?_
    refine k_icmp_ge C (tgt := 36) d_M_note_11 (by decide) (fun c11 => ?_) (fun c11 => ?_)
    · exact absurd c11 (x_lt hc (by omega) (by omega))
    · refine k_aload_n C d_M_note_14 rfl rfl ?_
      refine k_getR C O (r := (15, _)) d_M_note_15 fl_M_42 mr_0 rfl rfl rfl rfl ?_
      refine k_bipush C (v := 24) d_M_note_18 (by decide) ?_
      refine k_iload_n C d_M_note_20 rfl rfl ?_
      refine k_imul C d_M_note_21 ?_
      refine k_iload C d_M_note_22 rfl ?_
      refine k_iadd C d_M_note_24 ?_
      refine k_iald2 C O (q := (24 * tn n0 + k)) d_M_note_25 mr_15 rfl 0 rfl (ix_in (L := 288) (c := 24) (N := 12) (k := k) rfl hn (by decide) rfl (by decide) (by omega)) (ix_q (c := 24) (N := 12) (k := k) rfl hn (by decide) rfl ⟨by decide, by omega⟩) ?_
      refine k_iload_n C d_M_note_26 rfl rfl ?_
      refine k_icmp_eq C (tgt := 36) d_M_note_27 (by decide) (fun c27 => ?_) (fun c27 => ?_)
      · simp only [mPl, if_pos c27] at K
        exact K
      · refine k_iinc C (w := nI (k + 1)) d_M_note_30 rfl (nI_inc k) rfl ?_
        refine k_goto C (tgt := 3) d_M_note_33 (by decide) ?_
        simp only [mPl, if_neg c27] at K
        exact ih (k + 1) (by omega) K

set_option maxHeartbeats 4000000 in
set_option maxRecDepth 100000 in
theorem c_M_note (l : Launch) (b : Nat → Nat → Nat) (dA : Nat → ClassId) (D : va_G) (g : kG) (n0 f rd : Int32) (hn : vp_in n0 12) (hf : vp_in f 24) (hc : kN (g.1 14 0 (tn n0)) 12) (hz : kZ (g.1 5 0 (tn f))) : kMd (sysM b dA D) l y_M_note b_M_note 6 none 0 0 [.inr (.inr (0, 0)), .inl n0, .inl f, .inl rd] g none (mNote g (tn n0) f rd) := by
  have hp := (mPl_le g (tn n0) f (tn (g.1 14 0 (tn n0))) 0).2
  have hp2 := hc.2
  refine k_enter (by decide) [some (.inr (.inr (0, 0))), some (.inl n0), some (.inl f), some (.inl rd), none, none] rfl rfl (Nat.le_of_ble_eq_true rfl) (fun x X => ?_)
  have C := X.1
  have O := X.2.1
  refine k_iconst C (v := 0) d_M_note_0 (by decide) ?_
  refine k_istore C d_M_note_1 (Nat.le_of_ble_eq_true rfl) rfl ?_
  refine l_M_note l b dA D g n0 f hn (tn (g.1 14 0 (tn n0))) hc.1 hc.2 rd X (tn (g.1 14 0 (tn n0))) 0 (by omega) ?_
  refine k_bipush C (v := 24) d_M_note_36 (by decide) ?_
  refine k_iload_n C d_M_note_38 rfl rfl ?_
  refine k_imul C d_M_note_39 ?_
  refine k_iload C d_M_note_40 rfl ?_
  refine k_iadd C d_M_note_42 ?_
  refine k_istore C d_M_note_43 (Nat.le_of_ble_eq_true rfl) rfl ?_
  refine k_iload C d_M_note_45 rfl ?_
  refine k_aload_n C d_M_note_47 rfl rfl ?_
  refine k_getR C O (r := (14, _)) d_M_note_48 fl_M_39 mr_0 rfl rfl rfl rfl ?_
  refine k_iload_n C d_M_note_51 rfl rfl ?_
  refine k_iald2 C O d_M_note_52 mr_14 rfl 0 rfl hn rfl ?_
  refine k_icmp_ne C (tgt := 82) d_M_note_53 (by decide) (fun c53 => ?_) (fun c53 => ?_)
  · refine k_aload_n C d_M_note_82 rfl rfl ?_
    refine k_getR C O (r := (20, _)) d_M_note_83 fl_M_57 mr_0 rfl rfl rfl rfl ?_
    refine k_iload C d_M_note_86 rfl ?_
    refine k_aload_n C d_M_note_88 rfl rfl ?_
    refine k_getR C O (r := (5, _)) d_M_note_89 fl_M_7 mr_0 rfl rfl rfl rfl ?_
    refine k_iload_n C d_M_note_92 rfl rfl ?_
    refine k_zald2 C O d_M_note_93 mr_5 rfl 1 rfl hf rfl ?_
    refine k_zast2 C O (q := (24 * tn n0 + (mPl g (tn n0) f (tn (g.1 14 0 (tn n0))) 0))) d_M_note_94 hz mr_20 rfl 1 rfl (ix_in (L := 288) (c := 24) (N := 12) (k := (mPl g (tn n0) f (tn (g.1 14 0 (tn n0))) 0)) rfl hn (by decide) rfl (by decide) (by omega)) (ix_q (c := 24) (N := 12) (k := (mPl g (tn n0) f (tn (g.1 14 0 (tn n0))) 0)) rfl hn (by decide) rfl ⟨by decide, by omega⟩) ?_
    refine k_aload_n C d_M_note_95 rfl rfl ?_
    refine k_getR C O (r := (21, _)) d_M_note_96 fl_M_60 mr_0 rfl rfl rfl rfl ?_
    refine k_iload C d_M_note_99 rfl ?_
    refine k_aload_n C d_M_note_101 rfl rfl ?_
    refine k_getR C O (r := (21, _)) d_M_note_102 fl_M_60 mr_0 rfl rfl rfl rfl ?_
    refine k_iload C d_M_note_105 rfl ?_
    refine k_zald2 C O (q := (24 * tn n0 + (mPl g (tn n0) f (tn (g.1 14 0 (tn n0))) 0))) d_M_note_107 mr_21 rfl 1 rfl (ix_in (L := 288) (c := 24) (N := 12) (k := (mPl g (tn n0) f (tn (g.1 14 0 (tn n0))) 0)) rfl hn (by decide) rfl (by decide) (by omega)) (ix_q (c := 24) (N := 12) (k := (mPl g (tn n0) f (tn (g.1 14 0 (tn n0))) 0)) rfl hn (by decide) rfl ⟨by decide, by omega⟩) ?_
    refine k_if_ne C (tgt := 115) d_M_note_108 (by decide) (fun c108 => ?_) (fun c108 => ?_)
    · refine k_iconst C (v := 1) d_M_note_115 (by decide) ?_
      refine k_goto C (tgt := 120) d_M_note_116 (by decide) ?_
      refine k_zast2 C O (q := (24 * tn n0 + (mPl g (tn n0) f (tn (g.1 14 0 (tn n0))) 0))) d_M_note_120 (Or.inr rfl) mr_21 rfl 1 rfl (ix_in (L := 288) (c := 24) (N := 12) (k := (mPl g (tn n0) f (tn (g.1 14 0 (tn n0))) 0)) rfl hn (by decide) rfl (by decide) (by omega)) (ix_q (c := 24) (N := 12) (k := (mPl g (tn n0) f (tn (g.1 14 0 (tn n0))) 0)) rfl hn (by decide) rfl ⟨by decide, by omega⟩) ?_
      refine k_aload_n C d_M_note_121 rfl rfl ?_
      refine k_getR C O (r := (23, _)) d_M_note_122 fl_M_66 mr_0 rfl rfl rfl rfl ?_
      refine k_iload C d_M_note_125 rfl ?_
      refine k_aload_n C d_M_note_127 rfl rfl ?_
      refine k_getR C O (r := (6, _)) d_M_note_128 fl_M_13 mr_0 rfl rfl rfl rfl ?_
      refine k_iload_n C d_M_note_131 rfl rfl ?_
      refine k_lald2 C O d_M_note_132 mr_6 rfl 2 rfl hf rfl ?_
      refine k_last2 C O (q := (24 * tn n0 + (mPl g (tn n0) f (tn (g.1 14 0 (tn n0))) 0))) d_M_note_133 mr_23 rfl 2 rfl (ix_in (L := 288) (c := 24) (N := 12) (k := (mPl g (tn n0) f (tn (g.1 14 0 (tn n0))) 0)) rfl hn (by decide) rfl (by decide) (by omega)) (ix_q (c := 24) (N := 12) (k := (mPl g (tn n0) f (tn (g.1 14 0 (tn n0))) 0)) rfl hn (by decide) rfl ⟨by decide, by omega⟩) ?_
      exact k_vret X d_M_note_134 (k_pv ((if_neg c53).trans ((if_neg c108).trans (rfl))))
    · refine k_iload_n C d_M_note_111 rfl rfl ?_
      refine k_if_eq C (tgt := 119) d_M_note_112 (by decide) (fun c112 => ?_) (fun c112 => ?_)
      · refine k_iconst C (v := 0) d_M_note_119 (by decide) ?_
        refine k_zast2 C O (q := (24 * tn n0 + (mPl g (tn n0) f (tn (g.1 14 0 (tn n0))) 0))) d_M_note_120 (Or.inl rfl) mr_21 rfl 1 rfl (ix_in (L := 288) (c := 24) (N := 12) (k := (mPl g (tn n0) f (tn (g.1 14 0 (tn n0))) 0)) rfl hn (by decide) rfl (by decide) (by omega)) (ix_q (c := 24) (N := 12) (k := (mPl g (tn n0) f (tn (g.1 14 0 (tn n0))) 0)) rfl hn (by decide) rfl ⟨by decide, by omega⟩) ?_
        refine k_aload_n C d_M_note_121 rfl rfl ?_
        refine k_getR C O (r := (23, _)) d_M_note_122 fl_M_66 mr_0 rfl rfl rfl rfl ?_
        refine k_iload C d_M_note_125 rfl ?_
        refine k_aload_n C d_M_note_127 rfl rfl ?_
        refine k_getR C O (r := (6, _)) d_M_note_128 fl_M_13 mr_0 rfl rfl rfl rfl ?_
        refine k_iload_n C d_M_note_131 rfl rfl ?_
        refine k_lald2 C O d_M_note_132 mr_6 rfl 2 rfl hf rfl ?_
        refine k_last2 C O (q := (24 * tn n0 + (mPl g (tn n0) f (tn (g.1 14 0 (tn n0))) 0))) d_M_note_133 mr_23 rfl 2 rfl (ix_in (L := 288) (c := 24) (N := 12) (k := (mPl g (tn n0) f (tn (g.1 14 0 (tn n0))) 0)) rfl hn (by decide) rfl (by decide) (by omega)) (ix_q (c := 24) (N := 12) (k := (mPl g (tn n0) f (tn (g.1 14 0 (tn n0))) 0)) rfl hn (by decide) rfl ⟨by decide, by omega⟩) ?_
        exact k_vret X d_M_note_134 (k_pv ((if_neg c53).trans ((if_pos c108).trans ((if_pos c112).trans (rfl)))))
      · refine k_iconst C (v := 1) d_M_note_115 (by decide) ?_
        refine k_goto C (tgt := 120) d_M_note_116 (by decide) ?_
        refine k_zast2 C O (q := (24 * tn n0 + (mPl g (tn n0) f (tn (g.1 14 0 (tn n0))) 0))) d_M_note_120 (Or.inr rfl) mr_21 rfl 1 rfl (ix_in (L := 288) (c := 24) (N := 12) (k := (mPl g (tn n0) f (tn (g.1 14 0 (tn n0))) 0)) rfl hn (by decide) rfl (by decide) (by omega)) (ix_q (c := 24) (N := 12) (k := (mPl g (tn n0) f (tn (g.1 14 0 (tn n0))) 0)) rfl hn (by decide) rfl ⟨by decide, by omega⟩) ?_
        refine k_aload_n C d_M_note_121 rfl rfl ?_
        refine k_getR C O (r := (23, _)) d_M_note_122 fl_M_66 mr_0 rfl rfl rfl rfl ?_
        refine k_iload C d_M_note_125 rfl ?_
        refine k_aload_n C d_M_note_127 rfl rfl ?_
        refine k_getR C O (r := (6, _)) d_M_note_128 fl_M_13 mr_0 rfl rfl rfl rfl ?_
        refine k_iload_n C d_M_note_131 rfl rfl ?_
        refine k_lald2 C O d_M_note_132 mr_6 rfl 2 rfl hf rfl ?_
        refine k_last2 C O (q := (24 * tn n0 + (mPl g (tn n0) f (tn (g.1 14 0 (tn n0))) 0))) d_M_note_133 mr_23 rfl 2 rfl (ix_in (L := 288) (c := 24) (N := 12) (k := (mPl g (tn n0) f (tn (g.1 14 0 (tn n0))) 0)) rfl hn (by decide) rfl (by decide) (by omega)) (ix_q (c := 24) (N := 12) (k := (mPl g (tn n0) f (tn (g.1 14 0 (tn n0))) 0)) rfl hn (by decide) rfl ⟨by decide, by omega⟩) ?_
        exact k_vret X d_M_note_134 (k_pv ((if_neg c53).trans ((if_pos c108).trans ((if_neg c112).trans (rfl)))))
  · refine k_aload_n C d_M_note_56 rfl rfl ?_
    refine k_getR C O (r := (15, _)) d_M_note_57 fl_M_42 mr_0 rfl rfl rfl rfl ?_
    refine k_iload C d_M_note_60 rfl ?_
    refine k_iload_n C d_M_note_62 rfl rfl ?_
    refine k_iast2 C O (q := (24 * tn n0 + (mPl g (tn n0) f (tn (g.1 14 0 (tn n0))) 0))) d_M_note_63 mr_15 rfl 0 rfl (ix_in (L := 288) (c := 24) (N := 12) (k := (mPl g (tn n0) f (tn (g.1 14 0 (tn n0))) 0)) rfl hn (by decide) rfl (by decide) (by omega)) (ix_q (c := 24) (N := 12) (k := (mPl g (tn n0) f (tn (g.1 14 0 (tn n0))) 0)) rfl hn (by decide) rfl ⟨by decide, by omega⟩) ?_
    refine k_aload_n C d_M_note_64 rfl rfl ?_
    refine k_getR C O (r := (21, _)) d_M_note_65 fl_M_60 mr_0 rfl rfl rfl rfl ?_
    refine k_iload C d_M_note_68 rfl ?_
    refine k_iconst C (v := 0) d_M_note_70 (by decide) ?_
    refine k_zast2 C O (q := (24 * tn n0 + (mPl g (tn n0) f (tn (g.1 14 0 (tn n0))) 0))) d_M_note_71 (Or.inl rfl) mr_21 rfl 1 rfl (ix_in (L := 288) (c := 24) (N := 12) (k := (mPl g (tn n0) f (tn (g.1 14 0 (tn n0))) 0)) rfl hn (by decide) rfl (by decide) (by omega)) (ix_q (c := 24) (N := 12) (k := (mPl g (tn n0) f (tn (g.1 14 0 (tn n0))) 0)) rfl hn (by decide) rfl ⟨by decide, by omega⟩) ?_
    refine k_aload_n C d_M_note_72 rfl rfl ?_
    refine k_getR C O (r := (14, _)) d_M_note_73 fl_M_39 mr_0 rfl rfl rfl rfl ?_
    refine k_iload_n C d_M_note_76 rfl rfl ?_
    refine k_dup2 C d_M_note_77 rfl rfl ?_
    refine k_iald2 C O d_M_note_78 mr_14 rfl 0 rfl hn rfl ?_
    refine k_iconst C (v := 1) d_M_note_79 (by decide) ?_
    refine k_iadd C d_M_note_80 ?_
    refine k_iast2 C O d_M_note_81 mr_14 rfl 0 rfl hn rfl ?_
    refine k_aload_n C d_M_note_82 rfl rfl ?_
    refine k_getR C O (r := (20, _)) d_M_note_83 fl_M_57 mr_0 rfl rfl rfl rfl ?_
    refine k_iload C d_M_note_86 rfl ?_
    refine k_aload_n C d_M_note_88 rfl rfl ?_
    refine k_getR C O (r := (5, _)) d_M_note_89 fl_M_7 mr_0 rfl rfl rfl rfl ?_
    refine k_iload_n C d_M_note_92 rfl rfl ?_
    refine k_zald2 C O d_M_note_93 mr_5 rfl 1 rfl hf rfl ?_
    refine k_zast2 C O (q := (24 * tn n0 + (mPl g (tn n0) f (tn (g.1 14 0 (tn n0))) 0))) d_M_note_94 hz mr_20 rfl 1 rfl (ix_in (L := 288) (c := 24) (N := 12) (k := (mPl g (tn n0) f (tn (g.1 14 0 (tn n0))) 0)) rfl hn (by decide) rfl (by decide) (by omega)) (ix_q (c := 24) (N := 12) (k := (mPl g (tn n0) f (tn (g.1 14 0 (tn n0))) 0)) rfl hn (by decide) rfl ⟨by decide, by omega⟩) ?_
    refine k_aload_n C d_M_note_95 rfl rfl ?_
    refine k_getR C O (r := (21, _)) d_M_note_96 fl_M_60 mr_0 rfl rfl rfl rfl ?_
    refine k_iload C d_M_note_99 rfl ?_
    refine k_aload_n C d_M_note_101 rfl rfl ?_
    refine k_getR C O (r := (21, _)) d_M_note_102 fl_M_60 mr_0 rfl rfl rfl rfl ?_
    refine k_iload C d_M_note_105 rfl ?_
    refine k_zald2 C O (q := (24 * tn n0 + (mPl g (tn n0) f (tn (g.1 14 0 (tn n0))) 0))) d_M_note_107 mr_21 rfl 1 rfl (ix_in (L := 288) (c := 24) (N := 12) (k := (mPl g (tn n0) f (tn (g.1 14 0 (tn n0))) 0)) rfl hn (by decide) rfl (by decide) (by omega)) (ix_q (c := 24) (N := 12) (k := (mPl g (tn n0) f (tn (g.1 14 0 (tn n0))) 0)) rfl hn (by decide) rfl ⟨by decide, by omega⟩) ?_
    refine k_if_ne C (tgt := 115) d_M_note_108 (by decide) (fun c108 => ?_) (fun c108 => ?_)
    · refine k_iconst C (v := 1) d_M_note_115 (by decide) ?_
      refine k_goto C (tgt := 120) d_M_note_116 (by decide) ?_
      refine k_zast2 C O (q := (24 * tn n0 + (mPl g (tn n0) f (tn (g.1 14 0 (tn n0))) 0))) d_M_note_120 (Or.inr rfl) mr_21 rfl 1 rfl (ix_in (L := 288) (c := 24) (N := 12) (k := (mPl g (tn n0) f (tn (g.1 14 0 (tn n0))) 0)) rfl hn (by decide) rfl (by decide) (by omega)) (ix_q (c := 24) (N := 12) (k := (mPl g (tn n0) f (tn (g.1 14 0 (tn n0))) 0)) rfl hn (by decide) rfl ⟨by decide, by omega⟩) ?_
      refine k_aload_n C d_M_note_121 rfl rfl ?_
      refine k_getR C O (r := (23, _)) d_M_note_122 fl_M_66 mr_0 rfl rfl rfl rfl ?_
      refine k_iload C d_M_note_125 rfl ?_
      refine k_aload_n C d_M_note_127 rfl rfl ?_
      refine k_getR C O (r := (6, _)) d_M_note_128 fl_M_13 mr_0 rfl rfl rfl rfl ?_
      refine k_iload_n C d_M_note_131 rfl rfl ?_
      refine k_lald2 C O d_M_note_132 mr_6 rfl 2 rfl hf rfl ?_
      refine k_last2 C O (q := (24 * tn n0 + (mPl g (tn n0) f (tn (g.1 14 0 (tn n0))) 0))) d_M_note_133 mr_23 rfl 2 rfl (ix_in (L := 288) (c := 24) (N := 12) (k := (mPl g (tn n0) f (tn (g.1 14 0 (tn n0))) 0)) rfl hn (by decide) rfl (by decide) (by omega)) (ix_q (c := 24) (N := 12) (k := (mPl g (tn n0) f (tn (g.1 14 0 (tn n0))) 0)) rfl hn (by decide) rfl ⟨by decide, by omega⟩) ?_
      exact k_vret X d_M_note_134 (k_pv ((if_pos c53).trans ((if_neg c108).trans (rfl))))
    · refine k_iload_n C d_M_note_111 rfl rfl ?_
      refine k_if_eq C (tgt := 119) d_M_note_112 (by decide) (fun c112 => ?_) (fun c112 => ?_)
      · refine k_iconst C (v := 0) d_M_note_119 (by decide) ?_
        refine k_zast2 C O (q := (24 * tn n0 + (mPl g (tn n0) f (tn (g.1 14 0 (tn n0))) 0))) d_M_note_120 (Or.inl rfl) mr_21 rfl 1 rfl (ix_in (L := 288) (c := 24) (N := 12) (k := (mPl g (tn n0) f (tn (g.1 14 0 (tn n0))) 0)) rfl hn (by decide) rfl (by decide) (by omega)) (ix_q (c := 24) (N := 12) (k := (mPl g (tn n0) f (tn (g.1 14 0 (tn n0))) 0)) rfl hn (by decide) rfl ⟨by decide, by omega⟩) ?_
        refine k_aload_n C d_M_note_121 rfl rfl ?_
        refine k_getR C O (r := (23, _)) d_M_note_122 fl_M_66 mr_0 rfl rfl rfl rfl ?_
        refine k_iload C d_M_note_125 rfl ?_
        refine k_aload_n C d_M_note_127 rfl rfl ?_
        refine k_getR C O (r := (6, _)) d_M_note_128 fl_M_13 mr_0 rfl rfl rfl rfl ?_
        refine k_iload_n C d_M_note_131 rfl rfl ?_
        refine k_lald2 C O d_M_note_132 mr_6 rfl 2 rfl hf rfl ?_
        refine k_last2 C O (q := (24 * tn n0 + (mPl g (tn n0) f (tn (g.1 14 0 (tn n0))) 0))) d_M_note_133 mr_23 rfl 2 rfl (ix_in (L := 288) (c := 24) (N := 12) (k := (mPl g (tn n0) f (tn (g.1 14 0 (tn n0))) 0)) rfl hn (by decide) rfl (by decide) (by omega)) (ix_q (c := 24) (N := 12) (k := (mPl g (tn n0) f (tn (g.1 14 0 (tn n0))) 0)) rfl hn (by decide) rfl ⟨by decide, by omega⟩) ?_
        exact k_vret X d_M_note_134 (k_pv ((if_pos c53).trans ((if_pos c108).trans ((if_pos c112).trans (rfl)))))
      · refine k_iconst C (v := 1) d_M_note_115 (by decide) ?_
        refine k_goto C (tgt := 120) d_M_note_116 (by decide) ?_
        refine k_zast2 C O (q := (24 * tn n0 + (mPl g (tn n0) f (tn (g.1 14 0 (tn n0))) 0))) d_M_note_120 (Or.inr rfl) mr_21 rfl 1 rfl (ix_in (L := 288) (c := 24) (N := 12) (k := (mPl g (tn n0) f (tn (g.1 14 0 (tn n0))) 0)) rfl hn (by decide) rfl (by decide) (by omega)) (ix_q (c := 24) (N := 12) (k := (mPl g (tn n0) f (tn (g.1 14 0 (tn n0))) 0)) rfl hn (by decide) rfl ⟨by decide, by omega⟩) ?_
        refine k_aload_n C d_M_note_121 rfl rfl ?_
        refine k_getR C O (r := (23, _)) d_M_note_122 fl_M_66 mr_0 rfl rfl rfl rfl ?_
        refine k_iload C d_M_note_125 rfl ?_
        refine k_aload_n C d_M_note_127 rfl rfl ?_
        refine k_getR C O (r := (6, _)) d_M_note_128 fl_M_13 mr_0 rfl rfl rfl rfl ?_
        refine k_iload_n C d_M_note_131 rfl rfl ?_
        refine k_lald2 C O d_M_note_132 mr_6 rfl 2 rfl hf rfl ?_
        refine k_last2 C O (q := (24 * tn n0 + (mPl g (tn n0) f (tn (g.1 14 0 (tn n0))) 0))) d_M_note_133 mr_23 rfl 2 rfl (ix_in (L := 288) (c := 24) (N := 12) (k := (mPl g (tn n0) f (tn (g.1 14 0 (tn n0))) 0)) rfl hn (by decide) rfl (by decide) (by omega)) (ix_q (c := 24) (N := 12) (k := (mPl g (tn n0) f (tn (g.1 14 0 (tn n0))) 0)) rfl hn (by decide) rfl ⟨by decide, by omega⟩) ?_
        exact k_vret X d_M_note_134 (k_pv ((if_pos c53).trans ((if_pos c108).trans ((if_neg c112).trans (rfl)))))

set_option maxHeartbeats 4000000 in
set_option maxRecDepth 100000 in
theorem c_M_look (l : Launch) (b : Nat → Nat → Nat) (dA : Nat → ClassId) (D : va_G) (g : kG) (n0 kd f : Int32) (hn : vp_in n0 12) (hf : vp_in f 24) (hc : kN (g.1 14 0 (tn n0)) 12) (hz : kZ (g.1 5 0 (tn f))) (hm : ∀ f, f < 24 → g.1 7 0 f = -1 ∨ vp_in (g.1 7 0 f) 12) : kMd (sysM b dA D) l y_M_look b_M_look 4 (some .int) 1 25 [.inr (.inr (0, 0)), .inl n0, .inl kd, .inl f] g (some (.inl (mLook g (tn n0) kd f).1)) (mLook g (tn n0) kd f).2 := by
  refine k_enter (by decide) [some (.inr (.inr (0, 0))), some (.inl n0), some (.inl kd), some (.inl f)] rfl rfl (Nat.le_of_ble_eq_true rfl) (fun x X => ?_)
  have C := X.1
  have O := X.2.1
  refine k_aload_n C d_M_look_0 rfl rfl ?_
  refine k_getR C O (r := (8, _)) d_M_look_1 fl_M_21 mr_0 rfl rfl rfl rfl ?_
  refine k_iload_n C d_M_look_4 rfl rfl ?_
  refine k_iald2 C O d_M_look_5 mr_8 rfl 0 rfl hn rfl ?_
  refine k_iload_n C d_M_look_6 rfl rfl ?_
  refine k_ishr C d_M_look_7 ?_
  refine k_iconst C (v := 1) d_M_look_8 (by decide) ?_
  refine k_iand C d_M_look_9 ?_
  refine k_if_ne C (tgt := 15) d_M_look_10 (by decide) (fun c10 => ?_) (fun c10 => ?_)
  · refine k_aload_n C d_M_look_15 rfl rfl ?_
    refine k_getR C O (r := (7, _)) d_M_look_16 fl_M_17 mr_0 rfl rfl rfl rfl ?_
    refine k_iload_n C d_M_look_19 rfl rfl ?_
    refine k_iald2 C O d_M_look_20 mr_7 rfl 0 rfl hf rfl ?_
    refine k_iconst C (v := (-1)) d_M_look_21 (by decide) ?_
    refine k_icmp_eq C (tgt := 48) d_M_look_22 (by decide) (fun c22 => ?_) (fun c22 => ?_)
    · refine k_aload_n C d_M_look_48 rfl rfl ?_
      refine k_iload_n C d_M_look_49 rfl rfl ?_
      refine k_iload_n C d_M_look_50 rfl rfl ?_
      refine k_iload_n C d_M_look_51 rfl rfl ?_
      refine k_if_ne C (tgt := 59) d_M_look_52 (by decide) (fun c52 => ?_) (fun c52 => ?_)
      · refine k_iconst C (v := 0) d_M_look_59 (by decide) ?_
        refine k_cvV X d_M_look_60 (c_M_note l b dA D g n0 f _ hn hf hc hz) cv_M_120 mr_0 rfl rfl ⟨by decide, by decide⟩ rfl rfl (Nat.le_of_ble_eq_true rfl) ?_
        refine k_iload_n C d_M_look_63 rfl rfl ?_
        refine k_if_ne C (tgt := 79) d_M_look_64 (by decide) (fun _ => ?_) (fun q => absurd q c52)
        refine k_iload_n C d_M_look_79 rfl rfl ?_
        refine k_if_ne C (tgt := 93) d_M_look_80 (by decide) (fun _ => ?_) (fun q => absurd q c52)
        refine k_aload_n C d_M_look_93 rfl rfl ?_
        refine k_ldc2 C (v := 31) d_M_look_94 (by decide +kernel) ?_
        refine k_aload_n C d_M_look_97 rfl rfl ?_
        refine k_getJ C O d_M_look_98 fl_M_130 mr_0 rfl rfl rfl ?_
        refine k_lmul C d_M_look_101 ?_
        refine k_iload_n C d_M_look_102 rfl rfl ?_
        refine k_if_ne C (tgt := 115) d_M_look_103 (by decide) (fun _ => ?_) (fun q => absurd q c52)
        refine k_aload_n C d_M_look_115 rfl rfl ?_
        refine k_getR C O (r := (5, _)) d_M_look_116 fl_M_7 mr_0 rfl rfl rfl rfl ?_
        refine k_iload_n C d_M_look_119 rfl rfl ?_
        refine k_zald2 C O d_M_look_120 mr_5 rfl 1 rfl hf rfl ?_
        refine k_if_eq C (tgt := 128) d_M_look_121 (by decide) (fun c121 => ?_) (fun c121 => ?_)
        · refine k_ldc2 C (v := 2) d_M_look_128 (by decide +kernel) ?_
          refine k_ladd C d_M_look_131 ?_
          refine k_putJ C O d_M_look_132 fp_M_130 mr_0 rfl rfl rfl ?_
          refine k_iconst C (v := 1) d_M_look_135 (by decide) ?_
          exact k_iret X d_M_look_136 (k_pr ((if_neg c10).trans ((if_pos c22).trans ((if_neg c52).trans ((if_pos c121).trans (rfl))))))
        · refine k_lconst C (v := 1) d_M_look_124 (by decide) ?_
          refine k_goto C (tgt := 131) d_M_look_125 (by decide) ?_
          refine k_ladd C d_M_look_131 ?_
          refine k_putJ C O d_M_look_132 fp_M_130 mr_0 rfl rfl rfl ?_
          refine k_iconst C (v := 1) d_M_look_135 (by decide) ?_
          exact k_iret X d_M_look_136 (k_pr ((if_neg c10).trans ((if_pos c22).trans ((if_neg c52).trans ((if_neg c121).trans (rfl))))))
      · refine k_iconst C (v := 1) d_M_look_55 (by decide) ?_
        refine k_goto C (tgt := 60) d_M_look_56 (by decide) ?_
        refine k_cvV X d_M_look_60 (c_M_note l b dA D g n0 f _ hn hf hc hz) cv_M_120 mr_0 rfl rfl ⟨by decide, by decide⟩ rfl rfl (Nat.le_of_ble_eq_true rfl) ?_
        refine k_iload_n C d_M_look_63 rfl rfl ?_
        refine k_if_ne C (tgt := 79) d_M_look_64 (by decide) (fun q => absurd c52 q) (fun _ => ?_)
        refine k_aload_n C d_M_look_67 rfl rfl ?_
        refine k_getR C O (r := (5, _)) d_M_look_68 fl_M_7 mr_0 rfl rfl rfl rfl ?_
        refine k_iload_n C d_M_look_71 rfl rfl ?_
        refine k_zald2 C O d_M_look_72 mr_5 rfl 1 rfl hf rfl ?_
        refine k_if_ne C (tgt := 79) d_M_look_73 (by decide) (fun c73 => ?_) (fun c73 => ?_)
        · refine k_iload_n C d_M_look_79 rfl rfl ?_
          refine k_if_ne C (tgt := 93) d_M_look_80 (by decide) (fun q => absurd c52 q) (fun _ => ?_)
          refine k_aload_n C d_M_look_83 rfl rfl ?_
          refine k_aload_n C d_M_look_84 rfl rfl ?_
          refine k_getR C O (r := (6, _)) d_M_look_85 fl_M_13 mr_0 rfl rfl rfl rfl ?_
          refine k_iload_n C d_M_look_88 rfl rfl ?_
          refine k_lald2 C O d_M_look_89 mr_6 rfl 2 rfl hf rfl ?_
          refine k_putJ C O d_M_look_90 fp_M_124 mr_0 rfl rfl rfl ?_
          refine k_aload_n C d_M_look_93 rfl rfl ?_
          refine k_ldc2 C (v := 31) d_M_look_94 (by decide +kernel) ?_
          refine k_aload_n C d_M_look_97 rfl rfl ?_
          refine k_getJ C O d_M_look_98 fl_M_130 mr_0 rfl rfl rfl ?_
          refine k_lmul C d_M_look_101 ?_
          refine k_iload_n C d_M_look_102 rfl rfl ?_
          refine k_if_ne C (tgt := 115) d_M_look_103 (by decide) (fun q => absurd c52 q) (fun _ => ?_)
          refine k_aload_n C d_M_look_106 rfl rfl ?_
          refine k_getR C O (r := (6, _)) d_M_look_107 fl_M_13 mr_0 rfl rfl rfl rfl ?_
          refine k_iload_n C d_M_look_110 rfl rfl ?_
          refine k_lald2 C O d_M_look_111 mr_6 rfl 2 rfl hf rfl ?_
          refine k_goto C (tgt := 131) d_M_look_112 (by decide) ?_
          refine k_ladd C d_M_look_131 ?_
          refine k_putJ C O d_M_look_132 fp_M_130 mr_0 rfl rfl rfl ?_
          refine k_iconst C (v := 1) d_M_look_135 (by decide) ?_
          exact k_iret X d_M_look_136 (k_pr ((if_neg c10).trans ((if_pos c22).trans ((if_pos c52).trans ((if_neg c73).trans (rfl))))))
        · refine k_bipush C (v := (-3)) d_M_look_76 (by decide) ?_
          exact k_iret X d_M_look_78 (k_pr ((if_neg c10).trans ((if_pos c22).trans ((if_pos c52).trans ((if_pos c73).trans (rfl))))))
    · refine k_aload_n C d_M_look_25 rfl rfl ?_
      refine k_getR C O (r := (22, _)) d_M_look_26 fl_M_63 mr_0 rfl rfl rfl rfl ?_
      refine k_aload_n C d_M_look_29 rfl rfl ?_
      refine k_getR C O (r := (7, _)) d_M_look_30 fl_M_17 mr_0 rfl rfl rfl rfl ?_
      refine k_iload_n C d_M_look_33 rfl rfl ?_
      refine k_iald2 C O d_M_look_34 mr_7 rfl 0 rfl hf rfl ?_
      refine k_zald2 C O d_M_look_35 mr_22 rfl 1 rfl ((hm _ (vi_lt hf)).resolve_left c22) rfl ?_
      refine k_if_ne C (tgt := 48) d_M_look_36 (by decide) (fun c36 => ?_) (fun c36 => ?_)
      · refine k_aload_n C d_M_look_48 rfl rfl ?_
        refine k_iload_n C d_M_look_49 rfl rfl ?_
        refine k_iload_n C d_M_look_50 rfl rfl ?_
        refine k_iload_n C d_M_look_51 rfl rfl ?_
        refine k_if_ne C (tgt := 59) d_M_look_52 (by decide) (fun c52 => ?_) (fun c52 => ?_)
        · refine k_iconst C (v := 0) d_M_look_59 (by decide) ?_
          refine k_cvV X d_M_look_60 (c_M_note l b dA D g n0 f _ hn hf hc hz) cv_M_120 mr_0 rfl rfl ⟨by decide, by decide⟩ rfl rfl (Nat.le_of_ble_eq_true rfl) ?_
          refine k_iload_n C d_M_look_63 rfl rfl ?_
          refine k_if_ne C (tgt := 79) d_M_look_64 (by decide) (fun _ => ?_) (fun q => absurd q c52)
          refine k_iload_n C d_M_look_79 rfl rfl ?_
          refine k_if_ne C (tgt := 93) d_M_look_80 (by decide) (fun _ => ?_) (fun q => absurd q c52)
          refine k_aload_n C d_M_look_93 rfl rfl ?_
          refine k_ldc2 C (v := 31) d_M_look_94 (by decide +kernel) ?_
          refine k_aload_n C d_M_look_97 rfl rfl ?_
          refine k_getJ C O d_M_look_98 fl_M_130 mr_0 rfl rfl rfl ?_
          refine k_lmul C d_M_look_101 ?_
          refine k_iload_n C d_M_look_102 rfl rfl ?_
          refine k_if_ne C (tgt := 115) d_M_look_103 (by decide) (fun _ => ?_) (fun q => absurd q c52)
          refine k_aload_n C d_M_look_115 rfl rfl ?_
          refine k_getR C O (r := (5, _)) d_M_look_116 fl_M_7 mr_0 rfl rfl rfl rfl ?_
          refine k_iload_n C d_M_look_119 rfl rfl ?_
          refine k_zald2 C O d_M_look_120 mr_5 rfl 1 rfl hf rfl ?_
          refine k_if_eq C (tgt := 128) d_M_look_121 (by decide) (fun c121 => ?_) (fun c121 => ?_)
          · refine k_ldc2 C (v := 2) d_M_look_128 (by decide +kernel) ?_
            refine k_ladd C d_M_look_131 ?_
            refine k_putJ C O d_M_look_132 fp_M_130 mr_0 rfl rfl rfl ?_
            refine k_iconst C (v := 1) d_M_look_135 (by decide) ?_
            exact k_iret X d_M_look_136 (k_pr ((if_neg c10).trans ((if_neg c22).trans ((if_neg c36).trans ((if_neg c52).trans ((if_pos c121).trans (rfl)))))))
          · refine k_lconst C (v := 1) d_M_look_124 (by decide) ?_
            refine k_goto C (tgt := 131) d_M_look_125 (by decide) ?_
            refine k_ladd C d_M_look_131 ?_
            refine k_putJ C O d_M_look_132 fp_M_130 mr_0 rfl rfl rfl ?_
            refine k_iconst C (v := 1) d_M_look_135 (by decide) ?_
            exact k_iret X d_M_look_136 (k_pr ((if_neg c10).trans ((if_neg c22).trans ((if_neg c36).trans ((if_neg c52).trans ((if_neg c121).trans (rfl)))))))
        · refine k_iconst C (v := 1) d_M_look_55 (by decide) ?_
          refine k_goto C (tgt := 60) d_M_look_56 (by decide) ?_
          refine k_cvV X d_M_look_60 (c_M_note l b dA D g n0 f _ hn hf hc hz) cv_M_120 mr_0 rfl rfl ⟨by decide, by decide⟩ rfl rfl (Nat.le_of_ble_eq_true rfl) ?_
          refine k_iload_n C d_M_look_63 rfl rfl ?_
          refine k_if_ne C (tgt := 79) d_M_look_64 (by decide) (fun q => absurd c52 q) (fun _ => ?_)
          refine k_aload_n C d_M_look_67 rfl rfl ?_
          refine k_getR C O (r := (5, _)) d_M_look_68 fl_M_7 mr_0 rfl rfl rfl rfl ?_
          refine k_iload_n C d_M_look_71 rfl rfl ?_
          refine k_zald2 C O d_M_look_72 mr_5 rfl 1 rfl hf rfl ?_
          refine k_if_ne C (tgt := 79) d_M_look_73 (by decide) (fun c73 => ?_) (fun c73 => ?_)
          · refine k_iload_n C d_M_look_79 rfl rfl ?_
            refine k_if_ne C (tgt := 93) d_M_look_80 (by decide) (fun q => absurd c52 q) (fun _ => ?_)
            refine k_aload_n C d_M_look_83 rfl rfl ?_
            refine k_aload_n C d_M_look_84 rfl rfl ?_
            refine k_getR C O (r := (6, _)) d_M_look_85 fl_M_13 mr_0 rfl rfl rfl rfl ?_
            refine k_iload_n C d_M_look_88 rfl rfl ?_
            refine k_lald2 C O d_M_look_89 mr_6 rfl 2 rfl hf rfl ?_
            refine k_putJ C O d_M_look_90 fp_M_124 mr_0 rfl rfl rfl ?_
            refine k_aload_n C d_M_look_93 rfl rfl ?_
            refine k_ldc2 C (v := 31) d_M_look_94 (by decide +kernel) ?_
            refine k_aload_n C d_M_look_97 rfl rfl ?_
            refine k_getJ C O d_M_look_98 fl_M_130 mr_0 rfl rfl rfl ?_
            refine k_lmul C d_M_look_101 ?_
            refine k_iload_n C d_M_look_102 rfl rfl ?_
            refine k_if_ne C (tgt := 115) d_M_look_103 (by decide) (fun q => absurd c52 q) (fun _ => ?_)
            refine k_aload_n C d_M_look_106 rfl rfl ?_
            refine k_getR C O (r := (6, _)) d_M_look_107 fl_M_13 mr_0 rfl rfl rfl rfl ?_
            refine k_iload_n C d_M_look_110 rfl rfl ?_
            refine k_lald2 C O d_M_look_111 mr_6 rfl 2 rfl hf rfl ?_
            refine k_goto C (tgt := 131) d_M_look_112 (by decide) ?_
            refine k_ladd C d_M_look_131 ?_
            refine k_putJ C O d_M_look_132 fp_M_130 mr_0 rfl rfl rfl ?_
            refine k_iconst C (v := 1) d_M_look_135 (by decide) ?_
            exact k_iret X d_M_look_136 (k_pr ((if_neg c10).trans ((if_neg c22).trans ((if_neg c36).trans ((if_pos c52).trans ((if_neg c73).trans (rfl)))))))
          · refine k_bipush C (v := (-3)) d_M_look_76 (by decide) ?_
            exact k_iret X d_M_look_78 (k_pr ((if_neg c10).trans ((if_neg c22).trans ((if_neg c36).trans ((if_pos c52).trans ((if_pos c73).trans (rfl)))))))
      · refine k_aload_n C d_M_look_39 rfl rfl ?_
        refine k_getR C O (r := (19, _)) d_M_look_40 fl_M_54 mr_0 rfl rfl rfl rfl ?_
        refine k_iload_n C d_M_look_43 rfl rfl ?_
        refine k_iload_n C d_M_look_44 rfl rfl ?_
        refine k_iast2 C O d_M_look_45 mr_19 rfl 0 rfl hn rfl ?_
        refine k_iconst C (v := 0) d_M_look_46 (by decide) ?_
        exact k_iret X d_M_look_47 (k_pr ((if_neg c10).trans ((if_neg c22).trans ((if_pos c36).trans (rfl)))))
  · refine k_iconst C (v := (-1)) d_M_look_13 (by decide) ?_
    exact k_iret X d_M_look_14 (k_pr ((if_pos c10).trans (rfl)))

theorem mNote_fr (g : kG) (a : Nat) (f rd : Int32) (k i j : Nat) (h : k ≠ 14 ∧ k ≠ 15 ∧ k ≠ 20 ∧ k ≠ 21) : (mNote g a f rd).1 k i j = g.1 k i j := by
  obtain ⟨h1, h2, h3, h4⟩ := h
  unfold mNote mNtAt
  split
  · unfold mNt1 mNt0
    split
    · split <;> simp [kU, h1, h2, h3, h4]
    · simp [kU, h1, h2, h3, h4]
  · unfold mNt1
    split
    · split <;> simp [kU, h1, h2, h3, h4]
    · simp [kU, h1, h2, h3, h4]
theorem mLk1_fr (g : kG) (a : Nat) (kd f : Int32) (k i j : Nat) (h : k ≠ 14 ∧ k ≠ 15 ∧ k ≠ 20 ∧ k ≠ 21) : (mLk1 g a kd f).2.1 k i j = g.1 k i j := by
  have e1 := mNote_fr g a f 1 k i j h
  have e0 := mNote_fr g a f 0 k i j h
  unfold mLk1
  split
  · split <;> exact e1
  · split <;> exact e0
theorem mLook_fr (g : kG) (a : Nat) (kd f : Int32) (k i j : Nat) (h : (k ≠ 14 ∧ k ≠ 15 ∧ k ≠ 20 ∧ k ≠ 21) ∧ k ≠ 19) : (mLook g a kd f).2.1 k i j = g.1 k i j := by
  have e := mLk1_fr g a kd f k i j h.1
  unfold mLook
  split
  · rfl
  · split
    · exact e
    · split
      · simp [kU, h.2]
      · exact e
theorem mNote_cnt (g : kG) (a : Nat) (f rd : Int32) (hc : kN (g.1 14 0 a) 12) (hk : tn (g.1 14 0 a) ≤ 11) : kN ((mNote g a f rd).1 14 0 a) 12 ∧ tn ((mNote g a f rd).1 14 0 a) ≤ tn (g.1 14 0 a) + 1 := by
  have h9 : g.1 14 0 a + 1 = nI (tn (g.1 14 0 a) + 1) := by
    conv => lhs; rw [hc.1]
    exact nI_1 _
  have h8 : tn (g.1 14 0 a + 1) = tn (g.1 14 0 a) + 1 := by rw [h9]; exact nI_clamp (by omega)
  have h7 : kN (g.1 14 0 a + 1) 12 ∧ tn (g.1 14 0 a + 1) ≤ tn (g.1 14 0 a) + 1 := by
    refine ⟨?_, by omega⟩
    rw [h9]
    exact kN_of (by omega) (by omega)
  unfold mNote mNtAt
  split
  · unfold mNt1 mNt0
    split
    · split <;> simpa [kU] using h7
    · simpa [kU] using h7
  · unfold mNt1
    have h6 : kN (g.1 14 0 a) 12 ∧ tn (g.1 14 0 a) ≤ tn (g.1 14 0 a) + 1 := ⟨hc, by omega⟩
    split
    · split <;> simpa [kU] using h6
    · simpa [kU] using h6
theorem mLook_cnt (g : kG) (a : Nat) (kd f : Int32) (hc : kN (g.1 14 0 a) 12) (hk : tn (g.1 14 0 a) ≤ 11) : kN ((mLook g a kd f).2.1 14 0 a) 12 ∧ tn ((mLook g a kd f).2.1 14 0 a) ≤ tn (g.1 14 0 a) + 1 := by
  have e1 := mNote_cnt g a f 1 hc hk
  have e0 := mNote_cnt g a f 0 hc hk
  have e : kN ((mLk1 g a kd f).2.1 14 0 a) 12 ∧ tn ((mLk1 g a kd f).2.1 14 0 a) ≤ tn (g.1 14 0 a) + 1 := by
    unfold mLk1
    split
    · split <;> exact e1
    · split <;> exact e0
  unfold mLook
  split
  · exact ⟨hc, Nat.le_succ _⟩
  · split
    · exact e
    · split
      · exact ⟨hc, Nat.le_succ _⟩
      · exact e
theorem mL_look {g : kG} {a : Nat} (h : mL g a) (kd f : Int32) (hk : tn (g.1 14 0 a) ≤ 11) : mL (mLook g a kd f).2 a := by
  obtain ⟨h1, h2, h3, h4, h5⟩ := h
  have e := fun k i j (hq : (k ≠ 14 ∧ k ≠ 15 ∧ k ≠ 20 ∧ k ≠ 21) ∧ k ≠ 19) => mLook_fr g a kd f k i j hq
  refine ⟨fun q hq => ?_, (mLook_cnt g a kd f h2 hk).1, ?_, fun q hq => ?_, fun k hk => ?_⟩
  · rw [e 5 0 q (by decide)]; exact h1 q hq
  · rw [e 10 0 a (by decide)]; exact h3
  · rw [e 7 0 q (by decide)]; exact h4 q hq
  · rw [e 10 0 a (by decide)] at hk
    rw [e 11 0 _ (by decide), e 12 0 _ (by decide)]
    exact h5 k hk
set_option maxHeartbeats 4000000 in
set_option maxRecDepth 100000 in
theorem l_M_rows {x : kCx} (l : Launch) (b : Nat → Nat → Nat) (dA : Nat → ClassId) (D : va_G) (n0 : Int32) (hn : vp_in n0 12) (X : kIn (sysM b dA D) l b_M_tryRows y_M_tryRows.cls 6 (some .int) 2 48 x) : ∀ (n : Nat) (k : Nat) (g : kG) (z3 z4 z5 : Option kV), mL g (tn n0) → tn (g.1 10 0 (tn n0)) < k + n → k ≤ 21 → tn (g.1 14 0 (tn n0)) ≤ k → Wk (kWd (sysM b dA D)) (kAA (sysM b dA D)) (y_ad (sysM b dA D)) x (0, 0) (kQ (sysM b dA D) (fun r g2 => r = some (.inl (mRows (tn n0) n k g).1) ∧ g2 = (mRows (tn n0) n k g).2) x) 28 [some (.inr (.inr (0, 0))), some (.inl n0), some (.inl (nI k)), z3, z4, z5] [] g := by
  have C := X.1
  have O := X.2.1
  intro n
  induction n with
  | zero =>
    intro k g z3 z4 z5 hL hk hk2 hk3
    have hr := hL.2.2.1
    refine k_iload_n C d_M_tryRows_28 rfl rfl ?_
    refine k_aload_n C d_M_tryRows_29 rfl rfl ?_
    refine k_getR C O (r := (10, _)) d_M_tryRows_30 fl_M_27 mr_0 rfl rfl rfl rfl ?_
    refine k_iload_n C d_M_tryRows_33 rfl rfl ?_
    refine k_iald2 C O d_M_tryRows_34 mr_10 rfl 0 rfl hn rfl ?_
    refine k_icmp_ge C (tgt := 116) d_M_tryRows_35 (by decide) (fun c35 => ?_) (fun c35 => ?_)
    · refine k_iconst C (v := 1) d_M_tryRows_116 (by decide) ?_
      exact k_iret X d_M_tryRows_117 (⟨rfl, rfl⟩)
    · exact absurd (x_ge hr.1 (by omega) (by omega)) c35
  | succ n ih =>
    intro k g z3 z4 z5 hL hk hk2 hk3
    have hr := hL.2.2.1
    have hr2 := hr.2
    refine k_iload_n C d_M_tryRows_28 rfl rfl ?_
    refine k_aload_n C d_M_tryRows_29 rfl rfl ?_
    refine k_getR C O (r := (10, _)) d_M_tryRows_30 fl_M_27 mr_0 rfl rfl rfl rfl ?_
    refine k_iload_n C d_M_tryRows_33 rfl rfl ?_
    refine k_iald2 C O d_M_tryRows_34 mr_10 rfl 0 rfl hn rfl ?_
    refine k_icmp_ge C (tgt := 116) d_M_tryRows_35 (by decide) (fun c35 => ?_) (fun c35 => ?_)
    · refine k_iconst C (v := 1) d_M_tryRows_116 (by decide) ?_
      exact k_iret X d_M_tryRows_117 (k_pr ((if_pos c35).trans (rfl)))
    · have hlt : k < tn (g.1 10 0 (tn n0)) := by
        rcases Nat.lt_or_ge k (tn (g.1 10 0 (tn n0))) with q | q
        · exact q
        · exact absurd (x_ge hr.1 q (by omega)) c35
      have hrow := hL.2.2.2.2 k hlt
      refine k_aload_n C d_M_tryRows_38 rfl rfl ?_
      refine k_getR C O (r := (11, _)) d_M_tryRows_39 fl_M_30 mr_0 rfl rfl rfl rfl ?_
      refine k_bipush C (v := 12) d_M_tryRows_42 (by decide) ?_
      refine k_iload_n C d_M_tryRows_44 rfl rfl ?_
      refine k_imul C d_M_tryRows_45 ?_
      refine k_iload_n C d_M_tryRows_46 rfl rfl ?_
      refine k_iadd C d_M_tryRows_47 ?_
      refine k_iald2 C O (q := (12 * tn n0 + k)) d_M_tryRows_48 mr_11 rfl 0 rfl (ix_in (L := 144) (c := 12) (N := 12) (k := k) rfl hn (by decide) rfl (by decide) (by omega)) (ix_q (c := 12) (N := 12) (k := k) rfl hn (by decide) rfl ⟨by decide, by omega⟩) ?_
      refine k_istore_n C d_M_tryRows_49 rfl (Nat.le_of_ble_eq_true rfl) rfl ?_
      refine k_aload_n C d_M_tryRows_50 rfl rfl ?_
      refine k_getR C O (r := (12, _)) d_M_tryRows_51 fl_M_33 mr_0 rfl rfl rfl rfl ?_
      refine k_bipush C (v := 12) d_M_tryRows_54 (by decide) ?_
      refine k_iload_n C d_M_tryRows_56 rfl rfl ?_
      refine k_imul C d_M_tryRows_57 ?_
      refine k_iload_n C d_M_tryRows_58 rfl rfl ?_
      refine k_iadd C d_M_tryRows_59 ?_
      refine k_iald2 C O (q := (12 * tn n0 + k)) d_M_tryRows_60 mr_12 rfl 0 rfl (ix_in (L := 144) (c := 12) (N := 12) (k := k) rfl hn (by decide) rfl (by decide) (by omega)) (ix_q (c := 12) (N := 12) (k := k) rfl hn (by decide) rfl ⟨by decide, by omega⟩) ?_
      refine k_istore C d_M_tryRows_61 (Nat.le_of_ble_eq_true rfl) rfl ?_
      refine k_iinc C (w := nI (k + 1)) d_M_tryRows_63 rfl (nI_inc k) rfl ?_
      refine k_iload_n C d_M_tryRows_66 rfl rfl ?_
      refine k_iconst C (v := 2) d_M_tryRows_67 (by decide) ?_
      refine k_icmp_ne C (tgt := 94) d_M_tryRows_68 (by decide) (fun c68 => ?_) (fun c68 => ?_)
      · have hw := (hrow.resolve_left (fun q => c68 q.1)).2
        refine k_aload_n C d_M_tryRows_94 rfl rfl ?_
        refine k_iload_n C d_M_tryRows_95 rfl rfl ?_
        refine k_iload_n C d_M_tryRows_96 rfl rfl ?_
        refine k_iload C d_M_tryRows_97 rfl ?_
        refine k_cvI X d_M_tryRows_99 (c_M_look l b dA D g n0 _ (g.1 12 0 (12 * tn n0 + k)) hn hw hL.2.1 (hL.1 _ (vi_lt hw)) hL.2.2.2.1) cv_M_137 mr_0 rfl rfl ⟨by decide, by decide⟩ rfl rfl (Nat.le_of_ble_eq_true rfl) ?_
        refine k_istore C d_M_tryRows_102 (Nat.le_of_ble_eq_true rfl) rfl ?_
        refine k_iload C d_M_tryRows_104 rfl ?_
        refine k_iconst C (v := 1) d_M_tryRows_106 (by decide) ?_
        refine k_icmp_eq C (tgt := 113) d_M_tryRows_107 (by decide) (fun c107 => ?_) (fun c107 => ?_)
        · refine k_goto C (tgt := 28) d_M_tryRows_113 (by decide) ?_
          have h6 := mLook_cnt g (tn n0) (g.1 11 0 (12 * tn n0 + k)) (g.1 12 0 (12 * tn n0 + k)) hL.2.1 (by omega)
          exact k_Qs ((if_neg c35).trans ((if_neg c68).trans ((if_pos c107).trans (rfl)))) (ih (k + 1) (mLook g (tn n0) (g.1 11 0 (12 * tn n0 + k)) (g.1 12 0 (12 * tn n0 + k))).2 _ _ _ (mL_look hL _ _ (by omega)) (by rw [mLook_fr g (tn n0) _ (g.1 12 0 (12 * tn n0 + k)) 10 0 (tn n0) (by decide)]; omega) (by omega) (by omega))
        · refine k_iload C d_M_tryRows_110 rfl ?_
          exact k_iret X d_M_tryRows_112 (k_pr ((if_neg c35).trans ((if_neg c68).trans ((if_neg c107).trans (rfl)))))
      · have hw := (hrow.resolve_right (fun q => q.1 c68)).2
        have hw1 := hw.1
        have hw2 := hw.2
        have e9 : nI (k + 1) + (g.1 12 0 (12 * tn n0 + k)) = nI (k + 1 + tn (g.1 12 0 (12 * tn n0 + k))) := by
          conv => lhs; rw [hw1]
          exact nI_add _ _
        refine k_iload_n C d_M_tryRows_71 rfl rfl ?_
        refine k_aload_n C d_M_tryRows_72 rfl rfl ?_
        refine k_getJ C O d_M_tryRows_73 fl_M_124 mr_0 rfl rfl rfl ?_
        refine k_lconst C (v := 1) d_M_tryRows_76 (by decide) ?_
        refine k_land C d_M_tryRows_77 ?_
        refine k_lconst C (v := 1) d_M_tryRows_78 (by decide) ?_
        refine k_lcmp C d_M_tryRows_79 ?_
        refine k_if_ne C (tgt := 88) d_M_tryRows_80 (by decide) (fun c80 => ?_) (fun c80 => ?_)
        · refine k_iconst C (v := 0) d_M_tryRows_88 (by decide) ?_
          refine k_iadd C d_M_tryRows_89 ?_
          refine k_istore_n C d_M_tryRows_90 rfl (Nat.le_of_ble_eq_true rfl) rfl ?_
          refine k_goto C (tgt := 28) d_M_tryRows_91 (by decide) ?_
          rw [show nI (k + 1) + 0 = nI (k + 1) from Int32.add_zero _]
          exact k_Qs ((if_neg c35).trans ((if_pos c68).trans ((if_neg c80).trans (rfl)))) (ih (k + 1) g _ _ _ hL (by omega) (by omega) (by omega))
        · refine k_iload C d_M_tryRows_83 rfl ?_
          refine k_goto C (tgt := 89) d_M_tryRows_85 (by decide) ?_
          refine k_iadd C d_M_tryRows_89 ?_
          refine k_istore_n C d_M_tryRows_90 rfl (Nat.le_of_ble_eq_true rfl) rfl ?_
          refine k_goto C (tgt := 28) d_M_tryRows_91 (by decide) ?_
          rw [show nI (k + 1) + (g.1 12 0 (12 * tn n0 + k)) = nI (k + 1 + tn (g.1 12 0 (12 * tn n0 + k))) from e9]
          exact k_Qs ((if_neg c35).trans ((if_pos c68).trans ((if_pos c80).trans (rfl)))) (ih (k + 1 + tn (g.1 12 0 (12 * tn n0 + k))) g _ _ _ hL (by omega) (by omega) (by omega))

set_option maxHeartbeats 4000000 in
set_option maxRecDepth 100000 in
theorem c_M_tryRows (l : Launch) (b : Nat → Nat → Nat) (dA : Nat → ClassId) (D : va_G) (g : kG) (n0 : Int32) (hn : vp_in n0 12) (hL : mL (mTry0 g (tn n0)) (tn n0)) : kMd (sysM b dA D) l y_M_tryRows b_M_tryRows 6 (some .int) 2 48 [.inr (.inr (0, 0)), .inl n0] g (some (.inl (mTry g (tn n0)).1)) (mTry g (tn n0)).2 := by
  refine k_enter (by decide) [some (.inr (.inr (0, 0))), some (.inl n0), none, none, none, none] rfl rfl (Nat.le_of_ble_eq_true rfl) (fun x X => ?_)
  have C := X.1
  have O := X.2.1
  refine k_aload_n C d_M_tryRows_0 rfl rfl ?_
  refine k_ldc2 C (v := 7) d_M_tryRows_1 (by decide +kernel) ?_
  refine k_putJ C O d_M_tryRows_4 fp_M_130 mr_0 rfl rfl rfl ?_
  refine k_aload_n C d_M_tryRows_7 rfl rfl ?_
  refine k_lconst C (v := 0) d_M_tryRows_8 (by decide) ?_
  refine k_putJ C O d_M_tryRows_9 fp_M_124 mr_0 rfl rfl rfl ?_
  refine k_aload_n C d_M_tryRows_12 rfl rfl ?_
  refine k_getR C O (r := (14, _)) d_M_tryRows_13 fl_M_39 mr_0 rfl rfl rfl rfl ?_
  refine k_iload_n C d_M_tryRows_16 rfl rfl ?_
  refine k_iconst C (v := 0) d_M_tryRows_17 (by decide) ?_
  refine k_iast2 C O d_M_tryRows_18 mr_14 rfl 0 rfl hn rfl ?_
  refine k_aload_n C d_M_tryRows_19 rfl rfl ?_
  refine k_getR C O (r := (13, _)) d_M_tryRows_20 fl_M_36 mr_0 rfl rfl rfl rfl ?_
  refine k_iload_n C d_M_tryRows_23 rfl rfl ?_
  refine k_iconst C (v := 2) d_M_tryRows_24 (by decide) ?_
  refine k_iast2 C O d_M_tryRows_25 mr_13 rfl 0 rfl hn rfl ?_
  refine k_iconst C (v := 0) d_M_tryRows_26 (by decide) ?_
  refine k_istore_n C d_M_tryRows_27 rfl (Nat.le_of_ble_eq_true rfl) rfl ?_
  have e0 : tn ((mTry0 g (tn n0)).1 14 0 (tn n0)) = 0 := by
    show tn (kU (kU g.1 14 0 (tn n0) 0) 13 0 (tn n0) 2 14 0 (tn n0)) = 0
    rw [kU_n (fun q => absurd q.1 (by decide)), kU_s]
    decide
  exact l_M_rows l b dA D n0 hn X 13 0 (mTry0 g (tn n0)) none none none hL (by have := hL.2.2.1.2; omega) (by decide) (by omega)
end
section
/-! the reference: specs and contracts, 4: run, resolve, map and the rest (by program: wip/gen/cm4.py) -/
theorem mFv_fr (na : Nat) : ∀ (n : Nat) (mo : Int32) (g : kG) (q a j : Nat), q ≠ 22 → (mFv na n mo g).1 q a j = g.1 q a j ∧ (mFv na n mo g).2 = g.2
  | 0, mo, g, q, a, j, h => ⟨rfl, rfl⟩
  | n + 1, mo, g, q, a, j, h => by
    unfold mFv
    split
    · exact ⟨rfl, rfl⟩
    · have h1 := mFv_fr na n (mRd na 0 0 g).1 (mRd na 0 0 g).2 q a j h
      have h2 := mRd_fr na 0 0 g q a j h
      exact ⟨h1.1.trans h2.1, h1.2.trans h2.2⟩
theorem mClr_J : ∀ (n k : Nat) (g : kG), (mClr n k g).2 = g.2
  | 0, k, g => rfl
  | n + 1, k, g => (mClr_J n (k + 1) (kU g.1 22 0 k 0, g.2)).trans rfl
theorem mFr_fr (g : kG) (q a j : Nat) (h : q ≠ 22) : (mFr g).1 q a j = g.1 q a j := ((mFv_fr _ 13 1 (mClr 12 0 g) q a j h).1).trans (mClr_fr 12 0 g q a j h)
theorem mFr_J (g : kG) : (mFr g).2 = g.2 := ((mFv_fr _ 13 1 (mClr 12 0 g) 0 0 0 (by decide)).2).trans (mClr_J 12 0 g)
theorem mFr_Z (g : kG) (h : ∀ j, kZ (g.1 22 0 j)) : ∀ j, kZ ((mFr g).1 22 0 j) := mFv_Z _ _ _ _ (mClr_Z _ _ _ h)
theorem mRows_fr (a : Nat) (k i j : Nat) (h : (k ≠ 14 ∧ k ≠ 15 ∧ k ≠ 20 ∧ k ≠ 21) ∧ k ≠ 19) : ∀ (n q : Nat) (g : kG), (mRows a n q g).2.1 k i j = g.1 k i j
  | 0, q, g => rfl
  | n + 1, q, g => by
    have e := mLook_fr g a (g.1 11 0 (12 * a + q)) (g.1 12 0 (12 * a + q)) k i j h
    unfold mRows
    split
    · rfl
    · split
      · split
        · exact mRows_fr a k i j h n _ _
        · exact mRows_fr a k i j h n _ _
      · split
        · rw [mRows_fr a k i j h n]; exact e
        · exact e
def mRunB (r : Int32) (g : kG) (a : Nat) : Int32 × kG := if r = 1 then (if g.1 9 0 a = -1 then (r, (kU g.1 13 0 a r, g.2)) else (r, (kU (kU g.1 13 0 a r) 5 0 (tn (g.1 9 0 a)) 1, kUJ g.2 6 0 (tn (g.1 9 0 a)) (g.2 0 0 32)))) else if r = -3 then (if g.1 9 0 a = -1 then (r, (kU g.1 13 0 a r, g.2)) else (r, (kU (kU g.1 13 0 a r) 5 0 (tn (g.1 9 0 a)) 0, kUJ g.2 6 0 (tn (g.1 9 0 a)) 0))) else (r, mFgt g a)
def mRunT (g : kG) (a : Nat) : kG := (kU (kU g.1 18 0 a (g.1 18 0 a + 1)) 17 0 a (g.1 17 0 a + 1), g.2)
def mW (g : kG) (a : Nat) : kG := (kU g.1 19 0 a (-1), g.2)
def mG2 (g : kG) (a : Nat) : kG := mFr (mW g a)
def mS2 (g : kG) (a : Nat) : Int32 × kG := mTry (mRunT (mG2 g a) a) a
def mRun (g : kG) (n : Int32) : Int32 × kG := if (mG2 g (tn n)).1 22 0 (tn n) = 0 then (if (mG2 g (tn n)).1 18 0 (tn n) = (mG2 g (tn n)).1 0 0 0 then (-2, mFgt (kU (mG2 g (tn n)).1 18 0 (tn n) 0, (mG2 g (tn n)).2) (tn n)) else if (mS2 g (tn n)).1 = 0 then mRunB (mS2 g (tn n)).1 (mS2 g (tn n)).2 (tn n) else mRunB (mS2 g (tn n)).1 (kU (mS2 g (tn n)).2.1 18 0 (tn n) 0, (mS2 g (tn n)).2.2) (tn n)) else ((mG2 g (tn n)).1 13 0 (tn n), (kU (mG2 g (tn n)).1 16 0 (tn n) ((mG2 g (tn n)).1 16 0 (tn n) + 1), (mG2 g (tn n)).2))
def mRunP (g : kG) (n : Int32) : Int32 × kG := if xIn n (g.1 0 0 3) = 0 then (-9, m0 g) else ((mRun (m0 g) n).1, (mRun (m0 g) n).2)
def mFreshP (g : kG) (n : Int32) : Int32 × kG := if xIn n (g.1 0 0 3) = 0 then (0, m0 g) else if mNow (m0 g) n = 0 then (0, mFr (m0 g)) else (1, mFr (m0 g))
/-- what always holds of the reference's memory, for run and resolve -/
def mJ (g : kG) : Prop := mI g ∧ mS g ∧ (∀ j, kZ (g.1 22 0 j)) ∧ (∀ a, a < 12 → g.1 9 0 a = -1 ∨ vp_in (g.1 9 0 a) 24) ∧ ∀ a, a < 12 → ∀ k, k < tn (g.1 10 0 a) → (g.1 11 0 (12 * a + k) = 2 ∧ kN (g.1 12 0 (12 * a + k)) 8) ∨ (¬ g.1 11 0 (12 * a + k) = 2 ∧ vp_in (g.1 12 0 (12 * a + k)) 24)
theorem mJ_try {g : kG} (h : mJ g) {a : Nat} (ha : a < 12) : mL (mTry0 (mRunT (mG2 g a) a) a) a := by
  have e := fun q i j (hq : q ≠ 22 ∧ q ≠ 19) => (mFr_fr (mW g a) q i j hq.1).trans (kU_n (I := g.1) (k := 19) (i := 0) (j := a) (v := -1) (fun z => hq.2 z.1))
  obtain ⟨⟨h1, h2, h3, h4, h5, h6, h7⟩, h8, h9, h10, h11⟩ := h
  refine ⟨fun f hf => ?_, ?_, ?_, fun f hf => ?_, fun k hk => ?_⟩
  · show kZ ((mG2 g a).1 5 0 f)
    rw [show (mG2 g a).1 5 0 f = g.1 5 0 f from e 5 0 f (by decide)]; exact h4 f hf
  · have e0 : (mTry0 (mRunT (mG2 g a) a) a).1 14 0 a = nI 0 := by
      show kU (kU _ 14 0 a 0) 13 0 a 2 14 0 a = nI 0
      rw [kU_n (fun q => absurd q.1 (by decide)), kU_s]; exact nI_0.symm
    rw [e0]
    exact kN_of (by omega) (by omega)
  · show kN ((mG2 g a).1 10 0 a) 12
    rw [show (mG2 g a).1 10 0 a = g.1 10 0 a from e 10 0 a (by decide)]; exact (h5 a ha).1
  · show (mG2 g a).1 7 0 f = -1 ∨ vp_in ((mG2 g a).1 7 0 f) 12
    rw [show (mG2 g a).1 7 0 f = g.1 7 0 f from e 7 0 f (by decide)]; exact h8.2.2 f hf
  · have hk2 : k < tn ((mG2 g a).1 10 0 a) := hk
    rw [show (mG2 g a).1 10 0 a = g.1 10 0 a from e 10 0 a (by decide)] at hk2
    show ((mG2 g a).1 11 0 (12 * a + k) = 2 ∧ kN ((mG2 g a).1 12 0 (12 * a + k)) 8) ∨ (¬ (mG2 g a).1 11 0 (12 * a + k) = 2 ∧ vp_in ((mG2 g a).1 12 0 (12 * a + k)) 24)
    rw [show (mG2 g a).1 11 0 (12 * a + k) = g.1 11 0 (12 * a + k) from e 11 0 _ (by decide), show (mG2 g a).1 12 0 (12 * a + k) = g.1 12 0 (12 * a + k) from e 12 0 _ (by decide)]
    exact h11 a ha k hk2
theorem mS2_9 (g : kG) (a : Nat) (j : Nat) : (mS2 g a).2.1 9 0 j = g.1 9 0 j := by
  have e := (mFr_fr (mW g a) 9 0 j (by decide)).trans (kU_n (I := g.1) (k := 19) (i := 0) (j := a) (a := 9) (b := 0) (c := j) (v := -1) (fun z => absurd z.1 (by decide)))
  have e2 := mRows_fr a 9 0 j (by decide) 13 0 (mTry0 (mRunT (mG2 g a) a) a)
  exact e2.trans e
def mUn (g : kG) (a : Nat) : Nat → Nat → Int32 → Int32
  | 0, _, b => b
  | n + 1, k, b => if g.1 13 0 a = 2 then b else mUn g a n (k + 1) (b &&& ((1 <<< (g.1 15 0 (24 * a + k) &&& 31)) ^^^ (-1)))
def mUnused (g : kG) (n : Int32) : Int32 := if xIn n (g.1 0 0 3) = 0 then 0 else mUn (m0 g) (tn n) (tn (g.1 14 0 (tn n))) 0 (g.1 8 0 (tn n) &&& ((1 <<< (g.1 0 0 2 &&& 31)) - 1))
def mIm (g : kG) (m : Nat) (d : Int64) : Nat → Nat → Int32 → Int32
  | 0, _, s => s
  | n + 1, k, s => if s = 0 then (if lg_cmp (g.2 30 0 (4 * m + k)) d = 0 then mIm g m d n (k + 1) 1 else mIm g m d n (k + 1) 0) else mIm g m d n (k + 1) 1
def mAn (g : kG) (m f : Nat) : Nat → Nat → Int32 → Int32
  | 0, _, a => a
  | n + 1, k, a => if mIm g m (xMem (g.2 6 0 f) (nI k)) (tn (g.1 28 0 m)) 0 0 = 0 then mAn g m f n (k + 1) (a + 1) else mAn g m f n (k + 1) (a + 0)
def mSt (m f : Nat) : Nat → Nat → kG → kG
  | 0, _, g => g
  | n + 1, k, g => mSt m f n (k + 1) (g.1, kUJ (kUJ g.2 30 0 (4 * m + k) (xMem (g.2 6 0 f) (nI k))) 31 0 (4 * m + k) (17 * xMem (g.2 6 0 f) (nI k) + g.2 29 0 m))
def mTake (g : kG) (m f : Nat) : Int32 × kG := (mAn g m f (tn (mMof g f)) 0 0, (kU (mSt m f (tn (mMof g f)) 0 g).1 28 0 m (mMof g f), (mSt m f (tn (mMof g f)) 0 g).2))
def mMap (g : kG) (n : Int32) : Int32 × kG := if n < 0 then (-1, m0 g) else if n < g.1 0 0 4 then (if g.1 7 0 (tn (g.1 27 0 (tn n))) = -1 then (-1, m0 g) else if g.1 5 0 (tn (g.1 27 0 (tn n))) = 0 then (-1, m0 g) else if mNow (m0 g) (g.1 7 0 (tn (g.1 27 0 (tn n)))) = 0 then (-1, mFr (m0 g)) else mTake (mFr (m0 g)) (tn n) (tn (g.1 27 0 (tn n)))) else (-1, m0 g)
def mTr : Nat → Nat → kG → kG
  | 0, _, g => g
  | n + 1, k, g => mTr n (k + 1) (kU (kU g.1 24 0 (tn (g.1 0 0 26)) (g.1 25 0 k)) 0 0 26 (g.1 0 0 26 + 1), g.2)
def mSe (g : kG) (nx : Int32) : Nat → Nat → Nat
  | 0, k => k
  | n + 1, k => if g.1 25 0 k = nx then k else mSe g nx n (k + 1)
theorem mSe_le (g : kG) (nx : Int32) : ∀ n k, k ≤ mSe g nx n k ∧ mSe g nx n k ≤ k + n
  | 0, k => ⟨Nat.le_refl _, Nat.le_refl _⟩
  | n + 1, k => by
    unfold mSe
    split
    · omega
    · have := mSe_le g nx n (k + 1)
      omega
def mNx (g : kG) (e : Nat) : Int32 := (mRun g (g.1 25 0 e)).2.1 7 0 (tn ((mRun g (g.1 25 0 e)).2.1 19 0 (tn (g.1 25 0 e))))
def mAt (g : kG) (e : Nat) : Nat := mSe (mRun g (g.1 25 0 e)).2 (mNx g e) (e + 1) 0
def mPush (g : kG) (e : Nat) : kG := (kU (mRun g (g.1 25 0 e)).2.1 25 0 (e + 1) (mNx g e), (mRun g (g.1 25 0 e)).2.2)
def mRs : Nat → Nat → kG → Int32 × kG
  | 0, _, g => (-2, g)
  | n + 1, e, g => if (mRun g (g.1 25 0 e)).1 = 0 then (if nI (e + 1) ≤ nI (mAt g e) then mRs n (e + 1) (mPush g e) else (-5, mTr (e + 1 - mAt g e) (mAt g e) (mRun g (g.1 25 0 e)).2)) else if nI (e + 1) = 1 then (mRun g (g.1 25 0 e)) else if (mRun g (g.1 25 0 e)).1 = -1 then (mRun g (g.1 25 0 e)) else if (mRun g (g.1 25 0 e)).1 = -2 then (mRun g (g.1 25 0 e)) else mRs n (e - 1) (mRun g (g.1 25 0 e)).2
def mResolve (F : Nat) (g : kG) (n : Int32) : Int32 × kG := if xIn n (g.1 0 0 3) = 0 then (-9, m0 g) else mRs F 0 (kU (kU (m0 g).1 0 0 26 0) 25 0 0 n, g.2)
set_option maxHeartbeats 4000000 in
set_option maxRecDepth 100000 in
theorem c_M_runOne (l : Launch) (b : Nat → Nat → Nat) (dA : Nat → ClassId) (D : va_G) (g : kG) (n : Int32) (hn : vp_in n 12) (hJ : mJ g) : kMd (sysM b dA D) l y_M_runOne b_M_runOne 4 (some .int) 3 73 [.inr (.inr (0, 0)), .inl n] g (some (.inl (mRun g n).1)) (mRun g n).2 := by
  refine k_enter (by decide) [some (.inr (.inr (0, 0))), some (.inl n), none, none] rfl rfl (Nat.le_of_ble_eq_true rfl) (fun x X => ?_)
  have C := X.1
  have O := X.2.1
  refine k_aload_n C d_M_runOne_0 rfl rfl ?_
  refine k_getR C O (r := (19, _)) d_M_runOne_1 fl_M_54 mr_0 rfl rfl rfl rfl ?_
  refine k_iload_n C d_M_runOne_4 rfl rfl ?_
  refine k_iconst C (v := (-1)) d_M_runOne_5 (by decide) ?_
  refine k_iast2 C O d_M_runOne_6 mr_19 rfl 0 rfl hn rfl ?_
  refine k_aload_n C d_M_runOne_7 rfl rfl ?_
  refine k_iload_n C d_M_runOne_8 rfl rfl ?_
  refine k_cvI X d_M_runOne_9 (c_M_isFreshNow l b dA D (mW g (tn n)) n hn hJ.2.1 hJ.2.2.1) cv_M_141 mr_0 rfl rfl ⟨by decide, by decide⟩ rfl rfl (Nat.le_of_ble_eq_true rfl) ?_
  refine k_if_eq C (tgt := 32) d_M_runOne_12 (by decide) (fun c12 => ?_) (fun c12 => ?_)
  · refine k_aload_n C d_M_runOne_32 rfl rfl ?_
    refine k_getR C O (r := (18, _)) d_M_runOne_33 fl_M_51 mr_0 rfl rfl rfl rfl ?_
    refine k_iload_n C d_M_runOne_36 rfl rfl ?_
    refine k_iald2 C O d_M_runOne_37 mr_18 rfl 0 rfl hn rfl ?_
    refine k_aload_n C d_M_runOne_38 rfl rfl ?_
    refine k_getI C O d_M_runOne_39 fl_M_90 mr_0 rfl rfl rfl ?_
    refine k_icmp_ne C (tgt := 60) d_M_runOne_42 (by decide) (fun c42 => ?_) (fun c42 => ?_)
    · refine k_aload_n C d_M_runOne_60 rfl rfl ?_
      refine k_getR C O (r := (18, _)) d_M_runOne_61 fl_M_51 mr_0 rfl rfl rfl rfl ?_
      refine k_iload_n C d_M_runOne_64 rfl rfl ?_
      refine k_dup2 C d_M_runOne_65 rfl rfl ?_
      refine k_iald2 C O d_M_runOne_66 mr_18 rfl 0 rfl hn rfl ?_
      refine k_iconst C (v := 1) d_M_runOne_67 (by decide) ?_
      refine k_iadd C d_M_runOne_68 ?_
      refine k_iast2 C O d_M_runOne_69 mr_18 rfl 0 rfl hn rfl ?_
      refine k_aload_n C d_M_runOne_70 rfl rfl ?_
      refine k_getR C O (r := (17, _)) d_M_runOne_71 fl_M_48 mr_0 rfl rfl rfl rfl ?_
      refine k_iload_n C d_M_runOne_74 rfl rfl ?_
      refine k_dup2 C d_M_runOne_75 rfl rfl ?_
      refine k_iald2 C O d_M_runOne_76 mr_17 rfl 0 rfl hn rfl ?_
      refine k_iconst C (v := 1) d_M_runOne_77 (by decide) ?_
      refine k_iadd C d_M_runOne_78 ?_
      refine k_iast2 C O d_M_runOne_79 mr_17 rfl 0 rfl hn rfl ?_
      refine k_aload_n C d_M_runOne_80 rfl rfl ?_
      refine k_iload_n C d_M_runOne_81 rfl rfl ?_
      refine k_cvI X d_M_runOne_82 (c_M_tryRows l b dA D (mRunT (mG2 g (tn n)) (tn n)) n hn (mJ_try hJ (vi_lt hn))) cv_M_144 mr_0 rfl rfl ⟨by decide, by decide⟩ rfl rfl (Nat.le_of_ble_eq_true rfl) ?_
      refine k_istore_n C d_M_runOne_85 rfl (Nat.le_of_ble_eq_true rfl) rfl ?_
      refine k_iload_n C d_M_runOne_86 rfl rfl ?_
      refine k_if_eq C (tgt := 97) d_M_runOne_87 (by decide) (fun c87 => ?_) (fun c87 => ?_)
      · refine k_iload_n C d_M_runOne_97 rfl rfl ?_
        refine k_iconst C (v := 1) d_M_runOne_98 (by decide) ?_
        refine k_icmp_eq C (tgt := 115) d_M_runOne_99 (by decide) (fun c99 => ?_) (fun c99 => ?_)
        · refine k_aload_n C d_M_runOne_115 rfl rfl ?_
          refine k_getR C O (r := (13, _)) d_M_runOne_116 fl_M_36 mr_0 rfl rfl rfl rfl ?_
          refine k_iload_n C d_M_runOne_119 rfl rfl ?_
          refine k_iload_n C d_M_runOne_120 rfl rfl ?_
          refine k_iast2 C O d_M_runOne_121 mr_13 rfl 0 rfl hn rfl ?_
          refine k_aload_n C d_M_runOne_122 rfl rfl ?_
          refine k_getR C O (r := (9, _)) d_M_runOne_123 fl_M_24 mr_0 rfl rfl rfl rfl ?_
          refine k_iload_n C d_M_runOne_126 rfl rfl ?_
          refine k_iald2 C O d_M_runOne_127 mr_9 rfl 0 rfl hn rfl ?_
          refine k_istore_n C d_M_runOne_128 rfl (Nat.le_of_ble_eq_true rfl) rfl ?_
          refine k_iload_n C d_M_runOne_129 rfl rfl ?_
          refine k_iconst C (v := (-1)) d_M_runOne_130 (by decide) ?_
          refine k_icmp_eq C (tgt := 169) d_M_runOne_131 (by decide) (fun c131 => ?_) (fun c131 => ?_)
          · refine k_iload_n C d_M_runOne_169 rfl rfl ?_
            exact k_iret X d_M_runOne_170 (k_pr ((if_pos c12).trans ((if_neg c42).trans ((if_pos c87).trans ((if_pos c99).trans ((if_pos c131).trans (rfl)))))))
          · refine k_aload_n C d_M_runOne_134 rfl rfl ?_
            refine k_getR C O (r := (5, _)) d_M_runOne_135 fl_M_7 mr_0 rfl rfl rfl rfl ?_
            refine k_iload_n C d_M_runOne_138 rfl rfl ?_
            refine k_iload_n C d_M_runOne_139 rfl rfl ?_
            refine k_iconst C (v := 1) d_M_runOne_140 (by decide) ?_
            refine k_icmp_ne C (tgt := 148) d_M_runOne_141 (by decide) (fun q => absurd c99 q) (fun _ => ?_)
            refine k_iconst C (v := 1) d_M_runOne_144 (by decide) ?_
            refine k_goto C (tgt := 149) d_M_runOne_145 (by decide) ?_
            refine k_zast2 C O d_M_runOne_149 (Or.inr rfl) mr_5 rfl 1 rfl (((mS2_9 g (tn n) (tn n)).symm ▸ hJ.2.2.2.1 _ (vi_lt hn)).resolve_left c131) rfl ?_
            refine k_aload_n C d_M_runOne_150 rfl rfl ?_
            refine k_getR C O (r := (6, _)) d_M_runOne_151 fl_M_13 mr_0 rfl rfl rfl rfl ?_
            refine k_iload_n C d_M_runOne_154 rfl rfl ?_
            refine k_iload_n C d_M_runOne_155 rfl rfl ?_
            refine k_iconst C (v := 1) d_M_runOne_156 (by decide) ?_
            refine k_icmp_ne C (tgt := 167) d_M_runOne_157 (by decide) (fun q => absurd c99 q) (fun _ => ?_)
            refine k_aload_n C d_M_runOne_160 rfl rfl ?_
            refine k_getJ C O d_M_runOne_161 fl_M_130 mr_0 rfl rfl rfl ?_
            refine k_goto C (tgt := 168) d_M_runOne_164 (by decide) ?_
            refine k_last2 C O d_M_runOne_168 mr_6 rfl 2 rfl (((mS2_9 g (tn n) (tn n)).symm ▸ hJ.2.2.2.1 _ (vi_lt hn)).resolve_left c131) rfl ?_
            refine k_iload_n C d_M_runOne_169 rfl rfl ?_
            exact k_iret X d_M_runOne_170 (k_pr ((if_pos c12).trans ((if_neg c42).trans ((if_pos c87).trans ((if_pos c99).trans ((if_neg c131).trans (rfl)))))))
        · refine k_iload_n C d_M_runOne_102 rfl rfl ?_
          refine k_bipush C (v := (-3)) d_M_runOne_103 (by decide) ?_
          refine k_icmp_eq C (tgt := 115) d_M_runOne_105 (by decide) (fun c105 => ?_) (fun c105 => ?_)
          · refine k_aload_n C d_M_runOne_115 rfl rfl ?_
            refine k_getR C O (r := (13, _)) d_M_runOne_116 fl_M_36 mr_0 rfl rfl rfl rfl ?_
            refine k_iload_n C d_M_runOne_119 rfl rfl ?_
            refine k_iload_n C d_M_runOne_120 rfl rfl ?_
            refine k_iast2 C O d_M_runOne_121 mr_13 rfl 0 rfl hn rfl ?_
            refine k_aload_n C d_M_runOne_122 rfl rfl ?_
            refine k_getR C O (r := (9, _)) d_M_runOne_123 fl_M_24 mr_0 rfl rfl rfl rfl ?_
            refine k_iload_n C d_M_runOne_126 rfl rfl ?_
            refine k_iald2 C O d_M_runOne_127 mr_9 rfl 0 rfl hn rfl ?_
            refine k_istore_n C d_M_runOne_128 rfl (Nat.le_of_ble_eq_true rfl) rfl ?_
            refine k_iload_n C d_M_runOne_129 rfl rfl ?_
            refine k_iconst C (v := (-1)) d_M_runOne_130 (by decide) ?_
            refine k_icmp_eq C (tgt := 169) d_M_runOne_131 (by decide) (fun c131 => ?_) (fun c131 => ?_)
            · refine k_iload_n C d_M_runOne_169 rfl rfl ?_
              exact k_iret X d_M_runOne_170 (k_pr ((if_pos c12).trans ((if_neg c42).trans ((if_pos c87).trans ((if_neg c99).trans ((if_pos c105).trans ((if_pos c131).trans (rfl))))))))
            · refine k_aload_n C d_M_runOne_134 rfl rfl ?_
              refine k_getR C O (r := (5, _)) d_M_runOne_135 fl_M_7 mr_0 rfl rfl rfl rfl ?_
              refine k_iload_n C d_M_runOne_138 rfl rfl ?_
              refine k_iload_n C d_M_runOne_139 rfl rfl ?_
              refine k_iconst C (v := 1) d_M_runOne_140 (by decide) ?_
              refine k_icmp_ne C (tgt := 148) d_M_runOne_141 (by decide) (fun _ => ?_) (fun q => absurd q c99)
              refine k_iconst C (v := 0) d_M_runOne_148 (by decide) ?_
              refine k_zast2 C O d_M_runOne_149 (Or.inl rfl) mr_5 rfl 1 rfl (((mS2_9 g (tn n) (tn n)).symm ▸ hJ.2.2.2.1 _ (vi_lt hn)).resolve_left c131) rfl ?_
              refine k_aload_n C d_M_runOne_150 rfl rfl ?_
              refine k_getR C O (r := (6, _)) d_M_runOne_151 fl_M_13 mr_0 rfl rfl rfl rfl ?_
              refine k_iload_n C d_M_runOne_154 rfl rfl ?_
              refine k_iload_n C d_M_runOne_155 rfl rfl ?_
              refine k_iconst C (v := 1) d_M_runOne_156 (by decide) ?_
              refine k_icmp_ne C (tgt := 167) d_M_runOne_157 (by decide) (fun _ => ?_) (fun q => absurd q c99)
              refine k_lconst C (v := 0) d_M_runOne_167 (by decide) ?_
              refine k_last2 C O d_M_runOne_168 mr_6 rfl 2 rfl (((mS2_9 g (tn n) (tn n)).symm ▸ hJ.2.2.2.1 _ (vi_lt hn)).resolve_left c131) rfl ?_
              refine k_iload_n C d_M_runOne_169 rfl rfl ?_
              exact k_iret X d_M_runOne_170 (k_pr ((if_pos c12).trans ((if_neg c42).trans ((if_pos c87).trans ((if_neg c99).trans ((if_pos c105).trans ((if_neg c131).trans (rfl))))))))
          · refine k_aload_n C d_M_runOne_108 rfl rfl ?_
            refine k_iload_n C d_M_runOne_109 rfl rfl ?_
            refine k_cvV X d_M_runOne_110 (c_M_forget l b dA D _ n hn) cv_M_110 mr_0 rfl rfl ⟨by decide, by decide⟩ rfl rfl (Nat.le_of_ble_eq_true rfl) ?_
            refine k_iload_n C d_M_runOne_113 rfl rfl ?_
            exact k_iret X d_M_runOne_114 (k_pr ((if_pos c12).trans ((if_neg c42).trans ((if_pos c87).trans ((if_neg c99).trans ((if_neg c105).trans (rfl)))))))
      · refine k_aload_n C d_M_runOne_90 rfl rfl ?_
        refine k_getR C O (r := (18, _)) d_M_runOne_91 fl_M_51 mr_0 rfl rfl rfl rfl ?_
        refine k_iload_n C d_M_runOne_94 rfl rfl ?_
        refine k_iconst C (v := 0) d_M_runOne_95 (by decide) ?_
        refine k_iast2 C O d_M_runOne_96 mr_18 rfl 0 rfl hn rfl ?_
        refine k_iload_n C d_M_runOne_97 rfl rfl ?_
        refine k_iconst C (v := 1) d_M_runOne_98 (by decide) ?_
        refine k_icmp_eq C (tgt := 115) d_M_runOne_99 (by decide) (fun c99 => ?_) (fun c99 => ?_)
        · refine k_aload_n C d_M_runOne_115 rfl rfl ?_
          refine k_getR C O (r := (13, _)) d_M_runOne_116 fl_M_36 mr_0 rfl rfl rfl rfl ?_
          refine k_iload_n C d_M_runOne_119 rfl rfl ?_
          refine k_iload_n C d_M_runOne_120 rfl rfl ?_
          refine k_iast2 C O d_M_runOne_121 mr_13 rfl 0 rfl hn rfl ?_
          refine k_aload_n C d_M_runOne_122 rfl rfl ?_
          refine k_getR C O (r := (9, _)) d_M_runOne_123 fl_M_24 mr_0 rfl rfl rfl rfl ?_
          refine k_iload_n C d_M_runOne_126 rfl rfl ?_
          refine k_iald2 C O d_M_runOne_127 mr_9 rfl 0 rfl hn rfl ?_
          refine k_istore_n C d_M_runOne_128 rfl (Nat.le_of_ble_eq_true rfl) rfl ?_
          refine k_iload_n C d_M_runOne_129 rfl rfl ?_
          refine k_iconst C (v := (-1)) d_M_runOne_130 (by decide) ?_
          refine k_icmp_eq C (tgt := 169) d_M_runOne_131 (by decide) (fun c131 => ?_) (fun c131 => ?_)
          · refine k_iload_n C d_M_runOne_169 rfl rfl ?_
            exact k_iret X d_M_runOne_170 (k_pr ((if_pos c12).trans ((if_neg c42).trans ((if_neg c87).trans ((if_pos c99).trans ((if_pos c131).trans (rfl)))))))
          · refine k_aload_n C d_M_runOne_134 rfl rfl ?_
            refine k_getR C O (r := (5, _)) d_M_runOne_135 fl_M_7 mr_0 rfl rfl rfl rfl ?_
            refine k_iload_n C d_M_runOne_138 rfl rfl ?_
            refine k_iload_n C d_M_runOne_139 rfl rfl ?_
            refine k_iconst C (v := 1) d_M_runOne_140 (by decide) ?_
            refine k_icmp_ne C (tgt := 148) d_M_runOne_141 (by decide) (fun q => absurd c99 q) (fun _ => ?_)
            refine k_iconst C (v := 1) d_M_runOne_144 (by decide) ?_
            refine k_goto C (tgt := 149) d_M_runOne_145 (by decide) ?_
            refine k_zast2 C O d_M_runOne_149 (Or.inr rfl) mr_5 rfl 1 rfl (((mS2_9 g (tn n) (tn n)).symm ▸ hJ.2.2.2.1 _ (vi_lt hn)).resolve_left c131) rfl ?_
            refine k_aload_n C d_M_runOne_150 rfl rfl ?_
            refine k_getR C O (r := (6, _)) d_M_runOne_151 fl_M_13 mr_0 rfl rfl rfl rfl ?_
            refine k_iload_n C d_M_runOne_154 rfl rfl ?_
            refine k_iload_n C d_M_runOne_155 rfl rfl ?_
            refine k_iconst C (v := 1) d_M_runOne_156 (by decide) ?_
            refine k_icmp_ne C (tgt := 167) d_M_runOne_157 (by decide) (fun q => absurd c99 q) (fun _ => ?_)
            refine k_aload_n C d_M_runOne_160 rfl rfl ?_
            refine k_getJ C O d_M_runOne_161 fl_M_130 mr_0 rfl rfl rfl ?_
            refine k_goto C (tgt := 168) d_M_runOne_164 (by decide) ?_
            refine k_last2 C O d_M_runOne_168 mr_6 rfl 2 rfl (((mS2_9 g (tn n) (tn n)).symm ▸ hJ.2.2.2.1 _ (vi_lt hn)).resolve_left c131) rfl ?_
            refine k_iload_n C d_M_runOne_169 rfl rfl ?_
            exact k_iret X d_M_runOne_170 (k_pr ((if_pos c12).trans ((if_neg c42).trans ((if_neg c87).trans ((if_pos c99).trans ((if_neg c131).trans (rfl)))))))
        · refine k_iload_n C d_M_runOne_102 rfl rfl ?_
          refine k_bipush C (v := (-3)) d_M_runOne_103 (by decide) ?_
          refine k_icmp_eq C (tgt := 115) d_M_runOne_105 (by decide) (fun c105 => ?_) (fun c105 => ?_)
          · refine k_aload_n C d_M_runOne_115 rfl rfl ?_
            refine k_getR C O (r := (13, _)) d_M_runOne_116 fl_M_36 mr_0 rfl rfl rfl rfl ?_
            refine k_iload_n C d_M_runOne_119 rfl rfl ?_
            refine k_iload_n C d_M_runOne_120 rfl rfl ?_
            refine k_iast2 C O d_M_runOne_121 mr_13 rfl 0 rfl hn rfl ?_
            refine k_aload_n C d_M_runOne_122 rfl rfl ?_
            refine k_getR C O (r := (9, _)) d_M_runOne_123 fl_M_24 mr_0 rfl rfl rfl rfl ?_
            refine k_iload_n C d_M_runOne_126 rfl rfl ?_
            refine k_iald2 C O d_M_runOne_127 mr_9 rfl 0 rfl hn rfl ?_
            refine k_istore_n C d_M_runOne_128 rfl (Nat.le_of_ble_eq_true rfl) rfl ?_
            refine k_iload_n C d_M_runOne_129 rfl rfl ?_
            refine k_iconst C (v := (-1)) d_M_runOne_130 (by decide) ?_
            refine k_icmp_eq C (tgt := 169) d_M_runOne_131 (by decide) (fun c131 => ?_) (fun c131 => ?_)
            · refine k_iload_n C d_M_runOne_169 rfl rfl ?_
              exact k_iret X d_M_runOne_170 (k_pr ((if_pos c12).trans ((if_neg c42).trans ((if_neg c87).trans ((if_neg c99).trans ((if_pos c105).trans ((if_pos c131).trans (rfl))))))))
            · refine k_aload_n C d_M_runOne_134 rfl rfl ?_
              refine k_getR C O (r := (5, _)) d_M_runOne_135 fl_M_7 mr_0 rfl rfl rfl rfl ?_
              refine k_iload_n C d_M_runOne_138 rfl rfl ?_
              refine k_iload_n C d_M_runOne_139 rfl rfl ?_
              refine k_iconst C (v := 1) d_M_runOne_140 (by decide) ?_
              refine k_icmp_ne C (tgt := 148) d_M_runOne_141 (by decide) (fun _ => ?_) (fun q => absurd q c99)
              refine k_iconst C (v := 0) d_M_runOne_148 (by decide) ?_
              refine k_zast2 C O d_M_runOne_149 (Or.inl rfl) mr_5 rfl 1 rfl (((mS2_9 g (tn n) (tn n)).symm ▸ hJ.2.2.2.1 _ (vi_lt hn)).resolve_left c131) rfl ?_
              refine k_aload_n C d_M_runOne_150 rfl rfl ?_
              refine k_getR C O (r := (6, _)) d_M_runOne_151 fl_M_13 mr_0 rfl rfl rfl rfl ?_
              refine k_iload_n C d_M_runOne_154 rfl rfl ?_
              refine k_iload_n C d_M_runOne_155 rfl rfl ?_
              refine k_iconst C (v := 1) d_M_runOne_156 (by decide) ?_
              refine k_icmp_ne C (tgt := 167) d_M_runOne_157 (by decide) (fun _ => ?_) (fun q => absurd q c99)
              refine k_lconst C (v := 0) d_M_runOne_167 (by decide) ?_
              refine k_last2 C O d_M_runOne_168 mr_6 rfl 2 rfl (((mS2_9 g (tn n) (tn n)).symm ▸ hJ.2.2.2.1 _ (vi_lt hn)).resolve_left c131) rfl ?_
              refine k_iload_n C d_M_runOne_169 rfl rfl ?_
              exact k_iret X d_M_runOne_170 (k_pr ((if_pos c12).trans ((if_neg c42).trans ((if_neg c87).trans ((if_neg c99).trans ((if_pos c105).trans ((if_neg c131).trans (rfl))))))))
          · refine k_aload_n C d_M_runOne_108 rfl rfl ?_
            refine k_iload_n C d_M_runOne_109 rfl rfl ?_
            refine k_cvV X d_M_runOne_110 (c_M_forget l b dA D _ n hn) cv_M_110 mr_0 rfl rfl ⟨by decide, by decide⟩ rfl rfl (Nat.le_of_ble_eq_true rfl) ?_
            refine k_iload_n C d_M_runOne_113 rfl rfl ?_
            exact k_iret X d_M_runOne_114 (k_pr ((if_pos c12).trans ((if_neg c42).trans ((if_neg c87).trans ((if_neg c99).trans ((if_neg c105).trans (rfl)))))))
    · refine k_aload_n C d_M_runOne_45 rfl rfl ?_
      refine k_getR C O (r := (18, _)) d_M_runOne_46 fl_M_51 mr_0 rfl rfl rfl rfl ?_
      refine k_iload_n C d_M_runOne_49 rfl rfl ?_
      refine k_iconst C (v := 0) d_M_runOne_50 (by decide) ?_
      refine k_iast2 C O d_M_runOne_51 mr_18 rfl 0 rfl hn rfl ?_
      refine k_aload_n C d_M_runOne_52 rfl rfl ?_
      refine k_iload_n C d_M_runOne_53 rfl rfl ?_
      refine k_cvV X d_M_runOne_54 (c_M_forget l b dA D _ n hn) cv_M_110 mr_0 rfl rfl ⟨by decide, by decide⟩ rfl rfl (Nat.le_of_ble_eq_true rfl) ?_
      refine k_bipush C (v := (-2)) d_M_runOne_57 (by decide) ?_
      exact k_iret X d_M_runOne_59 (k_pr ((if_pos c12).trans ((if_pos c42).trans (rfl))))
  · refine k_aload_n C d_M_runOne_15 rfl rfl ?_
    refine k_getR C O (r := (16, _)) d_M_runOne_16 fl_M_45 mr_0 rfl rfl rfl rfl ?_
    refine k_iload_n C d_M_runOne_19 rfl rfl ?_
    refine k_dup2 C d_M_runOne_20 rfl rfl ?_
    refine k_iald2 C O d_M_runOne_21 mr_16 rfl 0 rfl hn rfl ?_
    refine k_iconst C (v := 1) d_M_runOne_22 (by decide) ?_
    refine k_iadd C d_M_runOne_23 ?_
    refine k_iast2 C O d_M_runOne_24 mr_16 rfl 0 rfl hn rfl ?_
    refine k_aload_n C d_M_runOne_25 rfl rfl ?_
    refine k_getR C O (r := (13, _)) d_M_runOne_26 fl_M_36 mr_0 rfl rfl rfl rfl ?_
    refine k_iload_n C d_M_runOne_29 rfl rfl ?_
    refine k_iald2 C O d_M_runOne_30 mr_13 rfl 0 rfl hn rfl ?_
    exact k_iret X d_M_runOne_31 (k_pr ((if_neg c12).trans (rfl)))
end
section
set_option maxHeartbeats 4000000 in
set_option maxRecDepth 100000 in
theorem c_M_run (l : Launch) (b : Nat → Nat → Nat) (dA : Nat → ClassId) (D : va_G) (g : kG) (n : Int32) (hJ : mJ g) : kMd (sysM b dA D) l y_M_run b_M_run 2 (some .int) 4 96 [.inr (.inr (0, 0)), .inl n] g (some (.inl (mRunP g n).1)) (mRunP g n).2 := by
  refine k_enter (by decide) [some (.inr (.inr (0, 0))), some (.inl n)] rfl rfl (Nat.le_of_ble_eq_true rfl) (fun x X => ?_)
  have C := X.1
  have O := X.2.1
  refine k_aload_n C d_M_run_0 rfl rfl ?_
  refine k_iconst C (v := 0) d_M_run_1 (by decide) ?_
  refine k_putI C O d_M_run_2 fp_M_94 mr_0 rfl rfl rfl ?_
  refine k_aload_n C d_M_run_5 rfl rfl ?_
  refine k_iload_n C d_M_run_6 rfl rfl ?_
  refine k_cvI X d_M_run_7 (c_M_isAction l b dA D _ n) cv_M_107 mr_0 rfl rfl ⟨by decide, by decide⟩ rfl rfl (Nat.le_of_ble_eq_true rfl) ?_
  refine k_if_eq C (tgt := 21) d_M_run_10 (by decide) (fun c10 => ?_) (fun c10 => ?_)
  · refine k_bipush C (v := (-9)) d_M_run_21 (by decide) ?_
    exact k_iret X d_M_run_23 (k_pr ((if_pos c10).trans (rfl)))
  · refine k_aload_n C d_M_run_13 rfl rfl ?_
    refine k_iload_n C d_M_run_14 rfl rfl ?_
    refine k_cvI X d_M_run_15 (c_M_runOne l b dA D (m0 g) n (in_x (n := 12) hJ.1.2.1 (by decide) c10) hJ) cv_M_148 mr_0 rfl rfl ⟨by decide, by decide⟩ rfl rfl (Nat.le_of_ble_eq_true rfl) ?_
    refine k_goto C (tgt := 23) d_M_run_18 (by decide) ?_
    exact k_iret X d_M_run_23 (k_pr ((if_neg c10).trans (rfl)))

set_option maxHeartbeats 4000000 in
set_option maxRecDepth 100000 in
theorem c_M_fresh (l : Launch) (b : Nat → Nat → Nat) (dA : Nat → ClassId) (D : va_G) (g : kG) (n : Int32) (hJ : mJ g) : kMd (sysM b dA D) l y_M_fresh b_M_fresh 2 (some .boolean) 3 68 [.inr (.inr (0, 0)), .inl n] g (some (.inl (mFreshP g n).1)) (mFreshP g n).2 := by
  refine k_enter (by decide) [some (.inr (.inr (0, 0))), some (.inl n)] rfl rfl (Nat.le_of_ble_eq_true rfl) (fun x X => ?_)
  have C := X.1
  have O := X.2.1
  refine k_aload_n C d_M_fresh_0 rfl rfl ?_
  refine k_iconst C (v := 0) d_M_fresh_1 (by decide) ?_
  refine k_putI C O d_M_fresh_2 fp_M_94 mr_0 rfl rfl rfl ?_
  refine k_aload_n C d_M_fresh_5 rfl rfl ?_
  refine k_iload_n C d_M_fresh_6 rfl rfl ?_
  refine k_cvI X d_M_fresh_7 (c_M_isAction l b dA D _ n) cv_M_107 mr_0 rfl rfl ⟨by decide, by decide⟩ rfl rfl (Nat.le_of_ble_eq_true rfl) ?_
  refine k_if_eq C (tgt := 25) d_M_fresh_10 (by decide) (fun c10 => ?_) (fun c10 => ?_)
  · refine k_iconst C (v := 0) d_M_fresh_25 (by decide) ?_
    exact k_zret X d_M_fresh_26 (Or.inl rfl) (k_pr ((if_pos c10).trans (rfl)))
  · refine k_aload_n C d_M_fresh_13 rfl rfl ?_
    refine k_iload_n C d_M_fresh_14 rfl rfl ?_
    refine k_cvI X d_M_fresh_15 (c_M_isFreshNow l b dA D (m0 g) n (in_x (n := 12) hJ.1.2.1 (by decide) c10) hJ.2.1 hJ.2.2.1) cv_M_141 mr_0 rfl rfl ⟨by decide, by decide⟩ rfl rfl (Nat.le_of_ble_eq_true rfl) ?_
    refine k_if_eq C (tgt := 25) d_M_fresh_18 (by decide) (fun c18 => ?_) (fun c18 => ?_)
    · refine k_iconst C (v := 0) d_M_fresh_25 (by decide) ?_
      exact k_zret X d_M_fresh_26 (Or.inl rfl) (k_pr ((if_neg c10).trans ((if_pos c18).trans (rfl))))
    · refine k_iconst C (v := 1) d_M_fresh_21 (by decide) ?_
      refine k_goto C (tgt := 26) d_M_fresh_22 (by decide) ?_
      exact k_zret X d_M_fresh_26 (Or.inr rfl) (k_pr ((if_neg c10).trans ((if_neg c18).trans (rfl))))

set_option maxHeartbeats 4000000 in
set_option maxRecDepth 100000 in
theorem l_M_unused {x : kCx} (l : Launch) (b : Nat → Nat → Nat) (dA : Nat → ClassId) (D : va_G) (g : kG) (n0 : Int32) (hn : vp_in n0 12) (c : Nat) (hc : g.1 14 0 (tn n0) = nI c) (h12 : c ≤ 12) (X : kIn (sysM b dA D) l b_M_unused y_M_unused.cls 4 (some .int) 1 21 x) : ∀ (n : Nat) (k : Nat) (s : Int32), k + n = c → Wk (kWd (sysM b dA D)) (kAA (sysM b dA D)) (y_ad (sysM b dA D)) x (0, 0) (kQ (sysM b dA D) (fun r g2 => r = some (.inl (mUn g (tn n0) n k s)) ∧ g2 = g) x) 33 [some (.inr (.inr (0, 0))), some (.inl n0), some (.inl s), some (.inl (nI k))] [] g := by
  have C := X.1
  have O := X.2.1
  intro n
  induction n with
  | zero =>
    intro k s hk
    refine k_iload_n C d_M_unused_33 rfl rfl ?_
    refine k_aload_n C d_M_unused_34 rfl rfl ?_
    refine k_getR C O (r := (14, _)) d_M_unused_35 fl_M_39 mr_0 rfl rfl rfl rfl ?_
    refine k_iload_n C d_M_unused_38 rfl rfl ?_
    refine k_iald2 C O d_M_unused_39 mr_14 rfl 0 rfl hn rfl ?_
    refine k_icmp_ge C (tgt := 77) d_M_unused_40 (by decide) (fun c40 => ?_) (fun c40 => ?_)
    · refine k_iload_n C d_M_unused_77 rfl rfl ?_
      exact k_iret X d_M_unused_78 (⟨rfl, rfl⟩)
    · exact absurd (x_ge hc (by omega) (by omega)) c40
  | succ n ih =>
    intro k s hk
    refine k_iload_n C d_M_unused_33 rfl rfl ?_
    refine k_aload_n C d_M_unused_34 rfl rfl ?_
    refine k_getR C O (r := (14, _)) d_M_unused_35 fl_M_39 mr_0 rfl rfl rfl rfl ?_
    refine k_iload_n C d_M_unused_38 rfl rfl ?_
    refine k_iald2 C O d_M_unused_39 mr_14 rfl 0 rfl hn rfl ?_
    refine k_icmp_ge C (tgt := 77) d_M_unused_40 (by decide) (fun c40 => ?_) (fun c40 => ?_)
    · exact absurd c40 (x_lt hc (by omega) (by omega))
    · refine k_aload_n C d_M_unused_43 rfl rfl ?_
      refine k_getR C O (r := (13, _)) d_M_unused_44 fl_M_36 mr_0 rfl rfl rfl rfl ?_
      refine k_iload_n C d_M_unused_47 rfl rfl ?_
      refine k_iald2 C O d_M_unused_48 mr_13 rfl 0 rfl hn rfl ?_
      refine k_iconst C (v := 2) d_M_unused_49 (by decide) ?_
      refine k_icmp_eq C (tgt := 77) d_M_unused_50 (by decide) (fun c50 => ?_) (fun c50 => ?_)
      · refine k_iload_n C d_M_unused_77 rfl rfl ?_
        exact k_iret X d_M_unused_78 (k_pi ((if_pos c50).trans (rfl)))
      · refine k_iload_n C d_M_unused_53 rfl rfl ?_
        refine k_iconst C (v := 1) d_M_unused_54 (by decide) ?_
        refine k_aload_n C d_M_unused_55 rfl rfl ?_
        refine k_getR C O (r := (15, _)) d_M_unused_56 fl_M_42 mr_0 rfl rfl rfl rfl ?_
        refine k_bipush C (v := 24) d_M_unused_59 (by decide) ?_
        refine k_iload_n C d_M_unused_61 rfl rfl ?_
        refine k_imul C d_M_unused_62 ?_
        refine k_iload_n C d_M_unused_63 rfl rfl ?_
        refine k_iadd C d_M_unused_64 ?_
        refine k_iald2 C O (q := (24 * tn n0 + k)) d_M_unused_65 mr_15 rfl 0 rfl (ix_in (L := 288) (c := 24) (N := 12) (k := k) rfl hn (by decide) rfl (by decide) (by omega)) (ix_q (c := 24) (N := 12) (k := k) rfl hn (by decide) rfl ⟨by decide, by omega⟩) ?_
        refine k_ishl C d_M_unused_66 ?_
        refine k_iconst C (v := (-1)) d_M_unused_67 (by decide) ?_
        refine k_ixor C d_M_unused_68 ?_
        refine k_iand C d_M_unused_69 ?_
        refine k_istore_n C d_M_unused_70 rfl (Nat.le_of_ble_eq_true rfl) rfl ?_
        refine k_iinc C (w := nI (k + 1)) d_M_unused_71 rfl (nI_inc k) rfl ?_
        refine k_goto C (tgt := 33) d_M_unused_74 (by decide) ?_
        exact k_Qi ((if_neg c50).trans rfl) (ih (k + 1) _ (by omega))

set_option maxHeartbeats 4000000 in
set_option maxRecDepth 100000 in
theorem c_M_unused (l : Launch) (b : Nat → Nat → Nat) (dA : Nat → ClassId) (D : va_G) (g : kG) (n0 : Int32) (hI : mI g) : kMd (sysM b dA D) l y_M_unused b_M_unused 4 (some .int) 1 21 [.inr (.inr (0, 0)), .inl n0] g (some (.inl (mUnused g n0))) (m0 g) := by
  refine k_enter (by decide) [some (.inr (.inr (0, 0))), some (.inl n0), none, none] rfl rfl (Nat.le_of_ble_eq_true rfl) (fun x X => ?_)
  have C := X.1
  have O := X.2.1
  refine k_aload_n C d_M_unused_0 rfl rfl ?_
  refine k_iconst C (v := 0) d_M_unused_1 (by decide) ?_
  refine k_putI C O d_M_unused_2 fp_M_94 mr_0 rfl rfl rfl ?_
  refine k_aload_n C d_M_unused_5 rfl rfl ?_
  refine k_iload_n C d_M_unused_6 rfl rfl ?_
  refine k_cvI X d_M_unused_7 (c_M_isAction l b dA D _ n0) cv_M_107 mr_0 rfl rfl ⟨by decide, by decide⟩ rfl rfl (Nat.le_of_ble_eq_true rfl) ?_
  refine k_if_ne C (tgt := 15) d_M_unused_10 (by decide) (fun c10 => ?_) (fun c10 => ?_)
  · refine k_aload_n C d_M_unused_15 rfl rfl ?_
    refine k_getR C O (r := (8, _)) d_M_unused_16 fl_M_21 mr_0 rfl rfl rfl rfl ?_
    refine k_iload_n C d_M_unused_19 rfl rfl ?_
    refine k_iald2 C O d_M_unused_20 mr_8 rfl 0 rfl (in_x (n := 12) hI.2.1 (by decide) c10) rfl ?_
    refine k_iconst C (v := 1) d_M_unused_21 (by decide) ?_
    refine k_aload_n C d_M_unused_22 rfl rfl ?_
    refine k_getI C O d_M_unused_23 fl_M_97 mr_0 rfl rfl rfl ?_
    refine k_ishl C d_M_unused_26 ?_
    refine k_iconst C (v := 1) d_M_unused_27 (by decide) ?_
    refine k_isub C d_M_unused_28 ?_
    refine k_iand C d_M_unused_29 ?_
    refine k_istore_n C d_M_unused_30 rfl (Nat.le_of_ble_eq_true rfl) rfl ?_
    refine k_iconst C (v := 0) d_M_unused_31 (by decide) ?_
    refine k_istore_n C d_M_unused_32 rfl (Nat.le_of_ble_eq_true rfl) rfl ?_
    exact k_Qi ((if_neg c10).trans rfl) (l_M_unused l b dA D (m0 g) n0 (in_x (n := 12) hI.2.1 (by decide) c10) (tn (g.1 14 0 (tn n0))) (hI.2.2.2.2.1 _ (vi_lt (in_x (n := 12) hI.2.1 (by decide) c10))).2.1 (hI.2.2.2.2.1 _ (vi_lt (in_x (n := 12) hI.2.1 (by decide) c10))).2.2 X (tn (g.1 14 0 (tn n0))) 0 _ (by omega))
  · refine k_iconst C (v := 0) d_M_unused_13 (by decide) ?_
    exact k_iret X d_M_unused_14 (k_pi ((if_pos c10).trans (rfl)))

set_option maxHeartbeats 4000000 in
set_option maxRecDepth 100000 in
theorem l_M_isMapped {x : kCx} (l : Launch) (b : Nat → Nat → Nat) (dA : Nat → ClassId) (D : va_G) (g : kG) (n0 : Int32) (hn : vp_in n0 6) (d : Int64) (c : Nat) (hc : g.1 28 0 (tn n0) = nI c) (h12 : c ≤ 4) (X : kIn (sysM b dA D) l b_M_isMapped y_M_isMapped.cls 6 (some .boolean) 0 0 x) : ∀ (n : Nat) (k : Nat) (s : Int32), kZ s → k + n = c → Wk (kWd (sysM b dA D)) (kAA (sysM b dA D)) (y_ad (sysM b dA D)) x (0, 0) (kQ (sysM b dA D) (fun r g2 => r = some (.inl (mIm g (tn n0) d n k s)) ∧ g2 = g) x) 6 [some (.inr (.inr (0, 0))), some (.inl n0), some (.inr (.inl d)), none, some (.inl s), some (.inl (nI k))] [] g := by
  have C := X.1
  have O := X.2.1
  intro n
  induction n with
  | zero =>
    intro k s hz hk
    refine k_iload C d_M_isMapped_6 rfl ?_
    refine k_aload_n C d_M_isMapped_8 rfl rfl ?_
    refine k_getR C O (r := (28, _)) d_M_isMapped_9 fl_M_78 mr_0 rfl rfl rfl rfl ?_
    refine k_iload_n C d_M_isMapped_12 rfl rfl ?_
    refine k_iald2 C O d_M_isMapped_13 mr_28 rfl 0 rfl hn rfl ?_
    refine k_icmp_ge C (tgt := 51) d_M_isMapped_14 (by decide) (fun c14 => ?_) (fun c14 => ?_)
    · refine k_iload C d_M_isMapped_51 rfl ?_
      exact k_zret X d_M_isMapped_53 hz (⟨rfl, rfl⟩)
    · exact absurd (x_ge hc (by omega) (by omega)) c14
  | succ n ih =>
    intro k s hz hk
    refine k_iload C d_M_isMapped_6 rfl ?_
    refine k_aload_n C d_M_isMapped_8 rfl rfl ?_
    refine k_getR C O (r := (28, _)) d_M_isMapped_9 fl_M_78 mr_0 rfl rfl rfl rfl ?_
    refine k_iload_n C d_M_isMapped_12 rfl rfl ?_
    refine k_iald2 C O d_M_isMapped_13 mr_28 rfl 0 rfl hn rfl ?_
    refine k_icmp_ge C (tgt := 51) d_M_isMapped_14 (by decide) (fun c14 => ?_) (fun c14 => ?_)
    · exact absurd c14 (x_lt hc (by omega) (by omega))
    · refine k_iload C d_M_isMapped_17 rfl ?_
      refine k_if_ne C (tgt := 38) d_M_isMapped_19 (by decide) (fun c19 => ?_) (fun c19 => ?_)
      · refine k_iconst C (v := 1) d_M_isMapped_38 (by decide) ?_
        refine k_goto C (tgt := 43) d_M_isMapped_39 (by decide) ?_
        refine k_istore C d_M_isMapped_43 (Nat.le_of_ble_eq_true rfl) rfl ?_
        refine k_iinc C (w := nI (k + 1)) d_M_isMapped_45 rfl (nI_inc k) rfl ?_
        refine k_goto C (tgt := 6) d_M_isMapped_48 (by decide) ?_
        exact k_Qi ((if_neg c19).trans (rfl)) (ih (k + 1) _ (by first | exact Or.inl rfl | exact Or.inr rfl) (by omega))
      · refine k_aload_n C d_M_isMapped_22 rfl rfl ?_
        refine k_getR C O (r := (30, _)) d_M_isMapped_23 fl_M_84 mr_0 rfl rfl rfl rfl ?_
        refine k_iconst C (v := 4) d_M_isMapped_26 (by decide) ?_
        refine k_iload_n C d_M_isMapped_27 rfl rfl ?_
        refine k_imul C d_M_isMapped_28 ?_
        refine k_iload C d_M_isMapped_29 rfl ?_
        refine k_iadd C d_M_isMapped_31 ?_
        refine k_lald2 C O (q := (4 * tn n0 + k)) d_M_isMapped_32 mr_30 rfl 2 rfl (ix_in (L := 24) (c := 4) (N := 6) (k := k) rfl hn (by decide) rfl (by decide) (by omega)) (ix_q (c := 4) (N := 6) (k := k) rfl hn (by decide) rfl ⟨by decide, by omega⟩) ?_
        refine k_lload_n C d_M_isMapped_33 rfl rfl ?_
        refine k_lcmp C d_M_isMapped_34 ?_
        refine k_if_ne C (tgt := 42) d_M_isMapped_35 (by decide) (fun c35 => ?_) (fun c35 => ?_)
        · refine k_iconst C (v := 0) d_M_isMapped_42 (by decide) ?_
          refine k_istore C d_M_isMapped_43 (Nat.le_of_ble_eq_true rfl) rfl ?_
          refine k_iinc C (w := nI (k + 1)) d_M_isMapped_45 rfl (nI_inc k) rfl ?_
          refine k_goto C (tgt := 6) d_M_isMapped_48 (by decide) ?_
          exact k_Qi ((if_pos c19).trans ((if_neg c35).trans (rfl))) (ih (k + 1) _ (by first | exact Or.inl rfl | exact Or.inr rfl) (by omega))
        · refine k_iconst C (v := 1) d_M_isMapped_38 (by decide) ?_
          refine k_goto C (tgt := 43) d_M_isMapped_39 (by decide) ?_
          refine k_istore C d_M_isMapped_43 (Nat.le_of_ble_eq_true rfl) rfl ?_
          refine k_iinc C (w := nI (k + 1)) d_M_isMapped_45 rfl (nI_inc k) rfl ?_
          refine k_goto C (tgt := 6) d_M_isMapped_48 (by decide) ?_
          exact k_Qi ((if_pos c19).trans ((if_pos c35).trans (rfl))) (ih (k + 1) _ (by first | exact Or.inl rfl | exact Or.inr rfl) (by omega))

set_option maxHeartbeats 4000000 in
set_option maxRecDepth 100000 in
theorem c_M_isMapped (l : Launch) (b : Nat → Nat → Nat) (dA : Nat → ClassId) (D : va_G) (g : kG) (n0 : Int32) (hn : vp_in n0 6) (d : Int64) (c : Nat) (hc : g.1 28 0 (tn n0) = nI c) (h12 : c ≤ 4) : kMd (sysM b dA D) l y_M_isMapped b_M_isMapped 6 (some .boolean) 0 0 [.inr (.inr (0, 0)), .inl n0, .inr (.inl d)] g (some (.inl (mIm g (tn n0) d c 0 0))) g := by
  refine k_enter (by decide) [some (.inr (.inr (0, 0))), some (.inl n0), some (.inr (.inl d)), none, none, none] rfl rfl (Nat.le_of_ble_eq_true rfl) (fun x X => ?_)
  have C := X.1
  have O := X.2.1
  refine k_iconst C (v := 0) d_M_isMapped_0 (by decide) ?_
  refine k_istore C d_M_isMapped_1 (Nat.le_of_ble_eq_true rfl) rfl ?_
  refine k_iconst C (v := 0) d_M_isMapped_3 (by decide) ?_
  refine k_istore C d_M_isMapped_4 (Nat.le_of_ble_eq_true rfl) rfl ?_
  exact l_M_isMapped l b dA D g n0 hn d c hc h12 X c 0 0 (Or.inl rfl) (by omega)

set_option maxHeartbeats 4000000 in
set_option maxRecDepth 100000 in
theorem l_M_an {x : kCx} {Q : State → Prop} (l : Launch) (b : Nat → Nat → Nat) (dA : Nat → ClassId) (D : va_G) (g : kG) (n0 f0 : Int32) (hn : vp_in n0 6) (hf : vp_in f0 24) (c : Nat) (hc : g.1 28 0 (tn n0) = nI c) (h12 : c ≤ 4) (w : Nat) (hw : w ≤ 4) (X : kIn (sysM b dA D) l b_M_map y_M_map.cls 6 (some .int) 3 68 x) : ∀ (n : Nat) (k : Nat) (a : Int32), k + n = w → (Wk (kWd (sysM b dA D)) (kAA (sysM b dA D)) (y_ad (sysM b dA D)) x (0, 0) Q 113 [some (.inr (.inr (0, 0))), some (.inl n0), some (.inl f0), some (.inl (nI w)), some (.inl (mAn g (tn n0) (tn f0) n k a)), some (.inl (nI w))] [] g) → Wk (kWd (sysM b dA D)) (kAA (sysM b dA D)) (y_ad (sysM b dA D)) x (0, 0) Q 72 [some (.inr (.inr (0, 0))), some (.inl n0), some (.inl f0), some (.inl (nI w)), some (.inl a), some (.inl (nI k))] [] g := by
  have C := X.1
  have O := X.2.1
  intro n
  induction n with
  | zero =>
    intro k a hk K
    refine k_iload C d_M_map_72 rfl ?_
    refine k_iload_n C d_M_map_74 rfl rfl ?_
    refine k_icmp_ge C (tgt := 113) d_M_map_75 (by decide) (fun c75 => ?_) (fun c75 => ?_)
    · have e9 : k = w := by omega
      rw [e9]
      exact K
    · exact absurd (x_ge rfl (by omega) (by omega)) c75
  | succ n ih =>
    intro k a hk K
    refine k_iload C d_M_map_72 rfl ?_
    refine k_iload_n C d_M_map_74 rfl rfl ?_
    refine k_icmp_ge C (tgt := 113) d_M_map_75 (by decide) (fun c75 => ?_) (fun c75 => ?_)
    · exact absurd c75 (x_lt rfl (by omega) (by omega))
    · refine k_iload C d_M_map_78 rfl ?_
      refine k_aload_n C d_M_map_80 rfl rfl ?_
      refine k_iload_n C d_M_map_81 rfl rfl ?_
      refine k_aload_n C d_M_map_82 rfl rfl ?_
      refine k_getR C O (r := (6, _)) d_M_map_83 fl_M_13 mr_0 rfl rfl rfl rfl ?_
      refine k_iload_n C d_M_map_86 rfl rfl ?_
      refine k_lald2 C O d_M_map_87 mr_6 rfl 2 rfl hf rfl ?_
      refine k_iload C d_M_map_88 rfl ?_
      refine k_csJ X d_M_map_90 (c_M_member l b dA D g _ (nI k)) cs_M_168 ⟨by decide, by decide⟩ rfl rfl (Nat.le_of_ble_eq_true rfl) ?_
      refine k_cvI X d_M_map_93 (c_M_isMapped l b dA D g n0 hn _ c hc h12) cv_M_172 mr_0 rfl rfl ⟨by decide, by decide⟩ rfl rfl (Nat.le_of_ble_eq_true rfl) ?_
      refine k_if_eq C (tgt := 103) d_M_map_96 (by decide) (fun c96 => ?_) (fun c96 => ?_)
      · refine k_iconst C (v := 1) d_M_map_103 (by decide) ?_
        refine k_iadd C d_M_map_104 ?_
        refine k_istore C d_M_map_105 (Nat.le_of_ble_eq_true rfl) rfl ?_
        refine k_iinc C (w := nI (k + 1)) d_M_map_107 rfl (nI_inc k) rfl ?_
        refine k_goto C (tgt := 72) d_M_map_110 (by decide) ?_
        have e9 : tn (g.1 28 0 (tn n0)) = c := by rw [hc]; exact nI_clamp (by omega)
        simp only [mAn, e9, if_pos c96] at K
        exact ih (k + 1) _ (by omega) K
      · refine k_iconst C (v := 0) d_M_map_99 (by decide) ?_
        refine k_goto C (tgt := 104) d_M_map_100 (by decide) ?_
        refine k_iadd C d_M_map_104 ?_
        refine k_istore C d_M_map_105 (Nat.le_of_ble_eq_true rfl) rfl ?_
        refine k_iinc C (w := nI (k + 1)) d_M_map_107 rfl (nI_inc k) rfl ?_
        refine k_goto C (tgt := 72) d_M_map_110 (by decide) ?_
        have e9 : tn (g.1 28 0 (tn n0)) = c := by rw [hc]; exact nI_clamp (by omega)
        simp only [mAn, e9, if_neg c96] at K
        exact ih (k + 1) _ (by omega) K

set_option maxHeartbeats 4000000 in
set_option maxRecDepth 100000 in
theorem l_M_st {x : kCx} {Q : State → Prop} (l : Launch) (b : Nat → Nat → Nat) (dA : Nat → ClassId) (D : va_G) (n0 f0 : Int32) (hn : vp_in n0 6) (hf : vp_in f0 24) (w : Nat) (hw : w ≤ 4) (a : Int32) (X : kIn (sysM b dA D) l b_M_map y_M_map.cls 6 (some .int) 3 68 x) : ∀ (n : Nat) (k : Nat) (g : kG), k + n = w → (Wk (kWd (sysM b dA D)) (kAA (sysM b dA D)) (y_ad (sysM b dA D)) x (0, 0) Q 183 [some (.inr (.inr (0, 0))), some (.inl n0), some (.inl f0), some (.inl (nI w)), some (.inl a), some (.inl (nI w))] [] (mSt (tn n0) (tn f0) n k g)) → Wk (kWd (sysM b dA D)) (kAA (sysM b dA D)) (y_ad (sysM b dA D)) x (0, 0) Q 116 [some (.inr (.inr (0, 0))), some (.inl n0), some (.inl f0), some (.inl (nI w)), some (.inl a), some (.inl (nI k))] [] g := by
  have C := X.1
  have O := X.2.1
  intro n
  induction n with
  | zero =>
    intro k g hk K
    refine k_iload C d_M_map_116 rfl ?_
    refine k_iload_n C d_M_map_118 rfl rfl ?_
    refine k_icmp_ge C (tgt := 183) d_M_map_119 (by decide) (fun c119 => ?_) (fun c119 => ?_)
    · have e9 : k = w := by omega
      rw [e9]
      exact K
    · exact absurd (x_ge rfl (by omega) (by omega)) c119
  | succ n ih =>
    intro k g hk K
    refine k_iload C d_M_map_116 rfl ?_
    refine k_iload_n C d_M_map_118 rfl rfl ?_
    refine k_icmp_ge C (tgt := 183) d_M_map_119 (by decide) (fun c119 => ?_) (fun c119 => ?_)
    · exact absurd c119 (x_lt rfl (by omega) (by omega))
    · refine k_aload_n C d_M_map_122 rfl rfl ?_
      refine k_getR C O (r := (30, _)) d_M_map_123 fl_M_84 mr_0 rfl rfl rfl rfl ?_
      refine k_iconst C (v := 4) d_M_map_126 (by decide) ?_
      refine k_iload_n C d_M_map_127 rfl rfl ?_
      refine k_imul C d_M_map_128 ?_
      refine k_iload C d_M_map_129 rfl ?_
      refine k_iadd C d_M_map_131 ?_
      refine k_aload_n C d_M_map_132 rfl rfl ?_
      refine k_getR C O (r := (6, _)) d_M_map_133 fl_M_13 mr_0 rfl rfl rfl rfl ?_
      refine k_iload_n C d_M_map_136 rfl rfl ?_
      refine k_lald2 C O d_M_map_137 mr_6 rfl 2 rfl hf rfl ?_
      refine k_iload C d_M_map_138 rfl ?_
      refine k_csJ X d_M_map_140 (c_M_member l b dA D _ _ (nI k)) cs_M_168 ⟨by decide, by decide⟩ rfl rfl (Nat.le_of_ble_eq_true rfl) ?_
      refine k_last2 C O (q := (4 * tn n0 + k)) d_M_map_143 mr_30 rfl 2 rfl (ix_in (L := 24) (c := 4) (N := 6) (k := k) rfl hn (by decide) rfl (by decide) (by omega)) (ix_q (c := 4) (N := 6) (k := k) rfl hn (by decide) rfl ⟨by decide, by omega⟩) ?_
      refine k_aload_n C d_M_map_144 rfl rfl ?_
      refine k_getR C O (r := (31, _)) d_M_map_145 fl_M_87 mr_0 rfl rfl rfl rfl ?_
      refine k_iconst C (v := 4) d_M_map_148 (by decide) ?_
      refine k_iload_n C d_M_map_149 rfl rfl ?_
      refine k_imul C d_M_map_150 ?_
      refine k_iload C d_M_map_151 rfl ?_
      refine k_iadd C d_M_map_153 ?_
      refine k_ldc2 C (v := 17) d_M_map_154 (by decide +kernel) ?_
      refine k_aload_n C d_M_map_157 rfl rfl ?_
      refine k_getR C O (r := (6, _)) d_M_map_158 fl_M_13 mr_0 rfl rfl rfl rfl ?_
      refine k_iload_n C d_M_map_161 rfl rfl ?_
      refine k_lald2 C O d_M_map_162 mr_6 rfl 2 rfl hf rfl ?_
      refine k_iload C d_M_map_163 rfl ?_
      refine k_csJ X d_M_map_165 (c_M_member l b dA D _ _ (nI k)) cs_M_168 ⟨by decide, by decide⟩ rfl rfl (Nat.le_of_ble_eq_true rfl) ?_
      refine k_lmul C d_M_map_168 ?_
      refine k_aload_n C d_M_map_169 rfl rfl ?_
      refine k_getR C O (r := (29, _)) d_M_map_170 fl_M_81 mr_0 rfl rfl rfl rfl ?_
      refine k_iload_n C d_M_map_173 rfl rfl ?_
      refine k_lald2 C O d_M_map_174 mr_29 rfl 2 rfl hn rfl ?_
      refine k_ladd C d_M_map_175 ?_
      refine k_last2 C O (q := (4 * tn n0 + k)) d_M_map_176 mr_31 rfl 2 rfl (ix_in (L := 24) (c := 4) (N := 6) (k := k) rfl hn (by decide) rfl (by decide) (by omega)) (ix_q (c := 4) (N := 6) (k := k) rfl hn (by decide) rfl ⟨by decide, by omega⟩) ?_
      refine k_iinc C (w := nI (k + 1)) d_M_map_177 rfl (nI_inc k) rfl ?_
      refine k_goto C (tgt := 116) d_M_map_180 (by decide) ?_
      exact ih (k + 1) _ (by omega) K

set_option maxHeartbeats 4000000 in
set_option maxRecDepth 100000 in
theorem c_M_map (l : Launch) (b : Nat → Nat → Nat) (dA : Nat → ClassId) (D : va_G) (g : kG) (n0 : Int32) (hJ : mJ g) (ht : ∃ w : Nat, w ≤ 4 ∧ (mMof (mFr (m0 g)) (tn (g.1 27 0 (tn n0)))) = nI w) : kMd (sysM b dA D) l y_M_map b_M_map 6 (some .int) 3 68 [.inr (.inr (0, 0)), .inl n0] g (some (.inl (mMap g n0).1)) (mMap g n0).2 := by
  obtain ⟨w, hw, ew⟩ := ht
  have ew2 : tn (mMof (mFr (m0 g)) (tn (g.1 27 0 (tn n0)))) = w := by rw [ew]; exact nI_clamp (by omega)
  refine k_enter (by decide) [some (.inr (.inr (0, 0))), some (.inl n0), none, none, none, none] rfl rfl (Nat.le_of_ble_eq_true rfl) (fun x X => ?_)
  have C := X.1
  have O := X.2.1
  refine k_aload_n C d_M_map_0 rfl rfl ?_
  refine k_iconst C (v := 0) d_M_map_1 (by decide) ?_
  refine k_putI C O d_M_map_2 fp_M_94 mr_0 rfl rfl rfl ?_
  refine k_iload_n C d_M_map_5 rfl rfl ?_
  refine k_if_lt C (tgt := 17) d_M_map_6 (by decide) (fun c6 => ?_) (fun c6 => ?_)
  · refine k_iconst C (v := (-1)) d_M_map_17 (by decide) ?_
    exact k_iret X d_M_map_18 (k_pr ((if_pos c6).trans (rfl)))
  · refine k_iload_n C d_M_map_9 rfl rfl ?_
    refine k_aload_n C d_M_map_10 rfl rfl ?_
    refine k_getI C O d_M_map_11 fl_M_163 mr_0 rfl rfl rfl ?_
    refine k_icmp_lt C (tgt := 19) d_M_map_14 (by decide) (fun c14 => ?_) (fun c14 => ?_)
    · refine k_aload_n C d_M_map_19 rfl rfl ?_
      refine k_getR C O (r := (27, _)) d_M_map_20 fl_M_75 mr_0 rfl rfl rfl rfl ?_
      refine k_iload_n C d_M_map_23 rfl rfl ?_
      refine k_iald2 C O d_M_map_24 mr_27 rfl 0 rfl (in_v (n := 6) hJ.1.2.2.1 (by decide) c6 (fun q3 => absurd c14 (Int32.not_lt.mpr q3))) rfl ?_
      refine k_istore_n C d_M_map_25 rfl (Nat.le_of_ble_eq_true rfl) rfl ?_
      refine k_aload_n C d_M_map_26 rfl rfl ?_
      refine k_getR C O (r := (7, _)) d_M_map_27 fl_M_17 mr_0 rfl rfl rfl rfl ?_
      refine k_iload_n C d_M_map_30 rfl rfl ?_
      refine k_iald2 C O d_M_map_31 mr_7 rfl 0 rfl ((hJ.1.2.2.2.2.2.1 _ (vi_lt (in_v (n := 6) hJ.1.2.2.1 (by decide) c6 (fun q3 => absurd c14 (Int32.not_lt.mpr q3))))).2) rfl ?_
      refine k_iconst C (v := (-1)) d_M_map_32 (by decide) ?_
      refine k_icmp_eq C (tgt := 58) d_M_map_33 (by decide) (fun c33 => ?_) (fun c33 => ?_)
      · refine k_iconst C (v := (-1)) d_M_map_58 (by decide) ?_
        exact k_iret X d_M_map_59 (k_pr ((if_neg c6).trans ((if_pos c14).trans ((if_pos c33).trans (rfl)))))
      · refine k_aload_n C d_M_map_36 rfl rfl ?_
        refine k_getR C O (r := (5, _)) d_M_map_37 fl_M_7 mr_0 rfl rfl rfl rfl ?_
        refine k_iload_n C d_M_map_40 rfl rfl ?_
        refine k_zald2 C O d_M_map_41 mr_5 rfl 1 rfl ((hJ.1.2.2.2.2.2.1 _ (vi_lt (in_v (n := 6) hJ.1.2.2.1 (by decide) c6 (fun q3 => absurd c14 (Int32.not_lt.mpr q3))))).2) rfl ?_
        refine k_if_eq C (tgt := 58) d_M_map_42 (by decide) (fun c42 => ?_) (fun c42 => ?_)
        · refine k_iconst C (v := (-1)) d_M_map_58 (by decide) ?_
          exact k_iret X d_M_map_59 (k_pr ((if_neg c6).trans ((if_pos c14).trans ((if_neg c33).trans ((if_pos c42).trans (rfl))))))
        · refine k_aload_n C d_M_map_45 rfl rfl ?_
          refine k_aload_n C d_M_map_46 rfl rfl ?_
          refine k_getR C O (r := (7, _)) d_M_map_47 fl_M_17 mr_0 rfl rfl rfl rfl ?_
          refine k_iload_n C d_M_map_50 rfl rfl ?_
          refine k_iald2 C O d_M_map_51 mr_7 rfl 0 rfl ((hJ.1.2.2.2.2.2.1 _ (vi_lt (in_v (n := 6) hJ.1.2.2.1 (by decide) c6 (fun q3 => absurd c14 (Int32.not_lt.mpr q3))))).2) rfl ?_
          refine k_cvI X d_M_map_52 (c_M_isFreshNow l b dA D (m0 g) _ ((hJ.2.1.2.2 _ (vi_lt (hJ.1.2.2.2.2.2.1 _ (vi_lt (in_v (n := 6) hJ.1.2.2.1 (by decide) c6 (fun q3 => absurd c14 (Int32.not_lt.mpr q3))))).2)).resolve_left c33) hJ.2.1 hJ.2.2.1) cv_M_141 mr_0 rfl rfl ⟨by decide, by decide⟩ rfl rfl (Nat.le_of_ble_eq_true rfl) ?_
          refine k_if_ne C (tgt := 60) d_M_map_55 (by decide) (fun c55 => ?_) (fun c55 => ?_)
          · refine k_aload_n C d_M_map_60 rfl rfl ?_
            refine k_iload_n C d_M_map_61 rfl rfl ?_
            refine k_cvI X d_M_map_62 (c_M_membersOf l b dA D (mFr (m0 g)) _ ((hJ.1.2.2.2.2.2.1 _ (vi_lt (in_v (n := 6) hJ.1.2.2.1 (by decide) c6 (fun q3 => absurd c14 (Int32.not_lt.mpr q3))))).2)) cv_M_160 mr_0 rfl rfl ⟨by decide, by decide⟩ rfl rfl (Nat.le_of_ble_eq_true rfl) ?_
            rw [ew]
            refine k_istore_n C d_M_map_65 rfl (Nat.le_of_ble_eq_true rfl) rfl ?_
            refine k_iconst C (v := 0) d_M_map_66 (by decide) ?_
            refine k_istore C d_M_map_67 (Nat.le_of_ble_eq_true rfl) rfl ?_
            refine k_iconst C (v := 0) d_M_map_69 (by decide) ?_
            refine k_istore C d_M_map_70 (Nat.le_of_ble_eq_true rfl) rfl ?_
            refine l_M_an l b dA D (mFr (m0 g)) n0 (g.1 27 0 (tn n0)) (in_v (n := 6) hJ.1.2.2.1 (by decide) c6 (fun q3 => absurd c14 (Int32.not_lt.mpr q3))) ((hJ.1.2.2.2.2.2.1 _ (vi_lt (in_v (n := 6) hJ.1.2.2.1 (by decide) c6 (fun q3 => absurd c14 (Int32.not_lt.mpr q3))))).2) (tn (g.1 28 0 (tn n0))) (by rw [mFr_fr (m0 g) 28 0 _ (by decide)]; exact (hJ.1.2.2.2.2.2.1 _ (vi_lt (in_v (n := 6) hJ.1.2.2.1 (by decide) c6 (fun q3 => absurd c14 (Int32.not_lt.mpr q3))))).1.1) (hJ.1.2.2.2.2.2.1 _ (vi_lt (in_v (n := 6) hJ.1.2.2.1 (by decide) c6 (fun q3 => absurd c14 (Int32.not_lt.mpr q3))))).1.2 w hw X w 0 0 (by omega) ?_
            refine k_iconst C (v := 0) d_M_map_113 (by decide) ?_
            refine k_istore C d_M_map_114 (Nat.le_of_ble_eq_true rfl) rfl ?_
            refine l_M_st l b dA D n0 (g.1 27 0 (tn n0)) (in_v (n := 6) hJ.1.2.2.1 (by decide) c6 (fun q3 => absurd c14 (Int32.not_lt.mpr q3))) ((hJ.1.2.2.2.2.2.1 _ (vi_lt (in_v (n := 6) hJ.1.2.2.1 (by decide) c6 (fun q3 => absurd c14 (Int32.not_lt.mpr q3))))).2) w hw _ X w 0 (mFr (m0 g)) (by omega) ?_
            refine k_aload_n C d_M_map_183 rfl rfl ?_
            refine k_getR C O (r := (28, _)) d_M_map_184 fl_M_78 mr_0 rfl rfl rfl rfl ?_
            refine k_iload_n C d_M_map_187 rfl rfl ?_
            refine k_iload_n C d_M_map_188 rfl rfl ?_
            refine k_iast2 C O d_M_map_189 mr_28 rfl 0 rfl (in_v (n := 6) hJ.1.2.2.1 (by decide) c6 (fun q3 => absurd c14 (Int32.not_lt.mpr q3))) rfl ?_
            refine k_iload C d_M_map_190 rfl ?_
            exact k_iret X d_M_map_192 (k_pr ((if_neg c6).trans ((if_pos c14).trans ((if_neg c33).trans ((if_neg c42).trans ((if_neg c55).trans (by unfold mTake; rw [ew2, ew])))))) )
          · refine k_iconst C (v := (-1)) d_M_map_58 (by decide) ?_
            exact k_iret X d_M_map_59 (k_pr ((if_neg c6).trans ((if_pos c14).trans ((if_neg c33).trans ((if_neg c42).trans ((if_pos c55).trans (rfl)))))))
    · refine k_iconst C (v := (-1)) d_M_map_17 (by decide) ?_
      exact k_iret X d_M_map_18 (k_pr ((if_neg c6).trans ((if_neg c14).trans (rfl))))
end
section
set_option maxHeartbeats 4000000 in
set_option maxRecDepth 100000 in
theorem l_M_tellRing {x : kCx} (l : Launch) (b : Nat → Nat → Nat) (dA : Nat → ClassId) (D : va_G) (at0 dp : Nat) (hd : dp ≤ 12) (X : kIn (sysM b dA D) l b_M_tellRing y_M_tellRing.cls 4 (some .int) 0 0 x) : ∀ (n : Nat) (k r : Nat) (g : kG), k + n = dp → g.1 0 0 26 = nI r → r + n ≤ 12 → Wk (kWd (sysM b dA D)) (kAA (sysM b dA D)) (y_ad (sysM b dA D)) x (0, 0) (kQ (sysM b dA D) (fun r g2 => r = some (.inl (-5)) ∧ g2 = (mTr n k g)) x) 2 [some (.inr (.inr (0, 0))), some (.inl (nI at0)), some (.inl (nI dp)), some (.inl (nI k))] [] g := by
  have C := X.1
  have O := X.2.1
  intro n
  induction n with
  | zero =>
    intro k r g hk hr h12
    refine k_iload_n C d_M_tellRing_2 rfl rfl ?_
    refine k_iload_n C d_M_tellRing_3 rfl rfl ?_
    refine k_icmp_ge C (tgt := 38) d_M_tellRing_4 (by decide) (fun c4 => ?_) (fun c4 => ?_)
    · refine k_bipush C (v := (-5)) d_M_tellRing_38 (by decide) ?_
      exact k_iret X d_M_tellRing_40 (⟨rfl, rfl⟩)
    · exact absurd (x_ge rfl (by omega) (by omega)) c4
  | succ n ih =>
    intro k r g hk hr h12
    refine k_iload_n C d_M_tellRing_2 rfl rfl ?_
    refine k_iload_n C d_M_tellRing_3 rfl rfl ?_
    refine k_icmp_ge C (tgt := 38) d_M_tellRing_4 (by decide) (fun c4 => ?_) (fun c4 => ?_)
    · exact absurd c4 (x_lt rfl (by omega) (by omega))
    · refine k_aload_n C d_M_tellRing_7 rfl rfl ?_
      refine k_getR C O (r := (24, _)) d_M_tellRing_8 fl_M_69 mr_0 rfl rfl rfl rfl ?_
      refine k_aload_n C d_M_tellRing_11 rfl rfl ?_
      refine k_getI C O d_M_tellRing_12 fl_M_151 mr_0 rfl rfl rfl ?_
      refine k_aload_n C d_M_tellRing_15 rfl rfl ?_
      refine k_getR C O (r := (25, _)) d_M_tellRing_16 fl_M_72 mr_0 rfl rfl rfl rfl ?_
      refine k_iload_n C d_M_tellRing_19 rfl rfl ?_
      refine k_iald2 C O (q := k) d_M_tellRing_20 mr_25 rfl 0 rfl (show vp_in (nI k) 12 from vp_in_nI (by omega) (by decide)) (nI_clamp (by omega)) ?_
      refine k_iast2 C O d_M_tellRing_21 mr_24 rfl 0 rfl (show vp_in (g.1 0 0 26) 12 from hr ▸ vp_in_nI (by omega) (by decide)) rfl ?_
      refine k_aload_n C d_M_tellRing_22 rfl rfl ?_
      refine k_dup C d_M_tellRing_23 rfl ?_
      refine k_getI C O d_M_tellRing_24 fl_M_151 mr_0 rfl rfl rfl ?_
      refine k_iconst C (v := 1) d_M_tellRing_27 (by decide) ?_
      refine k_iadd C d_M_tellRing_28 ?_
      refine k_putI C O d_M_tellRing_29 fp_M_151 mr_0 rfl rfl rfl ?_
      refine k_iinc C (w := nI (k + 1)) d_M_tellRing_32 rfl (nI_inc k) rfl ?_
      refine k_goto C (tgt := 2) d_M_tellRing_35 (by decide) ?_
      have h9 : (kU (kU g.1 24 0 (tn (g.1 0 0 26)) (g.1 25 0 k)) 0 0 26 (g.1 0 0 26 + 1)) 0 0 26 = nI (r + 1) := by
        rw [kU_s, hr]
        exact nI_1 r
      exact ih (k + 1) (r + 1) _ (by omega) h9 (by omega)

set_option maxHeartbeats 4000000 in
set_option maxRecDepth 100000 in
theorem c_M_tellRing (l : Launch) (b : Nat → Nat → Nat) (dA : Nat → ClassId) (D : va_G) (g : kG) (at0 dp : Nat) (hd : dp ≤ 12) (ha : at0 ≤ dp) (hr : g.1 0 0 26 = nI 0) : kMd (sysM b dA D) l y_M_tellRing b_M_tellRing 4 (some .int) 0 0 [.inr (.inr (0, 0)), .inl (nI at0), .inl (nI dp)] g (some (.inl (-5))) (mTr (dp - at0) at0 g) := by
  refine k_enter (by decide) [some (.inr (.inr (0, 0))), some (.inl (nI at0)), some (.inl (nI dp)), none] rfl rfl (Nat.le_of_ble_eq_true rfl) (fun x X => ?_)
  have C := X.1
  have O := X.2.1
  refine k_iload_n C d_M_tellRing_0 rfl rfl ?_
  refine k_istore_n C d_M_tellRing_1 rfl (Nat.le_of_ble_eq_true rfl) rfl ?_
  exact l_M_tellRing l b dA D at0 dp hd X (dp - at0) at0 0 g (by omega) hr (by omega)

set_option maxHeartbeats 4000000 in
set_option maxRecDepth 100000 in
theorem l_M_se {x : kCx} {Q : State → Prop} (l : Launch) (b : Nat → Nat → Nat) (dA : Nat → ClassId) (D : va_G) (g : kG) (n0 : Int32) (dp : Nat) (hd : dp ≤ 12) (z3 z4 : Option kV) (nx : Int32) (X : kIn (sysM b dA D) l b_M_resolve y_M_resolve.cls 7 (some .int) 4 96 x) : ∀ (n : Nat) (k : Nat), k + n = dp → (Wk (kWd (sysM b dA D)) (kAA (sysM b dA D)) (y_ad (sysM b dA D)) x (0, 0) Q 91 [some (.inr (.inr (0, 0))), some (.inl n0), some (.inl (nI dp)), z3, z4, some (.inl nx), some (.inl (nI (mSe g nx n k)))] [] g) → Wk (kWd (sysM b dA D)) (kAA (sysM b dA D)) (y_ad (sysM b dA D)) x (0, 0) Q 67 [some (.inr (.inr (0, 0))), some (.inl n0), some (.inl (nI dp)), z3, z4, some (.inl nx), some (.inl (nI k))] [] g := by
  have C := X.1
  have O := X.2.1
  intro n
  induction n with
  | zero =>
    intro k hk K
    refine k_iload C d_M_resolve_67 rfl ?_
    refine k_iload_n C d_M_resolve_69 rfl rfl ?_
    refine k_icmp_ge C (tgt := 91) d_M_resolve_70 (by decide) (fun c70 => ?_) (fun c70 => ?_)
    · exact K
    · exact absurd (x_ge rfl (by omega) (by omega)) c70
  | succ n ih =>
    intro k hk K
    refine k_iload C d_M_resolve_67 rfl ?_
    refine k_iload_n C d_M_resolve_69 rfl rfl ?_
    refine k_icmp_ge C (tgt := 91) d_M_resolve_70 (by decide) (fun c70 => ?_) (fun c70 => ?_)
    · exact absurd c70 (x_lt rfl (by omega) (by omega))
    · refine k_aload_n C d_M_resolve_73 rfl rfl ?_
      refine k_getR C O (r := (25, _)) d_M_resolve_74 fl_M_72 mr_0 rfl rfl rfl rfl ?_
      refine k_iload C d_M_resolve_77 rfl ?_
      refine k_iald2 C O (q := k) d_M_resolve_79 mr_25 rfl 0 rfl (show vp_in (nI k) 12 from vp_in_nI (by omega) (by decide)) (nI_clamp (by omega)) ?_
      refine k_iload C d_M_resolve_80 rfl ?_
      refine k_icmp_eq C (tgt := 91) d_M_resolve_82 (by decide) (fun c82 => ?_) (fun c82 => ?_)
      · simp only [mSe, if_pos c82] at K
        exact K
      · refine k_iinc C (w := nI (k + 1)) d_M_resolve_85 rfl (nI_inc k) rfl ?_
        refine k_goto C (tgt := 67) d_M_resolve_88 (by decide) ?_
        simp only [mSe, if_neg c82] at K
        exact ih (k + 1) (by omega) K

set_option maxHeartbeats 4000000 in
set_option maxRecDepth 100000 in
theorem l_M_resolve {x : kCx} (l : Launch) (b : Nat → Nat → Nat) (dA : Nat → ClassId) (D : va_G) (P : Nat → Nat → kG → Prop) (hP0 : ∀ e g, ¬ P 0 e g) (hP : ∀ n e g, P n e g → mJ g ∧ e ≤ 11 ∧ vp_in (g.1 25 0 e) 12) (hP1 : ∀ n e g, P (n + 1) e g → (mRun g (g.1 25 0 e)).1 = 0 → vp_in ((mRun g (g.1 25 0 e)).2.1 19 0 (tn (g.1 25 0 e))) 24 ∧ (mRun g (g.1 25 0 e)).2.1 0 0 26 = nI 0 ∧ (nI (e + 1) ≤ nI (mAt g e) → e ≤ 10 ∧ P n (e + 1) (mPush g e))) (hP2 : ∀ n e g, P (n + 1) e g → 1 ≤ e → ¬ (mRun g (g.1 25 0 e)).1 = 0 → ¬ (mRun g (g.1 25 0 e)).1 = -1 → ¬ (mRun g (g.1 25 0 e)).1 = -2 → P n (e - 1) (mRun g (g.1 25 0 e)).2) (n0 : Int32) (X : kIn (sysM b dA D) l b_M_resolve y_M_resolve.cls 7 (some .int) 4 96 x) : ∀ (n : Nat) (e : Nat) (g : kG) (z3 z4 z5 z6 : Option kV), P n e g → Wk (kWd (sysM b dA D)) (kAA (sysM b dA D)) (y_ad (sysM b dA D)) x (0, 0) (kQ (sysM b dA D) (fun r g2 => r = some (.inl (mRs n e g).1) ∧ g2 = (mRs n e g).2) x) 30 [some (.inr (.inr (0, 0))), some (.inl n0), some (.inl (nI (e + 1))), z3, z4, z5, z6] [] g := by
  have C := X.1
  have O := X.2.1
  intro n
  induction n with
  | zero =>
    intro e g z3 z4 z5 z6 hPe
    exact absurd hPe (hP0 e g)
  | succ n ih =>
    intro e g z3 z4 z5 z6 hPe
    obtain ⟨hJ, he, hv⟩ := hP _ e g hPe
    have hat := mSe_le (mRun g (g.1 25 0 e)).2 (mNx g e) (e + 1) 0
    refine k_aload_n C d_M_resolve_30 rfl rfl ?_
    refine k_getR C O (r := (25, _)) d_M_resolve_31 fl_M_72 mr_0 rfl rfl rfl rfl ?_
    refine k_iload_n C d_M_resolve_34 rfl rfl ?_
    refine k_iconst C (v := 1) d_M_resolve_35 (by decide) ?_
    refine k_isub C d_M_resolve_36 ?_
    refine k_iald2 C O (q := e) d_M_resolve_37 mr_25 rfl 0 rfl (show vp_in (nI (e + 1) - 1) 12 from by rw [x_dp]; exact vp_in_nI (by omega) (by decide)) (by rw [x_dp]; exact nI_clamp (by omega)) ?_
    refine k_istore_n C d_M_resolve_38 rfl (Nat.le_of_ble_eq_true rfl) rfl ?_
    refine k_aload_n C d_M_resolve_39 rfl rfl ?_
    refine k_iload_n C d_M_resolve_40 rfl rfl ?_
    refine k_cvI X d_M_resolve_41 (c_M_runOne l b dA D g (g.1 25 0 e) hv hJ) cv_M_148 mr_0 rfl rfl ⟨by decide, by decide⟩ rfl rfl (Nat.le_of_ble_eq_true rfl) ?_
    refine k_istore C d_M_resolve_44 (Nat.le_of_ble_eq_true rfl) rfl ?_
    refine k_iload C d_M_resolve_46 rfl ?_
    refine k_if_ne C (tgt := 119) d_M_resolve_48 (by decide) (fun c48 => ?_) (fun c48 => ?_)
    · refine k_iload_n C d_M_resolve_119 rfl rfl ?_
      refine k_iconst C (v := 1) d_M_resolve_120 (by decide) ?_
      refine k_icmp_eq C (tgt := 137) d_M_resolve_121 (by decide) (fun c121 => ?_) (fun c121 => ?_)
      · refine k_iload C d_M_resolve_137 rfl ?_
        exact k_iret X d_M_resolve_139 (k_pr ((if_neg c48).trans ((if_pos c121).trans (rfl))))
      · refine k_iload C d_M_resolve_124 rfl ?_
        refine k_iconst C (v := (-1)) d_M_resolve_126 (by decide) ?_
        refine k_icmp_eq C (tgt := 137) d_M_resolve_127 (by decide) (fun c127 => ?_) (fun c127 => ?_)
        · refine k_iload C d_M_resolve_137 rfl ?_
          exact k_iret X d_M_resolve_139 (k_pr ((if_neg c48).trans ((if_neg c121).trans ((if_pos c127).trans (rfl)))))
        · refine k_iload C d_M_resolve_130 rfl ?_
          refine k_bipush C (v := (-2)) d_M_resolve_132 (by decide) ?_
          refine k_icmp_ne C (tgt := 140) d_M_resolve_134 (by decide) (fun c134 => ?_) (fun c134 => ?_)
          · have h1e : 1 ≤ e := by
              rcases Nat.eq_zero_or_pos e with q | q
              · exact absurd (by rw [q]; rfl) c121
              · exact q
            refine k_iinc C (w := nI (e - 1 + 1)) d_M_resolve_140 rfl (x_dec e h1e) rfl ?_
            refine k_goto C (tgt := 30) d_M_resolve_143 (by decide) ?_
            exact k_Qs ((if_neg c48).trans ((if_neg c121).trans ((if_neg c127).trans ((if_neg c134).trans (rfl))))) (ih (e - 1) _ _ _ _ _ (hP2 n e g hPe h1e c48 c127 c134))
          · refine k_iload C d_M_resolve_137 rfl ?_
            exact k_iret X d_M_resolve_139 (k_pr ((if_neg c48).trans ((if_neg c121).trans ((if_neg c127).trans ((if_pos c134).trans (rfl))))))
    · refine k_aload_n C d_M_resolve_51 rfl rfl ?_
      refine k_getR C O (r := (7, _)) d_M_resolve_52 fl_M_17 mr_0 rfl rfl rfl rfl ?_
      refine k_aload_n C d_M_resolve_55 rfl rfl ?_
      refine k_getR C O (r := (19, _)) d_M_resolve_56 fl_M_54 mr_0 rfl rfl rfl rfl ?_
      refine k_iload_n C d_M_resolve_59 rfl rfl ?_
      refine k_iald2 C O d_M_resolve_60 mr_19 rfl 0 rfl hv rfl ?_
      refine k_iald2 C O d_M_resolve_61 mr_7 rfl 0 rfl (hP1 n e g hPe c48).1 rfl ?_
      refine k_istore C d_M_resolve_62 (Nat.le_of_ble_eq_true rfl) rfl ?_
      refine k_iconst C (v := 0) d_M_resolve_64 (by decide) ?_
      refine k_istore C d_M_resolve_65 (Nat.le_of_ble_eq_true rfl) rfl ?_
      refine l_M_se l b dA D (mRun g (g.1 25 0 e)).2 n0 (e + 1) (by omega) _ _ (mNx g e) X (e + 1) 0 (by omega) ?_
      refine k_iload C d_M_resolve_91 rfl ?_
      refine k_iload_n C d_M_resolve_93 rfl rfl ?_
      refine k_icmp_ge C (tgt := 105) d_M_resolve_94 (by decide) (fun c94 => ?_) (fun c94 => ?_)
      · refine k_aload_n C d_M_resolve_105 rfl rfl ?_
        refine k_getR C O (r := (25, _)) d_M_resolve_106 fl_M_72 mr_0 rfl rfl rfl rfl ?_
        refine k_iload_n C d_M_resolve_109 rfl rfl ?_
        refine k_iload C d_M_resolve_110 rfl ?_
        refine k_iast2 C O (q := (e + 1)) d_M_resolve_112 mr_25 rfl 0 rfl (show vp_in (nI (e + 1)) 12 from vp_in_nI (by have := ((hP1 n e g hPe c48).2.2 c94).1; omega) (by decide)) (nI_clamp (by omega)) ?_
        refine k_iinc C (w := nI (e + 1 + 1)) d_M_resolve_113 rfl (nI_inc (e + 1)) rfl ?_
        refine k_goto C (tgt := 143) d_M_resolve_116 (by decide) ?_
        refine k_goto C (tgt := 30) d_M_resolve_143 (by decide) ?_
        exact k_Qs ((if_pos c48).trans ((if_pos c94).trans (rfl))) (ih (e + 1) _ _ _ _ _ ((hP1 n e g hPe c48).2.2 c94).2)
      · refine k_aload_n C d_M_resolve_97 rfl rfl ?_
        refine k_iload C d_M_resolve_98 rfl ?_
        refine k_iload_n C d_M_resolve_100 rfl rfl ?_
        refine k_cvI X d_M_resolve_101 (c_M_tellRing l b dA D (mRun g (g.1 25 0 e)).2 (mAt g e) (e + 1) (by omega) (show mSe _ _ _ _ ≤ e + 1 by omega) (hP1 n e g hPe c48).2.1) cv_M_154 mr_0 rfl rfl ⟨by decide, by decide⟩ rfl rfl (Nat.le_of_ble_eq_true rfl) ?_
        exact k_iret X d_M_resolve_104 (k_pr ((if_pos c48).trans ((if_neg c94).trans (rfl))))

set_option maxHeartbeats 4000000 in
set_option maxRecDepth 100000 in
theorem c_M_resolve (l : Launch) (b : Nat → Nat → Nat) (dA : Nat → ClassId) (D : va_G) (g : kG) (n : Int32) (P : Nat → Nat → kG → Prop) (hP0 : ∀ e g, ¬ P 0 e g) (hP : ∀ n e g, P n e g → mJ g ∧ e ≤ 11 ∧ vp_in (g.1 25 0 e) 12) (hP1 : ∀ n e g, P (n + 1) e g → (mRun g (g.1 25 0 e)).1 = 0 → vp_in ((mRun g (g.1 25 0 e)).2.1 19 0 (tn (g.1 25 0 e))) 24 ∧ (mRun g (g.1 25 0 e)).2.1 0 0 26 = nI 0 ∧ (nI (e + 1) ≤ nI (mAt g e) → e ≤ 10 ∧ P n (e + 1) (mPush g e))) (hP2 : ∀ n e g, P (n + 1) e g → 1 ≤ e → ¬ (mRun g (g.1 25 0 e)).1 = 0 → ¬ (mRun g (g.1 25 0 e)).1 = -1 → ¬ (mRun g (g.1 25 0 e)).1 = -2 → P n (e - 1) (mRun g (g.1 25 0 e)).2) (F : Nat) (h0 : ¬ xIn n (g.1 0 0 3) = 0 → P F 0 (kU (kU (m0 g).1 0 0 26 0) 25 0 0 n, g.2)) : kMd (sysM b dA D) l y_M_resolve b_M_resolve 7 (some .int) 4 96 [.inr (.inr (0, 0)), .inl n] g (some (.inl (mResolve F g n).1)) (mResolve F g n).2 := by
  refine k_enter (by decide) [some (.inr (.inr (0, 0))), some (.inl n), none, none, none, none, none] rfl rfl (Nat.le_of_ble_eq_true rfl) (fun x X => ?_)
  have C := X.1
  have O := X.2.1
  refine k_aload_n C d_M_resolve_0 rfl rfl ?_
  refine k_iconst C (v := 0) d_M_resolve_1 (by decide) ?_
  refine k_putI C O d_M_resolve_2 fp_M_94 mr_0 rfl rfl rfl ?_
  refine k_aload_n C d_M_resolve_5 rfl rfl ?_
  refine k_iload_n C d_M_resolve_6 rfl rfl ?_
  refine k_cvI X d_M_resolve_7 (c_M_isAction l b dA D _ n) cv_M_107 mr_0 rfl rfl ⟨by decide, by decide⟩ rfl rfl (Nat.le_of_ble_eq_true rfl) ?_
  refine k_if_ne C (tgt := 16) d_M_resolve_10 (by decide) (fun c10 => ?_) (fun c10 => ?_)
  · refine k_aload_n C d_M_resolve_16 rfl rfl ?_
    refine k_iconst C (v := 0) d_M_resolve_17 (by decide) ?_
    refine k_putI C O d_M_resolve_18 fp_M_151 mr_0 rfl rfl rfl ?_
    refine k_aload_n C d_M_resolve_21 rfl rfl ?_
    refine k_getR C O (r := (25, _)) d_M_resolve_22 fl_M_72 mr_0 rfl rfl rfl rfl ?_
    refine k_iconst C (v := 0) d_M_resolve_25 (by decide) ?_
    refine k_iload_n C d_M_resolve_26 rfl rfl ?_
    refine k_iast2 C O (q := 0) d_M_resolve_27 mr_25 rfl 0 rfl (show vp_in 0 12 from vp_in_nI (n := 0) (by decide) (by decide)) rfl ?_
    refine k_iconst C (v := 1) d_M_resolve_28 (by decide) ?_
    refine k_istore_n C d_M_resolve_29 rfl (Nat.le_of_ble_eq_true rfl) rfl ?_
    exact k_Qs ((if_neg c10).trans rfl) (l_M_resolve l b dA D P hP0 hP hP1 hP2 n X F 0 _ none none none none (h0 c10))
  · refine k_bipush C (v := (-9)) d_M_resolve_13 (by decide) ?_
    exact k_iret X d_M_resolve_15 (k_pr ((if_pos c10).trans (rfl)))
end
section
/-! constructors: worlds as lists of cells, references by their addresses -/
abbrev rAd : Nat → Nat → Nat := fun _ i => i
def rWd (D : va_G) (A : Nat → Prop) (ws : va_W) (H : Heap) : Prop := va_P D kCl ws H ∧ va_D A ws
/-- a final field's link, in a constructor of its own class -/
def kFf (own : String) (idx ci sl : Nat) (ty : FieldType) : Prop := ∃ (Cn : String) (T : u_T) (N : Nat) (ty0 : Nat → FieldType), kCl[ci]? = some (Cn, T, N) ∧ (∀ w ∈ u_ws Cn T N, w ∈ kT) ∧ (∀ k, k < N → parseFieldDescriptor (T k).2.2.1 = some (ty0 k)) ∧ (∀ a, a < N → ∀ b, b < N → a ≠ b → (T a).2.1 ≠ (T b).2.1) ∧ sl < N ∧ Cond.fieldLink own idx (T sl).1 (T sl).2.1 (T sl).2.2.1 ∈ kT ∧ (T sl).2.2.2 = true ∧ parseFieldDescriptor (T sl).2.2.1 = some ty ∧ (T sl).1 = own
/-- a class that 'new' names -/
def kNw (own : String) (idx ci n : Nat) (fs : List Value) : Prop := ∃ (Cn : String) (T : u_T) (ty0 : Nat → FieldType), kCl[ci]? = some (Cn, T, n) ∧ (∀ w ∈ u_ws Cn T n, w ∈ kT) ∧ (∀ k, k < n → parseFieldDescriptor (T k).2.2.1 = some (ty0 k)) ∧ Cond.classLink own idx Cn ∈ kT ∧ Cond.instantiable Cn n ∈ kT ∧ Cond.initialized Cn ∈ kT ∧ ∀ j, j < n → defaultValue (ty0 j) = vp_V fs j
section RR
variable {D : va_G} {A : Nat → Prop} {tys : List (ClassId × FieldType)} {x : kCx} {nn : Nat × Nat} {Q : State → Prop} {pc : Nat} {ls : List (Option kV)} {st : List kV} {ws ws' : va_W} {cc : ByteArray} {own : String}
theorem r_obj (C : kOk x cc own) {idx a : Nat} (hd : decode cc pc = .ok (.invokespecial idx, 3)) (h1 : Cond.methodLink own idx Lib.objectInit ∈ kT) (h2 : Cond.instanceMethod Lib.objectInit ∈ kT) (h3 : Cond.code Lib.objectInit ⟨#[0xb1]⟩ 1 none ∈ kT) (hml : x.2.2.2.2.2.2.2.2.2.maxLocals = ls.length) (hf : 1 ≤ x.2.2.2.1.frames) (hlo : ((st.map (k_cv rAd)).map fun v => v.category).sum + 12 ≤ x.2.2.2.1.locals)
    (kk : Wk (rWd D A) A rAd x nn Q (pc + 3) ls st ws) : Wk (rWd D A) A rAd x nn Q pc ls (.inr (.inr (0, a)) :: st) ws := fun H locs la hw hS hl =>
  W.objInit C.1 C.2.1 C.2.2.1 (C.ts _ h1) (C.ts _ h2) (C.ts _ h3) rfl (hl.1.trans hml.symm) rfl hd hf (by show 2 * 0 + _ + 12 ≤ _; rw [Nat.mul_zero, Nat.zero_add]; exact hlo) (kk H locs la hw hS hl)
theorem r_put (C : kOk x cc own) (K : va_K D kCl tys x.2.2.2.2.1) (q0 : Nat) {a ci sl idx : Nat} {ty : FieldType} {fs : List Value} {v : kV} (hd : decode cc pc = .ok (.putfield idx, 3)) (F : kFp own idx ci sl ty) (he : ws[q0]? = some (a, .inr (ci, fs))) (hn : narrow ty (k_cv rAd v) = k_cv rAd v) (hfit : fits ty (k_cv rAd v) = true) (hl0 : sl < fs.length) (hs : ws.set q0 (a, .inr (ci, fs.set sl (k_cv rAd v))) = ws')
    (kk : Wk (rWd D A) A rAd x nn Q (pc + 3) ls st ws') : Wk (rWd D A) A rAd x nn Q pc ls (v :: .inr (.inr (0, a)) :: st) ws := by
  intro H locs la hw hS hl
  obtain ⟨Cn, T, N, ty0, h1, h2, h5, h6, h3, h4, h7, h8⟩ := F
  refine va_put C.1 C.2.1 C.ts h2 ty0 h5 h6 C.2.2.1 K hw.1 hw.2 hS q0 he h1 sl h3 (C.ts _ h4) (fun _ h => h) h7 (v := k_cv rAd v) h8 hn hfit hl0 hd fun H1 locs1 hP1 hD1 hS1 => ?_
  rw [hs] at hP1 hD1
  exact kk H1 locs1 la ⟨hP1, hD1⟩ hS1 hl
theorem r_putF (C : kOk x cc own) (K : va_K D kCl tys x.2.2.2.2.1) (hin : x.2.2.2.2.2.2.2.2.1.name = "<init>") (q0 : Nat) {a ci sl idx : Nat} {ty : FieldType} {fs : List Value} {v : kV} (hd : decode cc pc = .ok (.putfield idx, 3)) (F : kFf own idx ci sl ty) (he : ws[q0]? = some (a, .inr (ci, fs))) (hn : narrow ty (k_cv rAd v) = k_cv rAd v) (hfit : fits ty (k_cv rAd v) = true) (hl0 : sl < fs.length) (hs : ws.set q0 (a, .inr (ci, fs.set sl (k_cv rAd v))) = ws')
    (kk : Wk (rWd D A) A rAd x nn Q (pc + 3) ls st ws') : Wk (rWd D A) A rAd x nn Q pc ls (v :: .inr (.inr (0, a)) :: st) ws := by
  intro H locs la hw hS hl
  obtain ⟨Cn, T, N, ty0, h1, h2, h5, h6, h3, h4, h7, h8, h9⟩ := F
  refine va_putF C.1 C.2.1 C.ts h2 ty0 h5 h6 C.2.2.1 K hw.1 hw.2 hS q0 he h1 sl h3 (C.ts _ h4) (fun _ h => h) h7 hin h9 (v := k_cv rAd v) h8 hn hfit hl0 hd fun H1 locs1 hP1 hD1 hS1 => ?_
  rw [hs] at hP1 hD1
  exact kk H1 locs1 la ⟨hP1, hD1⟩ hS1 hl
theorem r_get (C : kOk x cc own) (K : va_K D kCl tys x.2.2.2.2.1) (q0 : Nat) {a ci sl idx : Nat} {fs : List Value} {v : kV} (hd : decode cc pc = .ok (.getfield idx, 3)) (F : kFl own idx ci sl) (he : ws[q0]? = some (a, .inr (ci, fs))) (hv : fs[sl]? = some (k_cv rAd v))
    (kk : Wk (rWd D A) A rAd x nn Q (pc + 3) ls (v :: st) ws) : Wk (rWd D A) A rAd x nn Q pc ls (.inr (.inr (0, a)) :: st) ws := by
  intro H locs la hw hS hl
  obtain ⟨Cn, T, N, h1, h2, h3, h4⟩ := F
  exact va_get C.1 C.2.1 C.ts h2 C.2.2.1 K hw.1 q0 he h1 sl h3 (C.ts _ h4) (fun _ h => h) hv hd (kk H locs la hw hS hl)
theorem r_new (C : kOk x cc own) (K : va_K D kCl tys x.2.2.2.2.1) (hA : ∀ q, x.2.2.2.2.1.heap.size ≤ q → A q) {idx ci N : Nat} {fs : List Value} (hd : decode cc pc = .ok (.new idx, 3)) (F : kNw own idx ci N fs) (hc : nn.1 + 1 ≤ x.2.2.2.1.cells) (hs : nn.2 + N ≤ x.2.2.2.1.slots)
    (kk : ∀ q : Nat, Wk (rWd D A) A rAd x (nn.1 + 1, nn.2 + N) Q (pc + 3) ls (.inr (.inr (0, q)) :: st) (ws ++ [(q, .inr (ci, fs))])) : Wk (rWd D A) A rAd x nn Q pc ls st ws := by
  intro H locs la hw hS hl
  obtain ⟨Cn, T, ty0, h1, h2, h3, h4, h5, h6, h7⟩ := F
  exact va_new C.1 C.2.1 C.ts h2 ty0 h3 C.2.2.1 (C.ts _ h4) (C.ts _ h5) (C.ts _ h6) K hw.1 hw.2 hS hA h1 h7 hc hs hd fun q H1 hP1 hD1 hS1 => kk q H1 locs la ⟨hP1, hD1⟩ hS1 hl
end RR
/-- the tables, for constructors: classes, array classes, the nest's words -/
abbrev nX_F : Cond := .methodLinkNest "DynamicNeeds" 59 y_F_init "DynamicNeeds"
abbrev nX_A : Cond := .methodLinkNest "DynamicNeeds" 60 y_A_init "DynamicNeeds"
abbrev nX_G : Cond := .methodLinkNest "DynamicNeeds" 61 y_G_init "DynamicNeeds"
abbrev nA_N : Cond := .methodLinkNest "DynamicNeeds$Action" 30 y_N_init "DynamicNeeds"
def rK (D : va_G) (dA : Nat → ClassId) (U : State) : Prop := va_K D kCl (kTys dA) U ∧ va_Nw nX_F U ∧ va_Nw nX_A U ∧ va_Nw nX_G U ∧ va_Nw nA_N U ∧ va_AO "DynamicNeeds$FileState" U ∧ va_AO "DynamicNeeds$Action" U ∧ va_AO "DynamicNeeds$Mapping" U
theorem rK.warm {D : va_G} {dA : Nat → ClassId} {s U : State} (K : rK D dA s) (hW : s.WarmedH U.vm) : rK D dA U := ⟨va_K.moved hW.alike K.1, va_Nw.warmM hW K.2.1, va_Nw.warmM hW K.2.2.1, va_Nw.warmM hW K.2.2.2.1, va_Nw.warmM hW K.2.2.2.2.1, va_AO.moved hW.alike K.2.2.2.2.2.1, va_AO.moved hW.alike K.2.2.2.2.2.2.1, va_AO.moved hW.alike K.2.2.2.2.2.2.2⟩
theorem rK.same {D : va_G} {dA : Nat → ClassId} {s U : State} (K : rK D dA s) (h : s.vm = U.vm) : rK D dA U := ⟨va_K.moved (by rw [h]; exact Vm.Alike.refl _) K.1, va_Nw.same rfl h K.2.1, va_Nw.same rfl h K.2.2.1, va_Nw.same rfl h K.2.2.2.1, va_Nw.same rfl h K.2.2.2.2.1, va_AO.moved (by rw [h]; exact Vm.Alike.refl _) K.2.2.2.2.2.1, va_AO.moved (by rw [h]; exact Vm.Alike.refl _) K.2.2.2.2.2.2.1, va_AO.moved (by rw [h]; exact Vm.Alike.refl _) K.2.2.2.2.2.2.2⟩
def rRm (f n mc ms : Nat) : Room := { frames := f, cells := mc, slots := ms, locals := n }
def rPre (D : va_G) (dA : Nat → ClassId) (sz h0 : Nat) (e0 : va_E) (as : List kV) : Array Value → State → Prop := va_Pc ((.inr (.inr (0, h0)) :: as).map (k_cv rAd)) (fun U => U.heap.size = sz ∧ va_P D kCl [(h0, e0)] U.heap ∧ rK D dA U)
def rPost (D : va_G) (sz h0 : Nat) (e0 : va_E) (post : va_W → Prop) : Array Value → State → Outcome → State → Prop := fun _ st oc t => (∃ ws : va_W, oc = .returned none ∧ post ws ∧ va_P D kCl ws t.heap ∧ va_D (va_A [(h0, e0)] sz) ws) ∧ va_F (va_A [(h0, e0)] sz) st t
def rMet (l : Launch) (D : va_G) (dA : Nat → ClassId) (ym : MethodName) (cc : ByteArray) (nL f n mc ms : Nat) (sz h0 : Nat) (e0 : va_E) (as : List kV) (post : va_W → Prop) : Prop := Met l ym (.code ym cc nL none :: kT) (rRm f n mc ms) (rPre D dA sz h0 e0 as) (rPost D sz h0 e0 post) mc ms (va_A [(h0, e0)] sz)
def rQ (D : va_G) (sz h0 : Nat) (e0 : va_E) (post : va_W → Prop) (mc ms : Nat) (x : kCx) : State → Prop := MQ x.2.2.2.2.2.2.2.1 (rPost D sz h0 e0 post) x.2.2.2.2.2.2.1 x.2.2.2.2.1 mc ms (va_A [(h0, e0)] sz)
def rIn (l : Launch) (D : va_G) (dA : Nat → ClassId) (cc : ByteArray) (own : String) (nL f n mc ms sz : Nat) (x : kCx) : Prop := kOk x cc own ∧ rK D dA x.2.2.2.2.1 ∧ x.2.1 = l ∧ x.2.2.2.1 = rRm f n mc ms ∧ x.2.2.2.2.2.2.2.2.2.maxLocals = nL ∧ x.2.2.2.2.2.2.2.2.1.sig.returnType = none ∧ x.2.2.2.2.2.2.2.2.1.locks = false ∧ x.2.2.2.2.2.2.2.2.1.name = "<init>" ∧ x.2.2.2.2.1.heap.size = sz
theorem r_enter {l : Launch} {D : va_G} {dA : Nat → ClassId} {ym : MethodName} {cc : ByteArray} {nL f n mc ms sz h0 : Nat} {e0 : va_E} {as : List kV} {post : va_W → Prop} (hy : plainName ym.cls = true) (hnm : ym.name = "<init>") (ls0 : List (Option kV)) (hls : k_tl rAd 0 ls0 = lv_args 0 ((.inr (.inr (0, h0)) :: as).map (k_cv rAd))) (hlen : ls0.length = nL) (hsl : (lg_sl ((.inr (.inr (0, h0)) :: as).map (k_cv rAd))).length ≤ nL)
    (body : ∀ x : kCx, rIn l D dA cc ym.cls nL f n mc ms sz x → Wk (rWd D (va_A [(h0, e0)] sz)) (va_A [(h0, e0)] sz) rAd x (0, 0) (rQ D sz h0 e0 post mc ms x) 0 ls0 [] [(h0, e0)]) : rMet l D dA ym cc nL f n mc ms sz h0 e0 as post := by
  refine Met.ofW (cc := cc) (maxL := nL) (ret := none) hy rfl ?_
  intro p e s m args below meth c s₁ B hml hv
  obtain ⟨rfl, hsz, hP, hK⟩ := hv
  have h := body (p, l, e, rRm f n mc ms, s, m, ((.inr (.inr (0, h0)) :: as).map (k_cv rAd)).toArray, below, meth, c) ⟨⟨B.exec, B.bytes, findClass_of_methodNamed B.named, fun w h hg => atoms_spec B.pre w (List.mem_cons_of_mem _ (kT_in ⟨h, hg⟩))⟩, hK, rfl, rfl, hml, B.returns, B.notSynchronized, (name_of_methodNamed B.named B.method).1.trans hnm, hsz⟩
  rw [lg_entry_eq]
  have hD : va_D (va_A [(h0, e0)] sz) [(h0, e0)] := ⟨fun i j p q hp hq _ => by
    have h1 : i < 1 := (List.getElem?_eq_some_iff.mp hp).1
    have h2 : j < 1 := (List.getElem?_eq_some_iff.mp hq).1
    omega, fun k q hq => va_A.in hq⟩
  exact h s.heap [] _ ⟨hP, hD⟩ va_S.rf (by rw [hls, hlen]; exact lv_entry _ hsl)
theorem va_nd_of : ∀ l : List Nat, l.Nodup → va_nd l = true
  | [], _ => rfl
  | a :: l, h => by
    simp only [va_nd, Bool.and_eq_true, decide_eq_true_eq]
    exact ⟨(List.nodup_cons.mp h).1, va_nd_of l (List.nodup_cons.mp h).2⟩
theorem r_range (wr t : va_W) : (List.range wr.length).map (fun i => (wr ++ t)[i]?) = wr.map some := by
  apply List.ext_getElem?
  intro j
  rw [List.getElem?_map, List.getElem?_map]
  by_cases h : j < wr.length
  · rw [List.getElem?_range h]
    show some ((wr ++ t)[j]?) = _
    rw [List.getElem?_append_left h, List.getElem?_eq_getElem h]
    rfl
  · rw [List.getElem?_eq_none (by rw [List.length_range]; omega), List.getElem?_eq_none (by omega)]
    rfl
theorem r_join {D : va_G} {A : Nat → Prop} {wr w1 : va_W} {q : Nat} {e : va_E} {H H1 : Heap} (hP : va_P D kCl (wr ++ [(q, e)]) H) (hD : va_D A (wr ++ [(q, e)])) (hk : ∀ p : Nat, p < H.size → ¬ va_A [(q, e)] H.size p → H1[p]? = H[p]?) (hF : ∀ p, va_A [(q, e)] H.size p → A p) (hP1 : va_P D kCl w1 H1) (hD1 : va_D (va_A [(q, e)] H.size) w1) : va_P D kCl (wr ++ w1) H1 ∧ va_D A (wr ++ w1) :=
  va_join (wc := [(q, e)]) hP hD [wr.length] (List.range wr.length) (by simp) (r_range wr _) (va_nd_of _ List.nodup_range) (by intro i hi; simp at hi ⊢; omega) hk hF hP1 hD1
section RS
variable {l : Launch} {D : va_G} {dA : Nat → ClassId} {x : kCx} {nn : Nat × Nat} {Q : State → Prop} {pc : Nat} {ls : List (Option kV)} {st rest : List kV} {ws wr : va_W} {cc : ByteArray} {own : String} {nL f n mc0 ms0 sz : Nat} {A : Nat → Prop}
theorem r_vret {h0 : Nat} {e0 : va_E} {post : va_W → Prop} (X : rIn l D dA cc own nL f n mc0 ms0 sz x) (hn : nn.1 ≤ mc0 ∧ nn.2 ≤ ms0) (hd : decode cc pc = .ok (.return_, 1)) (hp : post ws) : Wk (rWd D (va_A [(h0, e0)] sz)) (va_A [(h0, e0)] sz) rAd x nn (rQ D sz h0 e0 post mc0 ms0 x) pc ls [] ws :=
  fun H locs la hw hS hl => W.widen hn.1 hn.2 (W.vret X.1.1 X.1.2.1 X.2.2.2.2.2.1 (fun t ht hW => ⟨⟨ws, rfl, hp, by rw [ht]; exact hw.1, hw.2⟩, hS.F ht⟩) hS.2.2 hd X.2.2.2.2.2.2.1)
/-- a constructor of a nest mate, called on the cell made last -/
theorem r_callN (X : rIn l D dA cc own nL f n mc0 ms0 sz x) (hA : ∀ q, sz ≤ q → A q) {idx q f2 n2 mc ms nL2 : Nat} {ym : MethodName} {cc2 : ByteArray} {host : String} {e : va_E} {as : List kV} {post : va_W → Prop} (hd : decode cc pc = .ok (.invokespecial idx, 3)) (hM : ∀ sz2, rMet l D dA ym cc2 nL2 f2 n2 mc ms sz2 q e as post) (hnw : va_Nw (.methodLinkNest own idx ym host) x.2.2.2.2.1) (h7 : Cond.code ym cc2 nL2 none ∈ kT) (h4 : Cond.instanceMethod ym ∈ kT) (h6 : Cond.initialized ym.cls ∈ kT) (hnm : ym.name = "<init>") (hdd : ym.cls ≠ "java/lang/invoke/MethodHandle" ∧ ym.cls ≠ "java/lang/invoke/VarHandle" ∧ (parseMethodDescriptor ym.desc).map (fun d => d.parameters.length) = some as.length) (hR : f2 + 1 ≤ f ∧ 8 + (nL2 + 11) + n2 ≤ n) (hc : nn.1 + mc ≤ mc0 ∧ nn.2 + ms ≤ ms0) (hst : st = as.reverse ++ .inr (.inr (0, q)) :: rest) (hll : ls.length = nL) (hW : ((rest.map (k_cv rAd)).map fun v => v.category).sum ≤ 8)
    (kk : ∀ w1, post w1 → Wk (rWd D A) A rAd x (nn.1 + mc, nn.2 + ms) Q (pc + 3) ls rest (wr ++ w1)) : Wk (rWd D A) A rAd x nn Q pc ls st (wr ++ [(q, e)]) := by
  intro H locs la hw hS hl T hT XX
  obtain ⟨C, K, h1, h2, h3, -, -, -, hsz⟩ := X
  subst hst
  subst h1
  have hPq : va_P D kCl [(q, e)] H := fun k p hk => hw.1 (wr.length + k) p (by rw [List.getElem?_append_right (by omega), show wr.length + k - wr.length = k by omega]; exact hk)
  have hF : ∀ p, va_A [(q, e)] H.size p → A p := by
    intro p hp
    rcases hp with ⟨k, e', hk⟩ | hp
    · exact hw.2.2 (wr.length + k) (p, e') (by rw [List.getElem?_append_right (by omega), show wr.length + k - wr.length = k by omega]; exact hk)
    · exact hA p (by rw [← hsz]; exact Nat.le_trans hS.1 hp)
  have hrun := va_runIN (p := x.1) (l := x.2.1) (R := x.2.2.2.1) (s := x.2.2.2.2.1) (args := x.2.2.2.2.2.2.1) (m := x.2.2.2.2.2.1) (c := x.2.2.2.2.2.2.2.2.2) (H := H) (e := x.2.2.1) (below := x.2.2.2.2.2.2.2.1) (meth := x.2.2.2.2.2.2.2.2.1) (locs := locs) (cells := nn.1) (slots := nn.2) (g := F0 x.2.2.2.2.2.1 pc la ((as.reverse ++ .inr (.inr (0, q)) :: rest).map (k_cv rAd))) (rest := rest.map (k_cv rAd)) (b := q) (As := as.map (k_cv rAd)) (nL := nL) (Ts := kT) ⟨C.1, C.2.1, h3, C.2.2.1, C.ts⟩ (hM H.size)
    ⟨va_cnB as.length C.ts (kT_good (fun w hw => by
      rcases List.mem_cons.mp hw with rfl | h
      · exact h7
      · exact h)) rfl rfl rfl hnw (C.ts _ h6) hdd (by rw [h2]; exact hR), hnm, C.ts _ h4⟩ ⟨fun a U gf mk q => ⟨q.1, q.2.1, q.2.2.1, q.2.2.2.same rfl⟩, fun U hU hW => ⟨rfl, by rw [hU], by rw [hU]; exact hPq, K.warm hW⟩⟩ rfl (List.length_map ..) (hl.1.trans hll) (by
      show (as.reverse ++ .inr (.inr (0, q)) :: rest).map (k_cv rAd) = _
      rw [List.map_append, List.map_cons, List.map_reverse]
      rfl) (lv_room hW) hd (by rw [h2]; exact hc)
  obtain ⟨v, st₀, t, T', L, g0, X', hL, e1, e2, ⟨⟨w1, hv, hp, hb, hbD⟩, hz, hk⟩, stp⟩ := hrun T hT XX
  cases hv
  rw [g0] at hz hk
  have hj := r_join hw.1 hw.2 (H1 := T'.heap) (fun p h1 h2 => by rw [e1]; exact hk p h1 h2) hF (by rw [e1]; exact hb) hbD
  obtain ⟨t2, a1, b1⟩ := kk w1 hp T'.heap (locs ++ L) la hj
    ⟨Nat.le_trans hS.1 (by rw [e1]; exact hz), fun p h1 h2 => by rw [e1, hk p (Nat.lt_of_lt_of_le h1 hS.1) (fun z => h2 (hF p z))]; exact hS.2.1 p h1 h2, fun p hp => by
      rcases List.mem_append.mp hp with h | h
      · exact hS.2.2 p h
      · exact hF _ (hL p h)⟩ hl T' rfl X'
  exact ⟨t2, stp t2 a1, b1⟩
theorem r_newa (X : rIn l D dA cc own nL f n mc0 ms0 sz x) (hA : ∀ q, sz ≤ q → A q) (t0 : Nat) {atype : ArrayType} {ty : FieldType} {c0 : ClassId} {v : Int32} {N : Nat} {a0 : vp_A} (hd : decode cc pc = .ok (.newarray atype, 2)) (hac : Cond.arrayClass ty ∈ kT) (hty : newarray.typeOf atype = ty) (ht : (kTys dA)[t0]? = some (c0, ty)) (hu : ∀ c1 : ClassId, va_RA x.2.2.2.2.1 c1 ty → va_RA x.2.2.2.2.1 c0 ty → c1 = c0) (ha : ∀ cA : ClassId, vp_cell cA a0 = arrV cA N (fun _ => defaultValue ty)) (hn : ¬ v < 0) (hN : v.toNatClampNeg = N) (hb : N * componentBytes ty ≤ 536870912) (hc : nn.1 + 1 ≤ mc0) (hs : nn.2 + N ≤ ms0)
    (kk : ∀ q : Nat, Wk (rWd D A) A rAd x (nn.1 + 1, nn.2 + N) Q (pc + 2) ls (.inr (.inr (0, q)) :: rest) (ws ++ [(q, .inl (c0, a0))])) : Wk (rWd D A) A rAd x nn Q pc ls (.inl v :: rest) ws := by
  intro H locs la hw hS hl
  obtain ⟨C, K, h1, h2, h3, -, -, -, hsz⟩ := X
  subst hty
  refine va_newa C.1 C.2.1 (C.ts _ hac) rfl K.1 hw.1 hw.2 hS (fun q h => hA q (by rw [← hsz]; exact h)) ha hn hN hb (by rw [h2]; exact hc) (by rw [h2]; exact hs) hd fun q cA H1 hK1 hP1 hD1 hS1 => ?_
  have hlen : (kTys dA).length = 6 := rfl
  have hcA : cA = c0 := hu cA (hK1.2 6 (cA, newarray.typeOf atype) (by rw [List.getElem?_append_right (by rw [hlen]; omega), hlen]; rfl)).2 (K.1.2 t0 _ ht).2
  subst hcA
  exact kk q H1 locs la ⟨hP1, hD1⟩ hS1 hl
theorem r_newq (X : rIn l D dA cc own nL f n mc0 ms0 sz x) (hA : ∀ q, sz ≤ q → A q) (t0 : Nat) {E : String} {idx : Nat} {c0 : ClassId} {v : Int32} {N : Nat} (hd : decode cc pc = .ok (.anewarray idx, 3)) (hcl : Cond.classLink own idx E ∈ kT) (hov : va_AO E x.2.2.2.2.1) (ht : (kTys dA)[t0]? = some (c0, .object E)) (hn : ¬ v < 0) (hN : v.toNatClampNeg = N) (hb : N * 4 ≤ 536870912) (hc : nn.1 + 1 ≤ mc0) (hs : nn.2 + N ≤ ms0)
    (kk : ∀ q : Nat, Wk (rWd D A) A rAd x (nn.1 + 1, nn.2 + N) Q (pc + 3) ls (.inr (.inr (0, q)) :: rest) (ws ++ [(q, .inl (c0, N, .inr (.inr (.inr (.inr (fun _ => none))))))])) : Wk (rWd D A) A rAd x nn Q pc ls (.inl v :: rest) ws := by
  intro H locs la hw hS hl
  obtain ⟨C, K, h1, h2, h3, -, -, -, hsz⟩ := X
  refine va_newq C.1 C.2.1 C.2.2.1 (C.ts _ hcl) hov K.1 hw.1 hw.2 hS (fun q h => hA q (by rw [← hsz]; exact h)) hn hN hb (by rw [h2]; exact hc) (by rw [h2]; exact hs) hd fun q cA H1 hK1 hP1 hD1 hS1 => ?_
  have hlen : (kTys dA).length = 6 := rfl
  obtain ⟨k1, m1, -, -, -, r1⟩ := (hK1.2 6 (cA, .object E) (by rw [List.getElem?_append_right (by rw [hlen]; omega), hlen]; rfl)).2
  obtain ⟨k2, m2, -, -, -, r2⟩ := (K.1.2 t0 _ ht).2
  have hcA : cA = c0 := Option.some.inj (r1.symm.trans r2)
  subst hcA
  exact kk q H1 locs la ⟨hP1, hD1⟩ hS1 hl
theorem r_aast (C : kOk x cc own) {tys : List (ClassId × FieldType)} (K : va_K D kCl tys x.2.2.2.2.1) (q0 t0 qk ci : Nat) {cA : ClassId} {r : vw_C} {N a v : Nat} {vs : List Value} {g : Nat → Option Nat} {i : Int32} {ws' : va_W} (hd : decode cc pc = .ok (.aastore, 1)) (he : ws[q0]? = some (a, .inl (cA, N, .inr (.inr (.inr (.inr g)))))) (ht : tys[t0]? = some (cA, .object r.1)) (hv : ws[qk]? = some (v, .inr (ci, vs))) (hc : kCl[ci]? = some r) (hin : vp_in i N) (hs : ws.set q0 (a, .inl (cA, N, .inr (.inr (.inr (.inr (va_up g i.toNatClampNeg (some v))))))) = ws')
    (kk : Wk (rWd D A) A rAd x nn Q (pc + 1) ls rest ws') : Wk (rWd D A) A rAd x nn Q pc ls (.inr (.inr (0, v)) :: .inl i :: .inr (.inr (0, a)) :: rest) ws := by
  intro H locs la hw hS hl
  refine va_astq C.1 C.2.1 K hw.1 hw.2 hS q0 t0 qk ci he ht hv hc hin hd fun H1 locs1 hP1 hD1 hS1 => ?_
  rw [hs] at hP1 hD1
  exact kk H1 locs1 la ⟨hP1, hD1⟩ hS1 hl
theorem r_max (X : rIn l D dA cc own nL f n mc0 ms0 sz x) {idx : Nat} {u v : Int32} (hd : decode cc pc = .ok (.invokestatic idx, 3)) (h1 : Cond.methodLink own idx Lib.Math.max.name ∈ kT) (h2 : Cond.static Lib.Math.max.name ∈ kT) (h3 : Cond.initialized "java/lang/Math" ∈ kT) (h4 : Cond.code Lib.Math.max.name Lib.Math.max.code 2 (some .int) ∈ kT) (hll : ls.length = nL) (hf : 1 ≤ f) (hn : ((rest.map (k_cv rAd)).map fun v => v.category).sum + 13 ≤ n) (hc : nn.1 ≤ mc0 ∧ nn.2 ≤ ms0)
    (kk : Wk (rWd D A) A rAd x nn Q (pc + 3) ls (.inl (if u < v then v else u) :: rest) ws) : Wk (rWd D A) A rAd x nn Q pc ls (.inl v :: .inl u :: rest) ws := fun H locs la hw hS hl =>
  va_mmax X.1.1 X.1.2.1 (X.2.2.2.2.1.trans (hll.symm.trans hl.1.symm)) X.1.2.2.1 (X.1.ts _ h1) (X.1.ts _ h2) (X.1.ts _ h3) (X.1.ts _ h4) (by rw [X.2.2.2.1]; exact hf) (by rw [X.2.2.2.1]; exact hn) (by rw [X.2.2.2.1]; exact hc.1) (by rw [X.2.2.2.1]; exact hc.2) hd (kk H locs la hw hS hl)
theorem r_min (X : rIn l D dA cc own nL f n mc0 ms0 sz x) {idx : Nat} {u v : Int32} (hd : decode cc pc = .ok (.invokestatic idx, 3)) (h1 : Cond.methodLink own idx Lib.Math.min.name ∈ kT) (h2 : Cond.static Lib.Math.min.name ∈ kT) (h3 : Cond.initialized "java/lang/Math" ∈ kT) (h4 : Cond.code Lib.Math.min.name Lib.Math.min.code 2 (some .int) ∈ kT) (hll : ls.length = nL) (hf : 1 ≤ f) (hn : ((rest.map (k_cv rAd)).map fun v => v.category).sum + 13 ≤ n) (hc : nn.1 ≤ mc0 ∧ nn.2 ≤ ms0)
    (kk : Wk (rWd D A) A rAd x nn Q (pc + 3) ls (.inl (if v < u then v else u) :: rest) ws) : Wk (rWd D A) A rAd x nn Q pc ls (.inl v :: .inl u :: rest) ws := fun H locs la hw hS hl =>
  va_mmin X.1.1 X.1.2.1 (X.2.2.2.2.1.trans (hll.symm.trans hl.1.symm)) X.1.2.2.1 (X.1.ts _ h1) (X.1.ts _ h2) (X.1.ts _ h3) (X.1.ts _ h4) (by rw [X.2.2.2.1]; exact hf) (by rw [X.2.2.2.1]; exact hn) (by rw [X.2.2.2.1]; exact hc.1) (by rw [X.2.2.2.1]; exact hc.2) hd (kk H locs la hw hS hl)
end RS
end
section
/-! constructors of parts, and of the reference (by program: wip/gen/ctor.py) -/
theorem ob_i : Cond.instanceMethod Lib.objectInit ∈ kT := kT_in (by decide +kernel)
theorem ob_c : Cond.code Lib.objectInit ⟨#[0xb1]⟩ 1 none ∈ kT := kT_in ⟨List.mem_of_getElem? (i := 40) (by decide +kernel), by decide +kernel⟩
theorem ac_i : Cond.arrayClass .int ∈ kT := kT_in (by decide +kernel)
theorem ac_z : Cond.arrayClass .boolean ∈ kT := kT_in (by decide +kernel)
theorem ac_j : Cond.arrayClass .long ∈ kT := kT_in (by decide +kernel)
theorem ru_i {s : State} {c0 : ClassId} : ∀ c1 : ClassId, va_RA s c1 .int → va_RA s c0 .int → c1 = c0 := fun c1 h1 h0 => Option.some.inj (Eq.trans (Eq.symm (show s.vm.findClass _ = some c1 from h1)) (show s.vm.findClass _ = some c0 from h0))
theorem ru_z {s : State} {c0 : ClassId} : ∀ c1 : ClassId, va_RA s c1 .boolean → va_RA s c0 .boolean → c1 = c0 := fun c1 h1 h0 => Option.some.inj (Eq.trans (Eq.symm (show s.vm.findClass _ = some c1 from h1)) (show s.vm.findClass _ = some c0 from h0))
theorem ru_j {s : State} {c0 : ClassId} : ∀ c1 : ClassId, va_RA s c1 .long → va_RA s c0 .long → c1 = c0 := fun c1 h1 h0 => Option.some.inj (Eq.trans (Eq.symm (show s.vm.findClass _ = some c1 from h1)) (show s.vm.findClass _ = some c0 from h0))
theorem ol_X : Cond.methodLink "DynamicNeeds" 1 Lib.objectInit ∈ kT := kT_in (by decide +kernel)
theorem ff_X_11 : kFf "DynamicNeeds" 11 4 1 (.array (.object "DynamicNeeds$FileState")) := ⟨R_X, T_X, 10, t_X, rfl, fun w h => kT_in (i_X w h), t_X_ok, n_X, by decide, kT_in (by decide +kernel), rfl, by decide +kernel, rfl⟩
theorem ff_X_17 : kFf "DynamicNeeds" 17 4 2 (.array (.object "DynamicNeeds$Action")) := ⟨R_X, T_X, 10, t_X, rfl, fun w h => kT_in (i_X w h), t_X_ok, n_X, by decide, kT_in (by decide +kernel), rfl, by decide +kernel, rfl⟩
theorem ff_X_23 : kFf "DynamicNeeds" 23 4 3 (.array (.object "DynamicNeeds$Mapping")) := ⟨R_X, T_X, 10, t_X, rfl, fun w h => kT_in (i_X w h), t_X_ok, n_X, by decide, kT_in (by decide +kernel), rfl, by decide +kernel, rfl⟩
theorem ff_X_37 : kFf "DynamicNeeds" 37 4 7 (.array (.int)) := ⟨R_X, T_X, 10, t_X, rfl, fun w h => kT_in (i_X w h), t_X_ok, n_X, by decide, kT_in (by decide +kernel), rfl, by decide +kernel, rfl⟩
theorem ff_X_56 : kFf "DynamicNeeds" 56 4 0 (.int) := ⟨R_X, T_X, 10, t_X, rfl, fun w h => kT_in (i_X w h), t_X_ok, n_X, by decide, kT_in (by decide +kernel), rfl, by decide +kernel, rfl⟩
theorem nw_X_9 : kNw "DynamicNeeds" 9 1 3 [.int 0, .long 0, .int 0] := ⟨R_F, T_F, t_F, rfl, fun w h => kT_in (i_F w h), t_F_ok, kT_in (by decide +kernel), kT_in (by decide +kernel), kT_in (by decide +kernel), by decide +kernel⟩
theorem nw_X_15 : kNw "DynamicNeeds" 15 0 13 [.null, .null, .int 0, .int 0, .int 0, .null, .int 0, .int 0, .long 0, .int 0, .int 0, .int 0, .int 0] := ⟨R_A, T_A, t_A, rfl, fun w h => kT_in (i_A w h), t_A_ok, kT_in (by decide +kernel), kT_in (by decide +kernel), kT_in (by decide +kernel), by decide +kernel⟩
theorem nw_X_21 : kNw "DynamicNeeds" 21 2 4 [.int 0, .long 0, .long 0, .int 0] := ⟨R_G, T_G, t_G, rfl, fun w h => kT_in (i_G w h), t_G_ok, kT_in (by decide +kernel), kT_in (by decide +kernel), kT_in (by decide +kernel), by decide +kernel⟩
theorem ol_F : Cond.methodLink "DynamicNeeds$FileState" 3 Lib.objectInit ∈ kT := kT_in (by decide +kernel)
theorem ol_A : Cond.methodLink "DynamicNeeds$Action" 3 Lib.objectInit ∈ kT := kT_in (by decide +kernel)
theorem ff_A_9 : kFf "DynamicNeeds$Action" 9 0 0 (.array (.int)) := ⟨R_A, T_A, 13, t_A, rfl, fun w h => kT_in (i_A w h), t_A_ok, n_A, by decide, kT_in (by decide +kernel), rfl, by decide +kernel, rfl⟩
theorem ff_A_15 : kFf "DynamicNeeds$Action" 15 0 1 (.array (.int)) := ⟨R_A, T_A, 13, t_A, rfl, fun w h => kT_in (i_A w h), t_A_ok, n_A, by decide, kT_in (by decide +kernel), rfl, by decide +kernel, rfl⟩
theorem nw_A_28 : kNw "DynamicNeeds$Action" 28 3 5 [.null, .null, .null, .null, .int 0] := ⟨R_N, T_N, t_N, rfl, fun w h => kT_in (i_N w h), t_N_ok, kT_in (by decide +kernel), kT_in (by decide +kernel), kT_in (by decide +kernel), by decide +kernel⟩
theorem ff_A_31 : kFf "DynamicNeeds$Action" 31 0 5 (.object "DynamicNeeds$Notes") := ⟨R_A, T_A, 13, t_A, rfl, fun w h => kT_in (i_A w h), t_A_ok, n_A, by decide, kT_in (by decide +kernel), rfl, by decide +kernel, rfl⟩
theorem ol_N : Cond.methodLink "DynamicNeeds$Notes" 3 Lib.objectInit ∈ kT := kT_in (by decide +kernel)
theorem ff_N_9 : kFf "DynamicNeeds$Notes" 9 3 0 (.array (.int)) := ⟨R_N, T_N, 5, t_N, rfl, fun w h => kT_in (i_N w h), t_N_ok, n_N, by decide, kT_in (by decide +kernel), rfl, by decide +kernel, rfl⟩
theorem ff_N_15 : kFf "DynamicNeeds$Notes" 15 3 1 (.array (.boolean)) := ⟨R_N, T_N, 5, t_N, rfl, fun w h => kT_in (i_N w h), t_N_ok, n_N, by decide, kT_in (by decide +kernel), rfl, by decide +kernel, rfl⟩
theorem ff_N_19 : kFf "DynamicNeeds$Notes" 19 3 2 (.array (.boolean)) := ⟨R_N, T_N, 5, t_N, rfl, fun w h => kT_in (i_N w h), t_N_ok, n_N, by decide, kT_in (by decide +kernel), rfl, by decide +kernel, rfl⟩
theorem ff_N_22 : kFf "DynamicNeeds$Notes" 22 3 3 (.array (.long)) := ⟨R_N, T_N, 5, t_N, rfl, fun w h => kT_in (i_N w h), t_N_ok, n_N, by decide, kT_in (by decide +kernel), rfl, by decide +kernel, rfl⟩
theorem ol_G : Cond.methodLink "DynamicNeeds$Mapping" 3 Lib.objectInit ∈ kT := kT_in (by decide +kernel)
theorem ol_M : Cond.methodLink "DynamicNeedsModel" 1 Lib.objectInit ∈ kT := kT_in (by decide +kernel)
theorem ff_M_7 : kFf "DynamicNeedsModel" 7 5 5 (.array (.boolean)) := ⟨R_M, T_M, 34, t_M, rfl, fun w h => kT_in (i_M w h), t_M_ok, n_M, by decide, kT_in (by decide +kernel), rfl, by decide +kernel, rfl⟩
theorem ff_M_13 : kFf "DynamicNeedsModel" 13 5 6 (.array (.long)) := ⟨R_M, T_M, 34, t_M, rfl, fun w h => kT_in (i_M w h), t_M_ok, n_M, by decide, kT_in (by decide +kernel), rfl, by decide +kernel, rfl⟩
theorem ff_M_17 : kFf "DynamicNeedsModel" 17 5 7 (.array (.int)) := ⟨R_M, T_M, 34, t_M, rfl, fun w h => kT_in (i_M w h), t_M_ok, n_M, by decide, kT_in (by decide +kernel), rfl, by decide +kernel, rfl⟩
theorem ff_M_21 : kFf "DynamicNeedsModel" 21 5 8 (.array (.int)) := ⟨R_M, T_M, 34, t_M, rfl, fun w h => kT_in (i_M w h), t_M_ok, n_M, by decide, kT_in (by decide +kernel), rfl, by decide +kernel, rfl⟩
theorem ff_M_24 : kFf "DynamicNeedsModel" 24 5 9 (.array (.int)) := ⟨R_M, T_M, 34, t_M, rfl, fun w h => kT_in (i_M w h), t_M_ok, n_M, by decide, kT_in (by decide +kernel), rfl, by decide +kernel, rfl⟩
theorem ff_M_27 : kFf "DynamicNeedsModel" 27 5 10 (.array (.int)) := ⟨R_M, T_M, 34, t_M, rfl, fun w h => kT_in (i_M w h), t_M_ok, n_M, by decide, kT_in (by decide +kernel), rfl, by decide +kernel, rfl⟩
theorem ff_M_30 : kFf "DynamicNeedsModel" 30 5 11 (.array (.int)) := ⟨R_M, T_M, 34, t_M, rfl, fun w h => kT_in (i_M w h), t_M_ok, n_M, by decide, kT_in (by decide +kernel), rfl, by decide +kernel, rfl⟩
theorem ff_M_33 : kFf "DynamicNeedsModel" 33 5 12 (.array (.int)) := ⟨R_M, T_M, 34, t_M, rfl, fun w h => kT_in (i_M w h), t_M_ok, n_M, by decide, kT_in (by decide +kernel), rfl, by decide +kernel, rfl⟩
theorem ff_M_36 : kFf "DynamicNeedsModel" 36 5 13 (.array (.int)) := ⟨R_M, T_M, 34, t_M, rfl, fun w h => kT_in (i_M w h), t_M_ok, n_M, by decide, kT_in (by decide +kernel), rfl, by decide +kernel, rfl⟩
theorem ff_M_39 : kFf "DynamicNeedsModel" 39 5 14 (.array (.int)) := ⟨R_M, T_M, 34, t_M, rfl, fun w h => kT_in (i_M w h), t_M_ok, n_M, by decide, kT_in (by decide +kernel), rfl, by decide +kernel, rfl⟩
theorem ff_M_42 : kFf "DynamicNeedsModel" 42 5 15 (.array (.int)) := ⟨R_M, T_M, 34, t_M, rfl, fun w h => kT_in (i_M w h), t_M_ok, n_M, by decide, kT_in (by decide +kernel), rfl, by decide +kernel, rfl⟩
theorem ff_M_45 : kFf "DynamicNeedsModel" 45 5 16 (.array (.int)) := ⟨R_M, T_M, 34, t_M, rfl, fun w h => kT_in (i_M w h), t_M_ok, n_M, by decide, kT_in (by decide +kernel), rfl, by decide +kernel, rfl⟩
theorem ff_M_48 : kFf "DynamicNeedsModel" 48 5 17 (.array (.int)) := ⟨R_M, T_M, 34, t_M, rfl, fun w h => kT_in (i_M w h), t_M_ok, n_M, by decide, kT_in (by decide +kernel), rfl, by decide +kernel, rfl⟩
theorem ff_M_51 : kFf "DynamicNeedsModel" 51 5 18 (.array (.int)) := ⟨R_M, T_M, 34, t_M, rfl, fun w h => kT_in (i_M w h), t_M_ok, n_M, by decide, kT_in (by decide +kernel), rfl, by decide +kernel, rfl⟩
theorem ff_M_54 : kFf "DynamicNeedsModel" 54 5 19 (.array (.int)) := ⟨R_M, T_M, 34, t_M, rfl, fun w h => kT_in (i_M w h), t_M_ok, n_M, by decide, kT_in (by decide +kernel), rfl, by decide +kernel, rfl⟩
theorem ff_M_57 : kFf "DynamicNeedsModel" 57 5 20 (.array (.boolean)) := ⟨R_M, T_M, 34, t_M, rfl, fun w h => kT_in (i_M w h), t_M_ok, n_M, by decide, kT_in (by decide +kernel), rfl, by decide +kernel, rfl⟩
theorem ff_M_60 : kFf "DynamicNeedsModel" 60 5 21 (.array (.boolean)) := ⟨R_M, T_M, 34, t_M, rfl, fun w h => kT_in (i_M w h), t_M_ok, n_M, by decide, kT_in (by decide +kernel), rfl, by decide +kernel, rfl⟩
theorem ff_M_63 : kFf "DynamicNeedsModel" 63 5 22 (.array (.boolean)) := ⟨R_M, T_M, 34, t_M, rfl, fun w h => kT_in (i_M w h), t_M_ok, n_M, by decide, kT_in (by decide +kernel), rfl, by decide +kernel, rfl⟩
theorem ff_M_66 : kFf "DynamicNeedsModel" 66 5 23 (.array (.long)) := ⟨R_M, T_M, 34, t_M, rfl, fun w h => kT_in (i_M w h), t_M_ok, n_M, by decide, kT_in (by decide +kernel), rfl, by decide +kernel, rfl⟩
theorem ff_M_69 : kFf "DynamicNeedsModel" 69 5 24 (.array (.int)) := ⟨R_M, T_M, 34, t_M, rfl, fun w h => kT_in (i_M w h), t_M_ok, n_M, by decide, kT_in (by decide +kernel), rfl, by decide +kernel, rfl⟩
theorem ff_M_72 : kFf "DynamicNeedsModel" 72 5 25 (.array (.int)) := ⟨R_M, T_M, 34, t_M, rfl, fun w h => kT_in (i_M w h), t_M_ok, n_M, by decide, kT_in (by decide +kernel), rfl, by decide +kernel, rfl⟩
theorem ff_M_75 : kFf "DynamicNeedsModel" 75 5 27 (.array (.int)) := ⟨R_M, T_M, 34, t_M, rfl, fun w h => kT_in (i_M w h), t_M_ok, n_M, by decide, kT_in (by decide +kernel), rfl, by decide +kernel, rfl⟩
theorem ff_M_78 : kFf "DynamicNeedsModel" 78 5 28 (.array (.int)) := ⟨R_M, T_M, 34, t_M, rfl, fun w h => kT_in (i_M w h), t_M_ok, n_M, by decide, kT_in (by decide +kernel), rfl, by decide +kernel, rfl⟩
theorem ff_M_81 : kFf "DynamicNeedsModel" 81 5 29 (.array (.long)) := ⟨R_M, T_M, 34, t_M, rfl, fun w h => kT_in (i_M w h), t_M_ok, n_M, by decide, kT_in (by decide +kernel), rfl, by decide +kernel, rfl⟩
theorem ff_M_84 : kFf "DynamicNeedsModel" 84 5 30 (.array (.long)) := ⟨R_M, T_M, 34, t_M, rfl, fun w h => kT_in (i_M w h), t_M_ok, n_M, by decide, kT_in (by decide +kernel), rfl, by decide +kernel, rfl⟩
theorem ff_M_87 : kFf "DynamicNeedsModel" 87 5 31 (.array (.long)) := ⟨R_M, T_M, 34, t_M, rfl, fun w h => kT_in (i_M w h), t_M_ok, n_M, by decide, kT_in (by decide +kernel), rfl, by decide +kernel, rfl⟩
theorem ff_M_90 : kFf "DynamicNeedsModel" 90 5 0 (.int) := ⟨R_M, T_M, 34, t_M, rfl, fun w h => kT_in (i_M w h), t_M_ok, n_M, by decide, kT_in (by decide +kernel), rfl, by decide +kernel, rfl⟩
theorem kc_F_init : Cond.code y_F_init b_F_init 1 none ∈ kT := kT_in ⟨List.mem_of_getElem? (i := 56) (by decide +kernel), by decide +kernel⟩
theorem ki_F_init : Cond.instanceMethod y_F_init ∈ kT := kT_in (by decide +kernel)
theorem kn_F_init : Cond.initialized y_F_init.cls ∈ kT := kT_in (by decide +kernel)
theorem kc_G_init : Cond.code y_G_init b_G_init 1 none ∈ kT := kT_in ⟨List.mem_of_getElem? (i := 162) (by decide +kernel), by decide +kernel⟩
theorem ki_G_init : Cond.instanceMethod y_G_init ∈ kT := kT_in (by decide +kernel)
theorem kn_G_init : Cond.initialized y_G_init.cls ∈ kT := kT_in (by decide +kernel)
theorem kc_N_init : Cond.code y_N_init b_N_init 1 none ∈ kT := kT_in ⟨List.mem_of_getElem? (i := 83) (by decide +kernel), by decide +kernel⟩
theorem ki_N_init : Cond.instanceMethod y_N_init ∈ kT := kT_in (by decide +kernel)
theorem kn_N_init : Cond.initialized y_N_init.cls ∈ kT := kT_in (by decide +kernel)
theorem kc_A_init : Cond.code y_A_init b_A_init 1 none ∈ kT := kT_in ⟨List.mem_of_getElem? (i := 77) (by decide +kernel), by decide +kernel⟩
theorem ki_A_init : Cond.instanceMethod y_A_init ∈ kT := kT_in (by decide +kernel)
theorem kn_A_init : Cond.initialized y_A_init.cls ∈ kT := kT_in (by decide +kernel)
set_option maxHeartbeats 4000000 in
set_option maxRecDepth 100000 in
theorem c_F_init (l : Launch) (D : va_G) (dA : Nat → ClassId) (sz h0 : Nat) : rMet l D dA y_F_init b_F_init 1 1 12 0 0 sz h0 (.inr (1, [.int 0, .long 0, .int 0])) [] (fun ws => ws = [(h0, .inr (1, [.int 0, .long 0, .int (-1)]))]) := by
  refine r_enter (by decide) rfl [some (.inr (.inr (0, h0)))] rfl rfl (Nat.le_of_ble_eq_true rfl) (fun x X => ?_)
  have C := X.1
  refine k_aload_n C d_F_init_0 rfl rfl ?_
  refine r_obj C d_F_init_1 ol_F ob_i ob_c X.2.2.2.2.1 (by rw [X.2.2.2.1]; decide) (by rw [X.2.2.2.1]; exact Nat.le_of_ble_eq_true rfl) ?_
  refine k_aload_n C d_F_init_4 rfl rfl ?_
  refine k_iconst C (v := 0) d_F_init_5 (by decide) ?_
  refine r_put (ws' := [(h0, .inr (1, [.int 0, .long 0, .int 0]))]) C X.2.1.1 0 d_F_init_6 fp_F_9 rfl rfl rfl (Nat.le_of_ble_eq_true rfl) rfl ?_
  refine k_aload_n C d_F_init_9 rfl rfl ?_
  refine k_lconst C (v := 0) d_F_init_10 (by decide) ?_
  refine r_put (ws' := [(h0, .inr (1, [.int 0, .long 0, .int 0]))]) C X.2.1.1 0 d_F_init_11 fp_F_15 rfl rfl rfl (Nat.le_of_ble_eq_true rfl) rfl ?_
  refine k_aload_n C d_F_init_14 rfl rfl ?_
  refine k_iconst C (v := (-1)) d_F_init_15 (by decide) ?_
  refine r_put (ws' := [(h0, .inr (1, [.int 0, .long 0, .int (-1)]))]) C X.2.1.1 0 d_F_init_16 fp_F_19 rfl rfl rfl (Nat.le_of_ble_eq_true rfl) rfl ?_
  exact r_vret X ⟨by decide, by decide⟩ d_F_init_19 rfl
set_option maxHeartbeats 4000000 in
set_option maxRecDepth 100000 in
theorem c_G_init (l : Launch) (D : va_G) (dA : Nat → ClassId) (sz h0 : Nat) : rMet l D dA y_G_init b_G_init 1 1 12 0 0 sz h0 (.inr (2, [.int 0, .long 0, .long 0, .int 0])) [] (fun ws => ws = [(h0, .inr (2, [.int 0, .long 0, .long 0, .int 0]))]) := by
  refine r_enter (by decide) rfl [some (.inr (.inr (0, h0)))] rfl rfl (Nat.le_of_ble_eq_true rfl) (fun x X => ?_)
  have C := X.1
  refine k_aload_n C d_G_init_0 rfl rfl ?_
  refine r_obj C d_G_init_1 ol_G ob_i ob_c X.2.2.2.2.1 (by rw [X.2.2.2.1]; decide) (by rw [X.2.2.2.1]; exact Nat.le_of_ble_eq_true rfl) ?_
  refine k_aload_n C d_G_init_4 rfl rfl ?_
  refine k_iconst C (v := 0) d_G_init_5 (by decide) ?_
  refine r_put (ws' := [(h0, .inr (2, [.int 0, .long 0, .long 0, .int 0]))]) C X.2.1.1 0 d_G_init_6 fp_G_9 rfl rfl rfl (Nat.le_of_ble_eq_true rfl) rfl ?_
  refine k_aload_n C d_G_init_9 rfl rfl ?_
  refine k_lconst C (v := 0) d_G_init_10 (by decide) ?_
  refine r_put (ws' := [(h0, .inr (2, [.int 0, .long 0, .long 0, .int 0]))]) C X.2.1.1 0 d_G_init_11 fp_G_15 rfl rfl rfl (Nat.le_of_ble_eq_true rfl) rfl ?_
  refine k_aload_n C d_G_init_14 rfl rfl ?_
  refine k_lconst C (v := 0) d_G_init_15 (by decide) ?_
  refine r_put (ws' := [(h0, .inr (2, [.int 0, .long 0, .long 0, .int 0]))]) C X.2.1.1 0 d_G_init_16 fp_G_19 rfl rfl rfl (Nat.le_of_ble_eq_true rfl) rfl ?_
  refine k_aload_n C d_G_init_19 rfl rfl ?_
  refine k_iconst C (v := 0) d_G_init_20 (by decide) ?_
  refine r_put (ws' := [(h0, .inr (2, [.int 0, .long 0, .long 0, .int 0]))]) C X.2.1.1 0 d_G_init_21 fp_G_22 rfl rfl rfl (Nat.le_of_ble_eq_true rfl) rfl ?_
  exact r_vret X ⟨by decide, by decide⟩ d_G_init_24 rfl
set_option maxHeartbeats 4000000 in
set_option maxRecDepth 100000 in
theorem c_N_init (l : Launch) (D : va_G) (dA : Nat → ClassId) (sz h0 : Nat) : rMet l D dA y_N_init b_N_init 1 1 12 4 48 sz h0 (.inr (3, [.null, .null, .null, .null, .int 0])) [] (fun ws => ∃ q1 q2 q3 q4 : Nat, ws = [(h0, .inr (3, [.ref q1, .ref q2, .ref q3, .ref q4, .int 0])), (q1, .inl (dA 0, 12, .inl (fun _ => 0))), (q2, .inl (dA 1, 12, .inl (fun _ => 0))), (q3, .inl (dA 1, 12, .inl (fun _ => 0))), (q4, .inl (dA 2, 12, .inr (.inl (fun _ => 0))))]) := by
  refine r_enter (by decide) rfl [some (.inr (.inr (0, h0)))] rfl rfl (Nat.le_of_ble_eq_true rfl) (fun x X => ?_)
  have C := X.1
  refine k_aload_n C d_N_init_0 rfl rfl ?_
  refine r_obj C d_N_init_1 ol_N ob_i ob_c X.2.2.2.2.1 (by rw [X.2.2.2.1]; decide) (by rw [X.2.2.2.1]; exact Nat.le_of_ble_eq_true rfl) ?_
  refine k_aload_n C d_N_init_4 rfl rfl ?_
  refine k_bipush C (v := 12) d_N_init_5 (by decide) ?_
  refine r_newa (a0 := (12, .inl (fun _ => 0))) X (fun q h => Or.inr h) 0 d_N_init_7 ac_i rfl rfl ru_i (fun _ => rfl) (by decide) (by decide) (by decide) (by decide) (by decide) (fun q1 => ?_)
  refine r_putF (ws' := [(h0, .inr (3, [.ref q1, .null, .null, .null, .int 0])), (q1, .inl (dA 0, 12, .inl (fun _ => 0)))]) C X.2.1.1 X.2.2.2.2.2.2.2.1 0 d_N_init_9 ff_N_9 rfl rfl rfl (Nat.le_of_ble_eq_true rfl) rfl ?_
  refine k_aload_n C d_N_init_12 rfl rfl ?_
  refine k_bipush C (v := 12) d_N_init_13 (by decide) ?_
  refine r_newa (a0 := (12, .inl (fun _ => 0))) X (fun q h => Or.inr h) 1 d_N_init_15 ac_z rfl rfl ru_z (fun _ => rfl) (by decide) (by decide) (by decide) (by decide) (by decide) (fun q2 => ?_)
  refine r_putF (ws' := [(h0, .inr (3, [.ref q1, .ref q2, .null, .null, .int 0])), (q1, .inl (dA 0, 12, .inl (fun _ => 0))), (q2, .inl (dA 1, 12, .inl (fun _ => 0)))]) C X.2.1.1 X.2.2.2.2.2.2.2.1 0 d_N_init_17 ff_N_15 rfl rfl rfl (Nat.le_of_ble_eq_true rfl) rfl ?_
  refine k_aload_n C d_N_init_20 rfl rfl ?_
  refine k_bipush C (v := 12) d_N_init_21 (by decide) ?_
  refine r_newa (a0 := (12, .inl (fun _ => 0))) X (fun q h => Or.inr h) 1 d_N_init_23 ac_z rfl rfl ru_z (fun _ => rfl) (by decide) (by decide) (by decide) (by decide) (by decide) (fun q3 => ?_)
  refine r_putF (ws' := [(h0, .inr (3, [.ref q1, .ref q2, .ref q3, .null, .int 0])), (q1, .inl (dA 0, 12, .inl (fun _ => 0))), (q2, .inl (dA 1, 12, .inl (fun _ => 0))), (q3, .inl (dA 1, 12, .inl (fun _ => 0)))]) C X.2.1.1 X.2.2.2.2.2.2.2.1 0 d_N_init_25 ff_N_19 rfl rfl rfl (Nat.le_of_ble_eq_true rfl) rfl ?_
  refine k_aload_n C d_N_init_28 rfl rfl ?_
  refine k_bipush C (v := 12) d_N_init_29 (by decide) ?_
  refine r_newa (a0 := (12, .inr (.inl (fun _ => 0)))) X (fun q h => Or.inr h) 2 d_N_init_31 ac_j rfl rfl ru_j (fun _ => rfl) (by decide) (by decide) (by decide) (by decide) (by decide) (fun q4 => ?_)
  refine r_putF (ws' := [(h0, .inr (3, [.ref q1, .ref q2, .ref q3, .ref q4, .int 0])), (q1, .inl (dA 0, 12, .inl (fun _ => 0))), (q2, .inl (dA 1, 12, .inl (fun _ => 0))), (q3, .inl (dA 1, 12, .inl (fun _ => 0))), (q4, .inl (dA 2, 12, .inr (.inl (fun _ => 0))))]) C X.2.1.1 X.2.2.2.2.2.2.2.1 0 d_N_init_33 ff_N_22 rfl rfl rfl (Nat.le_of_ble_eq_true rfl) rfl ?_
  refine k_aload_n C d_N_init_36 rfl rfl ?_
  refine k_iconst C (v := 0) d_N_init_37 (by decide) ?_
  refine r_put (ws' := [(h0, .inr (3, [.ref q1, .ref q2, .ref q3, .ref q4, .int 0])), (q1, .inl (dA 0, 12, .inl (fun _ => 0))), (q2, .inl (dA 1, 12, .inl (fun _ => 0))), (q3, .inl (dA 1, 12, .inl (fun _ => 0))), (q4, .inl (dA 2, 12, .inr (.inl (fun _ => 0))))]) C X.2.1.1 0 d_N_init_38 fp_N_26 rfl rfl rfl (Nat.le_of_ble_eq_true rfl) rfl ?_
  exact r_vret X ⟨by decide, by decide⟩ d_N_init_41 ⟨q1, q2, q3, q4, rfl⟩
set_option maxHeartbeats 4000000 in
set_option maxRecDepth 100000 in
theorem c_A_init (l : Launch) (D : va_G) (dA : Nat → ClassId) (sz h0 : Nat) : rMet l D dA y_A_init b_A_init 1 2 32 7 77 sz h0 (.inr (0, [.null, .null, .int 0, .int 0, .int 0, .null, .int 0, .int 0, .long 0, .int 0, .int 0, .int 0, .int 0])) [] (fun ws => ∃ q1 q2 q3 q1_40 q2_40 q3_40 q4_40 : Nat, ws = [(h0, .inr (0, [.ref q1, .ref q2, .int 0, .int 0, .int (-1), .ref q3, .int 0, .int 0, .long 0, .int (-1), .int 0, .int 0, .int 0])), (q1, .inl (dA 0, 12, .inl (fun _ => 0))), (q2, .inl (dA 0, 12, .inl (fun _ => 0))), (q3, .inr (3, [.ref q1_40, .ref q2_40, .ref q3_40, .ref q4_40, .int 0])), (q1_40, .inl (dA 0, 12, .inl (fun _ => 0))), (q2_40, .inl (dA 1, 12, .inl (fun _ => 0))), (q3_40, .inl (dA 1, 12, .inl (fun _ => 0))), (q4_40, .inl (dA 2, 12, .inr (.inl (fun _ => 0))))]) := by
  refine r_enter (by decide) rfl [some (.inr (.inr (0, h0)))] rfl rfl (Nat.le_of_ble_eq_true rfl) (fun x X => ?_)
  have C := X.1
  refine k_aload_n C d_A_init_0 rfl rfl ?_
  refine r_obj C d_A_init_1 ol_A ob_i ob_c X.2.2.2.2.1 (by rw [X.2.2.2.1]; decide) (by rw [X.2.2.2.1]; exact Nat.le_of_ble_eq_true rfl) ?_
  refine k_aload_n C d_A_init_4 rfl rfl ?_
  refine k_bipush C (v := 12) d_A_init_5 (by decide) ?_
  refine r_newa (a0 := (12, .inl (fun _ => 0))) X (fun q h => Or.inr h) 0 d_A_init_7 ac_i rfl rfl ru_i (fun _ => rfl) (by decide) (by decide) (by decide) (by decide) (by decide) (fun q1 => ?_)
  refine r_putF (ws' := [(h0, .inr (0, [.ref q1, .null, .int 0, .int 0, .int 0, .null, .int 0, .int 0, .long 0, .int 0, .int 0, .int 0, .int 0])), (q1, .inl (dA 0, 12, .inl (fun _ => 0)))]) C X.2.1.1 X.2.2.2.2.2.2.2.1 0 d_A_init_9 ff_A_9 rfl rfl rfl (Nat.le_of_ble_eq_true rfl) rfl ?_
  refine k_aload_n C d_A_init_12 rfl rfl ?_
  refine k_bipush C (v := 12) d_A_init_13 (by decide) ?_
  refine r_newa (a0 := (12, .inl (fun _ => 0))) X (fun q h => Or.inr h) 0 d_A_init_15 ac_i rfl rfl ru_i (fun _ => rfl) (by decide) (by decide) (by decide) (by decide) (by decide) (fun q2 => ?_)
  refine r_putF (ws' := [(h0, .inr (0, [.ref q1, .ref q2, .int 0, .int 0, .int 0, .null, .int 0, .int 0, .long 0, .int 0, .int 0, .int 0, .int 0])), (q1, .inl (dA 0, 12, .inl (fun _ => 0))), (q2, .inl (dA 0, 12, .inl (fun _ => 0)))]) C X.2.1.1 X.2.2.2.2.2.2.2.1 0 d_A_init_17 ff_A_15 rfl rfl rfl (Nat.le_of_ble_eq_true rfl) rfl ?_
  refine k_aload_n C d_A_init_20 rfl rfl ?_
  refine k_iconst C (v := 0) d_A_init_21 (by decide) ?_
  refine r_put (ws' := [(h0, .inr (0, [.ref q1, .ref q2, .int 0, .int 0, .int 0, .null, .int 0, .int 0, .long 0, .int 0, .int 0, .int 0, .int 0])), (q1, .inl (dA 0, 12, .inl (fun _ => 0))), (q2, .inl (dA 0, 12, .inl (fun _ => 0)))]) C X.2.1.1 0 d_A_init_22 fp_A_18 rfl rfl rfl (Nat.le_of_ble_eq_true rfl) rfl ?_
  refine k_aload_n C d_A_init_25 rfl rfl ?_
  refine k_iconst C (v := 0) d_A_init_26 (by decide) ?_
  refine r_put (ws' := [(h0, .inr (0, [.ref q1, .ref q2, .int 0, .int 0, .int 0, .null, .int 0, .int 0, .long 0, .int 0, .int 0, .int 0, .int 0])), (q1, .inl (dA 0, 12, .inl (fun _ => 0))), (q2, .inl (dA 0, 12, .inl (fun _ => 0)))]) C X.2.1.1 0 d_A_init_27 fp_A_22 rfl rfl rfl (Nat.le_of_ble_eq_true rfl) rfl ?_
  refine k_aload_n C d_A_init_30 rfl rfl ?_
  refine k_iconst C (v := (-1)) d_A_init_31 (by decide) ?_
  refine r_put (ws' := [(h0, .inr (0, [.ref q1, .ref q2, .int 0, .int 0, .int (-1), .null, .int 0, .int 0, .long 0, .int 0, .int 0, .int 0, .int 0])), (q1, .inl (dA 0, 12, .inl (fun _ => 0))), (q2, .inl (dA 0, 12, .inl (fun _ => 0)))]) C X.2.1.1 0 d_A_init_32 fp_A_25 rfl rfl rfl (Nat.le_of_ble_eq_true rfl) rfl ?_
  refine k_aload_n C d_A_init_35 rfl rfl ?_
  refine r_new C X.2.1.1 (fun q h => Or.inr (by rw [← X.2.2.2.2.2.2.2.2]; exact h)) d_A_init_36 nw_A_28 (by rw [X.2.2.2.1]; decide) (by rw [X.2.2.2.1]; decide) (fun q3 => ?_)
  refine k_dup C d_A_init_39 rfl ?_
  refine r_callN (wr := [(h0, .inr (0, [.ref q1, .ref q2, .int 0, .int 0, .int (-1), .null, .int 0, .int 0, .long 0, .int 0, .int 0, .int 0, .int 0])), (q1, .inl (dA 0, 12, .inl (fun _ => 0))), (q2, .inl (dA 0, 12, .inl (fun _ => 0)))]) X (fun q h => Or.inr h) d_A_init_40 (fun sz2 => c_N_init l D dA sz2 q3) X.2.1.2.2.2.2.1 kc_N_init ki_N_init kn_N_init rfl (by decide +kernel) ⟨by decide, by decide⟩ ⟨by decide, by decide⟩ rfl rfl (Nat.le_of_ble_eq_true rfl) (fun w1 hw1 => ?_)
  obtain ⟨q1_40, q2_40, q3_40, q4_40, rfl⟩ := hw1
  refine r_putF (ws' := [(h0, .inr (0, [.ref q1, .ref q2, .int 0, .int 0, .int (-1), .ref q3, .int 0, .int 0, .long 0, .int 0, .int 0, .int 0, .int 0])), (q1, .inl (dA 0, 12, .inl (fun _ => 0))), (q2, .inl (dA 0, 12, .inl (fun _ => 0))), (q3, .inr (3, [.ref q1_40, .ref q2_40, .ref q3_40, .ref q4_40, .int 0])), (q1_40, .inl (dA 0, 12, .inl (fun _ => 0))), (q2_40, .inl (dA 1, 12, .inl (fun _ => 0))), (q3_40, .inl (dA 1, 12, .inl (fun _ => 0))), (q4_40, .inl (dA 2, 12, .inr (.inl (fun _ => 0))))]) C X.2.1.1 X.2.2.2.2.2.2.2.1 0 d_A_init_43 ff_A_31 rfl rfl rfl (Nat.le_of_ble_eq_true rfl) rfl ?_
  refine k_aload_n C d_A_init_46 rfl rfl ?_
  refine k_iconst C (v := 0) d_A_init_47 (by decide) ?_
  refine r_put (ws' := [(h0, .inr (0, [.ref q1, .ref q2, .int 0, .int 0, .int (-1), .ref q3, .int 0, .int 0, .long 0, .int 0, .int 0, .int 0, .int 0])), (q1, .inl (dA 0, 12, .inl (fun _ => 0))), (q2, .inl (dA 0, 12, .inl (fun _ => 0))), (q3, .inr (3, [.ref q1_40, .ref q2_40, .ref q3_40, .ref q4_40, .int 0])), (q1_40, .inl (dA 0, 12, .inl (fun _ => 0))), (q2_40, .inl (dA 1, 12, .inl (fun _ => 0))), (q3_40, .inl (dA 1, 12, .inl (fun _ => 0))), (q4_40, .inl (dA 2, 12, .inr (.inl (fun _ => 0))))]) C X.2.1.1 0 d_A_init_48 fp_A_35 rfl rfl rfl (Nat.le_of_ble_eq_true rfl) rfl ?_
  refine k_aload_n C d_A_init_51 rfl rfl ?_
  refine k_iconst C (v := 0) d_A_init_52 (by decide) ?_
  refine r_put (ws' := [(h0, .inr (0, [.ref q1, .ref q2, .int 0, .int 0, .int (-1), .ref q3, .int 0, .int 0, .long 0, .int 0, .int 0, .int 0, .int 0])), (q1, .inl (dA 0, 12, .inl (fun _ => 0))), (q2, .inl (dA 0, 12, .inl (fun _ => 0))), (q3, .inr (3, [.ref q1_40, .ref q2_40, .ref q3_40, .ref q4_40, .int 0])), (q1_40, .inl (dA 0, 12, .inl (fun _ => 0))), (q2_40, .inl (dA 1, 12, .inl (fun _ => 0))), (q3_40, .inl (dA 1, 12, .inl (fun _ => 0))), (q4_40, .inl (dA 2, 12, .inr (.inl (fun _ => 0))))]) C X.2.1.1 0 d_A_init_53 fp_A_39 rfl rfl rfl (Nat.le_of_ble_eq_true rfl) rfl ?_
  refine k_aload_n C d_A_init_56 rfl rfl ?_
  refine k_lconst C (v := 0) d_A_init_57 (by decide) ?_
  refine r_put (ws' := [(h0, .inr (0, [.ref q1, .ref q2, .int 0, .int 0, .int (-1), .ref q3, .int 0, .int 0, .long 0, .int 0, .int 0, .int 0, .int 0])), (q1, .inl (dA 0, 12, .inl (fun _ => 0))), (q2, .inl (dA 0, 12, .inl (fun _ => 0))), (q3, .inr (3, [.ref q1_40, .ref q2_40, .ref q3_40, .ref q4_40, .int 0])), (q1_40, .inl (dA 0, 12, .inl (fun _ => 0))), (q2_40, .inl (dA 1, 12, .inl (fun _ => 0))), (q3_40, .inl (dA 1, 12, .inl (fun _ => 0))), (q4_40, .inl (dA 2, 12, .inr (.inl (fun _ => 0))))]) C X.2.1.1 0 d_A_init_58 fp_A_42 rfl rfl rfl (Nat.le_of_ble_eq_true rfl) rfl ?_
  refine k_aload_n C d_A_init_61 rfl rfl ?_
  refine k_iconst C (v := (-1)) d_A_init_62 (by decide) ?_
  refine r_put (ws' := [(h0, .inr (0, [.ref q1, .ref q2, .int 0, .int 0, .int (-1), .ref q3, .int 0, .int 0, .long 0, .int (-1), .int 0, .int 0, .int 0])), (q1, .inl (dA 0, 12, .inl (fun _ => 0))), (q2, .inl (dA 0, 12, .inl (fun _ => 0))), (q3, .inr (3, [.ref q1_40, .ref q2_40, .ref q3_40, .ref q4_40, .int 0])), (q1_40, .inl (dA 0, 12, .inl (fun _ => 0))), (q2_40, .inl (dA 1, 12, .inl (fun _ => 0))), (q3_40, .inl (dA 1, 12, .inl (fun _ => 0))), (q4_40, .inl (dA 2, 12, .inr (.inl (fun _ => 0))))]) C X.2.1.1 0 d_A_init_63 fp_A_46 rfl rfl rfl (Nat.le_of_ble_eq_true rfl) rfl ?_
  refine k_aload_n C d_A_init_66 rfl rfl ?_
  refine k_iconst C (v := 0) d_A_init_67 (by decide) ?_
  refine r_put (ws' := [(h0, .inr (0, [.ref q1, .ref q2, .int 0, .int 0, .int (-1), .ref q3, .int 0, .int 0, .long 0, .int (-1), .int 0, .int 0, .int 0])), (q1, .inl (dA 0, 12, .inl (fun _ => 0))), (q2, .inl (dA 0, 12, .inl (fun _ => 0))), (q3, .inr (3, [.ref q1_40, .ref q2_40, .ref q3_40, .ref q4_40, .int 0])), (q1_40, .inl (dA 0, 12, .inl (fun _ => 0))), (q2_40, .inl (dA 1, 12, .inl (fun _ => 0))), (q3_40, .inl (dA 1, 12, .inl (fun _ => 0))), (q4_40, .inl (dA 2, 12, .inr (.inl (fun _ => 0))))]) C X.2.1.1 0 d_A_init_68 fp_A_49 rfl rfl rfl (Nat.le_of_ble_eq_true rfl) rfl ?_
  refine k_aload_n C d_A_init_71 rfl rfl ?_
  refine k_iconst C (v := 0) d_A_init_72 (by decide) ?_
  refine r_put (ws' := [(h0, .inr (0, [.ref q1, .ref q2, .int 0, .int 0, .int (-1), .ref q3, .int 0, .int 0, .long 0, .int (-1), .int 0, .int 0, .int 0])), (q1, .inl (dA 0, 12, .inl (fun _ => 0))), (q2, .inl (dA 0, 12, .inl (fun _ => 0))), (q3, .inr (3, [.ref q1_40, .ref q2_40, .ref q3_40, .ref q4_40, .int 0])), (q1_40, .inl (dA 0, 12, .inl (fun _ => 0))), (q2_40, .inl (dA 1, 12, .inl (fun _ => 0))), (q3_40, .inl (dA 1, 12, .inl (fun _ => 0))), (q4_40, .inl (dA 2, 12, .inr (.inl (fun _ => 0))))]) C X.2.1.1 0 d_A_init_73 fp_A_52 rfl rfl rfl (Nat.le_of_ble_eq_true rfl) rfl ?_
  refine k_aload_n C d_A_init_76 rfl rfl ?_
  refine k_iconst C (v := 0) d_A_init_77 (by decide) ?_
  refine r_put (ws' := [(h0, .inr (0, [.ref q1, .ref q2, .int 0, .int 0, .int (-1), .ref q3, .int 0, .int 0, .long 0, .int (-1), .int 0, .int 0, .int 0])), (q1, .inl (dA 0, 12, .inl (fun _ => 0))), (q2, .inl (dA 0, 12, .inl (fun _ => 0))), (q3, .inr (3, [.ref q1_40, .ref q2_40, .ref q3_40, .ref q4_40, .int 0])), (q1_40, .inl (dA 0, 12, .inl (fun _ => 0))), (q2_40, .inl (dA 1, 12, .inl (fun _ => 0))), (q3_40, .inl (dA 1, 12, .inl (fun _ => 0))), (q4_40, .inl (dA 2, 12, .inr (.inl (fun _ => 0))))]) C X.2.1.1 0 d_A_init_78 fp_A_55 rfl rfl rfl (Nat.le_of_ble_eq_true rfl) rfl ?_
  exact r_vret X ⟨by decide, by decide⟩ d_A_init_81 ⟨q1, q2, q3, q1_40, q2_40, q3_40, q4_40, rfl⟩
def mTm (a : Int32) : Int32 := if 1 ≤ a then (if a ≤ 9 then a else 9) else 1
set_option maxHeartbeats 4000000 in
set_option maxRecDepth 100000 in
theorem c_M_init (l : Launch) (D : va_G) (dA : Nat → ClassId) (sz h0 : Nat) (a0 : Int32) : rMet l D dA y_M_init b_M_init 2 1 12 26 1722 sz h0 (.inr (5, [.int 0, .int 0, .int 0, .int 0, .int 0, .null, .null, .null, .null, .null, .null, .null, .null, .null, .null, .null, .null, .null, .null, .null, .null, .null, .null, .null, .null, .null, .int 0, .null, .null, .null, .null, .null, .long 0, .long 0])) [.inl a0] (fun ws => ∃ q1 q2 q3 q4 q5 q6 q7 q8 q9 q10 q11 q12 q13 q14 q15 q16 q17 q18 q19 q20 q21 q22 q23 q24 q25 q26 : Nat, ws = [(h0, .inr (5, [.int (mTm a0), .int 0, .int 0, .int 0, .int 0, .ref q1, .ref q2, .ref q3, .ref q4, .ref q5, .ref q6, .ref q7, .ref q8, .ref q9, .ref q10, .ref q11, .ref q12, .ref q13, .ref q14, .ref q15, .ref q16, .ref q17, .ref q18, .ref q19, .ref q20, .ref q21, .int 0, .ref q22, .ref q23, .ref q24, .ref q25, .ref q26, .long 0, .long 0])), (q1, .inl (dA 1, 24, .inl (fun _ => 0))), (q2, .inl (dA 2, 24, .inr (.inl (fun _ => 0)))), (q3, .inl (dA 0, 24, .inl (fun _ => 0))), (q4, .inl (dA 0, 12, .inl (fun _ => 0))), (q5, .inl (dA 0, 12, .inl (fun _ => 0))), (q6, .inl (dA 0, 12, .inl (fun _ => 0))), (q7, .inl (dA 0, 144, .inl (fun _ => 0))), (q8, .inl (dA 0, 144, .inl (fun _ => 0))), (q9, .inl (dA 0, 12, .inl (fun _ => 0))), (q10, .inl (dA 0, 12, .inl (fun _ => 0))), (q11, .inl (dA 0, 288, .inl (fun _ => 0))), (q12, .inl (dA 0, 12, .inl (fun _ => 0))), (q13, .inl (dA 0, 12, .inl (fun _ => 0))), (q14, .inl (dA 0, 12, .inl (fun _ => 0))), (q15, .inl (dA 0, 12, .inl (fun _ => 0))), (q16, .inl (dA 1, 288, .inl (fun _ => 0))), (q17, .inl (dA 1, 288, .inl (fun _ => 0))), (q18, .inl (dA 1, 12, .inl (fun _ => 0))), (q19, .inl (dA 2, 288, .inr (.inl (fun _ => 0)))), (q20, .inl (dA 0, 12, .inl (fun _ => 0))), (q21, .inl (dA 0, 12, .inl (fun _ => 0))), (q22, .inl (dA 0, 6, .inl (fun _ => 0))), (q23, .inl (dA 0, 6, .inl (fun _ => 0))), (q24, .inl (dA 2, 6, .inr (.inl (fun _ => 0)))), (q25, .inl (dA 2, 24, .inr (.inl (fun _ => 0)))), (q26, .inl (dA 2, 24, .inr (.inl (fun _ => 0))))]) := by
  refine r_enter (by decide) rfl [some (.inr (.inr (0, h0))), some (.inl a0)] rfl rfl (Nat.le_of_ble_eq_true rfl) (fun x X => ?_)
  have C := X.1
  refine k_aload_n C d_M_init_0 rfl rfl ?_
  refine r_obj C d_M_init_1 ol_M ob_i ob_c X.2.2.2.2.1 (by rw [X.2.2.2.1]; decide) (by rw [X.2.2.2.1]; exact Nat.le_of_ble_eq_true rfl) ?_
  refine k_aload_n C d_M_init_4 rfl rfl ?_
  refine k_bipush C (v := 24) d_M_init_5 (by decide) ?_
  refine r_newa (a0 := (24, .inl (fun _ => 0))) X (fun q h => Or.inr h) 1 d_M_init_7 ac_z rfl rfl ru_z (fun _ => rfl) (by decide) (by decide) (by decide) (by decide) (by decide) (fun q1 => ?_)
  refine r_putF (ws' := [(h0, .inr (5, [.int 0, .int 0, .int 0, .int 0, .int 0, .ref q1, .null, .null, .null, .null, .null, .null, .null, .null, .null, .null, .null, .null, .null, .null, .null, .null, .null, .null, .null, .null, .int 0, .null, .null, .null, .null, .null, .long 0, .long 0])), (q1, .inl (dA 1, 24, .inl (fun _ => 0)))]) C X.2.1.1 X.2.2.2.2.2.2.2.1 0 d_M_init_9 ff_M_7 rfl rfl rfl (Nat.le_of_ble_eq_true rfl) rfl ?_
  refine k_aload_n C d_M_init_12 rfl rfl ?_
  refine k_bipush C (v := 24) d_M_init_13 (by decide) ?_
  refine r_newa (a0 := (24, .inr (.inl (fun _ => 0)))) X (fun q h => Or.inr h) 2 d_M_init_15 ac_j rfl rfl ru_j (fun _ => rfl) (by decide) (by decide) (by decide) (by decide) (by decide) (fun q2 => ?_)
  refine r_putF (ws' := [(h0, .inr (5, [.int 0, .int 0, .int 0, .int 0, .int 0, .ref q1, .ref q2, .null, .null, .null, .null, .null, .null, .null, .null, .null, .null, .null, .null, .null, .null, .null, .null, .null, .null, .null, .int 0, .null, .null, .null, .null, .null, .long 0, .long 0])), (q1, .inl (dA 1, 24, .inl (fun _ => 0))), (q2, .inl (dA 2, 24, .inr (.inl (fun _ => 0))))]) C X.2.1.1 X.2.2.2.2.2.2.2.1 0 d_M_init_17 ff_M_13 rfl rfl rfl (Nat.le_of_ble_eq_true rfl) rfl ?_
  refine k_aload_n C d_M_init_20 rfl rfl ?_
  refine k_bipush C (v := 24) d_M_init_21 (by decide) ?_
  refine r_newa (a0 := (24, .inl (fun _ => 0))) X (fun q h => Or.inr h) 0 d_M_init_23 ac_i rfl rfl ru_i (fun _ => rfl) (by decide) (by decide) (by decide) (by decide) (by decide) (fun q3 => ?_)
  refine r_putF (ws' := [(h0, .inr (5, [.int 0, .int 0, .int 0, .int 0, .int 0, .ref q1, .ref q2, .ref q3, .null, .null, .null, .null, .null, .null, .null, .null, .null, .null, .null, .null, .null, .null, .null, .null, .null, .null, .int 0, .null, .null, .null, .null, .null, .long 0, .long 0])), (q1, .inl (dA 1, 24, .inl (fun _ => 0))), (q2, .inl (dA 2, 24, .inr (.inl (fun _ => 0)))), (q3, .inl (dA 0, 24, .inl (fun _ => 0)))]) C X.2.1.1 X.2.2.2.2.2.2.2.1 0 d_M_init_25 ff_M_17 rfl rfl rfl (Nat.le_of_ble_eq_true rfl) rfl ?_
  refine k_aload_n C d_M_init_28 rfl rfl ?_
  refine k_bipush C (v := 12) d_M_init_29 (by decide) ?_
  refine r_newa (a0 := (12, .inl (fun _ => 0))) X (fun q h => Or.inr h) 0 d_M_init_31 ac_i rfl rfl ru_i (fun _ => rfl) (by decide) (by decide) (by decide) (by decide) (by decide) (fun q4 => ?_)
  refine r_putF (ws' := [(h0, .inr (5, [.int 0, .int 0, .int 0, .int 0, .int 0, .ref q1, .ref q2, .ref q3, .ref q4, .null, .null, .null, .null, .null, .null, .null, .null, .null, .null, .null, .null, .null, .null, .null, .null, .null, .int 0, .null, .null, .null, .null, .null, .long 0, .long 0])), (q1, .inl (dA 1, 24, .inl (fun _ => 0))), (q2, .inl (dA 2, 24, .inr (.inl (fun _ => 0)))), (q3, .inl (dA 0, 24, .inl (fun _ => 0))), (q4, .inl (dA 0, 12, .inl (fun _ => 0)))]) C X.2.1.1 X.2.2.2.2.2.2.2.1 0 d_M_init_33 ff_M_21 rfl rfl rfl (Nat.le_of_ble_eq_true rfl) rfl ?_
  refine k_aload_n C d_M_init_36 rfl rfl ?_
  refine k_bipush C (v := 12) d_M_init_37 (by decide) ?_
  refine r_newa (a0 := (12, .inl (fun _ => 0))) X (fun q h => Or.inr h) 0 d_M_init_39 ac_i rfl rfl ru_i (fun _ => rfl) (by decide) (by decide) (by decide) (by decide) (by decide) (fun q5 => ?_)
  refine r_putF (ws' := [(h0, .inr (5, [.int 0, .int 0, .int 0, .int 0, .int 0, .ref q1, .ref q2, .ref q3, .ref q4, .ref q5, .null, .null, .null, .null, .null, .null, .null, .null, .null, .null, .null, .null, .null, .null, .null, .null, .int 0, .null, .null, .null, .null, .null, .long 0, .long 0])), (q1, .inl (dA 1, 24, .inl (fun _ => 0))), (q2, .inl (dA 2, 24, .inr (.inl (fun _ => 0)))), (q3, .inl (dA 0, 24, .inl (fun _ => 0))), (q4, .inl (dA 0, 12, .inl (fun _ => 0))), (q5, .inl (dA 0, 12, .inl (fun _ => 0)))]) C X.2.1.1 X.2.2.2.2.2.2.2.1 0 d_M_init_41 ff_M_24 rfl rfl rfl (Nat.le_of_ble_eq_true rfl) rfl ?_
  refine k_aload_n C d_M_init_44 rfl rfl ?_
  refine k_bipush C (v := 12) d_M_init_45 (by decide) ?_
  refine r_newa (a0 := (12, .inl (fun _ => 0))) X (fun q h => Or.inr h) 0 d_M_init_47 ac_i rfl rfl ru_i (fun _ => rfl) (by decide) (by decide) (by decide) (by decide) (by decide) (fun q6 => ?_)
  refine r_putF (ws' := [(h0, .inr (5, [.int 0, .int 0, .int 0, .int 0, .int 0, .ref q1, .ref q2, .ref q3, .ref q4, .ref q5, .ref q6, .null, .null, .null, .null, .null, .null, .null, .null, .null, .null, .null, .null, .null, .null, .null, .int 0, .null, .null, .null, .null, .null, .long 0, .long 0])), (q1, .inl (dA 1, 24, .inl (fun _ => 0))), (q2, .inl (dA 2, 24, .inr (.inl (fun _ => 0)))), (q3, .inl (dA 0, 24, .inl (fun _ => 0))), (q4, .inl (dA 0, 12, .inl (fun _ => 0))), (q5, .inl (dA 0, 12, .inl (fun _ => 0))), (q6, .inl (dA 0, 12, .inl (fun _ => 0)))]) C X.2.1.1 X.2.2.2.2.2.2.2.1 0 d_M_init_49 ff_M_27 rfl rfl rfl (Nat.le_of_ble_eq_true rfl) rfl ?_
  refine k_aload_n C d_M_init_52 rfl rfl ?_
  refine k_sipush C (v := 144) d_M_init_53 (by decide) ?_
  refine r_newa (a0 := (144, .inl (fun _ => 0))) X (fun q h => Or.inr h) 0 d_M_init_56 ac_i rfl rfl ru_i (fun _ => rfl) (by decide) (by decide) (by decide) (by decide) (by decide) (fun q7 => ?_)
  refine r_putF (ws' := [(h0, .inr (5, [.int 0, .int 0, .int 0, .int 0, .int 0, .ref q1, .ref q2, .ref q3, .ref q4, .ref q5, .ref q6, .ref q7, .null, .null, .null, .null, .null, .null, .null, .null, .null, .null, .null, .null, .null, .null, .int 0, .null, .null, .null, .null, .null, .long 0, .long 0])), (q1, .inl (dA 1, 24, .inl (fun _ => 0))), (q2, .inl (dA 2, 24, .inr (.inl (fun _ => 0)))), (q3, .inl (dA 0, 24, .inl (fun _ => 0))), (q4, .inl (dA 0, 12, .inl (fun _ => 0))), (q5, .inl (dA 0, 12, .inl (fun _ => 0))), (q6, .inl (dA 0, 12, .inl (fun _ => 0))), (q7, .inl (dA 0, 144, .inl (fun _ => 0)))]) C X.2.1.1 X.2.2.2.2.2.2.2.1 0 d_M_init_58 ff_M_30 rfl rfl rfl (Nat.le_of_ble_eq_true rfl) rfl ?_
  refine k_aload_n C d_M_init_61 rfl rfl ?_
  refine k_sipush C (v := 144) d_M_init_62 (by decide) ?_
  refine r_newa (a0 := (144, .inl (fun _ => 0))) X (fun q h => Or.inr h) 0 d_M_init_65 ac_i rfl rfl ru_i (fun _ => rfl) (by decide) (by decide) (by decide) (by decide) (by decide) (fun q8 => ?_)
  refine r_putF (ws' := [(h0, .inr (5, [.int 0, .int 0, .int 0, .int 0, .int 0, .ref q1, .ref q2, .ref q3, .ref q4, .ref q5, .ref q6, .ref q7, .ref q8, .null, .null, .null, .null, .null, .null, .null, .null, .null, .null, .null, .null, .null, .int 0, .null, .null, .null, .null, .null, .long 0, .long 0])), (q1, .inl (dA 1, 24, .inl (fun _ => 0))), (q2, .inl (dA 2, 24, .inr (.inl (fun _ => 0)))), (q3, .inl (dA 0, 24, .inl (fun _ => 0))), (q4, .inl (dA 0, 12, .inl (fun _ => 0))), (q5, .inl (dA 0, 12, .inl (fun _ => 0))), (q6, .inl (dA 0, 12, .inl (fun _ => 0))), (q7, .inl (dA 0, 144, .inl (fun _ => 0))), (q8, .inl (dA 0, 144, .inl (fun _ => 0)))]) C X.2.1.1 X.2.2.2.2.2.2.2.1 0 d_M_init_67 ff_M_33 rfl rfl rfl (Nat.le_of_ble_eq_true rfl) rfl ?_
  refine k_aload_n C d_M_init_70 rfl rfl ?_
  refine k_bipush C (v := 12) d_M_init_71 (by decide) ?_
  refine r_newa (a0 := (12, .inl (fun _ => 0))) X (fun q h => Or.inr h) 0 d_M_init_73 ac_i rfl rfl ru_i (fun _ => rfl) (by decide) (by decide) (by decide) (by decide) (by decide) (fun q9 => ?_)
  refine r_putF (ws' := [(h0, .inr (5, [.int 0, .int 0, .int 0, .int 0, .int 0, .ref q1, .ref q2, .ref q3, .ref q4, .ref q5, .ref q6, .ref q7, .ref q8, .ref q9, .null, .null, .null, .null, .null, .null, .null, .null, .null, .null, .null, .null, .int 0, .null, .null, .null, .null, .null, .long 0, .long 0])), (q1, .inl (dA 1, 24, .inl (fun _ => 0))), (q2, .inl (dA 2, 24, .inr (.inl (fun _ => 0)))), (q3, .inl (dA 0, 24, .inl (fun _ => 0))), (q4, .inl (dA 0, 12, .inl (fun _ => 0))), (q5, .inl (dA 0, 12, .inl (fun _ => 0))), (q6, .inl (dA 0, 12, .inl (fun _ => 0))), (q7, .inl (dA 0, 144, .inl (fun _ => 0))), (q8, .inl (dA 0, 144, .inl (fun _ => 0))), (q9, .inl (dA 0, 12, .inl (fun _ => 0)))]) C X.2.1.1 X.2.2.2.2.2.2.2.1 0 d_M_init_75 ff_M_36 rfl rfl rfl (Nat.le_of_ble_eq_true rfl) rfl ?_
  refine k_aload_n C d_M_init_78 rfl rfl ?_
  refine k_bipush C (v := 12) d_M_init_79 (by decide) ?_
  refine r_newa (a0 := (12, .inl (fun _ => 0))) X (fun q h => Or.inr h) 0 d_M_init_81 ac_i rfl rfl ru_i (fun _ => rfl) (by decide) (by decide) (by decide) (by decide) (by decide) (fun q10 => ?_)
  refine r_putF (ws' := [(h0, .inr (5, [.int 0, .int 0, .int 0, .int 0, .int 0, .ref q1, .ref q2, .ref q3, .ref q4, .ref q5, .ref q6, .ref q7, .ref q8, .ref q9, .ref q10, .null, .null, .null, .null, .null, .null, .null, .null, .null, .null, .null, .int 0, .null, .null, .null, .null, .null, .long 0, .long 0])), (q1, .inl (dA 1, 24, .inl (fun _ => 0))), (q2, .inl (dA 2, 24, .inr (.inl (fun _ => 0)))), (q3, .inl (dA 0, 24, .inl (fun _ => 0))), (q4, .inl (dA 0, 12, .inl (fun _ => 0))), (q5, .inl (dA 0, 12, .inl (fun _ => 0))), (q6, .inl (dA 0, 12, .inl (fun _ => 0))), (q7, .inl (dA 0, 144, .inl (fun _ => 0))), (q8, .inl (dA 0, 144, .inl (fun _ => 0))), (q9, .inl (dA 0, 12, .inl (fun _ => 0))), (q10, .inl (dA 0, 12, .inl (fun _ => 0)))]) C X.2.1.1 X.2.2.2.2.2.2.2.1 0 d_M_init_83 ff_M_39 rfl rfl rfl (Nat.le_of_ble_eq_true rfl) rfl ?_
  refine k_aload_n C d_M_init_86 rfl rfl ?_
  refine k_sipush C (v := 288) d_M_init_87 (by decide) ?_
  refine r_newa (a0 := (288, .inl (fun _ => 0))) X (fun q h => Or.inr h) 0 d_M_init_90 ac_i rfl rfl ru_i (fun _ => rfl) (by decide) (by decide) (by decide) (by decide) (by decide) (fun q11 => ?_)
  refine r_putF (ws' := [(h0, .inr (5, [.int 0, .int 0, .int 0, .int 0, .int 0, .ref q1, .ref q2, .ref q3, .ref q4, .ref q5, .ref q6, .ref q7, .ref q8, .ref q9, .ref q10, .ref q11, .null, .null, .null, .null, .null, .null, .null, .null, .null, .null, .int 0, .null, .null, .null, .null, .null, .long 0, .long 0])), (q1, .inl (dA 1, 24, .inl (fun _ => 0))), (q2, .inl (dA 2, 24, .inr (.inl (fun _ => 0)))), (q3, .inl (dA 0, 24, .inl (fun _ => 0))), (q4, .inl (dA 0, 12, .inl (fun _ => 0))), (q5, .inl (dA 0, 12, .inl (fun _ => 0))), (q6, .inl (dA 0, 12, .inl (fun _ => 0))), (q7, .inl (dA 0, 144, .inl (fun _ => 0))), (q8, .inl (dA 0, 144, .inl (fun _ => 0))), (q9, .inl (dA 0, 12, .inl (fun _ => 0))), (q10, .inl (dA 0, 12, .inl (fun _ => 0))), (q11, .inl (dA 0, 288, .inl (fun _ => 0)))]) C X.2.1.1 X.2.2.2.2.2.2.2.1 0 d_M_init_92 ff_M_42 rfl rfl rfl (Nat.le_of_ble_eq_true rfl) rfl ?_
  refine k_aload_n C d_M_init_95 rfl rfl ?_
  refine k_bipush C (v := 12) d_M_init_96 (by decide) ?_
  refine r_newa (a0 := (12, .inl (fun _ => 0))) X (fun q h => Or.inr h) 0 d_M_init_98 ac_i rfl rfl ru_i (fun _ => rfl) (by decide) (by decide) (by decide) (by decide) (by decide) (fun q12 => ?_)
  refine r_putF (ws' := [(h0, .inr (5, [.int 0, .int 0, .int 0, .int 0, .int 0, .ref q1, .ref q2, .ref q3, .ref q4, .ref q5, .ref q6, .ref q7, .ref q8, .ref q9, .ref q10, .ref q11, .ref q12, .null, .null, .null, .null, .null, .null, .null, .null, .null, .int 0, .null, .null, .null, .null, .null, .long 0, .long 0])), (q1, .inl (dA 1, 24, .inl (fun _ => 0))), (q2, .inl (dA 2, 24, .inr (.inl (fun _ => 0)))), (q3, .inl (dA 0, 24, .inl (fun _ => 0))), (q4, .inl (dA 0, 12, .inl (fun _ => 0))), (q5, .inl (dA 0, 12, .inl (fun _ => 0))), (q6, .inl (dA 0, 12, .inl (fun _ => 0))), (q7, .inl (dA 0, 144, .inl (fun _ => 0))), (q8, .inl (dA 0, 144, .inl (fun _ => 0))), (q9, .inl (dA 0, 12, .inl (fun _ => 0))), (q10, .inl (dA 0, 12, .inl (fun _ => 0))), (q11, .inl (dA 0, 288, .inl (fun _ => 0))), (q12, .inl (dA 0, 12, .inl (fun _ => 0)))]) C X.2.1.1 X.2.2.2.2.2.2.2.1 0 d_M_init_100 ff_M_45 rfl rfl rfl (Nat.le_of_ble_eq_true rfl) rfl ?_
  refine k_aload_n C d_M_init_103 rfl rfl ?_
  refine k_bipush C (v := 12) d_M_init_104 (by decide) ?_
  refine r_newa (a0 := (12, .inl (fun _ => 0))) X (fun q h => Or.inr h) 0 d_M_init_106 ac_i rfl rfl ru_i (fun _ => rfl) (by decide) (by decide) (by decide) (by decide) (by decide) (fun q13 => ?_)
  refine r_putF (ws' := [(h0, .inr (5, [.int 0, .int 0, .int 0, .int 0, .int 0, .ref q1, .ref q2, .ref q3, .ref q4, .ref q5, .ref q6, .ref q7, .ref q8, .ref q9, .ref q10, .ref q11, .ref q12, .ref q13, .null, .null, .null, .null, .null, .null, .null, .null, .int 0, .null, .null, .null, .null, .null, .long 0, .long 0])), (q1, .inl (dA 1, 24, .inl (fun _ => 0))), (q2, .inl (dA 2, 24, .inr (.inl (fun _ => 0)))), (q3, .inl (dA 0, 24, .inl (fun _ => 0))), (q4, .inl (dA 0, 12, .inl (fun _ => 0))), (q5, .inl (dA 0, 12, .inl (fun _ => 0))), (q6, .inl (dA 0, 12, .inl (fun _ => 0))), (q7, .inl (dA 0, 144, .inl (fun _ => 0))), (q8, .inl (dA 0, 144, .inl (fun _ => 0))), (q9, .inl (dA 0, 12, .inl (fun _ => 0))), (q10, .inl (dA 0, 12, .inl (fun _ => 0))), (q11, .inl (dA 0, 288, .inl (fun _ => 0))), (q12, .inl (dA 0, 12, .inl (fun _ => 0))), (q13, .inl (dA 0, 12, .inl (fun _ => 0)))]) C X.2.1.1 X.2.2.2.2.2.2.2.1 0 d_M_init_108 ff_M_48 rfl rfl rfl (Nat.le_of_ble_eq_true rfl) rfl ?_
  refine k_aload_n C d_M_init_111 rfl rfl ?_
  refine k_bipush C (v := 12) d_M_init_112 (by decide) ?_
  refine r_newa (a0 := (12, .inl (fun _ => 0))) X (fun q h => Or.inr h) 0 d_M_init_114 ac_i rfl rfl ru_i (fun _ => rfl) (by decide) (by decide) (by decide) (by decide) (by decide) (fun q14 => ?_)
  refine r_putF (ws' := [(h0, .inr (5, [.int 0, .int 0, .int 0, .int 0, .int 0, .ref q1, .ref q2, .ref q3, .ref q4, .ref q5, .ref q6, .ref q7, .ref q8, .ref q9, .ref q10, .ref q11, .ref q12, .ref q13, .ref q14, .null, .null, .null, .null, .null, .null, .null, .int 0, .null, .null, .null, .null, .null, .long 0, .long 0])), (q1, .inl (dA 1, 24, .inl (fun _ => 0))), (q2, .inl (dA 2, 24, .inr (.inl (fun _ => 0)))), (q3, .inl (dA 0, 24, .inl (fun _ => 0))), (q4, .inl (dA 0, 12, .inl (fun _ => 0))), (q5, .inl (dA 0, 12, .inl (fun _ => 0))), (q6, .inl (dA 0, 12, .inl (fun _ => 0))), (q7, .inl (dA 0, 144, .inl (fun _ => 0))), (q8, .inl (dA 0, 144, .inl (fun _ => 0))), (q9, .inl (dA 0, 12, .inl (fun _ => 0))), (q10, .inl (dA 0, 12, .inl (fun _ => 0))), (q11, .inl (dA 0, 288, .inl (fun _ => 0))), (q12, .inl (dA 0, 12, .inl (fun _ => 0))), (q13, .inl (dA 0, 12, .inl (fun _ => 0))), (q14, .inl (dA 0, 12, .inl (fun _ => 0)))]) C X.2.1.1 X.2.2.2.2.2.2.2.1 0 d_M_init_116 ff_M_51 rfl rfl rfl (Nat.le_of_ble_eq_true rfl) rfl ?_
  refine k_aload_n C d_M_init_119 rfl rfl ?_
  refine k_bipush C (v := 12) d_M_init_120 (by decide) ?_
  refine r_newa (a0 := (12, .inl (fun _ => 0))) X (fun q h => Or.inr h) 0 d_M_init_122 ac_i rfl rfl ru_i (fun _ => rfl) (by decide) (by decide) (by decide) (by decide) (by decide) (fun q15 => ?_)
  refine r_putF (ws' := [(h0, .inr (5, [.int 0, .int 0, .int 0, .int 0, .int 0, .ref q1, .ref q2, .ref q3, .ref q4, .ref q5, .ref q6, .ref q7, .ref q8, .ref q9, .ref q10, .ref q11, .ref q12, .ref q13, .ref q14, .ref q15, .null, .null, .null, .null, .null, .null, .int 0, .null, .null, .null, .null, .null, .long 0, .long 0])), (q1, .inl (dA 1, 24, .inl (fun _ => 0))), (q2, .inl (dA 2, 24, .inr (.inl (fun _ => 0)))), (q3, .inl (dA 0, 24, .inl (fun _ => 0))), (q4, .inl (dA 0, 12, .inl (fun _ => 0))), (q5, .inl (dA 0, 12, .inl (fun _ => 0))), (q6, .inl (dA 0, 12, .inl (fun _ => 0))), (q7, .inl (dA 0, 144, .inl (fun _ => 0))), (q8, .inl (dA 0, 144, .inl (fun _ => 0))), (q9, .inl (dA 0, 12, .inl (fun _ => 0))), (q10, .inl (dA 0, 12, .inl (fun _ => 0))), (q11, .inl (dA 0, 288, .inl (fun _ => 0))), (q12, .inl (dA 0, 12, .inl (fun _ => 0))), (q13, .inl (dA 0, 12, .inl (fun _ => 0))), (q14, .inl (dA 0, 12, .inl (fun _ => 0))), (q15, .inl (dA 0, 12, .inl (fun _ => 0)))]) C X.2.1.1 X.2.2.2.2.2.2.2.1 0 d_M_init_124 ff_M_54 rfl rfl rfl (Nat.le_of_ble_eq_true rfl) rfl ?_
  refine k_aload_n C d_M_init_127 rfl rfl ?_
  refine k_sipush C (v := 288) d_M_init_128 (by decide) ?_
  refine r_newa (a0 := (288, .inl (fun _ => 0))) X (fun q h => Or.inr h) 1 d_M_init_131 ac_z rfl rfl ru_z (fun _ => rfl) (by decide) (by decide) (by decide) (by decide) (by decide) (fun q16 => ?_)
  refine r_putF (ws' := [(h0, .inr (5, [.int 0, .int 0, .int 0, .int 0, .int 0, .ref q1, .ref q2, .ref q3, .ref q4, .ref q5, .ref q6, .ref q7, .ref q8, .ref q9, .ref q10, .ref q11, .ref q12, .ref q13, .ref q14, .ref q15, .ref q16, .null, .null, .null, .null, .null, .int 0, .null, .null, .null, .null, .null, .long 0, .long 0])), (q1, .inl (dA 1, 24, .inl (fun _ => 0))), (q2, .inl (dA 2, 24, .inr (.inl (fun _ => 0)))), (q3, .inl (dA 0, 24, .inl (fun _ => 0))), (q4, .inl (dA 0, 12, .inl (fun _ => 0))), (q5, .inl (dA 0, 12, .inl (fun _ => 0))), (q6, .inl (dA 0, 12, .inl (fun _ => 0))), (q7, .inl (dA 0, 144, .inl (fun _ => 0))), (q8, .inl (dA 0, 144, .inl (fun _ => 0))), (q9, .inl (dA 0, 12, .inl (fun _ => 0))), (q10, .inl (dA 0, 12, .inl (fun _ => 0))), (q11, .inl (dA 0, 288, .inl (fun _ => 0))), (q12, .inl (dA 0, 12, .inl (fun _ => 0))), (q13, .inl (dA 0, 12, .inl (fun _ => 0))), (q14, .inl (dA 0, 12, .inl (fun _ => 0))), (q15, .inl (dA 0, 12, .inl (fun _ => 0))), (q16, .inl (dA 1, 288, .inl (fun _ => 0)))]) C X.2.1.1 X.2.2.2.2.2.2.2.1 0 d_M_init_133 ff_M_57 rfl rfl rfl (Nat.le_of_ble_eq_true rfl) rfl ?_
  refine k_aload_n C d_M_init_136 rfl rfl ?_
  refine k_sipush C (v := 288) d_M_init_137 (by decide) ?_
  refine r_newa (a0 := (288, .inl (fun _ => 0))) X (fun q h => Or.inr h) 1 d_M_init_140 ac_z rfl rfl ru_z (fun _ => rfl) (by decide) (by decide) (by decide) (by decide) (by decide) (fun q17 => ?_)
  refine r_putF (ws' := [(h0, .inr (5, [.int 0, .int 0, .int 0, .int 0, .int 0, .ref q1, .ref q2, .ref q3, .ref q4, .ref q5, .ref q6, .ref q7, .ref q8, .ref q9, .ref q10, .ref q11, .ref q12, .ref q13, .ref q14, .ref q15, .ref q16, .ref q17, .null, .null, .null, .null, .int 0, .null, .null, .null, .null, .null, .long 0, .long 0])), (q1, .inl (dA 1, 24, .inl (fun _ => 0))), (q2, .inl (dA 2, 24, .inr (.inl (fun _ => 0)))), (q3, .inl (dA 0, 24, .inl (fun _ => 0))), (q4, .inl (dA 0, 12, .inl (fun _ => 0))), (q5, .inl (dA 0, 12, .inl (fun _ => 0))), (q6, .inl (dA 0, 12, .inl (fun _ => 0))), (q7, .inl (dA 0, 144, .inl (fun _ => 0))), (q8, .inl (dA 0, 144, .inl (fun _ => 0))), (q9, .inl (dA 0, 12, .inl (fun _ => 0))), (q10, .inl (dA 0, 12, .inl (fun _ => 0))), (q11, .inl (dA 0, 288, .inl (fun _ => 0))), (q12, .inl (dA 0, 12, .inl (fun _ => 0))), (q13, .inl (dA 0, 12, .inl (fun _ => 0))), (q14, .inl (dA 0, 12, .inl (fun _ => 0))), (q15, .inl (dA 0, 12, .inl (fun _ => 0))), (q16, .inl (dA 1, 288, .inl (fun _ => 0))), (q17, .inl (dA 1, 288, .inl (fun _ => 0)))]) C X.2.1.1 X.2.2.2.2.2.2.2.1 0 d_M_init_142 ff_M_60 rfl rfl rfl (Nat.le_of_ble_eq_true rfl) rfl ?_
  refine k_aload_n C d_M_init_145 rfl rfl ?_
  refine k_bipush C (v := 12) d_M_init_146 (by decide) ?_
  refine r_newa (a0 := (12, .inl (fun _ => 0))) X (fun q h => Or.inr h) 1 d_M_init_148 ac_z rfl rfl ru_z (fun _ => rfl) (by decide) (by decide) (by decide) (by decide) (by decide) (fun q18 => ?_)
  refine r_putF (ws' := [(h0, .inr (5, [.int 0, .int 0, .int 0, .int 0, .int 0, .ref q1, .ref q2, .ref q3, .ref q4, .ref q5, .ref q6, .ref q7, .ref q8, .ref q9, .ref q10, .ref q11, .ref q12, .ref q13, .ref q14, .ref q15, .ref q16, .ref q17, .ref q18, .null, .null, .null, .int 0, .null, .null, .null, .null, .null, .long 0, .long 0])), (q1, .inl (dA 1, 24, .inl (fun _ => 0))), (q2, .inl (dA 2, 24, .inr (.inl (fun _ => 0)))), (q3, .inl (dA 0, 24, .inl (fun _ => 0))), (q4, .inl (dA 0, 12, .inl (fun _ => 0))), (q5, .inl (dA 0, 12, .inl (fun _ => 0))), (q6, .inl (dA 0, 12, .inl (fun _ => 0))), (q7, .inl (dA 0, 144, .inl (fun _ => 0))), (q8, .inl (dA 0, 144, .inl (fun _ => 0))), (q9, .inl (dA 0, 12, .inl (fun _ => 0))), (q10, .inl (dA 0, 12, .inl (fun _ => 0))), (q11, .inl (dA 0, 288, .inl (fun _ => 0))), (q12, .inl (dA 0, 12, .inl (fun _ => 0))), (q13, .inl (dA 0, 12, .inl (fun _ => 0))), (q14, .inl (dA 0, 12, .inl (fun _ => 0))), (q15, .inl (dA 0, 12, .inl (fun _ => 0))), (q16, .inl (dA 1, 288, .inl (fun _ => 0))), (q17, .inl (dA 1, 288, .inl (fun _ => 0))), (q18, .inl (dA 1, 12, .inl (fun _ => 0)))]) C X.2.1.1 X.2.2.2.2.2.2.2.1 0 d_M_init_150 ff_M_63 rfl rfl rfl (Nat.le_of_ble_eq_true rfl) rfl ?_
  refine k_aload_n C d_M_init_153 rfl rfl ?_
  refine k_sipush C (v := 288) d_M_init_154 (by decide) ?_
  refine r_newa (a0 := (288, .inr (.inl (fun _ => 0)))) X (fun q h => Or.inr h) 2 d_M_init_157 ac_j rfl rfl ru_j (fun _ => rfl) (by decide) (by decide) (by decide) (by decide) (by decide) (fun q19 => ?_)
  refine r_putF (ws' := [(h0, .inr (5, [.int 0, .int 0, .int 0, .int 0, .int 0, .ref q1, .ref q2, .ref q3, .ref q4, .ref q5, .ref q6, .ref q7, .ref q8, .ref q9, .ref q10, .ref q11, .ref q12, .ref q13, .ref q14, .ref q15, .ref q16, .ref q17, .ref q18, .ref q19, .null, .null, .int 0, .null, .null, .null, .null, .null, .long 0, .long 0])), (q1, .inl (dA 1, 24, .inl (fun _ => 0))), (q2, .inl (dA 2, 24, .inr (.inl (fun _ => 0)))), (q3, .inl (dA 0, 24, .inl (fun _ => 0))), (q4, .inl (dA 0, 12, .inl (fun _ => 0))), (q5, .inl (dA 0, 12, .inl (fun _ => 0))), (q6, .inl (dA 0, 12, .inl (fun _ => 0))), (q7, .inl (dA 0, 144, .inl (fun _ => 0))), (q8, .inl (dA 0, 144, .inl (fun _ => 0))), (q9, .inl (dA 0, 12, .inl (fun _ => 0))), (q10, .inl (dA 0, 12, .inl (fun _ => 0))), (q11, .inl (dA 0, 288, .inl (fun _ => 0))), (q12, .inl (dA 0, 12, .inl (fun _ => 0))), (q13, .inl (dA 0, 12, .inl (fun _ => 0))), (q14, .inl (dA 0, 12, .inl (fun _ => 0))), (q15, .inl (dA 0, 12, .inl (fun _ => 0))), (q16, .inl (dA 1, 288, .inl (fun _ => 0))), (q17, .inl (dA 1, 288, .inl (fun _ => 0))), (q18, .inl (dA 1, 12, .inl (fun _ => 0))), (q19, .inl (dA 2, 288, .inr (.inl (fun _ => 0))))]) C X.2.1.1 X.2.2.2.2.2.2.2.1 0 d_M_init_159 ff_M_66 rfl rfl rfl (Nat.le_of_ble_eq_true rfl) rfl ?_
  refine k_aload_n C d_M_init_162 rfl rfl ?_
  refine k_bipush C (v := 12) d_M_init_163 (by decide) ?_
  refine r_newa (a0 := (12, .inl (fun _ => 0))) X (fun q h => Or.inr h) 0 d_M_init_165 ac_i rfl rfl ru_i (fun _ => rfl) (by decide) (by decide) (by decide) (by decide) (by decide) (fun q20 => ?_)
  refine r_putF (ws' := [(h0, .inr (5, [.int 0, .int 0, .int 0, .int 0, .int 0, .ref q1, .ref q2, .ref q3, .ref q4, .ref q5, .ref q6, .ref q7, .ref q8, .ref q9, .ref q10, .ref q11, .ref q12, .ref q13, .ref q14, .ref q15, .ref q16, .ref q17, .ref q18, .ref q19, .ref q20, .null, .int 0, .null, .null, .null, .null, .null, .long 0, .long 0])), (q1, .inl (dA 1, 24, .inl (fun _ => 0))), (q2, .inl (dA 2, 24, .inr (.inl (fun _ => 0)))), (q3, .inl (dA 0, 24, .inl (fun _ => 0))), (q4, .inl (dA 0, 12, .inl (fun _ => 0))), (q5, .inl (dA 0, 12, .inl (fun _ => 0))), (q6, .inl (dA 0, 12, .inl (fun _ => 0))), (q7, .inl (dA 0, 144, .inl (fun _ => 0))), (q8, .inl (dA 0, 144, .inl (fun _ => 0))), (q9, .inl (dA 0, 12, .inl (fun _ => 0))), (q10, .inl (dA 0, 12, .inl (fun _ => 0))), (q11, .inl (dA 0, 288, .inl (fun _ => 0))), (q12, .inl (dA 0, 12, .inl (fun _ => 0))), (q13, .inl (dA 0, 12, .inl (fun _ => 0))), (q14, .inl (dA 0, 12, .inl (fun _ => 0))), (q15, .inl (dA 0, 12, .inl (fun _ => 0))), (q16, .inl (dA 1, 288, .inl (fun _ => 0))), (q17, .inl (dA 1, 288, .inl (fun _ => 0))), (q18, .inl (dA 1, 12, .inl (fun _ => 0))), (q19, .inl (dA 2, 288, .inr (.inl (fun _ => 0)))), (q20, .inl (dA 0, 12, .inl (fun _ => 0)))]) C X.2.1.1 X.2.2.2.2.2.2.2.1 0 d_M_init_167 ff_M_69 rfl rfl rfl (Nat.le_of_ble_eq_true rfl) rfl ?_
  refine k_aload_n C d_M_init_170 rfl rfl ?_
  refine k_bipush C (v := 12) d_M_init_171 (by decide) ?_
  refine r_newa (a0 := (12, .inl (fun _ => 0))) X (fun q h => Or.inr h) 0 d_M_init_173 ac_i rfl rfl ru_i (fun _ => rfl) (by decide) (by decide) (by decide) (by decide) (by decide) (fun q21 => ?_)
  refine r_putF (ws' := [(h0, .inr (5, [.int 0, .int 0, .int 0, .int 0, .int 0, .ref q1, .ref q2, .ref q3, .ref q4, .ref q5, .ref q6, .ref q7, .ref q8, .ref q9, .ref q10, .ref q11, .ref q12, .ref q13, .ref q14, .ref q15, .ref q16, .ref q17, .ref q18, .ref q19, .ref q20, .ref q21, .int 0, .null, .null, .null, .null, .null, .long 0, .long 0])), (q1, .inl (dA 1, 24, .inl (fun _ => 0))), (q2, .inl (dA 2, 24, .inr (.inl (fun _ => 0)))), (q3, .inl (dA 0, 24, .inl (fun _ => 0))), (q4, .inl (dA 0, 12, .inl (fun _ => 0))), (q5, .inl (dA 0, 12, .inl (fun _ => 0))), (q6, .inl (dA 0, 12, .inl (fun _ => 0))), (q7, .inl (dA 0, 144, .inl (fun _ => 0))), (q8, .inl (dA 0, 144, .inl (fun _ => 0))), (q9, .inl (dA 0, 12, .inl (fun _ => 0))), (q10, .inl (dA 0, 12, .inl (fun _ => 0))), (q11, .inl (dA 0, 288, .inl (fun _ => 0))), (q12, .inl (dA 0, 12, .inl (fun _ => 0))), (q13, .inl (dA 0, 12, .inl (fun _ => 0))), (q14, .inl (dA 0, 12, .inl (fun _ => 0))), (q15, .inl (dA 0, 12, .inl (fun _ => 0))), (q16, .inl (dA 1, 288, .inl (fun _ => 0))), (q17, .inl (dA 1, 288, .inl (fun _ => 0))), (q18, .inl (dA 1, 12, .inl (fun _ => 0))), (q19, .inl (dA 2, 288, .inr (.inl (fun _ => 0)))), (q20, .inl (dA 0, 12, .inl (fun _ => 0))), (q21, .inl (dA 0, 12, .inl (fun _ => 0)))]) C X.2.1.1 X.2.2.2.2.2.2.2.1 0 d_M_init_175 ff_M_72 rfl rfl rfl (Nat.le_of_ble_eq_true rfl) rfl ?_
  refine k_aload_n C d_M_init_178 rfl rfl ?_
  refine k_bipush C (v := 6) d_M_init_179 (by decide) ?_
  refine r_newa (a0 := (6, .inl (fun _ => 0))) X (fun q h => Or.inr h) 0 d_M_init_181 ac_i rfl rfl ru_i (fun _ => rfl) (by decide) (by decide) (by decide) (by decide) (by decide) (fun q22 => ?_)
  refine r_putF (ws' := [(h0, .inr (5, [.int 0, .int 0, .int 0, .int 0, .int 0, .ref q1, .ref q2, .ref q3, .ref q4, .ref q5, .ref q6, .ref q7, .ref q8, .ref q9, .ref q10, .ref q11, .ref q12, .ref q13, .ref q14, .ref q15, .ref q16, .ref q17, .ref q18, .ref q19, .ref q20, .ref q21, .int 0, .ref q22, .null, .null, .null, .null, .long 0, .long 0])), (q1, .inl (dA 1, 24, .inl (fun _ => 0))), (q2, .inl (dA 2, 24, .inr (.inl (fun _ => 0)))), (q3, .inl (dA 0, 24, .inl (fun _ => 0))), (q4, .inl (dA 0, 12, .inl (fun _ => 0))), (q5, .inl (dA 0, 12, .inl (fun _ => 0))), (q6, .inl (dA 0, 12, .inl (fun _ => 0))), (q7, .inl (dA 0, 144, .inl (fun _ => 0))), (q8, .inl (dA 0, 144, .inl (fun _ => 0))), (q9, .inl (dA 0, 12, .inl (fun _ => 0))), (q10, .inl (dA 0, 12, .inl (fun _ => 0))), (q11, .inl (dA 0, 288, .inl (fun _ => 0))), (q12, .inl (dA 0, 12, .inl (fun _ => 0))), (q13, .inl (dA 0, 12, .inl (fun _ => 0))), (q14, .inl (dA 0, 12, .inl (fun _ => 0))), (q15, .inl (dA 0, 12, .inl (fun _ => 0))), (q16, .inl (dA 1, 288, .inl (fun _ => 0))), (q17, .inl (dA 1, 288, .inl (fun _ => 0))), (q18, .inl (dA 1, 12, .inl (fun _ => 0))), (q19, .inl (dA 2, 288, .inr (.inl (fun _ => 0)))), (q20, .inl (dA 0, 12, .inl (fun _ => 0))), (q21, .inl (dA 0, 12, .inl (fun _ => 0))), (q22, .inl (dA 0, 6, .inl (fun _ => 0)))]) C X.2.1.1 X.2.2.2.2.2.2.2.1 0 d_M_init_183 ff_M_75 rfl rfl rfl (Nat.le_of_ble_eq_true rfl) rfl ?_
  refine k_aload_n C d_M_init_186 rfl rfl ?_
  refine k_bipush C (v := 6) d_M_init_187 (by decide) ?_
  refine r_newa (a0 := (6, .inl (fun _ => 0))) X (fun q h => Or.inr h) 0 d_M_init_189 ac_i rfl rfl ru_i (fun _ => rfl) (by decide) (by decide) (by decide) (by decide) (by decide) (fun q23 => ?_)
  refine r_putF (ws' := [(h0, .inr (5, [.int 0, .int 0, .int 0, .int 0, .int 0, .ref q1, .ref q2, .ref q3, .ref q4, .ref q5, .ref q6, .ref q7, .ref q8, .ref q9, .ref q10, .ref q11, .ref q12, .ref q13, .ref q14, .ref q15, .ref q16, .ref q17, .ref q18, .ref q19, .ref q20, .ref q21, .int 0, .ref q22, .ref q23, .null, .null, .null, .long 0, .long 0])), (q1, .inl (dA 1, 24, .inl (fun _ => 0))), (q2, .inl (dA 2, 24, .inr (.inl (fun _ => 0)))), (q3, .inl (dA 0, 24, .inl (fun _ => 0))), (q4, .inl (dA 0, 12, .inl (fun _ => 0))), (q5, .inl (dA 0, 12, .inl (fun _ => 0))), (q6, .inl (dA 0, 12, .inl (fun _ => 0))), (q7, .inl (dA 0, 144, .inl (fun _ => 0))), (q8, .inl (dA 0, 144, .inl (fun _ => 0))), (q9, .inl (dA 0, 12, .inl (fun _ => 0))), (q10, .inl (dA 0, 12, .inl (fun _ => 0))), (q11, .inl (dA 0, 288, .inl (fun _ => 0))), (q12, .inl (dA 0, 12, .inl (fun _ => 0))), (q13, .inl (dA 0, 12, .inl (fun _ => 0))), (q14, .inl (dA 0, 12, .inl (fun _ => 0))), (q15, .inl (dA 0, 12, .inl (fun _ => 0))), (q16, .inl (dA 1, 288, .inl (fun _ => 0))), (q17, .inl (dA 1, 288, .inl (fun _ => 0))), (q18, .inl (dA 1, 12, .inl (fun _ => 0))), (q19, .inl (dA 2, 288, .inr (.inl (fun _ => 0)))), (q20, .inl (dA 0, 12, .inl (fun _ => 0))), (q21, .inl (dA 0, 12, .inl (fun _ => 0))), (q22, .inl (dA 0, 6, .inl (fun _ => 0))), (q23, .inl (dA 0, 6, .inl (fun _ => 0)))]) C X.2.1.1 X.2.2.2.2.2.2.2.1 0 d_M_init_191 ff_M_78 rfl rfl rfl (Nat.le_of_ble_eq_true rfl) rfl ?_
  refine k_aload_n C d_M_init_194 rfl rfl ?_
  refine k_bipush C (v := 6) d_M_init_195 (by decide) ?_
  refine r_newa (a0 := (6, .inr (.inl (fun _ => 0)))) X (fun q h => Or.inr h) 2 d_M_init_197 ac_j rfl rfl ru_j (fun _ => rfl) (by decide) (by decide) (by decide) (by decide) (by decide) (fun q24 => ?_)
  refine r_putF (ws' := [(h0, .inr (5, [.int 0, .int 0, .int 0, .int 0, .int 0, .ref q1, .ref q2, .ref q3, .ref q4, .ref q5, .ref q6, .ref q7, .ref q8, .ref q9, .ref q10, .ref q11, .ref q12, .ref q13, .ref q14, .ref q15, .ref q16, .ref q17, .ref q18, .ref q19, .ref q20, .ref q21, .int 0, .ref q22, .ref q23, .ref q24, .null, .null, .long 0, .long 0])), (q1, .inl (dA 1, 24, .inl (fun _ => 0))), (q2, .inl (dA 2, 24, .inr (.inl (fun _ => 0)))), (q3, .inl (dA 0, 24, .inl (fun _ => 0))), (q4, .inl (dA 0, 12, .inl (fun _ => 0))), (q5, .inl (dA 0, 12, .inl (fun _ => 0))), (q6, .inl (dA 0, 12, .inl (fun _ => 0))), (q7, .inl (dA 0, 144, .inl (fun _ => 0))), (q8, .inl (dA 0, 144, .inl (fun _ => 0))), (q9, .inl (dA 0, 12, .inl (fun _ => 0))), (q10, .inl (dA 0, 12, .inl (fun _ => 0))), (q11, .inl (dA 0, 288, .inl (fun _ => 0))), (q12, .inl (dA 0, 12, .inl (fun _ => 0))), (q13, .inl (dA 0, 12, .inl (fun _ => 0))), (q14, .inl (dA 0, 12, .inl (fun _ => 0))), (q15, .inl (dA 0, 12, .inl (fun _ => 0))), (q16, .inl (dA 1, 288, .inl (fun _ => 0))), (q17, .inl (dA 1, 288, .inl (fun _ => 0))), (q18, .inl (dA 1, 12, .inl (fun _ => 0))), (q19, .inl (dA 2, 288, .inr (.inl (fun _ => 0)))), (q20, .inl (dA 0, 12, .inl (fun _ => 0))), (q21, .inl (dA 0, 12, .inl (fun _ => 0))), (q22, .inl (dA 0, 6, .inl (fun _ => 0))), (q23, .inl (dA 0, 6, .inl (fun _ => 0))), (q24, .inl (dA 2, 6, .inr (.inl (fun _ => 0))))]) C X.2.1.1 X.2.2.2.2.2.2.2.1 0 d_M_init_199 ff_M_81 rfl rfl rfl (Nat.le_of_ble_eq_true rfl) rfl ?_
  refine k_aload_n C d_M_init_202 rfl rfl ?_
  refine k_bipush C (v := 24) d_M_init_203 (by decide) ?_
  refine r_newa (a0 := (24, .inr (.inl (fun _ => 0)))) X (fun q h => Or.inr h) 2 d_M_init_205 ac_j rfl rfl ru_j (fun _ => rfl) (by decide) (by decide) (by decide) (by decide) (by decide) (fun q25 => ?_)
  refine r_putF (ws' := [(h0, .inr (5, [.int 0, .int 0, .int 0, .int 0, .int 0, .ref q1, .ref q2, .ref q3, .ref q4, .ref q5, .ref q6, .ref q7, .ref q8, .ref q9, .ref q10, .ref q11, .ref q12, .ref q13, .ref q14, .ref q15, .ref q16, .ref q17, .ref q18, .ref q19, .ref q20, .ref q21, .int 0, .ref q22, .ref q23, .ref q24, .ref q25, .null, .long 0, .long 0])), (q1, .inl (dA 1, 24, .inl (fun _ => 0))), (q2, .inl (dA 2, 24, .inr (.inl (fun _ => 0)))), (q3, .inl (dA 0, 24, .inl (fun _ => 0))), (q4, .inl (dA 0, 12, .inl (fun _ => 0))), (q5, .inl (dA 0, 12, .inl (fun _ => 0))), (q6, .inl (dA 0, 12, .inl (fun _ => 0))), (q7, .inl (dA 0, 144, .inl (fun _ => 0))), (q8, .inl (dA 0, 144, .inl (fun _ => 0))), (q9, .inl (dA 0, 12, .inl (fun _ => 0))), (q10, .inl (dA 0, 12, .inl (fun _ => 0))), (q11, .inl (dA 0, 288, .inl (fun _ => 0))), (q12, .inl (dA 0, 12, .inl (fun _ => 0))), (q13, .inl (dA 0, 12, .inl (fun _ => 0))), (q14, .inl (dA 0, 12, .inl (fun _ => 0))), (q15, .inl (dA 0, 12, .inl (fun _ => 0))), (q16, .inl (dA 1, 288, .inl (fun _ => 0))), (q17, .inl (dA 1, 288, .inl (fun _ => 0))), (q18, .inl (dA 1, 12, .inl (fun _ => 0))), (q19, .inl (dA 2, 288, .inr (.inl (fun _ => 0)))), (q20, .inl (dA 0, 12, .inl (fun _ => 0))), (q21, .inl (dA 0, 12, .inl (fun _ => 0))), (q22, .inl (dA 0, 6, .inl (fun _ => 0))), (q23, .inl (dA 0, 6, .inl (fun _ => 0))), (q24, .inl (dA 2, 6, .inr (.inl (fun _ => 0)))), (q25, .inl (dA 2, 24, .inr (.inl (fun _ => 0))))]) C X.2.1.1 X.2.2.2.2.2.2.2.1 0 d_M_init_207 ff_M_84 rfl rfl rfl (Nat.le_of_ble_eq_true rfl) rfl ?_
  refine k_aload_n C d_M_init_210 rfl rfl ?_
  refine k_bipush C (v := 24) d_M_init_211 (by decide) ?_
  refine r_newa (a0 := (24, .inr (.inl (fun _ => 0)))) X (fun q h => Or.inr h) 2 d_M_init_213 ac_j rfl rfl ru_j (fun _ => rfl) (by decide) (by decide) (by decide) (by decide) (by decide) (fun q26 => ?_)
  refine r_putF (ws' := [(h0, .inr (5, [.int 0, .int 0, .int 0, .int 0, .int 0, .ref q1, .ref q2, .ref q3, .ref q4, .ref q5, .ref q6, .ref q7, .ref q8, .ref q9, .ref q10, .ref q11, .ref q12, .ref q13, .ref q14, .ref q15, .ref q16, .ref q17, .ref q18, .ref q19, .ref q20, .ref q21, .int 0, .ref q22, .ref q23, .ref q24, .ref q25, .ref q26, .long 0, .long 0])), (q1, .inl (dA 1, 24, .inl (fun _ => 0))), (q2, .inl (dA 2, 24, .inr (.inl (fun _ => 0)))), (q3, .inl (dA 0, 24, .inl (fun _ => 0))), (q4, .inl (dA 0, 12, .inl (fun _ => 0))), (q5, .inl (dA 0, 12, .inl (fun _ => 0))), (q6, .inl (dA 0, 12, .inl (fun _ => 0))), (q7, .inl (dA 0, 144, .inl (fun _ => 0))), (q8, .inl (dA 0, 144, .inl (fun _ => 0))), (q9, .inl (dA 0, 12, .inl (fun _ => 0))), (q10, .inl (dA 0, 12, .inl (fun _ => 0))), (q11, .inl (dA 0, 288, .inl (fun _ => 0))), (q12, .inl (dA 0, 12, .inl (fun _ => 0))), (q13, .inl (dA 0, 12, .inl (fun _ => 0))), (q14, .inl (dA 0, 12, .inl (fun _ => 0))), (q15, .inl (dA 0, 12, .inl (fun _ => 0))), (q16, .inl (dA 1, 288, .inl (fun _ => 0))), (q17, .inl (dA 1, 288, .inl (fun _ => 0))), (q18, .inl (dA 1, 12, .inl (fun _ => 0))), (q19, .inl (dA 2, 288, .inr (.inl (fun _ => 0)))), (q20, .inl (dA 0, 12, .inl (fun _ => 0))), (q21, .inl (dA 0, 12, .inl (fun _ => 0))), (q22, .inl (dA 0, 6, .inl (fun _ => 0))), (q23, .inl (dA 0, 6, .inl (fun _ => 0))), (q24, .inl (dA 2, 6, .inr (.inl (fun _ => 0)))), (q25, .inl (dA 2, 24, .inr (.inl (fun _ => 0)))), (q26, .inl (dA 2, 24, .inr (.inl (fun _ => 0))))]) C X.2.1.1 X.2.2.2.2.2.2.2.1 0 d_M_init_215 ff_M_87 rfl rfl rfl (Nat.le_of_ble_eq_true rfl) rfl ?_
  refine k_aload_n C d_M_init_218 rfl rfl ?_
  refine k_iload_n C d_M_init_219 rfl rfl ?_
  refine k_iconst C (v := 1) d_M_init_220 (by decide) ?_
  refine k_icmp_ge C (tgt := 228) d_M_init_221 (by decide) (fun c1 => ?_) (fun c1 => ?_)
  · refine k_iload_n C d_M_init_228 rfl rfl ?_
    refine k_bipush C (v := 9) d_M_init_229 (by decide) ?_
    refine k_icmp_le C (tgt := 239) d_M_init_231 (by decide) (fun c2 => ?_) (fun c2 => ?_)
    · refine k_iload_n C d_M_init_239 rfl rfl ?_
      refine r_putF (ws' := [(h0, .inr (5, [.int a0, .int 0, .int 0, .int 0, .int 0, .ref q1, .ref q2, .ref q3, .ref q4, .ref q5, .ref q6, .ref q7, .ref q8, .ref q9, .ref q10, .ref q11, .ref q12, .ref q13, .ref q14, .ref q15, .ref q16, .ref q17, .ref q18, .ref q19, .ref q20, .ref q21, .int 0, .ref q22, .ref q23, .ref q24, .ref q25, .ref q26, .long 0, .long 0])), (q1, .inl (dA 1, 24, .inl (fun _ => 0))), (q2, .inl (dA 2, 24, .inr (.inl (fun _ => 0)))), (q3, .inl (dA 0, 24, .inl (fun _ => 0))), (q4, .inl (dA 0, 12, .inl (fun _ => 0))), (q5, .inl (dA 0, 12, .inl (fun _ => 0))), (q6, .inl (dA 0, 12, .inl (fun _ => 0))), (q7, .inl (dA 0, 144, .inl (fun _ => 0))), (q8, .inl (dA 0, 144, .inl (fun _ => 0))), (q9, .inl (dA 0, 12, .inl (fun _ => 0))), (q10, .inl (dA 0, 12, .inl (fun _ => 0))), (q11, .inl (dA 0, 288, .inl (fun _ => 0))), (q12, .inl (dA 0, 12, .inl (fun _ => 0))), (q13, .inl (dA 0, 12, .inl (fun _ => 0))), (q14, .inl (dA 0, 12, .inl (fun _ => 0))), (q15, .inl (dA 0, 12, .inl (fun _ => 0))), (q16, .inl (dA 1, 288, .inl (fun _ => 0))), (q17, .inl (dA 1, 288, .inl (fun _ => 0))), (q18, .inl (dA 1, 12, .inl (fun _ => 0))), (q19, .inl (dA 2, 288, .inr (.inl (fun _ => 0)))), (q20, .inl (dA 0, 12, .inl (fun _ => 0))), (q21, .inl (dA 0, 12, .inl (fun _ => 0))), (q22, .inl (dA 0, 6, .inl (fun _ => 0))), (q23, .inl (dA 0, 6, .inl (fun _ => 0))), (q24, .inl (dA 2, 6, .inr (.inl (fun _ => 0)))), (q25, .inl (dA 2, 24, .inr (.inl (fun _ => 0)))), (q26, .inl (dA 2, 24, .inr (.inl (fun _ => 0))))]) C X.2.1.1 X.2.2.2.2.2.2.2.1 0 d_M_init_240 ff_M_90 rfl rfl rfl (Nat.le_of_ble_eq_true rfl) rfl ?_
      exact r_vret X ⟨by decide, by decide⟩ d_M_init_243 ⟨q1, q2, q3, q4, q5, q6, q7, q8, q9, q10, q11, q12, q13, q14, q15, q16, q17, q18, q19, q20, q21, q22, q23, q24, q25, q26, by rw [show mTm a0 = a0 from (if_pos c1).trans (if_pos c2)]⟩
    · refine k_bipush C (v := 9) d_M_init_234 (by decide) ?_
      refine k_goto C (tgt := 240) d_M_init_236 (by decide) ?_
      refine r_putF (ws' := [(h0, .inr (5, [.int 9, .int 0, .int 0, .int 0, .int 0, .ref q1, .ref q2, .ref q3, .ref q4, .ref q5, .ref q6, .ref q7, .ref q8, .ref q9, .ref q10, .ref q11, .ref q12, .ref q13, .ref q14, .ref q15, .ref q16, .ref q17, .ref q18, .ref q19, .ref q20, .ref q21, .int 0, .ref q22, .ref q23, .ref q24, .ref q25, .ref q26, .long 0, .long 0])), (q1, .inl (dA 1, 24, .inl (fun _ => 0))), (q2, .inl (dA 2, 24, .inr (.inl (fun _ => 0)))), (q3, .inl (dA 0, 24, .inl (fun _ => 0))), (q4, .inl (dA 0, 12, .inl (fun _ => 0))), (q5, .inl (dA 0, 12, .inl (fun _ => 0))), (q6, .inl (dA 0, 12, .inl (fun _ => 0))), (q7, .inl (dA 0, 144, .inl (fun _ => 0))), (q8, .inl (dA 0, 144, .inl (fun _ => 0))), (q9, .inl (dA 0, 12, .inl (fun _ => 0))), (q10, .inl (dA 0, 12, .inl (fun _ => 0))), (q11, .inl (dA 0, 288, .inl (fun _ => 0))), (q12, .inl (dA 0, 12, .inl (fun _ => 0))), (q13, .inl (dA 0, 12, .inl (fun _ => 0))), (q14, .inl (dA 0, 12, .inl (fun _ => 0))), (q15, .inl (dA 0, 12, .inl (fun _ => 0))), (q16, .inl (dA 1, 288, .inl (fun _ => 0))), (q17, .inl (dA 1, 288, .inl (fun _ => 0))), (q18, .inl (dA 1, 12, .inl (fun _ => 0))), (q19, .inl (dA 2, 288, .inr (.inl (fun _ => 0)))), (q20, .inl (dA 0, 12, .inl (fun _ => 0))), (q21, .inl (dA 0, 12, .inl (fun _ => 0))), (q22, .inl (dA 0, 6, .inl (fun _ => 0))), (q23, .inl (dA 0, 6, .inl (fun _ => 0))), (q24, .inl (dA 2, 6, .inr (.inl (fun _ => 0)))), (q25, .inl (dA 2, 24, .inr (.inl (fun _ => 0)))), (q26, .inl (dA 2, 24, .inr (.inl (fun _ => 0))))]) C X.2.1.1 X.2.2.2.2.2.2.2.1 0 d_M_init_240 ff_M_90 rfl rfl rfl (Nat.le_of_ble_eq_true rfl) rfl ?_
      exact r_vret X ⟨by decide, by decide⟩ d_M_init_243 ⟨q1, q2, q3, q4, q5, q6, q7, q8, q9, q10, q11, q12, q13, q14, q15, q16, q17, q18, q19, q20, q21, q22, q23, q24, q25, q26, by rw [show mTm a0 = 9 from (if_pos c1).trans (if_neg c2)]⟩
  · refine k_iconst C (v := 1) d_M_init_224 (by decide) ?_
    refine k_goto C (tgt := 240) d_M_init_225 (by decide) ?_
    refine r_putF (ws' := [(h0, .inr (5, [.int 1, .int 0, .int 0, .int 0, .int 0, .ref q1, .ref q2, .ref q3, .ref q4, .ref q5, .ref q6, .ref q7, .ref q8, .ref q9, .ref q10, .ref q11, .ref q12, .ref q13, .ref q14, .ref q15, .ref q16, .ref q17, .ref q18, .ref q19, .ref q20, .ref q21, .int 0, .ref q22, .ref q23, .ref q24, .ref q25, .ref q26, .long 0, .long 0])), (q1, .inl (dA 1, 24, .inl (fun _ => 0))), (q2, .inl (dA 2, 24, .inr (.inl (fun _ => 0)))), (q3, .inl (dA 0, 24, .inl (fun _ => 0))), (q4, .inl (dA 0, 12, .inl (fun _ => 0))), (q5, .inl (dA 0, 12, .inl (fun _ => 0))), (q6, .inl (dA 0, 12, .inl (fun _ => 0))), (q7, .inl (dA 0, 144, .inl (fun _ => 0))), (q8, .inl (dA 0, 144, .inl (fun _ => 0))), (q9, .inl (dA 0, 12, .inl (fun _ => 0))), (q10, .inl (dA 0, 12, .inl (fun _ => 0))), (q11, .inl (dA 0, 288, .inl (fun _ => 0))), (q12, .inl (dA 0, 12, .inl (fun _ => 0))), (q13, .inl (dA 0, 12, .inl (fun _ => 0))), (q14, .inl (dA 0, 12, .inl (fun _ => 0))), (q15, .inl (dA 0, 12, .inl (fun _ => 0))), (q16, .inl (dA 1, 288, .inl (fun _ => 0))), (q17, .inl (dA 1, 288, .inl (fun _ => 0))), (q18, .inl (dA 1, 12, .inl (fun _ => 0))), (q19, .inl (dA 2, 288, .inr (.inl (fun _ => 0)))), (q20, .inl (dA 0, 12, .inl (fun _ => 0))), (q21, .inl (dA 0, 12, .inl (fun _ => 0))), (q22, .inl (dA 0, 6, .inl (fun _ => 0))), (q23, .inl (dA 0, 6, .inl (fun _ => 0))), (q24, .inl (dA 2, 6, .inr (.inl (fun _ => 0)))), (q25, .inl (dA 2, 24, .inr (.inl (fun _ => 0)))), (q26, .inl (dA 2, 24, .inr (.inl (fun _ => 0))))]) C X.2.1.1 X.2.2.2.2.2.2.2.1 0 d_M_init_240 ff_M_90 rfl rfl rfl (Nat.le_of_ble_eq_true rfl) rfl ?_
    exact r_vret X ⟨by decide, by decide⟩ d_M_init_243 ⟨q1, q2, q3, q4, q5, q6, q7, q8, q9, q10, q11, q12, q13, q14, q15, q16, q17, q18, q19, q20, q21, q22, q23, q24, q25, q26, by rw [show mTm a0 = 1 from (if_neg c1)]⟩
end
section
/-! the class's constructor (by program: wip/gen/ctorx.py) -/
abbrev cF0 : va_E := .inr (1, [.int 0, .long 0, .int (-1)])
abbrev cG0 : va_E := .inr (2, [.int 0, .long 0, .long 0, .int 0])
abbrev qA (f : Nat → Option Nat) : (Nat → Int32) ⊕ (Nat → Int64) ⊕ (Nat → UInt32) ⊕ (Nat → UInt64) ⊕ (Nat → Option Nat) := .inr (.inr (.inr (.inr f)))
def aG (dA : Nat → ClassId) (p : Nat → Nat) : va_W := [(p 0, .inr (0, [.ref (p 1), .ref (p 2), .int 0, .int 0, .int (-1), .ref (p 3), .int 0, .int 0, .long 0, .int (-1), .int 0, .int 0, .int 0])), (p 1, .inl (dA 0, 12, .inl (fun _ => 0))), (p 2, .inl (dA 0, 12, .inl (fun _ => 0))), (p 3, .inr (3, [.ref (p 4), .ref (p 5), .ref (p 6), .ref (p 7), .int 0])), (p 4, .inl (dA 0, 12, .inl (fun _ => 0))), (p 5, .inl (dA 1, 12, .inl (fun _ => 0))), (p 6, .inl (dA 1, 12, .inl (fun _ => 0))), (p 7, .inl (dA 2, 12, .inr (.inl (fun _ => 0))))]
def xB (dA : Nat → ClassId) (T : Int32) (h0 q1 q2 q3 q4 : Nat) (LF : List Nat) (LA : List (Nat → Nat)) (LM : List Nat) : va_W := [(h0, .inr (4, [.int T, .ref q1, .ref q2, .ref q3, .int 0, .int 0, .int 0, .ref q4, .int 0, .int 0])), (q1, .inl (dA 3, 24, qA (fun j => LF[j]?))), (q2, .inl (dA 4, 12, qA (fun j => LA[j]?.map (fun p => p 0)))), (q3, .inl (dA 5, 6, qA (fun j => LM[j]?))), (q4, .inl (dA 0, 13, .inl (fun _ => 0)))]
def xFS (LF : List Nat) : va_W := LF.map (fun a => (a, cF0))
def xAS (dA : Nat → ClassId) (LA : List (Nat → Nat)) : va_W := LA.flatMap (aG dA)
def xMS (LM : List Nat) : va_W := LM.map (fun a => (a, cG0))
def xWd (dA : Nat → ClassId) (T : Int32) (h0 q1 q2 q3 q4 : Nat) (LF : List Nat) (LA : List (Nat → Nat)) (LM : List Nat) : va_W := ((xB dA T h0 q1 q2 q3 q4 LF LA LM ++ xFS LF) ++ xAS dA LA) ++ xMS LM
theorem up_list {α : Type} {k : Nat} {LF : List α} {f : α → Nat} (hk : LF.length = k) (q : α) : va_up (fun j => LF[j]?.map f) k (some (f q)) = fun j => (LF ++ [q])[j]?.map f := by
  funext j
  unfold va_up
  by_cases e : j = k
  · subst e
    rw [if_pos rfl, List.getElem?_append_right (by omega), show j - LF.length = 0 by omega]
    rfl
  · rw [if_neg e]
    by_cases h : j < LF.length
    · rw [List.getElem?_append_left h]
    · show LF[j]?.map f = _
      rw [List.getElem?_append_right (by omega), List.getElem?_eq_none (show LF.length ≤ j by omega), List.getElem?_eq_none (show [q].length ≤ j - LF.length by show 1 ≤ j - LF.length; omega)]
theorem up_list0 {k : Nat} {LF : List Nat} (hk : LF.length = k) (q : Nat) : va_up (fun j => LF[j]?) k (some q) = fun j => (LF ++ [q])[j]? := by
  have h := up_list (f := fun a => a) hk q
  simpa using h
theorem at_end {α : Type} (l : List α) (z : α) (r : List α) : (l ++ z :: r)[l.length]? = some z := by
  rw [List.getElem?_append_right (Nat.le_refl _), Nat.sub_self]
  rfl
theorem r_nn {S : Type} {wd : S → Heap → Prop} {A : Nat → Prop} {ad : Nat → Nat → Nat} {x : kCx} {nn : Nat × Nat} {Q : State → Prop} {pc : Nat} {ls : List (Option kV)} {st : List kV} {g : S} {a b : Nat} (e1 : nn.1 = a) (e2 : nn.2 = b) (kk : Wk wd A ad x (a, b) Q pc ls st g) : Wk wd A ad x nn Q pc ls st g := by
  subst e1; subst e2
  exact kk
theorem r_ws {S : Type} {wd : S → Heap → Prop} {A : Nat → Prop} {ad : Nat → Nat → Nat} {x : kCx} {nn : Nat × Nat} {Q : State → Prop} {pc : Nat} {ls : List (Option kV)} {st : List kV} {g g2 : S} (e : g = g2) (kk : Wk wd A ad x nn Q pc ls st g2) : Wk wd A ad x nn Q pc ls st g := by
  subst e
  exact kk
def xTm (a : Int32) : Int32 := if 1 < (if a < 9 then a else 9) then (if a < 9 then a else 9) else 1
set_option maxHeartbeats 4000000 in
set_option maxRecDepth 100000 in
theorem l_X_i1 {x : kCx} {Q : State → Prop} (l : Launch) (D : va_G) (dA : Nat → ClassId) (sz h0 q1 q2 q3 q4 : Nat) (T a0 : Int32) (X : rIn l D dA b_X_init y_X_init.cls 3 3 60 130 1231 sz x) (K9 : ∀ LF : List Nat, LF.length = 24 → Wk (rWd D (va_A [(h0, (.inr (4, [.int 0, .null, .null, .null, .int 0, .int 0, .int 0, .null, .int 0, .int 0])))] sz)) (va_A [(h0, (.inr (4, [.int 0, .null, .null, .null, .int 0, .int 0, .int 0, .null, .int 0, .int 0])))] sz) rAd x (28, 127) Q 105 [some (.inr (.inr (0, h0))), some (.inl a0), some (.inl (nI 24))] [] (xWd dA T h0 q1 q2 q3 q4 LF [] [])) : ∀ (n k : Nat) (LF : List Nat), k + n = 24 → LF.length = k → Wk (rWd D (va_A [(h0, (.inr (4, [.int 0, .null, .null, .null, .int 0, .int 0, .int 0, .null, .int 0, .int 0])))] sz)) (va_A [(h0, (.inr (4, [.int 0, .null, .null, .null, .int 0, .int 0, .int 0, .null, .int 0, .int 0])))] sz) rAd x (4 + k, 55 + 3 * k) Q 80 [some (.inr (.inr (0, h0))), some (.inl a0), some (.inl (nI k))] [] (xWd dA T h0 q1 q2 q3 q4 LF [] []) := by
  have C := X.1
  intro n
  induction n with
  | zero =>
    intro k LF hk hl
    refine k_iload_n C d_X_init_80 rfl rfl ?_
    refine k_bipush C (v := 24) d_X_init_81 (by decide) ?_
    refine k_icmp_ge C (tgt := 105) d_X_init_83 (by decide) (fun c1 => ?_) (fun c1 => ?_)
    · have e9 : k = 24 := by omega
      subst e9
      exact K9 LF hl
    · exact absurd (show (24 : Int32) ≤ nI k from nI_le (a := 24) (by omega) (by omega)) c1
  | succ n ih =>
    intro k LF hk hl
    refine k_iload_n C d_X_init_80 rfl rfl ?_
    refine k_bipush C (v := 24) d_X_init_81 (by decide) ?_
    refine k_icmp_ge C (tgt := 105) d_X_init_83 (by decide) (fun c1 => ?_) (fun c1 => ?_)
    · exact absurd c1 (show ¬ (24 : Int32) ≤ nI k from nI_ge (b := 24) (by omega) (by omega))
    · refine k_aload_n C d_X_init_86 rfl rfl ?_
      refine r_get (v := .inr (.inr (0, q1))) C X.2.1.1 0 d_X_init_87 fl_X_11 rfl rfl ?_
      refine k_iload_n C d_X_init_90 rfl rfl ?_
      refine r_new C X.2.1.1 (fun q h => Or.inr (by rw [← X.2.2.2.2.2.2.2.2]; exact h)) d_X_init_91 nw_X_9 (by rw [X.2.2.2.1]; show 4 + k + 1 ≤ 130; omega) (by rw [X.2.2.2.1]; show 55 + 3 * k + 3 ≤ 1231; omega) (fun q => ?_)
      refine k_dup C d_X_init_94 rfl ?_
      refine r_callN (wr := xWd dA T h0 q1 q2 q3 q4 LF [] []) X (fun q h => Or.inr h) d_X_init_95 (fun sz2 => c_F_init l D dA sz2 q) X.2.1.2.1 kc_F_init ki_F_init kn_F_init rfl (by decide +kernel) ⟨by decide, by decide⟩ ⟨by show 4 + k + 1 + 0 ≤ 130; omega, by show 55 + 3 * k + 3 + 0 ≤ 1231; omega⟩ rfl rfl (Nat.le_of_ble_eq_true rfl) (fun w1 hw1 => ?_)
      subst hw1
      refine r_aast (ws' := xWd dA T h0 q1 q2 q3 q4 (LF ++ [q]) [] []) C X.2.1.1 1 3 (xWd dA T h0 q1 q2 q3 q4 LF [] []).length 1 (r := (R_F, T_F, 3)) d_X_init_98 rfl rfl (at_end _ _ _) rfl (show vp_in (nI k) 24 from vp_in_nI (by omega) (by decide)) ?_ ?_
      · have e1 : (nI k).toNatClampNeg = k := nI_clamp (by omega)
        rw [e1, up_list0 hl]
        simp [xWd, xB, xFS, xAS, xMS]
      refine k_iinc C (w := nI (k + 1)) d_X_init_99 rfl (nI_inc k) rfl ?_
      refine k_goto C (tgt := 80) d_X_init_102 (by decide) ?_
      refine r_nn (a := 4 + (k + 1)) (b := 55 + 3 * (k + 1)) (by show 4 + k + 1 + 0 = _; omega) (by show 55 + 3 * k + 3 + 0 = _; omega) ?_
      exact ih (k + 1) (LF ++ [q]) (by omega) (by simp [hl])
set_option maxHeartbeats 4000000 in
set_option maxRecDepth 100000 in
theorem l_X_i2 {x : kCx} {Q : State → Prop} (l : Launch) (D : va_G) (dA : Nat → ClassId) (sz h0 q1 q2 q3 q4 : Nat) (T a0 : Int32) (X : rIn l D dA b_X_init y_X_init.cls 3 3 60 130 1231 sz x) (LF : List Nat) (K9 : ∀ LA : List (Nat → Nat), LA.length = 12 → Wk (rWd D (va_A [(h0, (.inr (4, [.int 0, .null, .null, .null, .int 0, .int 0, .int 0, .null, .int 0, .int 0])))] sz)) (va_A [(h0, (.inr (4, [.int 0, .null, .null, .null, .int 0, .int 0, .int 0, .null, .int 0, .int 0])))] sz) rAd x (124, 1207) Q 132 [some (.inr (.inr (0, h0))), some (.inl a0), some (.inl (nI 12))] [] (xWd dA T h0 q1 q2 q3 q4 LF LA [])) : ∀ (n k : Nat) (LA : List (Nat → Nat)), k + n = 12 → LA.length = k → Wk (rWd D (va_A [(h0, (.inr (4, [.int 0, .null, .null, .null, .int 0, .int 0, .int 0, .null, .int 0, .int 0])))] sz)) (va_A [(h0, (.inr (4, [.int 0, .null, .null, .null, .int 0, .int 0, .int 0, .null, .int 0, .int 0])))] sz) rAd x (28 + 8 * k, 127 + 90 * k) Q 107 [some (.inr (.inr (0, h0))), some (.inl a0), some (.inl (nI k))] [] (xWd dA T h0 q1 q2 q3 q4 LF LA []) := by
  have C := X.1
  intro n
  induction n with
  | zero =>
    intro k LA hk hl
    refine k_iload_n C d_X_init_107 rfl rfl ?_
    refine k_bipush C (v := 12) d_X_init_108 (by decide) ?_
    refine k_icmp_ge C (tgt := 132) d_X_init_110 (by decide) (fun c1 => ?_) (fun c1 => ?_)
    · have e9 : k = 12 := by omega
      subst e9
      exact K9 LA hl
    · exact absurd (show (12 : Int32) ≤ nI k from nI_le (a := 12) (by omega) (by omega)) c1
  | succ n ih =>
    intro k LA hk hl
    refine k_iload_n C d_X_init_107 rfl rfl ?_
    refine k_bipush C (v := 12) d_X_init_108 (by decide) ?_
    refine k_icmp_ge C (tgt := 132) d_X_init_110 (by decide) (fun c1 => ?_) (fun c1 => ?_)
    · exact absurd c1 (show ¬ (12 : Int32) ≤ nI k from nI_ge (b := 12) (by omega) (by omega))
    · refine k_aload_n C d_X_init_113 rfl rfl ?_
      refine r_get (v := .inr (.inr (0, q2))) C X.2.1.1 0 d_X_init_114 fl_X_17 rfl rfl ?_
      refine k_iload_n C d_X_init_117 rfl rfl ?_
      refine r_new C X.2.1.1 (fun q h => Or.inr (by rw [← X.2.2.2.2.2.2.2.2]; exact h)) d_X_init_118 nw_X_15 (by rw [X.2.2.2.1]; show 28 + 8 * k + 1 ≤ 130; omega) (by rw [X.2.2.2.1]; show 127 + 90 * k + 13 ≤ 1231; omega) (fun q => ?_)
      refine k_dup C d_X_init_121 rfl ?_
      refine r_callN (wr := xWd dA T h0 q1 q2 q3 q4 LF LA []) X (fun q h => Or.inr h) d_X_init_122 (fun sz2 => c_A_init l D dA sz2 q) X.2.1.2.2.1 kc_A_init ki_A_init kn_A_init rfl (by decide +kernel) ⟨by decide, by decide⟩ ⟨by show 28 + 8 * k + 1 + 7 ≤ 130; omega, by show 127 + 90 * k + 13 + 77 ≤ 1231; omega⟩ rfl rfl (Nat.le_of_ble_eq_true rfl) (fun w1 hw1 => ?_)
      obtain ⟨b1, b2, b3, b4, b5, b6, b7, hw1⟩ := hw1
      obtain ⟨p, ep⟩ : ∃ p : Nat → Nat, p = (fun r => match r with | 0 => q | 1 => b1 | 2 => b2 | 3 => b3 | 4 => b4 | 5 => b5 | 6 => b6 | _ => b7) := ⟨_, rfl⟩
      have hw2 : w1 = aG dA p := by rw [hw1, ep]; rfl
      have hq : q = p 0 := by subst ep; rfl
      rw [hq]
      rw [hw2]
      refine r_aast (ws' := xWd dA T h0 q1 q2 q3 q4 LF (LA ++ [p]) []) C X.2.1.1 2 4 (xWd dA T h0 q1 q2 q3 q4 LF LA []).length 0 (r := (R_A, T_A, 13)) d_X_init_125 rfl rfl (at_end _ _ _) rfl (show vp_in (nI k) 12 from vp_in_nI (by omega) (by decide)) ?_ ?_
      · have e1 : (nI k).toNatClampNeg = k := nI_clamp (by omega)
        rw [e1, up_list (f := fun p : Nat → Nat => p 0) hl]
        simp [xWd, xB, xFS, xAS, xMS]
      refine k_iinc C (w := nI (k + 1)) d_X_init_126 rfl (nI_inc k) rfl ?_
      refine k_goto C (tgt := 107) d_X_init_129 (by decide) ?_
      refine r_nn (a := 28 + 8 * (k + 1)) (b := 127 + 90 * (k + 1)) (by show 28 + 8 * k + 1 + 7 = _; omega) (by show 127 + 90 * k + 13 + 77 = _; omega) ?_
      exact ih (k + 1) (LA ++ [p]) (by omega) (by simp [hl])
set_option maxHeartbeats 4000000 in
set_option maxRecDepth 100000 in
theorem l_X_i3 {x : kCx} {Q : State → Prop} (l : Launch) (D : va_G) (dA : Nat → ClassId) (sz h0 q1 q2 q3 q4 : Nat) (T a0 : Int32) (X : rIn l D dA b_X_init y_X_init.cls 3 3 60 130 1231 sz x) (LF : List Nat) (LA : List (Nat → Nat)) (K9 : ∀ LM : List Nat, LM.length = 6 → Wk (rWd D (va_A [(h0, (.inr (4, [.int 0, .null, .null, .null, .int 0, .int 0, .int 0, .null, .int 0, .int 0])))] sz)) (va_A [(h0, (.inr (4, [.int 0, .null, .null, .null, .int 0, .int 0, .int 0, .null, .int 0, .int 0])))] sz) rAd x (130, 1231) Q 159 [some (.inr (.inr (0, h0))), some (.inl a0), some (.inl (nI 6))] [] (xWd dA T h0 q1 q2 q3 q4 LF LA LM)) : ∀ (n k : Nat) (LM : List Nat), k + n = 6 → LM.length = k → Wk (rWd D (va_A [(h0, (.inr (4, [.int 0, .null, .null, .null, .int 0, .int 0, .int 0, .null, .int 0, .int 0])))] sz)) (va_A [(h0, (.inr (4, [.int 0, .null, .null, .null, .int 0, .int 0, .int 0, .null, .int 0, .int 0])))] sz) rAd x (124 + k, 1207 + 4 * k) Q 134 [some (.inr (.inr (0, h0))), some (.inl a0), some (.inl (nI k))] [] (xWd dA T h0 q1 q2 q3 q4 LF LA LM) := by
  have C := X.1
  intro n
  induction n with
  | zero =>
    intro k LM hk hl
    refine k_iload_n C d_X_init_134 rfl rfl ?_
    refine k_bipush C (v := 6) d_X_init_135 (by decide) ?_
    refine k_icmp_ge C (tgt := 159) d_X_init_137 (by decide) (fun c1 => ?_) (fun c1 => ?_)
    · have e9 : k = 6 := by omega
      subst e9
      exact K9 LM hl
    · exact absurd (show (6 : Int32) ≤ nI k from nI_le (a := 6) (by omega) (by omega)) c1
  | succ n ih =>
    intro k LM hk hl
    refine k_iload_n C d_X_init_134 rfl rfl ?_
    refine k_bipush C (v := 6) d_X_init_135 (by decide) ?_
    refine k_icmp_ge C (tgt := 159) d_X_init_137 (by decide) (fun c1 => ?_) (fun c1 => ?_)
    · exact absurd c1 (show ¬ (6 : Int32) ≤ nI k from nI_ge (b := 6) (by omega) (by omega))
    · refine k_aload_n C d_X_init_140 rfl rfl ?_
      refine r_get (v := .inr (.inr (0, q3))) C X.2.1.1 0 d_X_init_141 fl_X_23 rfl rfl ?_
      refine k_iload_n C d_X_init_144 rfl rfl ?_
      refine r_new C X.2.1.1 (fun q h => Or.inr (by rw [← X.2.2.2.2.2.2.2.2]; exact h)) d_X_init_145 nw_X_21 (by rw [X.2.2.2.1]; show 124 + k + 1 ≤ 130; omega) (by rw [X.2.2.2.1]; show 1207 + 4 * k + 4 ≤ 1231; omega) (fun q => ?_)
      refine k_dup C d_X_init_148 rfl ?_
      refine r_callN (wr := xWd dA T h0 q1 q2 q3 q4 LF LA LM) X (fun q h => Or.inr h) d_X_init_149 (fun sz2 => c_G_init l D dA sz2 q) X.2.1.2.2.2.1 kc_G_init ki_G_init kn_G_init rfl (by decide +kernel) ⟨by decide, by decide⟩ ⟨by show 124 + k + 1 + 0 ≤ 130; omega, by show 1207 + 4 * k + 4 + 0 ≤ 1231; omega⟩ rfl rfl (Nat.le_of_ble_eq_true rfl) (fun w1 hw1 => ?_)
      subst hw1
      refine r_aast (ws' := xWd dA T h0 q1 q2 q3 q4 LF LA (LM ++ [q])) C X.2.1.1 3 5 (xWd dA T h0 q1 q2 q3 q4 LF LA LM).length 2 (r := (R_G, T_G, 4)) d_X_init_152 rfl rfl (at_end _ _ _) rfl (show vp_in (nI k) 6 from vp_in_nI (by omega) (by decide)) ?_ ?_
      · have e1 : (nI k).toNatClampNeg = k := nI_clamp (by omega)
        rw [e1, up_list0 hl]
        simp [xWd, xB, xFS, xAS, xMS]
      refine k_iinc C (w := nI (k + 1)) d_X_init_153 rfl (nI_inc k) rfl ?_
      refine k_goto C (tgt := 134) d_X_init_156 (by decide) ?_
      refine r_nn (a := 124 + (k + 1)) (b := 1207 + 4 * (k + 1)) (by show 124 + k + 1 + 0 = _; omega) (by show 1207 + 4 * k + 4 + 0 = _; omega) ?_
      exact ih (k + 1) (LM ++ [q]) (by omega) (by simp [hl])
theorem mm_l : Cond.methodLink "DynamicNeeds" 47 Lib.Math.min.name ∈ kT := kT_in (by decide +kernel)
theorem mm_s : Cond.static Lib.Math.min.name ∈ kT := kT_in (by decide +kernel)
theorem mx_l : Cond.methodLink "DynamicNeeds" 53 Lib.Math.max.name ∈ kT := kT_in (by decide +kernel)
theorem mx_s : Cond.static Lib.Math.max.name ∈ kT := kT_in (by decide +kernel)
theorem mm_i : Cond.initialized "java/lang/Math" ∈ kT := kT_in (by decide +kernel)
theorem mm_c : Cond.code Lib.Math.min.name Lib.Math.min.code 2 (some .int) ∈ kT := kT_in ⟨List.mem_of_getElem? (i := 49) (by decide +kernel), by decide +kernel⟩
theorem mx_c : Cond.code Lib.Math.max.name Lib.Math.max.code 2 (some .int) ∈ kT := kT_in ⟨List.mem_of_getElem? (i := 52) (by decide +kernel), by decide +kernel⟩
set_option maxHeartbeats 4000000 in
set_option maxRecDepth 100000 in
theorem c_X_init (l : Launch) (D : va_G) (dA : Nat → ClassId) (sz h0 : Nat) (a0 : Int32) : rMet l D dA y_X_init b_X_init 3 3 60 130 1231 sz h0 (.inr (4, [.int 0, .null, .null, .null, .int 0, .int 0, .int 0, .null, .int 0, .int 0])) [.inl a0] (fun ws => ∃ (q1 q2 q3 q4 : Nat) (LF : List Nat) (LA : List (Nat → Nat)) (LM : List Nat), LF.length = 24 ∧ LA.length = 12 ∧ LM.length = 6 ∧ ws = xWd dA (xTm a0) h0 q1 q2 q3 q4 LF LA LM) := by
  refine r_enter (by decide) rfl [some (.inr (.inr (0, h0))), some (.inl a0), none] rfl rfl (Nat.le_of_ble_eq_true rfl) (fun x X => ?_)
  have C := X.1
  refine k_aload_n C d_X_init_0 rfl rfl ?_
  refine r_obj C d_X_init_1 ol_X ob_i ob_c X.2.2.2.2.1 (by rw [X.2.2.2.1]; decide) (by rw [X.2.2.2.1]; exact Nat.le_of_ble_eq_true rfl) ?_
  refine k_aload_n C d_X_init_4 rfl rfl ?_
  refine k_bipush C (v := 24) d_X_init_5 (by decide) ?_
  refine r_newq (N := 24) X (fun q h => Or.inr h) 3 d_X_init_7 (kT_in (by decide +kernel)) X.2.1.2.2.2.2.2.1 rfl (by decide) (by decide) (by decide) (by decide) (by decide) (fun q1 => ?_)
  refine r_putF (ws' := [(h0, .inr (4, [.int 0, .ref q1, .null, .null, .int 0, .int 0, .int 0, .null, .int 0, .int 0])), (q1, .inl (dA 3, 24, .inr (.inr (.inr (.inr (fun _ => none))))))]) C X.2.1.1 X.2.2.2.2.2.2.2.1 0 d_X_init_10 ff_X_11 rfl rfl rfl (Nat.le_of_ble_eq_true rfl) rfl ?_
  refine k_aload_n C d_X_init_13 rfl rfl ?_
  refine k_bipush C (v := 12) d_X_init_14 (by decide) ?_
  refine r_newq (N := 12) X (fun q h => Or.inr h) 4 d_X_init_16 (kT_in (by decide +kernel)) X.2.1.2.2.2.2.2.2.1 rfl (by decide) (by decide) (by decide) (by decide) (by decide) (fun q2 => ?_)
  refine r_putF (ws' := [(h0, .inr (4, [.int 0, .ref q1, .ref q2, .null, .int 0, .int 0, .int 0, .null, .int 0, .int 0])), (q1, .inl (dA 3, 24, .inr (.inr (.inr (.inr (fun _ => none)))))), (q2, .inl (dA 4, 12, .inr (.inr (.inr (.inr (fun _ => none))))))]) C X.2.1.1 X.2.2.2.2.2.2.2.1 0 d_X_init_19 ff_X_17 rfl rfl rfl (Nat.le_of_ble_eq_true rfl) rfl ?_
  refine k_aload_n C d_X_init_22 rfl rfl ?_
  refine k_bipush C (v := 6) d_X_init_23 (by decide) ?_
  refine r_newq (N := 6) X (fun q h => Or.inr h) 5 d_X_init_25 (kT_in (by decide +kernel)) X.2.1.2.2.2.2.2.2.2 rfl (by decide) (by decide) (by decide) (by decide) (by decide) (fun q3 => ?_)
  refine r_putF (ws' := [(h0, .inr (4, [.int 0, .ref q1, .ref q2, .ref q3, .int 0, .int 0, .int 0, .null, .int 0, .int 0])), (q1, .inl (dA 3, 24, .inr (.inr (.inr (.inr (fun _ => none)))))), (q2, .inl (dA 4, 12, .inr (.inr (.inr (.inr (fun _ => none)))))), (q3, .inl (dA 5, 6, .inr (.inr (.inr (.inr (fun _ => none))))))]) C X.2.1.1 X.2.2.2.2.2.2.2.1 0 d_X_init_28 ff_X_23 rfl rfl rfl (Nat.le_of_ble_eq_true rfl) rfl ?_
  refine k_aload_n C d_X_init_31 rfl rfl ?_
  refine k_iconst C (v := 0) d_X_init_32 (by decide) ?_
  refine r_put (ws' := [(h0, .inr (4, [.int 0, .ref q1, .ref q2, .ref q3, .int 0, .int 0, .int 0, .null, .int 0, .int 0])), (q1, .inl (dA 3, 24, .inr (.inr (.inr (.inr (fun _ => none)))))), (q2, .inl (dA 4, 12, .inr (.inr (.inr (.inr (fun _ => none)))))), (q3, .inl (dA 5, 6, .inr (.inr (.inr (.inr (fun _ => none))))))]) C X.2.1.1 0 d_X_init_33 fp_X_27 rfl rfl rfl (Nat.le_of_ble_eq_true rfl) rfl ?_
  refine k_aload_n C d_X_init_36 rfl rfl ?_
  refine k_iconst C (v := 0) d_X_init_37 (by decide) ?_
  refine r_put (ws' := [(h0, .inr (4, [.int 0, .ref q1, .ref q2, .ref q3, .int 0, .int 0, .int 0, .null, .int 0, .int 0])), (q1, .inl (dA 3, 24, .inr (.inr (.inr (.inr (fun _ => none)))))), (q2, .inl (dA 4, 12, .inr (.inr (.inr (.inr (fun _ => none)))))), (q3, .inl (dA 5, 6, .inr (.inr (.inr (.inr (fun _ => none))))))]) C X.2.1.1 0 d_X_init_38 fp_X_31 rfl rfl rfl (Nat.le_of_ble_eq_true rfl) rfl ?_
  refine k_aload_n C d_X_init_41 rfl rfl ?_
  refine k_iconst C (v := 0) d_X_init_42 (by decide) ?_
  refine r_put (ws' := [(h0, .inr (4, [.int 0, .ref q1, .ref q2, .ref q3, .int 0, .int 0, .int 0, .null, .int 0, .int 0])), (q1, .inl (dA 3, 24, .inr (.inr (.inr (.inr (fun _ => none)))))), (q2, .inl (dA 4, 12, .inr (.inr (.inr (.inr (fun _ => none)))))), (q3, .inl (dA 5, 6, .inr (.inr (.inr (.inr (fun _ => none))))))]) C X.2.1.1 0 d_X_init_43 fp_X_34 rfl rfl rfl (Nat.le_of_ble_eq_true rfl) rfl ?_
  refine k_aload_n C d_X_init_46 rfl rfl ?_
  refine k_bipush C (v := 13) d_X_init_47 (by decide) ?_
  refine r_newa (a0 := (13, .inl (fun _ => 0))) X (fun q h => Or.inr h) 0 d_X_init_49 ac_i rfl rfl ru_i (fun _ => rfl) (by decide) (by decide) (by decide) (by decide) (by decide) (fun q4 => ?_)
  refine r_putF (ws' := [(h0, .inr (4, [.int 0, .ref q1, .ref q2, .ref q3, .int 0, .int 0, .int 0, .ref q4, .int 0, .int 0])), (q1, .inl (dA 3, 24, .inr (.inr (.inr (.inr (fun _ => none)))))), (q2, .inl (dA 4, 12, .inr (.inr (.inr (.inr (fun _ => none)))))), (q3, .inl (dA 5, 6, .inr (.inr (.inr (.inr (fun _ => none)))))), (q4, .inl (dA 0, 13, .inl (fun _ => 0)))]) C X.2.1.1 X.2.2.2.2.2.2.2.1 0 d_X_init_51 ff_X_37 rfl rfl rfl (Nat.le_of_ble_eq_true rfl) rfl ?_
  refine k_aload_n C d_X_init_54 rfl rfl ?_
  refine k_iconst C (v := 0) d_X_init_55 (by decide) ?_
  refine r_put (ws' := [(h0, .inr (4, [.int 0, .ref q1, .ref q2, .ref q3, .int 0, .int 0, .int 0, .ref q4, .int 0, .int 0])), (q1, .inl (dA 3, 24, .inr (.inr (.inr (.inr (fun _ => none)))))), (q2, .inl (dA 4, 12, .inr (.inr (.inr (.inr (fun _ => none)))))), (q3, .inl (dA 5, 6, .inr (.inr (.inr (.inr (fun _ => none)))))), (q4, .inl (dA 0, 13, .inl (fun _ => 0)))]) C X.2.1.1 0 d_X_init_56 fp_X_41 rfl rfl rfl (Nat.le_of_ble_eq_true rfl) rfl ?_
  refine k_aload_n C d_X_init_59 rfl rfl ?_
  refine k_iconst C (v := 0) d_X_init_60 (by decide) ?_
  refine r_put (ws' := [(h0, .inr (4, [.int 0, .ref q1, .ref q2, .ref q3, .int 0, .int 0, .int 0, .ref q4, .int 0, .int 0])), (q1, .inl (dA 3, 24, .inr (.inr (.inr (.inr (fun _ => none)))))), (q2, .inl (dA 4, 12, .inr (.inr (.inr (.inr (fun _ => none)))))), (q3, .inl (dA 5, 6, .inr (.inr (.inr (.inr (fun _ => none)))))), (q4, .inl (dA 0, 13, .inl (fun _ => 0)))]) C X.2.1.1 0 d_X_init_61 fp_X_44 rfl rfl rfl (Nat.le_of_ble_eq_true rfl) rfl ?_
  refine k_aload_n C d_X_init_64 rfl rfl ?_
  refine k_iconst C (v := 1) d_X_init_65 (by decide) ?_
  refine k_bipush C (v := 9) d_X_init_66 (by decide) ?_
  refine k_iload_n C d_X_init_68 rfl rfl ?_
  refine r_min X d_X_init_69 mm_l mm_s mm_i mm_c rfl (by decide) (Nat.le_of_ble_eq_true rfl) ⟨by decide, by decide⟩ ?_
  refine r_max X d_X_init_72 mx_l mx_s mm_i mx_c rfl (by decide) (Nat.le_of_ble_eq_true rfl) ⟨by decide, by decide⟩ ?_
  refine r_putF (ws' := [(h0, .inr (4, [.int (xTm a0), .ref q1, .ref q2, .ref q3, .int 0, .int 0, .int 0, .ref q4, .int 0, .int 0])), (q1, .inl (dA 3, 24, .inr (.inr (.inr (.inr (fun _ => none)))))), (q2, .inl (dA 4, 12, .inr (.inr (.inr (.inr (fun _ => none)))))), (q3, .inl (dA 5, 6, .inr (.inr (.inr (.inr (fun _ => none)))))), (q4, .inl (dA 0, 13, .inl (fun _ => 0)))]) C X.2.1.1 X.2.2.2.2.2.2.2.1 0 d_X_init_75 ff_X_56 rfl rfl rfl (Nat.le_of_ble_eq_true rfl) rfl ?_
  refine k_iconst C (v := 0) d_X_init_78 (by decide) ?_
  refine k_istore_n C d_X_init_79 rfl (Nat.le_of_ble_eq_true rfl) rfl ?_
  refine r_nn (a := 4 + 0) (b := 55 + 3 * 0) rfl rfl ?_
  refine l_X_i1 l D dA sz h0 q1 q2 q3 q4 (xTm a0) a0 X (fun LF hF => ?_) 24 0 [] (by omega) rfl
  refine k_iconst C (v := 0) d_X_init_105 (by decide) ?_
  refine k_istore_n C d_X_init_106 rfl (Nat.le_of_ble_eq_true rfl) rfl ?_
  refine r_nn (a := 28 + 8 * 0) (b := 127 + 90 * 0) rfl rfl ?_
  refine l_X_i2 l D dA sz h0 q1 q2 q3 q4 (xTm a0) a0 X LF (fun LA hA => ?_) 12 0 [] (by omega) rfl
  refine k_iconst C (v := 0) d_X_init_132 (by decide) ?_
  refine k_istore_n C d_X_init_133 rfl (Nat.le_of_ble_eq_true rfl) rfl ?_
  refine r_nn (a := 124 + 0) (b := 1207 + 4 * 0) rfl rfl ?_
  refine l_X_i3 l D dA sz h0 q1 q2 q3 q4 (xTm a0) a0 X LF LA (fun LM hM => ?_) 6 0 [] (by omega) rfl
  exact r_vret X ⟨by decide, by decide⟩ d_X_init_159 ⟨q1, q2, q3, q4, LF, LA, LM, hF, hA, hM, rfl⟩
end
section
/-! bits (began as rows of kit/laws/BITS.to-paste) -/
def bt (x : Int32) (i : Nat) : Bool := x.toBitVec.getLsbD i
theorem b_ext {x y : Int32} (h : ∀ i, i < 32 → bt x i = bt y i) : x = y := Int32.toBitVec_inj.mp (BitVec.eq_of_getLsbD_eq (fun i hi => h i hi))
theorem b_or (x y : Int32) (i : Nat) : bt (x ||| y) i = (bt x i || bt y i) := by unfold bt; rw [Int32.toBitVec_or, BitVec.getLsbD_or]
theorem b_and (x y : Int32) (i : Nat) : bt (x &&& y) i = (bt x i && bt y i) := by unfold bt; rw [Int32.toBitVec_and, BitVec.getLsbD_and]
theorem b_xor (x y : Int32) (i : Nat) : bt (x ^^^ y) i = (bt x i ^^ bt y i) := by unfold bt; rw [Int32.toBitVec_xor, BitVec.getLsbD_xor]
theorem b_big {x : Int32} {i : Nat} (h : 32 ≤ i) : bt x i = false := BitVec.getLsbD_of_ge _ _ h
theorem b_m1 : ∀ i, i < 32 → bt (-1) i = true := by decide +kernel
theorem b_0 (i : Nat) : bt 0 i = false := BitVec.getLsbD_zero
theorem s_l : ∀ n, n < 32 → ((nI n &&& 31).toBitVec.smod 32).toNat = n := by decide +kernel
theorem s_u : ∀ n, n < 32 → (((nI n).toUInt32 &&& Int32.toUInt32 31).toBitVec % 32).toNat = n := by decide +kernel
theorem b_shl (n : Nat) (hn : n < 32) (x : Int32) {i : Nat} (hi : i < 32) : bt (x <<< (nI n &&& 31)) i = (decide (n ≤ i) && bt x (i - n)) := by
  unfold bt
  rw [Int32.toBitVec_shiftLeft]
  show (x.toBitVec <<< ((nI n &&& 31).toBitVec.smod 32).toNat).getLsbD i = _
  rw [s_l n hn, BitVec.getLsbD_shiftLeft]
  rcases Nat.lt_or_ge i n with h | h
  · simp [h, Nat.not_le.mpr h]
  · simp [hi, h, Nat.not_lt.mpr h]
theorem b_ushr (n : Nat) (hn : n < 32) (x : Int32) (i : Nat) : bt ((x.toUInt32 >>> ((nI n).toUInt32 &&& Int32.toUInt32 31)).toInt32) i = bt x (n + i) := by
  show (x.toUInt32 >>> ((nI n).toUInt32 &&& Int32.toUInt32 31)).toBitVec.getLsbD i = x.toUInt32.toBitVec.getLsbD (n + i)
  rw [UInt32.toBitVec_shiftRight]
  show (x.toUInt32.toBitVec >>> (((nI n).toUInt32 &&& Int32.toUInt32 31).toBitVec % 32).toNat).getLsbD i = _
  rw [s_u n hn, BitVec.getLsbD_ushiftRight]
theorem b_sshr (n : Nat) (hn : n < 32) (x : Int32) {i : Nat} (hi : i < 32) : bt (x >>> (nI n &&& 31)) i = if n + i < 32 then bt x (n + i) else bt x 31 := by
  unfold bt
  rw [Int32.toBitVec_shiftRight]
  show (x.toBitVec.sshiftRight ((nI n &&& 31).toBitVec.smod 32).toNat).getLsbD i = _
  rw [s_l n hn, BitVec.getLsbD_sshiftRight, BitVec.msb_eq_getLsbD_last]
  simp [hi]
theorem b_one : ∀ i, i < 32 → bt 1 i = decide (i = 0) := by decide +kernel
theorem b_set {k : Nat} (hk : k < 32) (m : Int32) {i : Nat} (hi : i < 32) : bt (m ||| (1 <<< (nI k &&& 31))) i = (bt m i || decide (i = k)) := by
  rw [b_or, b_shl k hk 1 hi]
  congr 1
  by_cases h : k ≤ i
  · rw [b_one (i - k) (by omega)]
    by_cases e : i = k
    · subst e; simp
    · simp [h, e]; omega
  · have : ¬ i = k := by omega
    simp [h, this]
theorem b_set_same {k : Nat} (hk : k < 32) {m : Int32} (h : bt m k = true) : m ||| (1 <<< (nI k &&& 31)) = m := by
  apply b_ext
  intro i hi
  rw [b_set hk m hi]
  by_cases e : i = k
  · subst e; rw [h]; rfl
  · simp [e]
theorem b_and1 (x : Int32) : x &&& 1 = 0 ↔ bt x 0 = false := by
  constructor
  · intro h
    have e := b_and x 1 0
    rw [h, b_0, b_one 0 (by decide)] at e
    simpa using e.symm
  · intro h
    apply b_ext
    intro i hi
    rw [b_and, b_0, b_one i hi]
    by_cases e : i = 0
    · subst e; rw [h]; rfl
    · simp [e]
theorem xBit_b {m : Int32} {i : Nat} (hi : i < 32) : xBit m (nI i) = 0 ↔ bt m i = false := by
  unfold xBit
  have e : ((m.toUInt32 >>> ((nI i).toUInt32 &&& Int32.toUInt32 31)).toInt32 &&& 1) = 0 ↔ bt m i = false := by
    rw [b_and1, b_ushr i hi m 0, Nat.add_zero]
  split
  · next h => exact ⟨fun _ => e.mp h, fun _ => rfl⟩
  · next h => exact ⟨fun q => absurd q (by decide), fun q => absurd (e.mpr q) h⟩
theorem mBit_b {v : Int32} {f : Nat} (hf : f < 32) : (v >>> (nI f &&& 31)) &&& 1 = 0 ↔ bt v f = false := by
  rw [b_and1, b_sshr f hf v (by decide), Nat.add_zero, if_pos hf]
end
section
/-! the relation of class and reference -/
def rI (v : Int32) (n : Nat) : Prop := v = -1 ∨ ∃ b, b < n ∧ v = nI b
def rRw (k w : Int32) (nf : Nat) : Prop := (k = 2 ∧ kN w 8) ∨ (¬ k = 2 ∧ ∃ f, f < nf ∧ w = nI f)
def rKp (k o z : Int32) : Prop := (k = 0 ∧ z = 2) ∨ (k = 1 ∧ z = o ∧ (o = 1 ∨ o = -3))
def Rl (nf na nm tm : Nat) (g h : kG) : Prop := (nf ≤ 24 ∧ na ≤ 12 ∧ nm ≤ 6 ∧ 1 ≤ tm ∧ tm ≤ 9) ∧ (g.1 0 0 4 = nI nf ∧ h.1 0 0 2 = nI nf) ∧ (g.1 0 0 5 = nI na ∧ h.1 0 0 3 = nI na) ∧ (g.1 0 0 6 = nI nm ∧ h.1 0 0 4 = nI nm) ∧ (g.1 0 0 0 = nI tm ∧ h.1 0 0 0 = nI tm) ∧ (∀ f, f < 24 → h.1 5 0 f = g.1 5 f 0) ∧ (∀ f, f < 24 → h.2 6 0 f = g.2 5 f 1) ∧ (∀ f, f < 24 → kZ (g.1 5 f 0) ∧ (g.1 5 f 0 = 0 → g.2 5 f 1 = 0)) ∧ (∀ f, f < nf → h.1 7 0 f = g.1 5 f 2 ∧ rI (g.1 5 f 2) na) ∧ (∀ f, f < 24 → nf ≤ f → h.1 7 0 f = 0 ∧ g.1 5 f 2 = -1) ∧ (∀ a, a < 12 → h.1 8 0 a = g.1 6 a 3) ∧ (∀ a, a < na → h.1 9 0 a = g.1 6 a 4 ∧ rI (g.1 6 a 4) nf) ∧ (∀ a, a < 12 → na ≤ a → h.1 9 0 a = 0 ∧ g.1 6 a 4 = -1) ∧ (∀ a, a < na → ∀ f, f < nf → g.1 6 a 4 = nI f → g.1 5 f 2 = nI a) ∧ (∀ a, a < 12 → h.1 10 0 a = g.1 6 a 2 ∧ kN (g.1 6 a 2) 12) ∧ (∀ a, a < 12 → ∀ k, k < 12 → h.1 11 0 (12 * a + k) = g.1 7 a k ∧ h.1 12 0 (12 * a + k) = g.1 8 a k) ∧ (∀ a, a < 12 → ∀ k, k < tn (g.1 6 a 2) → rRw (g.1 7 a k) (g.1 8 a k) nf) ∧ (∀ a, a < na → rKp (g.1 6 a 6) (g.1 6 a 7) (h.1 13 0 a)) ∧ (∀ a, a < 12 → na ≤ a → g.1 6 a 6 = 0) ∧ (∀ a, a < 12 → h.1 14 0 a = g.1 9 a 4 ∧ kN (g.1 9 a 4) 12) ∧ (∀ a, a < 12 → ∀ k, k < 12 → h.1 15 0 (24 * a + k) = g.1 10 a k) ∧ (∀ a, a < 12 → ∀ k, k < 12 → h.1 20 0 (24 * a + k) = g.1 11 a k) ∧ (∀ a, a < 12 → ∀ k, k < 12 → h.1 21 0 (24 * a + k) = g.1 12 a k) ∧ (∀ a, a < 12 → ∀ k, k < 12 → h.2 23 0 (24 * a + k) = g.2 13 a k) ∧ (∀ a, a < 12 → ∀ k, k < 12 → g.1 11 a k = 0 → g.2 13 a k = 0) ∧ (∀ a, a < 12 → ∀ k, k < tn (g.1 9 a 4) → ∃ f, f < nf ∧ g.1 10 a k = nI f) ∧ (∀ a, a < 12 → h.1 16 0 a = g.1 6 a 10) ∧ (∀ a, a < 12 → h.1 17 0 a = g.1 6 a 11) ∧ (∀ a, a < 12 → h.1 18 0 a = g.1 6 a 12) ∧ (∀ a, a < 12 → ∃ t, t ≤ tm ∧ g.1 6 a 12 = nI t) ∧ (∀ a, a < na → h.1 19 0 a = g.1 6 a 9) ∧ (∀ a, a < 12 → na ≤ a → g.1 6 a 9 = -1) ∧ (∀ i, i < 6 → h.1 27 0 i = g.1 14 i 0 ∧ ∃ f, f < 24 ∧ g.1 14 i 0 = nI f) ∧ (∀ i, i < 6 → h.1 28 0 i = g.1 14 i 3 ∧ kN (g.1 14 i 3) 4) ∧ (∀ i, i < 6 → h.2 29 0 i = g.2 14 i 1) ∧ (∀ i, i < nm → ∃ f, f < nf ∧ g.1 14 i 0 = nI f) ∧ (∀ i, i < 6 → ∀ k, k < tn (g.1 14 i 3) → h.2 30 0 (4 * i + k) = xMem (g.2 14 i 2) (nI k) ∧ h.2 31 0 (4 * i + k) = 17 * xMem (g.2 14 i 2) (nI k) + g.2 14 i 1) ∧ (∀ i, i < 6 → nm ≤ i → g.1 14 i 3 = 0) ∧ (∀ j, kZ (h.1 22 0 j)) ∧ (∀ j, 12 ≤ j → h.1 22 0 j = 0)
section RL
variable {nf na nm tm : Nat} {g h : kG}
theorem Rl.c1 (R : Rl nf na nm tm g h) : nf ≤ 24 ∧ na ≤ 12 ∧ nm ≤ 6 ∧ 1 ≤ tm ∧ tm ≤ 9 := R.1
theorem Rl.c2 (R : Rl nf na nm tm g h) : g.1 0 0 4 = nI nf ∧ h.1 0 0 2 = nI nf := R.2.1
theorem Rl.c3 (R : Rl nf na nm tm g h) : g.1 0 0 5 = nI na ∧ h.1 0 0 3 = nI na := R.2.2.1
theorem Rl.c4 (R : Rl nf na nm tm g h) : g.1 0 0 6 = nI nm ∧ h.1 0 0 4 = nI nm := R.2.2.2.1
theorem Rl.c5 (R : Rl nf na nm tm g h) : g.1 0 0 0 = nI tm ∧ h.1 0 0 0 = nI tm := R.2.2.2.2.1
theorem Rl.f1 (R : Rl nf na nm tm g h) : ∀ f, f < 24 → h.1 5 0 f = g.1 5 f 0 := R.2.2.2.2.2.1
theorem Rl.f2 (R : Rl nf na nm tm g h) : ∀ f, f < 24 → h.2 6 0 f = g.2 5 f 1 := R.2.2.2.2.2.2.1
theorem Rl.f3 (R : Rl nf na nm tm g h) : ∀ f, f < 24 → kZ (g.1 5 f 0) ∧ (g.1 5 f 0 = 0 → g.2 5 f 1 = 0) := R.2.2.2.2.2.2.2.1
theorem Rl.f4 (R : Rl nf na nm tm g h) : ∀ f, f < nf → h.1 7 0 f = g.1 5 f 2 ∧ rI (g.1 5 f 2) na := R.2.2.2.2.2.2.2.2.1
theorem Rl.f5 (R : Rl nf na nm tm g h) : ∀ f, f < 24 → nf ≤ f → h.1 7 0 f = 0 ∧ g.1 5 f 2 = -1 := R.2.2.2.2.2.2.2.2.2.1
theorem Rl.a1 (R : Rl nf na nm tm g h) : ∀ a, a < 12 → h.1 8 0 a = g.1 6 a 3 := R.2.2.2.2.2.2.2.2.2.2.1
theorem Rl.a2 (R : Rl nf na nm tm g h) : ∀ a, a < na → h.1 9 0 a = g.1 6 a 4 ∧ rI (g.1 6 a 4) nf := R.2.2.2.2.2.2.2.2.2.2.2.1
theorem Rl.a3 (R : Rl nf na nm tm g h) : ∀ a, a < 12 → na ≤ a → h.1 9 0 a = 0 ∧ g.1 6 a 4 = -1 := R.2.2.2.2.2.2.2.2.2.2.2.2.1
theorem Rl.a4 (R : Rl nf na nm tm g h) : ∀ a, a < na → ∀ f, f < nf → g.1 6 a 4 = nI f → g.1 5 f 2 = nI a := R.2.2.2.2.2.2.2.2.2.2.2.2.2.1
theorem Rl.r1 (R : Rl nf na nm tm g h) : ∀ a, a < 12 → h.1 10 0 a = g.1 6 a 2 ∧ kN (g.1 6 a 2) 12 := R.2.2.2.2.2.2.2.2.2.2.2.2.2.2.1
theorem Rl.r2 (R : Rl nf na nm tm g h) : ∀ a, a < 12 → ∀ k, k < 12 → h.1 11 0 (12 * a + k) = g.1 7 a k ∧ h.1 12 0 (12 * a + k) = g.1 8 a k := R.2.2.2.2.2.2.2.2.2.2.2.2.2.2.2.1
theorem Rl.r3 (R : Rl nf na nm tm g h) : ∀ a, a < 12 → ∀ k, k < tn (g.1 6 a 2) → rRw (g.1 7 a k) (g.1 8 a k) nf := R.2.2.2.2.2.2.2.2.2.2.2.2.2.2.2.2.1
theorem Rl.k1 (R : Rl nf na nm tm g h) : ∀ a, a < na → rKp (g.1 6 a 6) (g.1 6 a 7) (h.1 13 0 a) := R.2.2.2.2.2.2.2.2.2.2.2.2.2.2.2.2.2.1
theorem Rl.k2 (R : Rl nf na nm tm g h) : ∀ a, a < 12 → na ≤ a → g.1 6 a 6 = 0 := R.2.2.2.2.2.2.2.2.2.2.2.2.2.2.2.2.2.2.1
theorem Rl.n1 (R : Rl nf na nm tm g h) : ∀ a, a < 12 → h.1 14 0 a = g.1 9 a 4 ∧ kN (g.1 9 a 4) 12 := R.2.2.2.2.2.2.2.2.2.2.2.2.2.2.2.2.2.2.2.1
theorem Rl.n2 (R : Rl nf na nm tm g h) : ∀ a, a < 12 → ∀ k, k < 12 → h.1 15 0 (24 * a + k) = g.1 10 a k := R.2.2.2.2.2.2.2.2.2.2.2.2.2.2.2.2.2.2.2.2.1
theorem Rl.n3 (R : Rl nf na nm tm g h) : ∀ a, a < 12 → ∀ k, k < 12 → h.1 20 0 (24 * a + k) = g.1 11 a k := R.2.2.2.2.2.2.2.2.2.2.2.2.2.2.2.2.2.2.2.2.2.1
theorem Rl.n4 (R : Rl nf na nm tm g h) : ∀ a, a < 12 → ∀ k, k < 12 → h.1 21 0 (24 * a + k) = g.1 12 a k := R.2.2.2.2.2.2.2.2.2.2.2.2.2.2.2.2.2.2.2.2.2.2.1
theorem Rl.n5 (R : Rl nf na nm tm g h) : ∀ a, a < 12 → ∀ k, k < 12 → h.2 23 0 (24 * a + k) = g.2 13 a k := R.2.2.2.2.2.2.2.2.2.2.2.2.2.2.2.2.2.2.2.2.2.2.2.1
theorem Rl.n6 (R : Rl nf na nm tm g h) : ∀ a, a < 12 → ∀ k, k < 12 → g.1 11 a k = 0 → g.2 13 a k = 0 := R.2.2.2.2.2.2.2.2.2.2.2.2.2.2.2.2.2.2.2.2.2.2.2.2.1
theorem Rl.n7 (R : Rl nf na nm tm g h) : ∀ a, a < 12 → ∀ k, k < tn (g.1 9 a 4) → ∃ f, f < nf ∧ g.1 10 a k = nI f := R.2.2.2.2.2.2.2.2.2.2.2.2.2.2.2.2.2.2.2.2.2.2.2.2.2.1
theorem Rl.t1 (R : Rl nf na nm tm g h) : ∀ a, a < 12 → h.1 16 0 a = g.1 6 a 10 := R.2.2.2.2.2.2.2.2.2.2.2.2.2.2.2.2.2.2.2.2.2.2.2.2.2.2.1
theorem Rl.t2 (R : Rl nf na nm tm g h) : ∀ a, a < 12 → h.1 17 0 a = g.1 6 a 11 := R.2.2.2.2.2.2.2.2.2.2.2.2.2.2.2.2.2.2.2.2.2.2.2.2.2.2.2.1
theorem Rl.t3 (R : Rl nf na nm tm g h) : ∀ a, a < 12 → h.1 18 0 a = g.1 6 a 12 := R.2.2.2.2.2.2.2.2.2.2.2.2.2.2.2.2.2.2.2.2.2.2.2.2.2.2.2.2.1
theorem Rl.t4 (R : Rl nf na nm tm g h) : ∀ a, a < 12 → ∃ t, t ≤ tm ∧ g.1 6 a 12 = nI t := R.2.2.2.2.2.2.2.2.2.2.2.2.2.2.2.2.2.2.2.2.2.2.2.2.2.2.2.2.2.1
theorem Rl.w1 (R : Rl nf na nm tm g h) : ∀ a, a < na → h.1 19 0 a = g.1 6 a 9 := R.2.2.2.2.2.2.2.2.2.2.2.2.2.2.2.2.2.2.2.2.2.2.2.2.2.2.2.2.2.2.1
theorem Rl.w2 (R : Rl nf na nm tm g h) : ∀ a, a < 12 → na ≤ a → g.1 6 a 9 = -1 := R.2.2.2.2.2.2.2.2.2.2.2.2.2.2.2.2.2.2.2.2.2.2.2.2.2.2.2.2.2.2.2.1
theorem Rl.m1 (R : Rl nf na nm tm g h) : ∀ i, i < 6 → h.1 27 0 i = g.1 14 i 0 ∧ ∃ f, f < 24 ∧ g.1 14 i 0 = nI f := R.2.2.2.2.2.2.2.2.2.2.2.2.2.2.2.2.2.2.2.2.2.2.2.2.2.2.2.2.2.2.2.2.1
theorem Rl.m2 (R : Rl nf na nm tm g h) : ∀ i, i < 6 → h.1 28 0 i = g.1 14 i 3 ∧ kN (g.1 14 i 3) 4 := R.2.2.2.2.2.2.2.2.2.2.2.2.2.2.2.2.2.2.2.2.2.2.2.2.2.2.2.2.2.2.2.2.2.1
theorem Rl.m3 (R : Rl nf na nm tm g h) : ∀ i, i < 6 → h.2 29 0 i = g.2 14 i 1 := R.2.2.2.2.2.2.2.2.2.2.2.2.2.2.2.2.2.2.2.2.2.2.2.2.2.2.2.2.2.2.2.2.2.2.1
theorem Rl.m4 (R : Rl nf na nm tm g h) : ∀ i, i < nm → ∃ f, f < nf ∧ g.1 14 i 0 = nI f := R.2.2.2.2.2.2.2.2.2.2.2.2.2.2.2.2.2.2.2.2.2.2.2.2.2.2.2.2.2.2.2.2.2.2.2.1
theorem Rl.m5 (R : Rl nf na nm tm g h) : ∀ i, i < 6 → ∀ k, k < tn (g.1 14 i 3) → h.2 30 0 (4 * i + k) = xMem (g.2 14 i 2) (nI k) ∧ h.2 31 0 (4 * i + k) = 17 * xMem (g.2 14 i 2) (nI k) + g.2 14 i 1 := R.2.2.2.2.2.2.2.2.2.2.2.2.2.2.2.2.2.2.2.2.2.2.2.2.2.2.2.2.2.2.2.2.2.2.2.2.1
theorem Rl.m6 (R : Rl nf na nm tm g h) : ∀ i, i < 6 → nm ≤ i → g.1 14 i 3 = 0 := R.2.2.2.2.2.2.2.2.2.2.2.2.2.2.2.2.2.2.2.2.2.2.2.2.2.2.2.2.2.2.2.2.2.2.2.2.2.1
theorem Rl.z1 (R : Rl nf na nm tm g h) : ∀ j, kZ (h.1 22 0 j) := R.2.2.2.2.2.2.2.2.2.2.2.2.2.2.2.2.2.2.2.2.2.2.2.2.2.2.2.2.2.2.2.2.2.2.2.2.2.2.1
theorem Rl.z2 (R : Rl nf na nm tm g h) : ∀ j, 12 ≤ j → h.1 22 0 j = 0 := R.2.2.2.2.2.2.2.2.2.2.2.2.2.2.2.2.2.2.2.2.2.2.2.2.2.2.2.2.2.2.2.2.2.2.2.2.2.2.2
theorem rI.mono {v : Int32} {n m : Nat} (h : rI v n) (hm : n ≤ m) : rI v m := by
  rcases h with h | ⟨b, h1, h2⟩
  · exact Or.inl h
  · exact Or.inr ⟨b, by omega, h2⟩
theorem rRw.mono {k w : Int32} {n m : Nat} (h : rRw k w n) (hm : n ≤ m) : rRw k w m := by
  rcases h with h | ⟨h0, b, h1, h2⟩
  · exact Or.inl h
  · exact Or.inr ⟨h0, b, by omega, h2⟩
theorem nI_inj {a b : Nat} (ha : a < 2 ^ 31) (hb : b < 2 ^ 31) (h : nI a = nI b) : a = b := by
  have e : tn (nI a) = tn (nI b) := by rw [h]
  rwa [show tn (nI a) = a from nI_clamp ha, show tn (nI b) = b from nI_clamp hb] at e
theorem tn_nI {a : Nat} (ha : a < 2 ^ 31) : tn (nI a) = a := nI_clamp ha
theorem nI_m1 {a : Nat} (ha : a < 2 ^ 31) : ¬ nI a = -1 := by
  intro h
  have h2 : ¬ nI a < 0 := nI_pos ha
  rw [h] at h2
  exact h2 (by decide)
theorem kN_nI {v : Int32} {n : Nat} (h : kN v n) : ∃ c, c ≤ n ∧ v = nI c := ⟨tn v, h.2, h.1⟩
theorem ix12 {a k n r : Nat} (hk : k < 12) (hr : r < 12) : (12 * a + k = 12 * n + r) ↔ (k = r ∧ a = n) := by omega
theorem ix24 {a k n r : Nat} (hk : k < 12) (hr : r < 12) : (24 * a + k = 24 * n + r) ↔ (k = r ∧ a = n) := by omega
theorem ix4 {a k n r : Nat} (hk : k < 4) (hr : r < 4) : (4 * a + k = 4 * n + r) ↔ (k = r ∧ a = n) := by omega

set_option maxRecDepth 4000 in
theorem U_w (R : Rl nf na nm tm g h) {n : Nat} (hn : n < na) (v : Int32) : Rl (nf) (na) (nm) (tm) (kU g.1 6 n 9 v, g.2) (kU h.1 19 0 n v, h.2) := by
  obtain ⟨c1, c2, c3, c4, c5, f1, f2, f3, f4, f5, a1, a2, a3, a4, r1, r2, r3, k1, k2, n1, n2, n3, n4, n5, n6, n7, t1, t2, t3, t4, w1, w2, m1, m2, m3, m4, m5, m6, z1, z2⟩ := R
  refine ⟨c1, c2, c3, c4, c5, f1, f2, f3, f4, f5, a1, a2, a3, a4, r1, r2, r3, k1, k2, n1, n2, n3, n4, n5, n6, n7, t1, t2, t3, t4, ?_, ?_, m1, m2, m3, m4, m5, m6, z1, z2⟩
  · intro a ha
    have q := w1 a ha
    simp only [kU, true_and, and_true]
    split
    · rfl
    · exact q
  · intro a ha hb
    exact (kU_n (by omega)).trans (w2 a ha hb)
set_option maxRecDepth 4000 in
theorem U_fg (R : Rl nf na nm tm g h) {n : Nat} (hn : n < na) : Rl (nf) (na) (nm) (tm) (xFgt g n) (mFgt h n) := by
  obtain ⟨c1, c2, c3, c4, c5, f1, f2, f3, f4, f5, a1, a2, a3, a4, r1, r2, r3, k1, k2, n1, n2, n3, n4, n5, n6, n7, t1, t2, t3, t4, w1, w2, m1, m2, m3, m4, m5, m6, z1, z2⟩ := R
  refine ⟨c1, c2, c3, c4, c5, f1, f2, f3, f4, f5, a1, a2, a3, a4, r1, r2, r3, ?_, ?_, ?_, n2, n3, n4, n5, n6, ?_, t1, t2, t3, t4, w1, w2, m1, m2, m3, m4, m5, m6, z1, z2⟩
  · intro a ha
    have q := k1 a ha
    by_cases e : a = n
    · subst e
      exact Or.inl ⟨kU_s .., kU_s ..⟩
    · have e1 : (xFgt g n).1 6 a 6 = g.1 6 a 6 := kU_n (by omega)
      have e2 : (mFgt h n).1 13 0 a = h.1 13 0 a := kU_n (by omega)
      rw [e1, e2]
      exact q
  · intro a ha hb
    exact (kU_n (by omega)).trans (k2 a ha hb)
  · intro a ha
    have q := n1 a ha
    by_cases e : a = n
    · subst e
      have e1 : (xFgt g a).1 9 a 4 = 0 := kU_s ..
      have e2 : (mFgt h a).1 14 0 a = 0 := kU_s ..
      rw [e1, e2]
      exact ⟨rfl, kN_of (k := 0) (by omega) (by decide)⟩
    · have e1 : (xFgt g n).1 9 a 4 = g.1 9 a 4 := kU_n (by omega)
      have e2 : (mFgt h n).1 14 0 a = h.1 14 0 a := kU_n (by omega)
      rw [e1, e2]
      exact q
  · intro a ha k hk
    by_cases e : a = n
    · subst e
      have e1 : (xFgt g a).1 9 a 4 = 0 := kU_s ..
      rw [e1] at hk
      exact absurd hk (Nat.not_lt_zero _)
    · have e1 : (xFgt g n).1 9 a 4 = g.1 9 a 4 := kU_n (by omega)
      rw [e1] at hk
      exact n7 a ha k hk
set_option maxRecDepth 4000 in
theorem U_fc (R : Rl nf na nm tm g h) {n : Nat} (t : Int32) (d : Int64) (hz : kZ t) (h0 : t = 0 → d = 0) : Rl (nf) (na) (nm) (tm) (kU g.1 5 n 0 t, kUJ g.2 5 n 1 d) (kU h.1 5 0 n t, kUJ h.2 6 0 n d) := by
  obtain ⟨c1, c2, c3, c4, c5, f1, f2, f3, f4, f5, a1, a2, a3, a4, r1, r2, r3, k1, k2, n1, n2, n3, n4, n5, n6, n7, t1, t2, t3, t4, w1, w2, m1, m2, m3, m4, m5, m6, z1, z2⟩ := R
  refine ⟨c1, c2, c3, c4, c5, ?_, ?_, ?_, f4, f5, a1, a2, a3, a4, r1, r2, r3, k1, k2, n1, n2, n3, n4, n5, n6, n7, t1, t2, t3, t4, w1, w2, m1, m2, m3, m4, m5, m6, z1, z2⟩
  · intro a ha
    have q := f1 a ha
    simp only [kU, true_and, and_true]
    split
    · rfl
    · exact q
  · intro a ha
    have q := f2 a ha
    simp only [kUJ, true_and, and_true]
    split
    · rfl
    · exact q
  · intro a ha
    have q := f3 a ha
    simp only [kU, kUJ, true_and]
    split
    · exact ⟨hz, h0⟩
    · exact q
set_option maxRecDepth 4000 in
theorem U_re (R : Rl nf na nm tm g h) {n : Nat} (v : Int32) : Rl (nf) (na) (nm) (tm) (kU g.1 6 n 10 v, g.2) (kU h.1 16 0 n v, h.2) := by
  obtain ⟨c1, c2, c3, c4, c5, f1, f2, f3, f4, f5, a1, a2, a3, a4, r1, r2, r3, k1, k2, n1, n2, n3, n4, n5, n6, n7, t1, t2, t3, t4, w1, w2, m1, m2, m3, m4, m5, m6, z1, z2⟩ := R
  refine ⟨c1, c2, c3, c4, c5, f1, f2, f3, f4, f5, a1, a2, a3, a4, r1, r2, r3, k1, k2, n1, n2, n3, n4, n5, n6, n7, ?_, t2, t3, t4, w1, w2, m1, m2, m3, m4, m5, m6, z1, z2⟩
  · intro a ha
    have q := t1 a ha
    simp only [kU, true_and, and_true]
    split
    · rfl
    · exact q
set_option maxRecDepth 4000 in
theorem U_tr (R : Rl nf na nm tm g h) {n : Nat} (v : Int32) : Rl (nf) (na) (nm) (tm) (kU g.1 6 n 11 v, g.2) (kU h.1 17 0 n v, h.2) := by
  obtain ⟨c1, c2, c3, c4, c5, f1, f2, f3, f4, f5, a1, a2, a3, a4, r1, r2, r3, k1, k2, n1, n2, n3, n4, n5, n6, n7, t1, t2, t3, t4, w1, w2, m1, m2, m3, m4, m5, m6, z1, z2⟩ := R
  refine ⟨c1, c2, c3, c4, c5, f1, f2, f3, f4, f5, a1, a2, a3, a4, r1, r2, r3, k1, k2, n1, n2, n3, n4, n5, n6, n7, t1, ?_, t3, t4, w1, w2, m1, m2, m3, m4, m5, m6, z1, z2⟩
  · intro a ha
    have q := t2 a ha
    simp only [kU, true_and, and_true]
    split
    · rfl
    · exact q
set_option maxRecDepth 4000 in
theorem U_ts (R : Rl nf na nm tm g h) {n t : Nat} (ht : t ≤ tm) : Rl (nf) (na) (nm) (tm) (kU g.1 6 n 12 (nI t), g.2) (kU h.1 18 0 n (nI t), h.2) := by
  obtain ⟨c1, c2, c3, c4, c5, f1, f2, f3, f4, f5, a1, a2, a3, a4, r1, r2, r3, k1, k2, n1, n2, n3, n4, n5, n6, n7, t1, t2, t3, t4, w1, w2, m1, m2, m3, m4, m5, m6, z1, z2⟩ := R
  refine ⟨c1, c2, c3, c4, c5, f1, f2, f3, f4, f5, a1, a2, a3, a4, r1, r2, r3, k1, k2, n1, n2, n3, n4, n5, n6, n7, t1, t2, ?_, ?_, w1, w2, m1, m2, m3, m4, m5, m6, z1, z2⟩
  · intro a ha
    have q := t3 a ha
    simp only [kU, true_and, and_true]
    split
    · rfl
    · exact q
  · intro a ha
    have q := t4 a ha
    simp only [kU, true_and]
    split
    · exact ⟨t, ht, rfl⟩
    · exact q
set_option maxRecDepth 4000 in
theorem U_kp (R : Rl nf na nm tm g h) {n : Nat} (hn : n < na) (r : Int32) (hr : r = 1 ∨ r = -3) : Rl (nf) (na) (nm) (tm) (xKp g n r) (kU h.1 13 0 n r, h.2) := by
  obtain ⟨c1, c2, c3, c4, c5, f1, f2, f3, f4, f5, a1, a2, a3, a4, r1, r2, r3, k1, k2, n1, n2, n3, n4, n5, n6, n7, t1, t2, t3, t4, w1, w2, m1, m2, m3, m4, m5, m6, z1, z2⟩ := R
  refine ⟨c1, c2, c3, c4, c5, f1, f2, f3, f4, f5, a1, a2, a3, a4, r1, r2, r3, ?_, ?_, n1, n2, n3, n4, n5, n6, n7, t1, t2, t3, t4, w1, w2, m1, m2, m3, m4, m5, m6, z1, z2⟩
  · intro a ha
    have q := k1 a ha
    by_cases e : a = n
    · subst e
      have e1 : (xKp g a r).1 6 a 6 = 1 := (show kU g.1 6 a 6 1 6 a 6 = 1 from kU_s ..)
      have e2 : (xKp g a r).1 6 a 7 = r := kU_s ..
      have e3 : kU h.1 13 0 a r 13 0 a = r := kU_s ..
      refine Or.inr ⟨e1, e3.trans e2.symm, ?_⟩
      rw [e2]
      exact hr
    · have e1 : (xKp g n r).1 6 a 6 = g.1 6 a 6 := (show kU g.1 6 n 6 1 6 a 6 = g.1 6 a 6 from kU_n (by omega))
      have e2 : (xKp g n r).1 6 a 7 = g.1 6 a 7 := (kU_n (by omega))
      have e3 : kU h.1 13 0 n r 13 0 a = h.1 13 0 a := kU_n (by omega)
      show rKp _ _ (kU h.1 13 0 n r 13 0 a)
      rw [e1, e2, e3]
      exact q
  · intro a ha hb
    exact (show kU g.1 6 n 6 1 6 a 6 = g.1 6 a 6 from kU_n (by omega)).trans (k2 a ha hb)
set_option maxRecDepth 4000 in
theorem U_n0 (R : Rl nf na nm tm g h) {n p : Nat} (hp : p < 12) (hc : g.1 9 n 4 = nI p) {f : Nat} (hf : f < nf) : Rl (nf) (na) (nm) (tm) (xAdd0 g n p (nI f)) (mNt0 h n p (nI f)) := by
  obtain ⟨c1, c2, c3, c4, c5, f1, f2, f3, f4, f5, a1, a2, a3, a4, r1, r2, r3, k1, k2, n1, n2, n3, n4, n5, n6, n7, t1, t2, t3, t4, w1, w2, m1, m2, m3, m4, m5, m6, z1, z2⟩ := R
  refine ⟨c1, c2, c3, c4, c5, f1, f2, f3, f4, f5, a1, a2, a3, a4, r1, r2, r3, k1, k2, ?_, ?_, n3, ?_, n5, n6, ?_, t1, t2, t3, t4, w1, w2, m1, m2, m3, m4, m5, m6, z1, z2⟩
  · intro a ha
    have q := n1 a ha
    by_cases e : a = n
    · subst e
      have e1 : (xAdd0 g a p (nI f)).1 9 a 4 = g.1 9 a 4 + 1 := kU_s ..
      have e2 : (mNt0 h a p (nI f)).1 14 0 a = h.1 14 0 a + 1 := kU_s ..
      rw [e1, e2, q.1, hc, nI_1]
      exact ⟨rfl, kN_of (by omega) (by decide)⟩
    · have e1 : (xAdd0 g n p (nI f)).1 9 a 4 = g.1 9 a 4 := kU_n (by omega)
      have e2 : (mNt0 h n p (nI f)).1 14 0 a = h.1 14 0 a := kU_n (by omega)
      rw [e1, e2]
      exact q
  · intro a ha k hk
    have q := n2 a ha k hk
    show kU h.1 15 0 (24 * n + p) (nI f) 15 0 (24 * a + k) = kU g.1 10 n p (nI f) 10 a k
    simp only [kU, true_and, and_true, ix24 hk hp]
    split
    · rfl
    · exact q
  · intro a ha k hk
    have q := n4 a ha k hk
    show kU h.1 21 0 (24 * n + p) 0 21 0 (24 * a + k) = kU g.1 12 n p 0 12 a k
    simp only [kU, true_and, and_true, ix24 hk hp]
    split
    · rfl
    · exact q
  · intro a ha k hk
    show ∃ f_1, f_1 < nf ∧ kU g.1 10 n p (nI f) 10 a k = nI f_1
    by_cases e : a = n
    · subst e
      have e1 : (xAdd0 g a p (nI f)).1 9 a 4 = g.1 9 a 4 + 1 := kU_s ..
      rw [e1, hc, nI_1, tn_nI (by omega)] at hk
      by_cases e2 : k = p
      · subst e2
        exact ⟨f, hf, kU_s ..⟩
      · rw [kU_n (by omega)]
        exact n7 a ha k (by rw [hc, tn_nI (by omega)]; omega)
    · have e1 : (xAdd0 g n p (nI f)).1 9 a 4 = g.1 9 a 4 := kU_n (by omega)
      rw [e1] at hk
      rw [kU_n (by omega)]
      exact n7 a ha k hk
set_option maxRecDepth 4000 in
theorem U_n1 (R : Rl nf na nm tm g h) {n p f : Nat} (hp : p < 12) (v : Int32) (hf : f < 24) : Rl (nf) (na) (nm) (tm) (kU (kU g.1 11 n p (g.1 5 f 0)) 12 n p v, kUJ g.2 13 n p (g.2 5 f 1)) (kU (kU h.1 20 0 (24 * n + p) (h.1 5 0 f)) 21 0 (24 * n + p) v, kUJ h.2 23 0 (24 * n + p) (h.2 6 0 f)) := by
  obtain ⟨c1, c2, c3, c4, c5, f1, f2, f3, f4, f5, a1, a2, a3, a4, r1, r2, r3, k1, k2, n1, n2, n3, n4, n5, n6, n7, t1, t2, t3, t4, w1, w2, m1, m2, m3, m4, m5, m6, z1, z2⟩ := R
  refine ⟨c1, c2, c3, c4, c5, f1, f2, f3, f4, f5, a1, a2, a3, a4, r1, r2, r3, k1, k2, n1, n2, ?_, ?_, ?_, ?_, n7, t1, t2, t3, t4, w1, w2, m1, m2, m3, m4, m5, m6, z1, z2⟩
  · intro a ha k hk
    have q := n3 a ha k hk
    show kU h.1 20 0 (24 * n + p) (h.1 5 0 f) 20 0 (24 * a + k) = kU g.1 11 n p (g.1 5 f 0) 11 a k
    simp only [kU, true_and, and_true, ix24 hk hp]
    split
    · exact f1 f hf
    · exact q
  · intro a ha k hk
    have q := n4 a ha k hk
    show kU h.1 21 0 (24 * n + p) v 21 0 (24 * a + k) = kU g.1 12 n p v 12 a k
    simp only [kU, true_and, and_true, ix24 hk hp]
    split
    · rfl
    · exact q
  · intro a ha k hk
    have q := n5 a ha k hk
    show kUJ h.2 23 0 (24 * n + p) (h.2 6 0 f) 23 0 (24 * a + k) = kUJ g.2 13 n p (g.2 5 f 1) 13 a k
    simp only [kUJ, true_and, and_true, ix24 hk hp]
    split
    · exact f2 f hf
    · exact q
  · intro a ha k hk
    have q := n6 a ha k hk
    show kU g.1 11 n p (g.1 5 f 0) 11 a k = 0 → kUJ g.2 13 n p (g.2 5 f 1) 13 a k = 0
    simp only [kU, kUJ, true_and]
    split
    · exact (f3 f hf).2
    · exact q
theorem Rl.free (R : Rl nf na nm tm g h) {h2 : kG} (e : ∀ k j, k ≠ 22 → h2.1 k 0 j = h.1 k 0 j) (eJ : ∀ k j, k ≠ 0 → h2.2 k 0 j = h.2 k 0 j) (z : ∀ j, kZ (h2.1 22 0 j)) (zz : ∀ j, 12 ≤ j → h2.1 22 0 j = 0) : Rl nf na nm tm g h2 := by
  have e0 : ∀ j, h2.1 0 0 j = h.1 0 0 j := fun j => e 0 j (by decide)
  have e5 : ∀ j, h2.1 5 0 j = h.1 5 0 j := fun j => e 5 j (by decide)
  have e7 : ∀ j, h2.1 7 0 j = h.1 7 0 j := fun j => e 7 j (by decide)
  have e8 : ∀ j, h2.1 8 0 j = h.1 8 0 j := fun j => e 8 j (by decide)
  have e9 : ∀ j, h2.1 9 0 j = h.1 9 0 j := fun j => e 9 j (by decide)
  have e10 : ∀ j, h2.1 10 0 j = h.1 10 0 j := fun j => e 10 j (by decide)
  have e11 : ∀ j, h2.1 11 0 j = h.1 11 0 j := fun j => e 11 j (by decide)
  have e12 : ∀ j, h2.1 12 0 j = h.1 12 0 j := fun j => e 12 j (by decide)
  have e13 : ∀ j, h2.1 13 0 j = h.1 13 0 j := fun j => e 13 j (by decide)
  have e14 : ∀ j, h2.1 14 0 j = h.1 14 0 j := fun j => e 14 j (by decide)
  have e15 : ∀ j, h2.1 15 0 j = h.1 15 0 j := fun j => e 15 j (by decide)
  have e16 : ∀ j, h2.1 16 0 j = h.1 16 0 j := fun j => e 16 j (by decide)
  have e17 : ∀ j, h2.1 17 0 j = h.1 17 0 j := fun j => e 17 j (by decide)
  have e18 : ∀ j, h2.1 18 0 j = h.1 18 0 j := fun j => e 18 j (by decide)
  have e19 : ∀ j, h2.1 19 0 j = h.1 19 0 j := fun j => e 19 j (by decide)
  have e20 : ∀ j, h2.1 20 0 j = h.1 20 0 j := fun j => e 20 j (by decide)
  have e21 : ∀ j, h2.1 21 0 j = h.1 21 0 j := fun j => e 21 j (by decide)
  have e27 : ∀ j, h2.1 27 0 j = h.1 27 0 j := fun j => e 27 j (by decide)
  have e28 : ∀ j, h2.1 28 0 j = h.1 28 0 j := fun j => e 28 j (by decide)
  have j6 : ∀ j, h2.2 6 0 j = h.2 6 0 j := fun j => eJ 6 j (by decide)
  have j23 : ∀ j, h2.2 23 0 j = h.2 23 0 j := fun j => eJ 23 j (by decide)
  have j29 : ∀ j, h2.2 29 0 j = h.2 29 0 j := fun j => eJ 29 j (by decide)
  have j30 : ∀ j, h2.2 30 0 j = h.2 30 0 j := fun j => eJ 30 j (by decide)
  have j31 : ∀ j, h2.2 31 0 j = h.2 31 0 j := fun j => eJ 31 j (by decide)
  obtain ⟨c1, c2, c3, c4, c5, f1, f2, f3, f4, f5, a1, a2, a3, a4, r1, r2, r3, k1, k2, n1, n2, n3, n4, n5, n6, n7, t1, t2, t3, t4, w1, w2, m1, m2, m3, m4, m5, m6, z1, z2⟩ := R
  unfold Rl
  simp only [e0, e5, e7, e8, e9, e10, e11, e12, e13, e14, e15, e16, e17, e18, e19, e20, e21, e27, e28, j6, j23, j29, j30, j31]
  exact ⟨c1, c2, c3, c4, c5, f1, f2, f3, f4, f5, a1, a2, a3, a4, r1, r2, r3, k1, k2, n1, n2, n3, n4, n5, n6, n7, t1, t2, t3, t4, w1, w2, m1, m2, m3, m4, m5, m6, z, zz⟩
set_option maxRecDepth 4000 in
theorem O_file (R : Rl nf na nm tm g h) (hn : nf < 24) (d : Int64) : Rl (nf + 1) (na) (nm) (tm) (kU (xPut g nf d).1 0 0 4 (nI (nf + 1)), (xPut g nf d).2) (kU (kU (kU (m0 h).1 5 0 nf 1) 7 0 nf (-1)) 0 0 2 (nI (nf + 1)), kUJ h.2 6 0 nf d) := by
  obtain ⟨c1, c2, c3, c4, c5, f1, f2, f3, f4, f5, a1, a2, a3, a4, r1, r2, r3, k1, k2, n1, n2, n3, n4, n5, n6, n7, t1, t2, t3, t4, w1, w2, m1, m2, m3, m4, m5, m6, z1, z2⟩ := R
  refine ⟨?_, ?_, c3, c4, c5, ?_, ?_, ?_, ?_, ?_, a1, ?_, a3, ?_, r1, r2, ?_, k1, k2, n1, n2, n3, n4, n5, n6, ?_, t1, t2, t3, t4, w1, w2, m1, m2, m3, ?_, m5, m6, z1, z2⟩
  · omega
  · exact ⟨rfl, rfl⟩
  · intro a ha
    have q := f1 a ha
    show kU h.1 5 0 nf 1 5 0 a = kU g.1 5 nf 0 1 5 a 0
    simp only [kU, true_and, and_true]
    split
    · rfl
    · exact q
  · intro a ha
    have q := f2 a ha
    show kUJ h.2 6 0 nf d 6 0 a = kUJ g.2 5 nf 1 d 5 a 1
    simp only [kUJ, true_and, and_true]
    split
    · rfl
    · exact q
  · intro a ha
    have q := f3 a ha
    show kZ (kU g.1 5 nf 0 1 5 a 0) ∧ (kU g.1 5 nf 0 1 5 a 0 = 0 → kUJ g.2 5 nf 1 d 5 a 1 = 0)
    simp only [kU, kUJ, true_and]
    split
    · exact ⟨Or.inr rfl, fun q => absurd q (by decide)⟩
    · exact q
  · intro a ha
    show kU h.1 7 0 nf (-1) 7 0 a = g.1 5 a 2 ∧ rI (g.1 5 a 2) na
    by_cases e : a = nf
    · subst e
      rw [(f5 a hn (Nat.le_refl _)).2]
      exact ⟨kU_s .., Or.inl rfl⟩
    · rw [kU_n (by omega)]
      exact f4 a (by omega)
  · intro a ha hb
    show kU h.1 7 0 nf (-1) 7 0 a = 0 ∧ g.1 5 a 2 = -1
    rw [kU_n (by omega)]
    exact f5 a ha (by omega)
  · exact fun a ha => ⟨(a2 a ha).1, (a2 a ha).2.mono (by omega)⟩
  · intro a ha f hf q
    refine a4 a ha f ?_ q
    rcases (a2 a ha).2 with e | ⟨b, hb, e⟩
    · exact absurd (q.symm.trans e) (nI_m1 (by omega))
    · have := nI_inj (by omega) (by omega) (q.symm.trans e)
      omega
  · exact fun a ha k hk => (r3 a ha k hk).mono (by omega)
  · exact fun a ha k hk => ⟨(n7 a ha k hk).choose, by have := (n7 a ha k hk).choose_spec.1; omega, (n7 a ha k hk).choose_spec.2⟩
  · exact fun a ha => ⟨(m4 a ha).choose, by have := (m4 a ha).choose_spec.1; omega, (m4 a ha).choose_spec.2⟩
set_option maxRecDepth 4000 in
theorem O_action (R : Rl nf na nm tm g h) (hn : na < 12) (al : Int32) : Rl (nf) (na + 1) (nm) (tm) (kU (kU g.1 6 na 3 al) 0 0 5 (nI (na + 1)), g.2) (kU (kU (kU (kU (kU (m0 h).1 8 0 na al) 9 0 na (-1)) 13 0 na 2) 19 0 na (-1)) 0 0 3 (nI (na + 1)), h.2) := by
  obtain ⟨c1, c2, c3, c4, c5, f1, f2, f3, f4, f5, a1, a2, a3, a4, r1, r2, r3, k1, k2, n1, n2, n3, n4, n5, n6, n7, t1, t2, t3, t4, w1, w2, m1, m2, m3, m4, m5, m6, z1, z2⟩ := R
  refine ⟨?_, c2, ?_, c4, c5, f1, f2, f3, ?_, f5, ?_, ?_, ?_, ?_, r1, r2, r3, ?_, ?_, n1, n2, n3, n4, n5, n6, n7, t1, t2, t3, t4, ?_, ?_, m1, m2, m3, m4, m5, m6, z1, z2⟩
  · omega
  · exact ⟨rfl, rfl⟩
  · exact fun a ha => ⟨(f4 a ha).1, (f4 a ha).2.mono (by omega)⟩
  · intro a ha
    have q := a1 a ha
    show kU h.1 8 0 na al 8 0 a = kU g.1 6 na 3 al 6 a 3
    simp only [kU, true_and, and_true]
    split
    · rfl
    · exact q
  · intro a ha
    show kU h.1 9 0 na (-1) 9 0 a = g.1 6 a 4 ∧ rI (g.1 6 a 4) nf
    by_cases e : a = na
    · subst e
      rw [(a3 a hn (Nat.le_refl _)).2]
      exact ⟨kU_s .., Or.inl rfl⟩
    · rw [kU_n (by omega)]
      exact a2 a (by omega)
  · intro a ha hb
    show kU h.1 9 0 na (-1) 9 0 a = 0 ∧ g.1 6 a 4 = -1
    rw [kU_n (by omega)]
    exact a3 a ha (by omega)
  · intro a ha f hf q
    by_cases e : a = na
    · subst e
      exact absurd (q.symm.trans (a3 a hn (Nat.le_refl _)).2) (nI_m1 (by omega))
    · exact a4 a (by omega) f hf q
  · intro a ha
    show rKp (g.1 6 a 6) (g.1 6 a 7) (kU h.1 13 0 na 2 13 0 a)
    by_cases e : a = na
    · subst e
      rw [kU_s]
      exact Or.inl ⟨k2 a hn (Nat.le_refl _), rfl⟩
    · rw [kU_n (by omega)]
      exact k1 a (by omega)
  · exact fun a ha hb => k2 a ha (by omega)
  · intro a ha
    show kU h.1 19 0 na (-1) 19 0 a = g.1 6 a 9
    by_cases e : a = na
    · subst e
      rw [kU_s, w2 a hn (Nat.le_refl _)]
    · rw [kU_n (by omega)]
      exact w1 a (by omega)
  · exact fun a ha hb => w2 a ha (by omega)
set_option maxRecDepth 4000 in
theorem O_makes0 (R : Rl nf na nm tm g h) {n f : Nat} (hn : n < na) (hf : f < nf) (hm : g.1 6 n 4 = -1) (hk : g.1 5 f 2 = -1) : Rl (nf) (na) (nm) (tm) (kU (kU g.1 6 n 4 (nI f)) 5 f 2 (nI n), g.2) (kU (kU h.1 9 0 n (nI f)) 7 0 f (nI n), h.2) := by
  obtain ⟨c1, c2, c3, c4, c5, f1, f2, f3, f4, f5, a1, a2, a3, a4, r1, r2, r3, k1, k2, n1, n2, n3, n4, n5, n6, n7, t1, t2, t3, t4, w1, w2, m1, m2, m3, m4, m5, m6, z1, z2⟩ := R
  refine ⟨c1, c2, c3, c4, c5, f1, f2, f3, ?_, ?_, a1, ?_, ?_, ?_, r1, r2, r3, k1, k2, n1, n2, n3, n4, n5, n6, n7, t1, t2, t3, t4, w1, w2, m1, m2, m3, m4, m5, m6, z1, z2⟩
  · intro a ha
    show kU h.1 7 0 f (nI n) 7 0 a = kU g.1 5 f 2 (nI n) 5 a 2 ∧ rI (kU g.1 5 f 2 (nI n) 5 a 2) na
    by_cases e : a = f
    · subst e
      rw [kU_s, kU_s]
      exact ⟨rfl, Or.inr ⟨n, hn, rfl⟩⟩
    · rw [kU_n (by omega), kU_n (by omega)]
      exact f4 a ha
  · intro a ha hb
    show kU h.1 7 0 f (nI n) 7 0 a = 0 ∧ kU g.1 5 f 2 (nI n) 5 a 2 = -1
    rw [kU_n (by omega), kU_n (by omega)]
    exact f5 a ha hb
  · intro a ha
    show kU h.1 9 0 n (nI f) 9 0 a = kU g.1 6 n 4 (nI f) 6 a 4 ∧ rI (kU g.1 6 n 4 (nI f) 6 a 4) nf
    by_cases e : a = n
    · subst e
      rw [kU_s, kU_s]
      exact ⟨rfl, Or.inr ⟨f, hf, rfl⟩⟩
    · rw [kU_n (by omega), kU_n (by omega)]
      exact a2 a ha
  · intro a ha hb
    show kU h.1 9 0 n (nI f) 9 0 a = 0 ∧ kU g.1 6 n 4 (nI f) 6 a 4 = -1
    rw [kU_n (by omega), kU_n (by omega)]
    exact a3 a ha hb
  · intro a ha f2 hf2
    show kU g.1 6 n 4 (nI f) 6 a 4 = nI f2 → kU g.1 5 f 2 (nI n) 5 f2 2 = nI a
    by_cases e : a = n
    · subst e
      rw [kU_s]
      intro q
      have := nI_inj (by omega) (by omega) q
      subst this
      rw [kU_s]
    · rw [kU_n (by omega)]
      intro q
      have q2 := a4 a ha f2 hf2 q
      by_cases e2 : f2 = f
      · subst e2
        exact absurd (q2.symm.trans hk) (nI_m1 (by omega))
      · rw [kU_n (by omega)]
        exact q2
set_option maxRecDepth 4000 in
theorem O_row0 (R : Rl nf na nm tm g h) {n r : Nat} (hn : n < na) (hr : r < 12) (hc : g.1 6 n 2 = nI r) {k w : Int32} (hv : rRw k w nf) : Rl (nf) (na) (nm) (tm) (kU (kU (kU g.1 7 n r k) 8 n r w) 6 n 2 (nI (r + 1)), g.2) (kU (kU (kU h.1 11 0 (12 * n + r) k) 12 0 (12 * n + r) w) 10 0 n (nI (r + 1)), h.2) := by
  obtain ⟨c1, c2, c3, c4, c5, f1, f2, f3, f4, f5, a1, a2, a3, a4, r1, r2, r3, k1, k2, n1, n2, n3, n4, n5, n6, n7, t1, t2, t3, t4, w1, w2, m1, m2, m3, m4, m5, m6, z1, z2⟩ := R
  refine ⟨c1, c2, c3, c4, c5, f1, f2, f3, f4, f5, a1, a2, a3, a4, ?_, ?_, ?_, k1, k2, n1, n2, n3, n4, n5, n6, n7, t1, t2, t3, t4, w1, w2, m1, m2, m3, m4, m5, m6, z1, z2⟩
  · intro a ha
    show kU h.1 10 0 n (nI (r + 1)) 10 0 a = kU g.1 6 n 2 (nI (r + 1)) 6 a 2 ∧ kN (kU g.1 6 n 2 (nI (r + 1)) 6 a 2) 12
    by_cases e : a = n
    · subst e
      rw [kU_s, kU_s]
      exact ⟨rfl, kN_of (by omega) (by decide)⟩
    · rw [kU_n (by omega), kU_n (by omega)]
      exact r1 a ha
  · intro a ha j hj
    have q := r2 a ha j hj
    show kU h.1 11 0 (12 * n + r) k 11 0 (12 * a + j) = kU g.1 7 n r k 7 a j ∧ kU h.1 12 0 (12 * n + r) w 12 0 (12 * a + j) = kU g.1 8 n r w 8 a j
    simp only [kU, true_and, and_true, ix12 hj hr]
    split
    · exact ⟨rfl, rfl⟩
    · exact q
  · intro a ha j
    show j < tn (kU g.1 6 n 2 (nI (r + 1)) 6 a 2) → rRw (kU g.1 7 n r k 7 a j) (kU g.1 8 n r w 8 a j) nf
    by_cases e : a = n
    · subst e
      rw [kU_s, tn_nI (by omega)]
      intro hj
      by_cases e2 : j = r
      · subst e2
        rw [kU_s, kU_s]
        exact hv
      · rw [kU_n (by omega), kU_n (by omega)]
        exact r3 a ha j (by rw [hc, tn_nI (by omega)]; omega)
    · rw [kU_n (by omega)]
      intro hj
      rw [kU_n (by omega), kU_n (by omega)]
      exact r3 a ha j hj
set_option maxRecDepth 4000 in
theorem O_mapping (R : Rl nf na nm tm g h) (hn : nm < 6) {f : Nat} (hf : f < nf) (s : Int64) : Rl (nf) (na) (nm + 1) (tm) (kU (kU g.1 14 nm 0 (nI f)) 0 0 6 (nI (nm + 1)), kUJ g.2 14 nm 1 s) (kU (kU (m0 h).1 27 0 nm (nI f)) 0 0 4 (nI (nm + 1)), kUJ h.2 29 0 nm s) := by
  obtain ⟨c1, c2, c3, c4, c5, f1, f2, f3, f4, f5, a1, a2, a3, a4, r1, r2, r3, k1, k2, n1, n2, n3, n4, n5, n6, n7, t1, t2, t3, t4, w1, w2, m1, m2, m3, m4, m5, m6, z1, z2⟩ := R
  refine ⟨?_, c2, c3, ?_, c5, f1, f2, f3, f4, f5, a1, a2, a3, a4, r1, r2, r3, k1, k2, n1, n2, n3, n4, n5, n6, n7, t1, t2, t3, t4, w1, w2, ?_, m2, ?_, ?_, ?_, ?_, z1, z2⟩
  · omega
  · exact ⟨rfl, rfl⟩
  · intro i hi
    show kU h.1 27 0 nm (nI f) 27 0 i = kU g.1 14 nm 0 (nI f) 14 i 0 ∧ ∃ f2, f2 < 24 ∧ kU g.1 14 nm 0 (nI f) 14 i 0 = nI f2
    by_cases e : i = nm
    · subst e
      rw [kU_s, kU_s]
      exact ⟨rfl, f, by omega, rfl⟩
    · rw [kU_n (by omega), kU_n (by omega)]
      exact m1 i hi
  · intro a ha
    have q := m3 a ha
    show kUJ h.2 29 0 nm s 29 0 a = kUJ g.2 14 nm 1 s 14 a 1
    simp only [kUJ, true_and, and_true]
    split
    · rfl
    · exact q
  · intro i hi
    show ∃ f2, f2 < nf ∧ kU g.1 14 nm 0 (nI f) 14 i 0 = nI f2
    by_cases e : i = nm
    · subst e
      exact ⟨f, hf, kU_s ..⟩
    · rw [kU_n (by omega)]
      exact m4 i (by omega)
  · intro i hi k hk
    have hk2 : k < tn (g.1 14 i 3) := hk
    have e : i ≠ nm := by
      intro e
      subst e
      rw [m6 i hn (Nat.le_refl _)] at hk2
      exact absurd hk2 (Nat.not_lt_zero _)
    show h.2 30 0 (4 * i + k) = xMem (g.2 14 i 2) (nI k) ∧ h.2 31 0 (4 * i + k) = 17 * xMem (g.2 14 i 2) (nI k) + kUJ g.2 14 nm 1 s 14 i 1
    rw [kUJ_n (by omega)]
    exact m5 i hi k hk2
  · exact fun i hi hb => m6 i hi (by omega)
end RL
end
section
/-! freshness: both programs find the least set -/
def Hd (g : kG) (a : Nat) (S : Nat → Prop) : Prop := ¬ g.1 6 a 6 = 0 ∧ ∀ k, k < tn (g.1 9 a 4) → (g.1 11 a k = g.1 5 (tn (g.1 10 a k)) 0 ∧ (g.1 12 a k = 0 ∨ g.2 13 a k = g.2 5 (tn (g.1 10 a k)) 1)) ∧ (g.1 5 (tn (g.1 10 a k)) 2 = -1 ∨ S (tn (g.1 5 (tn (g.1 10 a k)) 2)))
def Fs (g : kG) (na a : Nat) : Prop := ∀ S : Nat → Prop, (∀ b, b < na → Hd g b S → S b) → S a
theorem Hd.mono {g : kG} {a : Nat} {S T : Nat → Prop} (H : Hd g a S) (h : ∀ b, S b → T b) : Hd g a T := ⟨H.1, fun k hk => ⟨(H.2 k hk).1, (H.2 k hk).2.imp id (h _)⟩⟩
theorem Fs_cl {g : kG} {na b : Nat} (hb : b < na) (H : Hd g b (Fs g na)) : Fs g na b := fun S hS => hS b hb (H.mono (fun c hc => hc S hS))
theorem Fs_lt {g : kG} {na b : Nat} (H : Fs g na b) : b < na := H (fun c => c < na) (fun c hc _ => hc)
theorem lg0 (x y : Int64) : lg_cmp x y = 0 ↔ x = y := by
  unfold lg_cmp
  constructor
  · intro h
    split at h
    · exact absurd h (by decide)
    · next h1 =>
      split at h
      · next h2 => exact h2
      · exact absurd h (by decide)
  · intro h
    subst h
    rw [if_neg Int64.lt_irrefl, if_pos rfl]
section FR
variable {nf na nm tm : Nat} {g h : kG}
theorem xLike_iff (R : Rl nf na nm tm g h) {a k f : Nat} (hk : k < 12) : ¬ xLike g a (nI k) f = 0 ↔ (g.1 11 a k = g.1 5 f 0 ∧ (g.1 12 a k = 0 ∨ g.2 13 a k = g.2 5 f 1)) := by
  unfold xLike
  rw [show (nI k).toNatClampNeg = k from nI_clamp (by omega)]
  split
  · next h1 =>
    split
    · next h2 => exact ⟨fun _ => ⟨h1, Or.inl h2⟩, fun _ => by decide⟩
    · next h2 =>
      split
      · next h3 => exact ⟨fun _ => ⟨h1, Or.inr ((lg0 _ _).mp h3)⟩, fun _ => by decide⟩
      · next h3 => exact ⟨fun q => absurd rfl q, fun q => (q.2.elim h2 (fun q => h3 ((lg0 _ _).mpr q))).elim⟩
  · next h1 => exact ⟨fun q => absurd rfl q, fun q => absurd q.1 h1⟩
theorem xFr_iff (R : Rl nf na nm tm g h) {f : Nat} (hf : f < nf) (m : Int32) : ¬ xFr g f m = 0 ↔ (g.1 5 f 2 = -1 ∨ bt m (tn (g.1 5 f 2)) = true) := by
  unfold xFr xMade
  rcases (R.f4 f hf).2 with e | ⟨b, hb, e⟩
  · rw [if_pos e, if_pos rfl]
    exact ⟨fun _ => Or.inl e, fun _ => by decide⟩
  · have h12 : na ≤ 12 := R.c1.2.1
    have e1 : ¬ g.1 5 f 2 = -1 := by rw [e]; exact nI_m1 (by omega)
    rw [if_neg e1, if_neg (by decide), e, tn_nI (by omega)]
    split
    · next q =>
      have q2 := (xBit_b (by omega)).mp q
      exact ⟨fun z => absurd rfl z, fun z => z.elim (fun z => absurd z (nI_m1 (by omega))) (fun z => by rw [q2] at z; cases z)⟩
    · next q =>
      refine ⟨fun _ => Or.inr ?_, fun _ => by decide⟩
      cases z : bt m b with
      | true => rfl
      | false => exact absurd ((xBit_b (by omega)).mpr z) q
theorem xHo_iff (R : Rl nf na nm tm g h) {a : Nat} (ha : a < 12) (m : Int32) : ∀ n k, k + n ≤ tn (g.1 9 a 4) → (¬ xHo g a m n k = 0 ↔ ∀ j, k ≤ j → j < k + n → (g.1 11 a j = g.1 5 (tn (g.1 10 a j)) 0 ∧ (g.1 12 a j = 0 ∨ g.2 13 a j = g.2 5 (tn (g.1 10 a j)) 1)) ∧ (g.1 5 (tn (g.1 10 a j)) 2 = -1 ∨ bt m (tn (g.1 5 (tn (g.1 10 a j)) 2)) = true))
  | 0, k, _ => ⟨fun _ j h1 h2 => by omega, fun _ => by show ¬ (1 : Int32) = 0; decide⟩
  | n + 1, k, hkn => by
    have hc := (R.n1 a ha).2
    have hk : k < 12 := by have := hc.2; omega
    obtain ⟨f, hf, ef⟩ := R.n7 a ha k (by omega)
    have h24 : nf ≤ 24 := R.c1.1
    have ef2 : tn (g.1 10 a k) = f := by rw [ef]; exact tn_nI (by omega)
    have i1 := xLike_iff R (a := a) (f := f) hk
    have i2 := xFr_iff R hf m
    have ih := xHo_iff R ha m n (k + 1) (by omega)
    unfold xHo
    rw [ef2]
    split
    · next q =>
      refine ⟨fun z => absurd rfl z, fun z => ?_⟩
      have z2 := (z k (Nat.le_refl _) (by omega)).1
      rw [ef2] at z2
      exact absurd q (i1.mpr z2)
    · next q =>
      split
      · next q2 =>
        refine ⟨fun z => absurd rfl z, fun z => ?_⟩
        have z2 := (z k (Nat.le_refl _) (by omega)).2
        rw [ef2] at z2
        exact absurd q2 (i2.mpr z2)
      · next q2 =>
        rw [ih]
        constructor
        · intro z j h1 h2
          by_cases e : j = k
          · subst e
            rw [ef2]
            exact ⟨i1.mp q, i2.mp q2⟩
          · exact z j (by omega) (by omega)
        · intro z j h1 h2
          exact z j (by omega) (by omega)
theorem xHold_iff (R : Rl nf na nm tm g h) {a : Nat} (ha : a < 12) (m : Int32) : ¬ xHold g a m = 0 ↔ Hd g a (fun b => bt m b = true) := by
  unfold xHold Hd
  split
  · next q => exact ⟨fun z => absurd rfl z, fun z => absurd q z.1⟩
  · next q =>
    rw [xHo_iff R ha m _ 0 (by omega)]
    exact ⟨fun z => ⟨q, fun k hk => z k (by omega) (by omega)⟩, fun z j _ h2 => z.2 j (by omega)⟩
/-- a round of the class: bits only come, only such as may, all that must -/
theorem xRd_ok (R : Rl nf na nm tm g h) : ∀ n k m, k + n ≤ na → (∀ b, bt m b = true → bt (xRd g n k m) b = true) ∧ ((∀ b, b < 32 → bt m b = true → Fs g na b) → ∀ b, b < 32 → bt (xRd g n k m) b = true → Fs g na b) ∧ (∀ b, k ≤ b → b < k + n → Hd g b (fun c => bt m c = true) → bt (xRd g n k m) b = true) ∧ (xRd g n k m = m ∨ ∃ b, b < na ∧ bt m b = false ∧ bt (xRd g n k m) b = true)
  | 0, k, m, _ => ⟨fun b h => h, fun H b => H b, fun b h1 h2 => by omega, Or.inl rfl⟩
  | n + 1, k, m, hk => by
    have h12 : na ≤ 12 := R.c1.2.1
    have ih := fun m => xRd_ok R n (k + 1) m (by omega)
    have i := xHold_iff R (a := k) (by omega) m
    unfold xRd
    split
    · next q =>
      obtain ⟨i1, i2, i3, i4⟩ := ih m
      refine ⟨i1, i2, fun b h1 h2 h3 => ?_, i4⟩
      by_cases e : b = k
      · subst e
        exact absurd q (i.mpr h3)
      · exact i3 b (by omega) (by omega) h3
    · next q =>
      have hH := i.mp q
      obtain ⟨i1, i2, i3, i4⟩ := ih (m ||| (1 <<< (nI k &&& 31)))
      have hs : ∀ b, b < 32 → bt (m ||| (1 <<< (nI k &&& 31))) b = (bt m b || decide (b = k)) := fun b hb => b_set (by omega) m hb
      have up : ∀ b, bt m b = true → bt (m ||| (1 <<< (nI k &&& 31))) b = true := fun b hb => by rw [b_or, hb]; rfl
      have hkk : bt (m ||| (1 <<< (nI k &&& 31))) k = true := by rw [hs k (by omega)]; simp
      refine ⟨fun b hb => i1 b (up b hb), fun H => i2 (fun b hb hb2 => ?_), fun b h1 h2 h3 => ?_, ?_⟩
      · rw [hs b hb] at hb2
        by_cases e : b = k
        · subst e
          refine Fs_cl (by omega) (hH.mono (fun c hc => ?_))
          rcases Nat.lt_or_ge c 32 with hc2 | hc2
          · exact H c hc2 hc
          · rw [b_big hc2] at hc
            cases hc
        · simp [e] at hb2
          exact H b hb hb2
      · by_cases e : b = k
        · subst e
          exact i1 b hkk
        · exact i3 b (by omega) (by omega) (h3.mono (fun c hc => up c hc))
      · cases z : bt m k with
        | true =>
          rw [b_set_same (by omega) z] at i4 ⊢
          exact i4
        | false => exact Or.inr ⟨k, by omega, z, i1 k hkk⟩
def xCt (m : Int32) : Nat → Nat
  | 0 => 0
  | n + 1 => xCt m n + if bt m n = false then 1 else 0
theorem xCt_le (m : Int32) : ∀ n, xCt m n ≤ n
  | 0 => Nat.le_refl _
  | n + 1 => by
    have := xCt_le m n
    unfold xCt
    split <;> omega
theorem xCt_mono {m m' : Int32} (h : ∀ b, bt m b = true → bt m' b = true) : ∀ n, xCt m' n ≤ xCt m n
  | 0 => Nat.le_refl _
  | n + 1 => by
    have ih := xCt_mono h n
    unfold xCt
    split
    · next q =>
      have : bt m n = false := by
        cases z : bt m n with
        | false => rfl
        | true => rw [h n z] at q; cases q
      rw [if_pos this]
      omega
    · split <;> omega
theorem xCt_lt {m m' : Int32} (h : ∀ b, bt m b = true → bt m' b = true) {k : Nat} (h1 : bt m k = false) (h2 : bt m' k = true) : ∀ n, k < n → xCt m' n < xCt m n
  | 0, hk => absurd hk (Nat.not_lt_zero _)
  | n + 1, hk => by
    have ih := xCt_mono h n
    unfold xCt
    by_cases e : k = n
    · subst e
      rw [if_pos h1, if_neg (by rw [h2]; decide)]
      omega
    · have ih2 := xCt_lt h h1 h2 n (by omega)
      split
      · next q =>
        have : bt m n = false := by
          cases z : bt m n with
          | false => rfl
          | true => rw [h n z] at q; cases q
        rw [if_pos this]
        omega
      · split <;> omega
theorem xCt_0 {m : Int32} : ∀ n, xCt m n = 0 → ∀ b, b < n → bt m b = true
  | 0, _, b, hb => absurd hb (Nat.not_lt_zero _)
  | n + 1, h0, b, hb => by
    unfold xCt at h0
    by_cases e : b = n
    · subst e
      cases z : bt m b with
      | true => rfl
      | false => rw [if_pos z] at h0; omega
    · exact xCt_0 n (by omega) b (by omega)
theorem xFa_ok (R : Rl nf na nm tm g h) : ∀ n m, xCt m na ≤ n → (∀ b, b < 32 → bt m b = true → Fs g na b) → (∀ b, b < 32 → bt (xFa g na n m) b = true → Fs g na b) ∧ (∀ b, b < na → Hd g b (fun c => bt (xFa g na n m) c = true) → bt (xFa g na n m) b = true)
  | 0, m, hn, H => ⟨H, fun b hb _ => xCt_0 (m := m) na (by omega) b hb⟩
  | n + 1, m, hn, H => by
    obtain ⟨i1, i2, i3, i4⟩ := xRd_ok R na 0 m (by omega)
    unfold xFa
    split
    · next q =>
      refine ⟨i2 H, fun b hb => ?_⟩
      rw [q] at i3 ⊢
      exact i3 b (by omega) (by omega)
    · next q =>
      refine xFa_ok R n _ ?_ (i2 H)
      rcases i4 with e | ⟨b, hb, h1, h2⟩
      · exact absurd e q
      · have := xCt_lt i1 h1 h2 na hb
        omega
theorem xFresh_iff (R : Rl nf na nm tm g h) {b : Nat} (hb : b < 32) : bt (xFresh g) b = true ↔ Fs g na b := by
  have h12 : na ≤ 12 := R.c1.2.1
  have e : tn (g.1 0 0 5) = na := by rw [R.c3.1]; exact tn_nI (by omega)
  have q := xFa_ok R na 0 (xCt_le _ _) (fun b _ hb => by rw [b_0] at hb; cases hb)
  unfold xFresh
  rw [e]
  exact ⟨q.1 b hb, fun F => F _ q.2⟩
end FR
section FM
variable {nf na nm tm : Nat} {g h : kG}
/-- what the reference's set says -/
abbrev mSt' (h : kG) : Nat → Prop := fun b => ¬ h.1 22 0 b = 0
theorem mSo_0 (h : kG) (a : Nat) : ∀ n k, mSo h a n k 0 = 0
  | 0, _ => rfl
  | n + 1, k => by unfold mSo; rw [if_pos rfl]
theorem mSoM_iff (R : Rl nf na nm tm g h) {f : Nat} (hf : f < nf) (K : Int32 → Int32) (hK : K 0 = 0) : ¬ mSoM h f K = 0 ↔ (g.1 5 f 2 = -1 ∨ mSt' h (tn (g.1 5 f 2))) ∧ ¬ K 1 = 0 := by
  unfold mSoM
  rw [(R.f4 f hf).1]
  split
  · next e => exact ⟨fun q => ⟨Or.inl e, q⟩, fun q => q.2⟩
  · next e =>
    split
    · next e2 => exact ⟨fun q => absurd hK q, fun q => (q.1.elim e (fun z => z e2)).elim⟩
    · next e2 => exact ⟨fun q => ⟨Or.inr e2, q⟩, fun q => q.2⟩
theorem mSo_iff (R : Rl nf na nm tm g h) {a : Nat} (ha : a < 12) : ∀ n k, k + n ≤ tn (g.1 9 a 4) → (¬ mSo h a n k 1 = 0 ↔ ∀ j, k ≤ j → j < k + n → (g.1 11 a j = g.1 5 (tn (g.1 10 a j)) 0 ∧ (g.1 12 a j = 0 ∨ g.2 13 a j = g.2 5 (tn (g.1 10 a j)) 1)) ∧ (g.1 5 (tn (g.1 10 a j)) 2 = -1 ∨ mSt' h (tn (g.1 5 (tn (g.1 10 a j)) 2))))
  | 0, k, _ => ⟨fun _ j h1 h2 => by omega, fun _ => by show ¬ (1 : Int32) = 0; decide⟩
  | n + 1, k, hkn => by
    have hc := (R.n1 a ha).2
    have hk : k < 12 := by have := hc.2; omega
    obtain ⟨f, hf, ef⟩ := R.n7 a ha k (by omega)
    have h24 : nf ≤ 24 := R.c1.1
    have ef2 : tn (g.1 10 a k) = f := by rw [ef]; exact tn_nI (by omega)
    have ih := mSo_iff R ha n (k + 1) (by omega)
    have i2 := mSoM_iff R hf (fun z => mSo h a n (k + 1) z) (mSo_0 h a n (k + 1))
    have key : ¬ mSoB h (24 * a + k) f (fun z => mSo h a n (k + 1) z) = 0 ↔ ((g.1 11 a k = g.1 5 f 0 ∧ (g.1 12 a k = 0 ∨ g.2 13 a k = g.2 5 f 1)) ∧ (g.1 5 f 2 = -1 ∨ mSt' h (tn (g.1 5 f 2)))) ∧ ¬ mSo h a n (k + 1) 1 = 0 := by
      unfold mSoB
      rw [R.f1 f (by omega), R.f2 f (by omega), R.n3 a ha k hk, R.n4 a ha k hk, R.n5 a ha k hk]
      split
      · next e1 =>
        split
        · next e2 =>
          rw [i2]
          exact ⟨fun q => ⟨⟨⟨e1.symm, Or.inl e2⟩, q.1⟩, q.2⟩, fun q => ⟨q.1.2, q.2⟩⟩
        · next e2 =>
          split
          · next e3 =>
            rw [i2]
            have e4 : g.2 13 a k = g.2 5 f 1 := by rw [(R.f3 f (by omega)).2 e3, R.n6 a ha k hk (e1.symm.trans e3)]
            exact ⟨fun q => ⟨⟨⟨e1.symm, Or.inr e4⟩, q.1⟩, q.2⟩, fun q => ⟨q.1.2, q.2⟩⟩
          · next e3 =>
            split
            · next e4 =>
              rw [i2]
              exact ⟨fun q => ⟨⟨⟨e1.symm, Or.inr ((lg0 _ _).mp e4).symm⟩, q.1⟩, q.2⟩, fun q => ⟨q.1.2, q.2⟩⟩
            · next e4 =>
              refine ⟨fun q => absurd (mSo_0 h a n (k + 1)) q, fun q => ?_⟩
              rcases q.1.1.2 with z | z
              · exact absurd z e2
              · exact absurd ((lg0 _ _).mpr z.symm) e4
      · next e1 => exact ⟨fun q => absurd (mSo_0 h a n (k + 1)) q, fun q => absurd q.1.1.1.symm e1⟩
    unfold mSo
    rw [if_neg (by decide), R.n2 a ha k hk, ef2, key, ih]
    constructor
    · intro z j h1 h2
      by_cases e : j = k
      · subst e
        rw [ef2]
        exact z.1
      · exact z.2 j (by omega) (by omega)
    · intro z
      refine ⟨?_, fun j h1 h2 => z j (by omega) (by omega)⟩
      have z2 := z k (Nat.le_refl _) (by omega)
      rw [ef2] at z2
      exact z2
theorem mIsSo_iff (R : Rl nf na nm tm g h) {a : Nat} (ha : a < na) : ¬ mIsSo h a = 0 ↔ Hd g a (mSt' h) := by
  have h12 : na ≤ 12 := R.c1.2.1
  unfold mIsSo Hd
  rw [(R.n1 a (by omega)).1]
  rcases R.k1 a ha with ⟨e1, e2⟩ | ⟨e1, e2, e3⟩
  · rw [if_pos e2]
    exact ⟨fun q => absurd (mSo_0 _ _ _ _) q, fun q => absurd e1 q.1⟩
  · have e4 : ¬ h.1 13 0 a = 2 := by rcases e3 with z | z <;> (rw [e2, z]; decide)
    rw [if_neg e4, mSo_iff R (by omega) _ 0 (by omega), e1]
    exact ⟨fun z => ⟨by decide, fun k hk => z k (by omega) (by omega)⟩, fun z j _ h2 => z.2 j (by omega)⟩
theorem Rl.set22 (R : Rl nf na nm tm g h) (k : Nat) (hk : k < 12) (v : Int32) (hz : kZ v) : Rl nf na nm tm g (kU h.1 22 0 k v, h.2) := R.free (fun q j hq => kU_n (fun e => hq e.1)) (fun _ _ _ => rfl) (fun j => by
  show kZ (kU h.1 22 0 k v 22 0 j)
  rw [kU22]
  split
  · exact hz
  · exact R.z1 j) (fun j hj => (kU_n (by omega)).trans (R.z2 j hj))
theorem mRd_1 : ∀ n k (h : kG), (mRd n k 1 h).1 = 1
  | 0, k, h => rfl
  | n + 1, k, h => by
    unfold mRd
    split
    · split
      · exact mRd_1 n (k + 1) h
      · exact mRd_1 n (k + 1) _
    · exact mRd_1 n (k + 1) h
theorem mRd_ok : ∀ n k mo (h : kG), Rl nf na nm tm g h → k + n ≤ na → ((∀ b, mSt' h b → Fs g na b) → ∀ b, mSt' (mRd n k mo h).2 b → Fs g na b) ∧ ((mRd n k mo h).1 = 0 → (mRd n k mo h).2 = h ∧ ∀ b, k ≤ b → b < k + n → Hd g b (mSt' h) → mSt' h b) ∧ Rl nf na nm tm g (mRd n k mo h).2
  | 0, k, mo, h, R, _ => ⟨fun H => H, fun _ => ⟨rfl, fun b h1 h2 => by omega⟩, R⟩
  | n + 1, k, mo, h, R, hk => by
    have i := mIsSo_iff R (a := k) (by omega)
    unfold mRd
    split
    · next q0 =>
      split
      · next q =>
        obtain ⟨i1, i2, i3⟩ := mRd_ok n (k + 1) mo h R (by omega)
        refine ⟨i1, fun z => ⟨(i2 z).1, fun b h1 h2 h3 => ?_⟩, i3⟩
        by_cases e : b = k
        · subst e
          exact absurd q (i.mpr h3)
        · exact (i2 z).2 b (by omega) (by omega) h3
      · next q =>
        have hH := i.mp q
        obtain ⟨i1, i2, i3⟩ := mRd_ok n (k + 1) 1 (kU h.1 22 0 k 1, h.2) (R.set22 k (by have := R.c1.2.1; omega) 1 (Or.inr rfl)) (by omega)
        refine ⟨fun H => i1 (fun b hb => ?_), fun z => ?_, i3⟩
        · have hb2 : ¬ kU h.1 22 0 k 1 22 0 b = 0 := hb
          rw [kU22] at hb2
          by_cases e : b = k
          · subst e
            exact Fs_cl (by omega) (hH.mono H)
          · rw [if_neg e] at hb2
            exact H b hb2
        · rw [mRd_1] at z
          exact absurd z (by decide)
    · next q0 =>
      obtain ⟨i1, i2, i3⟩ := mRd_ok n (k + 1) mo h R (by omega)
      refine ⟨i1, fun z => ⟨(i2 z).1, fun b h1 h2 h3 => ?_⟩, i3⟩
      by_cases e : b = k
      · subst e
        exact q0
      · exact (i2 z).2 b (by omega) (by omega) h3
theorem mFv_ok : ∀ n mo (h : kG), Rl nf na nm tm g h → mCt h 12 < n → (∀ b, mSt' h b → Fs g na b) → (mo = 0 → ∀ b, b < na → Hd g b (mSt' h) → mSt' h b) → (∀ b, mSt' (mFv na n mo h) b → Fs g na b) ∧ ∀ b, b < na → Hd g b (mSt' (mFv na n mo h)) → mSt' (mFv na n mo h) b
  | 0, mo, h, R, hn, H, H0 => absurd hn (Nat.not_lt_zero _)
  | n + 1, mo, h, R, hn, H, H0 => by
    have h12 : na ≤ 12 := R.c1.2.1
    unfold mFv
    split
    · next e => exact ⟨H, H0 e⟩
    · next e =>
      obtain ⟨i1, i2, i3⟩ := mRd_ok na 0 0 h R (by omega)
      have hd := (mRd_dn na 0 0 h (by omega)).2
      by_cases z : (mRd na 0 0 h).1 = 0
      · rw [(i2 z).1, z]
        have cl : ∀ b, b < na → Hd g b (mSt' h) → mSt' h b := fun b hb => (i2 z).2 b (by omega) (by omega)
        cases n with
        | zero => exact ⟨H, cl⟩
        | succ n =>
          unfold mFv
          rw [if_pos rfl]
          exact ⟨H, cl⟩
      · refine mFv_ok n _ _ i3 ?_ (i1 H) (fun z2 => absurd z2 z)
        rcases hd with e | e
        · exact absurd e z
        · omega
theorem mClr_0 : ∀ n k (h : kG) b, k ≤ b → b < k + n → (mClr n k h).1 22 0 b = 0
  | 0, k, h, b, h1, h2 => by omega
  | n + 1, k, h, b, h1, h2 => by
    unfold mClr
    by_cases e : b = k
    · subst e
      have : ∀ n k (h : kG) b, b < k → (mClr n k h).1 22 0 b = h.1 22 0 b := by
        intro n
        induction n with
        | zero => intro k h b _; rfl
        | succ n ih =>
          intro k h b hb
          unfold mClr
          rw [ih (k + 1) _ b (by omega)]
          exact kU_n (by omega)
      rw [this n (b + 1) _ b (by omega)]
      exact kU_s ..
    · exact mClr_0 n (k + 1) _ b (by omega) (by omega)
theorem mClr_hi : ∀ n k (h : kG) b, k + n ≤ b → (mClr n k h).1 22 0 b = h.1 22 0 b
  | 0, k, h, b, h1 => rfl
  | n + 1, k, h, b, h1 => by
    unfold mClr
    rw [mClr_hi n (k + 1) _ b (by omega)]
    exact kU_n (by omega)
theorem Rl.clr (R : Rl nf na nm tm g h) : Rl nf na nm tm g (mClr 12 0 h) := R.free (fun k j hk => mClr_fr 12 0 h k 0 j hk) (fun k j _ => by rw [mClr_J]) (mClr_Z 12 0 h R.z1) (fun j hj => (mClr_hi 12 0 h j (by omega)).trans (R.z2 j hj))
theorem mFr_iff (R : Rl nf na nm tm g h) (b : Nat) : mSt' (mFr h) b ↔ Fs g na b := by
  have h12 : na ≤ 12 := R.c1.2.1
  have e : tn (h.1 0 0 3) = na := by rw [R.c3.2]; exact tn_nI (by omega)
  have q := mFv_ok 13 1 (mClr 12 0 h) R.clr (by have := mCt_le (mClr 12 0 h) 12; omega) (fun b hb => by
    rcases Nat.lt_or_ge b 12 with z | z
    · exact absurd (mClr_0 12 0 h b (by omega) (by omega)) hb
    · exact absurd ((mClr_hi 12 0 h b (by omega)).trans (R.z2 b z)) hb) (fun z => absurd z (by decide))
  unfold mFr
  rw [e]
  exact ⟨q.1 b, fun F => F _ q.2⟩
theorem Rl.fr (R : Rl nf na nm tm g h) : Rl nf na nm tm g (mFr h) := R.free (fun k j hk => mFr_fr h k 0 j hk) (fun k j _ => by rw [mFr_J]) (mFr_Z h R.z1) (fun j hj => by
  have q := mFr_iff R j
  by_cases z : (mFr h).1 22 0 j = 0
  · exact z
  · have := Fs_lt (q.mp z)
    have := R.c1.2.1
    omega)
end FM
end
