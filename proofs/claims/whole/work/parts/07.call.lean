/-! contracts over a system's memory, entries, returns, calls -/
def kPre (y : kSys) (as : List kV) (g : kG) : Array Value → State → Prop := va_Pc (as.map (k_cv (y_ad y))) (fun U => kWd y g U.heap ∧ kSO y U)
def kPost (y : kSys) (post : Option kV → kG → Prop) : Array Value → State → Outcome → State → Prop := fun _ st oc t => (∃ (r : Option kV) (g2 : kG), oc = .returned (r.map (k_cv (y_ad y))) ∧ post r g2 ∧ kWd y g2 t.heap) ∧ va_F (kAA y) st t
def kRm (f n : Nat) : Room := { frames := f, cells := 0, slots := 0, locals := n }
def kMet (y : kSys) (l : Launch) (ym : MethodName) (cc : ByteArray) (nL : Nat) (ret : Option FieldType) (f n : Nat) (as : List kV) (g : kG) (post : Option kV → kG → Prop) : Prop := Met l ym (.code ym cc nL ret :: kT) (kRm f n) (kPre y as g) (kPost y post) 0 0 (kAA y)
/-- the end that a walk is to come to -/
def kQ (y : kSys) (post : Option kV → kG → Prop) (x : kCx) : State → Prop := MQ x.2.2.2.2.2.2.2.1 (kPost y post) x.2.2.2.2.2.2.1 x.2.2.2.2.1 0 0 (kAA y)
/-- what a walk has of its method: machine, memory, launch, room, locals, answer's type -/
def kIn (y : kSys) (l : Launch) (cc : ByteArray) (own : String) (nL : Nat) (ret : Option FieldType) (f n : Nat) (x : kCx) : Prop := kOk x cc own ∧ kSO y x.2.2.2.2.1 ∧ x.2.1 = l ∧ x.2.2.2.1 = kRm f n ∧ x.2.2.2.2.2.2.2.2.2.maxLocals = nL ∧ x.2.2.2.2.2.2.2.2.1.sig.returnType = ret ∧ x.2.2.2.2.2.2.2.2.1.locks = false
theorem k_enter {y : kSys} {l : Launch} {ym : MethodName} {cc : ByteArray} {nL : Nat} {ret : Option FieldType} {f n : Nat} {as : List kV} {g : kG} {post : Option kV → kG → Prop} (hy : plainName ym.cls = true) (ls0 : List (Option kV)) (hls : k_tl (y_ad y) 0 ls0 = lv_args 0 (as.map (k_cv (y_ad y)))) (hlen : ls0.length = nL) (hsl : (lg_sl (as.map (k_cv (y_ad y)))).length ≤ nL)
    (body : ∀ x : kCx, kIn y l cc ym.cls nL ret f n x → Wk (kWd y) (kAA y) (y_ad y) x (0, 0) (kQ y post x) 0 ls0 [] g) : kMet y l ym cc nL ret f n as g post := by
  refine Met.ofW (cc := cc) (maxL := nL) (ret := ret) hy rfl ?_
  intro p e s m args below meth c s₁ B hml hv
  obtain ⟨rfl, hw, hO⟩ := hv
  have h := body (p, l, e, kRm f n, s, m, (as.map (k_cv (y_ad y))).toArray, below, meth, c) ⟨⟨B.exec, B.bytes, findClass_of_methodNamed B.named, fun w h hg => atoms_spec B.pre w (List.mem_cons_of_mem _ (kT_in ⟨h, hg⟩))⟩, hO, rfl, rfl, hml, B.returns, B.notSynchronized⟩
  rw [lg_entry_eq]
  exact h s.heap [] _ hw va_S.rf (by rw [hls, hlen]; exact lv_entry _ hsl)
section KC
variable {y : kSys} {x : kCx} {pc : Nat} {ls : List (Option kV)} {st : List kV} {g : kG} {cc : ByteArray} {own : String} {l : Launch} {nL f n : Nat} {ret : Option FieldType} {post : Option kV → kG → Prop}
theorem k_iret (X : kIn y l cc own nL (some .int) f n x) {v : Int32} (hd : decode cc pc = .ok (.ireturn, 1)) (hp : post (some (.inl v)) g) : Wk (kWd y) (kAA y) (y_ad y) x (0, 0) (kQ y post x) pc ls [.inl v] g :=
  fun H locs la hw hS hl => W.iret X.1.1 X.1.2.1 X.2.2.2.2.2.1 (fun t ht hW => ⟨⟨some (.inl v), g, rfl, hp, by rw [ht]; exact hw⟩, hS.F ht⟩) hS.2.2 hd X.2.2.2.2.2.2
theorem k_zret (X : kIn y l cc own nL (some .boolean) f n x) {v : Int32} (hd : decode cc pc = .ok (.ireturn, 1)) (hz : kZ v) (hp : post (some (.inl v)) g) : Wk (kWd y) (kAA y) (y_ad y) x (0, 0) (kQ y post x) pc ls [.inl v] g :=
  fun H locs la hw hS hl => W.zret X.1.1 X.1.2.1 X.2.2.2.2.2.1 (kZ_nar hz).1 (fun t ht hW => ⟨⟨some (.inl v), g, rfl, hp, by rw [ht]; exact hw⟩, hS.F ht⟩) hS.2.2 hd X.2.2.2.2.2.2
theorem k_lret (X : kIn y l cc own nL (some .long) f n x) {v : Int64} (hd : decode cc pc = .ok (.lreturn, 1)) (hp : post (some (.inr (.inl v))) g) : Wk (kWd y) (kAA y) (y_ad y) x (0, 0) (kQ y post x) pc ls [.inr (.inl v)] g :=
  fun H locs la hw hS hl => W.lret X.1.1 X.1.2.1 X.2.2.2.2.2.1 (fun t ht hW => ⟨⟨some (.inr (.inl v)), g, rfl, hp, by rw [ht]; exact hw⟩, hS.F ht⟩) hS.2.2 hd X.2.2.2.2.2.2
theorem k_vret (X : kIn y l cc own nL none f n x) (hd : decode cc pc = .ok (.return_, 1)) (hp : post none g) : Wk (kWd y) (kAA y) (y_ad y) x (0, 0) (kQ y post x) pc ls [] g :=
  fun H locs la hw hS hl => W.vret X.1.1 X.1.2.1 X.2.2.2.2.2.1 (fun t ht hW => ⟨⟨none, g, rfl, hp, by rw [ht]; exact hw⟩, hS.F ht⟩) hS.2.2 hd X.2.2.2.2.2.2
end KC
theorem kPre_blind {y : kSys} {as : List kV} {g : kG} : FrameBlind (kPre y as g) := fun a U gf mk q => ⟨q.1, q.2.1, q.2.2.same rfl⟩
/-- behind a call -/
theorem k_after {y : kSys} {x : kCx} {nn : Nat × Nat} {Q : State → Prop} {pc : Nat} {ls : List (Option kV)} {rest : List kV} {post : Option kV → kG → Prop} {a : Array Value} {H : Heap} {locs : List Loc} {la : Array Slot} {st' : List Value}
    (hrun : va_Run x.1 x.2.1 x.2.2.1 x.2.2.2.1 x.2.2.2.2.1 x.2.2.2.2.2.1 x.2.2.2.2.2.2.1 x.2.2.2.2.2.2.2.1 x.2.2.2.2.2.2.2.2.1 x.2.2.2.2.2.2.2.2.2 H locs nn.1 nn.2 0 0 (F0 x.2.2.2.2.2.1 pc la st') (rest.map (k_cv (y_ad y))) (kPost y post a) (kAA y))
    (hS : va_S (kAA y) x.2.2.2.2.1.heap H locs) (hl : lv_has la ls.length (k_tl (y_ad y) 0 ls))
    (kk : ∀ r g2, post r g2 → Wk (kWd y) (kAA y) (y_ad y) x nn Q (pc + 3) ls (r.toList ++ rest) g2) : W x.1 x.2.1 x.2.2.1 x.2.2.2.1 x.2.2.2.2.1 x.2.2.2.2.2.1 x.2.2.2.2.2.2.1 x.2.2.2.2.2.2.2.1 x.2.2.2.2.2.2.2.2.1 x.2.2.2.2.2.2.2.2.2 H locs nn.1 nn.2 Q (F0 x.2.2.2.2.2.1 pc la st') := by
  intro T hT X
  obtain ⟨v, st₀, t, T', L, h0, X', hL, e1, e2, ⟨⟨r, g2, hv, hp, hb⟩, hz, hk⟩, stp⟩ := hrun T hT X
  cases hv
  rw [h0] at hz hk
  obtain ⟨t2, a1, b1⟩ := kk r g2 hp T'.heap (locs ++ L) la (by rw [e1]; exact hb)
    ⟨Nat.le_trans hS.1 (by rw [e1]; exact hz), fun q h1 h2 => by rw [e1, hk q (Nat.lt_of_lt_of_le h1 hS.1) h2]; exact hS.2.1 q h1 h2, fun q hq => by
      rcases List.mem_append.mp hq with h | h
      · exact hS.2.2 q h
      · exact hL q h⟩ hl T' rfl X'
  have e3 : (r.toList ++ rest).map (k_cv (y_ad y)) = (r.map (k_cv (y_ad y))).toList ++ rest.map (k_cv (y_ad y)) := by cases r <;> rfl
  rw [e3] at a1
  exact ⟨t2, stp t2 a1, b1⟩
/-- a call's words: an instance method of a class of ours -/
def kCv (own : String) (idx : Nat) (ym : MethodName) (cc : ByteArray) (nL : Nat) (ret : Option FieldType) (ci na : Nat) : Prop := ∃ (Cn : String) (T : u_T) (N : Nat), kCl[ci]? = some (Cn, T, N) ∧ ym.cls = Cn ∧ Cond.methodLink own idx ym ∈ kT ∧ Cond.instanceMethod ym ∈ kT ∧ Cond.selects Cn ym ym ∈ kT ∧ Cond.initialized Cn ∈ kT ∧ Cond.code ym cc nL ret ∈ kT ∧ ym.cls ≠ "java/lang/invoke/MethodHandle" ∧ ym.cls ≠ "java/lang/invoke/VarHandle" ∧ (parseMethodDescriptor ym.desc).map (fun d => d.parameters.length) = some na
/-- a static method's -/
def kCs (own : String) (idx : Nat) (ym : MethodName) (cc : ByteArray) (nL : Nat) (ret : Option FieldType) (na : Nat) : Prop := Cond.methodLink own idx ym ∈ kT ∧ Cond.static ym ∈ kT ∧ Cond.initialized ym.cls ∈ kT ∧ Cond.code ym cc nL ret ∈ kT ∧ ym.cls ≠ "java/lang/invoke/MethodHandle" ∧ ym.cls ≠ "java/lang/invoke/VarHandle" ∧ (parseMethodDescriptor ym.desc).map (fun d => d.parameters.length) = some na
section KD
variable {y : kSys} {x : kCx} {pc : Nat} {ls : List (Option kV)} {st rest : List kV} {g : kG} {cc : ByteArray} {own : String} {l : Launch} {nL f n : Nat} {ret : Option FieldType} {post : Option kV → kG → Prop} {Q : State → Prop}
theorem k_callV (X : kIn y l cc own nL ret f n x) {idx : Nat} {ym : MethodName} {cc2 : ByteArray} {nL2 f2 n2 ci k i : Nat} {ret2 : Option FieldType} {as : List kV} (hd : decode cc pc = .ok (.invokevirtual idx, 3)) (hM : kMet y l ym cc2 nL2 ret2 f2 n2 (.inr (.inr (k, i)) :: as) g post) (hc : kCv own idx ym cc2 nL2 ret2 ci as.length) (hr : (k, i) ∈ y_refs y) (hk : y_is y k = 0) (hkc : y_kc y k = ci) (hR : f2 + 1 ≤ f ∧ 8 + (nL2 + 11) + n2 ≤ n) (hst : st = as.reverse ++ .inr (.inr (k, i)) :: rest) (hll : ls.length = nL) (hW : ((rest.map (k_cv (y_ad y))).map fun v => v.category).sum ≤ 8)
    (kk : ∀ r g2, post r g2 → Wk (kWd y) (kAA y) (y_ad y) x (0, 0) Q (pc + 3) ls (r.toList ++ rest) g2) : Wk (kWd y) (kAA y) (y_ad y) x (0, 0) Q pc ls st g := by
  intro H locs la hw hS hl
  obtain ⟨C, O, h1, h2, h3, -, -⟩ := X
  obtain ⟨Cn, T, N, c1, c2, c3, c4, c5, c6, c7, c8, c9, c10⟩ := hc
  obtain ⟨q, hq⟩ := List.getElem?_of_mem hr
  subst hst
  subst h1
  have hrec := va_recv (q := (Cn, T, N)) O.1 hw (by rw [hkc]; exact c1) (k_lget hq (kCel_0 hk))
  refine k_after (ls := ls) (rest := rest) (post := post) (a := ((.inr (.inr (k, i)) :: as).map (k_cv (y_ad y))).toArray) ?_ hS hl kk
  refine va_runV (As := as.map (k_cv (y_ad y))) (nL := nL) (C := Cn) (Ts := kT) ⟨C.1, C.2.1, h3, C.2.2.1, C.ts⟩ hM
    (cwV as.length C.ts (kT_good (fun w hw => ?_)) rfl rfl rfl ⟨c2, c8, c9, c10⟩ (by rw [h2]; exact hR)) ⟨kPre_blind, hrec, fun U hU hW => ⟨rfl, by rw [hU]; exact hw, O.warm hW⟩⟩ rfl (List.length_map ..) (hl.1.trans hll) ?_ (lv_room hW) hd ⟨by rw [h2]; exact Nat.zero_le _, by rw [h2]; exact Nat.zero_le _⟩
  · unfold wsV at hw
    rcases List.mem_append.mp hw with h | h
    · simp only [List.mem_cons, List.not_mem_nil, or_false] at h
      rcases h with rfl | rfl | rfl | rfl
      · exact c3
      · exact c4
      · exact c5
      · exact c6
    · rcases List.mem_cons.mp h with rfl | h
      · exact c7
      · exact h
  · show (as.reverse ++ .inr (.inr (k, i)) :: rest).map (k_cv (y_ad y)) = _
    rw [List.map_append, List.map_cons, List.map_reverse]
    rfl
theorem k_callS (X : kIn y l cc own nL ret f n x) {idx : Nat} {ym : MethodName} {cc2 : ByteArray} {nL2 f2 n2 : Nat} {ret2 : Option FieldType} {as : List kV} (hd : decode cc pc = .ok (.invokestatic idx, 3)) (hM : kMet y l ym cc2 nL2 ret2 f2 n2 as g post) (hc : kCs own idx ym cc2 nL2 ret2 as.length) (hR : f2 + 1 ≤ f ∧ 8 + (nL2 + 11) + n2 ≤ n) (hst : st = as.reverse ++ rest) (hll : ls.length = nL) (hW : ((rest.map (k_cv (y_ad y))).map fun v => v.category).sum ≤ 8)
    (kk : ∀ r g2, post r g2 → Wk (kWd y) (kAA y) (y_ad y) x (0, 0) Q (pc + 3) ls (r.toList ++ rest) g2) : Wk (kWd y) (kAA y) (y_ad y) x (0, 0) Q pc ls st g := by
  intro H locs la hw hS hl
  obtain ⟨C, O, h1, h2, h3, -, -⟩ := X
  obtain ⟨c3, c4, c6, c7, c8, c9, c10⟩ := hc
  subst hst
  subst h1
  refine k_after (ls := ls) (rest := rest) (post := post) (a := (as.map (k_cv (y_ad y))).toArray) ?_ hS hl kk
  refine va_runS (As := as.map (k_cv (y_ad y))) (nL := nL) (Ts := kT) ⟨C.1, C.2.1, h3, C.2.2.1, C.ts⟩ hM
    ⟨callB_of as.length C.ts (kT_good (fun w hw => ?_)) rfl rfl rfl (C.ts _ c6) (C.ts _ c3) ⟨c8, c9, c10⟩ (by rw [h2]; exact hR), C.ts _ c4⟩ ⟨kPre_blind, fun U hU hW => ⟨rfl, by rw [hU]; exact hw, O.warm hW⟩⟩ rfl (List.length_map ..) (hl.1.trans hll) ?_ (lv_room hW) hd ⟨by rw [h2]; exact Nat.zero_le _, by rw [h2]; exact Nat.zero_le _⟩
  · rcases List.mem_cons.mp hw with rfl | h
    · exact c7
    · exact h
  · show (as.reverse ++ rest).map (k_cv (y_ad y)) = _
    rw [List.map_append, List.map_reverse]
/-- memberDigest, called by the nest mate Mapping -/
theorem k_callN (X : kIn y l cc "DynamicNeeds$Mapping" nL ret f n x) {nL2 f2 n2 : Nat} {ret2 : Option FieldType} {cc2 : ByteArray} {as : List kV} (hd : decode cc pc = .ok (.invokestatic 25, 3)) (hM : kMet y l y_X_memberDigest cc2 nL2 ret2 f2 n2 as g post) (h7 : Cond.code y_X_memberDigest cc2 nL2 ret2 ∈ kT) (h4 : Cond.static y_X_memberDigest ∈ kT) (h6 : Cond.initialized "DynamicNeeds" ∈ kT) (h10 : as.length = 2) (hR : f2 + 1 ≤ f ∧ 8 + (nL2 + 11) + n2 ≤ n) (hst : st = as.reverse ++ rest) (hll : ls.length = nL) (hW : ((rest.map (k_cv (y_ad y))).map fun v => v.category).sum ≤ 8)
    (kk : ∀ r g2, post r g2 → Wk (kWd y) (kAA y) (y_ad y) x (0, 0) Q (pc + 3) ls (r.toList ++ rest) g2) : Wk (kWd y) (kAA y) (y_ad y) x (0, 0) Q pc ls st g := by
  intro H locs la hw hS hl
  obtain ⟨C, O, h1, h2, h3, -, -⟩ := X
  subst hst
  subst h1
  refine k_after (ls := ls) (rest := rest) (post := post) (a := (as.map (k_cv (y_ad y))).toArray) ?_ hS hl kk
  refine va_runSN (As := as.map (k_cv (y_ad y))) (nL := nL) (Ts := kT) ⟨C.1, C.2.1, h3, C.2.2.1, C.ts⟩ hM
    ⟨va_cnB 2 C.ts (kT_good (fun w hw => ?_)) rfl rfl rfl O.2.2.2 (C.ts _ h6) ⟨by decide, by decide, by decide +kernel⟩ (by rw [h2]; exact hR), C.ts _ h4, trivial⟩ ⟨kPre_blind, fun U hU hW => ⟨rfl, by rw [hU]; exact hw, O.warm hW⟩⟩ rfl (by rw [List.length_map]; exact h10) (hl.1.trans hll) ?_ (lv_room hW) hd ⟨by rw [h2]; exact Nat.zero_le _, by rw [h2]; exact Nat.zero_le _⟩
  · rcases List.mem_cons.mp hw with rfl | h
    · exact h7
    · exact h
  · show (as.reverse ++ rest).map (k_cv (y_ad y)) = _
    rw [List.map_append, List.map_reverse]
end KD
