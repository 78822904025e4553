/-! the law's rows: its script, calls of both systems, its end -/
section LR
variable {S : Type} {wd : S → Heap → Prop} {A : Nat → Prop} {ad : Nat → Nat → Nat} {x : kCx} {nn : Nat × Nat} {Q : State → Prop} {pc : Nat} {ls : List (Option kV)} {st rest : List kV} {g : S} {cc : ByteArray} {own : String} {b L : Nat} {xs : Nat → Int32}
theorem k_sld (C : kOk x cc own) (hX : va_X b L xs x.2.2.2.2.1 x.2.2.2.2.1.heap) (hbl : b < x.2.2.2.2.1.heap.size) (hbA : ¬ A b) {k0 i0 : Nat} (had : ad k0 i0 = b) {i : Int32} {q : Nat} (hd : decode cc pc = .ok (.iaload, 1)) (hq : i = nI q) (hqL : q < L) (hL : L < 2 ^ 31)
    (kk : Wk wd A ad x nn Q (pc + 1) ls (.inl (xs q) :: st) g) : Wk wd A ad x nn Q pc ls (.inl i :: .inr (.inr (k0, i0)) :: st) g := by
  subst hq
  subst had
  intro H locs la hw hS hl
  have h := kk H locs la hw hS hl
  refine va_sld C.1 C.2.1 hX hbl hbA hS (vp_in_nI hqL hL) hd ?_
  rw [show (nI q).toNatClampNeg = q from nI_clamp (by omega)]
  exact h
theorem k_slen (C : kOk x cc own) (hX : va_X b L xs x.2.2.2.2.1 x.2.2.2.2.1.heap) (hbl : b < x.2.2.2.2.1.heap.size) (hbA : ¬ A b) {k0 i0 : Nat} (had : ad k0 i0 = b) (hd : decode cc pc = .ok (.arraylength, 1))
    (kk : Wk wd A ad x nn Q (pc + 1) ls (.inl (nI L) :: st) g) : Wk wd A ad x nn Q pc ls (.inr (.inr (k0, i0)) :: st) g := by
  subst had
  exact fun H locs la hw hS hl => va_slen C.1 C.2.1 hX hbl hbA hS hd (kk H locs la hw hS hl)
end LR
/-! cell(script, 0) -/
def cellV (L : Nat) (xs : Nat → Int32) : Int32 := if L ≤ 0 then 0 else xs 0
theorem c_L_cell (l : Launch) (b L : Nat) (xs : Nat → Int32) (hL : L ≤ 2561) : Met l y_L_cell (.code y_L_cell b_L_cell 2 (some .int) :: kT) (kRm 0 0) (va_Pc [.ref b, .int 0] (fun U => va_X b L xs U U.heap ∧ b < U.heap.size)) (fun _ st oc t => oc = .returned (some (.int (cellV L xs))) ∧ va_F (fun _ => False) st t) 0 0 (fun _ => False) := by
  refine Met.ofW (cc := b_L_cell) (maxL := 2) (ret := some .int) (by decide) rfl ?_
  intro p e s m args below meth c s₁ B hml hv
  obtain ⟨rfl, hX, hbl⟩ := hv
  rw [lg_entry_eq]
  have C : kOk (p, l, e, kRm 0 0, s, m, #[.ref b, .int 0], below, meth, c) b_L_cell "DynamicNeedsLaw" := ⟨B.exec, B.bytes, findClass_of_methodNamed B.named, fun w h hg => atoms_spec B.pre w (List.mem_cons_of_mem _ (kT_in ⟨h, hg⟩))⟩
  have main : Wk (S := Unit) (fun _ _ => True) (fun _ => False) (fun _ _ => b) (p, l, e, kRm 0 0, s, m, #[.ref b, .int 0], below, meth, c) (0, 0) (MQ below (fun _ st oc t => oc = .returned (some (.int (cellV L xs))) ∧ va_F (fun _ => False) st t) #[.ref b, .int 0] s 0 0 (fun _ => False)) 0 [some (.inr (.inr (0, 0))), some (.inl 0)] [] () := by
    have fin : ∀ v : Int32, v = cellV L xs → Wk (S := Unit) (fun _ _ => True) (fun _ => False) (fun _ _ => b) (p, l, e, kRm 0 0, s, m, #[.ref b, .int 0], below, meth, c) (0, 0) (MQ below (fun _ st oc t => oc = .returned (some (.int (cellV L xs))) ∧ va_F (fun _ => False) st t) #[.ref b, .int 0] s 0 0 (fun _ => False)) 13 [some (.inr (.inr (0, 0))), some (.inl 0)] [.inl v] () := by
      rintro v rfl H locs la hw hS hl
      exact W.iret C.1 C.2.1 B.returns (fun t ht hW => ⟨rfl, hS.F ht⟩) hS.2.2 d_L_cell_13 B.notSynchronized
    refine k_iload_n C d_L_cell_0 rfl rfl ?_
    refine k_aload_n C d_L_cell_1 rfl rfl ?_
    refine k_slen C hX hbl (fun h => h) rfl d_L_cell_2 ?_
    refine k_icmp_ge C (tgt := 12) d_L_cell_3 (by decide) (fun c1 => ?_) (fun c1 => ?_)
    · refine k_iconst C (v := 0) d_L_cell_12 (by decide) ?_
      refine fin 0 ?_
      have : L ≤ 0 := by
        rcases Nat.lt_or_ge 0 L with q | q
        · exact absurd c1 (nI_ge (a := 0) q (by omega))
        · exact q
      exact (if_pos this).symm
    · have : ¬ L ≤ 0 := fun q => c1 (show nI L ≤ nI 0 from nI_le q (by decide))
      refine k_aload_n C d_L_cell_6 rfl rfl ?_
      refine k_iload_n C d_L_cell_7 rfl rfl ?_
      refine k_sld C hX hbl (fun h => h) rfl d_L_cell_8 (q := 0) rfl (by omega) (by omega) ?_
      refine k_goto C (tgt := 13) d_L_cell_9 (by decide) ?_
      exact fin (xs 0) (if_neg this).symm
  exact main s.heap [] _ trivial va_S.rf (lv_entry [.ref b, .int 0] (n := 2) (Nat.le_of_ble_eq_true rfl))
section LC
variable {S : Type} {wd : S → Heap → Prop} {ad : Nat → Nat → Nat} {x : kCx} {nn : Nat × Nat} {Q : State → Prop} {pc : Nat} {ls : List (Option kV)} {st rest : List kV} {g : S} {b L : Nat} {xs : Nat → Int32} {A : Nat → Prop}
theorem k_cell (C : kOk x code R_law) (h2 : x.2.2.2.1 = room_1) (h3 : x.2.2.2.2.2.2.2.2.2.maxLocals = 4) (hL : L ≤ 2561) (hX : va_X b L xs x.2.2.2.2.1 x.2.2.2.2.1.heap) (hbl : b < x.2.2.2.2.1.heap.size) (hbA : ¬ A b) (hwd : ∀ (H H2 : Heap), wd g H → H.size ≤ H2.size → (∀ q : Nat, q < H.size → H2[q]? = H[q]?) → wd g H2) {k0 i0 : Nat} (had : ad k0 i0 = b) (hd : decode code pc = .ok (.invokestatic 9, 3)) (hll : ls.length = 4) (hn : nn.1 ≤ 600000 ∧ nn.2 ≤ 7302250) (hW : ((rest.map (k_cv ad)).map fun v => v.category).sum ≤ 8)
    (kk : Wk wd A ad x nn Q (pc + 3) ls (.inl (cellV L xs) :: rest) g) : Wk wd A ad x nn Q pc ls (.inl 0 :: .inr (.inr (k0, i0)) :: rest) g := by
  subst had
  intro H locs la hw hS hl T hT XX
  obtain ⟨c3, c4, c6, c7, c8, c9, c10⟩ := cs_L_9
  have hrun := va_runS (p := x.1) (l := x.2.1) (R := x.2.2.2.1) (s := x.2.2.2.2.1) (args := x.2.2.2.2.2.2.1) (m := x.2.2.2.2.2.1) (c := x.2.2.2.2.2.2.2.2.2) (H := H) (e := x.2.2.1) (below := x.2.2.2.2.2.2.2.1) (meth := x.2.2.2.2.2.2.2.2.1) (locs := locs) (cells := nn.1) (slots := nn.2) (g := F0 x.2.2.2.2.2.1 pc la (.int 0 :: .ref (ad k0 i0) :: rest.map (k_cv ad))) (rest := rest.map (k_cv ad)) (As := [.ref (ad k0 i0), .int 0]) (nL := 4) (Ts := kT) ⟨C.1, C.2.1, h3, C.2.2.1, C.ts⟩ (c_L_cell x.2.1 (ad k0 i0) L xs hL)
    ⟨callB_of 2 C.ts (kT_good (fun w hw => by
      rcases List.mem_cons.mp hw with rfl | h
      · exact c7
      · exact h)) rfl rfl rfl (C.ts _ c6) (C.ts _ c3) ⟨c8, c9, c10⟩ (by rw [h2]; exact ⟨Nat.le_of_ble_eq_true rfl, Nat.le_of_ble_eq_true rfl⟩), C.ts _ c4⟩ ⟨fun a U gf mk q => ⟨q.1, va_X.moved (u := U) (U := U.calling gf mk a) (Vm.Alike.refl U.vm) q.2.1, q.2.2⟩, fun U hU hW => ⟨rfl, by rw [hU]; exact va_X.moved hW.alike (hX.kept (hS.2.1 _ hbl hbA)), by rw [hU]; exact Nat.lt_of_lt_of_le hbl hS.1⟩⟩ rfl rfl (hl.1.trans hll) rfl (lv_room hW) hd (by rw [h2]; exact hn)
  obtain ⟨v, st₀, t, T', L', g0, X', hL', e1, e2, ⟨hv, hz, hk⟩, stp⟩ := hrun T hT XX
  cases hv
  rw [g0] at hz hk
  obtain ⟨t2, a1, b1⟩ := kk T'.heap (locs ++ L') la (hwd H T'.heap hw (by rw [e1]; exact hz) (fun q hq => by rw [e1]; exact hk q hq (fun f => f)))
    ⟨Nat.le_trans hS.1 (by rw [e1]; exact hz), fun p h1 h2 => by rw [e1, hk p (Nat.lt_of_lt_of_le h1 hS.1) (fun f => f)]; exact hS.2.1 p h1 h2, fun p hp => by
      rcases List.mem_append.mp hp with h | h
      · exact hS.2.2 p h
      · exact (hL' p h).elim⟩ hl T' rfl X'
  exact ⟨t2, stp t2 a1, b1⟩
end LC
section LI
variable {l : Launch} {D : va_G} {dA : Nat → ClassId} {x : kCx} {nn : Nat × Nat} {Q : State → Prop} {pc : Nat} {ls : List (Option kV)} {st rest : List kV} {wr : va_W}
/-- a constructor, called by the law on the cell made last -/
theorem l_init (C : kOk x code R_law) (K : rK D dA x.2.2.2.2.1) (h1 : x.2.1 = l) (h2 : x.2.2.2.1 = room_1) (h3 : x.2.2.2.2.2.2.2.2.2.maxLocals = 4) {idx q f2 n2 mc ms nL2 : Nat} {ym : MethodName} {cc2 : ByteArray} {e : va_E} {as : List kV} {post : va_W → Prop} (hd : decode code pc = .ok (.invokespecial idx, 3)) (hM : ∀ sz2, rMet l D dA ym cc2 nL2 f2 n2 mc ms sz2 q e as post) (hlk : Cond.methodLink R_law idx ym ∈ kT) (h7 : Cond.code ym cc2 nL2 none ∈ kT) (h4 : Cond.instanceMethod ym ∈ kT) (h6 : Cond.initialized ym.cls ∈ kT) (hnm : ym.name = "<init>") (hdd : ym.cls ≠ "java/lang/invoke/MethodHandle" ∧ ym.cls ≠ "java/lang/invoke/VarHandle" ∧ (parseMethodDescriptor ym.desc).map (fun d => d.parameters.length) = some as.length) (hR : f2 + 1 ≤ 9 ∧ 8 + (nL2 + 11) + n2 ≤ 346) (hc : nn.1 + mc ≤ 600000 ∧ nn.2 + ms ≤ 7302250) (hst : st = as.reverse ++ .inr (.inr (0, q)) :: rest) (hll : ls.length = 4) (hW : ((rest.map (k_cv rAd)).map fun v => v.category).sum ≤ 8)
    (kk : ∀ w1, post w1 → Wk (rWd D (fun q => x.2.2.2.2.1.heap.size ≤ q)) (fun q => x.2.2.2.2.1.heap.size ≤ q) rAd x (nn.1 + mc, nn.2 + ms) Q (pc + 3) ls rest (wr ++ w1)) : Wk (rWd D (fun q => x.2.2.2.2.1.heap.size ≤ q)) (fun q => x.2.2.2.2.1.heap.size ≤ q) rAd x nn Q pc ls st (wr ++ [(q, e)]) := by
  intro H locs la hw hS hl T hT XX
  subst hst
  subst h1
  have hPq : va_P D kCl [(q, e)] H := fun k p hk => hw.1 (wr.length + k) p (by rw [List.getElem?_append_right (by omega), show wr.length + k - wr.length = k by omega]; exact hk)
  have hF : ∀ p, va_A [(q, e)] H.size p → x.2.2.2.2.1.heap.size ≤ p := by
    intro p hp
    rcases hp with ⟨k, e', hk⟩ | hp
    · exact hw.2.2 (wr.length + k) (p, e') (by rw [List.getElem?_append_right (by omega), show wr.length + k - wr.length = k by omega]; exact hk)
    · exact Nat.le_trans hS.1 hp
  have hrun := va_runI (p := x.1) (l := x.2.1) (R := x.2.2.2.1) (s := x.2.2.2.2.1) (args := x.2.2.2.2.2.2.1) (m := x.2.2.2.2.2.1) (c := x.2.2.2.2.2.2.2.2.2) (H := H) (e := x.2.2.1) (below := x.2.2.2.2.2.2.2.1) (meth := x.2.2.2.2.2.2.2.2.1) (locs := locs) (cells := nn.1) (slots := nn.2) (g := F0 x.2.2.2.2.2.1 pc la ((as.reverse ++ .inr (.inr (0, q)) :: rest).map (k_cv rAd))) (rest := rest.map (k_cv rAd)) (b := q) (As := as.map (k_cv rAd)) (nL := 4) (Ts := kT) ⟨C.1, C.2.1, h3, C.2.2.1, C.ts⟩ (hM H.size)
    (cwI as.length C.ts (kT_good (fun w hw => by
      rcases List.mem_cons.mp hw with rfl | h
      · exact h7
      · exact h)) rfl rfl rfl (C.ts _ h6) (C.ts _ hlk) (C.ts _ h4) hnm hdd (by rw [h2]; exact hR)) ⟨fun a U gf mk q => ⟨q.1, q.2.1, q.2.2.1, q.2.2.2.same rfl⟩, fun U hU hW => ⟨rfl, by rw [hU], by rw [hU]; exact hPq, K.warm hW⟩⟩ rfl (List.length_map ..) (hl.1.trans hll) (by
      show (as.reverse ++ .inr (.inr (0, q)) :: rest).map (k_cv rAd) = _
      rw [List.map_append, List.map_cons, List.map_reverse]
      rfl) (lv_room hW) hd (by rw [h2]; exact hc)
  obtain ⟨v, st₀, t, T', L, g0, X', hL, e1, e2, ⟨⟨w1, hv, hp, hb, hbD⟩, hz, hk⟩, stp⟩ := hrun T hT XX
  cases hv
  rw [g0] at hz hk
  have hj := r_join hw.1 hw.2 (H1 := T'.heap) (fun p h1 h2 => by rw [e1]; exact hk p h1 h2) hF (by rw [e1]; exact hb) hbD
  obtain ⟨t2, a1, b1⟩ := kk w1 hp T'.heap (locs ++ L) la hj
    ⟨Nat.le_trans hS.1 (by rw [e1]; exact hz), fun p h1 h2 => by rw [e1, hk p (Nat.lt_of_lt_of_le h1 hS.1) (fun z => h2 (hF p z))]; exact hS.2.1 p h1 h2, fun p hp => by
      rcases List.mem_append.mp hp with h | h
      · exact hS.2.2 p h
      · exact hF _ (hL p h)⟩ hl T' rfl X'
  exact ⟨t2, stp t2 a1, b1⟩
end LI
/-! both systems under the law -/
def lAd (bx bm : Nat → Nat → Nat) (b : Nat) : Nat → Nat → Nat := fun k _ => match k with
  | 0 => bx 0 0
  | 1 => bm 0 0
  | _ => b
def lWd (bx bm : Nat → Nat → Nat) (dA : Nat → ClassId) (D : va_G) (gh : kG × kG) (H : Heap) : Prop := kWd (sysX bx dA D) gh.1 H ∧ kWd (sysM bm dA D) gh.2 H
abbrev lA (x : kCx) : Nat → Prop := fun q => x.2.2.2.2.1.heap.size ≤ q
def lIn (l : Launch) (bx bm : Nat → Nat → Nat) (dA : Nat → ClassId) (D : va_G) (b L : Nat) (xs : Nat → Int32) (x : kCx) : Prop := kOk x code R_law ∧ kSO (sysX bx dA D) x.2.2.2.2.1 ∧ kSO (sysM bm dA D) x.2.2.2.2.1 ∧ x.2.1 = l ∧ x.2.2.2.1 = room_1 ∧ x.2.2.2.2.2.2.2.2.2.maxLocals = 4 ∧ va_X b L xs x.2.2.2.2.1 x.2.2.2.2.1.heap ∧ b < x.2.2.2.2.1.heap.size ∧ (∀ q, kAA (sysX bx dA D) q → lA x q) ∧ (∀ q, kAA (sysM bm dA D) q → lA x q) ∧ (∀ q, kAA (sysX bx dA D) q → ¬ kAA (sysM bm dA D) q)
theorem kWd_kept {y : kSys} {g : kG} {H H2 : Heap} {B : Nat → Prop} (h : kWd y g H) (hk : ∀ q : Nat, q < H.size → ¬ B q → H2[q]? = H[q]?) (hB : ∀ q, kAA y q → ¬ B q) : kWd y g H2 := by
  refine va_P.kept h (fun k q hq => hk q.1 (h k q hq).lt (hB q.1 ?_))
  unfold kLs at hq
  rw [List.getElem?_map] at hq
  cases h1 : (y_refs y)[k]? with
  | none => rw [h1] at hq; cases hq
  | some r =>
    rw [h1] at hq
    cases hq
    exact ⟨r, List.mem_of_getElem? h1, rfl⟩
/-- behind a call of one of the systems -/
theorem l_after {y : kSys} {x : kCx} {nn : Nat × Nat} {Q : State → Prop} {pc : Nat} {rest : List Value} {post : Option kV → kG → Prop} {a : Array Value} {H : Heap} {locs : List Loc} {la : Array Slot} {st' : List Value} {A : Nat → Prop}
    (hrun : va_Run x.1 x.2.1 x.2.2.1 x.2.2.2.1 x.2.2.2.2.1 x.2.2.2.2.2.1 x.2.2.2.2.2.2.1 x.2.2.2.2.2.2.2.1 x.2.2.2.2.2.2.2.2.1 x.2.2.2.2.2.2.2.2.2 H locs nn.1 nn.2 0 0 (F0 x.2.2.2.2.2.1 pc la st') rest (kPost y post a) (kAA y))
    (hS : va_S A x.2.2.2.2.1.heap H locs) (hF : ∀ q, kAA y q → A q)
    (kk : ∀ (r : Option kV) (g2 : kG) (H2 : Heap) (locs2 : List Loc), post r g2 → kWd y g2 H2 → (∀ q : Nat, q < H.size → ¬ kAA y q → H2[q]? = H[q]?) → va_S A x.2.2.2.2.1.heap H2 locs2 → W x.1 x.2.1 x.2.2.1 x.2.2.2.1 x.2.2.2.2.1 x.2.2.2.2.2.1 x.2.2.2.2.2.2.1 x.2.2.2.2.2.2.2.1 x.2.2.2.2.2.2.2.2.1 x.2.2.2.2.2.2.2.2.2 H2 locs2 nn.1 nn.2 Q (F0 x.2.2.2.2.2.1 (pc + 3) la ((r.map (k_cv (y_ad y))).toList ++ rest))) : W x.1 x.2.1 x.2.2.1 x.2.2.2.1 x.2.2.2.2.1 x.2.2.2.2.2.1 x.2.2.2.2.2.2.1 x.2.2.2.2.2.2.2.1 x.2.2.2.2.2.2.2.2.1 x.2.2.2.2.2.2.2.2.2 H locs nn.1 nn.2 Q (F0 x.2.2.2.2.2.1 pc la st') := by
  intro T hT X
  obtain ⟨v, st₀, t, T', L, h0, X', hL, e1, e2, ⟨⟨r, g2, hv, hp, hb⟩, hz, hk⟩, stp⟩ := hrun T hT X
  cases hv
  rw [h0] at hz hk
  obtain ⟨t2, a1, b1⟩ := kk r g2 T'.heap (locs ++ L) hp (by rw [e1]; exact hb) (fun q h1 h2 => by rw [e1]; exact hk q h1 h2)
    ⟨Nat.le_trans hS.1 (by rw [e1]; exact hz), fun q h1 h2 => by rw [e1, hk q (Nat.lt_of_lt_of_le h1 hS.1) (fun z => h2 (hF q z))]; exact hS.2.1 q h1 h2, fun q hq => by
      rcases List.mem_append.mp hq with h | h
      · exact hS.2.2 q h
      · exact hF _ (hL q h)⟩ T' rfl X'
  exact ⟨t2, stp t2 a1, b1⟩
section LX
variable {l : Launch} {bx bm : Nat → Nat → Nat} {dA : Nat → ClassId} {D : va_G} {b L : Nat} {xs : Nat → Int32} {x : kCx} {nn : Nat × Nat} {Q : State → Prop} {pc : Nat} {ls : List (Option kV)} {st rest : List kV} {g h : kG}
theorem l_cx (X : lIn l bx bm dA D b L xs x) {idx : Nat} {ym : MethodName} {cc2 : ByteArray} {nL2 f2 n2 : Nat} {ret2 : Option FieldType} {as : List kV} {R : kV} {G : kG} (hd : decode code pc = .ok (.invokevirtual idx, 3)) (hM : kMd (sysX bx dA D) l ym cc2 nL2 ret2 f2 n2 (.inr (.inr (0, 0)) :: as) g (some R) G) (hc : kCv "DynamicNeedsLaw" idx ym cc2 nL2 ret2 4 as.length) (has : as.map (k_cv bx) = as.map (k_cv (lAd bx bm b))) (hRv : k_cv bx R = k_cv (lAd bx bm b) R) (hR : f2 + 1 ≤ 9 ∧ 8 + (nL2 + 11) + n2 ≤ 346) (hn : nn.1 ≤ 600000 ∧ nn.2 ≤ 7302250) (hst : st = as.reverse ++ .inr (.inr (0, 0)) :: rest) (hll : ls.length = 4) (hW : ((rest.map (k_cv (lAd bx bm b))).map fun v => v.category).sum ≤ 8)
    (kk : Wk (lWd bx bm dA D) (lA x) (lAd bx bm b) x nn Q (pc + 3) ls (R :: rest) (G, h)) : Wk (lWd bx bm dA D) (lA x) (lAd bx bm b) x nn Q pc ls st (g, h) := by
  intro H locs la hw hS hl
  obtain ⟨C, O, OM, h1, h2, h3, hX, hbl, hAx, hAm, hdis⟩ := X
  obtain ⟨Cn, T, N, c1, c2, c3, c4, c5, c6, c7, c8, c9, c10⟩ := hc
  obtain ⟨q, hq⟩ := List.getElem?_of_mem (show (0, 0) ∈ y_refs (sysX bx dA D) from xr_0)
  subst hst
  subst h1
  have hrec := va_recv (q := (Cn, T, N)) O.1 hw.1 (show kCl[y_kc (sysX bx dA D) 0]? = some (Cn, T, N) from c1) (k_lget hq (kCel_0 rfl))
  refine l_after (y := sysX bx dA D) (rest := rest.map (k_cv (lAd bx bm b))) (post := fun r g2 => r = some R ∧ g2 = G) (a := ((.inr (.inr (0, 0)) :: as).map (k_cv bx)).toArray) ?_ hS hAx (fun r g2 H2 locs2 hp hw2 hk2 hS2 => ?_)
  · refine va_runV (As := as.map (k_cv bx)) (nL := 4) (C := Cn) (Ts := kT) ⟨C.1, C.2.1, h3, C.2.2.1, C.ts⟩ hM
      (cwV as.length C.ts (kT_good (fun w hw => ?_)) rfl rfl rfl ⟨c2, c8, c9, c10⟩ (by rw [h2]; exact hR)) ⟨kPre_blind, hrec, fun U hU hW => ⟨rfl, by rw [hU]; exact hw.1, O.warm hW⟩⟩ rfl (List.length_map ..) (hl.1.trans hll) ?_ (lv_room hW) hd (by rw [h2]; exact hn)
    · unfold wsV at hw
      rcases List.mem_append.mp hw with h | h
      · simp only [List.mem_cons, List.not_mem_nil, or_false] at h
        rcases h with rfl | rfl | rfl | rfl
        · exact c3
        · exact c4
        · exact c5
        · exact c6
      · rcases List.mem_cons.mp h with rfl | h
        · exact c7
        · exact h
    · show (as.reverse ++ .inr (.inr (0, 0)) :: rest).map (k_cv (lAd bx bm b)) = _
      rw [List.map_append, List.map_cons, List.map_reverse, ← has]
      rfl
  · obtain ⟨rfl, rfl⟩ := hp
    have := kk H2 locs2 la ⟨hw2, kWd_kept hw.2 hk2 (fun q h2 h1 => hdis q h1 h2)⟩ hS2 hl
    show W x.1 _ _ _ _ _ _ _ _ _ H2 locs2 nn.1 nn.2 Q (F0 x.2.2.2.2.2.1 (pc + 3) la (k_cv bx R :: rest.map (k_cv (lAd bx bm b))))
    rw [hRv]
    exact this
theorem l_cm (X : lIn l bx bm dA D b L xs x) {idx : Nat} {ym : MethodName} {cc2 : ByteArray} {nL2 f2 n2 : Nat} {ret2 : Option FieldType} {as : List kV} {R : kV} {G : kG} (hd : decode code pc = .ok (.invokevirtual idx, 3)) (hM : kMd (sysM bm dA D) l ym cc2 nL2 ret2 f2 n2 (.inr (.inr (0, 0)) :: as) h (some R) G) (hc : kCv "DynamicNeedsLaw" idx ym cc2 nL2 ret2 5 as.length) (has : as.map (k_cv bm) = as.map (k_cv (lAd bx bm b))) (hRv : k_cv bm R = k_cv (lAd bx bm b) R) (hR : f2 + 1 ≤ 9 ∧ 8 + (nL2 + 11) + n2 ≤ 346) (hn : nn.1 ≤ 600000 ∧ nn.2 ≤ 7302250) (hst : st = as.reverse ++ .inr (.inr (1, 0)) :: rest) (hll : ls.length = 4) (hW : ((rest.map (k_cv (lAd bx bm b))).map fun v => v.category).sum ≤ 8)
    (kk : Wk (lWd bx bm dA D) (lA x) (lAd bx bm b) x nn Q (pc + 3) ls (R :: rest) (g, G)) : Wk (lWd bx bm dA D) (lA x) (lAd bx bm b) x nn Q pc ls st (g, h) := by
  intro H locs la hw hS hl
  obtain ⟨C, OX, O, h1, h2, h3, hX, hbl, hAx, hAm, hdis⟩ := X
  obtain ⟨Cn, T, N, c1, c2, c3, c4, c5, c6, c7, c8, c9, c10⟩ := hc
  obtain ⟨q, hq⟩ := List.getElem?_of_mem (show (0, 0) ∈ y_refs (sysM bm dA D) from mr_0)
  subst hst
  subst h1
  have hrec := va_recv (q := (Cn, T, N)) O.1 hw.2 (show kCl[y_kc (sysM bm dA D) 0]? = some (Cn, T, N) from c1) (k_lget hq (kCel_0 rfl))
  refine l_after (y := sysM bm dA D) (rest := rest.map (k_cv (lAd bx bm b))) (post := fun r g2 => r = some R ∧ g2 = G) (a := ((.inr (.inr (0, 0)) :: as).map (k_cv bm)).toArray) ?_ hS hAm (fun r g2 H2 locs2 hp hw2 hk2 hS2 => ?_)
  · refine va_runV (As := as.map (k_cv bm)) (nL := 4) (C := Cn) (Ts := kT) ⟨C.1, C.2.1, h3, C.2.2.1, C.ts⟩ hM
      (cwV as.length C.ts (kT_good (fun w hw => ?_)) rfl rfl rfl ⟨c2, c8, c9, c10⟩ (by rw [h2]; exact hR)) ⟨kPre_blind, hrec, fun U hU hW => ⟨rfl, by rw [hU]; exact hw.2, O.warm hW⟩⟩ rfl (List.length_map ..) (hl.1.trans hll) ?_ (lv_room hW) hd (by rw [h2]; exact hn)
    · unfold wsV at hw
      rcases List.mem_append.mp hw with h | h
      · simp only [List.mem_cons, List.not_mem_nil, or_false] at h
        rcases h with rfl | rfl | rfl | rfl
        · exact c3
        · exact c4
        · exact c5
        · exact c6
      · rcases List.mem_cons.mp h with rfl | h
        · exact c7
        · exact h
    · show (as.reverse ++ .inr (.inr (1, 0)) :: rest).map (k_cv (lAd bx bm b)) = _
      rw [List.map_append, List.map_cons, List.map_reverse, ← has]
      rfl
  · obtain ⟨rfl, rfl⟩ := hp
    have := kk H2 locs2 la ⟨kWd_kept hw.1 hk2 (fun q h1 h2 => hdis q h1 h2), hw2⟩ hS2 hl
    show W x.1 _ _ _ _ _ _ _ _ _ H2 locs2 nn.1 nn.2 Q (F0 x.2.2.2.2.2.1 (pc + 3) la (k_cv bm R :: rest.map (k_cv (lAd bx bm b))))
    rw [hRv]
    exact this
end LX
