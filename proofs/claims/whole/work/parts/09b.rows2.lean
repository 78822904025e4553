/-! array rows with the place as a number -/
theorem nI_inc (k : Nat) : nI k + Int32.ofInt 1 = nI (k + 1) := nI_1 k
abbrev tn (v : Int32) : Nat := v.toNatClampNeg
def kN (v : Int32) (n : Nat) : Prop := v = nI (tn v) ∧ tn v ≤ n
theorem kN_of {k n : Nat} (h : k ≤ n) (hn : n < 2 ^ 31) : kN (nI k) n := by
  have e : tn (nI k) = k := nI_clamp (by omega)
  exact ⟨by rw [e], by rw [e]; exact h⟩
section KN2
variable {y : kSys} {x : kCx} {nn : Nat × Nat} {Q : State → Prop} {pc : Nat} {ls : List (Option kV)} {st rest : List kV} {g : kG} {cc : ByteArray} {own : String}
theorem k_iald2 (C : kOk x cc own) (O : kSO y x.2.2.2.2.1) {k i q : Nat} {j : Int32} (hd : decode cc pc = .ok (.iaload, 1)) (hr : (k, i) ∈ y_refs y) (hk : y_is y k = 1) (t0 : Nat) (ht : (y_ty y)[t0]? = some (y_ca y k, .int)) (hin : vp_in j (y_ln y k)) (hq : j.toNatClampNeg = q)
    (kk : Wk (kWd y) (kAA y) (y_ad y) x nn Q (pc + 1) ls (.inl (g.1 k i q) :: st) g) : Wk (kWd y) (kAA y) (y_ad y) x nn Q pc ls (.inl j :: .inr (.inr (k, i)) :: st) g := by
  subst hq
  exact k_iald C O hd hr hk t0 ht hin kk
theorem k_zald2 (C : kOk x cc own) (O : kSO y x.2.2.2.2.1) {k i q : Nat} {j : Int32} (hd : decode cc pc = .ok (.baload, 1)) (hr : (k, i) ∈ y_refs y) (hk : y_is y k = 2) (t0 : Nat) (ht : (y_ty y)[t0]? = some (y_ca y k, .boolean)) (hin : vp_in j (y_ln y k)) (hq : j.toNatClampNeg = q)
    (kk : Wk (kWd y) (kAA y) (y_ad y) x nn Q (pc + 1) ls (.inl (g.1 k i q) :: st) g) : Wk (kWd y) (kAA y) (y_ad y) x nn Q pc ls (.inl j :: .inr (.inr (k, i)) :: st) g := by
  subst hq
  exact k_zald C O hd hr hk t0 ht hin kk
theorem k_lald2 (C : kOk x cc own) (O : kSO y x.2.2.2.2.1) {k i q : Nat} {j : Int32} (hd : decode cc pc = .ok (.laload, 1)) (hr : (k, i) ∈ y_refs y) (hk : y_is y k = 3) (t0 : Nat) (ht : (y_ty y)[t0]? = some (y_ca y k, .long)) (hin : vp_in j (y_ln y k)) (hq : j.toNatClampNeg = q)
    (kk : Wk (kWd y) (kAA y) (y_ad y) x nn Q (pc + 1) ls (.inr (.inl (g.2 k i q)) :: st) g) : Wk (kWd y) (kAA y) (y_ad y) x nn Q pc ls (.inl j :: .inr (.inr (k, i)) :: st) g := by
  subst hq
  exact k_lald C O hd hr hk t0 ht hin kk
theorem k_aald2 (C : kOk x cc own) (O : kSO y x.2.2.2.2.1) {k i q : Nat} {j : Int32} {E : String} {r : Nat × Nat} (hd : decode cc pc = .ok (.aaload, 1)) (hr : (k, i) ∈ y_refs y) (hk : y_is y k = 4) (t0 : Nat) (ht : (y_ty y)[t0]? = some (y_ca y k, .object E)) (hin : vp_in j (y_ln y k)) (hq : j.toNatClampNeg = q) (hv : y_rt y k i q = r)
    (kk : Wk (kWd y) (kAA y) (y_ad y) x nn Q (pc + 1) ls (.inr (.inr r) :: st) g) : Wk (kWd y) (kAA y) (y_ad y) x nn Q pc ls (.inl j :: .inr (.inr (k, i)) :: st) g := by
  subst hq
  exact k_aaldr C O hd hr hk t0 ht hin hv kk
theorem k_iast2 (C : kOk x cc own) (O : kSO y x.2.2.2.2.1) {k i q : Nat} {j v : Int32} (hd : decode cc pc = .ok (.iastore, 1)) (hr : (k, i) ∈ y_refs y) (hk : y_is y k = 1) (t0 : Nat) (ht : (y_ty y)[t0]? = some (y_ca y k, .int)) (hin : vp_in j (y_ln y k)) (hq : j.toNatClampNeg = q)
    (kk : Wk (kWd y) (kAA y) (y_ad y) x nn Q (pc + 1) ls st (kU g.1 k i q v, g.2)) : Wk (kWd y) (kAA y) (y_ad y) x nn Q pc ls (.inl v :: .inl j :: .inr (.inr (k, i)) :: st) g := by
  subst hq
  exact k_iast C O hd hr hk t0 ht hin kk
theorem k_zast2 (C : kOk x cc own) (O : kSO y x.2.2.2.2.1) {k i q : Nat} {j v : Int32} (hd : decode cc pc = .ok (.bastore, 1)) (hz : kZ v) (hr : (k, i) ∈ y_refs y) (hk : y_is y k = 2) (t0 : Nat) (ht : (y_ty y)[t0]? = some (y_ca y k, .boolean)) (hin : vp_in j (y_ln y k)) (hq : j.toNatClampNeg = q)
    (kk : Wk (kWd y) (kAA y) (y_ad y) x nn Q (pc + 1) ls st (kU g.1 k i q v, g.2)) : Wk (kWd y) (kAA y) (y_ad y) x nn Q pc ls (.inl v :: .inl j :: .inr (.inr (k, i)) :: st) g := by
  subst hq
  exact k_zast C O hd hz hr hk t0 ht hin kk
theorem k_last2 (C : kOk x cc own) (O : kSO y x.2.2.2.2.1) {k i q : Nat} {j : Int32} {v : Int64} (hd : decode cc pc = .ok (.lastore, 1)) (hr : (k, i) ∈ y_refs y) (hk : y_is y k = 3) (t0 : Nat) (ht : (y_ty y)[t0]? = some (y_ca y k, .long)) (hin : vp_in j (y_ln y k)) (hq : j.toNatClampNeg = q)
    (kk : Wk (kWd y) (kAA y) (y_ad y) x nn Q (pc + 1) ls st (g.1, kUJ g.2 k i q v)) : Wk (kWd y) (kAA y) (y_ad y) x nn Q pc ls (.inr (.inl v) :: .inl j :: .inr (.inr (k, i)) :: st) g := by
  subst hq
  exact k_last C O hd hr hk t0 ht hin kk
end KN2
