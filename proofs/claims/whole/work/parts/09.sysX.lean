/-! deterministic contracts; reads by type -/
def kMd (y : kSys) (l : Launch) (ym : MethodName) (cc : ByteArray) (nL : Nat) (ret : Option FieldType) (f n : Nat) (as : List kV) (g : kG) (R : Option kV) (G : kG) : Prop := kMet y l ym cc nL ret f n as g (fun r g2 => r = R ∧ g2 = G)
theorem k_enterF {y : kSys} {l : Launch} {ym : MethodName} {cc : ByteArray} {nL : Nat} {ret : Option FieldType} {f n : Nat} {as : List kV} {g : kG} {post : Option kV → kG → Prop} (hy : plainFor ym = true) (ls0 : List (Option kV)) (hls : k_tl (y_ad y) 0 ls0 = lv_args 0 (as.map (k_cv (y_ad y)))) (hlen : ls0.length = nL) (hsl : (lg_sl (as.map (k_cv (y_ad y)))).length ≤ nL)
    (body : ∀ x : kCx, kIn y l cc ym.cls nL ret f n x → Wk (kWd y) (kAA y) (y_ad y) x (0, 0) (kQ y post x) 0 ls0 [] g) : kMet y l ym cc nL ret f n as g post := by
  refine va_MetF (cc := cc) (maxL := nL) (ret := ret) hy rfl ?_
  intro p e s m args below meth c s₁ B hml hv
  obtain ⟨rfl, hw, hO⟩ := hv
  have h := body (p, l, e, kRm f n, s, m, (as.map (k_cv (y_ad y))).toArray, below, meth, c) ⟨⟨B.exec, B.bytes, findClass_of_methodNamed B.named, fun w h hg => atoms_spec B.pre w (List.mem_cons_of_mem _ (kT_in ⟨h, hg⟩))⟩, hO, rfl, rfl, hml, B.returns, B.notSynchronized⟩
  rw [lg_entry_eq]
  exact h s.heap [] _ hw va_S.rf (by rw [hls, hlen]; exact lv_entry _ hsl)
section KN
variable {y : kSys} {x : kCx} {nn : Nat × Nat} {Q : State → Prop} {pc : Nat} {ls : List (Option kV)} {st rest : List kV} {g : kG} {cc : ByteArray} {own : String} {l : Launch} {nL f n : Nat} {ret : Option FieldType}
theorem k_getI (C : kOk x cc own) (O : kSO y x.2.2.2.2.1) {k i idx ci sl : Nat} (hd : decode cc pc = .ok (.getfield idx, 3)) (F : kFl own idx ci sl) (hr : (k, i) ∈ y_refs y) (hk : y_is y k = 0) (hc : y_kc y k = ci) (ht : (y_ft y k)[sl]? = some 0)
    (kk : Wk (kWd y) (kAA y) (y_ad y) x nn Q (pc + 3) ls (.inl (g.1 k i sl) :: st) g) : Wk (kWd y) (kAA y) (y_ad y) x nn Q pc ls (.inr (.inr (k, i)) :: st) g :=
  k_getf C O hd F hr hk hc (by rw [k_fl_get, ht, Nat.zero_add]; rfl) kk
theorem k_getJ (C : kOk x cc own) (O : kSO y x.2.2.2.2.1) {k i idx ci sl : Nat} (hd : decode cc pc = .ok (.getfield idx, 3)) (F : kFl own idx ci sl) (hr : (k, i) ∈ y_refs y) (hk : y_is y k = 0) (hc : y_kc y k = ci) (ht : (y_ft y k)[sl]? = some 1)
    (kk : Wk (kWd y) (kAA y) (y_ad y) x nn Q (pc + 3) ls (.inr (.inl (g.2 k i sl)) :: st) g) : Wk (kWd y) (kAA y) (y_ad y) x nn Q pc ls (.inr (.inr (k, i)) :: st) g :=
  k_getf C O hd F hr hk hc (by rw [k_fl_get, ht, Nat.zero_add]; rfl) kk
theorem k_getR (C : kOk x cc own) (O : kSO y x.2.2.2.2.1) {k i idx ci sl : Nat} {r : Nat × Nat} (hd : decode cc pc = .ok (.getfield idx, 3)) (F : kFl own idx ci sl) (hr : (k, i) ∈ y_refs y) (hk : y_is y k = 0) (hc : y_kc y k = ci) (ht : (y_ft y k)[sl]? = some 2) (hv : y_rt y k i sl = r)
    (kk : Wk (kWd y) (kAA y) (y_ad y) x nn Q (pc + 3) ls (.inr (.inr r) :: st) g) : Wk (kWd y) (kAA y) (y_ad y) x nn Q pc ls (.inr (.inr (k, i)) :: st) g :=
  k_getf C O hd F hr hk hc (by rw [k_fl_get, ht, Nat.zero_add, ← hv]; rfl) kk
theorem k_aaldr (C : kOk x cc own) (O : kSO y x.2.2.2.2.1) {k i : Nat} {j : Int32} {E : String} {r : Nat × Nat} (hd : decode cc pc = .ok (.aaload, 1)) (hr : (k, i) ∈ y_refs y) (hk : y_is y k = 4) (t0 : Nat) (ht : (y_ty y)[t0]? = some (y_ca y k, .object E)) (hin : vp_in j (y_ln y k)) (hv : y_rt y k i j.toNatClampNeg = r)
    (kk : Wk (kWd y) (kAA y) (y_ad y) x nn Q (pc + 1) ls (.inr (.inr r) :: st) g) : Wk (kWd y) (kAA y) (y_ad y) x nn Q pc ls (.inl j :: .inr (.inr (k, i)) :: st) g :=
  k_aald C O hd hr hk t0 ht hin (by rw [hv]; exact kk)
theorem k_cvI (X : kIn y l cc own nL ret f n x) {idx : Nat} {ym : MethodName} {cc2 : ByteArray} {nL2 f2 n2 ci k i : Nat} {ret2 : Option FieldType} {as : List kV} {v : Int32} {G : kG} (hd : decode cc pc = .ok (.invokevirtual idx, 3)) (hM : kMd y l ym cc2 nL2 ret2 f2 n2 (.inr (.inr (k, i)) :: as) g (some (.inl v)) G) (hc : kCv own idx ym cc2 nL2 ret2 ci as.length) (hr : (k, i) ∈ y_refs y) (hk : y_is y k = 0) (hkc : y_kc y k = ci) (hR : f2 + 1 ≤ f ∧ 8 + (nL2 + 11) + n2 ≤ n) (hst : st = as.reverse ++ .inr (.inr (k, i)) :: rest) (hll : ls.length = nL) (hW : ((rest.map (k_cv (y_ad y))).map fun v => v.category).sum ≤ 8)
    (kk : Wk (kWd y) (kAA y) (y_ad y) x (0, 0) Q (pc + 3) ls (.inl v :: rest) G) : Wk (kWd y) (kAA y) (y_ad y) x (0, 0) Q pc ls st g :=
  k_callV X hd hM hc hr hk hkc hR hst hll hW (fun r g2 h => by obtain ⟨rfl, rfl⟩ := h; exact kk)
theorem k_cvJ (X : kIn y l cc own nL ret f n x) {idx : Nat} {ym : MethodName} {cc2 : ByteArray} {nL2 f2 n2 ci k i : Nat} {ret2 : Option FieldType} {as : List kV} {v : Int64} {G : kG} (hd : decode cc pc = .ok (.invokevirtual idx, 3)) (hM : kMd y l ym cc2 nL2 ret2 f2 n2 (.inr (.inr (k, i)) :: as) g (some (.inr (.inl v))) G) (hc : kCv own idx ym cc2 nL2 ret2 ci as.length) (hr : (k, i) ∈ y_refs y) (hk : y_is y k = 0) (hkc : y_kc y k = ci) (hR : f2 + 1 ≤ f ∧ 8 + (nL2 + 11) + n2 ≤ n) (hst : st = as.reverse ++ .inr (.inr (k, i)) :: rest) (hll : ls.length = nL) (hW : ((rest.map (k_cv (y_ad y))).map fun v => v.category).sum ≤ 8)
    (kk : Wk (kWd y) (kAA y) (y_ad y) x (0, 0) Q (pc + 3) ls (.inr (.inl v) :: rest) G) : Wk (kWd y) (kAA y) (y_ad y) x (0, 0) Q pc ls st g :=
  k_callV X hd hM hc hr hk hkc hR hst hll hW (fun r g2 h => by obtain ⟨rfl, rfl⟩ := h; exact kk)
theorem k_cvV (X : kIn y l cc own nL ret f n x) {idx : Nat} {ym : MethodName} {cc2 : ByteArray} {nL2 f2 n2 ci k i : Nat} {ret2 : Option FieldType} {as : List kV} {G : kG} (hd : decode cc pc = .ok (.invokevirtual idx, 3)) (hM : kMd y l ym cc2 nL2 ret2 f2 n2 (.inr (.inr (k, i)) :: as) g none G) (hc : kCv own idx ym cc2 nL2 ret2 ci as.length) (hr : (k, i) ∈ y_refs y) (hk : y_is y k = 0) (hkc : y_kc y k = ci) (hR : f2 + 1 ≤ f ∧ 8 + (nL2 + 11) + n2 ≤ n) (hst : st = as.reverse ++ .inr (.inr (k, i)) :: rest) (hll : ls.length = nL) (hW : ((rest.map (k_cv (y_ad y))).map fun v => v.category).sum ≤ 8)
    (kk : Wk (kWd y) (kAA y) (y_ad y) x (0, 0) Q (pc + 3) ls rest G) : Wk (kWd y) (kAA y) (y_ad y) x (0, 0) Q pc ls st g :=
  k_callV X hd hM hc hr hk hkc hR hst hll hW (fun r g2 h => by obtain ⟨rfl, rfl⟩ := h; exact kk)
theorem k_csI (X : kIn y l cc own nL ret f n x) {idx : Nat} {ym : MethodName} {cc2 : ByteArray} {nL2 f2 n2 : Nat} {ret2 : Option FieldType} {as : List kV} {v : Int32} {G : kG} (hd : decode cc pc = .ok (.invokestatic idx, 3)) (hM : kMd y l ym cc2 nL2 ret2 f2 n2 as g (some (.inl v)) G) (hc : kCs own idx ym cc2 nL2 ret2 as.length) (hR : f2 + 1 ≤ f ∧ 8 + (nL2 + 11) + n2 ≤ n) (hst : st = as.reverse ++ rest) (hll : ls.length = nL) (hW : ((rest.map (k_cv (y_ad y))).map fun v => v.category).sum ≤ 8)
    (kk : Wk (kWd y) (kAA y) (y_ad y) x (0, 0) Q (pc + 3) ls (.inl v :: rest) G) : Wk (kWd y) (kAA y) (y_ad y) x (0, 0) Q pc ls st g :=
  k_callS X hd hM hc hR hst hll hW (fun r g2 h => by obtain ⟨rfl, rfl⟩ := h; exact kk)
theorem k_csJ (X : kIn y l cc own nL ret f n x) {idx : Nat} {ym : MethodName} {cc2 : ByteArray} {nL2 f2 n2 : Nat} {ret2 : Option FieldType} {as : List kV} {v : Int64} {G : kG} (hd : decode cc pc = .ok (.invokestatic idx, 3)) (hM : kMd y l ym cc2 nL2 ret2 f2 n2 as g (some (.inr (.inl v))) G) (hc : kCs own idx ym cc2 nL2 ret2 as.length) (hR : f2 + 1 ≤ f ∧ 8 + (nL2 + 11) + n2 ≤ n) (hst : st = as.reverse ++ rest) (hll : ls.length = nL) (hW : ((rest.map (k_cv (y_ad y))).map fun v => v.category).sum ≤ 8)
    (kk : Wk (kWd y) (kAA y) (y_ad y) x (0, 0) Q (pc + 3) ls (.inr (.inl v) :: rest) G) : Wk (kWd y) (kAA y) (y_ad y) x (0, 0) Q pc ls st g :=
  k_callS X hd hM hc hR hst hll hW (fun r g2 h => by obtain ⟨rfl, rfl⟩ := h; exact kk)
theorem k_cnJ (X : kIn y l cc "DynamicNeeds$Mapping" nL ret f n x) {f2 n2 : Nat} {as : List kV} {v : Int64} {G : kG} (hd : decode cc pc = .ok (.invokestatic 25, 3)) (hM : kMd y l y_X_memberDigest b_X_memberDigest 3 (some .long) f2 n2 as g (some (.inr (.inl v))) G) (h10 : as.length = 2) (hR : f2 + 1 ≤ f ∧ 8 + (3 + 11) + n2 ≤ n) (hst : st = as.reverse ++ rest) (hll : ls.length = nL) (hW : ((rest.map (k_cv (y_ad y))).map fun v => v.category).sum ≤ 8)
    (kk : Wk (kWd y) (kAA y) (y_ad y) x (0, 0) Q (pc + 3) ls (.inr (.inl v) :: rest) G) : Wk (kWd y) (kAA y) (y_ad y) x (0, 0) Q pc ls st g :=
  k_callN X hd hM cn_code cn_stat cn_ini h10 hR hst hll hW (fun r g2 h => by obtain ⟨rfl, rfl⟩ := h; exact kk)
end KN
theorem vi_lt {j : Int32} {n : Nat} (h : vp_in j n) : j.toNatClampNeg < n := Nat.not_le.mp fun q => h (Or.inr q)
/-! the class's cells -/
def xRefs : List (Nat × Nat) := [(0, 0), (1, 0), (2, 0), (3, 0), (4, 0)] ++ (List.range 24).map (fun i => (5, i)) ++ ((List.range 8).flatMap fun k => (List.range 12).map fun i => (6 + k, i)) ++ (List.range 6).map (fun i => (14, i))
def xRt : Nat → Nat → Nat → Nat × Nat := fun k i j => match k with
  | 0 => match j with
    | 1 => (1, 0)
    | 2 => (2, 0)
    | 3 => (3, 0)
    | _ => (4, 0)
  | 1 => (5, j)
  | 2 => (6, j)
  | 3 => (14, j)
  | 6 => match j with
    | 0 => (7, i)
    | 1 => (8, i)
    | _ => (9, i)
  | _ => match j with
    | 0 => (10, i)
    | 1 => (11, i)
    | 2 => (12, i)
    | _ => (13, i)
def xKc : Nat → Nat := fun k => match k with
  | 0 => 4
  | 5 => 1
  | 6 => 0
  | 9 => 3
  | _ => 2
def xFt : Nat → List Nat := fun k => match k with
  | 0 => [0, 2, 2, 2, 0, 0, 0, 2, 0, 0]
  | 5 => [0, 1, 0]
  | 6 => [2, 2, 0, 0, 0, 2, 0, 0, 1, 0, 0, 0, 0]
  | 9 => [2, 2, 2, 2, 0]
  | _ => [0, 1, 1, 0]
def xIs : Nat → Nat := fun k => match k with
  | 0 => 0
  | 1 => 4
  | 2 => 4
  | 3 => 4
  | 4 => 1
  | 5 => 0
  | 6 => 0
  | 7 => 1
  | 8 => 1
  | 9 => 0
  | 10 => 1
  | 11 => 2
  | 12 => 2
  | 13 => 3
  | _ => 0
def xLn : Nat → Nat := fun k => match k with
  | 1 => 24
  | 3 => 6
  | 4 => 13
  | _ => 12
def xCa (dA : Nat → ClassId) : Nat → ClassId := fun k => match k with
  | 1 => dA 3
  | 2 => dA 4
  | 3 => dA 5
  | 11 => dA 1
  | 12 => dA 1
  | 13 => dA 2
  | _ => dA 0
def kTys (dA : Nat → ClassId) : List (ClassId × FieldType) := [(dA 0, .int), (dA 1, .boolean), (dA 2, .long), (dA 3, .object "DynamicNeeds$FileState"), (dA 4, .object "DynamicNeeds$Action"), (dA 5, .object "DynamicNeeds$Mapping")]
def sysX (b : Nat → Nat → Nat) (dA : Nat → ClassId) (D : va_G) : kSys := (xRefs, b, xRt, xKc, xFt, xIs, xLn, xCa dA, D, kTys dA)
theorem xr_0 : (0, 0) ∈ xRefs := by decide +kernel
theorem xr_1 : (1, 0) ∈ xRefs := by decide +kernel
theorem xr_2 : (2, 0) ∈ xRefs := by decide +kernel
theorem xr_3 : (3, 0) ∈ xRefs := by decide +kernel
theorem xr_4 : (4, 0) ∈ xRefs := by decide +kernel
theorem xr_5 {i : Nat} (h : i < 24) : (5, i) ∈ xRefs := (show ∀ i, i < 24 → (5, i) ∈ xRefs by decide +kernel) i h
theorem xr_6 {i : Nat} (h : i < 12) : (6, i) ∈ xRefs := (show ∀ i, i < 12 → (6, i) ∈ xRefs by decide +kernel) i h
theorem xr_7 {i : Nat} (h : i < 12) : (7, i) ∈ xRefs := (show ∀ i, i < 12 → (7, i) ∈ xRefs by decide +kernel) i h
theorem xr_8 {i : Nat} (h : i < 12) : (8, i) ∈ xRefs := (show ∀ i, i < 12 → (8, i) ∈ xRefs by decide +kernel) i h
theorem xr_9 {i : Nat} (h : i < 12) : (9, i) ∈ xRefs := (show ∀ i, i < 12 → (9, i) ∈ xRefs by decide +kernel) i h
theorem xr_10 {i : Nat} (h : i < 12) : (10, i) ∈ xRefs := (show ∀ i, i < 12 → (10, i) ∈ xRefs by decide +kernel) i h
theorem xr_11 {i : Nat} (h : i < 12) : (11, i) ∈ xRefs := (show ∀ i, i < 12 → (11, i) ∈ xRefs by decide +kernel) i h
theorem xr_12 {i : Nat} (h : i < 12) : (12, i) ∈ xRefs := (show ∀ i, i < 12 → (12, i) ∈ xRefs by decide +kernel) i h
theorem xr_13 {i : Nat} (h : i < 12) : (13, i) ∈ xRefs := (show ∀ i, i < 12 → (13, i) ∈ xRefs by decide +kernel) i h
theorem xr_14 {i : Nat} (h : i < 6) : (14, i) ∈ xRefs := (show ∀ i, i < 6 → (14, i) ∈ xRefs by decide +kernel) i h
theorem x_nodup : xRefs.Nodup := by decide +kernel
