/-! constructors: worlds as lists of cells, references by their addresses -/
abbrev rAd : Nat → Nat → Nat := fun _ i => i
def rWd (D : va_G) (A : Nat → Prop) (ws : va_W) (H : Heap) : Prop := va_P D kCl ws H ∧ va_D A ws
/-- a final field's link, in a constructor of its own class -/
def kFf (own : String) (idx ci sl : Nat) (ty : FieldType) : Prop := ∃ (Cn : String) (T : u_T) (N : Nat) (ty0 : Nat → FieldType), kCl[ci]? = some (Cn, T, N) ∧ (∀ w ∈ u_ws Cn T N, w ∈ kT) ∧ (∀ k, k < N → parseFieldDescriptor (T k).2.2.1 = some (ty0 k)) ∧ (∀ a, a < N → ∀ b, b < N → a ≠ b → (T a).2.1 ≠ (T b).2.1) ∧ sl < N ∧ Cond.fieldLink own idx (T sl).1 (T sl).2.1 (T sl).2.2.1 ∈ kT ∧ (T sl).2.2.2 = true ∧ parseFieldDescriptor (T sl).2.2.1 = some ty ∧ (T sl).1 = own
/-- a class that 'new' names -/
def kNw (own : String) (idx ci n : Nat) (fs : List Value) : Prop := ∃ (Cn : String) (T : u_T) (ty0 : Nat → FieldType), kCl[ci]? = some (Cn, T, n) ∧ (∀ w ∈ u_ws Cn T n, w ∈ kT) ∧ (∀ k, k < n → parseFieldDescriptor (T k).2.2.1 = some (ty0 k)) ∧ Cond.classLink own idx Cn ∈ kT ∧ Cond.instantiable Cn n ∈ kT ∧ Cond.initialized Cn ∈ kT ∧ ∀ j, j < n → defaultValue (ty0 j) = vp_V fs j
section RR
variable {D : va_G} {A : Nat → Prop} {tys : List (ClassId × FieldType)} {x : kCx} {nn : Nat × Nat} {Q : State → Prop} {pc : Nat} {ls : List (Option kV)} {st : List kV} {ws ws' : va_W} {cc : ByteArray} {own : String}
theorem r_obj (C : kOk x cc own) {idx a : Nat} (hd : decode cc pc = .ok (.invokespecial idx, 3)) (h1 : Cond.methodLink own idx Lib.objectInit ∈ kT) (h2 : Cond.instanceMethod Lib.objectInit ∈ kT) (h3 : Cond.code Lib.objectInit ⟨#[0xb1]⟩ 1 none ∈ kT) (hml : x.2.2.2.2.2.2.2.2.2.maxLocals = ls.length) (hf : 1 ≤ x.2.2.2.1.frames) (hlo : ((st.map (k_cv rAd)).map fun v => v.category).sum + 12 ≤ x.2.2.2.1.locals)
    (kk : Wk (rWd D A) A rAd x nn Q (pc + 3) ls st ws) : Wk (rWd D A) A rAd x nn Q pc ls (.inr (.inr (0, a)) :: st) ws := fun H locs la hw hS hl =>
  W.objInit C.1 C.2.1 C.2.2.1 (C.ts _ h1) (C.ts _ h2) (C.ts _ h3) rfl (hl.1.trans hml.symm) rfl hd hf (by show 2 * 0 + _ + 12 ≤ _; rw [Nat.mul_zero, Nat.zero_add]; exact hlo) (kk H locs la hw hS hl)
theorem r_put (C : kOk x cc own) (K : va_K D kCl tys x.2.2.2.2.1) (q0 : Nat) {a ci sl idx : Nat} {ty : FieldType} {fs : List Value} {v : kV} (hd : decode cc pc = .ok (.putfield idx, 3)) (F : kFp own idx ci sl ty) (he : ws[q0]? = some (a, .inr (ci, fs))) (hn : narrow ty (k_cv rAd v) = k_cv rAd v) (hfit : fits ty (k_cv rAd v) = true) (hl0 : sl < fs.length) (hs : ws.set q0 (a, .inr (ci, fs.set sl (k_cv rAd v))) = ws')
    (kk : Wk (rWd D A) A rAd x nn Q (pc + 3) ls st ws') : Wk (rWd D A) A rAd x nn Q pc ls (v :: .inr (.inr (0, a)) :: st) ws := by
  intro H locs la hw hS hl
  obtain ⟨Cn, T, N, ty0, h1, h2, h5, h6, h3, h4, h7, h8⟩ := F
  refine va_put C.1 C.2.1 C.ts h2 ty0 h5 h6 C.2.2.1 K hw.1 hw.2 hS q0 he h1 sl h3 (C.ts _ h4) (fun _ h => h) h7 (v := k_cv rAd v) h8 hn hfit hl0 hd fun H1 locs1 hP1 hD1 hS1 => ?_
  rw [hs] at hP1 hD1
  exact kk H1 locs1 la ⟨hP1, hD1⟩ hS1 hl
theorem r_putF (C : kOk x cc own) (K : va_K D kCl tys x.2.2.2.2.1) (hin : x.2.2.2.2.2.2.2.2.1.name = "<init>") (q0 : Nat) {a ci sl idx : Nat} {ty : FieldType} {fs : List Value} {v : kV} (hd : decode cc pc = .ok (.putfield idx, 3)) (F : kFf own idx ci sl ty) (he : ws[q0]? = some (a, .inr (ci, fs))) (hn : narrow ty (k_cv rAd v) = k_cv rAd v) (hfit : fits ty (k_cv rAd v) = true) (hl0 : sl < fs.length) (hs : ws.set q0 (a, .inr (ci, fs.set sl (k_cv rAd v))) = ws')
    (kk : Wk (rWd D A) A rAd x nn Q (pc + 3) ls st ws') : Wk (rWd D A) A rAd x nn Q pc ls (v :: .inr (.inr (0, a)) :: st) ws := by
  intro H locs la hw hS hl
  obtain ⟨Cn, T, N, ty0, h1, h2, h5, h6, h3, h4, h7, h8, h9⟩ := F
  refine va_putF C.1 C.2.1 C.ts h2 ty0 h5 h6 C.2.2.1 K hw.1 hw.2 hS q0 he h1 sl h3 (C.ts _ h4) (fun _ h => h) h7 hin h9 (v := k_cv rAd v) h8 hn hfit hl0 hd fun H1 locs1 hP1 hD1 hS1 => ?_
  rw [hs] at hP1 hD1
  exact kk H1 locs1 la ⟨hP1, hD1⟩ hS1 hl
theorem r_get (C : kOk x cc own) (K : va_K D kCl tys x.2.2.2.2.1) (q0 : Nat) {a ci sl idx : Nat} {fs : List Value} {v : kV} (hd : decode cc pc = .ok (.getfield idx, 3)) (F : kFl own idx ci sl) (he : ws[q0]? = some (a, .inr (ci, fs))) (hv : fs[sl]? = some (k_cv rAd v))
    (kk : Wk (rWd D A) A rAd x nn Q (pc + 3) ls (v :: st) ws) : Wk (rWd D A) A rAd x nn Q pc ls (.inr (.inr (0, a)) :: st) ws := by
  intro H locs la hw hS hl
  obtain ⟨Cn, T, N, h1, h2, h3, h4⟩ := F
  exact va_get C.1 C.2.1 C.ts h2 C.2.2.1 K hw.1 q0 he h1 sl h3 (C.ts _ h4) (fun _ h => h) hv hd (kk H locs la hw hS hl)
theorem r_new (C : kOk x cc own) (K : va_K D kCl tys x.2.2.2.2.1) (hA : ∀ q, x.2.2.2.2.1.heap.size ≤ q → A q) {idx ci N : Nat} {fs : List Value} (hd : decode cc pc = .ok (.new idx, 3)) (F : kNw own idx ci N fs) (hc : nn.1 + 1 ≤ x.2.2.2.1.cells) (hs : nn.2 + N ≤ x.2.2.2.1.slots)
    (kk : ∀ q : Nat, Wk (rWd D A) A rAd x (nn.1 + 1, nn.2 + N) Q (pc + 3) ls (.inr (.inr (0, q)) :: st) (ws ++ [(q, .inr (ci, fs))])) : Wk (rWd D A) A rAd x nn Q pc ls st ws := by
  intro H locs la hw hS hl
  obtain ⟨Cn, T, ty0, h1, h2, h3, h4, h5, h6, h7⟩ := F
  exact va_new C.1 C.2.1 C.ts h2 ty0 h3 C.2.2.1 (C.ts _ h4) (C.ts _ h5) (C.ts _ h6) K hw.1 hw.2 hS hA h1 h7 hc hs hd fun q H1 hP1 hD1 hS1 => kk q H1 locs la ⟨hP1, hD1⟩ hS1 hl
end RR
/-- the tables, for constructors: classes, array classes, the nest's words -/
abbrev nX_F : Cond := .methodLinkNest "DynamicNeeds" 59 y_F_init "DynamicNeeds"
abbrev nX_A : Cond := .methodLinkNest "DynamicNeeds" 60 y_A_init "DynamicNeeds"
abbrev nX_G : Cond := .methodLinkNest "DynamicNeeds" 61 y_G_init "DynamicNeeds"
abbrev nA_N : Cond := .methodLinkNest "DynamicNeeds$Action" 30 y_N_init "DynamicNeeds"
def rK (D : va_G) (dA : Nat → ClassId) (U : State) : Prop := va_K D kCl (kTys dA) U ∧ va_Nw nX_F U ∧ va_Nw nX_A U ∧ va_Nw nX_G U ∧ va_Nw nA_N U ∧ va_AO "DynamicNeeds$FileState" U ∧ va_AO "DynamicNeeds$Action" U ∧ va_AO "DynamicNeeds$Mapping" U
theorem rK.warm {D : va_G} {dA : Nat → ClassId} {s U : State} (K : rK D dA s) (hW : s.WarmedH U.vm) : rK D dA U := ⟨va_K.moved hW.alike K.1, va_Nw.warmM hW K.2.1, va_Nw.warmM hW K.2.2.1, va_Nw.warmM hW K.2.2.2.1, va_Nw.warmM hW K.2.2.2.2.1, va_AO.moved hW.alike K.2.2.2.2.2.1, va_AO.moved hW.alike K.2.2.2.2.2.2.1, va_AO.moved hW.alike K.2.2.2.2.2.2.2⟩
theorem rK.same {D : va_G} {dA : Nat → ClassId} {s U : State} (K : rK D dA s) (h : s.vm = U.vm) : rK D dA U := ⟨va_K.moved (by rw [h]; exact Vm.Alike.refl _) K.1, va_Nw.same rfl h K.2.1, va_Nw.same rfl h K.2.2.1, va_Nw.same rfl h K.2.2.2.1, va_Nw.same rfl h K.2.2.2.2.1, va_AO.moved (by rw [h]; exact Vm.Alike.refl _) K.2.2.2.2.2.1, va_AO.moved (by rw [h]; exact Vm.Alike.refl _) K.2.2.2.2.2.2.1, va_AO.moved (by rw [h]; exact Vm.Alike.refl _) K.2.2.2.2.2.2.2⟩
def rRm (f n mc ms : Nat) : Room := { frames := f, cells := mc, slots := ms, locals := n }
def rPre (D : va_G) (dA : Nat → ClassId) (sz h0 : Nat) (e0 : va_E) (as : List kV) : Array Value → State → Prop := va_Pc ((.inr (.inr (0, h0)) :: as).map (k_cv rAd)) (fun U => U.heap.size = sz ∧ va_P D kCl [(h0, e0)] U.heap ∧ rK D dA U)
def rPost (D : va_G) (sz h0 : Nat) (e0 : va_E) (post : va_W → Prop) : Array Value → State → Outcome → State → Prop := fun _ st oc t => (∃ ws : va_W, oc = .returned none ∧ post ws ∧ va_P D kCl ws t.heap ∧ va_D (va_A [(h0, e0)] sz) ws) ∧ va_F (va_A [(h0, e0)] sz) st t
def rMet (l : Launch) (D : va_G) (dA : Nat → ClassId) (ym : MethodName) (cc : ByteArray) (nL f n mc ms : Nat) (sz h0 : Nat) (e0 : va_E) (as : List kV) (post : va_W → Prop) : Prop := Met l ym (.code ym cc nL none :: kT) (rRm f n mc ms) (rPre D dA sz h0 e0 as) (rPost D sz h0 e0 post) mc ms (va_A [(h0, e0)] sz)
def rQ (D : va_G) (sz h0 : Nat) (e0 : va_E) (post : va_W → Prop) (mc ms : Nat) (x : kCx) : State → Prop := MQ x.2.2.2.2.2.2.2.1 (rPost D sz h0 e0 post) x.2.2.2.2.2.2.1 x.2.2.2.2.1 mc ms (va_A [(h0, e0)] sz)
def rIn (l : Launch) (D : va_G) (dA : Nat → ClassId) (cc : ByteArray) (own : String) (nL f n mc ms sz : Nat) (x : kCx) : Prop := kOk x cc own ∧ rK D dA x.2.2.2.2.1 ∧ x.2.1 = l ∧ x.2.2.2.1 = rRm f n mc ms ∧ x.2.2.2.2.2.2.2.2.2.maxLocals = nL ∧ x.2.2.2.2.2.2.2.2.1.sig.returnType = none ∧ x.2.2.2.2.2.2.2.2.1.locks = false ∧ x.2.2.2.2.2.2.2.2.1.name = "<init>" ∧ x.2.2.2.2.1.heap.size = sz
theorem r_enter {l : Launch} {D : va_G} {dA : Nat → ClassId} {ym : MethodName} {cc : ByteArray} {nL f n mc ms sz h0 : Nat} {e0 : va_E} {as : List kV} {post : va_W → Prop} (hy : plainName ym.cls = true) (hnm : ym.name = "<init>") (ls0 : List (Option kV)) (hls : k_tl rAd 0 ls0 = lv_args 0 ((.inr (.inr (0, h0)) :: as).map (k_cv rAd))) (hlen : ls0.length = nL) (hsl : (lg_sl ((.inr (.inr (0, h0)) :: as).map (k_cv rAd))).length ≤ nL)
    (body : ∀ x : kCx, rIn l D dA cc ym.cls nL f n mc ms sz x → Wk (rWd D (va_A [(h0, e0)] sz)) (va_A [(h0, e0)] sz) rAd x (0, 0) (rQ D sz h0 e0 post mc ms x) 0 ls0 [] [(h0, e0)]) : rMet l D dA ym cc nL f n mc ms sz h0 e0 as post := by
  refine Met.ofW (cc := cc) (maxL := nL) (ret := none) hy rfl ?_
  intro p e s m args below meth c s₁ B hml hv
  obtain ⟨rfl, hsz, hP, hK⟩ := hv
  have h := body (p, l, e, rRm f n mc ms, s, m, ((.inr (.inr (0, h0)) :: as).map (k_cv rAd)).toArray, below, meth, c) ⟨⟨B.exec, B.bytes, findClass_of_methodNamed B.named, fun w h hg => atoms_spec B.pre w (List.mem_cons_of_mem _ (kT_in ⟨h, hg⟩))⟩, hK, rfl, rfl, hml, B.returns, B.notSynchronized, (name_of_methodNamed B.named B.method).1.trans hnm, hsz⟩
  rw [lg_entry_eq]
  have hD : va_D (va_A [(h0, e0)] sz) [(h0, e0)] := ⟨fun i j p q hp hq _ => by
    have h1 : i < 1 := (List.getElem?_eq_some_iff.mp hp).1
    have h2 : j < 1 := (List.getElem?_eq_some_iff.mp hq).1
    omega, fun k q hq => va_A.in hq⟩
  exact h s.heap [] _ ⟨hP, hD⟩ va_S.rf (by rw [hls, hlen]; exact lv_entry _ hsl)
theorem va_nd_of : ∀ l : List Nat, l.Nodup → va_nd l = true
  | [], _ => rfl
  | a :: l, h => by
    simp only [va_nd, Bool.and_eq_true, decide_eq_true_eq]
    exact ⟨(List.nodup_cons.mp h).1, va_nd_of l (List.nodup_cons.mp h).2⟩
theorem r_range (wr t : va_W) : (List.range wr.length).map (fun i => (wr ++ t)[i]?) = wr.map some := by
  apply List.ext_getElem?
  intro j
  rw [List.getElem?_map, List.getElem?_map]
  by_cases h : j < wr.length
  · rw [List.getElem?_range h]
    show some ((wr ++ t)[j]?) = _
    rw [List.getElem?_append_left h, List.getElem?_eq_getElem h]
    rfl
  · rw [List.getElem?_eq_none (by rw [List.length_range]; omega), List.getElem?_eq_none (by omega)]
    rfl
theorem r_join {D : va_G} {A : Nat → Prop} {wr w1 : va_W} {q : Nat} {e : va_E} {H H1 : Heap} (hP : va_P D kCl (wr ++ [(q, e)]) H) (hD : va_D A (wr ++ [(q, e)])) (hk : ∀ p : Nat, p < H.size → ¬ va_A [(q, e)] H.size p → H1[p]? = H[p]?) (hF : ∀ p, va_A [(q, e)] H.size p → A p) (hP1 : va_P D kCl w1 H1) (hD1 : va_D (va_A [(q, e)] H.size) w1) : va_P D kCl (wr ++ w1) H1 ∧ va_D A (wr ++ w1) :=
  va_join (wc := [(q, e)]) hP hD [wr.length] (List.range wr.length) (by simp) (r_range wr _) (va_nd_of _ List.nodup_range) (by intro i hi; simp at hi ⊢; omega) hk hF hP1 hD1
section RS
variable {l : Launch} {D : va_G} {dA : Nat → ClassId} {x : kCx} {nn : Nat × Nat} {Q : State → Prop} {pc : Nat} {ls : List (Option kV)} {st rest : List kV} {ws wr : va_W} {cc : ByteArray} {own : String} {nL f n mc0 ms0 sz : Nat} {A : Nat → Prop}
theorem r_vret {h0 : Nat} {e0 : va_E} {post : va_W → Prop} (X : rIn l D dA cc own nL f n mc0 ms0 sz x) (hn : nn.1 ≤ mc0 ∧ nn.2 ≤ ms0) (hd : decode cc pc = .ok (.return_, 1)) (hp : post ws) : Wk (rWd D (va_A [(h0, e0)] sz)) (va_A [(h0, e0)] sz) rAd x nn (rQ D sz h0 e0 post mc0 ms0 x) pc ls [] ws :=
  fun H locs la hw hS hl => W.widen hn.1 hn.2 (W.vret X.1.1 X.1.2.1 X.2.2.2.2.2.1 (fun t ht hW => ⟨⟨ws, rfl, hp, by rw [ht]; exact hw.1, hw.2⟩, hS.F ht⟩) hS.2.2 hd X.2.2.2.2.2.2.1)
/-- a constructor of a nest mate, called on the cell made last -/
theorem r_callN (X : rIn l D dA cc own nL f n mc0 ms0 sz x) (hA : ∀ q, sz ≤ q → A q) {idx q f2 n2 mc ms nL2 : Nat} {ym : MethodName} {cc2 : ByteArray} {host : String} {e : va_E} {as : List kV} {post : va_W → Prop} (hd : decode cc pc = .ok (.invokespecial idx, 3)) (hM : ∀ sz2, rMet l D dA ym cc2 nL2 f2 n2 mc ms sz2 q e as post) (hnw : va_Nw (.methodLinkNest own idx ym host) x.2.2.2.2.1) (h7 : Cond.code ym cc2 nL2 none ∈ kT) (h4 : Cond.instanceMethod ym ∈ kT) (h6 : Cond.initialized ym.cls ∈ kT) (hnm : ym.name = "<init>") (hdd : ym.cls ≠ "java/lang/invoke/MethodHandle" ∧ ym.cls ≠ "java/lang/invoke/VarHandle" ∧ (parseMethodDescriptor ym.desc).map (fun d => d.parameters.length) = some as.length) (hR : f2 + 1 ≤ f ∧ 8 + (nL2 + 11) + n2 ≤ n) (hc : nn.1 + mc ≤ mc0 ∧ nn.2 + ms ≤ ms0) (hst : st = as.reverse ++ .inr (.inr (0, q)) :: rest) (hll : ls.length = nL) (hW : ((rest.map (k_cv rAd)).map fun v => v.category).sum ≤ 8)
    (kk : ∀ w1, post w1 → Wk (rWd D A) A rAd x (nn.1 + mc, nn.2 + ms) Q (pc + 3) ls rest (wr ++ w1)) : Wk (rWd D A) A rAd x nn Q pc ls st (wr ++ [(q, e)]) := by
  intro H locs la hw hS hl T hT XX
  obtain ⟨C, K, h1, h2, h3, -, -, -, hsz⟩ := X
  subst hst
  subst h1
  have hPq : va_P D kCl [(q, e)] H := fun k p hk => hw.1 (wr.length + k) p (by rw [List.getElem?_append_right (by omega), show wr.length + k - wr.length = k by omega]; exact hk)
  have hF : ∀ p, va_A [(q, e)] H.size p → A p := by
    intro p hp
    rcases hp with ⟨k, e', hk⟩ | hp
    · exact hw.2.2 (wr.length + k) (p, e') (by rw [List.getElem?_append_right (by omega), show wr.length + k - wr.length = k by omega]; exact hk)
    · exact hA p (by rw [← hsz]; exact Nat.le_trans hS.1 hp)
  have hrun := va_runIN (p := x.1) (l := x.2.1) (R := x.2.2.2.1) (s := x.2.2.2.2.1) (args := x.2.2.2.2.2.2.1) (m := x.2.2.2.2.2.1) (c := x.2.2.2.2.2.2.2.2.2) (H := H) (e := x.2.2.1) (below := x.2.2.2.2.2.2.2.1) (meth := x.2.2.2.2.2.2.2.2.1) (locs := locs) (cells := nn.1) (slots := nn.2) (g := F0 x.2.2.2.2.2.1 pc la ((as.reverse ++ .inr (.inr (0, q)) :: rest).map (k_cv rAd))) (rest := rest.map (k_cv rAd)) (b := q) (As := as.map (k_cv rAd)) (nL := nL) (Ts := kT) ⟨C.1, C.2.1, h3, C.2.2.1, C.ts⟩ (hM H.size)
    ⟨va_cnB as.length C.ts (kT_good (fun w hw => by
      rcases List.mem_cons.mp hw with rfl | h
      · exact h7
      · exact h)) rfl rfl rfl hnw (C.ts _ h6) hdd (by rw [h2]; exact hR), hnm, C.ts _ h4⟩ ⟨fun a U gf mk q => ⟨q.1, q.2.1, q.2.2.1, q.2.2.2.same rfl⟩, fun U hU hW => ⟨rfl, by rw [hU], by rw [hU]; exact hPq, K.warm hW⟩⟩ rfl (List.length_map ..) (hl.1.trans hll) (by
      show (as.reverse ++ .inr (.inr (0, q)) :: rest).map (k_cv rAd) = _
      rw [List.map_append, List.map_cons, List.map_reverse]
      rfl) (lv_room hW) hd (by rw [h2]; exact hc)
  obtain ⟨v, st₀, t, T', L, g0, X', hL, e1, e2, ⟨⟨w1, hv, hp, hb, hbD⟩, hz, hk⟩, stp⟩ := hrun T hT XX
  cases hv
  rw [g0] at hz hk
  have hj := r_join hw.1 hw.2 (H1 := T'.heap) (fun p h1 h2 => by rw [e1]; exact hk p h1 h2) hF (by rw [e1]; exact hb) hbD
  obtain ⟨t2, a1, b1⟩ := kk w1 hp T'.heap (locs ++ L) la hj
    ⟨Nat.le_trans hS.1 (by rw [e1]; exact hz), fun p h1 h2 => by rw [e1, hk p (Nat.lt_of_lt_of_le h1 hS.1) (fun z => h2 (hF p z))]; exact hS.2.1 p h1 h2, fun p hp => by
      rcases List.mem_append.mp hp with h | h
      · exact hS.2.2 p h
      · exact hF _ (hL p h)⟩ hl T' rfl X'
  exact ⟨t2, stp t2 a1, b1⟩
theorem r_newa (X : rIn l D dA cc own nL f n mc0 ms0 sz x) (hA : ∀ q, sz ≤ q → A q) (t0 : Nat) {atype : ArrayType} {ty : FieldType} {c0 : ClassId} {v : Int32} {N : Nat} {a0 : vp_A} (hd : decode cc pc = .ok (.newarray atype, 2)) (hac : Cond.arrayClass ty ∈ kT) (hty : newarray.typeOf atype = ty) (ht : (kTys dA)[t0]? = some (c0, ty)) (hu : ∀ c1 : ClassId, va_RA x.2.2.2.2.1 c1 ty → va_RA x.2.2.2.2.1 c0 ty → c1 = c0) (ha : ∀ cA : ClassId, vp_cell cA a0 = arrV cA N (fun _ => defaultValue ty)) (hn : ¬ v < 0) (hN : v.toNatClampNeg = N) (hb : N * componentBytes ty ≤ 536870912) (hc : nn.1 + 1 ≤ mc0) (hs : nn.2 + N ≤ ms0)
    (kk : ∀ q : Nat, Wk (rWd D A) A rAd x (nn.1 + 1, nn.2 + N) Q (pc + 2) ls (.inr (.inr (0, q)) :: rest) (ws ++ [(q, .inl (c0, a0))])) : Wk (rWd D A) A rAd x nn Q pc ls (.inl v :: rest) ws := by
  intro H locs la hw hS hl
  obtain ⟨C, K, h1, h2, h3, -, -, -, hsz⟩ := X
  subst hty
  refine va_newa C.1 C.2.1 (C.ts _ hac) rfl K.1 hw.1 hw.2 hS (fun q h => hA q (by rw [← hsz]; exact h)) ha hn hN hb (by rw [h2]; exact hc) (by rw [h2]; exact hs) hd fun q cA H1 hK1 hP1 hD1 hS1 => ?_
  have hlen : (kTys dA).length = 6 := rfl
  have hcA : cA = c0 := hu cA (hK1.2 6 (cA, newarray.typeOf atype) (by rw [List.getElem?_append_right (by rw [hlen]; omega), hlen]; rfl)).2 (K.1.2 t0 _ ht).2
  subst hcA
  exact kk q H1 locs la ⟨hP1, hD1⟩ hS1 hl
theorem r_newq (X : rIn l D dA cc own nL f n mc0 ms0 sz x) (hA : ∀ q, sz ≤ q → A q) (t0 : Nat) {E : String} {idx : Nat} {c0 : ClassId} {v : Int32} {N : Nat} (hd : decode cc pc = .ok (.anewarray idx, 3)) (hcl : Cond.classLink own idx E ∈ kT) (hov : va_AO E x.2.2.2.2.1) (ht : (kTys dA)[t0]? = some (c0, .object E)) (hn : ¬ v < 0) (hN : v.toNatClampNeg = N) (hb : N * 4 ≤ 536870912) (hc : nn.1 + 1 ≤ mc0) (hs : nn.2 + N ≤ ms0)
    (kk : ∀ q : Nat, Wk (rWd D A) A rAd x (nn.1 + 1, nn.2 + N) Q (pc + 3) ls (.inr (.inr (0, q)) :: rest) (ws ++ [(q, .inl (c0, N, .inr (.inr (.inr (.inr (fun _ => none))))))])) : Wk (rWd D A) A rAd x nn Q pc ls (.inl v :: rest) ws := by
  intro H locs la hw hS hl
  obtain ⟨C, K, h1, h2, h3, -, -, -, hsz⟩ := X
  refine va_newq C.1 C.2.1 C.2.2.1 (C.ts _ hcl) hov K.1 hw.1 hw.2 hS (fun q h => hA q (by rw [← hsz]; exact h)) hn hN hb (by rw [h2]; exact hc) (by rw [h2]; exact hs) hd fun q cA H1 hK1 hP1 hD1 hS1 => ?_
  have hlen : (kTys dA).length = 6 := rfl
  obtain ⟨k1, m1, -, -, -, r1⟩ := (hK1.2 6 (cA, .object E) (by rw [List.getElem?_append_right (by rw [hlen]; omega), hlen]; rfl)).2
  obtain ⟨k2, m2, -, -, -, r2⟩ := (K.1.2 t0 _ ht).2
  have hcA : cA = c0 := Option.some.inj (r1.symm.trans r2)
  subst hcA
  exact kk q H1 locs la ⟨hP1, hD1⟩ hS1 hl
theorem r_aast (C : kOk x cc own) {tys : List (ClassId × FieldType)} (K : va_K D kCl tys x.2.2.2.2.1) (q0 t0 qk ci : Nat) {cA : ClassId} {r : vw_C} {N a v : Nat} {vs : List Value} {g : Nat → Option Nat} {i : Int32} {ws' : va_W} (hd : decode cc pc = .ok (.aastore, 1)) (he : ws[q0]? = some (a, .inl (cA, N, .inr (.inr (.inr (.inr g)))))) (ht : tys[t0]? = some (cA, .object r.1)) (hv : ws[qk]? = some (v, .inr (ci, vs))) (hc : kCl[ci]? = some r) (hin : vp_in i N) (hs : ws.set q0 (a, .inl (cA, N, .inr (.inr (.inr (.inr (va_up g i.toNatClampNeg (some v))))))) = ws')
    (kk : Wk (rWd D A) A rAd x nn Q (pc + 1) ls rest ws') : Wk (rWd D A) A rAd x nn Q pc ls (.inr (.inr (0, v)) :: .inl i :: .inr (.inr (0, a)) :: rest) ws := by
  intro H locs la hw hS hl
  refine va_astq C.1 C.2.1 K hw.1 hw.2 hS q0 t0 qk ci he ht hv hc hin hd fun H1 locs1 hP1 hD1 hS1 => ?_
  rw [hs] at hP1 hD1
  exact kk H1 locs1 la ⟨hP1, hD1⟩ hS1 hl
theorem r_max (X : rIn l D dA cc own nL f n mc0 ms0 sz x) {idx : Nat} {u v : Int32} (hd : decode cc pc = .ok (.invokestatic idx, 3)) (h1 : Cond.methodLink own idx Lib.Math.max.name ∈ kT) (h2 : Cond.static Lib.Math.max.name ∈ kT) (h3 : Cond.initialized "java/lang/Math" ∈ kT) (h4 : Cond.code Lib.Math.max.name Lib.Math.max.code 2 (some .int) ∈ kT) (hll : ls.length = nL) (hf : 1 ≤ f) (hn : ((rest.map (k_cv rAd)).map fun v => v.category).sum + 13 ≤ n) (hc : nn.1 ≤ mc0 ∧ nn.2 ≤ ms0)
    (kk : Wk (rWd D A) A rAd x nn Q (pc + 3) ls (.inl (if u < v then v else u) :: rest) ws) : Wk (rWd D A) A rAd x nn Q pc ls (.inl v :: .inl u :: rest) ws := fun H locs la hw hS hl =>
  va_mmax X.1.1 X.1.2.1 (X.2.2.2.2.1.trans (hll.symm.trans hl.1.symm)) X.1.2.2.1 (X.1.ts _ h1) (X.1.ts _ h2) (X.1.ts _ h3) (X.1.ts _ h4) (by rw [X.2.2.2.1]; exact hf) (by rw [X.2.2.2.1]; exact hn) (by rw [X.2.2.2.1]; exact hc.1) (by rw [X.2.2.2.1]; exact hc.2) hd (kk H locs la hw hS hl)
theorem r_min (X : rIn l D dA cc own nL f n mc0 ms0 sz x) {idx : Nat} {u v : Int32} (hd : decode cc pc = .ok (.invokestatic idx, 3)) (h1 : Cond.methodLink own idx Lib.Math.min.name ∈ kT) (h2 : Cond.static Lib.Math.min.name ∈ kT) (h3 : Cond.initialized "java/lang/Math" ∈ kT) (h4 : Cond.code Lib.Math.min.name Lib.Math.min.code 2 (some .int) ∈ kT) (hll : ls.length = nL) (hf : 1 ≤ f) (hn : ((rest.map (k_cv rAd)).map fun v => v.category).sum + 13 ≤ n) (hc : nn.1 ≤ mc0 ∧ nn.2 ≤ ms0)
    (kk : Wk (rWd D A) A rAd x nn Q (pc + 3) ls (.inl (if v < u then v else u) :: rest) ws) : Wk (rWd D A) A rAd x nn Q pc ls (.inl v :: .inl u :: rest) ws := fun H locs la hw hS hl =>
  va_mmin X.1.1 X.1.2.1 (X.2.2.2.2.1.trans (hll.symm.trans hl.1.symm)) X.1.2.2.1 (X.1.ts _ h1) (X.1.ts _ h2) (X.1.ts _ h3) (X.1.ts _ h4) (by rw [X.2.2.2.1]; exact hf) (by rw [X.2.2.2.1]; exact hn) (by rw [X.2.2.2.1]; exact hc.1) (by rw [X.2.2.2.1]; exact hc.2) hd (kk H locs la hw hS hl)
end RS
