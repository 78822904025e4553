/-! the law: its loop, and its start (by program: wip/gen/law.py) -/
theorem nw_L_7 : kNw "DynamicNeedsLaw" 7 4 10 [.int 0, .null, .null, .null, .int 0, .int 0, .int 0, .null, .int 0, .int 0] := ⟨R_X, T_X, t_X, rfl, fun w h => kT_in (i_X w h), t_X_ok, kT_in (by decide +kernel), kT_in (by decide +kernel), kT_in (by decide +kernel), by decide +kernel⟩
theorem nw_L_18 : kNw "DynamicNeedsLaw" 18 5 34 [.int 0, .int 0, .int 0, .int 0, .int 0, .null, .null, .null, .null, .null, .null, .null, .null, .null, .null, .null, .null, .null, .null, .null, .null, .null, .null, .null, .null, .null, .int 0, .null, .null, .null, .null, .null, .long 0, .long 0] := ⟨R_M, T_M, t_M, rfl, fun w h => kT_in (i_M w h), t_M_ok, kT_in (by decide +kernel), kT_in (by decide +kernel), kT_in (by decide +kernel), by decide +kernel⟩
theorem kc_X_init : Cond.code y_X_init b_X_init 3 none ∈ kT := kT_in ⟨List.mem_of_getElem? (i := 38) (by decide +kernel), by decide +kernel⟩
theorem ki_X_init : Cond.instanceMethod y_X_init ∈ kT := kT_in (by decide +kernel)
theorem kn_X_init : Cond.initialized y_X_init.cls ∈ kT := kT_in (by decide +kernel)
theorem dd_X_init : y_X_init.cls ≠ "java/lang/invoke/MethodHandle" ∧ y_X_init.cls ≠ "java/lang/invoke/VarHandle" ∧ (parseMethodDescriptor y_X_init.desc).map (fun d => d.parameters.length) = some 1 := by decide +kernel
theorem kl_X_init : Cond.methodLink R_law 15 y_X_init ∈ kT := kT_in (by decide +kernel)
theorem kc_M_init : Cond.code y_M_init b_M_init 2 none ∈ kT := kT_in ⟨List.mem_of_getElem? (i := 420) (by decide +kernel), by decide +kernel⟩
theorem ki_M_init : Cond.instanceMethod y_M_init ∈ kT := kT_in (by decide +kernel)
theorem kn_M_init : Cond.initialized y_M_init.cls ∈ kT := kT_in (by decide +kernel)
theorem dd_M_init : y_M_init.cls ≠ "java/lang/invoke/MethodHandle" ∧ y_M_init.cls ≠ "java/lang/invoke/VarHandle" ∧ (parseMethodDescriptor y_M_init.desc).map (fun d => d.parameters.length) = some 1 := by decide +kernel
theorem kl_M_init : Cond.methodLink R_law 20 y_M_init ∈ kT := kT_in (by decide +kernel)
theorem arr_of {args : Array Value} {s : State} {ty : FieldType} (h : (Cond.arrayClass ty).before args s = true) : ∃ cA : ClassId, ArrOfT s cA ty ∧ s.vm.findClass ("[" ++ ty.toString) = some cA := by
  obtain ⟨c, k, comp, h1, h2, h3⟩ := Cond.arrayClass_spec h
  exact ⟨c, fun n z => ⟨fun k h => (by cases h), k, h2, comp, h3⟩, h1⟩
theorem arr_ofO {args : Array Value} {s : State} {C : String} (h : (Cond.arrayOver (.object C)).before args s = true) : ∃ cA : ClassId, ArrOfT s cA (.object C) ∧ va_RA s cA (.object C) := by
  obtain ⟨comp, c, k, h1, h2, h3, h4, h5⟩ := Cond.arrayOver_spec h
  exact ⟨c, fun n z => ⟨fun k h => (by cases h), k, h3, comp, h4⟩, k, comp, h3, h4, h1, h5⟩
set_option maxHeartbeats 4000000 in
theorem law_loop {l : Launch} {bx bm : Nat → Nat → Nat} {dA : Nat → ClassId} {D : va_G} {b L : Nat} {xs : Nat → Int32} {p : Program} {e : Env} {s : State} {m : MethodId} {below : List Frame} {meth : Method} {c : Code} {nn : Nat × Nat} {tm : Nat} (X : lIn l bx bm dA D b L xs (p, l, e, room_1, s, m, #[Value.ref b], below, meth, c)) (hr : meth.sig.returnType = ret) (hlocks : meth.locks = false) (hL : L ≤ 2561) (hn : nn.1 ≤ 600000 ∧ nn.2 ≤ 7302250) : ∀ (n i : Nat) (g h : kG), L + 6 ≤ i + n → i ≤ L + 5 → K tm g h → Wk (lWd bx bm dA D) (lA (p, l, e, room_1, s, m, #[Value.ref b], below, meth, c)) (lAd bx bm b) (p, l, e, room_1, s, m, #[Value.ref b], below, meth, c) nn (lw_Z below #[Value.ref b] s) 28 (lLs i) [] (g, h) := by
  have C := X.1
  have hX := X.2.2.2.2.2.2.1
  have hbl := X.2.2.2.2.2.2.2.1
  have hbA : ¬ lA (p, l, e, room_1, s, m, #[Value.ref b], below, meth, c) b := Nat.not_le.mpr hbl
  intro n
  induction n with
  | zero => intro i g h h1 h2; omega
  | succ n ih =>
    intro i g h h1 h2 kk
    refine k_iload_n C d_L_law_28 rfl rfl ?_
    refine k_aload_n C d_L_law_29 rfl rfl ?_
    refine k_slen C hX hbl hbA rfl d_L_law_30 ?_
    refine k_iconst C (v := 5) d_L_law_31 (by decide) ?_
    refine k_isub C d_L_law_32 ?_
    refine k_icmp_gt C (tgt := 756) d_L_law_33 (by decide) (fun c1 => ?_) (fun c1 => ?_)
    · refine k_iconst C (v := 1) d_L_law_756 (by decide) ?_
      intro H locs la hw hS hl
      exact va_forget (fun q hq => hS.2.2 q hq) (W.widen hn.1 hn.2 (lw_ret C.1 C.2.1 hr hlocks d_L_law_757))
    · have hi : i + 5 ≤ L := by
        rcases Nat.lt_or_ge L (i + 5) with q | q
        · exfalso
          apply c1
          rw [Int32.lt_iff_toInt_lt, show (nI L - 5).toInt = (L : Int) - 5 from pk_sub_toInt (a := L) (b := 5) (by omega) (by decide), nI_toInt (by omega)]
          omega
        · exact q
      have K9 : ∀ g2 h2, K tm g2 h2 → Wk (lWd bx bm dA D) (lA (p, l, e, room_1, s, m, #[Value.ref b], below, meth, c)) (lAd bx bm b) (p, l, e, room_1, s, m, #[Value.ref b], below, meth, c) nn (lw_Z below #[Value.ref b] s) 750 (lLs i) [] (g2, h2) := by
        intro g2 h2 k2
        refine k_iinc C (v := nI i) (w := nI (i + 5)) d_L_law_750 rfl (show nI i + Int32.ofInt 5 = nI (i + 5) from nI_add i 5) rfl ?_
        refine k_goto C (tgt := 28) d_L_law_753 (by decide) ?_
        exact ih (i + 5) g2 h2 (by omega) (by omega) k2
      refine k_aload_n C d_L_law_36 rfl rfl ?_
      refine k_iload_n C d_L_law_37 rfl rfl ?_
      refine k_sld C hX hbl hbA rfl d_L_law_38 (q := i) rfl (by omega) (by omega) ?_
      refine k_bipush C (v := 31) d_L_law_39 (by decide) ?_
      refine k_iand C d_L_law_41 ?_
      refine k_topi (fun v ev => ?_)
      by_cases z : v.toInt < 0 ∨ 17 < v.toInt
      · exact k_tabOut C (tgt := 750) d_L_law_42 z (by decide) (K9 g h kk)
      · rcases (show v.toInt = 0 ∨ v.toInt = 1 ∨ v.toInt = 2 ∨ v.toInt = 3 ∨ v.toInt = 4 ∨ v.toInt = 5 ∨ v.toInt = 6 ∨ v.toInt = 7 ∨ v.toInt = 8 ∨ v.toInt = 9 ∨ v.toInt = 10 ∨ v.toInt = 11 ∨ v.toInt = 12 ∨ v.toInt = 13 ∨ v.toInt = 14 ∨ v.toInt = 15 ∨ v.toInt = 16 ∨ v.toInt = 17 by omega) with z0 | z0 | z0 | z0 | z0 | z0 | z0 | z0 | z0 | z0 | z0 | z0 | z0 | z0 | z0 | z0 | z0 | z0
        · exact k_tabIn C (tgt := 128) (off := 86) d_L_law_42 (by omega) (by omega) (by rw [z0]; rfl) (by decide) (law_c0 X hn hL hi kk K9)
        · exact k_tabIn C (tgt := 181) (off := 139) d_L_law_42 (by omega) (by omega) (by rw [z0]; rfl) (by decide) (law_c1 X hn hL hi kk K9)
        · exact k_tabIn C (tgt := 270) (off := 228) d_L_law_42 (by omega) (by omega) (by rw [z0]; rfl) (by decide) (law_c2 X hn hL hi kk K9)
        · exact k_tabIn C (tgt := 293) (off := 251) d_L_law_42 (by omega) (by omega) (by rw [z0]; rfl) (by decide) (law_c3 X hn hL hi kk K9)
        · exact k_tabIn C (tgt := 326) (off := 284) d_L_law_42 (by omega) (by omega) (by rw [z0]; rfl) (by decide) (law_c4 X hn hL hi kk K9)
        · exact k_tabIn C (tgt := 369) (off := 327) d_L_law_42 (by omega) (by omega) (by rw [z0]; rfl) (by decide) (law_c5 X hn hL hi kk K9)
        · exact k_tabIn C (tgt := 392) (off := 350) d_L_law_42 (by omega) (by omega) (by rw [z0]; rfl) (by decide) (law_c6 X hn hL hi kk K9)
        · exact k_tabIn C (tgt := 415) (off := 373) d_L_law_42 (by omega) (by omega) (by rw [z0]; rfl) (by decide) (law_c7 X hn hL hi kk K9)
        · exact k_tabIn C (tgt := 438) (off := 396) d_L_law_42 (by omega) (by omega) (by rw [z0]; rfl) (by decide) (law_c8 X hn hL hi kk K9)
        · exact k_tabIn C (tgt := 461) (off := 419) d_L_law_42 (by omega) (by omega) (by rw [z0]; rfl) (by decide) (law_c9 X hn hL hi kk K9)
        · exact k_tabIn C (tgt := 484) (off := 442) d_L_law_42 (by omega) (by omega) (by rw [z0]; rfl) (by decide) (law_c10 X hn hL hi kk K9)
        · exact k_tabIn C (tgt := 527) (off := 485) d_L_law_42 (by omega) (by omega) (by rw [z0]; rfl) (by decide) (law_c11 X hn hL hi kk K9)
        · exact k_tabIn C (tgt := 550) (off := 508) d_L_law_42 (by omega) (by omega) (by rw [z0]; rfl) (by decide) (law_c12 X hn hL hi kk K9)
        · exact k_tabIn C (tgt := 574) (off := 532) d_L_law_42 (by omega) (by omega) (by rw [z0]; rfl) (by decide) (law_c13 X hn hL hi kk K9)
        · exact k_tabIn C (tgt := 607) (off := 565) d_L_law_42 (by omega) (by omega) (by rw [z0]; rfl) (by decide) (law_c14 X hn hL hi kk K9)
        · exact k_tabIn C (tgt := 630) (off := 588) d_L_law_42 (by omega) (by omega) (by rw [z0]; rfl) (by decide) (law_c15 X hn hL hi kk K9)
        · exact k_tabIn C (tgt := 693) (off := 651) d_L_law_42 (by omega) (by omega) (by rw [z0]; rfl) (by decide) (law_c16 X hn hL hi kk K9)
        · exact k_tabIn C (tgt := 716) (off := 674) d_L_law_42 (by omega) (by omega) (by rw [z0]; rfl) (by decide) (law_c17 X hn hL hi kk K9)
set_option maxHeartbeats 4000000 in
set_option maxRecDepth 100000 in
theorem whole_start {p : Program} {e : Env} {s : State} {m : MethodId} {below : List Frame} {meth : Method} {c : Code} (l : Launch) {b L : Nat} {xs : Nat → Int32} (hL : L ≤ 2561) (C0 : lw_At p s m meth c b L xs) : W p l e room_1 s m #[Value.ref b] below meth c s.heap [] 0 0 (lw_Z below #[Value.ref b] s) (entryFrame m ([Value.ref b] : List Value).toArray 4) := by
  obtain ⟨hx, hb, hr, hml, hown, hts, hX, hbl, hlocks, hgv⟩ := id C0
  have hA : ∀ q : Nat, s.heap.size ≤ q → (fun q : Nat => s.heap.size ≤ q) q := fun _ h => h
  have hbA : ¬ (fun q : Nat => s.heap.size ≤ q) b := Nat.not_le.mpr hbl
  obtain ⟨c0, i0, hK0⟩ := u_known (C := R_A) (T := T_A) (N := 13) (n := 13) hts (fun w h => (i_A w h).1) (hts (.instantiable R_A 13) (by decide +kernel))
  obtain ⟨c1, i1, hK1⟩ := u_known (C := R_F) (T := T_F) (N := 3) (n := 3) hts (fun w h => (i_F w h).1) (hts (.instantiable R_F 3) (by decide +kernel))
  obtain ⟨c2, i2, hK2⟩ := u_known (C := R_G) (T := T_G) (N := 4) (n := 4) hts (fun w h => (i_G w h).1) (hts (.instantiable R_G 4) (by decide +kernel))
  obtain ⟨c3, i3, hK3⟩ := u_known (C := R_N) (T := T_N) (N := 5) (n := 5) hts (fun w h => (i_N w h).1) (hts (.instantiable R_N 5) (by decide +kernel))
  obtain ⟨c4, i4, hK4⟩ := u_known (C := R_X) (T := T_X) (N := 10) (n := 10) hts (fun w h => (i_X w h).1) (hts (.instantiable R_X 10) (by decide +kernel))
  obtain ⟨c5, i5, hK5⟩ := u_known (C := R_M) (T := T_M) (N := 34) (n := 34) hts (fun w h => (i_M w h).1) (hts (.instantiable R_M 34) (by decide +kernel))
  obtain ⟨dC, dI, hKc⟩ : ∃ (dC : Nat → ClassId) (dI : Nat → Nat → Nat), ∀ (k : Nat) (q : vw_C), kCl[k]? = some q → u_Kn s q.1 q.2.1 q.2.2 (dC k) (dI k) := by
    refine ⟨fun k => match k with | 0 => c0 | 1 => c1 | 2 => c2 | 3 => c3 | 4 => c4 | _ => c5, fun k => match k with | 0 => i0 | 1 => i1 | 2 => i2 | 3 => i3 | 4 => i4 | _ => i5, ?_⟩
    intro k q hq
    match k, hq with
    | 0, hq => cases hq; exact hK0
    | 1, hq => cases hq; exact hK1
    | 2, hq => cases hq; exact hK2
    | 3, hq => cases hq; exact hK3
    | 4, hq => cases hq; exact hK4
    | 5, hq => cases hq; exact hK5
    | k + 6, hq => simp [kCl] at hq
  obtain ⟨aI, hI1, hI2⟩ := arr_of (hts (.arrayClass .int) (by decide +kernel))
  obtain ⟨aZ, hZ1, hZ2⟩ := arr_of (hts (.arrayClass .boolean) (by decide +kernel))
  obtain ⟨aJ, hJ1, hJ2⟩ := arr_of (hts (.arrayClass .long) (by decide +kernel))
  have oF : (Cond.arrayOver (.object "DynamicNeeds$FileState")).before #[Value.ref b] s = true := hts _ (by decide +kernel)
  have oA : (Cond.arrayOver (.object "DynamicNeeds$Action")).before #[Value.ref b] s = true := hts _ (by decide +kernel)
  have oG : (Cond.arrayOver (.object "DynamicNeeds$Mapping")).before #[Value.ref b] s = true := hts _ (by decide +kernel)
  obtain ⟨aF, hF1, hF2⟩ := arr_ofO oF
  obtain ⟨aA, hA1, hA2⟩ := arr_ofO oA
  obtain ⟨aG', hG1, hG2⟩ := arr_ofO oG
  obtain ⟨dA, hT⟩ : ∃ dA : Nat → ClassId, ∀ (k : Nat) (q : ClassId × FieldType), (kTys dA)[k]? = some q → ArrOfT s q.1 q.2 ∧ va_RA s q.1 q.2 := by
    refine ⟨fun k => match k with | 0 => aI | 1 => aZ | 2 => aJ | 3 => aF | 4 => aA | _ => aG', ?_⟩
    intro k q hq
    match k, hq with
    | 0, hq => cases hq; exact ⟨hI1, hI2⟩
    | 1, hq => cases hq; exact ⟨hZ1, hZ2⟩
    | 2, hq => cases hq; exact ⟨hJ1, hJ2⟩
    | 3, hq => cases hq; exact ⟨hF1, hF2⟩
    | 4, hq => cases hq; exact ⟨hA1, hA2⟩
    | 5, hq => cases hq; exact ⟨hG1, hG2⟩
    | k + 6, hq => simp [kTys] at hq
  have hK : va_K (dC, dI) kCl (kTys dA) s := ⟨hKc, hT⟩
  have hRK : rK (dC, dI) dA s := ⟨hK, va_Nw.of rfl (hts nX_F (by decide +kernel)), va_Nw.of rfl (hts nX_A (by decide +kernel)), va_Nw.of rfl (hts nX_G (by decide +kernel)), va_Nw.of rfl (hts nA_N (by decide +kernel)), va_AO.of oF, va_AO.of oA, va_AO.of oG⟩
  have hNest : va_Nw kNest s := va_Nw.of rfl (hts kNest (by decide +kernel))
  have C : kOk (p, l, e, room_1, s, m, #[Value.ref b], below, meth, c) code R_law := ⟨hx, hb, hown, fun w h _ => hts w h⟩
  have hwd : ∀ (ws : va_W) (H H2 : Heap), rWd (dC, dI) (fun q => s.heap.size ≤ q) ws H → H.size ≤ H2.size → (∀ q : Nat, q < H.size → H2[q]? = H[q]?) → rWd (dC, dI) (fun q => s.heap.size ≤ q) ws H2 := fun ws H H2 hw _ hk => ⟨va_P.kept hw.1 (fun k q hq => hk q.1 (hw.1 k q hq).lt), hw.2⟩
  have main : Wk (rWd (dC, dI) (fun q => s.heap.size ≤ q)) (fun q => s.heap.size ≤ q) rAd (p, l, e, room_1, s, m, #[Value.ref b], below, meth, c) (0, 0) (lw_Z below #[Value.ref b] s) 0 [some (.inr (.inr (0, b))), none, none, none] [] [] := by
    refine r_new C hK hA d_L_law_0 nw_L_7 (Nat.le_of_ble_eq_true rfl) (Nat.le_of_ble_eq_true rfl) (fun q0 => ?_)
    refine k_dup C d_L_law_3 rfl ?_
    refine k_aload_n C d_L_law_4 rfl rfl ?_
    refine k_iconst C (v := 0) d_L_law_5 (by decide) ?_
    refine k_cell C rfl hml hL hX hbl hbA (hwd _) rfl d_L_law_6 rfl ⟨Nat.le_of_ble_eq_true rfl, Nat.le_of_ble_eq_true rfl⟩ (Nat.le_of_ble_eq_true rfl) ?_
    refine l_init (wr := []) C hRK rfl rfl hml d_L_law_9 (fun sz2 => c_X_init l (dC, dI) dA sz2 q0 (cellV L xs)) kl_X_init kc_X_init ki_X_init kn_X_init rfl dd_X_init ⟨by decide, by decide⟩ ⟨Nat.le_of_ble_eq_true rfl, Nat.le_of_ble_eq_true rfl⟩ rfl rfl (Nat.le_of_ble_eq_true rfl) (fun w1 hw1 => ?_)
    obtain ⟨q1, q2, q3, q4, LF, LA, LM, hF, hLA, hM, rfl⟩ := hw1
    refine k_astore_n C d_L_law_12 rfl (Nat.le_of_ble_eq_true rfl) rfl ?_
    refine r_new C hK hA d_L_law_13 nw_L_18 (Nat.le_of_ble_eq_true rfl) (Nat.le_of_ble_eq_true rfl) (fun p0 => ?_)
    refine k_dup C d_L_law_16 rfl ?_
    refine k_aload_n C d_L_law_17 rfl rfl ?_
    refine k_iconst C (v := 0) d_L_law_18 (by decide) ?_
    refine k_cell C rfl hml hL hX hbl hbA (hwd _) rfl d_L_law_19 rfl ⟨Nat.le_of_ble_eq_true rfl, Nat.le_of_ble_eq_true rfl⟩ (Nat.le_of_ble_eq_true rfl) ?_
    refine l_init C hRK rfl rfl hml d_L_law_22 (fun sz2 => c_M_init l (dC, dI) dA sz2 p0 (cellV L xs)) kl_M_init kc_M_init ki_M_init kn_M_init rfl dd_M_init ⟨by decide, by decide⟩ ⟨Nat.le_of_ble_eq_true rfl, Nat.le_of_ble_eq_true rfl⟩ rfl rfl (Nat.le_of_ble_eq_true rfl) (fun w1 hw1 => ?_)
    obtain ⟨p1, p2, p3, p4, p5, p6, p7, p8, p9, p10, p11, p12, p13, p14, p15, p16, p17, p18, p19, p20, p21, p22, p23, p24, p25, p26, hw1⟩ := hw1
    have hw1 : w1 = mWd dA (mTm (cellV L xs)) p0 p1 p2 p3 p4 p5 p6 p7 p8 p9 p10 p11 p12 p13 p14 p15 p16 p17 p18 p19 p20 p21 p22 p23 p24 p25 p26 := hw1
    subst hw1
    refine k_astore_n C d_L_law_25 rfl (Nat.le_of_ble_eq_true rfl) rfl ?_
    refine k_iconst C (v := 1) d_L_law_26 (by decide) ?_
    refine k_istore_n C d_L_law_27 rfl (Nat.le_of_ble_eq_true rfl) rfl ?_
    intro H locs la hw hS hl
    obtain ⟨t, t1, t9, ex, em⟩ := tm_of (cellV L xs)
    have k0 : K t (x0 (xTm (cellV L xs))) (h0m (mTm (cellV L xs))) := by rw [ex, em]; exact K_0 t1 t9
    have hW : rWd (dC, dI) (fun q => s.heap.size ≤ q) (xWd dA (xTm (cellV L xs)) q0 q1 q2 q3 q4 LF LA LM ++ mWd dA (mTm (cellV L xs)) p0 p1 p2 p3 p4 p5 p6 p7 p8 p9 p10 p11 p12 p13 p14 p15 p16 p17 p18 p19 p20 p21 p22 p23 p24 p25 p26) H := hw
    have xl : (xWd dA (xTm (cellV L xs)) q0 q1 q2 q3 q4 LF LA LM).length = 131 := xWd_len hF hLA hM
    have SX := sys_of (y := sysX (bX q0 q1 q2 q3 q4 LF LA LM) dA (dC, dI)) (g0 := x0 (xTm (cellV L xs))) iX (fun r hr => by
      obtain ⟨e, a1, a2⟩ := xw_at (dA := dA) (D := (dC, dI)) (T := xTm (cellV L xs)) (h0 := q0) (q1 := q1) (q2 := q2) (q3 := q3) (q4 := q4) hF hLA hM r hr
      exact ⟨e, by rw [List.getElem?_append_left (by rw [xl]; exact iX_lt r hr)]; exact a1, a2⟩) iX_inj hW.1 hW.2
    have SM := sys_of (y := sysM (bM p0 p1 p2 p3 p4 p5 p6 p7 p8 p9 p10 p11 p12 p13 p14 p15 p16 p17 p18 p19 p20 p21 p22 p23 p24 p25 p26) dA (dC, dI)) (g0 := h0m (mTm (cellV L xs))) (fun k i => 131 + iM k i) (fun r hr => by
      obtain ⟨e, a1, a2⟩ := mw_at (dA := dA) (D := (dC, dI)) (T := mTm (cellV L xs)) (h0 := p0) (q1 := p1) (q2 := p2) (q3 := p3) (q4 := p4) (q5 := p5) (q6 := p6) (q7 := p7) (q8 := p8) (q9 := p9) (q10 := p10) (q11 := p11) (q12 := p12) (q13 := p13) (q14 := p14) (q15 := p15) (q16 := p16) (q17 := p17) (q18 := p18) (q19 := p19) (q20 := p20) (q21 := p21) (q22 := p22) (q23 := p23) (q24 := p24) (q25 := p25) (q26 := p26) r hr
      exact ⟨e, by rw [List.getElem?_append_right (by rw [xl]; exact Nat.le_add_right _ _), xl, show 131 + iM r.1 r.2 - 131 = iM r.1 r.2 by omega]; exact a1, a2⟩) (fun r hr r' hr' q => iM_inj r hr r' hr' (by omega)) hW.1 hW.2
    have hX2 : lIn l (bX q0 q1 q2 q3 q4 LF LA LM) (bM p0 p1 p2 p3 p4 p5 p6 p7 p8 p9 p10 p11 p12 p13 p14 p15 p16 p17 p18 p19 p20 p21 p22 p23 p24 p25 p26) dA (dC, dI) b L xs (p, l, e, room_1, s, m, #[Value.ref b], below, meth, c) := ⟨C, ⟨hK, x_nodup, SX.2.1, hNest⟩, ⟨hK, m_nodup, SM.2.1, hNest⟩, rfl, rfl, hml, hX, hbl, fun q hq => (SX.2.2 q hq).1, fun q hq => (SM.2.2 q hq).1, fun q h1 h2 => by
      obtain ⟨-, r, hr, e1, a1⟩ := SX.2.2 q h1
      obtain ⟨-, r', hr', e2, a2⟩ := SM.2.2 q h2
      have q1 := hW.2.1 _ _ _ _ a1 a2 rfl
      have q2 := iX_lt r hr
      omega⟩
    exact law_loop hX2 hr hlocks hL ⟨Nat.le_of_ble_eq_true rfl, Nat.le_of_ble_eq_true rfl⟩ (L + 6) 1 _ _ (by omega) (by omega) k0 H locs la ⟨SX.1, SM.1⟩ hS hl
  rw [lg_entry_eq]
  exact main s.heap [] _ ⟨fun k q h => by simp at h, ⟨fun i j p q h => by simp at h, fun k q h => by simp at h⟩⟩ va_S.rf (lv_entry [.ref b] (n := 4) (Nat.le_of_ble_eq_true rfl))
