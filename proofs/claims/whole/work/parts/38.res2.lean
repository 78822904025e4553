/-! resolve's loops, the ring, and what the contracts of resolve ask -/
def Rg (g h : kG) : Prop := ∃ rs rl : Nat, g.1 0 0 8 = nI rs ∧ g.1 0 0 9 = nI rl ∧ h.1 0 0 26 = nI rl ∧ rs + rl ≤ 13 ∧ rl ≤ 12 ∧ ∀ k, k < rl → h.1 24 0 k = g.1 4 0 (rs + k)
def K (tm : Nat) (g h : kG) : Prop := ∃ nf na nm : Nat, Rl nf na nm tm g h ∧ rE g ∧ Rg g h
theorem mTr_ok : ∀ n k c (h : kG), h.1 0 0 26 = nI c → c + n ≤ 12 → (mTr n k h).1 0 0 26 = nI (c + n) ∧ (∀ j, j < c → (mTr n k h).1 24 0 j = h.1 24 0 j) ∧ (∀ j, j < n → (mTr n k h).1 24 0 (c + j) = h.1 25 0 (k + j))
  | 0, k, c, h, hc, _ => ⟨hc, fun _ _ => rfl, fun j hj => absurd hj (Nat.not_lt_zero _)⟩
  | n + 1, k, c, h, hc, hn => by
    unfold mTr
    rw [hc, tn_nI (by omega), nI_1]
    obtain ⟨i1, i2, i3⟩ := mTr_ok n (k + 1) (c + 1) (kU (kU h.1 24 0 c (h.1 25 0 k)) 0 0 26 (nI (c + 1)), h.2) rfl (by omega)
    refine ⟨by rw [i1, show c + 1 + n = c + (n + 1) by omega], fun j hj => ?_, fun j hj => ?_⟩
    · rw [i2 j (by omega)]
      exact show kU h.1 24 0 c (h.1 25 0 k) 24 0 j = _ from kU_n (by omega)
    · by_cases e : j = 0
      · subst e
        rw [Nat.add_zero c, Nat.add_zero k, i2 c (by omega)]
        exact show kU h.1 24 0 c (h.1 25 0 k) 24 0 c = _ from kU_s ..
      · have := i3 (j - 1) (by omega)
        rw [show c + 1 + (j - 1) = c + j by omega, show k + 1 + (j - 1) = k + j by omega] at this
        exact this
section R2
variable {nf na nm tm : Nat} {g h : kG}
theorem mTr_R : ∀ n k (h : kG), Rl nf na nm tm g h → Rl nf na nm tm g (mTr n k h)
  | 0, _, _, R => R
  | n + 1, k, h, R => mTr_R n (k + 1) _ (U_rgh R _ _ _)
def EndP (nf na nm tm : Nat) (x y : Int32 × kG) : Prop := x.1 = y.1 ∧ Rl nf na nm tm x.2 y.2 ∧ rE x.2 ∧ Rg x.2 y.2
theorem rs_ok : ∀ N n e (g h : kG), Pj nf na nm tm n e g h → n ≤ N → EndP nf na nm tm (xRs N e g) (mRs n e h)
  | N, 0, e, g, h, P, _ => absurd P.2.2.2.2.2.2 (Nat.not_lt_zero _)
  | 0, n + 1, e, g, h, P, hn => by omega
  | N + 1, n + 1, e, g, h, P, hn => by
    obtain ⟨he, a, ha, ga, ma, Q, st1, st2⟩ := step_ok P
    obtain ⟨R, E, q1, q2, ⟨rs, hrs, q3⟩, W, hm⟩ := P
    unfold xRs mRs
    rw [ga, ma]
    have e13 : ¬ 13 ≤ nI (e + 1) := nI_ge (a := e + 1) (b := 13) (by omega) (by decide)
    rw [if_neg e13, ← Q.1]
    have ended : EndP nf na nm tm (xRun g (nI a)) (mRun h (nI a)) := ⟨Q.1, Q.2.1, Q.2.2.1, rs, 0, (Q.2.2.2.1.1 0 0 8 (by omega)).trans q3, (Q.2.2.2.1.1 0 0 9 (by omega)).trans q1, (Q.2.2.2.2.1 0 26 (by omega)).trans q2, by omega, by omega, fun k hk => absurd hk (Nat.not_lt_zero _)⟩
    by_cases z : (xRun g (nI a)).1 = 0
    · rw [if_neg (fun q => (aw_iff ha ga Q).mp q z), if_pos z]
      rcases (st1 z).2.2 with ⟨i, hi, e1, e2⟩ | ⟨e1, e2, e3⟩
      · rw [e2, e1, if_neg (show ¬ (1 : Int32) = 0 by decide), if_neg (nI_ge (by omega) (by omega))]
        have T := mTr_ok (e + 1 - i) i 0 (mRun h (nI a)).2 ((Q.2.2.2.2.1 0 26 (by omega)).trans q2) (by omega)
        have RR := mTr_R (e + 1 - i) i _ (U_rg Q.2.1 (nI i) (nI (e + 1) - nI i))
        refine ⟨rfl, RR, Q.2.2.1, i, e + 1 - i, rfl, ?_, ?_, by omega, by omega, fun k hk => ?_⟩
        · show nI (e + 1) - nI i = _
          rw [pk_sub (by omega)]
        · rw [T.1, Nat.zero_add]
        · have t := T.2.2 k hk
          rw [Nat.zero_add] at t
          rw [t]
          show (mRun h (nI a)).2.1 25 0 (i + k) = (xRun g (nI a)).2.1 4 0 (i + k)
          obtain ⟨w, w1, w2⟩ := W
          rw [Q.2.2.2.2.1 25 (i + k) (by omega), Q.2.2.2.1.1 4 0 (i + k) (by omega), (w1 (i + k) (by omega)).1, (w1 (i + k) (by omega)).2.1]
      · rw [if_pos e2, e1, if_pos (nI_le (Nat.le_refl _) (by omega))]
        exact rs_ok N n (e + 1) _ _ e3 (by omega)
    · rw [if_pos ((aw_iff ha ga Q).mpr z), if_neg z]
      by_cases e0 : e = 0
      · subst e0
        rw [if_pos (show nI (0 + 1) = 1 from rfl), if_pos (show nI (0 + 1) = 1 from rfl)]
        exact ended
      · have e1 : ¬ nI (e + 1) = 1 := fun q => by
          have := nI_inj (a := e + 1) (b := 1) (by omega) (by decide) q
          omega
        rw [if_neg e1, if_neg e1]
        by_cases z1 : (xRun g (nI a)).1 = -1
        · rw [if_pos z1, if_pos z1]
          exact ended
        · rw [if_neg z1, if_neg z1]
          by_cases z2 : (xRun g (nI a)).1 = -2
          · rw [if_pos z2, if_pos z2]
            exact ended
          · rw [if_neg z2, if_neg z2]
            exact rs_ok N n (e - 1) _ _ (st2 (by omega) z z1 z2) (by omega)
theorem xIn_nI {v : Int32} {n : Nat} (hn : n < 2 ^ 30) (h : ¬ xIn v (nI n) = 0) : ∃ a, a < n ∧ v = nI a := vp_in_of (in_x (w := nI n) (kN_of (Nat.le_refl n) (by omega)) hn h |> fun q => by
  exact q) (by omega)
/-- resolve's beginning -/
theorem res_0 (R : Rl nf na nm tm g h) (E : rE g) (G : Rg g h) {a : Nat} (ha : a < na) : Pj nf na nm tm 241 0 (kU (kU g.1 0 0 9 0) 4 0 0 (nI a), g.2) (kU (kU (m0 h).1 0 0 26 0) 25 0 0 (nI a), h.2) := by
  obtain ⟨rs, rl, g1, g2, g3, g4, g5, g6⟩ := G
  have RR := U_wayh (U_26 (U_m0 (U_way (U_rl R 0) 0 (nI a))) 0) 0 (nI a)
  refine ⟨RR, E, rfl, rfl, ⟨rs, by omega, g1⟩, ⟨fun _ => a, fun k hk => ?_, fun i j hi hj _ => by omega⟩, ?_⟩
  · have : k = 0 := by omega
    subst this
    exact ⟨rfl, rfl, ha⟩
  · have := mes_bd (kU (kU g.1 0 0 9 0) 4 0 0 (nI a), g.2) 12
    omega
theorem resolve_ok (k : K tm g h) (n : Int32) : (xResolve g n).1 = (mResolve 241 h n).1 ∧ K tm (xResolve g n).2 (mResolve 241 h n).2 := by
  obtain ⟨nf, na, nm, R, E, G⟩ := k
  have h12 : na ≤ 12 := R.c1.2.1
  unfold xResolve mResolve
  rw [R.c3.1, R.c3.2]
  by_cases z : xIn n (nI na) = 0
  · rw [if_pos z, if_pos z]
    exact ⟨rfl, nf, na, nm, U_m0 R, E, G⟩
  · rw [if_neg z, if_neg z]
    obtain ⟨a, ha, rfl⟩ := xIn_nI (by omega) z
    obtain ⟨e1, e2, e3, e4⟩ := rs_ok 10000 241 0 _ _ (res_0 R E G ha) (by omega)
    exact ⟨e1, nf, na, nm, e2, e3, e4⟩
theorem cx_resolve (l : Launch) (b : Nat → Nat → Nat) (dA : Nat → ClassId) (D : va_G) (k : K tm g h) (n : Int32) : kMd (sysX b dA D) l y_X_resolve b_X_resolve 7 (some .int) 6 145 [.inr (.inr (0, 0)), .inl n] g (some (.inl (xResolve g n).1)) (xResolve g n).2 := by
  obtain ⟨nf, na, nm, R, E, G⟩ := k
  have h12 : na ≤ 12 := R.c1.2.1
  refine c_X_resolve l b dA D g n (fun e g => ∃ n h, Pj nf na nm tm (n + 1) e g h) ?_ ?_ ?_ ?_
  · rintro e g ⟨n, h, P⟩
    obtain ⟨he, a, ha, ga, ma, Q, st1, st2⟩ := step_ok P
    obtain ⟨rs, hrs, q3⟩ := P.2.2.2.2.1
    exact ⟨P.1.xI ⟨rs, 0, q3, P.2.2.1, by omega⟩, he, vin (by omega) (by decide) ga, by rw [ga]; exact kNof Q.2.1.c1.1 (by decide) Q.2.1.c2.1⟩
  · rintro e g ⟨n, h, P⟩ q z2
    obtain ⟨he, a, ha, ga, ma, Q, st1, st2⟩ := step_ok P
    rw [ga] at q
    have z : (xRun g (nI a)).1 = 0 := Decidable.byContradiction (fun y => q ((aw_iff ha ga Q).mpr y))
    rcases (st1 z).2.2 with ⟨i, hi, e1, e2⟩ | ⟨e1, e2, e3⟩
    · rw [e2] at z2
      exact absurd z2 (show ¬ (1 : Int32) = 0 by decide)
    · cases n with
      | zero => exact absurd e3.2.2.2.2.2.2 (Nat.not_lt_zero _)
      | succ n => exact ⟨n, _, e3⟩
  · rintro e g ⟨n, h, P⟩ he z0 z1 z2
    obtain ⟨_, a, ha, ga, ma, Q, st1, st2⟩ := step_ok P
    rw [ga] at z0 z1 z2 ⊢
    have e3 := st2 he ((aw_iff ha ga Q).mp z0) z1 z2
    cases n with
    | zero => exact absurd e3.2.2.2.2.2.2 (Nat.not_lt_zero _)
    | succ n => exact ⟨n, _, e3⟩
  · intro z
    rw [R.c3.1] at z
    obtain ⟨a, ha, rfl⟩ := xIn_nI (by omega) z
    exact ⟨240, _, res_0 R E G ha⟩
theorem cm_resolve (l : Launch) (b : Nat → Nat → Nat) (dA : Nat → ClassId) (D : va_G) (k : K tm g h) (n : Int32) : kMd (sysM b dA D) l y_M_resolve b_M_resolve 7 (some .int) 4 96 [.inr (.inr (0, 0)), .inl n] h (some (.inl (mResolve 241 h n).1)) (mResolve 241 h n).2 := by
  obtain ⟨nf, na, nm, R, E, G⟩ := k
  have h12 : na ≤ 12 := R.c1.2.1
  refine c_M_resolve l b dA D h n (fun n e h => ∃ g, Pj nf na nm tm n e g h) ?_ ?_ ?_ ?_ 241 ?_
  · rintro e h ⟨g, P⟩
    exact absurd P.2.2.2.2.2.2 (Nat.not_lt_zero _)
  · rintro n e h ⟨g, P⟩
    cases n with
    | zero => exact absurd P.2.2.2.2.2.2 (Nat.not_lt_zero _)
    | succ n =>
      obtain ⟨he, a, ha, ga, ma, Q, st1, st2⟩ := step_ok P
      exact ⟨P.1.mJ (kNof (Nat.zero_le _) (by decide) P.2.2.2.1), he, vin (by omega) (by decide) ma⟩
  · rintro n e h ⟨g, P⟩ z
    obtain ⟨he, a, ha, ga, ma, Q, st1, st2⟩ := step_ok P
    rw [ma, ← Q.1] at z
    refine ⟨(st1 z).2.1, ?_, fun z2 => ?_⟩
    · rw [ma, Q.2.2.2.2.1 0 26 (by omega)]
      exact P.2.2.2.1
    · rcases (st1 z).2.2 with ⟨i, hi, e1, e2⟩ | ⟨e1, e2, e3⟩
      · rw [e1] at z2
        exact absurd z2 (nI_ge (by omega) (by omega))
      · have := e3.2.2.2.2.2.1.e
        exact ⟨by omega, _, e3⟩
  · rintro n e h ⟨g, P⟩ he z0 z1 z2
    obtain ⟨_, a, ha, ga, ma, Q, st1, st2⟩ := step_ok P
    rw [ma, ← Q.1] at z0 z1 z2
    rw [ma]
    exact ⟨_, st2 he z0 z1 z2⟩
  · intro z
    rw [R.c3.2] at z
    obtain ⟨a, ha, rfl⟩ := xIn_nI (by omega) z
    exact ⟨_, res_0 R E G ha⟩
end R2
