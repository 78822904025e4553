/-! resolve, on both sides -/
theorem pig : ∀ (n m : Nat) (w : Nat → Nat), (∀ i, i < m → w i < n) → (∀ i j, i < m → j < m → w i = w j → i = j) → m ≤ n
  | 0, m, w, h1, _ => by
    rcases Nat.eq_zero_or_pos m with e | e
    · omega
    · exact absurd (h1 0 e) (Nat.not_lt_zero _)
  | n + 1, 0, w, _, _ => Nat.zero_le _
  | n + 1, m + 1, w, h1, h2 => by
    have k := pig n m (fun i => if w i = n then w m else w i) (fun i hi => by
      show (if w i = n then w m else w i) < n
      have a1 := h1 i (by omega)
      have a2 := h1 m (by omega)
      by_cases e : w i = n
      · rw [if_pos e]
        have : w m ≠ n := fun q => by
          have := h2 i m (by omega) (by omega) (e.trans q.symm)
          omega
        omega
      · rw [if_neg e]
        omega) (fun i j hi hj q => by
      have q2 : (if w i = n then w m else w i) = (if w j = n then w m else w j) := q
      by_cases e1 : w i = n <;> by_cases e2 : w j = n
      · exact h2 i j (by omega) (by omega) (e1.trans e2.symm)
      · rw [if_pos e1, if_neg e2] at q2
        have := h2 m j (by omega) (by omega) q2
        omega
      · rw [if_neg e1, if_pos e2] at q2
        have := h2 i m (by omega) (by omega) q2
        omega
      · rw [if_neg e1, if_neg e2] at q2
        exact h2 i j (by omega) (by omega) q2)
    omega
/-- where no row waits, what is waited for stays -/
theorem xLook_w (g : kG) (i : Nat) (rd num m : Int32) : (xLook g i rd num m).1 = 0 ∨ (xLook g i rd num m).2.1 6 i 9 = g.1 6 i 9 := by
  have e := xAdd_fr g i num (tn num) rd 6 i 9 (by decide)
  have e2 : (xLook2 (xAdd g i num (tn num) rd) i (tn num) rd).2.1 6 i 9 = g.1 6 i 9 := by
    unfold xLook2 xSum
    split
    · split
      · exact e
      · exact e
    · exact e
  unfold xLook
  split
  · exact Or.inr rfl
  · split
    · exact Or.inl rfl
    · split
      · exact Or.inr e2
      · split
        · exact Or.inr e
        · exact Or.inr e2
theorem xRows_w (i : Nat) (m : Int32) : ∀ (n q : Nat) (last : Int64) (g : kG), (xRows i m n q last g).1 = 0 ∨ (xRows i m n q last g).2.1 6 i 9 = g.1 6 i 9
  | 0, q, last, g => Or.inr rfl
  | n + 1, q, last, g => by
    have e1 := xLook_w g i 1 (g.1 8 i q) m
    have e0 := xLook_w g i 0 (g.1 8 i q) m
    have n10 : ¬ (1 : Int32) = 0 := by decide
    unfold xRows
    split
    · exact Or.inr rfl
    · split
      · split
        · exact xRows_w i m n _ _ _
        · exact xRows_w i m n _ _ _
      · split
        · split
          · next z => (try split) <;> exact (xRows_w i m n _ _ _).imp id (fun y => y.trans (e1.resolve_left (fun q => n10 (z.symm.trans q))))
          · exact e1
        · split
          · next z => (try split) <;> exact (xRows_w i m n _ _ _).imp id (fun y => y.trans (e0.resolve_left (fun q => n10 (z.symm.trans q))))
          · exact e0
theorem xKeep_w (g : kG) (i : Nat) (r : Int32) : (xKeep g i r).1 6 i 9 = g.1 6 i 9 := by
  unfold xKeep
  split
  · rfl
  · split
    · rfl
    · rfl
theorem xTry_w (g : kG) (i : Nat) (m : Int32) : (xTry g i m).1 = 0 ∨ (xTry g i m).2.1 6 i 9 = g.1 6 i 9 := by
  have e : (xGo (xTryA g i) i m).1 = 0 ∨ (xGo (xTryA g i) i m).2.1 6 i 9 = g.1 6 i 9 := xRows_w i m 13 0 0 ((xTryA g i).1, kUJ (xTryA g i).2 6 i 8 7)
  have b : ∀ (r : Int32) (g2 : kG), (xTryB r g2 i).1 = r ∧ (xTryB r g2 i).2.1 6 i 9 = g2.1 6 i 9 := by
    intro r g2
    unfold xTryB
    split
    · exact ⟨rfl, xKeep_w g2 i r⟩
    · split
      · exact ⟨rfl, xKeep_w g2 i r⟩
      · exact ⟨rfl, rfl⟩
  unfold xTry
  split
  · next z => exact Or.inl ((b _ _).1.trans z)
  · next z => exact Or.inr ((b _ _).2.trans (e.resolve_left z))
theorem xRun_w (g : kG) (n : Int32) : (xRun g n).1 = 0 ∨ (xRun g n).2.1 6 (tn n) 9 = -1 := by
  have k : kU g.1 6 (tn n) 9 (-1) 6 (tn n) 9 = -1 := kU_s ..
  unfold xRun
  split
  · split
    · exact (xTry_w (xW g (tn n)) (tn n) (xFresh g)).imp id (fun q => q.trans k)
    · exact Or.inr k
  · exact Or.inr k
theorem xIn_pos {a n : Nat} (hn : n < 2 ^ 30) (h : a < n) : ¬ xIn (nI a) (nI n) = 0 := by
  unfold xIn
  rw [if_neg (nI_pos (by omega)), if_neg (nI_ge h (by omega))]
  decide
theorem xIn_m1 (c : Int32) : xIn (-1) c = 0 := if_pos (by decide)
section RS
variable {nf na nm tm : Nat} {g h : kG}
/-- whom a waiting action waits for, and that no other waits -/
theorem aw_0 (R : Rl nf na nm tm g h) {a f b : Nat} (hf : f < nf) (y1 : g.1 6 a 9 = nI f) (y2 : g.1 5 f 2 = nI b) : xAw g a = nI b := by
  have h24 : nf ≤ 24 := R.c1.1
  unfold xAw
  rw [y1, R.c2.1, if_neg (xIn_pos (by omega) hf), tn_nI (by omega), y2]
theorem aw_iff {a e : Nat} {Y : Int32 × kG} (ha : a < na) (ga : g.1 4 0 e = nI a) (N : RnP nf na nm tm g h a (xRun g (nI a)) Y) : xIn (xMk g e) ((xRun g (nI a)).2.1 0 0 5) = 0 ↔ ¬ (xRun g (nI a)).1 = 0 := by
  have h12 : na ≤ 12 := N.2.1.c1.2.1
  unfold xMk
  rw [ga, N.2.1.c3.1, tn_nI (by omega)]
  constructor
  · intro q z
    obtain ⟨⟨f, b, hf, hb, y1, y2⟩, _⟩ := N.2.2.2.2.2.1 z
    rw [aw_0 N.2.1 hf y1 y2] at q
    exact xIn_pos (by omega) hb q
  · intro z
    have w : (xRun g (nI a)).2.1 6 a 9 = -1 := by
      have q := (xRun_w g (nI a)).resolve_left z
      rw [tn_nI (by omega)] at q
      exact q
    unfold xAw
    rw [w, if_pos (xIn_m1 _)]
    exact xIn_m1 _
theorem vin {v : Int32} {n f : Nat} (h : f < n) (hn : n < 2 ^ 31) (e : v = nI f) : vp_in v n := by rw [e]; exact vp_in_nI h hn
theorem kNof {v : Int32} {n f : Nat} (h : f ≤ n) (hn : n < 2 ^ 31) (e : v = nI f) : kN v n := by rw [e]; exact kN_of h hn
theorem Rl.xL (R : Rl nf na nm tm g h) {a : Nat} (ha : a < 12) : xL g a := by
  have h24 : nf ≤ 24 := R.c1.1
  refine ⟨fun f hf => (R.f3 f hf).1, (R.n1 a ha).2, (R.r1 a ha).2, fun k hk => ?_⟩
  rcases R.r3 a ha k hk with q | ⟨q, f, hf, e⟩
  · exact Or.inl q
  · exact Or.inr ⟨q, vin (by omega) (by decide) e⟩
theorem Rl.xI (R : Rl nf na nm tm g h) (hr : ∃ rs rl : Nat, g.1 0 0 8 = nI rs ∧ g.1 0 0 9 = nI rl ∧ rs + rl ≤ 13) : xI g := by
  have c := R.c1
  refine ⟨kNof c.1 (by decide) R.c2.1, kNof c.2.1 (by decide) R.c3.1, kNof c.2.2.1 (by decide) R.c4.1, fun a ha => ⟨R.xL ha, fun k hk => ?_⟩, fun m hm => ⟨(R.m2 m hm).2, ?_⟩, hr⟩
  · obtain ⟨f, hf, e⟩ := R.n7 a ha k hk
    exact vin (by omega) (by decide) e
  · obtain ⟨f, hf, e⟩ := (R.m1 m hm).2
    exact vin hf (by decide) e
theorem Rl.mI (R : Rl nf na nm tm g h) (hr : kN (h.1 0 0 26) 12) : mI h := by
  have c := R.c1
  refine ⟨kNof c.1 (by decide) R.c2.2, kNof c.2.1 (by decide) R.c3.2, kNof c.2.2.1 (by decide) R.c4.2, fun f hf => ?_, fun a ha => ⟨?_, ?_⟩, fun m hm => ⟨?_, ?_⟩, hr⟩
  · rw [R.f1 f hf]
    exact (R.f3 f hf).1
  · rw [(R.r1 a ha).1]
    exact (R.r1 a ha).2
  · rw [(R.n1 a ha).1]
    exact (R.n1 a ha).2
  · rw [(R.m2 m hm).1]
    exact (R.m2 m hm).2
  · rw [(R.m1 m hm).1]
    obtain ⟨f, hf, e⟩ := (R.m1 m hm).2
    exact vin hf (by decide) e
theorem Rl.mS (R : Rl nf na nm tm g h) : mS h := by
  have c := R.c1
  refine ⟨kNof c.2.1 (by decide) R.c3.2, fun a ha => ⟨?_, fun k hk => ?_⟩, fun f hf => ?_⟩
  · rw [(R.n1 a ha).1]
    exact (R.n1 a ha).2
  · rw [(R.n1 a ha).1] at hk
    have := (R.n1 a ha).2.2
    rw [R.n2 a ha k (by omega)]
    obtain ⟨f, hf, e⟩ := R.n7 a ha k hk
    exact vin (by omega) (by decide) e
  · rcases Nat.lt_or_ge f nf with q | q
    · rw [(R.f4 f q).1]
      rcases (R.f4 f q).2 with e | ⟨b, hb, e⟩
      · exact Or.inl e
      · exact Or.inr (vin (by omega) (by decide) e)
    · exact Or.inr (vin (f := 0) (by omega) (by decide) (R.f5 f hf q).1)
theorem Rl.mJ (R : Rl nf na nm tm g h) (hr : kN (h.1 0 0 26) 12) : mJ h := by
  have c := R.c1
  refine ⟨R.mI hr, R.mS, R.z1, fun a ha => ?_, fun a ha k hk => ?_⟩
  · rcases Nat.lt_or_ge a na with q | q
    · rw [(R.a2 a q).1]
      rcases (R.a2 a q).2 with e | ⟨b, hb, e⟩
      · exact Or.inl e
      · exact Or.inr (vin (by omega) (by decide) e)
    · exact Or.inr (vin (f := 0) (by omega) (by decide) (R.a3 a ha q).1)
  · rw [(R.r1 a ha).1] at hk
    have := (R.r1 a ha).2.2
    rw [(R.r2 a ha k (by omega)).1, (R.r2 a ha k (by omega)).2]
    rcases R.r3 a ha k hk with q | ⟨q, f, hf, e⟩
    · exact Or.inl q
    · exact Or.inr ⟨q, vin (by omega) (by decide) e⟩
def wOk (na e : Nat) (g h : kG) : Prop := ∃ w : Nat → Nat, (∀ k, k ≤ e → g.1 4 0 k = nI (w k) ∧ h.1 25 0 k = nI (w k) ∧ w k < na) ∧ (∀ i j, i ≤ e → j ≤ e → w i = w j → i = j)
def Pj (nf na nm tm n e : Nat) (g h : kG) : Prop := Rl nf na nm tm g h ∧ rE g ∧ g.1 0 0 9 = nI 0 ∧ h.1 0 0 26 = nI 0 ∧ (∃ rs, rs ≤ 13 ∧ g.1 0 0 8 = nI rs) ∧ wOk na e g h ∧ 2 * mes g 12 + e < n
theorem wOk.e {e : Nat} (W : wOk na e g h) : e + 1 ≤ na := by
  obtain ⟨w, h1, h2⟩ := W
  exact pig na (e + 1) w (fun i hi => (h1 i (by omega)).2.2) (fun i j hi hj q => h2 i j (by omega) (by omega) q)
theorem mes_same (R : Rl nf na nm tm g h) {g2 h2 : kG} (R2 : Rl nf na nm tm g2 h2) (hF : ∀ b, Fs g2 na b ↔ Fs g na b) (ht : ∀ b, b < 12 → g2.1 6 b 12 = g.1 6 b 12) : mes g2 12 = mes g 12 := by
  have tw : ∀ b, b < 12 → tT g2 b = tT g b := by
    intro b hb
    unfold tT
    rw [ht b hb]
    by_cases z2 : Fs g na b
    · rw [if_pos ((xFresh_iff R2 (by omega)).mpr ((hF b).mpr z2)), if_pos ((xFresh_iff R (by omega)).mpr z2)]
    · rw [if_neg (fun q => z2 ((hF b).mp ((xFresh_iff R2 (by omega)).mp q))), if_neg (fun q => z2 ((xFresh_iff R (by omega)).mp q))]
  exact Nat.le_antisymm (mes_le 12 (fun b hb => Nat.le_of_eq (tw b hb))) (mes_le 12 (fun b hb => Nat.le_of_eq (tw b hb).symm))
/-- the search for a ring, on both sides -/
theorem se_ok (mk : Int32) (e : Nat) (hw : ∀ k, k ≤ e → g.1 4 0 k = h.1 25 0 k) : ∀ n k, k + n = e + 1 → (∃ i, k ≤ i ∧ i ≤ e ∧ mSe h mk n k = i ∧ xTr g mk (e + 1) n k = (1, (kU (kU g.1 0 0 8 (nI i)) 0 0 9 (nI (e + 1) - nI i), g.2))) ∨ (mSe h mk n k = e + 1 ∧ xTr g mk (e + 1) n k = (0, g) ∧ ∀ i, k ≤ i → i ≤ e → ¬ g.1 4 0 i = mk)
  | 0, k, hk => Or.inr ⟨hk, rfl, fun i h1 h2 => by omega⟩
  | n + 1, k, hk => by
    unfold mSe xTr
    rw [← hw k (by omega)]
    by_cases z : g.1 4 0 k = mk
    · rw [if_pos z, if_pos z]
      exact Or.inl ⟨k, Nat.le_refl _, by omega, rfl, rfl⟩
    · rw [if_neg z, if_neg z]
      rcases se_ok mk e hw n (k + 1) (by omega) with ⟨i, h1, h2, h3, h4⟩ | ⟨h1, h2, h3⟩
      · exact Or.inl ⟨i, by omega, h2, h3, h4⟩
      · refine Or.inr ⟨h1, h2, fun i i1 i2 => ?_⟩
        by_cases q : i = k
        · subst q
          exact z
        · exact h3 i (by omega) i2
/-- one turn of the loop -/
theorem step_ok {n e : Nat} (P : Pj nf na nm tm (n + 1) e g h) : e ≤ 11 ∧ ∃ a, a < na ∧ g.1 4 0 e = nI a ∧ h.1 25 0 e = nI a ∧ RnP nf na nm tm g h a (xRun g (nI a)) (mRun h (nI a)) ∧ ((xRun g (nI a)).1 = 0 → vp_in ((xRun g (g.1 4 0 e)).2.1 6 (tn (g.1 4 0 e)) 9) 24 ∧ vp_in ((mRun h (h.1 25 0 e)).2.1 19 0 (tn (h.1 25 0 e))) 24 ∧ ((∃ i, i ≤ e ∧ mAt h e = i ∧ xTl g e = (1, (kU (kU (xRun g (nI a)).2.1 0 0 8 (nI i)) 0 0 9 (nI (e + 1) - nI i), (xRun g (nI a)).2.2))) ∨ (mAt h e = e + 1 ∧ (xTl g e).1 = 0 ∧ Pj nf na nm tm n (e + 1) (xPush g e) (mPush h e)))) ∧ (1 ≤ e → ¬ (xRun g (nI a)).1 = 0 → ¬ (xRun g (nI a)).1 = -1 → ¬ (xRun g (nI a)).1 = -2 → Pj nf na nm tm n (e - 1) (xRun g (nI a)).2 (mRun h (nI a)).2) := by
  obtain ⟨R, E, q1, q2, ⟨rs, hrs, q3⟩, W, hm⟩ := P
  have h12 : na ≤ 12 := R.c1.2.1
  have h24 : nf ≤ 24 := R.c1.1
  have hee := W.e
  obtain ⟨w, w1, w2⟩ := W
  obtain ⟨we1, we2, we3⟩ := w1 e (Nat.le_refl _)
  have N := run_ok R E we3
  refine ⟨by omega, w e, we3, we1, we2, N, ?_, ?_⟩
  · intro z
    have hT : xTl g e = xTr (xRun g (nI (w e))).2 (xMk g e) (e + 1) (e + 1) 0 := by unfold xTl; rw [we1]
    have hK : xMk g e = xAw (xRun g (nI (w e))).2 (tn (nI (w e))) := by unfold xMk; rw [we1]
    have hA : mAt h e = mSe (mRun h (nI (w e))).2 (mNx h e) (e + 1) 0 := by unfold mAt; rw [we2]
    have hX : mNx h e = (mRun h (nI (w e))).2.1 7 0 (tn ((mRun h (nI (w e))).2.1 19 0 (tn (nI (w e))))) := by unfold mNx; rw [we2]
    have hPu : xPush g e = (kU (xTl g e).2.1 4 0 (e + 1) (xMk g e), (xTl g e).2.2) := rfl
    have hPm : mPush h e = (kU (mRun h (nI (w e))).2.1 25 0 (e + 1) (mNx h e), (mRun h (nI (w e))).2.2) := by unfold mPush; rw [we2]
    rw [we1, we2]
    rw [tn_nI (show w e < 2 ^ 31 by omega)] at hK hX ⊢
    generalize xRun g (nI (w e)) = X at *
    generalize mRun h (nI (w e)) = Y at *
    obtain ⟨n1, n2, n3, n4, n5, n6, n7⟩ := N
    obtain ⟨⟨f, b, hf, hb, y1, y2⟩, hlt⟩ := n6 z
    have y3 : Y.2.1 19 0 (w e) = nI f := (n2.w1 (w e) we3).trans y1
    have y4 : Y.2.1 7 0 f = nI b := (n2.f4 f hf).1.trans y2
    have etf : tn (nI f) = f := tn_nI (by omega)
    rw [aw_0 n2 hf y1 y2] at hK
    rw [y3, etf, y4] at hX
    rw [hK] at hT hPu
    rw [hX] at hA hPm
    rw [y1, y3]
    have hway : ∀ k, k ≤ e → X.2.1 4 0 k = Y.2.1 25 0 k := fun k hk => by
      rw [n4.1 4 0 k (by omega), n5 25 k (by omega), (w1 k hk).1, (w1 k hk).2.1]
    refine ⟨vp_in_nI (by omega) (by decide), vp_in_nI (by omega) (by decide), ?_⟩
    rcases se_ok (nI b) e hway (e + 1) 0 (by omega) with ⟨i, i1, i2, i3, i4⟩ | ⟨i1, i2, i3⟩
    · exact Or.inl ⟨i, i2, hA.trans i3, hT.trans i4⟩
    · refine Or.inr ⟨hA.trans i1, by rw [hT, i2], ?_⟩
      rw [hT, i2] at hPu
      rw [hPu, hPm]
      have RR := U_wayh (U_way n2 (e + 1) (nI b)) (e + 1) (nI b)
      refine ⟨RR, n3, ?_, ?_, ⟨rs, hrs, ?_⟩, ⟨fun k => if k = e + 1 then b else w k, fun k hk => ?_, fun i j hi hj => ?_⟩, ?_⟩
      · exact (n4.1 0 0 9 (by omega)).trans q1
      · exact (n5 0 26 (by omega)).trans q2
      · exact (n4.1 0 0 8 (by omega)).trans q3
      · show kU X.2.1 4 0 (e + 1) (nI b) 4 0 k = nI (if k = e + 1 then b else w k) ∧ kU Y.2.1 25 0 (e + 1) (nI b) 25 0 k = nI (if k = e + 1 then b else w k) ∧ (if k = e + 1 then b else w k) < na
        by_cases c : k = e + 1
        · subst c
          rw [kU_s, kU_s, if_pos rfl]
          exact ⟨rfl, rfl, hb⟩
        · rw [kU_n (by omega), kU_n (by omega), if_neg c, n4.1 4 0 k (by omega), n5 25 k (by omega)]
          exact w1 k (by omega)
      · show (if i = e + 1 then b else w i) = (if j = e + 1 then b else w j) → i = j
        have nb : ∀ i, i ≤ e → ¬ w i = b := fun i hi q => i3 i (by omega) hi (by rw [n4.1 4 0 i (by omega), (w1 i hi).1, q])
        by_cases c1 : i = e + 1 <;> by_cases c2 : j = e + 1
        · intro _
          omega
        · rw [if_pos c1, if_neg c2]
          intro q
          exact absurd q.symm (nb j (by omega))
        · rw [if_neg c1, if_pos c2]
          intro q
          exact absurd q (nb i (by omega))
        · rw [if_neg c1, if_neg c2]
          exact w2 i j (by omega) (by omega)
      · have : mes (kU X.2.1 4 0 (e + 1) (nI b), X.2.2) 12 = mes X.2 12 := mes_same n2 RR (fun b => Iff.rfl) (fun b _ => rfl)
        rw [this]
        omega
  · intro he z0 z1 z2
    generalize xRun g (nI (w e)) = X at *
    generalize mRun h (nI (w e)) = Y at *
    obtain ⟨n1, n2, n3, n4, n5, n6, n7⟩ := N
    refine ⟨n2, n3, (n4.1 0 0 9 (by omega)).trans q1, (n5 0 26 (by omega)).trans q2, ⟨rs, hrs, (n4.1 0 0 8 (by omega)).trans q3⟩, ⟨w, fun k hk => ?_, fun i j hi hj => w2 i j (by omega) (by omega)⟩, ?_⟩
    · rw [n4.1 4 0 k (by omega), n5 25 k (by omega)]
      exact w1 k (by omega)
    · have := n7 z0 z1 z2
      omega
end RS
