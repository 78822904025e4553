/-! one run, on both sides; the measure of a resolve -/
def rE (g : kG) : Prop := ∀ a, a < 12 → g.1 6 a 6 = 0 → g.1 9 a 4 = 0
def tT (g : kG) (b : Nat) : Nat := if bt (xFresh g) b = true then 0 else 10 - tn (g.1 6 b 12)
def mes (g : kG) : Nat → Nat
  | 0 => 0
  | n + 1 => mes g n + tT g n
theorem mes_le {g g' : kG} : ∀ n, (∀ b, b < n → tT g' b ≤ tT g b) → mes g' n ≤ mes g n
  | 0, _ => Nat.le_refl _
  | n + 1, H => Nat.add_le_add (mes_le n (fun b hb => H b (by omega))) (H n (by omega))
theorem mes_lt {g g' : kG} {a : Nat} (ha : tT g' a < tT g a) : ∀ n, a < n → (∀ b, b < n → tT g' b ≤ tT g b) → mes g' n < mes g n
  | 0, h, _ => absurd h (Nat.not_lt_zero _)
  | n + 1, h, H => by
    show mes g' n + tT g' n < mes g n + tT g n
    by_cases e : a = n
    · subst e
      have := mes_le (g := g) (g' := g') a (fun b hb => H b (by omega))
      omega
    · have := mes_lt ha n (by omega) (fun b hb => H b (by omega))
      have := H n (by omega)
      omega
theorem mes_bd (g : kG) : ∀ n, mes g n ≤ 10 * n
  | 0 => Nat.le_refl _
  | n + 1 => by
    have := mes_bd g n
    have : tT g n ≤ 10 := by unfold tT; split <;> omega
    show mes g n + tT g n ≤ _
    omega
def FrR (a : Nat) (g g' : kG) : Prop := (∀ q b j, (q < 5 ∨ q = 7 ∨ q = 8 ∨ 13 ≤ q ∨ (b ≠ a ∧ q ≠ 5)) → g'.1 q b j = g.1 q b j) ∧ (∀ f, g'.1 5 f 2 = g.1 5 f 2) ∧ (∀ f, ¬ g.1 5 f 2 = nI a → g'.1 5 f 0 = g.1 5 f 0 ∧ g'.2 5 f 1 = g.2 5 f 1) ∧ (∀ q b j, q ≠ 5 → (q < 6 ∨ 14 ≤ q ∨ b ≠ a) → g'.2 q b j = g.2 q b j)
theorem FrA.R {a : Nat} {g g' : kG} (h : FrA a g g') : FrR a g g' := ⟨fun q b j e => h.1 q b j (by omega), fun f => h.1 5 f 2 (by omega), fun f _ => ⟨h.1 5 f 0 (by omega), h.2 5 f 1 (by omega)⟩, fun q b j _ e => h.2 q b j e⟩
theorem FrR.tr {a : Nat} {g g' g2 : kG} (h : FrR a g g') (h2 : FrR a g' g2) : FrR a g g2 := ⟨fun q b j e => (h2.1 q b j e).trans (h.1 q b j e), fun f => (h2.2.1 f).trans (h.2.1 f), fun f e => ⟨((h2.2.2.1 f (by rw [h.2.1 f]; exact e)).1).trans (h.2.2.1 f e).1, ((h2.2.2.1 f (by rw [h.2.1 f]; exact e)).2).trans (h.2.2.1 f e).2⟩, fun q b j e1 e2 => (h2.2.2.2 q b j e1 e2).trans (h.2.2.2 q b j e1 e2)⟩
section RN
variable {nf na nm tm : Nat} {g h : kG}
theorem Fs_mono (R : Rl nf na nm tm g h) {a : Nat} (ha : a < na) {g' : kG} (F : FrR a g g') (hn : ¬ Fs g na a) {b : Nat} (H : Fs g na b) : Fs g' na b := by
  have h12 : na ≤ 12 := R.c1.2.1
  have h24 : nf ≤ 24 := R.c1.1
  refine (H (fun c => Fs g na c ∧ Fs g' na c) ?_).2
  intro c hc Hc
  have c1 : Fs g na c := Fs_cl hc (Hc.mono (fun d hd => hd.1))
  have hca : c ≠ a := by rintro rfl; exact hn c1
  refine ⟨c1, Fs_cl hc ⟨by rw [F.1 6 c 6 (by omega)]; exact Hc.1, fun k hk => ?_⟩⟩
  rw [F.1 9 c 4 (by omega)] at hk
  obtain ⟨f, hf, ef⟩ := R.n7 c (by omega) k hk
  have et : tn (nI f) = f := tn_nI (by omega)
  have z := Hc.2 k hk
  rw [F.1 10 c k (by omega), F.1 11 c k (by omega), F.1 12 c k (by omega), F.2.2.2 13 c k (by omega) (by omega), F.2.1]
  rw [ef, et] at z ⊢
  have hma : ¬ g.1 5 f 2 = nI a := by
    intro e
    rcases z.2 with q | q
    · exact absurd (e.symm.trans q) (nI_m1 (by omega))
    · rw [e, tn_nI (by omega)] at q
      exact hn q.1
  rw [(F.2.2.1 f hma).1, (F.2.2.1 f hma).2]
  exact ⟨z.1, z.2.imp id (fun q => q.2)⟩
/-- keeping a result -/
theorem keep_ok (R : Rl nf na nm tm g h) {a : Nat} (ha : a < na) (r : Int32) (hr : r = 1 ∨ r = -3) (hs : g.2 6 a 8 = h.2 0 0 32) : mRunB r h a = (r, (mRunB r h a).2) ∧ Rl nf na nm tm (xKeep g a r) (mRunB r h a).2 ∧ FrR a g (xKeep g a r) ∧ (xKeep g a r).1 6 a 6 = 1 ∧ (∀ j, j ≠ 6 → j ≠ 7 → (xKeep g a r).1 6 a j = g.1 6 a j) ∧ (∀ q j, q ≠ 5 → q ≠ 6 → (xKeep g a r).1 q a j = g.1 q a j) ∧ (∀ j, (xKeep g a r).2 13 a j = g.2 13 a j) := by
  have h12 : na ≤ 12 := R.c1.2.1
  have h24 : nf ≤ 24 := R.c1.1
  have K := U_kp R ha r hr
  obtain ⟨m1, m2⟩ := R.a2 a ha
  have FK : FrR a g (xKp g a r) := FrA.R ((FrA.rf.U (q := 6) (by omega) 6 1).U (q := 6) (by omega) 7 r)
  have k6 : (xKp g a r).1 6 a 6 = 1 := show kU g.1 6 a 6 1 6 a 6 = 1 from kU_s ..
  have k6j : ∀ j, j ≠ 6 → j ≠ 7 → (xKp g a r).1 6 a j = g.1 6 a j := fun j e1 e2 => (kU_n (by omega)).trans (kU_n (by omega))
  have kq : ∀ q j, q ≠ 5 → q ≠ 6 → (xKp g a r).1 q a j = g.1 q a j := fun q j _ e => (kU_n (by omega)).trans (kU_n (by omega))
  unfold xKeep mRunB
  rw [R.c2.1, m1]
  rcases m2 with e | ⟨f, hf, e⟩
  · have ex : xIn (g.1 6 a 4) (nI nf) = 0 := by
      rw [e]
      unfold xIn
      rw [if_pos (by decide)]
    rw [if_pos ex]
    rcases hr with rfl | rfl
    · rw [if_pos rfl, if_pos e]
      exact ⟨rfl, K, FK, k6, k6j, kq, fun _ => rfl⟩
    · rw [if_neg (by decide), if_pos rfl, if_pos e]
      exact ⟨rfl, K, FK, k6, k6j, kq, fun _ => rfl⟩
  · have ex : ¬ xIn (g.1 6 a 4) (nI nf) = 0 := by
      rw [e]
      unfold xIn
      rw [if_neg (nI_pos (by omega)), if_neg (nI_ge hf (by omega))]
      decide
    have e1 : ¬ g.1 6 a 4 = -1 := by rw [e]; exact nI_m1 (by omega)
    have et : tn (g.1 6 a 4) = f := by rw [e]; exact tn_nI (by omega)
    have em : g.1 5 f 2 = nI a := R.a4 a ha f hf e
    rw [if_neg ex, et]
    have FP : ∀ t d, FrR a g (kU (xKp g a r).1 5 f 0 t, kUJ (xKp g a r).2 5 f 1 d) := fun t d => FK.tr ⟨fun q b j c => kU_n (by omega), fun f2 => rfl, fun f2 hm => by
      have : f2 ≠ f := by
        rintro rfl
        exact hm em
      exact ⟨kU_n (by omega), kUJ_n (by omega)⟩, fun q b j c _ => kUJ_n (by omega)⟩
    rcases hr with rfl | rfl
    · rw [if_pos rfl, if_pos rfl, if_neg e1, hs]
      exact ⟨rfl, U_fc K 1 _ (Or.inr rfl) (fun q => absurd q (by decide)), FP _ _, k6, k6j, fun q j c1 c2 => (kU_n (by omega)).trans (kq q j c1 c2), fun _ => rfl⟩
    · simp only [if_neg (show ¬ (-3 : Int32) = 1 by decide), if_pos (show (-3 : Int32) = -3 from rfl), if_neg e1]
      exact ⟨rfl, U_fc K 0 0 (Or.inl rfl) (fun _ => rfl), FP _ _, k6, k6j, fun q j c1 c2 => (kU_n (by omega)).trans (kq q j c1 c2), fun _ => rfl⟩
/-- what a run leaves -/
def RnP (nf na nm tm : Nat) (g h : kG) (a : Nat) (x y : Int32 × kG) : Prop := x.1 = y.1 ∧ Rl nf na nm tm x.2 y.2 ∧ rE x.2 ∧ FrR a g x.2 ∧ (∀ k j, k = 0 ∨ k = 24 ∨ k = 25 → y.2.1 k 0 j = h.1 k 0 j) ∧ (x.1 = 0 → (∃ f b, f < nf ∧ b < na ∧ x.2.1 6 a 9 = nI f ∧ x.2.1 5 f 2 = nI b) ∧ mes x.2 12 < mes g 12) ∧ (¬ x.1 = 0 → ¬ x.1 = -1 → ¬ x.1 = -2 → mes x.2 12 ≤ mes g 12)
theorem rE_off {a : Nat} (E : rE g) {g' : kG} (F : FrR a g g') (h : g'.1 6 a 6 = 0 → g'.1 9 a 4 = 0) : rE g' := by
  intro b hb
  by_cases e : b = a
  · subst e
    exact h
  · rw [F.1 6 b 6 (by omega), F.1 9 b 4 (by omega)]
    exact E b hb
theorem try_ok (R : Rl nf na nm tm g h) (E : rE g) {a : Nat} (ha : a < na) (m : Int32) (hm : ∀ b, b < 32 → (bt m b = true ↔ Fs g na b)) (ag : rAg m h) (hna : ¬ Fs g na a) {t : Nat} (ht : t < tm) (ht2 : g.1 6 a 12 = nI t) : RnP nf na nm tm g h a (xTry g a m) (if (mTry (mRunT h a) a).1 = 0 then mRunB (mTry (mRunT h a) a).1 (mTry (mRunT h a) a).2 a else mRunB (mTry (mRunT h a) a).1 (kU (mTry (mRunT h a) a).2.1 18 0 a 0, (mTry (mRunT h a) a).2.2) a) := by
  have h12 : na ≤ 12 := R.c1.2.1
  have h24 : nf ≤ 24 := R.c1.1
  have htm : tm ≤ 9 := R.c1.2.2.2.2
  have et3 : g.1 6 a 12 + 1 = nI (t + 1) := by rw [ht2, nI_1]
  have R1 := U_try R ha (g.1 6 a 11 + 1) (t := t + 1) (by omega)
  have ex : xGo (xTryA g a) a m = xRows a m 13 0 0 ((xFgt (kU (kU g.1 6 a 11 (g.1 6 a 11 + 1)) 6 a 12 (nI (t + 1)), g.2) a).1, kUJ g.2 6 a 8 7) := by
    unfold xGo xTryA
    rw [et3]
    rfl
  have em : mTry (mRunT h a) a = mRows a 13 0 (mTry0 (kU (kU h.1 18 0 a (nI (t + 1))) 17 0 a (g.1 6 a 11 + 1), h.2) a) := by
    unfold mTry mRunT
    rw [R.t3 a (by omega), R.t2 a (by omega), et3]
  have ag1 : rAg m (mTry0 (kU (kU h.1 18 0 a (nI (t + 1))) 17 0 a (g.1 6 a 11 + 1), h.2) a) := ag
  have c0 : (xFgt (kU (kU g.1 6 a 11 (g.1 6 a 11 + 1)) 6 a 12 (nI (t + 1)), g.2) a).1 9 a 4 = 0 := kU_s ..
  have F1 : FrA a g ((xFgt (kU (kU g.1 6 a 11 (g.1 6 a 11 + 1)) 6 a 12 (nI (t + 1)), g.2) a).1, kUJ g.2 6 a 8 7) := ((((FrA.rf.J (q := 6) (by omega) 8 7).U (q := 6) (by omega) 11 _).U (q := 6) (by omega) 12 _).U (q := 6) (by omega) 6 0).U (q := 9) (by omega) 4 0
  have t1 : (xFgt (kU (kU g.1 6 a 11 (g.1 6 a 11 + 1)) 6 a 12 (nI (t + 1)), g.2) a).1 6 a 12 = nI (t + 1) := show kU (kU g.1 6 a 11 (g.1 6 a 11 + 1)) 6 a 12 (nI (t + 1)) 6 a 12 = _ from kU_s ..
  have W := rows_ok m 13 0 0 _ _ R1 ha ag1 (kUJ_s ..) rfl (by show tn ((xFgt (kU (kU g.1 6 a 11 (g.1 6 a 11 + 1)) 6 a 12 (nI (t + 1)), g.2) a).1 9 a 4) ≤ 0; rw [c0]; exact Nat.le_refl _) (fun k hk => absurd hk (by show ¬ k < tn ((xFgt (kU (kU g.1 6 a 11 (g.1 6 a 11 + 1)) 6 a 12 (nI (t + 1)), g.2) a).1 9 a 4); rw [c0]; exact Nat.not_lt_zero _)) (by omega)
  have t2 : (xRows a m 13 0 0 ((xFgt (kU (kU g.1 6 a 11 (g.1 6 a 11 + 1)) 6 a 12 (nI (t + 1)), g.2) a).1, kUJ g.2 6 a 8 7)).2.1 6 a 12 = nI (t + 1) := (xRows_6 a m a 12 (by decide) 13 0 0 _).trans t1
  have hfr : ∀ k j, k = 0 ∨ k = 24 ∨ k = 25 → (mRows a 13 0 (mTry0 (kU (kU h.1 18 0 a (nI (t + 1))) 17 0 a (g.1 6 a 11 + 1), h.2) a)).2.1 k 0 j = h.1 k 0 j := by
    intro k j hk
    rw [mRows_fr a k 0 j (by omega) 13 0 _]
    have q : k ≠ 13 ∧ k ≠ 14 ∧ k ≠ 17 ∧ k ≠ 18 := by omega
    exact (kU_n (by omega)).trans ((kU_n (by omega)).trans ((kU_n (by omega)).trans (kU_n (by omega))))
  unfold xTry
  rw [ex, em]
  generalize xRows a m 13 0 0 ((xFgt (kU (kU g.1 6 a 11 (g.1 6 a 11 + 1)) 6 a 12 (nI (t + 1)), g.2) a).1, kUJ g.2 6 a 8 7) = X at W t2
  generalize mRows a 13 0 (mTry0 (kU (kU h.1 18 0 a (nI (t + 1))) 17 0 a (g.1 6 a 11 + 1), h.2) a) = Y at W hfr
  obtain ⟨w1, w2, w3, w4, w5, w6, w7⟩ := W
  have F2 : FrA a g X.2 := F1.tr w5
  rw [← w1]
  -- a result that is kept
  have kp : ∀ r, (r = 1 ∨ r = -3) → X.1 = r → RnP nf na nm tm g h a (r, xKeep (kU X.2.1 6 a 12 0, X.2.2) a r) (mRunB r (kU Y.2.1 18 0 a 0, Y.2.2) a) := by
    intro r hr hX
    have R3 := U_ts w2 (n := a) (t := 0) (Nat.zero_le _)
    have F3 : FrA a g (kU X.2.1 6 a 12 0, X.2.2) := F2.U (q := 6) (by omega) 12 0
    obtain ⟨k1, k2, k3, k4, k5, k6, k7⟩ := keep_ok R3 ha r hr w3
    have F4 : FrR a g (xKeep (kU X.2.1 6 a 12 (nI 0), X.2.2) a r) := F3.R.tr k3
    have n0 : ∀ z : Prop, r = 0 → z := fun z q => by rcases hr with e | e <;> (rw [e] at q; exact absurd q (by decide))
    have mono : ∀ b, Fs g na b → Fs (xKeep (kU X.2.1 6 a 12 (nI 0), X.2.2) a r) na b := fun b hb => Fs_mono R ha F4 hna hb
    have self : Fs (xKeep (kU X.2.1 6 a 12 (nI 0), X.2.2) a r) na a := by
      refine Fs_cl ha ⟨by rw [k4]; decide, fun k hk => ?_⟩
      rw [k6 9 4 (by decide) (by decide)] at hk
      have z := w4 k hk
      obtain ⟨f, hf, ef⟩ := w2.n7 a (by omega) k hk
      have ett : tn (nI f) = f := tn_nI (by omega)
      rw [k6 10 k (by decide) (by decide), k6 11 k (by decide) (by decide), k6 12 k (by decide) (by decide), k7, k3.2.1]
      show (X.2.1 11 a k = (xKeep (kU X.2.1 6 a 12 (nI 0), X.2.2) a r).1 5 (tn (X.2.1 10 a k)) 0 ∧ (X.2.1 12 a k = 0 ∨ X.2.2 13 a k = (xKeep (kU X.2.1 6 a 12 (nI 0), X.2.2) a r).2 5 (tn (X.2.1 10 a k)) 1)) ∧ (X.2.1 5 (tn (X.2.1 10 a k)) 2 = -1 ∨ Fs (xKeep (kU X.2.1 6 a 12 (nI 0), X.2.2) a r) na (tn (X.2.1 5 (tn (X.2.1 10 a k)) 2)))
      rw [ef, ett] at z ⊢
      have hlt : X.2.1 5 f 2 = -1 ∨ Fs g na (tn (X.2.1 5 f 2)) := z.2.2.imp id (fun q => (hm _ (by
        rcases Nat.lt_or_ge (tn (X.2.1 5 f 2)) 32 with c | c
        · exact c
        · rw [b_big c] at q; cases q)).mp q)
      have hma : ¬ X.2.1 5 f 2 = nI a := by
        intro e
        rcases hlt with q | q
        · exact absurd (e.symm.trans q) (nI_m1 (by omega))
        · rw [e, tn_nI (by omega)] at q
          exact hna q
      rw [(k3.2.2.1 f hma).1, (k3.2.2.1 f hma).2]
      exact ⟨⟨z.1, Or.inr z.2.1⟩, hlt.imp id (mono _)⟩
    have hR : Rl nf na nm tm (xKeep (kU X.2.1 6 a 12 (nI 0), X.2.2) a r) (mRunB r (kU Y.2.1 18 0 a (nI 0), Y.2.2) a).2 := k2
    refine ⟨by rw [show mRunB r (kU Y.2.1 18 0 a 0, Y.2.2) a = _ from k1], hR, rE_off E F4 (fun q => by rw [show (xKeep (kU X.2.1 6 a 12 0, X.2.2) a r).1 6 a 6 = 1 from k4] at q; exact absurd q (by decide)), F4, fun k j hk => ?_, fun q => n0 _ q, fun _ _ _ => mes_le 12 (fun b hb => ?_)⟩
    · have q : (mRunB r (kU Y.2.1 18 0 a 0, Y.2.2) a).2.1 k 0 j = Y.2.1 k 0 j := by
        have c : k ≠ 13 ∧ k ≠ 14 ∧ k ≠ 5 ∧ k ≠ 18 := by omega
        unfold mRunB mFgt
        split
        · split
          · exact (kU_n (by omega)).trans (kU_n (by omega))
          · exact (kU_n (by omega)).trans ((kU_n (by omega)).trans (kU_n (by omega)))
        · split
          · split
            · exact (kU_n (by omega)).trans (kU_n (by omega))
            · exact (kU_n (by omega)).trans ((kU_n (by omega)).trans (kU_n (by omega)))
          · exact (kU_n (by omega)).trans ((kU_n (by omega)).trans (kU_n (by omega)))
      exact q.trans (hfr k j hk)
    · by_cases e : b = a
      · subst e
        have : tT (xKeep (kU X.2.1 6 b 12 0, X.2.2) b r) b = 0 := if_pos ((xFresh_iff hR (by omega)).mpr self)
        show tT (xKeep (kU X.2.1 6 b 12 0, X.2.2) b r) b ≤ _
        omega
      · unfold tT
        show (if bt (xFresh (xKeep (kU X.2.1 6 a 12 (nI 0), X.2.2) a r)) b = true then 0 else 10 - tn ((xKeep (kU X.2.1 6 a 12 (nI 0), X.2.2) a r).1 6 b 12)) ≤ _
        rw [F4.1 6 b 12 (by omega)]
        by_cases q : bt (xFresh g) b = true
        · rw [if_pos ((xFresh_iff hR (by omega)).mpr (mono b ((xFresh_iff R (by omega)).mp q)))]
          exact Nat.zero_le _
        · rw [if_neg q]
          split <;> omega
  rcases w7 with e | e | e | e
  · rw [e, if_neg (by decide), if_neg (by decide)]
    exact kp 1 (Or.inl rfl) e
  · rw [e, if_pos rfl, if_pos rfl]
    obtain ⟨f, b, hf, hb, q1, q2⟩ := w6 e
    have hR := U_fg w2 ha
    have F3 : FrA a g (xFgt X.2 a) := (F2.U (q := 6) (by omega) 6 0).U (q := 9) (by omega) 4 0
    have e1 : xTryB 0 X.2 a = (0, xFgt X.2 a) := rfl
    have e2 : mRunB 0 Y.2 a = (0, mFgt Y.2 a) := rfl
    rw [e1, e2]
    refine ⟨rfl, hR, rE_off E F3.R (fun _ => kU_s ..), F3.R, fun k j hk => ?_, fun _ => ⟨⟨f, b, hf, hb, q2, (F3.1 5 f 2 (by omega)).trans ((F1.1 5 f 2 (by omega)).symm.trans q1)⟩, ?_⟩, fun q => absurd rfl q⟩
    · exact ((kU_n (by omega)).trans (kU_n (by omega))).trans (hfr k j hk)
    · have hle : ∀ b, b < 12 → b ≠ a → tT (xFgt X.2 a) b ≤ tT g b := by
        intro b hb hba
        unfold tT
        rw [F3.1 6 b 12 (by omega)]
        by_cases q : bt (xFresh g) b = true
        · rw [if_pos ((xFresh_iff hR (by omega)).mpr (Fs_mono R ha F3.R hna ((xFresh_iff R (by omega)).mp q)))]
          exact Nat.zero_le _
        · rw [if_neg q]
          split <;> omega
      have hlt : tT (xFgt X.2 a) a < tT g a := by
        unfold tT
        rw [if_neg (fun q => hna ((xFresh_iff R (by omega)).mp q)), ht2, tn_nI (by omega), show (xFgt X.2 a).1 6 a 12 = nI (t + 1) from t2, tn_nI (by omega)]
        split <;> omega
      refine mes_lt hlt 12 (by omega) (fun b hb => ?_)
      by_cases q : b = a
      · subst q
        omega
      · exact hle b hb q
  · rw [e, if_neg (by decide), if_neg (by decide)]
    have R3 := U_ts w2 (n := a) (t := 0) (Nat.zero_le _)
    have hR := U_fg R3 ha
    have F3 : FrA a g (xFgt (kU X.2.1 6 a 12 0, X.2.2) a) := ((F2.U (q := 6) (by omega) 12 0).U (q := 6) (by omega) 6 0).U (q := 9) (by omega) 4 0
    have e1 : xTryB (-1) (kU X.2.1 6 a 12 0, X.2.2) a = (-1, xFgt (kU X.2.1 6 a 12 0, X.2.2) a) := rfl
    have e2 : mRunB (-1) (kU Y.2.1 18 0 a 0, Y.2.2) a = (-1, mFgt (kU Y.2.1 18 0 a 0, Y.2.2) a) := rfl
    rw [e1, e2]
    refine ⟨rfl, hR, rE_off E F3.R (fun _ => kU_s ..), F3.R, fun k j hk => ?_, fun q => absurd q (by show ¬ (-1 : Int32) = 0; decide), fun _ q => absurd rfl q⟩
    exact ((kU_n (by omega)).trans ((kU_n (by omega)).trans (kU_n (by omega)))).trans (hfr k j hk)
  · rw [e, if_neg (by decide), if_neg (by decide)]
    exact kp (-3) (Or.inr rfl) e
end RN
