/-! a try: the rows, one by one, on both sides -/
def FrA (a : Nat) (g g' : kG) : Prop := (∀ q b j, (q < 6 ∨ q = 7 ∨ q = 8 ∨ 13 ≤ q ∨ b ≠ a) → g'.1 q b j = g.1 q b j) ∧ (∀ q b j, (q < 6 ∨ 14 ≤ q ∨ b ≠ a) → g'.2 q b j = g.2 q b j)
theorem FrA.rf {a : Nat} {g : kG} : FrA a g g := ⟨fun _ _ _ _ => rfl, fun _ _ _ _ => rfl⟩
theorem FrA.tr {a : Nat} {g g' g2 : kG} (h : FrA a g g') (h2 : FrA a g' g2) : FrA a g g2 := ⟨fun q b j e => (h2.1 q b j e).trans (h.1 q b j e), fun q b j e => (h2.2 q b j e).trans (h.2 q b j e)⟩
theorem FrA.U {a : Nat} {g g' : kG} (h : FrA a g g') {q : Nat} (hq : q = 6 ∨ q = 9 ∨ q = 10 ∨ q = 11 ∨ q = 12) (j : Nat) (v : Int32) : FrA a g (kU g'.1 q a j v, g'.2) := ⟨fun k b c e => (kU_n (by omega)).trans (h.1 k b c e), h.2⟩
theorem FrA.J {a : Nat} {g g' : kG} (h : FrA a g g') {q : Nat} (hq : q = 6 ∨ q = 13) (j : Nat) (v : Int64) : FrA a g (g'.1, kUJ g'.2 q a j v) := ⟨h.1, fun k b c e => (kUJ_n (by omega)).trans (h.2 k b c e)⟩
theorem FrA_add1 {a : Nat} {g g' : kG} (h : FrA a g g') (p f : Nat) (rd : Int32) : FrA a g (xAdd1 g' a p f rd) := by
  have q : ∀ v, FrA a g (kU (kU g'.1 11 a p (g'.1 5 f 0)) 12 a p v, kUJ g'.2 13 a p (g'.2 5 f 1)) := fun v => ((h.J (q := 13) (by omega) p (g'.2 5 f 1)).U (q := 11) (by omega) p (g'.1 5 f 0)).U (q := 12) (by omega) p v
  unfold xAdd1
  split
  · split
    · exact q 0
    · exact q 1
  · exact q 1
theorem FrA_add0 {a : Nat} {g g' : kG} (h : FrA a g g') (p : Nat) (num : Int32) : FrA a g (xAdd0 g' a p num) := ((h.U (q := 10) (by omega) p num).U (q := 12) (by omega) p 0).U (q := 9) (by omega) 4 (g'.1 9 a 4 + 1)
theorem FrA_add {a : Nat} {g g' : kG} (h : FrA a g g') (num : Int32) (f : Nat) (rd : Int32) : FrA a g (xAdd g' a num f rd) := by
  unfold xAdd xAddAt
  split
  · split
    · exact FrA_add1 (FrA_add0 h _ _) _ _ _
    · exact FrA_add1 h _ _ _
  · exact h
theorem FrA_look2 {a : Nat} {g g' : kG} (h : FrA a g g') (f : Nat) (rd : Int32) : FrA a g (xLook2 g' a f rd).2 := by
  unfold xLook2 xSum
  split
  · split
    · exact h.J (by omega) _ _
    · exact h.J (by omega) _ _
  · exact h.J (by omega) _ _
theorem FrA_look {a : Nat} {g g' : kG} (h : FrA a g g') (rd num m : Int32) : FrA a g (xLook g' a rd num m).2 := by
  unfold xLook
  split
  · exact h
  · split
    · exact h.U (by omega) _ _
    · split
      · exact FrA_look2 (FrA_add h _ _ _) _ _
      · split
        · exact FrA_add h _ _ _
        · exact FrA_look2 (FrA_add h _ _ _) _ _
/-- every note of an action is as the file is now, and may be used -/
def Nt (g : kG) (a : Nat) (m : Int32) : Prop := ∀ k, k < tn (g.1 9 a 4) → g.1 11 a k = g.1 5 (tn (g.1 10 a k)) 0 ∧ g.2 13 a k = g.2 5 (tn (g.1 10 a k)) 1 ∧ (g.1 5 (tn (g.1 10 a k)) 2 = -1 ∨ bt m (tn (g.1 5 (tn (g.1 10 a k)) 2)) = true)
theorem xPl_hit (g : kG) (a : Nat) (num : Int32) : ∀ n k, xPl g a num n k < k + n → g.1 10 a (xPl g a num n k) = num
  | 0, k, hk => absurd hk (by show ¬ k < k + 0; omega)
  | n + 1, k, hk => by
    unfold xPl at hk ⊢
    split
    · next e => exact e
    · next e =>
      rw [if_neg e] at hk
      exact xPl_hit g a num n (k + 1) (by omega)
section TR
variable {nf na nm tm : Nat} {g h : kG}
theorem pl_eq (R : Rl nf na nm tm g h) {a : Nat} (ha : a < 12) (num : Int32) : ∀ n k, k + n ≤ 12 → xPl g a num n k = mPl h a num n k
  | 0, k, _ => rfl
  | n + 1, k, hk => by
    unfold xPl mPl
    rw [R.n2 a ha k (by omega), pl_eq R ha num n (k + 1) (by omega)]
theorem add1_ok (R : Rl nf na nm tm g h) {a p f : Nat} (ha : a < 12) (hp : p < 12) (hf : f < 24) (rd : Int32) : Rl nf na nm tm (xAdd1 g a p f rd) (mNt1 h (24 * a + p) f rd) := by
  have e : kU h.1 20 0 (24 * a + p) (h.1 5 0 f) 21 0 (24 * a + p) = kU g.1 11 a p (g.1 5 f 0) 12 a p := R.n4 a ha p hp
  unfold xAdd1 mNt1
  rw [e]
  split
  · split
    · exact U_n1 R hp 0 hf
    · exact U_n1 R hp 1 hf
  · exact U_n1 R hp 1 hf
/-- a note: both sides, and what is noted -/
theorem add_ok (R : Rl nf na nm tm g h) {a f : Nat} (ha : a < 12) (hf : f < nf) (rd m : Int32) (hc : tn (g.1 9 a 4) < 12) (hN : Nt g a m) (hm : g.1 5 f 2 = -1 ∨ bt m (tn (g.1 5 f 2)) = true) : Rl nf na nm tm (xAdd g a (nI f) f rd) (mNote h a (nI f) rd) ∧ Nt (xAdd g a (nI f) f rd) a m ∧ tn ((xAdd g a (nI f) f rd).1 9 a 4) ≤ tn (g.1 9 a 4) + 1 := by
  have h24 : nf ≤ 24 := R.c1.1
  have n1 := R.n1 a ha
  obtain ⟨c, hc1, hc2⟩ := kN_nI n1.2
  have ec : tn (g.1 9 a 4) = c := by rw [hc2]; exact tn_nI (by omega)
  have e14 : tn (h.1 14 0 a) = c := by rw [n1.1]; exact ec
  rw [ec] at hc ⊢
  have ep := pl_eq R ha (nI f) c 0 (by omega)
  have le := xPl_le g a (nI f) c 0
  have hit := xPl_hit g a (nI f) c 0
  unfold xAdd mNote
  rw [e14, ec, ← ep, ]
  generalize xPl g a (nI f) c 0 = p at le hit
  have et : tn (nI f) = f := tn_nI (by omega)
  unfold xAddAt mNtAt
  rw [if_pos (show nI p < 12 from nI_lt (b := 12) (by omega) (by decide)), n1.1, hc2, et]
  -- what one writing of a note gives
  have wr : ∀ g' : kG, (∀ k, k < tn (g'.1 9 a 4) → k ≠ p → g'.1 11 a k = g'.1 5 (tn (g'.1 10 a k)) 0 ∧ g'.2 13 a k = g'.2 5 (tn (g'.1 10 a k)) 1 ∧ (g'.1 5 (tn (g'.1 10 a k)) 2 = -1 ∨ bt m (tn (g'.1 5 (tn (g'.1 10 a k)) 2)) = true)) → g'.1 10 a p = nI f → (g'.1 5 f 2 = -1 ∨ bt m (tn (g'.1 5 f 2)) = true) → Nt (xAdd1 g' a p f rd) a m ∧ (xAdd1 g' a p f rd).1 9 a 4 = g'.1 9 a 4 := by
    intro g' H hp2 hm2
    have q : ∀ v, Nt (kU (kU g'.1 11 a p (g'.1 5 f 0)) 12 a p v, kUJ g'.2 13 a p (g'.2 5 f 1)) a m := by
      intro v k hk
      show kU g'.1 11 a p (g'.1 5 f 0) 11 a k = g'.1 5 (tn (g'.1 10 a k)) 0 ∧ kUJ g'.2 13 a p (g'.2 5 f 1) 13 a k = g'.2 5 (tn (g'.1 10 a k)) 1 ∧ (g'.1 5 (tn (g'.1 10 a k)) 2 = -1 ∨ bt m (tn (g'.1 5 (tn (g'.1 10 a k)) 2)) = true)
      by_cases e : k = p
      · subst e
        rw [kU_s, kUJ_s, hp2, et]
        exact ⟨rfl, rfl, hm2⟩
      · rw [kU_n (by omega), kUJ_n (by omega)]
        exact H k hk e
    unfold xAdd1
    split
    · split
      · exact ⟨q 0, rfl⟩
      · exact ⟨q 1, rfl⟩
    · exact ⟨q 1, rfl⟩
  by_cases e : p = c
  · subst e
    rw [if_pos rfl, if_pos rfl]
    have R2 := U_n0 R (n := a) hc hc2 hf
    have w := wr (xAdd0 g a p (nI f)) (by
      intro k hk hkp
      have e9 : (xAdd0 g a p (nI f)).1 9 a 4 = nI (p + 1) := (kU_s ..).trans (by rw [hc2, nI_1])
      rw [e9, tn_nI (by omega)] at hk
      show g.1 11 a k = g.1 5 (tn (kU g.1 10 a p (nI f) 10 a k)) 0 ∧ g.2 13 a k = g.2 5 (tn (kU g.1 10 a p (nI f) 10 a k)) 1 ∧ (g.1 5 (tn (kU g.1 10 a p (nI f) 10 a k)) 2 = -1 ∨ bt m (tn (g.1 5 (tn (kU g.1 10 a p (nI f) 10 a k)) 2)) = true)
      rw [kU_n (by omega)]
      exact hN k (by rw [ec]; omega)) (show kU g.1 10 a p (nI f) 10 a p = nI f from kU_s ..) hm
    refine ⟨add1_ok R2 ha hc (by omega) rd, w.1, ?_⟩
    rw [w.2, show (xAdd0 g a p (nI f)).1 9 a 4 = nI (p + 1) from (kU_s ..).trans (by rw [hc2, nI_1]), tn_nI (by omega)]
    exact Nat.le_refl _
  · have e2 : ¬ nI p = nI c := fun z => e (nI_inj (by omega) (by omega) z)
    rw [if_neg e2, if_neg e2]
    have w := wr g (fun k hk _ => hN k hk) (hit (by omega)) hm
    refine ⟨add1_ok R ha (by omega) (by omega) rd, w.1, ?_⟩
    rw [w.2, hc2, tn_nI (by omega)]
    omega
end TR
