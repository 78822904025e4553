/-! the relation of class and reference -/
def rI (v : Int32) (n : Nat) : Prop := v = -1 ∨ ∃ b, b < n ∧ v = nI b
def rRw (k w : Int32) (nf : Nat) : Prop := (k = 2 ∧ kN w 8) ∨ (¬ k = 2 ∧ ∃ f, f < nf ∧ w = nI f)
def rKp (k o z : Int32) : Prop := (k = 0 ∧ z = 2) ∨ (k = 1 ∧ z = o ∧ (o = 1 ∨ o = -3))
def Rl (nf na nm tm : Nat) (g h : kG) : Prop := (nf ≤ 24 ∧ na ≤ 12 ∧ nm ≤ 6 ∧ 1 ≤ tm ∧ tm ≤ 9) ∧ (g.1 0 0 4 = nI nf ∧ h.1 0 0 2 = nI nf) ∧ (g.1 0 0 5 = nI na ∧ h.1 0 0 3 = nI na) ∧ (g.1 0 0 6 = nI nm ∧ h.1 0 0 4 = nI nm) ∧ (g.1 0 0 0 = nI tm ∧ h.1 0 0 0 = nI tm) ∧ (∀ f, f < 24 → h.1 5 0 f = g.1 5 f 0) ∧ (∀ f, f < 24 → h.2 6 0 f = g.2 5 f 1) ∧ (∀ f, f < 24 → kZ (g.1 5 f 0) ∧ (g.1 5 f 0 = 0 → g.2 5 f 1 = 0)) ∧ (∀ f, f < nf → h.1 7 0 f = g.1 5 f 2 ∧ rI (g.1 5 f 2) na) ∧ (∀ f, f < 24 → nf ≤ f → h.1 7 0 f = 0 ∧ g.1 5 f 2 = -1) ∧ (∀ a, a < 12 → h.1 8 0 a = g.1 6 a 3) ∧ (∀ a, a < na → h.1 9 0 a = g.1 6 a 4 ∧ rI (g.1 6 a 4) nf) ∧ (∀ a, a < 12 → na ≤ a → h.1 9 0 a = 0 ∧ g.1 6 a 4 = -1) ∧ (∀ a, a < na → ∀ f, f < nf → g.1 6 a 4 = nI f → g.1 5 f 2 = nI a) ∧ (∀ a, a < 12 → h.1 10 0 a = g.1 6 a 2 ∧ kN (g.1 6 a 2) 12) ∧ (∀ a, a < 12 → ∀ k, k < 12 → h.1 11 0 (12 * a + k) = g.1 7 a k ∧ h.1 12 0 (12 * a + k) = g.1 8 a k) ∧ (∀ a, a < 12 → ∀ k, k < tn (g.1 6 a 2) → rRw (g.1 7 a k) (g.1 8 a k) nf) ∧ (∀ a, a < na → rKp (g.1 6 a 6) (g.1 6 a 7) (h.1 13 0 a)) ∧ (∀ a, a < 12 → na ≤ a → g.1 6 a 6 = 0) ∧ (∀ a, a < 12 → h.1 14 0 a = g.1 9 a 4 ∧ kN (g.1 9 a 4) 12) ∧ (∀ a, a < 12 → ∀ k, k < 12 → h.1 15 0 (24 * a + k) = g.1 10 a k) ∧ (∀ a, a < 12 → ∀ k, k < 12 → h.1 20 0 (24 * a + k) = g.1 11 a k) ∧ (∀ a, a < 12 → ∀ k, k < 12 → h.1 21 0 (24 * a + k) = g.1 12 a k) ∧ (∀ a, a < 12 → ∀ k, k < 12 → h.2 23 0 (24 * a + k) = g.2 13 a k) ∧ (∀ a, a < 12 → ∀ k, k < 12 → g.1 11 a k = 0 → g.2 13 a k = 0) ∧ (∀ a, a < 12 → ∀ k, k < tn (g.1 9 a 4) → ∃ f, f < nf ∧ g.1 10 a k = nI f) ∧ (∀ a, a < 12 → h.1 16 0 a = g.1 6 a 10) ∧ (∀ a, a < 12 → h.1 17 0 a = g.1 6 a 11) ∧ (∀ a, a < 12 → h.1 18 0 a = g.1 6 a 12) ∧ (∀ a, a < 12 → ∃ t, t ≤ tm ∧ g.1 6 a 12 = nI t) ∧ (∀ a, a < na → h.1 19 0 a = g.1 6 a 9) ∧ (∀ a, a < 12 → na ≤ a → g.1 6 a 9 = -1) ∧ (∀ i, i < 6 → h.1 27 0 i = g.1 14 i 0 ∧ ∃ f, f < 24 ∧ g.1 14 i 0 = nI f) ∧ (∀ i, i < 6 → h.1 28 0 i = g.1 14 i 3 ∧ kN (g.1 14 i 3) 4) ∧ (∀ i, i < 6 → h.2 29 0 i = g.2 14 i 1) ∧ (∀ i, i < nm → ∃ f, f < nf ∧ g.1 14 i 0 = nI f) ∧ (∀ i, i < 6 → ∀ k, k < tn (g.1 14 i 3) → h.2 30 0 (4 * i + k) = xMem (g.2 14 i 2) (nI k) ∧ h.2 31 0 (4 * i + k) = 17 * xMem (g.2 14 i 2) (nI k) + g.2 14 i 1) ∧ (∀ i, i < 6 → nm ≤ i → g.1 14 i 3 = 0) ∧ (∀ j, kZ (h.1 22 0 j)) ∧ (∀ j, 12 ≤ j → h.1 22 0 j = 0)
section RL
variable {nf na nm tm : Nat} {g h : kG}
theorem Rl.c1 (R : Rl nf na nm tm g h) : nf ≤ 24 ∧ na ≤ 12 ∧ nm ≤ 6 ∧ 1 ≤ tm ∧ tm ≤ 9 := R.1
theorem Rl.c2 (R : Rl nf na nm tm g h) : g.1 0 0 4 = nI nf ∧ h.1 0 0 2 = nI nf := R.2.1
theorem Rl.c3 (R : Rl nf na nm tm g h) : g.1 0 0 5 = nI na ∧ h.1 0 0 3 = nI na := R.2.2.1
theorem Rl.c4 (R : Rl nf na nm tm g h) : g.1 0 0 6 = nI nm ∧ h.1 0 0 4 = nI nm := R.2.2.2.1
theorem Rl.c5 (R : Rl nf na nm tm g h) : g.1 0 0 0 = nI tm ∧ h.1 0 0 0 = nI tm := R.2.2.2.2.1
theorem Rl.f1 (R : Rl nf na nm tm g h) : ∀ f, f < 24 → h.1 5 0 f = g.1 5 f 0 := R.2.2.2.2.2.1
theorem Rl.f2 (R : Rl nf na nm tm g h) : ∀ f, f < 24 → h.2 6 0 f = g.2 5 f 1 := R.2.2.2.2.2.2.1
theorem Rl.f3 (R : Rl nf na nm tm g h) : ∀ f, f < 24 → kZ (g.1 5 f 0) ∧ (g.1 5 f 0 = 0 → g.2 5 f 1 = 0) := R.2.2.2.2.2.2.2.1
theorem Rl.f4 (R : Rl nf na nm tm g h) : ∀ f, f < nf → h.1 7 0 f = g.1 5 f 2 ∧ rI (g.1 5 f 2) na := R.2.2.2.2.2.2.2.2.1
theorem Rl.f5 (R : Rl nf na nm tm g h) : ∀ f, f < 24 → nf ≤ f → h.1 7 0 f = 0 ∧ g.1 5 f 2 = -1 := R.2.2.2.2.2.2.2.2.2.1
theorem Rl.a1 (R : Rl nf na nm tm g h) : ∀ a, a < 12 → h.1 8 0 a = g.1 6 a 3 := R.2.2.2.2.2.2.2.2.2.2.1
theorem Rl.a2 (R : Rl nf na nm tm g h) : ∀ a, a < na → h.1 9 0 a = g.1 6 a 4 ∧ rI (g.1 6 a 4) nf := R.2.2.2.2.2.2.2.2.2.2.2.1
theorem Rl.a3 (R : Rl nf na nm tm g h) : ∀ a, a < 12 → na ≤ a → h.1 9 0 a = 0 ∧ g.1 6 a 4 = -1 := R.2.2.2.2.2.2.2.2.2.2.2.2.1
theorem Rl.a4 (R : Rl nf na nm tm g h) : ∀ a, a < na → ∀ f, f < nf → g.1 6 a 4 = nI f → g.1 5 f 2 = nI a := R.2.2.2.2.2.2.2.2.2.2.2.2.2.1
theorem Rl.r1 (R : Rl nf na nm tm g h) : ∀ a, a < 12 → h.1 10 0 a = g.1 6 a 2 ∧ kN (g.1 6 a 2) 12 := R.2.2.2.2.2.2.2.2.2.2.2.2.2.2.1
theorem Rl.r2 (R : Rl nf na nm tm g h) : ∀ a, a < 12 → ∀ k, k < 12 → h.1 11 0 (12 * a + k) = g.1 7 a k ∧ h.1 12 0 (12 * a + k) = g.1 8 a k := R.2.2.2.2.2.2.2.2.2.2.2.2.2.2.2.1
theorem Rl.r3 (R : Rl nf na nm tm g h) : ∀ a, a < 12 → ∀ k, k < tn (g.1 6 a 2) → rRw (g.1 7 a k) (g.1 8 a k) nf := R.2.2.2.2.2.2.2.2.2.2.2.2.2.2.2.2.1
theorem Rl.k1 (R : Rl nf na nm tm g h) : ∀ a, a < na → rKp (g.1 6 a 6) (g.1 6 a 7) (h.1 13 0 a) := R.2.2.2.2.2.2.2.2.2.2.2.2.2.2.2.2.2.1
theorem Rl.k2 (R : Rl nf na nm tm g h) : ∀ a, a < 12 → na ≤ a → g.1 6 a 6 = 0 := R.2.2.2.2.2.2.2.2.2.2.2.2.2.2.2.2.2.2.1
theorem Rl.n1 (R : Rl nf na nm tm g h) : ∀ a, a < 12 → h.1 14 0 a = g.1 9 a 4 ∧ kN (g.1 9 a 4) 12 := R.2.2.2.2.2.2.2.2.2.2.2.2.2.2.2.2.2.2.2.1
theorem Rl.n2 (R : Rl nf na nm tm g h) : ∀ a, a < 12 → ∀ k, k < 12 → h.1 15 0 (24 * a + k) = g.1 10 a k := R.2.2.2.2.2.2.2.2.2.2.2.2.2.2.2.2.2.2.2.2.1
theorem Rl.n3 (R : Rl nf na nm tm g h) : ∀ a, a < 12 → ∀ k, k < 12 → h.1 20 0 (24 * a + k) = g.1 11 a k := R.2.2.2.2.2.2.2.2.2.2.2.2.2.2.2.2.2.2.2.2.2.1
theorem Rl.n4 (R : Rl nf na nm tm g h) : ∀ a, a < 12 → ∀ k, k < 12 → h.1 21 0 (24 * a + k) = g.1 12 a k := R.2.2.2.2.2.2.2.2.2.2.2.2.2.2.2.2.2.2.2.2.2.2.1
theorem Rl.n5 (R : Rl nf na nm tm g h) : ∀ a, a < 12 → ∀ k, k < 12 → h.2 23 0 (24 * a + k) = g.2 13 a k := R.2.2.2.2.2.2.2.2.2.2.2.2.2.2.2.2.2.2.2.2.2.2.2.1
theorem Rl.n6 (R : Rl nf na nm tm g h) : ∀ a, a < 12 → ∀ k, k < 12 → g.1 11 a k = 0 → g.2 13 a k = 0 := R.2.2.2.2.2.2.2.2.2.2.2.2.2.2.2.2.2.2.2.2.2.2.2.2.1
theorem Rl.n7 (R : Rl nf na nm tm g h) : ∀ a, a < 12 → ∀ k, k < tn (g.1 9 a 4) → ∃ f, f < nf ∧ g.1 10 a k = nI f := R.2.2.2.2.2.2.2.2.2.2.2.2.2.2.2.2.2.2.2.2.2.2.2.2.2.1
theorem Rl.t1 (R : Rl nf na nm tm g h) : ∀ a, a < 12 → h.1 16 0 a = g.1 6 a 10 := R.2.2.2.2.2.2.2.2.2.2.2.2.2.2.2.2.2.2.2.2.2.2.2.2.2.2.1
theorem Rl.t2 (R : Rl nf na nm tm g h) : ∀ a, a < 12 → h.1 17 0 a = g.1 6 a 11 := R.2.2.2.2.2.2.2.2.2.2.2.2.2.2.2.2.2.2.2.2.2.2.2.2.2.2.2.1
theorem Rl.t3 (R : Rl nf na nm tm g h) : ∀ a, a < 12 → h.1 18 0 a = g.1 6 a 12 := R.2.2.2.2.2.2.2.2.2.2.2.2.2.2.2.2.2.2.2.2.2.2.2.2.2.2.2.2.1
theorem Rl.t4 (R : Rl nf na nm tm g h) : ∀ a, a < 12 → ∃ t, t ≤ tm ∧ g.1 6 a 12 = nI t := R.2.2.2.2.2.2.2.2.2.2.2.2.2.2.2.2.2.2.2.2.2.2.2.2.2.2.2.2.2.1
theorem Rl.w1 (R : Rl nf na nm tm g h) : ∀ a, a < na → h.1 19 0 a = g.1 6 a 9 := R.2.2.2.2.2.2.2.2.2.2.2.2.2.2.2.2.2.2.2.2.2.2.2.2.2.2.2.2.2.2.1
theorem Rl.w2 (R : Rl nf na nm tm g h) : ∀ a, a < 12 → na ≤ a → g.1 6 a 9 = -1 := R.2.2.2.2.2.2.2.2.2.2.2.2.2.2.2.2.2.2.2.2.2.2.2.2.2.2.2.2.2.2.2.1
theorem Rl.m1 (R : Rl nf na nm tm g h) : ∀ i, i < 6 → h.1 27 0 i = g.1 14 i 0 ∧ ∃ f, f < 24 ∧ g.1 14 i 0 = nI f := R.2.2.2.2.2.2.2.2.2.2.2.2.2.2.2.2.2.2.2.2.2.2.2.2.2.2.2.2.2.2.2.2.1
theorem Rl.m2 (R : Rl nf na nm tm g h) : ∀ i, i < 6 → h.1 28 0 i = g.1 14 i 3 ∧ kN (g.1 14 i 3) 4 := R.2.2.2.2.2.2.2.2.2.2.2.2.2.2.2.2.2.2.2.2.2.2.2.2.2.2.2.2.2.2.2.2.2.1
theorem Rl.m3 (R : Rl nf na nm tm g h) : ∀ i, i < 6 → h.2 29 0 i = g.2 14 i 1 := R.2.2.2.2.2.2.2.2.2.2.2.2.2.2.2.2.2.2.2.2.2.2.2.2.2.2.2.2.2.2.2.2.2.2.1
theorem Rl.m4 (R : Rl nf na nm tm g h) : ∀ i, i < nm → ∃ f, f < nf ∧ g.1 14 i 0 = nI f := R.2.2.2.2.2.2.2.2.2.2.2.2.2.2.2.2.2.2.2.2.2.2.2.2.2.2.2.2.2.2.2.2.2.2.2.1
theorem Rl.m5 (R : Rl nf na nm tm g h) : ∀ i, i < 6 → ∀ k, k < tn (g.1 14 i 3) → h.2 30 0 (4 * i + k) = xMem (g.2 14 i 2) (nI k) ∧ h.2 31 0 (4 * i + k) = 17 * xMem (g.2 14 i 2) (nI k) + g.2 14 i 1 := R.2.2.2.2.2.2.2.2.2.2.2.2.2.2.2.2.2.2.2.2.2.2.2.2.2.2.2.2.2.2.2.2.2.2.2.2.1
theorem Rl.m6 (R : Rl nf na nm tm g h) : ∀ i, i < 6 → nm ≤ i → g.1 14 i 3 = 0 := R.2.2.2.2.2.2.2.2.2.2.2.2.2.2.2.2.2.2.2.2.2.2.2.2.2.2.2.2.2.2.2.2.2.2.2.2.2.1
theorem Rl.z1 (R : Rl nf na nm tm g h) : ∀ j, kZ (h.1 22 0 j) := R.2.2.2.2.2.2.2.2.2.2.2.2.2.2.2.2.2.2.2.2.2.2.2.2.2.2.2.2.2.2.2.2.2.2.2.2.2.2.1
theorem Rl.z2 (R : Rl nf na nm tm g h) : ∀ j, 12 ≤ j → h.1 22 0 j = 0 := R.2.2.2.2.2.2.2.2.2.2.2.2.2.2.2.2.2.2.2.2.2.2.2.2.2.2.2.2.2.2.2.2.2.2.2.2.2.2.2
theorem rI.mono {v : Int32} {n m : Nat} (h : rI v n) (hm : n ≤ m) : rI v m := by
  rcases h with h | ⟨b, h1, h2⟩
  · exact Or.inl h
  · exact Or.inr ⟨b, by omega, h2⟩
theorem rRw.mono {k w : Int32} {n m : Nat} (h : rRw k w n) (hm : n ≤ m) : rRw k w m := by
  rcases h with h | ⟨h0, b, h1, h2⟩
  · exact Or.inl h
  · exact Or.inr ⟨h0, b, by omega, h2⟩
theorem nI_inj {a b : Nat} (ha : a < 2 ^ 31) (hb : b < 2 ^ 31) (h : nI a = nI b) : a = b := by
  have e : tn (nI a) = tn (nI b) := by rw [h]
  rwa [show tn (nI a) = a from nI_clamp ha, show tn (nI b) = b from nI_clamp hb] at e
theorem tn_nI {a : Nat} (ha : a < 2 ^ 31) : tn (nI a) = a := nI_clamp ha
theorem nI_m1 {a : Nat} (ha : a < 2 ^ 31) : ¬ nI a = -1 := by
  intro h
  have h2 : ¬ nI a < 0 := nI_pos ha
  rw [h] at h2
  exact h2 (by decide)
theorem kN_nI {v : Int32} {n : Nat} (h : kN v n) : ∃ c, c ≤ n ∧ v = nI c := ⟨tn v, h.2, h.1⟩
theorem ix12 {a k n r : Nat} (hk : k < 12) (hr : r < 12) : (12 * a + k = 12 * n + r) ↔ (k = r ∧ a = n) := by omega
theorem ix24 {a k n r : Nat} (hk : k < 12) (hr : r < 12) : (24 * a + k = 24 * n + r) ↔ (k = r ∧ a = n) := by omega
theorem ix4 {a k n r : Nat} (hk : k < 4) (hr : r < 4) : (4 * a + k = 4 * n + r) ↔ (k = r ∧ a = n) := by omega

set_option maxRecDepth 4000 in
theorem U_w (R : Rl nf na nm tm g h) {n : Nat} (hn : n < na) (v : Int32) : Rl (nf) (na) (nm) (tm) (kU g.1 6 n 9 v, g.2) (kU h.1 19 0 n v, h.2) := by
  obtain ⟨c1, c2, c3, c4, c5, f1, f2, f3, f4, f5, a1, a2, a3, a4, r1, r2, r3, k1, k2, n1, n2, n3, n4, n5, n6, n7, t1, t2, t3, t4, w1, w2, m1, m2, m3, m4, m5, m6, z1, z2⟩ := R
  refine ⟨c1, c2, c3, c4, c5, f1, f2, f3, f4, f5, a1, a2, a3, a4, r1, r2, r3, k1, k2, n1, n2, n3, n4, n5, n6, n7, t1, t2, t3, t4, ?_, ?_, m1, m2, m3, m4, m5, m6, z1, z2⟩
  · intro a ha
    have q := w1 a ha
    simp only [kU, true_and, and_true]
    split
    · rfl
    · exact q
  · intro a ha hb
    exact (kU_n (by omega)).trans (w2 a ha hb)
set_option maxRecDepth 4000 in
theorem U_fg (R : Rl nf na nm tm g h) {n : Nat} (hn : n < na) : Rl (nf) (na) (nm) (tm) (xFgt g n) (mFgt h n) := by
  obtain ⟨c1, c2, c3, c4, c5, f1, f2, f3, f4, f5, a1, a2, a3, a4, r1, r2, r3, k1, k2, n1, n2, n3, n4, n5, n6, n7, t1, t2, t3, t4, w1, w2, m1, m2, m3, m4, m5, m6, z1, z2⟩ := R
  refine ⟨c1, c2, c3, c4, c5, f1, f2, f3, f4, f5, a1, a2, a3, a4, r1, r2, r3, ?_, ?_, ?_, n2, n3, n4, n5, n6, ?_, t1, t2, t3, t4, w1, w2, m1, m2, m3, m4, m5, m6, z1, z2⟩
  · intro a ha
    have q := k1 a ha
    by_cases e : a = n
    · subst e
      exact Or.inl ⟨kU_s .., kU_s ..⟩
    · have e1 : (xFgt g n).1 6 a 6 = g.1 6 a 6 := kU_n (by omega)
      have e2 : (mFgt h n).1 13 0 a = h.1 13 0 a := kU_n (by omega)
      rw [e1, e2]
      exact q
  · intro a ha hb
    exact (kU_n (by omega)).trans (k2 a ha hb)
  · intro a ha
    have q := n1 a ha
    by_cases e : a = n
    · subst e
      have e1 : (xFgt g a).1 9 a 4 = 0 := kU_s ..
      have e2 : (mFgt h a).1 14 0 a = 0 := kU_s ..
      rw [e1, e2]
      exact ⟨rfl, kN_of (k := 0) (by omega) (by decide)⟩
    · have e1 : (xFgt g n).1 9 a 4 = g.1 9 a 4 := kU_n (by omega)
      have e2 : (mFgt h n).1 14 0 a = h.1 14 0 a := kU_n (by omega)
      rw [e1, e2]
      exact q
  · intro a ha k hk
    by_cases e : a = n
    · subst e
      have e1 : (xFgt g a).1 9 a 4 = 0 := kU_s ..
      rw [e1] at hk
      exact absurd hk (Nat.not_lt_zero _)
    · have e1 : (xFgt g n).1 9 a 4 = g.1 9 a 4 := kU_n (by omega)
      rw [e1] at hk
      exact n7 a ha k hk
set_option maxRecDepth 4000 in
theorem U_fc (R : Rl nf na nm tm g h) {n : Nat} (t : Int32) (d : Int64) (hz : kZ t) (h0 : t = 0 → d = 0) : Rl (nf) (na) (nm) (tm) (kU g.1 5 n 0 t, kUJ g.2 5 n 1 d) (kU h.1 5 0 n t, kUJ h.2 6 0 n d) := by
  obtain ⟨c1, c2, c3, c4, c5, f1, f2, f3, f4, f5, a1, a2, a3, a4, r1, r2, r3, k1, k2, n1, n2, n3, n4, n5, n6, n7, t1, t2, t3, t4, w1, w2, m1, m2, m3, m4, m5, m6, z1, z2⟩ := R
  refine ⟨c1, c2, c3, c4, c5, ?_, ?_, ?_, f4, f5, a1, a2, a3, a4, r1, r2, r3, k1, k2, n1, n2, n3, n4, n5, n6, n7, t1, t2, t3, t4, w1, w2, m1, m2, m3, m4, m5, m6, z1, z2⟩
  · intro a ha
    have q := f1 a ha
    simp only [kU, true_and, and_true]
    split
    · rfl
    · exact q
  · intro a ha
    have q := f2 a ha
    simp only [kUJ, true_and, and_true]
    split
    · rfl
    · exact q
  · intro a ha
    have q := f3 a ha
    simp only [kU, kUJ, true_and]
    split
    · exact ⟨hz, h0⟩
    · exact q
set_option maxRecDepth 4000 in
theorem U_re (R : Rl nf na nm tm g h) {n : Nat} (v : Int32) : Rl (nf) (na) (nm) (tm) (kU g.1 6 n 10 v, g.2) (kU h.1 16 0 n v, h.2) := by
  obtain ⟨c1, c2, c3, c4, c5, f1, f2, f3, f4, f5, a1, a2, a3, a4, r1, r2, r3, k1, k2, n1, n2, n3, n4, n5, n6, n7, t1, t2, t3, t4, w1, w2, m1, m2, m3, m4, m5, m6, z1, z2⟩ := R
  refine ⟨c1, c2, c3, c4, c5, f1, f2, f3, f4, f5, a1, a2, a3, a4, r1, r2, r3, k1, k2, n1, n2, n3, n4, n5, n6, n7, ?_, t2, t3, t4, w1, w2, m1, m2, m3, m4, m5, m6, z1, z2⟩
  · intro a ha
    have q := t1 a ha
    simp only [kU, true_and, and_true]
    split
    · rfl
    · exact q
set_option maxRecDepth 4000 in
theorem U_tr (R : Rl nf na nm tm g h) {n : Nat} (v : Int32) : Rl (nf) (na) (nm) (tm) (kU g.1 6 n 11 v, g.2) (kU h.1 17 0 n v, h.2) := by
  obtain ⟨c1, c2, c3, c4, c5, f1, f2, f3, f4, f5, a1, a2, a3, a4, r1, r2, r3, k1, k2, n1, n2, n3, n4, n5, n6, n7, t1, t2, t3, t4, w1, w2, m1, m2, m3, m4, m5, m6, z1, z2⟩ := R
  refine ⟨c1, c2, c3, c4, c5, f1, f2, f3, f4, f5, a1, a2, a3, a4, r1, r2, r3, k1, k2, n1, n2, n3, n4, n5, n6, n7, t1, ?_, t3, t4, w1, w2, m1, m2, m3, m4, m5, m6, z1, z2⟩
  · intro a ha
    have q := t2 a ha
    simp only [kU, true_and, and_true]
    split
    · rfl
    · exact q
set_option maxRecDepth 4000 in
theorem U_ts (R : Rl nf na nm tm g h) {n t : Nat} (ht : t ≤ tm) : Rl (nf) (na) (nm) (tm) (kU g.1 6 n 12 (nI t), g.2) (kU h.1 18 0 n (nI t), h.2) := by
  obtain ⟨c1, c2, c3, c4, c5, f1, f2, f3, f4, f5, a1, a2, a3, a4, r1, r2, r3, k1, k2, n1, n2, n3, n4, n5, n6, n7, t1, t2, t3, t4, w1, w2, m1, m2, m3, m4, m5, m6, z1, z2⟩ := R
  refine ⟨c1, c2, c3, c4, c5, f1, f2, f3, f4, f5, a1, a2, a3, a4, r1, r2, r3, k1, k2, n1, n2, n3, n4, n5, n6, n7, t1, t2, ?_, ?_, w1, w2, m1, m2, m3, m4, m5, m6, z1, z2⟩
  · intro a ha
    have q := t3 a ha
    simp only [kU, true_and, and_true]
    split
    · rfl
    · exact q
  · intro a ha
    have q := t4 a ha
    simp only [kU, true_and]
    split
    · exact ⟨t, ht, rfl⟩
    · exact q
set_option maxRecDepth 4000 in
theorem U_kp (R : Rl nf na nm tm g h) {n : Nat} (hn : n < na) (r : Int32) (hr : r = 1 ∨ r = -3) : Rl (nf) (na) (nm) (tm) (xKp g n r) (kU h.1 13 0 n r, h.2) := by
  obtain ⟨c1, c2, c3, c4, c5, f1, f2, f3, f4, f5, a1, a2, a3, a4, r1, r2, r3, k1, k2, n1, n2, n3, n4, n5, n6, n7, t1, t2, t3, t4, w1, w2, m1, m2, m3, m4, m5, m6, z1, z2⟩ := R
  refine ⟨c1, c2, c3, c4, c5, f1, f2, f3, f4, f5, a1, a2, a3, a4, r1, r2, r3, ?_, ?_, n1, n2, n3, n4, n5, n6, n7, t1, t2, t3, t4, w1, w2, m1, m2, m3, m4, m5, m6, z1, z2⟩
  · intro a ha
    have q := k1 a ha
    by_cases e : a = n
    · subst e
      have e1 : (xKp g a r).1 6 a 6 = 1 := (show kU g.1 6 a 6 1 6 a 6 = 1 from kU_s ..)
      have e2 : (xKp g a r).1 6 a 7 = r := kU_s ..
      have e3 : kU h.1 13 0 a r 13 0 a = r := kU_s ..
      refine Or.inr ⟨e1, e3.trans e2.symm, ?_⟩
      rw [e2]
      exact hr
    · have e1 : (xKp g n r).1 6 a 6 = g.1 6 a 6 := (show kU g.1 6 n 6 1 6 a 6 = g.1 6 a 6 from kU_n (by omega))
      have e2 : (xKp g n r).1 6 a 7 = g.1 6 a 7 := (kU_n (by omega))
      have e3 : kU h.1 13 0 n r 13 0 a = h.1 13 0 a := kU_n (by omega)
      show rKp _ _ (kU h.1 13 0 n r 13 0 a)
      rw [e1, e2, e3]
      exact q
  · intro a ha hb
    exact (show kU g.1 6 n 6 1 6 a 6 = g.1 6 a 6 from kU_n (by omega)).trans (k2 a ha hb)
set_option maxRecDepth 4000 in
theorem U_n0 (R : Rl nf na nm tm g h) {n p : Nat} (hp : p < 12) (hc : g.1 9 n 4 = nI p) {f : Nat} (hf : f < nf) : Rl (nf) (na) (nm) (tm) (xAdd0 g n p (nI f)) (mNt0 h n p (nI f)) := by
  obtain ⟨c1, c2, c3, c4, c5, f1, f2, f3, f4, f5, a1, a2, a3, a4, r1, r2, r3, k1, k2, n1, n2, n3, n4, n5, n6, n7, t1, t2, t3, t4, w1, w2, m1, m2, m3, m4, m5, m6, z1, z2⟩ := R
  refine ⟨c1, c2, c3, c4, c5, f1, f2, f3, f4, f5, a1, a2, a3, a4, r1, r2, r3, k1, k2, ?_, ?_, n3, ?_, n5, n6, ?_, t1, t2, t3, t4, w1, w2, m1, m2, m3, m4, m5, m6, z1, z2⟩
  · intro a ha
    have q := n1 a ha
    by_cases e : a = n
    · subst e
      have e1 : (xAdd0 g a p (nI f)).1 9 a 4 = g.1 9 a 4 + 1 := kU_s ..
      have e2 : (mNt0 h a p (nI f)).1 14 0 a = h.1 14 0 a + 1 := kU_s ..
      rw [e1, e2, q.1, hc, nI_1]
      exact ⟨rfl, kN_of (by omega) (by decide)⟩
    · have e1 : (xAdd0 g n p (nI f)).1 9 a 4 = g.1 9 a 4 := kU_n (by omega)
      have e2 : (mNt0 h n p (nI f)).1 14 0 a = h.1 14 0 a := kU_n (by omega)
      rw [e1, e2]
      exact q
  · intro a ha k hk
    have q := n2 a ha k hk
    show kU h.1 15 0 (24 * n + p) (nI f) 15 0 (24 * a + k) = kU g.1 10 n p (nI f) 10 a k
    simp only [kU, true_and, and_true, ix24 hk hp]
    split
    · rfl
    · exact q
  · intro a ha k hk
    have q := n4 a ha k hk
    show kU h.1 21 0 (24 * n + p) 0 21 0 (24 * a + k) = kU g.1 12 n p 0 12 a k
    simp only [kU, true_and, and_true, ix24 hk hp]
    split
    · rfl
    · exact q
  · intro a ha k hk
    show ∃ f_1, f_1 < nf ∧ kU g.1 10 n p (nI f) 10 a k = nI f_1
    by_cases e : a = n
    · subst e
      have e1 : (xAdd0 g a p (nI f)).1 9 a 4 = g.1 9 a 4 + 1 := kU_s ..
      rw [e1, hc, nI_1, tn_nI (by omega)] at hk
      by_cases e2 : k = p
      · subst e2
        exact ⟨f, hf, kU_s ..⟩
      · rw [kU_n (by omega)]
        exact n7 a ha k (by rw [hc, tn_nI (by omega)]; omega)
    · have e1 : (xAdd0 g n p (nI f)).1 9 a 4 = g.1 9 a 4 := kU_n (by omega)
      rw [e1] at hk
      rw [kU_n (by omega)]
      exact n7 a ha k hk
set_option maxRecDepth 4000 in
theorem U_n1 (R : Rl nf na nm tm g h) {n p f : Nat} (hp : p < 12) (v : Int32) (hf : f < 24) : Rl (nf) (na) (nm) (tm) (kU (kU g.1 11 n p (g.1 5 f 0)) 12 n p v, kUJ g.2 13 n p (g.2 5 f 1)) (kU (kU h.1 20 0 (24 * n + p) (h.1 5 0 f)) 21 0 (24 * n + p) v, kUJ h.2 23 0 (24 * n + p) (h.2 6 0 f)) := by
  obtain ⟨c1, c2, c3, c4, c5, f1, f2, f3, f4, f5, a1, a2, a3, a4, r1, r2, r3, k1, k2, n1, n2, n3, n4, n5, n6, n7, t1, t2, t3, t4, w1, w2, m1, m2, m3, m4, m5, m6, z1, z2⟩ := R
  refine ⟨c1, c2, c3, c4, c5, f1, f2, f3, f4, f5, a1, a2, a3, a4, r1, r2, r3, k1, k2, n1, n2, ?_, ?_, ?_, ?_, n7, t1, t2, t3, t4, w1, w2, m1, m2, m3, m4, m5, m6, z1, z2⟩
  · intro a ha k hk
    have q := n3 a ha k hk
    show kU h.1 20 0 (24 * n + p) (h.1 5 0 f) 20 0 (24 * a + k) = kU g.1 11 n p (g.1 5 f 0) 11 a k
    simp only [kU, true_and, and_true, ix24 hk hp]
    split
    · exact f1 f hf
    · exact q
  · intro a ha k hk
    have q := n4 a ha k hk
    show kU h.1 21 0 (24 * n + p) v 21 0 (24 * a + k) = kU g.1 12 n p v 12 a k
    simp only [kU, true_and, and_true, ix24 hk hp]
    split
    · rfl
    · exact q
  · intro a ha k hk
    have q := n5 a ha k hk
    show kUJ h.2 23 0 (24 * n + p) (h.2 6 0 f) 23 0 (24 * a + k) = kUJ g.2 13 n p (g.2 5 f 1) 13 a k
    simp only [kUJ, true_and, and_true, ix24 hk hp]
    split
    · exact f2 f hf
    · exact q
  · intro a ha k hk
    have q := n6 a ha k hk
    show kU g.1 11 n p (g.1 5 f 0) 11 a k = 0 → kUJ g.2 13 n p (g.2 5 f 1) 13 a k = 0
    simp only [kU, kUJ, true_and]
    split
    · exact (f3 f hf).2
    · exact q
theorem Rl.free (R : Rl nf na nm tm g h) {h2 : kG} (e : ∀ k j, k ≠ 22 → h2.1 k 0 j = h.1 k 0 j) (eJ : ∀ k j, k ≠ 0 → h2.2 k 0 j = h.2 k 0 j) (z : ∀ j, kZ (h2.1 22 0 j)) (zz : ∀ j, 12 ≤ j → h2.1 22 0 j = 0) : Rl nf na nm tm g h2 := by
  have e0 : ∀ j, h2.1 0 0 j = h.1 0 0 j := fun j => e 0 j (by decide)
  have e5 : ∀ j, h2.1 5 0 j = h.1 5 0 j := fun j => e 5 j (by decide)
  have e7 : ∀ j, h2.1 7 0 j = h.1 7 0 j := fun j => e 7 j (by decide)
  have e8 : ∀ j, h2.1 8 0 j = h.1 8 0 j := fun j => e 8 j (by decide)
  have e9 : ∀ j, h2.1 9 0 j = h.1 9 0 j := fun j => e 9 j (by decide)
  have e10 : ∀ j, h2.1 10 0 j = h.1 10 0 j := fun j => e 10 j (by decide)
  have e11 : ∀ j, h2.1 11 0 j = h.1 11 0 j := fun j => e 11 j (by decide)
  have e12 : ∀ j, h2.1 12 0 j = h.1 12 0 j := fun j => e 12 j (by decide)
  have e13 : ∀ j, h2.1 13 0 j = h.1 13 0 j := fun j => e 13 j (by decide)
  have e14 : ∀ j, h2.1 14 0 j = h.1 14 0 j := fun j => e 14 j (by decide)
  have e15 : ∀ j, h2.1 15 0 j = h.1 15 0 j := fun j => e 15 j (by decide)
  have e16 : ∀ j, h2.1 16 0 j = h.1 16 0 j := fun j => e 16 j (by decide)
  have e17 : ∀ j, h2.1 17 0 j = h.1 17 0 j := fun j => e 17 j (by decide)
  have e18 : ∀ j, h2.1 18 0 j = h.1 18 0 j := fun j => e 18 j (by decide)
  have e19 : ∀ j, h2.1 19 0 j = h.1 19 0 j := fun j => e 19 j (by decide)
  have e20 : ∀ j, h2.1 20 0 j = h.1 20 0 j := fun j => e 20 j (by decide)
  have e21 : ∀ j, h2.1 21 0 j = h.1 21 0 j := fun j => e 21 j (by decide)
  have e27 : ∀ j, h2.1 27 0 j = h.1 27 0 j := fun j => e 27 j (by decide)
  have e28 : ∀ j, h2.1 28 0 j = h.1 28 0 j := fun j => e 28 j (by decide)
  have j6 : ∀ j, h2.2 6 0 j = h.2 6 0 j := fun j => eJ 6 j (by decide)
  have j23 : ∀ j, h2.2 23 0 j = h.2 23 0 j := fun j => eJ 23 j (by decide)
  have j29 : ∀ j, h2.2 29 0 j = h.2 29 0 j := fun j => eJ 29 j (by decide)
  have j30 : ∀ j, h2.2 30 0 j = h.2 30 0 j := fun j => eJ 30 j (by decide)
  have j31 : ∀ j, h2.2 31 0 j = h.2 31 0 j := fun j => eJ 31 j (by decide)
  obtain ⟨c1, c2, c3, c4, c5, f1, f2, f3, f4, f5, a1, a2, a3, a4, r1, r2, r3, k1, k2, n1, n2, n3, n4, n5, n6, n7, t1, t2, t3, t4, w1, w2, m1, m2, m3, m4, m5, m6, z1, z2⟩ := R
  unfold Rl
  simp only [e0, e5, e7, e8, e9, e10, e11, e12, e13, e14, e15, e16, e17, e18, e19, e20, e21, e27, e28, j6, j23, j29, j30, j31]
  exact ⟨c1, c2, c3, c4, c5, f1, f2, f3, f4, f5, a1, a2, a3, a4, r1, r2, r3, k1, k2, n1, n2, n3, n4, n5, n6, n7, t1, t2, t3, t4, w1, w2, m1, m2, m3, m4, m5, m6, z, zz⟩
set_option maxRecDepth 4000 in
theorem O_file (R : Rl nf na nm tm g h) (hn : nf < 24) (d : Int64) : Rl (nf + 1) (na) (nm) (tm) (kU (xPut g nf d).1 0 0 4 (nI (nf + 1)), (xPut g nf d).2) (kU (kU (kU (m0 h).1 5 0 nf 1) 7 0 nf (-1)) 0 0 2 (nI (nf + 1)), kUJ h.2 6 0 nf d) := by
  obtain ⟨c1, c2, c3, c4, c5, f1, f2, f3, f4, f5, a1, a2, a3, a4, r1, r2, r3, k1, k2, n1, n2, n3, n4, n5, n6, n7, t1, t2, t3, t4, w1, w2, m1, m2, m3, m4, m5, m6, z1, z2⟩ := R
  refine ⟨?_, ?_, c3, c4, c5, ?_, ?_, ?_, ?_, ?_, a1, ?_, a3, ?_, r1, r2, ?_, k1, k2, n1, n2, n3, n4, n5, n6, ?_, t1, t2, t3, t4, w1, w2, m1, m2, m3, ?_, m5, m6, z1, z2⟩
  · omega
  · exact ⟨rfl, rfl⟩
  · intro a ha
    have q := f1 a ha
    show kU h.1 5 0 nf 1 5 0 a = kU g.1 5 nf 0 1 5 a 0
    simp only [kU, true_and, and_true]
    split
    · rfl
    · exact q
  · intro a ha
    have q := f2 a ha
    show kUJ h.2 6 0 nf d 6 0 a = kUJ g.2 5 nf 1 d 5 a 1
    simp only [kUJ, true_and, and_true]
    split
    · rfl
    · exact q
  · intro a ha
    have q := f3 a ha
    show kZ (kU g.1 5 nf 0 1 5 a 0) ∧ (kU g.1 5 nf 0 1 5 a 0 = 0 → kUJ g.2 5 nf 1 d 5 a 1 = 0)
    simp only [kU, kUJ, true_and]
    split
    · exact ⟨Or.inr rfl, fun q => absurd q (by decide)⟩
    · exact q
  · intro a ha
    show kU h.1 7 0 nf (-1) 7 0 a = g.1 5 a 2 ∧ rI (g.1 5 a 2) na
    by_cases e : a = nf
    · subst e
      rw [(f5 a hn (Nat.le_refl _)).2]
      exact ⟨kU_s .., Or.inl rfl⟩
    · rw [kU_n (by omega)]
      exact f4 a (by omega)
  · intro a ha hb
    show kU h.1 7 0 nf (-1) 7 0 a = 0 ∧ g.1 5 a 2 = -1
    rw [kU_n (by omega)]
    exact f5 a ha (by omega)
  · exact fun a ha => ⟨(a2 a ha).1, (a2 a ha).2.mono (by omega)⟩
  · intro a ha f hf q
    refine a4 a ha f ?_ q
    rcases (a2 a ha).2 with e | ⟨b, hb, e⟩
    · exact absurd (q.symm.trans e) (nI_m1 (by omega))
    · have := nI_inj (by omega) (by omega) (q.symm.trans e)
      omega
  · exact fun a ha k hk => (r3 a ha k hk).mono (by omega)
  · exact fun a ha k hk => ⟨(n7 a ha k hk).choose, by have := (n7 a ha k hk).choose_spec.1; omega, (n7 a ha k hk).choose_spec.2⟩
  · exact fun a ha => ⟨(m4 a ha).choose, by have := (m4 a ha).choose_spec.1; omega, (m4 a ha).choose_spec.2⟩
set_option maxRecDepth 4000 in
theorem O_action (R : Rl nf na nm tm g h) (hn : na < 12) (al : Int32) : Rl (nf) (na + 1) (nm) (tm) (kU (kU g.1 6 na 3 al) 0 0 5 (nI (na + 1)), g.2) (kU (kU (kU (kU (kU (m0 h).1 8 0 na al) 9 0 na (-1)) 13 0 na 2) 19 0 na (-1)) 0 0 3 (nI (na + 1)), h.2) := by
  obtain ⟨c1, c2, c3, c4, c5, f1, f2, f3, f4, f5, a1, a2, a3, a4, r1, r2, r3, k1, k2, n1, n2, n3, n4, n5, n6, n7, t1, t2, t3, t4, w1, w2, m1, m2, m3, m4, m5, m6, z1, z2⟩ := R
  refine ⟨?_, c2, ?_, c4, c5, f1, f2, f3, ?_, f5, ?_, ?_, ?_, ?_, r1, r2, r3, ?_, ?_, n1, n2, n3, n4, n5, n6, n7, t1, t2, t3, t4, ?_, ?_, m1, m2, m3, m4, m5, m6, z1, z2⟩
  · omega
  · exact ⟨rfl, rfl⟩
  · exact fun a ha => ⟨(f4 a ha).1, (f4 a ha).2.mono (by omega)⟩
  · intro a ha
    have q := a1 a ha
    show kU h.1 8 0 na al 8 0 a = kU g.1 6 na 3 al 6 a 3
    simp only [kU, true_and, and_true]
    split
    · rfl
    · exact q
  · intro a ha
    show kU h.1 9 0 na (-1) 9 0 a = g.1 6 a 4 ∧ rI (g.1 6 a 4) nf
    by_cases e : a = na
    · subst e
      rw [(a3 a hn (Nat.le_refl _)).2]
      exact ⟨kU_s .., Or.inl rfl⟩
    · rw [kU_n (by omega)]
      exact a2 a (by omega)
  · intro a ha hb
    show kU h.1 9 0 na (-1) 9 0 a = 0 ∧ g.1 6 a 4 = -1
    rw [kU_n (by omega)]
    exact a3 a ha (by omega)
  · intro a ha f hf q
    by_cases e : a = na
    · subst e
      exact absurd (q.symm.trans (a3 a hn (Nat.le_refl _)).2) (nI_m1 (by omega))
    · exact a4 a (by omega) f hf q
  · intro a ha
    show rKp (g.1 6 a 6) (g.1 6 a 7) (kU h.1 13 0 na 2 13 0 a)
    by_cases e : a = na
    · subst e
      rw [kU_s]
      exact Or.inl ⟨k2 a hn (Nat.le_refl _), rfl⟩
    · rw [kU_n (by omega)]
      exact k1 a (by omega)
  · exact fun a ha hb => k2 a ha (by omega)
  · intro a ha
    show kU h.1 19 0 na (-1) 19 0 a = g.1 6 a 9
    by_cases e : a = na
    · subst e
      rw [kU_s, w2 a hn (Nat.le_refl _)]
    · rw [kU_n (by omega)]
      exact w1 a (by omega)
  · exact fun a ha hb => w2 a ha (by omega)
set_option maxRecDepth 4000 in
theorem O_row0 (R : Rl nf na nm tm g h) {n r : Nat} (hn : n < na) (hr : r < 12) (hc : g.1 6 n 2 = nI r) {k w : Int32} (hv : rRw k w nf) : Rl (nf) (na) (nm) (tm) (kU (kU (kU g.1 7 n r k) 8 n r w) 6 n 2 (nI (r + 1)), g.2) (kU (kU (kU h.1 11 0 (12 * n + r) k) 12 0 (12 * n + r) w) 10 0 n (nI (r + 1)), h.2) := by
  obtain ⟨c1, c2, c3, c4, c5, f1, f2, f3, f4, f5, a1, a2, a3, a4, r1, r2, r3, k1, k2, n1, n2, n3, n4, n5, n6, n7, t1, t2, t3, t4, w1, w2, m1, m2, m3, m4, m5, m6, z1, z2⟩ := R
  refine ⟨c1, c2, c3, c4, c5, f1, f2, f3, f4, f5, a1, a2, a3, a4, ?_, ?_, ?_, k1, k2, n1, n2, n3, n4, n5, n6, n7, t1, t2, t3, t4, w1, w2, m1, m2, m3, m4, m5, m6, z1, z2⟩
  · intro a ha
    show kU h.1 10 0 n (nI (r + 1)) 10 0 a = kU g.1 6 n 2 (nI (r + 1)) 6 a 2 ∧ kN (kU g.1 6 n 2 (nI (r + 1)) 6 a 2) 12
    by_cases e : a = n
    · subst e
      rw [kU_s, kU_s]
      exact ⟨rfl, kN_of (by omega) (by decide)⟩
    · rw [kU_n (by omega), kU_n (by omega)]
      exact r1 a ha
  · intro a ha j hj
    have q := r2 a ha j hj
    show kU h.1 11 0 (12 * n + r) k 11 0 (12 * a + j) = kU g.1 7 n r k 7 a j ∧ kU h.1 12 0 (12 * n + r) w 12 0 (12 * a + j) = kU g.1 8 n r w 8 a j
    simp only [kU, true_and, and_true, ix12 hj hr]
    split
    · exact ⟨rfl, rfl⟩
    · exact q
  · intro a ha j
    show j < tn (kU g.1 6 n 2 (nI (r + 1)) 6 a 2) → rRw (kU g.1 7 n r k 7 a j) (kU g.1 8 n r w 8 a j) nf
    by_cases e : a = n
    · subst e
      rw [kU_s, tn_nI (by omega)]
      intro hj
      by_cases e2 : j = r
      · subst e2
        rw [kU_s, kU_s]
        exact hv
      · rw [kU_n (by omega), kU_n (by omega)]
        exact r3 a ha j (by rw [hc, tn_nI (by omega)]; omega)
    · rw [kU_n (by omega)]
      intro hj
      rw [kU_n (by omega), kU_n (by omega)]
      exact r3 a ha j hj
set_option maxRecDepth 4000 in
theorem O_mapping (R : Rl nf na nm tm g h) (hn : nm < 6) {f : Nat} (hf : f < nf) (s : Int64) : Rl (nf) (na) (nm + 1) (tm) (kU (kU g.1 14 nm 0 (nI f)) 0 0 6 (nI (nm + 1)), kUJ g.2 14 nm 1 s) (kU (kU (m0 h).1 27 0 nm (nI f)) 0 0 4 (nI (nm + 1)), kUJ h.2 29 0 nm s) := by
  obtain ⟨c1, c2, c3, c4, c5, f1, f2, f3, f4, f5, a1, a2, a3, a4, r1, r2, r3, k1, k2, n1, n2, n3, n4, n5, n6, n7, t1, t2, t3, t4, w1, w2, m1, m2, m3, m4, m5, m6, z1, z2⟩ := R
  refine ⟨?_, c2, c3, ?_, c5, f1, f2, f3, f4, f5, a1, a2, a3, a4, r1, r2, r3, k1, k2, n1, n2, n3, n4, n5, n6, n7, t1, t2, t3, t4, w1, w2, ?_, m2, ?_, ?_, ?_, ?_, z1, z2⟩
  · omega
  · exact ⟨rfl, rfl⟩
  · intro i hi
    show kU h.1 27 0 nm (nI f) 27 0 i = kU g.1 14 nm 0 (nI f) 14 i 0 ∧ ∃ f2, f2 < 24 ∧ kU g.1 14 nm 0 (nI f) 14 i 0 = nI f2
    by_cases e : i = nm
    · subst e
      rw [kU_s, kU_s]
      exact ⟨rfl, f, by omega, rfl⟩
    · rw [kU_n (by omega), kU_n (by omega)]
      exact m1 i hi
  · intro a ha
    have q := m3 a ha
    show kUJ h.2 29 0 nm s 29 0 a = kUJ g.2 14 nm 1 s 14 a 1
    simp only [kUJ, true_and, and_true]
    split
    · rfl
    · exact q
  · intro i hi
    show ∃ f2, f2 < nf ∧ kU g.1 14 nm 0 (nI f) 14 i 0 = nI f2
    by_cases e : i = nm
    · subst e
      exact ⟨f, hf, kU_s ..⟩
    · rw [kU_n (by omega)]
      exact m4 i (by omega)
  · intro i hi k hk
    have hk2 : k < tn (g.1 14 i 3) := hk
    have e : i ≠ nm := by
      intro e
      subst e
      rw [m6 i hn (Nat.le_refl _)] at hk2
      exact absurd hk2 (Nat.not_lt_zero _)
    show h.2 30 0 (4 * i + k) = xMem (g.2 14 i 2) (nI k) ∧ h.2 31 0 (4 * i + k) = 17 * xMem (g.2 14 i 2) (nI k) + kUJ g.2 14 nm 1 s 14 i 1
    rw [kUJ_n (by omega)]
    exact m5 i hi k hk2
  · exact fun i hi hb => m6 i hi (by omega)
set_option maxRecDepth 4000 in
theorem U_try (R : Rl nf na nm tm g h) {n t : Nat} (hn : n < na) (v : Int32) (ht : t ≤ tm) : Rl (nf) (na) (nm) (tm) ((xFgt (kU (kU g.1 6 n 11 v) 6 n 12 (nI t), g.2) n).1, kUJ g.2 6 n 8 7) (mTry0 (kU (kU h.1 18 0 n (nI t)) 17 0 n v, h.2) n) := by
  obtain ⟨c1, c2, c3, c4, c5, f1, f2, f3, f4, f5, a1, a2, a3, a4, r1, r2, r3, k1, k2, n1, n2, n3, n4, n5, n6, n7, t1, t2, t3, t4, w1, w2, m1, m2, m3, m4, m5, m6, z1, z2⟩ := R
  refine ⟨c1, c2, c3, c4, c5, f1, f2, f3, f4, f5, a1, a2, a3, a4, r1, r2, r3, ?_, ?_, ?_, n2, n3, n4, n5, n6, ?_, t1, ?_, ?_, ?_, w1, w2, m1, m2, m3, m4, m5, m6, z1, z2⟩
  · intro a ha
    by_cases e : a = n
    · subst e
      exact Or.inl ⟨show kU g.1 6 a 6 0 6 a 6 = 0 from kU_s .., show kU h.1 13 0 a 2 13 0 a = 2 from kU_s ..⟩
    · show rKp (kU g.1 6 n 6 0 6 a 6) (g.1 6 a 7) (kU h.1 13 0 n 2 13 0 a)
      rw [kU_n (by omega), kU_n (by omega)]
      exact k1 a ha
  · intro a ha hb
    exact (show kU g.1 6 n 6 0 6 a 6 = g.1 6 a 6 from kU_n (by omega)).trans (k2 a ha hb)
  · intro a ha
    show kU h.1 14 0 n 0 14 0 a = kU g.1 9 n 4 0 9 a 4 ∧ kN (kU g.1 9 n 4 0 9 a 4) 12
    by_cases e : a = n
    · subst e
      rw [kU_s, kU_s]
      exact ⟨rfl, kN_of (k := 0) (by omega) (by decide)⟩
    · rw [kU_n (by omega), kU_n (by omega)]
      exact n1 a ha
  · intro a ha k
    show k < tn (kU g.1 9 n 4 0 9 a 4) → ∃ f, f < nf ∧ g.1 10 a k = nI f
    by_cases e : a = n
    · subst e
      rw [kU_s]
      intro hk
      exact absurd hk (Nat.not_lt_zero _)
    · rw [kU_n (by omega)]
      exact n7 a ha k
  · intro a ha
    have q := t2 a ha
    show kU h.1 17 0 n v 17 0 a = kU g.1 6 n 11 v 6 a 11
    simp only [kU, true_and, and_true]
    split
    · rfl
    · exact q
  · intro a ha
    have q := t3 a ha
    show kU h.1 18 0 n (nI t) 18 0 a = kU g.1 6 n 12 (nI t) 6 a 12
    simp only [kU, true_and, and_true]
    split
    · rfl
    · exact q
  · intro a ha
    have q := t4 a ha
    show ∃ t2, t2 ≤ tm ∧ kU g.1 6 n 12 (nI t) 6 a 12 = nI t2
    simp only [kU, true_and]
    split
    · exact ⟨t, ht, rfl⟩
    · exact q
set_option maxRecDepth 4000 in
theorem U_stop (R : Rl nf na nm tm g h) {n : Nat} (hn : n < na) : Rl (nf) (na) (nm) (tm) (kU (xFgt g n).1 6 n 12 0, g.2) (mFgt (kU h.1 18 0 n 0, h.2) n) := by
  obtain ⟨c1, c2, c3, c4, c5, f1, f2, f3, f4, f5, a1, a2, a3, a4, r1, r2, r3, k1, k2, n1, n2, n3, n4, n5, n6, n7, t1, t2, t3, t4, w1, w2, m1, m2, m3, m4, m5, m6, z1, z2⟩ := R
  refine ⟨c1, c2, c3, c4, c5, f1, f2, f3, f4, f5, a1, a2, a3, a4, r1, r2, r3, ?_, ?_, ?_, n2, n3, n4, n5, n6, ?_, t1, t2, ?_, ?_, w1, w2, m1, m2, m3, m4, m5, m6, z1, z2⟩
  · intro a ha
    by_cases e : a = n
    · subst e
      exact Or.inl ⟨show kU g.1 6 a 6 0 6 a 6 = 0 from kU_s .., show kU h.1 13 0 a 2 13 0 a = 2 from kU_s ..⟩
    · show rKp (kU g.1 6 n 6 0 6 a 6) (g.1 6 a 7) (kU h.1 13 0 n 2 13 0 a)
      rw [kU_n (by omega), kU_n (by omega)]
      exact k1 a ha
  · intro a ha hb
    exact (show kU g.1 6 n 6 0 6 a 6 = g.1 6 a 6 from kU_n (by omega)).trans (k2 a ha hb)
  · intro a ha
    show kU h.1 14 0 n 0 14 0 a = kU g.1 9 n 4 0 9 a 4 ∧ kN (kU g.1 9 n 4 0 9 a 4) 12
    by_cases e : a = n
    · subst e
      rw [kU_s, kU_s]
      exact ⟨rfl, kN_of (k := 0) (by omega) (by decide)⟩
    · rw [kU_n (by omega), kU_n (by omega)]
      exact n1 a ha
  · intro a ha k
    show k < tn (kU g.1 9 n 4 0 9 a 4) → ∃ f, f < nf ∧ g.1 10 a k = nI f
    by_cases e : a = n
    · subst e
      rw [kU_s]
      intro hk
      exact absurd hk (Nat.not_lt_zero _)
    · rw [kU_n (by omega)]
      exact n7 a ha k
  · intro a ha
    have q := t3 a ha
    show kU h.1 18 0 n 0 18 0 a = kU g.1 6 n 12 0 6 a 12
    simp only [kU, true_and, and_true]
    split
    · rfl
    · exact q
  · intro a ha
    have q := t4 a ha
    show ∃ t2, t2 ≤ tm ∧ kU g.1 6 n 12 0 6 a 12 = nI t2
    simp only [kU, true_and]
    split
    · exact ⟨0, Nat.zero_le _, rfl⟩
    · exact q
set_option maxRecDepth 4000 in
theorem U_sum (R : Rl nf na nm tm g h) (n : Nat) (v : Int64) : Rl (nf) (na) (nm) (tm) (g.1, kUJ g.2 6 n 8 v) h := by
  obtain ⟨c1, c2, c3, c4, c5, f1, f2, f3, f4, f5, a1, a2, a3, a4, r1, r2, r3, k1, k2, n1, n2, n3, n4, n5, n6, n7, t1, t2, t3, t4, w1, w2, m1, m2, m3, m4, m5, m6, z1, z2⟩ := R
  refine ⟨c1, c2, c3, c4, c5, f1, f2, f3, f4, f5, a1, a2, a3, a4, r1, r2, r3, k1, k2, n1, n2, n3, n4, n5, n6, n7, t1, t2, t3, t4, w1, w2, m1, m2, m3, m4, m5, m6, z1, z2⟩
set_option maxRecDepth 4000 in
theorem U_way (R : Rl nf na nm tm g h) (n : Nat) (v : Int32) : Rl (nf) (na) (nm) (tm) (kU g.1 4 0 n v, g.2) h := by
  obtain ⟨c1, c2, c3, c4, c5, f1, f2, f3, f4, f5, a1, a2, a3, a4, r1, r2, r3, k1, k2, n1, n2, n3, n4, n5, n6, n7, t1, t2, t3, t4, w1, w2, m1, m2, m3, m4, m5, m6, z1, z2⟩ := R
  refine ⟨c1, c2, c3, c4, c5, f1, f2, f3, f4, f5, a1, a2, a3, a4, r1, r2, r3, k1, k2, n1, n2, n3, n4, n5, n6, n7, t1, t2, t3, t4, w1, w2, m1, m2, m3, m4, m5, m6, z1, z2⟩
set_option maxRecDepth 4000 in
theorem U_wayh (R : Rl nf na nm tm g h) (n : Nat) (v : Int32) : Rl (nf) (na) (nm) (tm) g (kU h.1 25 0 n v, h.2) := by
  obtain ⟨c1, c2, c3, c4, c5, f1, f2, f3, f4, f5, a1, a2, a3, a4, r1, r2, r3, k1, k2, n1, n2, n3, n4, n5, n6, n7, t1, t2, t3, t4, w1, w2, m1, m2, m3, m4, m5, m6, z1, z2⟩ := R
  refine ⟨c1, c2, c3, c4, c5, f1, f2, f3, f4, f5, a1, a2, a3, a4, r1, r2, r3, k1, k2, n1, n2, n3, n4, n5, n6, n7, t1, t2, t3, t4, w1, w2, m1, m2, m3, m4, m5, m6, z1, z2⟩
set_option maxRecDepth 4000 in
theorem U_rg (R : Rl nf na nm tm g h) (v w : Int32) : Rl (nf) (na) (nm) (tm) (kU (kU g.1 0 0 8 v) 0 0 9 w, g.2) h := by
  obtain ⟨c1, c2, c3, c4, c5, f1, f2, f3, f4, f5, a1, a2, a3, a4, r1, r2, r3, k1, k2, n1, n2, n3, n4, n5, n6, n7, t1, t2, t3, t4, w1, w2, m1, m2, m3, m4, m5, m6, z1, z2⟩ := R
  refine ⟨c1, c2, c3, c4, c5, f1, f2, f3, f4, f5, a1, a2, a3, a4, r1, r2, r3, k1, k2, n1, n2, n3, n4, n5, n6, n7, t1, t2, t3, t4, w1, w2, m1, m2, m3, m4, m5, m6, z1, z2⟩
set_option maxRecDepth 4000 in
theorem U_rl (R : Rl nf na nm tm g h) (v : Int32) : Rl (nf) (na) (nm) (tm) (kU g.1 0 0 9 v, g.2) h := by
  obtain ⟨c1, c2, c3, c4, c5, f1, f2, f3, f4, f5, a1, a2, a3, a4, r1, r2, r3, k1, k2, n1, n2, n3, n4, n5, n6, n7, t1, t2, t3, t4, w1, w2, m1, m2, m3, m4, m5, m6, z1, z2⟩ := R
  refine ⟨c1, c2, c3, c4, c5, f1, f2, f3, f4, f5, a1, a2, a3, a4, r1, r2, r3, k1, k2, n1, n2, n3, n4, n5, n6, n7, t1, t2, t3, t4, w1, w2, m1, m2, m3, m4, m5, m6, z1, z2⟩
set_option maxRecDepth 4000 in
theorem U_rgh (R : Rl nf na nm tm g h) (p : Nat) (v w : Int32) : Rl (nf) (na) (nm) (tm) g (kU (kU h.1 24 0 p v) 0 0 26 w, h.2) := by
  obtain ⟨c1, c2, c3, c4, c5, f1, f2, f3, f4, f5, a1, a2, a3, a4, r1, r2, r3, k1, k2, n1, n2, n3, n4, n5, n6, n7, t1, t2, t3, t4, w1, w2, m1, m2, m3, m4, m5, m6, z1, z2⟩ := R
  refine ⟨c1, c2, c3, c4, c5, f1, f2, f3, f4, f5, a1, a2, a3, a4, r1, r2, r3, k1, k2, n1, n2, n3, n4, n5, n6, n7, t1, t2, t3, t4, w1, w2, m1, m2, m3, m4, m5, m6, z1, z2⟩
set_option maxRecDepth 4000 in
theorem U_26 (R : Rl nf na nm tm g h) (v : Int32) : Rl (nf) (na) (nm) (tm) g (kU h.1 0 0 26 v, h.2) := by
  obtain ⟨c1, c2, c3, c4, c5, f1, f2, f3, f4, f5, a1, a2, a3, a4, r1, r2, r3, k1, k2, n1, n2, n3, n4, n5, n6, n7, t1, t2, t3, t4, w1, w2, m1, m2, m3, m4, m5, m6, z1, z2⟩ := R
  refine ⟨c1, c2, c3, c4, c5, f1, f2, f3, f4, f5, a1, a2, a3, a4, r1, r2, r3, k1, k2, n1, n2, n3, n4, n5, n6, n7, t1, t2, t3, t4, w1, w2, m1, m2, m3, m4, m5, m6, z1, z2⟩
set_option maxRecDepth 4000 in
theorem U_m0 (R : Rl nf na nm tm g h)  : Rl (nf) (na) (nm) (tm) g (m0 h) := by
  obtain ⟨c1, c2, c3, c4, c5, f1, f2, f3, f4, f5, a1, a2, a3, a4, r1, r2, r3, k1, k2, n1, n2, n3, n4, n5, n6, n7, t1, t2, t3, t4, w1, w2, m1, m2, m3, m4, m5, m6, z1, z2⟩ := R
  refine ⟨c1, c2, c3, c4, c5, f1, f2, f3, f4, f5, a1, a2, a3, a4, r1, r2, r3, k1, k2, n1, n2, n3, n4, n5, n6, n7, t1, t2, t3, t4, w1, w2, m1, m2, m3, m4, m5, m6, z1, z2⟩
set_option maxRecDepth 4000 in
theorem O_makes (R : Rl nf na nm tm g h) {n f : Nat} (hn : n < na) (hf : f < nf) (hm : g.1 6 n 4 = -1) (hk : g.1 5 f 2 = -1) : Rl (nf) (na) (nm) (tm) (xRem (kU (xFgt (kU g.1 6 n 4 (nI f), g.2) n).1 5 f 2 (nI n), g.2) f) (mFgt (kU (kU (kU (m0 h).1 9 0 n (nI f)) 7 0 f (nI n)) 5 0 f 0, kUJ h.2 6 0 f 0) n) := by
  obtain ⟨c1, c2, c3, c4, c5, f1, f2, f3, f4, f5, a1, a2, a3, a4, r1, r2, r3, k1, k2, n1, n2, n3, n4, n5, n6, n7, t1, t2, t3, t4, w1, w2, m1, m2, m3, m4, m5, m6, z1, z2⟩ := R
  refine ⟨c1, c2, c3, c4, c5, ?_, ?_, ?_, ?_, ?_, a1, ?_, ?_, ?_, r1, r2, r3, ?_, ?_, ?_, n2, n3, n4, n5, n6, ?_, t1, t2, t3, t4, w1, w2, m1, m2, m3, m4, m5, m6, z1, z2⟩
  · intro a ha
    have q := f1 a ha
    show kU h.1 5 0 f 0 5 0 a = kU g.1 5 f 0 0 5 a 0
    simp only [kU, true_and, and_true]
    split
    · rfl
    · exact q
  · intro a ha
    have q := f2 a ha
    show kUJ h.2 6 0 f 0 6 0 a = kUJ g.2 5 f 1 0 5 a 1
    simp only [kUJ, true_and, and_true]
    split
    · rfl
    · exact q
  · intro a ha
    have q := f3 a ha
    show kZ (kU g.1 5 f 0 0 5 a 0) ∧ (kU g.1 5 f 0 0 5 a 0 = 0 → kUJ g.2 5 f 1 0 5 a 1 = 0)
    simp only [kU, kUJ, true_and]
    split
    · exact ⟨Or.inl rfl, fun _ => rfl⟩
    · exact q
  · intro a ha
    show kU h.1 7 0 f (nI n) 7 0 a = kU g.1 5 f 2 (nI n) 5 a 2 ∧ rI (kU g.1 5 f 2 (nI n) 5 a 2) na
    by_cases e : a = f
    · subst e
      rw [kU_s, kU_s]
      exact ⟨rfl, Or.inr ⟨n, hn, rfl⟩⟩
    · rw [kU_n (by omega), kU_n (by omega)]
      exact f4 a ha
  · intro a ha hb
    show kU h.1 7 0 f (nI n) 7 0 a = 0 ∧ kU g.1 5 f 2 (nI n) 5 a 2 = -1
    rw [kU_n (by omega), kU_n (by omega)]
    exact f5 a ha hb
  · intro a ha
    show kU h.1 9 0 n (nI f) 9 0 a = kU g.1 6 n 4 (nI f) 6 a 4 ∧ rI (kU g.1 6 n 4 (nI f) 6 a 4) nf
    by_cases e : a = n
    · subst e
      rw [kU_s, kU_s]
      exact ⟨rfl, Or.inr ⟨f, hf, rfl⟩⟩
    · rw [kU_n (by omega), kU_n (by omega)]
      exact a2 a ha
  · intro a ha hb
    show kU h.1 9 0 n (nI f) 9 0 a = 0 ∧ kU g.1 6 n 4 (nI f) 6 a 4 = -1
    rw [kU_n (by omega), kU_n (by omega)]
    exact a3 a ha hb
  · intro a ha f2 hf2
    show kU g.1 6 n 4 (nI f) 6 a 4 = nI f2 → kU g.1 5 f 2 (nI n) 5 f2 2 = nI a
    by_cases e : a = n
    · subst e
      rw [kU_s]
      intro q
      have := nI_inj (by omega) (by omega) q
      subst this
      rw [kU_s]
    · rw [kU_n (by omega)]
      intro q
      have q2 := a4 a ha f2 hf2 q
      by_cases e2 : f2 = f
      · subst e2
        exact absurd (q2.symm.trans hk) (nI_m1 (by omega))
      · rw [kU_n (by omega)]
        exact q2
  · intro a ha
    by_cases e : a = n
    · subst e
      exact Or.inl ⟨show kU g.1 6 a 6 0 6 a 6 = 0 from kU_s .., show kU h.1 13 0 a 2 13 0 a = 2 from kU_s ..⟩
    · show rKp (kU g.1 6 n 6 0 6 a 6) (g.1 6 a 7) (kU h.1 13 0 n 2 13 0 a)
      rw [kU_n (by omega), kU_n (by omega)]
      exact k1 a ha
  · intro a ha hb
    exact (show kU g.1 6 n 6 0 6 a 6 = g.1 6 a 6 from kU_n (by omega)).trans (k2 a ha hb)
  · intro a ha
    show kU h.1 14 0 n 0 14 0 a = kU g.1 9 n 4 0 9 a 4 ∧ kN (kU g.1 9 n 4 0 9 a 4) 12
    by_cases e : a = n
    · subst e
      rw [kU_s, kU_s]
      exact ⟨rfl, kN_of (k := 0) (by omega) (by decide)⟩
    · rw [kU_n (by omega), kU_n (by omega)]
      exact n1 a ha
  · intro a ha k
    show k < tn (kU g.1 9 n 4 0 9 a 4) → ∃ f, f < nf ∧ g.1 10 a k = nI f
    by_cases e : a = n
    · subst e
      rw [kU_s]
      intro hk
      exact absurd hk (Nat.not_lt_zero _)
    · rw [kU_n (by omega)]
      exact n7 a ha k
end RL
