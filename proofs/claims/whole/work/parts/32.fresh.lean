/-! freshness: both programs find the least set -/
def Hd (g : kG) (a : Nat) (S : Nat → Prop) : Prop := ¬ g.1 6 a 6 = 0 ∧ ∀ k, k < tn (g.1 9 a 4) → (g.1 11 a k = g.1 5 (tn (g.1 10 a k)) 0 ∧ (g.1 12 a k = 0 ∨ g.2 13 a k = g.2 5 (tn (g.1 10 a k)) 1)) ∧ (g.1 5 (tn (g.1 10 a k)) 2 = -1 ∨ S (tn (g.1 5 (tn (g.1 10 a k)) 2)))
def Fs (g : kG) (na a : Nat) : Prop := ∀ S : Nat → Prop, (∀ b, b < na → Hd g b S → S b) → S a
theorem Hd.mono {g : kG} {a : Nat} {S T : Nat → Prop} (H : Hd g a S) (h : ∀ b, S b → T b) : Hd g a T := ⟨H.1, fun k hk => ⟨(H.2 k hk).1, (H.2 k hk).2.imp id (h _)⟩⟩
theorem Fs_cl {g : kG} {na b : Nat} (hb : b < na) (H : Hd g b (Fs g na)) : Fs g na b := fun S hS => hS b hb (H.mono (fun c hc => hc S hS))
theorem Fs_lt {g : kG} {na b : Nat} (H : Fs g na b) : b < na := H (fun c => c < na) (fun c hc _ => hc)
theorem lg0 (x y : Int64) : lg_cmp x y = 0 ↔ x = y := by
  unfold lg_cmp
  constructor
  · intro h
    split at h
    · exact absurd h (by decide)
    · next h1 =>
      split at h
      · next h2 => exact h2
      · exact absurd h (by decide)
  · intro h
    subst h
    rw [if_neg Int64.lt_irrefl, if_pos rfl]
section FR
variable {nf na nm tm : Nat} {g h : kG}
theorem xLike_iff (R : Rl nf na nm tm g h) {a k f : Nat} (hk : k < 12) : ¬ xLike g a (nI k) f = 0 ↔ (g.1 11 a k = g.1 5 f 0 ∧ (g.1 12 a k = 0 ∨ g.2 13 a k = g.2 5 f 1)) := by
  unfold xLike
  rw [show (nI k).toNatClampNeg = k from nI_clamp (by omega)]
  split
  · next h1 =>
    split
    · next h2 => exact ⟨fun _ => ⟨h1, Or.inl h2⟩, fun _ => by decide⟩
    · next h2 =>
      split
      · next h3 => exact ⟨fun _ => ⟨h1, Or.inr ((lg0 _ _).mp h3)⟩, fun _ => by decide⟩
      · next h3 => exact ⟨fun q => absurd rfl q, fun q => (q.2.elim h2 (fun q => h3 ((lg0 _ _).mpr q))).elim⟩
  · next h1 => exact ⟨fun q => absurd rfl q, fun q => absurd q.1 h1⟩
theorem xFr_iff (R : Rl nf na nm tm g h) {f : Nat} (hf : f < nf) (m : Int32) : ¬ xFr g f m = 0 ↔ (g.1 5 f 2 = -1 ∨ bt m (tn (g.1 5 f 2)) = true) := by
  unfold xFr xMade
  rcases (R.f4 f hf).2 with e | ⟨b, hb, e⟩
  · rw [if_pos e, if_pos rfl]
    exact ⟨fun _ => Or.inl e, fun _ => by decide⟩
  · have h12 : na ≤ 12 := R.c1.2.1
    have e1 : ¬ g.1 5 f 2 = -1 := by rw [e]; exact nI_m1 (by omega)
    rw [if_neg e1, if_neg (by decide), e, tn_nI (by omega)]
    split
    · next q =>
      have q2 := (xBit_b (by omega)).mp q
      exact ⟨fun z => absurd rfl z, fun z => z.elim (fun z => absurd z (nI_m1 (by omega))) (fun z => by rw [q2] at z; cases z)⟩
    · next q =>
      refine ⟨fun _ => Or.inr ?_, fun _ => by decide⟩
      cases z : bt m b with
      | true => rfl
      | false => exact absurd ((xBit_b (by omega)).mpr z) q
theorem xHo_iff (R : Rl nf na nm tm g h) {a : Nat} (ha : a < 12) (m : Int32) : ∀ n k, k + n ≤ tn (g.1 9 a 4) → (¬ xHo g a m n k = 0 ↔ ∀ j, k ≤ j → j < k + n → (g.1 11 a j = g.1 5 (tn (g.1 10 a j)) 0 ∧ (g.1 12 a j = 0 ∨ g.2 13 a j = g.2 5 (tn (g.1 10 a j)) 1)) ∧ (g.1 5 (tn (g.1 10 a j)) 2 = -1 ∨ bt m (tn (g.1 5 (tn (g.1 10 a j)) 2)) = true))
  | 0, k, _ => ⟨fun _ j h1 h2 => by omega, fun _ => by show ¬ (1 : Int32) = 0; decide⟩
  | n + 1, k, hkn => by
    have hc := (R.n1 a ha).2
    have hk : k < 12 := by have := hc.2; omega
    obtain ⟨f, hf, ef⟩ := R.n7 a ha k (by omega)
    have h24 : nf ≤ 24 := R.c1.1
    have ef2 : tn (g.1 10 a k) = f := by rw [ef]; exact tn_nI (by omega)
    have i1 := xLike_iff R (a := a) (f := f) hk
    have i2 := xFr_iff R hf m
    have ih := xHo_iff R ha m n (k + 1) (by omega)
    unfold xHo
    rw [ef2]
    split
    · next q =>
      refine ⟨fun z => absurd rfl z, fun z => ?_⟩
      have z2 := (z k (Nat.le_refl _) (by omega)).1
      rw [ef2] at z2
      exact absurd q (i1.mpr z2)
    · next q =>
      split
      · next q2 =>
        refine ⟨fun z => absurd rfl z, fun z => ?_⟩
        have z2 := (z k (Nat.le_refl _) (by omega)).2
        rw [ef2] at z2
        exact absurd q2 (i2.mpr z2)
      · next q2 =>
        rw [ih]
        constructor
        · intro z j h1 h2
          by_cases e : j = k
          · subst e
            rw [ef2]
            exact ⟨i1.mp q, i2.mp q2⟩
          · exact z j (by omega) (by omega)
        · intro z j h1 h2
          exact z j (by omega) (by omega)
theorem xHold_iff (R : Rl nf na nm tm g h) {a : Nat} (ha : a < 12) (m : Int32) : ¬ xHold g a m = 0 ↔ Hd g a (fun b => bt m b = true) := by
  unfold xHold Hd
  split
  · next q => exact ⟨fun z => absurd rfl z, fun z => absurd q z.1⟩
  · next q =>
    rw [xHo_iff R ha m _ 0 (by omega)]
    exact ⟨fun z => ⟨q, fun k hk => z k (by omega) (by omega)⟩, fun z j _ h2 => z.2 j (by omega)⟩
/-- a round of the class: bits only come, only such as may, all that must -/
theorem xRd_ok (R : Rl nf na nm tm g h) : ∀ n k m, k + n ≤ na → (∀ b, bt m b = true → bt (xRd g n k m) b = true) ∧ ((∀ b, b < 32 → bt m b = true → Fs g na b) → ∀ b, b < 32 → bt (xRd g n k m) b = true → Fs g na b) ∧ (∀ b, k ≤ b → b < k + n → Hd g b (fun c => bt m c = true) → bt (xRd g n k m) b = true) ∧ (xRd g n k m = m ∨ ∃ b, b < na ∧ bt m b = false ∧ bt (xRd g n k m) b = true)
  | 0, k, m, _ => ⟨fun b h => h, fun H b => H b, fun b h1 h2 => by omega, Or.inl rfl⟩
  | n + 1, k, m, hk => by
    have h12 : na ≤ 12 := R.c1.2.1
    have ih := fun m => xRd_ok R n (k + 1) m (by omega)
    have i := xHold_iff R (a := k) (by omega) m
    unfold xRd
    split
    · next q =>
      obtain ⟨i1, i2, i3, i4⟩ := ih m
      refine ⟨i1, i2, fun b h1 h2 h3 => ?_, i4⟩
      by_cases e : b = k
      · subst e
        exact absurd q (i.mpr h3)
      · exact i3 b (by omega) (by omega) h3
    · next q =>
      have hH := i.mp q
      obtain ⟨i1, i2, i3, i4⟩ := ih (m ||| (1 <<< (nI k &&& 31)))
      have hs : ∀ b, b < 32 → bt (m ||| (1 <<< (nI k &&& 31))) b = (bt m b || decide (b = k)) := fun b hb => b_set (by omega) m hb
      have up : ∀ b, bt m b = true → bt (m ||| (1 <<< (nI k &&& 31))) b = true := fun b hb => by rw [b_or, hb]; rfl
      have hkk : bt (m ||| (1 <<< (nI k &&& 31))) k = true := by rw [hs k (by omega)]; simp
      refine ⟨fun b hb => i1 b (up b hb), fun H => i2 (fun b hb hb2 => ?_), fun b h1 h2 h3 => ?_, ?_⟩
      · rw [hs b hb] at hb2
        by_cases e : b = k
        · subst e
          refine Fs_cl (by omega) (hH.mono (fun c hc => ?_))
          rcases Nat.lt_or_ge c 32 with hc2 | hc2
          · exact H c hc2 hc
          · rw [b_big hc2] at hc
            cases hc
        · simp [e] at hb2
          exact H b hb hb2
      · by_cases e : b = k
        · subst e
          exact i1 b hkk
        · exact i3 b (by omega) (by omega) (h3.mono (fun c hc => up c hc))
      · cases z : bt m k with
        | true =>
          rw [b_set_same (by omega) z] at i4 ⊢
          exact i4
        | false => exact Or.inr ⟨k, by omega, z, i1 k hkk⟩
def xCt (m : Int32) : Nat → Nat
  | 0 => 0
  | n + 1 => xCt m n + if bt m n = false then 1 else 0
theorem xCt_le (m : Int32) : ∀ n, xCt m n ≤ n
  | 0 => Nat.le_refl _
  | n + 1 => by
    have := xCt_le m n
    unfold xCt
    split <;> omega
theorem xCt_mono {m m' : Int32} (h : ∀ b, bt m b = true → bt m' b = true) : ∀ n, xCt m' n ≤ xCt m n
  | 0 => Nat.le_refl _
  | n + 1 => by
    have ih := xCt_mono h n
    unfold xCt
    split
    · next q =>
      have : bt m n = false := by
        cases z : bt m n with
        | false => rfl
        | true => rw [h n z] at q; cases q
      rw [if_pos this]
      omega
    · split <;> omega
theorem xCt_lt {m m' : Int32} (h : ∀ b, bt m b = true → bt m' b = true) {k : Nat} (h1 : bt m k = false) (h2 : bt m' k = true) : ∀ n, k < n → xCt m' n < xCt m n
  | 0, hk => absurd hk (Nat.not_lt_zero _)
  | n + 1, hk => by
    have ih := xCt_mono h n
    unfold xCt
    by_cases e : k = n
    · subst e
      rw [if_pos h1, if_neg (by rw [h2]; decide)]
      omega
    · have ih2 := xCt_lt h h1 h2 n (by omega)
      split
      · next q =>
        have : bt m n = false := by
          cases z : bt m n with
          | false => rfl
          | true => rw [h n z] at q; cases q
        rw [if_pos this]
        omega
      · split <;> omega
theorem xCt_0 {m : Int32} : ∀ n, xCt m n = 0 → ∀ b, b < n → bt m b = true
  | 0, _, b, hb => absurd hb (Nat.not_lt_zero _)
  | n + 1, h0, b, hb => by
    unfold xCt at h0
    by_cases e : b = n
    · subst e
      cases z : bt m b with
      | true => rfl
      | false => rw [if_pos z] at h0; omega
    · exact xCt_0 n (by omega) b (by omega)
theorem xFa_ok (R : Rl nf na nm tm g h) : ∀ n m, xCt m na ≤ n → (∀ b, b < 32 → bt m b = true → Fs g na b) → (∀ b, b < 32 → bt (xFa g na n m) b = true → Fs g na b) ∧ (∀ b, b < na → Hd g b (fun c => bt (xFa g na n m) c = true) → bt (xFa g na n m) b = true)
  | 0, m, hn, H => ⟨H, fun b hb _ => xCt_0 (m := m) na (by omega) b hb⟩
  | n + 1, m, hn, H => by
    obtain ⟨i1, i2, i3, i4⟩ := xRd_ok R na 0 m (by omega)
    unfold xFa
    split
    · next q =>
      refine ⟨i2 H, fun b hb => ?_⟩
      rw [q] at i3 ⊢
      exact i3 b (by omega) (by omega)
    · next q =>
      refine xFa_ok R n _ ?_ (i2 H)
      rcases i4 with e | ⟨b, hb, h1, h2⟩
      · exact absurd e q
      · have := xCt_lt i1 h1 h2 na hb
        omega
theorem xFresh_iff (R : Rl nf na nm tm g h) {b : Nat} (hb : b < 32) : bt (xFresh g) b = true ↔ Fs g na b := by
  have h12 : na ≤ 12 := R.c1.2.1
  have e : tn (g.1 0 0 5) = na := by rw [R.c3.1]; exact tn_nI (by omega)
  have q := xFa_ok R na 0 (xCt_le _ _) (fun b _ hb => by rw [b_0] at hb; cases hb)
  unfold xFresh
  rw [e]
  exact ⟨q.1 b hb, fun F => F _ q.2⟩
end FR
section FM
variable {nf na nm tm : Nat} {g h : kG}
/-- what the reference's set says -/
abbrev mSt' (h : kG) : Nat → Prop := fun b => ¬ h.1 22 0 b = 0
theorem mSo_0 (h : kG) (a : Nat) : ∀ n k, mSo h a n k 0 = 0
  | 0, _ => rfl
  | n + 1, k => by unfold mSo; rw [if_pos rfl]
theorem mSoM_iff (R : Rl nf na nm tm g h) {f : Nat} (hf : f < nf) (K : Int32 → Int32) (hK : K 0 = 0) : ¬ mSoM h f K = 0 ↔ (g.1 5 f 2 = -1 ∨ mSt' h (tn (g.1 5 f 2))) ∧ ¬ K 1 = 0 := by
  unfold mSoM
  rw [(R.f4 f hf).1]
  split
  · next e => exact ⟨fun q => ⟨Or.inl e, q⟩, fun q => q.2⟩
  · next e =>
    split
    · next e2 => exact ⟨fun q => absurd hK q, fun q => (q.1.elim e (fun z => z e2)).elim⟩
    · next e2 => exact ⟨fun q => ⟨Or.inr e2, q⟩, fun q => q.2⟩
theorem mSo_iff (R : Rl nf na nm tm g h) {a : Nat} (ha : a < 12) : ∀ n k, k + n ≤ tn (g.1 9 a 4) → (¬ mSo h a n k 1 = 0 ↔ ∀ j, k ≤ j → j < k + n → (g.1 11 a j = g.1 5 (tn (g.1 10 a j)) 0 ∧ (g.1 12 a j = 0 ∨ g.2 13 a j = g.2 5 (tn (g.1 10 a j)) 1)) ∧ (g.1 5 (tn (g.1 10 a j)) 2 = -1 ∨ mSt' h (tn (g.1 5 (tn (g.1 10 a j)) 2))))
  | 0, k, _ => ⟨fun _ j h1 h2 => by omega, fun _ => by show ¬ (1 : Int32) = 0; decide⟩
  | n + 1, k, hkn => by
    have hc := (R.n1 a ha).2
    have hk : k < 12 := by have := hc.2; omega
    obtain ⟨f, hf, ef⟩ := R.n7 a ha k (by omega)
    have h24 : nf ≤ 24 := R.c1.1
    have ef2 : tn (g.1 10 a k) = f := by rw [ef]; exact tn_nI (by omega)
    have ih := mSo_iff R ha n (k + 1) (by omega)
    have i2 := mSoM_iff R hf (fun z => mSo h a n (k + 1) z) (mSo_0 h a n (k + 1))
    have key : ¬ mSoB h (24 * a + k) f (fun z => mSo h a n (k + 1) z) = 0 ↔ ((g.1 11 a k = g.1 5 f 0 ∧ (g.1 12 a k = 0 ∨ g.2 13 a k = g.2 5 f 1)) ∧ (g.1 5 f 2 = -1 ∨ mSt' h (tn (g.1 5 f 2)))) ∧ ¬ mSo h a n (k + 1) 1 = 0 := by
      unfold mSoB
      rw [R.f1 f (by omega), R.f2 f (by omega), R.n3 a ha k hk, R.n4 a ha k hk, R.n5 a ha k hk]
      split
      · next e1 =>
        split
        · next e2 =>
          rw [i2]
          exact ⟨fun q => ⟨⟨⟨e1.symm, Or.inl e2⟩, q.1⟩, q.2⟩, fun q => ⟨q.1.2, q.2⟩⟩
        · next e2 =>
          split
          · next e3 =>
            rw [i2]
            have e4 : g.2 13 a k = g.2 5 f 1 := by rw [(R.f3 f (by omega)).2 e3, R.n6 a ha k hk (e1.symm.trans e3)]
            exact ⟨fun q => ⟨⟨⟨e1.symm, Or.inr e4⟩, q.1⟩, q.2⟩, fun q => ⟨q.1.2, q.2⟩⟩
          · next e3 =>
            split
            · next e4 =>
              rw [i2]
              exact ⟨fun q => ⟨⟨⟨e1.symm, Or.inr ((lg0 _ _).mp e4).symm⟩, q.1⟩, q.2⟩, fun q => ⟨q.1.2, q.2⟩⟩
            · next e4 =>
              refine ⟨fun q => absurd (mSo_0 h a n (k + 1)) q, fun q => ?_⟩
              rcases q.1.1.2 with z | z
              · exact absurd z e2
              · exact absurd ((lg0 _ _).mpr z.symm) e4
      · next e1 => exact ⟨fun q => absurd (mSo_0 h a n (k + 1)) q, fun q => absurd q.1.1.1.symm e1⟩
    unfold mSo
    rw [if_neg (by decide), R.n2 a ha k hk, ef2, key, ih]
    constructor
    · intro z j h1 h2
      by_cases e : j = k
      · subst e
        rw [ef2]
        exact z.1
      · exact z.2 j (by omega) (by omega)
    · intro z
      refine ⟨?_, fun j h1 h2 => z j (by omega) (by omega)⟩
      have z2 := z k (Nat.le_refl _) (by omega)
      rw [ef2] at z2
      exact z2
theorem mIsSo_iff (R : Rl nf na nm tm g h) {a : Nat} (ha : a < na) : ¬ mIsSo h a = 0 ↔ Hd g a (mSt' h) := by
  have h12 : na ≤ 12 := R.c1.2.1
  unfold mIsSo Hd
  rw [(R.n1 a (by omega)).1]
  rcases R.k1 a ha with ⟨e1, e2⟩ | ⟨e1, e2, e3⟩
  · rw [if_pos e2]
    exact ⟨fun q => absurd (mSo_0 _ _ _ _) q, fun q => absurd e1 q.1⟩
  · have e4 : ¬ h.1 13 0 a = 2 := by rcases e3 with z | z <;> (rw [e2, z]; decide)
    rw [if_neg e4, mSo_iff R (by omega) _ 0 (by omega), e1]
    exact ⟨fun z => ⟨by decide, fun k hk => z k (by omega) (by omega)⟩, fun z j _ h2 => z.2 j (by omega)⟩
theorem Rl.set22 (R : Rl nf na nm tm g h) (k : Nat) (hk : k < 12) (v : Int32) (hz : kZ v) : Rl nf na nm tm g (kU h.1 22 0 k v, h.2) := R.free (fun q j hq => kU_n (fun e => hq e.1)) (fun _ _ _ => rfl) (fun j => by
  show kZ (kU h.1 22 0 k v 22 0 j)
  rw [kU22]
  split
  · exact hz
  · exact R.z1 j) (fun j hj => (kU_n (by omega)).trans (R.z2 j hj))
theorem mRd_1 : ∀ n k (h : kG), (mRd n k 1 h).1 = 1
  | 0, k, h => rfl
  | n + 1, k, h => by
    unfold mRd
    split
    · split
      · exact mRd_1 n (k + 1) h
      · exact mRd_1 n (k + 1) _
    · exact mRd_1 n (k + 1) h
theorem mRd_ok : ∀ n k mo (h : kG), Rl nf na nm tm g h → k + n ≤ na → ((∀ b, mSt' h b → Fs g na b) → ∀ b, mSt' (mRd n k mo h).2 b → Fs g na b) ∧ ((mRd n k mo h).1 = 0 → (mRd n k mo h).2 = h ∧ ∀ b, k ≤ b → b < k + n → Hd g b (mSt' h) → mSt' h b) ∧ Rl nf na nm tm g (mRd n k mo h).2
  | 0, k, mo, h, R, _ => ⟨fun H => H, fun _ => ⟨rfl, fun b h1 h2 => by omega⟩, R⟩
  | n + 1, k, mo, h, R, hk => by
    have i := mIsSo_iff R (a := k) (by omega)
    unfold mRd
    split
    · next q0 =>
      split
      · next q =>
        obtain ⟨i1, i2, i3⟩ := mRd_ok n (k + 1) mo h R (by omega)
        refine ⟨i1, fun z => ⟨(i2 z).1, fun b h1 h2 h3 => ?_⟩, i3⟩
        by_cases e : b = k
        · subst e
          exact absurd q (i.mpr h3)
        · exact (i2 z).2 b (by omega) (by omega) h3
      · next q =>
        have hH := i.mp q
        obtain ⟨i1, i2, i3⟩ := mRd_ok n (k + 1) 1 (kU h.1 22 0 k 1, h.2) (R.set22 k (by have := R.c1.2.1; omega) 1 (Or.inr rfl)) (by omega)
        refine ⟨fun H => i1 (fun b hb => ?_), fun z => ?_, i3⟩
        · have hb2 : ¬ kU h.1 22 0 k 1 22 0 b = 0 := hb
          rw [kU22] at hb2
          by_cases e : b = k
          · subst e
            exact Fs_cl (by omega) (hH.mono H)
          · rw [if_neg e] at hb2
            exact H b hb2
        · rw [mRd_1] at z
          exact absurd z (by decide)
    · next q0 =>
      obtain ⟨i1, i2, i3⟩ := mRd_ok n (k + 1) mo h R (by omega)
      refine ⟨i1, fun z => ⟨(i2 z).1, fun b h1 h2 h3 => ?_⟩, i3⟩
      by_cases e : b = k
      · subst e
        exact q0
      · exact (i2 z).2 b (by omega) (by omega) h3
theorem mFv_ok : ∀ n mo (h : kG), Rl nf na nm tm g h → mCt h 12 < n → (∀ b, mSt' h b → Fs g na b) → (mo = 0 → ∀ b, b < na → Hd g b (mSt' h) → mSt' h b) → (∀ b, mSt' (mFv na n mo h) b → Fs g na b) ∧ ∀ b, b < na → Hd g b (mSt' (mFv na n mo h)) → mSt' (mFv na n mo h) b
  | 0, mo, h, R, hn, H, H0 => absurd hn (Nat.not_lt_zero _)
  | n + 1, mo, h, R, hn, H, H0 => by
    have h12 : na ≤ 12 := R.c1.2.1
    unfold mFv
    split
    · next e => exact ⟨H, H0 e⟩
    · next e =>
      obtain ⟨i1, i2, i3⟩ := mRd_ok na 0 0 h R (by omega)
      have hd := (mRd_dn na 0 0 h (by omega)).2
      by_cases z : (mRd na 0 0 h).1 = 0
      · rw [(i2 z).1, z]
        have cl : ∀ b, b < na → Hd g b (mSt' h) → mSt' h b := fun b hb => (i2 z).2 b (by omega) (by omega)
        cases n with
        | zero => exact ⟨H, cl⟩
        | succ n =>
          unfold mFv
          rw [if_pos rfl]
          exact ⟨H, cl⟩
      · refine mFv_ok n _ _ i3 ?_ (i1 H) (fun z2 => absurd z2 z)
        rcases hd with e | e
        · exact absurd e z
        · omega
theorem mClr_0 : ∀ n k (h : kG) b, k ≤ b → b < k + n → (mClr n k h).1 22 0 b = 0
  | 0, k, h, b, h1, h2 => by omega
  | n + 1, k, h, b, h1, h2 => by
    unfold mClr
    by_cases e : b = k
    · subst e
      have : ∀ n k (h : kG) b, b < k → (mClr n k h).1 22 0 b = h.1 22 0 b := by
        intro n
        induction n with
        | zero => intro k h b _; rfl
        | succ n ih =>
          intro k h b hb
          unfold mClr
          rw [ih (k + 1) _ b (by omega)]
          exact kU_n (by omega)
      rw [this n (b + 1) _ b (by omega)]
      exact kU_s ..
    · exact mClr_0 n (k + 1) _ b (by omega) (by omega)
theorem mClr_hi : ∀ n k (h : kG) b, k + n ≤ b → (mClr n k h).1 22 0 b = h.1 22 0 b
  | 0, k, h, b, h1 => rfl
  | n + 1, k, h, b, h1 => by
    unfold mClr
    rw [mClr_hi n (k + 1) _ b (by omega)]
    exact kU_n (by omega)
theorem Rl.clr (R : Rl nf na nm tm g h) : Rl nf na nm tm g (mClr 12 0 h) := R.free (fun k j hk => mClr_fr 12 0 h k 0 j hk) (fun k j _ => by rw [mClr_J]) (mClr_Z 12 0 h R.z1) (fun j hj => (mClr_hi 12 0 h j (by omega)).trans (R.z2 j hj))
theorem mFr_iff (R : Rl nf na nm tm g h) (b : Nat) : mSt' (mFr h) b ↔ Fs g na b := by
  have h12 : na ≤ 12 := R.c1.2.1
  have e : tn (h.1 0 0 3) = na := by rw [R.c3.2]; exact tn_nI (by omega)
  have q := mFv_ok 13 1 (mClr 12 0 h) R.clr (by have := mCt_le (mClr 12 0 h) 12; omega) (fun b hb => by
    rcases Nat.lt_or_ge b 12 with z | z
    · exact absurd (mClr_0 12 0 h b (by omega) (by omega)) hb
    · exact absurd ((mClr_hi 12 0 h b (by omega)).trans (R.z2 b z)) hb) (fun z => absurd z (by decide))
  unfold mFr
  rw [e]
  exact ⟨q.1 b, fun F => F _ q.2⟩
theorem Rl.fr (R : Rl nf na nm tm g h) : Rl nf na nm tm g (mFr h) := R.free (fun k j hk => mFr_fr h k 0 j hk) (fun k j _ => by rw [mFr_J]) (mFr_Z h R.z1) (fun j hj => by
  have q := mFr_iff R j
  by_cases z : (mFr h).1 22 0 j = 0
  · exact z
  · have := Fs_lt (q.mp z)
    have := R.c1.2.1
    omega)
end FM
