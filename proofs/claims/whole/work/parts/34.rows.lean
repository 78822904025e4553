/-! a row, and all rows, on both sides -/
theorem xAdd_J (g : kG) (a : Nat) (num : Int32) (f : Nat) (rd : Int32) (q b j : Nat) (h : q ≠ 13) : (xAdd g a num f rd).2 q b j = g.2 q b j := by
  have k : ∀ g' : kG, ∀ p, (xAdd1 g' a p f rd).2 q b j = g'.2 q b j := by
    intro g' p
    unfold xAdd1
    split
    · split <;> exact kUJ_n (fun e => h e.1)
    · exact kUJ_n (fun e => h e.1)
  unfold xAdd xAddAt
  split
  · split
    · exact k _ _
    · exact k _ _
  · rfl
theorem mNote_J (g : kG) (a : Nat) (f rd : Int32) (q b j : Nat) (h : q ≠ 23) : (mNote g a f rd).2 q b j = g.2 q b j := by
  have k : ∀ g' : kG, ∀ e f, (mNt1 g' e f rd).2 q b j = g'.2 q b j := by
    intro g' e f
    unfold mNt1
    split
    · split <;> exact kUJ_n (fun e => h e.1)
    · exact kUJ_n (fun e => h e.1)
  unfold mNote mNtAt
  split
  · exact k _ _ _
  · exact k _ _ _
def rAg (m : Int32) (h : kG) : Prop := ∀ b, b < 12 → (bt m b = true ↔ ¬ h.1 22 0 b = 0)
section RW
variable {nf na nm tm : Nat} {g h : kG}
theorem Rl.hJ (R : Rl nf na nm tm g h) {J : kJ} (e : ∀ k j, k ≠ 0 → J k 0 j = h.2 k 0 j) : Rl nf na nm tm g (h.1, J) := R.free (fun _ _ _ => rfl) e R.z1 R.z2
/-- what a look leaves -/
def LkP (nf na nm tm : Nat) (g h : kG) (a f : Nat) (kd m : Int32) (x y : Int32 × kG) : Prop := x.1 = y.1 ∧ Rl nf na nm tm x.2 y.2 ∧ x.2.2 6 a 8 = y.2.2 0 0 32 ∧ Nt x.2 a m ∧ tn (x.2.1 9 a 4) ≤ tn (g.1 9 a 4) + 1 ∧ (x.1 = 1 → y.2.2 0 0 33 = if kd = 0 then x.2.2 5 f 1 else h.2 0 0 33) ∧ (x.1 = 0 → ∃ b, b < na ∧ g.1 5 f 2 = nI b ∧ x.2.1 6 a 9 = nI f) ∧ (x.1 = 1 ∨ x.1 = 0 ∨ x.1 = -1 ∨ x.1 = -3)
theorem look_ok (R : Rl nf na nm tm g h) {a f : Nat} (ha : a < na) (hf : f < nf) (kd rd m : Int32) (hrd : rd = if kd = 0 then 1 else 0) (ag : rAg m h) (hs : g.2 6 a 8 = h.2 0 0 32) (hc : tn (g.1 9 a 4) < 12) (hN : Nt g a m) : LkP nf na nm tm g h a f kd m (xLook g a rd (nI f) m) (mLook h a kd (nI f)) := by
  have h12 : na ≤ 12 := R.c1.2.1
  have h24 : nf ≤ 24 := R.c1.1
  have et : tn (nI f) = f := tn_nI (by omega)
  have iF := xFr_iff R hf m
  -- behind the note
  have note : (g.1 5 f 2 = -1 ∨ bt m (tn (g.1 5 f 2)) = true) → LkP nf na nm tm g h a f kd m (if rd = 0 then xLook2 (xAdd g a (nI f) f rd) a f rd else if (xAdd g a (nI f) f rd).1 5 f 0 = 0 then (-3, xAdd g a (nI f) f rd) else xLook2 (xAdd g a (nI f) f rd) a f rd) (mLk1 h a kd (nI f)) := by
    intro hm
    have A := add_ok R (a := a) (by omega) hf rd m hc hN hm
    have eT : (xAdd g a (nI f) f rd).1 5 f 0 = g.1 5 f 0 := xAdd_fr g a (nI f) f rd 5 f 0 (by decide)
    have eD : (xAdd g a (nI f) f rd).2 5 f 1 = g.2 5 f 1 := xAdd_J g a (nI f) f rd 5 f 1 (by decide)
    have eS : (xAdd g a (nI f) f rd).2 6 a 8 = g.2 6 a 8 := xAdd_J g a (nI f) f rd 6 a 8 (by decide)
    have eT2 : (mNote h a (nI f) rd).1 5 0 f = h.1 5 0 f := mNote_fr h a (nI f) rd 5 0 f (by decide)
    have eD2 : (mNote h a (nI f) rd).2 6 0 f = h.2 6 0 f := mNote_J h a (nI f) rd 6 0 f (by decide)
    have eS2 : (mNote h a (nI f) rd).2 0 0 32 = h.2 0 0 32 := mNote_J h a (nI f) rd 0 0 32 (by decide)
    have eL2 : (mNote h a (nI f) rd).2 0 0 33 = h.2 0 0 33 := mNote_J h a (nI f) rd 0 0 33 (by decide)
    have fT := R.f1 f (by omega)
    have n10 : ¬ (1 : Int32) = 0 := by decide
    have fD := R.f2 f (by omega)
    generalize xAdd g a (nI f) f rd = g2 at A eT eD eS
    unfold mLk1 xLook2
    rw [et]
    by_cases ek : kd = 0
    · rw [if_pos ek] at hrd
      subst hrd
      generalize mNote h a (nI f) 1 = h2 at A eT2 eD2 eS2 eL2
      rw [if_neg n10, if_pos ek, if_neg n10, eT, eT2, fT]
      split
      · next e0 => exact ⟨rfl, A.1, by show g2.2 6 a 8 = h2.2 0 0 32; rw [eS, eS2, hs], A.2.1, A.2.2, fun q => absurd q (by show ¬ (-3 : Int32) = 1; decide), fun q => absurd q (by show ¬ (-3 : Int32) = 0; decide), Or.inr (Or.inr (Or.inr rfl))⟩
      · next e0 =>
        refine ⟨rfl, ?_, ?_, A.2.1, A.2.2, fun _ => ?_, fun q => absurd q (by show ¬ (1 : Int32) = 0; decide), Or.inl rfl⟩
        · exact (U_sum A.1 a _).hJ (fun k j hk => (kUJ_n (fun e => hk e.1)).trans (kUJ_n (fun e => hk e.1)))
        · show kUJ g2.2 6 a 8 (31 * g2.2 6 a 8 + g2.2 5 f 1) 6 a 8 = kUJ (kUJ h2.2 0 0 33 (h2.2 6 0 f)) 0 0 32 (31 * h2.2 0 0 32 + h2.2 6 0 f) 0 0 32
          rw [kUJ_s, kUJ_s, eS, eD, eS2, eD2, hs, fD]
        · rw [if_pos ek]
          show h2.2 6 0 f = g2.2 5 f 1
          rw [eD, eD2, fD]
    · rw [if_neg ek] at hrd
      subst hrd
      generalize mNote h a (nI f) 0 = h2 at A eT2 eD2 eS2 eL2
      rw [if_pos rfl, if_neg ek, if_pos rfl, eT, eT2, fT]
      split
      · next e0 =>
        refine ⟨rfl, ?_, ?_, A.2.1, A.2.2, fun _ => ?_, fun q => absurd q (by show ¬ (1 : Int32) = 0; decide), Or.inl rfl⟩
        · exact (U_sum A.1 a _).hJ (fun k j hk => (kUJ_n (fun e => hk e.1)))
        · show kUJ g2.2 6 a 8 (31 * g2.2 6 a 8 + 2) 6 a 8 = kUJ h2.2 0 0 32 (31 * h2.2 0 0 32 + 2) 0 0 32
          rw [kUJ_s, kUJ_s, eS, eS2, hs]
        · rw [if_neg ek]
          exact eL2
      · next e0 =>
        refine ⟨rfl, ?_, ?_, A.2.1, A.2.2, fun _ => ?_, fun q => absurd q (by show ¬ (1 : Int32) = 0; decide), Or.inl rfl⟩
        · exact (U_sum A.1 a _).hJ (fun k j hk => (kUJ_n (fun e => hk e.1)))
        · show kUJ g2.2 6 a 8 (31 * g2.2 6 a 8 + 1) 6 a 8 = kUJ h2.2 0 0 32 (31 * h2.2 0 0 32 + 1) 0 0 32
          rw [kUJ_s, kUJ_s, eS, eS2, hs]
        · rw [if_neg ek]
          exact eL2
  unfold xLook mLook
  rw [R.a1 a (by omega), et, (R.f4 f hf).1]
  by_cases b0 : bt (g.1 6 a 3) f = false
  · rw [if_pos ((xBit_b (by omega)).mpr b0), if_pos ((mBit_b (by omega)).mpr b0)]
    exact ⟨rfl, R, hs, hN, Nat.le_succ _, fun q => absurd q (by show ¬ (-1 : Int32) = 1; decide), fun q => absurd q (by show ¬ (-1 : Int32) = 0; decide), Or.inr (Or.inr (Or.inl rfl))⟩
  · rw [if_neg (fun q => b0 ((xBit_b (by omega)).mp q)), if_neg (fun q => b0 ((mBit_b (by omega)).mp q))]
    rcases (R.f4 f hf).2 with e | ⟨b, hb, e⟩
    · rw [if_neg (iF.mpr (Or.inl e)), if_pos e]
      exact note (Or.inl e)
    · have e1 : ¬ g.1 5 f 2 = -1 := by rw [e]; exact nI_m1 (by omega)
      have e2 : tn (g.1 5 f 2) = b := by rw [e]; exact tn_nI (by omega)
      rw [if_neg e1, e2]
      have ab := ag b (by omega)
      by_cases z : h.1 22 0 b = 0
      · have zb : ¬ (g.1 5 f 2 = -1 ∨ bt m (tn (g.1 5 f 2)) = true) := by
          rw [e2]
          rintro (q | q)
          · exact e1 q
          · exact (ab.mp q) z
        have z2 : xFr g f m = 0 := by
          by_cases q : xFr g f m = 0
          · exact q
          · exact absurd (iF.mp q) zb
        rw [if_pos z2, if_pos z]
        refine ⟨rfl, U_w R ha (nI f), hs, hN, Nat.le_succ _, fun q => absurd q (by show ¬ (0 : Int32) = 1; decide), fun _ => ⟨b, hb, e, kU_s ..⟩, Or.inr (Or.inl rfl)⟩
      · have zb : (g.1 5 f 2 = -1 ∨ bt m (tn (g.1 5 f 2)) = true) := Or.inr (by rw [e2]; exact ab.mpr z)
        rw [if_neg (iF.mpr zb), if_neg z]
        exact note zb
theorem lbit (x : Int64) : lg_cmp (x &&& 1) 1 = 0 ↔ ¬ lg_cmp (x &&& 1) 0 = 0 := by
  rw [lg0, lg0]
  have k : x &&& 1 = 0 ∨ x &&& 1 = 1 := by
    have e : (x &&& 1).toBitVec = x.toBitVec &&& 1#64 := rfl
    cases z : x.toBitVec.getLsbD 0 with
    | false =>
      left
      apply Int64.toBitVec_inj.mp
      rw [e]
      apply BitVec.eq_of_getLsbD_eq
      intro i hi
      rw [BitVec.getLsbD_and]
      show (x.toBitVec.getLsbD i && (1#64).getLsbD i) = (0#64).getLsbD i
      rw [BitVec.getLsbD_zero, BitVec.getLsbD_one]
      by_cases e0 : i = 0
      · subst e0; rw [z]; rfl
      · simp [e0]
    | true =>
      right
      apply Int64.toBitVec_inj.mp
      rw [e]
      apply BitVec.eq_of_getLsbD_eq
      intro i hi
      rw [BitVec.getLsbD_and]
      show (x.toBitVec.getLsbD i && (1#64).getLsbD i) = (1#64).getLsbD i
      rw [BitVec.getLsbD_one]
      by_cases e0 : i = 0
      · subst e0; rw [z]; rfl
      · simp [e0]
  rcases k with k | k <;> (rw [k]; decide)
def RwP (nf na nm tm : Nat) (g : kG) (a : Nat) (m : Int32) (x y : Int32 × kG) : Prop := x.1 = y.1 ∧ Rl nf na nm tm x.2 y.2 ∧ x.2.2 6 a 8 = y.2.2 0 0 32 ∧ Nt x.2 a m ∧ FrA a g x.2 ∧ (x.1 = 0 → ∃ f b, f < nf ∧ b < na ∧ g.1 5 f 2 = nI b ∧ x.2.1 6 a 9 = nI f) ∧ (x.1 = 1 ∨ x.1 = 0 ∨ x.1 = -1 ∨ x.1 = -3)
theorem RwP.fr {g g' : kG} {a : Nat} {m : Int32} {x y : Int32 × kG} (h : RwP nf na nm tm g' a m x y) (F : FrA a g g') : RwP nf na nm tm g a m x y := ⟨h.1, h.2.1, h.2.2.1, h.2.2.2.1, F.tr h.2.2.2.2.1, fun q => by
  obtain ⟨f, b, h1, h2, h3, h4⟩ := h.2.2.2.2.2.1 q
  exact ⟨f, b, h1, h2, (F.1 5 f 2 (by omega)) ▸ h3, h4⟩, h.2.2.2.2.2.2⟩
theorem rows_ok {a : Nat} (m : Int32) : ∀ n k (last : Int64) (g h : kG), Rl nf na nm tm g h → a < na → rAg m h → g.2 6 a 8 = h.2 0 0 32 → last = h.2 0 0 33 → tn (g.1 9 a 4) ≤ k → Nt g a m → k ≤ 30 → RwP nf na nm tm g a m (xRows a m n k last g) (mRows a n k h)
  | 0, k, last, g, h, R, ha, ag, hs, hl, hc, hN, hk => ⟨rfl, R, hs, hN, FrA.rf, fun q => absurd q (by show ¬ (1 : Int32) = 0; decide), Or.inl rfl⟩
  | n + 1, k, last, g, h, R, ha, ag, hs, hl, hc, hN, hk => by
    have h12 : na ≤ 12 := R.c1.2.1
    have h24 : nf ≤ 24 := R.c1.1
    obtain ⟨r1, r2⟩ := R.r1 a (by omega)
    obtain ⟨r, hr1, hr2⟩ := kN_nI r2
    unfold xRows mRows
    rw [r1, hr2]
    by_cases e : r ≤ k
    · rw [if_pos (nI_le e (by omega)), if_pos (nI_le e (by omega))]
      exact ⟨rfl, R, hs, hN, FrA.rf, fun q => absurd q (by show ¬ (1 : Int32) = 0; decide), Or.inl rfl⟩
    · have e1 : ¬ nI r ≤ nI k := nI_ge (by omega) (by omega)
      rw [if_neg e1, if_neg e1, (R.r2 a (by omega) k (by omega)).1, (R.r2 a (by omega) k (by omega)).2]
      rcases R.r3 a (by omega) k (by rw [hr2, tn_nI (by omega)]; omega) with ⟨q1, q2⟩ | ⟨q1, f, hf, q2⟩
      · rw [if_pos q1, if_pos q1, ← hl]
        have q3 := q2.2
        by_cases z : lg_cmp (last &&& 1) 0 = 0
        · rw [if_pos z, if_neg (fun y => (lbit last).mp y z)]
          exact rows_ok m n (k + 1) last g h R ha ag hs hl (by omega) hN (by omega)
        · rw [if_neg z, if_pos ((lbit last).mpr z)]
          exact rows_ok m n (k + 1 + tn (g.1 8 a k)) last g h R ha ag hs hl (by omega) hN (by omega)
      · rw [if_neg q1, if_neg q1, q2]
        have et : tn (nI f) = f := tn_nI (by omega)
        have step : ∀ rd, rd = (if g.1 7 a k = 0 then (1 : Int32) else 0) → RwP nf na nm tm g a m (if (xLook g a rd (nI f) m).1 = 1 then xRows a m n (k + 1) (if g.1 7 a k = 0 then (xLook g a rd (nI f) m).2.2 5 f 1 else last) (xLook g a rd (nI f) m).2 else ((xLook g a rd (nI f) m).1, (xLook g a rd (nI f) m).2)) (if (mLook h a (g.1 7 a k) (nI f)).1 = 1 then mRows a n (k + 1) (mLook h a (g.1 7 a k) (nI f)).2 else mLook h a (g.1 7 a k) (nI f)) := by
          intro rd hrd
          have L := look_ok R ha hf (g.1 7 a k) rd m hrd ag hs (by omega) hN
          have F : FrA a g (xLook g a rd (nI f) m).2 := FrA_look FrA.rf rd (nI f) m
          have ag2 : rAg m (mLook h a (g.1 7 a k) (nI f)).2 := fun b hb => by
            rw [mLook_fr h a (g.1 7 a k) (nI f) 22 0 b (by decide)]
            exact ag b hb
          generalize xLook g a rd (nI f) m = X at L F
          generalize mLook h a (g.1 7 a k) (nI f) = Y at L ag2
          obtain ⟨l1, l2, l3, l4, l5, l6, l7, l8⟩ := L
          rw [← l1]
          by_cases z : X.1 = 1
          · rw [if_pos z, if_pos z]
            refine RwP.fr (rows_ok m n (k + 1) _ X.2 Y.2 l2 ha ag2 l3 ?_ (by omega) l4 (by omega)) F
            rw [l6 z, ← hl]
          · rw [if_neg z, if_neg z]
            refine ⟨l1, l2, l3, l4, F, fun q => ?_, l8⟩
            obtain ⟨b, hb, y1, y2⟩ := l7 q
            exact ⟨f, b, hf, hb, y1, y2⟩
        by_cases z : g.1 7 a k = 0
        · have s := step 1 (by rw [if_pos z])
          simp only [if_pos z] at s ⊢
          rw [et]
          exact s
        · have s := step 0 (by rw [if_neg z])
          simp only [if_neg z] at s ⊢
          exact s
end RW
