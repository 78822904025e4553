/-! a whole run: fresh, stopped, or tried -/
section RN2
variable {nf na nm tm : Nat} {g h : kG}
theorem run_ok (R : Rl nf na nm tm g h) (E : rE g) {a : Nat} (ha : a < na) : RnP nf na nm tm g h a (xRun g (nI a)) (mRun h (nI a)) := by
  have h12 : na ≤ 12 := R.c1.2.1
  have htm : tm ≤ 9 := R.c1.2.2.2.2
  have et : tn (nI a) = a := tn_nI (by omega)
  have Rw : Rl nf na nm tm (xW g a) (mW h a) := U_w R ha (-1)
  have R2 : Rl nf na nm tm (xW g a) (mG2 h a) := Rw.fr
  have Fw : FrA a g (xW g a) := FrA.rf.U (q := 6) (by omega) 9 (-1)
  have hfr : ∀ k j, k = 0 ∨ k = 24 ∨ k = 25 → (mG2 h a).1 k 0 j = h.1 k 0 j := fun k j hk => (mFr_fr (mW h a) k 0 j (by omega)).trans (kU_n (by omega))
  have iM : ∀ b, mSt' (mG2 h a) b ↔ Fs g na b := fun b => mFr_iff Rw b
  have iX : ∀ b, b < 32 → (bt (xFresh g) b = true ↔ Fs g na b) := fun b hb => xFresh_iff R hb
  obtain ⟨t, ht, ht2⟩ := R.t4 a (by omega)
  have h18 : (mG2 h a).1 18 0 a = nI t := (R2.t3 a (by omega)).trans ht2
  have h00 : (mG2 h a).1 0 0 0 = nI tm := R2.c5.2
  unfold xRun mRun mS2
  rw [et, ht2, R.c5.1, h18, h00]
  by_cases hF : Fs g na a
  · have b1 : bt (xFresh g) a = true := (iX a (by omega)).mpr hF
    rw [if_neg (fun q => by rw [(xBit_b (by omega)).mp q] at b1; cases b1), if_neg ((iM a).mpr hF)]
    have k1 := R.k1 a ha
    have h6 : ¬ g.1 6 a 6 = 0 := by
      have := Fs_lt hF
      intro z
      have q := hF (fun c => c ≠ a) (fun c hc H => by
        rintro rfl
        exact H.1 z)
      exact q rfl
    have h13 : (mG2 h a).1 13 0 a = g.1 6 a 7 ∧ (g.1 6 a 7 = 1 ∨ g.1 6 a 7 = -3) := by
      rcases R2.k1 a ha with q | q
      · exact absurd q.1 h6
      · exact ⟨q.2.1, q.2.2⟩
    have F1 : FrA a g (kU (xW g a).1 6 a 10 (g.1 6 a 10 + 1), g.2) := Fw.U (q := 6) (by omega) 10 _
    have hR := U_re R2 (n := a) (g.1 6 a 10 + 1)
    have e16 : (mG2 h a).1 16 0 a = g.1 6 a 10 := R2.t1 a (by omega)
    rw [e16]
    refine ⟨h13.1.symm, hR, rE_off E F1.R (fun q => absurd q h6), F1.R, fun k j hk => (kU_n (by omega)).trans (hfr k j hk), fun q => ?_, fun _ _ _ => mes_le 12 (fun b hb => ?_)⟩
    · exfalso
      have q2 : g.1 6 a 7 = 0 := q
      rcases h13.2 with z | z <;> (rw [z] at q2; exact absurd q2 (by decide))
    · have iX' : bt (xFresh (kU (xW g a).1 6 a 10 (g.1 6 a 10 + 1), g.2)) b = true ↔ Fs g na b := xFresh_iff hR (by omega)
      unfold tT
      have e12 : kU (xW g a).1 6 a 10 (g.1 6 a 10 + 1) 6 b 12 = g.1 6 b 12 := rfl
      show (if bt (xFresh (kU (xW g a).1 6 a 10 (g.1 6 a 10 + 1), g.2)) b = true then 0 else 10 - tn (kU (xW g a).1 6 a 10 (g.1 6 a 10 + 1) 6 b 12)) ≤ _
      rw [e12]
      by_cases z : Fs g na b
      · rw [if_pos (iX'.mpr z)]
        exact Nat.zero_le _
      · rw [if_neg (fun q => z (iX'.mp q)), if_neg (fun q => z ((iX b (by omega)).mp q))]
        exact Nat.le_refl _
  · have b1 : bt (xFresh g) a = false := by
      cases z : bt (xFresh g) a with
      | false => rfl
      | true => exact absurd ((iX a (by omega)).mp z) hF
    have b2 : (mG2 h a).1 22 0 a = 0 := by
      by_cases z : (mG2 h a).1 22 0 a = 0
      · exact z
      · exact absurd ((iM a).mp z) hF
    rw [if_pos ((xBit_b (by omega)).mpr b1), if_pos b2]
    by_cases z : t = tm
    · subst z
      rw [if_neg (nI_nlt (Nat.le_refl _) (by omega)), if_pos rfl]
      have hR := U_stop R2 ha
      have F1 : FrA a g (kU (xFgt (xW g a) a).1 6 a 12 0, g.2) := (((Fw.U (q := 6) (by omega) 6 0).U (q := 9) (by omega) 4 0).U (q := 6) (by omega) 12 0)
      refine ⟨rfl, hR, rE_off E F1.R (fun _ => kU_s ..), F1.R, fun k j hk => ((kU_n (by omega)).trans ((kU_n (by omega)).trans (kU_n (by omega)))).trans (hfr k j hk), fun q => absurd q (by show ¬ (-2 : Int32) = 0; decide), fun _ _ q => absurd rfl q⟩
    · rw [if_pos (nI_lt (by omega) (by omega)), if_neg (fun q => z (nI_inj (by omega) (by omega) q))]
      have ag : rAg (xFresh g) (mG2 h a) := fun b hb => (iX b (by omega)).trans (iM b).symm
      have Ew : rE (xW g a) := E
      have T := try_ok R2 Ew ha (xFresh g) iX ag hF (t := t) (by omega) ht2
      obtain ⟨t1, t2, t3, t4, t5, t6, t7⟩ := T
      have tw : ∀ b, b < 12 → tT (xW g a) b = tT g b := by
        intro b hb
        have iW : bt (xFresh (xW g a)) b = true ↔ Fs g na b := xFresh_iff R2 (by omega)
        unfold tT
        show (if bt (xFresh (xW g a)) b = true then 0 else 10 - tn (g.1 6 b 12)) = _
        by_cases z2 : Fs g na b
        · rw [if_pos (iW.mpr z2), if_pos ((iX b (by omega)).mpr z2)]
        · rw [if_neg (fun q => z2 (iW.mp q)), if_neg (fun q => z2 ((iX b (by omega)).mp q))]
      have mw : mes (xW g a) 12 = mes g 12 := Nat.le_antisymm (mes_le 12 (fun b hb => Nat.le_of_eq (tw b hb))) (mes_le 12 (fun b hb => Nat.le_of_eq (tw b hb).symm))
      refine ⟨t1, t2, t3, Fw.R.tr t4, fun k j hk => (t5 k j hk).trans (hfr k j hk), fun q => ?_, fun q1 q2 q3 => ?_⟩
      · rw [← mw]
        exact t6 q
      · rw [← mw]
        exact t7 q1 q2 q3
end RN2
