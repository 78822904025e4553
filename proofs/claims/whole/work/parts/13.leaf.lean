/-! a walk's end against its spec -/
theorem k_pi {v s : Int32} {g : kG} (h : s = v) : (some (Sum.inl v) : Option kV) = some (.inl s) ∧ g = g := by subst h; exact ⟨rfl, rfl⟩
theorem k_pl {v s : Int64} {g : kG} (h : s = v) : (some (Sum.inr (Sum.inl v)) : Option kV) = some (.inr (.inl s)) ∧ g = g := by subst h; exact ⟨rfl, rfl⟩
theorem k_pr {s : Int32 × kG} {v : Int32} {g' : kG} (h : s = (v, g')) : (some (Sum.inl v) : Option kV) = some (.inl s.1) ∧ g' = s.2 := by subst h; exact ⟨rfl, rfl⟩
theorem k_pv {s g' : kG} (h : s = g') : (none : Option kV) = none ∧ g' = s := ⟨rfl, h.symm⟩
section KQ
variable {y : kSys} {x : kCx} {pc : Nat} {ls : List (Option kV)} {st : List kV} {g : kG}
theorem k_Qs {s s' : Int32 × kG} (h : s = s') (kk : Wk (kWd y) (kAA y) (y_ad y) x (0, 0) (kQ y (fun r g2 => r = some (.inl s'.1) ∧ g2 = s'.2) x) pc ls st g) : Wk (kWd y) (kAA y) (y_ad y) x (0, 0) (kQ y (fun r g2 => r = some (.inl s.1) ∧ g2 = s.2) x) pc ls st g := by subst h; exact kk
theorem k_Qi {s s' : Int32} {G : kG} (h : s = s') (kk : Wk (kWd y) (kAA y) (y_ad y) x (0, 0) (kQ y (fun r g2 => r = some (.inl s') ∧ g2 = G) x) pc ls st g) : Wk (kWd y) (kAA y) (y_ad y) x (0, 0) (kQ y (fun r g2 => r = some (.inl s) ∧ g2 = G) x) pc ls st g := by subst h; exact kk
theorem k_Qv {s s' : kG} (h : s = s') (kk : Wk (kWd y) (kAA y) (y_ad y) x (0, 0) (kQ y (fun r g2 => r = none ∧ g2 = s') x) pc ls st g) : Wk (kWd y) (kAA y) (y_ad y) x (0, 0) (kQ y (fun r g2 => r = none ∧ g2 = s) x) pc ls st g := by subst h; exact kk
end KQ
theorem in_nI {p n : Nat} {v : Int32} (hv : v = nI n) (hp : p < 2 ^ 30) (hn : n < 2 ^ 30) (h : nI p < v) : vp_in (nI p) n := vp_in_nI ((nI_ltI (by omega) (by omega)).mp (hv ▸ h)) (by omega)
theorem in_v {v w : Int32} {n : Nat} (hw : kN w n) (hn : n < 2 ^ 30) (h0 : ¬ v < 0) (h1 : ¬ w ≤ v) : vp_in v n := by
  obtain ⟨j, hj, rfl⟩ := nI_of h0
  rw [hw.1] at h1
  rcases Nat.lt_or_ge j (tn w) with q | q
  · have := hw.2
    exact vp_in_nI (by omega) (by omega)
  · exact absurd (nI_le q hj) h1
theorem in_x {v w : Int32} {n : Nat} (hw : kN w n) (hn : n < 2 ^ 30) (h : ¬ xIn v w = 0) : vp_in v n := by
  unfold xIn at h
  by_cases h0 : v < 0
  · exact absurd (if_pos h0) h
  · rw [if_neg h0] at h
    by_cases h1 : w ≤ v
    · exact absurd (if_pos h1) h
    · exact in_v hw hn h0 h1
theorem in_lt {v : Int32} {n m : Nat} {w : Int32} (hv : kN v m) (hm : m < 2 ^ 30) (hw : w = nI n) (hn : n < 2 ^ 30) (h : v < w) : vp_in v n := by
  rw [hv.1] at h ⊢
  exact in_nI hw (by have := hv.2; omega) hn h
