/-! the reference's cells -/
def mRefs : List (Nat × Nat) := [(0, 0), (5, 0), (6, 0), (7, 0), (8, 0), (9, 0), (10, 0), (11, 0), (12, 0), (13, 0), (14, 0), (15, 0), (16, 0), (17, 0), (18, 0), (19, 0), (20, 0), (21, 0), (22, 0), (23, 0), (24, 0), (25, 0), (27, 0), (28, 0), (29, 0), (30, 0), (31, 0)]
def mRt : Nat → Nat → Nat → Nat × Nat := fun _ _ j => (j, 0)
def mKc : Nat → Nat := fun _ => 5
def mFt : Nat → List Nat := fun _ => [0, 0, 0, 0, 0, 2, 2, 2, 2, 2, 2, 2, 2, 2, 2, 2, 2, 2, 2, 2, 2, 2, 2, 2, 2, 2, 0, 2, 2, 2, 2, 2, 1, 1]
def mIs : Nat → Nat := fun k => match k with
  | 0 => 0
  | 5 => 2
  | 6 => 3
  | 20 => 2
  | 21 => 2
  | 22 => 2
  | 23 => 3
  | 29 => 3
  | 30 => 3
  | 31 => 3
  | _ => 1
def mLn : Nat → Nat := fun k => match k with
  | 5 => 24
  | 6 => 24
  | 7 => 24
  | 11 => 144
  | 12 => 144
  | 15 => 288
  | 20 => 288
  | 21 => 288
  | 23 => 288
  | 27 => 6
  | 28 => 6
  | 29 => 6
  | 30 => 24
  | 31 => 24
  | _ => 12
def mCa (dA : Nat → ClassId) : Nat → ClassId := fun k => match mIs k with
  | 2 => dA 1
  | 3 => dA 2
  | _ => dA 0
def sysM (b : Nat → Nat → Nat) (dA : Nat → ClassId) (D : va_G) : kSys := (mRefs, b, mRt, mKc, mFt, mIs, mLn, mCa dA, D, kTys dA)
theorem mr_0 : (0, 0) ∈ mRefs := by decide +kernel
theorem mr_5 : (5, 0) ∈ mRefs := by decide +kernel
theorem mr_6 : (6, 0) ∈ mRefs := by decide +kernel
theorem mr_7 : (7, 0) ∈ mRefs := by decide +kernel
theorem mr_8 : (8, 0) ∈ mRefs := by decide +kernel
theorem mr_9 : (9, 0) ∈ mRefs := by decide +kernel
theorem mr_10 : (10, 0) ∈ mRefs := by decide +kernel
theorem mr_11 : (11, 0) ∈ mRefs := by decide +kernel
theorem mr_12 : (12, 0) ∈ mRefs := by decide +kernel
theorem mr_13 : (13, 0) ∈ mRefs := by decide +kernel
theorem mr_14 : (14, 0) ∈ mRefs := by decide +kernel
theorem mr_15 : (15, 0) ∈ mRefs := by decide +kernel
theorem mr_16 : (16, 0) ∈ mRefs := by decide +kernel
theorem mr_17 : (17, 0) ∈ mRefs := by decide +kernel
theorem mr_18 : (18, 0) ∈ mRefs := by decide +kernel
theorem mr_19 : (19, 0) ∈ mRefs := by decide +kernel
theorem mr_20 : (20, 0) ∈ mRefs := by decide +kernel
theorem mr_21 : (21, 0) ∈ mRefs := by decide +kernel
theorem mr_22 : (22, 0) ∈ mRefs := by decide +kernel
theorem mr_23 : (23, 0) ∈ mRefs := by decide +kernel
theorem mr_24 : (24, 0) ∈ mRefs := by decide +kernel
theorem mr_25 : (25, 0) ∈ mRefs := by decide +kernel
theorem mr_27 : (27, 0) ∈ mRefs := by decide +kernel
theorem mr_28 : (28, 0) ∈ mRefs := by decide +kernel
theorem mr_29 : (29, 0) ∈ mRefs := by decide +kernel
theorem mr_30 : (30, 0) ∈ mRefs := by decide +kernel
theorem mr_31 : (31, 0) ∈ mRefs := by decide +kernel
theorem m_nodup : mRefs.Nodup := by decide +kernel
theorem vi_nI {n : Int32} {k : Nat} (h : vp_in n k) (hk : k < 2 ^ 31) : n = nI (tn n) := by
  obtain ⟨j, hj, rfl⟩ := vp_in_of h hk
  rw [show tn (nI j) = j from nI_clamp (by omega)]
theorem vt_lt {j : Int32} {n : Nat} (h : vp_in j n) : tn j < n := vi_lt h
theorem ix_l {n v C : Int32} {c k N : Nat} (hC : C = nI c) (hn : vp_in n N) (hN : N < 1000) (hv : v = nI k) : C * n + v = nI (c * tn n + k) := by
  have e := vi_nI hn (by omega)
  rw [hC, hv]
  conv => lhs; rw [e]
  rw [pk_mul, nI_add]
theorem ix_q {n v C : Int32} {c k N : Nat} (hC : C = nI c) (hn : vp_in n N) (hN : N < 1000) (hv : v = nI k) (hb : c ≤ 24 ∧ k < 1000) : (C * n + v).toNatClampNeg = c * tn n + k := by
  rw [ix_l hC hn hN hv]
  have h1 : tn n < N := vi_lt hn
  have h2 : c * tn n ≤ 24 * 1000 := Nat.mul_le_mul hb.1 (by omega)
  exact nI_clamp (by omega)
theorem ix_in {n v C : Int32} {c k N L : Nat} (hC : C = nI c) (hn : vp_in n N) (hN : N < 1000) (hv : v = nI k) (hL : L < 1000) (hb : c * (N - 1) + k < L) : vp_in (C * n + v) L := by
  rw [ix_l hC hn hN hv]
  have h1 : tn n < N := vi_lt hn
  have h2 : c * tn n ≤ c * (N - 1) := Nat.mul_le_mul_left c (by omega)
  exact vp_in_nI (by omega) (by omega)
