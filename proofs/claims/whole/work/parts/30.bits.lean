/-! bits (began as rows of kit/laws/BITS.to-paste) -/
def bt (x : Int32) (i : Nat) : Bool := x.toBitVec.getLsbD i
theorem b_ext {x y : Int32} (h : ∀ i, i < 32 → bt x i = bt y i) : x = y := Int32.toBitVec_inj.mp (BitVec.eq_of_getLsbD_eq (fun i hi => h i hi))
theorem b_or (x y : Int32) (i : Nat) : bt (x ||| y) i = (bt x i || bt y i) := by unfold bt; rw [Int32.toBitVec_or, BitVec.getLsbD_or]
theorem b_and (x y : Int32) (i : Nat) : bt (x &&& y) i = (bt x i && bt y i) := by unfold bt; rw [Int32.toBitVec_and, BitVec.getLsbD_and]
theorem b_xor (x y : Int32) (i : Nat) : bt (x ^^^ y) i = (bt x i ^^ bt y i) := by unfold bt; rw [Int32.toBitVec_xor, BitVec.getLsbD_xor]
theorem b_big {x : Int32} {i : Nat} (h : 32 ≤ i) : bt x i = false := BitVec.getLsbD_of_ge _ _ h
theorem b_m1 : ∀ i, i < 32 → bt (-1) i = true := by decide +kernel
theorem b_0 (i : Nat) : bt 0 i = false := BitVec.getLsbD_zero
theorem s_l : ∀ n, n < 32 → ((nI n &&& 31).toBitVec.smod 32).toNat = n := by decide +kernel
theorem s_u : ∀ n, n < 32 → (((nI n).toUInt32 &&& Int32.toUInt32 31).toBitVec % 32).toNat = n := by decide +kernel
theorem b_shl (n : Nat) (hn : n < 32) (x : Int32) {i : Nat} (hi : i < 32) : bt (x <<< (nI n &&& 31)) i = (decide (n ≤ i) && bt x (i - n)) := by
  unfold bt
  rw [Int32.toBitVec_shiftLeft]
  show (x.toBitVec <<< ((nI n &&& 31).toBitVec.smod 32).toNat).getLsbD i = _
  rw [s_l n hn, BitVec.getLsbD_shiftLeft]
  rcases Nat.lt_or_ge i n with h | h
  · simp [h, Nat.not_le.mpr h]
  · simp [hi, h, Nat.not_lt.mpr h]
theorem b_ushr (n : Nat) (hn : n < 32) (x : Int32) (i : Nat) : bt ((x.toUInt32 >>> ((nI n).toUInt32 &&& Int32.toUInt32 31)).toInt32) i = bt x (n + i) := by
  show (x.toUInt32 >>> ((nI n).toUInt32 &&& Int32.toUInt32 31)).toBitVec.getLsbD i = x.toUInt32.toBitVec.getLsbD (n + i)
  rw [UInt32.toBitVec_shiftRight]
  show (x.toUInt32.toBitVec >>> (((nI n).toUInt32 &&& Int32.toUInt32 31).toBitVec % 32).toNat).getLsbD i = _
  rw [s_u n hn, BitVec.getLsbD_ushiftRight]
theorem b_sshr (n : Nat) (hn : n < 32) (x : Int32) {i : Nat} (hi : i < 32) : bt (x >>> (nI n &&& 31)) i = if n + i < 32 then bt x (n + i) else bt x 31 := by
  unfold bt
  rw [Int32.toBitVec_shiftRight]
  show (x.toBitVec.sshiftRight ((nI n &&& 31).toBitVec.smod 32).toNat).getLsbD i = _
  rw [s_l n hn, BitVec.getLsbD_sshiftRight, BitVec.msb_eq_getLsbD_last]
  simp [hi]
theorem b_one : ∀ i, i < 32 → bt 1 i = decide (i = 0) := by decide +kernel
theorem b_set {k : Nat} (hk : k < 32) (m : Int32) {i : Nat} (hi : i < 32) : bt (m ||| (1 <<< (nI k &&& 31))) i = (bt m i || decide (i = k)) := by
  rw [b_or, b_shl k hk 1 hi]
  congr 1
  by_cases h : k ≤ i
  · rw [b_one (i - k) (by omega)]
    by_cases e : i = k
    · subst e; simp
    · simp [h, e]; omega
  · have : ¬ i = k := by omega
    simp [h, this]
theorem b_set_same {k : Nat} (hk : k < 32) {m : Int32} (h : bt m k = true) : m ||| (1 <<< (nI k &&& 31)) = m := by
  apply b_ext
  intro i hi
  rw [b_set hk m hi]
  by_cases e : i = k
  · subst e; rw [h]; rfl
  · simp [e]
theorem b_and1 (x : Int32) : x &&& 1 = 0 ↔ bt x 0 = false := by
  constructor
  · intro h
    have e := b_and x 1 0
    rw [h, b_0, b_one 0 (by decide)] at e
    simpa using e.symm
  · intro h
    apply b_ext
    intro i hi
    rw [b_and, b_0, b_one i hi]
    by_cases e : i = 0
    · subst e; rw [h]; rfl
    · simp [e]
theorem xBit_b {m : Int32} {i : Nat} (hi : i < 32) : xBit m (nI i) = 0 ↔ bt m i = false := by
  unfold xBit
  have e : ((m.toUInt32 >>> ((nI i).toUInt32 &&& Int32.toUInt32 31)).toInt32 &&& 1) = 0 ↔ bt m i = false := by
    rw [b_and1, b_ushr i hi m 0, Nat.add_zero]
  split
  · next h => exact ⟨fun _ => e.mp h, fun _ => rfl⟩
  · next h => exact ⟨fun q => absurd q (by decide), fun q => absurd (e.mpr q) h⟩
theorem mBit_b {v : Int32} {f : Nat} (hf : f < 32) : (v >>> (nI f &&& 31)) &&& 1 = 0 ↔ bt v f = false := by
  rw [b_and1, b_sshr f hf v (by decide), Nat.add_zero, if_pos hf]
