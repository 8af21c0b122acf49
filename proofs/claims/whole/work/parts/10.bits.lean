/-! sets of objects: the bits of a long -/
def yx (x : Int64) (i : Nat) : Bool := x.toBitVec.getLsbD i
theorem yx_ext {x y : Int64} (h : ∀ i, i < 64 → yx x i = yx y i) : x = y := Int64.toBitVec_inj.1 (BitVec.eq_of_getLsbD_eq h)
theorem yx_big (x : Int64) {i : Nat} (h : 64 ≤ i) : yx x i = false := BitVec.getLsbD_of_ge _ _ h
theorem yx_or (x y : Int64) (i : Nat) : yx (x ||| y) i = (yx x i || yx y i) := BitVec.getLsbD_or
theorem yx_and (x y : Int64) (i : Nat) : yx (x &&& y) i = (yx x i && yx y i) := BitVec.getLsbD_and
theorem yx_m1 : (-1 : Int64).toBitVec = BitVec.allOnes 64 := by decide
theorem yx_not (x : Int64) {i : Nat} (h : i < 64) : yx (x ^^^ (-1)) i = !yx x i := by
  show (x.toBitVec ^^^ (-1 : Int64).toBitVec).getLsbD i = !x.toBitVec.getLsbD i
  rw [yx_m1, BitVec.getLsbD_xor, BitVec.getLsbD_allOnes]
  simp [h]
theorem yx_0 (i : Nat) : yx 0 i = false := by
  show (0#64).getLsbD i = false
  exact BitVec.getLsbD_zero
theorem yx_tp : ∀ n, n < 64 → (ylshl 1 (nI n)).toBitVec = BitVec.twoPow 64 n := by decide +kernel
theorem yx_1 {n : Nat} (hn : n < 64) (i : Nat) : yx (ylshl 1 (nI n)) i = decide (n = i) := by
  unfold yx
  rw [yx_tp n hn, BitVec.getLsbD_twoPow]
  simp [hn]
theorem yx_sm : ∀ n, n < 64 → (((nI n).toInt64 &&& 63).toBitVec.smod 64).toNat = n := by decide +kernel
theorem yx_su : ∀ n, n < 64 → (((nI n).toInt64.toUInt64 &&& Int64.toUInt64 63).toBitVec % 64).toNat = n := by decide +kernel
theorem yx_shr (x : Int64) {n : Nat} (hn : n < 64) (i : Nat) : yx (ylshr x (nI n) &&& 1) i = (decide (i = 0) && yx x n) := by
  rw [yx_and]
  have h1 : yx 1 i = decide (i = 0) := by
    show (1#64).getLsbD i = _
    rw [BitVec.getLsbD_one]
    simp
  rw [h1]
  by_cases hi : i = 0
  · subst hi
    have h2 : yx (ylshr x (nI n)) 0 = yx x n := by
      show (x.toBitVec.sshiftRight (((nI n).toInt64 &&& 63).toBitVec.smod 64).toNat).getLsbD 0 = _
      rw [yx_sm n hn, BitVec.getLsbD_sshiftRight]
      simp [hn, yx]
    rw [h2]
    simp
  · simp [hi]
theorem yx_shr1 (x : Int64) {n : Nat} (hn : n < 64) : (ylshr x (nI n) &&& 1) = if yx x n = true then 1 else 0 := by
  apply yx_ext
  intro i hi
  rw [yx_shr x hn]
  split
  · next h =>
    rw [h]
    show _ = (1#64).getLsbD i
    rw [BitVec.getLsbD_one]
    simp
  · next h =>
    rw [yx_0]
    simp [h]
theorem yx_shr_1 (x : Int64) {n : Nat} (hn : n < 64) : (ylshr x (nI n) &&& 1) = 1 ↔ yx x n = true := by
  rw [yx_shr1 x hn]
  split
  · next h => simp [h]
  · next h =>
    constructor
    · intro h1
      exact absurd h1 (by decide)
    · intro h1
      exact absurd h1 h
theorem yx_shr_0 (x : Int64) {n : Nat} (hn : n < 64) : (ylshr x (nI n) &&& 1) = 0 ↔ yx x n = false := by
  rw [yx_shr1 x hn]
  split
  · next h =>
    constructor
    · intro h1
      exact absurd h1 (by decide)
    · intro h1
      rw [h1] at h
      cases h
  · next h => simpa using h
theorem yx_ush_0 (x : Int64) {n : Nat} (hn : n < 64) : (ylushr x (nI n) &&& 1) = 0 ↔ yx x n = false := by
  have key : ∀ i, yx (ylushr x (nI n) &&& 1) i = (decide (i = 0) && yx x n) := by
    intro i
    rw [yx_and]
    have h1 : yx 1 i = decide (i = 0) := by
      show (1#64).getLsbD i = _
      rw [BitVec.getLsbD_one]
      simp
    rw [h1]
    by_cases hi : i = 0
    · subst hi
      have h2 : yx (ylushr x (nI n)) 0 = yx x n := by
        show (x.toBitVec >>> (((nI n).toInt64.toUInt64 &&& Int64.toUInt64 63).toBitVec % 64)).getLsbD 0 = _
        rw [BitVec.ushiftRight_eq', yx_su n hn, BitVec.getLsbD_ushiftRight]
        simp [yx]
      rw [h2]
      simp
    · simp [hi]
  constructor
  · intro h
    have := key 0
    rw [h, yx_0] at this
    simpa using this.symm
  · intro h
    apply yx_ext
    intro i hi
    rw [key, h, yx_0]
    simp
/-- a set within the first n numbers -/
def yin (x : Int64) (n : Nat) : Prop := ∀ i, n ≤ i → yx x i = false
theorem px_isIn_nI {x : Int64} {i : Nat} (h : i < 60) : px_isIn x (nI i) = yx x i := by
  unfold px_isIn
  rw [if_neg (nI_pos (by omega)), if_neg (show ¬ (60 : Int32) ≤ nI i from nI_ge (b := 60) h (by decide))]
  split
  · next h1 => exact ((yx_ush_0 x (by omega)).mp h1).symm
  · next h1 =>
    cases hx : yx x i with
    | true => rfl
    | false => exact absurd ((yx_ush_0 x (by omega)).mpr hx) h1
/-! how many bits -/
def ycnt (x : Int64) : Nat → Nat
  | 0 => 0
  | i + 1 => ycnt x i + (if yx x i = true then 1 else 0)
theorem ycnt_le (x : Int64) : ∀ i, ycnt x i ≤ i
  | 0 => Nat.le_refl _
  | i + 1 => by
    have := ycnt_le x i
    unfold ycnt
    split <;> omega
theorem md_many_L (x : Int64) : ∀ k i : Nat, i + k ≤ 64 → md_many_L4 x k i (nI (ycnt x i)) = nI (ycnt x (i + k))
  | 0, i, _ => rfl
  | k + 1, i, h => by
    rw [md_many_L4]
    have h1 : nI (ycnt x i) + ((ylshr x (nI i) &&& 1).toInt32) = nI (ycnt x (i + 1)) := by
      rw [yx_shr1 x (by omega)]
      show _ = nI (ycnt x i + (if yx x i = true then 1 else 0))
      rw [← nI_add]
      split <;> rfl
    rw [h1, md_many_L x k (i + 1) (by omega)]
    congr 2
    omega
theorem md_many_eq (x : Int64) : md_many x = nI (ycnt x 60) := md_many_L x 60 0 (by decide)
/-! the JDK's count: on Nat, byte by byte -/
def pcm (m : Nat) : Nat → Nat
  | 0 => 0
  | k + 1 => 256 * pcm m k + m
theorem pc_and {q r Q R : Nat} (hr : r < 256) (hR : R < 256) : (256 * q + r) &&& (256 * Q + R) = 256 * (q &&& Q) + (r &&& R) := by
  have hrR : r &&& R < 256 := Nat.lt_of_le_of_lt Nat.and_le_left hr
  apply Nat.eq_of_testBit_eq
  intro i
  rw [Nat.testBit_and]
  have e : (256 : Nat) = 2 ^ 8 := rfl
  rw [e] at hr hR hrR ⊢
  rw [Nat.testBit_two_pow_mul_add _ hr, Nat.testBit_two_pow_mul_add _ hR, Nat.testBit_two_pow_mul_add _ hrR]
  split
  · rw [Nat.testBit_and]
  · rw [Nat.testBit_and]
