/-! counting -/
theorem ycnt_or {a b : Int64} : ∀ n : Nat, (∀ i, i < n → yx a i = true → yx b i = false) → ycnt (a ||| b) n = ycnt a n + ycnt b n
  | 0, _ => rfl
  | i + 1, h => by
    rw [ycnt, ycnt, ycnt, ycnt_or i (fun j hj => h j (by omega)), yx_or]
    by_cases ha : yx a i = true
    · have hb := h i (by omega) ha
      rw [if_pos (show (yx a i || yx b i) = true by rw [ha]; rfl), if_pos ha, if_neg (show ¬ yx b i = true by rw [hb]; decide)]
      omega
    · have ha' := (Bool.not_eq_true _).mp ha
      rw [ha', Bool.false_or, if_neg (show ¬ false = true by decide)]
      omega
theorem ycnt_none {a : Int64} : ∀ n : Nat, (∀ i, i < n → yx a i = false) → ycnt a n = 0
  | 0, _ => rfl
  | i + 1, h => by
    rw [ycnt, ycnt_none i (fun j hj => h j (by omega)), if_neg (show ¬ yx a i = true by rw [h i (by omega)]; decide)]
theorem ycnt_1 {x : Nat} : ∀ n : Nat, n ≤ 64 → x < n → ycnt (ylshl 1 (nI x)) n = 1
  | 0, _, h => absurd h (by omega)
  | i + 1, hn, h => by
    rw [ycnt, yx_1 (by omega)]
    by_cases hx : x = i
    · subst hx
      rw [ycnt_none x (fun j hj => by rw [yx_1 (by omega)]; exact decide_eq_false (by omega)), if_pos (decide_eq_true rfl)]
    · rw [if_neg (show ¬ decide (x = i) = true by rw [decide_eq_false hx]; decide), ycnt_1 i (by omega) (by omega)]
theorem ycnt_more {a : Int64} {n : Nat} (h : yin a n) : ∀ k : Nat, ycnt a (n + k) = ycnt a n
  | 0 => rfl
  | k + 1 => by
    rw [show n + (k + 1) = (n + k) + 1 by omega, ycnt, ycnt_more h k, if_neg (show ¬ yx a (n + k) = true by rw [h _ (by omega)]; decide), Nat.add_zero]
/-! the same on natural numbers, byte by byte -/
def nct (x : Nat) : Nat → Nat
  | 0 => 0
  | i + 1 => nct x i + (if x.testBit i = true then 1 else 0)
theorem ycnt_nct (x : Int64) : ∀ n : Nat, ycnt x n = nct x.toBitVec.toNat n
  | 0 => rfl
  | i + 1 => by
    rw [ycnt, nct, ycnt_nct x i]
    rfl
theorem nct_le (x : Nat) : ∀ n : Nat, nct x n ≤ n
  | 0 => Nat.le_refl _
  | i + 1 => by
    have := nct_le x i
    rw [nct]
    split <;> omega
theorem nct_lo {q r : Nat} (hr : r < 256) : ∀ n : Nat, n ≤ 8 → nct (256 * q + r) n = nct r n
  | 0, _ => rfl
  | i + 1, h => by
    rw [nct, nct, nct_lo hr i (by omega)]
    have e : (256 * q + r).testBit i = r.testBit i := by
      have t := Nat.testBit_two_pow_mul_add q (b := r) (i := 8) hr i
      rw [if_pos (show i < 8 by omega)] at t
      exact t
    rw [e]
theorem nct_hi {q r : Nat} (hr : r < 256) : ∀ n : Nat, nct (256 * q + r) (8 + n) = nct r 8 + nct q n
  | 0 => nct_lo hr 8 (Nat.le_refl _)
  | n + 1 => by
    rw [show 8 + (n + 1) = (8 + n) + 1 by omega, nct, nct_hi hr n, show nct q (n + 1) = nct q n + (if q.testBit n = true then 1 else 0) from rfl]
    have e : (256 * q + r).testBit (8 + n) = q.testBit n := by
      have t := Nat.testBit_two_pow_mul_add q (b := r) (i := 8) hr (8 + n)
      rw [if_neg (show ¬ 8 + n < 8 by omega), show 8 + n - 8 = n by omega] at t
      exact t
    rw [e]
    omega
def pS1 (m x : Nat) : Nat := x - ((x / 2) &&& m)
def pS2 (m x : Nat) : Nat := (x &&& m) + ((x / 4) &&& m)
def pS3 (m x : Nat) : Nat := (x + x / 16) &&& m
theorem pk1 : ∀ r, r < 256 → ∀ t, t < 2 → (128 * t + r / 2) &&& 85 = (r / 2) &&& 85 := by decide +kernel
theorem pk2 : ∀ r, r < 256 → ∀ t, t < 4 → (64 * t + r / 4) &&& 51 = (r / 4) &&& 51 := by decide +kernel
theorem pkt : ∀ r, r < 256 → pS1 85 r < 256 ∧ pS2 51 (pS1 85 r) ≤ 68 ∧ pS2 51 (pS1 85 r) % 16 ≤ 4 ∧ (pS2 51 (pS1 85 r) + pS2 51 (pS1 85 r) / 16) % 16 = nct r 8 := by decide +kernel
theorem pS1_s {M q r : Nat} (hr : r < 256) : pS1 (256 * M + 85) (256 * q + r) = 256 * pS1 M q + pS1 85 r := by
  unfold pS1
  have e : (256 * q + r) / 2 = 256 * (q / 2) + (128 * (q % 2) + r / 2) := by omega
  have h1 : 128 * (q % 2) + r / 2 < 256 := by omega
  rw [e, pc_and h1 (show (85 : Nat) < 256 by decide), pk1 r hr (q % 2) (by omega)]
  have h2 : (q / 2) &&& M ≤ q / 2 := Nat.and_le_left
  have h3 : (r / 2) &&& 85 ≤ r / 2 := Nat.and_le_left
  omega
theorem pS2_s {M q r : Nat} (hr : r < 256) : pS2 (256 * M + 51) (256 * q + r) = 256 * pS2 M q + pS2 51 r := by
  unfold pS2
  have e : (256 * q + r) / 4 = 256 * (q / 4) + (64 * (q % 4) + r / 4) := by omega
  have h1 : 64 * (q % 4) + r / 4 < 256 := by omega
  rw [e, pc_and h1 (show (51 : Nat) < 256 by decide), pc_and hr (show (51 : Nat) < 256 by decide), pk2 r hr (q % 4) (by omega)]
  omega
theorem pS3_s {M q r : Nat} (hr : r ≤ 68) (hq : q % 16 ≤ 4) : pS3 (256 * M + 15) (256 * q + r) = 256 * pS3 M q + (r + r / 16) % 16 := by
  unfold pS3
  have e : 256 * q + r + (256 * q + r) / 16 = 256 * (q + q / 16) + (r + r / 16 + 16 * (q % 16)) := by omega
  have h1 : r + r / 16 + 16 * (q % 16) < 256 := by omega
  have e2 : (r + r / 16 + 16 * (q % 16)) &&& 15 = (r + r / 16 + 16 * (q % 16)) % 16 := Nat.and_two_pow_sub_one_eq_mod _ 4
  rw [e, pc_and h1 (show (15 : Nat) < 256 by decide), e2]
  omega
def pV (k x : Nat) : Nat := pS2 (pcm 51 k) (pS1 (pcm 85 k) x)
theorem pV_0 (x : Nat) : pV 0 x = 0 := by
  unfold pV pS2
  rw [show pcm 51 0 = 0 from rfl, Nat.and_zero, Nat.and_zero]
theorem pV_s {k q r : Nat} (hr : r < 256) : pV (k + 1) (256 * q + r) = 256 * pV k q + pS2 51 (pS1 85 r) := by
  unfold pV
  rw [show pcm 51 (k + 1) = 256 * pcm 51 k + 51 from rfl, show pcm 85 (k + 1) = 256 * pcm 85 k + 85 from rfl, pS1_s hr, pS2_s (pkt r hr).1]
theorem pV_m : ∀ (k x : Nat), pV k x % 16 ≤ 4
  | 0, x => by
    rw [pV_0]
    decide
  | k + 1, x => by
    have hr : x % 256 < 256 := Nat.mod_lt _ (by decide)
    have t := pV_s (k := k) (q := x / 256) hr
    rw [show 256 * (x / 256) + x % 256 = x from Nat.div_add_mod x 256] at t
    have h := (pkt (x % 256) hr).2.2.1
    omega
def pB : Nat → Nat → Nat
  | 0, _ => 0
  | k + 1, x => 256 * pB k (x / 256) + nct (x % 256) 8
def pC : Nat → Nat → Nat
  | 0, _ => 0
  | k + 1, x => nct (x % 256) 8 + pC k (x / 256)
theorem pB_eq : ∀ (k x : Nat), pS3 (pcm 15 k) (pV k x) = pB k x
  | 0, x => by
    unfold pS3
    rw [show pcm 15 0 = 0 from rfl, Nat.and_zero]
    rfl
  | k + 1, x => by
    have hr : x % 256 < 256 := Nat.mod_lt _ (by decide)
    have t := pV_s (k := k) (q := x / 256) hr
    rw [show 256 * (x / 256) + x % 256 = x from Nat.div_add_mod x 256] at t
    rw [t, show pcm 15 (k + 1) = 256 * pcm 15 k + 15 from rfl, pS3_s (pkt _ hr).2.1 (pV_m k _), pB_eq k, (pkt _ hr).2.2.2]
    rfl
theorem pC_eq : ∀ (k x : Nat), nct x (8 * k) = pC k x
  | 0, x => rfl
  | k + 1, x => by
    have hr : x % 256 < 256 := Nat.mod_lt _ (by decide)
    have t := nct_hi (q := x / 256) hr (8 * k)
    rw [show 256 * (x / 256) + x % 256 = x from Nat.div_add_mod x 256] at t
    rw [show 8 * (k + 1) = 8 + 8 * k by omega, t, pC_eq k]
    rfl
theorem pBC (x : Nat) : ∃ a b c d e f g h : Nat, (a ≤ 8 ∧ b ≤ 8 ∧ c ≤ 8 ∧ d ≤ 8 ∧ e ≤ 8 ∧ f ≤ 8 ∧ g ≤ 8 ∧ h ≤ 8) ∧ pB 8 x = a + 256 * b + 65536 * c + 16777216 * d + 4294967296 * e + 1099511627776 * f + 281474976710656 * g + 72057594037927936 * h ∧ pC 8 x = a + b + c + d + e + f + g + h := by
  refine ⟨nct (x % 256) 8, nct (x / 256 % 256) 8, nct (x / 256 / 256 % 256) 8, nct (x / 256 / 256 / 256 % 256) 8, nct (x / 256 / 256 / 256 / 256 % 256) 8, nct (x / 256 / 256 / 256 / 256 / 256 % 256) 8, nct (x / 256 / 256 / 256 / 256 / 256 / 256 % 256) 8, nct (x / 256 / 256 / 256 / 256 / 256 / 256 / 256 % 256) 8, ⟨nct_le _ _, nct_le _ _, nct_le _ _, nct_le _ _, nct_le _ _, nct_le _ _, nct_le _ _, nct_le _ _⟩, ?_, ?_⟩
  · simp only [pB]
    omega
  · simp only [pC]
    omega
theorem pDv {a X m : Nat} (h : a < m) : (a + m * X) / m = X := by
  rw [Nat.add_mul_div_left _ _ (Nat.lt_of_le_of_lt (Nat.zero_le _) h), Nat.div_eq_of_lt h, Nat.zero_add]
theorem pEnd {a b c d e f g h v : Nat} (hh : a ≤ 8 ∧ b ≤ 8 ∧ c ≤ 8 ∧ d ≤ 8 ∧ e ≤ 8 ∧ f ≤ 8 ∧ g ≤ 8 ∧ h ≤ 8) (hv : v = a + 256 * b + 65536 * c + 16777216 * d + 4294967296 * e + 1099511627776 * f + 281474976710656 * g + 72057594037927936 * h) :
    ∀ w, w = v + v / 256 → w < 18446744073709551616 ∧ ∀ u, u = w + w / 65536 → u < 18446744073709551616 ∧ ∀ z, z = u + u / 4294967296 → z < 18446744073709551616 ∧ z % 128 = a + b + c + d + e + f + g + h := by
  intro w hw
  have e1 : v / 256 = b + 256 * c + 65536 * d + 16777216 * e + 4294967296 * f + 1099511627776 * g + 281474976710656 * h := by
    have t : v = a + 256 * (b + 256 * c + 65536 * d + 16777216 * e + 4294967296 * f + 1099511627776 * g + 281474976710656 * h) := by omega
    rw [t]
    exact pDv (by omega)
  rw [e1, hv] at hw
  have e2 : w = (a + b) + 256 * (b + c) + 65536 * (c + d) + 16777216 * (d + e) + 4294967296 * (e + f) + 1099511627776 * (f + g) + 281474976710656 * (g + h) + 72057594037927936 * h := by omega
  clear e1 hv hw
  refine ⟨by omega, ?_⟩
  intro u hu
  have e3 : w / 65536 = (c + d) + 256 * (d + e) + 65536 * (e + f) + 16777216 * (f + g) + 4294967296 * (g + h) + 1099511627776 * h := by
    have t : w = ((a + b) + 256 * (b + c)) + 65536 * ((c + d) + 256 * (d + e) + 65536 * (e + f) + 16777216 * (f + g) + 4294967296 * (g + h) + 1099511627776 * h) := by omega
    rw [t]
    exact pDv (by omega)
  rw [e3, e2] at hu
  have e4 : u = (a + b + c + d) + 256 * (b + c + d + e) + 65536 * (c + d + e + f) + 16777216 * (d + e + f + g) + 4294967296 * (e + f + g + h) + 1099511627776 * (f + g + h) + 281474976710656 * (g + h) + 72057594037927936 * h := by omega
  clear e2 e3 hu
  refine ⟨by omega, ?_⟩
  intro z hz
  have e5 : u / 4294967296 = (e + f + g + h) + 256 * (f + g + h) + 65536 * (g + h) + 16777216 * h := by
    have t : u = ((a + b + c + d) + 256 * (b + c + d + e) + 65536 * (c + d + e + f) + 16777216 * (d + e + f + g)) + 4294967296 * ((e + f + g + h) + 256 * (f + g + h) + 65536 * (g + h) + 16777216 * h) := by omega
    rw [t]
    exact pDv (by omega)
  rw [e5, e4] at hz
  clear e4 e5
  refine ⟨by omega, ?_⟩
  have e6 : z = (a + b + c + d + e + f + g + h) + 128 * (2 * ((b + c + d + e) + 256 * (c + d + e + f) + 65536 * (d + e + f + g) + 16777216 * (e + f + g + h) + 4294967296 * (f + g + h) + 1099511627776 * (g + h) + 281474976710656 * h) + 2 * ((f + g + h) + 256 * (g + h) + 65536 * h)) := by omega
  rw [e6, Nat.add_mul_mod_self_left]
  exact Nat.mod_eq_of_lt (by omega)
/-! the same on longs -/
def toN (x : Int64) : Nat := x.toBitVec.toNat
theorem toN_lt (x : Int64) : toN x < 2 ^ 64 := x.toBitVec.isLt
theorem toN_and (x y : Int64) : toN (x &&& y) = toN x &&& toN y := BitVec.toNat_and _ _
theorem toN_add {x y : Int64} (h : toN x + toN y < 2 ^ 64) : toN (x + y) = toN x + toN y := by
  show (x.toBitVec + y.toBitVec).toNat = _
  rw [BitVec.toNat_add]
  exact Nat.mod_eq_of_lt h
theorem toN_sub {x y : Int64} (h : toN y ≤ toN x) : toN (x - y) = toN x - toN y := by
  show (x.toBitVec - y.toBitVec).toNat = _
  exact BitVec.toNat_sub_of_le h
theorem toN_ush (x : Int64) (c : Int32) (s : Nat) (h : ((c.toInt64.toUInt64 &&& Int64.toUInt64 63).toBitVec % 64).toNat = s) : toN (ylushr x c) = toN x / 2 ^ s := by
  show (x.toBitVec >>> ((c.toInt64.toUInt64 &&& Int64.toUInt64 63).toBitVec % 64)).toNat = _
  rw [BitVec.ushiftRight_eq', h, BitVec.toNat_ushiftRight, Nat.shiftRight_eq_div_pow]
  rfl
theorem jl_bitCount_eq (x : Int64) : jl_bitCount x = nI (ycnt x 64) := by
  have c5 : toN 6148914691236517205 = pcm 85 8 := by decide +kernel
  have c3 : toN 3689348814741910323 = pcm 51 8 := by decide +kernel
  have cf : toN 1085102592571150095 = pcm 15 8 := by decide +kernel
  have hx := toN_lt x
  have u1 : toN (ylushr x 1) = toN x / 2 := toN_ush x 1 1 (by decide +kernel)
  have a1 : toN (ylushr x 1 &&& 6148914691236517205) = (toN x / 2) &&& pcm 85 8 := by rw [toN_and, u1, c5]
  have l1 : (toN x / 2) &&& pcm 85 8 ≤ toN x / 2 := Nat.and_le_left
  have v1 : toN (x - (ylushr x 1 &&& 6148914691236517205)) = pS1 (pcm 85 8) (toN x) := by
    rw [toN_sub (by rw [a1]; omega), a1]
    rfl
  unfold jl_bitCount
  simp only [yb]
  generalize x - (ylushr x 1 &&& 6148914691236517205) = y1 at v1 ⊢
  have hb1 := toN_lt y1
  have u2 : toN (ylushr y1 2) = toN y1 / 4 := toN_ush y1 2 2 (by decide +kernel)
  have m1 : toN y1 &&& pcm 51 8 ≤ pcm 51 8 := Nat.and_le_right
  have m2 : (toN y1 / 4) &&& pcm 51 8 ≤ pcm 51 8 := Nat.and_le_right
  have m3 : pcm 51 8 = 3689348814741910323 := by decide +kernel
  have v2 : toN ((y1 &&& 3689348814741910323) + (ylushr y1 2 &&& 3689348814741910323)) = pV 8 (toN x) := by
    rw [toN_add (by rw [toN_and, toN_and, u2, c3]; omega), toN_and, toN_and, u2, c3, v1]
    rfl
  generalize (y1 &&& 3689348814741910323) + (ylushr y1 2 &&& 3689348814741910323) = y2 at v2 ⊢
  have u3 : toN (ylushr y2 4) = toN y2 / 16 := toN_ush y2 4 4 (by decide +kernel)
  have hb2 : toN y2 ≤ 2 * 3689348814741910323 := by
    rw [v2]
    unfold pV pS2
    have n1 : pS1 (pcm 85 8) (toN x) &&& pcm 51 8 ≤ pcm 51 8 := Nat.and_le_right
    have n2 : (pS1 (pcm 85 8) (toN x) / 4) &&& pcm 51 8 ≤ pcm 51 8 := Nat.and_le_right
    omega
  have v3 : toN ((y2 + ylushr y2 4) &&& 1085102592571150095) = pB 8 (toN x) := by
    rw [toN_and, toN_add (by rw [u3]; omega), u3, cf, v2]
    exact pB_eq 8 (toN x)
  generalize (y2 + ylushr y2 4) &&& 1085102592571150095 = y3 at v3 ⊢
  obtain ⟨a, b, c, d, e, f, g, h, hh, eB, eC⟩ := pBC (toN x)
  obtain ⟨k1, k⟩ := pEnd hh (v3.trans eB) _ rfl
  have u4 : toN (ylushr y3 8) = toN y3 / 256 := toN_ush y3 8 8 (by decide +kernel)
  have v4 : toN (y3 + ylushr y3 8) = toN y3 + toN y3 / 256 := by
    rw [toN_add (by rw [u4]; exact k1), u4]
  clear k1 k
  obtain ⟨-, k⟩ := pEnd hh (v3.trans eB) _ v4
  generalize y3 + ylushr y3 8 = y4 at k ⊢
  obtain ⟨k1, -⟩ := k _ rfl
  have u5 : toN (ylushr y4 16) = toN y4 / 65536 := toN_ush y4 16 16 (by decide +kernel)
  have v5 : toN (y4 + ylushr y4 16) = toN y4 + toN y4 / 65536 := by
    rw [toN_add (by rw [u5]; exact k1), u5]
  obtain ⟨-, k⟩ := k _ v5
  clear k1
  generalize y4 + ylushr y4 16 = y5 at k ⊢
  obtain ⟨k1, -⟩ := k _ rfl
  have u6 : toN (ylushr y5 32) = toN y5 / 4294967296 := toN_ush y5 32 32 (by decide +kernel)
  have v6 : toN (y5 + ylushr y5 32) = toN y5 + toN y5 / 4294967296 := by
    rw [toN_add (by rw [u6]; exact k1), u6]
  obtain ⟨-, k4⟩ := k _ v6
  clear k1 k
  generalize y5 + ylushr y5 32 = y6 at k4 ⊢
  have hc : ycnt x 64 = a + b + c + d + e + f + g + h := by
    rw [ycnt_nct, ← eC]
    exact pC_eq 8 (toN x)
  rw [hc, ← k4]
  apply Int32.toBitVec_inj.1
  apply BitVec.eq_of_toNat_eq
  show (y6.toBitVec.signExtend 32 &&& (127#32)).toNat = (BitVec.ofNat 32 (toN y6 % 128)).toNat
  rw [BitVec.toNat_and, BitVec.signExtend_eq_setWidth_of_le _ (by decide), BitVec.toNat_setWidth]
  have e7 : (y6.toBitVec.toNat % 2 ^ 32) &&& 127 = (y6.toBitVec.toNat % 2 ^ 32) % 128 := Nat.and_two_pow_sub_one_eq_mod _ 7
  show (y6.toBitVec.toNat % 2 ^ 32) &&& 127 = (y6.toBitVec.toNat % 128) % 2 ^ 32
  rw [e7]
  omega
theorem jl_many {x : Int64} (h : yin x 60) : jl_bitCount x = nI (ycnt x 60) := by
  rw [jl_bitCount_eq]
  have t := ycnt_more h 4
  rw [t]
theorem jl_md {x : Int64} (h : yin x 60) : jl_bitCount x = md_many x := by
  rw [jl_many h, md_many_eq]
