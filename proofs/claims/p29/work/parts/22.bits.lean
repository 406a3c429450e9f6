/-! ===== bits of ints and longs ===== -/
def zAnd (x y : Int) : Int := (Int32.ofInt x &&& Int32.ofInt y).toInt
def zOr (x y : Int) : Int := (Int32.ofInt x ||| Int32.ofInt y).toInt
def zXor (x y : Int) : Int := (Int32.ofInt x ^^^ Int32.ofInt y).toInt
def zShl (x y : Int) : Int := (Int32.ofInt x <<< (Int32.ofInt y &&& 31)).toInt
def zShr (x y : Int) : Int := (Int32.ofInt x >>> (Int32.ofInt y &&& 31)).toInt
def zUshr (x y : Int) : Int := ((Int32.ofInt x).toUInt32 >>> ((Int32.ofInt y).toUInt32 &&& Int32.toUInt32 31)).toInt32.toInt
def zLand (x y : Int) : Int := (Int64.ofInt x &&& Int64.ofInt y).toInt
def zLor (x y : Int) : Int := (Int64.ofInt x ||| Int64.ofInt y).toInt
def zLxor (x y : Int) : Int := (Int64.ofInt x ^^^ Int64.ofInt y).toInt
def zLshl (x y : Int) : Int := (Int64.ofInt x <<< ((Int32.ofInt y).toInt64 &&& 63)).toInt
def zLshr (x y : Int) : Int := (Int64.ofInt x >>> ((Int32.ofInt y).toInt64 &&& 63)).toInt
def zL2i (x : Int) : Int := (Int64.ofInt x).toInt32.toInt
theorem z_rngL (x : Int64) : z_inL x.toInt := by
  have h1 := Int64.le_toInt x
  have h2 := Int64.toInt_lt x
  constructor <;> omega
theorem zb_bv (n : Nat) : (Int32.ofInt (n : Int)).toBitVec = BitVec.ofNat 32 n := BitVec.ofInt_natCast 32 n
theorem zb_bvL (n : Nat) : (Int64.ofInt (n : Int)).toBitVec = BitVec.ofNat 64 n := BitVec.ofInt_natCast 64 n
theorem zb_ti {x : Int32} {n : Nat} (h : x.toBitVec = BitVec.ofNat 32 n) (hn : n < 2147483648) : x.toInt = n := by
  have e : x = Int32.ofInt (n : Int) := Int32.toBitVec_inj.mp (by rw [h, zb_bv])
  rw [e, z_toI ⟨by omega, by omega⟩]
theorem zb_tiL {x : Int64} {n : Nat} (h : x.toBitVec = BitVec.ofNat 64 n) (hn : n < 9223372036854775808) : x.toInt = n := by
  have e : x = Int64.ofInt (n : Int) := Int64.toBitVec_inj.mp (by rw [h, zb_bvL])
  rw [e, z_toL ⟨by omega, by omega⟩]
theorem zAnd_n {a b : Nat} (h : a &&& b < 2147483648) : zAnd a b = ((a &&& b : Nat) : Int) := zb_ti (by rw [Int32.toBitVec_and, zb_bv, zb_bv, BitVec.ofNat_and]) h
theorem zOr_n {a b : Nat} (h : a ||| b < 2147483648) : zOr a b = ((a ||| b : Nat) : Int) := zb_ti (by rw [Int32.toBitVec_or, zb_bv, zb_bv, BitVec.ofNat_or]) h
theorem zLand_n {a b : Nat} (h : a &&& b < 9223372036854775808) : zLand a b = ((a &&& b : Nat) : Int) := zb_tiL (by rw [Int64.toBitVec_and, zb_bvL, zb_bvL, BitVec.ofNat_and]) h
theorem zLor_n {a b : Nat} (h : a ||| b < 9223372036854775808) : zLor a b = ((a ||| b : Nat) : Int) := zb_tiL (by rw [Int64.toBitVec_or, zb_bvL, zb_bvL, BitVec.ofNat_or]) h
theorem zb_am : ∀ k, k < 32 → ((Int32.ofInt (k : Nat) &&& 31).toBitVec.smod 32).toNat = k := by decide +kernel
theorem zb_amu : ∀ k, k < 32 → (((Int32.ofInt (k : Nat)).toUInt32 &&& Int32.toUInt32 31).toBitVec % 32).toNat = k := by decide +kernel
theorem zb_amL : ∀ k, k < 64 → (((Int32.ofInt (k : Nat)).toInt64 &&& 63).toBitVec.smod 64).toNat = k := by decide +kernel
theorem zShr_k {x : Int} {k : Nat} (hk : k < 32) (h : z_in x) : zShr x k = x / ((2 ^ k : Nat) : Int) := by
  show (Int32.ofInt x >>> (Int32.ofInt (k : Nat) &&& 31)).toBitVec.toInt = _
  rw [Int32.toBitVec_shiftRight]
  show ((Int32.ofInt x).toBitVec.sshiftRight ((Int32.ofInt (k : Nat) &&& 31).toBitVec.smod 32).toNat).toInt = _
  rw [zb_am k hk, BitVec.toInt_sshiftRight, Int.shiftRight_eq_div_pow]
  rw [show (Int32.ofInt x).toBitVec.toInt = x from z_toI h]
theorem zLshr_k {x : Int} {k : Nat} (hk : k < 64) (h : z_inL x) : zLshr x k = x / ((2 ^ k : Nat) : Int) := by
  show (Int64.ofInt x >>> ((Int32.ofInt (k : Nat)).toInt64 &&& 63)).toBitVec.toInt = _
  rw [Int64.toBitVec_shiftRight]
  show ((Int64.ofInt x).toBitVec.sshiftRight (((Int32.ofInt (k : Nat)).toInt64 &&& 63).toBitVec.smod 64).toNat).toInt = _
  rw [zb_amL k hk, BitVec.toInt_sshiftRight, Int.shiftRight_eq_div_pow]
  rw [show (Int64.ofInt x).toBitVec.toInt = x from z_toL h]
theorem zShl_n {a k : Nat} (hk : k < 32) (h : a * 2 ^ k < 2147483648) : zShl a k = ((a * 2 ^ k : Nat) : Int) := by
  refine zb_ti ?_ h
  rw [Int32.toBitVec_shiftLeft]
  show (Int32.ofInt (a : Int)).toBitVec <<< ((Int32.ofInt (k : Nat) &&& 31).toBitVec.smod 32).toNat = _
  rw [zb_am k hk, zb_bv]
  apply BitVec.eq_of_toNat_eq
  rw [BitVec.toNat_shiftLeft, BitVec.toNat_ofNat, BitVec.toNat_ofNat, Nat.shiftLeft_eq, Nat.mod_mul_mod]
theorem zLshl_n {a k : Nat} (hk : k < 64) (h : a * 2 ^ k < 9223372036854775808) : zLshl a k = ((a * 2 ^ k : Nat) : Int) := by
  refine zb_tiL ?_ h
  rw [Int64.toBitVec_shiftLeft]
  show (Int64.ofInt (a : Int)).toBitVec <<< (((Int32.ofInt (k : Nat)).toInt64 &&& 63).toBitVec.smod 64).toNat = _
  rw [zb_amL k hk, zb_bvL]
  apply BitVec.eq_of_toNat_eq
  rw [BitVec.toNat_shiftLeft, BitVec.toNat_ofNat, BitVec.toNat_ofNat, Nat.shiftLeft_eq, Nat.mod_mul_mod]
theorem zUshr_n {a k : Nat} (hk : k < 32) (h : a < 2147483648) : zUshr a k = ((a / 2 ^ k : Nat) : Int) := by
  have hle : a / 2 ^ k ≤ a := Nat.div_le_self _ _
  refine zb_ti ?_ (by omega)
  show ((Int32.ofInt (a : Int)).toUInt32 >>> ((Int32.ofInt (k : Nat)).toUInt32 &&& Int32.toUInt32 31)).toBitVec = _
  rw [UInt32.toBitVec_shiftRight]
  show (Int32.ofInt (a : Int)).toBitVec >>> (((Int32.ofInt (k : Nat)).toUInt32 &&& Int32.toUInt32 31).toBitVec % 32).toNat = _
  rw [zb_amu k hk, zb_bv]
  apply BitVec.eq_of_toNat_eq
  rw [BitVec.toNat_ushiftRight, BitVec.toNat_ofNat, BitVec.toNat_ofNat, Nat.shiftRight_eq_div_pow, Nat.mod_eq_of_lt (show a < 2 ^ 32 by omega), Nat.mod_eq_of_lt (show a / 2 ^ k < 2 ^ 32 by omega)]
theorem zUshr1 (x : Int) : 0 ≤ zUshr x 1 := by
  have hl : (Int32.ofInt x).toBitVec.toNat < 4294967296 := (Int32.ofInt x).toBitVec.isLt
  have h : zUshr x 1 = (((Int32.ofInt x).toBitVec.toNat / 2 : Nat) : Int) := by
    refine zb_ti ?_ (by omega)
    show ((Int32.ofInt x).toUInt32 >>> ((Int32.ofInt 1).toUInt32 &&& Int32.toUInt32 31)).toBitVec = _
    rw [UInt32.toBitVec_shiftRight]
    show (Int32.ofInt x).toBitVec >>> (((Int32.ofInt ((1 : Nat) : Int)).toUInt32 &&& Int32.toUInt32 31).toBitVec % 32).toNat = _
    rw [zb_amu 1 (by omega)]
    apply BitVec.eq_of_toNat_eq
    rw [BitVec.toNat_ushiftRight, BitVec.toNat_ofNat, Nat.shiftRight_eq_div_pow, Nat.mod_eq_of_lt (show (Int32.ofInt x).toBitVec.toNat / 2 < 2 ^ 32 by omega)]
  rw [h]
  omega
/-- fields of a word -/
theorem zf_and (a k w : Nat) : a &&& ((2 ^ w - 1) * 2 ^ k) = a / 2 ^ k % 2 ^ w * 2 ^ k := by
  apply Nat.eq_of_testBit_eq
  intro i
  rw [Nat.testBit_and, Nat.testBit_mul_two_pow, Nat.testBit_mul_two_pow, Nat.testBit_mod_two_pow, Nat.testBit_two_pow_sub_one, Nat.testBit_div_two_pow]
  by_cases h : k ≤ i
  · rw [show i - k + k = i by omega]
    simp [h, Bool.and_comm]
  · simp [h]
theorem zf_or {a b k : Nat} (h : b < 2 ^ k) : (a * 2 ^ k) ||| b = a * 2 ^ k + b := by
  rw [Nat.mul_comm, Nat.two_pow_add_eq_or_of_lt h]
/-- a field taken out -/
theorem zf_clr {a k w N m : Nat} (hm : m = (2 ^ w - 1) * 2 ^ k) (ha : a < 2 ^ N) (hl : m < 2 ^ N) : a &&& (2 ^ N - 1 - m) = (a / 2 ^ (k + w) * 2 ^ (k + w)) ||| a % 2 ^ k := by
  have hb : ∀ i, (2 ^ N - 1 - m).testBit i = (decide (i < N) && !m.testBit i) := fun i => by
    rw [show 2 ^ N - 1 - m = 2 ^ N - (m + 1) by omega, Nat.testBit_two_pow_sub_succ hl]
  apply Nat.eq_of_testBit_eq
  intro i
  rw [Nat.testBit_and, hb, Nat.testBit_or, Nat.testBit_mul_two_pow, Nat.testBit_div_two_pow, Nat.testBit_mod_two_pow, hm, Nat.testBit_mul_two_pow, Nat.testBit_two_pow_sub_one]
  by_cases hi : i < N
  · by_cases h1 : k + w ≤ i
    · rw [show i - (k + w) + (k + w) = i by omega]
      have e1 : ¬ i - k < w := by omega
      have e2 : ¬ i < k := by omega
      simp [hi, h1, e1, e2]
    · by_cases h2 : k ≤ i
      · have e1 : i - k < w := by omega
        have e2 : ¬ i < k := by omega
        simp [h1, h2, e1, e2]
      · have e2 : i < k := by omega
        simp [hi, h1, h2, e2]
  · have ht : a.testBit i = false := Nat.testBit_lt_two_pow (Nat.lt_of_lt_of_le ha (Nat.pow_le_pow_right (by omega) (by omega)))
    by_cases h1 : k + w ≤ i
    · rw [show i - (k + w) + (k + w) = i by omega]
      simp [ht]
    · simp [ht, h1]
theorem zf_clr' {a k w N m : Nat} (hm : m = (2 ^ w - 1) * 2 ^ k) (ha : a < 2 ^ N) (hl : m < 2 ^ N) : a &&& (2 ^ N - 1 - m) = a / 2 ^ (k + w) * 2 ^ (k + w) + a % 2 ^ k := by
  rw [zf_clr hm ha hl, zf_or]
  have h1 : a % 2 ^ k < 2 ^ k := Nat.mod_lt _ (Nat.two_pow_pos k)
  exact Nat.lt_of_lt_of_le h1 (Nat.pow_le_pow_right (by omega) (by omega))
/-- ints from nought on -/
theorem zb_nat {x : Int} (h : 0 ≤ x) : ∃ n : Nat, x = n := ⟨x.toNat, by omega⟩
theorem zAnd_m {x m p : Int} (k : Nat) (hp : ((2 ^ k : Nat) : Int) = p) (hm : m = p - 1) (h0 : 0 ≤ x) (h1 : x < 2147483648) : zAnd x m = x % p := by
  obtain ⟨n, rfl⟩ := zb_nat h0
  subst hp
  have h2 : 0 < 2 ^ k := Nat.two_pow_pos k
  obtain ⟨q, hq⟩ : ∃ q : Nat, q = 2 ^ k - 1 := ⟨_, rfl⟩
  have e : m = (q : Int) := by omega
  have e2 : n &&& q = n % 2 ^ k := by rw [hq, Nat.and_two_pow_sub_one_eq_mod]
  have hle : n % 2 ^ k ≤ n := Nat.mod_le _ _
  rw [e, zAnd_n (by rw [e2]; omega), e2]
  omega
theorem zLand_m {x m p : Int} (k : Nat) (hp : ((2 ^ k : Nat) : Int) = p) (hm : m = p - 1) (h0 : 0 ≤ x) (h1 : x < 9223372036854775808) : zLand x m = x % p := by
  obtain ⟨n, rfl⟩ := zb_nat h0
  subst hp
  have h2 : 0 < 2 ^ k := Nat.two_pow_pos k
  obtain ⟨q, hq⟩ : ∃ q : Nat, q = 2 ^ k - 1 := ⟨_, rfl⟩
  have e : m = (q : Int) := by omega
  have e2 : n &&& q = n % 2 ^ k := by rw [hq, Nat.and_two_pow_sub_one_eq_mod]
  have hle : n % 2 ^ k ≤ n := Nat.mod_le _ _
  rw [e, zLand_n (by rw [e2]; omega), e2]
  omega
theorem zf_div {a k : Nat} (h : a % 2 ^ k = 0) : a = a / 2 ^ k * 2 ^ k := by
  have := Nat.div_add_mod a (2 ^ k)
  rw [h, Nat.mul_comm] at this
  omega
theorem zOr_p {x y p : Int} (k : Nat) (hp : ((2 ^ k : Nat) : Int) = p) (h0 : 0 ≤ x) (hx : x % p = 0) (hy0 : 0 ≤ y) (hy : y < p) (h1 : x + y < 2147483648) : zOr x y = x + y := by
  obtain ⟨a, rfl⟩ := zb_nat h0
  obtain ⟨b, rfl⟩ := zb_nat hy0
  subst hp
  have e : a ||| b = a + b := by
    have h3 := zf_div (a := a) (k := k) (by omega)
    rw [h3, zf_or (by omega)]
  rw [zOr_n (by rw [e]; omega), e]
  omega
theorem zOr_q {x y p : Int} (k : Nat) (hp : ((2 ^ k : Nat) : Int) = p) (h0 : 0 ≤ x) (hx : x % p = 0) (hy0 : 0 ≤ y) (hy : y < p) (h1 : y + x < 2147483648) : zOr y x = y + x := by
  have h := zOr_p k hp h0 hx hy0 hy (by omega)
  have hc : zOr y x = zOr x y := by unfold zOr; rw [Int32.or_comm]
  rw [hc, h]
  omega
theorem zLor_p {x y p : Int} (k : Nat) (hp : ((2 ^ k : Nat) : Int) = p) (h0 : 0 ≤ x) (hx : x % p = 0) (hy0 : 0 ≤ y) (hy : y < p) (h1 : x + y < 9223372036854775808) : zLor x y = x + y := by
  obtain ⟨a, rfl⟩ := zb_nat h0
  obtain ⟨b, rfl⟩ := zb_nat hy0
  subst hp
  have e : a ||| b = a + b := by
    have h3 := zf_div (a := a) (k := k) (by omega)
    rw [h3, zf_or (by omega)]
  rw [zLor_n (by rw [e]; omega), e]
  omega
theorem zShl_p {x p : Int} (k : Nat) (hk : k < 32) (hp : ((2 ^ k : Nat) : Int) = p) (h0 : 0 ≤ x) (h1 : x * p < 2147483648) : zShl x k = x * p := by
  obtain ⟨a, rfl⟩ := zb_nat h0
  subst hp
  have h2 : ((a * 2 ^ k : Nat) : Int) < 2147483648 := by rw [Int.natCast_mul]; exact h1
  rw [zShl_n hk (by omega), Int.natCast_mul]
theorem zLshl_p {x p : Int} (k : Nat) (hk : k < 64) (hp : ((2 ^ k : Nat) : Int) = p) (h0 : 0 ≤ x) (h1 : x * p < 9223372036854775808) : zLshl x k = x * p := by
  obtain ⟨a, rfl⟩ := zb_nat h0
  subst hp
  have h2 : ((a * 2 ^ k : Nat) : Int) < 9223372036854775808 := by rw [Int.natCast_mul]; exact h1
  rw [zLshl_n hk (by omega), Int.natCast_mul]
theorem zShr_p {x p : Int} (k : Nat) (hk : k < 32) (hp : ((2 ^ k : Nat) : Int) = p) (h : z_in x) : zShr x k = x / p := by rw [zShr_k hk h, hp]
theorem zLshr_p {x p : Int} (k : Nat) (hk : k < 64) (hp : ((2 ^ k : Nat) : Int) = p) (h : z_inL x) : zLshr x k = x / p := by rw [zLshr_k hk h, hp]
theorem zUshr16 {x : Int} (h0 : 0 ≤ x) (h1 : x < 2147483648) : zUshr x 16 = x / 65536 := by
  obtain ⟨a, rfl⟩ := zb_nat h0
  have h := zUshr_n (a := a) (k := 16) (by omega) (by omega)
  rw [show ((16 : Nat) : Int) = 16 from rfl] at h
  rw [h]
  omega
/-- one bit -/
theorem zAnd_b {x p : Int} (k : Nat) (hp : ((2 ^ k : Nat) : Int) = p) (h0 : 0 ≤ x) (h1 : x < 2147483648) : zAnd x p = x / p % 2 * p := by
  obtain ⟨n, rfl⟩ := zb_nat h0
  subst hp
  have e := zf_and n k 1
  rw [show (2 ^ 1 - 1) * 2 ^ k = 2 ^ k by simp] at e
  have hle : n &&& 2 ^ k ≤ n := Nat.and_le_left
  rw [zAnd_n (by omega), e, Int.natCast_mul, Int.natCast_emod, Int.natCast_ediv]
  rfl
theorem zb_neg32 {c : Nat} (h : c < 4294967296) : (Int32.ofInt (-(c : Int) - 1)).toBitVec = BitVec.ofNat 32 (2 ^ 32 - 1 - c) := by
  rw [Int32.toBitVec_ofInt]
  apply BitVec.eq_of_toNat_eq
  rw [BitVec.toNat_ofInt, BitVec.toNat_ofNat]
  omega
theorem zb_neg64 {c : Nat} (h : c < 18446744073709551616) : (Int64.ofInt (-(c : Int) - 1)).toBitVec = BitVec.ofNat 64 (2 ^ 64 - 1 - c) := by
  rw [Int64.toBitVec_ofInt]
  apply BitVec.eq_of_toNat_eq
  rw [BitVec.toNat_ofInt, BitVec.toNat_ofNat]
  omega
/-- a field taken out of an int -/
theorem zAnd_c {x c : Int} (k w m p q : Nat) (hm : m = (2 ^ w - 1) * 2 ^ k) (hc : c = -(m : Int) - 1) (hl : m < 4294967296) (hp : 2 ^ k = p) (hq : 2 ^ (k + w) = q) (h0 : 0 ≤ x) (h1 : x < 2147483648) : zAnd x c = x / q * q + x % p := by
  obtain ⟨n, rfl⟩ := zb_nat h0
  subst hc
  have e := zf_clr' (a := n) (N := 32) hm (by omega) hl
  have hle : n &&& (2 ^ 32 - 1 - m) ≤ n := Nat.and_le_left
  have h2 : zAnd n (-(m : Int) - 1) = ((n &&& (2 ^ 32 - 1 - m) : Nat) : Int) := zb_ti (by rw [Int32.toBitVec_and, zb_bv, zb_neg32 hl, BitVec.ofNat_and]) (by omega)
  rw [h2, e, hp, hq, Int.natCast_add, Int.natCast_mul, Int.natCast_emod, Int.natCast_ediv]
/-! the rows of three bits: digit i of t -/
def zdig (t i : Int) : Int := zLand (zLshr t (3 * i)) 7
/-- t with e as digit i -/
def zput (t i e : Int) : Int := zLor (zLand t (zLxor (zLshl 7 (3 * i)) (-1))) (zLshl e (3 * i))
def zputN (t i e : Nat) : Nat := ((t / 2 ^ (3 * i + 3) * 2 ^ (3 * i + 3)) ||| t % 2 ^ (3 * i)) ||| e * 2 ^ (3 * i)
theorem zdig_n {t i : Nat} (ht : t < 68719476736) (hi : i < 12) : zdig t i = ((t / 2 ^ (3 * i) % 2 ^ 3 : Nat) : Int) := by
  unfold zdig
  have e3 : (3 : Int) * (i : Int) = ((3 * i : Nat) : Int) := by omega
  have hle : t / 2 ^ (3 * i) ≤ t := Nat.div_le_self _ _
  rw [e3, zLshr_k (k := 3 * i) (by omega) ⟨by omega, by omega⟩]
  rw [← Int.natCast_ediv]
  have h := zLand_n (a := t / 2 ^ (3 * i)) (b := 7) (by have := Nat.and_le_left (n := t / 2 ^ (3 * i)) (m := 7); omega)
  rw [show ((7 : Nat) : Int) = 7 from rfl] at h
  rw [h]
  congr 1
  exact Nat.and_two_pow_sub_one_eq_mod _ 3
theorem zputN_bit (t i e b : Nat) : (zputN t i e).testBit b = ((decide (3 * i + 3 ≤ b) && t.testBit b) || (decide (b < 3 * i) && t.testBit b) || (decide (3 * i ≤ b) && e.testBit (b - 3 * i))) := by
  unfold zputN
  rw [Nat.testBit_or, Nat.testBit_or, Nat.testBit_mul_two_pow, Nat.testBit_div_two_pow, Nat.testBit_mod_two_pow, Nat.testBit_mul_two_pow]
  by_cases h : 3 * i + 3 ≤ b
  · rw [show b - (3 * i + 3) + (3 * i + 3) = b by omega]
  · simp [h]
theorem zputN_lt {t i e : Nat} (ht : t < 2 ^ 36) (hi : i < 12) (he : e < 2 ^ 3) : zputN t i e < 2 ^ 36 := by
  apply Nat.lt_pow_two_of_testBit
  intro b hb
  have h1 : t.testBit b = false := Nat.testBit_lt_two_pow (Nat.lt_of_lt_of_le ht (Nat.pow_le_pow_right (by omega) hb))
  have h2 : e.testBit (b - 3 * i) = false := Nat.testBit_lt_two_pow (Nat.lt_of_lt_of_le he (Nat.pow_le_pow_right (by omega) (by omega)))
  rw [zputN_bit, h1, h2]
  simp
theorem zput_n {t i e : Nat} (ht : t < 2 ^ 36) (hi : i < 12) (he : e < 2 ^ 3) : zput t i e = (zputN t i e : Int) := by
  unfold zput
  have e3 : (3 : Int) * (i : Int) = ((3 * i : Nat) : Int) := by omega
  have hp : 2 ^ (3 * i) ≤ 2 ^ 33 := Nat.pow_le_pow_right (by omega) (by omega)
  have hp0 : 0 < 2 ^ (3 * i) := Nat.two_pow_pos _
  have hlt := zputN_lt ht hi he
  have m7 : zLshl 7 ((3 * i : Nat) : Int) = ((7 * 2 ^ (3 * i) : Nat) : Int) := zLshl_n (a := 7) (by omega) (by omega)
  have me : zLshl e ((3 * i : Nat) : Int) = ((e * 2 ^ (3 * i) : Nat) : Int) := zLshl_n (a := e) (by omega) (by
    have : e * 2 ^ (3 * i) ≤ 7 * 2 ^ 33 := Nat.mul_le_mul (by omega) hp
    omega)
  rw [e3, m7, me]
  obtain ⟨m, hm⟩ : ∃ m, m = 7 * 2 ^ (3 * i) := ⟨_, rfl⟩
  rw [← hm]
  have hx : (Int64.ofInt (zLxor m (-1))).toBitVec = BitVec.ofNat 64 (2 ^ 64 - 1 - m) := by
    have h1 : Int64.ofInt (zLxor m (-1)) = Int64.ofInt m ^^^ Int64.ofInt (-1) := Int64.ofInt_toInt _
    rw [h1, Int64.toBitVec_xor, zb_bvL]
    show BitVec.ofNat 64 m ^^^ BitVec.allOnes 64 = _
    rw [BitVec.xor_allOnes]
    apply BitVec.eq_of_toNat_eq
    rw [BitVec.toNat_not, BitVec.toNat_ofNat, BitVec.toNat_ofNat]
    omega
  have hand : Int64.ofInt (zLand t (zLxor m (-1))) = Int64.ofInt ((t &&& (2 ^ 64 - 1 - m) : Nat) : Int) := by
    have h1 : Int64.ofInt (zLand t (zLxor m (-1))) = Int64.ofInt t &&& Int64.ofInt (zLxor m (-1)) := Int64.ofInt_toInt _
    rw [h1]
    apply Int64.toBitVec_inj.mp
    rw [Int64.toBitVec_and, hx, zb_bvL, zb_bvL, BitVec.ofNat_and]
  have hc := zf_clr (a := t) (k := 3 * i) (w := 3) (N := 64) (m := m) hm (by omega) (by omega)
  unfold zLor
  rw [hand, hc]
  refine zb_tiL ?_ (by omega)
  rw [Int64.toBitVec_or, zb_bvL, zb_bvL, ← BitVec.ofNat_or]
  rfl
theorem zputN_dig {t i e j : Nat} (he : e < 2 ^ 3) : zputN t i e / 2 ^ (3 * j) % 2 ^ 3 = if j = i then e else t / 2 ^ (3 * j) % 2 ^ 3 := by
  apply Nat.eq_of_testBit_eq
  intro b
  rw [Nat.testBit_mod_two_pow, Nat.testBit_div_two_pow, zputN_bit]
  by_cases hj : j = i
  · subst hj
    rw [if_pos rfl, show b + 3 * j - 3 * j = b by omega]
    by_cases hb : b < 3
    · have h1 : ¬ 3 * j + 3 ≤ b + 3 * j := by omega
      have h2 : ¬ b + 3 * j < 3 * j := by omega
      simp [hb, h1, h2]
    · have h2 : e.testBit b = false := Nat.testBit_lt_two_pow (Nat.lt_of_lt_of_le he (Nat.pow_le_pow_right (by omega) (by omega)))
      rw [h2]
      simp [hb]
  · rw [if_neg hj, Nat.testBit_mod_two_pow, Nat.testBit_div_two_pow]
    by_cases hb : b < 3
    · by_cases hl : j < i
      · have h1 : ¬ 3 * i + 3 ≤ b + 3 * j := by omega
        have h2 : b + 3 * j < 3 * i := by omega
        have h3 : ¬ 3 * i ≤ b + 3 * j := by omega
        simp [hb, h1, h2, h3]
      · have h1 : 3 * i + 3 ≤ b + 3 * j := by omega
        have h2 : ¬ b + 3 * j < 3 * i := by omega
        have h4 : e.testBit (b + 3 * j - 3 * i) = false := Nat.testBit_lt_two_pow (Nat.lt_of_lt_of_le he (Nat.pow_le_pow_right (by omega) (by omega)))
        simp [hb, h1, h2, h4]
    · simp [hb]
theorem zput_rng {t i e : Int} (ht : 0 ≤ t ∧ t < 68719476736) (hi : 0 ≤ i ∧ i < 12) (he : 0 ≤ e ∧ e < 8) : 0 ≤ zput t i e ∧ zput t i e < 68719476736 := by
  obtain ⟨a, rfl⟩ := zb_nat ht.1
  obtain ⟨b, rfl⟩ := zb_nat hi.1
  obtain ⟨c, rfl⟩ := zb_nat he.1
  have h := zputN_lt (t := a) (i := b) (e := c) (by omega) (by omega) (by omega)
  rw [zput_n (by omega) (by omega) (by omega)]
  omega
theorem zput_dig {t i e j : Int} (ht : 0 ≤ t ∧ t < 68719476736) (hi : 0 ≤ i ∧ i < 12) (he : 0 ≤ e ∧ e < 8) (hj : 0 ≤ j ∧ j < 12) : zdig (zput t i e) j = if j = i then e else zdig t j := by
  obtain ⟨a, rfl⟩ := zb_nat ht.1
  obtain ⟨b, rfl⟩ := zb_nat hi.1
  obtain ⟨c, rfl⟩ := zb_nat he.1
  obtain ⟨d, rfl⟩ := zb_nat hj.1
  have h := zputN_lt (t := a) (i := b) (e := c) (by omega) (by omega) (by omega)
  rw [zput_n (by omega) (by omega) (by omega), zdig_n (by omega) (by omega), zdig_n (by omega) (by omega), zputN_dig (by omega)]
  by_cases hh : d = b
  · rw [if_pos hh, if_pos (by omega)]
  · rw [if_neg hh, if_neg (by omega)]
theorem zdig_rng {t i : Int} (ht : 0 ≤ t ∧ t < 68719476736) (hi : 0 ≤ i ∧ i < 12) : 0 ≤ zdig t i ∧ zdig t i < 8 := by
  obtain ⟨a, rfl⟩ := zb_nat ht.1
  obtain ⟨b, rfl⟩ := zb_nat hi.1
  rw [zdig_n (by omega) (by omega)]
  omega
/-! sets of firms -/
def zpop (s : Nat) : Nat := s % 2 + s / 2 % 2 + s / 4 % 2 + s / 8 % 2 + s / 16 % 2 + s / 32 % 2
theorem zseen : ∀ s, s < 64 → ∀ n, n < 6 → (zAnd (zShr (s : Nat) (n : Nat)) 1 = 0 ∨ zAnd (zShr (s : Nat) (n : Nat)) 1 = 1) ∧ (zAnd (zShr (s : Nat) (n : Nat)) 1 = ((s / 2 ^ n % 2 : Nat) : Int)) := by decide +kernel
theorem zseen2 : ∀ s, s < 64 → ∀ n, n < 6 → s / 2 ^ n % 2 = 0 → (zOr (s : Nat) (zShl 1 (n : Nat)) = ((s + 2 ^ n : Nat) : Int) ∧ s + 2 ^ n < 64 ∧ zpop (s + 2 ^ n) = zpop s + 1) ∧ ∀ m, m < 6 → (s + 2 ^ n) / 2 ^ m % 2 = if m = n then 1 else s / 2 ^ m % 2 := by decide +kernel
theorem zseen1 : ∀ n, n < 6 → zShl 1 (n : Nat) = ((2 ^ n : Nat) : Int) ∧ 2 ^ n < 64 ∧ zpop (2 ^ n) = 1 ∧ ∀ m, m < 6 → 2 ^ n / 2 ^ m % 2 = if m = n then 1 else 0 := by decide +kernel
theorem zpop6 : ∀ s, s < 64 → zpop s ≤ 6 := by decide +kernel
