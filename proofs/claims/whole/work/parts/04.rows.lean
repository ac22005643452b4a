/-! numbers: what the machine's ints and longs are of numbers -/
theorem i32_add (a b : Int) : Int32.ofInt a + Int32.ofInt b = Int32.ofInt (a + b) := (Int32.ofInt_add a b).symm
theorem i32_sub (a b : Int) : Int32.ofInt a - Int32.ofInt b = Int32.ofInt (a - b) := (Int32.ofInt_sub a b).symm
theorem i32_mul (a b : Int) : Int32.ofInt a * Int32.ofInt b = Int32.ofInt (a * b) := (Int32.ofInt_mul a b).symm
theorem i64_add (a b : Int) : Int64.ofInt a + Int64.ofInt b = Int64.ofInt (a + b) := (Int64.ofInt_add a b).symm
theorem i64_sub (a b : Int) : Int64.ofInt a - Int64.ofInt b = Int64.ofInt (a - b) := (Int64.ofInt_sub a b).symm
theorem i64_mul (a b : Int) : Int64.ofInt a * Int64.ofInt b = Int64.ofInt (a * b) := (Int64.ofInt_mul a b).symm
theorem i32_toInt {a : Int} (h : -2147483648 ≤ a ∧ a < 2147483648) : (Int32.ofInt a).toInt = a := by
  rw [Int32.toInt_ofInt, show Int32.size = 4294967296 from rfl]
  exact Int.bmod_eq_of_le (by omega) (by omega)
theorem i64_toInt {a : Int} (h : -9223372036854775808 ≤ a ∧ a < 9223372036854775808) : (Int64.ofInt a).toInt = a := by
  rw [Int64.toInt_ofInt, show Int64.size = 18446744073709551616 from rfl]
  exact Int.bmod_eq_of_le (by omega) (by omega)
theorem i32_le {a b : Int} (ha : -2147483648 ≤ a ∧ a < 2147483648) (hb : -2147483648 ≤ b ∧ b < 2147483648) : Int32.ofInt a ≤ Int32.ofInt b ↔ a ≤ b := by
  rw [Int32.le_iff_toInt_le, i32_toInt ha, i32_toInt hb]
theorem i32_lt {a b : Int} (ha : -2147483648 ≤ a ∧ a < 2147483648) (hb : -2147483648 ≤ b ∧ b < 2147483648) : Int32.ofInt a < Int32.ofInt b ↔ a < b := by
  rw [Int32.lt_iff_toInt_lt, i32_toInt ha, i32_toInt hb]
theorem i32_eq {a b : Int} (ha : -2147483648 ≤ a ∧ a < 2147483648) (hb : -2147483648 ≤ b ∧ b < 2147483648) : Int32.ofInt a = Int32.ofInt b ↔ a = b := by
  rw [← Int32.toInt_inj, i32_toInt ha, i32_toInt hb]
theorem i64_lt {a b : Int} (ha : -9223372036854775808 ≤ a ∧ a < 9223372036854775808) (hb : -9223372036854775808 ≤ b ∧ b < 9223372036854775808) : Int64.ofInt a < Int64.ofInt b ↔ a < b := by
  rw [Int64.lt_iff_toInt_lt, i64_toInt ha, i64_toInt hb]
theorem i64_eq {a b : Int} (ha : -9223372036854775808 ≤ a ∧ a < 9223372036854775808) (hb : -9223372036854775808 ≤ b ∧ b < 9223372036854775808) : Int64.ofInt a = Int64.ofInt b ↔ a = b := by
  rw [← Int64.toInt_inj, i64_toInt ha, i64_toInt hb]
theorem i32_0 : (0 : Int32) = Int32.ofInt 0 := rfl
theorem i32_nat {a : Int} (h : 0 ≤ a ∧ a < 2147483648) : (Int32.ofInt a).toNatClampNeg = a.toNat := by
  show (Int32.ofInt a).toInt.toNat = a.toNat
  rw [i32_toInt ⟨by omega, h.2⟩]
theorem i32_in {a : Int} {n : Nat} (h0 : 0 ≤ a) (h1 : a < n) (hn : n < 2147483648) : vp_in (Int32.ofInt a) n := by
  rw [vp_in_iff, i32_toInt ⟨by omega, by omega⟩]
  exact ⟨h0, h1⟩
theorem nI_i (n : Nat) : nI n = Int32.ofInt (n : Int) := rfl
theorem i32_nI {a : Int} (h : 0 ≤ a) : Int32.ofInt a = nI a.toNat := by
  obtain ⟨n, rfl⟩ := Int.eq_ofNat_of_zero_le h
  rfl
theorem i64_lN {a : Int} (h : 0 ≤ a) : Int64.ofInt a = lN a.toNat := by
  obtain ⟨n, rfl⟩ := Int.eq_ofNat_of_zero_le h
  rfl
theorem i32_div {a b : Int} (ha : 0 ≤ a ∧ a < 2147483648) (hb : 0 < b ∧ b < 2147483648) : Int32.ofInt a / Int32.ofInt b = Int32.ofInt (a / b) := by
  obtain ⟨n, rfl⟩ := Int.eq_ofNat_of_zero_le ha.1
  obtain ⟨d, rfl⟩ := Int.eq_ofNat_of_zero_le (Int.le_of_lt hb.1)
  exact pk_div (a := n) (d := d) (by omega) (by omega) (by omega)
theorem i32_rem {a b : Int} (ha : 0 ≤ a ∧ a < 2147483648) (hb : 0 < b ∧ b < 2147483648) : Int32.ofInt a - Int32.ofInt a / Int32.ofInt b * Int32.ofInt b = Int32.ofInt (a % b) := by
  obtain ⟨n, rfl⟩ := Int.eq_ofNat_of_zero_le ha.1
  obtain ⟨d, rfl⟩ := Int.eq_ofNat_of_zero_le (Int.le_of_lt hb.1)
  exact pk_rem (a := n) (d := d) (by omega) (by omega) (by omega)
theorem i64_div {a b : Int} (ha : 0 ≤ a ∧ a < 9223372036854775808) (hb : 0 < b ∧ b < 9223372036854775808) : Int64.ofInt a / Int64.ofInt b = Int64.ofInt (a / b) := by
  obtain ⟨n, rfl⟩ := Int.eq_ofNat_of_zero_le ha.1
  obtain ⟨d, rfl⟩ := Int.eq_ofNat_of_zero_le (Int.le_of_lt hb.1)
  exact pk_lDiv (a := n) (b := d) (by omega) (by omega) (by omega)
theorem i64_rem {a b : Int} (ha : 0 ≤ a ∧ a < 9223372036854775808) (hb : 0 < b ∧ b < 9223372036854775808) : Int64.ofInt a - Int64.ofInt a / Int64.ofInt b * Int64.ofInt b = Int64.ofInt (a % b) := by
  obtain ⟨n, rfl⟩ := Int.eq_ofNat_of_zero_le ha.1
  obtain ⟨d, rfl⟩ := Int.eq_ofNat_of_zero_le (Int.le_of_lt hb.1)
  exact pk_lRem (a := n) (b := d) (by omega) (by omega) (by omega)
theorem i32_ne0 {a : Int} (ha : 0 < a ∧ a < 2147483648) : ¬ Int32.ofInt a = 0 := by
  rw [i32_0, i32_eq ⟨by omega, by omega⟩ ⟨by omega, by omega⟩]
  omega
theorem i64_ne0 {a : Int} (ha : 0 < a ∧ a < 9223372036854775808) : ¬ Int64.ofInt a = 0 := by
  rw [show (0 : Int64) = Int64.ofInt 0 from rfl, i64_eq ⟨by omega, by omega⟩ ⟨by omega, by omega⟩]
  omega
theorem i32_i64 {a : Int} (h : -2147483648 ≤ a ∧ a < 2147483648) : (Int32.ofInt a).toInt64 = Int64.ofInt a := by
  rw [← Int64.toInt_inj, Int32.toInt_toInt64, i32_toInt h, i64_toInt ⟨by omega, by omega⟩]
theorem i64_i32 (a : Int) : (Int64.ofInt a).toInt32 = Int32.ofInt a := by
  rw [← Int32.toInt_inj, Int64.toInt_toInt32, Int64.toInt_ofInt, Int32.toInt_ofInt]
  exact Int.bmod_bmod_of_dvd (by decide)
theorem i32_i8 (a : Int) : (Int32.ofInt a).toInt8.toInt32 = Int32.ofInt (a.bmod 256) := by
  rw [← Int32.toInt_inj, Int8.toInt_toInt32, Int32.toInt_toInt8, Int32.toInt_ofInt, Int32.toInt_ofInt]
  rw [show (Int.bmod a (2 ^ 32)).bmod (2 ^ 8) = a.bmod 256 from Int.bmod_bmod_of_dvd (by decide)]
  rw [show Int32.size = 4294967296 from rfl, Int.bmod_eq_of_le (n := a.bmod 256) (m := 4294967296)]
  · have := Int.le_bmod (x := a) (m := 256) (by decide); omega
  · have := Int.bmod_lt (x := a) (m := 256) (by decide); omega
theorem i32_i16 (a : Int) : (Int32.ofInt a).toInt16.toInt32 = Int32.ofInt (a.bmod 65536) := by
  rw [← Int32.toInt_inj, Int16.toInt_toInt32, Int32.toInt_toInt16, Int32.toInt_ofInt, Int32.toInt_ofInt]
  rw [show (Int.bmod a (2 ^ 32)).bmod (2 ^ 16) = a.bmod 65536 from Int.bmod_bmod_of_dvd (by decide)]
  rw [show Int32.size = 4294967296 from rfl, Int.bmod_eq_of_le (n := a.bmod 65536) (m := 4294967296)]
  · have := Int.le_bmod (x := a) (m := 65536) (by decide); omega
  · have := Int.bmod_lt (x := a) (m := 65536) (by decide); omega
theorem i32_bits (a : Int) : (Int32.ofInt a).toBitVec.toNat = (a % 4294967296).toNat := by
  show (BitVec.ofInt 32 a).toNat = _
  rw [BitVec.toNat_ofInt]
  rfl
theorem i32_and (a : Int) (k : Nat) (hk : k ≤ 31) : Int32.ofInt a &&& Int32.ofInt (2 ^ k - 1) = Int32.ofInt (a % 2 ^ k) := by
  have hp : (2 : Nat) ^ k ≤ 2 ^ 31 := Nat.pow_le_pow_right (by decide) hk
  have h1 : (1 : Nat) ≤ 2 ^ k := Nat.one_le_two_pow
  have hm : (Int32.ofInt (2 ^ k - 1)).toBitVec.toNat = 2 ^ k - 1 := by
    rw [i32_bits]
    have : ((2 : Int) ^ k - 1) = (((2 ^ k - 1 : Nat)) : Int) := by rw [Int.ofNat_sub h1]; simp
    rw [this]
    rw [Int.emod_eq_of_lt (by omega) (by omega)]
    simp
  rw [pk_and _ k hm, i32_bits]
  rw [nI_i]
  congr 1
  have e1 : (((a % 4294967296).toNat % 2 ^ k : Nat) : Int) = (a % 4294967296) % 2 ^ k := by
    rw [Int.natCast_emod, Int.toNat_of_nonneg (Int.emod_nonneg _ (by decide))]
    simp
  rw [e1]
  apply Int.emod_emod_of_dvd
  have : (4294967296 : Int) = 2 ^ k * 2 ^ (32 - k) := by
    rw [← Int.pow_add, show k + (32 - k) = 32 by omega]
    rfl
  exact ⟨_, this⟩
theorem i32_shr {a : Int} {n : Nat} (ha : 0 ≤ a ∧ a < 2147483648) (hn : n < 32) : Int32.ofInt a >>> (Int32.ofInt n &&& 31) = Int32.ofInt (a / 2 ^ n) := by
  obtain ⟨x, rfl⟩ := Int.eq_ofNat_of_zero_le ha.1
  have hs : ((Int32.ofInt (n : Int) &&& 31).toBitVec.smod 32).toNat = n := by
    have : ∀ q : Nat, q < 32 → ((Int32.ofInt (q : Int) &&& 31).toBitVec.smod 32).toNat = q := by decide
    exact this n hn
  have h2 := pk_shrN (n := x) (by omega) (Int32.ofInt (n : Int) &&& 31) n hs
  rw [show Int32.ofInt (x : Int) = nI x from rfl, h2]
  rw [nI_i]
  congr 1
theorem i32_shl1 {n : Nat} (hn : n < 31) : Int32.ofInt 1 <<< (Int32.ofInt n &&& 31) = Int32.ofInt (2 ^ n) := by
  have : ∀ q : Nat, q < 31 → Int32.ofInt 1 <<< (Int32.ofInt (q : Int) &&& 31) = Int32.ofInt (2 ^ q) := by decide
  exact this n hn
