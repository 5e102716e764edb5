/-! bits of small sets -/
/-- those that p names, by bits -/
def bitsOf (p : Nat → Bool) : Nat → Int32
  | 0 => 0
  | k + 1 => if p k = true then bitsOf p k ||| (1 <<< (nI k &&& 31)) else bitsOf p k
theorem bitsOf_0 {p : Nat → Bool} : bitsOf p 0 = 0 := by rw [bitsOf]
theorem bitsOf_s {p : Nat → Bool} {k : Nat} : bitsOf p (k + 1) = if p k = true then bitsOf p k ||| (1 <<< (nI k &&& 31)) else bitsOf p k := by rw [bitsOf]
def bnN (p : Nat → Bool) : Nat → Nat
  | 0 => 0
  | k + 1 => (if p k = true then 2 ^ k else 0) + bnN p k
theorem bnN_lt (p : Nat → Bool) : ∀ k, bnN p k < 2 ^ k
  | 0 => by simp [bnN]
  | k + 1 => by
    have ih := bnN_lt p k
    rw [bnN, Nat.pow_succ]
    split <;> omega
theorem sh1 : ∀ k, k < 31 → (1 : Int32) <<< (nI k &&& 31) = nI (2 ^ k) := by decide +kernel
theorem shs : ∀ n, n < 32 → ((nI n &&& 31).toBitVec.smod 32).toNat = n := by decide +kernel
theorem or_nat {a k : Nat} (h : a < 2 ^ k) : a ||| 2 ^ k = 2 ^ k + a := by
  have := Nat.two_pow_add_eq_or_of_lt h 1
  rw [Nat.mul_one] at this
  rw [this, Nat.or_comm]
theorem nI_or (a b : Nat) : nI a ||| nI b = nI (a ||| b) := by
  apply Int32.toBitVec_inj.mp
  apply BitVec.eq_of_toNat_eq
  show (BitVec.ofNat 32 a ||| BitVec.ofNat 32 b).toNat = (BitVec.ofNat 32 (a ||| b)).toNat
  simp [BitVec.toNat_or, Nat.or_mod_two_pow]
theorem nI_xor (a b : Nat) : nI a ^^^ nI b = nI (a ^^^ b) := by
  apply Int32.toBitVec_inj.mp
  apply BitVec.eq_of_toNat_eq
  show (BitVec.ofNat 32 a ^^^ BitVec.ofNat 32 b).toNat = (BitVec.ofNat 32 (a ^^^ b)).toNat
  simp [BitVec.toNat_xor, Nat.xor_mod_two_pow]
theorem nI_and (a b : Nat) : nI a &&& nI b = nI (a &&& b) := by
  apply Int32.toBitVec_inj.mp
  apply BitVec.eq_of_toNat_eq
  show (BitVec.ofNat 32 a &&& BitVec.ofNat 32 b).toNat = (BitVec.ofNat 32 (a &&& b)).toNat
  simp [BitVec.toNat_and, Nat.and_mod_two_pow]
theorem bitsOf_nI (p : Nat → Bool) : ∀ k, k ≤ 30 → bitsOf p k = nI (bnN p k)
  | 0, _ => rfl
  | k + 1, h => by
    have ih := bitsOf_nI p k (by omega)
    rw [bitsOf, bnN, ih]
    split
    · rw [sh1 k (by omega), nI_or, or_nat (bnN_lt p k)]
    · rw [Nat.zero_add]
theorem shr_nI {n k : Nat} (hn : n < 2 ^ 31) (hk : k < 32) : nI n >>> (nI k &&& 31) = nI (n / 2 ^ k) := pk_shrN hn _ k (shs k hk)
theorem and1_nI (n : Nat) (h : n < 2 ^ 32) : nI n &&& 1 = nI (n % 2) := pk_andN h 1 (by decide)
theorem bn_bit (p : Nat → Bool) : ∀ n g, bnN p n / 2 ^ g % 2 = if g < n ∧ p g = true then 1 else 0
  | 0, g => by simp [bnN]
  | n + 1, g => by
    have ih := bn_bit p n g
    have hl := bnN_lt p n
    rw [bnN]
    rcases Nat.lt_trichotomy g n with h | h | h
    · have e : (if p n = true then 2 ^ n else 0) = 2 ^ g * (2 * (if p n = true then 2 ^ (n - g - 1) else 0)) := by
        split
        · rw [← Nat.pow_succ', ← Nat.pow_add]; congr 1; omega
        · simp
      rw [e, Nat.add_comm, Nat.add_mul_div_left _ _ (Nat.two_pow_pos g), Nat.add_mul_mod_self_left, ih]
      simp [h, show g < n + 1 by omega]
    · subst h
      by_cases hp : p g = true
      · simp only [hp, if_true]
        rw [Nat.add_comm, Nat.add_div_right _ (Nat.two_pow_pos g), Nat.div_eq_of_lt hl]
        simp
      · simp only [hp]
        simp [Nat.div_eq_of_lt hl]
    · have h1 : (if p n = true then 2 ^ n else 0) + bnN p n < 2 ^ g := by
        have : 2 ^ (n + 1) ≤ 2 ^ g := Nat.pow_le_pow_right (by omega) (by omega)
        rw [Nat.pow_succ] at this
        split <;> omega
      rw [Nat.div_eq_of_lt h1]
      simp [show ¬ g < n + 1 by omega]
theorem bits_bit {p : Nat → Bool} {n g : Nat} (hn : n ≤ 30) (hg : g < 32) : (bitsOf p n >>> (nI g &&& 31)) &&& 1 = b2i (decide (g < n) && p g) := by
  have hl := bnN_lt p n
  have h2 : 2 ^ n ≤ 2 ^ 30 := Nat.pow_le_pow_right (by omega) hn
  rw [bitsOf_nI p n hn, shr_nI (by omega) hg, and1_nI _ (Nat.lt_of_le_of_lt (Nat.div_le_self _ _) (by omega)), bn_bit]
  by_cases h : g < n
  · cases hp : p g <;> simp [h, b2i, nI_0] <;> rfl
  · simp [h, b2i, nI_0]
theorem bitsOf_congr {p q : Nat → Bool} : ∀ {n : Nat}, (∀ k, k < n → p k = q k) → bitsOf p n = bitsOf q n
  | 0, _ => rfl
  | n + 1, h => by rw [bitsOf, bitsOf, h n (by omega), bitsOf_congr (fun k hk => h k (by omega))]
/-- how many -/
def cntB (p : Nat → Bool) : Nat → Nat
  | 0 => 0
  | k + 1 => cntB p k + (if p k = true then 1 else 0)
/-- Integer.bitCount, as its code has it -/
def bcI (x0 : Int32) : Int32 :=
  let u (x : Int32) (k : Int32) : Int32 := (x.toUInt32 >>> (k.toUInt32 &&& Int32.toUInt32 31)).toInt32
  let x1 := x0 - (u x0 1 &&& 1431655765)
  let x2 := (x1 &&& 858993459) + (u x1 2 &&& 858993459)
  let x3 := (x2 + u x2 4) &&& 252645135
  let x4 := x3 + u x3 8
  let x5 := x4 + u x4 16
  x5 &&& 63
def popN (m : Nat) : Nat := m % 2 + m / 2 % 2 + m / 4 % 2 + m / 8 % 2 + m / 16 % 2 + m / 32 % 2 + m / 64 % 2 + m / 128 % 2 + m / 256 % 2 + m / 512 % 2
theorem bcI_pop : ∀ m, m < 1024 → bcI (nI m) = nI (popN m) := by decide +kernel
theorem pop_bn {p : Nat → Bool} {n : Nat} (hn : n ≤ 10) : popN (bnN p n) = cntB p n := by
  have h := bn_bit p n
  have e : popN (bnN p n) = (bnN p n / 2 ^ 0 % 2) + (bnN p n / 2 ^ 1 % 2) + (bnN p n / 2 ^ 2 % 2) + (bnN p n / 2 ^ 3 % 2) + (bnN p n / 2 ^ 4 % 2) + (bnN p n / 2 ^ 5 % 2) + (bnN p n / 2 ^ 6 % 2) + (bnN p n / 2 ^ 7 % 2) + (bnN p n / 2 ^ 8 % 2) + (bnN p n / 2 ^ 9 % 2) := by
    unfold popN
    simp
  rw [e]
  simp only [h]
  match n, hn with
  | 0, _ => simp [cntB]
  | 1, _ => simp [cntB]
  | 2, _ => simp [cntB]
  | 3, _ => simp [cntB]
  | 4, _ => simp [cntB]
  | 5, _ => simp [cntB]
  | 6, _ => simp [cntB]
  | 7, _ => simp [cntB]
  | 8, _ => simp [cntB]
  | 9, _ => simp [cntB]
  | 10, _ => simp [cntB]
  | n + 11, h => omega
theorem bc_bits {p : Nat → Bool} {n : Nat} (hn : n ≤ 10) : bcI (bitsOf p n) = nI (cntB p n) := by
  have hl := bnN_lt p n
  have h2 : 2 ^ n ≤ 2 ^ 10 := Nat.pow_le_pow_right (by omega) hn
  rw [bitsOf_nI p n (by omega), bcI_pop _ (by omega), pop_bn hn]
theorem J6_bitCount {Z : gZ} {I : gI} {J : gJ} {x : Int32} : g_at 133 0 [.int x] [] Z I J = some (some (.int (bcI x)), Z, I, J) := by
  simp (decide := true) only [gN1_int, gN1_ref, gN1_null, gN1_long, gTg8_8, gTg8_14, gTg9_9, gTg9_13, gTgA_8, gTgA_9, gTgA_10, gTgA_11, gTgA_13, gTgA_14, gB01_0, gB01_1, gB01_b, List.cons_append, List.nil_append, Option.toList_some, Option.toList_none, Option.bind_some, ↓reduceIte, eq_self, not_true_eq_false, not_false_eq_true, b2i_0, b2i_1, up_eq, up_ne, up_up, up_sort, up_self, fl_at, nI_s, q_133_0, q_133_1, q_133_2, q_133_3, q_133_4, q_133_7, q_133_8, q_133_9, q_133_10, q_133_11, q_133_14, q_133_15, q_133_16, q_133_17, q_133_18, q_133_21, q_133_22, q_133_23, q_133_24, q_133_25, q_133_26, q_133_27, q_133_28, q_133_29, q_133_32, q_133_33, q_133_34, q_133_35, q_133_36, q_133_38, q_133_39, q_133_40, q_133_41, q_133_42, q_133_43, q_133_45, q_133_46, q_133_47, q_133_48, q_133_49, q_133_51, q_133_52]
  rfl
