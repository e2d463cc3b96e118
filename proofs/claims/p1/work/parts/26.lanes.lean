def uN (x : Int64) : Nat := x.toUInt64.toNat
theorem uN_lt (x : Int64) : uN x < 18446744073709551616 := x.toUInt64.toNat_lt
theorem uN_inj {x y : Int64} (h : uN x = uN y) : x = y := congrArg UInt64.toInt64 (UInt64.toNat_inj.mp h)
theorem uN_add (x y : Int64) : uN (x + y) = (uN x + uN y) % 18446744073709551616 := by
  show (x.toUInt64 + y.toUInt64).toNat = _
  exact UInt64.toNat_add _ _
theorem uN_mul (x y : Int64) : uN (x * y) = (uN x * uN y) % 18446744073709551616 := by
  show (x.toUInt64 * y.toUInt64).toNat = _
  exact UInt64.toNat_mul _ _
theorem uN_shl (x : Int64) : uN (x <<< ((1 : Int32).toInt64 &&& 63)) = (2 * uN x) % 18446744073709551616 := by
  have h : (((1 : Int32).toInt64 &&& 63).toBitVec.smod 64).toNat = 1 := by decide
  show (x.toBitVec <<< (((1 : Int32).toInt64 &&& 63).toBitVec.smod 64).toNat).toNat = _
  rw [h, BitVec.toNat_shiftLeft, Nat.shiftLeft_eq, Nat.mul_comm]
  rfl
theorem uN_shr (x : Int64) (s : UInt64) : uN (x.toUInt64 >>> s).toInt64 = uN x / 2 ^ (s.toNat % 64) := by
  show (x.toUInt64 >>> s).toNat = _
  rw [UInt64.toNat_shiftRight, Nat.shiftRight_eq_div_pow]
  rfl
theorem uN_and (x y : Int64) : uN (x &&& y) = uN x &&& uN y := UInt64.toNat_and _ _
theorem uN_or2 (x y : Int64) : uN (x ||| y) = uN x ||| uN y := UInt64.toNat_or _ _
theorem uN_xor2 (x y : Int64) : uN (x ^^^ y) = uN x ^^^ uN y := UInt64.toNat_xor _ _
/-! sixteen lanes of four bits -/
def lane (n i : Nat) : Nat := n / 16 ^ i % 16
theorem lane_lt (n i : Nat) : lane n i < 16 := Nat.mod_lt _ (by decide)
theorem pw16 (i : Nat) : 16 ^ i = 2 ^ (4 * i) := by rw [Nat.pow_mul]
theorem pos16 (i : Nat) : 0 < 16 ^ i := Nat.pow_pos (by decide)
theorem lane_and (a b i : Nat) : lane (a &&& b) i = lane a i &&& lane b i := by
  unfold lane
  rw [pw16, Nat.and_div_two_pow, show 16 = 2 ^ 4 from rfl, Nat.and_mod_two_pow]
theorem lane_xor (a b i : Nat) : lane (a ^^^ b) i = lane a i ^^^ lane b i := by
  unfold lane
  rw [pw16, Nat.xor_div_two_pow, show 16 = 2 ^ 4 from rfl, Nat.xor_mod_two_pow]
theorem lane_or (a b i : Nat) : lane (a ||| b) i = lane a i ||| lane b i := by
  unfold lane
  rw [pw16, Nat.or_div_two_pow, show 16 = 2 ^ 4 from rfl, Nat.or_mod_two_pow]
theorem mod16 (A n : Nat) : A % 16 ^ (n + 1) = A % 16 ^ n + 16 ^ n * lane A n := by
  unfold lane
  rw [Nat.pow_succ]
  exact Nat.mod_mul
theorem low_add {A B : Nat} (h : ∀ j, lane A j + lane B j < 16) : ∀ n, A % 16 ^ n + B % 16 ^ n < 16 ^ n
  | 0 => by simp [Nat.mod_one]
  | n + 1 => by
    have ih := low_add h n
    have hn := h n
    rw [mod16, mod16]
    have h1 : 16 ^ n * (lane A n + lane B n) ≤ 16 ^ n * 15 := Nat.mul_le_mul_left _ (by omega)
    rw [Nat.mul_add] at h1
    rw [Nat.pow_succ]
    omega
theorem lane_add {A B : Nat} (h : ∀ j, lane A j + lane B j < 16) (n : Nat) : lane (A + B) n = lane A n + lane B n := by
  have hl := low_add h n
  have hn := h n
  have e : (A + B) / 16 ^ n = A / 16 ^ n + B / 16 ^ n := by
    have ea := Nat.div_add_mod A (16 ^ n)
    have eb := Nat.div_add_mod B (16 ^ n)
    have e1 : A + B = (A % 16 ^ n + B % 16 ^ n) + 16 ^ n * (A / 16 ^ n + B / 16 ^ n) := by rw [Nat.mul_add]; omega
    calc (A + B) / 16 ^ n = ((A % 16 ^ n + B % 16 ^ n) + 16 ^ n * (A / 16 ^ n + B / 16 ^ n)) / 16 ^ n := by rw [← e1]
      _ = (A % 16 ^ n + B % 16 ^ n) / 16 ^ n + (A / 16 ^ n + B / 16 ^ n) := Nat.add_mul_div_left _ _ (pos16 n)
      _ = A / 16 ^ n + B / 16 ^ n := by rw [Nat.div_eq_of_lt hl, Nat.zero_add]
  unfold lane at hn ⊢
  rw [e, Nat.add_mod]
  exact Nat.mod_eq_of_lt hn
theorem lane_hi {n i : Nat} (h : n < 2 ^ 64) (hi : 16 ≤ i) : lane n i = 0 := by
  unfold lane
  have h1 : 16 ^ 16 ≤ 16 ^ i := Nat.pow_le_pow_right (by decide) hi
  rw [Nat.div_eq_of_lt (by have : (16 : Nat) ^ 16 = 2 ^ 64 := by decide
                           omega)]
theorem lane_ext {a b : Nat} (ha : a < 2 ^ 64) (hb : b < 2 ^ 64) (h : ∀ i, i < 16 → lane a i = lane b i) : a = b := by
  have h1 : ∀ n, n ≤ 16 → a % 16 ^ n = b % 16 ^ n := by
    intro n
    induction n with
    | zero => intro _; simp [Nat.mod_one]
    | succ n ih => intro hn; rw [mod16, mod16, ih (by omega), h n (by omega)]
  have h2 := h1 16 (Nat.le_refl _)
  rw [show (16 : Nat) ^ 16 = 2 ^ 64 by decide, Nat.mod_eq_of_lt ha, Nat.mod_eq_of_lt hb] at h2
  exact h2
/-! the class's sums of all lanes -/
def lsum (x y : Int64) : Int64 := ((x &&& 8608480567731124087) + (y &&& 8608480567731124087)) ^^^ ((x ^^^ y) &&& (-8608480567731124088))
theorem lane_low (i : Nat) (hi : i < 16) : lane (uN 8608480567731124087) i = 7 := by
  have h : ∀ i, i < 16 → lane (uN 8608480567731124087) i = 7 := by decide
  exact h i hi
theorem lane_high (i : Nat) (hi : i < 16) : lane (uN (-8608480567731124088)) i = 8 := by
  have h : ∀ i, i < 16 → lane (uN (-8608480567731124088)) i = 8 := by decide
  exact h i hi
theorem lane_ones (i : Nat) (hi : i < 16) : lane (uN 1229782938247303441) i = 1 := by
  have h : ∀ i, i < 16 → lane (uN 1229782938247303441) i = 1 := by decide
  exact h i hi
theorem nib_sum : ∀ a, a < 16 → ∀ b, b < 16 → ((a &&& 7) + (b &&& 7)) ^^^ ((a ^^^ b) &&& 8) = (a + b) % 16 := by decide
theorem nib_low : ∀ a, a < 16 → a &&& 7 < 8 := by decide
theorem lane_sum (x y : Int64) {i : Nat} (hi : i < 16) : lane (uN (lsum x y)) i = (lane (uN x) i + lane (uN y) i) % 16 := by
  have hx := uN_lt x
  have hy := uN_lt y
  have hd : ∀ j, lane (uN x &&& uN 8608480567731124087) j + lane (uN y &&& uN 8608480567731124087) j < 16 := by
    intro j
    rw [lane_and, lane_and]
    rcases Nat.lt_or_ge j 16 with h | h
    · rw [lane_low j h]
      have := nib_low _ (lane_lt (uN x) j)
      have := nib_low _ (lane_lt (uN y) j)
      omega
    · rw [lane_hi (n := uN x) hx h, lane_hi (n := uN y) hy h]; simp
  have hov : (uN x &&& uN 8608480567731124087) + (uN y &&& uN 8608480567731124087) < 2 ^ 64 := by
    have h := low_add hd 16
    rw [show (16 : Nat) ^ 16 = 2 ^ 64 by decide] at h
    have h1 : uN x &&& uN 8608480567731124087 < 2 ^ 64 := Nat.lt_of_le_of_lt Nat.and_le_left hx
    have h2 : uN y &&& uN 8608480567731124087 < 2 ^ 64 := Nat.lt_of_le_of_lt Nat.and_le_left hy
    rw [Nat.mod_eq_of_lt h1, Nat.mod_eq_of_lt h2] at h
    exact h
  unfold lsum
  rw [uN_xor2, uN_add, uN_and, uN_and, uN_and, uN_xor2, Nat.mod_eq_of_lt hov, lane_xor, lane_add hd, lane_and, lane_and, lane_and, lane_xor, lane_low i hi, lane_high i hi]
  exact nib_sum _ (lane_lt _ _) _ (lane_lt _ _)
def lnot (y : Int64) : Int64 := y ^^^ (-1)
theorem nib_not : ∀ a, a < 16 → a ^^^ 15 = 15 - a := by decide
theorem lane_not (y : Int64) {i : Nat} (hi : i < 16) : lane (uN (lnot y)) i = 15 - lane (uN y) i := by
  have h : ∀ i, i < 16 → lane (uN (-1)) i = 15 := by decide
  unfold lnot
  rw [uN_xor2, lane_xor, h i hi]
  exact nib_not _ (lane_lt _ _)
def lless (x y : Int64) : Int64 := lsum x (lsum (lnot y) 1229782938247303441)
theorem lane_less (x y : Int64) {i : Nat} (hi : i < 16) : lane (uN (lless x y)) i = (lane (uN x) i + 16 - lane (uN y) i) % 16 := by
  unfold lless
  rw [lane_sum _ _ hi, lane_sum _ _ hi, lane_not _ hi, lane_ones i hi]
  have h1 := lane_lt (uN x) i
  have h2 := lane_lt (uN y) i
  omega
