theorem lane_mul {A : Nat} : ∀ (c : Nat), (∀ j, c * lane A j < 16) → ∀ n, lane (c * A) n = c * lane A n
  | 0, _, n => by simp [lane]
  | c + 1, h, n => by
    have h1 : ∀ j, c * lane A j < 16 := fun j => Nat.lt_of_le_of_lt (Nat.mul_le_mul_right _ (Nat.le_succ c)) (h j)
    have ih := lane_mul c h1
    rw [Nat.succ_mul, lane_add (fun j => by rw [ih j, ← Nat.succ_mul]; exact h j) n, ih n, ← Nat.succ_mul]
theorem nib_and7 : ∀ a, a < 16 → a &&& 7 = a % 8 := by decide
/-- all lanes doubled -/
def ldbl (x : Int64) : Int64 := (x &&& 8608480567731124087) <<< ((1 : Int32).toInt64 &&& 63)
theorem lane_dbl (x : Int64) {i : Nat} (hi : i < 16) : lane (uN (ldbl x)) i = 2 * lane (uN x) i % 16 := by
  have hx := uN_lt x
  have hd : ∀ j, 2 * lane (uN x &&& uN 8608480567731124087) j < 16 := by
    intro j
    rw [lane_and]
    rcases Nat.lt_or_ge j 16 with h | h
    · rw [lane_low j h]
      have := nib_low _ (lane_lt (uN x) j)
      omega
    · rw [lane_hi (n := uN x) hx h]; simp
  have hle : uN x &&& uN 8608480567731124087 ≤ uN 8608480567731124087 := Nat.and_le_right
  have hc : uN 8608480567731124087 = 8608480567731124087 := by decide
  unfold ldbl
  rw [uN_shl, uN_and, Nat.mod_eq_of_lt (by rw [hc] at hle ⊢; omega), lane_mul 2 hd, lane_and, lane_low i hi, nib_and7 _ (lane_lt _ _)]
  have := lane_lt (uN x) i
  omega
/-- all lanes halved -/
def lhalf (x : Int64) : Int64 := (x.toUInt64 >>> ((1 : Int32).toInt64.toUInt64 &&& Int64.toUInt64 63)).toInt64 &&& 8608480567731124087
theorem lane_div (n k i : Nat) : lane (n / 2 ^ k) i = n / 16 ^ i / 2 ^ k % 16 := by
  unfold lane
  rw [Nat.div_div_eq_div_mul, Nat.mul_comm, ← Nat.div_div_eq_div_mul]
theorem lane_half (x : Int64) {i : Nat} (hi : i < 16) : lane (uN (lhalf x)) i = lane (uN x) i / 2 := by
  have h : ((1 : Int32).toInt64.toUInt64 &&& Int64.toUInt64 63).toNat % 64 = 1 := by decide
  unfold lhalf
  rw [uN_and, lane_and, lane_low i hi, uN_shr, h, nib_and7 _ (lane_lt _ _), lane_div]
  unfold lane
  omega
/-- in each lane 15 where bit k of y's lane is set, 0 where it isn't -/
def lmask (y : Int64) (k : Nat) : Int64 := ((y.toUInt64 >>> ((nI k).toInt64.toUInt64 &&& Int64.toUInt64 63)).toInt64 &&& 1229782938247303441) * 15
theorem nib_and1 : ∀ a, a < 16 → a &&& 1 = a % 2 := by decide
theorem lane_mask (y : Int64) {k : Nat} (hk : k < 4) {i : Nat} (hi : i < 16) : lane (uN (lmask y k)) i = 15 * (lane (uN y) i / 2 ^ k % 2) := by
  have hy := uN_lt y
  have hs : ∀ k, k < 4 → ((nI k).toInt64.toUInt64 &&& Int64.toUInt64 63).toNat % 64 = k := by decide
  have hc : uN 1229782938247303441 = 1229782938247303441 := by decide
  have h15 : uN 15 = 15 := by decide
  have hd : ∀ j, 15 * lane (uN y / 2 ^ k &&& uN 1229782938247303441) j < 16 := by
    intro j
    rw [lane_and]
    rcases Nat.lt_or_ge j 16 with h | h
    · rw [lane_ones j h, nib_and1 _ (lane_lt _ _)]
      omega
    · have h2 : uN y / 2 ^ k < 2 ^ 64 := Nat.lt_of_le_of_lt (Nat.div_le_self _ _) hy
      rw [lane_hi h2 h]; simp
  have hle : uN y / 2 ^ k &&& uN 1229782938247303441 ≤ uN 1229782938247303441 := Nat.and_le_right
  unfold lmask
  rw [uN_mul, uN_and, uN_shr, hs k hk, h15, Nat.mul_comm, Nat.mod_eq_of_lt (by rw [hc] at hle ⊢; omega), lane_mul 15 hd, lane_and, lane_ones i hi, nib_and1 _ (lane_lt _ _), lane_div]
  unfold lane
  have h4 : k = 0 ∨ k = 1 ∨ k = 2 ∨ k = 3 := by omega
  rcases h4 with rfl | rfl | rfl | rfl <;> omega
/-- all lanes multiplied -/
def lprod (x y : Int64) : Int64 := lsum (lsum (lsum (lsum 0 (x &&& lmask y 0)) (ldbl x &&& lmask y 1)) (ldbl (ldbl x) &&& lmask y 2)) (ldbl (ldbl (ldbl x)) &&& lmask y 3)
theorem nib_prod : ∀ a, a < 16 → ∀ b, b < 16 → ((((0 + (a &&& 15 * (b / 2 ^ 0 % 2))) % 16 + (2 * a % 16 &&& 15 * (b / 2 ^ 1 % 2))) % 16 + (2 * (2 * a % 16) % 16 &&& 15 * (b / 2 ^ 2 % 2))) % 16 + (2 * (2 * (2 * a % 16) % 16) % 16 &&& 15 * (b / 2 ^ 3 % 2))) % 16 = a * b % 16 := by decide +kernel
theorem lane_prod (x y : Int64) {i : Nat} (hi : i < 16) : lane (uN (lprod x y)) i = lane (uN x) i * lane (uN y) i % 16 := by
  have h0 : lane (uN 0) i = 0 := by have h : uN 0 = 0 := by decide
                                    rw [h]; simp [lane]
  unfold lprod
  rw [lane_sum _ _ hi, lane_sum _ _ hi, lane_sum _ _ hi, lane_sum _ _ hi, h0, uN_and, uN_and, uN_and, uN_and, lane_and, lane_and, lane_and, lane_and, lane_mask y (by decide) hi, lane_mask y (by decide) hi, lane_mask y (by decide) hi, lane_mask y (by decide) hi, lane_dbl (ldbl (ldbl x)) hi, lane_dbl (ldbl x) hi, lane_dbl x hi]
  exact nib_prod _ (lane_lt _ _) _ (lane_lt _ _)
/-! what an act makes of A and of B: of all lanes at once, and of one -/
def nxA (j : Nat) (a b : Int64) : Int64 := match j with
  | 0 => lsum a b | 2 => lless a b | 4 => a ^^^ b | 6 => a &&& b | 8 => lnot a | 10 => b | 11 => lsum a 1229782938247303441 | 13 => ldbl a | 14 => lhalf a | 15 => b | 16 => lless 0 a | 17 => lprod a b | _ => a
def nxB (j : Nat) (a b : Int64) : Int64 := match j with
  | 1 => lsum a b | 3 => lless b a | 5 => a ^^^ b | 7 => a ||| b | 9 => a | 12 => lsum b 1229782938247303441 | 15 => a | _ => b
def nA (j a b : Nat) : Nat := match j with
  | 0 => (a + b) % 16 | 2 => (a + 16 - b) % 16 | 4 => a ^^^ b | 6 => a &&& b | 8 => 15 - a | 10 => b | 11 => (a + 1) % 16 | 13 => 2 * a % 16 | 14 => a / 2 | 15 => b | 16 => (16 - a) % 16 | 17 => a * b % 16 | _ => a
def nB (j a b : Nat) : Nat := match j with
  | 1 => (a + b) % 16 | 3 => (b + 16 - a) % 16 | 5 => a ^^^ b | 7 => a ||| b | 9 => a | 12 => (b + 1) % 16 | 15 => a | _ => b
theorem lane_nxA {j : Nat} (hj : j < 18) (a b : Int64) {i : Nat} (hi : i < 16) : lane (uN (nxA j a b)) i = nA j (lane (uN a) i) (lane (uN b) i) := by
  have h0 : lane (uN 0) i = 0 := by have h : uN 0 = 0 := by decide
                                    rw [h]; simp [lane]
  match j, hj with
  | 0, _ => exact lane_sum _ _ hi
  | 1, _ => rfl
  | 2, _ => exact lane_less _ _ hi
  | 3, _ => rfl
  | 4, _ => show lane (uN (a ^^^ b)) i = _; rw [uN_xor2, lane_xor]; rfl
  | 5, _ => rfl
  | 6, _ => show lane (uN (a &&& b)) i = _; rw [uN_and, lane_and]; rfl
  | 7, _ => rfl
  | 8, _ => exact lane_not _ hi
  | 9, _ => rfl
  | 10, _ => rfl
  | 11, _ => show lane (uN (lsum a 1229782938247303441)) i = _; rw [lane_sum _ _ hi, lane_ones i hi]; rfl
  | 12, _ => rfl
  | 13, _ => exact lane_dbl _ hi
  | 14, _ => exact lane_half _ hi
  | 15, _ => rfl
  | 16, _ => show lane (uN (lless 0 a)) i = _; rw [lane_less _ _ hi, h0]; show (0 + 16 - _) % 16 = (16 - _) % 16; rw [Nat.zero_add]
  | 17, _ => exact lane_prod _ _ hi
  | n + 18, h => exact absurd h (by omega)
theorem lane_nxB {j : Nat} (hj : j < 18) (a b : Int64) {i : Nat} (hi : i < 16) : lane (uN (nxB j a b)) i = nB j (lane (uN a) i) (lane (uN b) i) := by
  match j, hj with
  | 0, _ => rfl
  | 1, _ => exact lane_sum _ _ hi
  | 2, _ => rfl
  | 3, _ => exact lane_less _ _ hi
  | 4, _ => rfl
  | 5, _ => show lane (uN (a ^^^ b)) i = _; rw [uN_xor2, lane_xor]; rfl
  | 6, _ => rfl
  | 7, _ => show lane (uN (a ||| b)) i = _; rw [uN_or2, lane_or]; rfl
  | 8, _ => rfl
  | 9, _ => rfl
  | 10, _ => rfl
  | 11, _ => rfl
  | 12, _ => show lane (uN (lsum b 1229782938247303441)) i = _; rw [lane_sum _ _ hi, lane_ones i hi]; rfl
  | 13, _ => rfl
  | 14, _ => rfl
  | 15, _ => rfl
  | 16, _ => rfl
  | 17, _ => rfl
  | n + 18, h => exact absurd h (by omega)
