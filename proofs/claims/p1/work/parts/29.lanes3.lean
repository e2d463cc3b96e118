theorem y_i32 (y : Int64) : y.toInt32 = nI (uN y) := by
  apply Int32.toBitVec_inj.mp
  show y.toBitVec.signExtend 32 = BitVec.ofNat 32 y.toBitVec.toNat
  rw [BitVec.signExtend_eq_setWidth_of_le _ (by decide)]
  apply BitVec.eq_of_toNat_eq
  simp
theorem nI_and2 (a b : Nat) : nI a &&& nI b = nI (a &&& b) := by
  apply Int32.toBitVec_inj.mp
  rw [Int32.toBitVec_and]
  show BitVec.ofNat 32 a &&& BitVec.ofNat 32 b = BitVec.ofNat 32 (a &&& b)
  exact BitVec.ofNat_and.symm
theorem y_low (y : Int64) (k : Nat) : y.toInt32 &&& nI (2 ^ k - 1) = nI (uN y % 2 ^ k) := by
  rw [y_i32, nI_and2, Nat.and_two_pow_sub_one_eq_mod]
theorem sh_u : ∀ k, k < 64 → ((nI k).toInt64.toUInt64 &&& Int64.toUInt64 63).toNat % 64 = k := by decide +kernel
theorem sh_s : ∀ k, k < 64 → (((nI k).toInt64 &&& 63).toBitVec.smod 64).toNat = k := by decide +kernel
/-- the low bits of what a shift to the right leaves -/
theorem sar_low (x : Int64) {k w : Nat} (h : k + w ≤ 64) (hk : k < 64) : uN (x >>> ((nI k).toInt64 &&& 63)) % 2 ^ w = uN x / 2 ^ k % 2 ^ w := by
  apply Nat.eq_of_testBit_eq
  intro i
  rw [Nat.testBit_mod_two_pow, Nat.testBit_mod_two_pow, Nat.testBit_div_two_pow]
  by_cases hi : i < w
  · have e : uN (x >>> ((nI k).toInt64 &&& 63)) = (x.toBitVec.sshiftRight k).toNat := by
      have h1 : (x >>> ((nI k).toInt64 &&& 63)).toBitVec = x.toBitVec.sshiftRight k := by
        rw [Int64.toBitVec_shiftRight]
        show x.toBitVec.sshiftRight (((nI k).toInt64 &&& 63).toBitVec.smod 64).toNat = _
        rw [sh_s k hk]
      show (x >>> ((nI k).toInt64 &&& 63)).toBitVec.toNat = _
      rw [h1]
    rw [e]
    have h2 : (x.toBitVec.sshiftRight k).toNat.testBit i = (x.toBitVec.sshiftRight k).getLsbD i := rfl
    have h3 : (uN x).testBit (i + k) = x.toBitVec.getLsbD (i + k) := rfl
    rw [h2, h3, BitVec.getLsbD_sshiftRight]
    have h4 : k + i < 64 := by omega
    have h5 : ¬ 64 ≤ i := by omega
    simp [h4, h5, Nat.add_comm]
  · simp [hi]
theorem uN_and_mask (y : Int64) (m : Int64) (k : Nat) (h : uN m = 2 ^ k - 1) : uN (y &&& m) = uN y % 2 ^ k := by rw [uN_and, h, Nat.and_two_pow_sub_one_eq_mod]
/-- the acts of a row -/
def actAt (acts : Int64) (i : Nat) : Nat := uN acts / 2 ^ (5 * i) % 32
theorem actAt_lt (acts : Int64) (i : Nat) : actAt acts i < 32 := Nat.mod_lt _ (by decide)
theorem act_x (acts : Int64) {i : Nat} (hi : i < 8) : (acts.toUInt64 >>> ((nI (5 * i)).toInt64.toUInt64 &&& Int64.toUInt64 63)).toInt64.toInt32 &&& 31 = nI (actAt acts i) := by
  show _ &&& nI (2 ^ 5 - 1) = _
  rw [y_low, uN_shr, sh_u _ (by omega)]
  rfl
theorem act_r (acts : Int64) {i : Nat} (hi : i < 8) : ((acts >>> ((nI (5 * i)).toInt64 &&& 63)) &&& 31).toInt32 = nI (actAt acts i) := by
  rw [y_i32, uN_and_mask _ 31 5 (by decide), sar_low _ (by omega) (by omega)]
  rfl
theorem nib_r (x : Int64) {i : Nat} (hi : i < 16) : (x >>> ((nI (4 * i)).toInt64 &&& 63)).toInt32 &&& 15 = nI (lane (uN x) i) := by
  show _ &&& nI (2 ^ 4 - 1) = _
  rw [y_low, sar_low _ (by omega) (by omega)]
  unfold lane
  rw [pw16]
theorem nI_lt18 : ∀ j, j < 32 → nI j < 18 → j < 18 := by decide
theorem nI_ge18 : ∀ j, j < 32 → ¬ nI j < 18 → ¬ j < 18 := by decide
theorem nI_gt17 : ∀ j, j < 32 → ¬ nI j ≤ 17 → ¬ j < 18 := by decide
theorem nI_le17 : ∀ j, j < 32 → nI j ≤ 17 → j < 18 := by decide
abbrev INP : Int64 := -81985529216486896
/-- A and B of all inputs behind the first k acts -/
def gAB (acts : Int64) : Nat → Option (Int64 × Int64)
  | 0 => some (INP, 0)
  | k + 1 => match gAB acts k with
    | none => none
    | some (a, b) => if actAt acts k < 18 then some (nxA (actAt acts k) a b, nxB (actAt acts k) a b) else none
def goalN (acts : Int64) (n : Nat) : Int64 := match gAB acts n with
  | none => 0
  | some (a, _) => a
theorem gAB_step {acts : Int64} {k : Nat} {a b : Int64} (h : gAB acts k = some (a, b)) (hj : actAt acts k < 18) : gAB acts (k + 1) = some (nxA (actAt acts k) a b, nxB (actAt acts k) a b) := by
  simp [gAB, h, hj]
theorem gAB_none {acts : Int64} {k : Nat} {a b : Int64} (h : gAB acts k = some (a, b)) (hj : ¬ actAt acts k < 18) : ∀ {n : Nat}, k < n → gAB acts n = none
  | 0, hn => absurd hn (Nat.not_lt_zero _)
  | n + 1, hn => by
    rcases Nat.lt_or_ge k n with h1 | h1
    · simp [gAB, gAB_none h hj h1]
    · have : k = n := by omega
      subst this
      simp [gAB, h, hj]
theorem goal_end {acts : Int64} {n k : Nat} {a b : Int64} (h : gAB acts k = some (a, b)) (e : k = n) : a = goalN acts n := by
  subst e; simp [goalN, h]
theorem goal_no {acts : Int64} {n k : Nat} {a b : Int64} (h : gAB acts k = some (a, b)) (hj : ¬ actAt acts k < 18) (hn : k < n) : (0 : Int64) = goalN acts n := by
  simp [goalN, gAB_none h hj hn]
theorem nn9 : ∀ m, m < 9 → ¬ nI m < 0 := by decide
theorem le9 : ∀ m, m < 9 → nI m ≤ 8 := by decide
theorem ge_of {i m : Nat} (hi : i ≤ m) (hm : m < 2 ^ 31) (h : nI m ≤ nI i) : i = m := by
  rcases Nat.lt_or_ge i m with h1 | h1
  · exact absurd h (nI_ge h1 hm)
  · omega
/-- a lane put in its place -/
theorem uN_lN {n : Nat} (h : n < 2 ^ 64) : uN (lN n) = n := by
  show (BitVec.ofNat 64 n).toNat = n
  rw [BitVec.toNat_ofNat, Nat.mod_eq_of_lt h]
theorem lN_i64 : ∀ v, v < 16 → (nI v).toInt64 = lN v := by decide +kernel
theorem lN_c : ∀ k, k < 64 → ((nI k).toInt64 &&& 63).toBitVec.smod 64 = BitVec.ofNat 64 k := by decide +kernel
theorem lN_shl {n k : Nat} (hk : k < 64) : lN n <<< ((nI k).toInt64 &&& 63) = lN (n * 2 ^ k) := by
  apply Int64.toBitVec_inj.mp
  rw [Int64.toBitVec_shiftLeft]
  show BitVec.ofNat 64 n <<< ((nI k).toInt64 &&& 63).toBitVec.smod 64 = BitVec.ofNat 64 (n * 2 ^ k)
  rw [lN_c k hk]
  apply BitVec.eq_of_toNat_eq
  have h : (BitVec.ofNat 64 k).toNat = k := by rw [BitVec.toNat_ofNat, Nat.mod_eq_of_lt (by omega)]
  rw [BitVec.shiftLeft_eq', h, BitVec.toNat_shiftLeft, BitVec.toNat_ofNat, BitVec.toNat_ofNat, Nat.shiftLeft_eq, Nat.mod_mul_mod]
theorem lane_put {v i : Nat} (hv : v < 16) (j : Nat) : lane (v * 16 ^ i) j = if j = i then v else 0 := by
  unfold lane
  rcases Nat.lt_trichotomy j i with h | h | h
  · rw [if_neg (by omega)]
    have e : v * 16 ^ i = 16 ^ j * (16 * (v * 16 ^ (i - j - 1))) := by
      have : 16 ^ i = 16 ^ j * (16 * 16 ^ (i - j - 1)) := by
        rw [← Nat.pow_succ', ← Nat.pow_add]; congr 1; omega
      rw [this, Nat.mul_left_comm, Nat.mul_left_comm v 16]
    rw [e, Nat.mul_div_cancel_left _ (pos16 j), Nat.mul_mod_right]
  · subst h
    rw [if_pos rfl, Nat.mul_div_cancel _ (pos16 j), Nat.mod_eq_of_lt hv]
  · rw [if_neg (by omega)]
    have h1 : 16 ^ (i + 1) ≤ 16 ^ j := Nat.pow_le_pow_right (by decide) h
    have h2 : v * 16 ^ i ≤ 15 * 16 ^ i := Nat.mul_le_mul_right _ (by omega)
    have h3 := pos16 i
    rw [Nat.div_eq_of_lt (by rw [Nat.pow_succ] at h1; omega)]
theorem lane_lor (g : Int64) {v i : Nat} (hv : v < 16) (hi : i < 16) (j : Nat) : lane (uN (g ||| ((nI v).toInt64 <<< ((nI (4 * i)).toInt64 &&& 63)))) j = lane (uN g) j ||| (if j = i then v else 0) := by
  have hb : v * 16 ^ i < 2 ^ 64 := by
    have h1 : 16 ^ (i + 1) ≤ 16 ^ 16 := Nat.pow_le_pow_right (by decide) (by omega)
    have h2 : v * 16 ^ i ≤ 15 * 16 ^ i := Nat.mul_le_mul_right _ (by omega)
    have h3 := pos16 i
    have h4 : (16 : Nat) ^ 16 = 2 ^ 64 := by decide
    rw [Nat.pow_succ] at h1
    omega
  rw [lN_i64 v hv, lN_shl (by omega), uN_or2, ← pw16, uN_lN hb, lane_or, lane_put hv]
/-- a row of lanes that has been put together as far as i -/
theorem lor_step {g : Int64} {f : Nat → Nat} {i : Nat} (hi : i < 16) (hf : f i < 16) (h : ∀ j, j < 16 → lane (uN g) j = if j < i then f j else 0) : ∀ j, j < 16 → lane (uN (g ||| ((nI (f i)).toInt64 <<< ((nI (4 * i)).toInt64 &&& 63)))) j = if j < i + 1 then f j else 0 := by
  intro j hj
  rw [lane_lor g hf hi, h j hj]
  rcases Nat.lt_trichotomy j i with h1 | h1 | h1
  · rw [if_pos h1, if_neg (by omega), if_pos (by omega), Nat.or_zero]
  · subst h1
    rw [if_neg (by omega), if_pos rfl, if_pos (by omega), Nat.zero_or]
  · rw [if_neg (by omega), if_neg (by omega), if_neg (by omega), Nat.or_zero]
theorem lor_0 (f : Nat → Nat) : ∀ j, j < 16 → lane (uN 0) j = if j < 0 then f j else 0 := by
  intro j _
  have h : uN 0 = 0 := by decide
  rw [h, if_neg (by omega)]
  simp [lane]
theorem lor_end {g a : Int64} (h : ∀ j, j < 16 → lane (uN g) j = if j < 16 then lane (uN a) j else 0) : g = a :=
  uN_inj (lane_ext (uN_lt g) (uN_lt a) (fun i hi => by rw [h i hi, if_pos hi]))
theorem lane_INP : ∀ i, i < 16 → lane (uN INP) i = i := by decide
