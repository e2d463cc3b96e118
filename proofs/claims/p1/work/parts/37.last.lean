/-! the last acts: what is kept -/
def LD (L4 L5 : Nat) (fA fB : Nat → Int64) (lm : Nat) (gA : Nat → Int64) (gb gm : Nat → Int32) (al : Int32) (k x : Nat) : Prop :=
  lm ≤ 262144 ∧ lastOk L4 L5 fA fB lm gA gb ∧ tab 524288 gm lm ∧ chain 524288 gm (fun a => hsh 19 a 0) gA lm ∧ (al = 0 ∨ ∀ k' x', L4 ≤ k' → (k' < k ∨ (k' = k ∧ x' < x)) → x' < 18 → ∃ j, j < lm ∧ gA j = nxA x' (fA k') (fB k'))
theorem LD_0 {L4 L5 : Nat} {fA fB : Nat → Int64} : LD L4 L5 fA fB 0 (fun _ => 0) (fun _ => 0) (fun _ => 0) 1 L4 0 :=
  ⟨by omega, fun j hj => absurd hj (Nat.not_lt_zero _), tab_0 _, chain_0, Or.inr (fun k' x' h1 h2 _ => absurd h1 (by omega))⟩
theorem LD_next {L4 L5 lm k : Nat} {fA fB gA : Nat → Int64} {gb gm : Nat → Int32} {al : Int32} (h : LD L4 L5 fA fB lm gA gb gm al k 18) : LD L4 L5 fA fB lm gA gb gm al (k + 1) 0 := by
  obtain ⟨h1, h2, h3, h4, h5⟩ := h
  refine ⟨h1, h2, h3, h4, ?_⟩
  rcases h5 with h5 | h5
  · exact Or.inl h5
  · exact Or.inr (fun k' x' h6 h7 h8 => h5 k' x' h6 (by omega) h8)
theorem LD_old {L4 L5 lm k x j : Nat} {fA fB gA : Nat → Int64} {gb gm : Nat → Int32} {al : Int32} (h : LD L4 L5 fA fB lm gA gb gm al k x) (hj : j < lm) (e : gA j = nxA x (fA k) (fB k)) : LD L4 L5 fA fB lm gA gb gm al k (x + 1) := by
  obtain ⟨h1, h2, h3, h4, h5⟩ := h
  refine ⟨h1, h2, h3, h4, ?_⟩
  rcases h5 with h5 | h5
  · exact Or.inl h5
  · refine Or.inr (fun k' x' h6 h7 h8 => ?_)
    by_cases h9 : k' = k ∧ x' = x
    · obtain ⟨rfl, rfl⟩ := h9; exact ⟨j, hj, e⟩
    · exact h5 k' x' h6 (by omega) h8
theorem LD_full {L4 L5 lm k x y : Nat} {fA fB gA : Nat → Int64} {gb gm : Nat → Int32} {al : Int32} (h : LD L4 L5 fA fB lm gA gb gm al k x) : LD L4 L5 fA fB lm gA gb gm 0 k y := ⟨h.1, h.2.1, h.2.2.1, h.2.2.2.1, Or.inl rfl⟩
theorem LD_put {L4 L5 lm k x d : Nat} {fA fB gA uA : Nat → Int64} {gb gm ub um : Nat → Int32} {al : Int32} {a : Int64} (h : LD L4 L5 fA fB lm gA gb gm al k x) (hk1 : L4 ≤ k) (hk2 : k < L5) (hx : x < 18) (ha : a = nxA x (fA k) (fB k)) (hlm : lm < 262144) (eA : uA = vp_updL gA (nI lm).toNatClampNeg a) (eb : ub = upd gb (nI lm).toNatClampNeg (nI (32 * k + x))) (em : um = upd gm (nI ((hsh 19 a 0 + d) % 524288)).toNatClampNeg (nI (lm + 1))) (hz : gm ((hsh 19 a 0 + d) % 524288) = 0) (hd : ∀ i, i < d → gm ((hsh 19 a 0 + i) % 524288) ≠ 0) : LD L4 L5 fA fB (lm + 1) uA ub um al k (x + 1) := by
  obtain ⟨h1, h2, h3, h4, h5⟩ := h
  rw [nI_clamp (by omega)] at eA eb
  rw [nI_clamp (by have := Nat.mod_lt (hsh 19 a 0 + d) (show 0 < 524288 by decide); omega)] at em
  have eo : ∀ j, j < lm → uA j = gA j := fun j hj => by rw [eA]; exact pk_uLn (by omega)
  refine ⟨by omega, fun j hj => ?_, by rw [em]; exact tab_put h3, by rw [em]; exact chain_put (h := fun a => hsh 19 a 0) (by omega) h4 hz hd eA, ?_⟩
  · rcases Nat.lt_or_ge j lm with h6 | h6
    · obtain ⟨k', x', c1, c2, c3, c4, c5⟩ := h2 j h6
      exact ⟨k', x', c1, c2, c3, by rw [eo j h6]; exact c4, by rw [eb, pk_un (by omega)]; exact c5⟩
    · have : j = lm := by omega
      subst this
      exact ⟨k, x, hk1, hk2, hx, by rw [eA, pk_uLs]; exact ha, by rw [eb]; exact pk_us⟩
  · rcases h5 with h5 | h5
    · exact Or.inl h5
    · refine Or.inr (fun k' x' h6 h7 h8 => ?_)
      by_cases h9 : k' = k ∧ x' = x
      · obtain ⟨rfl, rfl⟩ := h9
        exact ⟨lm, by omega, by rw [eA, pk_uLs]; exact ha⟩
      · obtain ⟨j, hj, e⟩ := h5 k' x' h6 (by omega) h8
        exact ⟨j, by omega, by rw [eo j hj]; exact e⟩
theorem few_open0 {N m : Nat} {f : Nat → Int32} (h : tab N f m) (hm : m < N) {h0 : Nat} (hh : h0 < N) : ∃ d, f ((h0 + d) % N) = 0 := few_open h.2 hm hh
/-- what lastOf answers -/
def lastV (L4 L5 : Nat) (fA fB : Nat → Int64) (goal : Int64) (r : Int32) : Prop :=
  (∃ k x, r = nI (32 * k + x) ∧ L4 ≤ k ∧ k < L5 ∧ x < 18 ∧ nxA x (fA k) (fB k) = goal) ∨ (r = -1 ∧ ∀ k x, L4 ≤ k → k < L5 → x < 18 → nxA x (fA k) (fB k) ≠ goal)
theorem LD_found {L4 L5 lm k x v : Nat} {fA fB gA : Nat → Int64} {gb gm : Nat → Int32} {al : Int32} {goal : Int64} (h : LD L4 L5 fA fB lm gA gb gm al k x) (hv0 : 0 < v) (hv : v ≤ lm) (e : gA (v - 1) = goal) : lastV L4 L5 fA fB goal (gb (v - 1)) := by
  obtain ⟨k', x', c1, c2, c3, c4, c5⟩ := h.2.1 (v - 1) (by omega)
  exact Or.inl ⟨k', x', c5, c1, c2, c3, by rw [← c4]; exact e⟩
theorem LD_none {L4 L5 lm : Nat} {fA fB gA : Nat → Int64} {gb gm : Nat → Int32} {al : Int32} {goal : Int64} (h : LD L4 L5 fA fB lm gA gb gm al L5 0) (hno : ∀ j, j < lm → gA j ≠ goal) (hal : al ≠ 0) : ∀ k x, L4 ≤ k → k < L5 → x < 18 → nxA x (fA k) (fB k) ≠ goal := by
  intro k x h1 h2 h3 e
  rcases h.2.2.2.2 with h5 | h5
  · exact hal h5
  · obtain ⟨j, hj, e2⟩ := h5 k x h1 (Or.inl h2) h3
    exact hno j hj (e2.trans e)
theorem LD_not {L4 L5 lm k x i : Nat} {fA fB gA : Nat → Int64} {gb gm : Nat → Int32} {al : Int32} {goal : Int64} (h : LD L4 L5 fA fB lm gA gb gm al k x) (hz : gm ((hsh 19 goal 0 + i) % 524288) = 0) (hno : ∀ i', i' < i → ∀ j, j < lm → gm ((hsh 19 goal 0 + i') % 524288) = nI (j + 1) → gA j ≠ goal) : ∀ j, j < lm → gA j ≠ goal :=
  chain_not (h := fun a => hsh 19 a 0) (a := goal) (by have := h.1; omega) h.2.2.2.1 hz hno
theorem no_one {L4 : Nat} {P : Nat → Nat → Prop} {k : Nat} (h : ∀ k' x, L4 ≤ k' → k' < k → x < 18 → ¬ P k' x) (h18 : ∀ x, x < 18 → ¬ P k x) : ∀ k' x, L4 ≤ k' → k' < k + 1 → x < 18 → ¬ P k' x := by
  intro k' x h1 h2 h3
  rcases Nat.lt_or_ge k' k with h4 | h4
  · exact h k' x h1 h4 h3
  · have : k' = k := by omega
    subst this; exact h18 x h3
theorem lane_eq {a b : Int64} (h : ∀ j, j < 16 → lane (uN a) j = lane (uN b) j) : a = b := uN_inj (lane_ext (uN_lt a) (uN_lt b) h)
theorem all_step {P : Nat → Prop} {i : Nat} (h : ∀ k, k < i → P k) (hi : P i) : ∀ k, k < i + 1 → P k := by
  intro k hk
  rcases Nat.lt_or_ge k i with h1 | h1
  · exact h k h1
  · have : k = i := by omega
    subst this; exact hi
theorem d32 {k x : Nat} (hx : x < 32) (hk : 32 * k + x < 2 ^ 31) : nI (32 * k + x) / 32 = nI k := by
  apply Int32.toInt_inj.mp
  rw [Int32.toInt_div, nI_toInt hk, nI_toInt (show k < 2 ^ 31 by omega)]
  have h1 : (32 : Int32).toInt = 32 := by decide
  rw [h1]
  have h3 : ((32 * k + x : Nat) : Int).tdiv 32 = ((32 * k + x : Nat) : Int) / 32 := Int.tdiv_eq_ediv_of_nonneg (by omega)
  rw [h3]
  have h2 : ((32 * k + x : Nat) : Int) / 32 = (k : Int) := by omega
  rw [h2]
  exact Int.bmod_eq_of_le (by omega) (by omega)
theorem r32 {k x : Nat} (hx : x < 32) (hk : 32 * k + x < 2 ^ 31) : nI (32 * k + x) - nI (32 * k + x) / 32 * 32 = nI x := by
  rw [d32 hx hk]
  have h1 : nI k * 32 = nI (32 * k) := by rw [Int32.mul_comm]; exact pk_mul 32 k
  rw [h1, ← nI_add]
  rw [Int32.add_comm, Int32.add_sub_cancel]
theorem nI_ltn {a n : Nat} (ha : a < 2 ^ 31) (hn : n < 2 ^ 31) (h : nI a < nI n) : a < n := (nI_ltI ha hn).mp h
theorem nI_nltn {a n : Nat} (ha : a < 2 ^ 31) (hn : n < 2 ^ 31) (h : ¬ nI a < nI n) : n ≤ a := Nat.not_lt.mp (fun h1 => h ((nI_ltI ha hn).mpr h1))
