/-! tables with open places -/
theorem pigeon : ∀ (N : Nat) (l : List Nat), (∀ a, a < N → a ∈ l) → N ≤ l.length
  | 0, _, _ => Nat.zero_le _
  | N + 1, l, h => by
    have hN := h N (Nat.lt_succ_self _)
    have h1 := pigeon N (l.erase N) (fun a ha => (List.mem_erase_of_ne (by omega)).mpr (h a (by omega)))
    have h2 := List.length_erase_of_mem hN
    have h3 : 0 < l.length := List.length_pos_of_mem hN
    omega
def few (N : Nat) (f : Nat → Int32) (m : Nat) : Prop := ∃ l : List Nat, l.length ≤ m ∧ ∀ a, a < N → f a ≠ 0 → a ∈ l
theorem few_0 (N : Nat) : few N (fun _ => 0) 0 := ⟨[], Nat.le_refl _, fun _ _ h => absurd rfl h⟩
theorem few_put {N m a : Nat} {f : Nat → Int32} {v : Int32} (h : few N f m) : few N (upd f a v) (m + 1) := by
  obtain ⟨l, hl, hf⟩ := h
  refine ⟨a :: l, by simp; omega, fun b hb hv => ?_⟩
  rcases Nat.decEq b a with h1 | h1
  · rw [pk_un h1] at hv
    exact List.mem_cons_of_mem _ (hf b hb hv)
  · rw [h1]; exact List.mem_cons_self
theorem few_open {N m : Nat} {f : Nat → Int32} (h : few N f m) (hm : m < N) {h0 : Nat} (hh : h0 < N) : ∃ d, f ((h0 + d) % N) = 0 := by
  obtain ⟨l, hl, hf⟩ := h
  have : ∃ a, a < N ∧ f a = 0 := by
    apply Classical.byContradiction
    intro hn
    have := pigeon N l (fun a ha => hf a ha (fun e => hn ⟨a, ha, e⟩))
    omega
  obtain ⟨a, ha, e⟩ := this
  refine ⟨a + N - h0, ?_⟩
  have : h0 + (a + N - h0) = a + N := by omega
  rw [this, Nat.add_mod_right, Nat.mod_eq_of_lt ha]; exact e
def vals (N : Nat) (f : Nat → Int32) (m : Nat) : Prop := ∀ a, a < N → ∃ v, v ≤ m ∧ f a = nI v
def tab (N : Nat) (f : Nat → Int32) (m : Nat) : Prop := vals N f m ∧ few N f m
theorem tab_0 (N : Nat) : tab N (fun _ => 0) 0 := ⟨fun _ _ => ⟨0, Nat.le_refl _, rfl⟩, few_0 N⟩
theorem tab_put {N m a : Nat} {f : Nat → Int32} (h : tab N f m) : tab N (upd f a (nI (m + 1))) (m + 1) := by
  refine ⟨fun b hb => ?_, few_put h.2⟩
  rcases Nat.decEq b a with h1 | h1
  · obtain ⟨v, hv, e⟩ := h.1 b hb
    exact ⟨v, by omega, by rw [pk_un h1]; exact e⟩
  · exact ⟨m + 1, Nat.le_refl _, by rw [h1]; exact pk_us⟩
/-- a step from place to place -/
theorem wrap18 (h i : Nat) : nI ((h + i) % 262144) + 1 &&& 262143 = nI ((h + (i + 1)) % 262144) := by
  rw [nI_1]
  show _ &&& nI (2 ^ 18 - 1) = _
  rw [nI_and2, Nat.and_two_pow_sub_one_eq_mod]
  congr 1
  omega
theorem wrap19 (h i : Nat) : nI ((h + i) % 524288) + 1 &&& 524287 = nI ((h + (i + 1)) % 524288) := by
  rw [nI_1]
  show _ &&& nI (2 ^ 19 - 1) = _
  rw [nI_and2, Nat.and_two_pow_sub_one_eq_mod]
  congr 1
  omega
def hsh (k : Nat) (a b : Int64) : Nat := uN ((a * (-7046029254386353131)) ^^^ ((b + 2135587861) * (-4417276706812531889))) / 2 ^ (64 - k)
theorem hsh_lt {k : Nat} (hk : k ≤ 64) (a b : Int64) : hsh k a b < 2 ^ k := by
  unfold hsh
  have h := uN_lt ((a * (-7046029254386353131)) ^^^ ((b + 2135587861) * (-4417276706812531889)))
  apply Nat.div_lt_of_lt_mul
  rw [← Nat.pow_add]
  have : 64 - k + k = 64 := by omega
  rw [this]; exact h
theorem hsh_r (y : Int64) (k : Nat) (hk : k < 64) : (y.toUInt64 >>> ((nI k).toInt64.toUInt64 &&& Int64.toUInt64 63)).toInt64.toInt32 = nI (uN y / 2 ^ k) := by
  rw [y_i32, uN_shr, sh_u k hk]
/-- a place that is not open -/
theorem pos_ne {f : Nat → Int32} {a v : Nat} (e : f a = nI v) (hv : v < 2 ^ 31) (h : ¬ nI v ≤ 0) : 0 < v := by
  rcases Nat.eq_zero_or_pos v with h1 | h1
  · subst h1; exact absurd (by decide) h
  · exact h1
theorem zero_of {v : Nat} (hv : v < 2 ^ 31) (h : nI v ≤ 0) : v = 0 := by
  rcases Nat.eq_zero_or_pos v with h1 | h1
  · exact h1
  · exact absurd (show nI v ≤ nI 0 from h) (nI_ge h1 hv)
theorem nI_nz {v : Nat} (hv : v < 2 ^ 31) (h : 0 < v) : nI v ≠ 0 := by
  intro e
  have := nI_clamp hv
  rw [e] at this
  exact absurd this (by have h0 : (0 : Int32).toNatClampNeg = 0 := (by decide); rw [h0]; omega)
theorem nI_m1 {v : Nat} (h : 0 < v) : nI v - 1 = nI (v - 1) := by
  obtain ⟨k, rfl⟩ : ∃ k, v = k + 1 := ⟨v - 1, by omega⟩
  exact nI_pred k
theorem nI_inj31 {a b : Nat} (ha : a < 2 ^ 31) (hb : b < 2 ^ 31) (h : nI a = nI b) : a = b := by
  rw [← nI_clamp ha, ← nI_clamp hb, h]
/-! the reference's states -/
def Add (m : Nat) (fA fB : Nat → Int64) (bf : Nat → Int32) (m' : Nat) (gA gB : Nat → Int64) (bg : Nat → Int32) (a b : Int64) (fr : Int32) : Prop :=
  (m ≤ m' ∧ m' ≤ m + 1) ∧ (∀ j, j < m → gA j = fA j ∧ gB j = fB j ∧ bg j = bf j) ∧ (∃ j, j < m' ∧ (gA j, gB j) = (a, b)) ∧ (∀ j, m ≤ j → j < m' → (gA j, gB j) = (a, b) ∧ bg j = fr)
theorem Add_old {m k : Nat} {fA fB : Nat → Int64} {bf : Nat → Int32} {a b : Int64} {fr : Int32} (hk : k < m) (ea : fA k = a) (eb : fB k = b) : Add m fA fB bf m fA fB bf a b fr :=
  ⟨⟨Nat.le_refl _, by omega⟩, fun _ _ => ⟨rfl, rfl, rfl⟩, ⟨k, hk, by rw [ea, eb]⟩, fun j h1 h2 => absurd h2 (by omega)⟩
theorem Add_new {m : Nat} {fA fB gA gB : Nat → Int64} {bf bg : Nat → Int32} {a b : Int64} {fr : Int32} (hm : m < 2 ^ 31) (eA : gA = vp_updL fA (nI m).toNatClampNeg a) (eB : gB = vp_updL fB (nI m).toNatClampNeg b) (eb : bg = upd bf (nI m).toNatClampNeg fr) : Add m fA fB bf (m + 1) gA gB bg a b fr := by
  rw [nI_clamp hm] at eA eB eb
  have h1 : (gA m, gB m) = (a, b) := by rw [eA, eB, pk_uLs, pk_uLs]
  refine ⟨⟨by omega, Nat.le_refl _⟩, fun j hj => ?_, ⟨m, by omega, h1⟩, fun j h2 h3 => ?_⟩
  · rw [eA, eB, eb, pk_uLn (by omega), pk_uLn (by omega), pk_un (by omega)]
    exact ⟨rfl, rfl, rfl⟩
  · have : j = m := by omega
    subst this
    exact ⟨h1, by rw [eb]; exact pk_us⟩
def LV (n : Nat) (L : Nat → Nat) (fA fB : Nat → Int64) (bf : Nat → Int32) : Prop :=
  (L 0 = 0 ∧ L 1 = 1 ∧ (fA 0, fB 0) = S0) ∧ (∀ i, i < n → L i ≤ L (i + 1) ∧ L (i + 1) ≤ 1 + 18 * L i) ∧ (∀ i k, i < n → L i ≤ k → k < L (i + 1) → Rn i (fA k, fB k)) ∧ (∀ i k x, i < n → k < L i → x < 18 → ∃ j, j < L (i + 1) ∧ (fA j, fB j) = stp x (fA k, fB k)) ∧ (∀ i k, i + 1 < n → L (i + 1) ≤ k → k < L (i + 2) → ∃ b, bf k = nI b ∧ L i ≤ b ∧ b < L (i + 1))
theorem LV_1 {fA fB : Nat → Int64} {bf : Nat → Int32} {L : Nat → Nat} (h0 : L 0 = 0) (h1 : L 1 = 1) (e : (fA 0, fB 0) = S0) : LV 1 L fA fB bf := by
  refine ⟨⟨h0, h1, e⟩, fun i hi => ?_, fun i k hi h2 h3 => ?_, fun i k x hi hk hx => ?_, fun i k hi => absurd hi (by omega)⟩
  · have : i = 0 := by omega
    subst this; rw [h0, h1]; omega
  · have : i = 0 := by omega
    subst this
    rw [h1] at h3
    have : k = 0 := by omega
    subst this; exact e
  · have : i = 0 := by omega
    subst this
    rw [h0] at hk; omega
theorem LV_all {n : Nat} {L : Nat → Nat} {fA fB : Nat → Int64} {bf : Nat → Int32} (h : LV n L fA fB bf) : ∀ {i : Nat} {s : SS}, i < n → Rn i s → ∃ k, k < L (i + 1) ∧ (fA k, fB k) = s
  | 0, s, _, hs => ⟨0, by rw [h.1.2.1]; omega, by rw [h.1.2.2]; exact hs.symm⟩
  | i + 1, s, hi, ⟨t, x, ht, hx, e⟩ => by
    obtain ⟨k, hk, ek⟩ := LV_all h (by omega) ht
    obtain ⟨j, hj, ej⟩ := h.2.2.2.1 (i + 1) k x hi hk hx
    exact ⟨j, hj, by rw [ej, ek, e]⟩
/-- k of the last level, and of its acts x, have been gone through -/
def LX (i : Nat) (L : Nat → Nat) (fA fB : Nat → Int64) (bf : Nat → Int32) (m : Nat) (gA gB : Nat → Int64) (bg : Nat → Int32) (k x : Nat) : Prop :=
  (L (i + 1) ≤ m ∧ m ≤ 1 + 18 * k + x) ∧ (∀ j, j < L (i + 1) → gA j = fA j ∧ gB j = fB j ∧ bg j = bf j) ∧ (∀ j, L (i + 1) ≤ j → j < m → Rn (i + 1) (gA j, gB j) ∧ ∃ b, bg j = nI b ∧ L i ≤ b ∧ b < L (i + 1)) ∧ (∀ k' x', (k' < k ∨ (k' = k ∧ x' < x)) → x' < 18 → ∃ j, j < m ∧ (gA j, gB j) = stp x' (fA k', fB k'))
theorem LX_start {i : Nat} {L : Nat → Nat} {fA fB : Nat → Int64} {bf : Nat → Int32} (h : LV (i + 1) L fA fB bf) : LX i L fA fB bf (L (i + 1)) fA fB bf (L i) 0 :=
  ⟨⟨Nat.le_refl _, (h.2.1 i (Nat.lt_succ_self _)).2⟩, fun _ _ => ⟨rfl, rfl, rfl⟩, fun j h1 h2 => absurd h2 (by omega), fun k' x' hk hx => h.2.2.2.1 i k' x' (Nat.lt_succ_self _) (by omega) hx⟩
theorem LX_step {i : Nat} {L : Nat → Nat} {fA fB gA gB uA uB : Nat → Int64} {bf bg bu : Nat → Int32} {m m' k x : Nat} {a b : Int64} (hV : LV (i + 1) L fA fB bf) (h : LX i L fA fB bf m gA gB bg k x) (hk1 : L i ≤ k) (hk2 : k < L (i + 1)) (hx : x < 18) (e : (a, b) = stp x (fA k, fB k)) (hA : Add m gA gB bg m' uA uB bu a b (nI k)) : LX i L fA fB bf m' uA uB bu k (x + 1) := by
  obtain ⟨⟨b1, b2⟩, h2, h3, h4⟩ := h
  obtain ⟨⟨a1, a2⟩, c2, ⟨j0, c3, c3'⟩, c4⟩ := hA
  refine ⟨⟨by omega, by omega⟩, fun j hj => ?_, fun j h5 h6 => ?_, fun k' x' hk hx' => ?_⟩
  · obtain ⟨d1, d2, d3⟩ := c2 j (by omega)
    rw [d1, d2, d3]; exact h2 j hj
  · rcases Nat.lt_or_ge j m with h7 | h7
    · obtain ⟨d1, d2, d3⟩ := c2 j h7
      rw [d1, d2, d3]; exact h3 j h5 h7
    · obtain ⟨d1, d2⟩ := c4 j h7 h6
      refine ⟨?_, k, d2, hk1, hk2⟩
      rw [d1, e]
      exact ⟨(fA k, fB k), x, hV.2.2.1 i k (Nat.lt_succ_self _) hk1 hk2, hx, rfl⟩
  · by_cases h7 : k' < k ∨ (k' = k ∧ x' < x)
    · obtain ⟨j, hj, ej⟩ := h4 k' x' h7 hx'
      obtain ⟨d1, d2, d3⟩ := c2 j hj
      exact ⟨j, by omega, by rw [d1, d2]; exact ej⟩
    · have e1 : k' = k := by omega
      have e2 : x' = x := by omega
      subst e1; subst e2
      exact ⟨j0, c3, by rw [c3', e]⟩
theorem LX_next {i : Nat} {L : Nat → Nat} {fA fB gA gB : Nat → Int64} {bf bg : Nat → Int32} {m k : Nat} (h : LX i L fA fB bf m gA gB bg k 18) : LX i L fA fB bf m gA gB bg (k + 1) 0 := by
  obtain ⟨⟨b1, b2⟩, h2, h3, h4⟩ := h
  exact ⟨⟨b1, by omega⟩, h2, h3, fun k' x' hk hx => h4 k' x' (by omega) hx⟩
def Lset (L : Nat → Nat) (n m : Nat) : Nat → Nat := fun i => if i = n then m else L i
theorem Lset_eq {L : Nat → Nat} {n m : Nat} : Lset L n m n = m := if_pos rfl
theorem Lset_ne {L : Nat → Nat} {n m i : Nat} (h : i ≠ n) : Lset L n m i = L i := if_neg h
theorem LX_end {i : Nat} {L : Nat → Nat} {fA fB gA gB : Nat → Int64} {bf bg : Nat → Int32} {m : Nat} (hV : LV (i + 1) L fA fB bf) (h : LX i L fA fB bf m gA gB bg (L (i + 1)) 0) : LV (i + 2) (Lset L (i + 2) m) gA gB bg := by
  obtain ⟨⟨b1, b2⟩, h2, h3, h4⟩ := h
  obtain ⟨⟨v0, v1, v2⟩, w1, w2, w3, w4⟩ := hV
  have hmono : ∀ j, j ≤ i + 1 → L j ≤ L (i + 1) := by
    intro j hj
    obtain ⟨d, hd0⟩ : ∃ d, i + 1 = j + d := ⟨i + 1 - j, by omega⟩
    have hd : ∀ d, j + d ≤ i + 1 → L j ≤ L (j + d) := by
      intro d
      induction d with
      | zero => intro _; exact Nat.le_refl _
      | succ d ih => intro hd; exact Nat.le_trans (ih (by omega)) (w1 (j + d) (by omega)).1
    have e : j + d = i + 1 := by omega
    have := hd d (by omega)
    rw [e] at this; exact this
  have h10 : L 1 ≤ L (i + 1) := hmono 1 (by omega)
  refine ⟨⟨by rw [Lset_ne (by omega)]; exact v0, by rw [Lset_ne (by omega)]; exact v1, ?_⟩, fun j hj => ?_, fun j k hj hk1 hk2 => ?_, fun j k x hj hk hx => ?_, fun j k hj hk1 hk2 => ?_⟩
  · obtain ⟨d1, d2, -⟩ := h2 0 (by omega)
    rw [d1, d2]; exact v2
  · rcases Nat.lt_or_ge j (i + 1) with hj1 | hj1
    · rw [Lset_ne (by omega), Lset_ne (by omega)]; exact w1 j hj1
    · have : j = i + 1 := by omega
      subst this
      rw [Lset_ne (by omega), Lset_eq]; omega
  · rcases Nat.lt_or_ge j (i + 1) with hj1 | hj1
    · rw [Lset_ne (by omega)] at hk1 hk2
      obtain ⟨d1, d2, -⟩ := h2 k (Nat.lt_of_lt_of_le hk2 (hmono (j + 1) (by omega)))
      rw [d1, d2]; exact w2 j k hj1 hk1 hk2
    · have : j = i + 1 := by omega
      subst this
      rw [Lset_ne (by omega)] at hk1
      rw [Lset_eq] at hk2
      exact (h3 k hk1 hk2).1
  · rcases Nat.lt_or_ge j (i + 1) with hj1 | hj1
    · rw [Lset_ne (by omega)] at hk ⊢
      obtain ⟨j0, hj0, ej⟩ := w3 j k x hj1 hk hx
      obtain ⟨d1, d2, -⟩ := h2 k (Nat.lt_of_lt_of_le hk (hmono j (by omega)))
      obtain ⟨d4, d5, -⟩ := h2 j0 (Nat.lt_of_lt_of_le hj0 (hmono (j + 1) (by omega)))
      exact ⟨j0, hj0, by rw [d1, d2, d4, d5]; exact ej⟩
    · have : j = i + 1 := by omega
      subst this
      rw [Lset_ne (by omega)] at hk
      rw [Lset_eq]
      obtain ⟨d1, d2, -⟩ := h2 k hk
      rw [d1, d2]
      exact h4 k x (by omega) hx
  · rcases Nat.lt_or_ge (j + 1) (i + 1) with hj1 | hj1
    · rw [Lset_ne (by omega)] at hk1 hk2
      rw [Lset_ne (by omega), Lset_ne (by omega)]
      obtain ⟨-, -, d3⟩ := h2 k (Nat.lt_of_lt_of_le hk2 (hmono (j + 2) (by omega)))
      rw [d3]; exact w4 j k hj1 hk1 hk2
    · have : j = i := by omega
      subst this
      rw [Lset_ne (by omega)] at hk1
      rw [Lset_eq] at hk2
      rw [Lset_ne (by omega), Lset_ne (by omega)]
      exact (h3 k hk1 hk2).2
theorem LV_big {n : Nat} {L : Nat → Nat} {fA fB : Nat → Int64} {bf : Nat → Int32} (h : LV n L fA fB bf) (hn : n ≤ 5) : ∀ i, i ≤ n → L i ≤ 111151 ∧ (i ≤ 4 → L i ≤ 6175) := by
  obtain ⟨⟨v0, v1, -⟩, w1, -⟩ := h
  intro i hi
  match i, hi with
  | 0, _ => rw [v0]; omega
  | 1, _ => rw [v1]; omega
  | 2, h => have a1 := (w1 1 (by omega)).2; simp only [Nat.reduceAdd] at a1; omega
  | 3, h =>
    have a1 := (w1 1 (by omega)).2
    have a2 := (w1 2 (by omega)).2
    simp only [Nat.reduceAdd] at a1 a2; omega
  | 4, h =>
    have a1 := (w1 1 (by omega)).2
    have a2 := (w1 2 (by omega)).2
    have a3 := (w1 3 (by omega)).2
    simp only [Nat.reduceAdd] at a1 a2 a3; omega
  | 5, h =>
    have a1 := (w1 1 (by omega)).2
    have a2 := (w1 2 (by omega)).2
    have a3 := (w1 3 (by omega)).2
    have a4 := (w1 4 (by omega)).2
    simp only [Nat.reduceAdd] at a1 a2 a3 a4; omega
  | i + 6, h => exact absurd h (by omega)
/-- nothing found as far as a level: no row of so many acts -/
theorem LV_no {n : Nat} {L : Nat → Nat} {fA fB : Nat → Int64} {bf : Nat → Int32} {goal : Int64} (h : LV n L fA fB bf) {i : Nat} (hi : i < n) (hno : ∀ k, k < L (i + 1) → fA k ≠ goal) : ¬ Gn goal i := by
  rintro ⟨s, hs, e⟩
  obtain ⟨k, hk, ek⟩ := LV_all h hi hs
  exact hno k hk (by rw [← e, ← ek])
theorem LV_yes {n : Nat} {L : Nat → Nat} {fA fB : Nat → Int64} {bf : Nat → Int32} {goal : Int64} (h : LV n L fA fB bf) {i k : Nat} (hi : i < n) (h1 : L i ≤ k) (h2 : k < L (i + 1)) (e : fA k = goal) : Gn goal i := ⟨_, h.2.2.1 i k hi h1 h2, e⟩
/-! the last acts -/
def lastOk (L4 L5 : Nat) (fA fB : Nat → Int64) (m : Nat) (gA : Nat → Int64) (gb : Nat → Int32) : Prop := ∀ j, j < m → ∃ k x, L4 ≤ k ∧ k < L5 ∧ x < 18 ∧ gA j = nxA x (fA k) (fB k) ∧ gb j = nI (32 * k + x)
/-- every one that is kept is found from its place on -/
def chain (N : Nat) (f : Nat → Int32) (h : Int64 → Nat) (gA : Nat → Int64) (m : Nat) : Prop := ∀ j, j < m → ∃ d, f ((h (gA j) + d) % N) = nI (j + 1) ∧ ∀ i, i < d → f ((h (gA j) + i) % N) ≠ 0
theorem chain_0 {N : Nat} {f : Nat → Int32} {h : Int64 → Nat} {gA : Nat → Int64} : chain N f h gA 0 := fun _ hj => absurd hj (Nat.not_lt_zero _)
theorem chain_put {N m d : Nat} {f : Nat → Int32} {h : Int64 → Nat} {gA uA : Nat → Int64} {a : Int64} (hm : m + 1 < 2 ^ 31) (hc : chain N f h gA m) (hz : f ((h a + d) % N) = 0) (hd : ∀ i, i < d → f ((h a + i) % N) ≠ 0) (eA : uA = vp_updL gA m a) : chain N (upd f ((h a + d) % N) (nI (m + 1))) h uA (m + 1) := by
  have keep : ∀ p, f p ≠ 0 → upd f ((h a + d) % N) (nI (m + 1)) p = f p := fun p hp => pk_un (fun e => hp (by rw [e]; exact hz))
  intro j hj
  rcases Nat.lt_or_ge j m with h1 | h1
  · obtain ⟨d', e1, e2⟩ := hc j h1
    have e3 : uA j = gA j := by rw [eA]; exact pk_uLn (by omega)
    rw [e3]
    refine ⟨d', ?_, fun i hi => ?_⟩
    · rw [keep _ (by rw [e1]; exact nI_nz (by omega) (by omega))]; exact e1
    · rw [keep _ (e2 i hi)]; exact e2 i hi
  · have : j = m := by omega
    subst this
    have e3 : uA j = a := by rw [eA]; exact pk_uLs
    rw [e3]
    refine ⟨d, pk_us, fun i hi => ?_⟩
    rw [keep _ (hd i hi)]; exact hd i hi
/-- an open place: it isn't kept -/
theorem chain_not {N m i : Nat} {f : Nat → Int32} {h : Int64 → Nat} {gA : Nat → Int64} {a : Int64} (hm : m < 2 ^ 31 - 1) (hc : chain N f h gA m) (hz : f ((h a + i) % N) = 0) (hno : ∀ i', i' < i → ∀ j, j < m → f ((h a + i') % N) = nI (j + 1) → gA j ≠ a) : ∀ j, j < m → gA j ≠ a := by
  intro j hj e
  obtain ⟨d, e1, e2⟩ := hc j hj
  rw [e] at e1 e2
  rcases Nat.lt_trichotomy d i with h1 | h1 | h1
  · exact hno d h1 j hj e1 e
  · subst h1
    rw [hz] at e1
    exact nI_nz (v := j + 1) (by omega) (by omega) e1.symm
  · exact e2 i h1 hz
theorem LV_last_no {L : Nat → Nat} {fA fB : Nat → Int64} {bf : Nat → Int32} {goal : Int64} (h : LV 5 L fA fB bf) (hno : ∀ k, k < L 5 → fA k ≠ goal) (hl : ∀ k x, L 4 ≤ k → k < L 5 → x < 18 → nxA x (fA k) (fB k) ≠ goal) : ¬ Gn goal 5 := by
  rintro ⟨s, ⟨t, x, ht, hx, e⟩, eg⟩
  obtain ⟨k, hk, ek⟩ := LV_all h (i := 4) (by omega) ht
  rcases Nat.lt_or_ge k (L 4) with h1 | h1
  · obtain ⟨j, hj, ej⟩ := h.2.2.2.1 4 k x (by omega) h1 hx
    refine hno j hj ?_
    rw [← eg, e, ← ek, ← ej]
  · refine hl k x h1 hk hx ?_
    rw [← eg, e, ← ek]; rfl
theorem LV_last_yes {L : Nat → Nat} {fA fB : Nat → Int64} {bf : Nat → Int32} {goal : Int64} (h : LV 5 L fA fB bf) {k x : Nat} (h1 : L 4 ≤ k) (h2 : k < L 5) (hx : x < 18) (e : nxA x (fA k) (fB k) = goal) : Gn goal 5 :=
  ⟨stp x (fA k, fB k), ⟨_, x, h.2.2.1 4 k (by omega) h1 h2, hx, rfl⟩, e⟩
