/-! what is reached by rows of acts -/
abbrev SS := Int64 × Int64
def stp (j : Nat) (s : SS) : SS := (nxA j s.1 s.2, nxB j s.1 s.2)
def S0 : SS := (INP, 0)
def Rn : Nat → SS → Prop
  | 0, s => s = S0
  | n + 1, s => ∃ t j, Rn n t ∧ j < 18 ∧ s = stp j t
def Gn (goal : Int64) (n : Nat) : Prop := ∃ s, Rn n s ∧ s.1 = goal
/-- the answer: the least number of acts, or 100 -/
def isAns (goal : Int64) (most : Nat) (r : Int32) : Prop := (∃ n, n ≤ most ∧ r = nI n ∧ Gn goal n ∧ ∀ k, k < n → ¬ Gn goal k) ∨ (r = 100 ∧ ∀ k, k ≤ most → ¬ Gn goal k)
theorem isAns_uniq {goal : Int64} {most : Nat} {r1 r2 : Int32} (h1 : isAns goal most r1) (h2 : isAns goal most r2) : r1 = r2 := by
  rcases h1 with ⟨n, hn, e1, g1, l1⟩ | ⟨e1, l1⟩
  · rcases h2 with ⟨k, hk, e2, g2, l2⟩ | ⟨e2, l2⟩
    · rcases Nat.lt_trichotomy n k with h | h | h
      · exact absurd g1 (l2 n h)
      · rw [e1, e2, h]
      · exact absurd g2 (l1 k h)
    · exact absurd g1 (l2 n hn)
  · rcases h2 with ⟨k, hk, e2, g2, l2⟩ | ⟨e2, l2⟩
    · exact absurd g2 (l1 k hk)
    · rw [e1, e2]
def ansV (goal : Int64) (p r : Int32) : Prop := (∃ mm, mm ≤ 5 ∧ p = nI mm ∧ isAns goal mm r) ∨ ((p < 0 ∨ ¬ p ≤ 5) ∧ r = -1)
theorem nI_inj5 : ∀ a, a < 6 → ∀ b, b < 6 → nI a = nI b → a = b := by decide
theorem nn6 : ∀ m, m < 6 → ¬ nI m < 0 ∧ nI m ≤ 5 := by decide
theorem ansV_uniq {goal : Int64} {p r1 r2 : Int32} (h1 : ansV goal p r1) (h2 : ansV goal p r2) : r1 = r2 := by
  rcases h1 with ⟨a, ha, e1, g1⟩ | ⟨n1, e1⟩
  · rcases h2 with ⟨b, hb, e2, g2⟩ | ⟨n2, e2⟩
    · have : a = b := nI_inj5 a (by omega) b (by omega) (e1.symm.trans e2)
      subst this
      exact isAns_uniq g1 g2
    · subst e1
      rcases n2 with n2 | n2
      · exact absurd n2 (nn6 a (by omega)).1
      · exact absurd (nn6 a (by omega)).2 n2
  · rcases h2 with ⟨b, hb, e2, g2⟩ | ⟨n2, e2⟩
    · subst e2
      rcases n1 with n1 | n1
      · exact absurd n1 (nn6 b (by omega)).1
      · exact absurd (nn6 b (by omega)).2 n1
    · rw [e1, e2]
/-! the class's search -/
def dfs (goal : Int64) : Nat → (SS → Prop) → SS → Prop
  | 0, _, c => c.1 = goal
  | r + 1, past, c => ∃ j, j < 18 ∧ ¬ past (stp j c) ∧ dfs goal r (fun s => past s ∨ s = stp j c) (stp j c)
def pastOf (fA fB : Nat → Int64) (put : Nat) : SS → Prop := fun s => ∃ i, i ≤ put ∧ (fA i, fB i) = s
theorem pastOf_same {fA fB gA gB : Nat → Int64} {put : Nat} (hA : ∀ i, i ≤ put → gA i = fA i) (hB : ∀ i, i ≤ put → gB i = fB i) : pastOf gA gB put = pastOf fA fB put := by
  funext s
  apply propext
  constructor
  · rintro ⟨i, hi, e⟩; exact ⟨i, hi, by rw [← hA i hi, ← hB i hi]; exact e⟩
  · rintro ⟨i, hi, e⟩; exact ⟨i, hi, by rw [hA i hi, hB i hi]; exact e⟩
theorem pastOf_succ {fA fB : Nat → Int64} {put : Nat} : pastOf fA fB (put + 1) = fun s => pastOf fA fB put s ∨ s = (fA (put + 1), fB (put + 1)) := by
  funext s
  apply propext
  constructor
  · rintro ⟨i, hi, e⟩
    rcases Nat.lt_or_ge put i with h | h
    · have : i = put + 1 := by omega
      subst this; exact Or.inr e.symm
    · exact Or.inl ⟨i, h, e⟩
  · rintro (⟨i, hi, e⟩ | e)
    · exact ⟨i, by omega, e⟩
    · exact ⟨put + 1, Nat.le_refl _, e.symm⟩
theorem pastOf_0 {fA fB : Nat → Int64} : pastOf fA fB 0 = fun s => s = (fA 0, fB 0) := by
  funext s
  apply propext
  constructor
  · rintro ⟨i, hi, e⟩
    have : i = 0 := by omega
    subst this; exact e.symm
  · intro e; exact ⟨0, Nat.le_refl _, e.symm⟩
/-- s is reached from c by n acts -/
def Rf (c : SS) : Nat → SS → Prop
  | 0, s => s = c
  | n + 1, s => ∃ t j, Rf c n t ∧ j < 18 ∧ s = stp j t
theorem Rf_head {c : SS} {j : Nat} (hj : j < 18) : ∀ {n : Nat} {s : SS}, Rf (stp j c) n s → Rf c (n + 1) s
  | 0, s, h => ⟨c, j, rfl, hj, h⟩
  | n + 1, s, ⟨t, i, ht, hi, e⟩ => ⟨t, i, Rf_head hj ht, hi, e⟩
theorem Rf_0 : ∀ {n : Nat} {s : SS}, Rf S0 n s → Rn n s
  | 0, _, h => h
  | _ + 1, _, ⟨t, j, ht, hj, e⟩ => ⟨t, j, Rf_0 ht, hj, e⟩
theorem dfs_sound {goal : Int64} : ∀ {r : Nat} {past : SS → Prop} {c : SS}, dfs goal r past c → ∃ s, Rf c r s ∧ s.1 = goal
  | 0, _, c, h => ⟨c, rfl, h⟩
  | r + 1, past, c, ⟨j, hj, _, hd⟩ => by
    obtain ⟨s, hs, e⟩ := dfs_sound hd
    exact ⟨s, Rf_head hj hs, e⟩
/-- a way -/
def isWay (t : Nat → SS) (j : Nat → Nat) (n : Nat) : Prop := t 0 = S0 ∧ ∀ i, i < n → j i < 18 ∧ t (i + 1) = stp (j i) (t i)
theorem way_of : ∀ {n : Nat} {s : SS}, Rn n s → ∃ t j, isWay t j n ∧ t n = s
  | 0, s, h => ⟨fun _ => S0, fun _ => 0, ⟨rfl, fun i hi => absurd hi (Nat.not_lt_zero _)⟩, h.symm⟩
  | n + 1, s, ⟨u, j, hu, hj, e⟩ => by
    obtain ⟨t, js, ⟨h0, hw⟩, ht⟩ := way_of hu
    refine ⟨fun i => if i ≤ n then t i else s, fun i => if i < n then js i else j, ⟨?_, ?_⟩, ?_⟩
    · show (if 0 ≤ n then t 0 else s) = S0
      rw [if_pos (Nat.zero_le _)]; exact h0
    · intro i hi
      rcases Nat.lt_or_ge i n with h | h
      · obtain ⟨a, b⟩ := hw i h
        refine ⟨?_, ?_⟩
        · show (if i < n then js i else j) < 18
          rw [if_pos h]; exact a
        · show (if i + 1 ≤ n then t (i + 1) else s) = stp (if i < n then js i else j) (if i ≤ n then t i else s)
          rw [if_pos h, if_pos (show i + 1 ≤ n from h), if_pos (Nat.le_of_lt h)]; exact b
      · have : i = n := by omega
        subst this
        refine ⟨?_, ?_⟩
        · show (if i < i then js i else j) < 18
          rw [if_neg (Nat.lt_irrefl _)]; exact hj
        · show (if i + 1 ≤ i then t (i + 1) else s) = stp (if i < i then js i else j) (if i ≤ i then t i else s)
          rw [if_neg (by omega), if_neg (Nat.lt_irrefl _), if_pos (Nat.le_refl _), ht]; exact e
    · show (if n + 1 ≤ n then t (n + 1) else s) = s
      rw [if_neg (by omega)]
theorem way_Rn {t : Nat → SS} {j : Nat → Nat} {n : Nat} (h : isWay t j n) : ∀ i, i ≤ n → Rn i (t i)
  | 0, _ => h.1
  | i + 1, hi => ⟨t i, j i, way_Rn h i (by omega), (h.2 i (by omega)).1, (h.2 i (by omega)).2⟩
theorem way_cut {t : Nat → SS} {j : Nat → Nat} {n a b : Nat} (h : isWay t j n) (e : t a = t b) (ha : a ≤ n) : ∀ d, b + d ≤ n → Rn (a + d) (t (b + d))
  | 0, _ => by show Rn a (t b); rw [← e]; exact way_Rn h a ha
  | d + 1, hd => ⟨t (b + d), j (b + d), way_cut h e ha d (by omega), (h.2 (b + d) (by omega)).1, (h.2 (b + d) (by omega)).2⟩
theorem way_new {goal : Int64} {t : Nat → SS} {j : Nat → Nat} {n : Nat} (h : isWay t j n) (hg : (t n).1 = goal) (hl : ∀ k, k < n → ¬ Gn goal k) {a b : Nat} (hab : a < b) (hb : b ≤ n) : t a ≠ t b := by
  intro e
  have hr := way_cut h e (by omega) (n - b) (by omega)
  have : b + (n - b) = n := by omega
  rw [this] at hr
  exact hl (a + (n - b)) (by omega) ⟨t n, hr, hg⟩
theorem dfs_way {goal : Int64} {t : Nat → SS} {j : Nat → Nat} {n : Nat} (h : isWay t j n) (hg : (t n).1 = goal) (hl : ∀ k, k < n → ¬ Gn goal k) : ∀ d k, k + d = n → dfs goal d (fun s => ∃ i, i ≤ k ∧ t i = s) (t k)
  | 0, k, e => by
    have : k = n := by omega
    subst this; exact hg
  | d + 1, k, e => by
    obtain ⟨hj, hs⟩ := h.2 k (by omega)
    refine ⟨j k, hj, ?_, ?_⟩
    · rintro ⟨i, hi, e2⟩
      exact way_new h hg hl (a := i) (b := k + 1) (by omega) (by omega) (e2.trans hs.symm)
    · have h2 := dfs_way h hg hl d (k + 1) (by omega)
      rw [← hs]
      have e3 : (fun s => (∃ i, i ≤ k ∧ t i = s) ∨ s = t (k + 1)) = (fun s => ∃ i, i ≤ k + 1 ∧ t i = s) := by
        funext s
        apply propext
        constructor
        · rintro (⟨i, hi, e⟩ | e)
          · exact ⟨i, by omega, e⟩
          · exact ⟨k + 1, Nat.le_refl _, e.symm⟩
        · rintro ⟨i, hi, e⟩
          rcases Nat.lt_or_ge k i with h9 | h9
          · have : i = k + 1 := by omega
            subst this; exact Or.inr e.symm
          · exact Or.inl ⟨i, h9, e⟩
      rw [e3]; exact h2
theorem dfs_found {goal : Int64} {n : Nat} {fA fB : Nat → Int64} (hA : fA 0 = INP) (hB : fB 0 = 0) (h : dfs goal n (pastOf fA fB 0) (fA 0, fB 0)) : Gn goal n := by
  obtain ⟨s, hs, e⟩ := dfs_sound h
  rw [hA, hB] at hs
  exact ⟨s, Rf_0 hs, e⟩
theorem dfs_none {goal : Int64} {n : Nat} {fA fB : Nat → Int64} (hA : fA 0 = INP) (hB : fB 0 = 0) (hl : ∀ k, k < n → ¬ Gn goal k) (h : ¬ dfs goal n (pastOf fA fB 0) (fA 0, fB 0)) : ∀ k, k < n + 1 → ¬ Gn goal k := by
  intro k hk
  rcases Nat.lt_or_ge k n with h1 | h1
  · exact hl k h1
  · have : k = n := by omega
    subst this
    rintro ⟨s, hs, e⟩
    obtain ⟨t, j, hw, ht⟩ := way_of hs
    apply h
    have h2 := dfs_way hw (by rw [ht]; exact e) hl k 0 (by omega)
    have e0 : t 0 = (fA 0, fB 0) := by rw [hw.1, hA, hB]; rfl
    rw [e0] at h2
    have e3 : (fun s => ∃ i, i ≤ 0 ∧ t i = s) = pastOf fA fB 0 := by
      rw [pastOf_0]
      funext s
      apply propext
      constructor
      · rintro ⟨i, hi, e⟩
        have : i = 0 := by omega
        subst this; rw [← e, e0]
      · intro e; exact ⟨0, Nat.le_refl _, by rw [e, e0]⟩
    rw [e3] at h2; exact h2
/-- one act of the search -/
def tryOf (goal : Int64) (r : Nat) (fA fB : Nat → Int64) (put j : Nat) : Prop := ¬ pastOf fA fB put (stp j (fA put, fB put)) ∧ dfs goal r (fun s => pastOf fA fB put s ∨ s = stp j (fA put, fB put)) (stp j (fA put, fB put))
theorem dfs_no {goal : Int64} {r put : Nat} {fA fB : Nat → Int64} (h : ∀ j, j < 18 → ¬ tryOf goal r fA fB put j) : ¬ dfs goal (r + 1) (pastOf fA fB put) (fA put, fB put) := by
  rintro ⟨j, hj, h1, h2⟩
  exact h j hj ⟨h1, h2⟩
theorem dfs_yes {goal : Int64} {r put j : Nat} {fA fB : Nat → Int64} (hj : j < 18) (h : tryOf goal r fA fB put j) : dfs goal (r + 1) (pastOf fA fB put) (fA put, fB put) := ⟨j, hj, h.1, h.2⟩
/-- what a call further on says, in the words of this one -/
theorem try_dfs {goal : Int64} {r put j : Nat} {fA fB gA gB : Nat → Int64} (hA : ∀ i, i ≤ put → gA i = fA i) (hB : ∀ i, i ≤ put → gB i = fB i) (e : (gA (put + 1), gB (put + 1)) = stp j (fA put, fB put)) : dfs goal r (pastOf gA gB (put + 1)) (gA (put + 1), gB (put + 1)) ↔ dfs goal r (fun s => pastOf fA fB put s ∨ s = stp j (fA put, fB put)) (stp j (fA put, fB put)) := by
  rw [pastOf_succ, e, pastOf_same hA hB]
theorem try_past {put j : Nat} {fA fB gA gB : Nat → Int64} (hA : ∀ i, i ≤ put → gA i = fA i) (hB : ∀ i, i ≤ put → gB i = fB i) (e : (gA (put + 1), gB (put + 1)) = stp j (fA put, fB put)) : (∃ i, i < put + 1 ∧ gA i = gA (put + 1) ∧ gB i = gB (put + 1)) ↔ pastOf fA fB put (stp j (fA put, fB put)) := by
  constructor
  · rintro ⟨i, hi, e1, e2⟩
    exact ⟨i, by omega, by rw [← hA i (by omega), ← hB i (by omega), e1, e2]; exact e⟩
  · rintro ⟨i, hi, e1⟩
    rw [← e] at e1
    refine ⟨i, by omega, ?_, ?_⟩
    · rw [hA i hi]; exact congrArg Prod.fst e1
    · rw [hB i hi]; exact congrArg Prod.snd e1
theorem tries_step {goal : Int64} {r put j : Nat} {fA fB : Nat → Int64} (h : ∀ i, i < j → ¬ tryOf goal r fA fB put i) (hj : ¬ tryOf goal r fA fB put j) : ∀ i, i < j + 1 → ¬ tryOf goal r fA fB put i := by
  intro i hi
  rcases Nat.lt_or_ge i j with h1 | h1
  · exact h i h1
  · have : i = j := by omega
    subst this; exact hj
