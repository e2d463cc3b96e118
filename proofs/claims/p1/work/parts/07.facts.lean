theorem va_AOA.spec {t : FieldType} {s : State} (h : va_AOA t s) : ∃ comp c k, s.vm.findClass (FieldType.array t).toString = some comp ∧ (s.vm.classes.findIdx? fun (x : Class) => match x.kind with | .array component _ => component == comp | _ => false) = some c ∧ s.vm.classes[c]? = some k ∧ k.kind = .array comp (.array t) ∧ s.vm.findClass ("[" ++ (FieldType.array t).toString) = some c := by
  unfold va_AOA Cond.before at h
  simp only [Cond.holds, Cond.value, beq_iff_eq] at h
  cases hc : s.vm.findClass (FieldType.array t).toString with
  | none => simp [hc] at h
  | some comp =>
    simp only [hc, Option.bind_some, Option.bind_eq_some_iff, Option.map_eq_some_iff] at h
    obtain ⟨c, hi, k, hk, hb⟩ := h
    obtain ⟨hlt, hp, -⟩ := Array.findIdx?_eq_some_iff_getElem.mp hi
    have hkk : s.vm.classes[c] = k := (Array.getElem?_eq_some_iff.mp hk).2
    rw [hkk] at hp
    cases hkind : k.kind with
    | array component ty =>
      rw [hkind] at hb hp
      simp at hb hp
      exact ⟨comp, c, k, rfl, hi, hk, by rw [hkind, hp, hb.1], hb.2⟩
    | _ => rw [hkind] at hb; simp at hb
theorem aoa_bare (vm : Vm) (comp : ClassId) : (vm.bare.classes.findIdx? fun (x : Class) => match x.kind with | .array component _ => component == comp | _ => false) = (vm.classes.findIdx? fun (x : Class) => match x.kind with | .array component _ => component == comp | _ => false) := by
  simp only [Vm.bare, Array.findIdx?_map]
  rfl
theorem va_AOA.moved {t : FieldType} {u U : State} (hvm : u.vm.Alike U.vm) (h : va_AOA t u) : va_AOA t U := by
  obtain ⟨comp, c, k, h1, h2, h3, h4, h5⟩ := va_AOA.spec h
  obtain ⟨k', hk', he⟩ := hvm.2.2 _ _ h3
  have hi : (U.vm.classes.findIdx? fun (x : Class) => match x.kind with | .array component _ => component == comp | _ => false) = some c := by
    have e1 := aoa_bare U.vm comp
    have e2 := aoa_bare u.vm comp
    rw [← e1]
    first | rw [hvm.bare_eq] | rw [← hvm.bare_eq]
    exact e2.trans h2
  have hkind : k'.kind = .array comp (.array t) := by rw [he]; exact h4
  have f1 : U.vm.findClass (FieldType.array t).toString = some comp := by rw [hvm.findClass]; exact h1
  have f2 : U.vm.findClass ("[" ++ (FieldType.array t).toString) = some c := by rw [hvm.findClass]; exact h5
  unfold va_AOA Cond.before Cond.holds
  simp only [Cond.value]
  rw [f1, Option.bind_some]
  refine (congrArg (fun o : Option Nat => (o.bind (fun c => (U.vm.classes[c]?).map fun (k : Class) => match k.kind with | .array _ ty => decide (ty = FieldType.array t) && decide (U.vm.findClass ("[" ++ (FieldType.array t).toString) = some c) | _ => false) == some true)) hi).trans ?_
  simp [hk', hkind, f2]
/-- words of the tables that stay, though they aren't good ones: castable, declares, links of a nest mate -/
def isNW : Cond → Bool
  | .castable _ _ => true
  | .declares _ => true
  | .methodLinkNest _ _ _ _ => true
  | _ => false
def nb : List Cond := lw_tbl.filter isNW
theorem nb_warm {s U : State} (hW : s.WarmedH U.vm) (h : ∀ w ∈ nb, va_Nw w s) : ∀ w ∈ nb, va_Nw w U := by
  intro w hw
  have h1 := h w hw
  have h2 := (List.mem_filter.mp hw).2
  cases w with
  | castable C T => exact va_Nw.warmC hW h1
  | declares x => exact va_Nw.warmD hW h1
  | methodLinkNest a i x k => exact va_Nw.warmM hW h1
  | _ => simp [isNW] at h2
theorem nb_same {u U : State} (hv : U.vm = u.vm) (h : ∀ w ∈ nb, va_Nw w u) : ∀ w ∈ nb, va_Nw w U := by
  intro w hw
  have h1 := h w hw
  have h2 := (List.mem_filter.mp hw).2
  refine va_tabs ?_ hv.symm h1
  cases w <;> first | rfl | (simp [isNW] at h2)
theorem nb_args {s : State} {args : Array Value} {w : Cond} (h2 : isNW w = true) (h : va_Nw w s) : w.before args s = true := by
  refine va_tabs ?_ rfl h
  cases w <;> first | rfl | (simp [isNW] at h2)
theorem nb_of {w : Cond} (h : w ∈ tables_1) (g : isNW w = true) : w ∈ nb := List.mem_filter.mpr ⟨List.mem_append_right _ h, g⟩
theorem tn_all {L : List Cond} {args : Array Value} {s : State} (h1 : ∀ w ∈ L, w ∈ lw_tbl) (h2 : L.all (fun w => goodWord w || isNW w) = true) (ht : ∀ w ∈ tb, w.before args s = true) (hn : ∀ w ∈ nb, va_Nw w s) : ∀ w ∈ L, w.before args s = true := by
  intro w hw
  have h3 := List.all_eq_true.mp h2 w hw
  rcases (Bool.or_eq_true _ _).mp h3 with g | g
  · exact ht w (tb_of (h1 w hw) g)
  · exact nb_args g (hn w (List.mem_filter.mpr ⟨h1 w hw, g⟩))
/-! facts beside the world: statics, string constants and what they hold, array classes over a class, statics that are a reference or null -/
abbrev xf : Type := (String × String × String × Value) ⊕ (String × Nat × String × Nat) ⊕ (Nat × Nat × List Int32) ⊕ String ⊕ (String × String × String) ⊕ FieldType ⊕ Unit
def xf_at (A : Nat → Prop) (U : State) (H : Heap) (f : xf) : Prop := match f with
  | .inl (C, n, d, v) => va_Z C n d v A U H
  | .inr (.inl (own, k, tx, a)) => vk_R own k tx a U
  | .inr (.inr (.inl (q, v, bs))) => va_O "java/lang/String" q A U H ∧ va_OF "java/lang/String" "coder" "B" (.int 0) q A U H ∧ va_OF "java/lang/String" "value" "[B" (.ref v) q A U H ∧ va_T .byte v bs.length (fun j => .int (bs.getD j 0)) A U H
  | .inr (.inr (.inr (.inl C))) => va_AO C U
  | .inr (.inr (.inr (.inr (.inl (C, n, d))))) => vx_Zq C n d A U H
  | .inr (.inr (.inr (.inr (.inr (.inl ty))))) => va_AOA ty U
  | .inr (.inr (.inr (.inr (.inr (.inr _))))) => ∀ w ∈ nb, va_Nw w U
def xf_all (A : Nat → Prop) (U : State) (H : Heap) (E : List xf) : Prop := ∀ f ∈ E, xf_at A U H f
theorem xf_at.warm {A : Nat → Prop} {s U : State} {H : Heap} {f : xf} (hW : s.WarmedH U.vm) (h : xf_at A s H f) : xf_at A U H f := by
  match f, h with
  | .inl (C, n, d, v), h => exact va_Z.moved hW.alike h
  | .inr (.inl (own, k, tx, a)), h => exact vk_R.warm hW h
  | .inr (.inr (.inl (q, v, bs))), h => exact ⟨h.1.moved hW.alike, h.2.1.moved hW.alike, h.2.2.1.moved hW.alike, h.2.2.2.moved hW.alike⟩
  | .inr (.inr (.inr (.inl C))), h => exact va_AO.moved hW.alike h
  | .inr (.inr (.inr (.inr (.inl (C, n, d))))), h => exact vx_Zq.moved hW.alike h
  | .inr (.inr (.inr (.inr (.inr (.inl ty))))), h => exact va_AOA.moved hW.alike h
  | .inr (.inr (.inr (.inr (.inr (.inr _))))), h => exact nb_warm hW h
theorem xf_at.same {A : Nat → Prop} {u U : State} {H : Heap} {f : xf} (hv : U.vm = u.vm) (h : xf_at A u H f) : xf_at A U H f := by
  have ha : u.vm.Alike U.vm := by rw [hv]; exact Vm.Alike.refl _
  match f, h with
  | .inl (C, n, d, v), h => exact va_Z.moved ha h
  | .inr (.inl (own, k, tx, a)), h => exact vk_R.same hv h
  | .inr (.inr (.inl (q, v, bs))), h => exact ⟨h.1.moved ha, h.2.1.moved ha, h.2.2.1.moved ha, h.2.2.2.moved ha⟩
  | .inr (.inr (.inr (.inl C))), h => exact va_AO.moved ha h
  | .inr (.inr (.inr (.inr (.inl (C, n, d))))), h => exact vx_Zq.moved ha h
  | .inr (.inr (.inr (.inr (.inr (.inl ty))))), h => exact va_AOA.moved ha h
  | .inr (.inr (.inr (.inr (.inr (.inr _))))), h => exact nb_same hv h
theorem xf_at.kept {A : Nat → Prop} {U : State} {H H1 : Heap} {f : xf} (hq : ∀ a : Nat, a < H.size → ¬ A a → H1[a]? = H[a]?) (h : xf_at A U H f) : xf_at A U H1 f := by
  match f, h with
  | .inl (C, n, d, v), h => exact va_Z.kept h hq
  | .inr (.inl (own, k, tx, a)), h => exact h
  | .inr (.inr (.inl (q, v, bs))), h => exact ⟨h.1.kept hq, h.2.1.kept hq, h.2.2.1.kept hq, h.2.2.2.kept hq⟩
  | .inr (.inr (.inr (.inl C))), h => exact h
  | .inr (.inr (.inr (.inr (.inl (C, n, d))))), h => exact vx_Zq.kept h hq
  | .inr (.inr (.inr (.inr (.inr (.inl ty))))), h => exact h
  | .inr (.inr (.inr (.inr (.inr (.inr _))))), h => exact h
theorem xf_at.narrow {A B : Nat → Prop} {U : State} {H : Heap} {f : xf} (hAB : ∀ q, B q → A q) (h : xf_at A U H f) : xf_at B U H f := by
  match f, h with
  | .inl (C, n, d, v), h => exact va_Z.narrow h hAB
  | .inr (.inl (own, k, tx, a)), h => exact h
  | .inr (.inr (.inl (q, v, bs))), h => exact ⟨h.1.narrow hAB, h.2.1.narrow hAB, h.2.2.1.narrow hAB, h.2.2.2.narrow hAB⟩
  | .inr (.inr (.inr (.inl C))), h => exact h
  | .inr (.inr (.inr (.inr (.inl (C, n, d))))), h => exact vx_Zq.narrow h hAB
  | .inr (.inr (.inr (.inr (.inr (.inl ty))))), h => exact h
  | .inr (.inr (.inr (.inr (.inr (.inr _))))), h => exact h
/-- a contract's start: a world, and facts beside it -/
def pcx (E : List xf) (av : List Value) (D : va_G) (ws : va_W) (tys : List (ClassId × FieldType)) (sz : Nat) : Array Value → State → Prop := va_Pc av (fun U => U.heap.size = sz ∧ va_P D cls ws U.heap ∧ va_K D cls tys U ∧ va_D (fun _ => True) ws ∧ xf_all (va_A ws sz) U U.heap E)
theorem pcx_blind {E : List xf} {av : List Value} {D : va_G} {ws : va_W} {tys : List (ClassId × FieldType)} {sz : Nat} : FrameBlind (pcx E av D ws tys sz) := fun a U g mk q => by
  obtain ⟨q0, q1, qP, qK, qD, qE⟩ := q
  exact ⟨q0, q1, qP, va_K.moved (u := U) (U := U.calling g mk a) (Vm.Alike.refl U.vm) qK, qD, fun f hf => xf_at.same (u := U) (U := U.calling g mk a) rfl (qE f hf)⟩
theorem pcx_at {s : State} {H : Heap} {av : List Value} {D : va_G} {A : Nat → Prop} {ws wc : va_W} {tys tc : List (ClassId × FieldType)} {E E' : List xf} {locs : List Loc} (hP : va_P D cls ws H) (hD : va_D A ws) (hK : va_K D cls tys s) (hS : va_S A s.heap H locs) (hA : ∀ q, s.heap.size ≤ q → A q) (hE : xf_all A s s.heap E) (isC isT isE : List Nat) (hn : va_nd isC = true) (hC : isC.map (fun i => ws[i]?) = wc.map some) (hC2 : isC.filterMap (fun i => ws[i]?) = wc) (hT : isT.filterMap (fun i => tys[i]?) = tc) (hX : isE.filterMap (fun i => E[i]?) = E') : ∀ U : State, U.heap = H → s.WarmedH U.vm → pcx E' av D wc tc H.size av.toArray U :=
  fun U hU hW => ⟨rfl, by rw [hU], by rw [hU]; exact hP.sub isC hC2, va_K.moved hW.alike (hK.sub isT hT), (hD.sub isC hn hC).weaken (fun _ _ _ _ => trivial), fun f hf => by
    rw [← hX] at hf
    obtain ⟨i, -, hi⟩ := List.mem_filterMap.mp hf
    rw [hU]
    exact ((xf_at.kept hS.2.1 (hE f (List.mem_of_getElem? hi))).narrow (va_free (wc := wc) hD hS hA isC hC)).warm hW⟩
theorem xf_z {A : Nat → Prop} {U : State} {H : Heap} {E : List xf} {C n d : String} {v : Value} (h : xf_all A U H E) (i : Nat) (hi : E[i]? = some (.inl (C, n, d, v))) : va_Z C n d v A U H := h _ (List.mem_of_getElem? hi)
theorem xf_r {A : Nat → Prop} {U : State} {H : Heap} {E : List xf} {own tx : String} {k a : Nat} (h : xf_all A U H E) (i : Nat) (hi : E[i]? = some (.inr (.inl (own, k, tx, a)))) : vk_R own k tx a U := h _ (List.mem_of_getElem? hi)
theorem xf_s {A : Nat → Prop} {U : State} {H : Heap} {E : List xf} {q v : Nat} {bs : List Int32} (h : xf_all A U H E) (i : Nat) (hi : E[i]? = some (.inr (.inr (.inl (q, v, bs))))) : va_O "java/lang/String" q A U H ∧ va_OF "java/lang/String" "coder" "B" (.int 0) q A U H ∧ va_OF "java/lang/String" "value" "[B" (.ref v) q A U H ∧ va_T .byte v bs.length (fun j => .int (bs.getD j 0)) A U H := h _ (List.mem_of_getElem? hi)
theorem xf_o {A : Nat → Prop} {U : State} {H : Heap} {E : List xf} {C : String} (h : xf_all A U H E) (i : Nat) (hi : E[i]? = some (.inr (.inr (.inr (.inl C))))) : va_AO C U := h _ (List.mem_of_getElem? hi)
theorem xf_q {A : Nat → Prop} {U : State} {H : Heap} {E : List xf} {C n d : String} (h : xf_all A U H E) (i : Nat) (hi : E[i]? = some (.inr (.inr (.inr (.inr (.inl (C, n, d))))))) : vx_Zq C n d A U H := h _ (List.mem_of_getElem? hi)
theorem xf_a {A : Nat → Prop} {U : State} {H : Heap} {E : List xf} {ty : FieldType} (h : xf_all A U H E) (i : Nat) (hi : E[i]? = some (.inr (.inr (.inr (.inr (.inr (.inl ty))))))) : va_AOA ty U := h _ (List.mem_of_getElem? hi)
theorem xf_n {A : Nat → Prop} {U : State} {H : Heap} {E : List xf} (h : xf_all A U H E) (i : Nat) (hi : E[i]? = some (.inr (.inr (.inr (.inr (.inr (.inr ()))))))) : ∀ w ∈ nb, va_Nw w U := h _ (List.mem_of_getElem? hi)
