theorem dX12_init_0 : decode cX12_init 0 = .ok (.aload_n 0, 1) := by decide +kernel
theorem k_10_29 : Jvm.Cond.methodLink "FinderHouseModel$Ask" (3 : Nat) ({ cls := "java/lang/Object", name := "<init>", desc := "()V" } : Jvm.MethodName) ∈ tb := tb10 29 (by decide +kernel) (by decide +kernel)
theorem dX12_init_1 : decode cX12_init 1 = .ok (.invokespecial 3, 3) := by decide +kernel
theorem dX12_init_4 : decode cX12_init 4 = .ok (.aload_n 0, 1) := by decide +kernel
theorem dX12_init_5 : decode cX12_init 5 = .ok (.iconst 3, 1) := by decide +kernel
theorem dX12_init_6 : decode cX12_init 6 = .ok (.newarray .int, 2) := by decide +kernel
theorem k_10_36 : Jvm.Cond.fieldLink "FinderHouseModel$Ask" (9 : Nat) "FinderHouseModel$Ask" "kinds" "[I" ∈ tb := tb10 36 (by decide +kernel) (by decide +kernel)
theorem dX12_init_8 : decode cX12_init 8 = .ok (.putfield 9, 3) := by decide +kernel
theorem dX12_init_11 : decode cX12_init 11 = .ok (.aload_n 0, 1) := by decide +kernel
theorem dX12_init_12 : decode cX12_init 12 = .ok (.bipush 13, 2) := by decide +kernel
theorem dX12_init_14 : decode cX12_init 14 = .ok (.newarray .int, 2) := by decide +kernel
theorem k_10_41 : Jvm.Cond.fieldLink "FinderHouseModel$Ask" (15 : Nat) "FinderHouseModel$Ask" "pieceValue" "[I" ∈ tb := tb10 41 (by decide +kernel) (by decide +kernel)
theorem dX12_init_16 : decode cX12_init 16 = .ok (.putfield 15, 3) := by decide +kernel
theorem dX12_init_19 : decode cX12_init 19 = .ok (.aload_n 0, 1) := by decide +kernel
theorem dX12_init_20 : decode cX12_init 20 = .ok (.bipush 13, 2) := by decide +kernel
theorem dX12_init_22 : decode cX12_init 22 = .ok (.newarray .int, 2) := by decide +kernel
theorem k_10_43 : Jvm.Cond.fieldLink "FinderHouseModel$Ask" (18 : Nat) "FinderHouseModel$Ask" "pieceAct" "[I" ∈ tb := tb10 43 (by decide +kernel) (by decide +kernel)
theorem dX12_init_24 : decode cX12_init 24 = .ok (.putfield 18, 3) := by decide +kernel
theorem dX12_init_27 : decode cX12_init 27 = .ok (.aload_n 0, 1) := by decide +kernel
theorem dX12_init_28 : decode cX12_init 28 = .ok (.bipush 13, 2) := by decide +kernel
theorem dX12_init_30 : decode cX12_init 30 = .ok (.newarray .int, 2) := by decide +kernel
theorem k_10_45 : Jvm.Cond.fieldLink "FinderHouseModel$Ask" (21 : Nat) "FinderHouseModel$Ask" "piecePrice" "[I" ∈ tb := tb10 45 (by decide +kernel) (by decide +kernel)
theorem dX12_init_32 : decode cX12_init 32 = .ok (.putfield 21, 3) := by decide +kernel
theorem dX12_init_35 : decode cX12_init 35 = .ok (.aload_n 0, 1) := by decide +kernel
theorem dX12_init_36 : decode cX12_init 36 = .ok (.bipush 36, 2) := by decide +kernel
theorem dX12_init_38 : decode cX12_init 38 = .ok (.newarray .int, 2) := by decide +kernel
theorem k_10_48 : Jvm.Cond.fieldLink "FinderHouseModel$Ask" (24 : Nat) "FinderHouseModel$Ask" "rowAt" "[I" ∈ tb := tb10 48 (by decide +kernel) (by decide +kernel)
theorem dX12_init_40 : decode cX12_init 40 = .ok (.putfield 24, 3) := by decide +kernel
theorem dX12_init_43 : decode cX12_init 43 = .ok (.aload_n 0, 1) := by decide +kernel
theorem dX12_init_44 : decode cX12_init 44 = .ok (.bipush 12, 2) := by decide +kernel
theorem dX12_init_46 : decode cX12_init 46 = .ok (.newarray .int, 2) := by decide +kernel
theorem k_10_50 : Jvm.Cond.fieldLink "FinderHouseModel$Ask" (27 : Nat) "FinderHouseModel$Ask" "rowAnswer" "[I" ∈ tb := tb10 50 (by decide +kernel) (by decide +kernel)
theorem dX12_init_48 : decode cX12_init 48 = .ok (.putfield 27, 3) := by decide +kernel
theorem dX12_init_51 : decode cX12_init 51 = .ok (.aload_n 0, 1) := by decide +kernel
theorem dX12_init_52 : decode cX12_init 52 = .ok (.iconst 4, 1) := by decide +kernel
theorem dX12_init_53 : decode cX12_init 53 = .ok (.newarray .int, 2) := by decide +kernel
theorem k_10_53 : Jvm.Cond.fieldLink "FinderHouseModel$Ask" (30 : Nat) "FinderHouseModel$Ask" "lawMany" "[I" ∈ tb := tb10 53 (by decide +kernel) (by decide +kernel)
theorem dX12_init_55 : decode cX12_init 55 = .ok (.putfield 30, 3) := by decide +kernel
theorem dX12_init_58 : decode cX12_init 58 = .ok (.aload_n 0, 1) := by decide +kernel
theorem dX12_init_59 : decode cX12_init 59 = .ok (.bipush 8, 2) := by decide +kernel
theorem dX12_init_61 : decode cX12_init 61 = .ok (.newarray .int, 2) := by decide +kernel
theorem k_10_55 : Jvm.Cond.fieldLink "FinderHouseModel$Ask" (33 : Nat) "FinderHouseModel$Ask" "lawKinds" "[I" ∈ tb := tb10 55 (by decide +kernel) (by decide +kernel)
theorem dX12_init_63 : decode cX12_init 63 = .ok (.putfield 33, 3) := by decide +kernel
theorem dX12_init_66 : decode cX12_init 66 = .ok (.aload_n 0, 1) := by decide +kernel
theorem dX12_init_67 : decode cX12_init 67 = .ok (.iconst 4, 1) := by decide +kernel
theorem dX12_init_68 : decode cX12_init 68 = .ok (.newarray .int, 2) := by decide +kernel
theorem k_10_57 : Jvm.Cond.fieldLink "FinderHouseModel$Ask" (36 : Nat) "FinderHouseModel$Ask" "lawLeft" "[I" ∈ tb := tb10 57 (by decide +kernel) (by decide +kernel)
theorem dX12_init_70 : decode cX12_init 70 = .ok (.putfield 36, 3) := by decide +kernel
theorem dX12_init_73 : decode cX12_init 73 = .ok (.aload_n 0, 1) := by decide +kernel
theorem dX12_init_74 : decode cX12_init 74 = .ok (.iconst 4, 1) := by decide +kernel
theorem dX12_init_75 : decode cX12_init 75 = .ok (.newarray .int, 2) := by decide +kernel
theorem k_10_59 : Jvm.Cond.fieldLink "FinderHouseModel$Ask" (39 : Nat) "FinderHouseModel$Ask" "lawRight" "[I" ∈ tb := tb10 59 (by decide +kernel) (by decide +kernel)
theorem dX12_init_77 : decode cX12_init 77 = .ok (.putfield 39, 3) := by decide +kernel
theorem dX12_init_80 : decode cX12_init 80 = .ok (.aload_n 0, 1) := by decide +kernel
theorem dX12_init_81 : decode cX12_init 81 = .ok (.sipush 768, 3) := by decide +kernel
theorem dX12_init_84 : decode cX12_init 84 = .ok (.newarray .int, 2) := by decide +kernel
theorem k_10_63 : Jvm.Cond.fieldLink "FinderHouseModel$Ask" (42 : Nat) "FinderHouseModel$Ask" "point" "[I" ∈ tb := tb10 63 (by decide +kernel) (by decide +kernel)
theorem dX12_init_86 : decode cX12_init 86 = .ok (.putfield 42, 3) := by decide +kernel
theorem dX12_init_89 : decode cX12_init 89 = .ok (.aload_n 0, 1) := by decide +kernel
theorem dX12_init_90 : decode cX12_init 90 = .ok (.bipush 122, 2) := by decide +kernel
theorem dX12_init_92 : decode cX12_init 92 = .ok (.newarray .int, 2) := by decide +kernel
theorem k_10_66 : Jvm.Cond.fieldLink "FinderHouseModel$Ask" (45 : Nat) "FinderHouseModel$Ask" "fnKind" "[I" ∈ tb := tb10 66 (by decide +kernel) (by decide +kernel)
theorem dX12_init_94 : decode cX12_init 94 = .ok (.putfield 45, 3) := by decide +kernel
theorem dX12_init_97 : decode cX12_init 97 = .ok (.aload_n 0, 1) := by decide +kernel
theorem dX12_init_98 : decode cX12_init 98 = .ok (.bipush 122, 2) := by decide +kernel
theorem dX12_init_100 : decode cX12_init 100 = .ok (.newarray .int, 2) := by decide +kernel
theorem k_10_68 : Jvm.Cond.fieldLink "FinderHouseModel$Ask" (48 : Nat) "FinderHouseModel$Ask" "fnTerm" "[I" ∈ tb := tb10 68 (by decide +kernel) (by decide +kernel)
theorem dX12_init_102 : decode cX12_init 102 = .ok (.putfield 48, 3) := by decide +kernel
theorem dX12_init_105 : decode cX12_init 105 = .ok (.aload_n 0, 1) := by decide +kernel
theorem dX12_init_106 : decode cX12_init 106 = .ok (.bipush 122, 2) := by decide +kernel
theorem dX12_init_108 : decode cX12_init 108 = .ok (.newarray .int, 2) := by decide +kernel
theorem k_10_70 : Jvm.Cond.fieldLink "FinderHouseModel$Ask" (51 : Nat) "FinderHouseModel$Ask" "fnPrice" "[I" ∈ tb := tb10 70 (by decide +kernel) (by decide +kernel)
theorem dX12_init_110 : decode cX12_init 110 = .ok (.putfield 51, 3) := by decide +kernel
theorem dX12_init_113 : decode cX12_init 113 = .ok (.aload_n 0, 1) := by decide +kernel
theorem dX12_init_114 : decode cX12_init 114 = .ok (.bipush 122, 2) := by decide +kernel
theorem dX12_init_116 : decode cX12_init 116 = .ok (.newarray .int, 2) := by decide +kernel
theorem k_10_72 : Jvm.Cond.fieldLink "FinderHouseModel$Ask" (54 : Nat) "FinderHouseModel$Ask" "fnHash" "[I" ∈ tb := tb10 72 (by decide +kernel) (by decide +kernel)
theorem dX12_init_118 : decode cX12_init 118 = .ok (.putfield 54, 3) := by decide +kernel
theorem dX12_init_121 : decode cX12_init 121 = .ok (.aload_n 0, 1) := by decide +kernel
theorem dX12_init_122 : decode cX12_init 122 = .ok (.bipush 122, 2) := by decide +kernel
theorem dX12_init_124 : decode cX12_init 124 = .ok (.sipush 256, 3) := by decide +kernel
theorem k_10_30 : Jvm.Cond.classLink "FinderHouseModel$Ask" (57 : Nat) "[[I" ∈ tb := tb10 30 (by decide +kernel) (by decide +kernel)
theorem dX12_init_127 : decode cX12_init 127 = .ok (.multianewarray 57 2, 4) := by decide +kernel
theorem k_10_74 : Jvm.Cond.fieldLink "FinderHouseModel$Ask" (59 : Nat) "FinderHouseModel$Ask" "fn" "[[I" ∈ tb := tb10 74 (by decide +kernel) (by decide +kernel)
theorem dX12_init_131 : decode cX12_init 131 = .ok (.putfield 59, 3) := by decide +kernel
theorem dX12_init_134 : decode cX12_init 134 = .ok (.aload_n 0, 1) := by decide +kernel
theorem dX12_init_135 : decode cX12_init 135 = .ok (.iload_n 1, 1) := by decide +kernel
theorem k_10_32 : Jvm.Cond.fieldLink "FinderHouseModel$Ask" (62 : Nat) "FinderHouseModel$Ask" "at" "I" ∈ tb := tb10 32 (by decide +kernel) (by decide +kernel)
theorem dX12_init_136 : decode cX12_init 136 = .ok (.putfield 62, 3) := by decide +kernel
theorem dX12_init_139 : decode cX12_init 139 = .ok (.aload_n 0, 1) := by decide +kernel
theorem dX12_init_140 : decode cX12_init 140 = .ok (.iload_n 2, 1) := by decide +kernel
theorem k_10_34 : Jvm.Cond.fieldLink "FinderHouseModel$Ask" (66 : Nat) "FinderHouseModel$Ask" "terms" "I" ∈ tb := tb10 34 (by decide +kernel) (by decide +kernel)
theorem dX12_init_141 : decode cX12_init 141 = .ok (.putfield 66, 3) := by decide +kernel
theorem dX12_init_144 : decode cX12_init 144 = .ok (.return_, 1) := by decide +kernel
theorem dX14_init_0 : decode cX14_init 0 = .ok (.aload_n 0, 1) := by decide +kernel
theorem k_10_144 : Jvm.Cond.methodLink "FinderHouseModel$Loop" (1 : Nat) ({ cls := "java/lang/Object", name := "<init>", desc := "()V" } : Jvm.MethodName) ∈ tb := tb10 144 (by decide +kernel) (by decide +kernel)
theorem dX14_init_1 : decode cX14_init 1 = .ok (.invokespecial 1, 3) := by decide +kernel
theorem dX14_init_4 : decode cX14_init 4 = .ok (.aload_n 0, 1) := by decide +kernel
theorem dX14_init_5 : decode cX14_init 5 = .ok (.iconst 2, 1) := by decide +kernel
theorem dX14_init_6 : decode cX14_init 6 = .ok (.newarray .int, 2) := by decide +kernel
theorem k_10_147 : Jvm.Cond.fieldLink "FinderHouseModel$Loop" (7 : Nat) "FinderHouseModel$Loop" "kinds" "[I" ∈ tb := tb10 147 (by decide +kernel) (by decide +kernel)
theorem dX14_init_8 : decode cX14_init 8 = .ok (.putfield 7, 3) := by decide +kernel
theorem dX14_init_11 : decode cX14_init 11 = .ok (.aload_n 0, 1) := by decide +kernel
theorem dX14_init_12 : decode cX14_init 12 = .ok (.iconst 3, 1) := by decide +kernel
theorem dX14_init_13 : decode cX14_init 13 = .ok (.newarray .int, 2) := by decide +kernel
theorem k_10_150 : Jvm.Cond.fieldLink "FinderHouseModel$Loop" (13 : Nat) "FinderHouseModel$Loop" "state" "[I" ∈ tb := tb10 150 (by decide +kernel) (by decide +kernel)
theorem dX14_init_15 : decode cX14_init 15 = .ok (.putfield 13, 3) := by decide +kernel
theorem dX14_init_18 : decode cX14_init 18 = .ok (.aload_n 0, 1) := by decide +kernel
theorem dX14_init_19 : decode cX14_init 19 = .ok (.iconst 4, 1) := by decide +kernel
theorem dX14_init_20 : decode cX14_init 20 = .ok (.newarray .int, 2) := by decide +kernel
theorem k_10_153 : Jvm.Cond.fieldLink "FinderHouseModel$Loop" (16 : Nat) "FinderHouseModel$Loop" "from" "[I" ∈ tb := tb10 153 (by decide +kernel) (by decide +kernel)
theorem dX14_init_22 : decode cX14_init 22 = .ok (.putfield 16, 3) := by decide +kernel
theorem dX14_init_25 : decode cX14_init 25 = .ok (.aload_n 0, 1) := by decide +kernel
theorem dX14_init_26 : decode cX14_init 26 = .ok (.iconst 4, 1) := by decide +kernel
theorem dX14_init_27 : decode cX14_init 27 = .ok (.newarray .int, 2) := by decide +kernel
theorem k_10_156 : Jvm.Cond.fieldLink "FinderHouseModel$Loop" (19 : Nat) "FinderHouseModel$Loop" "go" "[I" ∈ tb := tb10 156 (by decide +kernel) (by decide +kernel)
theorem dX14_init_29 : decode cX14_init 29 = .ok (.putfield 19, 3) := by decide +kernel
theorem dX14_init_32 : decode cX14_init 32 = .ok (.aload_n 0, 1) := by decide +kernel
theorem dX14_init_33 : decode cX14_init 33 = .ok (.iload_n 1, 1) := by decide +kernel
theorem k_10_145 : Jvm.Cond.fieldLink "FinderHouseModel$Loop" (22 : Nat) "FinderHouseModel$Loop" "at" "I" ∈ tb := tb10 145 (by decide +kernel) (by decide +kernel)
theorem dX14_init_34 : decode cX14_init 34 = .ok (.putfield 22, 3) := by decide +kernel
theorem dX14_init_37 : decode cX14_init 37 = .ok (.return_, 1) := by decide +kernel
theorem mna_int {own : String} {idx : Nat} {args : Array Value} {s : State} (h : (Cond.classLink own idx "[[I").before args s = true) : (Cond.classLink own idx ("[" ++ (FieldType.array FieldType.int).toString)).before args s = true := h
theorem mna_long {own : String} {idx : Nat} {args : Array Value} {s : State} (h : (Cond.classLink own idx "[[J").before args s = true) : (Cond.classLink own idx ("[" ++ (FieldType.array FieldType.long).toString)).before args s = true := h
theorem lft_P {D : va_G} {cl : List vw_C} {a b : va_W} {H : Heap} (h : va_P D cl (a ++ b) H) : va_P D cl a H := h.by (fun k => k) (fun k q hk => by rw [List.getElem?_append_left (List.getElem?_eq_some_iff.mp hk).1]; exact hk)
theorem lft_D {A : Nat → Prop} {a b : va_W} (h : va_D A (a ++ b)) : va_D A a := h.by (fun k => k) (fun k q hk => by rw [List.getElem?_append_left (List.getElem?_eq_some_iff.mp hk).1]; exact hk) (fun i j _ _ h => h)
/-- the rows of the disk -/
def rowsP (r : Nat → Nat) (cy : ClassId) : va_W := va_pl [] (fun _ => .inr (0, [])) ++ ((List.range 201).map r).map (fun a => (a, .inl (cy, 128, .inl (fun _ => 0))))
theorem ca_vQ {p : Program} {l : Launch} {e : Env} {R : Room} {s : State} {m : MethodId} {args : Array Value} {below : List Frame} {meth : Method} {c : Code} {H : Heap} {locs : List Loc} {cells slots : Nat} {Q : State → Prop} {pc : Nat} {ls : Array Slot} {rest st0 : List Value} {a : Array Value} {A0 : Nat → Prop} {H0 : Heap} {mc ms : Nat} {D : va_G} {X pl wc wr : va_W} {tys : List (ClassId × FieldType)} {S : Type} {post : S → Prop} {w1 : S → va_W} {t1 : S → List (ClassId × FieldType)} (hr : va_Run p l e R s m args below meth c H locs cells slots mc ms (F0 m pc ls st0) rest (va_Qv post (bw D (va_A wc H.size) w1 t1) (va_A wc H.size) a) (va_A wc H.size)) (hP : va_P D cls (X ++ pl) H) (hD : va_D A0 (X ++ pl)) (hK : va_K D cls tys s) (hS : va_S A0 H0 H locs) (hA : ∀ q, H0.size ≤ q → A0 q) (isC isR : List Nat) (hC : isC.map (fun i => X[i]?) = wc.map some) (hR : isR.map (fun i => X[i]?) = wr.map some) (hn : va_nd isR = true) (hdis : ∀ i ∈ isR, i ∉ isC)
    (kk : ∀ (u : S) (H1 : Heap) (locs1 : List Loc), post u → va_K D cls (tys ++ t1 u) s → va_P D cls ((wr ++ w1 u) ++ pl) H1 → va_D A0 ((wr ++ w1 u) ++ pl) → va_S A0 H0 H1 locs1 → W p l e R s m args below meth c H1 locs1 (cells + mc) (slots + ms) Q (F0 m (pc + 3) ls rest)) : W p l e R s m args below meth c H locs cells slots Q (F0 m pc ls st0) := by
  have hDX : va_D A0 X := hD.by (fun k => k) (fun k q hk => by rw [List.getElem?_append_left (List.getElem?_eq_some_iff.mp hk).1]; exact hk) (fun i j _ _ h => h)
  have hF := va_free (wc := wc) hDX hS hA isC hC
  refine va_callv hr hS (fun q _ h => hF q h) hF (fun u t H1 locs1 ht hvm hw hB hz1 hk1 hS1 => ?_)
  obtain ⟨hP1, hK1, hD1⟩ := hB
  rw [ht] at hP1
  obtain ⟨hP2, hD2⟩ := va_joinQ (wr := wr) (w1 := w1 u) hP hD isC isR hC hR hn hdis hk1 hF hP1 hD1
  exact kk u H1 locs1 hw (hK.app (va_K.moved hvm.symm hK1)) hP2 hD2 hS1
set_option maxHeartbeats 4000000 in
set_option maxRecDepth 100000 in
theorem k12 (l : Launch) (dC : Nat → ClassId) (dI : Nat → Nat → Nat) (sz : Nat) (q : Nat) (p0 : Int32) (p1 : Int32)  : Met l yX12_init (Cond.code yX12_init cX12_init 3 none :: tb) ({ frames := 1, cells := 138, slots := 32720, locals := 12 }) (pcx [.inr (.inr (.inr (.inr (.inr (.inl .int)))))] [.ref q, .int p0, .int p1] (dC, dI) [(q, .inr (12, [.int 0, .int 0, .null, .int 0, .int 0, .int 0, .null, .null, .null, .int 0, .null, .null, .int 0, .null, .null, .null, .null, .int 0, .int 0, .null, .int 0, .null, .null, .null, .null, .null, .int 0, .int 0]))] [] sz) (va_Qv (fun (fs1 : List Value) => (True) ∧ (fs1.length = 28) ∧ (fs1[0]? = some (.int p0))) (bw (dC, dI) (va_A [(q, .inr (12, [.int 0, .int 0, .null, .int 0, .int 0, .int 0, .null, .null, .null, .int 0, .null, .null, .int 0, .null, .null, .null, .null, .int 0, .int 0, .null, .int 0, .null, .null, .null, .null, .null, .int 0, .int 0]))] sz) (fun (fs1 : List Value) => [(q, .inr (12, fs1))]) (fun (fs1 : List Value) => [])) (va_A [(q, .inr (12, [.int 0, .int 0, .null, .int 0, .int 0, .int 0, .null, .null, .null, .int 0, .null, .null, .int 0, .null, .null, .null, .null, .int 0, .int 0, .null, .int 0, .null, .null, .null, .null, .null, .int 0, .int 0]))] sz)) 138 32720 (va_A [(q, .inr (12, [.int 0, .int 0, .null, .int 0, .int 0, .int 0, .null, .null, .null, .int 0, .null, .null, .int 0, .null, .null, .null, .null, .int 0, .int 0, .null, .int 0, .null, .null, .null, .null, .null, .int 0, .int 0]))] sz) := by
  refine Met.ofW (cc := cX12_init) (maxL := 3) (ret := none) (by decide) rfl ?_
  intro p e s m args below meth c s₁ B hml hv
  obtain ⟨rfl, hsz, hP, hK, hD0, hE⟩ := hv
  have hx := B.exec
  have hb := B.bytes
  have hr := B.returns
  have hts := atoms_spec (ws := Cond.code yX12_init cX12_init 3 none :: tb) B.pre
  have ht : ∀ w ∈ tb, w.before _ s = true := fun w h => hts w (List.mem_cons_of_mem _ h)
  have hown : s.vm.findClass RX12 = some m.cls := findClass_of_methodNamed B.named
  have hlocks := B.notSynchronized
  have hin : meth.name = "<init>" := (name_of_methodNamed B.named B.method).1
  subst hsz
  have hD := hD0.self (sz := s.heap.size)
  generalize hAe : va_A [(q, .inr (12, [.int 0, .int 0, .null, .int 0, .int 0, .int 0, .null, .null, .null, .int 0, .null, .null, .int 0, .null, .null, .null, .null, .int 0, .int 0, .null, .int 0, .null, .null, .null, .null, .null, .int 0, .int 0]))] s.heap.size = A at hD hE ⊢
  have hA : ∀ q : Nat, s.heap.size ≤ q → A q := fun q h => by rw [← hAe]; exact Or.inr h
  have hS : va_S A s.heap s.heap [] := va_S.rf
  have hl := lv_entry ([.ref q, .int p0, .int p1]) (n := 3) (Nat.le_of_ble_eq_true rfl)
  rw [lg_entry_eq]
  generalize (lg_sl ([.ref q, .int p0, .int p1]) ++ List.replicate (3 - (lg_sl ([.ref q, .int p0, .int p1])).length) Slot.unset).toArray = ls at hl ⊢
  have hl : lv_has ls 3 [(0, .ref q), (1, .int p0), (2, .int p1)] := hl
  have hP : va_P (dC, dI) cls [(q, .inr (12, [.int 0, .int 0, .null, .int 0, .int 0, .int 0, .null, .null, .null, .int 0, .null, .null, .int 0, .null, .null, .null, .null, .int 0, .int 0, .null, .int 0, .null, .null, .null, .null, .null, .int 0, .int 0]))] s.heap := hP
  refine lv_aload_n hx hb dX12_init_0 rfl (lv_at hl 0 rfl) ?_
  refine tk_o hx hb hown ht k_10_29 k_1_36 k_1_37 hml hl.1 dX12_init_1 (Nat.le_of_ble_eq_true rfl) (Nat.le_of_ble_eq_true rfl) ?_
  refine lv_aload_n hx hb dX12_init_4 rfl (lv_at hl 0 rfl) ?_
  refine lv_iconst (v := 3) hx hb dX12_init_5 (by decide) ?_
  refine va_newa (atype := .int) (ty := .int) (N' := 3) (a0 := (3, .inl (fun _ => 0))) hx hb (ht _ k_1_139) rfl hK hP hD hS hA (fun _ => rfl) (by decide) (by decide) (Nat.le_of_ble_eq_true rfl) (Nat.le_of_ble_eq_true rfl) (Nat.le_of_ble_eq_true rfl) dX12_init_6 (fun q_1 c_2 H hK hP hD hS => ?_)
  have hK : va_K (dC, dI) cls [(c_2, .int)] s := hK
  have hP : va_P (dC, dI) cls [(q, .inr (12, [.int 0, .int 0, .null, .int 0, .int 0, .int 0, .null, .null, .null, .int 0, .null, .null, .int 0, .null, .null, .null, .null, .int 0, .int 0, .null, .int 0, .null, .null, .null, .null, .null, .int 0, .int 0])), (q_1, .inl (c_2, 3, .inl (fun _ => 0)))] H := hP
  have hD : va_D A [(q, .inr (12, [.int 0, .int 0, .null, .int 0, .int 0, .int 0, .null, .null, .null, .int 0, .null, .null, .int 0, .null, .null, .null, .null, .int 0, .int 0, .null, .int 0, .null, .null, .null, .null, .null, .int 0, .int 0])), (q_1, .inl (c_2, 3, .inl (fun _ => 0)))] := hD
  refine W.widen (k := 1) (n := 3) (by omega) (by omega) ?_
  refine va_putF (D := (dC, dI)) (ci := 12) (v := .ref q_1) (ty := .array .int) (C := RX12) (T := TX12) (N := 28) hx hb ht uX12 tyX12 tkX12 nmX12 hown hK hP hD hS 0 rfl rfl 2 (by decide) (ht _ k_10_36) (fun _ h9 => h9) rfl hin rfl (by decide +kernel) rfl rfl (Nat.le_of_ble_eq_true rfl) dX12_init_8 (fun H locs hP hD hS => ?_)
  have hP : va_P (dC, dI) cls [(q, .inr (12, [.int 0, .int 0, .ref q_1, .int 0, .int 0, .int 0, .null, .null, .null, .int 0, .null, .null, .int 0, .null, .null, .null, .null, .int 0, .int 0, .null, .int 0, .null, .null, .null, .null, .null, .int 0, .int 0])), (q_1, .inl (c_2, 3, .inl (fun _ => 0)))] H := hP
  have hD : va_D A [(q, .inr (12, [.int 0, .int 0, .ref q_1, .int 0, .int 0, .int 0, .null, .null, .null, .int 0, .null, .null, .int 0, .null, .null, .null, .null, .int 0, .int 0, .null, .int 0, .null, .null, .null, .null, .null, .int 0, .int 0])), (q_1, .inl (c_2, 3, .inl (fun _ => 0)))] := hD
  have hP := hP.sub (ws' := [(q, .inr (12, [.int 0, .int 0, .ref q_1, .int 0, .int 0, .int 0, .null, .null, .null, .int 0, .null, .null, .int 0, .null, .null, .null, .null, .int 0, .int 0, .null, .int 0, .null, .null, .null, .null, .null, .int 0, .int 0]))]) [0] rfl
  have hD := hD.sub (ws' := [(q, .inr (12, [.int 0, .int 0, .ref q_1, .int 0, .int 0, .int 0, .null, .null, .null, .int 0, .null, .null, .int 0, .null, .null, .null, .null, .int 0, .int 0, .null, .int 0, .null, .null, .null, .null, .null, .int 0, .int 0]))]) [0] (by decide) rfl
  refine lv_aload_n hx hb dX12_init_11 rfl (lv_at hl 0 rfl) ?_
  refine lv_bipush (v := 13) hx hb dX12_init_12 (by decide) ?_
  refine va_newa (atype := .int) (ty := .int) (N' := 13) (a0 := (13, .inl (fun _ => 0))) hx hb (ht _ k_1_139) rfl hK hP hD hS hA (fun _ => rfl) (by decide) (by decide) (Nat.le_of_ble_eq_true rfl) (Nat.le_of_ble_eq_true rfl) (Nat.le_of_ble_eq_true rfl) dX12_init_14 (fun q_3 c_4 H hK hP hD hS => ?_)
  have hK : va_K (dC, dI) cls [(c_2, .int), (c_4, .int)] s := hK
  have hP : va_P (dC, dI) cls [(q, .inr (12, [.int 0, .int 0, .ref q_1, .int 0, .int 0, .int 0, .null, .null, .null, .int 0, .null, .null, .int 0, .null, .null, .null, .null, .int 0, .int 0, .null, .int 0, .null, .null, .null, .null, .null, .int 0, .int 0])), (q_3, .inl (c_4, 13, .inl (fun _ => 0)))] H := hP
  have hD : va_D A [(q, .inr (12, [.int 0, .int 0, .ref q_1, .int 0, .int 0, .int 0, .null, .null, .null, .int 0, .null, .null, .int 0, .null, .null, .null, .null, .int 0, .int 0, .null, .int 0, .null, .null, .null, .null, .null, .int 0, .int 0])), (q_3, .inl (c_4, 13, .inl (fun _ => 0)))] := hD
  refine W.widen (k := 2) (n := 16) (by omega) (by omega) ?_
  refine va_putF (D := (dC, dI)) (ci := 12) (v := .ref q_3) (ty := .array .int) (C := RX12) (T := TX12) (N := 28) hx hb ht uX12 tyX12 tkX12 nmX12 hown hK hP hD hS 0 rfl rfl 6 (by decide) (ht _ k_10_41) (fun _ h9 => h9) rfl hin rfl (by decide +kernel) rfl rfl (Nat.le_of_ble_eq_true rfl) dX12_init_16 (fun H locs hP hD hS => ?_)
  have hP : va_P (dC, dI) cls [(q, .inr (12, [.int 0, .int 0, .ref q_1, .int 0, .int 0, .int 0, .ref q_3, .null, .null, .int 0, .null, .null, .int 0, .null, .null, .null, .null, .int 0, .int 0, .null, .int 0, .null, .null, .null, .null, .null, .int 0, .int 0])), (q_3, .inl (c_4, 13, .inl (fun _ => 0)))] H := hP
  have hD : va_D A [(q, .inr (12, [.int 0, .int 0, .ref q_1, .int 0, .int 0, .int 0, .ref q_3, .null, .null, .int 0, .null, .null, .int 0, .null, .null, .null, .null, .int 0, .int 0, .null, .int 0, .null, .null, .null, .null, .null, .int 0, .int 0])), (q_3, .inl (c_4, 13, .inl (fun _ => 0)))] := hD
  have hP := hP.sub (ws' := [(q, .inr (12, [.int 0, .int 0, .ref q_1, .int 0, .int 0, .int 0, .ref q_3, .null, .null, .int 0, .null, .null, .int 0, .null, .null, .null, .null, .int 0, .int 0, .null, .int 0, .null, .null, .null, .null, .null, .int 0, .int 0]))]) [0] rfl
  have hD := hD.sub (ws' := [(q, .inr (12, [.int 0, .int 0, .ref q_1, .int 0, .int 0, .int 0, .ref q_3, .null, .null, .int 0, .null, .null, .int 0, .null, .null, .null, .null, .int 0, .int 0, .null, .int 0, .null, .null, .null, .null, .null, .int 0, .int 0]))]) [0] (by decide) rfl
  refine lv_aload_n hx hb dX12_init_19 rfl (lv_at hl 0 rfl) ?_
  refine lv_bipush (v := 13) hx hb dX12_init_20 (by decide) ?_
  refine va_newa (atype := .int) (ty := .int) (N' := 13) (a0 := (13, .inl (fun _ => 0))) hx hb (ht _ k_1_139) rfl hK hP hD hS hA (fun _ => rfl) (by decide) (by decide) (Nat.le_of_ble_eq_true rfl) (Nat.le_of_ble_eq_true rfl) (Nat.le_of_ble_eq_true rfl) dX12_init_22 (fun q_5 c_6 H hK hP hD hS => ?_)
  have hK : va_K (dC, dI) cls [(c_2, .int), (c_4, .int), (c_6, .int)] s := hK
  have hP : va_P (dC, dI) cls [(q, .inr (12, [.int 0, .int 0, .ref q_1, .int 0, .int 0, .int 0, .ref q_3, .null, .null, .int 0, .null, .null, .int 0, .null, .null, .null, .null, .int 0, .int 0, .null, .int 0, .null, .null, .null, .null, .null, .int 0, .int 0])), (q_5, .inl (c_6, 13, .inl (fun _ => 0)))] H := hP
  have hD : va_D A [(q, .inr (12, [.int 0, .int 0, .ref q_1, .int 0, .int 0, .int 0, .ref q_3, .null, .null, .int 0, .null, .null, .int 0, .null, .null, .null, .null, .int 0, .int 0, .null, .int 0, .null, .null, .null, .null, .null, .int 0, .int 0])), (q_5, .inl (c_6, 13, .inl (fun _ => 0)))] := hD
  refine W.widen (k := 3) (n := 29) (by omega) (by omega) ?_
  refine va_putF (D := (dC, dI)) (ci := 12) (v := .ref q_5) (ty := .array .int) (C := RX12) (T := TX12) (N := 28) hx hb ht uX12 tyX12 tkX12 nmX12 hown hK hP hD hS 0 rfl rfl 7 (by decide) (ht _ k_10_43) (fun _ h9 => h9) rfl hin rfl (by decide +kernel) rfl rfl (Nat.le_of_ble_eq_true rfl) dX12_init_24 (fun H locs hP hD hS => ?_)
  have hP : va_P (dC, dI) cls [(q, .inr (12, [.int 0, .int 0, .ref q_1, .int 0, .int 0, .int 0, .ref q_3, .ref q_5, .null, .int 0, .null, .null, .int 0, .null, .null, .null, .null, .int 0, .int 0, .null, .int 0, .null, .null, .null, .null, .null, .int 0, .int 0])), (q_5, .inl (c_6, 13, .inl (fun _ => 0)))] H := hP
  have hD : va_D A [(q, .inr (12, [.int 0, .int 0, .ref q_1, .int 0, .int 0, .int 0, .ref q_3, .ref q_5, .null, .int 0, .null, .null, .int 0, .null, .null, .null, .null, .int 0, .int 0, .null, .int 0, .null, .null, .null, .null, .null, .int 0, .int 0])), (q_5, .inl (c_6, 13, .inl (fun _ => 0)))] := hD
  have hP := hP.sub (ws' := [(q, .inr (12, [.int 0, .int 0, .ref q_1, .int 0, .int 0, .int 0, .ref q_3, .ref q_5, .null, .int 0, .null, .null, .int 0, .null, .null, .null, .null, .int 0, .int 0, .null, .int 0, .null, .null, .null, .null, .null, .int 0, .int 0]))]) [0] rfl
  have hD := hD.sub (ws' := [(q, .inr (12, [.int 0, .int 0, .ref q_1, .int 0, .int 0, .int 0, .ref q_3, .ref q_5, .null, .int 0, .null, .null, .int 0, .null, .null, .null, .null, .int 0, .int 0, .null, .int 0, .null, .null, .null, .null, .null, .int 0, .int 0]))]) [0] (by decide) rfl
  refine lv_aload_n hx hb dX12_init_27 rfl (lv_at hl 0 rfl) ?_
  refine lv_bipush (v := 13) hx hb dX12_init_28 (by decide) ?_
  refine va_newa (atype := .int) (ty := .int) (N' := 13) (a0 := (13, .inl (fun _ => 0))) hx hb (ht _ k_1_139) rfl hK hP hD hS hA (fun _ => rfl) (by decide) (by decide) (Nat.le_of_ble_eq_true rfl) (Nat.le_of_ble_eq_true rfl) (Nat.le_of_ble_eq_true rfl) dX12_init_30 (fun q_7 c_8 H hK hP hD hS => ?_)
  have hK : va_K (dC, dI) cls [(c_2, .int), (c_4, .int), (c_6, .int), (c_8, .int)] s := hK
  have hP : va_P (dC, dI) cls [(q, .inr (12, [.int 0, .int 0, .ref q_1, .int 0, .int 0, .int 0, .ref q_3, .ref q_5, .null, .int 0, .null, .null, .int 0, .null, .null, .null, .null, .int 0, .int 0, .null, .int 0, .null, .null, .null, .null, .null, .int 0, .int 0])), (q_7, .inl (c_8, 13, .inl (fun _ => 0)))] H := hP
  have hD : va_D A [(q, .inr (12, [.int 0, .int 0, .ref q_1, .int 0, .int 0, .int 0, .ref q_3, .ref q_5, .null, .int 0, .null, .null, .int 0, .null, .null, .null, .null, .int 0, .int 0, .null, .int 0, .null, .null, .null, .null, .null, .int 0, .int 0])), (q_7, .inl (c_8, 13, .inl (fun _ => 0)))] := hD
  refine W.widen (k := 4) (n := 42) (by omega) (by omega) ?_
  refine va_putF (D := (dC, dI)) (ci := 12) (v := .ref q_7) (ty := .array .int) (C := RX12) (T := TX12) (N := 28) hx hb ht uX12 tyX12 tkX12 nmX12 hown hK hP hD hS 0 rfl rfl 8 (by decide) (ht _ k_10_45) (fun _ h9 => h9) rfl hin rfl (by decide +kernel) rfl rfl (Nat.le_of_ble_eq_true rfl) dX12_init_32 (fun H locs hP hD hS => ?_)
  have hP : va_P (dC, dI) cls [(q, .inr (12, [.int 0, .int 0, .ref q_1, .int 0, .int 0, .int 0, .ref q_3, .ref q_5, .ref q_7, .int 0, .null, .null, .int 0, .null, .null, .null, .null, .int 0, .int 0, .null, .int 0, .null, .null, .null, .null, .null, .int 0, .int 0])), (q_7, .inl (c_8, 13, .inl (fun _ => 0)))] H := hP
  have hD : va_D A [(q, .inr (12, [.int 0, .int 0, .ref q_1, .int 0, .int 0, .int 0, .ref q_3, .ref q_5, .ref q_7, .int 0, .null, .null, .int 0, .null, .null, .null, .null, .int 0, .int 0, .null, .int 0, .null, .null, .null, .null, .null, .int 0, .int 0])), (q_7, .inl (c_8, 13, .inl (fun _ => 0)))] := hD
  have hP := hP.sub (ws' := [(q, .inr (12, [.int 0, .int 0, .ref q_1, .int 0, .int 0, .int 0, .ref q_3, .ref q_5, .ref q_7, .int 0, .null, .null, .int 0, .null, .null, .null, .null, .int 0, .int 0, .null, .int 0, .null, .null, .null, .null, .null, .int 0, .int 0]))]) [0] rfl
  have hD := hD.sub (ws' := [(q, .inr (12, [.int 0, .int 0, .ref q_1, .int 0, .int 0, .int 0, .ref q_3, .ref q_5, .ref q_7, .int 0, .null, .null, .int 0, .null, .null, .null, .null, .int 0, .int 0, .null, .int 0, .null, .null, .null, .null, .null, .int 0, .int 0]))]) [0] (by decide) rfl
  refine lv_aload_n hx hb dX12_init_35 rfl (lv_at hl 0 rfl) ?_
  refine lv_bipush (v := 36) hx hb dX12_init_36 (by decide) ?_
  refine va_newa (atype := .int) (ty := .int) (N' := 36) (a0 := (36, .inl (fun _ => 0))) hx hb (ht _ k_1_139) rfl hK hP hD hS hA (fun _ => rfl) (by decide) (by decide) (Nat.le_of_ble_eq_true rfl) (Nat.le_of_ble_eq_true rfl) (Nat.le_of_ble_eq_true rfl) dX12_init_38 (fun q_9 c_10 H hK hP hD hS => ?_)
  have hK : va_K (dC, dI) cls [(c_2, .int), (c_4, .int), (c_6, .int), (c_8, .int), (c_10, .int)] s := hK
  have hP : va_P (dC, dI) cls [(q, .inr (12, [.int 0, .int 0, .ref q_1, .int 0, .int 0, .int 0, .ref q_3, .ref q_5, .ref q_7, .int 0, .null, .null, .int 0, .null, .null, .null, .null, .int 0, .int 0, .null, .int 0, .null, .null, .null, .null, .null, .int 0, .int 0])), (q_9, .inl (c_10, 36, .inl (fun _ => 0)))] H := hP
  have hD : va_D A [(q, .inr (12, [.int 0, .int 0, .ref q_1, .int 0, .int 0, .int 0, .ref q_3, .ref q_5, .ref q_7, .int 0, .null, .null, .int 0, .null, .null, .null, .null, .int 0, .int 0, .null, .int 0, .null, .null, .null, .null, .null, .int 0, .int 0])), (q_9, .inl (c_10, 36, .inl (fun _ => 0)))] := hD
  refine W.widen (k := 5) (n := 78) (by omega) (by omega) ?_
  refine va_putF (D := (dC, dI)) (ci := 12) (v := .ref q_9) (ty := .array .int) (C := RX12) (T := TX12) (N := 28) hx hb ht uX12 tyX12 tkX12 nmX12 hown hK hP hD hS 0 rfl rfl 10 (by decide) (ht _ k_10_48) (fun _ h9 => h9) rfl hin rfl (by decide +kernel) rfl rfl (Nat.le_of_ble_eq_true rfl) dX12_init_40 (fun H locs hP hD hS => ?_)
  have hP : va_P (dC, dI) cls [(q, .inr (12, [.int 0, .int 0, .ref q_1, .int 0, .int 0, .int 0, .ref q_3, .ref q_5, .ref q_7, .int 0, .ref q_9, .null, .int 0, .null, .null, .null, .null, .int 0, .int 0, .null, .int 0, .null, .null, .null, .null, .null, .int 0, .int 0])), (q_9, .inl (c_10, 36, .inl (fun _ => 0)))] H := hP
  have hD : va_D A [(q, .inr (12, [.int 0, .int 0, .ref q_1, .int 0, .int 0, .int 0, .ref q_3, .ref q_5, .ref q_7, .int 0, .ref q_9, .null, .int 0, .null, .null, .null, .null, .int 0, .int 0, .null, .int 0, .null, .null, .null, .null, .null, .int 0, .int 0])), (q_9, .inl (c_10, 36, .inl (fun _ => 0)))] := hD
  have hP := hP.sub (ws' := [(q, .inr (12, [.int 0, .int 0, .ref q_1, .int 0, .int 0, .int 0, .ref q_3, .ref q_5, .ref q_7, .int 0, .ref q_9, .null, .int 0, .null, .null, .null, .null, .int 0, .int 0, .null, .int 0, .null, .null, .null, .null, .null, .int 0, .int 0]))]) [0] rfl
  have hD := hD.sub (ws' := [(q, .inr (12, [.int 0, .int 0, .ref q_1, .int 0, .int 0, .int 0, .ref q_3, .ref q_5, .ref q_7, .int 0, .ref q_9, .null, .int 0, .null, .null, .null, .null, .int 0, .int 0, .null, .int 0, .null, .null, .null, .null, .null, .int 0, .int 0]))]) [0] (by decide) rfl
  refine lv_aload_n hx hb dX12_init_43 rfl (lv_at hl 0 rfl) ?_
  refine lv_bipush (v := 12) hx hb dX12_init_44 (by decide) ?_
  refine va_newa (atype := .int) (ty := .int) (N' := 12) (a0 := (12, .inl (fun _ => 0))) hx hb (ht _ k_1_139) rfl hK hP hD hS hA (fun _ => rfl) (by decide) (by decide) (Nat.le_of_ble_eq_true rfl) (Nat.le_of_ble_eq_true rfl) (Nat.le_of_ble_eq_true rfl) dX12_init_46 (fun q_11 c_12 H hK hP hD hS => ?_)
  have hK : va_K (dC, dI) cls [(c_2, .int), (c_4, .int), (c_6, .int), (c_8, .int), (c_10, .int), (c_12, .int)] s := hK
  have hP : va_P (dC, dI) cls [(q, .inr (12, [.int 0, .int 0, .ref q_1, .int 0, .int 0, .int 0, .ref q_3, .ref q_5, .ref q_7, .int 0, .ref q_9, .null, .int 0, .null, .null, .null, .null, .int 0, .int 0, .null, .int 0, .null, .null, .null, .null, .null, .int 0, .int 0])), (q_11, .inl (c_12, 12, .inl (fun _ => 0)))] H := hP
  have hD : va_D A [(q, .inr (12, [.int 0, .int 0, .ref q_1, .int 0, .int 0, .int 0, .ref q_3, .ref q_5, .ref q_7, .int 0, .ref q_9, .null, .int 0, .null, .null, .null, .null, .int 0, .int 0, .null, .int 0, .null, .null, .null, .null, .null, .int 0, .int 0])), (q_11, .inl (c_12, 12, .inl (fun _ => 0)))] := hD
  refine W.widen (k := 6) (n := 90) (by omega) (by omega) ?_
  refine va_putF (D := (dC, dI)) (ci := 12) (v := .ref q_11) (ty := .array .int) (C := RX12) (T := TX12) (N := 28) hx hb ht uX12 tyX12 tkX12 nmX12 hown hK hP hD hS 0 rfl rfl 11 (by decide) (ht _ k_10_50) (fun _ h9 => h9) rfl hin rfl (by decide +kernel) rfl rfl (Nat.le_of_ble_eq_true rfl) dX12_init_48 (fun H locs hP hD hS => ?_)
  have hP : va_P (dC, dI) cls [(q, .inr (12, [.int 0, .int 0, .ref q_1, .int 0, .int 0, .int 0, .ref q_3, .ref q_5, .ref q_7, .int 0, .ref q_9, .ref q_11, .int 0, .null, .null, .null, .null, .int 0, .int 0, .null, .int 0, .null, .null, .null, .null, .null, .int 0, .int 0])), (q_11, .inl (c_12, 12, .inl (fun _ => 0)))] H := hP
  have hD : va_D A [(q, .inr (12, [.int 0, .int 0, .ref q_1, .int 0, .int 0, .int 0, .ref q_3, .ref q_5, .ref q_7, .int 0, .ref q_9, .ref q_11, .int 0, .null, .null, .null, .null, .int 0, .int 0, .null, .int 0, .null, .null, .null, .null, .null, .int 0, .int 0])), (q_11, .inl (c_12, 12, .inl (fun _ => 0)))] := hD
  have hP := hP.sub (ws' := [(q, .inr (12, [.int 0, .int 0, .ref q_1, .int 0, .int 0, .int 0, .ref q_3, .ref q_5, .ref q_7, .int 0, .ref q_9, .ref q_11, .int 0, .null, .null, .null, .null, .int 0, .int 0, .null, .int 0, .null, .null, .null, .null, .null, .int 0, .int 0]))]) [0] rfl
  have hD := hD.sub (ws' := [(q, .inr (12, [.int 0, .int 0, .ref q_1, .int 0, .int 0, .int 0, .ref q_3, .ref q_5, .ref q_7, .int 0, .ref q_9, .ref q_11, .int 0, .null, .null, .null, .null, .int 0, .int 0, .null, .int 0, .null, .null, .null, .null, .null, .int 0, .int 0]))]) [0] (by decide) rfl
  refine lv_aload_n hx hb dX12_init_51 rfl (lv_at hl 0 rfl) ?_
  refine lv_iconst (v := 4) hx hb dX12_init_52 (by decide) ?_
  refine va_newa (atype := .int) (ty := .int) (N' := 4) (a0 := (4, .inl (fun _ => 0))) hx hb (ht _ k_1_139) rfl hK hP hD hS hA (fun _ => rfl) (by decide) (by decide) (Nat.le_of_ble_eq_true rfl) (Nat.le_of_ble_eq_true rfl) (Nat.le_of_ble_eq_true rfl) dX12_init_53 (fun q_13 c_14 H hK hP hD hS => ?_)
  have hK : va_K (dC, dI) cls [(c_2, .int), (c_4, .int), (c_6, .int), (c_8, .int), (c_10, .int), (c_12, .int), (c_14, .int)] s := hK
  have hP : va_P (dC, dI) cls [(q, .inr (12, [.int 0, .int 0, .ref q_1, .int 0, .int 0, .int 0, .ref q_3, .ref q_5, .ref q_7, .int 0, .ref q_9, .ref q_11, .int 0, .null, .null, .null, .null, .int 0, .int 0, .null, .int 0, .null, .null, .null, .null, .null, .int 0, .int 0])), (q_13, .inl (c_14, 4, .inl (fun _ => 0)))] H := hP
  have hD : va_D A [(q, .inr (12, [.int 0, .int 0, .ref q_1, .int 0, .int 0, .int 0, .ref q_3, .ref q_5, .ref q_7, .int 0, .ref q_9, .ref q_11, .int 0, .null, .null, .null, .null, .int 0, .int 0, .null, .int 0, .null, .null, .null, .null, .null, .int 0, .int 0])), (q_13, .inl (c_14, 4, .inl (fun _ => 0)))] := hD
  refine W.widen (k := 7) (n := 94) (by omega) (by omega) ?_
  refine va_putF (D := (dC, dI)) (ci := 12) (v := .ref q_13) (ty := .array .int) (C := RX12) (T := TX12) (N := 28) hx hb ht uX12 tyX12 tkX12 nmX12 hown hK hP hD hS 0 rfl rfl 13 (by decide) (ht _ k_10_53) (fun _ h9 => h9) rfl hin rfl (by decide +kernel) rfl rfl (Nat.le_of_ble_eq_true rfl) dX12_init_55 (fun H locs hP hD hS => ?_)
  have hP : va_P (dC, dI) cls [(q, .inr (12, [.int 0, .int 0, .ref q_1, .int 0, .int 0, .int 0, .ref q_3, .ref q_5, .ref q_7, .int 0, .ref q_9, .ref q_11, .int 0, .ref q_13, .null, .null, .null, .int 0, .int 0, .null, .int 0, .null, .null, .null, .null, .null, .int 0, .int 0])), (q_13, .inl (c_14, 4, .inl (fun _ => 0)))] H := hP
  have hD : va_D A [(q, .inr (12, [.int 0, .int 0, .ref q_1, .int 0, .int 0, .int 0, .ref q_3, .ref q_5, .ref q_7, .int 0, .ref q_9, .ref q_11, .int 0, .ref q_13, .null, .null, .null, .int 0, .int 0, .null, .int 0, .null, .null, .null, .null, .null, .int 0, .int 0])), (q_13, .inl (c_14, 4, .inl (fun _ => 0)))] := hD
  have hP := hP.sub (ws' := [(q, .inr (12, [.int 0, .int 0, .ref q_1, .int 0, .int 0, .int 0, .ref q_3, .ref q_5, .ref q_7, .int 0, .ref q_9, .ref q_11, .int 0, .ref q_13, .null, .null, .null, .int 0, .int 0, .null, .int 0, .null, .null, .null, .null, .null, .int 0, .int 0]))]) [0] rfl
  have hD := hD.sub (ws' := [(q, .inr (12, [.int 0, .int 0, .ref q_1, .int 0, .int 0, .int 0, .ref q_3, .ref q_5, .ref q_7, .int 0, .ref q_9, .ref q_11, .int 0, .ref q_13, .null, .null, .null, .int 0, .int 0, .null, .int 0, .null, .null, .null, .null, .null, .int 0, .int 0]))]) [0] (by decide) rfl
  refine lv_aload_n hx hb dX12_init_58 rfl (lv_at hl 0 rfl) ?_
  refine lv_bipush (v := 8) hx hb dX12_init_59 (by decide) ?_
  refine va_newa (atype := .int) (ty := .int) (N' := 8) (a0 := (8, .inl (fun _ => 0))) hx hb (ht _ k_1_139) rfl hK hP hD hS hA (fun _ => rfl) (by decide) (by decide) (Nat.le_of_ble_eq_true rfl) (Nat.le_of_ble_eq_true rfl) (Nat.le_of_ble_eq_true rfl) dX12_init_61 (fun q_15 c_16 H hK hP hD hS => ?_)
  have hK : va_K (dC, dI) cls [(c_2, .int), (c_4, .int), (c_6, .int), (c_8, .int), (c_10, .int), (c_12, .int), (c_14, .int), (c_16, .int)] s := hK
  have hP : va_P (dC, dI) cls [(q, .inr (12, [.int 0, .int 0, .ref q_1, .int 0, .int 0, .int 0, .ref q_3, .ref q_5, .ref q_7, .int 0, .ref q_9, .ref q_11, .int 0, .ref q_13, .null, .null, .null, .int 0, .int 0, .null, .int 0, .null, .null, .null, .null, .null, .int 0, .int 0])), (q_15, .inl (c_16, 8, .inl (fun _ => 0)))] H := hP
  have hD : va_D A [(q, .inr (12, [.int 0, .int 0, .ref q_1, .int 0, .int 0, .int 0, .ref q_3, .ref q_5, .ref q_7, .int 0, .ref q_9, .ref q_11, .int 0, .ref q_13, .null, .null, .null, .int 0, .int 0, .null, .int 0, .null, .null, .null, .null, .null, .int 0, .int 0])), (q_15, .inl (c_16, 8, .inl (fun _ => 0)))] := hD
  refine W.widen (k := 8) (n := 102) (by omega) (by omega) ?_
  refine va_putF (D := (dC, dI)) (ci := 12) (v := .ref q_15) (ty := .array .int) (C := RX12) (T := TX12) (N := 28) hx hb ht uX12 tyX12 tkX12 nmX12 hown hK hP hD hS 0 rfl rfl 14 (by decide) (ht _ k_10_55) (fun _ h9 => h9) rfl hin rfl (by decide +kernel) rfl rfl (Nat.le_of_ble_eq_true rfl) dX12_init_63 (fun H locs hP hD hS => ?_)
  have hP : va_P (dC, dI) cls [(q, .inr (12, [.int 0, .int 0, .ref q_1, .int 0, .int 0, .int 0, .ref q_3, .ref q_5, .ref q_7, .int 0, .ref q_9, .ref q_11, .int 0, .ref q_13, .ref q_15, .null, .null, .int 0, .int 0, .null, .int 0, .null, .null, .null, .null, .null, .int 0, .int 0])), (q_15, .inl (c_16, 8, .inl (fun _ => 0)))] H := hP
  have hD : va_D A [(q, .inr (12, [.int 0, .int 0, .ref q_1, .int 0, .int 0, .int 0, .ref q_3, .ref q_5, .ref q_7, .int 0, .ref q_9, .ref q_11, .int 0, .ref q_13, .ref q_15, .null, .null, .int 0, .int 0, .null, .int 0, .null, .null, .null, .null, .null, .int 0, .int 0])), (q_15, .inl (c_16, 8, .inl (fun _ => 0)))] := hD
  have hP := hP.sub (ws' := [(q, .inr (12, [.int 0, .int 0, .ref q_1, .int 0, .int 0, .int 0, .ref q_3, .ref q_5, .ref q_7, .int 0, .ref q_9, .ref q_11, .int 0, .ref q_13, .ref q_15, .null, .null, .int 0, .int 0, .null, .int 0, .null, .null, .null, .null, .null, .int 0, .int 0]))]) [0] rfl
  have hD := hD.sub (ws' := [(q, .inr (12, [.int 0, .int 0, .ref q_1, .int 0, .int 0, .int 0, .ref q_3, .ref q_5, .ref q_7, .int 0, .ref q_9, .ref q_11, .int 0, .ref q_13, .ref q_15, .null, .null, .int 0, .int 0, .null, .int 0, .null, .null, .null, .null, .null, .int 0, .int 0]))]) [0] (by decide) rfl
  refine lv_aload_n hx hb dX12_init_66 rfl (lv_at hl 0 rfl) ?_
  refine lv_iconst (v := 4) hx hb dX12_init_67 (by decide) ?_
  refine va_newa (atype := .int) (ty := .int) (N' := 4) (a0 := (4, .inl (fun _ => 0))) hx hb (ht _ k_1_139) rfl hK hP hD hS hA (fun _ => rfl) (by decide) (by decide) (Nat.le_of_ble_eq_true rfl) (Nat.le_of_ble_eq_true rfl) (Nat.le_of_ble_eq_true rfl) dX12_init_68 (fun q_17 c_18 H hK hP hD hS => ?_)
  have hK : va_K (dC, dI) cls [(c_2, .int), (c_4, .int), (c_6, .int), (c_8, .int), (c_10, .int), (c_12, .int), (c_14, .int), (c_16, .int), (c_18, .int)] s := hK
  have hP : va_P (dC, dI) cls [(q, .inr (12, [.int 0, .int 0, .ref q_1, .int 0, .int 0, .int 0, .ref q_3, .ref q_5, .ref q_7, .int 0, .ref q_9, .ref q_11, .int 0, .ref q_13, .ref q_15, .null, .null, .int 0, .int 0, .null, .int 0, .null, .null, .null, .null, .null, .int 0, .int 0])), (q_17, .inl (c_18, 4, .inl (fun _ => 0)))] H := hP
  have hD : va_D A [(q, .inr (12, [.int 0, .int 0, .ref q_1, .int 0, .int 0, .int 0, .ref q_3, .ref q_5, .ref q_7, .int 0, .ref q_9, .ref q_11, .int 0, .ref q_13, .ref q_15, .null, .null, .int 0, .int 0, .null, .int 0, .null, .null, .null, .null, .null, .int 0, .int 0])), (q_17, .inl (c_18, 4, .inl (fun _ => 0)))] := hD
  refine W.widen (k := 9) (n := 106) (by omega) (by omega) ?_
  refine va_putF (D := (dC, dI)) (ci := 12) (v := .ref q_17) (ty := .array .int) (C := RX12) (T := TX12) (N := 28) hx hb ht uX12 tyX12 tkX12 nmX12 hown hK hP hD hS 0 rfl rfl 15 (by decide) (ht _ k_10_57) (fun _ h9 => h9) rfl hin rfl (by decide +kernel) rfl rfl (Nat.le_of_ble_eq_true rfl) dX12_init_70 (fun H locs hP hD hS => ?_)
  have hP : va_P (dC, dI) cls [(q, .inr (12, [.int 0, .int 0, .ref q_1, .int 0, .int 0, .int 0, .ref q_3, .ref q_5, .ref q_7, .int 0, .ref q_9, .ref q_11, .int 0, .ref q_13, .ref q_15, .ref q_17, .null, .int 0, .int 0, .null, .int 0, .null, .null, .null, .null, .null, .int 0, .int 0])), (q_17, .inl (c_18, 4, .inl (fun _ => 0)))] H := hP
  have hD : va_D A [(q, .inr (12, [.int 0, .int 0, .ref q_1, .int 0, .int 0, .int 0, .ref q_3, .ref q_5, .ref q_7, .int 0, .ref q_9, .ref q_11, .int 0, .ref q_13, .ref q_15, .ref q_17, .null, .int 0, .int 0, .null, .int 0, .null, .null, .null, .null, .null, .int 0, .int 0])), (q_17, .inl (c_18, 4, .inl (fun _ => 0)))] := hD
  have hP := hP.sub (ws' := [(q, .inr (12, [.int 0, .int 0, .ref q_1, .int 0, .int 0, .int 0, .ref q_3, .ref q_5, .ref q_7, .int 0, .ref q_9, .ref q_11, .int 0, .ref q_13, .ref q_15, .ref q_17, .null, .int 0, .int 0, .null, .int 0, .null, .null, .null, .null, .null, .int 0, .int 0]))]) [0] rfl
  have hD := hD.sub (ws' := [(q, .inr (12, [.int 0, .int 0, .ref q_1, .int 0, .int 0, .int 0, .ref q_3, .ref q_5, .ref q_7, .int 0, .ref q_9, .ref q_11, .int 0, .ref q_13, .ref q_15, .ref q_17, .null, .int 0, .int 0, .null, .int 0, .null, .null, .null, .null, .null, .int 0, .int 0]))]) [0] (by decide) rfl
  refine lv_aload_n hx hb dX12_init_73 rfl (lv_at hl 0 rfl) ?_
  refine lv_iconst (v := 4) hx hb dX12_init_74 (by decide) ?_
  refine va_newa (atype := .int) (ty := .int) (N' := 4) (a0 := (4, .inl (fun _ => 0))) hx hb (ht _ k_1_139) rfl hK hP hD hS hA (fun _ => rfl) (by decide) (by decide) (Nat.le_of_ble_eq_true rfl) (Nat.le_of_ble_eq_true rfl) (Nat.le_of_ble_eq_true rfl) dX12_init_75 (fun q_19 c_20 H hK hP hD hS => ?_)
  have hK : va_K (dC, dI) cls [(c_2, .int), (c_4, .int), (c_6, .int), (c_8, .int), (c_10, .int), (c_12, .int), (c_14, .int), (c_16, .int), (c_18, .int), (c_20, .int)] s := hK
  have hP : va_P (dC, dI) cls [(q, .inr (12, [.int 0, .int 0, .ref q_1, .int 0, .int 0, .int 0, .ref q_3, .ref q_5, .ref q_7, .int 0, .ref q_9, .ref q_11, .int 0, .ref q_13, .ref q_15, .ref q_17, .null, .int 0, .int 0, .null, .int 0, .null, .null, .null, .null, .null, .int 0, .int 0])), (q_19, .inl (c_20, 4, .inl (fun _ => 0)))] H := hP
  have hD : va_D A [(q, .inr (12, [.int 0, .int 0, .ref q_1, .int 0, .int 0, .int 0, .ref q_3, .ref q_5, .ref q_7, .int 0, .ref q_9, .ref q_11, .int 0, .ref q_13, .ref q_15, .ref q_17, .null, .int 0, .int 0, .null, .int 0, .null, .null, .null, .null, .null, .int 0, .int 0])), (q_19, .inl (c_20, 4, .inl (fun _ => 0)))] := hD
  refine W.widen (k := 10) (n := 110) (by omega) (by omega) ?_
  refine va_putF (D := (dC, dI)) (ci := 12) (v := .ref q_19) (ty := .array .int) (C := RX12) (T := TX12) (N := 28) hx hb ht uX12 tyX12 tkX12 nmX12 hown hK hP hD hS 0 rfl rfl 16 (by decide) (ht _ k_10_59) (fun _ h9 => h9) rfl hin rfl (by decide +kernel) rfl rfl (Nat.le_of_ble_eq_true rfl) dX12_init_77 (fun H locs hP hD hS => ?_)
  have hP : va_P (dC, dI) cls [(q, .inr (12, [.int 0, .int 0, .ref q_1, .int 0, .int 0, .int 0, .ref q_3, .ref q_5, .ref q_7, .int 0, .ref q_9, .ref q_11, .int 0, .ref q_13, .ref q_15, .ref q_17, .ref q_19, .int 0, .int 0, .null, .int 0, .null, .null, .null, .null, .null, .int 0, .int 0])), (q_19, .inl (c_20, 4, .inl (fun _ => 0)))] H := hP
  have hD : va_D A [(q, .inr (12, [.int 0, .int 0, .ref q_1, .int 0, .int 0, .int 0, .ref q_3, .ref q_5, .ref q_7, .int 0, .ref q_9, .ref q_11, .int 0, .ref q_13, .ref q_15, .ref q_17, .ref q_19, .int 0, .int 0, .null, .int 0, .null, .null, .null, .null, .null, .int 0, .int 0])), (q_19, .inl (c_20, 4, .inl (fun _ => 0)))] := hD
  have hP := hP.sub (ws' := [(q, .inr (12, [.int 0, .int 0, .ref q_1, .int 0, .int 0, .int 0, .ref q_3, .ref q_5, .ref q_7, .int 0, .ref q_9, .ref q_11, .int 0, .ref q_13, .ref q_15, .ref q_17, .ref q_19, .int 0, .int 0, .null, .int 0, .null, .null, .null, .null, .null, .int 0, .int 0]))]) [0] rfl
  have hD := hD.sub (ws' := [(q, .inr (12, [.int 0, .int 0, .ref q_1, .int 0, .int 0, .int 0, .ref q_3, .ref q_5, .ref q_7, .int 0, .ref q_9, .ref q_11, .int 0, .ref q_13, .ref q_15, .ref q_17, .ref q_19, .int 0, .int 0, .null, .int 0, .null, .null, .null, .null, .null, .int 0, .int 0]))]) [0] (by decide) rfl
  refine lv_aload_n hx hb dX12_init_80 rfl (lv_at hl 0 rfl) ?_
  refine lv_sipush (v := 768) hx hb dX12_init_81 (by decide) ?_
  refine va_newa (atype := .int) (ty := .int) (N' := 768) (a0 := (768, .inl (fun _ => 0))) hx hb (ht _ k_1_139) rfl hK hP hD hS hA (fun _ => rfl) (by decide) (by decide) (Nat.le_of_ble_eq_true rfl) (Nat.le_of_ble_eq_true rfl) (Nat.le_of_ble_eq_true rfl) dX12_init_84 (fun q_21 c_22 H hK hP hD hS => ?_)
  have hK : va_K (dC, dI) cls [(c_2, .int), (c_4, .int), (c_6, .int), (c_8, .int), (c_10, .int), (c_12, .int), (c_14, .int), (c_16, .int), (c_18, .int), (c_20, .int), (c_22, .int)] s := hK
  have hP : va_P (dC, dI) cls [(q, .inr (12, [.int 0, .int 0, .ref q_1, .int 0, .int 0, .int 0, .ref q_3, .ref q_5, .ref q_7, .int 0, .ref q_9, .ref q_11, .int 0, .ref q_13, .ref q_15, .ref q_17, .ref q_19, .int 0, .int 0, .null, .int 0, .null, .null, .null, .null, .null, .int 0, .int 0])), (q_21, .inl (c_22, 768, .inl (fun _ => 0)))] H := hP
  have hD : va_D A [(q, .inr (12, [.int 0, .int 0, .ref q_1, .int 0, .int 0, .int 0, .ref q_3, .ref q_5, .ref q_7, .int 0, .ref q_9, .ref q_11, .int 0, .ref q_13, .ref q_15, .ref q_17, .ref q_19, .int 0, .int 0, .null, .int 0, .null, .null, .null, .null, .null, .int 0, .int 0])), (q_21, .inl (c_22, 768, .inl (fun _ => 0)))] := hD
  refine W.widen (k := 11) (n := 878) (by omega) (by omega) ?_
  refine va_putF (D := (dC, dI)) (ci := 12) (v := .ref q_21) (ty := .array .int) (C := RX12) (T := TX12) (N := 28) hx hb ht uX12 tyX12 tkX12 nmX12 hown hK hP hD hS 0 rfl rfl 19 (by decide) (ht _ k_10_63) (fun _ h9 => h9) rfl hin rfl (by decide +kernel) rfl rfl (Nat.le_of_ble_eq_true rfl) dX12_init_86 (fun H locs hP hD hS => ?_)
  have hP : va_P (dC, dI) cls [(q, .inr (12, [.int 0, .int 0, .ref q_1, .int 0, .int 0, .int 0, .ref q_3, .ref q_5, .ref q_7, .int 0, .ref q_9, .ref q_11, .int 0, .ref q_13, .ref q_15, .ref q_17, .ref q_19, .int 0, .int 0, .ref q_21, .int 0, .null, .null, .null, .null, .null, .int 0, .int 0])), (q_21, .inl (c_22, 768, .inl (fun _ => 0)))] H := hP
  have hD : va_D A [(q, .inr (12, [.int 0, .int 0, .ref q_1, .int 0, .int 0, .int 0, .ref q_3, .ref q_5, .ref q_7, .int 0, .ref q_9, .ref q_11, .int 0, .ref q_13, .ref q_15, .ref q_17, .ref q_19, .int 0, .int 0, .ref q_21, .int 0, .null, .null, .null, .null, .null, .int 0, .int 0])), (q_21, .inl (c_22, 768, .inl (fun _ => 0)))] := hD
  refine lv_aload_n hx hb dX12_init_89 rfl (lv_at hl 0 rfl) ?_
  refine lv_bipush (v := 122) hx hb dX12_init_90 (by decide) ?_
  refine va_newa (atype := .int) (ty := .int) (N' := 122) (a0 := (122, .inl (fun _ => 0))) hx hb (ht _ k_1_139) rfl hK hP hD hS hA (fun _ => rfl) (by decide) (by decide) (Nat.le_of_ble_eq_true rfl) (Nat.le_of_ble_eq_true rfl) (Nat.le_of_ble_eq_true rfl) dX12_init_92 (fun q_23 c_24 H hK hP hD hS => ?_)
  have hK : va_K (dC, dI) cls [(c_2, .int), (c_4, .int), (c_6, .int), (c_8, .int), (c_10, .int), (c_12, .int), (c_14, .int), (c_16, .int), (c_18, .int), (c_20, .int), (c_22, .int), (c_24, .int)] s := hK
  have hP : va_P (dC, dI) cls [(q, .inr (12, [.int 0, .int 0, .ref q_1, .int 0, .int 0, .int 0, .ref q_3, .ref q_5, .ref q_7, .int 0, .ref q_9, .ref q_11, .int 0, .ref q_13, .ref q_15, .ref q_17, .ref q_19, .int 0, .int 0, .ref q_21, .int 0, .null, .null, .null, .null, .null, .int 0, .int 0])), (q_21, .inl (c_22, 768, .inl (fun _ => 0))), (q_23, .inl (c_24, 122, .inl (fun _ => 0)))] H := hP
  have hD : va_D A [(q, .inr (12, [.int 0, .int 0, .ref q_1, .int 0, .int 0, .int 0, .ref q_3, .ref q_5, .ref q_7, .int 0, .ref q_9, .ref q_11, .int 0, .ref q_13, .ref q_15, .ref q_17, .ref q_19, .int 0, .int 0, .ref q_21, .int 0, .null, .null, .null, .null, .null, .int 0, .int 0])), (q_21, .inl (c_22, 768, .inl (fun _ => 0))), (q_23, .inl (c_24, 122, .inl (fun _ => 0)))] := hD
  refine W.widen (k := 12) (n := 1000) (by omega) (by omega) ?_
  refine va_putF (D := (dC, dI)) (ci := 12) (v := .ref q_23) (ty := .array .int) (C := RX12) (T := TX12) (N := 28) hx hb ht uX12 tyX12 tkX12 nmX12 hown hK hP hD hS 0 rfl rfl 21 (by decide) (ht _ k_10_66) (fun _ h9 => h9) rfl hin rfl (by decide +kernel) rfl rfl (Nat.le_of_ble_eq_true rfl) dX12_init_94 (fun H locs hP hD hS => ?_)
  have hP : va_P (dC, dI) cls [(q, .inr (12, [.int 0, .int 0, .ref q_1, .int 0, .int 0, .int 0, .ref q_3, .ref q_5, .ref q_7, .int 0, .ref q_9, .ref q_11, .int 0, .ref q_13, .ref q_15, .ref q_17, .ref q_19, .int 0, .int 0, .ref q_21, .int 0, .ref q_23, .null, .null, .null, .null, .int 0, .int 0])), (q_21, .inl (c_22, 768, .inl (fun _ => 0))), (q_23, .inl (c_24, 122, .inl (fun _ => 0)))] H := hP
  have hD : va_D A [(q, .inr (12, [.int 0, .int 0, .ref q_1, .int 0, .int 0, .int 0, .ref q_3, .ref q_5, .ref q_7, .int 0, .ref q_9, .ref q_11, .int 0, .ref q_13, .ref q_15, .ref q_17, .ref q_19, .int 0, .int 0, .ref q_21, .int 0, .ref q_23, .null, .null, .null, .null, .int 0, .int 0])), (q_21, .inl (c_22, 768, .inl (fun _ => 0))), (q_23, .inl (c_24, 122, .inl (fun _ => 0)))] := hD
  have hP := hP.sub (ws' := [(q, .inr (12, [.int 0, .int 0, .ref q_1, .int 0, .int 0, .int 0, .ref q_3, .ref q_5, .ref q_7, .int 0, .ref q_9, .ref q_11, .int 0, .ref q_13, .ref q_15, .ref q_17, .ref q_19, .int 0, .int 0, .ref q_21, .int 0, .ref q_23, .null, .null, .null, .null, .int 0, .int 0])), (q_21, .inl (c_22, 768, .inl (fun _ => 0)))]) [0, 1] rfl
  have hD := hD.sub (ws' := [(q, .inr (12, [.int 0, .int 0, .ref q_1, .int 0, .int 0, .int 0, .ref q_3, .ref q_5, .ref q_7, .int 0, .ref q_9, .ref q_11, .int 0, .ref q_13, .ref q_15, .ref q_17, .ref q_19, .int 0, .int 0, .ref q_21, .int 0, .ref q_23, .null, .null, .null, .null, .int 0, .int 0])), (q_21, .inl (c_22, 768, .inl (fun _ => 0)))]) [0, 1] (by decide) rfl
  refine lv_aload_n hx hb dX12_init_97 rfl (lv_at hl 0 rfl) ?_
  refine lv_bipush (v := 122) hx hb dX12_init_98 (by decide) ?_
  refine va_newa (atype := .int) (ty := .int) (N' := 122) (a0 := (122, .inl (fun _ => 0))) hx hb (ht _ k_1_139) rfl hK hP hD hS hA (fun _ => rfl) (by decide) (by decide) (Nat.le_of_ble_eq_true rfl) (Nat.le_of_ble_eq_true rfl) (Nat.le_of_ble_eq_true rfl) dX12_init_100 (fun q_25 c_26 H hK hP hD hS => ?_)
  have hK : va_K (dC, dI) cls [(c_2, .int), (c_4, .int), (c_6, .int), (c_8, .int), (c_10, .int), (c_12, .int), (c_14, .int), (c_16, .int), (c_18, .int), (c_20, .int), (c_22, .int), (c_24, .int), (c_26, .int)] s := hK
  have hP : va_P (dC, dI) cls [(q, .inr (12, [.int 0, .int 0, .ref q_1, .int 0, .int 0, .int 0, .ref q_3, .ref q_5, .ref q_7, .int 0, .ref q_9, .ref q_11, .int 0, .ref q_13, .ref q_15, .ref q_17, .ref q_19, .int 0, .int 0, .ref q_21, .int 0, .ref q_23, .null, .null, .null, .null, .int 0, .int 0])), (q_21, .inl (c_22, 768, .inl (fun _ => 0))), (q_25, .inl (c_26, 122, .inl (fun _ => 0)))] H := hP
  have hD : va_D A [(q, .inr (12, [.int 0, .int 0, .ref q_1, .int 0, .int 0, .int 0, .ref q_3, .ref q_5, .ref q_7, .int 0, .ref q_9, .ref q_11, .int 0, .ref q_13, .ref q_15, .ref q_17, .ref q_19, .int 0, .int 0, .ref q_21, .int 0, .ref q_23, .null, .null, .null, .null, .int 0, .int 0])), (q_21, .inl (c_22, 768, .inl (fun _ => 0))), (q_25, .inl (c_26, 122, .inl (fun _ => 0)))] := hD
  refine W.widen (k := 13) (n := 1122) (by omega) (by omega) ?_
  refine va_putF (D := (dC, dI)) (ci := 12) (v := .ref q_25) (ty := .array .int) (C := RX12) (T := TX12) (N := 28) hx hb ht uX12 tyX12 tkX12 nmX12 hown hK hP hD hS 0 rfl rfl 22 (by decide) (ht _ k_10_68) (fun _ h9 => h9) rfl hin rfl (by decide +kernel) rfl rfl (Nat.le_of_ble_eq_true rfl) dX12_init_102 (fun H locs hP hD hS => ?_)
  have hP : va_P (dC, dI) cls [(q, .inr (12, [.int 0, .int 0, .ref q_1, .int 0, .int 0, .int 0, .ref q_3, .ref q_5, .ref q_7, .int 0, .ref q_9, .ref q_11, .int 0, .ref q_13, .ref q_15, .ref q_17, .ref q_19, .int 0, .int 0, .ref q_21, .int 0, .ref q_23, .ref q_25, .null, .null, .null, .int 0, .int 0])), (q_21, .inl (c_22, 768, .inl (fun _ => 0))), (q_25, .inl (c_26, 122, .inl (fun _ => 0)))] H := hP
  have hD : va_D A [(q, .inr (12, [.int 0, .int 0, .ref q_1, .int 0, .int 0, .int 0, .ref q_3, .ref q_5, .ref q_7, .int 0, .ref q_9, .ref q_11, .int 0, .ref q_13, .ref q_15, .ref q_17, .ref q_19, .int 0, .int 0, .ref q_21, .int 0, .ref q_23, .ref q_25, .null, .null, .null, .int 0, .int 0])), (q_21, .inl (c_22, 768, .inl (fun _ => 0))), (q_25, .inl (c_26, 122, .inl (fun _ => 0)))] := hD
  have hP := hP.sub (ws' := [(q, .inr (12, [.int 0, .int 0, .ref q_1, .int 0, .int 0, .int 0, .ref q_3, .ref q_5, .ref q_7, .int 0, .ref q_9, .ref q_11, .int 0, .ref q_13, .ref q_15, .ref q_17, .ref q_19, .int 0, .int 0, .ref q_21, .int 0, .ref q_23, .ref q_25, .null, .null, .null, .int 0, .int 0])), (q_21, .inl (c_22, 768, .inl (fun _ => 0)))]) [0, 1] rfl
  have hD := hD.sub (ws' := [(q, .inr (12, [.int 0, .int 0, .ref q_1, .int 0, .int 0, .int 0, .ref q_3, .ref q_5, .ref q_7, .int 0, .ref q_9, .ref q_11, .int 0, .ref q_13, .ref q_15, .ref q_17, .ref q_19, .int 0, .int 0, .ref q_21, .int 0, .ref q_23, .ref q_25, .null, .null, .null, .int 0, .int 0])), (q_21, .inl (c_22, 768, .inl (fun _ => 0)))]) [0, 1] (by decide) rfl
  refine lv_aload_n hx hb dX12_init_105 rfl (lv_at hl 0 rfl) ?_
  refine lv_bipush (v := 122) hx hb dX12_init_106 (by decide) ?_
  refine va_newa (atype := .int) (ty := .int) (N' := 122) (a0 := (122, .inl (fun _ => 0))) hx hb (ht _ k_1_139) rfl hK hP hD hS hA (fun _ => rfl) (by decide) (by decide) (Nat.le_of_ble_eq_true rfl) (Nat.le_of_ble_eq_true rfl) (Nat.le_of_ble_eq_true rfl) dX12_init_108 (fun q_27 c_28 H hK hP hD hS => ?_)
  have hK : va_K (dC, dI) cls [(c_2, .int), (c_4, .int), (c_6, .int), (c_8, .int), (c_10, .int), (c_12, .int), (c_14, .int), (c_16, .int), (c_18, .int), (c_20, .int), (c_22, .int), (c_24, .int), (c_26, .int), (c_28, .int)] s := hK
  have hP : va_P (dC, dI) cls [(q, .inr (12, [.int 0, .int 0, .ref q_1, .int 0, .int 0, .int 0, .ref q_3, .ref q_5, .ref q_7, .int 0, .ref q_9, .ref q_11, .int 0, .ref q_13, .ref q_15, .ref q_17, .ref q_19, .int 0, .int 0, .ref q_21, .int 0, .ref q_23, .ref q_25, .null, .null, .null, .int 0, .int 0])), (q_21, .inl (c_22, 768, .inl (fun _ => 0))), (q_27, .inl (c_28, 122, .inl (fun _ => 0)))] H := hP
  have hD : va_D A [(q, .inr (12, [.int 0, .int 0, .ref q_1, .int 0, .int 0, .int 0, .ref q_3, .ref q_5, .ref q_7, .int 0, .ref q_9, .ref q_11, .int 0, .ref q_13, .ref q_15, .ref q_17, .ref q_19, .int 0, .int 0, .ref q_21, .int 0, .ref q_23, .ref q_25, .null, .null, .null, .int 0, .int 0])), (q_21, .inl (c_22, 768, .inl (fun _ => 0))), (q_27, .inl (c_28, 122, .inl (fun _ => 0)))] := hD
  refine W.widen (k := 14) (n := 1244) (by omega) (by omega) ?_
  refine va_putF (D := (dC, dI)) (ci := 12) (v := .ref q_27) (ty := .array .int) (C := RX12) (T := TX12) (N := 28) hx hb ht uX12 tyX12 tkX12 nmX12 hown hK hP hD hS 0 rfl rfl 23 (by decide) (ht _ k_10_70) (fun _ h9 => h9) rfl hin rfl (by decide +kernel) rfl rfl (Nat.le_of_ble_eq_true rfl) dX12_init_110 (fun H locs hP hD hS => ?_)
  have hP : va_P (dC, dI) cls [(q, .inr (12, [.int 0, .int 0, .ref q_1, .int 0, .int 0, .int 0, .ref q_3, .ref q_5, .ref q_7, .int 0, .ref q_9, .ref q_11, .int 0, .ref q_13, .ref q_15, .ref q_17, .ref q_19, .int 0, .int 0, .ref q_21, .int 0, .ref q_23, .ref q_25, .ref q_27, .null, .null, .int 0, .int 0])), (q_21, .inl (c_22, 768, .inl (fun _ => 0))), (q_27, .inl (c_28, 122, .inl (fun _ => 0)))] H := hP
  have hD : va_D A [(q, .inr (12, [.int 0, .int 0, .ref q_1, .int 0, .int 0, .int 0, .ref q_3, .ref q_5, .ref q_7, .int 0, .ref q_9, .ref q_11, .int 0, .ref q_13, .ref q_15, .ref q_17, .ref q_19, .int 0, .int 0, .ref q_21, .int 0, .ref q_23, .ref q_25, .ref q_27, .null, .null, .int 0, .int 0])), (q_21, .inl (c_22, 768, .inl (fun _ => 0))), (q_27, .inl (c_28, 122, .inl (fun _ => 0)))] := hD
  have hP := hP.sub (ws' := [(q, .inr (12, [.int 0, .int 0, .ref q_1, .int 0, .int 0, .int 0, .ref q_3, .ref q_5, .ref q_7, .int 0, .ref q_9, .ref q_11, .int 0, .ref q_13, .ref q_15, .ref q_17, .ref q_19, .int 0, .int 0, .ref q_21, .int 0, .ref q_23, .ref q_25, .ref q_27, .null, .null, .int 0, .int 0])), (q_21, .inl (c_22, 768, .inl (fun _ => 0)))]) [0, 1] rfl
  have hD := hD.sub (ws' := [(q, .inr (12, [.int 0, .int 0, .ref q_1, .int 0, .int 0, .int 0, .ref q_3, .ref q_5, .ref q_7, .int 0, .ref q_9, .ref q_11, .int 0, .ref q_13, .ref q_15, .ref q_17, .ref q_19, .int 0, .int 0, .ref q_21, .int 0, .ref q_23, .ref q_25, .ref q_27, .null, .null, .int 0, .int 0])), (q_21, .inl (c_22, 768, .inl (fun _ => 0)))]) [0, 1] (by decide) rfl
  refine lv_aload_n hx hb dX12_init_113 rfl (lv_at hl 0 rfl) ?_
  refine lv_bipush (v := 122) hx hb dX12_init_114 (by decide) ?_
  refine va_newa (atype := .int) (ty := .int) (N' := 122) (a0 := (122, .inl (fun _ => 0))) hx hb (ht _ k_1_139) rfl hK hP hD hS hA (fun _ => rfl) (by decide) (by decide) (Nat.le_of_ble_eq_true rfl) (Nat.le_of_ble_eq_true rfl) (Nat.le_of_ble_eq_true rfl) dX12_init_116 (fun q_29 c_30 H hK hP hD hS => ?_)
  have hK : va_K (dC, dI) cls [(c_2, .int), (c_4, .int), (c_6, .int), (c_8, .int), (c_10, .int), (c_12, .int), (c_14, .int), (c_16, .int), (c_18, .int), (c_20, .int), (c_22, .int), (c_24, .int), (c_26, .int), (c_28, .int), (c_30, .int)] s := hK
  have hP : va_P (dC, dI) cls [(q, .inr (12, [.int 0, .int 0, .ref q_1, .int 0, .int 0, .int 0, .ref q_3, .ref q_5, .ref q_7, .int 0, .ref q_9, .ref q_11, .int 0, .ref q_13, .ref q_15, .ref q_17, .ref q_19, .int 0, .int 0, .ref q_21, .int 0, .ref q_23, .ref q_25, .ref q_27, .null, .null, .int 0, .int 0])), (q_21, .inl (c_22, 768, .inl (fun _ => 0))), (q_29, .inl (c_30, 122, .inl (fun _ => 0)))] H := hP
  have hD : va_D A [(q, .inr (12, [.int 0, .int 0, .ref q_1, .int 0, .int 0, .int 0, .ref q_3, .ref q_5, .ref q_7, .int 0, .ref q_9, .ref q_11, .int 0, .ref q_13, .ref q_15, .ref q_17, .ref q_19, .int 0, .int 0, .ref q_21, .int 0, .ref q_23, .ref q_25, .ref q_27, .null, .null, .int 0, .int 0])), (q_21, .inl (c_22, 768, .inl (fun _ => 0))), (q_29, .inl (c_30, 122, .inl (fun _ => 0)))] := hD
  refine W.widen (k := 15) (n := 1366) (by omega) (by omega) ?_
  refine va_putF (D := (dC, dI)) (ci := 12) (v := .ref q_29) (ty := .array .int) (C := RX12) (T := TX12) (N := 28) hx hb ht uX12 tyX12 tkX12 nmX12 hown hK hP hD hS 0 rfl rfl 24 (by decide) (ht _ k_10_72) (fun _ h9 => h9) rfl hin rfl (by decide +kernel) rfl rfl (Nat.le_of_ble_eq_true rfl) dX12_init_118 (fun H locs hP hD hS => ?_)
  have hP : va_P (dC, dI) cls [(q, .inr (12, [.int 0, .int 0, .ref q_1, .int 0, .int 0, .int 0, .ref q_3, .ref q_5, .ref q_7, .int 0, .ref q_9, .ref q_11, .int 0, .ref q_13, .ref q_15, .ref q_17, .ref q_19, .int 0, .int 0, .ref q_21, .int 0, .ref q_23, .ref q_25, .ref q_27, .ref q_29, .null, .int 0, .int 0])), (q_21, .inl (c_22, 768, .inl (fun _ => 0))), (q_29, .inl (c_30, 122, .inl (fun _ => 0)))] H := hP
  have hD : va_D A [(q, .inr (12, [.int 0, .int 0, .ref q_1, .int 0, .int 0, .int 0, .ref q_3, .ref q_5, .ref q_7, .int 0, .ref q_9, .ref q_11, .int 0, .ref q_13, .ref q_15, .ref q_17, .ref q_19, .int 0, .int 0, .ref q_21, .int 0, .ref q_23, .ref q_25, .ref q_27, .ref q_29, .null, .int 0, .int 0])), (q_21, .inl (c_22, 768, .inl (fun _ => 0))), (q_29, .inl (c_30, 122, .inl (fun _ => 0)))] := hD
  refine lv_aload_n hx hb dX12_init_121 rfl (lv_at hl 0 rfl) ?_
  refine lv_bipush (v := 122) hx hb dX12_init_122 (by decide) ?_
  refine lv_sipush (v := 256) hx hb dX12_init_124 (by decide) ?_
  refine va_mna (X := [(q, .inr (12, [.int 0, .int 0, .ref q_1, .int 0, .int 0, .int 0, .ref q_3, .ref q_5, .ref q_7, .int 0, .ref q_9, .ref q_11, .int 0, .ref q_13, .ref q_15, .ref q_17, .ref q_19, .int 0, .int 0, .ref q_21, .int 0, .ref q_23, .ref q_25, .ref q_27, .ref q_29, .null, .int 0, .int 0])), (q_21, .inl (c_22, 768, .inl (fun _ => 0))), (q_29, .inl (c_30, 122, .inl (fun _ => 0)))]) (L := []) (f := fun _ => .inr (0, [])) (ty := .int) (cy := c_2) (N' := 122) (K' := 256) (z := (256, .inl (fun _ => 0))) hx hb hown (mna_int (ht _ k_10_30)) (xf_a hE 0 rfl) (ht _ k_1_139) (hK.2 0 (c_2, .int) rfl).2 hK hP hD hS hA (by decide) (by decide) (by decide) (by decide) (Nat.le_of_ble_eq_true rfl) (Nat.le_of_ble_eq_true rfl) (Nat.le_of_ble_eq_true rfl) rfl rfl (Nat.le_of_ble_eq_true rfl) (Nat.le_of_ble_eq_true rfl) (fun _ => rfl) dX12_init_127 (fun q_31 r_32 c_33 H hr1 hr2 hK hP hD hS => ?_)
  have hK : va_K (dC, dI) cls [(c_2, .int), (c_4, .int), (c_6, .int), (c_8, .int), (c_10, .int), (c_12, .int), (c_14, .int), (c_16, .int), (c_18, .int), (c_20, .int), (c_22, .int), (c_24, .int), (c_26, .int), (c_28, .int), (c_30, .int), (c_33, .array .int)] s := hK
  have hP := lft_P hP
  have hD := lft_D hD
  have hP : va_P (dC, dI) cls [(q, .inr (12, [.int 0, .int 0, .ref q_1, .int 0, .int 0, .int 0, .ref q_3, .ref q_5, .ref q_7, .int 0, .ref q_9, .ref q_11, .int 0, .ref q_13, .ref q_15, .ref q_17, .ref q_19, .int 0, .int 0, .ref q_21, .int 0, .ref q_23, .ref q_25, .ref q_27, .ref q_29, .null, .int 0, .int 0])), (q_21, .inl (c_22, 768, .inl (fun _ => 0))), (q_29, .inl (c_30, 122, .inl (fun _ => 0))), (q_31, .inl (c_33, 122, .inr (.inr (.inr (.inr (fun i => if i < 122 then some (r_32 i) else none))))))] H := hP
  have hD : va_D A [(q, .inr (12, [.int 0, .int 0, .ref q_1, .int 0, .int 0, .int 0, .ref q_3, .ref q_5, .ref q_7, .int 0, .ref q_9, .ref q_11, .int 0, .ref q_13, .ref q_15, .ref q_17, .ref q_19, .int 0, .int 0, .ref q_21, .int 0, .ref q_23, .ref q_25, .ref q_27, .ref q_29, .null, .int 0, .int 0])), (q_21, .inl (c_22, 768, .inl (fun _ => 0))), (q_29, .inl (c_30, 122, .inl (fun _ => 0))), (q_31, .inl (c_33, 122, .inr (.inr (.inr (.inr (fun i => if i < 122 then some (r_32 i) else none))))))] := hD
  refine W.widen (k := 138) (n := 32720) (by omega) (by omega) ?_
  refine va_putF (D := (dC, dI)) (ci := 12) (v := .ref q_31) (ty := .array (.array .int)) (C := RX12) (T := TX12) (N := 28) hx hb ht uX12 tyX12 tkX12 nmX12 hown hK hP hD hS 0 rfl rfl 25 (by decide) (ht _ k_10_74) (fun _ h9 => h9) rfl hin rfl (by decide +kernel) rfl rfl (Nat.le_of_ble_eq_true rfl) dX12_init_131 (fun H locs hP hD hS => ?_)
  have hP : va_P (dC, dI) cls [(q, .inr (12, [.int 0, .int 0, .ref q_1, .int 0, .int 0, .int 0, .ref q_3, .ref q_5, .ref q_7, .int 0, .ref q_9, .ref q_11, .int 0, .ref q_13, .ref q_15, .ref q_17, .ref q_19, .int 0, .int 0, .ref q_21, .int 0, .ref q_23, .ref q_25, .ref q_27, .ref q_29, .ref q_31, .int 0, .int 0])), (q_21, .inl (c_22, 768, .inl (fun _ => 0))), (q_29, .inl (c_30, 122, .inl (fun _ => 0))), (q_31, .inl (c_33, 122, .inr (.inr (.inr (.inr (fun i => if i < 122 then some (r_32 i) else none))))))] H := hP
  have hD : va_D A [(q, .inr (12, [.int 0, .int 0, .ref q_1, .int 0, .int 0, .int 0, .ref q_3, .ref q_5, .ref q_7, .int 0, .ref q_9, .ref q_11, .int 0, .ref q_13, .ref q_15, .ref q_17, .ref q_19, .int 0, .int 0, .ref q_21, .int 0, .ref q_23, .ref q_25, .ref q_27, .ref q_29, .ref q_31, .int 0, .int 0])), (q_21, .inl (c_22, 768, .inl (fun _ => 0))), (q_29, .inl (c_30, 122, .inl (fun _ => 0))), (q_31, .inl (c_33, 122, .inr (.inr (.inr (.inr (fun i => if i < 122 then some (r_32 i) else none))))))] := hD
  have hP := hP.sub (ws' := [(q, .inr (12, [.int 0, .int 0, .ref q_1, .int 0, .int 0, .int 0, .ref q_3, .ref q_5, .ref q_7, .int 0, .ref q_9, .ref q_11, .int 0, .ref q_13, .ref q_15, .ref q_17, .ref q_19, .int 0, .int 0, .ref q_21, .int 0, .ref q_23, .ref q_25, .ref q_27, .ref q_29, .ref q_31, .int 0, .int 0])), (q_21, .inl (c_22, 768, .inl (fun _ => 0))), (q_29, .inl (c_30, 122, .inl (fun _ => 0)))]) [0, 1, 2] rfl
  have hD := hD.sub (ws' := [(q, .inr (12, [.int 0, .int 0, .ref q_1, .int 0, .int 0, .int 0, .ref q_3, .ref q_5, .ref q_7, .int 0, .ref q_9, .ref q_11, .int 0, .ref q_13, .ref q_15, .ref q_17, .ref q_19, .int 0, .int 0, .ref q_21, .int 0, .ref q_23, .ref q_25, .ref q_27, .ref q_29, .ref q_31, .int 0, .int 0])), (q_21, .inl (c_22, 768, .inl (fun _ => 0))), (q_29, .inl (c_30, 122, .inl (fun _ => 0)))]) [0, 1, 2] (by decide) rfl
  refine lv_aload_n hx hb dX12_init_134 rfl (lv_at hl 0 rfl) ?_
  refine lv_iload_n hx hb dX12_init_135 rfl (lv_at hl 1 rfl) ?_
  refine va_putF (D := (dC, dI)) (ci := 12) (v := .int p0) (ty := .int) (C := RX12) (T := TX12) (N := 28) hx hb ht uX12 tyX12 tkX12 nmX12 hown hK hP hD hS 0 rfl rfl 0 (by decide) (ht _ k_10_32) (fun _ h9 => h9) rfl hin rfl (by decide +kernel) rfl rfl (Nat.le_of_ble_eq_true rfl) dX12_init_136 (fun H locs hP hD hS => ?_)
  have hP : va_P (dC, dI) cls [(q, .inr (12, [.int p0, .int 0, .ref q_1, .int 0, .int 0, .int 0, .ref q_3, .ref q_5, .ref q_7, .int 0, .ref q_9, .ref q_11, .int 0, .ref q_13, .ref q_15, .ref q_17, .ref q_19, .int 0, .int 0, .ref q_21, .int 0, .ref q_23, .ref q_25, .ref q_27, .ref q_29, .ref q_31, .int 0, .int 0])), (q_21, .inl (c_22, 768, .inl (fun _ => 0))), (q_29, .inl (c_30, 122, .inl (fun _ => 0)))] H := hP
  have hD : va_D A [(q, .inr (12, [.int p0, .int 0, .ref q_1, .int 0, .int 0, .int 0, .ref q_3, .ref q_5, .ref q_7, .int 0, .ref q_9, .ref q_11, .int 0, .ref q_13, .ref q_15, .ref q_17, .ref q_19, .int 0, .int 0, .ref q_21, .int 0, .ref q_23, .ref q_25, .ref q_27, .ref q_29, .ref q_31, .int 0, .int 0])), (q_21, .inl (c_22, 768, .inl (fun _ => 0))), (q_29, .inl (c_30, 122, .inl (fun _ => 0)))] := hD
  refine lv_aload_n hx hb dX12_init_139 rfl (lv_at hl 0 rfl) ?_
  refine lv_iload_n hx hb dX12_init_140 rfl (lv_at hl 2 rfl) ?_
  refine va_putF (D := (dC, dI)) (ci := 12) (v := .int p1) (ty := .int) (C := RX12) (T := TX12) (N := 28) hx hb ht uX12 tyX12 tkX12 nmX12 hown hK hP hD hS 0 rfl rfl 1 (by decide) (ht _ k_10_34) (fun _ h9 => h9) rfl hin rfl (by decide +kernel) rfl rfl (Nat.le_of_ble_eq_true rfl) dX12_init_141 (fun H locs hP hD hS => ?_)
  have hP : va_P (dC, dI) cls [(q, .inr (12, [.int p0, .int p1, .ref q_1, .int 0, .int 0, .int 0, .ref q_3, .ref q_5, .ref q_7, .int 0, .ref q_9, .ref q_11, .int 0, .ref q_13, .ref q_15, .ref q_17, .ref q_19, .int 0, .int 0, .ref q_21, .int 0, .ref q_23, .ref q_25, .ref q_27, .ref q_29, .ref q_31, .int 0, .int 0])), (q_21, .inl (c_22, 768, .inl (fun _ => 0))), (q_29, .inl (c_30, 122, .inl (fun _ => 0)))] H := hP
  have hD : va_D A [(q, .inr (12, [.int p0, .int p1, .ref q_1, .int 0, .int 0, .int 0, .ref q_3, .ref q_5, .ref q_7, .int 0, .ref q_9, .ref q_11, .int 0, .ref q_13, .ref q_15, .ref q_17, .ref q_19, .int 0, .int 0, .ref q_21, .int 0, .ref q_23, .ref q_25, .ref q_27, .ref q_29, .ref q_31, .int 0, .int 0])), (q_21, .inl (c_22, 768, .inl (fun _ => 0))), (q_29, .inl (c_30, 122, .inl (fun _ => 0)))] := hD
  exact W.vret hx hb hr (fun t ht9 hW => ⟨⟨([.int p0, .int p1, .ref q_1, .int 0, .int 0, .int 0, .ref q_3, .ref q_5, .ref q_7, .int 0, .ref q_9, .ref q_11, .int 0, .ref q_13, .ref q_15, .ref q_17, .ref q_19, .int 0, .int 0, .ref q_21, .int 0, .ref q_23, .ref q_25, .ref q_27, .ref q_29, .ref q_31, .int 0, .int 0]), rfl, ⟨trivial, rfl, rfl⟩, by rw [ht9]; exact hP.sub [0] rfl, va_K.moved hW.alike (hK.sub [] rfl), hD.sub [0] (by decide) rfl⟩, hS.F ht9⟩) hS.2.2 dX12_init_144
set_option maxHeartbeats 4000000 in
set_option maxRecDepth 100000 in
theorem k14 (l : Launch) (dC : Nat → ClassId) (dI : Nat → Nat → Nat) (sz : Nat) (q : Nat) (p0 : Int32)  : Met l yX14_init (Cond.code yX14_init cX14_init 2 none :: tb) ({ frames := 1, cells := 4, slots := 13, locals := 12 }) (pcw [.ref q, .int p0] (dC, dI) [(q, .inr (14, [.int 0, .null, .int 0, .null, .int 0, .null, .int 0, .null, .int 0]))] [] sz) (va_Qv (fun (fs1 : List Value) => (True) ∧ (fs1.length = 9) ∧ (fs1[0]? = some (.int p0))) (bw (dC, dI) (va_A [(q, .inr (14, [.int 0, .null, .int 0, .null, .int 0, .null, .int 0, .null, .int 0]))] sz) (fun (fs1 : List Value) => [(q, .inr (14, fs1))]) (fun (fs1 : List Value) => [])) (va_A [(q, .inr (14, [.int 0, .null, .int 0, .null, .int 0, .null, .int 0, .null, .int 0]))] sz)) 4 13 (va_A [(q, .inr (14, [.int 0, .null, .int 0, .null, .int 0, .null, .int 0, .null, .int 0]))] sz) := by
  refine Met.ofW (cc := cX14_init) (maxL := 2) (ret := none) (by decide) rfl ?_
  intro p e s m args below meth c s₁ B hml hv
  obtain ⟨rfl, hsz, hP, hK, hD0⟩ := hv
  have hx := B.exec
  have hb := B.bytes
  have hr := B.returns
  have hts := atoms_spec (ws := Cond.code yX14_init cX14_init 2 none :: tb) B.pre
  have ht : ∀ w ∈ tb, w.before _ s = true := fun w h => hts w (List.mem_cons_of_mem _ h)
  have hown : s.vm.findClass RX14 = some m.cls := findClass_of_methodNamed B.named
  have hlocks := B.notSynchronized
  have hin : meth.name = "<init>" := (name_of_methodNamed B.named B.method).1
  subst hsz
  have hD := hD0.self (sz := s.heap.size)
  generalize hAe : va_A [(q, .inr (14, [.int 0, .null, .int 0, .null, .int 0, .null, .int 0, .null, .int 0]))] s.heap.size = A at hD ⊢
  have hA : ∀ q : Nat, s.heap.size ≤ q → A q := fun q h => by rw [← hAe]; exact Or.inr h
  have hS : va_S A s.heap s.heap [] := va_S.rf
  have hl := lv_entry ([.ref q, .int p0]) (n := 2) (Nat.le_of_ble_eq_true rfl)
  rw [lg_entry_eq]
  generalize (lg_sl ([.ref q, .int p0]) ++ List.replicate (2 - (lg_sl ([.ref q, .int p0])).length) Slot.unset).toArray = ls at hl ⊢
  have hl : lv_has ls 2 [(0, .ref q), (1, .int p0)] := hl
  have hP : va_P (dC, dI) cls [(q, .inr (14, [.int 0, .null, .int 0, .null, .int 0, .null, .int 0, .null, .int 0]))] s.heap := hP
  refine lv_aload_n hx hb dX14_init_0 rfl (lv_at hl 0 rfl) ?_
  refine tk_o hx hb hown ht k_10_144 k_1_36 k_1_37 hml hl.1 dX14_init_1 (Nat.le_of_ble_eq_true rfl) (Nat.le_of_ble_eq_true rfl) ?_
  refine lv_aload_n hx hb dX14_init_4 rfl (lv_at hl 0 rfl) ?_
  refine lv_iconst (v := 2) hx hb dX14_init_5 (by decide) ?_
  refine va_newa (atype := .int) (ty := .int) (N' := 2) (a0 := (2, .inl (fun _ => 0))) hx hb (ht _ k_1_139) rfl hK hP hD hS hA (fun _ => rfl) (by decide) (by decide) (Nat.le_of_ble_eq_true rfl) (Nat.le_of_ble_eq_true rfl) (Nat.le_of_ble_eq_true rfl) dX14_init_6 (fun q_1 c_2 H hK hP hD hS => ?_)
  have hK : va_K (dC, dI) cls [(c_2, .int)] s := hK
  have hP : va_P (dC, dI) cls [(q, .inr (14, [.int 0, .null, .int 0, .null, .int 0, .null, .int 0, .null, .int 0])), (q_1, .inl (c_2, 2, .inl (fun _ => 0)))] H := hP
  have hD : va_D A [(q, .inr (14, [.int 0, .null, .int 0, .null, .int 0, .null, .int 0, .null, .int 0])), (q_1, .inl (c_2, 2, .inl (fun _ => 0)))] := hD
  refine W.widen (k := 1) (n := 2) (by omega) (by omega) ?_
  refine va_putF (D := (dC, dI)) (ci := 14) (v := .ref q_1) (ty := .array .int) (C := RX14) (T := TX14) (N := 9) hx hb ht uX14 tyX14 tkX14 nmX14 hown hK hP hD hS 0 rfl rfl 1 (by decide) (ht _ k_10_147) (fun _ h9 => h9) rfl hin rfl (by decide +kernel) rfl rfl (Nat.le_of_ble_eq_true rfl) dX14_init_8 (fun H locs hP hD hS => ?_)
  have hP : va_P (dC, dI) cls [(q, .inr (14, [.int 0, .ref q_1, .int 0, .null, .int 0, .null, .int 0, .null, .int 0])), (q_1, .inl (c_2, 2, .inl (fun _ => 0)))] H := hP
  have hD : va_D A [(q, .inr (14, [.int 0, .ref q_1, .int 0, .null, .int 0, .null, .int 0, .null, .int 0])), (q_1, .inl (c_2, 2, .inl (fun _ => 0)))] := hD
  have hP := hP.sub (ws' := [(q, .inr (14, [.int 0, .ref q_1, .int 0, .null, .int 0, .null, .int 0, .null, .int 0]))]) [0] rfl
  have hD := hD.sub (ws' := [(q, .inr (14, [.int 0, .ref q_1, .int 0, .null, .int 0, .null, .int 0, .null, .int 0]))]) [0] (by decide) rfl
  refine lv_aload_n hx hb dX14_init_11 rfl (lv_at hl 0 rfl) ?_
  refine lv_iconst (v := 3) hx hb dX14_init_12 (by decide) ?_
  refine va_newa (atype := .int) (ty := .int) (N' := 3) (a0 := (3, .inl (fun _ => 0))) hx hb (ht _ k_1_139) rfl hK hP hD hS hA (fun _ => rfl) (by decide) (by decide) (Nat.le_of_ble_eq_true rfl) (Nat.le_of_ble_eq_true rfl) (Nat.le_of_ble_eq_true rfl) dX14_init_13 (fun q_3 c_4 H hK hP hD hS => ?_)
  have hK : va_K (dC, dI) cls [(c_2, .int), (c_4, .int)] s := hK
  have hP : va_P (dC, dI) cls [(q, .inr (14, [.int 0, .ref q_1, .int 0, .null, .int 0, .null, .int 0, .null, .int 0])), (q_3, .inl (c_4, 3, .inl (fun _ => 0)))] H := hP
  have hD : va_D A [(q, .inr (14, [.int 0, .ref q_1, .int 0, .null, .int 0, .null, .int 0, .null, .int 0])), (q_3, .inl (c_4, 3, .inl (fun _ => 0)))] := hD
  refine W.widen (k := 2) (n := 5) (by omega) (by omega) ?_
  refine va_putF (D := (dC, dI)) (ci := 14) (v := .ref q_3) (ty := .array .int) (C := RX14) (T := TX14) (N := 9) hx hb ht uX14 tyX14 tkX14 nmX14 hown hK hP hD hS 0 rfl rfl 3 (by decide) (ht _ k_10_150) (fun _ h9 => h9) rfl hin rfl (by decide +kernel) rfl rfl (Nat.le_of_ble_eq_true rfl) dX14_init_15 (fun H locs hP hD hS => ?_)
  have hP : va_P (dC, dI) cls [(q, .inr (14, [.int 0, .ref q_1, .int 0, .ref q_3, .int 0, .null, .int 0, .null, .int 0])), (q_3, .inl (c_4, 3, .inl (fun _ => 0)))] H := hP
  have hD : va_D A [(q, .inr (14, [.int 0, .ref q_1, .int 0, .ref q_3, .int 0, .null, .int 0, .null, .int 0])), (q_3, .inl (c_4, 3, .inl (fun _ => 0)))] := hD
  have hP := hP.sub (ws' := [(q, .inr (14, [.int 0, .ref q_1, .int 0, .ref q_3, .int 0, .null, .int 0, .null, .int 0]))]) [0] rfl
  have hD := hD.sub (ws' := [(q, .inr (14, [.int 0, .ref q_1, .int 0, .ref q_3, .int 0, .null, .int 0, .null, .int 0]))]) [0] (by decide) rfl
  refine lv_aload_n hx hb dX14_init_18 rfl (lv_at hl 0 rfl) ?_
  refine lv_iconst (v := 4) hx hb dX14_init_19 (by decide) ?_
  refine va_newa (atype := .int) (ty := .int) (N' := 4) (a0 := (4, .inl (fun _ => 0))) hx hb (ht _ k_1_139) rfl hK hP hD hS hA (fun _ => rfl) (by decide) (by decide) (Nat.le_of_ble_eq_true rfl) (Nat.le_of_ble_eq_true rfl) (Nat.le_of_ble_eq_true rfl) dX14_init_20 (fun q_5 c_6 H hK hP hD hS => ?_)
  have hK : va_K (dC, dI) cls [(c_2, .int), (c_4, .int), (c_6, .int)] s := hK
  have hP : va_P (dC, dI) cls [(q, .inr (14, [.int 0, .ref q_1, .int 0, .ref q_3, .int 0, .null, .int 0, .null, .int 0])), (q_5, .inl (c_6, 4, .inl (fun _ => 0)))] H := hP
  have hD : va_D A [(q, .inr (14, [.int 0, .ref q_1, .int 0, .ref q_3, .int 0, .null, .int 0, .null, .int 0])), (q_5, .inl (c_6, 4, .inl (fun _ => 0)))] := hD
  refine W.widen (k := 3) (n := 9) (by omega) (by omega) ?_
  refine va_putF (D := (dC, dI)) (ci := 14) (v := .ref q_5) (ty := .array .int) (C := RX14) (T := TX14) (N := 9) hx hb ht uX14 tyX14 tkX14 nmX14 hown hK hP hD hS 0 rfl rfl 5 (by decide) (ht _ k_10_153) (fun _ h9 => h9) rfl hin rfl (by decide +kernel) rfl rfl (Nat.le_of_ble_eq_true rfl) dX14_init_22 (fun H locs hP hD hS => ?_)
  have hP : va_P (dC, dI) cls [(q, .inr (14, [.int 0, .ref q_1, .int 0, .ref q_3, .int 0, .ref q_5, .int 0, .null, .int 0])), (q_5, .inl (c_6, 4, .inl (fun _ => 0)))] H := hP
  have hD : va_D A [(q, .inr (14, [.int 0, .ref q_1, .int 0, .ref q_3, .int 0, .ref q_5, .int 0, .null, .int 0])), (q_5, .inl (c_6, 4, .inl (fun _ => 0)))] := hD
  have hP := hP.sub (ws' := [(q, .inr (14, [.int 0, .ref q_1, .int 0, .ref q_3, .int 0, .ref q_5, .int 0, .null, .int 0]))]) [0] rfl
  have hD := hD.sub (ws' := [(q, .inr (14, [.int 0, .ref q_1, .int 0, .ref q_3, .int 0, .ref q_5, .int 0, .null, .int 0]))]) [0] (by decide) rfl
  refine lv_aload_n hx hb dX14_init_25 rfl (lv_at hl 0 rfl) ?_
  refine lv_iconst (v := 4) hx hb dX14_init_26 (by decide) ?_
  refine va_newa (atype := .int) (ty := .int) (N' := 4) (a0 := (4, .inl (fun _ => 0))) hx hb (ht _ k_1_139) rfl hK hP hD hS hA (fun _ => rfl) (by decide) (by decide) (Nat.le_of_ble_eq_true rfl) (Nat.le_of_ble_eq_true rfl) (Nat.le_of_ble_eq_true rfl) dX14_init_27 (fun q_7 c_8 H hK hP hD hS => ?_)
  have hK : va_K (dC, dI) cls [(c_2, .int), (c_4, .int), (c_6, .int), (c_8, .int)] s := hK
  have hP : va_P (dC, dI) cls [(q, .inr (14, [.int 0, .ref q_1, .int 0, .ref q_3, .int 0, .ref q_5, .int 0, .null, .int 0])), (q_7, .inl (c_8, 4, .inl (fun _ => 0)))] H := hP
  have hD : va_D A [(q, .inr (14, [.int 0, .ref q_1, .int 0, .ref q_3, .int 0, .ref q_5, .int 0, .null, .int 0])), (q_7, .inl (c_8, 4, .inl (fun _ => 0)))] := hD
  refine W.widen (k := 4) (n := 13) (by omega) (by omega) ?_
  refine va_putF (D := (dC, dI)) (ci := 14) (v := .ref q_7) (ty := .array .int) (C := RX14) (T := TX14) (N := 9) hx hb ht uX14 tyX14 tkX14 nmX14 hown hK hP hD hS 0 rfl rfl 7 (by decide) (ht _ k_10_156) (fun _ h9 => h9) rfl hin rfl (by decide +kernel) rfl rfl (Nat.le_of_ble_eq_true rfl) dX14_init_29 (fun H locs hP hD hS => ?_)
  have hP : va_P (dC, dI) cls [(q, .inr (14, [.int 0, .ref q_1, .int 0, .ref q_3, .int 0, .ref q_5, .int 0, .ref q_7, .int 0])), (q_7, .inl (c_8, 4, .inl (fun _ => 0)))] H := hP
  have hD : va_D A [(q, .inr (14, [.int 0, .ref q_1, .int 0, .ref q_3, .int 0, .ref q_5, .int 0, .ref q_7, .int 0])), (q_7, .inl (c_8, 4, .inl (fun _ => 0)))] := hD
  have hP := hP.sub (ws' := [(q, .inr (14, [.int 0, .ref q_1, .int 0, .ref q_3, .int 0, .ref q_5, .int 0, .ref q_7, .int 0]))]) [0] rfl
  have hD := hD.sub (ws' := [(q, .inr (14, [.int 0, .ref q_1, .int 0, .ref q_3, .int 0, .ref q_5, .int 0, .ref q_7, .int 0]))]) [0] (by decide) rfl
  refine lv_aload_n hx hb dX14_init_32 rfl (lv_at hl 0 rfl) ?_
  refine lv_iload_n hx hb dX14_init_33 rfl (lv_at hl 1 rfl) ?_
  refine va_putF (D := (dC, dI)) (ci := 14) (v := .int p0) (ty := .int) (C := RX14) (T := TX14) (N := 9) hx hb ht uX14 tyX14 tkX14 nmX14 hown hK hP hD hS 0 rfl rfl 0 (by decide) (ht _ k_10_145) (fun _ h9 => h9) rfl hin rfl (by decide +kernel) rfl rfl (Nat.le_of_ble_eq_true rfl) dX14_init_34 (fun H locs hP hD hS => ?_)
  have hP : va_P (dC, dI) cls [(q, .inr (14, [.int p0, .ref q_1, .int 0, .ref q_3, .int 0, .ref q_5, .int 0, .ref q_7, .int 0]))] H := hP
  have hD : va_D A [(q, .inr (14, [.int p0, .ref q_1, .int 0, .ref q_3, .int 0, .ref q_5, .int 0, .ref q_7, .int 0]))] := hD
  exact W.vret hx hb hr (fun t ht9 hW => ⟨⟨([.int p0, .ref q_1, .int 0, .ref q_3, .int 0, .ref q_5, .int 0, .ref q_7, .int 0]), rfl, ⟨trivial, rfl, rfl⟩, by rw [ht9]; exact hP.sub [0] rfl, va_K.moved hW.alike (hK.sub [] rfl), hD.sub [0] (by decide) rfl⟩, hS.F ht9⟩) hS.2.2 dX14_init_37
