set_option maxRecDepth 20000 in
theorem wsL_good : wsL_law.all goodWord = true := by decide +kernel
/-! ===== the environment: links among nest mates, casts, String constants, static arrays: what the tables and the start give and no method changes ===== -/
def nestM : List (String × Nat × MethodName × String) := [(RX10, 9, yX8_init, RX10), (RX10, 37, yX6_init, RX10), (RX3, 11, yX1_init, RX10), (RX4, 101, yX10_within, RX10), (RX3, 55, yX10_isQuarter, RX10), (RX3, 58, yX10_isKind, RX10), (RX3, 61, yX10_isCell, RX10), (RX3, 64, yX10_isMeans, RX10), (RX1, 22, yX10_isHour, RX10), (RX7, 31, yX10_quarterOf, RX10), (RX7, 41, yX10_isPoint, RX10), (RX7, 45, yX10_cellOf, RX10), (RX7, 52, yX10_isMoment, RX10), (RX5, 3, yX2_init, RX10), (RX0, 3, yX2_init, RX10), (RX5, 52, yX10_isCell, RX10), (RX5, 55, yX10_within, RX10)]
def castC : List (String × String) := [("DriftDesk$Clue", "DriftDesk$Proof"), ("DriftDesk$Search", "DriftDesk$Proof"), ("DriftDesk$Flow", "java/lang/Object"), ("DriftDesk", "java/lang/Object"), ("DriftDesk$Tape", "java/lang/Object"), ("DriftDesk$SeaReader", "java/lang/Object"), ("DriftDesk$Tokens", "java/lang/Object"), ("java/util/ArrayList", "java/lang/Object"), ("DriftDesk$Split", "java/lang/Object"), ("DriftDesk$Sea", "java/lang/Object"), ("DriftDeskModel", "java/lang/Object"), ("DriftDesk$Tale", "java/lang/Object"), ("DriftDesk$Search", "java/lang/Object"), ("DriftDesk$Clue", "java/lang/Object"), ("java/lang/String", "java/lang/Object"), ("[B", "java/lang/Object"), ("[I", "java/lang/Object"), ("[J", "java/lang/Object"), ("[Z", "java/lang/Object"), ("[LDriftDesk$Flow;", "java/lang/Object"), ("[S", "java/lang/Object"), ("[Ljava/lang/Object;", "java/lang/Object")]
def skL : List Nat := [4, 6, 3, 4, 4]
def skB : List (List Int32) := [[119, 105, 110, 100], [115, 116, 114, 101, 97, 109], [108, 101, 101], [108, 97, 110, 100], [109, 105, 115, 115]]
def skI : List Nat := [78, 84, 86, 88, 90]
def skT : List String := ["wind", "stream", "lee", "land", "miss"]
def skNUMBERS : List Int32 := [3, 4, 2, 2, 3]
def skTELLING : List Int32 := [1, 2, 1, 2, 2]
def skLEAST : List Int32 := [0, (-30), (-30), 0, 0, 0, (-30), (-30), 0, 0, 0, 0, 0, 0, 0, 0, 0, 1, 0, 0]
def skMOST : List Int32 := [71, 30, 30, 0, 3, 71, 30, 30, 3, 100, 0, 0, 7, 7, 0, 0, 1, 20, 100, 0]
def En (G : Gh) (A : Nat → Prop) (U : State) (H : Heap) : Prop :=
  (∀ q ∈ nestM, va_Nw (.methodLinkNest q.1 q.2.1 q.2.2.1 q.2.2.2) U) ∧ (∀ q ∈ castC, va_Nw (.castable q.1 q.2) U) ∧
  (va_Nw (.declares ⟨"DriftDesk$Proof", "weighing", "(LDriftDesk$Tale;LDriftDesk$Sea;)I"⟩) U ∧ va_Dc U ∧ va_AO "DriftDesk$Flow" U ∧ va_AO "java/lang/Object" U ∧ va_Mi "[Ljava/lang/Object;" (G.2.2.2.2 5) U) ∧
  (vk_S 5 skL skB G.2.2.1 G.2.2.2.1 A U H ∧ ∀ i : Nat, i < 5 → vk_R RX4 (skI.getD i 0) (skT.getD i "") (G.2.2.1 i) U) ∧
  (va_Z RX4 "NUMBERS" "[I" (.ref (G.2.2.2.2 0)) A U H ∧ va_T .int (G.2.2.2.2 0) 5 (fun j => .int (skNUMBERS.getD j 0)) A U H) ∧
  (va_Z RX4 "TELLING" "[I" (.ref (G.2.2.2.2 1)) A U H ∧ va_T .int (G.2.2.2.2 1) 5 (fun j => .int (skTELLING.getD j 0)) A U H) ∧
  (va_Z RX4 "LEAST" "[I" (.ref (G.2.2.2.2 2)) A U H ∧ va_T .int (G.2.2.2.2 2) 20 (fun j => .int (skLEAST.getD j 0)) A U H) ∧
  (va_Z RX4 "MOST" "[I" (.ref (G.2.2.2.2 3)) A U H ∧ va_T .int (G.2.2.2.2 3) 20 (fun j => .int (skMOST.getD j 0)) A U H) ∧
  (va_Z "java/util/ArrayList" "DEFAULTCAPACITY_EMPTY_ELEMENTDATA" "[Ljava/lang/Object;" (.ref (G.2.2.2.2 4)) A U H ∧ va_T (.object "java/lang/Object") (G.2.2.2.2 4) 0 (fun _ => .null) A U H) ∧
  va_Z "java/lang/String" "COMPACT_STRINGS" "Z" (.int 1) A U H ∧ va_Zq "jdk/internal/util/Preconditions" "SIOOBE_FORMATTER" "Ljava/util/function/BiFunction;" A U H
theorem En.narrow {G : Gh} {A B : Nat → Prop} {U : State} {H : Heap} (h : En G A U H) (hAB : ∀ q, B q → A q) : En G B U H := by
  obtain ⟨h1, h2, h3, ⟨h4, h5⟩, ⟨a1, a2⟩, ⟨b1, b2⟩, ⟨c1, c2⟩, ⟨d1, d2⟩, ⟨e1, e2⟩, f1, g1⟩ := h
  exact ⟨h1, h2, h3, ⟨h4.narrow hAB, h5⟩, ⟨a1.narrow hAB, a2.narrow hAB⟩, ⟨b1.narrow hAB, b2.narrow hAB⟩, ⟨c1.narrow hAB, c2.narrow hAB⟩, ⟨d1.narrow hAB, d2.narrow hAB⟩, ⟨e1.narrow hAB, e2.narrow hAB⟩, f1.narrow hAB, g1.narrow hAB⟩
theorem En.kept {G : Gh} {A : Nat → Prop} {U : State} {H H1 : Heap} (h : En G A U H) (hq : ∀ a : Nat, a < H.size → ¬ A a → H1[a]? = H[a]?) : En G A U H1 := by
  obtain ⟨h1, h2, h3, ⟨h4, h5⟩, ⟨a1, a2⟩, ⟨b1, b2⟩, ⟨c1, c2⟩, ⟨d1, d2⟩, ⟨e1, e2⟩, f1, g1⟩ := h
  exact ⟨h1, h2, h3, ⟨h4.kept hq, h5⟩, ⟨a1.kept hq, a2.kept hq⟩, ⟨b1.kept hq, b2.kept hq⟩, ⟨c1.kept hq, c2.kept hq⟩, ⟨d1.kept hq, d2.kept hq⟩, ⟨e1.kept hq, e2.kept hq⟩, f1.kept hq, g1.kept hq⟩
theorem En.warm {G : Gh} {A : Nat → Prop} {s U : State} {H : Heap} (hW : s.WarmedH U.vm) (h : En G A s H) : En G A U H := by
  have v := hW.alike
  obtain ⟨h1, h2, ⟨x1, x2, x3, x4, x5⟩, ⟨h4, h5⟩, ⟨a1, a2⟩, ⟨b1, b2⟩, ⟨c1, c2⟩, ⟨d1, d2⟩, ⟨e1, e2⟩, f1, g1⟩ := h
  exact ⟨fun q hq => va_Nw.warmM hW (h1 q hq), fun q hq => va_Nw.warmC hW (h2 q hq), ⟨va_Nw.warmD hW x1, x2.moved v, x3.moved v, x4.moved v, x5.moved v⟩, ⟨h4.moved v, fun i hi => vk_R.warm hW (h5 i hi)⟩, ⟨a1.moved v, a2.moved v⟩, ⟨b1.moved v, b2.moved v⟩, ⟨c1.moved v, c2.moved v⟩, ⟨d1.moved v, d2.moved v⟩, ⟨e1.moved v, e2.moved v⟩, f1.moved v, g1.moved v⟩
theorem En.call {G : Gh} {A : Nat → Prop} {U : State} {H : Heap} (g : JFrame) (mk : MethodId) (a : Array Value) (h : En G A U H) : En G A (U.calling g mk a) H := by
  have v : U.vm.Alike (U.calling g mk a).vm := Vm.Alike.refl U.vm
  obtain ⟨h1, h2, ⟨x1, x2, x3, x4, x5⟩, ⟨h4, h5⟩, ⟨a1, a2⟩, ⟨b1, b2⟩, ⟨c1, c2⟩, ⟨d1, d2⟩, ⟨e1, e2⟩, f1, g1⟩ := h
  exact ⟨fun q hq => va_Nw.same rfl rfl (h1 q hq), fun q hq => va_Nw.same rfl rfl (h2 q hq), ⟨va_Nw.same rfl rfl x1, x2.moved v, x3.moved v, x4.moved v, x5.moved v⟩, ⟨h4.moved v, fun i hi => vk_R.same rfl (h5 i hi)⟩, ⟨a1.moved v, a2.moved v⟩, ⟨b1.moved v, b2.moved v⟩, ⟨c1.moved v, c2.moved v⟩, ⟨d1.moved v, d2.moved v⟩, ⟨e1.moved v, e2.moved v⟩, f1.moved v, g1.moved v⟩
/-! ===== contracts over the pool ===== -/
abbrev Rm (d mc ms : Nat) : Room := { frames := d, cells := mc, slots := ms, locals := 36 * d }
def Pr (G : Gh) (S : Pl) (sz : Nat) (U : State) : Prop := U.heap.size = sz ∧ va_P G.1 vwCl (pw G S) U.heap ∧ va_K G.1 vwCl (tyG G) U ∧ va_D (fun _ => True) (pw G S) ∧ En G (va_A (pw G S) sz) U U.heap
def At (G : Gh) (S : Pl) (sz : Nat) (S' : Pl) (t : State) : Prop := va_P G.1 vwCl (pw G S') t.heap ∧ va_D (va_A (pw G S) sz) (pw G S')
def MtI (l : Launch) (y : MethodName) (bytes : ByteArray) (nL : Nat) (ret : Option FieldType) (rm : Room) (G : Gh) (av : List Value) (S : Pl) (post : Int32 → Pl → Prop) (mc ms : Nat) : Prop := ∀ sz, Met l y (.code y bytes nL ret :: wsL_law) rm (va_Pc av (Pr G S sz)) (va_Qi post (At G S sz) (va_A (pw G S) sz)) mc ms (va_A (pw G S) sz)
def MtL (l : Launch) (y : MethodName) (bytes : ByteArray) (nL : Nat) (ret : Option FieldType) (rm : Room) (G : Gh) (av : List Value) (S : Pl) (post : Int64 → Pl → Prop) (mc ms : Nat) : Prop := ∀ sz, Met l y (.code y bytes nL ret :: wsL_law) rm (va_Pc av (Pr G S sz)) (va_Ql post (At G S sz) (va_A (pw G S) sz)) mc ms (va_A (pw G S) sz)
def MtV (l : Launch) (y : MethodName) (bytes : ByteArray) (nL : Nat) (ret : Option FieldType) (rm : Room) (G : Gh) (av : List Value) (S : Pl) (post : Pl → Prop) (mc ms : Nat) : Prop := ∀ sz, Met l y (.code y bytes nL ret :: wsL_law) rm (va_Pc av (Pr G S sz)) (va_Qv post (At G S sz) (va_A (pw G S) sz)) mc ms (va_A (pw G S) sz)
def MtQ (l : Launch) (y : MethodName) (bytes : ByteArray) (nL : Nat) (ret : Option FieldType) (rm : Room) (G : Gh) (av : List Value) (S : Pl) (post : Option Nat → Pl → Prop) (mc ms : Nat) : Prop := ∀ sz, Met l y (.code y bytes nL ret :: wsL_law) rm (va_Pc av (Pr G S sz)) (va_Qq post (At G S sz) (va_A (pw G S) sz)) mc ms (va_A (pw G S) sz)
/-- what a method's body has: the machine, its code, the tables' words, the environment -/
def Cx (p : Program) (s : State) (m : MethodId) (args : Array Value) (meth : Method) (c : Code) (cc : ByteArray) (nL : Nat) (ret : Option FieldType) (own : String) (G : Gh) (A : Nat → Prop) : Prop :=
  CallFix p m c cc nL s args wsL_law own ∧ meth.sig.returnType = ret ∧ meth.locks = false ∧ va_K G.1 vwCl (tyG G) s ∧ En G A s s.heap ∧ (∀ q, s.heap.size ≤ q → A q) ∧ (meth.name = "<init>" ∨ True)
/-- the heap holds the pool S; since the method's start nothing outside A has changed -/
def PX (G : Gh) (A : Nat → Prop) (H0 : Heap) (S : Pl) (H : Heap) (locs : List Loc) : Prop := va_P G.1 vwCl (pw G S) H ∧ va_D A (pw G S) ∧ va_S A H0 H locs
section ROWS
variable {p : Program} {l : Launch} {e : Env} {R : Room} {s : State} {m : MethodId} {args : Array Value} {below : List Frame} {meth : Method} {c : Code} {H : Heap} {locs : List Loc} {cells slots : Nat} {Q : State → Prop}
variable {cc : ByteArray} {nL : Nat} {ret : Option FieldType} {own : String} {G : Gh} {A : Nat → Prop} {S : Pl} {pc : Nat} {ls : Array Slot} {rest : List Value}
theorem pw_at {a : Nat} {E : va_E} (ha : a ∈ pL S) (he : pF G S a = E) : ∃ q0 : Nat, (pw G S)[q0]? = some (a, pF G S a) ∧ (pw G S)[q0]? = some (a, E) := by
  obtain ⟨q0, hq⟩ := va_pl_get (X := []) (f := pF G S) ha
  rw [List.nil_append] at hq
  exact ⟨q0, hq, by rw [hq, he]⟩
theorem pw_set {A : Nat → Prop} {a q0 : Nat} {E : va_E} {S' : Pl} (hD : va_D A (pw G S)) (ha : a ∈ pL S) (hq : (pw G S)[q0]? = some (a, pF G S a)) (hL : pL S' = pL S) (hS : ∀ b, va_up (pF G S) a E b = pF G S' b) : (pw G S).set q0 (a, E) = pw G S' := by
  have h := va_pl_set (X := []) (e := E) (A := A) (L := pL S) (f := pF G S) (a := a) (k := q0) (by simpa using hD) ha (by simpa using hq)
  rw [List.nil_append, List.nil_append] at h
  rw [h, va_pl_congr hS]
  show _ = va_pl (pL S') (pF G S')
  rw [hL]
theorem q_get {ref C : String} {T : u_T} {N ci index a : Nat} {fs : List Value} {v : Value} (X : Cx p s m args meth c cc nL ret own G A) (hw : PX G A s.heap S H locs) (ha : a ∈ pL S) (he : pF G S a = .inr (ci, fs)) (hc : vwCl[ci]? = some (C, T, N)) (hin : ∀ w ∈ u_ws C T N, w ∈ wsL_law) (k : Nat) (hk : k < N) (hl : Cond.fieldLink own index ref (T k).2.1 (T k).2.2.1 ∈ wsL_law) (hsame : ∀ x, s.fieldFound? (T k).1 (T k).2.1 (T k).2.2.1 = some x → s.fieldFound? ref (T k).2.1 (T k).2.2.1 = some x) (hv : fs[k]? = some v) (hdg : decode cc pc = .ok (.getfield index, 3))
    (kk : W p l e R s m args below meth c H locs cells slots Q (F0 m (pc + 3) ls (v :: rest))) : W p l e R s m args below meth c H locs cells slots Q (F0 m pc ls (.ref a :: rest)) := by
  obtain ⟨q0, h1, h2⟩ := pw_at ha he
  obtain ⟨⟨hx, hb, -, hown, hts⟩, -, -, hK, -⟩ := X
  exact va_get hx hb hts hin hown hK hw.1 q0 h2 hc k hk (hts _ hl) hsame hv hdg kk
theorem q_put {ref C : String} {T : u_T} {N ci index a : Nat} {fs : List Value} {v : Value} {S' : Pl} {ty0 : Nat → FieldType} {ty : FieldType} (X : Cx p s m args meth c cc nL ret own G A) (hw : PX G A s.heap S H locs) (ha : a ∈ pL S) (he : pF G S a = .inr (ci, fs)) (hc : vwCl[ci]? = some (C, T, N)) (hin : ∀ w ∈ u_ws C T N, w ∈ wsL_law) (hty : ∀ k, k < N → parseFieldDescriptor (T k).2.2.1 = some (ty0 k)) (hnm : ∀ a, a < N → ∀ b, b < N → a ≠ b → (T a).2.1 ≠ (T b).2.1) (k : Nat) (hk : k < N) (hl : Cond.fieldLink own index ref (T k).2.1 (T k).2.2.1 ∈ wsL_law) (hsame : ∀ x, s.fieldFound? (T k).1 (T k).2.1 (T k).2.2.1 = some x → s.fieldFound? ref (T k).2.1 (T k).2.2.1 = some x) (hfin : (T k).2.2.2 = false) (hd : parseFieldDescriptor (T k).2.2.1 = some ty) (hn : narrow ty v = v) (hfit : fits ty v = true) (hlen : k < fs.length) (hL : pL S' = pL S) (hS : ∀ b, va_up (pF G S) a (.inr (ci, fs.set k v)) b = pF G S' b) (hdg : decode cc pc = .ok (.putfield index, 3))
    (kk : ∀ (H1 : Heap) (locs1 : List Loc), PX G A s.heap S' H1 locs1 → W p l e R s m args below meth c H1 locs1 cells slots Q (F0 m (pc + 3) ls rest)) : W p l e R s m args below meth c H locs cells slots Q (F0 m pc ls (v :: .ref a :: rest)) := by
  obtain ⟨q0, h1, h2⟩ := pw_at ha he
  obtain ⟨⟨hx, hb, -, hown, hts⟩, -, -, hK, -⟩ := X
  refine va_put hx hb hts hin ty0 hty hnm hown hK hw.1 hw.2.1 hw.2.2 q0 h2 hc k hk (hts _ hl) hsame hfin hd hn hfit hlen hdg (fun H1 locs1 hP hD hS1 => ?_)
  rw [pw_set hw.2.1 ha h1 hL hS] at hP hD
  exact kk H1 locs1 ⟨hP, hD, hS1⟩
theorem q_putF {ref C : String} {T : u_T} {N ci index a : Nat} {fs : List Value} {v : Value} {S' : Pl} {ty0 : Nat → FieldType} {ty : FieldType} (X : Cx p s m args meth c cc nL ret own G A) (hw : PX G A s.heap S H locs) (ha : a ∈ pL S) (he : pF G S a = .inr (ci, fs)) (hc : vwCl[ci]? = some (C, T, N)) (hin : ∀ w ∈ u_ws C T N, w ∈ wsL_law) (hty : ∀ k, k < N → parseFieldDescriptor (T k).2.2.1 = some (ty0 k)) (hnm : ∀ a, a < N → ∀ b, b < N → a ≠ b → (T a).2.1 ≠ (T b).2.1) (k : Nat) (hk : k < N) (hl : Cond.fieldLink own index ref (T k).2.1 (T k).2.2.1 ∈ wsL_law) (hsame : ∀ x, s.fieldFound? (T k).1 (T k).2.1 (T k).2.2.1 = some x → s.fieldFound? ref (T k).2.1 (T k).2.2.1 = some x) (hfin : (T k).2.2.2 = true) (hinit : meth.name = "<init>") (hdecl : (T k).1 = own) (hd : parseFieldDescriptor (T k).2.2.1 = some ty) (hn : narrow ty v = v) (hfit : fits ty v = true) (hlen : k < fs.length) (hL : pL S' = pL S) (hS : ∀ b, va_up (pF G S) a (.inr (ci, fs.set k v)) b = pF G S' b) (hdg : decode cc pc = .ok (.putfield index, 3))
    (kk : ∀ (H1 : Heap) (locs1 : List Loc), PX G A s.heap S' H1 locs1 → W p l e R s m args below meth c H1 locs1 cells slots Q (F0 m (pc + 3) ls rest)) : W p l e R s m args below meth c H locs cells slots Q (F0 m pc ls (v :: .ref a :: rest)) := by
  obtain ⟨q0, h1, h2⟩ := pw_at ha he
  obtain ⟨⟨hx, hb, -, hown, hts⟩, -, -, hK, -⟩ := X
  refine va_putF hx hb hts hin ty0 hty hnm hown hK hw.1 hw.2.1 hw.2.2 q0 h2 hc k hk (hts _ hl) hsame hfin hinit hdecl hd hn hfit hlen hdg (fun H1 locs1 hP hD hS1 => ?_)
  rw [pw_set hw.2.1 ha h1 hL hS] at hP hD
  exact kk H1 locs1 ⟨hP, hD, hS1⟩
theorem q_ldB {a : Nat} {i : Int32} (X : Cx p s m args meth c cc nL ret own G A) (hw : PX G A s.heap S H locs) (ha : is S 12 a) (hin : vp_in i (pN S a)) (hdg : decode cc pc = .ok (.baload, 1))
    (kk : W p l e R s m args below meth c H locs cells slots Q (F0 m (pc + 1) ls (.int (qI S a i.toNatClampNeg) :: rest))) : W p l e R s m args below meth c H locs cells slots Q (F0 m pc ls (.int i :: .ref a :: rest)) := by
  obtain ⟨q0, h1, h2⟩ := pw_at (G := G) ha.1 (pF_k ha.2)
  obtain ⟨⟨hx, hb, -, hown, hts⟩, -, -, hK, -⟩ := X
  exact va_bald hx hb hK hw.1 q0 0 h2 rfl hin hdg kk
theorem q_ldI {a : Nat} {i : Int32} (X : Cx p s m args meth c cc nL ret own G A) (hw : PX G A s.heap S H locs) (ha : is S 13 a) (hin : vp_in i (pN S a)) (hdg : decode cc pc = .ok (.iaload, 1))
    (kk : W p l e R s m args below meth c H locs cells slots Q (F0 m (pc + 1) ls (.int (qI S a i.toNatClampNeg) :: rest))) : W p l e R s m args below meth c H locs cells slots Q (F0 m pc ls (.int i :: .ref a :: rest)) := by
  obtain ⟨q0, h1, h2⟩ := pw_at (G := G) ha.1 (pF_k ha.2)
  obtain ⟨⟨hx, hb, -, hown, hts⟩, -, -, hK, -⟩ := X
  exact va_iald hx hb hK hw.1 q0 1 h2 rfl hin hdg kk
theorem q_ldJ {a : Nat} {i : Int32} (X : Cx p s m args meth c cc nL ret own G A) (hw : PX G A s.heap S H locs) (ha : is S 14 a) (hin : vp_in i (pN S a)) (hdg : decode cc pc = .ok (.laload, 1))
    (kk : W p l e R s m args below meth c H locs cells slots Q (F0 m (pc + 1) ls (.long (qJ S a i.toNatClampNeg) :: rest))) : W p l e R s m args below meth c H locs cells slots Q (F0 m pc ls (.int i :: .ref a :: rest)) := by
  obtain ⟨q0, h1, h2⟩ := pw_at (G := G) ha.1 (pF_k ha.2)
  obtain ⟨⟨hx, hb, -, hown, hts⟩, -, -, hK, -⟩ := X
  exact va_lald hx hb hK hw.1 q0 2 h2 rfl hin hdg kk
theorem q_ldS {a : Nat} {i : Int32} (X : Cx p s m args meth c cc nL ret own G A) (hw : PX G A s.heap S H locs) (ha : is S 15 a) (hin : vp_in i (pN S a)) (hdg : decode cc pc = .ok (.saload, 1))
    (kk : W p l e R s m args below meth c H locs cells slots Q (F0 m (pc + 1) ls (.int (qI S a i.toNatClampNeg) :: rest))) : W p l e R s m args below meth c H locs cells slots Q (F0 m pc ls (.int i :: .ref a :: rest)) := by
  obtain ⟨q0, h1, h2⟩ := pw_at (G := G) ha.1 (pF_k ha.2)
  obtain ⟨⟨hx, hb, -, hown, hts⟩, -, -, hK, -⟩ := X
  exact va_sald hx hb hK hw.1 q0 3 h2 rfl hin hdg kk
theorem q_ldZ {a : Nat} {i : Int32} (X : Cx p s m args meth c cc nL ret own G A) (hw : PX G A s.heap S H locs) (ha : is S 16 a) (hin : vp_in i (pN S a)) (hdg : decode cc pc = .ok (.baload, 1))
    (kk : W p l e R s m args below meth c H locs cells slots Q (F0 m (pc + 1) ls (.int (qI S a i.toNatClampNeg) :: rest))) : W p l e R s m args below meth c H locs cells slots Q (F0 m pc ls (.int i :: .ref a :: rest)) := by
  obtain ⟨q0, h1, h2⟩ := pw_at (G := G) ha.1 (pF_k ha.2)
  obtain ⟨⟨hx, hb, -, hown, hts⟩, -, -, hK, -⟩ := X
  exact va_zald hx hb hK hw.1 q0 4 h2 rfl hin hdg kk
theorem q_stB {a : Nat} {i : Int32} {x : Int32} (X : Cx p s m args meth c cc nL ret own G A) (hw : PX G A s.heap S H locs) (ha : is S 12 a) (hin : vp_in i (pN S a)) (hdg : decode cc pc = .ok (.bastore, 1))
    (kk : ∀ (H1 : Heap) (locs1 : List Loc), PX G A s.heap (tI S a (upd (qI S a) i.toNatClampNeg (vp_nar .byte x))) H1 locs1 → W p l e R s m args below meth c H1 locs1 cells slots Q (F0 m (pc + 1) ls rest)) : W p l e R s m args below meth c H locs cells slots Q (F0 m pc ls (.int x :: .int i :: .ref a :: rest)) := by
  obtain ⟨q0, h1, h2⟩ := pw_at (G := G) ha.1 (pF_k ha.2)
  obtain ⟨⟨hx, hb, -, hown, hts⟩, -, -, hK, -⟩ := X
  refine va_bast hx hb hK hw.1 hw.2.1 hw.2.2 q0 0 h2 rfl hin hdg (fun H1 locs1 hP hD hS1 => ?_)
  rw [pw_set (E := .inl (G.2.1 0, pN S a, (.inl (upd (qI S a) i.toNatClampNeg (vp_nar .byte x))))) (S' := tI S a (upd (qI S a) i.toNatClampNeg (vp_nar .byte x))) hw.2.1 ha.1 h1 rfl (pF_tI ha.2 rfl)] at hP hD
  exact kk H1 locs1 ⟨hP, hD, hS1⟩
theorem q_stI {a : Nat} {i : Int32} {x : Int32} (X : Cx p s m args meth c cc nL ret own G A) (hw : PX G A s.heap S H locs) (ha : is S 13 a) (hin : vp_in i (pN S a)) (hdg : decode cc pc = .ok (.iastore, 1))
    (kk : ∀ (H1 : Heap) (locs1 : List Loc), PX G A s.heap (tI S a (upd (qI S a) i.toNatClampNeg x)) H1 locs1 → W p l e R s m args below meth c H1 locs1 cells slots Q (F0 m (pc + 1) ls rest)) : W p l e R s m args below meth c H locs cells slots Q (F0 m pc ls (.int x :: .int i :: .ref a :: rest)) := by
  obtain ⟨q0, h1, h2⟩ := pw_at (G := G) ha.1 (pF_k ha.2)
  obtain ⟨⟨hx, hb, -, hown, hts⟩, -, -, hK, -⟩ := X
  refine va_iast hx hb hK hw.1 hw.2.1 hw.2.2 q0 1 h2 rfl hin hdg (fun H1 locs1 hP hD hS1 => ?_)
  rw [pw_set (E := .inl (G.2.1 1, pN S a, (.inl (upd (qI S a) i.toNatClampNeg x)))) (S' := tI S a (upd (qI S a) i.toNatClampNeg x)) hw.2.1 ha.1 h1 rfl (pF_tI ha.2 rfl)] at hP hD
  exact kk H1 locs1 ⟨hP, hD, hS1⟩
theorem q_stJ {a : Nat} {i : Int32} {x : Int64} (X : Cx p s m args meth c cc nL ret own G A) (hw : PX G A s.heap S H locs) (ha : is S 14 a) (hin : vp_in i (pN S a)) (hdg : decode cc pc = .ok (.lastore, 1))
    (kk : ∀ (H1 : Heap) (locs1 : List Loc), PX G A s.heap (tJ S a (vp_updL (qJ S a) i.toNatClampNeg x)) H1 locs1 → W p l e R s m args below meth c H1 locs1 cells slots Q (F0 m (pc + 1) ls rest)) : W p l e R s m args below meth c H locs cells slots Q (F0 m pc ls (.long x :: .int i :: .ref a :: rest)) := by
  obtain ⟨q0, h1, h2⟩ := pw_at (G := G) ha.1 (pF_k ha.2)
  obtain ⟨⟨hx, hb, -, hown, hts⟩, -, -, hK, -⟩ := X
  refine va_last hx hb hK hw.1 hw.2.1 hw.2.2 q0 2 h2 rfl hin hdg (fun H1 locs1 hP hD hS1 => ?_)
  rw [pw_set (E := .inl (G.2.1 2, pN S a, .inr (.inl (vp_updL (qJ S a) i.toNatClampNeg x)))) (S' := tJ S a (vp_updL (qJ S a) i.toNatClampNeg x)) hw.2.1 ha.1 h1 rfl (pF_tJ ha.2 rfl)] at hP hD
  exact kk H1 locs1 ⟨hP, hD, hS1⟩
theorem q_stS {a : Nat} {i : Int32} {x : Int32} (X : Cx p s m args meth c cc nL ret own G A) (hw : PX G A s.heap S H locs) (ha : is S 15 a) (hin : vp_in i (pN S a)) (hdg : decode cc pc = .ok (.sastore, 1))
    (kk : ∀ (H1 : Heap) (locs1 : List Loc), PX G A s.heap (tI S a (upd (qI S a) i.toNatClampNeg (vp_nar .short x))) H1 locs1 → W p l e R s m args below meth c H1 locs1 cells slots Q (F0 m (pc + 1) ls rest)) : W p l e R s m args below meth c H locs cells slots Q (F0 m pc ls (.int x :: .int i :: .ref a :: rest)) := by
  obtain ⟨q0, h1, h2⟩ := pw_at (G := G) ha.1 (pF_k ha.2)
  obtain ⟨⟨hx, hb, -, hown, hts⟩, -, -, hK, -⟩ := X
  refine va_sast hx hb hK hw.1 hw.2.1 hw.2.2 q0 3 h2 rfl hin hdg (fun H1 locs1 hP hD hS1 => ?_)
  rw [pw_set (E := .inl (G.2.1 3, pN S a, (.inl (upd (qI S a) i.toNatClampNeg (vp_nar .short x))))) (S' := tI S a (upd (qI S a) i.toNatClampNeg (vp_nar .short x))) hw.2.1 ha.1 h1 rfl (pF_tI ha.2 rfl)] at hP hD
  exact kk H1 locs1 ⟨hP, hD, hS1⟩
theorem q_stZ {a : Nat} {i : Int32} {x : Int32} (X : Cx p s m args meth c cc nL ret own G A) (hw : PX G A s.heap S H locs) (ha : is S 16 a) (hin : vp_in i (pN S a)) (hdg : decode cc pc = .ok (.bastore, 1))
    (kk : ∀ (H1 : Heap) (locs1 : List Loc), PX G A s.heap (tI S a (upd (qI S a) i.toNatClampNeg (vp_nar .boolean x))) H1 locs1 → W p l e R s m args below meth c H1 locs1 cells slots Q (F0 m (pc + 1) ls rest)) : W p l e R s m args below meth c H locs cells slots Q (F0 m pc ls (.int x :: .int i :: .ref a :: rest)) := by
  obtain ⟨q0, h1, h2⟩ := pw_at (G := G) ha.1 (pF_k ha.2)
  obtain ⟨⟨hx, hb, -, hown, hts⟩, -, -, hK, -⟩ := X
  refine va_zast hx hb hK hw.1 hw.2.1 hw.2.2 q0 4 h2 rfl hin hdg (fun H1 locs1 hP hD hS1 => ?_)
  rw [pw_set (E := .inl (G.2.1 4, pN S a, (.inl (upd (qI S a) i.toNatClampNeg (vp_nar .boolean x))))) (S' := tI S a (upd (qI S a) i.toNatClampNeg (vp_nar .boolean x))) hw.2.1 ha.1 h1 rfl (pF_tI ha.2 rfl)] at hP hD
  exact kk H1 locs1 ⟨hP, hD, hS1⟩
theorem q_lenB {a : Nat} {v : Int32} (X : Cx p s m args meth c cc nL ret own G A) (hw : PX G A s.heap S H locs) (ha : is S 12 a) (hv : Int32.ofNat (pN S a) = v) (hdg : decode cc pc = .ok (.arraylength, 1))
    (kk : W p l e R s m args below meth c H locs cells slots Q (F0 m (pc + 1) ls (.int v :: rest))) : W p l e R s m args below meth c H locs cells slots Q (F0 m pc ls (.ref a :: rest)) := by
  obtain ⟨q0, h1, h2⟩ := pw_at (G := G) ha.1 (pF_k ha.2)
  obtain ⟨⟨hx, hb, -, hown, hts⟩, -, -, hK, -⟩ := X
  exact va_alen hx hb hK hw.1 q0 0 h2 (ty := .byte) rfl hv hdg kk
theorem q_lenI {a : Nat} {v : Int32} (X : Cx p s m args meth c cc nL ret own G A) (hw : PX G A s.heap S H locs) (ha : is S 13 a) (hv : Int32.ofNat (pN S a) = v) (hdg : decode cc pc = .ok (.arraylength, 1))
    (kk : W p l e R s m args below meth c H locs cells slots Q (F0 m (pc + 1) ls (.int v :: rest))) : W p l e R s m args below meth c H locs cells slots Q (F0 m pc ls (.ref a :: rest)) := by
  obtain ⟨q0, h1, h2⟩ := pw_at (G := G) ha.1 (pF_k ha.2)
  obtain ⟨⟨hx, hb, -, hown, hts⟩, -, -, hK, -⟩ := X
  exact va_alen hx hb hK hw.1 q0 1 h2 (ty := .int) rfl hv hdg kk
theorem q_lenJ {a : Nat} {v : Int32} (X : Cx p s m args meth c cc nL ret own G A) (hw : PX G A s.heap S H locs) (ha : is S 14 a) (hv : Int32.ofNat (pN S a) = v) (hdg : decode cc pc = .ok (.arraylength, 1))
    (kk : W p l e R s m args below meth c H locs cells slots Q (F0 m (pc + 1) ls (.int v :: rest))) : W p l e R s m args below meth c H locs cells slots Q (F0 m pc ls (.ref a :: rest)) := by
  obtain ⟨q0, h1, h2⟩ := pw_at (G := G) ha.1 (pF_k ha.2)
  obtain ⟨⟨hx, hb, -, hown, hts⟩, -, -, hK, -⟩ := X
  exact va_alen hx hb hK hw.1 q0 2 h2 (ty := .long) rfl hv hdg kk
theorem q_lenS {a : Nat} {v : Int32} (X : Cx p s m args meth c cc nL ret own G A) (hw : PX G A s.heap S H locs) (ha : is S 15 a) (hv : Int32.ofNat (pN S a) = v) (hdg : decode cc pc = .ok (.arraylength, 1))
    (kk : W p l e R s m args below meth c H locs cells slots Q (F0 m (pc + 1) ls (.int v :: rest))) : W p l e R s m args below meth c H locs cells slots Q (F0 m pc ls (.ref a :: rest)) := by
  obtain ⟨q0, h1, h2⟩ := pw_at (G := G) ha.1 (pF_k ha.2)
  obtain ⟨⟨hx, hb, -, hown, hts⟩, -, -, hK, -⟩ := X
  exact va_alen hx hb hK hw.1 q0 3 h2 (ty := .short) rfl hv hdg kk
theorem q_lenZ {a : Nat} {v : Int32} (X : Cx p s m args meth c cc nL ret own G A) (hw : PX G A s.heap S H locs) (ha : is S 16 a) (hv : Int32.ofNat (pN S a) = v) (hdg : decode cc pc = .ok (.arraylength, 1))
    (kk : W p l e R s m args below meth c H locs cells slots Q (F0 m (pc + 1) ls (.int v :: rest))) : W p l e R s m args below meth c H locs cells slots Q (F0 m pc ls (.ref a :: rest)) := by
  obtain ⟨q0, h1, h2⟩ := pw_at (G := G) ha.1 (pF_k ha.2)
  obtain ⟨⟨hx, hb, -, hown, hts⟩, -, -, hK, -⟩ := X
  exact va_alen hx hb hK hw.1 q0 4 h2 (ty := .boolean) rfl hv hdg kk
theorem q_lenFlow {a : Nat} {v : Int32} (X : Cx p s m args meth c cc nL ret own G A) (hw : PX G A s.heap S H locs) (ha : is S 17 a) (hv : Int32.ofNat (pN S a) = v) (hdg : decode cc pc = .ok (.arraylength, 1))
    (kk : W p l e R s m args below meth c H locs cells slots Q (F0 m (pc + 1) ls (.int v :: rest))) : W p l e R s m args below meth c H locs cells slots Q (F0 m pc ls (.ref a :: rest)) := by
  obtain ⟨q0, h1, h2⟩ := pw_at (G := G) ha.1 (pF_k ha.2)
  obtain ⟨⟨hx, hb, -, hown, hts⟩, -, -, hK, -⟩ := X
  exact va_alen hx hb hK hw.1 q0 5 h2 (ty := .object "DriftDesk$Flow") rfl hv hdg kk
theorem q_lenObject {a : Nat} {v : Int32} (X : Cx p s m args meth c cc nL ret own G A) (hw : PX G A s.heap S H locs) (ha : is S 18 a) (hv : Int32.ofNat (pN S a) = v) (hdg : decode cc pc = .ok (.arraylength, 1))
    (kk : W p l e R s m args below meth c H locs cells slots Q (F0 m (pc + 1) ls (.int v :: rest))) : W p l e R s m args below meth c H locs cells slots Q (F0 m pc ls (.ref a :: rest)) := by
  obtain ⟨q0, h1, h2⟩ := pw_at (G := G) ha.1 (pF_k ha.2)
  obtain ⟨⟨hx, hb, -, hown, hts⟩, -, -, hK, -⟩ := X
  exact va_alen hx hb hK hw.1 q0 6 h2 (ty := .object "java/lang/Object") rfl hv hdg kk
theorem q_ldFlow {a : Nat} {i : Int32} {v : Value} (X : Cx p s m args meth c cc nL ret own G A) (hw : PX G A s.heap S H locs) (ha : is S 17 a) (hin : vp_in i (pN S a)) (hv : va_rf (qR S a i.toNatClampNeg) = v) (hdg : decode cc pc = .ok (.aaload, 1))
    (kk : W p l e R s m args below meth c H locs cells slots Q (F0 m (pc + 1) ls (v :: rest))) : W p l e R s m args below meth c H locs cells slots Q (F0 m pc ls (.int i :: .ref a :: rest)) := by
  obtain ⟨q0, h1, h2⟩ := pw_at (G := G) ha.1 (pF_k ha.2)
  obtain ⟨⟨hx, hb, -, hown, hts⟩, -, -, hK, -⟩ := X
  subst hv
  exact va_aldq hx hb hK hw.1 q0 5 h2 rfl hin hdg kk
theorem q_ldObject {a : Nat} {i : Int32} {v : Value} (X : Cx p s m args meth c cc nL ret own G A) (hw : PX G A s.heap S H locs) (ha : is S 18 a) (hin : vp_in i (pN S a)) (hv : va_rf (qR S a i.toNatClampNeg) = v) (hdg : decode cc pc = .ok (.aaload, 1))
    (kk : W p l e R s m args below meth c H locs cells slots Q (F0 m (pc + 1) ls (v :: rest))) : W p l e R s m args below meth c H locs cells slots Q (F0 m pc ls (.int i :: .ref a :: rest)) := by
  obtain ⟨q0, h1, h2⟩ := pw_at (G := G) ha.1 (pF_k ha.2)
  obtain ⟨⟨hx, hb, -, hown, hts⟩, -, -, hK, -⟩ := X
  subst hv
  exact va_aldq hx hb hK hw.1 q0 6 h2 rfl hin hdg kk
theorem q_nwB {n : Int32} {N' : Nat} (X : Cx p s m args meth c cc nL ret own G A) (hw : PX G A s.heap S H locs) (hcl : Cond.arrayClass .byte ∈ wsL_law) (hn : ¬ n < 0) (hN : n.toNatClampNeg = N') (hbytes : N' * componentBytes .byte ≤ 536870912) (hcells : cells + 1 ≤ R.cells) (hslots : slots + N' ≤ R.slots) (hdg : decode cc pc = .ok (.newarray .byte, 2))
    (kk : ∀ (q : Nat) (H1 : Heap), q ∉ pL S → PX G A s.heap (nA S q 12 N') H1 locs → W p l e R s m args below meth c H1 locs (cells + 1) (slots + N') Q (F0 m (pc + 2) ls (.ref q :: rest))) : W p l e R s m args below meth c H locs cells slots Q (F0 m pc ls (.int n :: rest)) := by
  obtain ⟨⟨hx, hb, -, hown, hts⟩, -, -, hK, -, hA, -⟩ := X
  refine va_newa (atype := .byte) (a0 := (N', .inl (fun _ => 0))) hx hb (hts _ hcl) (ty := .byte) rfl hK hw.1 hw.2.1 hw.2.2 hA (fun cA => rfl) hn hN hbytes hcells hslots hdg (fun q cA H1 hK1 hP hD hS1 => ?_)
  have e : cA = G.2.1 0 := Option.some.inj (((hK1.2 7 (cA, .byte) rfl).2.symm).trans (hK.2 0 (G.2.1 0, .byte) rfl).2)
  subst e
  have hq : q ∉ pL S := va_pl_fresh2 (X := []) (L := pL S) (f := pF G S) (e := .inl (G.2.1 0, N', .inl (fun _ => 0))) (by simpa using hD)
  have e2 : pw G S ++ [(q, (.inl (G.2.1 0, N', .inl (fun _ => 0)) : va_E))] = pw G (nA S q 12 N') := by
    rw [va_pl_push hq]; exact va_pl_congr (pF_nA (k := 12) (n := N') rfl)
  rw [e2] at hP hD
  exact kk q H1 hq ⟨hP, hD, hS1⟩
theorem q_nwI {n : Int32} {N' : Nat} (X : Cx p s m args meth c cc nL ret own G A) (hw : PX G A s.heap S H locs) (hcl : Cond.arrayClass .int ∈ wsL_law) (hn : ¬ n < 0) (hN : n.toNatClampNeg = N') (hbytes : N' * componentBytes .int ≤ 536870912) (hcells : cells + 1 ≤ R.cells) (hslots : slots + N' ≤ R.slots) (hdg : decode cc pc = .ok (.newarray .int, 2))
    (kk : ∀ (q : Nat) (H1 : Heap), q ∉ pL S → PX G A s.heap (nA S q 13 N') H1 locs → W p l e R s m args below meth c H1 locs (cells + 1) (slots + N') Q (F0 m (pc + 2) ls (.ref q :: rest))) : W p l e R s m args below meth c H locs cells slots Q (F0 m pc ls (.int n :: rest)) := by
  obtain ⟨⟨hx, hb, -, hown, hts⟩, -, -, hK, -, hA, -⟩ := X
  refine va_newa (atype := .int) (a0 := (N', .inl (fun _ => 0))) hx hb (hts _ hcl) (ty := .int) rfl hK hw.1 hw.2.1 hw.2.2 hA (fun cA => rfl) hn hN hbytes hcells hslots hdg (fun q cA H1 hK1 hP hD hS1 => ?_)
  have e : cA = G.2.1 1 := Option.some.inj (((hK1.2 7 (cA, .int) rfl).2.symm).trans (hK.2 1 (G.2.1 1, .int) rfl).2)
  subst e
  have hq : q ∉ pL S := va_pl_fresh2 (X := []) (L := pL S) (f := pF G S) (e := .inl (G.2.1 1, N', .inl (fun _ => 0))) (by simpa using hD)
  have e2 : pw G S ++ [(q, (.inl (G.2.1 1, N', .inl (fun _ => 0)) : va_E))] = pw G (nA S q 13 N') := by
    rw [va_pl_push hq]; exact va_pl_congr (pF_nA (k := 13) (n := N') rfl)
  rw [e2] at hP hD
  exact kk q H1 hq ⟨hP, hD, hS1⟩
theorem q_nwJ {n : Int32} {N' : Nat} (X : Cx p s m args meth c cc nL ret own G A) (hw : PX G A s.heap S H locs) (hcl : Cond.arrayClass .long ∈ wsL_law) (hn : ¬ n < 0) (hN : n.toNatClampNeg = N') (hbytes : N' * componentBytes .long ≤ 536870912) (hcells : cells + 1 ≤ R.cells) (hslots : slots + N' ≤ R.slots) (hdg : decode cc pc = .ok (.newarray .long, 2))
    (kk : ∀ (q : Nat) (H1 : Heap), q ∉ pL S → PX G A s.heap (nA S q 14 N') H1 locs → W p l e R s m args below meth c H1 locs (cells + 1) (slots + N') Q (F0 m (pc + 2) ls (.ref q :: rest))) : W p l e R s m args below meth c H locs cells slots Q (F0 m pc ls (.int n :: rest)) := by
  obtain ⟨⟨hx, hb, -, hown, hts⟩, -, -, hK, -, hA, -⟩ := X
  refine va_newa (atype := .long) (a0 := (N', .inr (.inl (fun _ => 0)))) hx hb (hts _ hcl) (ty := .long) rfl hK hw.1 hw.2.1 hw.2.2 hA (fun cA => rfl) hn hN hbytes hcells hslots hdg (fun q cA H1 hK1 hP hD hS1 => ?_)
  have e : cA = G.2.1 2 := Option.some.inj (((hK1.2 7 (cA, .long) rfl).2.symm).trans (hK.2 2 (G.2.1 2, .long) rfl).2)
  subst e
  have hq : q ∉ pL S := va_pl_fresh2 (X := []) (L := pL S) (f := pF G S) (e := .inl (G.2.1 2, N', .inr (.inl (fun _ => 0)))) (by simpa using hD)
  have e2 : pw G S ++ [(q, (.inl (G.2.1 2, N', .inr (.inl (fun _ => 0))) : va_E))] = pw G (nA S q 14 N') := by
    rw [va_pl_push hq]; exact va_pl_congr (pF_nA (k := 14) (n := N') rfl)
  rw [e2] at hP hD
  exact kk q H1 hq ⟨hP, hD, hS1⟩
theorem q_nwS {n : Int32} {N' : Nat} (X : Cx p s m args meth c cc nL ret own G A) (hw : PX G A s.heap S H locs) (hcl : Cond.arrayClass .short ∈ wsL_law) (hn : ¬ n < 0) (hN : n.toNatClampNeg = N') (hbytes : N' * componentBytes .short ≤ 536870912) (hcells : cells + 1 ≤ R.cells) (hslots : slots + N' ≤ R.slots) (hdg : decode cc pc = .ok (.newarray .short, 2))
    (kk : ∀ (q : Nat) (H1 : Heap), q ∉ pL S → PX G A s.heap (nA S q 15 N') H1 locs → W p l e R s m args below meth c H1 locs (cells + 1) (slots + N') Q (F0 m (pc + 2) ls (.ref q :: rest))) : W p l e R s m args below meth c H locs cells slots Q (F0 m pc ls (.int n :: rest)) := by
  obtain ⟨⟨hx, hb, -, hown, hts⟩, -, -, hK, -, hA, -⟩ := X
  refine va_newa (atype := .short) (a0 := (N', .inl (fun _ => 0))) hx hb (hts _ hcl) (ty := .short) rfl hK hw.1 hw.2.1 hw.2.2 hA (fun cA => rfl) hn hN hbytes hcells hslots hdg (fun q cA H1 hK1 hP hD hS1 => ?_)
  have e : cA = G.2.1 3 := Option.some.inj (((hK1.2 7 (cA, .short) rfl).2.symm).trans (hK.2 3 (G.2.1 3, .short) rfl).2)
  subst e
  have hq : q ∉ pL S := va_pl_fresh2 (X := []) (L := pL S) (f := pF G S) (e := .inl (G.2.1 3, N', .inl (fun _ => 0))) (by simpa using hD)
  have e2 : pw G S ++ [(q, (.inl (G.2.1 3, N', .inl (fun _ => 0)) : va_E))] = pw G (nA S q 15 N') := by
    rw [va_pl_push hq]; exact va_pl_congr (pF_nA (k := 15) (n := N') rfl)
  rw [e2] at hP hD
  exact kk q H1 hq ⟨hP, hD, hS1⟩
theorem q_nwZ {n : Int32} {N' : Nat} (X : Cx p s m args meth c cc nL ret own G A) (hw : PX G A s.heap S H locs) (hcl : Cond.arrayClass .boolean ∈ wsL_law) (hn : ¬ n < 0) (hN : n.toNatClampNeg = N') (hbytes : N' * componentBytes .boolean ≤ 536870912) (hcells : cells + 1 ≤ R.cells) (hslots : slots + N' ≤ R.slots) (hdg : decode cc pc = .ok (.newarray .boolean, 2))
    (kk : ∀ (q : Nat) (H1 : Heap), q ∉ pL S → PX G A s.heap (nA S q 16 N') H1 locs → W p l e R s m args below meth c H1 locs (cells + 1) (slots + N') Q (F0 m (pc + 2) ls (.ref q :: rest))) : W p l e R s m args below meth c H locs cells slots Q (F0 m pc ls (.int n :: rest)) := by
  obtain ⟨⟨hx, hb, -, hown, hts⟩, -, -, hK, -, hA, -⟩ := X
  refine va_newa (atype := .boolean) (a0 := (N', .inl (fun _ => 0))) hx hb (hts _ hcl) (ty := .boolean) rfl hK hw.1 hw.2.1 hw.2.2 hA (fun cA => rfl) hn hN hbytes hcells hslots hdg (fun q cA H1 hK1 hP hD hS1 => ?_)
  have e : cA = G.2.1 4 := Option.some.inj (((hK1.2 7 (cA, .boolean) rfl).2.symm).trans (hK.2 4 (G.2.1 4, .boolean) rfl).2)
  subst e
  have hq : q ∉ pL S := va_pl_fresh2 (X := []) (L := pL S) (f := pF G S) (e := .inl (G.2.1 4, N', .inl (fun _ => 0))) (by simpa using hD)
  have e2 : pw G S ++ [(q, (.inl (G.2.1 4, N', .inl (fun _ => 0)) : va_E))] = pw G (nA S q 16 N') := by
    rw [va_pl_push hq]; exact va_pl_congr (pF_nA (k := 16) (n := N') rfl)
  rw [e2] at hP hD
  exact kk q H1 hq ⟨hP, hD, hS1⟩
theorem q_new {C : String} {T : u_T} {N ci index k : Nat} {fs : List Value} {ty0 : Nat → FieldType} (X : Cx p s m args meth c cc nL ret own G A) (hw : PX G A s.heap S H locs) (hc : vwCl[ci]? = some (C, T, N)) (hin : ∀ w ∈ u_ws C T N, w ∈ wsL_law) (hty : ∀ k, k < N → parseFieldDescriptor (T k).2.2.1 = some (ty0 k)) (hfs : ∀ j, j < N → defaultValue (ty0 j) = vp_V fs j) (h1 : Cond.classLink own index C ∈ wsL_law) (h2 : Cond.instantiable C N ∈ wsL_law) (h3 : Cond.initialized C ∈ wsL_law) (he : ∀ (n : Nat) (x : Nat → Int32) (y : Nat → Int64) (z : Nat → Option Nat), pE G (fun _ => 0) (fun _ => 0) (fun _ => none) n x y z k = .inr (ci, fs)) (hcells : cells + 1 ≤ R.cells) (hslots : slots + N ≤ R.slots) (hdg : decode cc pc = .ok (.new index, 3))
    (kk : ∀ (q : Nat) (H1 : Heap), q ∉ pL S → PX G A s.heap (nO S q k) H1 locs → W p l e R s m args below meth c H1 locs (cells + 1) (slots + N) Q (F0 m (pc + 3) ls (.ref q :: rest))) : W p l e R s m args below meth c H locs cells slots Q (F0 m pc ls rest) := by
  obtain ⟨⟨hx, hb, -, hown, hts⟩, -, -, hK, -, hA, -⟩ := X
  refine va_new (fs := fs) hx hb hts hin ty0 hty hown (hts _ h1) (hts _ h2) (hts _ h3) hK hw.1 hw.2.1 hw.2.2 hA hc hfs hcells hslots hdg (fun q H1 hP hD hS1 => ?_)
  have hq : q ∉ pL S := va_pl_fresh2 (X := []) (L := pL S) (f := pF G S) (e := .inr (ci, fs)) (by simpa using hD)
  have e2 : pw G S ++ [(q, (.inr (ci, fs) : va_E))] = pw G (nO S q k) := by
    rw [va_pl_push hq]; exact va_pl_congr (pF_nO (k := k) (he _ _ _ _))
  rw [e2] at hP hD
  exact kk q H1 hq ⟨hP, hD, hS1⟩
/-! calls -/
theorem pr_blind {av : List Value} {sz : Nat} : FrameBlind (va_Pc av (Pr G S sz)) := fun a U g mk q => by
  obtain ⟨q0, q1, qP, qK, qD, qE⟩ := q
  exact ⟨q0, q1, qP, va_K.moved (u := U) (U := U.calling g mk a) (Vm.Alike.refl U.vm) qK, qD, En.call g mk a qE⟩
theorem pw_free {H0 : Heap} (hw : PX G A H0 S H locs) (hA : ∀ q, H0.size ≤ q → A q) : ∀ q, va_A (pw G S) H.size q → A q := by
  intro q h
  rcases h with ⟨k, e, h⟩ | h
  · exact hw.2.1.2 k (q, e) h
  · exact hA q (Nat.le_trans hw.2.2.1 h)
theorem pr_of {av : List Value} (X : Cx p s m args meth c cc nL ret own G A) (hw : PX G A s.heap S H locs) (U : State) (hU : U.heap = H) (hW : s.WarmedH U.vm) : va_Pc av (Pr G S H.size) av.toArray U := by
  obtain ⟨-, -, -, hK, hE, hA, -⟩ := X
  refine ⟨rfl, by rw [hU], by rw [hU]; exact hw.1, va_K.moved hW.alike hK, hw.2.1.weaken (fun _ _ _ _ => trivial), ?_⟩
  rw [hU]
  exact En.warm hW ((hE.kept hw.2.2.2.1).narrow (pw_free hw hA))
theorem px_back {S' : Pl} {t : State} {H1 : Heap} {locs1 : List Loc} {H0 : Heap} (hw : PX G A H0 S H locs) (hA : ∀ q, H0.size ≤ q → A q) (ht : t.heap = H1) (hB : At G S H.size S' t) (hS : va_S A H0 H1 locs1) : PX G A H0 S' H1 locs1 := by
  subst ht
  exact ⟨hB.1, hB.2.weaken (fun k q _ h => pw_free hw hA q.1 h), hS⟩
theorem gd_all : ∀ w ∈ wsL_law, (w.onTables && w.keeps) = true ∨ ∃ ty, w = .arrayClass ty := fun w h => good_of_word (List.all_eq_true.mp wsL_good w h)
theorem gd_code {y : MethodName} {bytes : ByteArray} {k : Nat} {r : Option FieldType} (h : Cond.code y bytes k r ∈ wsL_law) : GoodIn wsL_law (Cond.code y bytes k r :: wsL_law) := fun w hw => by
  rcases List.mem_cons.mp hw with rfl | h2
  · exact ⟨h, gd_all _ h⟩
  · exact ⟨h2, gd_all _ h2⟩
theorem rcv {C : String} {T : u_T} {N ci a : Nat} {fs : List Value} (X : Cx p s m args meth c cc nL ret own G A) (hw : PX G A s.heap S H locs) (ha : a ∈ pL S) (he : pF G S a = .inr (ci, fs)) (hc : vwCl[ci]? = some (C, T, N)) : ∃ cell : Cell, H[a]? = some cell ∧ cell.vm.isStatics = false ∧ s.vm.findClass C = some cell.cls := by
  obtain ⟨q0, h1, h2⟩ := pw_at ha he
  obtain ⟨-, -, -, hK, -⟩ := X
  exact va_recv hK hw.1 hc h2
theorem k_Si {y : MethodName} {bytes : ByteArray} {maxL mc ms n index : Nat} {ret2 : Option FieldType} {rm : Room} {As st : List Value} {post : Int32 → Pl → Prop} (X : Cx p s m args meth c cc nL ret own G A) (hw : PX G A s.heap S H locs) (hM : MtI l y bytes maxL ret2 rm G As S post mc ms) (h1 : Cond.methodLink own index y ∈ wsL_law) (h2 : Cond.static y ∈ wsL_law) (h3 : Cond.initialized y.cls ∈ wsL_law) (h4 : Cond.code y bytes maxL ret2 ∈ wsL_law) (hd : y.cls ≠ "java/lang/invoke/MethodHandle" ∧ y.cls ≠ "java/lang/invoke/VarHandle" ∧ (parseMethodDescriptor y.desc).map (fun d => d.parameters.length) = some n) (hrc : rm.cells = mc) (hrs : rm.slots = ms) (hR : rm.frames + 1 ≤ R.frames ∧ 8 + (maxL + 11) + rm.locals ≤ R.locals) (hn : As.length = n) (hst : st = As.reverse ++ rest) (hls : ls.size = nL) (hW : (rest.map fun v => v.category).sum ≤ 8) (hdg : decode cc pc = .ok (.invokestatic index, 3)) (hf : cells + mc ≤ R.cells ∧ slots + ms ≤ R.slots)
    (kk : ∀ (r : Int32) (S' : Pl) (H1 : Heap) (locs1 : List Loc), post r S' → PX G A s.heap S' H1 locs1 → W p l e R s m args below meth c H1 locs1 (cells + mc) (slots + ms) Q (F0 m (pc + 3) ls (.int r :: rest))) : W p l e R s m args below meth c H locs cells slots Q (F0 m pc ls st) := by
  have X0 := X
  obtain ⟨⟨hx, hb, hml, hown, hts⟩, -, -, hK, hE, hA, -⟩ := X
  exact va_calli (va_runS (As := As) (rest := rest) ⟨hx, hb, hml, hown, hts⟩ (hM H.size) ⟨callB_of n hts (gd_code h4) rfl hrc hrs (hts _ h3) (hts _ h1) hd hR, hts _ h2⟩ ⟨pr_blind, fun U hU hW => pr_of X0 hw U hU hW⟩ rfl hn hls hst (by simpa [JFrame.monitorRoom] using hW) hdg hf) hw.2.2 (fun q _ h => pw_free hw hA q h) (pw_free hw hA) (fun r S' t H1 locs1 ht hvm hp hB _ _ hS1 => kk r S' H1 locs1 hp (px_back hw hA ht hB hS1))
theorem k_SNi {y : MethodName} {bytes : ByteArray} {maxL mc ms n index : Nat} {ret2 : Option FieldType} {rm : Room} {As st : List Value} {post : Int32 → Pl → Prop} {host : String} (X : Cx p s m args meth c cc nL ret own G A) (hw : PX G A s.heap S H locs) (hM : MtI l y bytes maxL ret2 rm G As S post mc ms) (h1 : (own, index, y, host) ∈ nestM) (h2 : Cond.static y ∈ wsL_law) (h3 : Cond.initialized y.cls ∈ wsL_law) (h4 : Cond.code y bytes maxL ret2 ∈ wsL_law) (hd : y.cls ≠ "java/lang/invoke/MethodHandle" ∧ y.cls ≠ "java/lang/invoke/VarHandle" ∧ (parseMethodDescriptor y.desc).map (fun d => d.parameters.length) = some n) (hrc : rm.cells = mc) (hrs : rm.slots = ms) (hR : rm.frames + 1 ≤ R.frames ∧ 8 + (maxL + 11) + rm.locals ≤ R.locals) (hn : As.length = n) (hst : st = As.reverse ++ rest) (hls : ls.size = nL) (hW : (rest.map fun v => v.category).sum ≤ 8) (hdg : decode cc pc = .ok (.invokestatic index, 3)) (hf : cells + mc ≤ R.cells ∧ slots + ms ≤ R.slots)
    (kk : ∀ (r : Int32) (S' : Pl) (H1 : Heap) (locs1 : List Loc), post r S' → PX G A s.heap S' H1 locs1 → W p l e R s m args below meth c H1 locs1 (cells + mc) (slots + ms) Q (F0 m (pc + 3) ls (.int r :: rest))) : W p l e R s m args below meth c H locs cells slots Q (F0 m pc ls st) := by
  have X0 := X
  obtain ⟨⟨hx, hb, hml, hown, hts⟩, -, -, hK, hE, hA, -⟩ := X
  exact va_calli (va_runSN (host := host) (As := As) (rest := rest) ⟨hx, hb, hml, hown, hts⟩ (hM H.size) ⟨va_cnB n hts (gd_code h4) rfl hrc hrs (hE.1 _ h1) (hts _ h3) hd hR, hts _ h2, trivial⟩ ⟨pr_blind, fun U hU hW => pr_of X0 hw U hU hW⟩ rfl hn hls hst (by simpa [JFrame.monitorRoom] using hW) hdg hf) hw.2.2 (fun q _ h => pw_free hw hA q h) (pw_free hw hA) (fun r S' t H1 locs1 ht hvm hp hB _ _ hS1 => kk r S' H1 locs1 hp (px_back hw hA ht hB hS1))
theorem k_Vi {y : MethodName} {bytes : ByteArray} {maxL mc ms n index : Nat} {ret2 : Option FieldType} {rm : Room} {As st : List Value} {post : Int32 → Pl → Prop} {b : Nat} (X : Cx p s m args meth c cc nL ret own G A) (hw : PX G A s.heap S H locs) (hr : ∃ cell : Cell, H[b]? = some cell ∧ cell.vm.isStatics = false ∧ s.vm.findClass y.cls = some cell.cls) (hM : MtI l y bytes maxL ret2 rm G (.ref b :: As) S post mc ms) (h1 : Cond.methodLink own index y ∈ wsL_law) (h2 : Cond.instanceMethod y ∈ wsL_law) (h5 : Cond.selects y.cls y y ∈ wsL_law) (h3 : Cond.initialized y.cls ∈ wsL_law) (h4 : Cond.code y bytes maxL ret2 ∈ wsL_law) (hd : y.cls ≠ "java/lang/invoke/MethodHandle" ∧ y.cls ≠ "java/lang/invoke/VarHandle" ∧ (parseMethodDescriptor y.desc).map (fun d => d.parameters.length) = some n) (hrc : rm.cells = mc) (hrs : rm.slots = ms) (hR : rm.frames + 1 ≤ R.frames ∧ 8 + (maxL + 11) + rm.locals ≤ R.locals) (hn : As.length = n) (hst : st = As.reverse ++ .ref b :: rest) (hls : ls.size = nL) (hW : (rest.map fun v => v.category).sum ≤ 8) (hdg : decode cc pc = .ok (.invokevirtual index, 3)) (hf : cells + mc ≤ R.cells ∧ slots + ms ≤ R.slots)
    (kk : ∀ (r : Int32) (S' : Pl) (H1 : Heap) (locs1 : List Loc), post r S' → PX G A s.heap S' H1 locs1 → W p l e R s m args below meth c H1 locs1 (cells + mc) (slots + ms) Q (F0 m (pc + 3) ls (.int r :: rest))) : W p l e R s m args below meth c H locs cells slots Q (F0 m pc ls st) := by
  have X0 := X
  obtain ⟨⟨hx, hb, hml, hown, hts⟩, -, -, hK, hE, hA, -⟩ := X
  exact va_calli (va_runV (C := y.cls) (As := As) (rest := rest) ⟨hx, hb, hml, hown, hts⟩ (hM H.size) ⟨callB_of n hts (gd_code h4) rfl hrc hrs (hts _ h3) (hts _ h1) hd hR, hts _ h2, hts _ h5⟩ ⟨pr_blind, hr, fun U hU hW => pr_of X0 hw U hU hW⟩ rfl hn hls hst (by simpa [JFrame.monitorRoom] using hW) hdg hf) hw.2.2 (fun q _ h => pw_free hw hA q h) (pw_free hw hA) (fun r S' t H1 locs1 ht hvm hp hB _ _ hS1 => kk r S' H1 locs1 hp (px_back hw hA ht hB hS1))
theorem k_Sl {y : MethodName} {bytes : ByteArray} {maxL mc ms n index : Nat} {ret2 : Option FieldType} {rm : Room} {As st : List Value} {post : Int64 → Pl → Prop} (X : Cx p s m args meth c cc nL ret own G A) (hw : PX G A s.heap S H locs) (hM : MtL l y bytes maxL ret2 rm G As S post mc ms) (h1 : Cond.methodLink own index y ∈ wsL_law) (h2 : Cond.static y ∈ wsL_law) (h3 : Cond.initialized y.cls ∈ wsL_law) (h4 : Cond.code y bytes maxL ret2 ∈ wsL_law) (hd : y.cls ≠ "java/lang/invoke/MethodHandle" ∧ y.cls ≠ "java/lang/invoke/VarHandle" ∧ (parseMethodDescriptor y.desc).map (fun d => d.parameters.length) = some n) (hrc : rm.cells = mc) (hrs : rm.slots = ms) (hR : rm.frames + 1 ≤ R.frames ∧ 8 + (maxL + 11) + rm.locals ≤ R.locals) (hn : As.length = n) (hst : st = As.reverse ++ rest) (hls : ls.size = nL) (hW : (rest.map fun v => v.category).sum ≤ 8) (hdg : decode cc pc = .ok (.invokestatic index, 3)) (hf : cells + mc ≤ R.cells ∧ slots + ms ≤ R.slots)
    (kk : ∀ (r : Int64) (S' : Pl) (H1 : Heap) (locs1 : List Loc), post r S' → PX G A s.heap S' H1 locs1 → W p l e R s m args below meth c H1 locs1 (cells + mc) (slots + ms) Q (F0 m (pc + 3) ls (.long r :: rest))) : W p l e R s m args below meth c H locs cells slots Q (F0 m pc ls st) := by
  have X0 := X
  obtain ⟨⟨hx, hb, hml, hown, hts⟩, -, -, hK, hE, hA, -⟩ := X
  exact va_calll (va_runS (As := As) (rest := rest) ⟨hx, hb, hml, hown, hts⟩ (hM H.size) ⟨callB_of n hts (gd_code h4) rfl hrc hrs (hts _ h3) (hts _ h1) hd hR, hts _ h2⟩ ⟨pr_blind, fun U hU hW => pr_of X0 hw U hU hW⟩ rfl hn hls hst (by simpa [JFrame.monitorRoom] using hW) hdg hf) hw.2.2 (fun q _ h => pw_free hw hA q h) (pw_free hw hA) (fun r S' t H1 locs1 ht hvm hp hB _ _ hS1 => kk r S' H1 locs1 hp (px_back hw hA ht hB hS1))
theorem k_SNl {y : MethodName} {bytes : ByteArray} {maxL mc ms n index : Nat} {ret2 : Option FieldType} {rm : Room} {As st : List Value} {post : Int64 → Pl → Prop} {host : String} (X : Cx p s m args meth c cc nL ret own G A) (hw : PX G A s.heap S H locs) (hM : MtL l y bytes maxL ret2 rm G As S post mc ms) (h1 : (own, index, y, host) ∈ nestM) (h2 : Cond.static y ∈ wsL_law) (h3 : Cond.initialized y.cls ∈ wsL_law) (h4 : Cond.code y bytes maxL ret2 ∈ wsL_law) (hd : y.cls ≠ "java/lang/invoke/MethodHandle" ∧ y.cls ≠ "java/lang/invoke/VarHandle" ∧ (parseMethodDescriptor y.desc).map (fun d => d.parameters.length) = some n) (hrc : rm.cells = mc) (hrs : rm.slots = ms) (hR : rm.frames + 1 ≤ R.frames ∧ 8 + (maxL + 11) + rm.locals ≤ R.locals) (hn : As.length = n) (hst : st = As.reverse ++ rest) (hls : ls.size = nL) (hW : (rest.map fun v => v.category).sum ≤ 8) (hdg : decode cc pc = .ok (.invokestatic index, 3)) (hf : cells + mc ≤ R.cells ∧ slots + ms ≤ R.slots)
    (kk : ∀ (r : Int64) (S' : Pl) (H1 : Heap) (locs1 : List Loc), post r S' → PX G A s.heap S' H1 locs1 → W p l e R s m args below meth c H1 locs1 (cells + mc) (slots + ms) Q (F0 m (pc + 3) ls (.long r :: rest))) : W p l e R s m args below meth c H locs cells slots Q (F0 m pc ls st) := by
  have X0 := X
  obtain ⟨⟨hx, hb, hml, hown, hts⟩, -, -, hK, hE, hA, -⟩ := X
  exact va_calll (va_runSN (host := host) (As := As) (rest := rest) ⟨hx, hb, hml, hown, hts⟩ (hM H.size) ⟨va_cnB n hts (gd_code h4) rfl hrc hrs (hE.1 _ h1) (hts _ h3) hd hR, hts _ h2, trivial⟩ ⟨pr_blind, fun U hU hW => pr_of X0 hw U hU hW⟩ rfl hn hls hst (by simpa [JFrame.monitorRoom] using hW) hdg hf) hw.2.2 (fun q _ h => pw_free hw hA q h) (pw_free hw hA) (fun r S' t H1 locs1 ht hvm hp hB _ _ hS1 => kk r S' H1 locs1 hp (px_back hw hA ht hB hS1))
theorem k_Vl {y : MethodName} {bytes : ByteArray} {maxL mc ms n index : Nat} {ret2 : Option FieldType} {rm : Room} {As st : List Value} {post : Int64 → Pl → Prop} {b : Nat} (X : Cx p s m args meth c cc nL ret own G A) (hw : PX G A s.heap S H locs) (hr : ∃ cell : Cell, H[b]? = some cell ∧ cell.vm.isStatics = false ∧ s.vm.findClass y.cls = some cell.cls) (hM : MtL l y bytes maxL ret2 rm G (.ref b :: As) S post mc ms) (h1 : Cond.methodLink own index y ∈ wsL_law) (h2 : Cond.instanceMethod y ∈ wsL_law) (h5 : Cond.selects y.cls y y ∈ wsL_law) (h3 : Cond.initialized y.cls ∈ wsL_law) (h4 : Cond.code y bytes maxL ret2 ∈ wsL_law) (hd : y.cls ≠ "java/lang/invoke/MethodHandle" ∧ y.cls ≠ "java/lang/invoke/VarHandle" ∧ (parseMethodDescriptor y.desc).map (fun d => d.parameters.length) = some n) (hrc : rm.cells = mc) (hrs : rm.slots = ms) (hR : rm.frames + 1 ≤ R.frames ∧ 8 + (maxL + 11) + rm.locals ≤ R.locals) (hn : As.length = n) (hst : st = As.reverse ++ .ref b :: rest) (hls : ls.size = nL) (hW : (rest.map fun v => v.category).sum ≤ 8) (hdg : decode cc pc = .ok (.invokevirtual index, 3)) (hf : cells + mc ≤ R.cells ∧ slots + ms ≤ R.slots)
    (kk : ∀ (r : Int64) (S' : Pl) (H1 : Heap) (locs1 : List Loc), post r S' → PX G A s.heap S' H1 locs1 → W p l e R s m args below meth c H1 locs1 (cells + mc) (slots + ms) Q (F0 m (pc + 3) ls (.long r :: rest))) : W p l e R s m args below meth c H locs cells slots Q (F0 m pc ls st) := by
  have X0 := X
  obtain ⟨⟨hx, hb, hml, hown, hts⟩, -, -, hK, hE, hA, -⟩ := X
  exact va_calll (va_runV (C := y.cls) (As := As) (rest := rest) ⟨hx, hb, hml, hown, hts⟩ (hM H.size) ⟨callB_of n hts (gd_code h4) rfl hrc hrs (hts _ h3) (hts _ h1) hd hR, hts _ h2, hts _ h5⟩ ⟨pr_blind, hr, fun U hU hW => pr_of X0 hw U hU hW⟩ rfl hn hls hst (by simpa [JFrame.monitorRoom] using hW) hdg hf) hw.2.2 (fun q _ h => pw_free hw hA q h) (pw_free hw hA) (fun r S' t H1 locs1 ht hvm hp hB _ _ hS1 => kk r S' H1 locs1 hp (px_back hw hA ht hB hS1))
theorem k_Sv {y : MethodName} {bytes : ByteArray} {maxL mc ms n index : Nat} {ret2 : Option FieldType} {rm : Room} {As st : List Value} {post : Pl → Prop} (X : Cx p s m args meth c cc nL ret own G A) (hw : PX G A s.heap S H locs) (hM : MtV l y bytes maxL ret2 rm G As S post mc ms) (h1 : Cond.methodLink own index y ∈ wsL_law) (h2 : Cond.static y ∈ wsL_law) (h3 : Cond.initialized y.cls ∈ wsL_law) (h4 : Cond.code y bytes maxL ret2 ∈ wsL_law) (hd : y.cls ≠ "java/lang/invoke/MethodHandle" ∧ y.cls ≠ "java/lang/invoke/VarHandle" ∧ (parseMethodDescriptor y.desc).map (fun d => d.parameters.length) = some n) (hrc : rm.cells = mc) (hrs : rm.slots = ms) (hR : rm.frames + 1 ≤ R.frames ∧ 8 + (maxL + 11) + rm.locals ≤ R.locals) (hn : As.length = n) (hst : st = As.reverse ++ rest) (hls : ls.size = nL) (hW : (rest.map fun v => v.category).sum ≤ 8) (hdg : decode cc pc = .ok (.invokestatic index, 3)) (hf : cells + mc ≤ R.cells ∧ slots + ms ≤ R.slots)
    (kk : ∀ (S' : Pl) (H1 : Heap) (locs1 : List Loc), post S' → PX G A s.heap S' H1 locs1 → W p l e R s m args below meth c H1 locs1 (cells + mc) (slots + ms) Q (F0 m (pc + 3) ls (rest))) : W p l e R s m args below meth c H locs cells slots Q (F0 m pc ls st) := by
  have X0 := X
  obtain ⟨⟨hx, hb, hml, hown, hts⟩, -, -, hK, hE, hA, -⟩ := X
  exact va_callv (va_runS (As := As) (rest := rest) ⟨hx, hb, hml, hown, hts⟩ (hM H.size) ⟨callB_of n hts (gd_code h4) rfl hrc hrs (hts _ h3) (hts _ h1) hd hR, hts _ h2⟩ ⟨pr_blind, fun U hU hW => pr_of X0 hw U hU hW⟩ rfl hn hls hst (by simpa [JFrame.monitorRoom] using hW) hdg hf) hw.2.2 (fun q _ h => pw_free hw hA q h) (pw_free hw hA) (fun S' t H1 locs1 ht hvm hp hB _ _ hS1 => kk S' H1 locs1 hp (px_back hw hA ht hB hS1))
theorem k_SNv {y : MethodName} {bytes : ByteArray} {maxL mc ms n index : Nat} {ret2 : Option FieldType} {rm : Room} {As st : List Value} {post : Pl → Prop} {host : String} (X : Cx p s m args meth c cc nL ret own G A) (hw : PX G A s.heap S H locs) (hM : MtV l y bytes maxL ret2 rm G As S post mc ms) (h1 : (own, index, y, host) ∈ nestM) (h2 : Cond.static y ∈ wsL_law) (h3 : Cond.initialized y.cls ∈ wsL_law) (h4 : Cond.code y bytes maxL ret2 ∈ wsL_law) (hd : y.cls ≠ "java/lang/invoke/MethodHandle" ∧ y.cls ≠ "java/lang/invoke/VarHandle" ∧ (parseMethodDescriptor y.desc).map (fun d => d.parameters.length) = some n) (hrc : rm.cells = mc) (hrs : rm.slots = ms) (hR : rm.frames + 1 ≤ R.frames ∧ 8 + (maxL + 11) + rm.locals ≤ R.locals) (hn : As.length = n) (hst : st = As.reverse ++ rest) (hls : ls.size = nL) (hW : (rest.map fun v => v.category).sum ≤ 8) (hdg : decode cc pc = .ok (.invokestatic index, 3)) (hf : cells + mc ≤ R.cells ∧ slots + ms ≤ R.slots)
    (kk : ∀ (S' : Pl) (H1 : Heap) (locs1 : List Loc), post S' → PX G A s.heap S' H1 locs1 → W p l e R s m args below meth c H1 locs1 (cells + mc) (slots + ms) Q (F0 m (pc + 3) ls (rest))) : W p l e R s m args below meth c H locs cells slots Q (F0 m pc ls st) := by
  have X0 := X
  obtain ⟨⟨hx, hb, hml, hown, hts⟩, -, -, hK, hE, hA, -⟩ := X
  exact va_callv (va_runSN (host := host) (As := As) (rest := rest) ⟨hx, hb, hml, hown, hts⟩ (hM H.size) ⟨va_cnB n hts (gd_code h4) rfl hrc hrs (hE.1 _ h1) (hts _ h3) hd hR, hts _ h2, trivial⟩ ⟨pr_blind, fun U hU hW => pr_of X0 hw U hU hW⟩ rfl hn hls hst (by simpa [JFrame.monitorRoom] using hW) hdg hf) hw.2.2 (fun q _ h => pw_free hw hA q h) (pw_free hw hA) (fun S' t H1 locs1 ht hvm hp hB _ _ hS1 => kk S' H1 locs1 hp (px_back hw hA ht hB hS1))
theorem k_Vv {y : MethodName} {bytes : ByteArray} {maxL mc ms n index : Nat} {ret2 : Option FieldType} {rm : Room} {As st : List Value} {post : Pl → Prop} {b : Nat} (X : Cx p s m args meth c cc nL ret own G A) (hw : PX G A s.heap S H locs) (hr : ∃ cell : Cell, H[b]? = some cell ∧ cell.vm.isStatics = false ∧ s.vm.findClass y.cls = some cell.cls) (hM : MtV l y bytes maxL ret2 rm G (.ref b :: As) S post mc ms) (h1 : Cond.methodLink own index y ∈ wsL_law) (h2 : Cond.instanceMethod y ∈ wsL_law) (h5 : Cond.selects y.cls y y ∈ wsL_law) (h3 : Cond.initialized y.cls ∈ wsL_law) (h4 : Cond.code y bytes maxL ret2 ∈ wsL_law) (hd : y.cls ≠ "java/lang/invoke/MethodHandle" ∧ y.cls ≠ "java/lang/invoke/VarHandle" ∧ (parseMethodDescriptor y.desc).map (fun d => d.parameters.length) = some n) (hrc : rm.cells = mc) (hrs : rm.slots = ms) (hR : rm.frames + 1 ≤ R.frames ∧ 8 + (maxL + 11) + rm.locals ≤ R.locals) (hn : As.length = n) (hst : st = As.reverse ++ .ref b :: rest) (hls : ls.size = nL) (hW : (rest.map fun v => v.category).sum ≤ 8) (hdg : decode cc pc = .ok (.invokevirtual index, 3)) (hf : cells + mc ≤ R.cells ∧ slots + ms ≤ R.slots)
    (kk : ∀ (S' : Pl) (H1 : Heap) (locs1 : List Loc), post S' → PX G A s.heap S' H1 locs1 → W p l e R s m args below meth c H1 locs1 (cells + mc) (slots + ms) Q (F0 m (pc + 3) ls (rest))) : W p l e R s m args below meth c H locs cells slots Q (F0 m pc ls st) := by
  have X0 := X
  obtain ⟨⟨hx, hb, hml, hown, hts⟩, -, -, hK, hE, hA, -⟩ := X
  exact va_callv (va_runV (C := y.cls) (As := As) (rest := rest) ⟨hx, hb, hml, hown, hts⟩ (hM H.size) ⟨callB_of n hts (gd_code h4) rfl hrc hrs (hts _ h3) (hts _ h1) hd hR, hts _ h2, hts _ h5⟩ ⟨pr_blind, hr, fun U hU hW => pr_of X0 hw U hU hW⟩ rfl hn hls hst (by simpa [JFrame.monitorRoom] using hW) hdg hf) hw.2.2 (fun q _ h => pw_free hw hA q h) (pw_free hw hA) (fun S' t H1 locs1 ht hvm hp hB _ _ hS1 => kk S' H1 locs1 hp (px_back hw hA ht hB hS1))
theorem k_Iv {y : MethodName} {bytes : ByteArray} {maxL mc ms n index : Nat} {ret2 : Option FieldType} {rm : Room} {As st : List Value} {post : Pl → Prop} {b : Nat} (X : Cx p s m args meth c cc nL ret own G A) (hw : PX G A s.heap S H locs) (hM : MtV l y bytes maxL none rm G (.ref b :: As) S post mc ms) (h1 : Cond.methodLink own index y ∈ wsL_law) (h2 : Cond.instanceMethod y ∈ wsL_law) (h3 : Cond.initialized y.cls ∈ wsL_law) (h4 : Cond.code y bytes maxL none ∈ wsL_law) (hy : y.name = "<init>") (hd : y.cls ≠ "java/lang/invoke/MethodHandle" ∧ y.cls ≠ "java/lang/invoke/VarHandle" ∧ (parseMethodDescriptor y.desc).map (fun d => d.parameters.length) = some n) (hrc : rm.cells = mc) (hrs : rm.slots = ms) (hR : rm.frames + 1 ≤ R.frames ∧ 8 + (maxL + 11) + rm.locals ≤ R.locals) (hn : As.length = n) (hst : st = As.reverse ++ .ref b :: rest) (hls : ls.size = nL) (hW : (rest.map fun v => v.category).sum ≤ 8) (hdg : decode cc pc = .ok (.invokespecial index, 3)) (hf : cells + mc ≤ R.cells ∧ slots + ms ≤ R.slots)
    (kk : ∀ (S' : Pl) (H1 : Heap) (locs1 : List Loc), post S' → PX G A s.heap S' H1 locs1 → W p l e R s m args below meth c H1 locs1 (cells + mc) (slots + ms) Q (F0 m (pc + 3) ls (rest))) : W p l e R s m args below meth c H locs cells slots Q (F0 m pc ls st) := by
  have X0 := X
  obtain ⟨⟨hx, hb, hml, hown, hts⟩, -, -, hK, hE, hA, -⟩ := X
  exact va_callv (va_runI (As := As) (rest := rest) ⟨hx, hb, hml, hown, hts⟩ (hM H.size) ⟨callB_of n hts (gd_code h4) rfl hrc hrs (hts _ h3) (hts _ h1) hd hR, hy, hts _ h2⟩ ⟨pr_blind, fun U hU hW => pr_of X0 hw U hU hW⟩ rfl hn hls hst (by simpa [JFrame.monitorRoom] using hW) hdg hf) hw.2.2 (fun q _ h => pw_free hw hA q h) (pw_free hw hA) (fun S' t H1 locs1 ht hvm hp hB _ _ hS1 => kk S' H1 locs1 hp (px_back hw hA ht hB hS1))
theorem k_INv {y : MethodName} {bytes : ByteArray} {maxL mc ms n index : Nat} {ret2 : Option FieldType} {rm : Room} {As st : List Value} {post : Pl → Prop} {b : Nat} {host : String} (X : Cx p s m args meth c cc nL ret own G A) (hw : PX G A s.heap S H locs) (hM : MtV l y bytes maxL none rm G (.ref b :: As) S post mc ms) (h1 : (own, index, y, host) ∈ nestM) (h2 : Cond.instanceMethod y ∈ wsL_law) (h3 : Cond.initialized y.cls ∈ wsL_law) (h4 : Cond.code y bytes maxL none ∈ wsL_law) (hy : y.name = "<init>") (hd : y.cls ≠ "java/lang/invoke/MethodHandle" ∧ y.cls ≠ "java/lang/invoke/VarHandle" ∧ (parseMethodDescriptor y.desc).map (fun d => d.parameters.length) = some n) (hrc : rm.cells = mc) (hrs : rm.slots = ms) (hR : rm.frames + 1 ≤ R.frames ∧ 8 + (maxL + 11) + rm.locals ≤ R.locals) (hn : As.length = n) (hst : st = As.reverse ++ .ref b :: rest) (hls : ls.size = nL) (hW : (rest.map fun v => v.category).sum ≤ 8) (hdg : decode cc pc = .ok (.invokespecial index, 3)) (hf : cells + mc ≤ R.cells ∧ slots + ms ≤ R.slots)
    (kk : ∀ (S' : Pl) (H1 : Heap) (locs1 : List Loc), post S' → PX G A s.heap S' H1 locs1 → W p l e R s m args below meth c H1 locs1 (cells + mc) (slots + ms) Q (F0 m (pc + 3) ls (rest))) : W p l e R s m args below meth c H locs cells slots Q (F0 m pc ls st) := by
  have X0 := X
  obtain ⟨⟨hx, hb, hml, hown, hts⟩, -, -, hK, hE, hA, -⟩ := X
  exact va_callv (va_runIN (host := host) (As := As) (rest := rest) ⟨hx, hb, hml, hown, hts⟩ (hM H.size) ⟨va_cnB n hts (gd_code h4) rfl hrc hrs (hE.1 _ h1) (hts _ h3) hd hR, hy, hts _ h2⟩ ⟨pr_blind, fun U hU hW => pr_of X0 hw U hU hW⟩ rfl hn hls hst (by simpa [JFrame.monitorRoom] using hW) hdg hf) hw.2.2 (fun q _ h => pw_free hw hA q h) (pw_free hw hA) (fun S' t H1 locs1 ht hvm hp hB _ _ hS1 => kk S' H1 locs1 hp (px_back hw hA ht hB hS1))
theorem k_Sq {y : MethodName} {bytes : ByteArray} {maxL mc ms n index : Nat} {ret2 : Option FieldType} {rm : Room} {As st : List Value} {post : Option Nat → Pl → Prop} (X : Cx p s m args meth c cc nL ret own G A) (hw : PX G A s.heap S H locs) (hM : MtQ l y bytes maxL ret2 rm G As S post mc ms) (h1 : Cond.methodLink own index y ∈ wsL_law) (h2 : Cond.static y ∈ wsL_law) (h3 : Cond.initialized y.cls ∈ wsL_law) (h4 : Cond.code y bytes maxL ret2 ∈ wsL_law) (hd : y.cls ≠ "java/lang/invoke/MethodHandle" ∧ y.cls ≠ "java/lang/invoke/VarHandle" ∧ (parseMethodDescriptor y.desc).map (fun d => d.parameters.length) = some n) (hrc : rm.cells = mc) (hrs : rm.slots = ms) (hR : rm.frames + 1 ≤ R.frames ∧ 8 + (maxL + 11) + rm.locals ≤ R.locals) (hn : As.length = n) (hst : st = As.reverse ++ rest) (hls : ls.size = nL) (hW : (rest.map fun v => v.category).sum ≤ 8) (hdg : decode cc pc = .ok (.invokestatic index, 3)) (hf : cells + mc ≤ R.cells ∧ slots + ms ≤ R.slots)
    (kk : ∀ (r : Option Nat) (S' : Pl) (H1 : Heap) (locs1 : List Loc), post r S' → PX G A s.heap S' H1 locs1 → W p l e R s m args below meth c H1 locs1 (cells + mc) (slots + ms) Q (F0 m (pc + 3) ls (va_rf r :: rest))) : W p l e R s m args below meth c H locs cells slots Q (F0 m pc ls st) := by
  have X0 := X
  obtain ⟨⟨hx, hb, hml, hown, hts⟩, -, -, hK, hE, hA, -⟩ := X
  exact va_callq (va_runS (As := As) (rest := rest) ⟨hx, hb, hml, hown, hts⟩ (hM H.size) ⟨callB_of n hts (gd_code h4) rfl hrc hrs (hts _ h3) (hts _ h1) hd hR, hts _ h2⟩ ⟨pr_blind, fun U hU hW => pr_of X0 hw U hU hW⟩ rfl hn hls hst (by simpa [JFrame.monitorRoom] using hW) hdg hf) hw.2.2 (fun q _ h => pw_free hw hA q h) (pw_free hw hA) (fun r S' t H1 locs1 ht hvm hp hB _ _ hS1 => kk r S' H1 locs1 hp (px_back hw hA ht hB hS1))
theorem k_SNq {y : MethodName} {bytes : ByteArray} {maxL mc ms n index : Nat} {ret2 : Option FieldType} {rm : Room} {As st : List Value} {post : Option Nat → Pl → Prop} {host : String} (X : Cx p s m args meth c cc nL ret own G A) (hw : PX G A s.heap S H locs) (hM : MtQ l y bytes maxL ret2 rm G As S post mc ms) (h1 : (own, index, y, host) ∈ nestM) (h2 : Cond.static y ∈ wsL_law) (h3 : Cond.initialized y.cls ∈ wsL_law) (h4 : Cond.code y bytes maxL ret2 ∈ wsL_law) (hd : y.cls ≠ "java/lang/invoke/MethodHandle" ∧ y.cls ≠ "java/lang/invoke/VarHandle" ∧ (parseMethodDescriptor y.desc).map (fun d => d.parameters.length) = some n) (hrc : rm.cells = mc) (hrs : rm.slots = ms) (hR : rm.frames + 1 ≤ R.frames ∧ 8 + (maxL + 11) + rm.locals ≤ R.locals) (hn : As.length = n) (hst : st = As.reverse ++ rest) (hls : ls.size = nL) (hW : (rest.map fun v => v.category).sum ≤ 8) (hdg : decode cc pc = .ok (.invokestatic index, 3)) (hf : cells + mc ≤ R.cells ∧ slots + ms ≤ R.slots)
    (kk : ∀ (r : Option Nat) (S' : Pl) (H1 : Heap) (locs1 : List Loc), post r S' → PX G A s.heap S' H1 locs1 → W p l e R s m args below meth c H1 locs1 (cells + mc) (slots + ms) Q (F0 m (pc + 3) ls (va_rf r :: rest))) : W p l e R s m args below meth c H locs cells slots Q (F0 m pc ls st) := by
  have X0 := X
  obtain ⟨⟨hx, hb, hml, hown, hts⟩, -, -, hK, hE, hA, -⟩ := X
  exact va_callq (va_runSN (host := host) (As := As) (rest := rest) ⟨hx, hb, hml, hown, hts⟩ (hM H.size) ⟨va_cnB n hts (gd_code h4) rfl hrc hrs (hE.1 _ h1) (hts _ h3) hd hR, hts _ h2, trivial⟩ ⟨pr_blind, fun U hU hW => pr_of X0 hw U hU hW⟩ rfl hn hls hst (by simpa [JFrame.monitorRoom] using hW) hdg hf) hw.2.2 (fun q _ h => pw_free hw hA q h) (pw_free hw hA) (fun r S' t H1 locs1 ht hvm hp hB _ _ hS1 => kk r S' H1 locs1 hp (px_back hw hA ht hB hS1))
theorem k_Vq {y : MethodName} {bytes : ByteArray} {maxL mc ms n index : Nat} {ret2 : Option FieldType} {rm : Room} {As st : List Value} {post : Option Nat → Pl → Prop} {b : Nat} (X : Cx p s m args meth c cc nL ret own G A) (hw : PX G A s.heap S H locs) (hr : ∃ cell : Cell, H[b]? = some cell ∧ cell.vm.isStatics = false ∧ s.vm.findClass y.cls = some cell.cls) (hM : MtQ l y bytes maxL ret2 rm G (.ref b :: As) S post mc ms) (h1 : Cond.methodLink own index y ∈ wsL_law) (h2 : Cond.instanceMethod y ∈ wsL_law) (h5 : Cond.selects y.cls y y ∈ wsL_law) (h3 : Cond.initialized y.cls ∈ wsL_law) (h4 : Cond.code y bytes maxL ret2 ∈ wsL_law) (hd : y.cls ≠ "java/lang/invoke/MethodHandle" ∧ y.cls ≠ "java/lang/invoke/VarHandle" ∧ (parseMethodDescriptor y.desc).map (fun d => d.parameters.length) = some n) (hrc : rm.cells = mc) (hrs : rm.slots = ms) (hR : rm.frames + 1 ≤ R.frames ∧ 8 + (maxL + 11) + rm.locals ≤ R.locals) (hn : As.length = n) (hst : st = As.reverse ++ .ref b :: rest) (hls : ls.size = nL) (hW : (rest.map fun v => v.category).sum ≤ 8) (hdg : decode cc pc = .ok (.invokevirtual index, 3)) (hf : cells + mc ≤ R.cells ∧ slots + ms ≤ R.slots)
    (kk : ∀ (r : Option Nat) (S' : Pl) (H1 : Heap) (locs1 : List Loc), post r S' → PX G A s.heap S' H1 locs1 → W p l e R s m args below meth c H1 locs1 (cells + mc) (slots + ms) Q (F0 m (pc + 3) ls (va_rf r :: rest))) : W p l e R s m args below meth c H locs cells slots Q (F0 m pc ls st) := by
  have X0 := X
  obtain ⟨⟨hx, hb, hml, hown, hts⟩, -, -, hK, hE, hA, -⟩ := X
  exact va_callq (va_runV (C := y.cls) (As := As) (rest := rest) ⟨hx, hb, hml, hown, hts⟩ (hM H.size) ⟨callB_of n hts (gd_code h4) rfl hrc hrs (hts _ h3) (hts _ h1) hd hR, hts _ h2, hts _ h5⟩ ⟨pr_blind, hr, fun U hU hW => pr_of X0 hw U hU hW⟩ rfl hn hls hst (by simpa [JFrame.monitorRoom] using hW) hdg hf) hw.2.2 (fun q _ h => pw_free hw hA q h) (pw_free hw hA) (fun r S' t H1 locs1 ht hvm hp hB _ _ hS1 => kk r S' H1 locs1 hp (px_back hw hA ht hB hS1))
end ROWS
theorem MtI.of {l : Launch} {y : MethodName} {bytes : ByteArray} {nL mc ms : Nat} {rty : FieldType} {rm : Room} {G : Gh} {av : List Value} {S : Pl} {post : Int32 → Pl → Prop} (hy : plainName y.cls = true) (hav : (lg_sl av).length ≤ nL)
    (body : ∀ (p : Program) (e : Env) (s : State) (m : MethodId) (args : Array Value) (below : List Frame) (meth : Method) (c : Code) (Q : State → Prop) (A : Nat → Prop), Cx p s m args meth c bytes nL (some rty) y.cls G A → PX G A s.heap S s.heap [] → (meth.name = y.name) → (∀ (v : Int32) (S' : Pl) (H : Heap) (locs : List Loc) (pc : Nat) (ls : Array Slot), post v S' → PX G A s.heap S' H locs → narrow rty (.int v) = .int v → decode bytes pc = .ok (.ireturn, 1) → W p l e rm s m args below meth c H locs mc ms Q (F0 m pc ls [.int v])) → ∀ ls : Array Slot, lv_has ls nL (lv_args 0 av) → W p l e rm s m args below meth c s.heap [] 0 0 Q (F0 m 0 ls [])) : MtI l y bytes nL (some rty) rm G av S post mc ms := by
  intro sz
  refine Met.ofW (cc := bytes) (maxL := nL) hy rfl ?_
  intro p e s m args below meth c s₁ B hml hv
  obtain ⟨rfl, hsz, hP, hK, hD0, hE⟩ := hv
  subst hsz
  have hts := atoms_spec (ws := .code y bytes nL _ :: wsL_law) B.pre
  have hin : meth.name = y.name := (name_of_methodNamed B.named B.method).1
  have hD := hD0.self (sz := s.heap.size)
  rw [lg_entry_eq]
  refine body p e s m av.toArray below meth c _ (va_A (pw G S) s.heap.size) ⟨⟨B.exec, B.bytes, hml, findClass_of_methodNamed B.named, fun w h => hts w (List.mem_cons_of_mem _ h)⟩, B.returns, B.notSynchronized, hK, hE, fun q h => Or.inr h, Or.inr trivial⟩ ⟨hP, hD, va_S.rf⟩ hin ?_ _ (lv_entry av hav)
  intro v S' H locs pc ls hpost hw hn hdg
  exact W.zret B.exec B.bytes B.returns hn (fun t ht hW => ⟨⟨v, S', rfl, hpost, by subst ht; exact ⟨hw.1, hw.2.1⟩⟩, hw.2.2.F ht⟩) hw.2.2.2.2 hdg B.notSynchronized
theorem MtL.of {l : Launch} {y : MethodName} {bytes : ByteArray} {nL mc ms : Nat}  {rm : Room} {G : Gh} {av : List Value} {S : Pl} {post : Int64 → Pl → Prop} (hy : plainName y.cls = true) (hav : (lg_sl av).length ≤ nL)
    (body : ∀ (p : Program) (e : Env) (s : State) (m : MethodId) (args : Array Value) (below : List Frame) (meth : Method) (c : Code) (Q : State → Prop) (A : Nat → Prop), Cx p s m args meth c bytes nL (some .long) y.cls G A → PX G A s.heap S s.heap [] → (meth.name = y.name) → (∀ (v : Int64) (S' : Pl) (H : Heap) (locs : List Loc) (pc : Nat) (ls : Array Slot), post v S' → PX G A s.heap S' H locs → decode bytes pc = .ok (.lreturn, 1) → W p l e rm s m args below meth c H locs mc ms Q (F0 m pc ls [.long v])) → ∀ ls : Array Slot, lv_has ls nL (lv_args 0 av) → W p l e rm s m args below meth c s.heap [] 0 0 Q (F0 m 0 ls [])) : MtL l y bytes nL (some .long) rm G av S post mc ms := by
  intro sz
  refine Met.ofW (cc := bytes) (maxL := nL) hy rfl ?_
  intro p e s m args below meth c s₁ B hml hv
  obtain ⟨rfl, hsz, hP, hK, hD0, hE⟩ := hv
  subst hsz
  have hts := atoms_spec (ws := .code y bytes nL _ :: wsL_law) B.pre
  have hin : meth.name = y.name := (name_of_methodNamed B.named B.method).1
  have hD := hD0.self (sz := s.heap.size)
  rw [lg_entry_eq]
  refine body p e s m av.toArray below meth c _ (va_A (pw G S) s.heap.size) ⟨⟨B.exec, B.bytes, hml, findClass_of_methodNamed B.named, fun w h => hts w (List.mem_cons_of_mem _ h)⟩, B.returns, B.notSynchronized, hK, hE, fun q h => Or.inr h, Or.inr trivial⟩ ⟨hP, hD, va_S.rf⟩ hin ?_ _ (lv_entry av hav)
  intro v S' H locs pc ls hpost hw hdg
  exact W.lret B.exec B.bytes B.returns (fun t ht hW => ⟨⟨v, S', rfl, hpost, by subst ht; exact ⟨hw.1, hw.2.1⟩⟩, hw.2.2.F ht⟩) hw.2.2.2.2 hdg B.notSynchronized
theorem MtV.of {l : Launch} {y : MethodName} {bytes : ByteArray} {nL mc ms : Nat}  {rm : Room} {G : Gh} {av : List Value} {S : Pl} {post : Pl → Prop} (hy : plainName y.cls = true) (hav : (lg_sl av).length ≤ nL)
    (body : ∀ (p : Program) (e : Env) (s : State) (m : MethodId) (args : Array Value) (below : List Frame) (meth : Method) (c : Code) (Q : State → Prop) (A : Nat → Prop), Cx p s m args meth c bytes nL none y.cls G A → PX G A s.heap S s.heap [] → (meth.name = y.name) → (∀ (S' : Pl) (H : Heap) (locs : List Loc) (pc : Nat) (ls : Array Slot), post S' → PX G A s.heap S' H locs → decode bytes pc = .ok (.return_, 1) → W p l e rm s m args below meth c H locs mc ms Q (F0 m pc ls [])) → ∀ ls : Array Slot, lv_has ls nL (lv_args 0 av) → W p l e rm s m args below meth c s.heap [] 0 0 Q (F0 m 0 ls [])) : MtV l y bytes nL none rm G av S post mc ms := by
  intro sz
  refine Met.ofW (cc := bytes) (maxL := nL) hy rfl ?_
  intro p e s m args below meth c s₁ B hml hv
  obtain ⟨rfl, hsz, hP, hK, hD0, hE⟩ := hv
  subst hsz
  have hts := atoms_spec (ws := .code y bytes nL _ :: wsL_law) B.pre
  have hin : meth.name = y.name := (name_of_methodNamed B.named B.method).1
  have hD := hD0.self (sz := s.heap.size)
  rw [lg_entry_eq]
  refine body p e s m av.toArray below meth c _ (va_A (pw G S) s.heap.size) ⟨⟨B.exec, B.bytes, hml, findClass_of_methodNamed B.named, fun w h => hts w (List.mem_cons_of_mem _ h)⟩, B.returns, B.notSynchronized, hK, hE, fun q h => Or.inr h, Or.inr trivial⟩ ⟨hP, hD, va_S.rf⟩ hin ?_ _ (lv_entry av hav)
  intro S' H locs pc ls hpost hw hdg
  exact W.vret B.exec B.bytes B.returns (fun t ht hW => ⟨⟨S', rfl, hpost, by subst ht; exact ⟨hw.1, hw.2.1⟩⟩, hw.2.2.F ht⟩) hw.2.2.2.2 hdg B.notSynchronized
theorem MtQ.of {l : Launch} {y : MethodName} {bytes : ByteArray} {nL mc ms : Nat} {rty : FieldType} {rm : Room} {G : Gh} {av : List Value} {S : Pl} {post : Option Nat → Pl → Prop} (hy : plainName y.cls = true) (hav : (lg_sl av).length ≤ nL)
    (body : ∀ (p : Program) (e : Env) (s : State) (m : MethodId) (args : Array Value) (below : List Frame) (meth : Method) (c : Code) (Q : State → Prop) (A : Nat → Prop), Cx p s m args meth c bytes nL (some rty) y.cls G A → PX G A s.heap S s.heap [] → (meth.name = y.name) → (∀ (v : Option Nat) (S' : Pl) (H : Heap) (locs : List Loc) (pc : Nat) (ls : Array Slot), post v S' → PX G A s.heap S' H locs → ((∃ n, rty = .object n) ∨ ∃ t, rty = .array t) → decode bytes pc = .ok (.areturn, 1) → W p l e rm s m args below meth c H locs mc ms Q (F0 m pc ls [va_rf v])) → ∀ ls : Array Slot, lv_has ls nL (lv_args 0 av) → W p l e rm s m args below meth c s.heap [] 0 0 Q (F0 m 0 ls [])) : MtQ l y bytes nL (some rty) rm G av S post mc ms := by
  intro sz
  refine Met.ofW (cc := bytes) (maxL := nL) hy rfl ?_
  intro p e s m args below meth c s₁ B hml hv
  obtain ⟨rfl, hsz, hP, hK, hD0, hE⟩ := hv
  subst hsz
  have hts := atoms_spec (ws := .code y bytes nL _ :: wsL_law) B.pre
  have hin : meth.name = y.name := (name_of_methodNamed B.named B.method).1
  have hD := hD0.self (sz := s.heap.size)
  rw [lg_entry_eq]
  refine body p e s m av.toArray below meth c _ (va_A (pw G S) s.heap.size) ⟨⟨B.exec, B.bytes, hml, findClass_of_methodNamed B.named, fun w h => hts w (List.mem_cons_of_mem _ h)⟩, B.returns, B.notSynchronized, hK, hE, fun q h => Or.inr h, Or.inr trivial⟩ ⟨hP, hD, va_S.rf⟩ hin ?_ _ (lv_entry av hav)
  intro v S' H locs pc ls hpost hw hn hdg
  exact W.aret B.exec B.bytes B.returns hn (by cases v with | none => exact Or.inl rfl | some a => exact Or.inr ⟨a, rfl⟩) (fun t ht hW => ⟨⟨v, S', rfl, hpost, by subst ht; exact ⟨hw.1, hw.2.1⟩⟩, hw.2.2.F ht⟩) hw.2.2.2.2 hdg B.notSynchronized
