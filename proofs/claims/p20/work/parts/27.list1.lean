/-! ===== arrays of references: made, stored into, copied; the list's own fields ===== -/
section LROWS
variable {p : Program} {l : Launch} {e : Env} {R : Room} {s : State} {m : MethodId} {args : Array Value} {below : List Frame} {meth : Method} {c : Code} {H : Heap} {locs : List Loc} {cells slots : Nat} {Q : State → Prop}
variable {cc : ByteArray} {nL : Nat} {ret : Option FieldType} {own : String} {G : Gh} {A : Nat → Prop} {S : Pl} {pc : Nat} {ls : Array Slot} {rest : List Value} {a : Nat}
theorem q_nwFlow {n : Int32} {N' index : Nat} (X : Cx p s m args meth c cc nL ret own G A) (hw : PX G A s.heap S H locs) (hcl : Cond.classLink own index RX1 ∈ wsL_law) (hn : ¬ n < 0) (hN : n.toNatClampNeg = N') (hbytes : N' * 4 ≤ 536870912) (hcells : cells + 1 ≤ R.cells) (hslots : slots + N' ≤ R.slots) (hdg : decode cc pc = .ok (.anewarray index, 3))
    (kk : ∀ (q : Nat) (H1 : Heap), q ∉ pL S → PX G A s.heap (nA S q 17 N') H1 locs → W p l e R s m args below meth c H1 locs (cells + 1) (slots + N') Q (F0 m (pc + 3) ls (.ref q :: rest))) : W p l e R s m args below meth c H locs cells slots Q (F0 m pc ls (.int n :: rest)) := by
  obtain ⟨⟨hx, hb, -, hown, hts⟩, -, -, hK, hE, hA, -⟩ := X
  refine va_newq (C := RX1) hx hb hown (hts _ hcl) hE.2.2.1.2.2.1 hK hw.1 hw.2.1 hw.2.2 hA hn hN hbytes hcells hslots hdg (fun q cA H1 hK1 hP hD hS1 => ?_)
  have e1 := va_nmO (hK1.2 7 (cA, .object RX1) rfl).2 rfl
  have e2 := va_nmO (hK.2 5 (G.2.1 5, .object RX1) rfl).2 rfl
  have e : cA = G.2.1 5 := Option.some.inj (e1.symm.trans e2)
  subst e
  have hq : q ∉ pL S := va_pl_fresh2 (X := []) (L := pL S) (f := pF G S) (e := .inl (G.2.1 5, N', .inr (.inr (.inr (.inr (fun _ => none)))))) (by simpa using hD)
  have e2 : pw G S ++ [(q, (.inl (G.2.1 5, N', .inr (.inr (.inr (.inr (fun _ => none))))) : va_E))] = pw G (nA S q 17 N') := by
    rw [va_pl_push hq]; exact va_pl_congr (pF_nA (k := 17) (n := N') rfl)
  rw [e2] at hP hD
  exact kk q H1 hq ⟨hP, hD, hS1⟩
theorem q_nwObject {n : Int32} {N' index : Nat} (X : Cx p s m args meth c cc nL ret own G A) (hw : PX G A s.heap S H locs) (hcl : Cond.classLink own index "java/lang/Object" ∈ wsL_law) (hn : ¬ n < 0) (hN : n.toNatClampNeg = N') (hbytes : N' * 4 ≤ 536870912) (hcells : cells + 1 ≤ R.cells) (hslots : slots + N' ≤ R.slots) (hdg : decode cc pc = .ok (.anewarray index, 3))
    (kk : ∀ (q : Nat) (H1 : Heap), q ∉ pL S → PX G A s.heap (nA S q 18 N') H1 locs → W p l e R s m args below meth c H1 locs (cells + 1) (slots + N') Q (F0 m (pc + 3) ls (.ref q :: rest))) : W p l e R s m args below meth c H locs cells slots Q (F0 m pc ls (.int n :: rest)) := by
  obtain ⟨⟨hx, hb, -, hown, hts⟩, -, -, hK, hE, hA, -⟩ := X
  refine va_newq (C := "java/lang/Object") hx hb hown (hts _ hcl) hE.2.2.1.2.2.2.1 hK hw.1 hw.2.1 hw.2.2 hA hn hN hbytes hcells hslots hdg (fun q cA H1 hK1 hP hD hS1 => ?_)
  have e1 := va_nmO (hK1.2 7 (cA, .object "java/lang/Object") rfl).2 rfl
  have e2 := va_nmO (hK.2 6 (G.2.1 6, .object "java/lang/Object") rfl).2 rfl
  have e : cA = G.2.1 6 := Option.some.inj (e1.symm.trans e2)
  subst e
  have hq : q ∉ pL S := va_pl_fresh2 (X := []) (L := pL S) (f := pF G S) (e := .inl (G.2.1 6, N', .inr (.inr (.inr (.inr (fun _ => none)))))) (by simpa using hD)
  have e2 : pw G S ++ [(q, (.inl (G.2.1 6, N', .inr (.inr (.inr (.inr (fun _ => none))))) : va_E))] = pw G (nA S q 18 N') := by
    rw [va_pl_push hq]; exact va_pl_congr (pF_nA (k := 18) (n := N') rfl)
  rw [e2] at hP hD
  exact kk q H1 hq ⟨hP, hD, hS1⟩
theorem q_stFlow {i : Int32} {v : Nat} (X : Cx p s m args meth c cc nL ret own G A) (hw : PX G A s.heap S H locs) (ha : is S 17 a) (hv : is S 1 v) (hin : vp_in i (pN S a)) (hdg : decode cc pc = .ok (.aastore, 1))
    (kk : ∀ (H1 : Heap) (locs1 : List Loc), PX G A s.heap (tR S a (va_up (qR S a) i.toNatClampNeg (some v))) H1 locs1 → W p l e R s m args below meth c H1 locs1 cells slots Q (F0 m (pc + 1) ls rest)) : W p l e R s m args below meth c H locs cells slots Q (F0 m pc ls (.ref v :: .int i :: .ref a :: rest)) := by
  obtain ⟨q0, h1, h2⟩ := pw_at (G := G) ha.1 (pF_k ha.2)
  obtain ⟨q1, h3, h4⟩ := pw_at (G := G) hv.1 (pF_k hv.2)
  obtain ⟨⟨hx, hb, -, hown, hts⟩, -, -, hK, -⟩ := X
  refine va_astq (r := (RX1, TX1, 3)) hx hb hK hw.1 hw.2.1 hw.2.2 q0 5 q1 2 h2 rfl h4 rfl hin hdg (fun H1 locs1 hP hD hS1 => ?_)
  rw [pw_set (E := .inl (G.2.1 5, pN S a, .inr (.inr (.inr (.inr (va_up (qR S a) i.toNatClampNeg (some v))))))) (S' := tR S a (va_up (qR S a) i.toNatClampNeg (some v))) hw.2.1 ha.1 h1 rfl (pF_tR ha.2 rfl)] at hP hD
  exact kk H1 locs1 ⟨hP, hD, hS1⟩
theorem q_stObject {i : Int32} {v : Nat} (X : Cx p s m args meth c cc nL ret own G A) (hw : PX G A s.heap S H locs) (ha : is S 18 a) (hv : va_Any "java/lang/Object" s H v) (hin : vp_in i (pN S a)) (hdg : decode cc pc = .ok (.aastore, 1))
    (kk : ∀ (H1 : Heap) (locs1 : List Loc), PX G A s.heap (tR S a (va_up (qR S a) i.toNatClampNeg (some v))) H1 locs1 → W p l e R s m args below meth c H1 locs1 cells slots Q (F0 m (pc + 1) ls rest)) : W p l e R s m args below meth c H locs cells slots Q (F0 m pc ls (.ref v :: .int i :: .ref a :: rest)) := by
  obtain ⟨q0, h1, h2⟩ := pw_at (G := G) ha.1 (pF_k ha.2)
  obtain ⟨⟨hx, hb, -, hown, hts⟩, -, -, hK, -⟩ := X
  refine va_astqM hx hb hK hw.1 hw.2.1 hw.2.2 q0 6 h2 rfl hv hin hdg (fun H1 locs1 hP hD hS1 => ?_)
  rw [pw_set (E := .inl (G.2.1 6, pN S a, .inr (.inr (.inr (.inr (va_up (qR S a) i.toNatClampNeg (some v))))))) (S' := tR S a (va_up (qR S a) i.toNatClampNeg (some v))) hw.2.1 ha.1 h1 rfl (pF_tR ha.2 rfl)] at hP hD
  exact kk H1 locs1 ⟨hP, hD, hS1⟩
/-- what may lie in a list -/
def ob (S : Pl) (b : Nat) : Prop := is S 6 b ∨ is S 0 b ∨ is S 4 b
theorem any_ob {b : Nat} (X : Cx p s m args meth c cc nL ret own G A) (hw : PX G A s.heap S H locs) (h : ob S b) : va_Any "java/lang/Object" s H b := by
  obtain ⟨-, -, -, hK, hE, -, -⟩ := X
  rcases h with h | h | h
  · obtain ⟨q1, h3, h4⟩ := pw_at (G := G) h.1 (pF_k h.2)
    exact va_rAny (r := (RX7, TX7, 6)) hK hw.1 h4 rfl (vb_asgC (hE.2.1 ("DriftDesk$Tale", "java/lang/Object") (by decide)))
  · obtain ⟨q1, h3, h4⟩ := pw_at (G := G) h.1 (pF_k h.2)
    exact va_rAny (r := (RX0, TX0, 6)) hK hw.1 h4 rfl (vb_asgC (hE.2.1 ("DriftDesk$Clue", "java/lang/Object") (by decide)))
  · obtain ⟨q1, h3, h4⟩ := pw_at (G := G) h.1 (pF_k h.2)
    exact va_rAny (r := (RX5, TX5, 8)) hK hw.1 h4 rfl (vb_asgC (hE.2.1 ("DriftDesk$Search", "java/lang/Object") (by decide)))
theorem q_cpy {index a0 : Nat} {n : Int32} (X : Cx p s m args meth c cc nL ret own G A) (hw : PX G A s.heap S H locs) (hls : ls.size = nL) (h1 : Cond.methodLink own index arraycopyName ∈ wsL_law) (h2 : Cond.native arraycopyName ∈ wsL_law) (h3 : Cond.static arraycopyName ∈ wsL_law) (h4 : Cond.initialized "java/lang/System" ∈ wsL_law) (ha0 : is S 18 a0) (ha : is S 18 a) (hn : ¬ n < 0) (hn0 : n.toNatClampNeg ≤ pN S a0) (hn1 : n.toNatClampNeg ≤ pN S a) (hel : ∀ i : Nat, i < n.toNatClampNeg → ∀ y : Nat, qR S a0 i = some y → ob S y)
    (hframes : 1 ≤ R.frames) (hlocals : (rest.map fun v => v.category).sum + (nativeFrameWords "java/lang/System" "arraycopy" 5 + 11) ≤ R.locals) (hdg : decode cc pc = .ok (.invokestatic index, 3))
    (kk : ∀ (H1 : Heap) (locs1 : List Loc), PX G A s.heap (tR S a (va_cpy (qR S a0) (qR S a) 0 0 n.toNatClampNeg)) H1 locs1 → W p l e R s m args below meth c H1 locs1 cells slots Q (F0 m (pc + 3) ls rest)) : W p l e R s m args below meth c H locs cells slots Q (F0 m pc ls (.int n :: .int 0 :: .ref a :: .int 0 :: .ref a0 :: rest)) := by
  have X0 := X
  obtain ⟨q0, g1, g2⟩ := pw_at (G := G) ha0.1 (pF_k ha0.2)
  obtain ⟨q1, g3, g4⟩ := pw_at (G := G) ha.1 (pF_k ha.2)
  obtain ⟨⟨hx, hb, hml, hown, hts⟩, -, -, hK, -⟩ := X
  have z : (0 : Int32).toNatClampNeg = 0 := by decide
  refine va_copyM hx hb (hml.trans hls.symm) hown (hts _ h1) (hts _ h2) (hts _ h3) (hts _ h4) hK hw.1 hw.2.1 hw.2.2 q0 q1 6 6 g2 g4 rfl rfl (by decide) (by decide) hn (by rw [z, Nat.zero_add]; exact hn0) (by rw [z, Nat.zero_add]; exact hn1) (fun i hi y hy => any_ob X0 hw (hel i hi y (by rw [z, Nat.zero_add] at hy; exact hy))) hframes hlocals hdg (fun H1 locs1 hP hD hS1 => ?_)
  rw [z] at hP hD
  rw [pw_set (E := .inl (G.2.1 6, pN S a, .inr (.inr (.inr (.inr (va_cpy (qR S a0) (qR S a) 0 0 n.toNatClampNeg)))))) (S' := tR S a (va_cpy (qR S a0) (qR S a) 0 0 n.toNatClampNeg)) hw.2.1 ha.1 g3 rfl (pF_tR ha.2 rfl)] at hP hD
  exact kk H1 locs1 ⟨hP, hD, hS1⟩
theorem rcvA (X : Cx p s m args meth c cc nL ret own G A) (hw : PX G A s.heap S H locs) (ha : is S 18 a) : ∃ cell : Cell, H[a]? = some cell ∧ cell.vm.isStatics = false ∧ s.vm.findClass "[Ljava/lang/Object;" = some cell.cls := by
  obtain ⟨q0, g1, g2⟩ := pw_at (G := G) ha.1 (pF_k ha.2)
  obtain ⟨-, -, -, hK, -⟩ := X
  have h3 := hw.1 q0 _ g2
  exact ⟨_, h3, rfl, va_nmO (hK.2 6 (G.2.1 6, .object "java/lang/Object") rfl).2 rfl⟩
theorem q_castA {index : Nat} (X : Cx p s m args meth c cc nL ret own G A) (hw : PX G A s.heap S H locs) (h1 : Cond.classLink own index "[Ljava/lang/Object;" ∈ wsL_law) (ha : is S 18 a) (hdg : decode cc pc = .ok (.checkcast index, 3)) (k : W p l e R s m args below meth c H locs cells slots Q (F0 m (pc + 3) ls (.ref a :: rest))) : W p l e R s m args below meth c H locs cells slots Q (F0 m pc ls (.ref a :: rest)) := by
  obtain ⟨q0, g1, g2⟩ := pw_at (G := G) ha.1 (pF_k ha.2)
  obtain ⟨⟨hx, hb, hml, hown, hts⟩, -, -, hK, -⟩ := X
  exact va_castA hx hb hown (hts _ h1) hw.1 q0 g2 (va_nmO (hK.2 6 (G.2.1 6, .object "java/lang/Object") rfl).2 rfl) hdg k
theorem pf_Jx4a65c_48 {v : Int32} (X : Cx p s m args meth c cc nL ret RJx4a65c G A) (hw : PX G A s.heap S H locs) (ha : is S 11 a) (hdg : decode cc pc = .ok (.putfield 48, 3))
    (kk : ∀ (H1 : Heap) (locs1 : List Loc), PX G A s.heap (sI S 92 a v) H1 locs1 → W p l e R s m args below meth c H1 locs1 cells slots Q (F0 m (pc + 3) ls rest)) : W p l e R s m args below meth c H locs cells slots Q (F0 m pc ls (.int v :: .ref a :: rest)) :=
  q_put (ci := 0) (fs := [.int (pI S 90 a), va_rf (pR S 91 a), .int (pI S 92 a)]) (ty := .int) (S' := sI S 92 a v) X hw ha.1 (pF_k ha.2) rfl inlJx4a65c tyJx4a65c_ok nmJx4a65c 2 (by decide) wd_r18_5 (fun _ h => h) rfl (by decide +kernel) rfl rfl (Nat.le_of_ble_eq_true rfl) rfl (pF_sI ha.2 rfl) hdg kk
theorem pf_mod0 {v : Int32} (X : Cx p s m args meth c cc nL ret RJxc12de G A) (hw : PX G A s.heap S H locs) (ha : is S 11 a) (hdg : decode cc pc = .ok (.putfield 7, 3))
    (kk : ∀ (H1 : Heap) (locs1 : List Loc), PX G A s.heap (sI S 90 a v) H1 locs1 → W p l e R s m args below meth c H1 locs1 cells slots Q (F0 m (pc + 3) ls rest)) : W p l e R s m args below meth c H locs cells slots Q (F0 m pc ls (.int v :: .ref a :: rest)) :=
  q_put (ci := 0) (fs := [.int (pI S 90 a), va_rf (pR S 91 a), .int (pI S 92 a)]) (ty := .int) (S' := sI S 90 a v) X hw ha.1 (pF_k ha.2) rfl inlJx4a65c tyJx4a65c_ok nmJx4a65c 0 (by decide) wd_r3_18 (fun _ h => h) rfl (by decide +kernel) rfl rfl (Nat.le_of_ble_eq_true rfl) rfl (pF_sI ha.2 rfl) hdg kk
theorem pf_mod1 {v : Int32} (X : Cx p s m args meth c cc nL ret RJx4a65c G A) (hw : PX G A s.heap S H locs) (ha : is S 11 a) (hdg : decode cc pc = .ok (.putfield 63, 3))
    (kk : ∀ (H1 : Heap) (locs1 : List Loc), PX G A s.heap (sI S 90 a v) H1 locs1 → W p l e R s m args below meth c H1 locs1 cells slots Q (F0 m (pc + 3) ls rest)) : W p l e R s m args below meth c H locs cells slots Q (F0 m pc ls (.int v :: .ref a :: rest)) :=
  q_put (ci := 0) (ref := "java/util/ArrayList") (fs := [.int (pI S 90 a), va_rf (pR S 91 a), .int (pI S 92 a)]) (ty := .int) (S' := sI S 90 a v) X hw ha.1 (pF_k ha.2) rfl inlJx4a65c tyJx4a65c_ok nmJx4a65c 0 (by decide) wd_r27_14 (fun x h => u_same (X.1.2.2.2.2 _ wd_r27_15) x h) rfl (by decide +kernel) rfl rfl (Nat.le_of_ble_eq_true rfl) rfl (pF_sI ha.2 rfl) hdg kk
theorem gf_mod1 {v : Int32} (X : Cx p s m args meth c cc nL ret RJx4a65c G A) (hw : PX G A s.heap S H locs) (ha : is S 11 a) (hv : pI S 90 a = v) (hdg : decode cc pc = .ok (.getfield 63, 3))
    (kk : W p l e R s m args below meth c H locs cells slots Q (F0 m (pc + 3) ls (.int v :: rest))) : W p l e R s m args below meth c H locs cells slots Q (F0 m pc ls (.ref a :: rest)) := by
  subst hv
  exact q_get (ci := 0) (ref := "java/util/ArrayList") (fs := [.int (pI S 90 a), va_rf (pR S 91 a), .int (pI S 92 a)]) X hw ha.1 (pF_k ha.2) rfl inlJx4a65c 0 (by decide) wd_r27_14 (fun x h => u_same (X.1.2.2.2.2 _ wd_r27_15) x h) rfl hdg kk
end LROWS
/-! ===== what a making leaves ===== -/
/-- all old cells stay as they are -/
def Ex (S T : Pl) : Prop := ∀ a, a ∈ pL S → a ∈ pL T ∧ pK T a = pK S a ∧ pN T a = pN S a ∧ qR T a = qR S a ∧ (∀ f, pR T f a = pR S f a) ∧ ∀ f, pI T f a = pI S f a
/-- all old cells but for the fields of b -/
def ExX (b : Nat) (S T : Pl) : Prop := ∀ a, a ∈ pL S → a ∈ pL T ∧ pK T a = pK S a ∧ pN T a = pN S a ∧ (a ≠ b → qR T a = qR S a ∧ (∀ f, pR T f a = pR S f a) ∧ ∀ f, pI T f a = pI S f a)
theorem ne_of {S : Pl} {a b : Nat} (h : a ∈ pL S) (hb : b ∉ pL S) : a ≠ b := fun e => hb (e ▸ h)
theorem Ex.rf {S : Pl} : Ex S S := fun _ h => ⟨h, rfl, rfl, rfl, fun _ => rfl, fun _ => rfl⟩
theorem Ex.tr {S T U : Pl} (h : Ex S T) (g : Ex T U) : Ex S U := fun a ha => by
  obtain ⟨h1, h2, h3, h4, h5, h6⟩ := h a ha
  obtain ⟨g1, g2, g3, g4, g5, g6⟩ := g a h1
  exact ⟨g1, g2.trans h2, g3.trans h3, g4.trans h4, fun f => (g5 f).trans (h5 f), fun f => (g6 f).trans (h6 f)⟩
theorem Ex.mA {S T : Pl} {q k n : Nat} (e : T = nA S q k n) (hf : q ∉ pL S) : Ex S T := fun a ha => by
  subst e
  have hn := ne_of ha hf
  exact ⟨List.mem_append_left _ ha, vu_n hn, vu_n hn, vu_n hn, fun _ => rfl, fun _ => rfl⟩
theorem Ex.mO {S T : Pl} {q k : Nat} (e : T = nO S q k) (hf : q ∉ pL S) : Ex S T := fun a ha => by
  subst e
  have hn := ne_of ha hf
  exact ⟨List.mem_append_left _ ha, vu_n hn, rfl, rfl, fun _ => vu_n hn, fun _ => vu_n hn⟩
theorem Ex.new {S T U : Pl} {q k : Nat} (e : T = nO S q k) (hf : q ∉ pL S) (h : ExX q T U) : Ex S U := fun a ha => by
  have hn := ne_of ha hf
  obtain ⟨g1, g2, g3, g4, g5, g6⟩ := Ex.mO e hf a ha
  obtain ⟨h1, h2, h3, h4⟩ := h a g1
  obtain ⟨h4, h5, h6⟩ := h4 hn
  exact ⟨h1, h2.trans g2, h3.trans g3, h4.trans g4, fun f => (h5 f).trans (g5 f), fun f => (h6 f).trans (g6 f)⟩
theorem ExX.rf {S : Pl} {b : Nat} : ExX b S S := fun _ h => ⟨h, rfl, rfl, fun _ => ⟨rfl, fun _ => rfl, fun _ => rfl⟩⟩
theorem ExX.ex {S T U : Pl} {b : Nat} (h : ExX b S T) (g : Ex T U) : ExX b S U := fun a ha => by
  obtain ⟨h1, h2, h3, h4⟩ := h a ha
  obtain ⟨g1, g2, g3, g4, g5, g6⟩ := g a h1
  exact ⟨g1, g2.trans h2, g3.trans h3, fun n => ⟨g4.trans (h4 n).1, fun f => (g5 f).trans ((h4 n).2.1 f), fun f => (g6 f).trans ((h4 n).2.2 f)⟩⟩
theorem ExX.mA {S T U : Pl} {b q k n : Nat} (e : U = nA T q k n) (hf : q ∉ pL T) (h : ExX b S T) : ExX b S U := h.ex (Ex.mA e hf)
theorem ExX.mO {S T U : Pl} {b q k : Nat} (e : U = nO T q k) (hf : q ∉ pL T) (h : ExX b S T) : ExX b S U := h.ex (Ex.mO e hf)
theorem ExX.mR {S T U : Pl} {b f : Nat} {v : Option Nat} (e : U = sR T f b v) (h : ExX b S T) : ExX b S U := fun a ha => by
  subst e
  obtain ⟨h1, h2, h3, h4⟩ := h a ha
  exact ⟨h1, h2, h3, fun n => ⟨(h4 n).1, fun g => (up2_n n).trans ((h4 n).2.1 g), (h4 n).2.2⟩⟩
theorem ExX.mI {S T U : Pl} {b f : Nat} {v : Int32} (e : U = sI T f b v) (h : ExX b S T) : ExX b S U := fun a ha => by
  subst e
  obtain ⟨h1, h2, h3, h4⟩ := h a ha
  exact ⟨h1, h2, h3, fun n => ⟨(h4 n).1, (h4 n).2.1, fun g => (up2_n n).trans ((h4 n).2.2 g)⟩⟩
theorem ExX.new {S T U V : Pl} {b q k : Nat} (e : U = nO T q k) (hf : q ∉ pL T) (h : ExX b S T) (g : ExX q U V) : ExX b S V := h.ex (Ex.new e hf g)
theorem is.ex {S T : Pl} {k a : Nat} (h : is S k a) (e : Ex S T) : is T k a := ⟨(e a h.1).1, (e a h.1).2.1.trans h.2⟩
theorem is.exX {S T : Pl} {k a b : Nat} (h : is S k a) (e : ExX b S T) : is T k a := ⟨(e a h.1).1, (e a h.1).2.1.trans h.2⟩
/-! facts of the ledger, over each step -/
theorem isA {T U : Pl} {q kk n k a : Nat} (e : U = nA T q kk n) (hf : q ∉ pL T) (h : is T k a) : is U k a := h.ex (Ex.mA e hf)
theorem isO {T U : Pl} {q kk k a : Nat} (e : U = nO T q kk) (hf : q ∉ pL T) (h : is T k a) : is U k a := h.ex (Ex.mO e hf)
theorem isA_n {T U : Pl} {q kk n : Nat} (e : U = nA T q kk n) : is U kk q := by subst e; exact ⟨List.mem_append_right _ List.mem_cons_self, vu_s⟩
theorem isO_n {T U : Pl} {q kk : Nat} (e : U = nO T q kk) : is U kk q := by subst e; exact ⟨List.mem_append_right _ List.mem_cons_self, vu_s⟩
theorem lnA_n {T U : Pl} {q kk n : Nat} (e : U = nA T q kk n) : pN U q = n := by subst e; exact vu_s
theorem zqA_n {T U : Pl} {q kk n : Nat} (e : U = nA T q kk n) : qI U q = fun _ => 0 := by subst e; exact vu_s
theorem ivO_n {T U : Pl} {q kk f : Nat} (e : U = nO T q kk) : pI U f q = 0 := by subst e; exact vu_s
theorem rfA {T U : Pl} {q kk n f a : Nat} {x : Option Nat} (e : U = nA T q kk n) (h : pR T f a = x) : pR U f a = x := by subst e; exact h
theorem ivA {T U : Pl} {q kk n f a : Nat} {x : Int32} (e : U = nA T q kk n) (h : pI T f a = x) : pI U f a = x := by subst e; exact h
theorem lnA {T U : Pl} {q kk n a x : Nat} (e : U = nA T q kk n) (hf : q ∉ pL T) (m : a ∈ pL T) (h : pN T a = x) : pN U a = x := by subst e; exact (vu_n (ne_of m hf)).trans h
theorem zqA {T U : Pl} {q kk n a : Nat} {x : Nat → Int32} (e : U = nA T q kk n) (hf : q ∉ pL T) (m : a ∈ pL T) (h : qI T a = x) : qI U a = x := by subst e; exact (vu_n (ne_of m hf)).trans h
theorem qrA {T U : Pl} {q kk n a i : Nat} {x : Option Nat} (e : U = nA T q kk n) (hf : q ∉ pL T) (m : a ∈ pL T) (h : qR T a i = x) : qR U a i = x := by subst e; exact (congrFun (vu_n (ne_of m hf)) i).trans h
theorem rfO {T U : Pl} {q kk f a : Nat} {x : Option Nat} (e : U = nO T q kk) (hf : q ∉ pL T) (m : a ∈ pL T) (h : pR T f a = x) : pR U f a = x := by subst e; exact (vu_n (ne_of m hf)).trans h
theorem ivO {T U : Pl} {q kk f a : Nat} {x : Int32} (e : U = nO T q kk) (hf : q ∉ pL T) (m : a ∈ pL T) (h : pI T f a = x) : pI U f a = x := by subst e; exact (vu_n (ne_of m hf)).trans h
theorem lnO {T U : Pl} {q kk a x : Nat} (e : U = nO T q kk) (h : pN T a = x) : pN U a = x := by subst e; exact h
theorem zqO {T U : Pl} {q kk a : Nat} {x : Nat → Int32} (e : U = nO T q kk) (h : qI T a = x) : qI U a = x := by subst e; exact h
theorem qrO {T U : Pl} {q kk a i : Nat} {x : Option Nat} (e : U = nO T q kk) (h : qR T a i = x) : qR U a i = x := by subst e; exact h
theorem isR {T U : Pl} {f b k a : Nat} {v : Option Nat} (e : U = sR T f b v) (h : is T k a) : is U k a := by subst e; exact h
theorem lnR {T U : Pl} {f b a x : Nat} {v : Option Nat} (e : U = sR T f b v) (h : pN T a = x) : pN U a = x := by subst e; exact h
theorem zqR {T U : Pl} {f b a : Nat} {v : Option Nat} {x : Nat → Int32} (e : U = sR T f b v) (h : qI T a = x) : qI U a = x := by subst e; exact h
theorem qrR {T U : Pl} {f b a i : Nat} {v x : Option Nat} (e : U = sR T f b v) (h : qR T a i = x) : qR U a i = x := by subst e; exact h
theorem ivR {T U : Pl} {f b g a : Nat} {v : Option Nat} {x : Int32} (e : U = sR T f b v) (h : pI T g a = x) : pI U g a = x := by subst e; exact h
theorem rfR {T U : Pl} {f b g a : Nat} {v x : Option Nat} (e : U = sR T f b v) (hg : g ≠ f) (h : pR T g a = x) : pR U g a = x := by subst e; exact (congrFun (up2_f hg) a).trans h
theorem rfR_a {T U : Pl} {f b g a : Nat} {v x : Option Nat} (e : U = sR T f b v) (hg : a ≠ b) (h : pR T g a = x) : pR U g a = x := by subst e; exact (up2_n hg).trans h
theorem rfR_n {T U : Pl} {f b : Nat} {v : Option Nat} (e : U = sR T f b v) : pR U f b = v := by subst e; exact up2_s
theorem isI {T U : Pl} {f b k a : Nat} {v : Int32} (e : U = sI T f b v) (h : is T k a) : is U k a := by subst e; exact h
theorem lnI {T U : Pl} {f b a x : Nat} {v : Int32} (e : U = sI T f b v) (h : pN T a = x) : pN U a = x := by subst e; exact h
theorem zqI {T U : Pl} {f b a : Nat} {v : Int32} {x : Nat → Int32} (e : U = sI T f b v) (h : qI T a = x) : qI U a = x := by subst e; exact h
theorem qrI {T U : Pl} {f b a i : Nat} {v : Int32} {x : Option Nat} (e : U = sI T f b v) (h : qR T a i = x) : qR U a i = x := by subst e; exact h
theorem rfI {T U : Pl} {f b g a : Nat} {v : Int32} {x : Option Nat} (e : U = sI T f b v) (h : pR T g a = x) : pR U g a = x := by subst e; exact h
theorem ivI {T U : Pl} {f b g a : Nat} {v x : Int32} (e : U = sI T f b v) (hg : g ≠ f) (h : pI T g a = x) : pI U g a = x := by subst e; exact (congrFun (up2_f hg) a).trans h
theorem ivI_n {T U : Pl} {f b : Nat} {v : Int32} (e : U = sI T f b v) : pI U f b = v := by subst e; exact up2_s
theorem isT {T U : Pl} {b k a : Nat} {r : Nat → Option Nat} (e : U = tR T b r) (h : is T k a) : is U k a := by subst e; exact h
theorem lnT {T U : Pl} {b a x : Nat} {r : Nat → Option Nat} (e : U = tR T b r) (h : pN T a = x) : pN U a = x := by subst e; exact h
theorem zqT {T U : Pl} {b a : Nat} {r : Nat → Option Nat} {x : Nat → Int32} (e : U = tR T b r) (h : qI T a = x) : qI U a = x := by subst e; exact h
theorem rfT {T U : Pl} {b g a : Nat} {r : Nat → Option Nat} {x : Option Nat} (e : U = tR T b r) (h : pR T g a = x) : pR U g a = x := by subst e; exact h
theorem ivT {T U : Pl} {b g a : Nat} {r : Nat → Option Nat} {x : Int32} (e : U = tR T b r) (h : pI T g a = x) : pI U g a = x := by subst e; exact h
theorem qrT {T U : Pl} {b i j : Nat} {v : Nat} {x : Option Nat} (e : U = tR T b (va_up (qR T b) i (some v))) (hj : j ≠ i) (h : qR T b j = x) : qR U b j = x := by subst e; exact (congrFun vu_s j).trans ((vu_n hj).trans h)
theorem qrT_n {T U : Pl} {b i v : Nat} (e : U = tR T b (va_up (qR T b) i (some v))) : qR U b i = some v := by subst e; exact (congrFun vu_s i).trans vu_s
theorem isX {T U : Pl} {b k a : Nat} (e : ExX b T U) (h : is T k a) : is U k a := h.exX e
theorem lnX {T U : Pl} {b a x : Nat} (e : ExX b T U) (m : a ∈ pL T) (h : pN T a = x) : pN U a = x := (e a m).2.2.1.trans h
theorem rfX {T U : Pl} {b f a : Nat} {x : Option Nat} (e : ExX b T U) (m : a ∈ pL T) (n : a ≠ b) (h : pR T f a = x) : pR U f a = x := (((e a m).2.2.2 n).2.1 f).trans h
theorem ivX {T U : Pl} {b f a : Nat} {x : Int32} (e : ExX b T U) (m : a ∈ pL T) (n : a ≠ b) (h : pI T f a = x) : pI U f a = x := (((e a m).2.2.2 n).2.2 f).trans h
theorem qrX {T U : Pl} {b a i : Nat} {x : Option Nat} (e : ExX b T U) (m : a ∈ pL T) (n : a ≠ b) (h : qR T a i = x) : qR U a i = x := (congrFun ((e a m).2.2.2 n).1 i).trans h
def Tk (T : Pl) (L : List Nat) : Prop := L.Nodup ∧ ∀ x ∈ L, x ∈ pL T
theorem TkA {T U : Pl} {q kk n : Nat} {L : List Nat} (e : U = nA T q kk n) (hf : q ∉ pL T) (h : Tk T L) : Tk U (L ++ [q]) := by
  subst e
  refine ⟨List.nodup_append.mpr ⟨h.1, by simp, fun a ha b hb => ?_⟩, fun x hx => ?_⟩
  · rw [List.mem_singleton] at hb; rw [hb]; exact ne_of (h.2 a ha) hf
  · rcases List.mem_append.mp hx with g | g
    · exact List.mem_append_left _ (h.2 x g)
    · exact List.mem_append_right _ g
theorem TkR {T U : Pl} {f b : Nat} {v : Option Nat} {L : List Nat} (e : U = sR T f b v) (h : Tk T L) : Tk U L := by subst e; exact h
theorem TkI {T U : Pl} {f b : Nat} {v : Int32} {L : List Nat} (e : U = sI T f b v) (h : Tk T L) : Tk U L := by subst e; exact h
/-- the rows of numbers that were there are as they were -/
def Kq (S T : Pl) : Prop := ∀ a, a ∈ pL S → qI T a = qI S a
theorem Kq.rf {S : Pl} : Kq S S := fun _ _ => rfl
theorem Kq.mA {S T U : Pl} {b q k n : Nat} (e : U = nA T q k n) (hf : q ∉ pL T) (x : ExX b S T) (h : Kq S T) : Kq S U := fun a ha => by subst e; exact (vu_n (ne_of (x a ha).1 hf)).trans (h a ha)
theorem Kq.mO {S T U : Pl} {q k : Nat} (e : U = nO T q k) (h : Kq S T) : Kq S U := by subst e; exact h
theorem Kq.mR {S T U : Pl} {f b : Nat} {v : Option Nat} (e : U = sR T f b v) (h : Kq S T) : Kq S U := by subst e; exact h
theorem Kq.mI {S T U : Pl} {f b : Nat} {v : Int32} (e : U = sI T f b v) (h : Kq S T) : Kq S U := by subst e; exact h
theorem Kq.mT {S T U : Pl} {b : Nat} {r : Nat → Option Nat} (e : U = tR T b r) (h : Kq S T) : Kq S U := by subst e; exact h
theorem Kq.mX {S T U : Pl} {b : Nat} (x : ExX b S T) (h : Kq S T) (g : Kq T U) : Kq S U := fun a ha => (g a (x a ha).1).trans (h a ha)
theorem Kq.nw {S T U : Pl} {q k : Nat} (e : T = nO S q k) (h : Kq T U) : Kq S U := fun a ha => by subst e; exact h a (List.mem_append_left _ ha)
theorem zqX {T U : Pl} {a : Nat} {x : Nat → Int32} (g : Kq T U) (m : a ∈ pL T) (h : qI T a = x) : qI U a = x := (g a m).trans h
theorem TkO {T U : Pl} {q k : Nat} {L : List Nat} (e : U = nO T q k) (h : Tk T L) : Tk U L := by subst e; exact ⟨h.1, fun x hx => List.mem_append_left _ (h.2 x hx)⟩
theorem TkT {T U : Pl} {b : Nat} {r : Nat → Option Nat} {L : List Nat} (e : U = tR T b r) (h : Tk T L) : Tk U L := by subst e; exact h
theorem TkX {T U : Pl} {b b1 b2 b3 : Nat} {L : List Nat} (x : ExX b T U) (f : b1 ∉ pL T ∧ b2 ∉ pL T ∧ b3 ∉ pL T) (n : b1 ≠ b2 ∧ b1 ≠ b3 ∧ b2 ≠ b3) (i1 : is U 12 b1) (i2 : is U 12 b2) (i3 : is U 16 b3) (h : Tk T L) : Tk U (b3 :: b2 :: b1 :: L) := by
  refine ⟨List.nodup_cons.mpr ⟨fun g => ?_, List.nodup_cons.mpr ⟨fun g => ?_, List.nodup_cons.mpr ⟨fun g => f.1 (h.2 _ g), h.1⟩⟩⟩, fun y hy => ?_⟩
  · rcases List.mem_cons.mp g with g | g
    · exact n.2.2 g.symm
    · rcases List.mem_cons.mp g with g | g
      · exact n.2.1 g.symm
      · exact f.2.2 (h.2 _ g)
  · rcases List.mem_cons.mp g with g | g
    · exact n.1 g.symm
    · exact f.2.1 (h.2 _ g)
  · rcases List.mem_cons.mp hy with g | hy
    · rw [g]; exact i3.1
    · rcases List.mem_cons.mp hy with g | hy
      · rw [g]; exact i2.1
      · rcases List.mem_cons.mp hy with g | hy
        · rw [g]; exact i1.1
        · exact (x y (h.2 y hy)).1
theorem fresh_of {S T : Pl} {b q : Nat} (h : ExX b S T) (hf : q ∉ pL T) : q ∉ pL S := fun g => hf (h q g).1
theorem ExX.nR {S T U : Pl} {b c f : Nat} {v : Option Nat} (hc : c ∉ pL S) (e : U = sR T f c v) (h : ExX b S T) : ExX b S U := fun a ha => by
  subst e
  obtain ⟨h1, h2, h3, h4⟩ := h a ha
  exact ⟨h1, h2, h3, fun n => ⟨(h4 n).1, fun g => (up2_n (ne_of ha hc)).trans ((h4 n).2.1 g), (h4 n).2.2⟩⟩
theorem ExX.nI {S T U : Pl} {b c f : Nat} {v : Int32} (hc : c ∉ pL S) (e : U = sI T f c v) (h : ExX b S T) : ExX b S U := fun a ha => by
  subst e
  obtain ⟨h1, h2, h3, h4⟩ := h a ha
  exact ⟨h1, h2, h3, fun n => ⟨(h4 n).1, (h4 n).2.1, fun g => (up2_n (ne_of ha hc)).trans ((h4 n).2.2 g)⟩⟩
theorem ExX.mT {S T U : Pl} {b c : Nat} {r : Nat → Option Nat} (hc : c ∉ pL S) (e : U = tR T c r) (h : ExX b S T) : ExX b S U := fun a ha => by
  subst e
  obtain ⟨h1, h2, h3, h4⟩ := h a ha
  exact ⟨h1, h2, h3, fun n => ⟨(vu_n (ne_of ha hc)).trans (h4 n).1, (h4 n).2.1, (h4 n).2.2⟩⟩
theorem ExX.mX {S U V : Pl} {b q : Nat} (hq : q ∉ pL S) (h : ExX b S U) (g : ExX q U V) : ExX b S V := fun a ha => by
  obtain ⟨h1, h2, h3, h4⟩ := h a ha
  obtain ⟨g1, g2, g3, g4⟩ := g a h1
  have hn := ne_of ha hq
  exact ⟨g1, g2.trans h2, g3.trans h3, fun n => ⟨(g4 hn).1.trans (h4 n).1, fun f => ((g4 hn).2.1 f).trans ((h4 n).2.1 f), fun f => ((g4 hn).2.2 f).trans ((h4 n).2.2 f)⟩⟩
