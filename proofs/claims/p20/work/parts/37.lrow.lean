section LROWS
variable {p : Program} {l : Launch} {e : Env} {R : Room} {s : State} {m : MethodId} {args : Array Value} {below : List Frame} {meth : Method} {c : Code} {H : Heap} {locs : List Loc} {cells slots : Nat} {Q : State → Prop}
variable {cc : ByteArray} {nL : Nat} {ret : Option FieldType} {own : String} {G : Gh} {A : Nat → Prop} {S S2 : Pl} {pc : Nat} {ls : Array Slot} {rest : List Value}
/-- the other pool over a call -/
theorem px_other {S' : Pl} {t : State} {H1 : Heap} {locs1 : List Loc} {H0 : Heap} (hw2 : PX G A H0 S2 H locs) (hdj : ∀ a, a ∈ pL S → a ∉ pL S2) (ht : t.heap = H1) (hB : At G S H.size S' t) (hk : ∀ q : Nat, q < H.size → ¬ va_A (pw G S) H.size q → H1[q]? = H[q]?) (hS : va_S A H0 H1 locs1) : PX G A H0 S2 H1 locs1 ∧ ∀ a, a ∈ pL S' → a ∉ pL S2 := by
  have hlt : ∀ a, a ∈ pL S2 → a < H.size := fun a ha => by
    obtain ⟨q0, hq, -⟩ := pw_at (G := G) (S := S2) ha rfl
    exact (hw2.1 q0 _ hq).lt
  have hmem : ∀ (S0 : Pl) (a : Nat), (∃ (k : Nat) (e : va_E), (pw G S0)[k]? = some (a, e)) → a ∈ pL S0 := fun S0 a ⟨k, e, h⟩ => by
    obtain ⟨x, hx, he⟩ := List.mem_map.mp (List.mem_of_getElem? h)
    cases he; exact hx
  have hno : ∀ a, a ∈ pL S2 → ¬ va_A (pw G S) H.size a := fun a ha h => by
    rcases h with h | h
    · exact hdj a (hmem S a h) ha
    · exact Nat.lt_irrefl _ (Nat.lt_of_lt_of_le (hlt a ha) h)
  refine ⟨⟨hw2.1.kept (fun k q hq => hk q.1 (hw2.1 k q hq).lt (hno q.1 (hmem S2 q.1 ⟨k, q.2, hq⟩))), hw2.2.1, hS⟩, fun a ha h2 => ?_⟩
  obtain ⟨q0, hq, -⟩ := pw_at (G := G) (S := S') ha rfl
  exact hno a h2 (hB.2.2 q0 _ hq)
theorem k2_Vi {y : MethodName} {bytes : ByteArray} {maxL mc ms n index : Nat} {ret2 : Option FieldType} {rm : Room} {As st : List Value} {post : Int32 → Pl → Prop} {b : Nat} (X : Cx p s m args meth c cc nL ret own G A) (hw : PX G A s.heap S H locs) (hw2 : PX G A s.heap S2 H locs) (hdj : ∀ a, a ∈ pL S → a ∉ pL S2) (hr : ∃ cell : Cell, H[b]? = some cell ∧ cell.vm.isStatics = false ∧ s.vm.findClass y.cls = some cell.cls) (hM : MtI l y bytes maxL ret2 rm G (.ref b :: As) S post mc ms) (h1 : Cond.methodLink own index y ∈ wsL_law) (h2 : Cond.instanceMethod y ∈ wsL_law) (h5 : Cond.selects y.cls y y ∈ wsL_law) (h3 : Cond.initialized y.cls ∈ wsL_law) (h4 : Cond.code y bytes maxL ret2 ∈ wsL_law) (hd : y.cls ≠ "java/lang/invoke/MethodHandle" ∧ y.cls ≠ "java/lang/invoke/VarHandle" ∧ (parseMethodDescriptor y.desc).map (fun d => d.parameters.length) = some n) (hrc : rm.cells = mc) (hrs : rm.slots = ms) (hR : rm.frames + 1 ≤ R.frames ∧ 8 + (maxL + 11) + rm.locals ≤ R.locals) (hn : As.length = n) (hst : st = As.reverse ++ .ref b :: rest) (hls : ls.size = nL) (hW : (rest.map fun v => v.category).sum ≤ 8) (hdg : decode cc pc = .ok (.invokevirtual index, 3)) (hf : cells + mc ≤ R.cells ∧ slots + ms ≤ R.slots)
    (kk : ∀ (r : Int32) (S' : Pl) (H1 : Heap) (locs1 : List Loc), post r S' → PX G A s.heap S' H1 locs1 → PX G A s.heap S2 H1 locs1 → (∀ a, a ∈ pL S' → a ∉ pL S2) → W p l e R s m args below meth c H1 locs1 (cells + mc) (slots + ms) Q (F0 m (pc + 3) ls (.int r :: rest))) : W p l e R s m args below meth c H locs cells slots Q (F0 m pc ls st) := by
  have X0 := X
  obtain ⟨⟨hx, hb, hml, hown, hts⟩, -, -, hK, hE, hA, -⟩ := X
  exact va_calli (va_runV (C := y.cls) (As := As) (rest := rest) ⟨hx, hb, hml, hown, hts⟩ (hM H.size) ⟨callB_of n hts (gd_code h4) rfl hrc hrs (hts _ h3) (hts _ h1) hd hR, hts _ h2, hts _ h5⟩ ⟨pr_blind, hr, fun U hU hW => pr_of X0 hw U hU hW⟩ rfl hn hls hst (by simpa [JFrame.monitorRoom] using hW) hdg hf) hw.2.2 (fun q _ h => pw_free hw hA q h) (pw_free hw hA) (fun r S' t H1 locs1 ht hvm hp hB _ hk hS1 => kk r S' H1 locs1 hp (px_back hw hA ht hB hS1) (px_other hw2 hdj ht hB hk hS1).1 (px_other hw2 hdj ht hB hk hS1).2)
theorem k2_Vl {y : MethodName} {bytes : ByteArray} {maxL mc ms n index : Nat} {ret2 : Option FieldType} {rm : Room} {As st : List Value} {post : Int64 → Pl → Prop} {b : Nat} (X : Cx p s m args meth c cc nL ret own G A) (hw : PX G A s.heap S H locs) (hw2 : PX G A s.heap S2 H locs) (hdj : ∀ a, a ∈ pL S → a ∉ pL S2) (hr : ∃ cell : Cell, H[b]? = some cell ∧ cell.vm.isStatics = false ∧ s.vm.findClass y.cls = some cell.cls) (hM : MtL l y bytes maxL ret2 rm G (.ref b :: As) S post mc ms) (h1 : Cond.methodLink own index y ∈ wsL_law) (h2 : Cond.instanceMethod y ∈ wsL_law) (h5 : Cond.selects y.cls y y ∈ wsL_law) (h3 : Cond.initialized y.cls ∈ wsL_law) (h4 : Cond.code y bytes maxL ret2 ∈ wsL_law) (hd : y.cls ≠ "java/lang/invoke/MethodHandle" ∧ y.cls ≠ "java/lang/invoke/VarHandle" ∧ (parseMethodDescriptor y.desc).map (fun d => d.parameters.length) = some n) (hrc : rm.cells = mc) (hrs : rm.slots = ms) (hR : rm.frames + 1 ≤ R.frames ∧ 8 + (maxL + 11) + rm.locals ≤ R.locals) (hn : As.length = n) (hst : st = As.reverse ++ .ref b :: rest) (hls : ls.size = nL) (hW : (rest.map fun v => v.category).sum ≤ 8) (hdg : decode cc pc = .ok (.invokevirtual index, 3)) (hf : cells + mc ≤ R.cells ∧ slots + ms ≤ R.slots)
    (kk : ∀ (r : Int64) (S' : Pl) (H1 : Heap) (locs1 : List Loc), post r S' → PX G A s.heap S' H1 locs1 → PX G A s.heap S2 H1 locs1 → (∀ a, a ∈ pL S' → a ∉ pL S2) → W p l e R s m args below meth c H1 locs1 (cells + mc) (slots + ms) Q (F0 m (pc + 3) ls (.long r :: rest))) : W p l e R s m args below meth c H locs cells slots Q (F0 m pc ls st) := by
  have X0 := X
  obtain ⟨⟨hx, hb, hml, hown, hts⟩, -, -, hK, hE, hA, -⟩ := X
  exact va_calll (va_runV (C := y.cls) (As := As) (rest := rest) ⟨hx, hb, hml, hown, hts⟩ (hM H.size) ⟨callB_of n hts (gd_code h4) rfl hrc hrs (hts _ h3) (hts _ h1) hd hR, hts _ h2, hts _ h5⟩ ⟨pr_blind, hr, fun U hU hW => pr_of X0 hw U hU hW⟩ rfl hn hls hst (by simpa [JFrame.monitorRoom] using hW) hdg hf) hw.2.2 (fun q _ h => pw_free hw hA q h) (pw_free hw hA) (fun r S' t H1 locs1 ht hvm hp hB _ hk hS1 => kk r S' H1 locs1 hp (px_back hw hA ht hB hS1) (px_other hw2 hdj ht hB hk hS1).1 (px_other hw2 hdj ht hB hk hS1).2)
theorem k2_Iv {y : MethodName} {bytes : ByteArray} {maxL mc ms n index : Nat} {ret2 : Option FieldType} {rm : Room} {As st : List Value} {post : Pl → Prop} {b : Nat} (X : Cx p s m args meth c cc nL ret own G A) (hw : PX G A s.heap S H locs) (hw2 : PX G A s.heap S2 H locs) (hdj : ∀ a, a ∈ pL S → a ∉ pL S2) (hM : MtV l y bytes maxL none rm G (.ref b :: As) S post mc ms) (h1 : Cond.methodLink own index y ∈ wsL_law) (h2 : Cond.instanceMethod y ∈ wsL_law) (h3 : Cond.initialized y.cls ∈ wsL_law) (h4 : Cond.code y bytes maxL none ∈ wsL_law) (hy : y.name = "<init>") (hd : y.cls ≠ "java/lang/invoke/MethodHandle" ∧ y.cls ≠ "java/lang/invoke/VarHandle" ∧ (parseMethodDescriptor y.desc).map (fun d => d.parameters.length) = some n) (hrc : rm.cells = mc) (hrs : rm.slots = ms) (hR : rm.frames + 1 ≤ R.frames ∧ 8 + (maxL + 11) + rm.locals ≤ R.locals) (hn : As.length = n) (hst : st = As.reverse ++ .ref b :: rest) (hls : ls.size = nL) (hW : (rest.map fun v => v.category).sum ≤ 8) (hdg : decode cc pc = .ok (.invokespecial index, 3)) (hf : cells + mc ≤ R.cells ∧ slots + ms ≤ R.slots)
    (kk : ∀ (S' : Pl) (H1 : Heap) (locs1 : List Loc), post S' → PX G A s.heap S' H1 locs1 → PX G A s.heap S2 H1 locs1 → (∀ a, a ∈ pL S' → a ∉ pL S2) → W p l e R s m args below meth c H1 locs1 (cells + mc) (slots + ms) Q (F0 m (pc + 3) ls (rest))) : W p l e R s m args below meth c H locs cells slots Q (F0 m pc ls st) := by
  have X0 := X
  obtain ⟨⟨hx, hb, hml, hown, hts⟩, -, -, hK, hE, hA, -⟩ := X
  exact va_callv (va_runI (As := As) (rest := rest) ⟨hx, hb, hml, hown, hts⟩ (hM H.size) ⟨callB_of n hts (gd_code h4) rfl hrc hrs (hts _ h3) (hts _ h1) hd hR, hy, hts _ h2⟩ ⟨pr_blind, fun U hU hW => pr_of X0 hw U hU hW⟩ rfl hn hls hst (by simpa [JFrame.monitorRoom] using hW) hdg hf) hw.2.2 (fun q _ h => pw_free hw hA q h) (pw_free hw hA) (fun S' t H1 locs1 ht hvm hp hB _ hk hS1 => kk S' H1 locs1 hp (px_back hw hA ht hB hS1) (px_other hw2 hdj ht hB hk hS1).1 (px_other hw2 hdj ht hB hk hS1).2)
/-- no cell -/
def eP : Pl := ([], fun _ => 0, fun _ _ => 0, fun _ _ => 0, fun _ _ => none, fun _ => 0, fun _ _ => 0, fun _ _ => 0, fun _ _ => none)
theorem eP_no {k : Nat} {q : Nat × va_E} (h : (pw G eP)[k]? = some q) : False := by
  have h : ([] : va_W)[k]? = some q := h
  simp at h
theorem eP_px {H0 : Heap} : PX G A H0 eP H0 [] := ⟨fun k q h => (eP_no h).elim, ⟨fun i j p q h => (eP_no h).elim, fun k q h => (eP_no h).elim⟩, va_S.rf⟩
theorem vp_l {D : va_G} {cl : List vw_C} {W1 W2 : va_W} (h : va_P D cl (W1 ++ W2) H) : va_P D cl W1 H := fun k q hk => h k q (by rw [List.getElem?_append_left (List.getElem?_eq_some_iff.mp hk).1]; exact hk)
theorem vp_r {D : va_G} {cl : List vw_C} {W1 W2 : va_W} (h : va_P D cl (W1 ++ W2) H) : va_P D cl W2 H := fun k q hk => h (W1.length + k) q (by rw [List.getElem?_append_right (Nat.le_add_right _ _), Nat.add_sub_cancel_left]; exact hk)
theorem vd_l {W1 W2 : va_W} (h : va_D A (W1 ++ W2)) : va_D A W1 := by
  have u : ∀ {k : Nat} {q : Nat × va_E}, W1[k]? = some q → (W1 ++ W2)[k]? = some q := fun hk => by rw [List.getElem?_append_left (List.getElem?_eq_some_iff.mp hk).1]; exact hk
  exact ⟨fun i j p q hi hj e => h.1 i j p q (u hi) (u hj) e, fun k q hk => h.2 k q (u hk)⟩
theorem vd_r {W1 W2 : va_W} (h : va_D A (W1 ++ W2)) : va_D A W2 := by
  have u : ∀ {k : Nat} {q : Nat × va_E}, W2[k]? = some q → (W1 ++ W2)[W1.length + k]? = some q := fun hk => by rw [List.getElem?_append_right (Nat.le_add_right _ _), Nat.add_sub_cancel_left]; exact hk
  exact ⟨fun i j p q hi hj e => Nat.add_left_cancel (h.1 _ _ p q (u hi) (u hj) e), fun k q hk => h.2 _ q (u hk)⟩
theorem px_new {H0 : Heap} {q : Nat} (hq : q ∉ pL S) (hw : PX G A H0 (nO S q 10) H locs) : PX G A H0 S H locs ∧ PX G A H0 (nO eP q 10) H locs ∧ ∀ a, a ∈ pL (nO eP q 10) → a ∉ pL S := by
  have e1 : ∀ a, a ∈ pL S → pF G (nO S q 10) a = pF G S a := fun a ha => by
    have hne : a ≠ q := fun h => hq (h ▸ ha)
    show pE G (fun f => va_up (pI S f) q 0 a) (fun f => va_up (pJ S f) q 0 a) (fun f => va_up (pR S f) q none a) _ _ _ _ (va_up (pK S) q 10 a) = _
    simp only [vu_n hne]; rfl
  have e0 : ∀ T : Pl, pF G (nO T q 10) q = pE G (fun _ => 0) (fun _ => 0) (fun _ => none) 0 (fun _ => 0) (fun _ => 0) (fun _ => none) 10 := fun T => by
    show pE G (fun f => va_up (pI T f) q 0 q) (fun f => va_up (pJ T f) q 0 q) (fun f => va_up (pR T f) q none q) _ _ _ _ (va_up (pK T) q 10 q) = _
    simp only [vu_s]; rfl
  have e2 : pw G (nO S q 10) = pw G S ++ pw G (nO eP q 10) := by
    show (pL S ++ [q]).map (fun a => (a, pF G (nO S q 10) a)) = (pL S).map (fun a => (a, pF G S a)) ++ [q].map (fun a => (a, pF G (nO eP q 10) a))
    rw [List.map_append]
    congr 1
    · exact List.map_congr_left (fun a ha => by rw [e1 a ha])
    · simp only [List.map_cons, List.map_nil, e0]
  obtain ⟨h1, h2, h3⟩ := hw
  rw [e2] at h1 h2
  refine ⟨⟨vp_l h1, vd_l h2, h3⟩, ⟨vp_r h1, vd_r h2, h3⟩, fun a ha => ?_⟩
  rcases List.mem_append.mp ha with h | h
  · exact absurd h List.not_mem_nil
  · rw [List.mem_singleton] at h; rw [h]; exact hq
end LROWS
/-- what is told of both: the tape's size, tales, proofs, which are taken back, the tape's bytes, the present sea -/
abbrev T4 : Type := Int × Nat × Nat × (Nat → Int32) × (Nat → Int32) × SV × (Nat → TP) × (Nat → PP)
def MV (S : Pl) (ma : Nat → Nat) (bn : Nat) (z : Int) (bt : Nat → Int32) (V : SV) : Prop := (∀ j : Nat, (j : Int) < z → qI S (ma 1) j = bt j) ∧ (pI S 120 (ma 0)).toInt = (bn : Int) ∧ bn ≤ 1 ∧ MBk (qI S) ma bn V.2 ∧ (qI S (ma 12) bn).toInt = V.1 ∧ vok V
theorem MBk.cg {q q1 : Nat → Nat → Int32} {ma : Nat → Nat} {b : Nat} {C : Nat → Nat → Int32} (h : MBk q ma b C) (k : ∀ j, 2 ≤ j → j ≤ 23 → q1 (ma j) = q (ma j)) : MBk q1 ma b C := by
  unfold MBk at *
  rw [k 13 (by decide) (by decide), k 14 (by decide) (by decide), k 15 (by decide) (by decide), k 16 (by decide) (by decide), k 17 (by decide) (by decide), k 18 (by decide) (by decide), k 19 (by decide) (by decide), k 20 (by decide) (by decide)]
  exact h
theorem MV.b {S T : Pl} {ma : Nat → Nat} {bn : Nat} {z z' : Int} {bt bt' : Nat → Int32} {V : SV} (h : MV S ma bn z bt V) (hb : ∀ j : Nat, (j : Int) < z' → qI T (ma 1) j = bt' j) (k : ∀ j, 2 ≤ j → j ≤ 23 → qI T (ma j) = qI S (ma j)) (hi : pI T 120 (ma 0) = pI S 120 (ma 0)) : MV T ma bn z' bt' V := ⟨hb, by rw [hi]; exact h.2.1, h.2.2.1, h.2.2.2.1.cg k, by rw [k 12 (by decide) (by decide)]; exact h.2.2.2.2.1, h.2.2.2.2.2⟩
theorem MV.k {S T : Pl} {ma : Nat → Nat} {bn : Nat} {z : Int} {bt : Nat → Int32} {V : SV} (h : MV S ma bn z bt V) (k : ∀ j, j ≤ 23 → qI T (ma j) = qI S (ma j)) (hi : pI T 120 (ma 0) = pI S 120 (ma 0)) : MV T ma bn z bt V := h.b (fun j hj => (congrFun (k 1 (by decide)) j).trans (h.1 j hj)) (fun j _ h2 => k j h2) hi
def mTs (q : Nat → Nat → Int32) (ma : Nat → Nat) (nt : Nat) (tl : Nat → TP) : Prop := ∀ k, k < nt → mTP q ma k (tl k)
def mPs (q : Nat → Nat → Int32) (ma : Nat → Nat) (np : Nat) (pl : Nat → PP) : Prop := ∀ k, k < np → mPP q ma k (pl k)
section MRO
variable {q q1 : Nat → Nat → Int32} {ma : Nat → Nat} {nt np : Nat} {tl : Nat → TP} {pl : Nat → PP}
theorem mTs.cg (h : mTs q ma nt tl) (k : ∀ j, 24 ≤ j → j ≤ 28 → q1 (ma j) = q (ma j)) : mTs q1 ma nt tl := fun i hi => by
  have z := h i hi
  unfold mTP at *
  rw [k 24 (by decide) (by decide), k 25 (by decide) (by decide), k 26 (by decide) (by decide), k 27 (by decide) (by decide), k 28 (by decide) (by decide)]
  exact z
theorem mPs.cg (h : mPs q ma np pl) (k : ∀ j, 33 ≤ j → j ≤ 39 → q1 (ma j) = q (ma j)) : mPs q1 ma np pl := fun i hi => by
  have z := h i hi
  unfold mPP at *
  rw [k 33 (by decide) (by decide), k 34 (by decide) (by decide), k 35 (by decide) (by decide), k 36 (by decide) (by decide), k 37 (by decide) (by decide), k 38 (by decide) (by decide), k 39 (by decide) (by decide)]
  exact z
theorem up_if {r r1 : Nat → Int32} {n : Nat} {N v : Int32} (hN : N.toInt = (n : Int)) (e : r1 = upd r N.toNatClampNeg v) : r1 n = v ∧ ∀ k, k ≠ n → r1 k = r k := by
  have h1 := cl_toInt (x := N) (by omega)
  have e9 : N.toNatClampNeg = n := by omega
  rw [e, e9]
  exact ⟨pk_us, fun k hk => pk_un hk⟩
theorem mTs.ad {N x y z u w : Int32} (h : mTs q ma nt tl) (hN : N.toInt = (nt : Int)) (e : q1 (ma 24) = upd (q (ma 24)) N.toNatClampNeg x ∧ q1 (ma 25) = upd (q (ma 25)) N.toNatClampNeg y ∧ q1 (ma 26) = upd (q (ma 26)) N.toNatClampNeg z ∧ q1 (ma 27) = upd (q (ma 27)) N.toNatClampNeg u ∧ q1 (ma 28) = upd (q (ma 28)) N.toNatClampNeg w) : mTs q1 ma (nt + 1) (fun k => if k = nt then (x, y, z, u, w) else tl k) := fun k hk => by
  obtain ⟨e1, e2, e3, e4, e5⟩ := e
  have a1 := up_if hN e1; have a2 := up_if hN e2; have a3 := up_if hN e3; have a4 := up_if hN e4; have a5 := up_if hN e5
  unfold mTP
  by_cases g : k = nt
  · subst g; simp only [if_true]; exact ⟨a1.1, a2.1, a3.1, a4.1, a5.1⟩
  · simp only [if_neg g]; rw [a1.2 k g, a2.2 k g, a3.2 k g, a4.2 k g, a5.2 k g]; exact h k (by omega)
theorem mPs.ad {N b1 b2 b3 b4 b5 b6 b7 : Int32} (h : mPs q ma np pl) (hN : N.toInt = (np : Int)) (e : q1 (ma 33) = upd (q (ma 33)) N.toNatClampNeg b1 ∧ q1 (ma 34) = upd (q (ma 34)) N.toNatClampNeg b2 ∧ q1 (ma 35) = upd (q (ma 35)) N.toNatClampNeg b3 ∧ q1 (ma 36) = upd (q (ma 36)) N.toNatClampNeg b4 ∧ q1 (ma 37) = upd (q (ma 37)) N.toNatClampNeg b5 ∧ q1 (ma 38) = upd (q (ma 38)) N.toNatClampNeg b6 ∧ q1 (ma 39) = upd (q (ma 39)) N.toNatClampNeg b7) : mPs q1 ma (np + 1) (fun k => if k = np then (b1, b2, b3, b4, b5, b6, b7) else pl k) := fun k hk => by
  obtain ⟨e1, e2, e3, e4, e5, e6, e7⟩ := e
  have a1 := up_if hN e1; have a2 := up_if hN e2; have a3 := up_if hN e3; have a4 := up_if hN e4; have a5 := up_if hN e5; have a6 := up_if hN e6; have a7 := up_if hN e7
  unfold mPP
  by_cases g : k = np
  · subst g; simp only [if_true]; exact ⟨a1.1, a2.1, a3.1, a4.1, a5.1, a6.1, a7.1⟩
  · simp only [if_neg g]; rw [a1.2 k g, a2.2 k g, a3.2 k g, a4.2 k g, a5.2 k g, a6.2 k g, a7.2 k g]; exact h k (by omega)
end MRO
def Mod (S : Pl) (mo : Nat) (D : T4) : Prop := ∃ (ma : Nat → Nat) (bn : Nat), ma 0 = mo ∧ shMod S ma ∧ mInv (pI S) (qI S) ma ∧ (pI S 102 (ma 0)).toInt = D.1 ∧ (pI S 128 (ma 0)).toInt = (D.2.1 : Int) ∧ (pI S 140 (ma 0)).toInt = (D.2.2.1 : Int) ∧ (∀ k, k < D.2.2.1 → qI S (ma 40) k = D.2.2.2.1 k) ∧ MV S ma bn D.1 D.2.2.2.2.1 D.2.2.2.2.2.1 ∧ mTs (qI S) ma D.2.1 D.2.2.2.2.2.2.1 ∧ mPs (qI S) ma D.2.2.1 D.2.2.2.2.2.2.2
def PD (D : T4) : Prop := ∀ k, k < D.2.2.1 → ppV (D.2.2.2.2.2.2.2 k)
def LW (G : Gh) (s : State) (x mo : Nat) (H : Heap) (locs : List Loc) (D M : T4) : Prop := ∃ S1 S2 : Pl, PX G (fun q => s.heap.size ≤ q) s.heap S1 H locs ∧ PX G (fun q => s.heap.size ≤ q) s.heap S2 H locs ∧ (∀ a, a ∈ pL S1 → a ∉ pL S2) ∧ DeskW G S1 x D.1 D.2.1 D.2.2.1 D.2.2.2.1 D.2.2.2.2.1 D.2.2.2.2.2.1 D.2.2.2.2.2.2.1 D.2.2.2.2.2.2.2 ∧ Mod S2 mo M ∧ PD D ∧ PD M
theorem PD_ad {np : Nat} {pl : Nat → PP} {q : PP} (h : ∀ k, k < np → ppV (pl k)) (hp : ppV q) : ∀ k, k < np + 1 → ppV ((fun k => if k = np then q else pl k) k) := fun k hk => by
  by_cases e : k = np
  · simp only [if_pos e]; exact hp
  · simp only [if_neg e]; exact h k (by omega)
theorem lc_z {v : Int32} {x y : Int64} (e : v = lg_cmp x y) (h : x = y) : v = 0 := by
  apply Int32.toInt_inj.mp
  rw [e, lc_v, h, if_neg (Int.lt_irrefl _), if_pos rfl]; decide
def LC (p : Program) (s : State) (m : MethodId) (meth : Method) (c : Code) (b L : Nat) (xs : Nat → Int32) (G : Gh) : Prop := Cx p s m #[Value.ref b] meth c cL_law 4 ret RL G (fun q => s.heap.size ≤ q) ∧ va_X b L xs s s.heap ∧ b < s.heap.size ∧ L ≤ 4096
theorem DeskW.nx {G : Gh} {S : Pl} {d sa sb sp te tm pe : Nat → Nat} {tf pf nt np : Nat} {z : Int} {bk bt : Nat → Int32} {V : SV} {tl : Nat → TP} {pl : Nat → PP} (hC : CIs G S d sa sb sp te tm pe tf pf nt np) (hN : CIn (pI S) d te pe nt np) (hz : (pI S 61 (d 1)).toInt = z) (hb : ∀ k, k < np → pI S 0 (pe k) = bk k) (hA : Apt d sa sb sp) (hV : CV S d sa z bt V) (hT : TV S te tm nt tl V) (hP : PV S pe np pl) : DeskW G S (d 0) z nt np bk bt V tl pl := ⟨d, sa, sb, sp, te, tm, pe, tf, pf, rfl, hC, hN, hz, hb, hA, hV, hT, hP⟩
theorem DeskW.to {G : Gh} {S : Pl} {x : Nat} {z : Int} {nt np : Nat} {bk bk' bt : Nat → Int32} {V : SV} {tl : Nat → TP} {pl : Nat → PP} (h : DeskW G S x z nt np bk bt V tl pl) (hb : ∀ k, k < np → bk k = bk' k) : DeskW G S x z nt np bk' bt V tl pl := by
  obtain ⟨d, sa, sb, sp, te, tm, pe, tf, pf, h1, h2, h3, h4, h5, h6⟩ := h
  exact ⟨d, sa, sb, sp, te, tm, pe, tf, pf, h1, h2, h3, h4, fun k hk => (h5 k hk).trans (hb k hk), h6⟩
theorem TV.sp {G : Gh} {S : Pl} {d sa sb sp te tm pe : Nat → Nat} {tf pf nt np : Nat} {V : SV} {tl : Nat → TP} {I' q' : Nat → Nat → Int32} {y' : Nat → Nat → Int64} (hC : CIs G S d sa sb sp te tm pe tf pf nt np) (h : TV S te tm nt tl V) (hI : ∀ f, f ∉ [45, 46, 47] → I' f = pI S f) (hk : KP sp (qI S) q') : TV (ch S I' (pJ S) q' y') te tm nt tl V := by
  obtain ⟨k0, r70, r71, r72, r73, r74, r75, r76, r77, hR, hS, hB, hSp, hco, lT, lP, n68, n79, hTl, -⟩ := hC
  exact h.fr (fun k _ f h1 h2 => congrFun (hI f (by simp; omega)) _) (fun k hk2 => hk _ (fun j h1 h5 e => hSp.k15 j h1 h5 (by rw [← e]; exact (hTl k hk2).2.2.1.2)))
theorem PV.sp {S : Pl} {pe : Nat → Nat} {np : Nat} {pl : Nat → PP} {I' q' : Nat → Nat → Int32} {y' : Nat → Nat → Int64} (h : PV S pe np pl) (hI : ∀ f, f ∉ [45, 46, 47] → I' f = pI S f) : PV (ch S I' (pJ S) q' y') pe np pl := h.fr (fun _ _ => rfl) (fun k _ f h1 => congrFun (hI f (by unfold pfl at h1; simp; omega)) _)
theorem TV.sz {G : Gh} {S : Pl} {d sa sb sp te tm pe : Nat → Nat} {tf pf nt np : Nat} {V : SV} {tl : Nat → TP} {I' q' : Nat → Nat → Int32} (hC : CIs G S d sa sb sp te tm pe tf pf nt np) (h : TV S te tm nt tl V) (hI : ∀ f, f ≠ 61 → I' f = pI S f) (hq : ∀ a, a ≠ d 2 → q' a = qI S a) : TV (ch S I' (pJ S) q' (qJ S)) te tm nt tl V := by
  obtain ⟨k0, r70, r71, r72, r73, r74, r75, r76, r77, hR, hS, hB, hSp, hco, lT, lP, n68, n79, hTl, -⟩ := hC
  exact h.fr (fun k _ f h1 h2 => congrFun (hI f (by omega)) _) (fun k hk => hq _ (ne_kind (hTl k hk).2.2.1 hR.2.2.2.2.2.2.2.2.2.1 (by decide)))
theorem PV.sz {S : Pl} {pe : Nat → Nat} {np : Nat} {pl : Nat → PP} {I' q' : Nat → Nat → Int32} (h : PV S pe np pl) (hI : ∀ f, f ≠ 61 → I' f = pI S f) : PV (ch S I' (pJ S) q' (qJ S)) pe np pl := h.fr (fun _ _ => rfl) (fun k _ f h1 => congrFun (hI f (pfl_61 h1)) _)
theorem CV.sp {G : Gh} {S : Pl} {d sa sb sp te tm pe : Nat → Nat} {tf pf nt np : Nat} {z : Int} {bt : Nat → Int32} {V : SV} {I' q' : Nat → Nat → Int32} {y' : Nat → Nat → Int64} (hC : CIs G S d sa sb sp te tm pe tf pf nt np) (hA : Apt d sa sb sp) (h : CV S d sa z bt V) (hk : KP sp (qI S) q') (h15 : I' 15 = pI S 15) : CV (ch S I' (pJ S) q' y') d sa z bt V := by
  obtain ⟨k0, r70, r71, r72, r73, r74, r75, r76, r77, hR, hS, hB, hSp, -⟩ := hC
  exact h.q (hk _ (fun k h1 h5 e => hSp.k12 k h1 h5 (by rw [← e]; exact hR.2.2.2.2.2.2.2.2.2.1.2))) (fun j hj => hk _ (hA.2.2.2.1 j hj).1.2.2) (congrFun h15 _)
theorem ad4_c {r r' : Nat → Int32} {n m : Nat} {x : Int32} (h : ∀ j, j < n → r j = r' j) (e : m = n + 4) : ∀ j, j < m → ad4 r n x j = ad4 r' n x j := fun j hj => by
  unfold ad4
  by_cases c : n ≤ j ∧ j < n + 4
  · rw [if_pos c, if_pos c]
  · rw [if_neg c, if_neg c]; exact h j (by omega)
theorem fd5_c {r r' : Nat → Int32} {n : Nat} {a b c d e : Int32} (h : ∀ j, j < n → r j = r' j) : ∀ j, j < n + 20 → fd5 r n a b c d e j = fd5 r' n a b c d e j := ad4_c (ad4_c (ad4_c (ad4_c (ad4_c h rfl) rfl) rfl) rfl) rfl
def fdB (z : Int) (bt : Nat → Int32) (a b c d e : Int32) : Nat → Int32 := if z ≤ 980 then fd5 bt z.toNat a b c d e else bt
theorem fdB_y {z : Int} {bt r r' : Nat → Int32} {a b c d e : Int32} (h0 : 0 ≤ z) (h : ∀ j : Nat, (j : Int) < z → r j = bt j) (g1 : z ≤ 980 → r' = fd5 r z.toNat a b c d e) (g2 : ¬ z ≤ 980 → r' = r) : ∀ j : Nat, (j : Int) < fdN z → r' j = fdB z bt a b c d e j := fun j hj => by
  unfold fdB
  unfold fdN at hj
  by_cases hz : z ≤ 980
  · rw [if_pos hz, g1 hz]
    rw [if_pos (by omega)] at hj
    exact fd5_c (fun i hi => h i (by omega)) j (by omega)
  · rw [if_neg hz, g2 hz]
    rw [if_neg (by omega)] at hj
    exact h j hj
theorem CV.fd {S : Pl} {d sa : Nat → Nat} {z : Int} {bt : Nat → Int32} {V : SV} {I' q' : Nat → Nat → Int32} {a b c f e : Int32} (h : CV S d sa z bt V) (h0 : 0 ≤ z) (g1 : z ≤ 980 → q' (d 2) = fd5 (qI S (d 2)) z.toNat a b c f e) (g2 : ¬ z ≤ 980 → q' (d 2) = qI S (d 2)) (g3 : ∀ a, a ≠ d 2 → q' a = qI S a) (hA : ∀ j ∈ sidR, sa j ≠ d 2) (h15 : I' 15 = pI S 15) : CV (ch S I' (pJ S) q' (qJ S)) d sa (fdN z) (fdB z bt a b c f e) V :=
  ⟨fdB_y h0 h.1 g1 g2, h.2.1.kept (fun j hj => g3 _ (hA j hj)), (congrArg Int32.toInt (congrFun h15 _)).trans h.2.2.1, h.2.2.2⟩
theorem edN_le {z n : Int} : edN z n ≤ z := by unfold edN; split <;> omega
theorem CV.ed {S : Pl} {d sa : Nat → Nat} {z z' : Int} {bt : Nat → Int32} {V : SV} {I' : Nat → Nat → Int32} (h : CV S d sa z bt V) (hz : z' ≤ z) (h15 : I' 15 = pI S 15) : CV (ch S I' (pJ S) (qI S) (qJ S)) d sa z' bt V := ⟨fun j hj => h.1 j (by omega), h.2.1, (congrArg Int32.toInt (congrFun h15 _)).trans h.2.2.1, h.2.2.2⟩
theorem md_bk {q q' bk : Nat → Int32} {n : Int32} {np : Nat} (hn : n.toInt = (np : Int)) (hb : ∀ k, k < np → q k = bk k) (g : q' = upd q n.toNatClampNeg 0) : ∀ k, k < np + 1 → q' k = if k = np then 0 else bk k := fun k hk => by
  have h1 := cl_toInt (x := n) (by omega)
  have e9 : n.toNatClampNeg = np := by omega
  rw [g, e9]
  by_cases e : k = np
  · rw [if_pos e, e, pk_us]
  · rw [if_neg e, pk_un e]; exact hb k (by omega)
theorem bk_if {i np : Nat} {v : Int32} {f g : Nat → Int32} (h : ∀ k, k ≠ i → k < np → f k = g k) : ∀ k, k < np → (if k = i then v else f k) = (if k = i then v else g k) := fun k hk => by
  by_cases e : k = i
  · rw [if_pos e, if_pos e]
  · rw [if_neg e, if_neg e]; exact h k e hk
theorem nN {a : Int} {n : Nat} (h : a = (n : Int)) : a.toNat = n := by omega
theorem fdN_b {z : Int} (h : 0 ≤ z ∧ z ≤ 1000) : 0 ≤ fdN z ∧ fdN z ≤ 1000 := by unfold fdN; split <;> omega
theorem edN_b {z n : Int} (h : 0 ≤ z ∧ z ≤ 1000) : 0 ≤ edN z n ∧ edN z n ≤ 1000 := by unfold edN; split <;> omega
