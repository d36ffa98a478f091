theorem c_add (l : Launch) (G : Gh) (S : Pl) (la ar tf n : Nat) (el : Nat → Nat) (b : Nat) (hL : lsh G S la ar tf n el) (hn : n < 60) (hob : ob S b) : MtI l yJx4a65c_add_9ea2d cJx4a65c_add_9ea2d 2 (some .boolean) (Rm 6 1 90) G [.ref la, .ref b] S (fun (r : Int32) (S' : Pl) => ∃ ar', AddP S S' la ar tf n b ar') 1 90 := by
  by_cases htf : tf = 0
  · exact c_add_g0 l G S la ar tf n el b htf hL hn hob
  · rcases Nat.lt_or_ge n (pN S ar) with h | h
    · exact c_add_in l G S la ar tf n el b htf h hL hn hob
    · exact c_add_g1 l G S la ar tf n el b htf (Nat.le_antisymm h (hL.2.2.2.2.2.1 htf).2.1) hL hn hob
/-! ===== calls of a proof's methods, casts ===== -/
theorem gd_U {own C owner : String} {idx maxL : Nat} {x y : MethodName} {bytes : ByteArray} {r : Option FieldType} (h1 : Cond.methodLink own idx x ∈ wsL_law) (h2 : Cond.sameMethod x.cls owner x.name x.desc ∈ wsL_law) (h3 : Cond.selects C x y ∈ wsL_law) (h4 : Cond.instanceMethod y ∈ wsL_law) (h5 : Cond.initialized y.cls ∈ wsL_law) (h6 : Cond.code y bytes maxL r ∈ wsL_law) : GoodIn wsL_law (va_wsU own idx C owner x y (.code y bytes maxL r :: wsL_law)) := fun w hw => by
  unfold va_wsU at hw
  have key : w ∈ wsL_law := by
    rcases List.mem_append.mp hw with h | h
    · simp only [List.mem_cons, List.not_mem_nil, or_false] at h
      rcases h with rfl | rfl | rfl | rfl | rfl
      · exact h1
      · exact h2
      · exact h3
      · exact h4
      · exact h5
    · rcases List.mem_cons.mp h with rfl | h
      · exact h6
      · exact h
  exact ⟨key, gd_all _ key⟩
section PROWS
variable {p : Program} {l : Launch} {e : Env} {R : Room} {s : State} {m : MethodId} {args : Array Value} {below : List Frame} {meth : Method} {c : Code} {H : Heap} {locs : List Loc} {cells slots : Nat} {Q : State → Prop}
variable {cc : ByteArray} {nL : Nat} {ret : Option FieldType} {own : String} {G : Gh} {A : Nat → Prop} {S : Pl} {pc : Nat} {ls : Array Slot} {rest : List Value} {a : Nat}
theorem k_Ui {x y : MethodName} {bytes : ByteArray} {C owner : String} {maxL mc ms n index : Nat} {ret2 : Option FieldType} {rm : Room} {As st : List Value} {post : Int32 → Pl → Prop} {b : Nat} (X : Cx p s m args meth c cc nL ret own G A) (hw : PX G A s.heap S H locs) (hr : ∃ cell : Cell, H[b]? = some cell ∧ cell.vm.isStatics = false ∧ s.vm.findClass C = some cell.cls) (hM : MtI l y bytes maxL ret2 rm G (.ref b :: As) S post mc ms) (hG : GoodIn wsL_law (va_wsU own index C owner x y (.code y bytes maxL ret2 :: wsL_law))) (hyx : y = ⟨owner, x.name, x.desc⟩ ∨ va_Nw (.declares ⟨owner, x.name, x.desc⟩) s) (hd : owner ≠ "java/lang/invoke/MethodHandle" ∧ owner ≠ "java/lang/invoke/VarHandle" ∧ (parseMethodDescriptor x.desc).map (fun d => d.parameters.length) = some n) (hrc : rm.cells = mc) (hrs : rm.slots = ms) (hR : rm.frames + 1 ≤ R.frames ∧ 8 + (maxL + 11) + rm.locals ≤ R.locals) (hn : As.length = n) (hst : st = As.reverse ++ .ref b :: rest) (hls : ls.size = nL) (hW : (rest.map fun v => v.category).sum ≤ 8) (hdg : decode cc pc = .ok (.invokevirtual index, 3)) (hf : cells + mc ≤ R.cells ∧ slots + ms ≤ R.slots)
    (kk : ∀ (r : Int32) (S' : Pl) (H1 : Heap) (locs1 : List Loc), post r S' → PX G A s.heap S' H1 locs1 → W p l e R s m args below meth c H1 locs1 (cells + mc) (slots + ms) Q (F0 m (pc + 3) ls (.int r :: rest))) : W p l e R s m args below meth c H locs cells slots Q (F0 m pc ls st) := by
  have X0 := X
  obtain ⟨⟨hx, hb, hml, hown, hts⟩, -, -, hK, hE, hA, -⟩ := X
  have cw : va_CU R s args own C owner index x y bytes maxL ret2 (.code y bytes maxL ret2 :: wsL_law) rm mc ms n := by
    rcases hyx with h | h
    · exact va_cwU n hts hG rfl hrc hrs h hd hR
    · exact va_cwA n hts hG rfl hrc hrs h hd hR
  exact va_calli (va_runU (As := As) (rest := rest) ⟨hx, hb, hml, hown, hts⟩ (hM H.size) cw ⟨pr_blind, hr, fun U hU hW => pr_of X0 hw U hU hW⟩ rfl hn hls hst (by simpa [JFrame.monitorRoom] using hW) hdg hf) hw.2.2 (fun q _ h => pw_free hw hA q h) (pw_free hw hA) (fun r S' t H1 locs1 ht hvm hp hB _ _ hS1 => kk r S' H1 locs1 hp (px_back hw hA ht hB hS1))
theorem k_Uv {x y : MethodName} {bytes : ByteArray} {C owner : String} {maxL mc ms n index : Nat} {ret2 : Option FieldType} {rm : Room} {As st : List Value} {post : Pl → Prop} {b : Nat} (X : Cx p s m args meth c cc nL ret own G A) (hw : PX G A s.heap S H locs) (hr : ∃ cell : Cell, H[b]? = some cell ∧ cell.vm.isStatics = false ∧ s.vm.findClass C = some cell.cls) (hM : MtV l y bytes maxL ret2 rm G (.ref b :: As) S post mc ms) (hG : GoodIn wsL_law (va_wsU own index C owner x y (.code y bytes maxL ret2 :: wsL_law))) (hyx : y = ⟨owner, x.name, x.desc⟩) (hd : owner ≠ "java/lang/invoke/MethodHandle" ∧ owner ≠ "java/lang/invoke/VarHandle" ∧ (parseMethodDescriptor x.desc).map (fun d => d.parameters.length) = some n) (hrc : rm.cells = mc) (hrs : rm.slots = ms) (hR : rm.frames + 1 ≤ R.frames ∧ 8 + (maxL + 11) + rm.locals ≤ R.locals) (hn : As.length = n) (hst : st = As.reverse ++ .ref b :: rest) (hls : ls.size = nL) (hW : (rest.map fun v => v.category).sum ≤ 8) (hdg : decode cc pc = .ok (.invokevirtual index, 3)) (hf : cells + mc ≤ R.cells ∧ slots + ms ≤ R.slots)
    (kk : ∀ (S' : Pl) (H1 : Heap) (locs1 : List Loc), post S' → PX G A s.heap S' H1 locs1 → W p l e R s m args below meth c H1 locs1 (cells + mc) (slots + ms) Q (F0 m (pc + 3) ls rest)) : W p l e R s m args below meth c H locs cells slots Q (F0 m pc ls st) := by
  have X0 := X
  obtain ⟨⟨hx, hb, hml, hown, hts⟩, -, -, hK, hE, hA, -⟩ := X
  exact va_callv (va_runU (As := As) (rest := rest) ⟨hx, hb, hml, hown, hts⟩ (hM H.size) (va_cwU n hts hG rfl hrc hrs hyx hd hR) ⟨pr_blind, hr, fun U hU hW => pr_of X0 hw U hU hW⟩ rfl hn hls hst (by simpa [JFrame.monitorRoom] using hW) hdg hf) hw.2.2 (fun q _ h => pw_free hw hA q h) (pw_free hw hA) (fun S' t H1 locs1 ht hvm hp hB _ _ hS1 => kk S' H1 locs1 hp (px_back hw hA ht hB hS1))
theorem rcP {b : Nat} (X : Cx p s m args meth c cc nL ret own G A) (hw : PX G A s.heap S H locs) (hk : is S 0 b) : ∃ cell : Cell, H[b]? = some cell ∧ cell.vm.isStatics = false ∧ s.vm.findClass RX0 = some cell.cls := rcvk (ci := 1) X hw hk (fun _ _ _ _ _ _ _ => ⟨_, rfl⟩) rfl
theorem rcQ {b : Nat} (X : Cx p s m args meth c cc nL ret own G A) (hw : PX G A s.heap S H locs) (hk : is S 4 b) : ∃ cell : Cell, H[b]? = some cell ∧ cell.vm.isStatics = false ∧ s.vm.findClass RX5 = some cell.cls := rcvk (ci := 5) X hw hk (fun _ _ _ _ _ _ _ => ⟨_, rfl⟩) rfl
theorem kp_st {b : Nat} (X : Cx p s m args meth c cc nL ret RX10 G A) (hw : PX G A s.heap S H locs) (hk : is S 0 b ∨ is S 4 b) (hR : 1 ≤ R.frames ∧ 20 ≤ R.locals) (hls : ls.size = nL) (hW : (rest.map fun v => v.category).sum ≤ 8) (hdg : decode cc pc = .ok (.invokevirtual 173, 3)) (hf : cells ≤ R.cells ∧ slots ≤ R.slots)
    (kk : ∀ (r : Int32) (H1 : Heap) (locs1 : List Loc), ((r = 1 ∧ (pI S 0 b).toInt = 0) ∨ (r = 0 ∧ ¬ (pI S 0 b).toInt = 0)) → PX G A s.heap S H1 locs1 → W p l e R s m args below meth c H1 locs1 cells slots Q (F0 m (pc + 3) ls (.int r :: rest))) : W p l e R s m args below meth c H locs cells slots Q (F0 m pc ls (.ref b :: rest)) := by
  have fin : ∀ (r : Int32) (S' : Pl) (H1 : Heap) (locs1 : List Loc), ((S = S' ∧ r = 1 ∧ ((pI S 0 b).toInt = 0)) ∨ (S = S' ∧ r = 0 ∧ ¬ ((pI S 0 b).toInt = 0))) → PX G A s.heap S' H1 locs1 → W p l e R s m args below meth c H1 locs1 (cells + 0) (slots + 0) Q (F0 m (pc + 3) ls (.int r :: rest)) := fun r S' H1 locs1 hp hw1 => by
    rcases hp with ⟨rfl, h1, h2⟩ | ⟨rfl, h1, h2⟩
    · exact kk r H1 locs1 (Or.inl ⟨h1, h2⟩) hw1
    · exact kk r H1 locs1 (Or.inr ⟨h1, h2⟩) hw1
  rcases hk with h | h
  · exact k_Ui (As := []) (n := 0) (x := ⟨"DriftDesk$Proof", "isStanding", "()Z"⟩) (owner := "DriftDesk$Proof") X hw (rcP X hw h) (c_X2_isStanding_k0 l G S b h) (gd_U wd_r35_5 wd_r35_6 wd_r35_7 wd_r35_8 wd_r33_5 wd_r35_9) (Or.inl rfl) ⟨by decide, by decide, by decide +kernel⟩ rfl rfl hR rfl rfl hls hW hdg hf fin
  · exact k_Ui (As := []) (n := 0) (x := ⟨"DriftDesk$Proof", "isStanding", "()Z"⟩) (owner := "DriftDesk$Proof") X hw (rcQ X hw h) (c_X2_isStanding_k4 l G S b h) (gd_U wd_r35_5 wd_r35_6 wd_r35_11 wd_r35_8 wd_r33_5 wd_r35_9) (Or.inl rfl) ⟨by decide, by decide, by decide +kernel⟩ rfl rfl hR rfl rfl hls hW hdg hf fin
theorem kp_tb {b : Nat} (X : Cx p s m args meth c cc nL ret RX10 G A) (hw : PX G A s.heap S H locs) (hk : is S 0 b ∨ is S 4 b) (hR : 1 ≤ R.frames ∧ 20 ≤ R.locals) (hls : ls.size = nL) (hW : (rest.map fun v => v.category).sum ≤ 8) (hdg : decode cc pc = .ok (.invokevirtual 176, 3)) (hf : cells ≤ R.cells ∧ slots ≤ R.slots)
    (kk : ∀ (H1 : Heap) (locs1 : List Loc), PX G A s.heap (ch S (up2 (pI S) 0 b 1) (pJ S) (qI S) (qJ S)) H1 locs1 → W p l e R s m args below meth c H1 locs1 cells slots Q (F0 m (pc + 3) ls rest)) : W p l e R s m args below meth c H locs cells slots Q (F0 m pc ls (.ref b :: rest)) := by
  have fin : ∀ (S' : Pl) (H1 : Heap) (locs1 : List Loc), (∃ I', ch S I' (pJ S) (qI S) (qJ S) = S' ∧ I' = up2 (pI S) 0 b 1) → PX G A s.heap S' H1 locs1 → W p l e R s m args below meth c H1 locs1 (cells + 0) (slots + 0) Q (F0 m (pc + 3) ls rest) := fun S' H1 locs1 hp hw1 => by
    obtain ⟨I', rfl, rfl⟩ := hp
    exact kk H1 locs1 hw1
  rcases hk with h | h
  · exact k_Uv (As := []) (n := 0) (x := ⟨"DriftDesk$Proof", "takeBack", "()V"⟩) (owner := "DriftDesk$Proof") X hw (rcP X hw h) (c_X2_takeBack_k0 l G S b h) (gd_U wd_r35_12 wd_r35_13 wd_r35_14 wd_r35_15 wd_r33_5 wd_r35_16) rfl ⟨by decide, by decide, by decide +kernel⟩ rfl rfl hR rfl rfl hls hW hdg hf fin
  · exact k_Uv (As := []) (n := 0) (x := ⟨"DriftDesk$Proof", "takeBack", "()V"⟩) (owner := "DriftDesk$Proof") X hw (rcQ X hw h) (c_X2_takeBack_k4 l G S b h) (gd_U wd_r35_12 wd_r35_13 wd_r35_17 wd_r35_15 wd_r33_5 wd_r35_16) rfl ⟨by decide, by decide, by decide +kernel⟩ rfl rfl hR rfl rfl hls hW hdg hf fin
theorem kp_wg {b ta tm : Nat} {sa : Nat → Nat} (X : Cx p s m args meth c cc nL ret RX10 G A) (hw : PX G A s.heap S H locs) (hk : is S 0 b ∨ is S 4 b) (hA : shTale S ta tm) (hS : shSea S sa) (hR : 4 ≤ R.frames ∧ 144 ≤ R.locals) (hls : ls.size = nL) (hW : (rest.map fun v => v.category).sum ≤ 8) (hdg : decode cc pc = .ok (.invokevirtual 218, 3)) (hf : cells ≤ R.cells ∧ slots ≤ R.slots)
    (kk : ∀ (r : Int32) (H1 : Heap) (locs1 : List Loc), PX G A s.heap S H1 locs1 → W p l e R s m args below meth c H1 locs1 cells slots Q (F0 m (pc + 3) ls (.int r :: rest))) : W p l e R s m args below meth c H locs cells slots Q (F0 m pc ls (.ref (sa 0) :: .ref ta :: .ref b :: rest)) := by
  have fin : ∀ (r : Int32) (S' : Pl) (H1 : Heap) (locs1 : List Loc), (S = S' ∧ True) → PX G A s.heap S' H1 locs1 → W p l e R s m args below meth c H1 locs1 (cells + 0) (slots + 0) Q (F0 m (pc + 3) ls (.int r :: rest)) := fun r S' H1 locs1 hp hw1 => by
    obtain ⟨rfl, -⟩ := hp
    exact kk r H1 locs1 hw1
  have hE := X.2.2.2.2.1
  rcases hk with h | h
  · exact k_Ui (As := [.ref ta, .ref (sa 0)]) (n := 2) (x := ⟨"DriftDesk$Proof", "weighing", "(LDriftDesk$Tale;LDriftDesk$Sea;)I"⟩) (owner := "DriftDesk$Proof") X hw (rcP X hw h) (c_X0_weighing l G S b ta tm sa h hA hS) (gd_U wd_r36_11 wd_r36_12 wd_r36_13 wd_r36_14 wd_r34_11 wd_r36_15) (Or.inr hE.2.2.1.1) ⟨by decide, by decide, by decide +kernel⟩ rfl rfl ⟨Nat.le_trans (by decide) hR.1, Nat.le_trans (by decide) hR.2⟩ rfl rfl hls hW hdg hf fin
  · exact k_Ui (As := [.ref ta, .ref (sa 0)]) (n := 2) (x := ⟨"DriftDesk$Proof", "weighing", "(LDriftDesk$Tale;LDriftDesk$Sea;)I"⟩) (owner := "DriftDesk$Proof") X hw (rcQ X hw h) (c_X5_weighing l G S b ta tm sa h hA hS) (gd_U wd_r36_11 wd_r36_12 wd_r36_20 wd_r36_21 wd_r32_9 wd_r36_22) (Or.inr hE.2.2.1.1) ⟨by decide, by decide, by decide +kernel⟩ rfl rfl ⟨Nat.le_trans (by decide) hR.1, Nat.le_trans (by decide) hR.2⟩ rfl rfl hls hW hdg hf fin
theorem q_castT {b : Nat} (X : Cx p s m args meth c cc nL ret RX10 G A) (hw : PX G A s.heap S H locs) (hk : is S 6 b) (hdg : decode cc pc = .ok (.checkcast 84, 3)) (k : W p l e R s m args below meth c H locs cells slots Q (F0 m (pc + 3) ls (.ref b :: rest))) : W p l e R s m args below meth c H locs cells slots Q (F0 m pc ls (.ref b :: rest)) := by
  have X0 := X
  obtain ⟨⟨hx, hb, hml, hown, hts⟩, -, -, hK, -⟩ := X
  exact va_castS (nm := RX7) hx hb hown (hts _ wd_r27_0) (hK.1 7 (RX7, TX7, 6) rfl).2 (rcvk (ci := 7) X0 hw hk (fun _ _ _ _ _ _ _ => ⟨_, rfl⟩) rfl) hdg k
theorem q_castP {b : Nat} (X : Cx p s m args meth c cc nL ret RX10 G A) (hw : PX G A s.heap S H locs) (hk : is S 0 b ∨ is S 4 b) (hdg : decode cc pc = .ok (.checkcast 171, 3)) (k : W p l e R s m args below meth c H locs cells slots Q (F0 m (pc + 3) ls (.ref b :: rest))) : W p l e R s m args below meth c H locs cells slots Q (F0 m pc ls (.ref b :: rest)) := by
  have X0 := X
  obtain ⟨⟨hx, hb, hml, hown, hts⟩, -, -, hK, hE, -⟩ := X
  rcases hk with h | h
  · exact va_castY (C := RX0) hx hb hown (hts _ wd_r35_4) (hE.2.1 ("DriftDesk$Clue", "DriftDesk$Proof") (by decide)) (rcP X0 hw h) hdg k
  · exact va_castY (C := RX5) hx hb hown (hts _ wd_r35_4) (hE.2.1 ("DriftDesk$Search", "DriftDesk$Proof") (by decide)) (rcQ X0 hw h) hdg k
end PROWS
/-! ===== the desk's invariant ===== -/
def lss (G : Gh) (S : Pl) (la ar tf n : Nat) (el : Nat → Nat) : Prop := is S 11 la ∧ pR S 91 la = some ar ∧ n ≤ 60 ∧ (tf = 0 → ar = G.2.2.2.2 4 ∧ n = 0) ∧ (tf ≠ 0 → is S 18 ar ∧ n ≤ pN S ar ∧ 10 ≤ pN S ar ∧ pN S ar ≤ 90) ∧ ∀ k, k < n → qR S ar k = some (el k) ∧ ob S (el k)
theorem lss.sh {G : Gh} {S : Pl} {la ar tf n : Nat} {el : Nat → Nat} (h : lss G S la ar tf n el) (i : (pI S 92 la).toInt = (n : Int)) : lsh G S la ar tf n el := ⟨h.1, h.2.1, i, h.2.2⟩
def CIs (G : Gh) (S : Pl) (d sa sb sp te tm pe : Nat → Nat) (tf pf nt np : Nat) : Prop :=
  is S 9 (d 0) ∧ pR S 70 (d 0) = some (d 1) ∧ pR S 71 (d 0) = some (d 3) ∧ pR S 72 (d 0) = some (d 6) ∧ pR S 73 (d 0) = some (d 8) ∧ pR S 74 (d 0) = some (sp 0) ∧ pR S 75 (d 0) = some (d 16) ∧ pR S 76 (d 0) = some (sa 0) ∧ pR S 77 (d 0) = some (sb 0) ∧
  shRd S (d 3) (d 4) (d 5) (d 1) (d 2) ∧ shSea S sa ∧ shSea S sb ∧ shSpl S sp ∧ (is S 14 (d 16) ∧ pN S (d 16) = 64) ∧
  lss G S (d 6) (d 7) tf nt te ∧ lss G S (d 8) (d 9) pf np pe ∧ d 6 ≠ d 8 ∧ (tf ≠ 0 → pf ≠ 0 → d 7 ≠ d 9) ∧
  (∀ k, k < nt → shTale S (te k) (tm k)) ∧ (∀ k, k < np → is S 0 (pe k) ∨ is S 4 (pe k)) ∧ (∀ j k, j < np → k < np → pe j = pe k → j = k) ∧ nt ≤ 40
def CIn (I : Nat → Nat → Int32) (d te pe : Nat → Nat) (nt np : Nat) : Prop := (I 92 (d 6)).toInt = (nt : Int) ∧ (I 92 (d 8)).toInt = (np : Int) ∧ (∀ k, k < nt → 1 ≤ (I 54 (te k)).toInt ∧ (I 54 (te k)).toInt ≤ 1000) ∧ (0 ≤ (I 61 (d 1)).toInt ∧ (I 61 (d 1)).toInt ≤ 1000) ∧ (I 78 (d 0)).toInt = (cntB (fun k => I 0 (pe k)) np : Nat) ∧ cntB (fun k => I 0 (pe k)) np ≤ 6
theorem CIn.fr {I I' : Nat → Nat → Int32} {d te pe : Nat → Nat} {nt np : Nat} (h : CIn I d te pe nt np) (h1 : I' 92 = I 92) (h2 : I' 54 = I 54) (h3 : I' 61 = I 61) (h4 : I' 78 = I 78) (h5 : I' 0 = I 0) : CIn I' d te pe nt np := by
  unfold CIn at *
  rw [h1, h2, h3, h4, h5]; exact h
theorem CIn.rd {I I' : Nat → Nat → Int32} {d te pe : Nat → Nat} {nt np : Nat} (h : CIn I d te pe nt np) (f : Fr I I') : CIn I' d te pe nt np := h.fr (f _ (by decide)) (f _ (by decide)) (f _ (by decide)) (f _ (by decide)) (f _ (by decide))
theorem CIn.sz {I I' : Nat → Nat → Int32} {d te pe : Nat → Nat} {nt np : Nat} (h : CIn I d te pe nt np) (f : ∀ f, f ≠ 61 → I' f = I f) (hz : 0 ≤ (I' 61 (d 1)).toInt ∧ (I' 61 (d 1)).toInt ≤ 1000) : CIn I' d te pe nt np := by
  unfold CIn at *
  rw [f 92 (by decide), f 54 (by decide), f 78 (by decide), f 0 (by decide)]
  exact ⟨h.1, h.2.1, h.2.2.1, hz, h.2.2.2.2⟩
theorem CIn.sp {I I' : Nat → Nat → Int32} {d te pe : Nat → Nat} {nt np : Nat} (h : CIn I d te pe nt np) (f : ∀ f, f ∉ [45, 46, 47] → I' f = I f) : CIn I' d te pe nt np := h.fr (f _ (by decide)) (f _ (by decide)) (f _ (by decide)) (f _ (by decide)) (f _ (by decide))
theorem i2l_w {v : Int64} {x : Int32} (e : v = x.toInt64) : v.toInt = x.toInt := by rw [e]; exact i2l_t _
theorem lf_y {w b : Int64} {i i' : Int32} (hw : 1 ≤ w.toInt ∧ w.toInt ≤ 40000 * pw100 i.toNatClampNeg) (eb : b = w * 100) (ti : i'.toInt = i.toInt + 1) (h0 : 0 ≤ i.toInt) (h6 : i'.toInt ≤ 6) : 1 ≤ b.toInt ∧ b.toInt ≤ 40000 * pw100 i'.toNatClampNeg := by
  have c1 := cl_toInt h0
  have c2 := cl_toInt (x := i') (by omega)
  have e : i'.toNatClampNeg = i.toNatClampNeg + 1 := by omega
  have p6 := pw100_6 (n := i'.toNatClampNeg) (by omega)
  rw [e] at p6 ⊢
  simp only [pw100] at p6 ⊢
  have := lMul eb rfl (by decide : (100 : Int64).toInt = 100) (by omega) (by omega)
  omega
theorem lf_n {w : Int64} {i i' : Int32} (hw : 1 ≤ w.toInt ∧ w.toInt ≤ 40000 * pw100 i.toNatClampNeg) (ti : i'.toInt = i.toInt + 1) (h0 : 0 ≤ i.toInt) : 1 ≤ w.toInt ∧ w.toInt ≤ 40000 * pw100 i'.toNatClampNeg := by
  have c1 := cl_toInt h0
  have c2 := cl_toInt (x := i') (by omega)
  have e : i'.toNatClampNeg = i.toNatClampNeg + 1 := by omega
  have p0 := pw100_pos i.toNatClampNeg
  rw [e]
  simp only [pw100]
  omega
theorem lf_0 {w : Int64} (h : 1 ≤ w.toInt ∧ w.toInt ≤ 40000) : 1 ≤ w.toInt ∧ w.toInt ≤ 40000 * pw100 (0 : Int32).toNatClampNeg := by
  rw [show (0 : Int32).toNatClampNeg = 0 by decide]; simp only [pw100]; omega
