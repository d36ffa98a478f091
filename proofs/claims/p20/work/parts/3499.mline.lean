
/-! ===== the model's whole line ===== -/
def sm1 (j : Int) (c : Nat → Int32) (n p : Nat) : Prop := tK c n p = 2 ∧ ∃ k, k < 5 ∧ spl c (tS c n p) (tE c n p) k ∧ j = (wL.getD k 0).toInt
def smA (z j : Int) (c : Nat → Int32) (n p : Nat) : Prop := (z = 1 ∧ sm1 j c n p) ∨ (z = 0 ∧ ∀ k, k < 5 → ¬ (tK c n p = 2 ∧ spl c (tS c n p) (tE c n p) k))
theorem smA.y {z j : Int} {c : Nat → Int32} {n p : Nat} (h : smA z j c n p) (hz : z ≠ 0) : sm1 j c n p := by
  rcases h with h | h
  · exact h.2
  · exact absurd h.1 hz
theorem smA.n {z j : Int} {c : Nat → Int32} {n p : Nat} (h : smA z j c n p) (hz : z = 0) : ¬ sm1 j c n p := by
  rcases h with h | h
  · have := h.1; omega
  · rintro ⟨a, k, hk, b, _⟩
    exact h.2 k hk ⟨a, b⟩
theorem wd_y {I : Nat → Nat → Int32} {J : Nat → Nat → Int64} {m0 n p k : Nat} {c : Nat → Int32} {z : Int} (ht : mTok I J m0 c n p) (hk : k < 5) (hz : z = 1) (h : (I 108 m0).toInt = 2 ∧ (J 110 m0).toInt = (wL.getD k 0).toInt) : smA z (J 110 m0).toInt c n p := by
  have w := (wd_iff ht hk).mp h
  exact Or.inl ⟨hz, w.1, k, hk, w.2, h.2⟩
theorem wd_n {I : Nat → Nat → Int32} {J : Nat → Nat → Int64} {m0 n p : Nat} {c : Nat → Int32} {z : Int} (ht : mTok I J m0 c n p) (hz : z = 0) (h : ∀ k, k < 5 → ¬ ((I 108 m0).toInt = 2 ∧ (J 110 m0).toInt = (wL.getD k 0).toInt)) : smA z (J 110 m0).toInt c n p := Or.inr ⟨hz, fun k hk q => h k hk ((wd_iff ht hk).mpr q)⟩
theorem ls_sm {I : Nat → Nat → Int32} {J : Nat → Nat → Int64} {m0 n p s : Nat} {c : Nat → Int32} {V : SV} (ht : mTok I J m0 c n p) (hs : s < 5) (q : LnS c n V p s) : sm1 (J 110 m0).toInt c n p ∧ V.1 < 60 := ⟨⟨q.1, s, hs, q.2.1, ((wd_iff ht hs).mpr ⟨q.1, q.2.1⟩).2⟩, q.2.2.1⟩
theorem all5 {P : Nat → Prop} (h0 : P 0) (h1 : P 1) (h2 : P 2) (h3 : P 3) (h4 : P 4) : ∀ k, k < 5 → P k := fun k hk => by
  rcases (show k = 0 ∨ k = 1 ∨ k = 2 ∨ k = 3 ∨ k = 4 by omega) with rfl | rfl | rfl | rfl | rfl
  · exact h0
  · exact h1
  · exact h2
  · exact h3
  · exact h4
theorem wL_u : ∀ j, j < 5 → ∀ k, k < 5 → (wL.getD j 0).toInt = (wL.getD k 0).toInt → j = k := by decide +kernel
/-- what the model's reading of a line leaves -/
def MLd (f l12 : Int) (I : Nat → Nat → Int32) (J : Nat → Nat → Int64) (q : Nat → Nat → Int32) (ma : Nat → Nat) (b : Nat) (c : Nat → Int32) (n : Nat) (V : SV) (p : Nat) : Prop := (f = 0 ∧ ∃ z9, z9 < 5 ∧ LnS c n V p z9 ∧ l12 = V.1 + 1 ∧ MBk q ma b (LnV c n V p z9).2 ∧ mTok I J (ma 0) c n (LnP c n p z9)) ∨ (f ≠ 0 ∧ ∀ z9, z9 < 5 → ¬ LnS c n V p z9)
theorem MBk.r12 {q q1 : Nat → Nat → Int32} {ma : Nat → Nat} {b : Nat} {C : Nat → Nat → Int32} {S : Pl} {r : Nat → Int32} (h : MBk q ma b C) (hM : shMod S ma) (e : q1 = va_up q (ma 12) r) : MBk q1 ma b C := by
  have k : ∀ j, 13 ≤ j → j ≤ 45 → q1 (ma j) = q (ma j) := fun j h1 h2 => row_keep hM e h2 (by decide) (by omega)
  unfold MBk at *
  rw [k 13 (by decide) (by decide), k 14 (by decide) (by decide), k 15 (by decide) (by decide), k 16 (by decide) (by decide), k 17 (by decide) (by decide), k 18 (by decide) (by decide), k 19 (by decide) (by decide), k 20 (by decide) (by decide)]
  exact h
theorem ML_fin {f l12 : Int} {I : Nat → Nat → Int32} {J : Nat → Nat → Int64} {q : Nat → Nat → Int32} {ma : Nat → Nat} {b n p k : Nat} {c : Nat → Int32} {V : SV} (hk : k < 5) (h2 : tK c n p = 2) (hs : spl c (tS c n p) (tE c n p) k) (h60 : V.1 < 60) (hst : Mst I J (ma 0) c n (tE c n (pz c n (tE c n p) (numS k))) (GL V.2 c n (tE c n p) k ∧ tK c n (pz c n (tE c n p) (numS k)) = 4)) (hf : f = (I 104 (ma 0)).toInt) (hl : l12 = V.1 + 1) (hb : GL V.2 c n (tE c n p) k → MBk q ma b (TC V.2 c n (tE c n p) k)) : MLd f l12 I J q ma b c n V p := by
  rcases hst with ⟨h, g, t⟩ | ⟨h, g⟩
  · exact Or.inl ⟨hf.trans h, k, hk, LnS_GL.mpr ⟨h2, hs, h60, g.1, g.2⟩, hl, hb g.1, t⟩
  · refine Or.inr ⟨by rw [hf]; exact h, fun z hz q => ?_⟩
    have e := spl_u hz hk q.2.1 hs
    subst e
    have w := LnS_GL.mp q
    exact g ⟨w.2.2.2.1, w.2.2.2.2⟩
theorem KeepB.r12 {q q1 : Nat → Nat → Int32} {ma : Nat → Nat} {b k : Nat} {S : Pl} {v : Int32} (hM : shMod S ma) (e : q1 = va_up q (ma 12) (upd (q (ma 12)) k v)) (hk : k = b) : KeepB q q1 ma b := KeepB.up (j := 12) hM (by decide) e (by show 1 * b ≤ k ∧ k < 1 * (b + 1); omega)
set_option maxHeartbeats 4000000 in
set_option maxRecDepth 100000 in
theorem c_v_X11_readLine (l : Launch) (G : Gh) (S : Pl) (ma : Nat → Nat) (tc : Nat → Int32) (tn : Nat) (pp bb : Nat) (V : SV) (hM : shMod S ma) (htc : tc = tx (qI S (ma 2)) tn) (hn : (pI S 103 (ma 0)).toInt = (tn : Int)) (hz : tn ≤ 1000) (hpp : pp ≤ tn) (hst : Mst (pI S) (pJ S) (ma 0) tc tn pp True) (hrb : (pI S 121 (ma 0)).toInt = (bb : Int)) (hb1 : bb ≤ 1) (hMB : MBk (qI S) ma bb V.2) (hvk : vok V) (hms : MsOK (qI S (ma 18))) (hE : eM (pI S) (ma 0)) (hln : (qI S (ma 12) bb).toInt = V.1) : MtV l yX11_readLine cX11_readLine 4 none (Rm 5 0 0) G [.ref (ma 0)] S (fun (S' : Pl) => ∃ I' J' q', ch S I' J' q' (qJ S) = S' ∧ FrM (pI S) I' ∧ FrQ 12 ma (qI S) q' ∧ KeepB (qI S) q' ma bb ∧ MsOK (q' (ma 18)) ∧ MLd (I' 104 (ma 0)).toInt (q' (ma 12) bb).toInt I' J' q' ma bb tc tn V pp ∧ eM I' (ma 0)) 0 0 := by
  refine MtV.of (by decide) (Nat.le_of_ble_eq_true rfl) ?_
  intro p e s m args below meth c Q A X hw hin hret ls hl
  have hx := X.1.1
  have hb := X.1.2.1
  have hl : lv_has ls 4 [(0, .ref (ma 0))] := hl
  have hgd0 : (pI S 104 (ma 0)).toInt = 0 := hst.i.mpr trivial
  have hmt := (hst.ok hgd0).2
  have hp1 : tE tc tn pp ≤ tn := (tE_le hpp).2
  have hv60 := hvk.1
  have hrbn := cl_toInt (x := pI S 121 (ma 0)) (by omega)
  have hrbN : (pI S 121 (ma 0)).toNatClampNeg = bb := by omega
  have lp78 : ∀ (Ic78 : Nat → Nat → Int32), (FrM (pI S) Ic78) → (eM Ic78 (ma 0)) → (Mst Ic78 (pJ S) (ma 0) tc tn pp (sm1 (pJ S 110 (ma 0)).toInt tc tn pp ∧ V.1 < 60)) → ∀ (H : Heap) (locs : List Loc) (ls : Array Slot), PX G A s.heap (ch S Ic78 (pJ S) (qI S) (qJ S)) H locs → lv_has ls 4 [(0, .ref (ma 0))] → W p l e (Rm 5 0 0) s m args below meth c H locs 0 0 Q (F0 m 78 ls []) := by
    intro Ic78 hF hE1 hst1 H locs ls hw hl
    refine lv_aload_n hx hb dX11_readLine_78 rfl (lv_at hl 0 rfl) ?_
    refine k_Vi (n := 0) X hw (rcvk (ci := 11) X hw hM.1 (fun _ _ _ _ _ _ _ => ⟨_, rfl⟩) rfl) (c_X11_isGood l G _ ma hM) wd_r21_12 wd_r21_13 wd_r21_14 wd_r1_5 wd_r21_15 ⟨by decide, by decide, by decide +kernel⟩ rfl rfl ⟨Nat.le_of_ble_eq_true rfl, Nat.le_of_ble_eq_true rfl⟩ rfl rfl hl.1 (Nat.le_of_ble_eq_true rfl) dX11_readLine_79 ⟨Nat.le_of_ble_eq_true rfl, Nat.le_of_ble_eq_true rfl⟩ (fun r79_1 S79_3 H locs h79_2 hw => ?_)
    rcases h79_2 with ⟨rfl, rfl, h79_2⟩ | ⟨rfl, rfl, h79_2⟩
    · have h79_2 : (Ic78 104 (ma 0) : Int32).toInt = 0 := h79_2
      refine lv_if_ne (tgt := 86) hx hb dX11_readLine_82 (by decide) (fun c82_4 => ?_) (fun c82_4 => absurd c82_4 (by decide))
      have hs1 := (hst1.ok (by omega)).1
      obtain ⟨hk2, k9, hk9, hsp9, hw9⟩ := hs1.1
      refine lv_aload_n hx hb dX11_readLine_86 rfl (lv_at hl 0 rfl) ?_
      refine gf_X11_34 (v := (pJ S) 110 (ma 0)) X hw hM.1 rfl dX11_readLine_87 ?_
      refine lv_lstore_n (lv' := [(2, .long ((pJ S) 110 (ma 0))), (0, .ref (ma 0))]) hx hb dX11_readLine_90 rfl hl (by decide) rfl (fun ls hl => ?_)
      refine lv_aload_n hx hb dX11_readLine_91 rfl (lv_at hl 1 rfl) ?_
      refine k_Vv (n := 0) X hw (rcvk (ci := 11) X hw hM.1 (fun _ _ _ _ _ _ _ => ⟨_, rfl⟩) rfl) (c_v_X11_next l G _ ma tc tn hM htc (FrM.n hF hn) hz (hst1.le hpp (by omega))) wd_r20_15 wd_r20_16 wd_r20_17 wd_r1_5 wd_r20_18 ⟨by decide, by decide, by decide +kernel⟩ rfl rfl ⟨Nat.le_of_ble_eq_true rfl, Nat.le_of_ble_eq_true rfl⟩ rfl rfl hl.1 (Nat.le_of_ble_eq_true rfl) dX11_readLine_92 ⟨Nat.le_of_ble_eq_true rfl, Nat.le_of_ble_eq_true rfl⟩ (fun S92_6 H locs h92_5 hw => ?_)
      obtain ⟨I92_7, J92_8, rfl, h92_5⟩ := h92_5
      have hw : PX G A s.heap (ch S I92_7 J92_8 (qI S) (qJ S)) H locs := hw
      have h104n : (I92_7 104 (ma 0)).toInt = 0 := by rw [h92_5.1 104 (by decide)]; omega
      have hTn : mTok I92_7 J92_8 (ma 0) tc tn (tE tc tn pp) := by have e9 : (Ic78 107 (ma 0)).toNatClampNeg = tE tc tn pp := (by have z9 := (hst1.ok (by omega)).2.2.1; have := cl_toInt (x := Ic78 107 (ma 0)) (by omega); omega); rw [← e9]; exact h92_5.2.1
      have hstA : Mst I92_7 J92_8 (ma 0) tc tn (tE tc tn pp) True := Or.inl ⟨h104n, trivial, hTn⟩
      have lp159 : ∀ (Ic159 : Nat → Nat → Int32) (Jc159 : Nat → Nat → Int64) (qc159 : Nat → Nat → Int32), (FrM (pI S) Ic159) → (eM Ic159 (ma 0)) → (FrQ 12 ma (qI S) qc159) → (qc159 (ma 12) = qI S (ma 12)) → (KeepB (qI S) qc159 ma bb) → (MsOK (qc159 (ma 18))) → (Mst Ic159 Jc159 (ma 0) tc tn (pz tc tn (tE tc tn pp) (numS k9)) (GL V.2 tc tn (tE tc tn pp) k9)) → ((GL V.2 tc tn (tE tc tn pp) k9) → MBk qc159 ma bb (TC V.2 tc tn (tE tc tn pp) k9)) → ∀ (H : Heap) (locs : List Loc) (ls : Array Slot), PX G A s.heap (ch S Ic159 Jc159 qc159 (qJ S)) H locs → lv_has ls 4 [(0, .ref (ma 0))] → W p l e (Rm 5 0 0) s m args below meth c H locs 0 0 Q (F0 m 159 ls []) := by
        intro Ic159 Jc159 qc159 hF hE1 hY hr12 hKB hms1 hst2 hM2 H locs ls hw hl
        refine lv_aload_n hx hb dX11_readLine_159 rfl (lv_at hl 0 rfl) ?_
        have lp189 : ∀ (Ic189 : Nat → Nat → Int32) (Jc189 : Nat → Nat → Int64), (FrM (pI S) Ic189) → (eM Ic189 (ma 0)) → (Mst Ic189 Jc189 (ma 0) tc tn (tE tc tn (pz tc tn (tE tc tn pp) (numS k9))) ((GL V.2 tc tn (tE tc tn pp) k9) ∧ tK tc tn (pz tc tn (tE tc tn pp) (numS k9)) = 4)) → ∀ (H : Heap) (locs : List Loc) (ls : Array Slot), PX G A s.heap (ch S Ic189 Jc189 qc159 (qJ S)) H locs → lv_has ls 4 [(0, .ref (ma 0))] → W p l e (Rm 5 0 0) s m args below meth c H locs 0 0 Q (F0 m 189 ls []) := by
          intro Ic189 Jc189 hF hE1 hst4 H locs ls hw hl
          refine lv_aload_n hx hb dX11_readLine_189 rfl (lv_at hl 0 rfl) ?_
          have hbb9 := FrM.rb hF (ma 0)
          have hbb9t := congrArg Int32.toInt hbb9
          refine gf_X11_61 (b := (ma 12)) X hw hM.1 (mr_12 hM) dX11_readLine_190 ?_
          refine lv_aload_n hx hb dX11_readLine_193 rfl (lv_at hl 0 rfl) ?_
          refine gf_X11_149 (v := Ic189 121 (ma 0)) X hw hM.1 rfl dX11_readLine_194 ?_
          refine lv_dup2_11 hx hb dX11_readLine_197 rfl rfl ?_
          refine q_ldI X hw (mk_12 hM) (vin (mn_12 hM) (by omega) (by omega)) dX11_readLine_198 ?_
          refine lv_topi (fun v198_9 e198_9 => ?_)
          have e198_9 : v198_9 = qc159 (ma 12) ((Ic189 121 (ma 0)).toNatClampNeg) := e198_9
          have e198n := e198_9
          have g198 : v198_9.toInt = V.1 := by rw [e198_9, hr12, hbb9, hrbN]; exact hln
          refine lv_iconst (v := 1) hx hb dX11_readLine_199 (by decide) ?_
          refine lv_iadd hx hb dX11_readLine_200 ?_
          refine lv_topi (fun v200_10 e200_10 => ?_)
          have t200_10 := iAdd e200_10 rfl t_1 (by omega) (by omega)
          have t200 := t200_10
          refine q_stI X hw (mk_12 hM) (vin (mn_12 hM) (by omega) (by omega)) dX11_readLine_201 (fun H locs hw => ?_)
          obtain ⟨q201_11, eq201_11, hw⟩ : ∃ zz9, zz9 = va_up qc159 (ma 12) (upd (qc159 (ma 12)) (Ic189 121 (ma 0)).toNatClampNeg v200_10) ∧ PX G A s.heap (ch S Ic189 Jc189 zz9 (qJ S)) H locs := ⟨_, rfl, hw⟩
          have c201 := eq201_11
          have hl12 : (q201_11 (ma 12) bb).toInt = V.1 + 1 := by rw [← hln, ← hrbN]; exact lm_inc c201 hr12 hbb9 e198n t200
          exact hret _ _ _ _ _ ⟨_, _, _, rfl, hF, (FrQ.ez eq201_11 (FrQ.up (j := 12) (by decide) (by decide) hY)), (hKB.tr (KeepB.r12 hM c201 ((congrArg Int32.toNatClampNeg hbb9).trans hrbN))), (by rw [row_keep hM c201 (i := 18) (by decide) (by decide) (by decide)]; exact hms1), (ML_fin hk9 hk2 hsp9 hs1.2 hst4 rfl hl12 (fun g9 => (hM2 g9).r12 hM c201)), hE1⟩ hw dX11_readLine_202
        have lp178 : ∀ (Ic178 : Nat → Nat → Int32), (FrM (pI S) Ic178) → (eM Ic178 (ma 0)) → (Mst Ic178 Jc159 (ma 0) tc tn (pz tc tn (tE tc tn pp) (numS k9)) ((GL V.2 tc tn (tE tc tn pp) k9) ∧ tK tc tn (pz tc tn (tE tc tn pp) (numS k9)) = 4)) → ∀ (H : Heap) (locs : List Loc) (ls : Array Slot), PX G A s.heap (ch S Ic178 Jc159 qc159 (qJ S)) H locs → lv_has ls 4 [(0, .ref (ma 0))] → W p l e (Rm 5 0 0) s m args below meth c H locs 0 0 Q (F0 m 178 ls []) := by
          intro Ic178 hF hE1 hst3 H locs ls hw hl
          refine lv_aload_n hx hb dX11_readLine_178 rfl (lv_at hl 0 rfl) ?_
          refine k_Vi (n := 0) X hw (rcvk (ci := 11) X hw hM.1 (fun _ _ _ _ _ _ _ => ⟨_, rfl⟩) rfl) (c_X11_isGood l G _ ma hM) wd_r21_12 wd_r21_13 wd_r21_14 wd_r1_5 wd_r21_15 ⟨by decide, by decide, by decide +kernel⟩ rfl rfl ⟨Nat.le_of_ble_eq_true rfl, Nat.le_of_ble_eq_true rfl⟩ rfl rfl hl.1 (Nat.le_of_ble_eq_true rfl) dX11_readLine_179 ⟨Nat.le_of_ble_eq_true rfl, Nat.le_of_ble_eq_true rfl⟩ (fun r179_12 S179_14 H locs h179_13 hw => ?_)
          rcases h179_13 with ⟨rfl, rfl, h179_13⟩ | ⟨rfl, rfl, h179_13⟩
          · have h179_13 : (Ic178 104 (ma 0) : Int32).toInt = 0 := h179_13
            refine lv_if_eq (tgt := 189) hx hb dX11_readLine_182 (by decide) (fun c182_15 => absurd c182_15 (by decide)) (fun c182_15 => ?_)
            refine lv_aload_n hx hb dX11_readLine_185 rfl (lv_at hl 0 rfl) ?_
            refine k_Vv (n := 0) X hw (rcvk (ci := 11) X hw hM.1 (fun _ _ _ _ _ _ _ => ⟨_, rfl⟩) rfl) (c_v_X11_next l G _ ma tc tn hM (htc.trans (congrArg (fun z9 => tx z9 tn) (FrQ.at hM hY (i := 2) (by decide) (by decide)).symm)) (FrM.n hF hn) hz (hst3.le (pz_le hp1 _) (by omega))) wd_r20_15 wd_r20_16 wd_r20_17 wd_r1_5 wd_r20_18 ⟨by decide, by decide, by decide +kernel⟩ rfl rfl ⟨Nat.le_of_ble_eq_true rfl, Nat.le_of_ble_eq_true rfl⟩ rfl rfl hl.1 (Nat.le_of_ble_eq_true rfl) dX11_readLine_186 ⟨Nat.le_of_ble_eq_true rfl, Nat.le_of_ble_eq_true rfl⟩ (fun S186_17 H locs h186_16 hw => ?_)
            obtain ⟨I186_18, J186_19, rfl, h186_16⟩ := h186_16
            have hw : PX G A s.heap (ch S I186_18 J186_19 qc159 (qJ S)) H locs := hw
            have h104m : (I186_18 104 (ma 0)).toInt = 0 := by rw [h186_16.1 104 (by decide)]; omega
            have hTm : mTok I186_18 J186_19 (ma 0) tc tn (tE tc tn (pz tc tn (tE tc tn pp) (numS k9))) := by have e9 : (Ic178 107 (ma 0)).toNatClampNeg = tE tc tn (pz tc tn (tE tc tn pp) (numS k9)) := (by have z9 := (hst3.ok (by omega)).2.2.1; have := cl_toInt (x := Ic178 107 (ma 0)) (by omega); omega); rw [← e9]; exact h186_16.2.1
            exact lp189 I186_18 J186_19  (FrM.tr hF (h186_16.1.m)) h186_16.2.2 (by first | exact Or.inr ⟨(by omega), hst3.no (by omega)⟩ | exact Or.inl ⟨h104m, (hst3.ok (by omega)).1, hTm⟩) _ _ _ hw (lv_sub hl [0] rfl)
          · have h179_13 : ¬ ((Ic178 104 (ma 0) : Int32).toInt = 0) := h179_13
            refine lv_if_eq (tgt := 189) hx hb dX11_readLine_182 (by decide) (fun c182_20 => ?_) (fun c182_20 => absurd c182_20 (by decide))
            exact lp189 Ic178 Jc159  hF hE1 (by first | exact Or.inr ⟨(by omega), hst3.no (by omega)⟩ | exact Or.inl ⟨h104m, (hst3.ok (by omega)).1, hTm⟩) _ _ _ hw (lv_sub hl [0] rfl)
        refine k_Vi (n := 0) X hw (rcvk (ci := 11) X hw hM.1 (fun _ _ _ _ _ _ _ => ⟨_, rfl⟩) rfl) (c_X11_isGood l G _ ma hM) wd_r21_12 wd_r21_13 wd_r21_14 wd_r1_5 wd_r21_15 ⟨by decide, by decide, by decide +kernel⟩ rfl rfl ⟨Nat.le_of_ble_eq_true rfl, Nat.le_of_ble_eq_true rfl⟩ rfl rfl hl.1 (Nat.le_of_ble_eq_true rfl) dX11_readLine_160 ⟨Nat.le_of_ble_eq_true rfl, Nat.le_of_ble_eq_true rfl⟩ (fun r160_21 S160_23 H locs h160_22 hw => ?_)
        rcases h160_22 with ⟨rfl, rfl, h160_22⟩ | ⟨rfl, rfl, h160_22⟩
        · have h160_22 : (Ic159 104 (ma 0) : Int32).toInt = 0 := h160_22
          refine lv_if_eq (tgt := 178) hx hb dX11_readLine_163 (by decide) (fun c163_24 => absurd c163_24 (by decide)) (fun c163_24 => ?_)
          have h8m := (hst2.ok (by omega)).2.2.2.1
          refine lv_aload_n hx hb dX11_readLine_166 rfl (lv_at hl 0 rfl) ?_
          refine gf_X11_27 (v := Ic159 108 (ma 0)) X hw hM.1 rfl dX11_readLine_167 ?_
          refine lv_iconst (v := 4) hx hb dX11_readLine_170 (by decide) ?_
          refine lv_icmp_eq (tgt := 178) hx hb dX11_readLine_171 (by decide) (fun c171_25 => ?_) (fun c171_25 => ?_)
          · have D171_25 := iEq c171_25 rfl t_4
            exact lp178 Ic159  hF hE1 (by first | exact Or.inr ⟨(by omega), fun q => hst2.no (by omega) q.1⟩ | exact Or.inl ⟨(by omega), ⟨(hst2.ok (by omega)).1, mK4.mp (by omega)⟩, (hst2.ok (by omega)).2⟩ | exact Or.inr ⟨HWR, fun q => absurd (mK4.mpr q.2) (by omega)⟩) _ _ _ hw (lv_sub hl [0] rfl)
          · have D171_25 := iNe c171_25 rfl t_4
            refine lv_aload_n hx hb dX11_readLine_174 rfl (lv_at hl 0 rfl) ?_
            refine k_Vv (n := 0) X hw (rcvk (ci := 11) X hw hM.1 (fun _ _ _ _ _ _ _ => ⟨_, rfl⟩) rfl) (c_X11_wrong l G _ ma hM) wd_r22_5 wd_r22_6 wd_r22_7 wd_r1_5 wd_r22_8 ⟨by decide, by decide, by decide +kernel⟩ rfl rfl ⟨Nat.le_of_ble_eq_true rfl, Nat.le_of_ble_eq_true rfl⟩ rfl rfl hl.1 (Nat.le_of_ble_eq_true rfl) dX11_readLine_175 ⟨Nat.le_of_ble_eq_true rfl, Nat.le_of_ble_eq_true rfl⟩ (fun S175_27 H locs h175_26 hw => ?_)
            obtain ⟨I175_28, rfl, h175_26⟩ := h175_26
            have hw : PX G A s.heap (ch S I175_28 Jc159 qc159 (qJ S)) H locs := hw
            have HWR : (I175_28 104 (ma 0)).toInt ≠ 0 := h175_26.2
            exact lp178 I175_28  (FrM.tr hF (h175_26.1.m)) (FrF.e h175_26.1 hE1) (by first | exact Or.inr ⟨(by omega), fun q => hst2.no (by omega) q.1⟩ | exact Or.inl ⟨(by omega), ⟨(hst2.ok (by omega)).1, mK4.mp (by omega)⟩, (hst2.ok (by omega)).2⟩ | exact Or.inr ⟨HWR, fun q => absurd (mK4.mpr q.2) (by omega)⟩) _ _ _ hw (lv_sub hl [0] rfl)
        · have h160_22 : ¬ ((Ic159 104 (ma 0) : Int32).toInt = 0) := h160_22
          refine lv_if_eq (tgt := 178) hx hb dX11_readLine_163 (by decide) (fun c163_29 => ?_) (fun c163_29 => absurd c163_29 (by decide))
          exact lp178 Ic159  hF hE1 (by first | exact Or.inr ⟨(by omega), fun q => hst2.no (by omega) q.1⟩ | exact Or.inl ⟨(by omega), ⟨(hst2.ok (by omega)).1, mK4.mp (by omega)⟩, (hst2.ok (by omega)).2⟩ | exact Or.inr ⟨HWR, fun q => absurd (mK4.mpr q.2) (by omega)⟩) _ _ _ hw (lv_sub hl [0] rfl)
      refine lv_lload_n hx hb dX11_readLine_95 rfl (lv_at hl 0 rfl) ?_
      refine lv_ldc2 hx hb X.1.2.2.2.1 (X.1.2.2.2.2 _ wd_r21_20) dX11_readLine_96 ?_
      refine W.lcmp hx hb dX11_readLine_99 ?_
      refine lv_topi (fun v99_30 e99_30 => ?_)
      refine lv_if_ne (tgt := 110) hx hb dX11_readLine_100 (by decide) (fun c100_31 => ?_) (fun c100_31 => ?_)
      · have D100_31 := lc_ne e99_30 c100_31
        refine lv_lload_n hx hb dX11_readLine_110 rfl (lv_at hl 0 rfl) ?_
        refine lv_ldc2 hx hb X.1.2.2.2.1 (X.1.2.2.2.2 _ wd_r21_21) dX11_readLine_111 ?_
        refine W.lcmp hx hb dX11_readLine_114 ?_
        refine lv_topi (fun v114_32 e114_32 => ?_)
        refine lv_if_ne (tgt := 125) hx hb dX11_readLine_115 (by decide) (fun c115_33 => ?_) (fun c115_33 => ?_)
        · have D115_33 := lc_ne e114_32 c115_33
          refine lv_lload_n hx hb dX11_readLine_125 rfl (lv_at hl 0 rfl) ?_
          refine lv_ldc2 hx hb X.1.2.2.2.1 (X.1.2.2.2.2 _ wd_r21_22) dX11_readLine_126 ?_
          refine W.lcmp hx hb dX11_readLine_129 ?_
          refine lv_topi (fun v129_34 e129_34 => ?_)
          refine lv_if_ne (tgt := 140) hx hb dX11_readLine_130 (by decide) (fun c130_35 => ?_) (fun c130_35 => ?_)
          · have D130_35 := lc_ne e129_34 c130_35
            refine lv_lload_n hx hb dX11_readLine_140 rfl (lv_at hl 0 rfl) ?_
            refine lv_ldc2 hx hb X.1.2.2.2.1 (X.1.2.2.2.2 _ wd_r21_23) dX11_readLine_141 ?_
            refine W.lcmp hx hb dX11_readLine_144 ?_
            refine lv_topi (fun v144_36 e144_36 => ?_)
            refine lv_if_ne (tgt := 155) hx hb dX11_readLine_145 (by decide) (fun c145_37 => ?_) (fun c145_37 => ?_)
            · have D145_37 := lc_ne e144_36 c145_37
              refine lv_aload_n hx hb dX11_readLine_155 rfl (lv_at hl 1 rfl) ?_
              refine k_Vv (n := 0) X hw (rcvk (ci := 11) X hw hM.1 (fun _ _ _ _ _ _ _ => ⟨_, rfl⟩) rfl) (c_v_X11_readMiss l G _ ma tc tn (tE tc tn pp) bb V hM htc (FrM.n (FrM.tr hF (h92_5.1.m)) hn) hz hp1 hstA ((congrArg Int32.toInt (FrM.rb (FrM.tr hF (h92_5.1.m)) (ma 0))).trans hrb) hb1 hMB hvk hms h92_5.2.2) wd_r23_14 wd_r23_15 wd_r23_16 wd_r1_5 wd_r23_17 ⟨by decide, by decide, by decide +kernel⟩ rfl rfl ⟨Nat.le_of_ble_eq_true rfl, Nat.le_of_ble_eq_true rfl⟩ rfl rfl hl.1 (Nat.le_of_ble_eq_true rfl) dX11_readLine_156 ⟨Nat.le_of_ble_eq_true rfl, Nat.le_of_ble_eq_true rfl⟩ (fun S156_39 H locs h156_38 hw => ?_)
              obtain ⟨I156_40, J156_41, q156_42, rfl, h156_38⟩ := h156_38
              have hw : PX G A s.heap (ch S I156_40 J156_41 q156_42 (qJ S)) H locs := hw
              have hkk : k9 = 4 := (by rcases (show k9 = 0 ∨ k9 = 1 ∨ k9 = 2 ∨ k9 = 3 ∨ k9 = 4 by omega) with e9 | e9 | e9 | e9 | e9 <;> first | exact e9 | (exfalso; rw [e9] at hw9; have hw8 := hw9; first | exact absurd hw8 (show ¬ ((pJ S 110 (ma 0)).toInt = (2003398244 : Int64).toInt) by omega) | exact absurd hw8 (show ¬ ((pJ S 110 (ma 0)).toInt = (126943972647277 : Int64).toInt) by omega) | exact absurd hw8 (show ¬ ((pJ S 110 (ma 0)).toInt = (7103845 : Int64).toInt) by omega) | exact absurd hw8 (show ¬ ((pJ S 110 (ma 0)).toInt = (1818324580 : Int64).toInt) by omega)))
              have HST9 : Mst I156_40 J156_41 (ma 0) tc tn (pz tc tn (tE tc tn pp) (numS k9)) (GL V.2 tc tn (tE tc tn pp) k9) := by rw [hkk, show numS 4 = 3 by decide]; exact h156_38.2.2.2.2.1
              have HMB9 : (GL V.2 tc tn (tE tc tn pp) k9) → MBk q156_42 ma bb (TC V.2 tc tn (tE tc tn pp) k9) := by rw [hkk]; exact h156_38.2.2.2.2.2.1
              have HKB9 := h156_38.2.2.1
              have HMS9 := h156_38.2.2.2.1
              have HR12 : q156_42 (ma 12) = qI S (ma 12) := FrQ.at hM h156_38.2.1 (by decide) (by decide)
              exact lp159 I156_40 J156_41 q156_42  (FrM.tr (FrM.tr hF (h92_5.1.m)) h156_38.1) h156_38.2.2.2.2.2.2 (FrQ.tr FrQ.rf (FrQ.lo (by decide) h156_38.2.1)) HR12 HKB9 HMS9 HST9 HMB9 _ _ _ hw (lv_sub hl [1] rfl)
            · have D145_37 := lcn_ne e144_36 c145_37
              refine lv_aload_n hx hb dX11_readLine_148 rfl (lv_at hl 1 rfl) ?_
              refine k_Vv (n := 0) X hw (rcvk (ci := 11) X hw hM.1 (fun _ _ _ _ _ _ _ => ⟨_, rfl⟩) rfl) (c_v_X11_readLand l G _ ma tc tn (tE tc tn pp) bb V hM htc (FrM.n (FrM.tr hF (h92_5.1.m)) hn) hz hp1 hstA ((congrArg Int32.toInt (FrM.rb (FrM.tr hF (h92_5.1.m)) (ma 0))).trans hrb) hb1 hMB hvk hms h92_5.2.2) wd_r23_10 wd_r23_11 wd_r23_12 wd_r1_5 wd_r23_13 ⟨by decide, by decide, by decide +kernel⟩ rfl rfl ⟨Nat.le_of_ble_eq_true rfl, Nat.le_of_ble_eq_true rfl⟩ rfl rfl hl.1 (Nat.le_of_ble_eq_true rfl) dX11_readLine_149 ⟨Nat.le_of_ble_eq_true rfl, Nat.le_of_ble_eq_true rfl⟩ (fun S149_44 H locs h149_43 hw => ?_)
              obtain ⟨I149_45, J149_46, q149_47, rfl, h149_43⟩ := h149_43
              have hw : PX G A s.heap (ch S I149_45 J149_46 q149_47 (qJ S)) H locs := hw
              have hkk : k9 = 3 := wL_u k9 hk9 3 (by decide) (hw9.symm.trans (show (pJ S 110 (ma 0)).toInt = (1818324580 : Int64).toInt by omega))
              have HST9 : Mst I149_45 J149_46 (ma 0) tc tn (pz tc tn (tE tc tn pp) (numS k9)) (GL V.2 tc tn (tE tc tn pp) k9) := by rw [hkk, show numS 3 = 2 by decide]; exact h149_43.2.2.2.2.1
              have HMB9 : (GL V.2 tc tn (tE tc tn pp) k9) → MBk q149_47 ma bb (TC V.2 tc tn (tE tc tn pp) k9) := by rw [hkk]; exact h149_43.2.2.2.2.2.1
              have HKB9 := h149_43.2.2.1
              have HMS9 := h149_43.2.2.2.1
              have HR12 : q149_47 (ma 12) = qI S (ma 12) := FrQ.at hM h149_43.2.1 (by decide) (by decide)
              refine lv_goto (tgt := 159) hx hb dX11_readLine_152 (by decide) ?_
              exact lp159 I149_45 J149_46 q149_47  (FrM.tr (FrM.tr hF (h92_5.1.m)) h149_43.1) h149_43.2.2.2.2.2.2 (FrQ.tr FrQ.rf (FrQ.lo (by decide) h149_43.2.1)) HR12 HKB9 HMS9 HST9 HMB9 _ _ _ hw (lv_sub hl [1] rfl)
          · have D130_35 := lcn_ne e129_34 c130_35
            refine lv_aload_n hx hb dX11_readLine_133 rfl (lv_at hl 1 rfl) ?_
            refine k_Vv (n := 0) X hw (rcvk (ci := 11) X hw hM.1 (fun _ _ _ _ _ _ _ => ⟨_, rfl⟩) rfl) (c_v_X11_readLee l G _ ma tc tn (tE tc tn pp) bb V hM htc (FrM.n (FrM.tr hF (h92_5.1.m)) hn) hz hp1 hstA ((congrArg Int32.toInt (FrM.rb (FrM.tr hF (h92_5.1.m)) (ma 0))).trans hrb) hb1 hMB hvk hms h92_5.2.2) wd_r23_6 wd_r23_7 wd_r23_8 wd_r1_5 wd_r23_9 ⟨by decide, by decide, by decide +kernel⟩ rfl rfl ⟨Nat.le_of_ble_eq_true rfl, Nat.le_of_ble_eq_true rfl⟩ rfl rfl hl.1 (Nat.le_of_ble_eq_true rfl) dX11_readLine_134 ⟨Nat.le_of_ble_eq_true rfl, Nat.le_of_ble_eq_true rfl⟩ (fun S134_49 H locs h134_48 hw => ?_)
            obtain ⟨I134_50, J134_51, q134_52, rfl, h134_48⟩ := h134_48
            have hw : PX G A s.heap (ch S I134_50 J134_51 q134_52 (qJ S)) H locs := hw
            have hkk : k9 = 2 := wL_u k9 hk9 2 (by decide) (hw9.symm.trans (show (pJ S 110 (ma 0)).toInt = (7103845 : Int64).toInt by omega))
            have HST9 : Mst I134_50 J134_51 (ma 0) tc tn (pz tc tn (tE tc tn pp) (numS k9)) (GL V.2 tc tn (tE tc tn pp) k9) := by rw [hkk, show numS 2 = 2 by decide]; exact h134_48.2.2.2.2.1
            have HMB9 : (GL V.2 tc tn (tE tc tn pp) k9) → MBk q134_52 ma bb (TC V.2 tc tn (tE tc tn pp) k9) := by rw [hkk]; exact h134_48.2.2.2.2.2.1
            have HKB9 := h134_48.2.2.1
            have HMS9 := h134_48.2.2.2.1
            have HR12 : q134_52 (ma 12) = qI S (ma 12) := FrQ.at hM h134_48.2.1 (by decide) (by decide)
            refine lv_goto (tgt := 159) hx hb dX11_readLine_137 (by decide) ?_
            exact lp159 I134_50 J134_51 q134_52  (FrM.tr (FrM.tr hF (h92_5.1.m)) h134_48.1) h134_48.2.2.2.2.2.2 (FrQ.tr FrQ.rf (FrQ.lo (by decide) h134_48.2.1)) HR12 HKB9 HMS9 HST9 HMB9 _ _ _ hw (lv_sub hl [1] rfl)
        · have D115_33 := lcn_ne e114_32 c115_33
          refine lv_aload_n hx hb dX11_readLine_118 rfl (lv_at hl 1 rfl) ?_
          refine k_Vv (n := 0) X hw (rcvk (ci := 11) X hw hM.1 (fun _ _ _ _ _ _ _ => ⟨_, rfl⟩) rfl) (c_v_X11_readStream l G _ ma tc tn (tE tc tn pp) bb V hM htc (FrM.n (FrM.tr hF (h92_5.1.m)) hn) hz hp1 hstA ((congrArg Int32.toInt (FrM.rb (FrM.tr hF (h92_5.1.m)) (ma 0))).trans hrb) hb1 hMB hvk hms h92_5.2.2) wd_r23_2 wd_r23_3 wd_r23_4 wd_r1_5 wd_r23_5 ⟨by decide, by decide, by decide +kernel⟩ rfl rfl ⟨Nat.le_of_ble_eq_true rfl, Nat.le_of_ble_eq_true rfl⟩ rfl rfl hl.1 (Nat.le_of_ble_eq_true rfl) dX11_readLine_119 ⟨Nat.le_of_ble_eq_true rfl, Nat.le_of_ble_eq_true rfl⟩ (fun S119_54 H locs h119_53 hw => ?_)
          obtain ⟨I119_55, J119_56, q119_57, rfl, h119_53⟩ := h119_53
          have hw : PX G A s.heap (ch S I119_55 J119_56 q119_57 (qJ S)) H locs := hw
          have hkk : k9 = 1 := wL_u k9 hk9 1 (by decide) (hw9.symm.trans (show (pJ S 110 (ma 0)).toInt = (126943972647277 : Int64).toInt by omega))
          have HST9 : Mst I119_55 J119_56 (ma 0) tc tn (pz tc tn (tE tc tn pp) (numS k9)) (GL V.2 tc tn (tE tc tn pp) k9) := by rw [hkk, show numS 1 = 4 by decide]; exact h119_53.2.2.2.2.1
          have HMB9 : (GL V.2 tc tn (tE tc tn pp) k9) → MBk q119_57 ma bb (TC V.2 tc tn (tE tc tn pp) k9) := by rw [hkk]; exact h119_53.2.2.2.2.2.1
          have HKB9 := h119_53.2.2.1
          have HMS9 := h119_53.2.2.2.1
          have HR12 : q119_57 (ma 12) = qI S (ma 12) := FrQ.at hM h119_53.2.1 (by decide) (by decide)
          refine lv_goto (tgt := 159) hx hb dX11_readLine_122 (by decide) ?_
          exact lp159 I119_55 J119_56 q119_57  (FrM.tr (FrM.tr hF (h92_5.1.m)) h119_53.1) h119_53.2.2.2.2.2.2 (FrQ.tr FrQ.rf (FrQ.lo (by decide) h119_53.2.1)) HR12 HKB9 HMS9 HST9 HMB9 _ _ _ hw (lv_sub hl [1] rfl)
      · have D100_31 := lcn_ne e99_30 c100_31
        refine lv_aload_n hx hb dX11_readLine_103 rfl (lv_at hl 1 rfl) ?_
        refine k_Vv (n := 0) X hw (rcvk (ci := 11) X hw hM.1 (fun _ _ _ _ _ _ _ => ⟨_, rfl⟩) rfl) (c_v_X11_readWind l G _ ma tc tn (tE tc tn pp) bb V hM htc (FrM.n (FrM.tr hF (h92_5.1.m)) hn) hz hp1 hstA ((congrArg Int32.toInt (FrM.rb (FrM.tr hF (h92_5.1.m)) (ma 0))).trans hrb) hb1 hMB hvk hms h92_5.2.2) wd_r22_13 wd_r22_14 wd_r22_15 wd_r1_5 wd_r22_16 ⟨by decide, by decide, by decide +kernel⟩ rfl rfl ⟨Nat.le_of_ble_eq_true rfl, Nat.le_of_ble_eq_true rfl⟩ rfl rfl hl.1 (Nat.le_of_ble_eq_true rfl) dX11_readLine_104 ⟨Nat.le_of_ble_eq_true rfl, Nat.le_of_ble_eq_true rfl⟩ (fun S104_59 H locs h104_58 hw => ?_)
        obtain ⟨I104_60, J104_61, q104_62, rfl, h104_58⟩ := h104_58
        have hw : PX G A s.heap (ch S I104_60 J104_61 q104_62 (qJ S)) H locs := hw
        have hkk : k9 = 0 := wL_u k9 hk9 0 (by decide) (hw9.symm.trans (show (pJ S 110 (ma 0)).toInt = (2003398244 : Int64).toInt by omega))
        have HST9 : Mst I104_60 J104_61 (ma 0) tc tn (pz tc tn (tE tc tn pp) (numS k9)) (GL V.2 tc tn (tE tc tn pp) k9) := by rw [hkk, show numS 0 = 3 by decide]; exact h104_58.2.2.2.2.1
        have HMB9 : (GL V.2 tc tn (tE tc tn pp) k9) → MBk q104_62 ma bb (TC V.2 tc tn (tE tc tn pp) k9) := by rw [hkk]; exact h104_58.2.2.2.2.2.1
        have HKB9 := h104_58.2.2.1
        have HMS9 := h104_58.2.2.2.1
        have HR12 : q104_62 (ma 12) = qI S (ma 12) := FrQ.at hM h104_58.2.1 (by decide) (by decide)
        refine lv_goto (tgt := 159) hx hb dX11_readLine_107 (by decide) ?_
        exact lp159 I104_60 J104_61 q104_62  (FrM.tr (FrM.tr hF (h92_5.1.m)) h104_58.1) h104_58.2.2.2.2.2.2 (FrQ.tr FrQ.rf (FrQ.lo (by decide) h104_58.2.1)) HR12 HKB9 HMS9 HST9 HMB9 _ _ _ hw (lv_sub hl [1] rfl)
    · have h79_2 : ¬ ((Ic78 104 (ma 0) : Int32).toInt = 0) := h79_2
      refine lv_if_ne (tgt := 86) hx hb dX11_readLine_82 (by decide) (fun c82_63 => absurd c82_63 (by decide)) (fun c82_63 => ?_)
      exact hret _ _ _ _ _ ⟨_, _, _, rfl, hF, FrQ.rf, KeepB.rf, hms, (Or.inr ⟨(by omega), fun z9 hz9 q => hst1.no (by omega) (ls_sm hmt hz9 q)⟩), hE1⟩ hw dX11_readLine_85
  have lp56 : ∀ (z : Int32), (smA z.toInt (pJ S 110 (ma 0)).toInt tc tn pp) → ∀ (H : Heap) (locs : List Loc) (ls : Array Slot), PX G A s.heap S H locs → lv_has ls 4 [(0, .ref (ma 0)), (1, .int z)] → W p l e (Rm 5 0 0) s m args below meth c H locs 0 0 Q (F0 m 56 ls []) := by
    intro z hsm H locs ls hw hl
    refine lv_iload_n hx hb dX11_readLine_56 rfl (lv_at hl 1 rfl) ?_
    refine lv_if_eq (tgt := 74) hx hb dX11_readLine_57 (by decide) (fun c57_64 => ?_) (fun c57_64 => ?_)
    · have D57_64 := iEq c57_64 rfl t_0
      refine lv_aload_n hx hb dX11_readLine_74 rfl (lv_at hl 0 rfl) ?_
      refine k_Vv (n := 0) X hw (rcvk (ci := 11) X hw hM.1 (fun _ _ _ _ _ _ _ => ⟨_, rfl⟩) rfl) (c_X11_wrong l G _ ma hM) wd_r22_5 wd_r22_6 wd_r22_7 wd_r1_5 wd_r22_8 ⟨by decide, by decide, by decide +kernel⟩ rfl rfl ⟨Nat.le_of_ble_eq_true rfl, Nat.le_of_ble_eq_true rfl⟩ rfl rfl hl.1 (Nat.le_of_ble_eq_true rfl) dX11_readLine_75 ⟨Nat.le_of_ble_eq_true rfl, Nat.le_of_ble_eq_true rfl⟩ (fun S75_66 H locs h75_65 hw => ?_)
      obtain ⟨I75_67, rfl, h75_65⟩ := h75_65
      have hw : PX G A s.heap (ch S I75_67 (pJ S) (qI S) (qJ S)) H locs := hw
      have HWR : (I75_67 104 (ma 0)).toInt ≠ 0 := h75_65.2
      exact lp78 I75_67  (FrM.tr FrM.rf (h75_65.1.m)) (FrF.e h75_65.1 hE) (by first | exact Or.inl ⟨(by omega), ⟨hsm.y (by omega), (by omega)⟩, hmt⟩ | exact Or.inr ⟨HWR, fun q => hsm.n (by omega) q.1⟩ | exact Or.inr ⟨HWR, fun q => absurd q.2 (by omega)⟩) _ _ _ hw (lv_sub hl [0] rfl)
    · have D57_64 := iNe c57_64 rfl t_0
      refine lv_aload_n hx hb dX11_readLine_60 rfl (lv_at hl 0 rfl) ?_
      refine gf_X11_61 (b := (ma 12)) X hw hM.1 (mr_12 hM) dX11_readLine_61 ?_
      refine lv_aload_n hx hb dX11_readLine_64 rfl (lv_at hl 0 rfl) ?_
      refine gf_X11_149 (v := (pI S) 121 (ma 0)) X hw hM.1 rfl dX11_readLine_65 ?_
      refine q_ldI X hw (mk_12 hM) (vin (mn_12 hM) (by omega) (by omega)) dX11_readLine_68 ?_
      refine lv_topi (fun v68_68 e68_68 => ?_)
      have e68_68 : v68_68 = (qI S) (ma 12) (((pI S) 121 (ma 0)).toNatClampNeg) := e68_68
      have g68 : v68_68.toInt = V.1 := by rw [e68_68, hrbN]; exact hln
      refine lv_bipush (v := 60) hx hb dX11_readLine_69 (by decide) ?_
      refine lv_icmp_ne (tgt := 78) hx hb dX11_readLine_71 (by decide) (fun c71_69 => ?_) (fun c71_69 => ?_)
      · have D71_69 := iNe c71_69 rfl t_60
        exact lp78 (pI S)  FrM.rf hE (by first | exact Or.inl ⟨(by omega), ⟨hsm.y (by omega), (by omega)⟩, hmt⟩ | exact Or.inr ⟨HWR, fun q => hsm.n (by omega) q.1⟩ | exact Or.inr ⟨HWR, fun q => absurd q.2 (by omega)⟩) _ _ _ hw (lv_sub hl [0] rfl)
      · have D71_69 := iEq c71_69 rfl t_60
        refine lv_aload_n hx hb dX11_readLine_74 rfl (lv_at hl 0 rfl) ?_
        refine k_Vv (n := 0) X hw (rcvk (ci := 11) X hw hM.1 (fun _ _ _ _ _ _ _ => ⟨_, rfl⟩) rfl) (c_X11_wrong l G _ ma hM) wd_r22_5 wd_r22_6 wd_r22_7 wd_r1_5 wd_r22_8 ⟨by decide, by decide, by decide +kernel⟩ rfl rfl ⟨Nat.le_of_ble_eq_true rfl, Nat.le_of_ble_eq_true rfl⟩ rfl rfl hl.1 (Nat.le_of_ble_eq_true rfl) dX11_readLine_75 ⟨Nat.le_of_ble_eq_true rfl, Nat.le_of_ble_eq_true rfl⟩ (fun S75_71 H locs h75_70 hw => ?_)
        obtain ⟨I75_72, rfl, h75_70⟩ := h75_70
        have hw : PX G A s.heap (ch S I75_72 (pJ S) (qI S) (qJ S)) H locs := hw
        have HWR : (I75_72 104 (ma 0)).toInt ≠ 0 := h75_70.2
        exact lp78 I75_72  (FrM.tr FrM.rf (h75_70.1.m)) (FrF.e h75_70.1 hE) (by first | exact Or.inl ⟨(by omega), ⟨hsm.y (by omega), (by omega)⟩, hmt⟩ | exact Or.inr ⟨HWR, fun q => hsm.n (by omega) q.1⟩ | exact Or.inr ⟨HWR, fun q => absurd q.2 (by omega)⟩) _ _ _ hw (lv_sub hl [0] rfl)
  refine lv_aload_n hx hb dX11_readLine_0 rfl (lv_at hl 0 rfl) ?_
  refine lv_ldc2 hx hb X.1.2.2.2.1 (X.1.2.2.2.2 _ wd_r21_20) dX11_readLine_1 ?_
  refine k_Vi (n := 1) X hw (rcvk (ci := 11) X hw hM.1 (fun _ _ _ _ _ _ _ => ⟨_, rfl⟩) rfl) (c_v_X11_isWord l G _ ma 2003398244 hM) wd_r22_1 wd_r22_2 wd_r22_3 wd_r1_5 wd_r22_4 ⟨by decide, by decide, by decide +kernel⟩ rfl rfl ⟨Nat.le_of_ble_eq_true rfl, Nat.le_of_ble_eq_true rfl⟩ rfl rfl hl.1 (Nat.le_of_ble_eq_true rfl) dX11_readLine_4 ⟨Nat.le_of_ble_eq_true rfl, Nat.le_of_ble_eq_true rfl⟩ (fun r4_73 S4_75 H locs h4_74 hw => ?_)
  rcases h4_74 with ⟨rfl, rfl, h4_74⟩ | ⟨rfl, rfl, h4_74⟩
  · have h4_74 := h4_74
    refine lv_if_ne (tgt := 50) hx hb dX11_readLine_7 (by decide) (fun c7_76 => ?_) (fun c7_76 => absurd c7_76 (by decide))
    refine lv_iconst (v := 1) hx hb dX11_readLine_50 (by decide) ?_
    refine lv_goto (tgt := 55) hx hb dX11_readLine_51 (by decide) ?_
    refine lv_istore_n (lv' := [(1, .int 1), (0, .ref (ma 0))]) hx hb dX11_readLine_55 rfl hl (by decide) rfl (fun ls hl => ?_)
    exact lp56  1 (by first | exact wd_y hmt (k := 0) (by decide) t_1 (show (pI S 108 (ma 0)).toInt = 2 ∧ (pJ S 110 (ma 0)).toInt = (2003398244 : Int64).toInt by assumption) | exact wd_y hmt (k := 1) (by decide) t_1 (show (pI S 108 (ma 0)).toInt = 2 ∧ (pJ S 110 (ma 0)).toInt = (126943972647277 : Int64).toInt by assumption) | exact wd_y hmt (k := 2) (by decide) t_1 (show (pI S 108 (ma 0)).toInt = 2 ∧ (pJ S 110 (ma 0)).toInt = (7103845 : Int64).toInt by assumption) | exact wd_y hmt (k := 3) (by decide) t_1 (show (pI S 108 (ma 0)).toInt = 2 ∧ (pJ S 110 (ma 0)).toInt = (1818324580 : Int64).toInt by assumption) | exact wd_y hmt (k := 4) (by decide) t_1 (show (pI S 108 (ma 0)).toInt = 2 ∧ (pJ S 110 (ma 0)).toInt = (1835627379 : Int64).toInt by assumption) | exact wd_n hmt t_0 (all5 (show ¬ ((pI S 108 (ma 0)).toInt = 2 ∧ (pJ S 110 (ma 0)).toInt = (2003398244 : Int64).toInt) by assumption) (show ¬ ((pI S 108 (ma 0)).toInt = 2 ∧ (pJ S 110 (ma 0)).toInt = (126943972647277 : Int64).toInt) by assumption) (show ¬ ((pI S 108 (ma 0)).toInt = 2 ∧ (pJ S 110 (ma 0)).toInt = (7103845 : Int64).toInt) by assumption) (show ¬ ((pI S 108 (ma 0)).toInt = 2 ∧ (pJ S 110 (ma 0)).toInt = (1818324580 : Int64).toInt) by assumption) (show ¬ ((pI S 108 (ma 0)).toInt = 2 ∧ (pJ S 110 (ma 0)).toInt = (1835627379 : Int64).toInt) by assumption))) _ _ _ hw (lv_sub hl [1, 0] rfl)
  · have h4_74 := h4_74
    refine lv_if_ne (tgt := 50) hx hb dX11_readLine_7 (by decide) (fun c7_77 => absurd c7_77 (by decide)) (fun c7_77 => ?_)
    refine lv_aload_n hx hb dX11_readLine_10 rfl (lv_at hl 0 rfl) ?_
    refine lv_ldc2 hx hb X.1.2.2.2.1 (X.1.2.2.2.2 _ wd_r21_21) dX11_readLine_11 ?_
    refine k_Vi (n := 1) X hw (rcvk (ci := 11) X hw hM.1 (fun _ _ _ _ _ _ _ => ⟨_, rfl⟩) rfl) (c_v_X11_isWord l G _ ma 126943972647277 hM) wd_r22_1 wd_r22_2 wd_r22_3 wd_r1_5 wd_r22_4 ⟨by decide, by decide, by decide +kernel⟩ rfl rfl ⟨Nat.le_of_ble_eq_true rfl, Nat.le_of_ble_eq_true rfl⟩ rfl rfl hl.1 (Nat.le_of_ble_eq_true rfl) dX11_readLine_14 ⟨Nat.le_of_ble_eq_true rfl, Nat.le_of_ble_eq_true rfl⟩ (fun r14_78 S14_80 H locs h14_79 hw => ?_)
    rcases h14_79 with ⟨rfl, rfl, h14_79⟩ | ⟨rfl, rfl, h14_79⟩
    · have h14_79 := h14_79
      refine lv_if_ne (tgt := 50) hx hb dX11_readLine_17 (by decide) (fun c17_81 => ?_) (fun c17_81 => absurd c17_81 (by decide))
      refine lv_iconst (v := 1) hx hb dX11_readLine_50 (by decide) ?_
      refine lv_goto (tgt := 55) hx hb dX11_readLine_51 (by decide) ?_
      refine lv_istore_n (lv' := [(1, .int 1), (0, .ref (ma 0))]) hx hb dX11_readLine_55 rfl hl (by decide) rfl (fun ls hl => ?_)
      exact lp56  1 (by first | exact wd_y hmt (k := 0) (by decide) t_1 (show (pI S 108 (ma 0)).toInt = 2 ∧ (pJ S 110 (ma 0)).toInt = (2003398244 : Int64).toInt by assumption) | exact wd_y hmt (k := 1) (by decide) t_1 (show (pI S 108 (ma 0)).toInt = 2 ∧ (pJ S 110 (ma 0)).toInt = (126943972647277 : Int64).toInt by assumption) | exact wd_y hmt (k := 2) (by decide) t_1 (show (pI S 108 (ma 0)).toInt = 2 ∧ (pJ S 110 (ma 0)).toInt = (7103845 : Int64).toInt by assumption) | exact wd_y hmt (k := 3) (by decide) t_1 (show (pI S 108 (ma 0)).toInt = 2 ∧ (pJ S 110 (ma 0)).toInt = (1818324580 : Int64).toInt by assumption) | exact wd_y hmt (k := 4) (by decide) t_1 (show (pI S 108 (ma 0)).toInt = 2 ∧ (pJ S 110 (ma 0)).toInt = (1835627379 : Int64).toInt by assumption) | exact wd_n hmt t_0 (all5 (show ¬ ((pI S 108 (ma 0)).toInt = 2 ∧ (pJ S 110 (ma 0)).toInt = (2003398244 : Int64).toInt) by assumption) (show ¬ ((pI S 108 (ma 0)).toInt = 2 ∧ (pJ S 110 (ma 0)).toInt = (126943972647277 : Int64).toInt) by assumption) (show ¬ ((pI S 108 (ma 0)).toInt = 2 ∧ (pJ S 110 (ma 0)).toInt = (7103845 : Int64).toInt) by assumption) (show ¬ ((pI S 108 (ma 0)).toInt = 2 ∧ (pJ S 110 (ma 0)).toInt = (1818324580 : Int64).toInt) by assumption) (show ¬ ((pI S 108 (ma 0)).toInt = 2 ∧ (pJ S 110 (ma 0)).toInt = (1835627379 : Int64).toInt) by assumption))) _ _ _ hw (lv_sub hl [1, 0] rfl)
    · have h14_79 := h14_79
      refine lv_if_ne (tgt := 50) hx hb dX11_readLine_17 (by decide) (fun c17_82 => absurd c17_82 (by decide)) (fun c17_82 => ?_)
      refine lv_aload_n hx hb dX11_readLine_20 rfl (lv_at hl 0 rfl) ?_
      refine lv_ldc2 hx hb X.1.2.2.2.1 (X.1.2.2.2.2 _ wd_r21_22) dX11_readLine_21 ?_
      refine k_Vi (n := 1) X hw (rcvk (ci := 11) X hw hM.1 (fun _ _ _ _ _ _ _ => ⟨_, rfl⟩) rfl) (c_v_X11_isWord l G _ ma 7103845 hM) wd_r22_1 wd_r22_2 wd_r22_3 wd_r1_5 wd_r22_4 ⟨by decide, by decide, by decide +kernel⟩ rfl rfl ⟨Nat.le_of_ble_eq_true rfl, Nat.le_of_ble_eq_true rfl⟩ rfl rfl hl.1 (Nat.le_of_ble_eq_true rfl) dX11_readLine_24 ⟨Nat.le_of_ble_eq_true rfl, Nat.le_of_ble_eq_true rfl⟩ (fun r24_83 S24_85 H locs h24_84 hw => ?_)
      rcases h24_84 with ⟨rfl, rfl, h24_84⟩ | ⟨rfl, rfl, h24_84⟩
      · have h24_84 := h24_84
        refine lv_if_ne (tgt := 50) hx hb dX11_readLine_27 (by decide) (fun c27_86 => ?_) (fun c27_86 => absurd c27_86 (by decide))
        refine lv_iconst (v := 1) hx hb dX11_readLine_50 (by decide) ?_
        refine lv_goto (tgt := 55) hx hb dX11_readLine_51 (by decide) ?_
        refine lv_istore_n (lv' := [(1, .int 1), (0, .ref (ma 0))]) hx hb dX11_readLine_55 rfl hl (by decide) rfl (fun ls hl => ?_)
        exact lp56  1 (by first | exact wd_y hmt (k := 0) (by decide) t_1 (show (pI S 108 (ma 0)).toInt = 2 ∧ (pJ S 110 (ma 0)).toInt = (2003398244 : Int64).toInt by assumption) | exact wd_y hmt (k := 1) (by decide) t_1 (show (pI S 108 (ma 0)).toInt = 2 ∧ (pJ S 110 (ma 0)).toInt = (126943972647277 : Int64).toInt by assumption) | exact wd_y hmt (k := 2) (by decide) t_1 (show (pI S 108 (ma 0)).toInt = 2 ∧ (pJ S 110 (ma 0)).toInt = (7103845 : Int64).toInt by assumption) | exact wd_y hmt (k := 3) (by decide) t_1 (show (pI S 108 (ma 0)).toInt = 2 ∧ (pJ S 110 (ma 0)).toInt = (1818324580 : Int64).toInt by assumption) | exact wd_y hmt (k := 4) (by decide) t_1 (show (pI S 108 (ma 0)).toInt = 2 ∧ (pJ S 110 (ma 0)).toInt = (1835627379 : Int64).toInt by assumption) | exact wd_n hmt t_0 (all5 (show ¬ ((pI S 108 (ma 0)).toInt = 2 ∧ (pJ S 110 (ma 0)).toInt = (2003398244 : Int64).toInt) by assumption) (show ¬ ((pI S 108 (ma 0)).toInt = 2 ∧ (pJ S 110 (ma 0)).toInt = (126943972647277 : Int64).toInt) by assumption) (show ¬ ((pI S 108 (ma 0)).toInt = 2 ∧ (pJ S 110 (ma 0)).toInt = (7103845 : Int64).toInt) by assumption) (show ¬ ((pI S 108 (ma 0)).toInt = 2 ∧ (pJ S 110 (ma 0)).toInt = (1818324580 : Int64).toInt) by assumption) (show ¬ ((pI S 108 (ma 0)).toInt = 2 ∧ (pJ S 110 (ma 0)).toInt = (1835627379 : Int64).toInt) by assumption))) _ _ _ hw (lv_sub hl [1, 0] rfl)
      · have h24_84 := h24_84
        refine lv_if_ne (tgt := 50) hx hb dX11_readLine_27 (by decide) (fun c27_87 => absurd c27_87 (by decide)) (fun c27_87 => ?_)
        refine lv_aload_n hx hb dX11_readLine_30 rfl (lv_at hl 0 rfl) ?_
        refine lv_ldc2 hx hb X.1.2.2.2.1 (X.1.2.2.2.2 _ wd_r21_23) dX11_readLine_31 ?_
        refine k_Vi (n := 1) X hw (rcvk (ci := 11) X hw hM.1 (fun _ _ _ _ _ _ _ => ⟨_, rfl⟩) rfl) (c_v_X11_isWord l G _ ma 1818324580 hM) wd_r22_1 wd_r22_2 wd_r22_3 wd_r1_5 wd_r22_4 ⟨by decide, by decide, by decide +kernel⟩ rfl rfl ⟨Nat.le_of_ble_eq_true rfl, Nat.le_of_ble_eq_true rfl⟩ rfl rfl hl.1 (Nat.le_of_ble_eq_true rfl) dX11_readLine_34 ⟨Nat.le_of_ble_eq_true rfl, Nat.le_of_ble_eq_true rfl⟩ (fun r34_88 S34_90 H locs h34_89 hw => ?_)
        rcases h34_89 with ⟨rfl, rfl, h34_89⟩ | ⟨rfl, rfl, h34_89⟩
        · have h34_89 := h34_89
          refine lv_if_ne (tgt := 50) hx hb dX11_readLine_37 (by decide) (fun c37_91 => ?_) (fun c37_91 => absurd c37_91 (by decide))
          refine lv_iconst (v := 1) hx hb dX11_readLine_50 (by decide) ?_
          refine lv_goto (tgt := 55) hx hb dX11_readLine_51 (by decide) ?_
          refine lv_istore_n (lv' := [(1, .int 1), (0, .ref (ma 0))]) hx hb dX11_readLine_55 rfl hl (by decide) rfl (fun ls hl => ?_)
          exact lp56  1 (by first | exact wd_y hmt (k := 0) (by decide) t_1 (show (pI S 108 (ma 0)).toInt = 2 ∧ (pJ S 110 (ma 0)).toInt = (2003398244 : Int64).toInt by assumption) | exact wd_y hmt (k := 1) (by decide) t_1 (show (pI S 108 (ma 0)).toInt = 2 ∧ (pJ S 110 (ma 0)).toInt = (126943972647277 : Int64).toInt by assumption) | exact wd_y hmt (k := 2) (by decide) t_1 (show (pI S 108 (ma 0)).toInt = 2 ∧ (pJ S 110 (ma 0)).toInt = (7103845 : Int64).toInt by assumption) | exact wd_y hmt (k := 3) (by decide) t_1 (show (pI S 108 (ma 0)).toInt = 2 ∧ (pJ S 110 (ma 0)).toInt = (1818324580 : Int64).toInt by assumption) | exact wd_y hmt (k := 4) (by decide) t_1 (show (pI S 108 (ma 0)).toInt = 2 ∧ (pJ S 110 (ma 0)).toInt = (1835627379 : Int64).toInt by assumption) | exact wd_n hmt t_0 (all5 (show ¬ ((pI S 108 (ma 0)).toInt = 2 ∧ (pJ S 110 (ma 0)).toInt = (2003398244 : Int64).toInt) by assumption) (show ¬ ((pI S 108 (ma 0)).toInt = 2 ∧ (pJ S 110 (ma 0)).toInt = (126943972647277 : Int64).toInt) by assumption) (show ¬ ((pI S 108 (ma 0)).toInt = 2 ∧ (pJ S 110 (ma 0)).toInt = (7103845 : Int64).toInt) by assumption) (show ¬ ((pI S 108 (ma 0)).toInt = 2 ∧ (pJ S 110 (ma 0)).toInt = (1818324580 : Int64).toInt) by assumption) (show ¬ ((pI S 108 (ma 0)).toInt = 2 ∧ (pJ S 110 (ma 0)).toInt = (1835627379 : Int64).toInt) by assumption))) _ _ _ hw (lv_sub hl [1, 0] rfl)
        · have h34_89 := h34_89
          refine lv_if_ne (tgt := 50) hx hb dX11_readLine_37 (by decide) (fun c37_92 => absurd c37_92 (by decide)) (fun c37_92 => ?_)
          refine lv_aload_n hx hb dX11_readLine_40 rfl (lv_at hl 0 rfl) ?_
          refine lv_ldc2 hx hb X.1.2.2.2.1 (X.1.2.2.2.2 _ wd_r22_0) dX11_readLine_41 ?_
          refine k_Vi (n := 1) X hw (rcvk (ci := 11) X hw hM.1 (fun _ _ _ _ _ _ _ => ⟨_, rfl⟩) rfl) (c_v_X11_isWord l G _ ma 1835627379 hM) wd_r22_1 wd_r22_2 wd_r22_3 wd_r1_5 wd_r22_4 ⟨by decide, by decide, by decide +kernel⟩ rfl rfl ⟨Nat.le_of_ble_eq_true rfl, Nat.le_of_ble_eq_true rfl⟩ rfl rfl hl.1 (Nat.le_of_ble_eq_true rfl) dX11_readLine_44 ⟨Nat.le_of_ble_eq_true rfl, Nat.le_of_ble_eq_true rfl⟩ (fun r44_93 S44_95 H locs h44_94 hw => ?_)
          rcases h44_94 with ⟨rfl, rfl, h44_94⟩ | ⟨rfl, rfl, h44_94⟩
          · have h44_94 := h44_94
            refine lv_if_eq (tgt := 54) hx hb dX11_readLine_47 (by decide) (fun c47_96 => absurd c47_96 (by decide)) (fun c47_96 => ?_)
            refine lv_iconst (v := 1) hx hb dX11_readLine_50 (by decide) ?_
            refine lv_goto (tgt := 55) hx hb dX11_readLine_51 (by decide) ?_
            refine lv_istore_n (lv' := [(1, .int 1), (0, .ref (ma 0))]) hx hb dX11_readLine_55 rfl hl (by decide) rfl (fun ls hl => ?_)
            exact lp56  1 (by first | exact wd_y hmt (k := 0) (by decide) t_1 (show (pI S 108 (ma 0)).toInt = 2 ∧ (pJ S 110 (ma 0)).toInt = (2003398244 : Int64).toInt by assumption) | exact wd_y hmt (k := 1) (by decide) t_1 (show (pI S 108 (ma 0)).toInt = 2 ∧ (pJ S 110 (ma 0)).toInt = (126943972647277 : Int64).toInt by assumption) | exact wd_y hmt (k := 2) (by decide) t_1 (show (pI S 108 (ma 0)).toInt = 2 ∧ (pJ S 110 (ma 0)).toInt = (7103845 : Int64).toInt by assumption) | exact wd_y hmt (k := 3) (by decide) t_1 (show (pI S 108 (ma 0)).toInt = 2 ∧ (pJ S 110 (ma 0)).toInt = (1818324580 : Int64).toInt by assumption) | exact wd_y hmt (k := 4) (by decide) t_1 (show (pI S 108 (ma 0)).toInt = 2 ∧ (pJ S 110 (ma 0)).toInt = (1835627379 : Int64).toInt by assumption) | exact wd_n hmt t_0 (all5 (show ¬ ((pI S 108 (ma 0)).toInt = 2 ∧ (pJ S 110 (ma 0)).toInt = (2003398244 : Int64).toInt) by assumption) (show ¬ ((pI S 108 (ma 0)).toInt = 2 ∧ (pJ S 110 (ma 0)).toInt = (126943972647277 : Int64).toInt) by assumption) (show ¬ ((pI S 108 (ma 0)).toInt = 2 ∧ (pJ S 110 (ma 0)).toInt = (7103845 : Int64).toInt) by assumption) (show ¬ ((pI S 108 (ma 0)).toInt = 2 ∧ (pJ S 110 (ma 0)).toInt = (1818324580 : Int64).toInt) by assumption) (show ¬ ((pI S 108 (ma 0)).toInt = 2 ∧ (pJ S 110 (ma 0)).toInt = (1835627379 : Int64).toInt) by assumption))) _ _ _ hw (lv_sub hl [1, 0] rfl)
          · have h44_94 := h44_94
            refine lv_if_eq (tgt := 54) hx hb dX11_readLine_47 (by decide) (fun c47_97 => ?_) (fun c47_97 => absurd c47_97 (by decide))
            refine lv_iconst (v := 0) hx hb dX11_readLine_54 (by decide) ?_
            refine lv_istore_n (lv' := [(1, .int 0), (0, .ref (ma 0))]) hx hb dX11_readLine_55 rfl hl (by decide) rfl (fun ls hl => ?_)
            exact lp56  0 (by first | exact wd_y hmt (k := 0) (by decide) t_1 (show (pI S 108 (ma 0)).toInt = 2 ∧ (pJ S 110 (ma 0)).toInt = (2003398244 : Int64).toInt by assumption) | exact wd_y hmt (k := 1) (by decide) t_1 (show (pI S 108 (ma 0)).toInt = 2 ∧ (pJ S 110 (ma 0)).toInt = (126943972647277 : Int64).toInt by assumption) | exact wd_y hmt (k := 2) (by decide) t_1 (show (pI S 108 (ma 0)).toInt = 2 ∧ (pJ S 110 (ma 0)).toInt = (7103845 : Int64).toInt by assumption) | exact wd_y hmt (k := 3) (by decide) t_1 (show (pI S 108 (ma 0)).toInt = 2 ∧ (pJ S 110 (ma 0)).toInt = (1818324580 : Int64).toInt by assumption) | exact wd_y hmt (k := 4) (by decide) t_1 (show (pI S 108 (ma 0)).toInt = 2 ∧ (pJ S 110 (ma 0)).toInt = (1835627379 : Int64).toInt by assumption) | exact wd_n hmt t_0 (all5 (show ¬ ((pI S 108 (ma 0)).toInt = 2 ∧ (pJ S 110 (ma 0)).toInt = (2003398244 : Int64).toInt) by assumption) (show ¬ ((pI S 108 (ma 0)).toInt = 2 ∧ (pJ S 110 (ma 0)).toInt = (126943972647277 : Int64).toInt) by assumption) (show ¬ ((pI S 108 (ma 0)).toInt = 2 ∧ (pJ S 110 (ma 0)).toInt = (7103845 : Int64).toInt) by assumption) (show ¬ ((pI S 108 (ma 0)).toInt = 2 ∧ (pJ S 110 (ma 0)).toInt = (1818324580 : Int64).toInt) by assumption) (show ¬ ((pI S 108 (ma 0)).toInt = 2 ∧ (pJ S 110 (ma 0)).toInt = (1835627379 : Int64).toInt) by assumption))) _ _ _ hw (lv_sub hl [1, 0] rfl)
