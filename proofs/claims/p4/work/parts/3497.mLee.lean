
set_option maxHeartbeats 4000000 in
set_option maxRecDepth 100000 in
theorem c_v_X11_readLee (l : Launch) (G : Gh) (S : Pl) (ma : Nat → Nat) (tc : Nat → Int32) (tn : Nat) (pp bb : Nat) (V : SV) (hM : shMod S ma) (htc : tc = tx (qI S (ma 2)) tn) (hn : (pI S 103 (ma 0)).toInt = (tn : Int)) (hz : tn ≤ 1000) (hpp : pp ≤ tn) (hst : Mst (pI S) (pJ S) (ma 0) tc tn pp True) (hrb : (pI S 121 (ma 0)).toInt = (bb : Int)) (hb1 : bb ≤ 1) (hMB : MBk (qI S) ma bb V.2) (hvk : vok V) (hms : MsOK (qI S (ma 18))) : MtV l yX11_readLee cX11_readLee 2 none (Rm 4 0 0) G [.ref (ma 0)] S (fun (S' : Pl) => ∃ I' J' q', ch S I' J' q' (qJ S) = S' ∧ FrM (pI S) I' ∧ FrQ 13 ma (qI S) q' ∧ KeepB (qI S) q' ma bb ∧ MsOK (q' (ma 18)) ∧ Mst I' J' (ma 0) tc tn (pz tc tn pp 2) (GL V.2 tc tn pp 2) ∧ (GL V.2 tc tn pp 2 → MBk q' ma bb (TC V.2 tc tn pp 2))) 0 0 := by
  refine MtV.of (by decide) (Nat.le_of_ble_eq_true rfl) ?_
  intro p e s m args below meth c Q A X hw hin hret ls hl
  have hx := X.1.1
  have hb := X.1.2.1
  have hl : lv_has ls 2 [(0, .ref (ma 0))] := hl
  have hp1 : tE tc tn pp ≤ tn := (tE_le hpp).2
  have hp2 : tE tc tn (tE tc tn pp) ≤ tn := (tE_le hp1).2
  have hp3 : tE tc tn (tE tc tn (tE tc tn pp)) ≤ tn := (tE_le hp2).2
  refine lv_iconst (v := 4) hx hb dX11_readLee_0 (by decide) ?_
  refine lv_aload_n hx hb dX11_readLee_1 rfl (lv_at hl 0 rfl) ?_
  refine gf_X11_149 (v := (pI S) 121 (ma 0)) X hw hM.1 rfl dX11_readLee_2 ?_
  refine lv_imul hx hb dX11_readLee_5 ?_
  refine lv_topi (fun v5_1 e5_1 => ?_)
  have t5_1 := iMul e5_1 t_4 rfl (by omega) (by omega)
  have t5 := t5_1
  refine lv_aload_n hx hb dX11_readLee_6 rfl (lv_at hl 0 rfl) ?_
  refine lv_iconst (v := 0) hx hb dX11_readLee_7 (by decide) ?_
  refine lv_iconst (v := 3) hx hb dX11_readLee_8 (by decide) ?_
  refine k_Vi (n := 2) X hw (rcvk (ci := 11) X hw hM.1 (fun _ _ _ _ _ _ _ => ⟨_, rfl⟩) rfl) (c_v_X11_numeral l G _ ma tc tn pp _ 0 3 (0) hM htc (FrM.n FrM.rf hn) hz hpp hst (by decide)) wd_r22_17 wd_r22_18 wd_r22_19 wd_r1_5 wd_r22_20 ⟨by decide, by decide, by decide +kernel⟩ rfl rfl ⟨Nat.le_of_ble_eq_true rfl, Nat.le_of_ble_eq_true rfl⟩ rfl rfl hl.1 (Nat.le_of_ble_eq_true rfl) dX11_readLee_9 ⟨Nat.le_of_ble_eq_true rfl, Nat.le_of_ble_eq_true rfl⟩ (fun r9_2 S9_4 H locs h9_3 hw => ?_)
  have := t_0
  have := t_3
  obtain ⟨I9_5, J9_6, rfl, h9_3⟩ := h9_3
  have hw : PX G A s.heap (ch S I9_5 J9_6 (qI S) (qJ S)) H locs := hw
  have hst1 := h9_3.2.1
  have hr1 := h9_3.2.2.1
  have hbd1 := h9_3.2.2.2
  obtain ⟨N1, hN1⟩ : ∃ z : Int32, r9_2 = z := ⟨_, rfl⟩
  have hNt1 := congrArg Int32.toInt hN1
  have h9_3b := congrArg Int32.toInt (FrM.rb (FrM.tr FrM.rf h9_3.1) (ma 0))
  refine lv_iadd hx hb dX11_readLee_12 ?_
  refine lv_topi (fun v12_7 e12_7 => ?_)
  have t12_7 := iAdd e12_7 rfl rfl (by omega) (by omega)
  have t12 := t12_7
  refine lv_istore_n (lv' := [(1, .int v12_7), (0, .ref (ma 0))]) hx hb dX11_readLee_13 rfl hl (by decide) rfl (fun ls hl => ?_)
  have hcl1 := cl_toInt (x := N1) (by omega)
  have hcl2 := cl_toInt (x := v12_7) (by omega)
  have hix : v12_7.toNatClampNeg = 4 * bb + N1.toNatClampNeg := by omega
  have hlt : N1.toNatClampNeg < 4 := by omega
  refine lv_aload_n hx hb dX11_readLee_14 rfl (lv_at hl 1 rfl) ?_
  refine lv_aload_n hx hb dX11_readLee_15 rfl (lv_at hl 1 rfl) ?_
  refine gf_X11_87 (b := (ma 20)) X hw hM.1 (mr_20 hM) dX11_readLee_16 ?_
  refine lv_iload_n hx hb dX11_readLee_19 rfl (lv_at hl 0 rfl) ?_
  refine q_ldZ X hw (mk_20 hM) (vin (mn_20 hM) (by omega) (by omega)) dX11_readLee_20 ?_
  refine lv_topi (fun v20_8 e20_8 => ?_)
  have e20_8 : v20_8 = (qI S) (ma 20) v12_7.toNatClampNeg := e20_8
  have e20n := e20_8
  have hW : (True ∧ gN tc tn pp 0 3) → (v20_8.toInt = 0 ↔ ¬ told V.2 2 (nv tc tn pp 0).toNatClampNeg (nv tc tn pp 1).toNatClampNeg) := fun q9 => by have e9 := hN1.symm.trans (hr1 (hst1.i.mpr q9)); have z9 := hix; rw [e9] at z9; have y9 := hlt; rw [e9] at y9; exact tw_l hMB y9 z9 e20n
  refine k_Vv (n := 1) X hw (rcvk (ci := 11) X hw hM.1 (fun _ _ _ _ _ _ _ => ⟨_, rfl⟩) rfl) (c_v_X11_twice l G _ ma v20_8 hM) wd_r22_22 wd_r22_23 wd_r23_0 wd_r1_5 wd_r23_1 ⟨by decide, by decide, by decide +kernel⟩ rfl rfl ⟨Nat.le_of_ble_eq_true rfl, Nat.le_of_ble_eq_true rfl⟩ rfl rfl hl.1 (Nat.le_of_ble_eq_true rfl) dX11_readLee_21 ⟨Nat.le_of_ble_eq_true rfl, Nat.le_of_ble_eq_true rfl⟩ (fun S21_10 H locs h21_9 hw => ?_)
  obtain ⟨I21_11, rfl, h21_9⟩ := h21_9
  have hw : PX G A s.heap (ch S I21_11 J9_6 (qI S) (qJ S)) H locs := hw
  have HTW := h21_9
  have hst2 := (hst1.tw HTW.1 HTW.2).cg (and_congr_right (fun q9 => hW q9))
  refine lv_aload_n hx hb dX11_readLee_24 rfl (lv_at hl 1 rfl) ?_
  refine gf_X11_77 (b := (ma 17)) X hw hM.1 (mr_17 hM) dX11_readLee_25 ?_
  refine lv_iload_n hx hb dX11_readLee_28 rfl (lv_at hl 0 rfl) ?_
  refine lv_aload_n hx hb dX11_readLee_29 rfl (lv_at hl 1 rfl) ?_
  refine lv_iconst (v := 0) hx hb dX11_readLee_30 (by decide) ?_
  refine lv_bipush (v := 100) hx hb dX11_readLee_31 (by decide) ?_
  refine k_Vi (n := 2) X hw (rcvk (ci := 11) X hw hM.1 (fun _ _ _ _ _ _ _ => ⟨_, rfl⟩) rfl) (c_v_X11_numeral l G _ ma tc tn (tE tc tn pp) _ 0 100 (0) hM htc (FrM.n (FrM.tr (FrM.tr FrM.rf h9_3.1) (h21_9.1.m)) hn) hz hp1 hst2 (by decide)) wd_r22_17 wd_r22_18 wd_r22_19 wd_r1_5 wd_r22_20 ⟨by decide, by decide, by decide +kernel⟩ rfl rfl ⟨Nat.le_of_ble_eq_true rfl, Nat.le_of_ble_eq_true rfl⟩ rfl rfl hl.1 (Nat.le_of_ble_eq_true rfl) dX11_readLee_33 ⟨Nat.le_of_ble_eq_true rfl, Nat.le_of_ble_eq_true rfl⟩ (fun r33_12 S33_14 H locs h33_13 hw => ?_)
  have := t_0
  have := t_100
  obtain ⟨I33_15, J33_16, rfl, h33_13⟩ := h33_13
  have hw : PX G A s.heap (ch S I33_15 J33_16 (qI S) (qJ S)) H locs := hw
  have hst3 := h33_13.2.1
  have hr3 := h33_13.2.2.1
  have hbd3 := h33_13.2.2.2
  obtain ⟨N3, hN3⟩ : ∃ z : Int32, r33_12 = z := ⟨_, rfl⟩
  have hNt3 := congrArg Int32.toInt hN3
  have h33_13b := congrArg Int32.toInt (FrM.rb (FrM.tr (FrM.tr (FrM.tr FrM.rf h9_3.1) (h21_9.1.m)) h33_13.1) (ma 0))
  refine q_stI X hw (mk_17 hM) (vin (mn_17 hM) (by omega) (by omega)) dX11_readLee_36 (fun H locs hw => ?_)
  obtain ⟨q36_17, eq36_17, hw⟩ : ∃ zz9, zz9 = va_up (qI S) (ma 17) (upd ((qI S) (ma 17)) v12_7.toNatClampNeg r33_12) ∧ PX G A s.heap (ch S I33_15 J33_16 zz9 (qJ S)) H locs := ⟨_, rfl, hw⟩
  have c36 := eq36_17
  refine lv_aload_n hx hb dX11_readLee_37 rfl (lv_at hl 1 rfl) ?_
  refine gf_X11_87 (b := (ma 20)) X hw hM.1 (mr_20 hM) dX11_readLee_38 ?_
  refine lv_iload_n hx hb dX11_readLee_41 rfl (lv_at hl 0 rfl) ?_
  refine lv_iconst (v := 1) hx hb dX11_readLee_42 (by decide) ?_
  refine q_stZ X hw (mk_20 hM) (vin (mn_20 hM) (by omega) (by omega)) dX11_readLee_43 (fun H locs hw => ?_)
  obtain ⟨q43_18, eq43_18, hw⟩ : ∃ zz9, zz9 = va_up q36_17 (ma 20) (upd (q36_17 (ma 20)) v12_7.toNatClampNeg (vp_nar .boolean 1)) ∧ PX G A s.heap (ch S I33_15 J33_16 zz9 (qJ S)) H locs := ⟨_, rfl, hw⟩
  have c43 := eq43_18
  have HMB : GL V.2 tc tn pp 2 → MBk q43_18 ma bb (TC V.2 tc tn pp 2) := fun hG => by have y9 := GL_2.mpr hG; have e9 := hN1.symm.trans (hr1 (hst1.i.mpr y9.1.1)); have z9 := hix; rw [e9] at z9; have z := MBk.l hMB hM (nn1 (by omega)) z9 c36 c43; rw [hr3 (hst3.i.mpr y9)] at z; exact z
  exact hret _ _ _ _ _ ⟨_, _, _, rfl, (FrM.tr (FrM.tr (FrM.tr FrM.rf h9_3.1) (h21_9.1.m)) h33_13.1), (FrQ.ez eq43_18 (FrQ.up (j := 20) (by decide) (by decide) (FrQ.ez eq36_17 (FrQ.up (j := 17) (by decide) (by decide) FrQ.rf)))), ((KeepB.up (j := 17) hM (by decide) c36 (show 4 * bb ≤ v12_7.toNatClampNeg ∧ v12_7.toNatClampNeg < 4 * (bb + 1) by omega)).tr (KeepB.up (j := 20) hM (by decide) c43 (show 4 * bb ≤ v12_7.toNatClampNeg ∧ v12_7.toNatClampNeg < 4 * (bb + 1) by omega))), (by rw [row_keep hM c43 (i := 18) (by decide) (by decide) (by decide), row_keep hM c36 (i := 18) (by decide) (by decide) (by decide)]; exact hms), (hst3.cg GL_2), HMB⟩ hw dX11_readLee_44
