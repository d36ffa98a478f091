
set_option maxHeartbeats 4000000 in
set_option maxRecDepth 100000 in
theorem c_v_X11_readLand (l : Launch) (G : Gh) (S : Pl) (ma : Nat → Nat) (tc : Nat → Int32) (tn : Nat) (pp bb : Nat) (V : SV) (hM : shMod S ma) (htc : tc = tx (qI S (ma 2)) tn) (hn : (pI S 103 (ma 0)).toInt = (tn : Int)) (hz : tn ≤ 1000) (hpp : pp ≤ tn) (hst : Mst (pI S) (pJ S) (ma 0) tc tn pp True) (hrb : (pI S 121 (ma 0)).toInt = (bb : Int)) (hb1 : bb ≤ 1) (hMB : MBk (qI S) ma bb V.2) (hvk : vok V) (hms : MsOK (qI S (ma 18))) : MtV l yX11_readLand cX11_readLand 3 none (Rm 4 0 0) G [.ref (ma 0)] S (fun (S' : Pl) => ∃ I' J' q', ch S I' J' q' (qJ S) = S' ∧ FrM (pI S) I' ∧ FrQ 13 ma (qI S) q' ∧ KeepB (qI S) q' ma bb ∧ MsOK (q' (ma 18)) ∧ Mst I' J' (ma 0) tc tn (pz tc tn pp 2) (GL V.2 tc tn pp 3) ∧ (GL V.2 tc tn pp 3 → MBk q' ma bb (TC V.2 tc tn pp 3))) 0 0 := by
  refine MtV.of (by decide) (Nat.le_of_ble_eq_true rfl) ?_
  intro p e s m args below meth c Q A X hw hin hret ls hl
  have hx := X.1.1
  have hb := X.1.2.1
  have hl : lv_has ls 3 [(0, .ref (ma 0))] := hl
  have hp1 : tE tc tn pp ≤ tn := (tE_le hpp).2
  have hp2 : tE tc tn (tE tc tn pp) ≤ tn := (tE_le hp1).2
  have hp3 : tE tc tn (tE tc tn (tE tc tn pp)) ≤ tn := (tE_le hp2).2
  refine lv_aload_n hx hb dX11_readLand_0 rfl (lv_at hl 0 rfl) ?_
  refine lv_iconst (v := 0) hx hb dX11_readLand_1 (by decide) ?_
  refine lv_bipush (v := 7) hx hb dX11_readLand_2 (by decide) ?_
  refine k_Vi (n := 2) X hw (rcvk (ci := 11) X hw hM.1 (fun _ _ _ _ _ _ _ => ⟨_, rfl⟩) rfl) (c_v_X11_numeral l G _ ma tc tn pp _ 0 7 (0) hM htc (FrM.n FrM.rf hn) hz hpp hst (by decide)) wd_r22_17 wd_r22_18 wd_r22_19 wd_r1_5 wd_r22_20 ⟨by decide, by decide, by decide +kernel⟩ rfl rfl ⟨Nat.le_of_ble_eq_true rfl, Nat.le_of_ble_eq_true rfl⟩ rfl rfl hl.1 (Nat.le_of_ble_eq_true rfl) dX11_readLand_4 ⟨Nat.le_of_ble_eq_true rfl, Nat.le_of_ble_eq_true rfl⟩ (fun r4_1 S4_3 H locs h4_2 hw => ?_)
  have := t_0
  have := t_7
  obtain ⟨I4_4, J4_5, rfl, h4_2⟩ := h4_2
  have hw : PX G A s.heap (ch S I4_4 J4_5 (qI S) (qJ S)) H locs := hw
  have hst1 := h4_2.2.1
  have hr1 := h4_2.2.2.1
  have hbd1 := h4_2.2.2.2
  obtain ⟨N1, hN1⟩ : ∃ z : Int32, r4_1 = z := ⟨_, rfl⟩
  have hNt1 := congrArg Int32.toInt hN1
  have h4_2b := congrArg Int32.toInt (FrM.rb (FrM.tr FrM.rf h4_2.1) (ma 0))
  refine lv_istore_n (lv' := [(1, .int r4_1), (0, .ref (ma 0))]) hx hb dX11_readLand_7 rfl hl (by decide) rfl (fun ls hl => ?_)
  refine lv_bipush (v := 64) hx hb dX11_readLand_8 (by decide) ?_
  refine lv_aload_n hx hb dX11_readLand_10 rfl (lv_at hl 1 rfl) ?_
  refine gf_X11_149 (v := I4_4 121 (ma 0)) X hw hM.1 rfl dX11_readLand_11 ?_
  refine lv_imul hx hb dX11_readLand_14 ?_
  refine lv_topi (fun v14_6 e14_6 => ?_)
  have t14_6 := iMul e14_6 t_64 rfl (by omega) (by omega)
  have t14 := t14_6
  refine lv_iload_n hx hb dX11_readLand_15 rfl (lv_at hl 0 rfl) ?_
  refine lv_iadd hx hb dX11_readLand_16 ?_
  refine lv_topi (fun v16_7 e16_7 => ?_)
  have t16_7 := iAdd e16_7 rfl rfl (by omega) (by omega)
  have t16 := t16_7
  refine lv_bipush (v := 8) hx hb dX11_readLand_17 (by decide) ?_
  refine lv_aload_n hx hb dX11_readLand_19 rfl (lv_at hl 1 rfl) ?_
  refine lv_iconst (v := 0) hx hb dX11_readLand_20 (by decide) ?_
  refine lv_bipush (v := 7) hx hb dX11_readLand_21 (by decide) ?_
  refine k_Vi (n := 2) X hw (rcvk (ci := 11) X hw hM.1 (fun _ _ _ _ _ _ _ => ⟨_, rfl⟩) rfl) (c_v_X11_numeral l G _ ma tc tn (tE tc tn pp) _ 0 7 (0) hM htc (FrM.n (FrM.tr FrM.rf h4_2.1) hn) hz hp1 hst1 (by decide)) wd_r22_17 wd_r22_18 wd_r22_19 wd_r1_5 wd_r22_20 ⟨by decide, by decide, by decide +kernel⟩ rfl rfl ⟨Nat.le_of_ble_eq_true rfl, Nat.le_of_ble_eq_true rfl⟩ rfl rfl hl.1 (Nat.le_of_ble_eq_true rfl) dX11_readLand_23 ⟨Nat.le_of_ble_eq_true rfl, Nat.le_of_ble_eq_true rfl⟩ (fun r23_8 S23_10 H locs h23_9 hw => ?_)
  have := t_0
  have := t_7
  obtain ⟨I23_11, J23_12, rfl, h23_9⟩ := h23_9
  have hw : PX G A s.heap (ch S I23_11 J23_12 (qI S) (qJ S)) H locs := hw
  have hst2 := h23_9.2.1
  have hr2 := h23_9.2.2.1
  have hbd2 := h23_9.2.2.2
  obtain ⟨N2, hN2⟩ : ∃ z : Int32, r23_8 = z := ⟨_, rfl⟩
  have hNt2 := congrArg Int32.toInt hN2
  have h23_9b := congrArg Int32.toInt (FrM.rb (FrM.tr (FrM.tr FrM.rf h4_2.1) h23_9.1) (ma 0))
  refine lv_imul hx hb dX11_readLand_26 ?_
  refine lv_topi (fun v26_13 e26_13 => ?_)
  have t26_13 := iMul e26_13 t_8 rfl (by omega) (by omega)
  have t26 := t26_13
  refine lv_iadd hx hb dX11_readLand_27 ?_
  refine lv_topi (fun v27_14 e27_14 => ?_)
  have t27_14 := iAdd e27_14 rfl rfl (by omega) (by omega)
  have t27 := t27_14
  refine lv_istore_n (lv' := [(2, .int v27_14), (1, .int r4_1), (0, .ref (ma 0))]) hx hb dX11_readLand_28 rfl hl (by decide) rfl (fun ls hl => ?_)
  have hcl1 := cl_toInt (x := N1) (by omega)
  have hcl2 := cl_toInt (x := N2) (by omega)
  have hcl3 := cl_toInt (x := v27_14) (by omega)
  have hix : v27_14.toNatClampNeg = 64 * bb + (8 * N2.toNatClampNeg + N1.toNatClampNeg) := by omega
  have hlt : 8 * N2.toNatClampNeg + N1.toNatClampNeg < 64 := by omega
  refine lv_aload_n hx hb dX11_readLand_29 rfl (lv_at hl 2 rfl) ?_
  refine lv_aload_n hx hb dX11_readLand_30 rfl (lv_at hl 2 rfl) ?_
  refine gf_X11_83 (b := (ma 19)) X hw hM.1 (mr_19 hM) dX11_readLand_31 ?_
  refine lv_iload_n hx hb dX11_readLand_34 rfl (lv_at hl 0 rfl) ?_
  refine q_ldZ X hw (mk_19 hM) (vin (mn_19 hM) (by omega) (by omega)) dX11_readLand_35 ?_
  refine lv_topi (fun v35_15 e35_15 => ?_)
  have e35_15 : v35_15 = (qI S) (ma 19) v27_14.toNatClampNeg := e35_15
  have e35n := e35_15
  have hW : ((True ∧ gN tc tn pp 0 7) ∧ gN tc tn (tE tc tn pp) 0 7) → (v35_15.toInt = 0 ↔ ¬ told V.2 3 (nv tc tn pp 0).toNatClampNeg (nv tc tn pp 1).toNatClampNeg) := fun q9 => by have e9 := hN1.symm.trans (hr1 (hst1.i.mpr q9.1)); have e8 := hN2.symm.trans (hr2 (hst2.i.mpr q9)); have z9 := hix; rw [e9, e8] at z9; have y9 := hlt; rw [e9, e8] at y9; exact tw_d hMB y9 z9 e35n
  refine k_Vv (n := 1) X hw (rcvk (ci := 11) X hw hM.1 (fun _ _ _ _ _ _ _ => ⟨_, rfl⟩) rfl) (c_v_X11_twice l G _ ma v35_15 hM) wd_r22_22 wd_r22_23 wd_r23_0 wd_r1_5 wd_r23_1 ⟨by decide, by decide, by decide +kernel⟩ rfl rfl ⟨Nat.le_of_ble_eq_true rfl, Nat.le_of_ble_eq_true rfl⟩ rfl rfl hl.1 (Nat.le_of_ble_eq_true rfl) dX11_readLand_36 ⟨Nat.le_of_ble_eq_true rfl, Nat.le_of_ble_eq_true rfl⟩ (fun S36_17 H locs h36_16 hw => ?_)
  obtain ⟨I36_18, rfl, h36_16⟩ := h36_16
  have hw : PX G A s.heap (ch S I36_18 J23_12 (qI S) (qJ S)) H locs := hw
  have HTW := h36_16
  have hst3 := (hst2.tw HTW.1 HTW.2).cg (and_congr_right (fun q9 => hW q9))
  refine lv_aload_n hx hb dX11_readLand_39 rfl (lv_at hl 2 rfl) ?_
  refine gf_X11_83 (b := (ma 19)) X hw hM.1 (mr_19 hM) dX11_readLand_40 ?_
  refine lv_iload_n hx hb dX11_readLand_43 rfl (lv_at hl 0 rfl) ?_
  refine lv_iconst (v := 1) hx hb dX11_readLand_44 (by decide) ?_
  refine q_stZ X hw (mk_19 hM) (vin (mn_19 hM) (by omega) (by omega)) dX11_readLand_45 (fun H locs hw => ?_)
  obtain ⟨q45_19, eq45_19, hw⟩ : ∃ zz9, zz9 = va_up (qI S) (ma 19) (upd ((qI S) (ma 19)) v27_14.toNatClampNeg (vp_nar .boolean 1)) ∧ PX G A s.heap (ch S I36_18 J23_12 zz9 (qJ S)) H locs := ⟨_, rfl, hw⟩
  have c45 := eq45_19
  have HMB : GL V.2 tc tn pp 3 → MBk q45_19 ma bb (TC V.2 tc tn pp 3) := fun hG => by have y9 := GL_3.mpr hG; have e9 := hN1.symm.trans (hr1 (hst1.i.mpr y9.1.1)); have e8 := hN2.symm.trans (hr2 (hst2.i.mpr y9.1)); have z9 := hix; rw [e9, e8] at z9; exact MBk.d hMB hM z9 c45
  exact hret _ _ _ _ _ ⟨_, _, _, rfl, (FrM.tr (FrM.tr (FrM.tr FrM.rf h4_2.1) h23_9.1) (h36_16.1.m)), (FrQ.ez eq45_19 (FrQ.up (j := 19) (by decide) (by decide) FrQ.rf)), (KeepB.up (j := 19) hM (by decide) c45 (show 64 * bb ≤ v27_14.toNatClampNeg ∧ v27_14.toNatClampNeg < 64 * (bb + 1) by omega)), (by rw [row_keep hM c45 (i := 18) (by decide) (by decide) (by decide)]; exact hms), (hst3.cg GL_3), HMB⟩ hw dX11_readLand_46
