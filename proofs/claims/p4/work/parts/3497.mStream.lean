
set_option maxHeartbeats 4000000 in
set_option maxRecDepth 100000 in
theorem c_v_X11_readStream (l : Launch) (G : Gh) (S : Pl) (ma : Nat → Nat) (tc : Nat → Int32) (tn : Nat) (pp bb : Nat) (V : SV) (hM : shMod S ma) (htc : tc = tx (qI S (ma 2)) tn) (hn : (pI S 103 (ma 0)).toInt = (tn : Int)) (hz : tn ≤ 1000) (hpp : pp ≤ tn) (hst : Mst (pI S) (pJ S) (ma 0) tc tn pp True) (hrb : (pI S 121 (ma 0)).toInt = (bb : Int)) (hb1 : bb ≤ 1) (hMB : MBk (qI S) ma bb V.2) (hvk : vok V) (hms : MsOK (qI S (ma 18))) : MtV l yX11_readStream cX11_readStream 5 none (Rm 4 0 0) G [.ref (ma 0)] S (fun (S' : Pl) => ∃ I' J' q', ch S I' J' q' (qJ S) = S' ∧ FrM (pI S) I' ∧ FrQ 13 ma (qI S) q' ∧ KeepB (qI S) q' ma bb ∧ MsOK (q' (ma 18)) ∧ Mst I' J' (ma 0) tc tn (pz tc tn pp 4) (GL V.2 tc tn pp 1) ∧ (GL V.2 tc tn pp 1 → MBk q' ma bb (TC V.2 tc tn pp 1))) 0 0 := by
  refine MtV.of (by decide) (Nat.le_of_ble_eq_true rfl) ?_
  intro p e s m args below meth c Q A X hw hin hret ls hl
  have hx := X.1.1
  have hb := X.1.2.1
  have hl : lv_has ls 5 [(0, .ref (ma 0))] := hl
  have hp1 : tE tc tn pp ≤ tn := (tE_le hpp).2
  have hp2 : tE tc tn (tE tc tn pp) ≤ tn := (tE_le hp1).2
  have hp3 : tE tc tn (tE tc tn (tE tc tn pp)) ≤ tn := (tE_le hp2).2
  refine lv_aload_n hx hb dX11_readStream_0 rfl (lv_at hl 0 rfl) ?_
  refine lv_iconst (v := 0) hx hb dX11_readStream_1 (by decide) ?_
  refine lv_iconst (v := 3) hx hb dX11_readStream_2 (by decide) ?_
  refine k_Vi (n := 2) X hw (rcvk (ci := 11) X hw hM.1 (fun _ _ _ _ _ _ _ => ⟨_, rfl⟩) rfl) (c_v_X11_numeral l G _ ma tc tn pp _ 0 3 (0) hM htc (FrM.n FrM.rf hn) hz hpp hst (by decide)) wd_r22_17 wd_r22_18 wd_r22_19 wd_r1_5 wd_r22_20 ⟨by decide, by decide, by decide +kernel⟩ rfl rfl ⟨Nat.le_of_ble_eq_true rfl, Nat.le_of_ble_eq_true rfl⟩ rfl rfl hl.1 (Nat.le_of_ble_eq_true rfl) dX11_readStream_3 ⟨Nat.le_of_ble_eq_true rfl, Nat.le_of_ble_eq_true rfl⟩ (fun r3_1 S3_3 H locs h3_2 hw => ?_)
  have := t_0
  have := t_3
  obtain ⟨I3_4, J3_5, rfl, h3_2⟩ := h3_2
  have hw : PX G A s.heap (ch S I3_4 J3_5 (qI S) (qJ S)) H locs := hw
  have hst1 := h3_2.2.1
  have hr1 := h3_2.2.2.1
  have hbd1 := h3_2.2.2.2
  obtain ⟨N1, hN1⟩ : ∃ z : Int32, r3_1 = z := ⟨_, rfl⟩
  have hNt1 := congrArg Int32.toInt hN1
  have h3_2b := congrArg Int32.toInt (FrM.rb (FrM.tr FrM.rf h3_2.1) (ma 0))
  refine lv_istore_n (lv' := [(1, .int r3_1), (0, .ref (ma 0))]) hx hb dX11_readStream_6 rfl hl (by decide) rfl (fun ls hl => ?_)
  refine lv_bipush (v := 72) hx hb dX11_readStream_7 (by decide) ?_
  refine lv_iconst (v := 4) hx hb dX11_readStream_9 (by decide) ?_
  refine lv_aload_n hx hb dX11_readStream_10 rfl (lv_at hl 1 rfl) ?_
  refine gf_X11_149 (v := I3_4 121 (ma 0)) X hw hM.1 rfl dX11_readStream_11 ?_
  refine lv_imul hx hb dX11_readStream_14 ?_
  refine lv_topi (fun v14_6 e14_6 => ?_)
  have t14_6 := iMul e14_6 t_4 rfl (by omega) (by omega)
  have t14 := t14_6
  refine lv_iload_n hx hb dX11_readStream_15 rfl (lv_at hl 0 rfl) ?_
  refine lv_iadd hx hb dX11_readStream_16 ?_
  refine lv_topi (fun v16_7 e16_7 => ?_)
  have t16_7 := iAdd e16_7 rfl rfl (by omega) (by omega)
  have t16 := t16_7
  refine lv_imul hx hb dX11_readStream_17 ?_
  refine lv_topi (fun v17_8 e17_8 => ?_)
  have t17_8 := iMul e17_8 t_72 rfl (by omega) (by omega)
  have t17 := t17_8
  refine lv_aload_n hx hb dX11_readStream_18 rfl (lv_at hl 1 rfl) ?_
  refine lv_iconst (v := 0) hx hb dX11_readStream_19 (by decide) ?_
  refine lv_bipush (v := 71) hx hb dX11_readStream_20 (by decide) ?_
  refine k_Vi (n := 2) X hw (rcvk (ci := 11) X hw hM.1 (fun _ _ _ _ _ _ _ => ⟨_, rfl⟩) rfl) (c_v_X11_numeral l G _ ma tc tn (tE tc tn pp) _ 0 71 (0) hM htc (FrM.n (FrM.tr FrM.rf h3_2.1) hn) hz hp1 hst1 (by decide)) wd_r22_17 wd_r22_18 wd_r22_19 wd_r1_5 wd_r22_20 ⟨by decide, by decide, by decide +kernel⟩ rfl rfl ⟨Nat.le_of_ble_eq_true rfl, Nat.le_of_ble_eq_true rfl⟩ rfl rfl hl.1 (Nat.le_of_ble_eq_true rfl) dX11_readStream_22 ⟨Nat.le_of_ble_eq_true rfl, Nat.le_of_ble_eq_true rfl⟩ (fun r22_9 S22_11 H locs h22_10 hw => ?_)
  have := t_0
  have := t_71
  obtain ⟨I22_12, J22_13, rfl, h22_10⟩ := h22_10
  have hw : PX G A s.heap (ch S I22_12 J22_13 (qI S) (qJ S)) H locs := hw
  have hst2 := h22_10.2.1
  have hr2 := h22_10.2.2.1
  have hbd2 := h22_10.2.2.2
  obtain ⟨N2, hN2⟩ : ∃ z : Int32, r22_9 = z := ⟨_, rfl⟩
  have hNt2 := congrArg Int32.toInt hN2
  have h22_10b := congrArg Int32.toInt (FrM.rb (FrM.tr (FrM.tr FrM.rf h3_2.1) h22_10.1) (ma 0))
  refine lv_iadd hx hb dX11_readStream_25 ?_
  refine lv_topi (fun v25_14 e25_14 => ?_)
  have t25_14 := iAdd e25_14 rfl rfl (by omega) (by omega)
  have t25 := t25_14
  refine lv_istore_n (lv' := [(2, .int v25_14), (1, .int r3_1), (0, .ref (ma 0))]) hx hb dX11_readStream_26 rfl hl (by decide) rfl (fun ls hl => ?_)
  have hcl1 := cl_toInt (x := N1) (by omega)
  have hcl2 := cl_toInt (x := N2) (by omega)
  have hcl3 := cl_toInt (x := v25_14) (by omega)
  have hix : v25_14.toNatClampNeg = 72 * (4 * bb + N1.toNatClampNeg) + N2.toNatClampNeg := by omega
  have hlt : N1.toNatClampNeg < 4 ∧ N2.toNatClampNeg < 72 := by omega
  have lp47 : ∀ (Ic47 : Nat → Nat → Int32), (FrM (pI S) Ic47) → (Mst Ic47 J22_13 (ma 0) tc tn (tE tc tn (tE tc tn pp)) (((True ∧ gN tc tn pp 0 3) ∧ gN tc tn (tE tc tn pp) 0 71) ∧ ¬ told V.2 1 (nv tc tn pp 0).toNatClampNeg (nv tc tn pp 1).toNatClampNeg)) → ∀ (H : Heap) (locs : List Loc) (ls : Array Slot), PX G A s.heap (ch S Ic47 J22_13 (qI S) (qJ S)) H locs → lv_has ls 5 [(0, .ref (ma 0)), (2, .int v25_14)] → W p l e (Rm 4 0 0) s m args below meth c H locs 0 0 Q (F0 m 47 ls []) := by
    intro Ic47 hF hst3 H locs ls hw hl
    have hbb9 := congrArg Int32.toInt (FrM.rb hF (ma 0))
    refine lv_aload_n hx hb dX11_readStream_47 rfl (lv_at hl 0 rfl) ?_
    refine lv_bipush (v := -30) hx hb dX11_readStream_48 (by decide) ?_
    refine lv_bipush (v := 30) hx hb dX11_readStream_50 (by decide) ?_
    refine k_Vi (n := 2) X hw (rcvk (ci := 11) X hw hM.1 (fun _ _ _ _ _ _ _ => ⟨_, rfl⟩) rfl) (c_v_X11_numeral l G _ ma tc tn (tE tc tn (tE tc tn pp)) _ (-30) 30 (-30) hM htc (FrM.n hF hn) hz hp2 hst3 (by decide)) wd_r22_17 wd_r22_18 wd_r22_19 wd_r1_5 wd_r22_20 ⟨by decide, by decide, by decide +kernel⟩ rfl rfl ⟨Nat.le_of_ble_eq_true rfl, Nat.le_of_ble_eq_true rfl⟩ rfl rfl hl.1 (Nat.le_of_ble_eq_true rfl) dX11_readStream_52 ⟨Nat.le_of_ble_eq_true rfl, Nat.le_of_ble_eq_true rfl⟩ (fun r52_15 S52_17 H locs h52_16 hw => ?_)
    have := t_m30
    have := t_30
    obtain ⟨I52_18, J52_19, rfl, h52_16⟩ := h52_16
    have hw : PX G A s.heap (ch S I52_18 J52_19 (qI S) (qJ S)) H locs := hw
    have hst4 := h52_16.2.1
    have hr4 := h52_16.2.2.1
    have hbd4 := h52_16.2.2.2
    obtain ⟨N4, hN4⟩ : ∃ z : Int32, r52_15 = z := ⟨_, rfl⟩
    have hNt4 := congrArg Int32.toInt hN4
    have h52_16b := congrArg Int32.toInt (FrM.rb (FrM.tr hF h52_16.1) (ma 0))
    refine lv_istore_n (lv' := [(3, .int r52_15), (0, .ref (ma 0)), (2, .int v25_14)]) hx hb dX11_readStream_55 rfl hl (by decide) rfl (fun ls hl => ?_)
    refine lv_aload_n hx hb dX11_readStream_56 rfl (lv_at hl 1 rfl) ?_
    refine lv_bipush (v := -30) hx hb dX11_readStream_57 (by decide) ?_
    refine lv_bipush (v := 30) hx hb dX11_readStream_59 (by decide) ?_
    refine k_Vi (n := 2) X hw (rcvk (ci := 11) X hw hM.1 (fun _ _ _ _ _ _ _ => ⟨_, rfl⟩) rfl) (c_v_X11_numeral l G _ ma tc tn (tE tc tn (tE tc tn (tE tc tn pp))) _ (-30) 30 (-30) hM htc (FrM.n (FrM.tr hF h52_16.1) hn) hz hp3 hst4 (by decide)) wd_r22_17 wd_r22_18 wd_r22_19 wd_r1_5 wd_r22_20 ⟨by decide, by decide, by decide +kernel⟩ rfl rfl ⟨Nat.le_of_ble_eq_true rfl, Nat.le_of_ble_eq_true rfl⟩ rfl rfl hl.1 (Nat.le_of_ble_eq_true rfl) dX11_readStream_61 ⟨Nat.le_of_ble_eq_true rfl, Nat.le_of_ble_eq_true rfl⟩ (fun r61_20 S61_22 H locs h61_21 hw => ?_)
    have := t_m30
    have := t_30
    obtain ⟨I61_23, J61_24, rfl, h61_21⟩ := h61_21
    have hw : PX G A s.heap (ch S I61_23 J61_24 (qI S) (qJ S)) H locs := hw
    have hst5 := h61_21.2.1
    have hr5 := h61_21.2.2.1
    have hbd5 := h61_21.2.2.2
    obtain ⟨N5, hN5⟩ : ∃ z : Int32, r61_20 = z := ⟨_, rfl⟩
    have hNt5 := congrArg Int32.toInt hN5
    have h61_21b := congrArg Int32.toInt (FrM.rb (FrM.tr (FrM.tr hF h52_16.1) h61_21.1) (ma 0))
    refine lv_istore (lv' := [(4, .int r61_20), (3, .int r52_15), (0, .ref (ma 0)), (2, .int v25_14)]) hx hb dX11_readStream_64 hl (by decide) rfl (fun ls hl => ?_)
    refine lv_aload_n hx hb dX11_readStream_66 rfl (lv_at hl 2 rfl) ?_
    refine gf_X11_71 (b := (ma 15)) X hw hM.1 (mr_15 hM) dX11_readStream_67 ?_
    refine lv_iload_n hx hb dX11_readStream_70 rfl (lv_at hl 3 rfl) ?_
    refine lv_iload_n hx hb dX11_readStream_71 rfl (lv_at hl 1 rfl) ?_
    refine q_stI X hw (mk_15 hM) (vin (mn_15 hM) (by omega) (by omega)) dX11_readStream_72 (fun H locs hw => ?_)
    obtain ⟨q72_25, eq72_25, hw⟩ : ∃ zz9, zz9 = va_up (qI S) (ma 15) (upd ((qI S) (ma 15)) v25_14.toNatClampNeg r52_15) ∧ PX G A s.heap (ch S I61_23 J61_24 zz9 (qJ S)) H locs := ⟨_, rfl, hw⟩
    have c72 := eq72_25
    refine lv_aload_n hx hb dX11_readStream_73 rfl (lv_at hl 2 rfl) ?_
    refine gf_X11_74 (b := (ma 16)) X hw hM.1 (mr_16 hM) dX11_readStream_74 ?_
    refine lv_iload_n hx hb dX11_readStream_77 rfl (lv_at hl 3 rfl) ?_
    refine lv_iload hx hb dX11_readStream_78 (lv_at hl 0 rfl) ?_
    refine q_stI X hw (mk_16 hM) (vin (mn_16 hM) (by omega) (by omega)) dX11_readStream_80 (fun H locs hw => ?_)
    obtain ⟨q80_26, eq80_26, hw⟩ : ∃ zz9, zz9 = va_up q72_25 (ma 16) (upd (q72_25 (ma 16)) v25_14.toNatClampNeg r61_20) ∧ PX G A s.heap (ch S I61_23 J61_24 zz9 (qJ S)) H locs := ⟨_, rfl, hw⟩
    have c80 := eq80_26
    have HMB : GL V.2 tc tn pp 1 → MBk q80_26 ma bb (TC V.2 tc tn pp 1) := fun hG => by have y9 := GL_1.mpr hG; have e9 := hN1.symm.trans (hr1 (hst1.i.mpr y9.1.1.1.1)); have e8 := hN2.symm.trans (hr2 (hst2.i.mpr y9.1.1.1)); have z9 := hix; rw [e9, e8] at z9; have w9 := hlt; rw [e9, e8] at w9; have z := MBk.s hMB hM w9.1 w9.2 z9 c72 c80; rw [hr4 (hst4.i.mpr y9.1), hr5 (hst5.i.mpr y9)] at z; exact z
    exact hret _ _ _ _ _ ⟨_, _, _, rfl, (FrM.tr (FrM.tr hF h52_16.1) h61_21.1), (FrQ.ez eq80_26 (FrQ.up (j := 16) (by decide) (by decide) (FrQ.ez eq72_25 (FrQ.up (j := 15) (by decide) (by decide) FrQ.rf)))), ((KeepB.up (j := 15) hM (by decide) c72 (show 288 * bb ≤ v25_14.toNatClampNeg ∧ v25_14.toNatClampNeg < 288 * (bb + 1) by omega)).tr (KeepB.up (j := 16) hM (by decide) c80 (show 288 * bb ≤ v25_14.toNatClampNeg ∧ v25_14.toNatClampNeg < 288 * (bb + 1) by omega))), (by rw [row_keep hM c80 (i := 18) (by decide) (by decide) (by decide), row_keep hM c72 (i := 18) (by decide) (by decide) (by decide)]; exact hms), (hst5.cg GL_1), HMB⟩ hw dX11_readStream_81
  refine lv_aload_n hx hb dX11_readStream_27 rfl (lv_at hl 2 rfl) ?_
  refine lv_aload_n hx hb dX11_readStream_28 rfl (lv_at hl 2 rfl) ?_
  refine gf_X11_71 (b := (ma 15)) X hw hM.1 (mr_15 hM) dX11_readStream_29 ?_
  refine lv_iload_n hx hb dX11_readStream_32 rfl (lv_at hl 0 rfl) ?_
  refine q_ldI X hw (mk_15 hM) (vin (mn_15 hM) (by omega) (by omega)) dX11_readStream_33 ?_
  refine lv_topi (fun v33_27 e33_27 => ?_)
  have e33_27 : v33_27 = (qI S) (ma 15) v25_14.toNatClampNeg := e33_27
  have e33n := e33_27
  have hW : ((True ∧ gN tc tn pp 0 3) ∧ gN tc tn (tE tc tn pp) 0 71) → (v33_27.toInt = -100 ↔ ¬ told V.2 1 (nv tc tn pp 0).toNatClampNeg (nv tc tn pp 1).toNatClampNeg) := fun q9 => by have e9 := hN1.symm.trans (hr1 (hst1.i.mpr q9.1)); have e8 := hN2.symm.trans (hr2 (hst2.i.mpr q9)); have z9 := hix; rw [e9, e8] at z9; have y9 := hlt; rw [e9, e8] at y9; exact tw_s hMB hvk y9.1 y9.2 z9 e33n
  refine lv_bipush (v := -100) hx hb dX11_readStream_34 (by decide) ?_
  refine lv_icmp_eq (tgt := 43) hx hb dX11_readStream_36 (by decide) (fun c36_28 => ?_) (fun c36_28 => ?_)
  · have D36_28 := iEq c36_28 rfl t_m100
    refine lv_iconst (v := 0) hx hb dX11_readStream_43 (by decide) ?_
    refine k_Vv (n := 1) X hw (rcvk (ci := 11) X hw hM.1 (fun _ _ _ _ _ _ _ => ⟨_, rfl⟩) rfl) (c_v_X11_twice l G _ ma 0 hM) wd_r22_22 wd_r22_23 wd_r23_0 wd_r1_5 wd_r23_1 ⟨by decide, by decide, by decide +kernel⟩ rfl rfl ⟨Nat.le_of_ble_eq_true rfl, Nat.le_of_ble_eq_true rfl⟩ rfl rfl hl.1 (Nat.le_of_ble_eq_true rfl) dX11_readStream_44 ⟨Nat.le_of_ble_eq_true rfl, Nat.le_of_ble_eq_true rfl⟩ (fun S44_30 H locs h44_29 hw => ?_)
    have := t_0
    obtain ⟨I44_31, rfl, h44_29⟩ := h44_29
    have hw : PX G A s.heap (ch S I44_31 J22_13 (qI S) (qJ S)) H locs := hw
    have HTW := h44_29
    exact lp47 I44_31  (FrM.tr (FrM.tr (FrM.tr FrM.rf h3_2.1) h22_10.1) (h44_29.1.m)) ((hst2.tw HTW.1 HTW.2).cg (and_congr_right (fun q9 => by have z9 := hW q9; have := t_0; have := t_1; constructor; (intro _; exact z9.mp (by omega)); (intro z8; have := z9.mpr z8; omega)))) _ _ _ hw (lv_sub hl [2, 0] rfl)
  · skip
    refine lv_iconst (v := 1) hx hb dX11_readStream_39 (by decide) ?_
    refine lv_goto (tgt := 44) hx hb dX11_readStream_40 (by decide) ?_
    refine k_Vv (n := 1) X hw (rcvk (ci := 11) X hw hM.1 (fun _ _ _ _ _ _ _ => ⟨_, rfl⟩) rfl) (c_v_X11_twice l G _ ma 1 hM) wd_r22_22 wd_r22_23 wd_r23_0 wd_r1_5 wd_r23_1 ⟨by decide, by decide, by decide +kernel⟩ rfl rfl ⟨Nat.le_of_ble_eq_true rfl, Nat.le_of_ble_eq_true rfl⟩ rfl rfl hl.1 (Nat.le_of_ble_eq_true rfl) dX11_readStream_44 ⟨Nat.le_of_ble_eq_true rfl, Nat.le_of_ble_eq_true rfl⟩ (fun S44_33 H locs h44_32 hw => ?_)
    have := t_1
    obtain ⟨I44_34, rfl, h44_32⟩ := h44_32
    have hw : PX G A s.heap (ch S I44_34 J22_13 (qI S) (qJ S)) H locs := hw
    have HTW := h44_32
    exact lp47 I44_34  (FrM.tr (FrM.tr (FrM.tr FrM.rf h3_2.1) h22_10.1) (h44_32.1.m)) ((hst2.tw HTW.1 HTW.2).cg (and_congr_right (fun q9 => by have z9 := hW q9; have := t_0; have := t_1; constructor; (intro _; exact z9.mp (by omega)); (intro z8; have := z9.mpr z8; omega)))) _ _ _ hw (lv_sub hl [2, 0] rfl)
