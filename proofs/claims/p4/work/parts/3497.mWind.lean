
set_option maxHeartbeats 4000000 in
set_option maxRecDepth 100000 in
theorem c_v_X11_readWind (l : Launch) (G : Gh) (S : Pl) (ma : Nat → Nat) (tc : Nat → Int32) (tn : Nat) (pp bb : Nat) (V : SV) (hM : shMod S ma) (htc : tc = tx (qI S (ma 2)) tn) (hn : (pI S 103 (ma 0)).toInt = (tn : Int)) (hz : tn ≤ 1000) (hpp : pp ≤ tn) (hst : Mst (pI S) (pJ S) (ma 0) tc tn pp True) (hrb : (pI S 121 (ma 0)).toInt = (bb : Int)) (hb1 : bb ≤ 1) (hMB : MBk (qI S) ma bb V.2) (hvk : vok V) (hms : MsOK (qI S (ma 18))) : MtV l yX11_readWind cX11_readWind 4 none (Rm 4 0 0) G [.ref (ma 0)] S (fun (S' : Pl) => ∃ I' J' q', ch S I' J' q' (qJ S) = S' ∧ FrM (pI S) I' ∧ FrQ 13 ma (qI S) q' ∧ KeepB (qI S) q' ma bb ∧ MsOK (q' (ma 18)) ∧ Mst I' J' (ma 0) tc tn (pz tc tn pp 3) (GL V.2 tc tn pp 0) ∧ (GL V.2 tc tn pp 0 → MBk q' ma bb (TC V.2 tc tn pp 0))) 0 0 := by
  refine MtV.of (by decide) (Nat.le_of_ble_eq_true rfl) ?_
  intro p e s m args below meth c Q A X hw hin hret ls hl
  have hx := X.1.1
  have hb := X.1.2.1
  have hl : lv_has ls 4 [(0, .ref (ma 0))] := hl
  have hp1 : tE tc tn pp ≤ tn := (tE_le hpp).2
  have hp2 : tE tc tn (tE tc tn pp) ≤ tn := (tE_le hp1).2
  have hp3 : tE tc tn (tE tc tn (tE tc tn pp)) ≤ tn := (tE_le hp2).2
  refine lv_bipush (v := 72) hx hb dX11_readWind_0 (by decide) ?_
  refine lv_aload_n hx hb dX11_readWind_2 rfl (lv_at hl 0 rfl) ?_
  refine gf_X11_149 (v := (pI S) 121 (ma 0)) X hw hM.1 rfl dX11_readWind_3 ?_
  refine lv_imul hx hb dX11_readWind_6 ?_
  refine lv_topi (fun v6_1 e6_1 => ?_)
  have t6_1 := iMul e6_1 t_72 rfl (by omega) (by omega)
  have t6 := t6_1
  refine lv_aload_n hx hb dX11_readWind_7 rfl (lv_at hl 0 rfl) ?_
  refine lv_iconst (v := 0) hx hb dX11_readWind_8 (by decide) ?_
  refine lv_bipush (v := 71) hx hb dX11_readWind_9 (by decide) ?_
  refine k_Vi (n := 2) X hw (rcvk (ci := 11) X hw hM.1 (fun _ _ _ _ _ _ _ => ⟨_, rfl⟩) rfl) (c_v_X11_numeral l G _ ma tc tn pp _ 0 71 (0) hM htc (FrM.n FrM.rf hn) hz hpp hst (by decide)) wd_r22_17 wd_r22_18 wd_r22_19 wd_r1_5 wd_r22_20 ⟨by decide, by decide, by decide +kernel⟩ rfl rfl ⟨Nat.le_of_ble_eq_true rfl, Nat.le_of_ble_eq_true rfl⟩ rfl rfl hl.1 (Nat.le_of_ble_eq_true rfl) dX11_readWind_11 ⟨Nat.le_of_ble_eq_true rfl, Nat.le_of_ble_eq_true rfl⟩ (fun r11_2 S11_4 H locs h11_3 hw => ?_)
  have := t_0
  have := t_71
  obtain ⟨I11_5, J11_6, rfl, h11_3⟩ := h11_3
  have hw : PX G A s.heap (ch S I11_5 J11_6 (qI S) (qJ S)) H locs := hw
  have hst1 := h11_3.2.1
  have hr1 := h11_3.2.2.1
  have hbd1 := h11_3.2.2.2
  obtain ⟨N1, hN1⟩ : ∃ z : Int32, r11_2 = z := ⟨_, rfl⟩
  have hNt1 := congrArg Int32.toInt hN1
  have h11_3b := congrArg Int32.toInt (FrM.rb (FrM.tr FrM.rf h11_3.1) (ma 0))
  refine lv_iadd hx hb dX11_readWind_14 ?_
  refine lv_topi (fun v14_7 e14_7 => ?_)
  have t14_7 := iAdd e14_7 rfl rfl (by omega) (by omega)
  have t14 := t14_7
  refine lv_istore_n (lv' := [(1, .int v14_7), (0, .ref (ma 0))]) hx hb dX11_readWind_15 rfl hl (by decide) rfl (fun ls hl => ?_)
  have hcl1 := cl_toInt (x := N1) (by omega)
  have hcl2 := cl_toInt (x := v14_7) (by omega)
  have hix : v14_7.toNatClampNeg = 72 * bb + N1.toNatClampNeg := by omega
  have hlt : N1.toNatClampNeg < 72 := by omega
  have lp36 : ∀ (Ic36 : Nat → Nat → Int32), (FrM (pI S) Ic36) → (Mst Ic36 J11_6 (ma 0) tc tn (tE tc tn pp) ((True ∧ gN tc tn pp 0 71) ∧ ¬ told V.2 0 (nv tc tn pp 0).toNatClampNeg (nv tc tn pp 1).toNatClampNeg)) → ∀ (H : Heap) (locs : List Loc) (ls : Array Slot), PX G A s.heap (ch S Ic36 J11_6 (qI S) (qJ S)) H locs → lv_has ls 4 [(0, .ref (ma 0)), (1, .int v14_7)] → W p l e (Rm 4 0 0) s m args below meth c H locs 0 0 Q (F0 m 36 ls []) := by
    intro Ic36 hF hst2 H locs ls hw hl
    have hbb9 := congrArg Int32.toInt (FrM.rb hF (ma 0))
    refine lv_aload_n hx hb dX11_readWind_36 rfl (lv_at hl 0 rfl) ?_
    refine lv_bipush (v := -30) hx hb dX11_readWind_37 (by decide) ?_
    refine lv_bipush (v := 30) hx hb dX11_readWind_39 (by decide) ?_
    refine k_Vi (n := 2) X hw (rcvk (ci := 11) X hw hM.1 (fun _ _ _ _ _ _ _ => ⟨_, rfl⟩) rfl) (c_v_X11_numeral l G _ ma tc tn (tE tc tn pp) _ (-30) 30 (-30) hM htc (FrM.n hF hn) hz hp1 hst2 (by decide)) wd_r22_17 wd_r22_18 wd_r22_19 wd_r1_5 wd_r22_20 ⟨by decide, by decide, by decide +kernel⟩ rfl rfl ⟨Nat.le_of_ble_eq_true rfl, Nat.le_of_ble_eq_true rfl⟩ rfl rfl hl.1 (Nat.le_of_ble_eq_true rfl) dX11_readWind_41 ⟨Nat.le_of_ble_eq_true rfl, Nat.le_of_ble_eq_true rfl⟩ (fun r41_8 S41_10 H locs h41_9 hw => ?_)
    have := t_m30
    have := t_30
    obtain ⟨I41_11, J41_12, rfl, h41_9⟩ := h41_9
    have hw : PX G A s.heap (ch S I41_11 J41_12 (qI S) (qJ S)) H locs := hw
    have hst3 := h41_9.2.1
    have hr3 := h41_9.2.2.1
    have hbd3 := h41_9.2.2.2
    obtain ⟨N3, hN3⟩ : ∃ z : Int32, r41_8 = z := ⟨_, rfl⟩
    have hNt3 := congrArg Int32.toInt hN3
    have h41_9b := congrArg Int32.toInt (FrM.rb (FrM.tr hF h41_9.1) (ma 0))
    refine lv_istore_n (lv' := [(2, .int r41_8), (0, .ref (ma 0)), (1, .int v14_7)]) hx hb dX11_readWind_44 rfl hl (by decide) rfl (fun ls hl => ?_)
    refine lv_aload_n hx hb dX11_readWind_45 rfl (lv_at hl 1 rfl) ?_
    refine lv_bipush (v := -30) hx hb dX11_readWind_46 (by decide) ?_
    refine lv_bipush (v := 30) hx hb dX11_readWind_48 (by decide) ?_
    refine k_Vi (n := 2) X hw (rcvk (ci := 11) X hw hM.1 (fun _ _ _ _ _ _ _ => ⟨_, rfl⟩) rfl) (c_v_X11_numeral l G _ ma tc tn (tE tc tn (tE tc tn pp)) _ (-30) 30 (-30) hM htc (FrM.n (FrM.tr hF h41_9.1) hn) hz hp2 hst3 (by decide)) wd_r22_17 wd_r22_18 wd_r22_19 wd_r1_5 wd_r22_20 ⟨by decide, by decide, by decide +kernel⟩ rfl rfl ⟨Nat.le_of_ble_eq_true rfl, Nat.le_of_ble_eq_true rfl⟩ rfl rfl hl.1 (Nat.le_of_ble_eq_true rfl) dX11_readWind_50 ⟨Nat.le_of_ble_eq_true rfl, Nat.le_of_ble_eq_true rfl⟩ (fun r50_13 S50_15 H locs h50_14 hw => ?_)
    have := t_m30
    have := t_30
    obtain ⟨I50_16, J50_17, rfl, h50_14⟩ := h50_14
    have hw : PX G A s.heap (ch S I50_16 J50_17 (qI S) (qJ S)) H locs := hw
    have hst4 := h50_14.2.1
    have hr4 := h50_14.2.2.1
    have hbd4 := h50_14.2.2.2
    obtain ⟨N4, hN4⟩ : ∃ z : Int32, r50_13 = z := ⟨_, rfl⟩
    have hNt4 := congrArg Int32.toInt hN4
    have h50_14b := congrArg Int32.toInt (FrM.rb (FrM.tr (FrM.tr hF h41_9.1) h50_14.1) (ma 0))
    refine lv_istore_n (lv' := [(3, .int r50_13), (2, .int r41_8), (0, .ref (ma 0)), (1, .int v14_7)]) hx hb dX11_readWind_53 rfl hl (by decide) rfl (fun ls hl => ?_)
    refine lv_aload_n hx hb dX11_readWind_54 rfl (lv_at hl 2 rfl) ?_
    refine gf_X11_65 (b := (ma 13)) X hw hM.1 (mr_13 hM) dX11_readWind_55 ?_
    refine lv_iload_n hx hb dX11_readWind_58 rfl (lv_at hl 3 rfl) ?_
    refine lv_iload_n hx hb dX11_readWind_59 rfl (lv_at hl 1 rfl) ?_
    refine q_stI X hw (mk_13 hM) (vin (mn_13 hM) (by omega) (by omega)) dX11_readWind_60 (fun H locs hw => ?_)
    obtain ⟨q60_18, eq60_18, hw⟩ : ∃ zz9, zz9 = va_up (qI S) (ma 13) (upd ((qI S) (ma 13)) v14_7.toNatClampNeg r41_8) ∧ PX G A s.heap (ch S I50_16 J50_17 zz9 (qJ S)) H locs := ⟨_, rfl, hw⟩
    have c60 := eq60_18
    refine lv_aload_n hx hb dX11_readWind_61 rfl (lv_at hl 2 rfl) ?_
    refine gf_X11_68 (b := (ma 14)) X hw hM.1 (mr_14 hM) dX11_readWind_62 ?_
    refine lv_iload_n hx hb dX11_readWind_65 rfl (lv_at hl 3 rfl) ?_
    refine lv_iload_n hx hb dX11_readWind_66 rfl (lv_at hl 0 rfl) ?_
    refine q_stI X hw (mk_14 hM) (vin (mn_14 hM) (by omega) (by omega)) dX11_readWind_67 (fun H locs hw => ?_)
    obtain ⟨q67_19, eq67_19, hw⟩ : ∃ zz9, zz9 = va_up q60_18 (ma 14) (upd (q60_18 (ma 14)) v14_7.toNatClampNeg r50_13) ∧ PX G A s.heap (ch S I50_16 J50_17 zz9 (qJ S)) H locs := ⟨_, rfl, hw⟩
    have c67 := eq67_19
    have HMB : GL V.2 tc tn pp 0 → MBk q67_19 ma bb (TC V.2 tc tn pp 0) := fun hG => by have y9 := GL_0.mpr hG; have e9 := hN1.symm.trans (hr1 (hst1.i.mpr y9.1.1.1)); have z9 := hix; rw [e9] at z9; have w9 := hlt; rw [e9] at w9; have z := MBk.w hMB hM w9 z9 c60 c67; rw [hr3 (hst3.i.mpr y9.1), hr4 (hst4.i.mpr y9)] at z; exact z
    exact hret _ _ _ _ _ ⟨_, _, _, rfl, (FrM.tr (FrM.tr hF h41_9.1) h50_14.1), (FrQ.ez eq67_19 (FrQ.up (j := 14) (by decide) (by decide) (FrQ.ez eq60_18 (FrQ.up (j := 13) (by decide) (by decide) FrQ.rf)))), ((KeepB.up (j := 13) hM (by decide) c60 (show 72 * bb ≤ v14_7.toNatClampNeg ∧ v14_7.toNatClampNeg < 72 * (bb + 1) by omega)).tr (KeepB.up (j := 14) hM (by decide) c67 (show 72 * bb ≤ v14_7.toNatClampNeg ∧ v14_7.toNatClampNeg < 72 * (bb + 1) by omega))), (by rw [row_keep hM c67 (i := 18) (by decide) (by decide) (by decide), row_keep hM c60 (i := 18) (by decide) (by decide) (by decide)]; exact hms), (hst4.cg GL_0), HMB⟩ hw dX11_readWind_68
  refine lv_aload_n hx hb dX11_readWind_16 rfl (lv_at hl 1 rfl) ?_
  refine lv_aload_n hx hb dX11_readWind_17 rfl (lv_at hl 1 rfl) ?_
  refine gf_X11_65 (b := (ma 13)) X hw hM.1 (mr_13 hM) dX11_readWind_18 ?_
  refine lv_iload_n hx hb dX11_readWind_21 rfl (lv_at hl 0 rfl) ?_
  refine q_ldI X hw (mk_13 hM) (vin (mn_13 hM) (by omega) (by omega)) dX11_readWind_22 ?_
  refine lv_topi (fun v22_20 e22_20 => ?_)
  have e22_20 : v22_20 = (qI S) (ma 13) v14_7.toNatClampNeg := e22_20
  have e22n := e22_20
  have hW : (True ∧ gN tc tn pp 0 71) → (v22_20.toInt = -100 ↔ ¬ told V.2 0 (nv tc tn pp 0).toNatClampNeg (nv tc tn pp 1).toNatClampNeg) := fun q9 => by have e9 := hN1.symm.trans (hr1 (hst1.i.mpr q9)); have z9 := hix; rw [e9] at z9; have y9 := hlt; rw [e9] at y9; exact tw_w hMB hvk y9 z9 e22n
  refine lv_bipush (v := -100) hx hb dX11_readWind_23 (by decide) ?_
  refine lv_icmp_eq (tgt := 32) hx hb dX11_readWind_25 (by decide) (fun c25_21 => ?_) (fun c25_21 => ?_)
  · have D25_21 := iEq c25_21 rfl t_m100
    refine lv_iconst (v := 0) hx hb dX11_readWind_32 (by decide) ?_
    refine k_Vv (n := 1) X hw (rcvk (ci := 11) X hw hM.1 (fun _ _ _ _ _ _ _ => ⟨_, rfl⟩) rfl) (c_v_X11_twice l G _ ma 0 hM) wd_r22_22 wd_r22_23 wd_r23_0 wd_r1_5 wd_r23_1 ⟨by decide, by decide, by decide +kernel⟩ rfl rfl ⟨Nat.le_of_ble_eq_true rfl, Nat.le_of_ble_eq_true rfl⟩ rfl rfl hl.1 (Nat.le_of_ble_eq_true rfl) dX11_readWind_33 ⟨Nat.le_of_ble_eq_true rfl, Nat.le_of_ble_eq_true rfl⟩ (fun S33_23 H locs h33_22 hw => ?_)
    have := t_0
    obtain ⟨I33_24, rfl, h33_22⟩ := h33_22
    have hw : PX G A s.heap (ch S I33_24 J11_6 (qI S) (qJ S)) H locs := hw
    have HTW := h33_22
    exact lp36 I33_24  (FrM.tr (FrM.tr FrM.rf h11_3.1) (h33_22.1.m)) ((hst1.tw HTW.1 HTW.2).cg (and_congr_right (fun q9 => by have z9 := hW q9; have := t_0; have := t_1; constructor; (intro _; exact z9.mp (by omega)); (intro z8; have := z9.mpr z8; omega)))) _ _ _ hw (lv_sub hl [1, 0] rfl)
  · skip
    refine lv_iconst (v := 1) hx hb dX11_readWind_28 (by decide) ?_
    refine lv_goto (tgt := 33) hx hb dX11_readWind_29 (by decide) ?_
    refine k_Vv (n := 1) X hw (rcvk (ci := 11) X hw hM.1 (fun _ _ _ _ _ _ _ => ⟨_, rfl⟩) rfl) (c_v_X11_twice l G _ ma 1 hM) wd_r22_22 wd_r22_23 wd_r23_0 wd_r1_5 wd_r23_1 ⟨by decide, by decide, by decide +kernel⟩ rfl rfl ⟨Nat.le_of_ble_eq_true rfl, Nat.le_of_ble_eq_true rfl⟩ rfl rfl hl.1 (Nat.le_of_ble_eq_true rfl) dX11_readWind_33 ⟨Nat.le_of_ble_eq_true rfl, Nat.le_of_ble_eq_true rfl⟩ (fun S33_26 H locs h33_25 hw => ?_)
    have := t_1
    obtain ⟨I33_27, rfl, h33_25⟩ := h33_25
    have hw : PX G A s.heap (ch S I33_27 J11_6 (qI S) (qJ S)) H locs := hw
    have HTW := h33_25
    exact lp36 I33_27  (FrM.tr (FrM.tr FrM.rf h11_3.1) (h33_25.1.m)) ((hst1.tw HTW.1 HTW.2).cg (and_congr_right (fun q9 => by have z9 := hW q9; have := t_0; have := t_1; constructor; (intro _; exact z9.mp (by omega)); (intro z8; have := z9.mpr z8; omega)))) _ _ _ hw (lv_sub hl [1, 0] rfl)
