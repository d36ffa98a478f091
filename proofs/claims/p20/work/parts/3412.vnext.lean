
set_option maxHeartbeats 4000000 in
set_option maxRecDepth 100000 in
theorem c_v_X9_readNext (l : Launch) (G : Gh) (S : Pl) (tk tp tb : Nat) (tc : Nat → Int32) (tn : Nat) (hK : shTok S tk tp tb) (htc : tc = tx (qI S tb) tn) (hn : (pI S 61 tp).toInt = (tn : Int)) (hz : tn ≤ 1000) (hbh : 0 ≤ (pI S 68 tk).toInt ∧ (pI S 68 tk).toInt ≤ (tn : Int)) : MtV l yX9_readNext cX9_readNext 2 none (Rm 2 0 0) G [.ref tk] S (fun (S' : Pl) => ∃ I', ch S I' (pJ S) (qI S) (qJ S) = S' ∧ FrT (pI S) I' ∧ tokAt I' tk tc tn (pI S 68 tk).toNatClampNeg) 0 0 := by
  refine MtV.of (by decide) (Nat.le_of_ble_eq_true rfl) ?_
  intro p e s m args below meth c Q A X hw hin hret ls hl
  have hx := X.1.1
  have hb := X.1.2.1
  have hl : lv_has ls 2 [(0, .ref tk)] := hl
  have hcl := cl_toInt (x := pI S 68 tk) (by omega)
  have hS2 := tS_le (c := tc) (n := tn) (p := (pI S 68 tk).toNatClampNeg) (by omega)
  have htn := tx_nn (row := qI S tb) (n := tn) (i := (tS tc tn (pI S 68 tk).toNatClampNeg))
  rw [← htc] at htn
  refine lv_aload_n hx hb dX9_readNext_0 rfl (lv_at hl 0 rfl) ?_
  refine k_Vv (n := 0) X hw (rcvk (ci := 9) X hw hK.1 (fun _ _ _ _ _ _ _ => ⟨_, rfl⟩) rfl) (c_v_X9_skipBlanks l G _ tk tp tb tc tn hK htc hn hz hbh) wd_r9_10 wd_r9_11 wd_r9_12 wd_r3_2 wd_r9_13 ⟨by decide, by decide, by decide +kernel⟩ rfl rfl ⟨Nat.le_of_ble_eq_true rfl, Nat.le_of_ble_eq_true rfl⟩ rfl rfl hl.1 (Nat.le_of_ble_eq_true rfl) dX9_readNext_1 ⟨Nat.le_of_ble_eq_true rfl, Nat.le_of_ble_eq_true rfl⟩ (fun S1_2 H locs h1_1 hw => ?_)
  obtain ⟨I1_3, rfl, h1_1⟩ := h1_1
  have hw : PX G A s.heap (ch S I1_3 (pJ S) (qI S) (qJ S)) H locs := hw
  have hS1 := h1_1.2
  obtain ⟨B1, hB1⟩ : ∃ z, z = I1_3 68 tk := ⟨_, rfl⟩
  have hB2 : B1.toNatClampNeg = (tS tc tn (pI S 68 tk).toNatClampNeg) := by have := cl_toInt (x := B1) (by rw [hB1]; omega); rw [← hB1] at hS1; omega
  refine lv_aload_n hx hb dX9_readNext_4 rfl (lv_at hl 0 rfl) ?_
  refine lv_aload_n hx hb dX9_readNext_5 rfl (lv_at hl 0 rfl) ?_
  refine gf_X9_23 (v := I1_3 68 tk) X hw hK.1 rfl dX9_readNext_6 ?_
  refine pf_X9_17 X hw hK.1 dX9_readNext_9 (fun H locs hw => ?_)
  have hw : PX G A s.heap (ch S (up2 I1_3 67 tk (I1_3 68 tk)) (pJ S) (qI S) (qJ S)) H locs := hw
  refine lv_aload_n hx hb dX9_readNext_12 rfl (lv_at hl 0 rfl) ?_
  refine gf_X9_7 (b := tp) X hw hK.1 hK.2.1 dX9_readNext_13 ?_
  refine lv_aload_n hx hb dX9_readNext_16 rfl (lv_at hl 0 rfl) ?_
  refine gf_X9_17 (v := I1_3 68 tk) X hw hK.1 (show up2 I1_3 67 tk (I1_3 68 tk) 67 tk = (I1_3 68 tk) from up2_s) dX9_readNext_17 ?_
  refine k_Vi (n := 1) X hw (rcvk (ci := 8) X hw hK.2.2.1 (fun _ _ _ _ _ _ _ => ⟨_, rfl⟩) rfl) (c_v_X8_byteAt l G _ tp tb tc tn (I1_3 68 tk) hK.2.2 htc (FrT.n (FrT.up (f := 67) (by decide) (FrT.tr FrT.rf (h1_1.1.t))) hn) hz) wd_r9_15 wd_r9_16 wd_r9_17 wd_r1_14 wd_r9_18 ⟨by decide, by decide, by decide +kernel⟩ rfl rfl ⟨Nat.le_of_ble_eq_true rfl, Nat.le_of_ble_eq_true rfl⟩ rfl rfl hl.1 (Nat.le_of_ble_eq_true rfl) dX9_readNext_20 ⟨Nat.le_of_ble_eq_true rfl, Nat.le_of_ble_eq_true rfl⟩ (fun r20_4 S20_6 H locs h20_5 hw => ?_)
  obtain ⟨rfl, h20_5⟩ := h20_5
  have hbT := byA.at h20_5 (e := (tS tc tn (pI S 68 tk).toNatClampNeg)) (show (I1_3 68 tk : Int32).toInt = _ from hS1)
  refine lv_istore_n (lv' := [(1, .int r20_4), (0, .ref tk)]) hx hb dX9_readNext_23 rfl hl (by decide) rfl (fun ls hl => ?_)
  refine lv_iload_n hx hb dX9_readNext_24 rfl (lv_at hl 0 rfl) ?_
  refine lv_iconst (v := -1) hx hb dX9_readNext_25 (by decide) ?_
  refine lv_icmp_ne (tgt := 37) hx hb dX9_readNext_26 (by decide) (fun c26_7 => ?_) (fun c26_7 => ?_)
  · have D26_7 := iNe c26_7 rfl t_m1
    refine lv_iload_n hx hb dX9_readNext_37 rfl (lv_at hl 0 rfl) ?_
    refine k_Si (n := 1) X hw (c_X9_isLetter l G _ r20_4) wd_r9_22 wd_r9_23 wd_r3_2 wd_r10_0 ⟨by decide, by decide, by decide +kernel⟩ rfl rfl ⟨Nat.le_of_ble_eq_true rfl, Nat.le_of_ble_eq_true rfl⟩ rfl rfl hl.1 (Nat.le_of_ble_eq_true rfl) dX9_readNext_38 ⟨Nat.le_of_ble_eq_true rfl, Nat.le_of_ble_eq_true rfl⟩ (fun r38_8 S38_10 H locs h38_9 hw => ?_)
    rcases h38_9 with ⟨rfl, rfl, h38_9⟩ | ⟨rfl, rfl, h38_9⟩
    · have h38_9 := h38_9
      refine lv_if_eq (tgt := 51) hx hb dX9_readNext_41 (by decide) (fun c41_11 => absurd c41_11 (by decide)) (fun c41_11 => ?_)
      refine lv_aload_n hx hb dX9_readNext_44 rfl (lv_at hl 1 rfl) ?_
      refine k_Vv (n := 0) X hw (rcvk (ci := 9) X hw hK.1 (fun _ _ _ _ _ _ _ => ⟨_, rfl⟩) rfl) (c_v_X9_readWord l G _ tk tp tb tc tn hK htc (FrT.n (FrT.up (f := 67) (by decide) (FrT.tr FrT.rf (h1_1.1.t))) hn) hz (show 0 ≤ (I1_3 68 tk : Int32).toInt ∧ (I1_3 68 tk : Int32).toInt ≤ (tn : Int) by omega) ⟨congrArg Int32.toInt (show (up2 I1_3 67 tk (I1_3 68 tk)) 67 tk = (I1_3 68 tk : Int32) from (show up2 I1_3 67 tk (I1_3 68 tk) 67 tk = (I1_3 68 tk) from up2_s)), (show (I1_3 68 tk : Int32).toInt < (tn : Int) by omega)⟩) wd_r10_1 wd_r10_2 wd_r10_3 wd_r3_2 wd_r10_4 ⟨by decide, by decide, by decide +kernel⟩ rfl rfl ⟨Nat.le_of_ble_eq_true rfl, Nat.le_of_ble_eq_true rfl⟩ rfl rfl hl.1 (Nat.le_of_ble_eq_true rfl) dX9_readNext_45 ⟨Nat.le_of_ble_eq_true rfl, Nat.le_of_ble_eq_true rfl⟩ (fun S45_13 H locs h45_12 hw => ?_)
      obtain ⟨I45_14, rfl, h45_12⟩ := h45_12
      have hw : PX G A s.heap (ch S I45_14 (pJ S) (qI S) (qJ S)) H locs := hw
      have hWD : (I45_14 68 tk).toInt = (run lB tc tn B1.toNatClampNeg : Nat) ∧ (I45_14 66 tk).toInt = (if run lB tc tn B1.toNatClampNeg - B1.toNatClampNeg ≤ 8 then 2 else 0) := by rw [hB1]; exact h45_12.2
      rw [hB2] at hWD
      have h67 : (I45_14 67 tk).toInt = ((tS tc tn (pI S 68 tk).toNatClampNeg) : Nat) := by rw [h45_12.1 67 (by decide)]; exact (congrArg Int32.toInt up2_s).trans hS1
      have hU := u_word (c := tc) (n := tn) (s := (tS tc tn (pI S 68 tk).toNatClampNeg)) (by omega) (lB_i.mpr (by omega))
      have HFIN : tokAt I45_14 tk tc tn (pI S 68 tk).toNatClampNeg := tok_fin (s := (tS tc tn (pI S 68 tk).toNatClampNeg)) rfl h67 (by rw [hU.1]; exact hWD.1) (by rw [hU.2]; exact hWD.2) (by rw [hU.2]; intro q; split at q <;> exact absurd q (by decide))
      refine lv_goto (tgt := 96) hx hb dX9_readNext_48 (by decide) ?_
      have HFIN : tokAt I45_14 tk tc tn (pI S 68 tk).toNatClampNeg := by first | exact HFIN | exact (tok_fin (s := (tS tc tn (pI S 68 tk).toNatClampNeg)) rfl (by rw [show I45_14 67 tk = (I45_14 67 tk : Int32) from rfl]; exact hS1) (by rw [(u_oth (c := tc) (n := tn) (s := (tS tc tn (pI S 68 tk).toNatClampNeg)) (by omega) (lB_f (by omega)) (fun q => by rcases q with q | q; (have := dB_i.mp q; omega); omega)).1, show I45_14 68 tk = (I45_14 68 tk : Int32) from rfl]; omega) (by rw [(u_oth (c := tc) (n := tn) (s := (tS tc tn (pI S 68 tk).toNatClampNeg)) (by omega) (lB_f (by omega)) (fun q => by rcases q with q | q; (have := dB_i.mp q; omega); omega)).2, show I45_14 66 tk = (I45_14 66 tk : Int32) from rfl]; first | (rw [if_pos (by omega)]; decide) | (rw [if_neg (by omega)]; decide)) (fun q => by rw [(u_oth (c := tc) (n := tn) (s := (tS tc tn (pI S 68 tk).toNatClampNeg)) (by omega) (lB_f (by omega)) (fun q => by rcases q with q | q; (have := dB_i.mp q; omega); omega)).2] at q; split at q <;> exact absurd q (by decide)))
      exact hret _ _ _ _ _ ⟨_, rfl, (FrT.tr (FrT.up (f := 67) (by decide) (FrT.tr FrT.rf (h1_1.1.t))) (h45_12.1.t)), HFIN⟩ hw dX9_readNext_96
    · have h38_9 := h38_9
      refine lv_if_eq (tgt := 51) hx hb dX9_readNext_41 (by decide) (fun c41_15 => ?_) (fun c41_15 => absurd c41_15 (by decide))
      refine lv_iload_n hx hb dX9_readNext_51 rfl (lv_at hl 0 rfl) ?_
      refine k_Si (n := 1) X hw (c_X9_isDigit l G _ r20_4) wd_r10_5 wd_r10_6 wd_r3_2 wd_r10_7 ⟨by decide, by decide, by decide +kernel⟩ rfl rfl ⟨Nat.le_of_ble_eq_true rfl, Nat.le_of_ble_eq_true rfl⟩ rfl rfl hl.1 (Nat.le_of_ble_eq_true rfl) dX9_readNext_52 ⟨Nat.le_of_ble_eq_true rfl, Nat.le_of_ble_eq_true rfl⟩ (fun r52_16 S52_18 H locs h52_17 hw => ?_)
      rcases h52_17 with ⟨rfl, rfl, h52_17⟩ | ⟨rfl, rfl, h52_17⟩
      · have h52_17 := h52_17
        refine lv_if_ne (tgt := 64) hx hb dX9_readNext_55 (by decide) (fun c55_19 => ?_) (fun c55_19 => absurd c55_19 (by decide))
        have hnmS : dB (tc (tS tc tn (pI S 68 tk).toNatClampNeg)) = true ∨ (tc (tS tc tn (pI S 68 tk).toNatClampNeg)).toInt = 45 := by first | exact Or.inl (dB_i.mpr (by omega)) | exact Or.inr (by omega)
        have hnmB : dB (tc ((I1_3 68 tk : Int32)).toNatClampNeg) = true ∨ (tc ((I1_3 68 tk : Int32)).toNatClampNeg).toInt = 45 := by rw [← hB1, hB2]; exact hnmS
        refine lv_aload_n hx hb dX9_readNext_64 rfl (lv_at hl 1 rfl) ?_
        refine k_Vv (n := 0) X hw (rcvk (ci := 9) X hw hK.1 (fun _ _ _ _ _ _ _ => ⟨_, rfl⟩) rfl) (c_v_X9_readNumber l G _ tk tp tb tc tn hK htc (FrT.n (FrT.up (f := 67) (by decide) (FrT.tr FrT.rf (h1_1.1.t))) hn) hz (show 0 ≤ (I1_3 68 tk : Int32).toInt ∧ (I1_3 68 tk : Int32).toInt ≤ (tn : Int) by omega) ⟨congrArg Int32.toInt (show (up2 I1_3 67 tk (I1_3 68 tk)) 67 tk = (I1_3 68 tk : Int32) from (show up2 I1_3 67 tk (I1_3 68 tk) 67 tk = (I1_3 68 tk) from up2_s)), (show (I1_3 68 tk : Int32).toInt < (tn : Int) by omega)⟩ hnmB) wd_r10_8 wd_r10_9 wd_r10_10 wd_r3_2 wd_r10_11 ⟨by decide, by decide, by decide +kernel⟩ rfl rfl ⟨Nat.le_of_ble_eq_true rfl, Nat.le_of_ble_eq_true rfl⟩ rfl rfl hl.1 (Nat.le_of_ble_eq_true rfl) dX9_readNext_65 ⟨Nat.le_of_ble_eq_true rfl, Nat.le_of_ble_eq_true rfl⟩ (fun S65_21 H locs h65_20 hw => ?_)
        obtain ⟨I65_22, rfl, h65_20⟩ := h65_20
        have hw : PX G A s.heap (ch S I65_22 (pJ S) (qI S) (qJ S)) H locs := hw
        have hND : (I65_22 68 tk).toInt = (run dB tc tn (tF tc B1.toNatClampNeg) : Nat) ∧ (I65_22 66 tk).toInt = (if (1 ≤ uG tc tn B1.toNatClampNeg ∧ uG tc tn B1.toNatClampNeg ≤ 3) ∧ lB (tc (run dB tc tn (tF tc B1.toNatClampNeg))) = false then 3 else 0) ∧ I65_22 69 tk = uV tc tn B1.toNatClampNeg := by rw [hB1]; exact h65_20.2
        rw [hB2] at hND
        have h67 : (I65_22 67 tk).toInt = ((tS tc tn (pI S 68 tk).toNatClampNeg) : Nat) := by rw [h65_20.1 67 (by decide)]; exact (congrArg Int32.toInt up2_s).trans hS1
        have hU := u_num (c := tc) (n := tn) (s := (tS tc tn (pI S 68 tk).toNatClampNeg)) (by omega) (lB_f (by omega)) hnmS
        have HFIN : tokAt I65_22 tk tc tn (pI S 68 tk).toNatClampNeg := tok_fin (s := (tS tc tn (pI S 68 tk).toNatClampNeg)) rfl h67 (by rw [hU.1]; exact hND.1) (by rw [hU.2]; exact hND.2.1) (fun _ => hND.2.2)
        refine lv_goto (tgt := 96) hx hb dX9_readNext_68 (by decide) ?_
        have HFIN : tokAt I65_22 tk tc tn (pI S 68 tk).toNatClampNeg := by first | exact HFIN | exact (tok_fin (s := (tS tc tn (pI S 68 tk).toNatClampNeg)) rfl (by rw [show I65_22 67 tk = (I65_22 67 tk : Int32) from rfl]; exact hS1) (by rw [(u_oth (c := tc) (n := tn) (s := (tS tc tn (pI S 68 tk).toNatClampNeg)) (by omega) (lB_f (by omega)) (fun q => by rcases q with q | q; (have := dB_i.mp q; omega); omega)).1, show I65_22 68 tk = (I65_22 68 tk : Int32) from rfl]; omega) (by rw [(u_oth (c := tc) (n := tn) (s := (tS tc tn (pI S 68 tk).toNatClampNeg)) (by omega) (lB_f (by omega)) (fun q => by rcases q with q | q; (have := dB_i.mp q; omega); omega)).2, show I65_22 66 tk = (I65_22 66 tk : Int32) from rfl]; first | (rw [if_pos (by omega)]; decide) | (rw [if_neg (by omega)]; decide)) (fun q => by rw [(u_oth (c := tc) (n := tn) (s := (tS tc tn (pI S 68 tk).toNatClampNeg)) (by omega) (lB_f (by omega)) (fun q => by rcases q with q | q; (have := dB_i.mp q; omega); omega)).2] at q; split at q <;> exact absurd q (by decide)))
        exact hret _ _ _ _ _ ⟨_, rfl, (FrT.tr (FrT.up (f := 67) (by decide) (FrT.tr FrT.rf (h1_1.1.t))) (h65_20.1.t)), HFIN⟩ hw dX9_readNext_96
      · have h52_17 := h52_17
        refine lv_if_ne (tgt := 64) hx hb dX9_readNext_55 (by decide) (fun c55_23 => absurd c55_23 (by decide)) (fun c55_23 => ?_)
        refine lv_iload_n hx hb dX9_readNext_58 rfl (lv_at hl 0 rfl) ?_
        refine lv_bipush (v := 45) hx hb dX9_readNext_59 (by decide) ?_
        refine lv_icmp_ne (tgt := 71) hx hb dX9_readNext_61 (by decide) (fun c61_24 => ?_) (fun c61_24 => ?_)
        · have D61_24 := iNe c61_24 rfl t_45
          refine lv_aload_n hx hb dX9_readNext_71 rfl (lv_at hl 1 rfl) ?_
          refine lv_iload_n hx hb dX9_readNext_72 rfl (lv_at hl 0 rfl) ?_
          refine lv_bipush (v := 59) hx hb dX9_readNext_73 (by decide) ?_
          refine lv_icmp_ne (tgt := 82) hx hb dX9_readNext_75 (by decide) (fun c75_25 => ?_) (fun c75_25 => ?_)
          · have D75_25 := iNe c75_25 rfl t_59
            refine lv_iconst (v := 0) hx hb dX9_readNext_82 (by decide) ?_
            refine pf_X9_13 X hw hK.1 dX9_readNext_83 (fun H locs hw => ?_)
            have hw : PX G A s.heap (ch S (up2 (up2 I1_3 67 tk (I1_3 68 tk)) 66 tk 0) (pJ S) (qI S) (qJ S)) H locs := hw
            refine lv_aload_n hx hb dX9_readNext_86 rfl (lv_at hl 1 rfl) ?_
            refine lv_dup hx hb dX9_readNext_87 rfl ?_
            refine gf_X9_23 (v := I1_3 68 tk) X hw hK.1 rfl dX9_readNext_88 ?_
            refine lv_iconst (v := 1) hx hb dX9_readNext_91 (by decide) ?_
            refine lv_iadd hx hb dX9_readNext_92 ?_
            refine lv_topi (fun v92_26 e92_26 => ?_)
            have t92_26 := iAdd e92_26 rfl t_1 (by omega) (by omega)
            have t92 := t92_26
            refine pf_X9_23 X hw hK.1 dX9_readNext_93 (fun H locs hw => ?_)
            have hw : PX G A s.heap (ch S (up2 (up2 (up2 I1_3 67 tk (I1_3 68 tk)) 66 tk 0) 68 tk v92_26) (pJ S) (qI S) (qJ S)) H locs := hw
            have HFIN : tokAt (up2 (up2 (up2 I1_3 67 tk (I1_3 68 tk)) 66 tk 0) 68 tk v92_26) tk tc tn (pI S 68 tk).toNatClampNeg := by first | exact HFIN | exact (tok_fin (s := (tS tc tn (pI S 68 tk).toNatClampNeg)) rfl (by rw [show (up2 (up2 (up2 I1_3 67 tk (I1_3 68 tk)) 66 tk 0) 68 tk v92_26) 67 tk = (I1_3 68 tk : Int32) from (show up2 I1_3 67 tk (I1_3 68 tk) 67 tk = (I1_3 68 tk) from up2_s)]; exact hS1) (by rw [(u_oth (c := tc) (n := tn) (s := (tS tc tn (pI S 68 tk).toNatClampNeg)) (by omega) (lB_f (by omega)) (fun q => by rcases q with q | q; (have := dB_i.mp q; omega); omega)).1, show (up2 (up2 (up2 I1_3 67 tk (I1_3 68 tk)) 66 tk 0) 68 tk v92_26) 68 tk = (v92_26 : Int32) from (show up2 (up2 (up2 I1_3 67 tk (I1_3 68 tk)) 66 tk 0) 68 tk v92_26 68 tk = v92_26 from up2_s)]; omega) (by rw [(u_oth (c := tc) (n := tn) (s := (tS tc tn (pI S 68 tk).toNatClampNeg)) (by omega) (lB_f (by omega)) (fun q => by rcases q with q | q; (have := dB_i.mp q; omega); omega)).2, show (up2 (up2 (up2 I1_3 67 tk (I1_3 68 tk)) 66 tk 0) 68 tk v92_26) 66 tk = (0 : Int32) from (show up2 (up2 I1_3 67 tk (I1_3 68 tk)) 66 tk 0 66 tk = 0 from up2_s)]; first | (rw [if_pos (by omega)]; decide) | (rw [if_neg (by omega)]; decide)) (fun q => by rw [(u_oth (c := tc) (n := tn) (s := (tS tc tn (pI S 68 tk).toNatClampNeg)) (by omega) (lB_f (by omega)) (fun q => by rcases q with q | q; (have := dB_i.mp q; omega); omega)).2] at q; split at q <;> exact absurd q (by decide)))
            exact hret _ _ _ _ _ ⟨_, rfl, (FrT.up (f := 68) (by decide) (FrT.up (f := 66) (by decide) (FrT.up (f := 67) (by decide) (FrT.tr FrT.rf (h1_1.1.t))))), HFIN⟩ hw dX9_readNext_96
          · have D75_25 := iEq c75_25 rfl t_59
            refine lv_iconst (v := 4) hx hb dX9_readNext_78 (by decide) ?_
            refine lv_goto (tgt := 83) hx hb dX9_readNext_79 (by decide) ?_
            refine pf_X9_13 X hw hK.1 dX9_readNext_83 (fun H locs hw => ?_)
            have hw : PX G A s.heap (ch S (up2 (up2 I1_3 67 tk (I1_3 68 tk)) 66 tk 4) (pJ S) (qI S) (qJ S)) H locs := hw
            refine lv_aload_n hx hb dX9_readNext_86 rfl (lv_at hl 1 rfl) ?_
            refine lv_dup hx hb dX9_readNext_87 rfl ?_
            refine gf_X9_23 (v := I1_3 68 tk) X hw hK.1 rfl dX9_readNext_88 ?_
            refine lv_iconst (v := 1) hx hb dX9_readNext_91 (by decide) ?_
            refine lv_iadd hx hb dX9_readNext_92 ?_
            refine lv_topi (fun v92_27 e92_27 => ?_)
            have t92_27 := iAdd e92_27 rfl t_1 (by omega) (by omega)
            have t92 := t92_27
            refine pf_X9_23 X hw hK.1 dX9_readNext_93 (fun H locs hw => ?_)
            have hw : PX G A s.heap (ch S (up2 (up2 (up2 I1_3 67 tk (I1_3 68 tk)) 66 tk 4) 68 tk v92_27) (pJ S) (qI S) (qJ S)) H locs := hw
            have HFIN : tokAt (up2 (up2 (up2 I1_3 67 tk (I1_3 68 tk)) 66 tk 4) 68 tk v92_27) tk tc tn (pI S 68 tk).toNatClampNeg := by first | exact HFIN | exact (tok_fin (s := (tS tc tn (pI S 68 tk).toNatClampNeg)) rfl (by rw [show (up2 (up2 (up2 I1_3 67 tk (I1_3 68 tk)) 66 tk 4) 68 tk v92_27) 67 tk = (I1_3 68 tk : Int32) from (show up2 I1_3 67 tk (I1_3 68 tk) 67 tk = (I1_3 68 tk) from up2_s)]; exact hS1) (by rw [(u_oth (c := tc) (n := tn) (s := (tS tc tn (pI S 68 tk).toNatClampNeg)) (by omega) (lB_f (by omega)) (fun q => by rcases q with q | q; (have := dB_i.mp q; omega); omega)).1, show (up2 (up2 (up2 I1_3 67 tk (I1_3 68 tk)) 66 tk 4) 68 tk v92_27) 68 tk = (v92_27 : Int32) from (show up2 (up2 (up2 I1_3 67 tk (I1_3 68 tk)) 66 tk 4) 68 tk v92_27 68 tk = v92_27 from up2_s)]; omega) (by rw [(u_oth (c := tc) (n := tn) (s := (tS tc tn (pI S 68 tk).toNatClampNeg)) (by omega) (lB_f (by omega)) (fun q => by rcases q with q | q; (have := dB_i.mp q; omega); omega)).2, show (up2 (up2 (up2 I1_3 67 tk (I1_3 68 tk)) 66 tk 4) 68 tk v92_27) 66 tk = (4 : Int32) from (show up2 (up2 I1_3 67 tk (I1_3 68 tk)) 66 tk 4 66 tk = 4 from up2_s)]; first | (rw [if_pos (by omega)]; decide) | (rw [if_neg (by omega)]; decide)) (fun q => by rw [(u_oth (c := tc) (n := tn) (s := (tS tc tn (pI S 68 tk).toNatClampNeg)) (by omega) (lB_f (by omega)) (fun q => by rcases q with q | q; (have := dB_i.mp q; omega); omega)).2] at q; split at q <;> exact absurd q (by decide)))
            exact hret _ _ _ _ _ ⟨_, rfl, (FrT.up (f := 68) (by decide) (FrT.up (f := 66) (by decide) (FrT.up (f := 67) (by decide) (FrT.tr FrT.rf (h1_1.1.t))))), HFIN⟩ hw dX9_readNext_96
        · have D61_24 := iEq c61_24 rfl t_45
          have hnmS : dB (tc (tS tc tn (pI S 68 tk).toNatClampNeg)) = true ∨ (tc (tS tc tn (pI S 68 tk).toNatClampNeg)).toInt = 45 := by first | exact Or.inl (dB_i.mpr (by omega)) | exact Or.inr (by omega)
          have hnmB : dB (tc ((I1_3 68 tk : Int32)).toNatClampNeg) = true ∨ (tc ((I1_3 68 tk : Int32)).toNatClampNeg).toInt = 45 := by rw [← hB1, hB2]; exact hnmS
          refine lv_aload_n hx hb dX9_readNext_64 rfl (lv_at hl 1 rfl) ?_
          refine k_Vv (n := 0) X hw (rcvk (ci := 9) X hw hK.1 (fun _ _ _ _ _ _ _ => ⟨_, rfl⟩) rfl) (c_v_X9_readNumber l G _ tk tp tb tc tn hK htc (FrT.n (FrT.up (f := 67) (by decide) (FrT.tr FrT.rf (h1_1.1.t))) hn) hz (show 0 ≤ (I1_3 68 tk : Int32).toInt ∧ (I1_3 68 tk : Int32).toInt ≤ (tn : Int) by omega) ⟨congrArg Int32.toInt (show (up2 I1_3 67 tk (I1_3 68 tk)) 67 tk = (I1_3 68 tk : Int32) from (show up2 I1_3 67 tk (I1_3 68 tk) 67 tk = (I1_3 68 tk) from up2_s)), (show (I1_3 68 tk : Int32).toInt < (tn : Int) by omega)⟩ hnmB) wd_r10_8 wd_r10_9 wd_r10_10 wd_r3_2 wd_r10_11 ⟨by decide, by decide, by decide +kernel⟩ rfl rfl ⟨Nat.le_of_ble_eq_true rfl, Nat.le_of_ble_eq_true rfl⟩ rfl rfl hl.1 (Nat.le_of_ble_eq_true rfl) dX9_readNext_65 ⟨Nat.le_of_ble_eq_true rfl, Nat.le_of_ble_eq_true rfl⟩ (fun S65_29 H locs h65_28 hw => ?_)
          obtain ⟨I65_30, rfl, h65_28⟩ := h65_28
          have hw : PX G A s.heap (ch S I65_30 (pJ S) (qI S) (qJ S)) H locs := hw
          have hND : (I65_30 68 tk).toInt = (run dB tc tn (tF tc B1.toNatClampNeg) : Nat) ∧ (I65_30 66 tk).toInt = (if (1 ≤ uG tc tn B1.toNatClampNeg ∧ uG tc tn B1.toNatClampNeg ≤ 3) ∧ lB (tc (run dB tc tn (tF tc B1.toNatClampNeg))) = false then 3 else 0) ∧ I65_30 69 tk = uV tc tn B1.toNatClampNeg := by rw [hB1]; exact h65_28.2
          rw [hB2] at hND
          have h67 : (I65_30 67 tk).toInt = ((tS tc tn (pI S 68 tk).toNatClampNeg) : Nat) := by rw [h65_28.1 67 (by decide)]; exact (congrArg Int32.toInt up2_s).trans hS1
          have hU := u_num (c := tc) (n := tn) (s := (tS tc tn (pI S 68 tk).toNatClampNeg)) (by omega) (lB_f (by omega)) hnmS
          have HFIN : tokAt I65_30 tk tc tn (pI S 68 tk).toNatClampNeg := tok_fin (s := (tS tc tn (pI S 68 tk).toNatClampNeg)) rfl h67 (by rw [hU.1]; exact hND.1) (by rw [hU.2]; exact hND.2.1) (fun _ => hND.2.2)
          refine lv_goto (tgt := 96) hx hb dX9_readNext_68 (by decide) ?_
          have HFIN : tokAt I65_30 tk tc tn (pI S 68 tk).toNatClampNeg := by first | exact HFIN | exact (tok_fin (s := (tS tc tn (pI S 68 tk).toNatClampNeg)) rfl (by rw [show I65_30 67 tk = (I65_30 67 tk : Int32) from rfl]; exact hS1) (by rw [(u_oth (c := tc) (n := tn) (s := (tS tc tn (pI S 68 tk).toNatClampNeg)) (by omega) (lB_f (by omega)) (fun q => by rcases q with q | q; (have := dB_i.mp q; omega); omega)).1, show I65_30 68 tk = (I65_30 68 tk : Int32) from rfl]; omega) (by rw [(u_oth (c := tc) (n := tn) (s := (tS tc tn (pI S 68 tk).toNatClampNeg)) (by omega) (lB_f (by omega)) (fun q => by rcases q with q | q; (have := dB_i.mp q; omega); omega)).2, show I65_30 66 tk = (I65_30 66 tk : Int32) from rfl]; first | (rw [if_pos (by omega)]; decide) | (rw [if_neg (by omega)]; decide)) (fun q => by rw [(u_oth (c := tc) (n := tn) (s := (tS tc tn (pI S 68 tk).toNatClampNeg)) (by omega) (lB_f (by omega)) (fun q => by rcases q with q | q; (have := dB_i.mp q; omega); omega)).2] at q; split at q <;> exact absurd q (by decide)))
          exact hret _ _ _ _ _ ⟨_, rfl, (FrT.tr (FrT.up (f := 67) (by decide) (FrT.tr FrT.rf (h1_1.1.t))) (h65_28.1.t)), HFIN⟩ hw dX9_readNext_96
  · have D26_7 := iEq c26_7 rfl t_m1
    refine lv_aload_n hx hb dX9_readNext_29 rfl (lv_at hl 1 rfl) ?_
    refine lv_iconst (v := 1) hx hb dX9_readNext_30 (by decide) ?_
    refine pf_X9_13 X hw hK.1 dX9_readNext_31 (fun H locs hw => ?_)
    have hw : PX G A s.heap (ch S (up2 (up2 I1_3 67 tk (I1_3 68 tk)) 66 tk 1) (pJ S) (qI S) (qJ S)) H locs := hw
    have hU := u_end (c := tc) (n := tn) (s := (tS tc tn (pI S 68 tk).toNatClampNeg)) (by omega)
    have HFIN : tokAt (up2 (up2 I1_3 67 tk (I1_3 68 tk)) 66 tk 1) tk tc tn (pI S 68 tk).toNatClampNeg := tok_fin (s := (tS tc tn (pI S 68 tk).toNatClampNeg)) rfl (by rw [show (up2 (up2 I1_3 67 tk (I1_3 68 tk)) 66 tk 1) 67 tk = (I1_3 68 tk : Int32) from (show up2 I1_3 67 tk (I1_3 68 tk) 67 tk = (I1_3 68 tk) from up2_s)]; exact hS1) (by rw [hU.1, show (up2 (up2 I1_3 67 tk (I1_3 68 tk)) 66 tk 1) 68 tk = (I1_3 68 tk : Int32) from rfl]; exact hS1) (by rw [hU.2, show (up2 (up2 I1_3 67 tk (I1_3 68 tk)) 66 tk 1) 66 tk = (1 : Int32) from (show up2 (up2 I1_3 67 tk (I1_3 68 tk)) 66 tk 1 66 tk = 1 from up2_s)]; decide) (nt3 hU.2 (by decide))
    refine lv_goto (tgt := 96) hx hb dX9_readNext_34 (by decide) ?_
    have HFIN : tokAt (up2 (up2 I1_3 67 tk (I1_3 68 tk)) 66 tk 1) tk tc tn (pI S 68 tk).toNatClampNeg := by first | exact HFIN | exact (tok_fin (s := (tS tc tn (pI S 68 tk).toNatClampNeg)) rfl (by rw [show (up2 (up2 I1_3 67 tk (I1_3 68 tk)) 66 tk 1) 67 tk = (I1_3 68 tk : Int32) from (show up2 I1_3 67 tk (I1_3 68 tk) 67 tk = (I1_3 68 tk) from up2_s)]; exact hS1) (by rw [(u_oth (c := tc) (n := tn) (s := (tS tc tn (pI S 68 tk).toNatClampNeg)) (by omega) (lB_f (by omega)) (fun q => by rcases q with q | q; (have := dB_i.mp q; omega); omega)).1, show (up2 (up2 I1_3 67 tk (I1_3 68 tk)) 66 tk 1) 68 tk = (I1_3 68 tk : Int32) from rfl]; omega) (by rw [(u_oth (c := tc) (n := tn) (s := (tS tc tn (pI S 68 tk).toNatClampNeg)) (by omega) (lB_f (by omega)) (fun q => by rcases q with q | q; (have := dB_i.mp q; omega); omega)).2, show (up2 (up2 I1_3 67 tk (I1_3 68 tk)) 66 tk 1) 66 tk = (1 : Int32) from (show up2 (up2 I1_3 67 tk (I1_3 68 tk)) 66 tk 1 66 tk = 1 from up2_s)]; first | (rw [if_pos (by omega)]; decide) | (rw [if_neg (by omega)]; decide)) (fun q => by rw [(u_oth (c := tc) (n := tn) (s := (tS tc tn (pI S 68 tk).toNatClampNeg)) (by omega) (lB_f (by omega)) (fun q => by rcases q with q | q; (have := dB_i.mp q; omega); omega)).2] at q; split at q <;> exact absurd q (by decide)))
    exact hret _ _ _ _ _ ⟨_, rfl, (FrT.up (f := 66) (by decide) (FrT.up (f := 67) (by decide) (FrT.tr FrT.rf (h1_1.1.t)))), HFIN⟩ hw dX9_readNext_96
