
set_option maxHeartbeats 4000000 in
set_option maxRecDepth 100000 in
theorem c_v_X11_off (l : Launch) (G : Gh) (S : Pl) (x y : Int32) (hx : -100 ≤ x.toInt ∧ x.toInt ≤ 200) (hy : -100 ≤ y.toInt ∧ y.toInt ≤ 200) : MtI l yX11_off cX11_off 2 (some .int) (Rm 0 0 0) G [.int x, .int y] S (fun (r : Int32) (S' : Pl) => S = S' ∧ ((y.toInt < x.toInt ∧ r.toInt = x.toInt - y.toInt) ∨ (x.toInt ≤ y.toInt ∧ r.toInt = y.toInt - x.toInt))) 0 0 := by
  refine MtI.of (by decide) (Nat.le_of_ble_eq_true rfl) ?_
  intro p e s m args below meth c Q A X hw hin hret ls hl
  have hx := X.1.1
  have hb := X.1.2.1
  have hl : lv_has ls 2 [(0, .int x), (1, .int y)] := hl
  refine lv_iload_n hx hb dX11_off_0 rfl (lv_at hl 0 rfl) ?_
  refine lv_iload_n hx hb dX11_off_1 rfl (lv_at hl 1 rfl) ?_
  refine lv_icmp_le (tgt := 11) hx hb dX11_off_2 (by decide) (fun c2_1 => ?_) (fun c2_1 => ?_)
  · have D2_1 := iLe c2_1 rfl rfl
    refine lv_iload_n hx hb dX11_off_11 rfl (lv_at hl 1 rfl) ?_
    refine lv_iload_n hx hb dX11_off_12 rfl (lv_at hl 0 rfl) ?_
    refine lv_isub hx hb dX11_off_13 ?_
    refine lv_topi (fun v13_2 e13_2 => ?_)
    have t13_2 := iSub e13_2 rfl rfl (by omega) (by omega)
    have t13 := t13_2
    exact hret v13_2 _ _ _ _ _ ⟨rfl, by omega⟩ hw rfl dX11_off_14
  · have D2_1 := iNle c2_1 rfl rfl
    refine lv_iload_n hx hb dX11_off_5 rfl (lv_at hl 0 rfl) ?_
    refine lv_iload_n hx hb dX11_off_6 rfl (lv_at hl 1 rfl) ?_
    refine lv_isub hx hb dX11_off_7 ?_
    refine lv_topi (fun v7_3 e7_3 => ?_)
    have t7_3 := iSub e7_3 rfl rfl (by omega) (by omega)
    have t7 := t7_3
    refine lv_goto (tgt := 14) hx hb dX11_off_8 (by decide) ?_
    exact hret v7_3 _ _ _ _ _ ⟨rfl, by omega⟩ hw rfl dX11_off_14
set_option maxHeartbeats 4000000 in
set_option maxRecDepth 100000 in
theorem c_v_X11_weighs (l : Launch) (G : Gh) (S : Pl) (ma : Nat → Nat) (x t : Int32) (bk : Nat) (V : SV) (tl : Nat → TP) (pl : Nat → PP) (hM : shMod S ma) (hI : mInv (pI S) (qI S) ma) (hx0 : 0 ≤ x.toInt ∧ x.toInt < (pI S 140 (ma 0)).toInt) (ht : 0 ≤ t.toInt ∧ t.toInt < (pI S 128 (ma 0)).toInt) (hbk : (pI S 120 (ma 0)).toInt = (bk : Int)) (hbk1 : bk ≤ 1) (hMB : MBk (qI S) ma bk V.2) (hvk : vok V) (hTl : ∀ k : Nat, (k : Int) < (pI S 128 (ma 0)).toInt → mTP (qI S) ma k (tl k)) (hPl : ∀ k : Nat, (k : Int) < (pI S 140 (ma 0)).toInt → mPP (qI S) ma k (pl k) ∧ ppO (pl k)) : MtI l yX11_weighs cX11_weighs 4 (some .int) (Rm 3 0 0) G [.ref (ma 0), .int x, .int t] S (fun (r : Int32) (S' : Pl) => ∃ I', ch S I' (pJ S) (qI S) (qJ S) = S' ∧ FrD (pI S) I' ∧ 0 ≤ r.toInt ∧ r.toInt ≤ 100 ∧ r = wgh V.2 (drA V.2 (tl t.toNatClampNeg) (pl x.toNatClampNeg).1.toNatClampNeg) (pl x.toNatClampNeg)) 0 0 := by
  refine MtI.of (by decide) (Nat.le_of_ble_eq_true rfl) ?_
  intro p e s m args below meth c Q A X hw hin hret ls hl
  have hx := X.1.1
  have hb := X.1.2.1
  have hl : lv_has ls 4 [(0, .ref (ma 0)), (1, .int x), (2, .int t)] := hl
  obtain ⟨⟨b1, b2, b3, b4, b5, b6⟩, hT, hP, hC⟩ := id hI
  have pz := mP_at hP (x := x) hx0.1 hx0.2
  have hcx := cl_toInt (x := x) hx0.1
  have hpz := hPl x.toNatClampNeg (by omega)
  have hcs := hpz.2
  rw [hpz.1.1, hpz.1.2.2.2.2.2.1, hpz.1.2.2.2.2.2.2] at pz
  unfold ppO at hcs
  refine lv_aload_n hx hb dX11_weighs_0 rfl (lv_at hl 0 rfl) ?_
  refine lv_iload_n hx hb dX11_weighs_1 rfl (lv_at hl 2 rfl) ?_
  refine lv_aload_n hx hb dX11_weighs_2 rfl (lv_at hl 0 rfl) ?_
  refine gf_X11_105 (b := (ma 33)) X hw hM.1 (mr_33 hM) dX11_weighs_3 ?_
  refine lv_iload_n hx hb dX11_weighs_6 rfl (lv_at hl 1 rfl) ?_
  refine q_ldI X hw (mk_33 hM) (vin (mn_33 hM) (by omega) (by omega)) dX11_weighs_7 ?_
  refine lv_topi (fun v7_1 e7_1 => ?_)
  have e7_1 : v7_1 = (qI S) (ma 33) x.toNatClampNeg := e7_1
  have l7 : v7_1 = (pl x.toNatClampNeg).1 := e7_1.trans hpz.1.1
  have l7t := congrArg Int32.toInt l7
  refine k_Vv (n := 2) X hw (rcvk (ci := 11) X hw hM.1 (fun _ _ _ _ _ _ _ => ⟨_, rfl⟩) rfl) (c_v_X11_drift l G _ ma t v7_1 bk V (tl t.toNatClampNeg) hM (hI.d FrD.rf) (show 0 ≤ t.toInt ∧ t.toInt < ((pI S) 128 (ma 0) : Int32).toInt by omega) (by omega) (show ((pI S) 120 (ma 0) : Int32).toInt = (bk : Int) by omega) hbk1 hMB hvk (hTl _ (by have := cl_toInt (x := t) (by omega); omega))) wd_r31_3 wd_r31_4 wd_r31_5 wd_r1_5 wd_r31_6 ⟨by decide, by decide, by decide +kernel⟩ rfl rfl ⟨Nat.le_of_ble_eq_true rfl, Nat.le_of_ble_eq_true rfl⟩ rfl rfl hl.1 (Nat.le_of_ble_eq_true rfl) dX11_weighs_8 ⟨Nat.le_of_ble_eq_true rfl, Nat.le_of_ble_eq_true rfl⟩ (fun S8_3 H locs h8_2 hw => ?_)
  obtain ⟨I8_4, rfl, h8_2⟩ := h8_2
  have hw : PX G A s.heap (ch S I8_4 (pJ S) (qI S) (qJ S)) H locs := hw
  have hbF := FrD.at (FrD.tr FrD.rf h8_2.1) (f := 120) (by decide) (ma 0)
  have HD : mdR I8_4 (ma 0) (drA V.2 (tl t.toNatClampNeg) (pl x.toNatClampNeg).1.toNatClampNeg) := by rw [← l7]; exact h8_2.2.2
  have HDt := congrArg Int32.toInt HD.1
  have HB := h8_2.2.1
  have hkd := drA_ok (C := V.2) (P := tl t.toNatClampNeg) ((hTl t.toNatClampNeg (by have := cl_toInt (x := t) ht.1; omega)).r hT ht.1 ht.2) (pl x.toNatClampNeg).1.toNatClampNeg
  have HX : (drA V.2 (tl t.toNatClampNeg) (pl x.toNatClampNeg).1.toNatClampNeg).2.2.toInt ≠ 2 → (I8_4 129 (ma 0)).toInt = (drA V.2 (tl t.toNatClampNeg) (pl x.toNatClampNeg).1.toNatClampNeg).1.toInt ∧ (I8_4 130 (ma 0)).toInt = (drA V.2 (tl t.toNatClampNeg) (pl x.toNatClampNeg).1.toNatClampNeg).2.1.toInt := fun n9 => by have z9 := HD.2 (fun q9 => n9 (by rw [q9]; decide)); exact ⟨congrArg Int32.toInt z9.1, congrArg Int32.toInt z9.2⟩
  have hkb := hkd.1
  refine lv_aload_n hx hb dX11_weighs_11 rfl (lv_at hl 0 rfl) ?_
  refine gf_X11_120 (b := (ma 38)) X hw hM.1 (mr_38 hM) dX11_weighs_12 ?_
  refine lv_iload_n hx hb dX11_weighs_15 rfl (lv_at hl 1 rfl) ?_
  refine q_ldI X hw (mk_38 hM) (vin (mn_38 hM) (by omega) (by omega)) dX11_weighs_16 ?_
  refine lv_topi (fun v16_5 e16_5 => ?_)
  have e16_5 : v16_5 = (qI S) (ma 38) x.toNatClampNeg := e16_5
  have l16 : v16_5 = (pl x.toNatClampNeg).2.2.2.2.2.1 := e16_5.trans hpz.1.2.2.2.2.2.1
  have l16t := congrArg Int32.toInt l16
  refine lv_iconst (v := 2) hx hb dX11_weighs_17 (by decide) ?_
  refine lv_icmp_ne (tgt := 85) hx hb dX11_weighs_18 (by decide) (fun c18_6 => ?_) (fun c18_6 => ?_)
  · have D18_6 := iNe c18_6 rfl t_2
    refine lv_aload_n hx hb dX11_weighs_85 rfl (lv_at hl 0 rfl) ?_
    refine gf_X11_240 (v := I8_4 131 (ma 0)) X hw hM.1 rfl dX11_weighs_86 ?_
    refine lv_if_ne (tgt := 160) hx hb dX11_weighs_89 (by decide) (fun c89_7 => ?_) (fun c89_7 => ?_)
    · have D89_7 := iNe c89_7 rfl t_0
      refine lv_iconst (v := 0) hx hb dX11_weighs_160 (by decide) ?_
      refine lv_istore_n (lv' := [(3, .int 0), (0, .ref (ma 0)), (1, .int x), (2, .int t)]) hx hb dX11_weighs_161 rfl hl (by decide) rfl (fun ls hl => ?_)
      refine lv_iload_n hx hb dX11_weighs_162 rfl (lv_at hl 0 rfl) ?_
      refine lv_if_eq (tgt := 185) hx hb dX11_weighs_163 (by decide) (fun c163_8 => ?_) (fun c163_8 => absurd c163_8 (by decide))
      refine lv_bipush (v := 100) hx hb dX11_weighs_185 (by decide) ?_
      exact hret 100 _ _ _ _ _ ⟨_, rfl, (FrD.tr FrD.rf h8_2.1), by have := t_100; omega, by have := t_100; omega, (wg_s0 (by have := t_2; omega) (fun q9 => by unfold srhC at q9; have := t_0; have := t_2; have := HX (by omega); omega)).symm⟩ hw rfl dX11_weighs_187
    · have D89_7 := iEq c89_7 rfl t_0
      refine lv_aload_n hx hb dX11_weighs_92 rfl (lv_at hl 0 rfl) ?_
      refine gf_X11_234 (v := I8_4 129 (ma 0)) X hw hM.1 rfl dX11_weighs_93 ?_
      refine lv_bipush (v := 10) hx hb dX11_weighs_96 (by decide) ?_
      refine lv_idiv hx hb dX11_weighs_98 (by decide) ?_
      refine lv_topi (fun v98_9 e98_9 => ?_)
      have d98 := iDiv10 e98_9 (by omega)
      refine lv_aload_n hx hb dX11_weighs_99 rfl (lv_at hl 0 rfl) ?_
      refine gf_X11_108 (b := (ma 34)) X hw hM.1 (mr_34 hM) dX11_weighs_100 ?_
      refine lv_iload_n hx hb dX11_weighs_103 rfl (lv_at hl 1 rfl) ?_
      refine q_ldI X hw (mk_34 hM) (vin (mn_34 hM) (by omega) (by omega)) dX11_weighs_104 ?_
      refine lv_topi (fun v104_10 e104_10 => ?_)
      have e104_10 : v104_10 = (qI S) (ma 34) x.toNatClampNeg := e104_10
      have l104 : v104_10 = (pl x.toNatClampNeg).2.1 := e104_10.trans hpz.1.2.1
      have l104t := congrArg Int32.toInt l104
      refine lv_icmp_lt (tgt := 160) hx hb dX11_weighs_105 (by decide) (fun c105_11 => ?_) (fun c105_11 => ?_)
      · have D105_11 := iLt c105_11 rfl rfl
        refine lv_iconst (v := 0) hx hb dX11_weighs_160 (by decide) ?_
        refine lv_istore_n (lv' := [(3, .int 0), (0, .ref (ma 0)), (1, .int x), (2, .int t)]) hx hb dX11_weighs_161 rfl hl (by decide) rfl (fun ls hl => ?_)
        refine lv_iload_n hx hb dX11_weighs_162 rfl (lv_at hl 0 rfl) ?_
        refine lv_if_eq (tgt := 185) hx hb dX11_weighs_163 (by decide) (fun c163_12 => ?_) (fun c163_12 => absurd c163_12 (by decide))
        refine lv_bipush (v := 100) hx hb dX11_weighs_185 (by decide) ?_
        exact hret 100 _ _ _ _ _ ⟨_, rfl, (FrD.tr FrD.rf h8_2.1), by have := t_100; omega, by have := t_100; omega, (wg_s0 (by have := t_2; omega) (fun q9 => by unfold srhC at q9; have := t_0; have := t_2; have := HX (by omega); omega)).symm⟩ hw rfl dX11_weighs_187
      · have D105_11 := iNlt c105_11 rfl rfl
        refine lv_aload_n hx hb dX11_weighs_108 rfl (lv_at hl 0 rfl) ?_
        refine gf_X11_234 (v := I8_4 129 (ma 0)) X hw hM.1 rfl dX11_weighs_109 ?_
        refine lv_bipush (v := 10) hx hb dX11_weighs_112 (by decide) ?_
        refine lv_idiv hx hb dX11_weighs_114 (by decide) ?_
        refine lv_topi (fun v114_13 e114_13 => ?_)
        have d114 := iDiv10 e114_13 (by omega)
        refine lv_aload_n hx hb dX11_weighs_115 rfl (lv_at hl 0 rfl) ?_
        refine gf_X11_111 (b := (ma 35)) X hw hM.1 (mr_35 hM) dX11_weighs_116 ?_
        refine lv_iload_n hx hb dX11_weighs_119 rfl (lv_at hl 1 rfl) ?_
        refine q_ldI X hw (mk_35 hM) (vin (mn_35 hM) (by omega) (by omega)) dX11_weighs_120 ?_
        refine lv_topi (fun v120_14 e120_14 => ?_)
        have e120_14 : v120_14 = (qI S) (ma 35) x.toNatClampNeg := e120_14
        have l120 : v120_14 = (pl x.toNatClampNeg).2.2.1 := e120_14.trans hpz.1.2.2.1
        have l120t := congrArg Int32.toInt l120
        refine lv_icmp_gt (tgt := 160) hx hb dX11_weighs_121 (by decide) (fun c121_15 => ?_) (fun c121_15 => ?_)
        · have D121_15 := iLt c121_15 rfl rfl
          refine lv_iconst (v := 0) hx hb dX11_weighs_160 (by decide) ?_
          refine lv_istore_n (lv' := [(3, .int 0), (0, .ref (ma 0)), (1, .int x), (2, .int t)]) hx hb dX11_weighs_161 rfl hl (by decide) rfl (fun ls hl => ?_)
          refine lv_iload_n hx hb dX11_weighs_162 rfl (lv_at hl 0 rfl) ?_
          refine lv_if_eq (tgt := 185) hx hb dX11_weighs_163 (by decide) (fun c163_16 => ?_) (fun c163_16 => absurd c163_16 (by decide))
          refine lv_bipush (v := 100) hx hb dX11_weighs_185 (by decide) ?_
          exact hret 100 _ _ _ _ _ ⟨_, rfl, (FrD.tr FrD.rf h8_2.1), by have := t_100; omega, by have := t_100; omega, (wg_s0 (by have := t_2; omega) (fun q9 => by unfold srhC at q9; have := t_0; have := t_2; have := HX (by omega); omega)).symm⟩ hw rfl dX11_weighs_187
        · have D121_15 := iNlt c121_15 rfl rfl
          refine lv_aload_n hx hb dX11_weighs_124 rfl (lv_at hl 0 rfl) ?_
          refine gf_X11_231 (v := I8_4 130 (ma 0)) X hw hM.1 rfl dX11_weighs_125 ?_
          refine lv_bipush (v := 10) hx hb dX11_weighs_128 (by decide) ?_
          refine lv_idiv hx hb dX11_weighs_130 (by decide) ?_
          refine lv_topi (fun v130_17 e130_17 => ?_)
          have d130 := iDiv10 e130_17 (by omega)
          refine lv_aload_n hx hb dX11_weighs_131 rfl (lv_at hl 0 rfl) ?_
          refine gf_X11_114 (b := (ma 36)) X hw hM.1 (mr_36 hM) dX11_weighs_132 ?_
          refine lv_iload_n hx hb dX11_weighs_135 rfl (lv_at hl 1 rfl) ?_
          refine q_ldI X hw (mk_36 hM) (vin (mn_36 hM) (by omega) (by omega)) dX11_weighs_136 ?_
          refine lv_topi (fun v136_18 e136_18 => ?_)
          have e136_18 : v136_18 = (qI S) (ma 36) x.toNatClampNeg := e136_18
          have l136 : v136_18 = (pl x.toNatClampNeg).2.2.2.1 := e136_18.trans hpz.1.2.2.2.1
          have l136t := congrArg Int32.toInt l136
          refine lv_icmp_lt (tgt := 160) hx hb dX11_weighs_137 (by decide) (fun c137_19 => ?_) (fun c137_19 => ?_)
          · have D137_19 := iLt c137_19 rfl rfl
            refine lv_iconst (v := 0) hx hb dX11_weighs_160 (by decide) ?_
            refine lv_istore_n (lv' := [(3, .int 0), (0, .ref (ma 0)), (1, .int x), (2, .int t)]) hx hb dX11_weighs_161 rfl hl (by decide) rfl (fun ls hl => ?_)
            refine lv_iload_n hx hb dX11_weighs_162 rfl (lv_at hl 0 rfl) ?_
            refine lv_if_eq (tgt := 185) hx hb dX11_weighs_163 (by decide) (fun c163_20 => ?_) (fun c163_20 => absurd c163_20 (by decide))
            refine lv_bipush (v := 100) hx hb dX11_weighs_185 (by decide) ?_
            exact hret 100 _ _ _ _ _ ⟨_, rfl, (FrD.tr FrD.rf h8_2.1), by have := t_100; omega, by have := t_100; omega, (wg_s0 (by have := t_2; omega) (fun q9 => by unfold srhC at q9; have := t_0; have := t_2; have := HX (by omega); omega)).symm⟩ hw rfl dX11_weighs_187
          · have D137_19 := iNlt c137_19 rfl rfl
            refine lv_aload_n hx hb dX11_weighs_140 rfl (lv_at hl 0 rfl) ?_
            refine gf_X11_231 (v := I8_4 130 (ma 0)) X hw hM.1 rfl dX11_weighs_141 ?_
            refine lv_bipush (v := 10) hx hb dX11_weighs_144 (by decide) ?_
            refine lv_idiv hx hb dX11_weighs_146 (by decide) ?_
            refine lv_topi (fun v146_21 e146_21 => ?_)
            have d146 := iDiv10 e146_21 (by omega)
            refine lv_aload_n hx hb dX11_weighs_147 rfl (lv_at hl 0 rfl) ?_
            refine gf_X11_117 (b := (ma 37)) X hw hM.1 (mr_37 hM) dX11_weighs_148 ?_
            refine lv_iload_n hx hb dX11_weighs_151 rfl (lv_at hl 1 rfl) ?_
            refine q_ldI X hw (mk_37 hM) (vin (mn_37 hM) (by omega) (by omega)) dX11_weighs_152 ?_
            refine lv_topi (fun v152_22 e152_22 => ?_)
            have e152_22 : v152_22 = (qI S) (ma 37) x.toNatClampNeg := e152_22
            have l152 : v152_22 = (pl x.toNatClampNeg).2.2.2.2.1 := e152_22.trans hpz.1.2.2.2.2.1
            have l152t := congrArg Int32.toInt l152
            refine lv_icmp_gt (tgt := 160) hx hb dX11_weighs_153 (by decide) (fun c153_23 => ?_) (fun c153_23 => ?_)
            · have D153_23 := iLt c153_23 rfl rfl
              refine lv_iconst (v := 0) hx hb dX11_weighs_160 (by decide) ?_
              refine lv_istore_n (lv' := [(3, .int 0), (0, .ref (ma 0)), (1, .int x), (2, .int t)]) hx hb dX11_weighs_161 rfl hl (by decide) rfl (fun ls hl => ?_)
              refine lv_iload_n hx hb dX11_weighs_162 rfl (lv_at hl 0 rfl) ?_
              refine lv_if_eq (tgt := 185) hx hb dX11_weighs_163 (by decide) (fun c163_24 => ?_) (fun c163_24 => absurd c163_24 (by decide))
              refine lv_bipush (v := 100) hx hb dX11_weighs_185 (by decide) ?_
              exact hret 100 _ _ _ _ _ ⟨_, rfl, (FrD.tr FrD.rf h8_2.1), by have := t_100; omega, by have := t_100; omega, (wg_s0 (by have := t_2; omega) (fun q9 => by unfold srhC at q9; have := t_0; have := t_2; have := HX (by omega); omega)).symm⟩ hw rfl dX11_weighs_187
            · have D153_23 := iNlt c153_23 rfl rfl
              refine lv_iconst (v := 1) hx hb dX11_weighs_156 (by decide) ?_
              refine lv_goto (tgt := 161) hx hb dX11_weighs_157 (by decide) ?_
              refine lv_istore_n (lv' := [(3, .int 1), (0, .ref (ma 0)), (1, .int x), (2, .int t)]) hx hb dX11_weighs_161 rfl hl (by decide) rfl (fun ls hl => ?_)
              refine lv_iload_n hx hb dX11_weighs_162 rfl (lv_at hl 0 rfl) ?_
              refine lv_if_eq (tgt := 185) hx hb dX11_weighs_163 (by decide) (fun c163_25 => absurd c163_25 (by decide)) (fun c163_25 => ?_)
              refine lv_aload_n hx hb dX11_weighs_166 rfl (lv_at hl 1 rfl) ?_
              refine lv_aload_n hx hb dX11_weighs_167 rfl (lv_at hl 1 rfl) ?_
              refine gf_X11_120 (b := (ma 38)) X hw hM.1 (mr_38 hM) dX11_weighs_168 ?_
              refine lv_iload_n hx hb dX11_weighs_171 rfl (lv_at hl 2 rfl) ?_
              refine q_ldI X hw (mk_38 hM) (vin (mn_38 hM) (by omega) (by omega)) dX11_weighs_172 ?_
              refine lv_topi (fun v172_26 e172_26 => ?_)
              have e172_26 : v172_26 = (qI S) (ma 38) x.toNatClampNeg := e172_26
              have l172 : v172_26 = (pl x.toNatClampNeg).2.2.2.2.2.1 := e172_26.trans hpz.1.2.2.2.2.2.1
              have l172t := congrArg Int32.toInt l172
              refine lv_aload_n hx hb dX11_weighs_173 rfl (lv_at hl 1 rfl) ?_
              refine gf_X11_123 (b := (ma 39)) X hw hM.1 (mr_39 hM) dX11_weighs_174 ?_
              refine lv_iload_n hx hb dX11_weighs_177 rfl (lv_at hl 2 rfl) ?_
              refine q_ldI X hw (mk_39 hM) (vin (mn_39 hM) (by omega) (by omega)) dX11_weighs_178 ?_
              refine lv_topi (fun v178_27 e178_27 => ?_)
              have e178_27 : v178_27 = (qI S) (ma 39) x.toNatClampNeg := e178_27
              have l178 : v178_27 = (pl x.toNatClampNeg).2.2.2.2.2.2 := e178_27.trans hpz.1.2.2.2.2.2.2
              have l178t := congrArg Int32.toInt l178
              refine k_Vi (n := 2) X hw (rcvk (ci := 11) X hw hM.1 (fun _ _ _ _ _ _ _ => ⟨_, rfl⟩) rfl) (c_X11_missOf l G _ ma v172_26 v178_27 hM (show 0 ≤ (I8_4 120 (ma 0) : Int32).toInt ∧ (I8_4 120 (ma 0) : Int32).toInt ≤ 1 by omega) (by omega) (by omega)) wd_r26_6 wd_r26_7 wd_r26_8 wd_r1_5 wd_r26_9 ⟨by decide, by decide, by decide +kernel⟩ rfl rfl ⟨Nat.le_of_ble_eq_true rfl, Nat.le_of_ble_eq_true rfl⟩ rfl rfl hl.1 (Nat.le_of_ble_eq_true rfl) dX11_weighs_179 ⟨Nat.le_of_ble_eq_true rfl, Nat.le_of_ble_eq_true rfl⟩ (fun r179_28 S179_30 H locs h179_29 hw => ?_)
              obtain ⟨rfl, h179_29⟩ := h179_29
              have h179_29g : 0 ≤ r179_28.toInt ∧ r179_28.toInt ≤ 100 := by rw [h179_29]; exact mOr_rng hC.2 _
              have HMS : r179_28 = sm (V.2 4) (21 * (pl x.toNatClampNeg).2.2.2.2.2.1.toNatClampNeg + (pl x.toNatClampNeg).2.2.2.2.2.2.toNatClampNeg) := by rw [← l172, ← l178]; exact h179_29.trans (mOr_sm hMB hvk (show (I8_4 120 (ma 0) : Int32).toInt = (bk : Int) by omega) hbk1 (by omega) _ (by have := cl_toInt (x := v178_27) (by omega); omega))
              refine lv_goto (tgt := 187) hx hb dX11_weighs_182 (by decide) ?_
              exact hret r179_28 _ _ _ _ _ ⟨_, rfl, (FrD.tr FrD.rf h8_2.1), by have := t_100; omega, by have := t_100; omega, HMS.trans (wg_s1 (by have := t_2; omega) (by unfold srhC; have := t_0; have := t_2; have := HX (by omega); omega)).symm⟩ hw rfl dX11_weighs_187
  · have D18_6 := iEq c18_6 rfl t_2
    refine lv_aload_n hx hb dX11_weighs_21 rfl (lv_at hl 0 rfl) ?_
    refine gf_X11_240 (v := I8_4 131 (ma 0)) X hw hM.1 rfl dX11_weighs_22 ?_
    refine lv_iconst (v := 2) hx hb dX11_weighs_25 (by decide) ?_
    refine lv_icmp_eq (tgt := 78) hx hb dX11_weighs_26 (by decide) (fun c26_31 => ?_) (fun c26_31 => ?_)
    · have D26_31 := iEq c26_31 rfl t_2
      refine lv_aload_n hx hb dX11_weighs_78 rfl (lv_at hl 0 rfl) ?_
      refine gf_X11_123 (b := (ma 39)) X hw hM.1 (mr_39 hM) dX11_weighs_79 ?_
      refine lv_iload_n hx hb dX11_weighs_82 rfl (lv_at hl 1 rfl) ?_
      refine q_ldI X hw (mk_39 hM) (vin (mn_39 hM) (by omega) (by omega)) dX11_weighs_83 ?_
      refine lv_topi (fun v83_32 e83_32 => ?_)
      have e83_32 : v83_32 = (qI S) (ma 39) x.toNatClampNeg := e83_32
      have l83 : v83_32 = (pl x.toNatClampNeg).2.2.2.2.2.2 := e83_32.trans hpz.1.2.2.2.2.2.2
      have l83t := congrArg Int32.toInt l83
      exact hret v83_32 _ _ _ _ _ ⟨_, rfl, (FrD.tr FrD.rf h8_2.1), by have := t_100; omega, by have := t_100; omega, l83.trans (wg_c0 (by have := t_2; omega) (fun q9 => by unfold cluC at q9; have := t_2; have := HX q9.1; omega)).symm⟩ hw rfl dX11_weighs_84
    · have D26_31 := iNe c26_31 rfl t_2
      refine lv_aload_n hx hb dX11_weighs_29 rfl (lv_at hl 0 rfl) ?_
      refine gf_X11_234 (v := I8_4 129 (ma 0)) X hw hM.1 rfl dX11_weighs_30 ?_
      refine lv_aload_n hx hb dX11_weighs_33 rfl (lv_at hl 0 rfl) ?_
      refine gf_X11_108 (b := (ma 34)) X hw hM.1 (mr_34 hM) dX11_weighs_34 ?_
      refine lv_iload_n hx hb dX11_weighs_37 rfl (lv_at hl 1 rfl) ?_
      refine q_ldI X hw (mk_34 hM) (vin (mn_34 hM) (by omega) (by omega)) dX11_weighs_38 ?_
      refine lv_topi (fun v38_33 e38_33 => ?_)
      have e38_33 : v38_33 = (qI S) (ma 34) x.toNatClampNeg := e38_33
      have l38 : v38_33 = (pl x.toNatClampNeg).2.1 := e38_33.trans hpz.1.2.1
      have l38t := congrArg Int32.toInt l38
      refine k_Si (n := 2) X hw (c_v_X11_off l G _ (I8_4 129 (ma 0)) v38_33 (by omega) (by omega)) wd_r37_23 wd_r38_0 wd_r1_5 wd_r38_1 ⟨by decide, by decide, by decide +kernel⟩ rfl rfl ⟨Nat.le_of_ble_eq_true rfl, Nat.le_of_ble_eq_true rfl⟩ rfl rfl hl.1 (Nat.le_of_ble_eq_true rfl) dX11_weighs_39 ⟨Nat.le_of_ble_eq_true rfl, Nat.le_of_ble_eq_true rfl⟩ (fun r39_34 S39_36 H locs h39_35 hw => ?_)
      obtain ⟨rfl, h39_35⟩ := h39_35
      have h39_35o := h39_35
      refine lv_aload_n hx hb dX11_weighs_42 rfl (lv_at hl 0 rfl) ?_
      refine gf_X11_114 (b := (ma 36)) X hw hM.1 (mr_36 hM) dX11_weighs_43 ?_
      refine lv_iload_n hx hb dX11_weighs_46 rfl (lv_at hl 1 rfl) ?_
      refine q_ldI X hw (mk_36 hM) (vin (mn_36 hM) (by omega) (by omega)) dX11_weighs_47 ?_
      refine lv_topi (fun v47_37 e47_37 => ?_)
      have e47_37 : v47_37 = (qI S) (ma 36) x.toNatClampNeg := e47_37
      have l47 : v47_37 = (pl x.toNatClampNeg).2.2.2.1 := e47_37.trans hpz.1.2.2.2.1
      have l47t := congrArg Int32.toInt l47
      refine lv_icmp_gt (tgt := 78) hx hb dX11_weighs_48 (by decide) (fun c48_38 => ?_) (fun c48_38 => ?_)
      · have D48_38 := iLt c48_38 rfl rfl
        refine lv_aload_n hx hb dX11_weighs_78 rfl (lv_at hl 0 rfl) ?_
        refine gf_X11_123 (b := (ma 39)) X hw hM.1 (mr_39 hM) dX11_weighs_79 ?_
        refine lv_iload_n hx hb dX11_weighs_82 rfl (lv_at hl 1 rfl) ?_
        refine q_ldI X hw (mk_39 hM) (vin (mn_39 hM) (by omega) (by omega)) dX11_weighs_83 ?_
        refine lv_topi (fun v83_39 e83_39 => ?_)
        have e83_39 : v83_39 = (qI S) (ma 39) x.toNatClampNeg := e83_39
        have l83 : v83_39 = (pl x.toNatClampNeg).2.2.2.2.2.2 := e83_39.trans hpz.1.2.2.2.2.2.2
        have l83t := congrArg Int32.toInt l83
        exact hret v83_39 _ _ _ _ _ ⟨_, rfl, (FrD.tr FrD.rf h8_2.1), by have := t_100; omega, by have := t_100; omega, l83.trans (wg_c0 (by have := t_2; omega) (fun q9 => by unfold cluC at q9; have := t_2; have := HX q9.1; omega)).symm⟩ hw rfl dX11_weighs_84
      · have D48_38 := iNlt c48_38 rfl rfl
        refine lv_aload_n hx hb dX11_weighs_51 rfl (lv_at hl 0 rfl) ?_
        refine gf_X11_231 (v := I8_4 130 (ma 0)) X hw hM.1 rfl dX11_weighs_52 ?_
        refine lv_aload_n hx hb dX11_weighs_55 rfl (lv_at hl 0 rfl) ?_
        refine gf_X11_111 (b := (ma 35)) X hw hM.1 (mr_35 hM) dX11_weighs_56 ?_
        refine lv_iload_n hx hb dX11_weighs_59 rfl (lv_at hl 1 rfl) ?_
        refine q_ldI X hw (mk_35 hM) (vin (mn_35 hM) (by omega) (by omega)) dX11_weighs_60 ?_
        refine lv_topi (fun v60_40 e60_40 => ?_)
        have e60_40 : v60_40 = (qI S) (ma 35) x.toNatClampNeg := e60_40
        have l60 : v60_40 = (pl x.toNatClampNeg).2.2.1 := e60_40.trans hpz.1.2.2.1
        have l60t := congrArg Int32.toInt l60
        refine k_Si (n := 2) X hw (c_v_X11_off l G _ (I8_4 130 (ma 0)) v60_40 (by omega) (by omega)) wd_r37_23 wd_r38_0 wd_r1_5 wd_r38_1 ⟨by decide, by decide, by decide +kernel⟩ rfl rfl ⟨Nat.le_of_ble_eq_true rfl, Nat.le_of_ble_eq_true rfl⟩ rfl rfl hl.1 (Nat.le_of_ble_eq_true rfl) dX11_weighs_61 ⟨Nat.le_of_ble_eq_true rfl, Nat.le_of_ble_eq_true rfl⟩ (fun r61_41 S61_43 H locs h61_42 hw => ?_)
        obtain ⟨rfl, h61_42⟩ := h61_42
        have h61_42o := h61_42
        refine lv_aload_n hx hb dX11_weighs_64 rfl (lv_at hl 0 rfl) ?_
        refine gf_X11_114 (b := (ma 36)) X hw hM.1 (mr_36 hM) dX11_weighs_65 ?_
        refine lv_iload_n hx hb dX11_weighs_68 rfl (lv_at hl 1 rfl) ?_
        refine q_ldI X hw (mk_36 hM) (vin (mn_36 hM) (by omega) (by omega)) dX11_weighs_69 ?_
        refine lv_topi (fun v69_44 e69_44 => ?_)
        have e69_44 : v69_44 = (qI S) (ma 36) x.toNatClampNeg := e69_44
        have l69 : v69_44 = (pl x.toNatClampNeg).2.2.2.1 := e69_44.trans hpz.1.2.2.2.1
        have l69t := congrArg Int32.toInt l69
        refine lv_icmp_gt (tgt := 78) hx hb dX11_weighs_70 (by decide) (fun c70_45 => ?_) (fun c70_45 => ?_)
        · have D70_45 := iLt c70_45 rfl rfl
          refine lv_aload_n hx hb dX11_weighs_78 rfl (lv_at hl 0 rfl) ?_
          refine gf_X11_123 (b := (ma 39)) X hw hM.1 (mr_39 hM) dX11_weighs_79 ?_
          refine lv_iload_n hx hb dX11_weighs_82 rfl (lv_at hl 1 rfl) ?_
          refine q_ldI X hw (mk_39 hM) (vin (mn_39 hM) (by omega) (by omega)) dX11_weighs_83 ?_
          refine lv_topi (fun v83_46 e83_46 => ?_)
          have e83_46 : v83_46 = (qI S) (ma 39) x.toNatClampNeg := e83_46
          have l83 : v83_46 = (pl x.toNatClampNeg).2.2.2.2.2.2 := e83_46.trans hpz.1.2.2.2.2.2.2
          have l83t := congrArg Int32.toInt l83
          exact hret v83_46 _ _ _ _ _ ⟨_, rfl, (FrD.tr FrD.rf h8_2.1), by have := t_100; omega, by have := t_100; omega, l83.trans (wg_c0 (by have := t_2; omega) (fun q9 => by unfold cluC at q9; have := t_2; have := HX q9.1; omega)).symm⟩ hw rfl dX11_weighs_84
        · have D70_45 := iNlt c70_45 rfl rfl
          refine lv_bipush (v := 100) hx hb dX11_weighs_73 (by decide) ?_
          refine lv_goto (tgt := 84) hx hb dX11_weighs_75 (by decide) ?_
          exact hret 100 _ _ _ _ _ ⟨_, rfl, (FrD.tr FrD.rf h8_2.1), by have := t_100; omega, by have := t_100; omega, (wg_c1 (by have := t_2; omega) (by unfold cluC; have := t_2; have := HX (by omega); omega)).symm⟩ hw rfl dX11_weighs_84
set_option maxHeartbeats 4000000 in
set_option maxRecDepth 100000 in
theorem c_v_X11_oddsOf (l : Launch) (G : Gh) (S : Pl) (ma : Nat → Nat) (t : Int32) (bk : Nat) (V : SV) (tl : Nat → TP) (pl : Nat → PP) (hM : shMod S ma) (hI : mInv (pI S) (qI S) ma) (ht : 0 ≤ t.toInt ∧ t.toInt < (pI S 128 (ma 0)).toInt) (hbk : (pI S 120 (ma 0)).toInt = (bk : Int)) (hbk1 : bk ≤ 1) (hMB : MBk (qI S) ma bk V.2) (hvk : vok V) (hTl : ∀ k : Nat, (k : Int) < (pI S 128 (ma 0)).toInt → mTP (qI S) ma k (tl k)) (hPl : ∀ k : Nat, (k : Int) < (pI S 140 (ma 0)).toInt → mPP (qI S) ma k (pl k) ∧ ppO (pl k)) : MtL l yX11_oddsOf cX11_oddsOf 5 (some .long) (Rm 4 0 0) G [.ref (ma 0), .int t] S (fun (r : Int64) (S' : Pl) => ∃ I', ch S I' (pJ S) (qI S) (qJ S) = S' ∧ FrD (pI S) I' ∧ 0 ≤ r.toInt ∧ r.toInt ≤ 1000000000000000 ∧ r = odF V.2 (tl t.toNatClampNeg) pl (qI S (ma 40)) (pI S 140 (ma 0)).toInt.toNat) 0 0 := by
  refine MtL.of (by decide) (Nat.le_of_ble_eq_true rfl) ?_
  intro p e s m args below meth c Q A X hw hin hret ls hl
  have hx := X.1.1
  have hb := X.1.2.1
  have hl : lv_has ls 5 [(0, .ref (ma 0)), (1, .int t)] := hl
  obtain ⟨⟨b1, b2, b3, b4, b5, b6⟩, hT, hP, hC⟩ := id hI
  have tz := mT_at hT (x := t) ht.1 ht.2
  have hct9 := cl_toInt (x := t) ht.1
  refine lv_aload_n hx hb dX11_oddsOf_0 rfl (lv_at hl 0 rfl) ?_
  refine gf_X11_102 (b := (ma 28)) X hw hM.1 (mr_28 hM) dX11_oddsOf_1 ?_
  refine lv_iload_n hx hb dX11_oddsOf_4 rfl (lv_at hl 1 rfl) ?_
  refine q_ldI X hw (mk_28 hM) (vin (mn_28 hM) (by omega) (by omega)) dX11_oddsOf_5 ?_
  refine lv_topi (fun v5_1 e5_1 => ?_)
  have e5_1 : v5_1 = (qI S) (ma 28) t.toNatClampNeg := e5_1
  have g5 := congrArg Int32.toInt e5_1
  have e5n := e5_1
  refine lv_i2l hx hb dX11_oddsOf_6 rfl ?_
  refine lv_topl (fun v6_2 e6_2 => ?_)
  have k6 : v6_2.toInt = _ := (e6_2 ▸ i2l_t _ : v6_2.toInt = v5_1.toInt)
  have e6n := e6_2
  refine lv_lstore_n (lv' := [(2, .long v6_2), (0, .ref (ma 0)), (1, .int t)]) hx hb dX11_oddsOf_7 rfl hl (by decide) rfl (fun ls hl => ?_)
  refine lv_iconst (v := 0) hx hb dX11_oddsOf_8 (by decide) ?_
  refine lv_istore (lv' := [(4, .int 0), (2, .long v6_2), (0, .ref (ma 0)), (1, .int t)]) hx hb dX11_oddsOf_9 hl (by decide) rfl (fun ls hl => ?_)
  have lp11 : ∀ (N9 : Nat) (I11 : Nat → Nat → Int32) (w : Int64) (i : Int32), (FrD (pI S) I11) → (0 ≤ i.toInt ∧ i.toInt ≤ (pI S 140 (ma 0)).toInt) → (0 ≤ w.toInt ∧ w.toInt ≤ 1000 * pw100 (cntB (qI S (ma 40)) i.toNatClampNeg)) → (w = odF V.2 (tl t.toNatClampNeg) pl (qI S (ma 40)) i.toNatClampNeg) → (60 - i.toInt).toNat < N9 → ∀ (H : Heap) (locs : List Loc) (ls : Array Slot), PX G A s.heap (ch S I11 (pJ S) (qI S) (qJ S)) H locs → lv_has ls 5 [(4, .int i), (2, .long w), (0, .ref (ma 0)), (1, .int t)] → W p l e (Rm 4 0 0) s m args below meth c H locs 0 0 Q (F0 m 11 ls []) := by
    intro N9
    induction N9 with
    | zero => intro I11 w i hF hi hw0 hod hm; exact absurd hm (Nat.not_lt_zero _)
    | succ N9 ih11 =>
      intro I11 w i hF hi hw0 hod hm H locs ls hw hl
      have h28 := FrD.at hF (f := 128) (by decide) (ma 0)
      have h40 := FrD.at hF (f := 140) (by decide) (ma 0)
      have hbF := FrD.at hF (f := 120) (by decide) (ma 0)
      refine lv_iload hx hb dX11_oddsOf_11 (lv_at hl 0 rfl) ?_
      refine lv_aload_n hx hb dX11_oddsOf_13 rfl (lv_at hl 2 rfl) ?_
      refine gf_X11_252 (v := I11 140 (ma 0)) X hw hM.1 rfl dX11_oddsOf_14 ?_
      refine lv_icmp_ge (tgt := 47) hx hb dX11_oddsOf_17 (by decide) (fun c17_3 => ?_) (fun c17_3 => ?_)
      · have D17_3 := iLe c17_3 rfl rfl
        refine lv_lload_n hx hb dX11_oddsOf_47 rfl (lv_at hl 1 rfl) ?_
        exact hret w _ _ _ _ _ ⟨_, rfl, hF, (odds_end hw0 (cnt6 (i := i) (by omega) (by omega) hC.1)).1, (odds_end hw0 (cnt6 (i := i) (by omega) (by omega) hC.1)).2, by rw [hod, show i.toNatClampNeg = (pI S 140 (ma 0)).toInt.toNat by have := cl_toInt (x := i) hi.1; omega]⟩ hw dX11_oddsOf_48
      · have D17_3 := iNle c17_3 rfl rfl
        refine lv_aload_n hx hb dX11_oddsOf_20 rfl (lv_at hl 2 rfl) ?_
        refine gf_X11_126 (b := (ma 40)) X hw hM.1 (mr_40 hM) dX11_oddsOf_21 ?_
        refine lv_iload hx hb dX11_oddsOf_24 (lv_at hl 0 rfl) ?_
        refine q_ldZ X hw (mk_40 hM) (vin (mn_40 hM) (by omega) (by omega)) dX11_oddsOf_26 ?_
        refine lv_topi (fun v26_4 e26_4 => ?_)
        have e26_4 : v26_4 = (qI S) (ma 40) i.toNatClampNeg := e26_4
        have e26n := e26_4
        refine lv_if_ne (tgt := 41) hx hb dX11_oddsOf_27 (by decide) (fun c27_5 => ?_) (fun c27_5 => ?_)
        · skip
          obtain ⟨v41_6, e41_6⟩ : ∃ y : Int32, y = i + 1 := ⟨_, rfl⟩
          have t41_6 := iAdd e41_6 rfl t_1 (by omega) (by omega)
          have t41 := t41_6
          refine lv_iinc (v := v41_6) (lv' := [(4, .int v41_6), (2, .long w), (0, .ref (ma 0)), (1, .int t)]) hx hb dX11_oddsOf_41 hl (k := 0) rfl (by rw [e41_6]; rfl) (by decide) rfl (fun ls hl => ?_)
          refine lv_goto (tgt := 11) hx hb dX11_oddsOf_44 (by decide) ?_
          exact ih11 I11 w v41_6 hF (by omega) (by first | exact odds_n hw0 e26n (by assumption) t41 (by omega) | (have z9 := odds_y (by decide) hw0 k38 e39n hwg e26n (by assumption) t41 (by omega) (cnt6 (by omega) (by omega) hC.1); exact ⟨z9.1, z9.2.1⟩)) (by first | exact odF_y hod hi.1 t41 (e26n.symm.trans (by assumption)) hwv e38n e39n | exact odF_n hod hi.1 t41 (fun q9 => absurd (e26n.trans q9) (by assumption))) (by omega) _ _ _ hw (lv_sub hl [0, 1, 2, 3] rfl)
        · have D27_5 := iEq c27_5 rfl t_0
          refine lv_lload_n hx hb dX11_oddsOf_30 rfl (lv_at hl 1 rfl) ?_
          refine lv_aload_n hx hb dX11_oddsOf_31 rfl (lv_at hl 2 rfl) ?_
          refine lv_iload hx hb dX11_oddsOf_32 (lv_at hl 0 rfl) ?_
          refine lv_iload_n hx hb dX11_oddsOf_34 rfl (lv_at hl 3 rfl) ?_
          refine k_Vi (n := 2) X hw (rcvk (ci := 11) X hw hM.1 (fun _ _ _ _ _ _ _ => ⟨_, rfl⟩) rfl) (c_v_X11_weighs l G _ ma i t bk V tl pl hM (hI.d hF) (show 0 ≤ i.toInt ∧ i.toInt < (I11 140 (ma 0) : Int32).toInt by omega) (show 0 ≤ t.toInt ∧ t.toInt < (I11 128 (ma 0) : Int32).toInt by omega) (show (I11 120 (ma 0) : Int32).toInt = (bk : Int) by omega) hbk1 hMB hvk (fun k9 h9 => hTl k9 (by have h8 : (k9 : Int) < (I11 128 (ma 0)).toInt := h9; omega)) (fun k9 h9 => hPl k9 (by have h8 : (k9 : Int) < (I11 140 (ma 0)).toInt := h9; omega))) wd_r37_19 wd_r37_20 wd_r37_21 wd_r1_5 wd_r37_22 ⟨by decide, by decide, by decide +kernel⟩ rfl rfl ⟨Nat.le_of_ble_eq_true rfl, Nat.le_of_ble_eq_true rfl⟩ rfl rfl hl.1 (Nat.le_of_ble_eq_true rfl) dX11_oddsOf_35 ⟨Nat.le_of_ble_eq_true rfl, Nat.le_of_ble_eq_true rfl⟩ (fun r35_7 S35_9 H locs h35_8 hw => ?_)
          obtain ⟨I35_10, rfl, h35_8⟩ := h35_8
          have hw : PX G A s.heap (ch S I35_10 (pJ S) (qI S) (qJ S)) H locs := hw
          have hwg := And.intro h35_8.2.1 h35_8.2.2.1
          have hwv := h35_8.2.2.2
          refine lv_i2l hx hb dX11_oddsOf_38 rfl ?_
          refine lv_topl (fun v38_11 e38_11 => ?_)
          have k38 : v38_11.toInt = r35_7.toInt := by rw [e38_11]; exact i2l_t _
          have e38n := e38_11
          refine lv_lmul hx hb dX11_oddsOf_39 ?_
          refine lv_topl (fun v39_12 e39_12 => ?_)
          have e39n := e39_12
          refine lv_lstore_n (lv' := [(2, .long v39_12), (4, .int i), (0, .ref (ma 0)), (1, .int t)]) hx hb dX11_oddsOf_40 rfl hl (by decide) rfl (fun ls hl => ?_)
          obtain ⟨v41_13, e41_13⟩ : ∃ y : Int32, y = i + 1 := ⟨_, rfl⟩
          have t41_13 := iAdd e41_13 rfl t_1 (by omega) (by omega)
          have t41 := t41_13
          refine lv_iinc (v := v41_13) (lv' := [(4, .int v41_13), (2, .long v39_12), (0, .ref (ma 0)), (1, .int t)]) hx hb dX11_oddsOf_41 hl (k := 1) rfl (by rw [e41_13]; rfl) (by decide) rfl (fun ls hl => ?_)
          refine lv_goto (tgt := 11) hx hb dX11_oddsOf_44 (by decide) ?_
          exact ih11 I35_10 v39_12 v41_13 (FrD.tr hF h35_8.1) (by omega) (by first | exact odds_n hw0 e26n (by assumption) t41 (by omega) | (have z9 := odds_y (by decide) hw0 k38 e39n hwg e26n (by assumption) t41 (by omega) (cnt6 (by omega) (by omega) hC.1); exact ⟨z9.1, z9.2.1⟩)) (by first | exact odF_y hod hi.1 t41 (e26n.symm.trans (by assumption)) hwv e38n e39n | exact odF_n hod hi.1 t41 (fun q9 => absurd (e26n.trans q9) (by assumption))) (by omega) _ _ _ hw (lv_sub hl [0, 1, 2, 3] rfl)
  exact lp11 _ (pI S) v6_2 0 FrD.rf (by have := t_0; omega) (odds_1 k6 (by omega)) (odF_0 (e5n.trans (hTl t.toNatClampNeg (by omega)).2.2.2.2) e6n) (Nat.lt_succ_self _) _ _ _ hw (lv_sub hl [0, 1, 2, 3] rfl)
set_option maxHeartbeats 4000000 in
set_option maxRecDepth 100000 in
theorem c_v_X11_odds (l : Launch) (G : Gh) (S : Pl) (ma : Nat → Nat) (t : Int32) (bk : Nat) (V : SV) (tl : Nat → TP) (pl : Nat → PP) (hM : shMod S ma) (hI : mInv (pI S) (qI S) ma) (hbk : (pI S 120 (ma 0)).toInt = (bk : Int)) (hbk1 : bk ≤ 1) (hMB : MBk (qI S) ma bk V.2) (hvk : vok V) (hTl : ∀ k : Nat, (k : Int) < (pI S 128 (ma 0)).toInt → mTP (qI S) ma k (tl k)) (hPl : ∀ k : Nat, (k : Int) < (pI S 140 (ma 0)).toInt → mPP (qI S) ma k (pl k) ∧ ppO (pl k)) : MtL l yX11_odds cX11_odds 2 (some .long) (Rm 5 0 0) G [.ref (ma 0), .int t] S (fun (r : Int64) (S' : Pl) => ∃ I', ch S I' (pJ S) (qI S) (qJ S) = S' ∧ FrD (pI S) I' ∧ r = (if 0 ≤ t.toInt ∧ t.toInt < (pI S 128 (ma 0)).toInt then odF V.2 (tl t.toNatClampNeg) pl (qI S (ma 40)) (pI S 140 (ma 0)).toInt.toNat else -1)) 0 0 := by
  refine MtL.of (by decide) (Nat.le_of_ble_eq_true rfl) ?_
  intro p e s m args below meth c Q A X hw hin hret ls hl
  have hx := X.1.1
  have hb := X.1.2.1
  have hl : lv_has ls 2 [(0, .ref (ma 0)), (1, .int t)] := hl
  refine lv_aload_n hx hb dX11_odds_0 rfl (lv_at hl 0 rfl) ?_
  refine lv_iload_n hx hb dX11_odds_1 rfl (lv_at hl 1 rfl) ?_
  refine k_Vi (n := 1) X hw (rcvk (ci := 11) X hw hM.1 (fun _ _ _ _ _ _ _ => ⟨_, rfl⟩) rfl) (c_X11_isTale l G _ ma t hM) wd_r30_20 wd_r30_21 wd_r30_22 wd_r1_5 wd_r30_23 ⟨by decide, by decide, by decide +kernel⟩ rfl rfl ⟨Nat.le_of_ble_eq_true rfl, Nat.le_of_ble_eq_true rfl⟩ rfl rfl hl.1 (Nat.le_of_ble_eq_true rfl) dX11_odds_2 ⟨Nat.le_of_ble_eq_true rfl, Nat.le_of_ble_eq_true rfl⟩ (fun r2_1 S2_3 H locs h2_2 hw => ?_)
  rcases h2_2 with ⟨rfl, rfl, h2_2⟩ | ⟨rfl, rfl, h2_2⟩
  · have h2_2 := h2_2
    refine lv_if_eq (tgt := 16) hx hb dX11_odds_5 (by decide) (fun c5_4 => absurd c5_4 (by decide)) (fun c5_4 => ?_)
    refine lv_aload_n hx hb dX11_odds_8 rfl (lv_at hl 0 rfl) ?_
    refine lv_iload_n hx hb dX11_odds_9 rfl (lv_at hl 1 rfl) ?_
    refine k_Vl (n := 1) X hw (rcvk (ci := 11) X hw hM.1 (fun _ _ _ _ _ _ _ => ⟨_, rfl⟩) rfl) (c_v_X11_oddsOf l G _ ma t bk V tl pl hM (hI.d FrD.rf) (show 0 ≤ t.toInt ∧ t.toInt < ((pI S) 128 (ma 0) : Int32).toInt by omega) (show ((pI S) 120 (ma 0) : Int32).toInt = (bk : Int) by omega) hbk1 hMB hvk (fun k9 h9 => hTl k9 (by have h8 : (k9 : Int) < ((pI S) 128 (ma 0)).toInt := h9; omega)) (fun k9 h9 => hPl k9 (by have h8 : (k9 : Int) < ((pI S) 140 (ma 0)).toInt := h9; omega))) wd_r37_15 wd_r37_16 wd_r37_17 wd_r1_5 wd_r37_18 ⟨by decide, by decide, by decide +kernel⟩ rfl rfl ⟨Nat.le_of_ble_eq_true rfl, Nat.le_of_ble_eq_true rfl⟩ rfl rfl hl.1 (Nat.le_of_ble_eq_true rfl) dX11_odds_10 ⟨Nat.le_of_ble_eq_true rfl, Nat.le_of_ble_eq_true rfl⟩ (fun r10_5 S10_7 H locs h10_6 hw => ?_)
    obtain ⟨I10_8, rfl, h10_6⟩ := h10_6
    have hw : PX G A s.heap (ch S I10_8 (pJ S) (qI S) (qJ S)) H locs := hw
    have HO9 := h10_6.2.2.2
    refine lv_goto (tgt := 19) hx hb dX11_odds_13 (by decide) ?_
    exact hret r10_5 _ _ _ _ _ ⟨_, rfl, (FrD.tr FrD.rf h10_6.1), by rw [if_pos (by omega)]; exact HO9⟩ hw dX11_odds_19
  · have h2_2 := h2_2
    refine lv_if_eq (tgt := 16) hx hb dX11_odds_5 (by decide) (fun c5_9 => ?_) (fun c5_9 => absurd c5_9 (by decide))
    refine lv_ldc2 hx hb X.1.2.2.2.1 (X.1.2.2.2.2 _ wd_r37_14) dX11_odds_16 ?_
    exact hret (-1) _ _ _ _ _ ⟨_, rfl, FrD.rf, by rw [if_neg (by omega)]⟩ hw dX11_odds_19
