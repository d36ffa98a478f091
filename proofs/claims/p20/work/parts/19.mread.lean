set_option maxHeartbeats 4000000 in
set_option maxRecDepth 100000 in
theorem c_X11_numeral (l : Launch) (G : Gh) (S : Pl) (ma : Nat → Nat) (x y : Int32) (lo : Int) (hM : shMod S ma) (hE : eM (pI S) (ma 0)) (hlo : lo ≤ x.toInt ∧ lo ≤ 0 ∧ 0 ≤ y.toInt) : MtI l yX11_numeral cX11_numeral 4 (some .int) (Rm 3 0 0) G [.ref (ma 0), .int x, .int y] S (fun (r : Int32) (S' : Pl) => ∃ I' J', ch S I' J' (qI S) (qJ S) = S' ∧ FrM (pI S) I' ∧ eM I' (ma 0) ∧ lo ≤ r.toInt ∧ r.toInt ≤ y.toInt) 0 0 := by
  refine MtI.of (by decide) (Nat.le_of_ble_eq_true rfl) ?_
  intro p e s m args below meth c Q A X hw hin hret ls hl
  have hx := X.1.1
  have hb := X.1.2.1
  have hl : lv_has ls 4 [(0, .ref (ma 0)), (1, .int x), (2, .int y)] := hl
  refine lv_aload_n hx hb dX11_numeral_0 rfl (lv_at hl 0 rfl) ?_
  refine k_Vi (n := 0) X hw (rcvk (ci := 11) X hw hM.1 (fun _ _ _ _ _ _ _ => ⟨_, rfl⟩) rfl) (c_X11_isGood l G _ ma hM) wd_r21_12 wd_r21_13 wd_r21_14 wd_r1_5 wd_r21_15 ⟨by decide, by decide, by decide +kernel⟩ rfl rfl ⟨Nat.le_of_ble_eq_true rfl, Nat.le_of_ble_eq_true rfl⟩ rfl rfl hl.1 (Nat.le_of_ble_eq_true rfl) dX11_numeral_1 ⟨Nat.le_of_ble_eq_true rfl, Nat.le_of_ble_eq_true rfl⟩ (fun r1_1 S1_3 H locs h1_2 hw => ?_)
  rcases h1_2 with ⟨rfl, rfl, h1_2⟩ | ⟨rfl, rfl, h1_2⟩
  · have h1_2 : ((pI S) 104 (ma 0) : Int32).toInt = 0 := h1_2
    refine lv_if_ne (tgt := 9) hx hb dX11_numeral_4 (by decide) (fun c4_4 => ?_) (fun c4_4 => absurd c4_4 (by decide))
    refine lv_aload_n hx hb dX11_numeral_9 rfl (lv_at hl 0 rfl) ?_
    refine lv_aload_n hx hb dX11_numeral_10 rfl (lv_at hl 0 rfl) ?_
    refine gf_X11_20 (v := (pI S) 106 (ma 0)) X hw hM.1 rfl dX11_numeral_11 ?_
    refine pf_X11_162 X hw hM.1 dX11_numeral_14 (fun H locs hw => ?_)
    have hw : PX G A s.heap (ch S (up2 (pI S) 122 (ma 0) ((pI S) 106 (ma 0))) (pJ S) (qI S) (qJ S)) H locs := hw
    refine lv_aload_n hx hb dX11_numeral_17 rfl (lv_at hl 0 rfl) ?_
    refine gf_X11_27 (v := (pI S) 108 (ma 0)) X hw hM.1 rfl dX11_numeral_18 ?_
    refine lv_iconst (v := 3) hx hb dX11_numeral_21 (by decide) ?_
    refine lv_icmp_eq (tgt := 29) hx hb dX11_numeral_22 (by decide) (fun c22_5 => ?_) (fun c22_5 => ?_)
    · have D22_5 := iEq c22_5 rfl t_3
      refine lv_aload_n hx hb dX11_numeral_29 rfl (lv_at hl 0 rfl) ?_
      refine k_Vi (n := 0) X hw (rcvk (ci := 11) X hw hM.1 (fun _ _ _ _ _ _ _ => ⟨_, rfl⟩) rfl) (c_X11_isGood l G _ ma hM) wd_r21_12 wd_r21_13 wd_r21_14 wd_r1_5 wd_r21_15 ⟨by decide, by decide, by decide +kernel⟩ rfl rfl ⟨Nat.le_of_ble_eq_true rfl, Nat.le_of_ble_eq_true rfl⟩ rfl rfl hl.1 (Nat.le_of_ble_eq_true rfl) dX11_numeral_30 ⟨Nat.le_of_ble_eq_true rfl, Nat.le_of_ble_eq_true rfl⟩ (fun r30_6 S30_8 H locs h30_7 hw => ?_)
      rcases h30_7 with ⟨rfl, rfl, h30_7⟩ | ⟨rfl, rfl, h30_7⟩
      · have h30_7 : ((pI S) 104 (ma 0) : Int32).toInt = 0 := h30_7
        refine lv_if_eq (tgt := 61) hx hb dX11_numeral_33 (by decide) (fun c33_9 => absurd c33_9 (by decide)) (fun c33_9 => ?_)
        refine lv_aload_n hx hb dX11_numeral_36 rfl (lv_at hl 0 rfl) ?_
        refine gf_X11_45 (v := (pI S) 109 (ma 0)) X hw hM.1 rfl dX11_numeral_37 ?_
        refine lv_iload_n hx hb dX11_numeral_40 rfl (lv_at hl 1 rfl) ?_
        refine lv_icmp_lt (tgt := 52) hx hb dX11_numeral_41 (by decide) (fun c41_10 => ?_) (fun c41_10 => ?_)
        · have D41_10 := iLt c41_10 rfl rfl
          refine lv_aload_n hx hb dX11_numeral_52 rfl (lv_at hl 0 rfl) ?_
          refine lv_iconst (v := 3) hx hb dX11_numeral_53 (by decide) ?_
          refine lv_aload_n hx hb dX11_numeral_54 rfl (lv_at hl 0 rfl) ?_
          refine gf_X11_20 (v := (pI S) 106 (ma 0)) X hw hM.1 rfl dX11_numeral_55 ?_
          refine k_Vv (n := 2) X hw (rcvk (ci := 11) X hw hM.1 (fun _ _ _ _ _ _ _ => ⟨_, rfl⟩) rfl) (c_X11_fails l G _ ma 3 ((pI S) 106 (ma 0)) hM (by decide)) wd_r22_9 wd_r22_10 wd_r22_11 wd_r1_5 wd_r22_12 ⟨by decide, by decide, by decide +kernel⟩ rfl rfl ⟨Nat.le_of_ble_eq_true rfl, Nat.le_of_ble_eq_true rfl⟩ rfl rfl hl.1 (Nat.le_of_ble_eq_true rfl) dX11_numeral_58 ⟨Nat.le_of_ble_eq_true rfl, Nat.le_of_ble_eq_true rfl⟩ (fun S58_12 H locs h58_11 hw => ?_)
          have := t_3
          obtain ⟨I58_13, rfl, h58_11⟩ := h58_11
          have hw : PX G A s.heap (ch S I58_13 (pJ S) (qI S) (qJ S)) H locs := hw
          have h58_11n := h58_11.2
          refine lv_aload_n hx hb dX11_numeral_61 rfl (lv_at hl 0 rfl) ?_
          refine gf_X11_45 (v := I58_13 109 (ma 0)) X hw hM.1 rfl dX11_numeral_62 ?_
          refine lv_istore_n (lv' := [(3, .int (I58_13 109 (ma 0))), (0, .ref (ma 0)), (1, .int x), (2, .int y)]) hx hb dX11_numeral_65 rfl hl (by decide) rfl (fun ls hl => ?_)
          refine lv_aload_n hx hb dX11_numeral_66 rfl (lv_at hl 1 rfl) ?_
          refine k_Vi (n := 0) X hw (rcvk (ci := 11) X hw hM.1 (fun _ _ _ _ _ _ _ => ⟨_, rfl⟩) rfl) (c_X11_isGood l G _ ma hM) wd_r21_12 wd_r21_13 wd_r21_14 wd_r1_5 wd_r21_15 ⟨by decide, by decide, by decide +kernel⟩ rfl rfl ⟨Nat.le_of_ble_eq_true rfl, Nat.le_of_ble_eq_true rfl⟩ rfl rfl hl.1 (Nat.le_of_ble_eq_true rfl) dX11_numeral_67 ⟨Nat.le_of_ble_eq_true rfl, Nat.le_of_ble_eq_true rfl⟩ (fun r67_14 S67_16 H locs h67_15 hw => ?_)
          rcases h67_15 with ⟨rfl, rfl, h67_15⟩ | ⟨rfl, rfl, h67_15⟩
          · have h67_15 : (I58_13 104 (ma 0) : Int32).toInt = 0 := h67_15
            refine lv_if_eq (tgt := 77) hx hb dX11_numeral_70 (by decide) (fun c70_17 => absurd c70_17 (by decide)) (fun c70_17 => ?_)
            refine lv_aload_n hx hb dX11_numeral_73 rfl (lv_at hl 1 rfl) ?_
            refine k_Vv (n := 0) X hw (rcvk (ci := 11) X hw hM.1 (fun _ _ _ _ _ _ _ => ⟨_, rfl⟩) rfl) (c_X11_next l G _ ma hM (FrF.e h58_11.1 hE)) wd_r20_15 wd_r20_16 wd_r20_17 wd_r1_5 wd_r20_18 ⟨by decide, by decide, by decide +kernel⟩ rfl rfl ⟨Nat.le_of_ble_eq_true rfl, Nat.le_of_ble_eq_true rfl⟩ rfl rfl hl.1 (Nat.le_of_ble_eq_true rfl) dX11_numeral_74 ⟨Nat.le_of_ble_eq_true rfl, Nat.le_of_ble_eq_true rfl⟩ (fun S74_19 H locs h74_18 hw => ?_)
            obtain ⟨I74_20, J74_21, rfl, h74_18⟩ := h74_18
            have hw : PX G A s.heap (ch S I74_20 J74_21 (qI S) (qJ S)) H locs := hw
            refine lv_aload_n hx hb dX11_numeral_77 rfl (lv_at hl 1 rfl) ?_
            refine k_Vi (n := 0) X hw (rcvk (ci := 11) X hw hM.1 (fun _ _ _ _ _ _ _ => ⟨_, rfl⟩) rfl) (c_X11_isGood l G _ ma hM) wd_r21_12 wd_r21_13 wd_r21_14 wd_r1_5 wd_r21_15 ⟨by decide, by decide, by decide +kernel⟩ rfl rfl ⟨Nat.le_of_ble_eq_true rfl, Nat.le_of_ble_eq_true rfl⟩ rfl rfl hl.1 (Nat.le_of_ble_eq_true rfl) dX11_numeral_78 ⟨Nat.le_of_ble_eq_true rfl, Nat.le_of_ble_eq_true rfl⟩ (fun r78_22 S78_24 H locs h78_23 hw => ?_)
            rcases h78_23 with ⟨rfl, rfl, h78_23⟩ | ⟨rfl, rfl, h78_23⟩
            · have h78_23 : (I74_20 104 (ma 0) : Int32).toInt = 0 := h78_23
              refine lv_if_eq (tgt := 88) hx hb dX11_numeral_81 (by decide) (fun c81_25 => absurd c81_25 (by decide)) (fun c81_25 => ?_)
              refine lv_iload_n hx hb dX11_numeral_84 rfl (lv_at hl 0 rfl) ?_
              refine lv_goto (tgt := 89) hx hb dX11_numeral_85 (by decide) ?_
              exact hret (I58_13 109 (ma 0)) _ _ _ _ _ ⟨_, _, rfl, (FrM.tr (FrM.tr (FrM.up (f := 122) (by decide) FrM.rf) (h58_11.1.m)) (h74_18.1.m)), h74_18.2, by have := t_0; omega, by have := t_0; omega⟩ hw rfl dX11_numeral_89
            · have h78_23 : ¬ ((I74_20 104 (ma 0) : Int32).toInt = 0) := h78_23
              refine lv_if_eq (tgt := 88) hx hb dX11_numeral_81 (by decide) (fun c81_26 => ?_) (fun c81_26 => absurd c81_26 (by decide))
              refine lv_iconst (v := 0) hx hb dX11_numeral_88 (by decide) ?_
              exact hret 0 _ _ _ _ _ ⟨_, _, rfl, (FrM.tr (FrM.tr (FrM.up (f := 122) (by decide) FrM.rf) (h58_11.1.m)) (h74_18.1.m)), h74_18.2, by have := t_0; omega, by have := t_0; omega⟩ hw rfl dX11_numeral_89
          · have h67_15 : ¬ ((I58_13 104 (ma 0) : Int32).toInt = 0) := h67_15
            refine lv_if_eq (tgt := 77) hx hb dX11_numeral_70 (by decide) (fun c70_27 => ?_) (fun c70_27 => absurd c70_27 (by decide))
            refine lv_aload_n hx hb dX11_numeral_77 rfl (lv_at hl 1 rfl) ?_
            refine k_Vi (n := 0) X hw (rcvk (ci := 11) X hw hM.1 (fun _ _ _ _ _ _ _ => ⟨_, rfl⟩) rfl) (c_X11_isGood l G _ ma hM) wd_r21_12 wd_r21_13 wd_r21_14 wd_r1_5 wd_r21_15 ⟨by decide, by decide, by decide +kernel⟩ rfl rfl ⟨Nat.le_of_ble_eq_true rfl, Nat.le_of_ble_eq_true rfl⟩ rfl rfl hl.1 (Nat.le_of_ble_eq_true rfl) dX11_numeral_78 ⟨Nat.le_of_ble_eq_true rfl, Nat.le_of_ble_eq_true rfl⟩ (fun r78_28 S78_30 H locs h78_29 hw => ?_)
            rcases h78_29 with ⟨rfl, rfl, h78_29⟩ | ⟨rfl, rfl, h78_29⟩
            · have h78_29 : (I58_13 104 (ma 0) : Int32).toInt = 0 := h78_29
              refine lv_if_eq (tgt := 88) hx hb dX11_numeral_81 (by decide) (fun c81_31 => absurd c81_31 (by decide)) (fun c81_31 => ?_)
              refine lv_iload_n hx hb dX11_numeral_84 rfl (lv_at hl 0 rfl) ?_
              refine lv_goto (tgt := 89) hx hb dX11_numeral_85 (by decide) ?_
              exact hret (I58_13 109 (ma 0)) _ _ _ _ _ ⟨_, _, rfl, (FrM.tr (FrM.up (f := 122) (by decide) FrM.rf) (h58_11.1.m)), (FrF.e h58_11.1 hE), by have := t_0; omega, by have := t_0; omega⟩ hw rfl dX11_numeral_89
            · have h78_29 : ¬ ((I58_13 104 (ma 0) : Int32).toInt = 0) := h78_29
              refine lv_if_eq (tgt := 88) hx hb dX11_numeral_81 (by decide) (fun c81_32 => ?_) (fun c81_32 => absurd c81_32 (by decide))
              refine lv_iconst (v := 0) hx hb dX11_numeral_88 (by decide) ?_
              exact hret 0 _ _ _ _ _ ⟨_, _, rfl, (FrM.tr (FrM.up (f := 122) (by decide) FrM.rf) (h58_11.1.m)), (FrF.e h58_11.1 hE), by have := t_0; omega, by have := t_0; omega⟩ hw rfl dX11_numeral_89
        · have D41_10 := iNlt c41_10 rfl rfl
          refine lv_aload_n hx hb dX11_numeral_44 rfl (lv_at hl 0 rfl) ?_
          refine gf_X11_45 (v := (pI S) 109 (ma 0)) X hw hM.1 rfl dX11_numeral_45 ?_
          refine lv_iload_n hx hb dX11_numeral_48 rfl (lv_at hl 2 rfl) ?_
          refine lv_icmp_le (tgt := 61) hx hb dX11_numeral_49 (by decide) (fun c49_33 => ?_) (fun c49_33 => ?_)
          · have D49_33 := iLe c49_33 rfl rfl
            refine lv_aload_n hx hb dX11_numeral_61 rfl (lv_at hl 0 rfl) ?_
            refine gf_X11_45 (v := (pI S) 109 (ma 0)) X hw hM.1 rfl dX11_numeral_62 ?_
            refine lv_istore_n (lv' := [(3, .int ((pI S) 109 (ma 0))), (0, .ref (ma 0)), (1, .int x), (2, .int y)]) hx hb dX11_numeral_65 rfl hl (by decide) rfl (fun ls hl => ?_)
            refine lv_aload_n hx hb dX11_numeral_66 rfl (lv_at hl 1 rfl) ?_
            refine k_Vi (n := 0) X hw (rcvk (ci := 11) X hw hM.1 (fun _ _ _ _ _ _ _ => ⟨_, rfl⟩) rfl) (c_X11_isGood l G _ ma hM) wd_r21_12 wd_r21_13 wd_r21_14 wd_r1_5 wd_r21_15 ⟨by decide, by decide, by decide +kernel⟩ rfl rfl ⟨Nat.le_of_ble_eq_true rfl, Nat.le_of_ble_eq_true rfl⟩ rfl rfl hl.1 (Nat.le_of_ble_eq_true rfl) dX11_numeral_67 ⟨Nat.le_of_ble_eq_true rfl, Nat.le_of_ble_eq_true rfl⟩ (fun r67_34 S67_36 H locs h67_35 hw => ?_)
            rcases h67_35 with ⟨rfl, rfl, h67_35⟩ | ⟨rfl, rfl, h67_35⟩
            · have h67_35 : ((pI S) 104 (ma 0) : Int32).toInt = 0 := h67_35
              refine lv_if_eq (tgt := 77) hx hb dX11_numeral_70 (by decide) (fun c70_37 => absurd c70_37 (by decide)) (fun c70_37 => ?_)
              refine lv_aload_n hx hb dX11_numeral_73 rfl (lv_at hl 1 rfl) ?_
              refine k_Vv (n := 0) X hw (rcvk (ci := 11) X hw hM.1 (fun _ _ _ _ _ _ _ => ⟨_, rfl⟩) rfl) (c_X11_next l G _ ma hM hE) wd_r20_15 wd_r20_16 wd_r20_17 wd_r1_5 wd_r20_18 ⟨by decide, by decide, by decide +kernel⟩ rfl rfl ⟨Nat.le_of_ble_eq_true rfl, Nat.le_of_ble_eq_true rfl⟩ rfl rfl hl.1 (Nat.le_of_ble_eq_true rfl) dX11_numeral_74 ⟨Nat.le_of_ble_eq_true rfl, Nat.le_of_ble_eq_true rfl⟩ (fun S74_39 H locs h74_38 hw => ?_)
              obtain ⟨I74_40, J74_41, rfl, h74_38⟩ := h74_38
              have hw : PX G A s.heap (ch S I74_40 J74_41 (qI S) (qJ S)) H locs := hw
              refine lv_aload_n hx hb dX11_numeral_77 rfl (lv_at hl 1 rfl) ?_
              refine k_Vi (n := 0) X hw (rcvk (ci := 11) X hw hM.1 (fun _ _ _ _ _ _ _ => ⟨_, rfl⟩) rfl) (c_X11_isGood l G _ ma hM) wd_r21_12 wd_r21_13 wd_r21_14 wd_r1_5 wd_r21_15 ⟨by decide, by decide, by decide +kernel⟩ rfl rfl ⟨Nat.le_of_ble_eq_true rfl, Nat.le_of_ble_eq_true rfl⟩ rfl rfl hl.1 (Nat.le_of_ble_eq_true rfl) dX11_numeral_78 ⟨Nat.le_of_ble_eq_true rfl, Nat.le_of_ble_eq_true rfl⟩ (fun r78_42 S78_44 H locs h78_43 hw => ?_)
              rcases h78_43 with ⟨rfl, rfl, h78_43⟩ | ⟨rfl, rfl, h78_43⟩
              · have h78_43 : (I74_40 104 (ma 0) : Int32).toInt = 0 := h78_43
                refine lv_if_eq (tgt := 88) hx hb dX11_numeral_81 (by decide) (fun c81_45 => absurd c81_45 (by decide)) (fun c81_45 => ?_)
                refine lv_iload_n hx hb dX11_numeral_84 rfl (lv_at hl 0 rfl) ?_
                refine lv_goto (tgt := 89) hx hb dX11_numeral_85 (by decide) ?_
                exact hret ((pI S) 109 (ma 0)) _ _ _ _ _ ⟨_, _, rfl, (FrM.tr (FrM.up (f := 122) (by decide) FrM.rf) (h74_38.1.m)), h74_38.2, by have := t_0; omega, by have := t_0; omega⟩ hw rfl dX11_numeral_89
              · have h78_43 : ¬ ((I74_40 104 (ma 0) : Int32).toInt = 0) := h78_43
                refine lv_if_eq (tgt := 88) hx hb dX11_numeral_81 (by decide) (fun c81_46 => ?_) (fun c81_46 => absurd c81_46 (by decide))
                refine lv_iconst (v := 0) hx hb dX11_numeral_88 (by decide) ?_
                exact hret 0 _ _ _ _ _ ⟨_, _, rfl, (FrM.tr (FrM.up (f := 122) (by decide) FrM.rf) (h74_38.1.m)), h74_38.2, by have := t_0; omega, by have := t_0; omega⟩ hw rfl dX11_numeral_89
            · have h67_35 : ¬ (((pI S) 104 (ma 0) : Int32).toInt = 0) := h67_35
              refine lv_if_eq (tgt := 77) hx hb dX11_numeral_70 (by decide) (fun c70_47 => ?_) (fun c70_47 => absurd c70_47 (by decide))
              refine lv_aload_n hx hb dX11_numeral_77 rfl (lv_at hl 1 rfl) ?_
              refine k_Vi (n := 0) X hw (rcvk (ci := 11) X hw hM.1 (fun _ _ _ _ _ _ _ => ⟨_, rfl⟩) rfl) (c_X11_isGood l G _ ma hM) wd_r21_12 wd_r21_13 wd_r21_14 wd_r1_5 wd_r21_15 ⟨by decide, by decide, by decide +kernel⟩ rfl rfl ⟨Nat.le_of_ble_eq_true rfl, Nat.le_of_ble_eq_true rfl⟩ rfl rfl hl.1 (Nat.le_of_ble_eq_true rfl) dX11_numeral_78 ⟨Nat.le_of_ble_eq_true rfl, Nat.le_of_ble_eq_true rfl⟩ (fun r78_48 S78_50 H locs h78_49 hw => ?_)
              rcases h78_49 with ⟨rfl, rfl, h78_49⟩ | ⟨rfl, rfl, h78_49⟩
              · have h78_49 : ((pI S) 104 (ma 0) : Int32).toInt = 0 := h78_49
                refine lv_if_eq (tgt := 88) hx hb dX11_numeral_81 (by decide) (fun c81_51 => absurd c81_51 (by decide)) (fun c81_51 => ?_)
                refine lv_iload_n hx hb dX11_numeral_84 rfl (lv_at hl 0 rfl) ?_
                refine lv_goto (tgt := 89) hx hb dX11_numeral_85 (by decide) ?_
                exact hret ((pI S) 109 (ma 0)) _ _ _ _ _ ⟨_, _, rfl, (FrM.up (f := 122) (by decide) FrM.rf), hE, by have := t_0; omega, by have := t_0; omega⟩ hw rfl dX11_numeral_89
              · have h78_49 : ¬ (((pI S) 104 (ma 0) : Int32).toInt = 0) := h78_49
                refine lv_if_eq (tgt := 88) hx hb dX11_numeral_81 (by decide) (fun c81_52 => ?_) (fun c81_52 => absurd c81_52 (by decide))
                refine lv_iconst (v := 0) hx hb dX11_numeral_88 (by decide) ?_
                exact hret 0 _ _ _ _ _ ⟨_, _, rfl, (FrM.up (f := 122) (by decide) FrM.rf), hE, by have := t_0; omega, by have := t_0; omega⟩ hw rfl dX11_numeral_89
          · have D49_33 := iNle c49_33 rfl rfl
            refine lv_aload_n hx hb dX11_numeral_52 rfl (lv_at hl 0 rfl) ?_
            refine lv_iconst (v := 3) hx hb dX11_numeral_53 (by decide) ?_
            refine lv_aload_n hx hb dX11_numeral_54 rfl (lv_at hl 0 rfl) ?_
            refine gf_X11_20 (v := (pI S) 106 (ma 0)) X hw hM.1 rfl dX11_numeral_55 ?_
            refine k_Vv (n := 2) X hw (rcvk (ci := 11) X hw hM.1 (fun _ _ _ _ _ _ _ => ⟨_, rfl⟩) rfl) (c_X11_fails l G _ ma 3 ((pI S) 106 (ma 0)) hM (by decide)) wd_r22_9 wd_r22_10 wd_r22_11 wd_r1_5 wd_r22_12 ⟨by decide, by decide, by decide +kernel⟩ rfl rfl ⟨Nat.le_of_ble_eq_true rfl, Nat.le_of_ble_eq_true rfl⟩ rfl rfl hl.1 (Nat.le_of_ble_eq_true rfl) dX11_numeral_58 ⟨Nat.le_of_ble_eq_true rfl, Nat.le_of_ble_eq_true rfl⟩ (fun S58_54 H locs h58_53 hw => ?_)
            have := t_3
            obtain ⟨I58_55, rfl, h58_53⟩ := h58_53
            have hw : PX G A s.heap (ch S I58_55 (pJ S) (qI S) (qJ S)) H locs := hw
            have h58_53n := h58_53.2
            refine lv_aload_n hx hb dX11_numeral_61 rfl (lv_at hl 0 rfl) ?_
            refine gf_X11_45 (v := I58_55 109 (ma 0)) X hw hM.1 rfl dX11_numeral_62 ?_
            refine lv_istore_n (lv' := [(3, .int (I58_55 109 (ma 0))), (0, .ref (ma 0)), (1, .int x), (2, .int y)]) hx hb dX11_numeral_65 rfl hl (by decide) rfl (fun ls hl => ?_)
            refine lv_aload_n hx hb dX11_numeral_66 rfl (lv_at hl 1 rfl) ?_
            refine k_Vi (n := 0) X hw (rcvk (ci := 11) X hw hM.1 (fun _ _ _ _ _ _ _ => ⟨_, rfl⟩) rfl) (c_X11_isGood l G _ ma hM) wd_r21_12 wd_r21_13 wd_r21_14 wd_r1_5 wd_r21_15 ⟨by decide, by decide, by decide +kernel⟩ rfl rfl ⟨Nat.le_of_ble_eq_true rfl, Nat.le_of_ble_eq_true rfl⟩ rfl rfl hl.1 (Nat.le_of_ble_eq_true rfl) dX11_numeral_67 ⟨Nat.le_of_ble_eq_true rfl, Nat.le_of_ble_eq_true rfl⟩ (fun r67_56 S67_58 H locs h67_57 hw => ?_)
            rcases h67_57 with ⟨rfl, rfl, h67_57⟩ | ⟨rfl, rfl, h67_57⟩
            · have h67_57 : (I58_55 104 (ma 0) : Int32).toInt = 0 := h67_57
              refine lv_if_eq (tgt := 77) hx hb dX11_numeral_70 (by decide) (fun c70_59 => absurd c70_59 (by decide)) (fun c70_59 => ?_)
              refine lv_aload_n hx hb dX11_numeral_73 rfl (lv_at hl 1 rfl) ?_
              refine k_Vv (n := 0) X hw (rcvk (ci := 11) X hw hM.1 (fun _ _ _ _ _ _ _ => ⟨_, rfl⟩) rfl) (c_X11_next l G _ ma hM (FrF.e h58_53.1 hE)) wd_r20_15 wd_r20_16 wd_r20_17 wd_r1_5 wd_r20_18 ⟨by decide, by decide, by decide +kernel⟩ rfl rfl ⟨Nat.le_of_ble_eq_true rfl, Nat.le_of_ble_eq_true rfl⟩ rfl rfl hl.1 (Nat.le_of_ble_eq_true rfl) dX11_numeral_74 ⟨Nat.le_of_ble_eq_true rfl, Nat.le_of_ble_eq_true rfl⟩ (fun S74_61 H locs h74_60 hw => ?_)
              obtain ⟨I74_62, J74_63, rfl, h74_60⟩ := h74_60
              have hw : PX G A s.heap (ch S I74_62 J74_63 (qI S) (qJ S)) H locs := hw
              refine lv_aload_n hx hb dX11_numeral_77 rfl (lv_at hl 1 rfl) ?_
              refine k_Vi (n := 0) X hw (rcvk (ci := 11) X hw hM.1 (fun _ _ _ _ _ _ _ => ⟨_, rfl⟩) rfl) (c_X11_isGood l G _ ma hM) wd_r21_12 wd_r21_13 wd_r21_14 wd_r1_5 wd_r21_15 ⟨by decide, by decide, by decide +kernel⟩ rfl rfl ⟨Nat.le_of_ble_eq_true rfl, Nat.le_of_ble_eq_true rfl⟩ rfl rfl hl.1 (Nat.le_of_ble_eq_true rfl) dX11_numeral_78 ⟨Nat.le_of_ble_eq_true rfl, Nat.le_of_ble_eq_true rfl⟩ (fun r78_64 S78_66 H locs h78_65 hw => ?_)
              rcases h78_65 with ⟨rfl, rfl, h78_65⟩ | ⟨rfl, rfl, h78_65⟩
              · have h78_65 : (I74_62 104 (ma 0) : Int32).toInt = 0 := h78_65
                refine lv_if_eq (tgt := 88) hx hb dX11_numeral_81 (by decide) (fun c81_67 => absurd c81_67 (by decide)) (fun c81_67 => ?_)
                refine lv_iload_n hx hb dX11_numeral_84 rfl (lv_at hl 0 rfl) ?_
                refine lv_goto (tgt := 89) hx hb dX11_numeral_85 (by decide) ?_
                exact hret (I58_55 109 (ma 0)) _ _ _ _ _ ⟨_, _, rfl, (FrM.tr (FrM.tr (FrM.up (f := 122) (by decide) FrM.rf) (h58_53.1.m)) (h74_60.1.m)), h74_60.2, by have := t_0; omega, by have := t_0; omega⟩ hw rfl dX11_numeral_89
              · have h78_65 : ¬ ((I74_62 104 (ma 0) : Int32).toInt = 0) := h78_65
                refine lv_if_eq (tgt := 88) hx hb dX11_numeral_81 (by decide) (fun c81_68 => ?_) (fun c81_68 => absurd c81_68 (by decide))
                refine lv_iconst (v := 0) hx hb dX11_numeral_88 (by decide) ?_
                exact hret 0 _ _ _ _ _ ⟨_, _, rfl, (FrM.tr (FrM.tr (FrM.up (f := 122) (by decide) FrM.rf) (h58_53.1.m)) (h74_60.1.m)), h74_60.2, by have := t_0; omega, by have := t_0; omega⟩ hw rfl dX11_numeral_89
            · have h67_57 : ¬ ((I58_55 104 (ma 0) : Int32).toInt = 0) := h67_57
              refine lv_if_eq (tgt := 77) hx hb dX11_numeral_70 (by decide) (fun c70_69 => ?_) (fun c70_69 => absurd c70_69 (by decide))
              refine lv_aload_n hx hb dX11_numeral_77 rfl (lv_at hl 1 rfl) ?_
              refine k_Vi (n := 0) X hw (rcvk (ci := 11) X hw hM.1 (fun _ _ _ _ _ _ _ => ⟨_, rfl⟩) rfl) (c_X11_isGood l G _ ma hM) wd_r21_12 wd_r21_13 wd_r21_14 wd_r1_5 wd_r21_15 ⟨by decide, by decide, by decide +kernel⟩ rfl rfl ⟨Nat.le_of_ble_eq_true rfl, Nat.le_of_ble_eq_true rfl⟩ rfl rfl hl.1 (Nat.le_of_ble_eq_true rfl) dX11_numeral_78 ⟨Nat.le_of_ble_eq_true rfl, Nat.le_of_ble_eq_true rfl⟩ (fun r78_70 S78_72 H locs h78_71 hw => ?_)
              rcases h78_71 with ⟨rfl, rfl, h78_71⟩ | ⟨rfl, rfl, h78_71⟩
              · have h78_71 : (I58_55 104 (ma 0) : Int32).toInt = 0 := h78_71
                refine lv_if_eq (tgt := 88) hx hb dX11_numeral_81 (by decide) (fun c81_73 => absurd c81_73 (by decide)) (fun c81_73 => ?_)
                refine lv_iload_n hx hb dX11_numeral_84 rfl (lv_at hl 0 rfl) ?_
                refine lv_goto (tgt := 89) hx hb dX11_numeral_85 (by decide) ?_
                exact hret (I58_55 109 (ma 0)) _ _ _ _ _ ⟨_, _, rfl, (FrM.tr (FrM.up (f := 122) (by decide) FrM.rf) (h58_53.1.m)), (FrF.e h58_53.1 hE), by have := t_0; omega, by have := t_0; omega⟩ hw rfl dX11_numeral_89
              · have h78_71 : ¬ ((I58_55 104 (ma 0) : Int32).toInt = 0) := h78_71
                refine lv_if_eq (tgt := 88) hx hb dX11_numeral_81 (by decide) (fun c81_74 => ?_) (fun c81_74 => absurd c81_74 (by decide))
                refine lv_iconst (v := 0) hx hb dX11_numeral_88 (by decide) ?_
                exact hret 0 _ _ _ _ _ ⟨_, _, rfl, (FrM.tr (FrM.up (f := 122) (by decide) FrM.rf) (h58_53.1.m)), (FrF.e h58_53.1 hE), by have := t_0; omega, by have := t_0; omega⟩ hw rfl dX11_numeral_89
      · have h30_7 : ¬ (((pI S) 104 (ma 0) : Int32).toInt = 0) := h30_7
        refine lv_if_eq (tgt := 61) hx hb dX11_numeral_33 (by decide) (fun c33_75 => ?_) (fun c33_75 => absurd c33_75 (by decide))
        refine lv_aload_n hx hb dX11_numeral_61 rfl (lv_at hl 0 rfl) ?_
        refine gf_X11_45 (v := (pI S) 109 (ma 0)) X hw hM.1 rfl dX11_numeral_62 ?_
        refine lv_istore_n (lv' := [(3, .int ((pI S) 109 (ma 0))), (0, .ref (ma 0)), (1, .int x), (2, .int y)]) hx hb dX11_numeral_65 rfl hl (by decide) rfl (fun ls hl => ?_)
        refine lv_aload_n hx hb dX11_numeral_66 rfl (lv_at hl 1 rfl) ?_
        refine k_Vi (n := 0) X hw (rcvk (ci := 11) X hw hM.1 (fun _ _ _ _ _ _ _ => ⟨_, rfl⟩) rfl) (c_X11_isGood l G _ ma hM) wd_r21_12 wd_r21_13 wd_r21_14 wd_r1_5 wd_r21_15 ⟨by decide, by decide, by decide +kernel⟩ rfl rfl ⟨Nat.le_of_ble_eq_true rfl, Nat.le_of_ble_eq_true rfl⟩ rfl rfl hl.1 (Nat.le_of_ble_eq_true rfl) dX11_numeral_67 ⟨Nat.le_of_ble_eq_true rfl, Nat.le_of_ble_eq_true rfl⟩ (fun r67_76 S67_78 H locs h67_77 hw => ?_)
        rcases h67_77 with ⟨rfl, rfl, h67_77⟩ | ⟨rfl, rfl, h67_77⟩
        · have h67_77 : ((pI S) 104 (ma 0) : Int32).toInt = 0 := h67_77
          refine lv_if_eq (tgt := 77) hx hb dX11_numeral_70 (by decide) (fun c70_79 => absurd c70_79 (by decide)) (fun c70_79 => ?_)
          refine lv_aload_n hx hb dX11_numeral_73 rfl (lv_at hl 1 rfl) ?_
          refine k_Vv (n := 0) X hw (rcvk (ci := 11) X hw hM.1 (fun _ _ _ _ _ _ _ => ⟨_, rfl⟩) rfl) (c_X11_next l G _ ma hM hE) wd_r20_15 wd_r20_16 wd_r20_17 wd_r1_5 wd_r20_18 ⟨by decide, by decide, by decide +kernel⟩ rfl rfl ⟨Nat.le_of_ble_eq_true rfl, Nat.le_of_ble_eq_true rfl⟩ rfl rfl hl.1 (Nat.le_of_ble_eq_true rfl) dX11_numeral_74 ⟨Nat.le_of_ble_eq_true rfl, Nat.le_of_ble_eq_true rfl⟩ (fun S74_81 H locs h74_80 hw => ?_)
          obtain ⟨I74_82, J74_83, rfl, h74_80⟩ := h74_80
          have hw : PX G A s.heap (ch S I74_82 J74_83 (qI S) (qJ S)) H locs := hw
          refine lv_aload_n hx hb dX11_numeral_77 rfl (lv_at hl 1 rfl) ?_
          refine k_Vi (n := 0) X hw (rcvk (ci := 11) X hw hM.1 (fun _ _ _ _ _ _ _ => ⟨_, rfl⟩) rfl) (c_X11_isGood l G _ ma hM) wd_r21_12 wd_r21_13 wd_r21_14 wd_r1_5 wd_r21_15 ⟨by decide, by decide, by decide +kernel⟩ rfl rfl ⟨Nat.le_of_ble_eq_true rfl, Nat.le_of_ble_eq_true rfl⟩ rfl rfl hl.1 (Nat.le_of_ble_eq_true rfl) dX11_numeral_78 ⟨Nat.le_of_ble_eq_true rfl, Nat.le_of_ble_eq_true rfl⟩ (fun r78_84 S78_86 H locs h78_85 hw => ?_)
          rcases h78_85 with ⟨rfl, rfl, h78_85⟩ | ⟨rfl, rfl, h78_85⟩
          · have h78_85 : (I74_82 104 (ma 0) : Int32).toInt = 0 := h78_85
            refine lv_if_eq (tgt := 88) hx hb dX11_numeral_81 (by decide) (fun c81_87 => absurd c81_87 (by decide)) (fun c81_87 => ?_)
            refine lv_iload_n hx hb dX11_numeral_84 rfl (lv_at hl 0 rfl) ?_
            refine lv_goto (tgt := 89) hx hb dX11_numeral_85 (by decide) ?_
            exact hret ((pI S) 109 (ma 0)) _ _ _ _ _ ⟨_, _, rfl, (FrM.tr (FrM.up (f := 122) (by decide) FrM.rf) (h74_80.1.m)), h74_80.2, by have := t_0; omega, by have := t_0; omega⟩ hw rfl dX11_numeral_89
          · have h78_85 : ¬ ((I74_82 104 (ma 0) : Int32).toInt = 0) := h78_85
            refine lv_if_eq (tgt := 88) hx hb dX11_numeral_81 (by decide) (fun c81_88 => ?_) (fun c81_88 => absurd c81_88 (by decide))
            refine lv_iconst (v := 0) hx hb dX11_numeral_88 (by decide) ?_
            exact hret 0 _ _ _ _ _ ⟨_, _, rfl, (FrM.tr (FrM.up (f := 122) (by decide) FrM.rf) (h74_80.1.m)), h74_80.2, by have := t_0; omega, by have := t_0; omega⟩ hw rfl dX11_numeral_89
        · have h67_77 : ¬ (((pI S) 104 (ma 0) : Int32).toInt = 0) := h67_77
          refine lv_if_eq (tgt := 77) hx hb dX11_numeral_70 (by decide) (fun c70_89 => ?_) (fun c70_89 => absurd c70_89 (by decide))
          refine lv_aload_n hx hb dX11_numeral_77 rfl (lv_at hl 1 rfl) ?_
          refine k_Vi (n := 0) X hw (rcvk (ci := 11) X hw hM.1 (fun _ _ _ _ _ _ _ => ⟨_, rfl⟩) rfl) (c_X11_isGood l G _ ma hM) wd_r21_12 wd_r21_13 wd_r21_14 wd_r1_5 wd_r21_15 ⟨by decide, by decide, by decide +kernel⟩ rfl rfl ⟨Nat.le_of_ble_eq_true rfl, Nat.le_of_ble_eq_true rfl⟩ rfl rfl hl.1 (Nat.le_of_ble_eq_true rfl) dX11_numeral_78 ⟨Nat.le_of_ble_eq_true rfl, Nat.le_of_ble_eq_true rfl⟩ (fun r78_90 S78_92 H locs h78_91 hw => ?_)
          rcases h78_91 with ⟨rfl, rfl, h78_91⟩ | ⟨rfl, rfl, h78_91⟩
          · have h78_91 : ((pI S) 104 (ma 0) : Int32).toInt = 0 := h78_91
            refine lv_if_eq (tgt := 88) hx hb dX11_numeral_81 (by decide) (fun c81_93 => absurd c81_93 (by decide)) (fun c81_93 => ?_)
            refine lv_iload_n hx hb dX11_numeral_84 rfl (lv_at hl 0 rfl) ?_
            refine lv_goto (tgt := 89) hx hb dX11_numeral_85 (by decide) ?_
            exact hret ((pI S) 109 (ma 0)) _ _ _ _ _ ⟨_, _, rfl, (FrM.up (f := 122) (by decide) FrM.rf), hE, by have := t_0; omega, by have := t_0; omega⟩ hw rfl dX11_numeral_89
          · have h78_91 : ¬ (((pI S) 104 (ma 0) : Int32).toInt = 0) := h78_91
            refine lv_if_eq (tgt := 88) hx hb dX11_numeral_81 (by decide) (fun c81_94 => ?_) (fun c81_94 => absurd c81_94 (by decide))
            refine lv_iconst (v := 0) hx hb dX11_numeral_88 (by decide) ?_
            exact hret 0 _ _ _ _ _ ⟨_, _, rfl, (FrM.up (f := 122) (by decide) FrM.rf), hE, by have := t_0; omega, by have := t_0; omega⟩ hw rfl dX11_numeral_89
    · skip
      refine lv_aload_n hx hb dX11_numeral_25 rfl (lv_at hl 0 rfl) ?_
      refine k_Vv (n := 0) X hw (rcvk (ci := 11) X hw hM.1 (fun _ _ _ _ _ _ _ => ⟨_, rfl⟩) rfl) (c_X11_wrong l G _ ma hM) wd_r22_5 wd_r22_6 wd_r22_7 wd_r1_5 wd_r22_8 ⟨by decide, by decide, by decide +kernel⟩ rfl rfl ⟨Nat.le_of_ble_eq_true rfl, Nat.le_of_ble_eq_true rfl⟩ rfl rfl hl.1 (Nat.le_of_ble_eq_true rfl) dX11_numeral_26 ⟨Nat.le_of_ble_eq_true rfl, Nat.le_of_ble_eq_true rfl⟩ (fun S26_96 H locs h26_95 hw => ?_)
      obtain ⟨I26_97, rfl, h26_95⟩ := h26_95
      have hw : PX G A s.heap (ch S I26_97 (pJ S) (qI S) (qJ S)) H locs := hw
      have h26_95n := h26_95.2
      refine lv_aload_n hx hb dX11_numeral_29 rfl (lv_at hl 0 rfl) ?_
      refine k_Vi (n := 0) X hw (rcvk (ci := 11) X hw hM.1 (fun _ _ _ _ _ _ _ => ⟨_, rfl⟩) rfl) (c_X11_isGood l G _ ma hM) wd_r21_12 wd_r21_13 wd_r21_14 wd_r1_5 wd_r21_15 ⟨by decide, by decide, by decide +kernel⟩ rfl rfl ⟨Nat.le_of_ble_eq_true rfl, Nat.le_of_ble_eq_true rfl⟩ rfl rfl hl.1 (Nat.le_of_ble_eq_true rfl) dX11_numeral_30 ⟨Nat.le_of_ble_eq_true rfl, Nat.le_of_ble_eq_true rfl⟩ (fun r30_98 S30_100 H locs h30_99 hw => ?_)
      rcases h30_99 with ⟨rfl, rfl, h30_99⟩ | ⟨rfl, rfl, h30_99⟩
      · have h30_99 : (I26_97 104 (ma 0) : Int32).toInt = 0 := h30_99
        refine lv_if_eq (tgt := 61) hx hb dX11_numeral_33 (by decide) (fun c33_101 => absurd c33_101 (by decide)) (fun c33_101 => ?_)
        refine lv_aload_n hx hb dX11_numeral_36 rfl (lv_at hl 0 rfl) ?_
        refine gf_X11_45 (v := I26_97 109 (ma 0)) X hw hM.1 rfl dX11_numeral_37 ?_
        refine lv_iload_n hx hb dX11_numeral_40 rfl (lv_at hl 1 rfl) ?_
        refine lv_icmp_lt (tgt := 52) hx hb dX11_numeral_41 (by decide) (fun c41_102 => ?_) (fun c41_102 => ?_)
        · have D41_102 := iLt c41_102 rfl rfl
          refine lv_aload_n hx hb dX11_numeral_52 rfl (lv_at hl 0 rfl) ?_
          refine lv_iconst (v := 3) hx hb dX11_numeral_53 (by decide) ?_
          refine lv_aload_n hx hb dX11_numeral_54 rfl (lv_at hl 0 rfl) ?_
          refine gf_X11_20 (v := I26_97 106 (ma 0)) X hw hM.1 rfl dX11_numeral_55 ?_
          refine k_Vv (n := 2) X hw (rcvk (ci := 11) X hw hM.1 (fun _ _ _ _ _ _ _ => ⟨_, rfl⟩) rfl) (c_X11_fails l G _ ma 3 (I26_97 106 (ma 0)) hM (by decide)) wd_r22_9 wd_r22_10 wd_r22_11 wd_r1_5 wd_r22_12 ⟨by decide, by decide, by decide +kernel⟩ rfl rfl ⟨Nat.le_of_ble_eq_true rfl, Nat.le_of_ble_eq_true rfl⟩ rfl rfl hl.1 (Nat.le_of_ble_eq_true rfl) dX11_numeral_58 ⟨Nat.le_of_ble_eq_true rfl, Nat.le_of_ble_eq_true rfl⟩ (fun S58_104 H locs h58_103 hw => ?_)
          have := t_3
          obtain ⟨I58_105, rfl, h58_103⟩ := h58_103
          have hw : PX G A s.heap (ch S I58_105 (pJ S) (qI S) (qJ S)) H locs := hw
          have h58_103n := h58_103.2
          refine lv_aload_n hx hb dX11_numeral_61 rfl (lv_at hl 0 rfl) ?_
          refine gf_X11_45 (v := I58_105 109 (ma 0)) X hw hM.1 rfl dX11_numeral_62 ?_
          refine lv_istore_n (lv' := [(3, .int (I58_105 109 (ma 0))), (0, .ref (ma 0)), (1, .int x), (2, .int y)]) hx hb dX11_numeral_65 rfl hl (by decide) rfl (fun ls hl => ?_)
          refine lv_aload_n hx hb dX11_numeral_66 rfl (lv_at hl 1 rfl) ?_
          refine k_Vi (n := 0) X hw (rcvk (ci := 11) X hw hM.1 (fun _ _ _ _ _ _ _ => ⟨_, rfl⟩) rfl) (c_X11_isGood l G _ ma hM) wd_r21_12 wd_r21_13 wd_r21_14 wd_r1_5 wd_r21_15 ⟨by decide, by decide, by decide +kernel⟩ rfl rfl ⟨Nat.le_of_ble_eq_true rfl, Nat.le_of_ble_eq_true rfl⟩ rfl rfl hl.1 (Nat.le_of_ble_eq_true rfl) dX11_numeral_67 ⟨Nat.le_of_ble_eq_true rfl, Nat.le_of_ble_eq_true rfl⟩ (fun r67_106 S67_108 H locs h67_107 hw => ?_)
          rcases h67_107 with ⟨rfl, rfl, h67_107⟩ | ⟨rfl, rfl, h67_107⟩
          · have h67_107 : (I58_105 104 (ma 0) : Int32).toInt = 0 := h67_107
            refine lv_if_eq (tgt := 77) hx hb dX11_numeral_70 (by decide) (fun c70_109 => absurd c70_109 (by decide)) (fun c70_109 => ?_)
            refine lv_aload_n hx hb dX11_numeral_73 rfl (lv_at hl 1 rfl) ?_
            refine k_Vv (n := 0) X hw (rcvk (ci := 11) X hw hM.1 (fun _ _ _ _ _ _ _ => ⟨_, rfl⟩) rfl) (c_X11_next l G _ ma hM (FrF.e h58_103.1 (FrF.e h26_95.1 hE))) wd_r20_15 wd_r20_16 wd_r20_17 wd_r1_5 wd_r20_18 ⟨by decide, by decide, by decide +kernel⟩ rfl rfl ⟨Nat.le_of_ble_eq_true rfl, Nat.le_of_ble_eq_true rfl⟩ rfl rfl hl.1 (Nat.le_of_ble_eq_true rfl) dX11_numeral_74 ⟨Nat.le_of_ble_eq_true rfl, Nat.le_of_ble_eq_true rfl⟩ (fun S74_111 H locs h74_110 hw => ?_)
            obtain ⟨I74_112, J74_113, rfl, h74_110⟩ := h74_110
            have hw : PX G A s.heap (ch S I74_112 J74_113 (qI S) (qJ S)) H locs := hw
            refine lv_aload_n hx hb dX11_numeral_77 rfl (lv_at hl 1 rfl) ?_
            refine k_Vi (n := 0) X hw (rcvk (ci := 11) X hw hM.1 (fun _ _ _ _ _ _ _ => ⟨_, rfl⟩) rfl) (c_X11_isGood l G _ ma hM) wd_r21_12 wd_r21_13 wd_r21_14 wd_r1_5 wd_r21_15 ⟨by decide, by decide, by decide +kernel⟩ rfl rfl ⟨Nat.le_of_ble_eq_true rfl, Nat.le_of_ble_eq_true rfl⟩ rfl rfl hl.1 (Nat.le_of_ble_eq_true rfl) dX11_numeral_78 ⟨Nat.le_of_ble_eq_true rfl, Nat.le_of_ble_eq_true rfl⟩ (fun r78_114 S78_116 H locs h78_115 hw => ?_)
            rcases h78_115 with ⟨rfl, rfl, h78_115⟩ | ⟨rfl, rfl, h78_115⟩
            · have h78_115 : (I74_112 104 (ma 0) : Int32).toInt = 0 := h78_115
              refine lv_if_eq (tgt := 88) hx hb dX11_numeral_81 (by decide) (fun c81_117 => absurd c81_117 (by decide)) (fun c81_117 => ?_)
              refine lv_iload_n hx hb dX11_numeral_84 rfl (lv_at hl 0 rfl) ?_
              refine lv_goto (tgt := 89) hx hb dX11_numeral_85 (by decide) ?_
              exact hret (I58_105 109 (ma 0)) _ _ _ _ _ ⟨_, _, rfl, (FrM.tr (FrM.tr (FrM.tr (FrM.up (f := 122) (by decide) FrM.rf) (h26_95.1.m)) (h58_103.1.m)) (h74_110.1.m)), h74_110.2, by have := t_0; omega, by have := t_0; omega⟩ hw rfl dX11_numeral_89
            · have h78_115 : ¬ ((I74_112 104 (ma 0) : Int32).toInt = 0) := h78_115
              refine lv_if_eq (tgt := 88) hx hb dX11_numeral_81 (by decide) (fun c81_118 => ?_) (fun c81_118 => absurd c81_118 (by decide))
              refine lv_iconst (v := 0) hx hb dX11_numeral_88 (by decide) ?_
              exact hret 0 _ _ _ _ _ ⟨_, _, rfl, (FrM.tr (FrM.tr (FrM.tr (FrM.up (f := 122) (by decide) FrM.rf) (h26_95.1.m)) (h58_103.1.m)) (h74_110.1.m)), h74_110.2, by have := t_0; omega, by have := t_0; omega⟩ hw rfl dX11_numeral_89
          · have h67_107 : ¬ ((I58_105 104 (ma 0) : Int32).toInt = 0) := h67_107
            refine lv_if_eq (tgt := 77) hx hb dX11_numeral_70 (by decide) (fun c70_119 => ?_) (fun c70_119 => absurd c70_119 (by decide))
            refine lv_aload_n hx hb dX11_numeral_77 rfl (lv_at hl 1 rfl) ?_
            refine k_Vi (n := 0) X hw (rcvk (ci := 11) X hw hM.1 (fun _ _ _ _ _ _ _ => ⟨_, rfl⟩) rfl) (c_X11_isGood l G _ ma hM) wd_r21_12 wd_r21_13 wd_r21_14 wd_r1_5 wd_r21_15 ⟨by decide, by decide, by decide +kernel⟩ rfl rfl ⟨Nat.le_of_ble_eq_true rfl, Nat.le_of_ble_eq_true rfl⟩ rfl rfl hl.1 (Nat.le_of_ble_eq_true rfl) dX11_numeral_78 ⟨Nat.le_of_ble_eq_true rfl, Nat.le_of_ble_eq_true rfl⟩ (fun r78_120 S78_122 H locs h78_121 hw => ?_)
            rcases h78_121 with ⟨rfl, rfl, h78_121⟩ | ⟨rfl, rfl, h78_121⟩
            · have h78_121 : (I58_105 104 (ma 0) : Int32).toInt = 0 := h78_121
              refine lv_if_eq (tgt := 88) hx hb dX11_numeral_81 (by decide) (fun c81_123 => absurd c81_123 (by decide)) (fun c81_123 => ?_)
              refine lv_iload_n hx hb dX11_numeral_84 rfl (lv_at hl 0 rfl) ?_
              refine lv_goto (tgt := 89) hx hb dX11_numeral_85 (by decide) ?_
              exact hret (I58_105 109 (ma 0)) _ _ _ _ _ ⟨_, _, rfl, (FrM.tr (FrM.tr (FrM.up (f := 122) (by decide) FrM.rf) (h26_95.1.m)) (h58_103.1.m)), (FrF.e h58_103.1 (FrF.e h26_95.1 hE)), by have := t_0; omega, by have := t_0; omega⟩ hw rfl dX11_numeral_89
            · have h78_121 : ¬ ((I58_105 104 (ma 0) : Int32).toInt = 0) := h78_121
              refine lv_if_eq (tgt := 88) hx hb dX11_numeral_81 (by decide) (fun c81_124 => ?_) (fun c81_124 => absurd c81_124 (by decide))
              refine lv_iconst (v := 0) hx hb dX11_numeral_88 (by decide) ?_
              exact hret 0 _ _ _ _ _ ⟨_, _, rfl, (FrM.tr (FrM.tr (FrM.up (f := 122) (by decide) FrM.rf) (h26_95.1.m)) (h58_103.1.m)), (FrF.e h58_103.1 (FrF.e h26_95.1 hE)), by have := t_0; omega, by have := t_0; omega⟩ hw rfl dX11_numeral_89
        · have D41_102 := iNlt c41_102 rfl rfl
          refine lv_aload_n hx hb dX11_numeral_44 rfl (lv_at hl 0 rfl) ?_
          refine gf_X11_45 (v := I26_97 109 (ma 0)) X hw hM.1 rfl dX11_numeral_45 ?_
          refine lv_iload_n hx hb dX11_numeral_48 rfl (lv_at hl 2 rfl) ?_
          refine lv_icmp_le (tgt := 61) hx hb dX11_numeral_49 (by decide) (fun c49_125 => ?_) (fun c49_125 => ?_)
          · have D49_125 := iLe c49_125 rfl rfl
            refine lv_aload_n hx hb dX11_numeral_61 rfl (lv_at hl 0 rfl) ?_
            refine gf_X11_45 (v := I26_97 109 (ma 0)) X hw hM.1 rfl dX11_numeral_62 ?_
            refine lv_istore_n (lv' := [(3, .int (I26_97 109 (ma 0))), (0, .ref (ma 0)), (1, .int x), (2, .int y)]) hx hb dX11_numeral_65 rfl hl (by decide) rfl (fun ls hl => ?_)
            refine lv_aload_n hx hb dX11_numeral_66 rfl (lv_at hl 1 rfl) ?_
            refine k_Vi (n := 0) X hw (rcvk (ci := 11) X hw hM.1 (fun _ _ _ _ _ _ _ => ⟨_, rfl⟩) rfl) (c_X11_isGood l G _ ma hM) wd_r21_12 wd_r21_13 wd_r21_14 wd_r1_5 wd_r21_15 ⟨by decide, by decide, by decide +kernel⟩ rfl rfl ⟨Nat.le_of_ble_eq_true rfl, Nat.le_of_ble_eq_true rfl⟩ rfl rfl hl.1 (Nat.le_of_ble_eq_true rfl) dX11_numeral_67 ⟨Nat.le_of_ble_eq_true rfl, Nat.le_of_ble_eq_true rfl⟩ (fun r67_126 S67_128 H locs h67_127 hw => ?_)
            rcases h67_127 with ⟨rfl, rfl, h67_127⟩ | ⟨rfl, rfl, h67_127⟩
            · have h67_127 : (I26_97 104 (ma 0) : Int32).toInt = 0 := h67_127
              refine lv_if_eq (tgt := 77) hx hb dX11_numeral_70 (by decide) (fun c70_129 => absurd c70_129 (by decide)) (fun c70_129 => ?_)
              refine lv_aload_n hx hb dX11_numeral_73 rfl (lv_at hl 1 rfl) ?_
              refine k_Vv (n := 0) X hw (rcvk (ci := 11) X hw hM.1 (fun _ _ _ _ _ _ _ => ⟨_, rfl⟩) rfl) (c_X11_next l G _ ma hM (FrF.e h26_95.1 hE)) wd_r20_15 wd_r20_16 wd_r20_17 wd_r1_5 wd_r20_18 ⟨by decide, by decide, by decide +kernel⟩ rfl rfl ⟨Nat.le_of_ble_eq_true rfl, Nat.le_of_ble_eq_true rfl⟩ rfl rfl hl.1 (Nat.le_of_ble_eq_true rfl) dX11_numeral_74 ⟨Nat.le_of_ble_eq_true rfl, Nat.le_of_ble_eq_true rfl⟩ (fun S74_131 H locs h74_130 hw => ?_)
              obtain ⟨I74_132, J74_133, rfl, h74_130⟩ := h74_130
              have hw : PX G A s.heap (ch S I74_132 J74_133 (qI S) (qJ S)) H locs := hw
              refine lv_aload_n hx hb dX11_numeral_77 rfl (lv_at hl 1 rfl) ?_
              refine k_Vi (n := 0) X hw (rcvk (ci := 11) X hw hM.1 (fun _ _ _ _ _ _ _ => ⟨_, rfl⟩) rfl) (c_X11_isGood l G _ ma hM) wd_r21_12 wd_r21_13 wd_r21_14 wd_r1_5 wd_r21_15 ⟨by decide, by decide, by decide +kernel⟩ rfl rfl ⟨Nat.le_of_ble_eq_true rfl, Nat.le_of_ble_eq_true rfl⟩ rfl rfl hl.1 (Nat.le_of_ble_eq_true rfl) dX11_numeral_78 ⟨Nat.le_of_ble_eq_true rfl, Nat.le_of_ble_eq_true rfl⟩ (fun r78_134 S78_136 H locs h78_135 hw => ?_)
              rcases h78_135 with ⟨rfl, rfl, h78_135⟩ | ⟨rfl, rfl, h78_135⟩
              · have h78_135 : (I74_132 104 (ma 0) : Int32).toInt = 0 := h78_135
                refine lv_if_eq (tgt := 88) hx hb dX11_numeral_81 (by decide) (fun c81_137 => absurd c81_137 (by decide)) (fun c81_137 => ?_)
                refine lv_iload_n hx hb dX11_numeral_84 rfl (lv_at hl 0 rfl) ?_
                refine lv_goto (tgt := 89) hx hb dX11_numeral_85 (by decide) ?_
                exact hret (I26_97 109 (ma 0)) _ _ _ _ _ ⟨_, _, rfl, (FrM.tr (FrM.tr (FrM.up (f := 122) (by decide) FrM.rf) (h26_95.1.m)) (h74_130.1.m)), h74_130.2, by have := t_0; omega, by have := t_0; omega⟩ hw rfl dX11_numeral_89
              · have h78_135 : ¬ ((I74_132 104 (ma 0) : Int32).toInt = 0) := h78_135
                refine lv_if_eq (tgt := 88) hx hb dX11_numeral_81 (by decide) (fun c81_138 => ?_) (fun c81_138 => absurd c81_138 (by decide))
                refine lv_iconst (v := 0) hx hb dX11_numeral_88 (by decide) ?_
                exact hret 0 _ _ _ _ _ ⟨_, _, rfl, (FrM.tr (FrM.tr (FrM.up (f := 122) (by decide) FrM.rf) (h26_95.1.m)) (h74_130.1.m)), h74_130.2, by have := t_0; omega, by have := t_0; omega⟩ hw rfl dX11_numeral_89
            · have h67_127 : ¬ ((I26_97 104 (ma 0) : Int32).toInt = 0) := h67_127
              refine lv_if_eq (tgt := 77) hx hb dX11_numeral_70 (by decide) (fun c70_139 => ?_) (fun c70_139 => absurd c70_139 (by decide))
              refine lv_aload_n hx hb dX11_numeral_77 rfl (lv_at hl 1 rfl) ?_
              refine k_Vi (n := 0) X hw (rcvk (ci := 11) X hw hM.1 (fun _ _ _ _ _ _ _ => ⟨_, rfl⟩) rfl) (c_X11_isGood l G _ ma hM) wd_r21_12 wd_r21_13 wd_r21_14 wd_r1_5 wd_r21_15 ⟨by decide, by decide, by decide +kernel⟩ rfl rfl ⟨Nat.le_of_ble_eq_true rfl, Nat.le_of_ble_eq_true rfl⟩ rfl rfl hl.1 (Nat.le_of_ble_eq_true rfl) dX11_numeral_78 ⟨Nat.le_of_ble_eq_true rfl, Nat.le_of_ble_eq_true rfl⟩ (fun r78_140 S78_142 H locs h78_141 hw => ?_)
              rcases h78_141 with ⟨rfl, rfl, h78_141⟩ | ⟨rfl, rfl, h78_141⟩
              · have h78_141 : (I26_97 104 (ma 0) : Int32).toInt = 0 := h78_141
                refine lv_if_eq (tgt := 88) hx hb dX11_numeral_81 (by decide) (fun c81_143 => absurd c81_143 (by decide)) (fun c81_143 => ?_)
                refine lv_iload_n hx hb dX11_numeral_84 rfl (lv_at hl 0 rfl) ?_
                refine lv_goto (tgt := 89) hx hb dX11_numeral_85 (by decide) ?_
                exact hret (I26_97 109 (ma 0)) _ _ _ _ _ ⟨_, _, rfl, (FrM.tr (FrM.up (f := 122) (by decide) FrM.rf) (h26_95.1.m)), (FrF.e h26_95.1 hE), by have := t_0; omega, by have := t_0; omega⟩ hw rfl dX11_numeral_89
              · have h78_141 : ¬ ((I26_97 104 (ma 0) : Int32).toInt = 0) := h78_141
                refine lv_if_eq (tgt := 88) hx hb dX11_numeral_81 (by decide) (fun c81_144 => ?_) (fun c81_144 => absurd c81_144 (by decide))
                refine lv_iconst (v := 0) hx hb dX11_numeral_88 (by decide) ?_
                exact hret 0 _ _ _ _ _ ⟨_, _, rfl, (FrM.tr (FrM.up (f := 122) (by decide) FrM.rf) (h26_95.1.m)), (FrF.e h26_95.1 hE), by have := t_0; omega, by have := t_0; omega⟩ hw rfl dX11_numeral_89
          · have D49_125 := iNle c49_125 rfl rfl
            refine lv_aload_n hx hb dX11_numeral_52 rfl (lv_at hl 0 rfl) ?_
            refine lv_iconst (v := 3) hx hb dX11_numeral_53 (by decide) ?_
            refine lv_aload_n hx hb dX11_numeral_54 rfl (lv_at hl 0 rfl) ?_
            refine gf_X11_20 (v := I26_97 106 (ma 0)) X hw hM.1 rfl dX11_numeral_55 ?_
            refine k_Vv (n := 2) X hw (rcvk (ci := 11) X hw hM.1 (fun _ _ _ _ _ _ _ => ⟨_, rfl⟩) rfl) (c_X11_fails l G _ ma 3 (I26_97 106 (ma 0)) hM (by decide)) wd_r22_9 wd_r22_10 wd_r22_11 wd_r1_5 wd_r22_12 ⟨by decide, by decide, by decide +kernel⟩ rfl rfl ⟨Nat.le_of_ble_eq_true rfl, Nat.le_of_ble_eq_true rfl⟩ rfl rfl hl.1 (Nat.le_of_ble_eq_true rfl) dX11_numeral_58 ⟨Nat.le_of_ble_eq_true rfl, Nat.le_of_ble_eq_true rfl⟩ (fun S58_146 H locs h58_145 hw => ?_)
            have := t_3
            obtain ⟨I58_147, rfl, h58_145⟩ := h58_145
            have hw : PX G A s.heap (ch S I58_147 (pJ S) (qI S) (qJ S)) H locs := hw
            have h58_145n := h58_145.2
            refine lv_aload_n hx hb dX11_numeral_61 rfl (lv_at hl 0 rfl) ?_
            refine gf_X11_45 (v := I58_147 109 (ma 0)) X hw hM.1 rfl dX11_numeral_62 ?_
            refine lv_istore_n (lv' := [(3, .int (I58_147 109 (ma 0))), (0, .ref (ma 0)), (1, .int x), (2, .int y)]) hx hb dX11_numeral_65 rfl hl (by decide) rfl (fun ls hl => ?_)
            refine lv_aload_n hx hb dX11_numeral_66 rfl (lv_at hl 1 rfl) ?_
            refine k_Vi (n := 0) X hw (rcvk (ci := 11) X hw hM.1 (fun _ _ _ _ _ _ _ => ⟨_, rfl⟩) rfl) (c_X11_isGood l G _ ma hM) wd_r21_12 wd_r21_13 wd_r21_14 wd_r1_5 wd_r21_15 ⟨by decide, by decide, by decide +kernel⟩ rfl rfl ⟨Nat.le_of_ble_eq_true rfl, Nat.le_of_ble_eq_true rfl⟩ rfl rfl hl.1 (Nat.le_of_ble_eq_true rfl) dX11_numeral_67 ⟨Nat.le_of_ble_eq_true rfl, Nat.le_of_ble_eq_true rfl⟩ (fun r67_148 S67_150 H locs h67_149 hw => ?_)
            rcases h67_149 with ⟨rfl, rfl, h67_149⟩ | ⟨rfl, rfl, h67_149⟩
            · have h67_149 : (I58_147 104 (ma 0) : Int32).toInt = 0 := h67_149
              refine lv_if_eq (tgt := 77) hx hb dX11_numeral_70 (by decide) (fun c70_151 => absurd c70_151 (by decide)) (fun c70_151 => ?_)
              refine lv_aload_n hx hb dX11_numeral_73 rfl (lv_at hl 1 rfl) ?_
              refine k_Vv (n := 0) X hw (rcvk (ci := 11) X hw hM.1 (fun _ _ _ _ _ _ _ => ⟨_, rfl⟩) rfl) (c_X11_next l G _ ma hM (FrF.e h58_145.1 (FrF.e h26_95.1 hE))) wd_r20_15 wd_r20_16 wd_r20_17 wd_r1_5 wd_r20_18 ⟨by decide, by decide, by decide +kernel⟩ rfl rfl ⟨Nat.le_of_ble_eq_true rfl, Nat.le_of_ble_eq_true rfl⟩ rfl rfl hl.1 (Nat.le_of_ble_eq_true rfl) dX11_numeral_74 ⟨Nat.le_of_ble_eq_true rfl, Nat.le_of_ble_eq_true rfl⟩ (fun S74_153 H locs h74_152 hw => ?_)
              obtain ⟨I74_154, J74_155, rfl, h74_152⟩ := h74_152
              have hw : PX G A s.heap (ch S I74_154 J74_155 (qI S) (qJ S)) H locs := hw
              refine lv_aload_n hx hb dX11_numeral_77 rfl (lv_at hl 1 rfl) ?_
              refine k_Vi (n := 0) X hw (rcvk (ci := 11) X hw hM.1 (fun _ _ _ _ _ _ _ => ⟨_, rfl⟩) rfl) (c_X11_isGood l G _ ma hM) wd_r21_12 wd_r21_13 wd_r21_14 wd_r1_5 wd_r21_15 ⟨by decide, by decide, by decide +kernel⟩ rfl rfl ⟨Nat.le_of_ble_eq_true rfl, Nat.le_of_ble_eq_true rfl⟩ rfl rfl hl.1 (Nat.le_of_ble_eq_true rfl) dX11_numeral_78 ⟨Nat.le_of_ble_eq_true rfl, Nat.le_of_ble_eq_true rfl⟩ (fun r78_156 S78_158 H locs h78_157 hw => ?_)
              rcases h78_157 with ⟨rfl, rfl, h78_157⟩ | ⟨rfl, rfl, h78_157⟩
              · have h78_157 : (I74_154 104 (ma 0) : Int32).toInt = 0 := h78_157
                refine lv_if_eq (tgt := 88) hx hb dX11_numeral_81 (by decide) (fun c81_159 => absurd c81_159 (by decide)) (fun c81_159 => ?_)
                refine lv_iload_n hx hb dX11_numeral_84 rfl (lv_at hl 0 rfl) ?_
                refine lv_goto (tgt := 89) hx hb dX11_numeral_85 (by decide) ?_
                exact hret (I58_147 109 (ma 0)) _ _ _ _ _ ⟨_, _, rfl, (FrM.tr (FrM.tr (FrM.tr (FrM.up (f := 122) (by decide) FrM.rf) (h26_95.1.m)) (h58_145.1.m)) (h74_152.1.m)), h74_152.2, by have := t_0; omega, by have := t_0; omega⟩ hw rfl dX11_numeral_89
              · have h78_157 : ¬ ((I74_154 104 (ma 0) : Int32).toInt = 0) := h78_157
                refine lv_if_eq (tgt := 88) hx hb dX11_numeral_81 (by decide) (fun c81_160 => ?_) (fun c81_160 => absurd c81_160 (by decide))
                refine lv_iconst (v := 0) hx hb dX11_numeral_88 (by decide) ?_
                exact hret 0 _ _ _ _ _ ⟨_, _, rfl, (FrM.tr (FrM.tr (FrM.tr (FrM.up (f := 122) (by decide) FrM.rf) (h26_95.1.m)) (h58_145.1.m)) (h74_152.1.m)), h74_152.2, by have := t_0; omega, by have := t_0; omega⟩ hw rfl dX11_numeral_89
            · have h67_149 : ¬ ((I58_147 104 (ma 0) : Int32).toInt = 0) := h67_149
              refine lv_if_eq (tgt := 77) hx hb dX11_numeral_70 (by decide) (fun c70_161 => ?_) (fun c70_161 => absurd c70_161 (by decide))
              refine lv_aload_n hx hb dX11_numeral_77 rfl (lv_at hl 1 rfl) ?_
              refine k_Vi (n := 0) X hw (rcvk (ci := 11) X hw hM.1 (fun _ _ _ _ _ _ _ => ⟨_, rfl⟩) rfl) (c_X11_isGood l G _ ma hM) wd_r21_12 wd_r21_13 wd_r21_14 wd_r1_5 wd_r21_15 ⟨by decide, by decide, by decide +kernel⟩ rfl rfl ⟨Nat.le_of_ble_eq_true rfl, Nat.le_of_ble_eq_true rfl⟩ rfl rfl hl.1 (Nat.le_of_ble_eq_true rfl) dX11_numeral_78 ⟨Nat.le_of_ble_eq_true rfl, Nat.le_of_ble_eq_true rfl⟩ (fun r78_162 S78_164 H locs h78_163 hw => ?_)
              rcases h78_163 with ⟨rfl, rfl, h78_163⟩ | ⟨rfl, rfl, h78_163⟩
              · have h78_163 : (I58_147 104 (ma 0) : Int32).toInt = 0 := h78_163
                refine lv_if_eq (tgt := 88) hx hb dX11_numeral_81 (by decide) (fun c81_165 => absurd c81_165 (by decide)) (fun c81_165 => ?_)
                refine lv_iload_n hx hb dX11_numeral_84 rfl (lv_at hl 0 rfl) ?_
                refine lv_goto (tgt := 89) hx hb dX11_numeral_85 (by decide) ?_
                exact hret (I58_147 109 (ma 0)) _ _ _ _ _ ⟨_, _, rfl, (FrM.tr (FrM.tr (FrM.up (f := 122) (by decide) FrM.rf) (h26_95.1.m)) (h58_145.1.m)), (FrF.e h58_145.1 (FrF.e h26_95.1 hE)), by have := t_0; omega, by have := t_0; omega⟩ hw rfl dX11_numeral_89
              · have h78_163 : ¬ ((I58_147 104 (ma 0) : Int32).toInt = 0) := h78_163
                refine lv_if_eq (tgt := 88) hx hb dX11_numeral_81 (by decide) (fun c81_166 => ?_) (fun c81_166 => absurd c81_166 (by decide))
                refine lv_iconst (v := 0) hx hb dX11_numeral_88 (by decide) ?_
                exact hret 0 _ _ _ _ _ ⟨_, _, rfl, (FrM.tr (FrM.tr (FrM.up (f := 122) (by decide) FrM.rf) (h26_95.1.m)) (h58_145.1.m)), (FrF.e h58_145.1 (FrF.e h26_95.1 hE)), by have := t_0; omega, by have := t_0; omega⟩ hw rfl dX11_numeral_89
      · have h30_99 : ¬ ((I26_97 104 (ma 0) : Int32).toInt = 0) := h30_99
        refine lv_if_eq (tgt := 61) hx hb dX11_numeral_33 (by decide) (fun c33_167 => ?_) (fun c33_167 => absurd c33_167 (by decide))
        refine lv_aload_n hx hb dX11_numeral_61 rfl (lv_at hl 0 rfl) ?_
        refine gf_X11_45 (v := I26_97 109 (ma 0)) X hw hM.1 rfl dX11_numeral_62 ?_
        refine lv_istore_n (lv' := [(3, .int (I26_97 109 (ma 0))), (0, .ref (ma 0)), (1, .int x), (2, .int y)]) hx hb dX11_numeral_65 rfl hl (by decide) rfl (fun ls hl => ?_)
        refine lv_aload_n hx hb dX11_numeral_66 rfl (lv_at hl 1 rfl) ?_
        refine k_Vi (n := 0) X hw (rcvk (ci := 11) X hw hM.1 (fun _ _ _ _ _ _ _ => ⟨_, rfl⟩) rfl) (c_X11_isGood l G _ ma hM) wd_r21_12 wd_r21_13 wd_r21_14 wd_r1_5 wd_r21_15 ⟨by decide, by decide, by decide +kernel⟩ rfl rfl ⟨Nat.le_of_ble_eq_true rfl, Nat.le_of_ble_eq_true rfl⟩ rfl rfl hl.1 (Nat.le_of_ble_eq_true rfl) dX11_numeral_67 ⟨Nat.le_of_ble_eq_true rfl, Nat.le_of_ble_eq_true rfl⟩ (fun r67_168 S67_170 H locs h67_169 hw => ?_)
        rcases h67_169 with ⟨rfl, rfl, h67_169⟩ | ⟨rfl, rfl, h67_169⟩
        · have h67_169 : (I26_97 104 (ma 0) : Int32).toInt = 0 := h67_169
          refine lv_if_eq (tgt := 77) hx hb dX11_numeral_70 (by decide) (fun c70_171 => absurd c70_171 (by decide)) (fun c70_171 => ?_)
          refine lv_aload_n hx hb dX11_numeral_73 rfl (lv_at hl 1 rfl) ?_
          refine k_Vv (n := 0) X hw (rcvk (ci := 11) X hw hM.1 (fun _ _ _ _ _ _ _ => ⟨_, rfl⟩) rfl) (c_X11_next l G _ ma hM (FrF.e h26_95.1 hE)) wd_r20_15 wd_r20_16 wd_r20_17 wd_r1_5 wd_r20_18 ⟨by decide, by decide, by decide +kernel⟩ rfl rfl ⟨Nat.le_of_ble_eq_true rfl, Nat.le_of_ble_eq_true rfl⟩ rfl rfl hl.1 (Nat.le_of_ble_eq_true rfl) dX11_numeral_74 ⟨Nat.le_of_ble_eq_true rfl, Nat.le_of_ble_eq_true rfl⟩ (fun S74_173 H locs h74_172 hw => ?_)
          obtain ⟨I74_174, J74_175, rfl, h74_172⟩ := h74_172
          have hw : PX G A s.heap (ch S I74_174 J74_175 (qI S) (qJ S)) H locs := hw
          refine lv_aload_n hx hb dX11_numeral_77 rfl (lv_at hl 1 rfl) ?_
          refine k_Vi (n := 0) X hw (rcvk (ci := 11) X hw hM.1 (fun _ _ _ _ _ _ _ => ⟨_, rfl⟩) rfl) (c_X11_isGood l G _ ma hM) wd_r21_12 wd_r21_13 wd_r21_14 wd_r1_5 wd_r21_15 ⟨by decide, by decide, by decide +kernel⟩ rfl rfl ⟨Nat.le_of_ble_eq_true rfl, Nat.le_of_ble_eq_true rfl⟩ rfl rfl hl.1 (Nat.le_of_ble_eq_true rfl) dX11_numeral_78 ⟨Nat.le_of_ble_eq_true rfl, Nat.le_of_ble_eq_true rfl⟩ (fun r78_176 S78_178 H locs h78_177 hw => ?_)
          rcases h78_177 with ⟨rfl, rfl, h78_177⟩ | ⟨rfl, rfl, h78_177⟩
          · have h78_177 : (I74_174 104 (ma 0) : Int32).toInt = 0 := h78_177
            refine lv_if_eq (tgt := 88) hx hb dX11_numeral_81 (by decide) (fun c81_179 => absurd c81_179 (by decide)) (fun c81_179 => ?_)
            refine lv_iload_n hx hb dX11_numeral_84 rfl (lv_at hl 0 rfl) ?_
            refine lv_goto (tgt := 89) hx hb dX11_numeral_85 (by decide) ?_
            exact hret (I26_97 109 (ma 0)) _ _ _ _ _ ⟨_, _, rfl, (FrM.tr (FrM.tr (FrM.up (f := 122) (by decide) FrM.rf) (h26_95.1.m)) (h74_172.1.m)), h74_172.2, by have := t_0; omega, by have := t_0; omega⟩ hw rfl dX11_numeral_89
          · have h78_177 : ¬ ((I74_174 104 (ma 0) : Int32).toInt = 0) := h78_177
            refine lv_if_eq (tgt := 88) hx hb dX11_numeral_81 (by decide) (fun c81_180 => ?_) (fun c81_180 => absurd c81_180 (by decide))
            refine lv_iconst (v := 0) hx hb dX11_numeral_88 (by decide) ?_
            exact hret 0 _ _ _ _ _ ⟨_, _, rfl, (FrM.tr (FrM.tr (FrM.up (f := 122) (by decide) FrM.rf) (h26_95.1.m)) (h74_172.1.m)), h74_172.2, by have := t_0; omega, by have := t_0; omega⟩ hw rfl dX11_numeral_89
        · have h67_169 : ¬ ((I26_97 104 (ma 0) : Int32).toInt = 0) := h67_169
          refine lv_if_eq (tgt := 77) hx hb dX11_numeral_70 (by decide) (fun c70_181 => ?_) (fun c70_181 => absurd c70_181 (by decide))
          refine lv_aload_n hx hb dX11_numeral_77 rfl (lv_at hl 1 rfl) ?_
          refine k_Vi (n := 0) X hw (rcvk (ci := 11) X hw hM.1 (fun _ _ _ _ _ _ _ => ⟨_, rfl⟩) rfl) (c_X11_isGood l G _ ma hM) wd_r21_12 wd_r21_13 wd_r21_14 wd_r1_5 wd_r21_15 ⟨by decide, by decide, by decide +kernel⟩ rfl rfl ⟨Nat.le_of_ble_eq_true rfl, Nat.le_of_ble_eq_true rfl⟩ rfl rfl hl.1 (Nat.le_of_ble_eq_true rfl) dX11_numeral_78 ⟨Nat.le_of_ble_eq_true rfl, Nat.le_of_ble_eq_true rfl⟩ (fun r78_182 S78_184 H locs h78_183 hw => ?_)
          rcases h78_183 with ⟨rfl, rfl, h78_183⟩ | ⟨rfl, rfl, h78_183⟩
          · have h78_183 : (I26_97 104 (ma 0) : Int32).toInt = 0 := h78_183
            refine lv_if_eq (tgt := 88) hx hb dX11_numeral_81 (by decide) (fun c81_185 => absurd c81_185 (by decide)) (fun c81_185 => ?_)
            refine lv_iload_n hx hb dX11_numeral_84 rfl (lv_at hl 0 rfl) ?_
            refine lv_goto (tgt := 89) hx hb dX11_numeral_85 (by decide) ?_
            exact hret (I26_97 109 (ma 0)) _ _ _ _ _ ⟨_, _, rfl, (FrM.tr (FrM.up (f := 122) (by decide) FrM.rf) (h26_95.1.m)), (FrF.e h26_95.1 hE), by have := t_0; omega, by have := t_0; omega⟩ hw rfl dX11_numeral_89
          · have h78_183 : ¬ ((I26_97 104 (ma 0) : Int32).toInt = 0) := h78_183
            refine lv_if_eq (tgt := 88) hx hb dX11_numeral_81 (by decide) (fun c81_186 => ?_) (fun c81_186 => absurd c81_186 (by decide))
            refine lv_iconst (v := 0) hx hb dX11_numeral_88 (by decide) ?_
            exact hret 0 _ _ _ _ _ ⟨_, _, rfl, (FrM.tr (FrM.up (f := 122) (by decide) FrM.rf) (h26_95.1.m)), (FrF.e h26_95.1 hE), by have := t_0; omega, by have := t_0; omega⟩ hw rfl dX11_numeral_89
  · have h1_2 : ¬ (((pI S) 104 (ma 0) : Int32).toInt = 0) := h1_2
    refine lv_if_ne (tgt := 9) hx hb dX11_numeral_4 (by decide) (fun c4_187 => absurd c4_187 (by decide)) (fun c4_187 => ?_)
    refine lv_iconst (v := 0) hx hb dX11_numeral_7 (by decide) ?_
    exact hret 0 _ _ _ _ _ ⟨_, _, rfl, FrM.rf, hE, by have := t_0; omega, by have := t_0; omega⟩ hw rfl dX11_numeral_8
set_option maxHeartbeats 4000000 in
set_option maxRecDepth 100000 in
theorem c_X11_readWind (l : Launch) (G : Gh) (S : Pl) (ma : Nat → Nat) (hM : shMod S ma) (hE : eM (pI S) (ma 0)) (hrb : 0 ≤ (pI S 121 (ma 0)).toInt ∧ (pI S 121 (ma 0)).toInt ≤ 1) (hms : MsOK (qI S (ma 18))) : MtV l yX11_readWind cX11_readWind 4 none (Rm 4 0 0) G [.ref (ma 0)] S (fun (S' : Pl) => ∃ I' J' q', ch S I' J' q' (qJ S) = S' ∧ FrM (pI S) I' ∧ eM I' (ma 0) ∧ FrQ 13 ma (qI S) q' ∧ MsOK (q' (ma 18))) 0 0 := by
  refine MtV.of (by decide) (Nat.le_of_ble_eq_true rfl) ?_
  intro p e s m args below meth c Q A X hw hin hret ls hl
  have hx := X.1.1
  have hb := X.1.2.1
  have hl : lv_has ls 4 [(0, .ref (ma 0))] := hl
  refine lv_bipush (v := 72) hx hb dX11_readWind_0 (by decide) ?_
  refine lv_aload_n hx hb dX11_readWind_2 rfl (lv_at hl 0 rfl) ?_
  refine gf_X11_149 (v := (pI S) 121 (ma 0)) X hw hM.1 rfl dX11_readWind_3 ?_
  refine lv_imul hx hb dX11_readWind_6 ?_
  refine lv_topi (fun v6_1 e6_1 => ?_)
  have t6_1 := iMul e6_1 t_72 rfl (by omega) (by omega)
  have t6 := t6_1
  refine lv_aload_n hx hb dX11_readWind_7 rfl (lv_at hl 0 rfl) ?_
  refine lv_iconst (v := 0) hx hb dX11_readWind_8 (by decide) ?_
  refine lv_bipush (v := 71) hx hb dX11_readWind_9 (by decide) ?_
  refine k_Vi (n := 2) X hw (rcvk (ci := 11) X hw hM.1 (fun _ _ _ _ _ _ _ => ⟨_, rfl⟩) rfl) (c_X11_numeral l G _ ma 0 71 0 hM hE (by decide)) wd_r22_17 wd_r22_18 wd_r22_19 wd_r1_5 wd_r22_20 ⟨by decide, by decide, by decide +kernel⟩ rfl rfl ⟨Nat.le_of_ble_eq_true rfl, Nat.le_of_ble_eq_true rfl⟩ rfl rfl hl.1 (Nat.le_of_ble_eq_true rfl) dX11_readWind_11 ⟨Nat.le_of_ble_eq_true rfl, Nat.le_of_ble_eq_true rfl⟩ (fun r11_2 S11_4 H locs h11_3 hw => ?_)
  have := t_0
  have := t_71
  obtain ⟨I11_5, J11_6, rfl, h11_3⟩ := h11_3
  have hw : PX G A s.heap (ch S I11_5 J11_6 (qI S) (qJ S)) H locs := hw
  have h11_3r := h11_3.2.2
  have h11_3b := congrArg Int32.toInt (FrM.rb (FrM.tr FrM.rf h11_3.1) (ma 0))
  refine lv_iadd hx hb dX11_readWind_14 ?_
  refine lv_topi (fun v14_7 e14_7 => ?_)
  have t14_7 := iAdd e14_7 rfl rfl (by omega) (by omega)
  have t14 := t14_7
  refine lv_istore_n (lv' := [(1, .int v14_7), (0, .ref (ma 0))]) hx hb dX11_readWind_15 rfl hl (by decide) rfl (fun ls hl => ?_)
  refine lv_aload_n hx hb dX11_readWind_16 rfl (lv_at hl 1 rfl) ?_
  refine lv_aload_n hx hb dX11_readWind_17 rfl (lv_at hl 1 rfl) ?_
  refine gf_X11_65 (b := (ma 13)) X hw hM.1 (mr_13 hM) dX11_readWind_18 ?_
  refine lv_iload_n hx hb dX11_readWind_21 rfl (lv_at hl 0 rfl) ?_
  refine q_ldI X hw (mk_13 hM) (vin (mn_13 hM) (by omega) (by omega)) dX11_readWind_22 ?_
  refine lv_topi (fun v22_8 e22_8 => ?_)
  have e22_8 : v22_8 = (qI S) (ma 13) v14_7.toNatClampNeg := e22_8
  refine lv_bipush (v := -100) hx hb dX11_readWind_23 (by decide) ?_
  refine lv_icmp_eq (tgt := 32) hx hb dX11_readWind_25 (by decide) (fun c25_9 => ?_) (fun c25_9 => ?_)
  · have D25_9 := iEq c25_9 rfl t_m100
    refine lv_iconst (v := 0) hx hb dX11_readWind_32 (by decide) ?_
    refine k_Vv (n := 1) X hw (rcvk (ci := 11) X hw hM.1 (fun _ _ _ _ _ _ _ => ⟨_, rfl⟩) rfl) (c_X11_twice l G _ ma 0 hM) wd_r22_22 wd_r22_23 wd_r23_0 wd_r1_5 wd_r23_1 ⟨by decide, by decide, by decide +kernel⟩ rfl rfl ⟨Nat.le_of_ble_eq_true rfl, Nat.le_of_ble_eq_true rfl⟩ rfl rfl hl.1 (Nat.le_of_ble_eq_true rfl) dX11_readWind_33 ⟨Nat.le_of_ble_eq_true rfl, Nat.le_of_ble_eq_true rfl⟩ (fun S33_11 H locs h33_10 hw => ?_)
    have := t_0
    obtain ⟨I33_12, rfl, h33_10⟩ := h33_10
    have hw : PX G A s.heap (ch S I33_12 J11_6 (qI S) (qJ S)) H locs := hw
    refine lv_aload_n hx hb dX11_readWind_36 rfl (lv_at hl 1 rfl) ?_
    refine lv_bipush (v := -30) hx hb dX11_readWind_37 (by decide) ?_
    refine lv_bipush (v := 30) hx hb dX11_readWind_39 (by decide) ?_
    refine k_Vi (n := 2) X hw (rcvk (ci := 11) X hw hM.1 (fun _ _ _ _ _ _ _ => ⟨_, rfl⟩) rfl) (c_X11_numeral l G _ ma (-30) 30 (-30) hM (FrF.e h33_10 h11_3.2.1) (by decide)) wd_r22_17 wd_r22_18 wd_r22_19 wd_r1_5 wd_r22_20 ⟨by decide, by decide, by decide +kernel⟩ rfl rfl ⟨Nat.le_of_ble_eq_true rfl, Nat.le_of_ble_eq_true rfl⟩ rfl rfl hl.1 (Nat.le_of_ble_eq_true rfl) dX11_readWind_41 ⟨Nat.le_of_ble_eq_true rfl, Nat.le_of_ble_eq_true rfl⟩ (fun r41_13 S41_15 H locs h41_14 hw => ?_)
    have := t_m30
    have := t_30
    obtain ⟨I41_16, J41_17, rfl, h41_14⟩ := h41_14
    have hw : PX G A s.heap (ch S I41_16 J41_17 (qI S) (qJ S)) H locs := hw
    have h41_14r := h41_14.2.2
    have h41_14b := congrArg Int32.toInt (FrM.rb (FrM.tr (FrM.tr (FrM.tr FrM.rf h11_3.1) (h33_10.m)) h41_14.1) (ma 0))
    refine lv_istore_n (lv' := [(2, .int r41_13), (1, .int v14_7), (0, .ref (ma 0))]) hx hb dX11_readWind_44 rfl hl (by decide) rfl (fun ls hl => ?_)
    refine lv_aload_n hx hb dX11_readWind_45 rfl (lv_at hl 2 rfl) ?_
    refine lv_bipush (v := -30) hx hb dX11_readWind_46 (by decide) ?_
    refine lv_bipush (v := 30) hx hb dX11_readWind_48 (by decide) ?_
    refine k_Vi (n := 2) X hw (rcvk (ci := 11) X hw hM.1 (fun _ _ _ _ _ _ _ => ⟨_, rfl⟩) rfl) (c_X11_numeral l G _ ma (-30) 30 (-30) hM h41_14.2.1 (by decide)) wd_r22_17 wd_r22_18 wd_r22_19 wd_r1_5 wd_r22_20 ⟨by decide, by decide, by decide +kernel⟩ rfl rfl ⟨Nat.le_of_ble_eq_true rfl, Nat.le_of_ble_eq_true rfl⟩ rfl rfl hl.1 (Nat.le_of_ble_eq_true rfl) dX11_readWind_50 ⟨Nat.le_of_ble_eq_true rfl, Nat.le_of_ble_eq_true rfl⟩ (fun r50_18 S50_20 H locs h50_19 hw => ?_)
    have := t_m30
    have := t_30
    obtain ⟨I50_21, J50_22, rfl, h50_19⟩ := h50_19
    have hw : PX G A s.heap (ch S I50_21 J50_22 (qI S) (qJ S)) H locs := hw
    have h50_19r := h50_19.2.2
    have h50_19b := congrArg Int32.toInt (FrM.rb (FrM.tr (FrM.tr (FrM.tr (FrM.tr FrM.rf h11_3.1) (h33_10.m)) h41_14.1) h50_19.1) (ma 0))
    refine lv_istore_n (lv' := [(3, .int r50_18), (2, .int r41_13), (1, .int v14_7), (0, .ref (ma 0))]) hx hb dX11_readWind_53 rfl hl (by decide) rfl (fun ls hl => ?_)
    refine lv_aload_n hx hb dX11_readWind_54 rfl (lv_at hl 3 rfl) ?_
    refine gf_X11_65 (b := (ma 13)) X hw hM.1 (mr_13 hM) dX11_readWind_55 ?_
    refine lv_iload_n hx hb dX11_readWind_58 rfl (lv_at hl 2 rfl) ?_
    refine lv_iload_n hx hb dX11_readWind_59 rfl (lv_at hl 1 rfl) ?_
    refine q_stI X hw (mk_13 hM) (vin (mn_13 hM) (by omega) (by omega)) dX11_readWind_60 (fun H locs hw => ?_)
    obtain ⟨q60_23, eq60_23, hw⟩ : ∃ zz9, zz9 = va_up (qI S) (ma 13) (upd ((qI S) (ma 13)) v14_7.toNatClampNeg r41_13) ∧ PX G A s.heap (ch S I50_21 J50_22 zz9 (qJ S)) H locs := ⟨_, rfl, hw⟩
    have c60 := eq60_23
    refine lv_aload_n hx hb dX11_readWind_61 rfl (lv_at hl 3 rfl) ?_
    refine gf_X11_68 (b := (ma 14)) X hw hM.1 (mr_14 hM) dX11_readWind_62 ?_
    refine lv_iload_n hx hb dX11_readWind_65 rfl (lv_at hl 2 rfl) ?_
    refine lv_iload_n hx hb dX11_readWind_66 rfl (lv_at hl 0 rfl) ?_
    refine q_stI X hw (mk_14 hM) (vin (mn_14 hM) (by omega) (by omega)) dX11_readWind_67 (fun H locs hw => ?_)
    obtain ⟨q67_24, eq67_24, hw⟩ : ∃ zz9, zz9 = va_up q60_23 (ma 14) (upd (q60_23 (ma 14)) v14_7.toNatClampNeg r50_18) ∧ PX G A s.heap (ch S I50_21 J50_22 zz9 (qJ S)) H locs := ⟨_, rfl, hw⟩
    have c67 := eq67_24
    exact hret _ _ _ _ _ ⟨_, _, _, rfl, (FrM.tr (FrM.tr (FrM.tr (FrM.tr FrM.rf h11_3.1) (h33_10.m)) h41_14.1) h50_19.1), h50_19.2.1, (FrQ.ez eq67_24 (FrQ.up (j := 14) (by decide) (by decide) (FrQ.ez eq60_23 (FrQ.up (j := 13) (by decide) (by decide) FrQ.rf)))), (by rw [row_keep hM c67 (i := 18) (by decide) (by decide) (by decide), row_keep hM c60 (i := 18) (by decide) (by decide) (by decide)]; exact hms)⟩ hw dX11_readWind_68
  · skip
    refine lv_iconst (v := 1) hx hb dX11_readWind_28 (by decide) ?_
    refine lv_goto (tgt := 33) hx hb dX11_readWind_29 (by decide) ?_
    refine k_Vv (n := 1) X hw (rcvk (ci := 11) X hw hM.1 (fun _ _ _ _ _ _ _ => ⟨_, rfl⟩) rfl) (c_X11_twice l G _ ma 1 hM) wd_r22_22 wd_r22_23 wd_r23_0 wd_r1_5 wd_r23_1 ⟨by decide, by decide, by decide +kernel⟩ rfl rfl ⟨Nat.le_of_ble_eq_true rfl, Nat.le_of_ble_eq_true rfl⟩ rfl rfl hl.1 (Nat.le_of_ble_eq_true rfl) dX11_readWind_33 ⟨Nat.le_of_ble_eq_true rfl, Nat.le_of_ble_eq_true rfl⟩ (fun S33_26 H locs h33_25 hw => ?_)
    have := t_1
    obtain ⟨I33_27, rfl, h33_25⟩ := h33_25
    have hw : PX G A s.heap (ch S I33_27 J11_6 (qI S) (qJ S)) H locs := hw
    refine lv_aload_n hx hb dX11_readWind_36 rfl (lv_at hl 1 rfl) ?_
    refine lv_bipush (v := -30) hx hb dX11_readWind_37 (by decide) ?_
    refine lv_bipush (v := 30) hx hb dX11_readWind_39 (by decide) ?_
    refine k_Vi (n := 2) X hw (rcvk (ci := 11) X hw hM.1 (fun _ _ _ _ _ _ _ => ⟨_, rfl⟩) rfl) (c_X11_numeral l G _ ma (-30) 30 (-30) hM (FrF.e h33_25 h11_3.2.1) (by decide)) wd_r22_17 wd_r22_18 wd_r22_19 wd_r1_5 wd_r22_20 ⟨by decide, by decide, by decide +kernel⟩ rfl rfl ⟨Nat.le_of_ble_eq_true rfl, Nat.le_of_ble_eq_true rfl⟩ rfl rfl hl.1 (Nat.le_of_ble_eq_true rfl) dX11_readWind_41 ⟨Nat.le_of_ble_eq_true rfl, Nat.le_of_ble_eq_true rfl⟩ (fun r41_28 S41_30 H locs h41_29 hw => ?_)
    have := t_m30
    have := t_30
    obtain ⟨I41_31, J41_32, rfl, h41_29⟩ := h41_29
    have hw : PX G A s.heap (ch S I41_31 J41_32 (qI S) (qJ S)) H locs := hw
    have h41_29r := h41_29.2.2
    have h41_29b := congrArg Int32.toInt (FrM.rb (FrM.tr (FrM.tr (FrM.tr FrM.rf h11_3.1) (h33_25.m)) h41_29.1) (ma 0))
    refine lv_istore_n (lv' := [(2, .int r41_28), (1, .int v14_7), (0, .ref (ma 0))]) hx hb dX11_readWind_44 rfl hl (by decide) rfl (fun ls hl => ?_)
    refine lv_aload_n hx hb dX11_readWind_45 rfl (lv_at hl 2 rfl) ?_
    refine lv_bipush (v := -30) hx hb dX11_readWind_46 (by decide) ?_
    refine lv_bipush (v := 30) hx hb dX11_readWind_48 (by decide) ?_
    refine k_Vi (n := 2) X hw (rcvk (ci := 11) X hw hM.1 (fun _ _ _ _ _ _ _ => ⟨_, rfl⟩) rfl) (c_X11_numeral l G _ ma (-30) 30 (-30) hM h41_29.2.1 (by decide)) wd_r22_17 wd_r22_18 wd_r22_19 wd_r1_5 wd_r22_20 ⟨by decide, by decide, by decide +kernel⟩ rfl rfl ⟨Nat.le_of_ble_eq_true rfl, Nat.le_of_ble_eq_true rfl⟩ rfl rfl hl.1 (Nat.le_of_ble_eq_true rfl) dX11_readWind_50 ⟨Nat.le_of_ble_eq_true rfl, Nat.le_of_ble_eq_true rfl⟩ (fun r50_33 S50_35 H locs h50_34 hw => ?_)
    have := t_m30
    have := t_30
    obtain ⟨I50_36, J50_37, rfl, h50_34⟩ := h50_34
    have hw : PX G A s.heap (ch S I50_36 J50_37 (qI S) (qJ S)) H locs := hw
    have h50_34r := h50_34.2.2
    have h50_34b := congrArg Int32.toInt (FrM.rb (FrM.tr (FrM.tr (FrM.tr (FrM.tr FrM.rf h11_3.1) (h33_25.m)) h41_29.1) h50_34.1) (ma 0))
    refine lv_istore_n (lv' := [(3, .int r50_33), (2, .int r41_28), (1, .int v14_7), (0, .ref (ma 0))]) hx hb dX11_readWind_53 rfl hl (by decide) rfl (fun ls hl => ?_)
    refine lv_aload_n hx hb dX11_readWind_54 rfl (lv_at hl 3 rfl) ?_
    refine gf_X11_65 (b := (ma 13)) X hw hM.1 (mr_13 hM) dX11_readWind_55 ?_
    refine lv_iload_n hx hb dX11_readWind_58 rfl (lv_at hl 2 rfl) ?_
    refine lv_iload_n hx hb dX11_readWind_59 rfl (lv_at hl 1 rfl) ?_
    refine q_stI X hw (mk_13 hM) (vin (mn_13 hM) (by omega) (by omega)) dX11_readWind_60 (fun H locs hw => ?_)
    obtain ⟨q60_38, eq60_38, hw⟩ : ∃ zz9, zz9 = va_up (qI S) (ma 13) (upd ((qI S) (ma 13)) v14_7.toNatClampNeg r41_28) ∧ PX G A s.heap (ch S I50_36 J50_37 zz9 (qJ S)) H locs := ⟨_, rfl, hw⟩
    have c60 := eq60_38
    refine lv_aload_n hx hb dX11_readWind_61 rfl (lv_at hl 3 rfl) ?_
    refine gf_X11_68 (b := (ma 14)) X hw hM.1 (mr_14 hM) dX11_readWind_62 ?_
    refine lv_iload_n hx hb dX11_readWind_65 rfl (lv_at hl 2 rfl) ?_
    refine lv_iload_n hx hb dX11_readWind_66 rfl (lv_at hl 0 rfl) ?_
    refine q_stI X hw (mk_14 hM) (vin (mn_14 hM) (by omega) (by omega)) dX11_readWind_67 (fun H locs hw => ?_)
    obtain ⟨q67_39, eq67_39, hw⟩ : ∃ zz9, zz9 = va_up q60_38 (ma 14) (upd (q60_38 (ma 14)) v14_7.toNatClampNeg r50_33) ∧ PX G A s.heap (ch S I50_36 J50_37 zz9 (qJ S)) H locs := ⟨_, rfl, hw⟩
    have c67 := eq67_39
    exact hret _ _ _ _ _ ⟨_, _, _, rfl, (FrM.tr (FrM.tr (FrM.tr (FrM.tr FrM.rf h11_3.1) (h33_25.m)) h41_29.1) h50_34.1), h50_34.2.1, (FrQ.ez eq67_39 (FrQ.up (j := 14) (by decide) (by decide) (FrQ.ez eq60_38 (FrQ.up (j := 13) (by decide) (by decide) FrQ.rf)))), (by rw [row_keep hM c67 (i := 18) (by decide) (by decide) (by decide), row_keep hM c60 (i := 18) (by decide) (by decide) (by decide)]; exact hms)⟩ hw dX11_readWind_68
set_option maxHeartbeats 4000000 in
set_option maxRecDepth 100000 in
theorem c_X11_readStream (l : Launch) (G : Gh) (S : Pl) (ma : Nat → Nat) (hM : shMod S ma) (hE : eM (pI S) (ma 0)) (hrb : 0 ≤ (pI S 121 (ma 0)).toInt ∧ (pI S 121 (ma 0)).toInt ≤ 1) (hms : MsOK (qI S (ma 18))) : MtV l yX11_readStream cX11_readStream 5 none (Rm 4 0 0) G [.ref (ma 0)] S (fun (S' : Pl) => ∃ I' J' q', ch S I' J' q' (qJ S) = S' ∧ FrM (pI S) I' ∧ eM I' (ma 0) ∧ FrQ 13 ma (qI S) q' ∧ MsOK (q' (ma 18))) 0 0 := by
  refine MtV.of (by decide) (Nat.le_of_ble_eq_true rfl) ?_
  intro p e s m args below meth c Q A X hw hin hret ls hl
  have hx := X.1.1
  have hb := X.1.2.1
  have hl : lv_has ls 5 [(0, .ref (ma 0))] := hl
  refine lv_aload_n hx hb dX11_readStream_0 rfl (lv_at hl 0 rfl) ?_
  refine lv_iconst (v := 0) hx hb dX11_readStream_1 (by decide) ?_
  refine lv_iconst (v := 3) hx hb dX11_readStream_2 (by decide) ?_
  refine k_Vi (n := 2) X hw (rcvk (ci := 11) X hw hM.1 (fun _ _ _ _ _ _ _ => ⟨_, rfl⟩) rfl) (c_X11_numeral l G _ ma 0 3 0 hM hE (by decide)) wd_r22_17 wd_r22_18 wd_r22_19 wd_r1_5 wd_r22_20 ⟨by decide, by decide, by decide +kernel⟩ rfl rfl ⟨Nat.le_of_ble_eq_true rfl, Nat.le_of_ble_eq_true rfl⟩ rfl rfl hl.1 (Nat.le_of_ble_eq_true rfl) dX11_readStream_3 ⟨Nat.le_of_ble_eq_true rfl, Nat.le_of_ble_eq_true rfl⟩ (fun r3_1 S3_3 H locs h3_2 hw => ?_)
  have := t_0
  have := t_3
  obtain ⟨I3_4, J3_5, rfl, h3_2⟩ := h3_2
  have hw : PX G A s.heap (ch S I3_4 J3_5 (qI S) (qJ S)) H locs := hw
  have h3_2r := h3_2.2.2
  have h3_2b := congrArg Int32.toInt (FrM.rb (FrM.tr FrM.rf h3_2.1) (ma 0))
  refine lv_istore_n (lv' := [(1, .int r3_1), (0, .ref (ma 0))]) hx hb dX11_readStream_6 rfl hl (by decide) rfl (fun ls hl => ?_)
  refine lv_bipush (v := 72) hx hb dX11_readStream_7 (by decide) ?_
  refine lv_iconst (v := 4) hx hb dX11_readStream_9 (by decide) ?_
  refine lv_aload_n hx hb dX11_readStream_10 rfl (lv_at hl 1 rfl) ?_
  refine gf_X11_149 (v := I3_4 121 (ma 0)) X hw hM.1 rfl dX11_readStream_11 ?_
  refine lv_imul hx hb dX11_readStream_14 ?_
  refine lv_topi (fun v14_6 e14_6 => ?_)
  have t14_6 := iMul e14_6 t_4 rfl (by omega) (by omega)
  have t14 := t14_6
  refine lv_iload_n hx hb dX11_readStream_15 rfl (lv_at hl 0 rfl) ?_
  refine lv_iadd hx hb dX11_readStream_16 ?_
  refine lv_topi (fun v16_7 e16_7 => ?_)
  have t16_7 := iAdd e16_7 rfl rfl (by omega) (by omega)
  have t16 := t16_7
  refine lv_imul hx hb dX11_readStream_17 ?_
  refine lv_topi (fun v17_8 e17_8 => ?_)
  have t17_8 := iMul e17_8 t_72 rfl (by omega) (by omega)
  have t17 := t17_8
  refine lv_aload_n hx hb dX11_readStream_18 rfl (lv_at hl 1 rfl) ?_
  refine lv_iconst (v := 0) hx hb dX11_readStream_19 (by decide) ?_
  refine lv_bipush (v := 71) hx hb dX11_readStream_20 (by decide) ?_
  refine k_Vi (n := 2) X hw (rcvk (ci := 11) X hw hM.1 (fun _ _ _ _ _ _ _ => ⟨_, rfl⟩) rfl) (c_X11_numeral l G _ ma 0 71 0 hM h3_2.2.1 (by decide)) wd_r22_17 wd_r22_18 wd_r22_19 wd_r1_5 wd_r22_20 ⟨by decide, by decide, by decide +kernel⟩ rfl rfl ⟨Nat.le_of_ble_eq_true rfl, Nat.le_of_ble_eq_true rfl⟩ rfl rfl hl.1 (Nat.le_of_ble_eq_true rfl) dX11_readStream_22 ⟨Nat.le_of_ble_eq_true rfl, Nat.le_of_ble_eq_true rfl⟩ (fun r22_9 S22_11 H locs h22_10 hw => ?_)
  have := t_0
  have := t_71
  obtain ⟨I22_12, J22_13, rfl, h22_10⟩ := h22_10
  have hw : PX G A s.heap (ch S I22_12 J22_13 (qI S) (qJ S)) H locs := hw
  have h22_10r := h22_10.2.2
  have h22_10b := congrArg Int32.toInt (FrM.rb (FrM.tr (FrM.tr FrM.rf h3_2.1) h22_10.1) (ma 0))
  refine lv_iadd hx hb dX11_readStream_25 ?_
  refine lv_topi (fun v25_14 e25_14 => ?_)
  have t25_14 := iAdd e25_14 rfl rfl (by omega) (by omega)
  have t25 := t25_14
  refine lv_istore_n (lv' := [(2, .int v25_14), (1, .int r3_1), (0, .ref (ma 0))]) hx hb dX11_readStream_26 rfl hl (by decide) rfl (fun ls hl => ?_)
  refine lv_aload_n hx hb dX11_readStream_27 rfl (lv_at hl 2 rfl) ?_
  refine lv_aload_n hx hb dX11_readStream_28 rfl (lv_at hl 2 rfl) ?_
  refine gf_X11_71 (b := (ma 15)) X hw hM.1 (mr_15 hM) dX11_readStream_29 ?_
  refine lv_iload_n hx hb dX11_readStream_32 rfl (lv_at hl 0 rfl) ?_
  refine q_ldI X hw (mk_15 hM) (vin (mn_15 hM) (by omega) (by omega)) dX11_readStream_33 ?_
  refine lv_topi (fun v33_15 e33_15 => ?_)
  have e33_15 : v33_15 = (qI S) (ma 15) v25_14.toNatClampNeg := e33_15
  refine lv_bipush (v := -100) hx hb dX11_readStream_34 (by decide) ?_
  refine lv_icmp_eq (tgt := 43) hx hb dX11_readStream_36 (by decide) (fun c36_16 => ?_) (fun c36_16 => ?_)
  · have D36_16 := iEq c36_16 rfl t_m100
    refine lv_iconst (v := 0) hx hb dX11_readStream_43 (by decide) ?_
    refine k_Vv (n := 1) X hw (rcvk (ci := 11) X hw hM.1 (fun _ _ _ _ _ _ _ => ⟨_, rfl⟩) rfl) (c_X11_twice l G _ ma 0 hM) wd_r22_22 wd_r22_23 wd_r23_0 wd_r1_5 wd_r23_1 ⟨by decide, by decide, by decide +kernel⟩ rfl rfl ⟨Nat.le_of_ble_eq_true rfl, Nat.le_of_ble_eq_true rfl⟩ rfl rfl hl.1 (Nat.le_of_ble_eq_true rfl) dX11_readStream_44 ⟨Nat.le_of_ble_eq_true rfl, Nat.le_of_ble_eq_true rfl⟩ (fun S44_18 H locs h44_17 hw => ?_)
    have := t_0
    obtain ⟨I44_19, rfl, h44_17⟩ := h44_17
    have hw : PX G A s.heap (ch S I44_19 J22_13 (qI S) (qJ S)) H locs := hw
    refine lv_aload_n hx hb dX11_readStream_47 rfl (lv_at hl 2 rfl) ?_
    refine lv_bipush (v := -30) hx hb dX11_readStream_48 (by decide) ?_
    refine lv_bipush (v := 30) hx hb dX11_readStream_50 (by decide) ?_
    refine k_Vi (n := 2) X hw (rcvk (ci := 11) X hw hM.1 (fun _ _ _ _ _ _ _ => ⟨_, rfl⟩) rfl) (c_X11_numeral l G _ ma (-30) 30 (-30) hM (FrF.e h44_17 h22_10.2.1) (by decide)) wd_r22_17 wd_r22_18 wd_r22_19 wd_r1_5 wd_r22_20 ⟨by decide, by decide, by decide +kernel⟩ rfl rfl ⟨Nat.le_of_ble_eq_true rfl, Nat.le_of_ble_eq_true rfl⟩ rfl rfl hl.1 (Nat.le_of_ble_eq_true rfl) dX11_readStream_52 ⟨Nat.le_of_ble_eq_true rfl, Nat.le_of_ble_eq_true rfl⟩ (fun r52_20 S52_22 H locs h52_21 hw => ?_)
    have := t_m30
    have := t_30
    obtain ⟨I52_23, J52_24, rfl, h52_21⟩ := h52_21
    have hw : PX G A s.heap (ch S I52_23 J52_24 (qI S) (qJ S)) H locs := hw
    have h52_21r := h52_21.2.2
    have h52_21b := congrArg Int32.toInt (FrM.rb (FrM.tr (FrM.tr (FrM.tr (FrM.tr FrM.rf h3_2.1) h22_10.1) (h44_17.m)) h52_21.1) (ma 0))
    refine lv_istore_n (lv' := [(3, .int r52_20), (2, .int v25_14), (1, .int r3_1), (0, .ref (ma 0))]) hx hb dX11_readStream_55 rfl hl (by decide) rfl (fun ls hl => ?_)
    refine lv_aload_n hx hb dX11_readStream_56 rfl (lv_at hl 3 rfl) ?_
    refine lv_bipush (v := -30) hx hb dX11_readStream_57 (by decide) ?_
    refine lv_bipush (v := 30) hx hb dX11_readStream_59 (by decide) ?_
    refine k_Vi (n := 2) X hw (rcvk (ci := 11) X hw hM.1 (fun _ _ _ _ _ _ _ => ⟨_, rfl⟩) rfl) (c_X11_numeral l G _ ma (-30) 30 (-30) hM h52_21.2.1 (by decide)) wd_r22_17 wd_r22_18 wd_r22_19 wd_r1_5 wd_r22_20 ⟨by decide, by decide, by decide +kernel⟩ rfl rfl ⟨Nat.le_of_ble_eq_true rfl, Nat.le_of_ble_eq_true rfl⟩ rfl rfl hl.1 (Nat.le_of_ble_eq_true rfl) dX11_readStream_61 ⟨Nat.le_of_ble_eq_true rfl, Nat.le_of_ble_eq_true rfl⟩ (fun r61_25 S61_27 H locs h61_26 hw => ?_)
    have := t_m30
    have := t_30
    obtain ⟨I61_28, J61_29, rfl, h61_26⟩ := h61_26
    have hw : PX G A s.heap (ch S I61_28 J61_29 (qI S) (qJ S)) H locs := hw
    have h61_26r := h61_26.2.2
    have h61_26b := congrArg Int32.toInt (FrM.rb (FrM.tr (FrM.tr (FrM.tr (FrM.tr (FrM.tr FrM.rf h3_2.1) h22_10.1) (h44_17.m)) h52_21.1) h61_26.1) (ma 0))
    refine lv_istore (lv' := [(4, .int r61_25), (3, .int r52_20), (2, .int v25_14), (1, .int r3_1), (0, .ref (ma 0))]) hx hb dX11_readStream_64 hl (by decide) rfl (fun ls hl => ?_)
    refine lv_aload_n hx hb dX11_readStream_66 rfl (lv_at hl 4 rfl) ?_
    refine gf_X11_71 (b := (ma 15)) X hw hM.1 (mr_15 hM) dX11_readStream_67 ?_
    refine lv_iload_n hx hb dX11_readStream_70 rfl (lv_at hl 2 rfl) ?_
    refine lv_iload_n hx hb dX11_readStream_71 rfl (lv_at hl 1 rfl) ?_
    refine q_stI X hw (mk_15 hM) (vin (mn_15 hM) (by omega) (by omega)) dX11_readStream_72 (fun H locs hw => ?_)
    obtain ⟨q72_30, eq72_30, hw⟩ : ∃ zz9, zz9 = va_up (qI S) (ma 15) (upd ((qI S) (ma 15)) v25_14.toNatClampNeg r52_20) ∧ PX G A s.heap (ch S I61_28 J61_29 zz9 (qJ S)) H locs := ⟨_, rfl, hw⟩
    have c72 := eq72_30
    refine lv_aload_n hx hb dX11_readStream_73 rfl (lv_at hl 4 rfl) ?_
    refine gf_X11_74 (b := (ma 16)) X hw hM.1 (mr_16 hM) dX11_readStream_74 ?_
    refine lv_iload_n hx hb dX11_readStream_77 rfl (lv_at hl 2 rfl) ?_
    refine lv_iload hx hb dX11_readStream_78 (lv_at hl 0 rfl) ?_
    refine q_stI X hw (mk_16 hM) (vin (mn_16 hM) (by omega) (by omega)) dX11_readStream_80 (fun H locs hw => ?_)
    obtain ⟨q80_31, eq80_31, hw⟩ : ∃ zz9, zz9 = va_up q72_30 (ma 16) (upd (q72_30 (ma 16)) v25_14.toNatClampNeg r61_25) ∧ PX G A s.heap (ch S I61_28 J61_29 zz9 (qJ S)) H locs := ⟨_, rfl, hw⟩
    have c80 := eq80_31
    exact hret _ _ _ _ _ ⟨_, _, _, rfl, (FrM.tr (FrM.tr (FrM.tr (FrM.tr (FrM.tr FrM.rf h3_2.1) h22_10.1) (h44_17.m)) h52_21.1) h61_26.1), h61_26.2.1, (FrQ.ez eq80_31 (FrQ.up (j := 16) (by decide) (by decide) (FrQ.ez eq72_30 (FrQ.up (j := 15) (by decide) (by decide) FrQ.rf)))), (by rw [row_keep hM c80 (i := 18) (by decide) (by decide) (by decide), row_keep hM c72 (i := 18) (by decide) (by decide) (by decide)]; exact hms)⟩ hw dX11_readStream_81
  · skip
    refine lv_iconst (v := 1) hx hb dX11_readStream_39 (by decide) ?_
    refine lv_goto (tgt := 44) hx hb dX11_readStream_40 (by decide) ?_
    refine k_Vv (n := 1) X hw (rcvk (ci := 11) X hw hM.1 (fun _ _ _ _ _ _ _ => ⟨_, rfl⟩) rfl) (c_X11_twice l G _ ma 1 hM) wd_r22_22 wd_r22_23 wd_r23_0 wd_r1_5 wd_r23_1 ⟨by decide, by decide, by decide +kernel⟩ rfl rfl ⟨Nat.le_of_ble_eq_true rfl, Nat.le_of_ble_eq_true rfl⟩ rfl rfl hl.1 (Nat.le_of_ble_eq_true rfl) dX11_readStream_44 ⟨Nat.le_of_ble_eq_true rfl, Nat.le_of_ble_eq_true rfl⟩ (fun S44_33 H locs h44_32 hw => ?_)
    have := t_1
    obtain ⟨I44_34, rfl, h44_32⟩ := h44_32
    have hw : PX G A s.heap (ch S I44_34 J22_13 (qI S) (qJ S)) H locs := hw
    refine lv_aload_n hx hb dX11_readStream_47 rfl (lv_at hl 2 rfl) ?_
    refine lv_bipush (v := -30) hx hb dX11_readStream_48 (by decide) ?_
    refine lv_bipush (v := 30) hx hb dX11_readStream_50 (by decide) ?_
    refine k_Vi (n := 2) X hw (rcvk (ci := 11) X hw hM.1 (fun _ _ _ _ _ _ _ => ⟨_, rfl⟩) rfl) (c_X11_numeral l G _ ma (-30) 30 (-30) hM (FrF.e h44_32 h22_10.2.1) (by decide)) wd_r22_17 wd_r22_18 wd_r22_19 wd_r1_5 wd_r22_20 ⟨by decide, by decide, by decide +kernel⟩ rfl rfl ⟨Nat.le_of_ble_eq_true rfl, Nat.le_of_ble_eq_true rfl⟩ rfl rfl hl.1 (Nat.le_of_ble_eq_true rfl) dX11_readStream_52 ⟨Nat.le_of_ble_eq_true rfl, Nat.le_of_ble_eq_true rfl⟩ (fun r52_35 S52_37 H locs h52_36 hw => ?_)
    have := t_m30
    have := t_30
    obtain ⟨I52_38, J52_39, rfl, h52_36⟩ := h52_36
    have hw : PX G A s.heap (ch S I52_38 J52_39 (qI S) (qJ S)) H locs := hw
    have h52_36r := h52_36.2.2
    have h52_36b := congrArg Int32.toInt (FrM.rb (FrM.tr (FrM.tr (FrM.tr (FrM.tr FrM.rf h3_2.1) h22_10.1) (h44_32.m)) h52_36.1) (ma 0))
    refine lv_istore_n (lv' := [(3, .int r52_35), (2, .int v25_14), (1, .int r3_1), (0, .ref (ma 0))]) hx hb dX11_readStream_55 rfl hl (by decide) rfl (fun ls hl => ?_)
    refine lv_aload_n hx hb dX11_readStream_56 rfl (lv_at hl 3 rfl) ?_
    refine lv_bipush (v := -30) hx hb dX11_readStream_57 (by decide) ?_
    refine lv_bipush (v := 30) hx hb dX11_readStream_59 (by decide) ?_
    refine k_Vi (n := 2) X hw (rcvk (ci := 11) X hw hM.1 (fun _ _ _ _ _ _ _ => ⟨_, rfl⟩) rfl) (c_X11_numeral l G _ ma (-30) 30 (-30) hM h52_36.2.1 (by decide)) wd_r22_17 wd_r22_18 wd_r22_19 wd_r1_5 wd_r22_20 ⟨by decide, by decide, by decide +kernel⟩ rfl rfl ⟨Nat.le_of_ble_eq_true rfl, Nat.le_of_ble_eq_true rfl⟩ rfl rfl hl.1 (Nat.le_of_ble_eq_true rfl) dX11_readStream_61 ⟨Nat.le_of_ble_eq_true rfl, Nat.le_of_ble_eq_true rfl⟩ (fun r61_40 S61_42 H locs h61_41 hw => ?_)
    have := t_m30
    have := t_30
    obtain ⟨I61_43, J61_44, rfl, h61_41⟩ := h61_41
    have hw : PX G A s.heap (ch S I61_43 J61_44 (qI S) (qJ S)) H locs := hw
    have h61_41r := h61_41.2.2
    have h61_41b := congrArg Int32.toInt (FrM.rb (FrM.tr (FrM.tr (FrM.tr (FrM.tr (FrM.tr FrM.rf h3_2.1) h22_10.1) (h44_32.m)) h52_36.1) h61_41.1) (ma 0))
    refine lv_istore (lv' := [(4, .int r61_40), (3, .int r52_35), (2, .int v25_14), (1, .int r3_1), (0, .ref (ma 0))]) hx hb dX11_readStream_64 hl (by decide) rfl (fun ls hl => ?_)
    refine lv_aload_n hx hb dX11_readStream_66 rfl (lv_at hl 4 rfl) ?_
    refine gf_X11_71 (b := (ma 15)) X hw hM.1 (mr_15 hM) dX11_readStream_67 ?_
    refine lv_iload_n hx hb dX11_readStream_70 rfl (lv_at hl 2 rfl) ?_
    refine lv_iload_n hx hb dX11_readStream_71 rfl (lv_at hl 1 rfl) ?_
    refine q_stI X hw (mk_15 hM) (vin (mn_15 hM) (by omega) (by omega)) dX11_readStream_72 (fun H locs hw => ?_)
    obtain ⟨q72_45, eq72_45, hw⟩ : ∃ zz9, zz9 = va_up (qI S) (ma 15) (upd ((qI S) (ma 15)) v25_14.toNatClampNeg r52_35) ∧ PX G A s.heap (ch S I61_43 J61_44 zz9 (qJ S)) H locs := ⟨_, rfl, hw⟩
    have c72 := eq72_45
    refine lv_aload_n hx hb dX11_readStream_73 rfl (lv_at hl 4 rfl) ?_
    refine gf_X11_74 (b := (ma 16)) X hw hM.1 (mr_16 hM) dX11_readStream_74 ?_
    refine lv_iload_n hx hb dX11_readStream_77 rfl (lv_at hl 2 rfl) ?_
    refine lv_iload hx hb dX11_readStream_78 (lv_at hl 0 rfl) ?_
    refine q_stI X hw (mk_16 hM) (vin (mn_16 hM) (by omega) (by omega)) dX11_readStream_80 (fun H locs hw => ?_)
    obtain ⟨q80_46, eq80_46, hw⟩ : ∃ zz9, zz9 = va_up q72_45 (ma 16) (upd (q72_45 (ma 16)) v25_14.toNatClampNeg r61_40) ∧ PX G A s.heap (ch S I61_43 J61_44 zz9 (qJ S)) H locs := ⟨_, rfl, hw⟩
    have c80 := eq80_46
    exact hret _ _ _ _ _ ⟨_, _, _, rfl, (FrM.tr (FrM.tr (FrM.tr (FrM.tr (FrM.tr FrM.rf h3_2.1) h22_10.1) (h44_32.m)) h52_36.1) h61_41.1), h61_41.2.1, (FrQ.ez eq80_46 (FrQ.up (j := 16) (by decide) (by decide) (FrQ.ez eq72_45 (FrQ.up (j := 15) (by decide) (by decide) FrQ.rf)))), (by rw [row_keep hM c80 (i := 18) (by decide) (by decide) (by decide), row_keep hM c72 (i := 18) (by decide) (by decide) (by decide)]; exact hms)⟩ hw dX11_readStream_81
set_option maxHeartbeats 4000000 in
set_option maxRecDepth 100000 in
theorem c_X11_readLee (l : Launch) (G : Gh) (S : Pl) (ma : Nat → Nat) (hM : shMod S ma) (hE : eM (pI S) (ma 0)) (hrb : 0 ≤ (pI S 121 (ma 0)).toInt ∧ (pI S 121 (ma 0)).toInt ≤ 1) (hms : MsOK (qI S (ma 18))) : MtV l yX11_readLee cX11_readLee 2 none (Rm 4 0 0) G [.ref (ma 0)] S (fun (S' : Pl) => ∃ I' J' q', ch S I' J' q' (qJ S) = S' ∧ FrM (pI S) I' ∧ eM I' (ma 0) ∧ FrQ 13 ma (qI S) q' ∧ MsOK (q' (ma 18))) 0 0 := by
  refine MtV.of (by decide) (Nat.le_of_ble_eq_true rfl) ?_
  intro p e s m args below meth c Q A X hw hin hret ls hl
  have hx := X.1.1
  have hb := X.1.2.1
  have hl : lv_has ls 2 [(0, .ref (ma 0))] := hl
  refine lv_iconst (v := 4) hx hb dX11_readLee_0 (by decide) ?_
  refine lv_aload_n hx hb dX11_readLee_1 rfl (lv_at hl 0 rfl) ?_
  refine gf_X11_149 (v := (pI S) 121 (ma 0)) X hw hM.1 rfl dX11_readLee_2 ?_
  refine lv_imul hx hb dX11_readLee_5 ?_
  refine lv_topi (fun v5_1 e5_1 => ?_)
  have t5_1 := iMul e5_1 t_4 rfl (by omega) (by omega)
  have t5 := t5_1
  refine lv_aload_n hx hb dX11_readLee_6 rfl (lv_at hl 0 rfl) ?_
  refine lv_iconst (v := 0) hx hb dX11_readLee_7 (by decide) ?_
  refine lv_iconst (v := 3) hx hb dX11_readLee_8 (by decide) ?_
  refine k_Vi (n := 2) X hw (rcvk (ci := 11) X hw hM.1 (fun _ _ _ _ _ _ _ => ⟨_, rfl⟩) rfl) (c_X11_numeral l G _ ma 0 3 0 hM hE (by decide)) wd_r22_17 wd_r22_18 wd_r22_19 wd_r1_5 wd_r22_20 ⟨by decide, by decide, by decide +kernel⟩ rfl rfl ⟨Nat.le_of_ble_eq_true rfl, Nat.le_of_ble_eq_true rfl⟩ rfl rfl hl.1 (Nat.le_of_ble_eq_true rfl) dX11_readLee_9 ⟨Nat.le_of_ble_eq_true rfl, Nat.le_of_ble_eq_true rfl⟩ (fun r9_2 S9_4 H locs h9_3 hw => ?_)
  have := t_0
  have := t_3
  obtain ⟨I9_5, J9_6, rfl, h9_3⟩ := h9_3
  have hw : PX G A s.heap (ch S I9_5 J9_6 (qI S) (qJ S)) H locs := hw
  have h9_3r := h9_3.2.2
  have h9_3b := congrArg Int32.toInt (FrM.rb (FrM.tr FrM.rf h9_3.1) (ma 0))
  refine lv_iadd hx hb dX11_readLee_12 ?_
  refine lv_topi (fun v12_7 e12_7 => ?_)
  have t12_7 := iAdd e12_7 rfl rfl (by omega) (by omega)
  have t12 := t12_7
  refine lv_istore_n (lv' := [(1, .int v12_7), (0, .ref (ma 0))]) hx hb dX11_readLee_13 rfl hl (by decide) rfl (fun ls hl => ?_)
  refine lv_aload_n hx hb dX11_readLee_14 rfl (lv_at hl 1 rfl) ?_
  refine lv_aload_n hx hb dX11_readLee_15 rfl (lv_at hl 1 rfl) ?_
  refine gf_X11_87 (b := (ma 20)) X hw hM.1 (mr_20 hM) dX11_readLee_16 ?_
  refine lv_iload_n hx hb dX11_readLee_19 rfl (lv_at hl 0 rfl) ?_
  refine q_ldZ X hw (mk_20 hM) (vin (mn_20 hM) (by omega) (by omega)) dX11_readLee_20 ?_
  refine lv_topi (fun v20_8 e20_8 => ?_)
  have e20_8 : v20_8 = (qI S) (ma 20) v12_7.toNatClampNeg := e20_8
  refine k_Vv (n := 1) X hw (rcvk (ci := 11) X hw hM.1 (fun _ _ _ _ _ _ _ => ⟨_, rfl⟩) rfl) (c_X11_twice l G _ ma v20_8 hM) wd_r22_22 wd_r22_23 wd_r23_0 wd_r1_5 wd_r23_1 ⟨by decide, by decide, by decide +kernel⟩ rfl rfl ⟨Nat.le_of_ble_eq_true rfl, Nat.le_of_ble_eq_true rfl⟩ rfl rfl hl.1 (Nat.le_of_ble_eq_true rfl) dX11_readLee_21 ⟨Nat.le_of_ble_eq_true rfl, Nat.le_of_ble_eq_true rfl⟩ (fun S21_10 H locs h21_9 hw => ?_)
  obtain ⟨I21_11, rfl, h21_9⟩ := h21_9
  have hw : PX G A s.heap (ch S I21_11 J9_6 (qI S) (qJ S)) H locs := hw
  refine lv_aload_n hx hb dX11_readLee_24 rfl (lv_at hl 1 rfl) ?_
  refine gf_X11_77 (b := (ma 17)) X hw hM.1 (mr_17 hM) dX11_readLee_25 ?_
  refine lv_iload_n hx hb dX11_readLee_28 rfl (lv_at hl 0 rfl) ?_
  refine lv_aload_n hx hb dX11_readLee_29 rfl (lv_at hl 1 rfl) ?_
  refine lv_iconst (v := 0) hx hb dX11_readLee_30 (by decide) ?_
  refine lv_bipush (v := 100) hx hb dX11_readLee_31 (by decide) ?_
  refine k_Vi (n := 2) X hw (rcvk (ci := 11) X hw hM.1 (fun _ _ _ _ _ _ _ => ⟨_, rfl⟩) rfl) (c_X11_numeral l G _ ma 0 100 0 hM (FrF.e h21_9 h9_3.2.1) (by decide)) wd_r22_17 wd_r22_18 wd_r22_19 wd_r1_5 wd_r22_20 ⟨by decide, by decide, by decide +kernel⟩ rfl rfl ⟨Nat.le_of_ble_eq_true rfl, Nat.le_of_ble_eq_true rfl⟩ rfl rfl hl.1 (Nat.le_of_ble_eq_true rfl) dX11_readLee_33 ⟨Nat.le_of_ble_eq_true rfl, Nat.le_of_ble_eq_true rfl⟩ (fun r33_12 S33_14 H locs h33_13 hw => ?_)
  have := t_0
  have := t_100
  obtain ⟨I33_15, J33_16, rfl, h33_13⟩ := h33_13
  have hw : PX G A s.heap (ch S I33_15 J33_16 (qI S) (qJ S)) H locs := hw
  have h33_13r := h33_13.2.2
  have h33_13b := congrArg Int32.toInt (FrM.rb (FrM.tr (FrM.tr (FrM.tr FrM.rf h9_3.1) (h21_9.m)) h33_13.1) (ma 0))
  refine q_stI X hw (mk_17 hM) (vin (mn_17 hM) (by omega) (by omega)) dX11_readLee_36 (fun H locs hw => ?_)
  obtain ⟨q36_17, eq36_17, hw⟩ : ∃ zz9, zz9 = va_up (qI S) (ma 17) (upd ((qI S) (ma 17)) v12_7.toNatClampNeg r33_12) ∧ PX G A s.heap (ch S I33_15 J33_16 zz9 (qJ S)) H locs := ⟨_, rfl, hw⟩
  have c36 := eq36_17
  refine lv_aload_n hx hb dX11_readLee_37 rfl (lv_at hl 1 rfl) ?_
  refine gf_X11_87 (b := (ma 20)) X hw hM.1 (mr_20 hM) dX11_readLee_38 ?_
  refine lv_iload_n hx hb dX11_readLee_41 rfl (lv_at hl 0 rfl) ?_
  refine lv_iconst (v := 1) hx hb dX11_readLee_42 (by decide) ?_
  refine q_stZ X hw (mk_20 hM) (vin (mn_20 hM) (by omega) (by omega)) dX11_readLee_43 (fun H locs hw => ?_)
  obtain ⟨q43_18, eq43_18, hw⟩ : ∃ zz9, zz9 = va_up q36_17 (ma 20) (upd (q36_17 (ma 20)) v12_7.toNatClampNeg (vp_nar .boolean 1)) ∧ PX G A s.heap (ch S I33_15 J33_16 zz9 (qJ S)) H locs := ⟨_, rfl, hw⟩
  have c43 := eq43_18
  exact hret _ _ _ _ _ ⟨_, _, _, rfl, (FrM.tr (FrM.tr (FrM.tr FrM.rf h9_3.1) (h21_9.m)) h33_13.1), h33_13.2.1, (FrQ.ez eq43_18 (FrQ.up (j := 20) (by decide) (by decide) (FrQ.ez eq36_17 (FrQ.up (j := 17) (by decide) (by decide) FrQ.rf)))), (by rw [row_keep hM c43 (i := 18) (by decide) (by decide) (by decide), row_keep hM c36 (i := 18) (by decide) (by decide) (by decide)]; exact hms)⟩ hw dX11_readLee_44
set_option maxHeartbeats 4000000 in
set_option maxRecDepth 100000 in
theorem c_X11_readLand (l : Launch) (G : Gh) (S : Pl) (ma : Nat → Nat) (hM : shMod S ma) (hE : eM (pI S) (ma 0)) (hrb : 0 ≤ (pI S 121 (ma 0)).toInt ∧ (pI S 121 (ma 0)).toInt ≤ 1) (hms : MsOK (qI S (ma 18))) : MtV l yX11_readLand cX11_readLand 3 none (Rm 4 0 0) G [.ref (ma 0)] S (fun (S' : Pl) => ∃ I' J' q', ch S I' J' q' (qJ S) = S' ∧ FrM (pI S) I' ∧ eM I' (ma 0) ∧ FrQ 13 ma (qI S) q' ∧ MsOK (q' (ma 18))) 0 0 := by
  refine MtV.of (by decide) (Nat.le_of_ble_eq_true rfl) ?_
  intro p e s m args below meth c Q A X hw hin hret ls hl
  have hx := X.1.1
  have hb := X.1.2.1
  have hl : lv_has ls 3 [(0, .ref (ma 0))] := hl
  refine lv_aload_n hx hb dX11_readLand_0 rfl (lv_at hl 0 rfl) ?_
  refine lv_iconst (v := 0) hx hb dX11_readLand_1 (by decide) ?_
  refine lv_bipush (v := 7) hx hb dX11_readLand_2 (by decide) ?_
  refine k_Vi (n := 2) X hw (rcvk (ci := 11) X hw hM.1 (fun _ _ _ _ _ _ _ => ⟨_, rfl⟩) rfl) (c_X11_numeral l G _ ma 0 7 0 hM hE (by decide)) wd_r22_17 wd_r22_18 wd_r22_19 wd_r1_5 wd_r22_20 ⟨by decide, by decide, by decide +kernel⟩ rfl rfl ⟨Nat.le_of_ble_eq_true rfl, Nat.le_of_ble_eq_true rfl⟩ rfl rfl hl.1 (Nat.le_of_ble_eq_true rfl) dX11_readLand_4 ⟨Nat.le_of_ble_eq_true rfl, Nat.le_of_ble_eq_true rfl⟩ (fun r4_1 S4_3 H locs h4_2 hw => ?_)
  have := t_0
  have := t_7
  obtain ⟨I4_4, J4_5, rfl, h4_2⟩ := h4_2
  have hw : PX G A s.heap (ch S I4_4 J4_5 (qI S) (qJ S)) H locs := hw
  have h4_2r := h4_2.2.2
  have h4_2b := congrArg Int32.toInt (FrM.rb (FrM.tr FrM.rf h4_2.1) (ma 0))
  refine lv_istore_n (lv' := [(1, .int r4_1), (0, .ref (ma 0))]) hx hb dX11_readLand_7 rfl hl (by decide) rfl (fun ls hl => ?_)
  refine lv_bipush (v := 64) hx hb dX11_readLand_8 (by decide) ?_
  refine lv_aload_n hx hb dX11_readLand_10 rfl (lv_at hl 1 rfl) ?_
  refine gf_X11_149 (v := I4_4 121 (ma 0)) X hw hM.1 rfl dX11_readLand_11 ?_
  refine lv_imul hx hb dX11_readLand_14 ?_
  refine lv_topi (fun v14_6 e14_6 => ?_)
  have t14_6 := iMul e14_6 t_64 rfl (by omega) (by omega)
  have t14 := t14_6
  refine lv_iload_n hx hb dX11_readLand_15 rfl (lv_at hl 0 rfl) ?_
  refine lv_iadd hx hb dX11_readLand_16 ?_
  refine lv_topi (fun v16_7 e16_7 => ?_)
  have t16_7 := iAdd e16_7 rfl rfl (by omega) (by omega)
  have t16 := t16_7
  refine lv_bipush (v := 8) hx hb dX11_readLand_17 (by decide) ?_
  refine lv_aload_n hx hb dX11_readLand_19 rfl (lv_at hl 1 rfl) ?_
  refine lv_iconst (v := 0) hx hb dX11_readLand_20 (by decide) ?_
  refine lv_bipush (v := 7) hx hb dX11_readLand_21 (by decide) ?_
  refine k_Vi (n := 2) X hw (rcvk (ci := 11) X hw hM.1 (fun _ _ _ _ _ _ _ => ⟨_, rfl⟩) rfl) (c_X11_numeral l G _ ma 0 7 0 hM h4_2.2.1 (by decide)) wd_r22_17 wd_r22_18 wd_r22_19 wd_r1_5 wd_r22_20 ⟨by decide, by decide, by decide +kernel⟩ rfl rfl ⟨Nat.le_of_ble_eq_true rfl, Nat.le_of_ble_eq_true rfl⟩ rfl rfl hl.1 (Nat.le_of_ble_eq_true rfl) dX11_readLand_23 ⟨Nat.le_of_ble_eq_true rfl, Nat.le_of_ble_eq_true rfl⟩ (fun r23_8 S23_10 H locs h23_9 hw => ?_)
  have := t_0
  have := t_7
  obtain ⟨I23_11, J23_12, rfl, h23_9⟩ := h23_9
  have hw : PX G A s.heap (ch S I23_11 J23_12 (qI S) (qJ S)) H locs := hw
  have h23_9r := h23_9.2.2
  have h23_9b := congrArg Int32.toInt (FrM.rb (FrM.tr (FrM.tr FrM.rf h4_2.1) h23_9.1) (ma 0))
  refine lv_imul hx hb dX11_readLand_26 ?_
  refine lv_topi (fun v26_13 e26_13 => ?_)
  have t26_13 := iMul e26_13 t_8 rfl (by omega) (by omega)
  have t26 := t26_13
  refine lv_iadd hx hb dX11_readLand_27 ?_
  refine lv_topi (fun v27_14 e27_14 => ?_)
  have t27_14 := iAdd e27_14 rfl rfl (by omega) (by omega)
  have t27 := t27_14
  refine lv_istore_n (lv' := [(2, .int v27_14), (1, .int r4_1), (0, .ref (ma 0))]) hx hb dX11_readLand_28 rfl hl (by decide) rfl (fun ls hl => ?_)
  refine lv_aload_n hx hb dX11_readLand_29 rfl (lv_at hl 2 rfl) ?_
  refine lv_aload_n hx hb dX11_readLand_30 rfl (lv_at hl 2 rfl) ?_
  refine gf_X11_83 (b := (ma 19)) X hw hM.1 (mr_19 hM) dX11_readLand_31 ?_
  refine lv_iload_n hx hb dX11_readLand_34 rfl (lv_at hl 0 rfl) ?_
  refine q_ldZ X hw (mk_19 hM) (vin (mn_19 hM) (by omega) (by omega)) dX11_readLand_35 ?_
  refine lv_topi (fun v35_15 e35_15 => ?_)
  have e35_15 : v35_15 = (qI S) (ma 19) v27_14.toNatClampNeg := e35_15
  refine k_Vv (n := 1) X hw (rcvk (ci := 11) X hw hM.1 (fun _ _ _ _ _ _ _ => ⟨_, rfl⟩) rfl) (c_X11_twice l G _ ma v35_15 hM) wd_r22_22 wd_r22_23 wd_r23_0 wd_r1_5 wd_r23_1 ⟨by decide, by decide, by decide +kernel⟩ rfl rfl ⟨Nat.le_of_ble_eq_true rfl, Nat.le_of_ble_eq_true rfl⟩ rfl rfl hl.1 (Nat.le_of_ble_eq_true rfl) dX11_readLand_36 ⟨Nat.le_of_ble_eq_true rfl, Nat.le_of_ble_eq_true rfl⟩ (fun S36_17 H locs h36_16 hw => ?_)
  obtain ⟨I36_18, rfl, h36_16⟩ := h36_16
  have hw : PX G A s.heap (ch S I36_18 J23_12 (qI S) (qJ S)) H locs := hw
  refine lv_aload_n hx hb dX11_readLand_39 rfl (lv_at hl 2 rfl) ?_
  refine gf_X11_83 (b := (ma 19)) X hw hM.1 (mr_19 hM) dX11_readLand_40 ?_
  refine lv_iload_n hx hb dX11_readLand_43 rfl (lv_at hl 0 rfl) ?_
  refine lv_iconst (v := 1) hx hb dX11_readLand_44 (by decide) ?_
  refine q_stZ X hw (mk_19 hM) (vin (mn_19 hM) (by omega) (by omega)) dX11_readLand_45 (fun H locs hw => ?_)
  obtain ⟨q45_19, eq45_19, hw⟩ : ∃ zz9, zz9 = va_up (qI S) (ma 19) (upd ((qI S) (ma 19)) v27_14.toNatClampNeg (vp_nar .boolean 1)) ∧ PX G A s.heap (ch S I36_18 J23_12 zz9 (qJ S)) H locs := ⟨_, rfl, hw⟩
  have c45 := eq45_19
  exact hret _ _ _ _ _ ⟨_, _, _, rfl, (FrM.tr (FrM.tr (FrM.tr FrM.rf h4_2.1) h23_9.1) (h36_16.m)), (FrF.e h36_16 h23_9.2.1), (FrQ.ez eq45_19 (FrQ.up (j := 19) (by decide) (by decide) FrQ.rf)), (by rw [row_keep hM c45 (i := 18) (by decide) (by decide) (by decide)]; exact hms)⟩ hw dX11_readLand_46
set_option maxHeartbeats 4000000 in
set_option maxRecDepth 100000 in
theorem c_X11_readMiss (l : Launch) (G : Gh) (S : Pl) (ma : Nat → Nat) (hM : shMod S ma) (hE : eM (pI S) (ma 0)) (hrb : 0 ≤ (pI S 121 (ma 0)).toInt ∧ (pI S 121 (ma 0)).toInt ≤ 1) (hms : MsOK (qI S (ma 18))) : MtV l yX11_readMiss cX11_readMiss 7 none (Rm 4 0 0) G [.ref (ma 0)] S (fun (S' : Pl) => ∃ I' J' q', ch S I' J' q' (qJ S) = S' ∧ FrM (pI S) I' ∧ eM I' (ma 0) ∧ FrQ 13 ma (qI S) q' ∧ MsOK (q' (ma 18))) 0 0 := by
  refine MtV.of (by decide) (Nat.le_of_ble_eq_true rfl) ?_
  intro p e s m args below meth c Q A X hw hin hret ls hl
  have hx := X.1.1
  have hb := X.1.2.1
  have hl : lv_has ls 7 [(0, .ref (ma 0))] := hl
  refine lv_bipush (v := 42) hx hb dX11_readMiss_0 (by decide) ?_
  refine lv_aload_n hx hb dX11_readMiss_2 rfl (lv_at hl 0 rfl) ?_
  refine gf_X11_149 (v := (pI S) 121 (ma 0)) X hw hM.1 rfl dX11_readMiss_3 ?_
  refine lv_imul hx hb dX11_readMiss_6 ?_
  refine lv_topi (fun v6_1 e6_1 => ?_)
  have t6_1 := iMul e6_1 t_42 rfl (by omega) (by omega)
  have t6 := t6_1
  refine lv_bipush (v := 21) hx hb dX11_readMiss_7 (by decide) ?_
  refine lv_aload_n hx hb dX11_readMiss_9 rfl (lv_at hl 0 rfl) ?_
  refine lv_iconst (v := 0) hx hb dX11_readMiss_10 (by decide) ?_
  refine lv_iconst (v := 1) hx hb dX11_readMiss_11 (by decide) ?_
  refine k_Vi (n := 2) X hw (rcvk (ci := 11) X hw hM.1 (fun _ _ _ _ _ _ _ => ⟨_, rfl⟩) rfl) (c_X11_numeral l G _ ma 0 1 0 hM hE (by decide)) wd_r22_17 wd_r22_18 wd_r22_19 wd_r1_5 wd_r22_20 ⟨by decide, by decide, by decide +kernel⟩ rfl rfl ⟨Nat.le_of_ble_eq_true rfl, Nat.le_of_ble_eq_true rfl⟩ rfl rfl hl.1 (Nat.le_of_ble_eq_true rfl) dX11_readMiss_12 ⟨Nat.le_of_ble_eq_true rfl, Nat.le_of_ble_eq_true rfl⟩ (fun r12_2 S12_4 H locs h12_3 hw => ?_)
  have := t_0
  have := t_1
  obtain ⟨I12_5, J12_6, rfl, h12_3⟩ := h12_3
  have hw : PX G A s.heap (ch S I12_5 J12_6 (qI S) (qJ S)) H locs := hw
  have h12_3r := h12_3.2.2
  have h12_3b := congrArg Int32.toInt (FrM.rb (FrM.tr FrM.rf h12_3.1) (ma 0))
  refine lv_imul hx hb dX11_readMiss_15 ?_
  refine lv_topi (fun v15_7 e15_7 => ?_)
  have t15_7 := iMul e15_7 t_21 rfl (by omega) (by omega)
  have t15 := t15_7
  refine lv_iadd hx hb dX11_readMiss_16 ?_
  refine lv_topi (fun v16_8 e16_8 => ?_)
  have t16_8 := iAdd e16_8 rfl rfl (by omega) (by omega)
  have t16 := t16_8
  refine lv_istore_n (lv' := [(1, .int v16_8), (0, .ref (ma 0))]) hx hb dX11_readMiss_17 rfl hl (by decide) rfl (fun ls hl => ?_)
  refine lv_aload_n hx hb dX11_readMiss_18 rfl (lv_at hl 1 rfl) ?_
  refine lv_iconst (v := 1) hx hb dX11_readMiss_19 (by decide) ?_
  refine lv_bipush (v := 20) hx hb dX11_readMiss_20 (by decide) ?_
  refine k_Vi (n := 2) X hw (rcvk (ci := 11) X hw hM.1 (fun _ _ _ _ _ _ _ => ⟨_, rfl⟩) rfl) (c_X11_numeral l G _ ma 1 20 0 hM h12_3.2.1 (by decide)) wd_r22_17 wd_r22_18 wd_r22_19 wd_r1_5 wd_r22_20 ⟨by decide, by decide, by decide +kernel⟩ rfl rfl ⟨Nat.le_of_ble_eq_true rfl, Nat.le_of_ble_eq_true rfl⟩ rfl rfl hl.1 (Nat.le_of_ble_eq_true rfl) dX11_readMiss_22 ⟨Nat.le_of_ble_eq_true rfl, Nat.le_of_ble_eq_true rfl⟩ (fun r22_9 S22_11 H locs h22_10 hw => ?_)
  have := t_1
  have := t_20
  obtain ⟨I22_12, J22_13, rfl, h22_10⟩ := h22_10
  have hw : PX G A s.heap (ch S I22_12 J22_13 (qI S) (qJ S)) H locs := hw
  have h22_10r := h22_10.2.2
  have h22_10b := congrArg Int32.toInt (FrM.rb (FrM.tr (FrM.tr FrM.rf h12_3.1) h22_10.1) (ma 0))
  refine lv_istore_n (lv' := [(2, .int r22_9), (1, .int v16_8), (0, .ref (ma 0))]) hx hb dX11_readMiss_25 rfl hl (by decide) rfl (fun ls hl => ?_)
  refine lv_aload_n hx hb dX11_readMiss_26 rfl (lv_at hl 2 rfl) ?_
  refine lv_aload_n hx hb dX11_readMiss_27 rfl (lv_at hl 2 rfl) ?_
  refine gf_X11_80 (b := (ma 18)) X hw hM.1 (mr_18 hM) dX11_readMiss_28 ?_
  refine lv_iload_n hx hb dX11_readMiss_31 rfl (lv_at hl 1 rfl) ?_
  refine lv_iload_n hx hb dX11_readMiss_32 rfl (lv_at hl 0 rfl) ?_
  refine lv_iadd hx hb dX11_readMiss_33 ?_
  refine lv_topi (fun v33_14 e33_14 => ?_)
  have t33_14 := iAdd e33_14 rfl rfl (by omega) (by omega)
  have t33 := t33_14
  refine q_ldI X hw (mk_18 hM) (vin (mn_18 hM) (by omega) (by omega)) dX11_readMiss_34 ?_
  refine lv_topi (fun v34_15 e34_15 => ?_)
  have e34_15 : v34_15 = (qI S) (ma 18) v33_14.toNatClampNeg := e34_15
  refine lv_bipush (v := -100) hx hb dX11_readMiss_35 (by decide) ?_
  refine lv_icmp_eq (tgt := 44) hx hb dX11_readMiss_37 (by decide) (fun c37_16 => ?_) (fun c37_16 => ?_)
  · have D37_16 := iEq c37_16 rfl t_m100
    refine lv_iconst (v := 0) hx hb dX11_readMiss_44 (by decide) ?_
    refine k_Vv (n := 1) X hw (rcvk (ci := 11) X hw hM.1 (fun _ _ _ _ _ _ _ => ⟨_, rfl⟩) rfl) (c_X11_twice l G _ ma 0 hM) wd_r22_22 wd_r22_23 wd_r23_0 wd_r1_5 wd_r23_1 ⟨by decide, by decide, by decide +kernel⟩ rfl rfl ⟨Nat.le_of_ble_eq_true rfl, Nat.le_of_ble_eq_true rfl⟩ rfl rfl hl.1 (Nat.le_of_ble_eq_true rfl) dX11_readMiss_45 ⟨Nat.le_of_ble_eq_true rfl, Nat.le_of_ble_eq_true rfl⟩ (fun S45_18 H locs h45_17 hw => ?_)
    have := t_0
    obtain ⟨I45_19, rfl, h45_17⟩ := h45_17
    have hw : PX G A s.heap (ch S I45_19 J22_13 (qI S) (qJ S)) H locs := hw
    refine lv_aload_n hx hb dX11_readMiss_48 rfl (lv_at hl 2 rfl) ?_
    refine lv_iconst (v := 0) hx hb dX11_readMiss_49 (by decide) ?_
    refine lv_bipush (v := 100) hx hb dX11_readMiss_50 (by decide) ?_
    refine k_Vi (n := 2) X hw (rcvk (ci := 11) X hw hM.1 (fun _ _ _ _ _ _ _ => ⟨_, rfl⟩) rfl) (c_X11_numeral l G _ ma 0 100 0 hM (FrF.e h45_17 h22_10.2.1) (by decide)) wd_r22_17 wd_r22_18 wd_r22_19 wd_r1_5 wd_r22_20 ⟨by decide, by decide, by decide +kernel⟩ rfl rfl ⟨Nat.le_of_ble_eq_true rfl, Nat.le_of_ble_eq_true rfl⟩ rfl rfl hl.1 (Nat.le_of_ble_eq_true rfl) dX11_readMiss_52 ⟨Nat.le_of_ble_eq_true rfl, Nat.le_of_ble_eq_true rfl⟩ (fun r52_20 S52_22 H locs h52_21 hw => ?_)
    have := t_0
    have := t_100
    obtain ⟨I52_23, J52_24, rfl, h52_21⟩ := h52_21
    have hw : PX G A s.heap (ch S I52_23 J52_24 (qI S) (qJ S)) H locs := hw
    have h52_21r := h52_21.2.2
    have h52_21b := congrArg Int32.toInt (FrM.rb (FrM.tr (FrM.tr (FrM.tr (FrM.tr FrM.rf h12_3.1) h22_10.1) (h45_17.m)) h52_21.1) (ma 0))
    refine lv_istore_n (lv' := [(3, .int r52_20), (2, .int r22_9), (1, .int v16_8), (0, .ref (ma 0))]) hx hb dX11_readMiss_55 rfl hl (by decide) rfl (fun ls hl => ?_)
    refine lv_aload_n hx hb dX11_readMiss_56 rfl (lv_at hl 3 rfl) ?_
    refine k_Vi (n := 0) X hw (rcvk (ci := 11) X hw hM.1 (fun _ _ _ _ _ _ _ => ⟨_, rfl⟩) rfl) (c_X11_isGood l G _ ma hM) wd_r21_12 wd_r21_13 wd_r21_14 wd_r1_5 wd_r21_15 ⟨by decide, by decide, by decide +kernel⟩ rfl rfl ⟨Nat.le_of_ble_eq_true rfl, Nat.le_of_ble_eq_true rfl⟩ rfl rfl hl.1 (Nat.le_of_ble_eq_true rfl) dX11_readMiss_57 ⟨Nat.le_of_ble_eq_true rfl, Nat.le_of_ble_eq_true rfl⟩ (fun r57_25 S57_27 H locs h57_26 hw => ?_)
    rcases h57_26 with ⟨rfl, rfl, h57_26⟩ | ⟨rfl, rfl, h57_26⟩
    · have h57_26 : (I52_23 104 (ma 0) : Int32).toInt = 0 := h57_26
      refine lv_if_ne (tgt := 64) hx hb dX11_readMiss_60 (by decide) (fun c60_28 => ?_) (fun c60_28 => absurd c60_28 (by decide))
      refine lv_bipush (v := 100) hx hb dX11_readMiss_64 (by decide) ?_
      refine lv_istore (lv' := [(4, .int 100), (3, .int r52_20), (2, .int r22_9), (1, .int v16_8), (0, .ref (ma 0))]) hx hb dX11_readMiss_66 hl (by decide) rfl (fun ls hl => ?_)
      refine lv_iconst (v := 1) hx hb dX11_readMiss_68 (by decide) ?_
      refine lv_istore (lv' := [(5, .int 1), (4, .int 100), (3, .int r52_20), (2, .int r22_9), (1, .int v16_8), (0, .ref (ma 0))]) hx hb dX11_readMiss_69 hl (by decide) rfl (fun ls hl => ?_)
      have lp71 : ∀ (N9 : Nat) (mo : Int32) (k : Int32), (1 ≤ k.toInt ∧ k.toInt ≤ 21) → (21 - k.toInt).toNat < N9 → ∀ (H : Heap) (locs : List Loc) (ls : Array Slot), PX G A s.heap (ch S I52_23 J52_24 (qI S) (qJ S)) H locs → lv_has ls 7 [(5, .int k), (4, .int mo), (3, .int r52_20), (2, .int r22_9), (1, .int v16_8), (0, .ref (ma 0))] → W p l e (Rm 4 0 0) s m args below meth c H locs 0 0 Q (F0 m 71 ls []) := by
        intro N9
        induction N9 with
        | zero => intro mo k hk hm; exact absurd hm (Nat.not_lt_zero _)
        | succ N9 ih71 =>
          intro mo k hk hm H locs ls hw hl
          refine lv_iload hx hb dX11_readMiss_71 (lv_at hl 0 rfl) ?_
          refine lv_iload_n hx hb dX11_readMiss_73 rfl (lv_at hl 3 rfl) ?_
          refine lv_icmp_ge (tgt := 113) hx hb dX11_readMiss_74 (by decide) (fun c74_29 => ?_) (fun c74_29 => ?_)
          · have D74_29 := iLe c74_29 rfl rfl
            refine lv_iconst (v := 0) hx hb dX11_readMiss_113 (by decide) ?_
            refine lv_istore (lv' := [(5, .int 0), (4, .int mo), (3, .int r52_20), (2, .int r22_9), (1, .int v16_8), (0, .ref (ma 0))]) hx hb dX11_readMiss_114 hl (by decide) rfl (fun ls hl => ?_)
            refine lv_bipush (v := 20) hx hb dX11_readMiss_116 (by decide) ?_
            refine lv_istore (lv' := [(6, .int 20), (5, .int 0), (4, .int mo), (3, .int r52_20), (2, .int r22_9), (1, .int v16_8), (0, .ref (ma 0))]) hx hb dX11_readMiss_118 hl (by decide) rfl (fun ls hl => ?_)
            have lp120 : ∀ (N9 : Nat) (le : Int32) (k : Int32), (0 ≤ k.toInt ∧ k.toInt ≤ 20) → k.toInt.toNat < N9 → ∀ (H : Heap) (locs : List Loc) (ls : Array Slot), PX G A s.heap (ch S I52_23 J52_24 (qI S) (qJ S)) H locs → lv_has ls 7 [(6, .int k), (5, .int le), (4, .int mo), (3, .int r52_20), (2, .int r22_9), (1, .int v16_8), (0, .ref (ma 0))] → W p l e (Rm 4 0 0) s m args below meth c H locs 0 0 Q (F0 m 120 ls []) := by
              intro N9
              induction N9 with
              | zero => intro le k hk hm; exact absurd hm (Nat.not_lt_zero _)
              | succ N9 ih120 =>
                intro le k hk hm H locs ls hw hl
                refine lv_iload hx hb dX11_readMiss_120 (lv_at hl 0 rfl) ?_
                refine lv_iload_n hx hb dX11_readMiss_122 rfl (lv_at hl 4 rfl) ?_
                refine lv_icmp_le (tgt := 162) hx hb dX11_readMiss_123 (by decide) (fun c123_30 => ?_) (fun c123_30 => ?_)
                · have D123_30 := iLe c123_30 rfl rfl
                  refine lv_iload_n hx hb dX11_readMiss_162 rfl (lv_at hl 3 rfl) ?_
                  refine lv_iload hx hb dX11_readMiss_163 (lv_at hl 2 rfl) ?_
                  refine lv_icmp_gt (tgt := 174) hx hb dX11_readMiss_165 (by decide) (fun c165_31 => ?_) (fun c165_31 => ?_)
                  · have D165_31 := iLt c165_31 rfl rfl
                    refine lv_aload_n hx hb dX11_readMiss_174 rfl (lv_at hl 6 rfl) ?_
                    refine lv_iconst (v := 5) hx hb dX11_readMiss_175 (by decide) ?_
                    refine lv_aload_n hx hb dX11_readMiss_176 rfl (lv_at hl 6 rfl) ?_
                    refine gf_X11_162 (v := I52_23 122 (ma 0)) X hw hM.1 rfl dX11_readMiss_177 ?_
                    refine k_Vv (n := 2) X hw (rcvk (ci := 11) X hw hM.1 (fun _ _ _ _ _ _ _ => ⟨_, rfl⟩) rfl) (c_X11_fails l G _ ma 5 (I52_23 122 (ma 0)) hM (by decide)) wd_r22_9 wd_r22_10 wd_r22_11 wd_r1_5 wd_r22_12 ⟨by decide, by decide, by decide +kernel⟩ rfl rfl ⟨Nat.le_of_ble_eq_true rfl, Nat.le_of_ble_eq_true rfl⟩ rfl rfl hl.1 (Nat.le_of_ble_eq_true rfl) dX11_readMiss_180 ⟨Nat.le_of_ble_eq_true rfl, Nat.le_of_ble_eq_true rfl⟩ (fun S180_33 H locs h180_32 hw => ?_)
                    have := t_5
                    obtain ⟨I180_34, rfl, h180_32⟩ := h180_32
                    have hw : PX G A s.heap (ch S I180_34 J52_24 (qI S) (qJ S)) H locs := hw
                    refine lv_aload_n hx hb dX11_readMiss_183 rfl (lv_at hl 6 rfl) ?_
                    refine gf_X11_80 (b := (ma 18)) X hw hM.1 (mr_18 hM) dX11_readMiss_184 ?_
                    refine lv_iload_n hx hb dX11_readMiss_187 rfl (lv_at hl 5 rfl) ?_
                    refine lv_iload_n hx hb dX11_readMiss_188 rfl (lv_at hl 4 rfl) ?_
                    refine lv_iadd hx hb dX11_readMiss_189 ?_
                    refine lv_topi (fun v189_35 e189_35 => ?_)
                    have t189_35 := iAdd e189_35 rfl rfl (by omega) (by omega)
                    have t189 := t189_35
                    refine lv_iload_n hx hb dX11_readMiss_190 rfl (lv_at hl 3 rfl) ?_
                    refine q_stI X hw (mk_18 hM) (vin (mn_18 hM) (by omega) (by omega)) dX11_readMiss_191 (fun H locs hw => ?_)
                    obtain ⟨q191_36, eq191_36, hw⟩ : ∃ zz9, zz9 = va_up (qI S) (ma 18) (upd ((qI S) (ma 18)) v189_35.toNatClampNeg r52_20) ∧ PX G A s.heap (ch S I180_34 J52_24 zz9 (qJ S)) H locs := ⟨_, rfl, hw⟩
                    have c191 := eq191_36
                    exact hret _ _ _ _ _ ⟨_, _, _, rfl, (FrM.tr (FrM.tr (FrM.tr (FrM.tr (FrM.tr FrM.rf h12_3.1) h22_10.1) (h45_17.m)) h52_21.1) (h180_32.1.m)), (FrF.e h180_32.1 h52_21.2.1), (FrQ.ez eq191_36 (FrQ.up (j := 18) (by decide) (by decide) FrQ.rf)), (by rw [c191, vu_s]; exact MsOK_upd hms (Or.inr (by omega)))⟩ hw dX11_readMiss_192
                  · have D165_31 := iNlt c165_31 rfl rfl
                    refine lv_iload_n hx hb dX11_readMiss_168 rfl (lv_at hl 3 rfl) ?_
                    refine lv_iload hx hb dX11_readMiss_169 (lv_at hl 1 rfl) ?_
                    refine lv_icmp_ge (tgt := 183) hx hb dX11_readMiss_171 (by decide) (fun c171_37 => ?_) (fun c171_37 => ?_)
                    · have D171_37 := iLe c171_37 rfl rfl
                      refine lv_aload_n hx hb dX11_readMiss_183 rfl (lv_at hl 6 rfl) ?_
                      refine gf_X11_80 (b := (ma 18)) X hw hM.1 (mr_18 hM) dX11_readMiss_184 ?_
                      refine lv_iload_n hx hb dX11_readMiss_187 rfl (lv_at hl 5 rfl) ?_
                      refine lv_iload_n hx hb dX11_readMiss_188 rfl (lv_at hl 4 rfl) ?_
                      refine lv_iadd hx hb dX11_readMiss_189 ?_
                      refine lv_topi (fun v189_38 e189_38 => ?_)
                      have t189_38 := iAdd e189_38 rfl rfl (by omega) (by omega)
                      have t189 := t189_38
                      refine lv_iload_n hx hb dX11_readMiss_190 rfl (lv_at hl 3 rfl) ?_
                      refine q_stI X hw (mk_18 hM) (vin (mn_18 hM) (by omega) (by omega)) dX11_readMiss_191 (fun H locs hw => ?_)
                      obtain ⟨q191_39, eq191_39, hw⟩ : ∃ zz9, zz9 = va_up (qI S) (ma 18) (upd ((qI S) (ma 18)) v189_38.toNatClampNeg r52_20) ∧ PX G A s.heap (ch S I52_23 J52_24 zz9 (qJ S)) H locs := ⟨_, rfl, hw⟩
                      have c191 := eq191_39
                      exact hret _ _ _ _ _ ⟨_, _, _, rfl, (FrM.tr (FrM.tr (FrM.tr (FrM.tr FrM.rf h12_3.1) h22_10.1) (h45_17.m)) h52_21.1), h52_21.2.1, (FrQ.ez eq191_39 (FrQ.up (j := 18) (by decide) (by decide) FrQ.rf)), (by rw [c191, vu_s]; exact MsOK_upd hms (Or.inr (by omega)))⟩ hw dX11_readMiss_192
                    · have D171_37 := iNle c171_37 rfl rfl
                      refine lv_aload_n hx hb dX11_readMiss_174 rfl (lv_at hl 6 rfl) ?_
                      refine lv_iconst (v := 5) hx hb dX11_readMiss_175 (by decide) ?_
                      refine lv_aload_n hx hb dX11_readMiss_176 rfl (lv_at hl 6 rfl) ?_
                      refine gf_X11_162 (v := I52_23 122 (ma 0)) X hw hM.1 rfl dX11_readMiss_177 ?_
                      refine k_Vv (n := 2) X hw (rcvk (ci := 11) X hw hM.1 (fun _ _ _ _ _ _ _ => ⟨_, rfl⟩) rfl) (c_X11_fails l G _ ma 5 (I52_23 122 (ma 0)) hM (by decide)) wd_r22_9 wd_r22_10 wd_r22_11 wd_r1_5 wd_r22_12 ⟨by decide, by decide, by decide +kernel⟩ rfl rfl ⟨Nat.le_of_ble_eq_true rfl, Nat.le_of_ble_eq_true rfl⟩ rfl rfl hl.1 (Nat.le_of_ble_eq_true rfl) dX11_readMiss_180 ⟨Nat.le_of_ble_eq_true rfl, Nat.le_of_ble_eq_true rfl⟩ (fun S180_41 H locs h180_40 hw => ?_)
                      have := t_5
                      obtain ⟨I180_42, rfl, h180_40⟩ := h180_40
                      have hw : PX G A s.heap (ch S I180_42 J52_24 (qI S) (qJ S)) H locs := hw
                      refine lv_aload_n hx hb dX11_readMiss_183 rfl (lv_at hl 6 rfl) ?_
                      refine gf_X11_80 (b := (ma 18)) X hw hM.1 (mr_18 hM) dX11_readMiss_184 ?_
                      refine lv_iload_n hx hb dX11_readMiss_187 rfl (lv_at hl 5 rfl) ?_
                      refine lv_iload_n hx hb dX11_readMiss_188 rfl (lv_at hl 4 rfl) ?_
                      refine lv_iadd hx hb dX11_readMiss_189 ?_
                      refine lv_topi (fun v189_43 e189_43 => ?_)
                      have t189_43 := iAdd e189_43 rfl rfl (by omega) (by omega)
                      have t189 := t189_43
                      refine lv_iload_n hx hb dX11_readMiss_190 rfl (lv_at hl 3 rfl) ?_
                      refine q_stI X hw (mk_18 hM) (vin (mn_18 hM) (by omega) (by omega)) dX11_readMiss_191 (fun H locs hw => ?_)
                      obtain ⟨q191_44, eq191_44, hw⟩ : ∃ zz9, zz9 = va_up (qI S) (ma 18) (upd ((qI S) (ma 18)) v189_43.toNatClampNeg r52_20) ∧ PX G A s.heap (ch S I180_42 J52_24 zz9 (qJ S)) H locs := ⟨_, rfl, hw⟩
                      have c191 := eq191_44
                      exact hret _ _ _ _ _ ⟨_, _, _, rfl, (FrM.tr (FrM.tr (FrM.tr (FrM.tr (FrM.tr FrM.rf h12_3.1) h22_10.1) (h45_17.m)) h52_21.1) (h180_40.1.m)), (FrF.e h180_40.1 h52_21.2.1), (FrQ.ez eq191_44 (FrQ.up (j := 18) (by decide) (by decide) FrQ.rf)), (by rw [c191, vu_s]; exact MsOK_upd hms (Or.inr (by omega)))⟩ hw dX11_readMiss_192
                · have D123_30 := iNle c123_30 rfl rfl
                  refine lv_aload_n hx hb dX11_readMiss_126 rfl (lv_at hl 6 rfl) ?_
                  refine gf_X11_80 (b := (ma 18)) X hw hM.1 (mr_18 hM) dX11_readMiss_127 ?_
                  refine lv_iload_n hx hb dX11_readMiss_130 rfl (lv_at hl 5 rfl) ?_
                  refine lv_iload hx hb dX11_readMiss_131 (lv_at hl 0 rfl) ?_
                  refine lv_iadd hx hb dX11_readMiss_133 ?_
                  refine lv_topi (fun v133_45 e133_45 => ?_)
                  have t133_45 := iAdd e133_45 rfl rfl (by omega) (by omega)
                  have t133 := t133_45
                  refine q_ldI X hw (mk_18 hM) (vin (mn_18 hM) (by omega) (by omega)) dX11_readMiss_134 ?_
                  refine lv_topi (fun v134_46 e134_46 => ?_)
                  have e134_46 : v134_46 = (qI S) (ma 18) v133_45.toNatClampNeg := e134_46
                  refine lv_bipush (v := -100) hx hb dX11_readMiss_135 (by decide) ?_
                  refine lv_icmp_ne (tgt := 145) hx hb dX11_readMiss_137 (by decide) (fun c137_47 => ?_) (fun c137_47 => ?_)
                  · skip
                    refine lv_aload_n hx hb dX11_readMiss_145 rfl (lv_at hl 6 rfl) ?_
                    refine gf_X11_80 (b := (ma 18)) X hw hM.1 (mr_18 hM) dX11_readMiss_146 ?_
                    refine lv_iload_n hx hb dX11_readMiss_149 rfl (lv_at hl 5 rfl) ?_
                    refine lv_iload hx hb dX11_readMiss_150 (lv_at hl 0 rfl) ?_
                    refine lv_iadd hx hb dX11_readMiss_152 ?_
                    refine lv_topi (fun v152_48 e152_48 => ?_)
                    have t152_48 := iAdd e152_48 rfl rfl (by omega) (by omega)
                    have t152 := t152_48
                    refine q_ldI X hw (mk_18 hM) (vin (mn_18 hM) (by omega) (by omega)) dX11_readMiss_153 ?_
                    refine lv_topi (fun v153_49 e153_49 => ?_)
                    have e153_49 : v153_49 = (qI S) (ma 18) v152_48.toNatClampNeg := e153_49
                    refine lv_istore (lv' := [(5, .int v153_49), (6, .int k), (4, .int mo), (3, .int r52_20), (2, .int r22_9), (1, .int v16_8), (0, .ref (ma 0))]) hx hb dX11_readMiss_154 hl (by decide) rfl (fun ls hl => ?_)
                    obtain ⟨v156_50, e156_50⟩ : ∃ y : Int32, y = k + (-1) := ⟨_, rfl⟩
                    have t156_50 := iAdd e156_50 rfl t_m1 (by omega) (by omega)
                    have t156 := t156_50
                    refine lv_iinc (v := v156_50) (lv' := [(6, .int v156_50), (5, .int v153_49), (4, .int mo), (3, .int r52_20), (2, .int r22_9), (1, .int v16_8), (0, .ref (ma 0))]) hx hb dX11_readMiss_156 hl (k := 1) rfl (by rw [e156_50]; rfl) (by decide) rfl (fun ls hl => ?_)
                    refine lv_goto (tgt := 120) hx hb dX11_readMiss_159 (by decide) ?_
                    exact ih120  v153_49 v156_50 (by omega) (by omega) _ _ _ hw (lv_sub hl [0, 1, 2, 3, 4, 5, 6] rfl)
                  · have D137_47 := iEq c137_47 rfl t_m100
                    refine lv_iload hx hb dX11_readMiss_140 (lv_at hl 1 rfl) ?_
                    refine lv_goto (tgt := 154) hx hb dX11_readMiss_142 (by decide) ?_
                    refine lv_istore (lv' := [(5, .int le), (6, .int k), (4, .int mo), (3, .int r52_20), (2, .int r22_9), (1, .int v16_8), (0, .ref (ma 0))]) hx hb dX11_readMiss_154 hl (by decide) rfl (fun ls hl => ?_)
                    obtain ⟨v156_51, e156_51⟩ : ∃ y : Int32, y = k + (-1) := ⟨_, rfl⟩
                    have t156_51 := iAdd e156_51 rfl t_m1 (by omega) (by omega)
                    have t156 := t156_51
                    refine lv_iinc (v := v156_51) (lv' := [(6, .int v156_51), (5, .int le), (4, .int mo), (3, .int r52_20), (2, .int r22_9), (1, .int v16_8), (0, .ref (ma 0))]) hx hb dX11_readMiss_156 hl (k := 1) rfl (by rw [e156_51]; rfl) (by decide) rfl (fun ls hl => ?_)
                    refine lv_goto (tgt := 120) hx hb dX11_readMiss_159 (by decide) ?_
                    exact ih120  le v156_51 (by omega) (by omega) _ _ _ hw (lv_sub hl [0, 1, 2, 3, 4, 5, 6] rfl)
            exact lp120 _  0 20 (by have := t_0; have := t_20; omega) (Nat.lt_succ_self _) _ _ _ hw (lv_sub hl [0, 1, 2, 3, 4, 5, 6] rfl)
          · have D74_29 := iNle c74_29 rfl rfl
            refine lv_aload_n hx hb dX11_readMiss_77 rfl (lv_at hl 5 rfl) ?_
            refine gf_X11_80 (b := (ma 18)) X hw hM.1 (mr_18 hM) dX11_readMiss_78 ?_
            refine lv_iload_n hx hb dX11_readMiss_81 rfl (lv_at hl 4 rfl) ?_
            refine lv_iload hx hb dX11_readMiss_82 (lv_at hl 0 rfl) ?_
            refine lv_iadd hx hb dX11_readMiss_84 ?_
            refine lv_topi (fun v84_52 e84_52 => ?_)
            have t84_52 := iAdd e84_52 rfl rfl (by omega) (by omega)
            have t84 := t84_52
            refine q_ldI X hw (mk_18 hM) (vin (mn_18 hM) (by omega) (by omega)) dX11_readMiss_85 ?_
            refine lv_topi (fun v85_53 e85_53 => ?_)
            have e85_53 : v85_53 = (qI S) (ma 18) v84_52.toNatClampNeg := e85_53
            refine lv_bipush (v := -100) hx hb dX11_readMiss_86 (by decide) ?_
            refine lv_icmp_ne (tgt := 96) hx hb dX11_readMiss_88 (by decide) (fun c88_54 => ?_) (fun c88_54 => ?_)
            · skip
              refine lv_aload_n hx hb dX11_readMiss_96 rfl (lv_at hl 5 rfl) ?_
              refine gf_X11_80 (b := (ma 18)) X hw hM.1 (mr_18 hM) dX11_readMiss_97 ?_
              refine lv_iload_n hx hb dX11_readMiss_100 rfl (lv_at hl 4 rfl) ?_
              refine lv_iload hx hb dX11_readMiss_101 (lv_at hl 0 rfl) ?_
              refine lv_iadd hx hb dX11_readMiss_103 ?_
              refine lv_topi (fun v103_55 e103_55 => ?_)
              have t103_55 := iAdd e103_55 rfl rfl (by omega) (by omega)
              have t103 := t103_55
              refine q_ldI X hw (mk_18 hM) (vin (mn_18 hM) (by omega) (by omega)) dX11_readMiss_104 ?_
              refine lv_topi (fun v104_56 e104_56 => ?_)
              have e104_56 : v104_56 = (qI S) (ma 18) v103_55.toNatClampNeg := e104_56
              refine lv_istore (lv' := [(4, .int v104_56), (5, .int k), (3, .int r52_20), (2, .int r22_9), (1, .int v16_8), (0, .ref (ma 0))]) hx hb dX11_readMiss_105 hl (by decide) rfl (fun ls hl => ?_)
              obtain ⟨v107_57, e107_57⟩ : ∃ y : Int32, y = k + 1 := ⟨_, rfl⟩
              have t107_57 := iAdd e107_57 rfl t_1 (by omega) (by omega)
              have t107 := t107_57
              refine lv_iinc (v := v107_57) (lv' := [(5, .int v107_57), (4, .int v104_56), (3, .int r52_20), (2, .int r22_9), (1, .int v16_8), (0, .ref (ma 0))]) hx hb dX11_readMiss_107 hl (k := 1) rfl (by rw [e107_57]; rfl) (by decide) rfl (fun ls hl => ?_)
              refine lv_goto (tgt := 71) hx hb dX11_readMiss_110 (by decide) ?_
              exact ih71  v104_56 v107_57 (by omega) (by omega) _ _ _ hw (lv_sub hl [0, 1, 2, 3, 4, 5] rfl)
            · have D88_54 := iEq c88_54 rfl t_m100
              refine lv_iload hx hb dX11_readMiss_91 (lv_at hl 1 rfl) ?_
              refine lv_goto (tgt := 105) hx hb dX11_readMiss_93 (by decide) ?_
              refine lv_istore (lv' := [(4, .int mo), (5, .int k), (3, .int r52_20), (2, .int r22_9), (1, .int v16_8), (0, .ref (ma 0))]) hx hb dX11_readMiss_105 hl (by decide) rfl (fun ls hl => ?_)
              obtain ⟨v107_58, e107_58⟩ : ∃ y : Int32, y = k + 1 := ⟨_, rfl⟩
              have t107_58 := iAdd e107_58 rfl t_1 (by omega) (by omega)
              have t107 := t107_58
              refine lv_iinc (v := v107_58) (lv' := [(5, .int v107_58), (4, .int mo), (3, .int r52_20), (2, .int r22_9), (1, .int v16_8), (0, .ref (ma 0))]) hx hb dX11_readMiss_107 hl (k := 1) rfl (by rw [e107_58]; rfl) (by decide) rfl (fun ls hl => ?_)
              refine lv_goto (tgt := 71) hx hb dX11_readMiss_110 (by decide) ?_
              exact ih71  mo v107_58 (by omega) (by omega) _ _ _ hw (lv_sub hl [0, 1, 2, 3, 4, 5] rfl)
      exact lp71 _  100 1 (by have := t_100; have := t_1; omega) (Nat.lt_succ_self _) _ _ _ hw (lv_sub hl [0, 1, 2, 3, 4, 5] rfl)
    · have h57_26 : ¬ ((I52_23 104 (ma 0) : Int32).toInt = 0) := h57_26
      refine lv_if_ne (tgt := 64) hx hb dX11_readMiss_60 (by decide) (fun c60_59 => absurd c60_59 (by decide)) (fun c60_59 => ?_)
      exact hret _ _ _ _ _ ⟨_, _, _, rfl, (FrM.tr (FrM.tr (FrM.tr (FrM.tr FrM.rf h12_3.1) h22_10.1) (h45_17.m)) h52_21.1), h52_21.2.1, FrQ.rf, hms⟩ hw dX11_readMiss_63
  · skip
    refine lv_iconst (v := 1) hx hb dX11_readMiss_40 (by decide) ?_
    refine lv_goto (tgt := 45) hx hb dX11_readMiss_41 (by decide) ?_
    refine k_Vv (n := 1) X hw (rcvk (ci := 11) X hw hM.1 (fun _ _ _ _ _ _ _ => ⟨_, rfl⟩) rfl) (c_X11_twice l G _ ma 1 hM) wd_r22_22 wd_r22_23 wd_r23_0 wd_r1_5 wd_r23_1 ⟨by decide, by decide, by decide +kernel⟩ rfl rfl ⟨Nat.le_of_ble_eq_true rfl, Nat.le_of_ble_eq_true rfl⟩ rfl rfl hl.1 (Nat.le_of_ble_eq_true rfl) dX11_readMiss_45 ⟨Nat.le_of_ble_eq_true rfl, Nat.le_of_ble_eq_true rfl⟩ (fun S45_61 H locs h45_60 hw => ?_)
    have := t_1
    obtain ⟨I45_62, rfl, h45_60⟩ := h45_60
    have hw : PX G A s.heap (ch S I45_62 J22_13 (qI S) (qJ S)) H locs := hw
    refine lv_aload_n hx hb dX11_readMiss_48 rfl (lv_at hl 2 rfl) ?_
    refine lv_iconst (v := 0) hx hb dX11_readMiss_49 (by decide) ?_
    refine lv_bipush (v := 100) hx hb dX11_readMiss_50 (by decide) ?_
    refine k_Vi (n := 2) X hw (rcvk (ci := 11) X hw hM.1 (fun _ _ _ _ _ _ _ => ⟨_, rfl⟩) rfl) (c_X11_numeral l G _ ma 0 100 0 hM (FrF.e h45_60 h22_10.2.1) (by decide)) wd_r22_17 wd_r22_18 wd_r22_19 wd_r1_5 wd_r22_20 ⟨by decide, by decide, by decide +kernel⟩ rfl rfl ⟨Nat.le_of_ble_eq_true rfl, Nat.le_of_ble_eq_true rfl⟩ rfl rfl hl.1 (Nat.le_of_ble_eq_true rfl) dX11_readMiss_52 ⟨Nat.le_of_ble_eq_true rfl, Nat.le_of_ble_eq_true rfl⟩ (fun r52_63 S52_65 H locs h52_64 hw => ?_)
    have := t_0
    have := t_100
    obtain ⟨I52_66, J52_67, rfl, h52_64⟩ := h52_64
    have hw : PX G A s.heap (ch S I52_66 J52_67 (qI S) (qJ S)) H locs := hw
    have h52_64r := h52_64.2.2
    have h52_64b := congrArg Int32.toInt (FrM.rb (FrM.tr (FrM.tr (FrM.tr (FrM.tr FrM.rf h12_3.1) h22_10.1) (h45_60.m)) h52_64.1) (ma 0))
    refine lv_istore_n (lv' := [(3, .int r52_63), (2, .int r22_9), (1, .int v16_8), (0, .ref (ma 0))]) hx hb dX11_readMiss_55 rfl hl (by decide) rfl (fun ls hl => ?_)
    refine lv_aload_n hx hb dX11_readMiss_56 rfl (lv_at hl 3 rfl) ?_
    refine k_Vi (n := 0) X hw (rcvk (ci := 11) X hw hM.1 (fun _ _ _ _ _ _ _ => ⟨_, rfl⟩) rfl) (c_X11_isGood l G _ ma hM) wd_r21_12 wd_r21_13 wd_r21_14 wd_r1_5 wd_r21_15 ⟨by decide, by decide, by decide +kernel⟩ rfl rfl ⟨Nat.le_of_ble_eq_true rfl, Nat.le_of_ble_eq_true rfl⟩ rfl rfl hl.1 (Nat.le_of_ble_eq_true rfl) dX11_readMiss_57 ⟨Nat.le_of_ble_eq_true rfl, Nat.le_of_ble_eq_true rfl⟩ (fun r57_68 S57_70 H locs h57_69 hw => ?_)
    rcases h57_69 with ⟨rfl, rfl, h57_69⟩ | ⟨rfl, rfl, h57_69⟩
    · have h57_69 : (I52_66 104 (ma 0) : Int32).toInt = 0 := h57_69
      refine lv_if_ne (tgt := 64) hx hb dX11_readMiss_60 (by decide) (fun c60_71 => ?_) (fun c60_71 => absurd c60_71 (by decide))
      refine lv_bipush (v := 100) hx hb dX11_readMiss_64 (by decide) ?_
      refine lv_istore (lv' := [(4, .int 100), (3, .int r52_63), (2, .int r22_9), (1, .int v16_8), (0, .ref (ma 0))]) hx hb dX11_readMiss_66 hl (by decide) rfl (fun ls hl => ?_)
      refine lv_iconst (v := 1) hx hb dX11_readMiss_68 (by decide) ?_
      refine lv_istore (lv' := [(5, .int 1), (4, .int 100), (3, .int r52_63), (2, .int r22_9), (1, .int v16_8), (0, .ref (ma 0))]) hx hb dX11_readMiss_69 hl (by decide) rfl (fun ls hl => ?_)
      have lp71 : ∀ (N9 : Nat) (mo : Int32) (k : Int32), (1 ≤ k.toInt ∧ k.toInt ≤ 21) → (21 - k.toInt).toNat < N9 → ∀ (H : Heap) (locs : List Loc) (ls : Array Slot), PX G A s.heap (ch S I52_66 J52_67 (qI S) (qJ S)) H locs → lv_has ls 7 [(5, .int k), (4, .int mo), (3, .int r52_63), (2, .int r22_9), (1, .int v16_8), (0, .ref (ma 0))] → W p l e (Rm 4 0 0) s m args below meth c H locs 0 0 Q (F0 m 71 ls []) := by
        intro N9
        induction N9 with
        | zero => intro mo k hk hm; exact absurd hm (Nat.not_lt_zero _)
        | succ N9 ih71 =>
          intro mo k hk hm H locs ls hw hl
          refine lv_iload hx hb dX11_readMiss_71 (lv_at hl 0 rfl) ?_
          refine lv_iload_n hx hb dX11_readMiss_73 rfl (lv_at hl 3 rfl) ?_
          refine lv_icmp_ge (tgt := 113) hx hb dX11_readMiss_74 (by decide) (fun c74_72 => ?_) (fun c74_72 => ?_)
          · have D74_72 := iLe c74_72 rfl rfl
            refine lv_iconst (v := 0) hx hb dX11_readMiss_113 (by decide) ?_
            refine lv_istore (lv' := [(5, .int 0), (4, .int mo), (3, .int r52_63), (2, .int r22_9), (1, .int v16_8), (0, .ref (ma 0))]) hx hb dX11_readMiss_114 hl (by decide) rfl (fun ls hl => ?_)
            refine lv_bipush (v := 20) hx hb dX11_readMiss_116 (by decide) ?_
            refine lv_istore (lv' := [(6, .int 20), (5, .int 0), (4, .int mo), (3, .int r52_63), (2, .int r22_9), (1, .int v16_8), (0, .ref (ma 0))]) hx hb dX11_readMiss_118 hl (by decide) rfl (fun ls hl => ?_)
            have lp120 : ∀ (N9 : Nat) (le : Int32) (k : Int32), (0 ≤ k.toInt ∧ k.toInt ≤ 20) → k.toInt.toNat < N9 → ∀ (H : Heap) (locs : List Loc) (ls : Array Slot), PX G A s.heap (ch S I52_66 J52_67 (qI S) (qJ S)) H locs → lv_has ls 7 [(6, .int k), (5, .int le), (4, .int mo), (3, .int r52_63), (2, .int r22_9), (1, .int v16_8), (0, .ref (ma 0))] → W p l e (Rm 4 0 0) s m args below meth c H locs 0 0 Q (F0 m 120 ls []) := by
              intro N9
              induction N9 with
              | zero => intro le k hk hm; exact absurd hm (Nat.not_lt_zero _)
              | succ N9 ih120 =>
                intro le k hk hm H locs ls hw hl
                refine lv_iload hx hb dX11_readMiss_120 (lv_at hl 0 rfl) ?_
                refine lv_iload_n hx hb dX11_readMiss_122 rfl (lv_at hl 4 rfl) ?_
                refine lv_icmp_le (tgt := 162) hx hb dX11_readMiss_123 (by decide) (fun c123_73 => ?_) (fun c123_73 => ?_)
                · have D123_73 := iLe c123_73 rfl rfl
                  refine lv_iload_n hx hb dX11_readMiss_162 rfl (lv_at hl 3 rfl) ?_
                  refine lv_iload hx hb dX11_readMiss_163 (lv_at hl 2 rfl) ?_
                  refine lv_icmp_gt (tgt := 174) hx hb dX11_readMiss_165 (by decide) (fun c165_74 => ?_) (fun c165_74 => ?_)
                  · have D165_74 := iLt c165_74 rfl rfl
                    refine lv_aload_n hx hb dX11_readMiss_174 rfl (lv_at hl 6 rfl) ?_
                    refine lv_iconst (v := 5) hx hb dX11_readMiss_175 (by decide) ?_
                    refine lv_aload_n hx hb dX11_readMiss_176 rfl (lv_at hl 6 rfl) ?_
                    refine gf_X11_162 (v := I52_66 122 (ma 0)) X hw hM.1 rfl dX11_readMiss_177 ?_
                    refine k_Vv (n := 2) X hw (rcvk (ci := 11) X hw hM.1 (fun _ _ _ _ _ _ _ => ⟨_, rfl⟩) rfl) (c_X11_fails l G _ ma 5 (I52_66 122 (ma 0)) hM (by decide)) wd_r22_9 wd_r22_10 wd_r22_11 wd_r1_5 wd_r22_12 ⟨by decide, by decide, by decide +kernel⟩ rfl rfl ⟨Nat.le_of_ble_eq_true rfl, Nat.le_of_ble_eq_true rfl⟩ rfl rfl hl.1 (Nat.le_of_ble_eq_true rfl) dX11_readMiss_180 ⟨Nat.le_of_ble_eq_true rfl, Nat.le_of_ble_eq_true rfl⟩ (fun S180_76 H locs h180_75 hw => ?_)
                    have := t_5
                    obtain ⟨I180_77, rfl, h180_75⟩ := h180_75
                    have hw : PX G A s.heap (ch S I180_77 J52_67 (qI S) (qJ S)) H locs := hw
                    refine lv_aload_n hx hb dX11_readMiss_183 rfl (lv_at hl 6 rfl) ?_
                    refine gf_X11_80 (b := (ma 18)) X hw hM.1 (mr_18 hM) dX11_readMiss_184 ?_
                    refine lv_iload_n hx hb dX11_readMiss_187 rfl (lv_at hl 5 rfl) ?_
                    refine lv_iload_n hx hb dX11_readMiss_188 rfl (lv_at hl 4 rfl) ?_
                    refine lv_iadd hx hb dX11_readMiss_189 ?_
                    refine lv_topi (fun v189_78 e189_78 => ?_)
                    have t189_78 := iAdd e189_78 rfl rfl (by omega) (by omega)
                    have t189 := t189_78
                    refine lv_iload_n hx hb dX11_readMiss_190 rfl (lv_at hl 3 rfl) ?_
                    refine q_stI X hw (mk_18 hM) (vin (mn_18 hM) (by omega) (by omega)) dX11_readMiss_191 (fun H locs hw => ?_)
                    obtain ⟨q191_79, eq191_79, hw⟩ : ∃ zz9, zz9 = va_up (qI S) (ma 18) (upd ((qI S) (ma 18)) v189_78.toNatClampNeg r52_63) ∧ PX G A s.heap (ch S I180_77 J52_67 zz9 (qJ S)) H locs := ⟨_, rfl, hw⟩
                    have c191 := eq191_79
                    exact hret _ _ _ _ _ ⟨_, _, _, rfl, (FrM.tr (FrM.tr (FrM.tr (FrM.tr (FrM.tr FrM.rf h12_3.1) h22_10.1) (h45_60.m)) h52_64.1) (h180_75.1.m)), (FrF.e h180_75.1 h52_64.2.1), (FrQ.ez eq191_79 (FrQ.up (j := 18) (by decide) (by decide) FrQ.rf)), (by rw [c191, vu_s]; exact MsOK_upd hms (Or.inr (by omega)))⟩ hw dX11_readMiss_192
                  · have D165_74 := iNlt c165_74 rfl rfl
                    refine lv_iload_n hx hb dX11_readMiss_168 rfl (lv_at hl 3 rfl) ?_
                    refine lv_iload hx hb dX11_readMiss_169 (lv_at hl 1 rfl) ?_
                    refine lv_icmp_ge (tgt := 183) hx hb dX11_readMiss_171 (by decide) (fun c171_80 => ?_) (fun c171_80 => ?_)
                    · have D171_80 := iLe c171_80 rfl rfl
                      refine lv_aload_n hx hb dX11_readMiss_183 rfl (lv_at hl 6 rfl) ?_
                      refine gf_X11_80 (b := (ma 18)) X hw hM.1 (mr_18 hM) dX11_readMiss_184 ?_
                      refine lv_iload_n hx hb dX11_readMiss_187 rfl (lv_at hl 5 rfl) ?_
                      refine lv_iload_n hx hb dX11_readMiss_188 rfl (lv_at hl 4 rfl) ?_
                      refine lv_iadd hx hb dX11_readMiss_189 ?_
                      refine lv_topi (fun v189_81 e189_81 => ?_)
                      have t189_81 := iAdd e189_81 rfl rfl (by omega) (by omega)
                      have t189 := t189_81
                      refine lv_iload_n hx hb dX11_readMiss_190 rfl (lv_at hl 3 rfl) ?_
                      refine q_stI X hw (mk_18 hM) (vin (mn_18 hM) (by omega) (by omega)) dX11_readMiss_191 (fun H locs hw => ?_)
                      obtain ⟨q191_82, eq191_82, hw⟩ : ∃ zz9, zz9 = va_up (qI S) (ma 18) (upd ((qI S) (ma 18)) v189_81.toNatClampNeg r52_63) ∧ PX G A s.heap (ch S I52_66 J52_67 zz9 (qJ S)) H locs := ⟨_, rfl, hw⟩
                      have c191 := eq191_82
                      exact hret _ _ _ _ _ ⟨_, _, _, rfl, (FrM.tr (FrM.tr (FrM.tr (FrM.tr FrM.rf h12_3.1) h22_10.1) (h45_60.m)) h52_64.1), h52_64.2.1, (FrQ.ez eq191_82 (FrQ.up (j := 18) (by decide) (by decide) FrQ.rf)), (by rw [c191, vu_s]; exact MsOK_upd hms (Or.inr (by omega)))⟩ hw dX11_readMiss_192
                    · have D171_80 := iNle c171_80 rfl rfl
                      refine lv_aload_n hx hb dX11_readMiss_174 rfl (lv_at hl 6 rfl) ?_
                      refine lv_iconst (v := 5) hx hb dX11_readMiss_175 (by decide) ?_
                      refine lv_aload_n hx hb dX11_readMiss_176 rfl (lv_at hl 6 rfl) ?_
                      refine gf_X11_162 (v := I52_66 122 (ma 0)) X hw hM.1 rfl dX11_readMiss_177 ?_
                      refine k_Vv (n := 2) X hw (rcvk (ci := 11) X hw hM.1 (fun _ _ _ _ _ _ _ => ⟨_, rfl⟩) rfl) (c_X11_fails l G _ ma 5 (I52_66 122 (ma 0)) hM (by decide)) wd_r22_9 wd_r22_10 wd_r22_11 wd_r1_5 wd_r22_12 ⟨by decide, by decide, by decide +kernel⟩ rfl rfl ⟨Nat.le_of_ble_eq_true rfl, Nat.le_of_ble_eq_true rfl⟩ rfl rfl hl.1 (Nat.le_of_ble_eq_true rfl) dX11_readMiss_180 ⟨Nat.le_of_ble_eq_true rfl, Nat.le_of_ble_eq_true rfl⟩ (fun S180_84 H locs h180_83 hw => ?_)
                      have := t_5
                      obtain ⟨I180_85, rfl, h180_83⟩ := h180_83
                      have hw : PX G A s.heap (ch S I180_85 J52_67 (qI S) (qJ S)) H locs := hw
                      refine lv_aload_n hx hb dX11_readMiss_183 rfl (lv_at hl 6 rfl) ?_
                      refine gf_X11_80 (b := (ma 18)) X hw hM.1 (mr_18 hM) dX11_readMiss_184 ?_
                      refine lv_iload_n hx hb dX11_readMiss_187 rfl (lv_at hl 5 rfl) ?_
                      refine lv_iload_n hx hb dX11_readMiss_188 rfl (lv_at hl 4 rfl) ?_
                      refine lv_iadd hx hb dX11_readMiss_189 ?_
                      refine lv_topi (fun v189_86 e189_86 => ?_)
                      have t189_86 := iAdd e189_86 rfl rfl (by omega) (by omega)
                      have t189 := t189_86
                      refine lv_iload_n hx hb dX11_readMiss_190 rfl (lv_at hl 3 rfl) ?_
                      refine q_stI X hw (mk_18 hM) (vin (mn_18 hM) (by omega) (by omega)) dX11_readMiss_191 (fun H locs hw => ?_)
                      obtain ⟨q191_87, eq191_87, hw⟩ : ∃ zz9, zz9 = va_up (qI S) (ma 18) (upd ((qI S) (ma 18)) v189_86.toNatClampNeg r52_63) ∧ PX G A s.heap (ch S I180_85 J52_67 zz9 (qJ S)) H locs := ⟨_, rfl, hw⟩
                      have c191 := eq191_87
                      exact hret _ _ _ _ _ ⟨_, _, _, rfl, (FrM.tr (FrM.tr (FrM.tr (FrM.tr (FrM.tr FrM.rf h12_3.1) h22_10.1) (h45_60.m)) h52_64.1) (h180_83.1.m)), (FrF.e h180_83.1 h52_64.2.1), (FrQ.ez eq191_87 (FrQ.up (j := 18) (by decide) (by decide) FrQ.rf)), (by rw [c191, vu_s]; exact MsOK_upd hms (Or.inr (by omega)))⟩ hw dX11_readMiss_192
                · have D123_73 := iNle c123_73 rfl rfl
                  refine lv_aload_n hx hb dX11_readMiss_126 rfl (lv_at hl 6 rfl) ?_
                  refine gf_X11_80 (b := (ma 18)) X hw hM.1 (mr_18 hM) dX11_readMiss_127 ?_
                  refine lv_iload_n hx hb dX11_readMiss_130 rfl (lv_at hl 5 rfl) ?_
                  refine lv_iload hx hb dX11_readMiss_131 (lv_at hl 0 rfl) ?_
                  refine lv_iadd hx hb dX11_readMiss_133 ?_
                  refine lv_topi (fun v133_88 e133_88 => ?_)
                  have t133_88 := iAdd e133_88 rfl rfl (by omega) (by omega)
                  have t133 := t133_88
                  refine q_ldI X hw (mk_18 hM) (vin (mn_18 hM) (by omega) (by omega)) dX11_readMiss_134 ?_
                  refine lv_topi (fun v134_89 e134_89 => ?_)
                  have e134_89 : v134_89 = (qI S) (ma 18) v133_88.toNatClampNeg := e134_89
                  refine lv_bipush (v := -100) hx hb dX11_readMiss_135 (by decide) ?_
                  refine lv_icmp_ne (tgt := 145) hx hb dX11_readMiss_137 (by decide) (fun c137_90 => ?_) (fun c137_90 => ?_)
                  · skip
                    refine lv_aload_n hx hb dX11_readMiss_145 rfl (lv_at hl 6 rfl) ?_
                    refine gf_X11_80 (b := (ma 18)) X hw hM.1 (mr_18 hM) dX11_readMiss_146 ?_
                    refine lv_iload_n hx hb dX11_readMiss_149 rfl (lv_at hl 5 rfl) ?_
                    refine lv_iload hx hb dX11_readMiss_150 (lv_at hl 0 rfl) ?_
                    refine lv_iadd hx hb dX11_readMiss_152 ?_
                    refine lv_topi (fun v152_91 e152_91 => ?_)
                    have t152_91 := iAdd e152_91 rfl rfl (by omega) (by omega)
                    have t152 := t152_91
                    refine q_ldI X hw (mk_18 hM) (vin (mn_18 hM) (by omega) (by omega)) dX11_readMiss_153 ?_
                    refine lv_topi (fun v153_92 e153_92 => ?_)
                    have e153_92 : v153_92 = (qI S) (ma 18) v152_91.toNatClampNeg := e153_92
                    refine lv_istore (lv' := [(5, .int v153_92), (6, .int k), (4, .int mo), (3, .int r52_63), (2, .int r22_9), (1, .int v16_8), (0, .ref (ma 0))]) hx hb dX11_readMiss_154 hl (by decide) rfl (fun ls hl => ?_)
                    obtain ⟨v156_93, e156_93⟩ : ∃ y : Int32, y = k + (-1) := ⟨_, rfl⟩
                    have t156_93 := iAdd e156_93 rfl t_m1 (by omega) (by omega)
                    have t156 := t156_93
                    refine lv_iinc (v := v156_93) (lv' := [(6, .int v156_93), (5, .int v153_92), (4, .int mo), (3, .int r52_63), (2, .int r22_9), (1, .int v16_8), (0, .ref (ma 0))]) hx hb dX11_readMiss_156 hl (k := 1) rfl (by rw [e156_93]; rfl) (by decide) rfl (fun ls hl => ?_)
                    refine lv_goto (tgt := 120) hx hb dX11_readMiss_159 (by decide) ?_
                    exact ih120  v153_92 v156_93 (by omega) (by omega) _ _ _ hw (lv_sub hl [0, 1, 2, 3, 4, 5, 6] rfl)
                  · have D137_90 := iEq c137_90 rfl t_m100
                    refine lv_iload hx hb dX11_readMiss_140 (lv_at hl 1 rfl) ?_
                    refine lv_goto (tgt := 154) hx hb dX11_readMiss_142 (by decide) ?_
                    refine lv_istore (lv' := [(5, .int le), (6, .int k), (4, .int mo), (3, .int r52_63), (2, .int r22_9), (1, .int v16_8), (0, .ref (ma 0))]) hx hb dX11_readMiss_154 hl (by decide) rfl (fun ls hl => ?_)
                    obtain ⟨v156_94, e156_94⟩ : ∃ y : Int32, y = k + (-1) := ⟨_, rfl⟩
                    have t156_94 := iAdd e156_94 rfl t_m1 (by omega) (by omega)
                    have t156 := t156_94
                    refine lv_iinc (v := v156_94) (lv' := [(6, .int v156_94), (5, .int le), (4, .int mo), (3, .int r52_63), (2, .int r22_9), (1, .int v16_8), (0, .ref (ma 0))]) hx hb dX11_readMiss_156 hl (k := 1) rfl (by rw [e156_94]; rfl) (by decide) rfl (fun ls hl => ?_)
                    refine lv_goto (tgt := 120) hx hb dX11_readMiss_159 (by decide) ?_
                    exact ih120  le v156_94 (by omega) (by omega) _ _ _ hw (lv_sub hl [0, 1, 2, 3, 4, 5, 6] rfl)
            exact lp120 _  0 20 (by have := t_0; have := t_20; omega) (Nat.lt_succ_self _) _ _ _ hw (lv_sub hl [0, 1, 2, 3, 4, 5, 6] rfl)
          · have D74_72 := iNle c74_72 rfl rfl
            refine lv_aload_n hx hb dX11_readMiss_77 rfl (lv_at hl 5 rfl) ?_
            refine gf_X11_80 (b := (ma 18)) X hw hM.1 (mr_18 hM) dX11_readMiss_78 ?_
            refine lv_iload_n hx hb dX11_readMiss_81 rfl (lv_at hl 4 rfl) ?_
            refine lv_iload hx hb dX11_readMiss_82 (lv_at hl 0 rfl) ?_
            refine lv_iadd hx hb dX11_readMiss_84 ?_
            refine lv_topi (fun v84_95 e84_95 => ?_)
            have t84_95 := iAdd e84_95 rfl rfl (by omega) (by omega)
            have t84 := t84_95
            refine q_ldI X hw (mk_18 hM) (vin (mn_18 hM) (by omega) (by omega)) dX11_readMiss_85 ?_
            refine lv_topi (fun v85_96 e85_96 => ?_)
            have e85_96 : v85_96 = (qI S) (ma 18) v84_95.toNatClampNeg := e85_96
            refine lv_bipush (v := -100) hx hb dX11_readMiss_86 (by decide) ?_
            refine lv_icmp_ne (tgt := 96) hx hb dX11_readMiss_88 (by decide) (fun c88_97 => ?_) (fun c88_97 => ?_)
            · skip
              refine lv_aload_n hx hb dX11_readMiss_96 rfl (lv_at hl 5 rfl) ?_
              refine gf_X11_80 (b := (ma 18)) X hw hM.1 (mr_18 hM) dX11_readMiss_97 ?_
              refine lv_iload_n hx hb dX11_readMiss_100 rfl (lv_at hl 4 rfl) ?_
              refine lv_iload hx hb dX11_readMiss_101 (lv_at hl 0 rfl) ?_
              refine lv_iadd hx hb dX11_readMiss_103 ?_
              refine lv_topi (fun v103_98 e103_98 => ?_)
              have t103_98 := iAdd e103_98 rfl rfl (by omega) (by omega)
              have t103 := t103_98
              refine q_ldI X hw (mk_18 hM) (vin (mn_18 hM) (by omega) (by omega)) dX11_readMiss_104 ?_
              refine lv_topi (fun v104_99 e104_99 => ?_)
              have e104_99 : v104_99 = (qI S) (ma 18) v103_98.toNatClampNeg := e104_99
              refine lv_istore (lv' := [(4, .int v104_99), (5, .int k), (3, .int r52_63), (2, .int r22_9), (1, .int v16_8), (0, .ref (ma 0))]) hx hb dX11_readMiss_105 hl (by decide) rfl (fun ls hl => ?_)
              obtain ⟨v107_100, e107_100⟩ : ∃ y : Int32, y = k + 1 := ⟨_, rfl⟩
              have t107_100 := iAdd e107_100 rfl t_1 (by omega) (by omega)
              have t107 := t107_100
              refine lv_iinc (v := v107_100) (lv' := [(5, .int v107_100), (4, .int v104_99), (3, .int r52_63), (2, .int r22_9), (1, .int v16_8), (0, .ref (ma 0))]) hx hb dX11_readMiss_107 hl (k := 1) rfl (by rw [e107_100]; rfl) (by decide) rfl (fun ls hl => ?_)
              refine lv_goto (tgt := 71) hx hb dX11_readMiss_110 (by decide) ?_
              exact ih71  v104_99 v107_100 (by omega) (by omega) _ _ _ hw (lv_sub hl [0, 1, 2, 3, 4, 5] rfl)
            · have D88_97 := iEq c88_97 rfl t_m100
              refine lv_iload hx hb dX11_readMiss_91 (lv_at hl 1 rfl) ?_
              refine lv_goto (tgt := 105) hx hb dX11_readMiss_93 (by decide) ?_
              refine lv_istore (lv' := [(4, .int mo), (5, .int k), (3, .int r52_63), (2, .int r22_9), (1, .int v16_8), (0, .ref (ma 0))]) hx hb dX11_readMiss_105 hl (by decide) rfl (fun ls hl => ?_)
              obtain ⟨v107_101, e107_101⟩ : ∃ y : Int32, y = k + 1 := ⟨_, rfl⟩
              have t107_101 := iAdd e107_101 rfl t_1 (by omega) (by omega)
              have t107 := t107_101
              refine lv_iinc (v := v107_101) (lv' := [(5, .int v107_101), (4, .int mo), (3, .int r52_63), (2, .int r22_9), (1, .int v16_8), (0, .ref (ma 0))]) hx hb dX11_readMiss_107 hl (k := 1) rfl (by rw [e107_101]; rfl) (by decide) rfl (fun ls hl => ?_)
              refine lv_goto (tgt := 71) hx hb dX11_readMiss_110 (by decide) ?_
              exact ih71  mo v107_101 (by omega) (by omega) _ _ _ hw (lv_sub hl [0, 1, 2, 3, 4, 5] rfl)
      exact lp71 _  100 1 (by have := t_100; have := t_1; omega) (Nat.lt_succ_self _) _ _ _ hw (lv_sub hl [0, 1, 2, 3, 4, 5] rfl)
    · have h57_69 : ¬ ((I52_66 104 (ma 0) : Int32).toInt = 0) := h57_69
      refine lv_if_ne (tgt := 64) hx hb dX11_readMiss_60 (by decide) (fun c60_102 => absurd c60_102 (by decide)) (fun c60_102 => ?_)
      exact hret _ _ _ _ _ ⟨_, _, _, rfl, (FrM.tr (FrM.tr (FrM.tr (FrM.tr FrM.rf h12_3.1) h22_10.1) (h45_60.m)) h52_64.1), h52_64.2.1, FrQ.rf, hms⟩ hw dX11_readMiss_63
set_option maxHeartbeats 4000000 in
set_option maxRecDepth 100000 in
theorem c_X11_readLine (l : Launch) (G : Gh) (S : Pl) (ma : Nat → Nat) (hM : shMod S ma) (hE : eM (pI S) (ma 0)) (hrb : 0 ≤ (pI S 121 (ma 0)).toInt ∧ (pI S 121 (ma 0)).toInt ≤ 1) (hms : MsOK (qI S (ma 18))) (hln : 0 ≤ (qI S (ma 12) (pI S 121 (ma 0)).toNatClampNeg).toInt ∧ (qI S (ma 12) (pI S 121 (ma 0)).toNatClampNeg).toInt ≤ 60) : MtV l yX11_readLine cX11_readLine 4 none (Rm 5 0 0) G [.ref (ma 0)] S (fun (S' : Pl) => ∃ I' J' q', ch S I' J' q' (qJ S) = S' ∧ FrM (pI S) I' ∧ eM I' (ma 0) ∧ FrQ 12 ma (qI S) q' ∧ ((I' 104 (ma 0)).toInt ≠ 0 ∨ ((q' (ma 12) (pI S 121 (ma 0)).toNatClampNeg).toInt = (qI S (ma 12) (pI S 121 (ma 0)).toNatClampNeg).toInt + 1 ∧ (qI S (ma 12) (pI S 121 (ma 0)).toNatClampNeg).toInt < 60)) ∧ MsOK (q' (ma 18))) 0 0 := by
  refine MtV.of (by decide) (Nat.le_of_ble_eq_true rfl) ?_
  intro p e s m args below meth c Q A X hw hin hret ls hl
  have hx := X.1.1
  have hb := X.1.2.1
  have hl : lv_has ls 4 [(0, .ref (ma 0))] := hl
  have lp56 : ∀ (z : Int32), ∀ (H : Heap) (locs : List Loc) (ls : Array Slot), PX G A s.heap S H locs → lv_has ls 4 [(0, .ref (ma 0)), (1, .int z)] → W p l e (Rm 5 0 0) s m args below meth c H locs 0 0 Q (F0 m 56 ls []) := by
    intro z H locs ls hw hl
    refine lv_iload_n hx hb dX11_readLine_56 rfl (lv_at hl 1 rfl) ?_
    refine lv_if_eq (tgt := 74) hx hb dX11_readLine_57 (by decide) (fun c57_1 => ?_) (fun c57_1 => ?_)
    · have D57_1 := iEq c57_1 rfl t_0
      refine lv_aload_n hx hb dX11_readLine_74 rfl (lv_at hl 0 rfl) ?_
      refine k_Vv (n := 0) X hw (rcvk (ci := 11) X hw hM.1 (fun _ _ _ _ _ _ _ => ⟨_, rfl⟩) rfl) (c_X11_wrong l G _ ma hM) wd_r22_5 wd_r22_6 wd_r22_7 wd_r1_5 wd_r22_8 ⟨by decide, by decide, by decide +kernel⟩ rfl rfl ⟨Nat.le_of_ble_eq_true rfl, Nat.le_of_ble_eq_true rfl⟩ rfl rfl hl.1 (Nat.le_of_ble_eq_true rfl) dX11_readLine_75 ⟨Nat.le_of_ble_eq_true rfl, Nat.le_of_ble_eq_true rfl⟩ (fun S75_3 H locs h75_2 hw => ?_)
      obtain ⟨I75_4, rfl, h75_2⟩ := h75_2
      have hw : PX G A s.heap (ch S I75_4 (pJ S) (qI S) (qJ S)) H locs := hw
      have h75_2n := h75_2.2
      refine lv_aload_n hx hb dX11_readLine_78 rfl (lv_at hl 0 rfl) ?_
      refine k_Vi (n := 0) X hw (rcvk (ci := 11) X hw hM.1 (fun _ _ _ _ _ _ _ => ⟨_, rfl⟩) rfl) (c_X11_isGood l G _ ma hM) wd_r21_12 wd_r21_13 wd_r21_14 wd_r1_5 wd_r21_15 ⟨by decide, by decide, by decide +kernel⟩ rfl rfl ⟨Nat.le_of_ble_eq_true rfl, Nat.le_of_ble_eq_true rfl⟩ rfl rfl hl.1 (Nat.le_of_ble_eq_true rfl) dX11_readLine_79 ⟨Nat.le_of_ble_eq_true rfl, Nat.le_of_ble_eq_true rfl⟩ (fun r79_5 S79_7 H locs h79_6 hw => ?_)
      rcases h79_6 with ⟨rfl, rfl, h79_6⟩ | ⟨rfl, rfl, h79_6⟩
      · have h79_6 : (I75_4 104 (ma 0) : Int32).toInt = 0 := h79_6
        refine lv_if_ne (tgt := 86) hx hb dX11_readLine_82 (by decide) (fun c82_8 => ?_) (fun c82_8 => absurd c82_8 (by decide))
        refine lv_aload_n hx hb dX11_readLine_86 rfl (lv_at hl 0 rfl) ?_
        refine gf_X11_34 (v := (pJ S) 110 (ma 0)) X hw hM.1 rfl dX11_readLine_87 ?_
        refine lv_lstore_n (lv' := [(2, .long ((pJ S) 110 (ma 0))), (0, .ref (ma 0)), (1, .int z)]) hx hb dX11_readLine_90 rfl hl (by decide) rfl (fun ls hl => ?_)
        refine lv_aload_n hx hb dX11_readLine_91 rfl (lv_at hl 1 rfl) ?_
        refine k_Vv (n := 0) X hw (rcvk (ci := 11) X hw hM.1 (fun _ _ _ _ _ _ _ => ⟨_, rfl⟩) rfl) (c_X11_next l G _ ma hM (FrF.e h75_2.1 hE)) wd_r20_15 wd_r20_16 wd_r20_17 wd_r1_5 wd_r20_18 ⟨by decide, by decide, by decide +kernel⟩ rfl rfl ⟨Nat.le_of_ble_eq_true rfl, Nat.le_of_ble_eq_true rfl⟩ rfl rfl hl.1 (Nat.le_of_ble_eq_true rfl) dX11_readLine_92 ⟨Nat.le_of_ble_eq_true rfl, Nat.le_of_ble_eq_true rfl⟩ (fun S92_10 H locs h92_9 hw => ?_)
        obtain ⟨I92_11, J92_12, rfl, h92_9⟩ := h92_9
        have hw : PX G A s.heap (ch S I92_11 J92_12 (qI S) (qJ S)) H locs := hw
        have lp159 : ∀ (Ic159 : Nat → Nat → Int32) (Jc159 : Nat → Nat → Int64) (qc159 : Nat → Nat → Int32), (FrM (pI S) Ic159) → (eM Ic159 (ma 0)) → (FrQ 12 ma (qI S) qc159) → (qc159 (ma 12) = qI S (ma 12)) → (MsOK (qc159 (ma 18))) → ∀ (H : Heap) (locs : List Loc) (ls : Array Slot), PX G A s.heap (ch S Ic159 Jc159 qc159 (qJ S)) H locs → lv_has ls 4 [(0, .ref (ma 0))] → W p l e (Rm 5 0 0) s m args below meth c H locs 0 0 Q (F0 m 159 ls []) := by
          intro Ic159 Jc159 qc159 hF hE1 hY hr12 hms1 H locs ls hw hl
          refine lv_aload_n hx hb dX11_readLine_159 rfl (lv_at hl 0 rfl) ?_
          refine k_Vi (n := 0) X hw (rcvk (ci := 11) X hw hM.1 (fun _ _ _ _ _ _ _ => ⟨_, rfl⟩) rfl) (c_X11_isGood l G _ ma hM) wd_r21_12 wd_r21_13 wd_r21_14 wd_r1_5 wd_r21_15 ⟨by decide, by decide, by decide +kernel⟩ rfl rfl ⟨Nat.le_of_ble_eq_true rfl, Nat.le_of_ble_eq_true rfl⟩ rfl rfl hl.1 (Nat.le_of_ble_eq_true rfl) dX11_readLine_160 ⟨Nat.le_of_ble_eq_true rfl, Nat.le_of_ble_eq_true rfl⟩ (fun r160_13 S160_15 H locs h160_14 hw => ?_)
          rcases h160_14 with ⟨rfl, rfl, h160_14⟩ | ⟨rfl, rfl, h160_14⟩
          · have h160_14 : (Ic159 104 (ma 0) : Int32).toInt = 0 := h160_14
            refine lv_if_eq (tgt := 178) hx hb dX11_readLine_163 (by decide) (fun c163_16 => absurd c163_16 (by decide)) (fun c163_16 => ?_)
            refine lv_aload_n hx hb dX11_readLine_166 rfl (lv_at hl 0 rfl) ?_
            refine gf_X11_27 (v := Ic159 108 (ma 0)) X hw hM.1 rfl dX11_readLine_167 ?_
            refine lv_iconst (v := 4) hx hb dX11_readLine_170 (by decide) ?_
            refine lv_icmp_eq (tgt := 178) hx hb dX11_readLine_171 (by decide) (fun c171_17 => ?_) (fun c171_17 => ?_)
            · have D171_17 := iEq c171_17 rfl t_4
              refine lv_aload_n hx hb dX11_readLine_178 rfl (lv_at hl 0 rfl) ?_
              refine k_Vi (n := 0) X hw (rcvk (ci := 11) X hw hM.1 (fun _ _ _ _ _ _ _ => ⟨_, rfl⟩) rfl) (c_X11_isGood l G _ ma hM) wd_r21_12 wd_r21_13 wd_r21_14 wd_r1_5 wd_r21_15 ⟨by decide, by decide, by decide +kernel⟩ rfl rfl ⟨Nat.le_of_ble_eq_true rfl, Nat.le_of_ble_eq_true rfl⟩ rfl rfl hl.1 (Nat.le_of_ble_eq_true rfl) dX11_readLine_179 ⟨Nat.le_of_ble_eq_true rfl, Nat.le_of_ble_eq_true rfl⟩ (fun r179_18 S179_20 H locs h179_19 hw => ?_)
              rcases h179_19 with ⟨rfl, rfl, h179_19⟩ | ⟨rfl, rfl, h179_19⟩
              · have h179_19 : (Ic159 104 (ma 0) : Int32).toInt = 0 := h179_19
                refine lv_if_eq (tgt := 189) hx hb dX11_readLine_182 (by decide) (fun c182_21 => absurd c182_21 (by decide)) (fun c182_21 => ?_)
                refine lv_aload_n hx hb dX11_readLine_185 rfl (lv_at hl 0 rfl) ?_
                refine k_Vv (n := 0) X hw (rcvk (ci := 11) X hw hM.1 (fun _ _ _ _ _ _ _ => ⟨_, rfl⟩) rfl) (c_X11_next l G _ ma hM hE1) wd_r20_15 wd_r20_16 wd_r20_17 wd_r1_5 wd_r20_18 ⟨by decide, by decide, by decide +kernel⟩ rfl rfl ⟨Nat.le_of_ble_eq_true rfl, Nat.le_of_ble_eq_true rfl⟩ rfl rfl hl.1 (Nat.le_of_ble_eq_true rfl) dX11_readLine_186 ⟨Nat.le_of_ble_eq_true rfl, Nat.le_of_ble_eq_true rfl⟩ (fun S186_23 H locs h186_22 hw => ?_)
                obtain ⟨I186_24, J186_25, rfl, h186_22⟩ := h186_22
                have hw : PX G A s.heap (ch S I186_24 J186_25 qc159 (qJ S)) H locs := hw
                refine lv_aload_n hx hb dX11_readLine_189 rfl (lv_at hl 0 rfl) ?_
                have hbb := congrArg Int32.toInt (FrM.rb (FrM.tr hF (h186_22.1.m)) (ma 0))
                refine gf_X11_61 (b := (ma 12)) X hw hM.1 (mr_12 hM) dX11_readLine_190 ?_
                refine lv_aload_n hx hb dX11_readLine_193 rfl (lv_at hl 0 rfl) ?_
                refine gf_X11_149 (v := I186_24 121 (ma 0)) X hw hM.1 rfl dX11_readLine_194 ?_
                refine lv_dup2_11 hx hb dX11_readLine_197 rfl rfl ?_
                refine q_ldI X hw (mk_12 hM) (vin (mn_12 hM) (by omega) (by omega)) dX11_readLine_198 ?_
                refine lv_topi (fun v198_26 e198_26 => ?_)
                have e198_26 : v198_26 = qc159 (ma 12) ((I186_24 121 (ma 0)).toNatClampNeg) := e198_26
                have h198 : v198_26 = qc159 (ma 12) ((I186_24 121 (ma 0) : Int32)).toNatClampNeg := e198_26
                have g198 : v198_26.toInt = (qI S (ma 12) (pI S 121 (ma 0)).toNatClampNeg).toInt := by rw [h198, hr12, FrM.rb (FrM.tr hF (h186_22.1.m)) (ma 0)]
                refine lv_iconst (v := 1) hx hb dX11_readLine_199 (by decide) ?_
                refine lv_iadd hx hb dX11_readLine_200 ?_
                refine lv_topi (fun v200_27 e200_27 => ?_)
                have t200_27 := iAdd e200_27 rfl t_1 (by omega) (by omega)
                have t200 := t200_27
                refine q_stI X hw (mk_12 hM) (vin (mn_12 hM) (by omega) (by omega)) dX11_readLine_201 (fun H locs hw => ?_)
                obtain ⟨q201_28, eq201_28, hw⟩ : ∃ zz9, zz9 = va_up qc159 (ma 12) (upd (qc159 (ma 12)) (I186_24 121 (ma 0)).toNatClampNeg v200_27) ∧ PX G A s.heap (ch S I186_24 J186_25 zz9 (qJ S)) H locs := ⟨_, rfl, hw⟩
                have c201 := eq201_28
                exact hret _ _ _ _ _ ⟨_, _, _, rfl, (FrM.tr hF (h186_22.1.m)), h186_22.2, (FrQ.ez eq201_28 (FrQ.up (j := 12) (by decide) (by decide) hY)), Or.inr ⟨lm_inc c201 hr12 (FrM.rb (FrM.tr hF (h186_22.1.m)) (ma 0)) h198 t200, by omega⟩, by rw [row_keep hM c201 (i := 18) (by decide) (by decide) (by decide)]; exact hms1⟩ hw dX11_readLine_202
              · have h179_19 : ¬ ((Ic159 104 (ma 0) : Int32).toInt = 0) := h179_19
                refine lv_if_eq (tgt := 189) hx hb dX11_readLine_182 (by decide) (fun c182_29 => ?_) (fun c182_29 => absurd c182_29 (by decide))
                refine lv_aload_n hx hb dX11_readLine_189 rfl (lv_at hl 0 rfl) ?_
                have hbb := congrArg Int32.toInt (FrM.rb hF (ma 0))
                refine gf_X11_61 (b := (ma 12)) X hw hM.1 (mr_12 hM) dX11_readLine_190 ?_
                refine lv_aload_n hx hb dX11_readLine_193 rfl (lv_at hl 0 rfl) ?_
                refine gf_X11_149 (v := Ic159 121 (ma 0)) X hw hM.1 rfl dX11_readLine_194 ?_
                refine lv_dup2_11 hx hb dX11_readLine_197 rfl rfl ?_
                refine q_ldI X hw (mk_12 hM) (vin (mn_12 hM) (by omega) (by omega)) dX11_readLine_198 ?_
                refine lv_topi (fun v198_30 e198_30 => ?_)
                have e198_30 : v198_30 = qc159 (ma 12) ((Ic159 121 (ma 0)).toNatClampNeg) := e198_30
                have h198 : v198_30 = qc159 (ma 12) ((Ic159 121 (ma 0) : Int32)).toNatClampNeg := e198_30
                have g198 : v198_30.toInt = (qI S (ma 12) (pI S 121 (ma 0)).toNatClampNeg).toInt := by rw [h198, hr12, FrM.rb hF (ma 0)]
                refine lv_iconst (v := 1) hx hb dX11_readLine_199 (by decide) ?_
                refine lv_iadd hx hb dX11_readLine_200 ?_
                refine lv_topi (fun v200_31 e200_31 => ?_)
                have t200_31 := iAdd e200_31 rfl t_1 (by omega) (by omega)
                have t200 := t200_31
                refine q_stI X hw (mk_12 hM) (vin (mn_12 hM) (by omega) (by omega)) dX11_readLine_201 (fun H locs hw => ?_)
                obtain ⟨q201_32, eq201_32, hw⟩ : ∃ zz9, zz9 = va_up qc159 (ma 12) (upd (qc159 (ma 12)) (Ic159 121 (ma 0)).toNatClampNeg v200_31) ∧ PX G A s.heap (ch S Ic159 Jc159 zz9 (qJ S)) H locs := ⟨_, rfl, hw⟩
                have c201 := eq201_32
                exact hret _ _ _ _ _ ⟨_, _, _, rfl, hF, hE1, (FrQ.ez eq201_32 (FrQ.up (j := 12) (by decide) (by decide) hY)), Or.inr ⟨lm_inc c201 hr12 (FrM.rb hF (ma 0)) h198 t200, by omega⟩, by rw [row_keep hM c201 (i := 18) (by decide) (by decide) (by decide)]; exact hms1⟩ hw dX11_readLine_202
            · skip
              refine lv_aload_n hx hb dX11_readLine_174 rfl (lv_at hl 0 rfl) ?_
              refine k_Vv (n := 0) X hw (rcvk (ci := 11) X hw hM.1 (fun _ _ _ _ _ _ _ => ⟨_, rfl⟩) rfl) (c_X11_wrong l G _ ma hM) wd_r22_5 wd_r22_6 wd_r22_7 wd_r1_5 wd_r22_8 ⟨by decide, by decide, by decide +kernel⟩ rfl rfl ⟨Nat.le_of_ble_eq_true rfl, Nat.le_of_ble_eq_true rfl⟩ rfl rfl hl.1 (Nat.le_of_ble_eq_true rfl) dX11_readLine_175 ⟨Nat.le_of_ble_eq_true rfl, Nat.le_of_ble_eq_true rfl⟩ (fun S175_34 H locs h175_33 hw => ?_)
              obtain ⟨I175_35, rfl, h175_33⟩ := h175_33
              have hw : PX G A s.heap (ch S I175_35 Jc159 qc159 (qJ S)) H locs := hw
              have h175_33n := h175_33.2
              refine lv_aload_n hx hb dX11_readLine_178 rfl (lv_at hl 0 rfl) ?_
              refine k_Vi (n := 0) X hw (rcvk (ci := 11) X hw hM.1 (fun _ _ _ _ _ _ _ => ⟨_, rfl⟩) rfl) (c_X11_isGood l G _ ma hM) wd_r21_12 wd_r21_13 wd_r21_14 wd_r1_5 wd_r21_15 ⟨by decide, by decide, by decide +kernel⟩ rfl rfl ⟨Nat.le_of_ble_eq_true rfl, Nat.le_of_ble_eq_true rfl⟩ rfl rfl hl.1 (Nat.le_of_ble_eq_true rfl) dX11_readLine_179 ⟨Nat.le_of_ble_eq_true rfl, Nat.le_of_ble_eq_true rfl⟩ (fun r179_36 S179_38 H locs h179_37 hw => ?_)
              rcases h179_37 with ⟨rfl, rfl, h179_37⟩ | ⟨rfl, rfl, h179_37⟩
              · have h179_37 : (I175_35 104 (ma 0) : Int32).toInt = 0 := h179_37
                refine lv_if_eq (tgt := 189) hx hb dX11_readLine_182 (by decide) (fun c182_39 => absurd c182_39 (by decide)) (fun c182_39 => ?_)
                refine lv_aload_n hx hb dX11_readLine_185 rfl (lv_at hl 0 rfl) ?_
                refine k_Vv (n := 0) X hw (rcvk (ci := 11) X hw hM.1 (fun _ _ _ _ _ _ _ => ⟨_, rfl⟩) rfl) (c_X11_next l G _ ma hM (FrF.e h175_33.1 hE1)) wd_r20_15 wd_r20_16 wd_r20_17 wd_r1_5 wd_r20_18 ⟨by decide, by decide, by decide +kernel⟩ rfl rfl ⟨Nat.le_of_ble_eq_true rfl, Nat.le_of_ble_eq_true rfl⟩ rfl rfl hl.1 (Nat.le_of_ble_eq_true rfl) dX11_readLine_186 ⟨Nat.le_of_ble_eq_true rfl, Nat.le_of_ble_eq_true rfl⟩ (fun S186_41 H locs h186_40 hw => ?_)
                obtain ⟨I186_42, J186_43, rfl, h186_40⟩ := h186_40
                have hw : PX G A s.heap (ch S I186_42 J186_43 qc159 (qJ S)) H locs := hw
                refine lv_aload_n hx hb dX11_readLine_189 rfl (lv_at hl 0 rfl) ?_
                have hbb := congrArg Int32.toInt (FrM.rb (FrM.tr (FrM.tr hF (h175_33.1.m)) (h186_40.1.m)) (ma 0))
                refine gf_X11_61 (b := (ma 12)) X hw hM.1 (mr_12 hM) dX11_readLine_190 ?_
                refine lv_aload_n hx hb dX11_readLine_193 rfl (lv_at hl 0 rfl) ?_
                refine gf_X11_149 (v := I186_42 121 (ma 0)) X hw hM.1 rfl dX11_readLine_194 ?_
                refine lv_dup2_11 hx hb dX11_readLine_197 rfl rfl ?_
                refine q_ldI X hw (mk_12 hM) (vin (mn_12 hM) (by omega) (by omega)) dX11_readLine_198 ?_
                refine lv_topi (fun v198_44 e198_44 => ?_)
                have e198_44 : v198_44 = qc159 (ma 12) ((I186_42 121 (ma 0)).toNatClampNeg) := e198_44
                have h198 : v198_44 = qc159 (ma 12) ((I186_42 121 (ma 0) : Int32)).toNatClampNeg := e198_44
                have g198 : v198_44.toInt = (qI S (ma 12) (pI S 121 (ma 0)).toNatClampNeg).toInt := by rw [h198, hr12, FrM.rb (FrM.tr (FrM.tr hF (h175_33.1.m)) (h186_40.1.m)) (ma 0)]
                refine lv_iconst (v := 1) hx hb dX11_readLine_199 (by decide) ?_
                refine lv_iadd hx hb dX11_readLine_200 ?_
                refine lv_topi (fun v200_45 e200_45 => ?_)
                have t200_45 := iAdd e200_45 rfl t_1 (by omega) (by omega)
                have t200 := t200_45
                refine q_stI X hw (mk_12 hM) (vin (mn_12 hM) (by omega) (by omega)) dX11_readLine_201 (fun H locs hw => ?_)
                obtain ⟨q201_46, eq201_46, hw⟩ : ∃ zz9, zz9 = va_up qc159 (ma 12) (upd (qc159 (ma 12)) (I186_42 121 (ma 0)).toNatClampNeg v200_45) ∧ PX G A s.heap (ch S I186_42 J186_43 zz9 (qJ S)) H locs := ⟨_, rfl, hw⟩
                have c201 := eq201_46
                exact hret _ _ _ _ _ ⟨_, _, _, rfl, (FrM.tr (FrM.tr hF (h175_33.1.m)) (h186_40.1.m)), h186_40.2, (FrQ.ez eq201_46 (FrQ.up (j := 12) (by decide) (by decide) hY)), Or.inr ⟨lm_inc c201 hr12 (FrM.rb (FrM.tr (FrM.tr hF (h175_33.1.m)) (h186_40.1.m)) (ma 0)) h198 t200, by omega⟩, by rw [row_keep hM c201 (i := 18) (by decide) (by decide) (by decide)]; exact hms1⟩ hw dX11_readLine_202
              · have h179_37 : ¬ ((I175_35 104 (ma 0) : Int32).toInt = 0) := h179_37
                refine lv_if_eq (tgt := 189) hx hb dX11_readLine_182 (by decide) (fun c182_47 => ?_) (fun c182_47 => absurd c182_47 (by decide))
                refine lv_aload_n hx hb dX11_readLine_189 rfl (lv_at hl 0 rfl) ?_
                have hbb := congrArg Int32.toInt (FrM.rb (FrM.tr hF (h175_33.1.m)) (ma 0))
                refine gf_X11_61 (b := (ma 12)) X hw hM.1 (mr_12 hM) dX11_readLine_190 ?_
                refine lv_aload_n hx hb dX11_readLine_193 rfl (lv_at hl 0 rfl) ?_
                refine gf_X11_149 (v := I175_35 121 (ma 0)) X hw hM.1 rfl dX11_readLine_194 ?_
                refine lv_dup2_11 hx hb dX11_readLine_197 rfl rfl ?_
                refine q_ldI X hw (mk_12 hM) (vin (mn_12 hM) (by omega) (by omega)) dX11_readLine_198 ?_
                refine lv_topi (fun v198_48 e198_48 => ?_)
                have e198_48 : v198_48 = qc159 (ma 12) ((I175_35 121 (ma 0)).toNatClampNeg) := e198_48
                have h198 : v198_48 = qc159 (ma 12) ((I175_35 121 (ma 0) : Int32)).toNatClampNeg := e198_48
                have g198 : v198_48.toInt = (qI S (ma 12) (pI S 121 (ma 0)).toNatClampNeg).toInt := by rw [h198, hr12, FrM.rb (FrM.tr hF (h175_33.1.m)) (ma 0)]
                refine lv_iconst (v := 1) hx hb dX11_readLine_199 (by decide) ?_
                refine lv_iadd hx hb dX11_readLine_200 ?_
                refine lv_topi (fun v200_49 e200_49 => ?_)
                have t200_49 := iAdd e200_49 rfl t_1 (by omega) (by omega)
                have t200 := t200_49
                refine q_stI X hw (mk_12 hM) (vin (mn_12 hM) (by omega) (by omega)) dX11_readLine_201 (fun H locs hw => ?_)
                obtain ⟨q201_50, eq201_50, hw⟩ : ∃ zz9, zz9 = va_up qc159 (ma 12) (upd (qc159 (ma 12)) (I175_35 121 (ma 0)).toNatClampNeg v200_49) ∧ PX G A s.heap (ch S I175_35 Jc159 zz9 (qJ S)) H locs := ⟨_, rfl, hw⟩
                have c201 := eq201_50
                exact hret _ _ _ _ _ ⟨_, _, _, rfl, (FrM.tr hF (h175_33.1.m)), (FrF.e h175_33.1 hE1), (FrQ.ez eq201_50 (FrQ.up (j := 12) (by decide) (by decide) hY)), Or.inr ⟨lm_inc c201 hr12 (FrM.rb (FrM.tr hF (h175_33.1.m)) (ma 0)) h198 t200, by omega⟩, by rw [row_keep hM c201 (i := 18) (by decide) (by decide) (by decide)]; exact hms1⟩ hw dX11_readLine_202
          · have h160_14 : ¬ ((Ic159 104 (ma 0) : Int32).toInt = 0) := h160_14
            refine lv_if_eq (tgt := 178) hx hb dX11_readLine_163 (by decide) (fun c163_51 => ?_) (fun c163_51 => absurd c163_51 (by decide))
            refine lv_aload_n hx hb dX11_readLine_178 rfl (lv_at hl 0 rfl) ?_
            refine k_Vi (n := 0) X hw (rcvk (ci := 11) X hw hM.1 (fun _ _ _ _ _ _ _ => ⟨_, rfl⟩) rfl) (c_X11_isGood l G _ ma hM) wd_r21_12 wd_r21_13 wd_r21_14 wd_r1_5 wd_r21_15 ⟨by decide, by decide, by decide +kernel⟩ rfl rfl ⟨Nat.le_of_ble_eq_true rfl, Nat.le_of_ble_eq_true rfl⟩ rfl rfl hl.1 (Nat.le_of_ble_eq_true rfl) dX11_readLine_179 ⟨Nat.le_of_ble_eq_true rfl, Nat.le_of_ble_eq_true rfl⟩ (fun r179_52 S179_54 H locs h179_53 hw => ?_)
            rcases h179_53 with ⟨rfl, rfl, h179_53⟩ | ⟨rfl, rfl, h179_53⟩
            · have h179_53 : (Ic159 104 (ma 0) : Int32).toInt = 0 := h179_53
              refine lv_if_eq (tgt := 189) hx hb dX11_readLine_182 (by decide) (fun c182_55 => absurd c182_55 (by decide)) (fun c182_55 => ?_)
              refine lv_aload_n hx hb dX11_readLine_185 rfl (lv_at hl 0 rfl) ?_
              refine k_Vv (n := 0) X hw (rcvk (ci := 11) X hw hM.1 (fun _ _ _ _ _ _ _ => ⟨_, rfl⟩) rfl) (c_X11_next l G _ ma hM hE1) wd_r20_15 wd_r20_16 wd_r20_17 wd_r1_5 wd_r20_18 ⟨by decide, by decide, by decide +kernel⟩ rfl rfl ⟨Nat.le_of_ble_eq_true rfl, Nat.le_of_ble_eq_true rfl⟩ rfl rfl hl.1 (Nat.le_of_ble_eq_true rfl) dX11_readLine_186 ⟨Nat.le_of_ble_eq_true rfl, Nat.le_of_ble_eq_true rfl⟩ (fun S186_57 H locs h186_56 hw => ?_)
              obtain ⟨I186_58, J186_59, rfl, h186_56⟩ := h186_56
              have hw : PX G A s.heap (ch S I186_58 J186_59 qc159 (qJ S)) H locs := hw
              refine lv_aload_n hx hb dX11_readLine_189 rfl (lv_at hl 0 rfl) ?_
              have hbb := congrArg Int32.toInt (FrM.rb (FrM.tr hF (h186_56.1.m)) (ma 0))
              refine gf_X11_61 (b := (ma 12)) X hw hM.1 (mr_12 hM) dX11_readLine_190 ?_
              refine lv_aload_n hx hb dX11_readLine_193 rfl (lv_at hl 0 rfl) ?_
              refine gf_X11_149 (v := I186_58 121 (ma 0)) X hw hM.1 rfl dX11_readLine_194 ?_
              refine lv_dup2_11 hx hb dX11_readLine_197 rfl rfl ?_
              refine q_ldI X hw (mk_12 hM) (vin (mn_12 hM) (by omega) (by omega)) dX11_readLine_198 ?_
              refine lv_topi (fun v198_60 e198_60 => ?_)
              have e198_60 : v198_60 = qc159 (ma 12) ((I186_58 121 (ma 0)).toNatClampNeg) := e198_60
              have h198 : v198_60 = qc159 (ma 12) ((I186_58 121 (ma 0) : Int32)).toNatClampNeg := e198_60
              have g198 : v198_60.toInt = (qI S (ma 12) (pI S 121 (ma 0)).toNatClampNeg).toInt := by rw [h198, hr12, FrM.rb (FrM.tr hF (h186_56.1.m)) (ma 0)]
              refine lv_iconst (v := 1) hx hb dX11_readLine_199 (by decide) ?_
              refine lv_iadd hx hb dX11_readLine_200 ?_
              refine lv_topi (fun v200_61 e200_61 => ?_)
              have t200_61 := iAdd e200_61 rfl t_1 (by omega) (by omega)
              have t200 := t200_61
              refine q_stI X hw (mk_12 hM) (vin (mn_12 hM) (by omega) (by omega)) dX11_readLine_201 (fun H locs hw => ?_)
              obtain ⟨q201_62, eq201_62, hw⟩ : ∃ zz9, zz9 = va_up qc159 (ma 12) (upd (qc159 (ma 12)) (I186_58 121 (ma 0)).toNatClampNeg v200_61) ∧ PX G A s.heap (ch S I186_58 J186_59 zz9 (qJ S)) H locs := ⟨_, rfl, hw⟩
              have c201 := eq201_62
              exact hret _ _ _ _ _ ⟨_, _, _, rfl, (FrM.tr hF (h186_56.1.m)), h186_56.2, (FrQ.ez eq201_62 (FrQ.up (j := 12) (by decide) (by decide) hY)), Or.inr ⟨lm_inc c201 hr12 (FrM.rb (FrM.tr hF (h186_56.1.m)) (ma 0)) h198 t200, by omega⟩, by rw [row_keep hM c201 (i := 18) (by decide) (by decide) (by decide)]; exact hms1⟩ hw dX11_readLine_202
            · have h179_53 : ¬ ((Ic159 104 (ma 0) : Int32).toInt = 0) := h179_53
              refine lv_if_eq (tgt := 189) hx hb dX11_readLine_182 (by decide) (fun c182_63 => ?_) (fun c182_63 => absurd c182_63 (by decide))
              refine lv_aload_n hx hb dX11_readLine_189 rfl (lv_at hl 0 rfl) ?_
              have hbb := congrArg Int32.toInt (FrM.rb hF (ma 0))
              refine gf_X11_61 (b := (ma 12)) X hw hM.1 (mr_12 hM) dX11_readLine_190 ?_
              refine lv_aload_n hx hb dX11_readLine_193 rfl (lv_at hl 0 rfl) ?_
              refine gf_X11_149 (v := Ic159 121 (ma 0)) X hw hM.1 rfl dX11_readLine_194 ?_
              refine lv_dup2_11 hx hb dX11_readLine_197 rfl rfl ?_
              refine q_ldI X hw (mk_12 hM) (vin (mn_12 hM) (by omega) (by omega)) dX11_readLine_198 ?_
              refine lv_topi (fun v198_64 e198_64 => ?_)
              have e198_64 : v198_64 = qc159 (ma 12) ((Ic159 121 (ma 0)).toNatClampNeg) := e198_64
              have h198 : v198_64 = qc159 (ma 12) ((Ic159 121 (ma 0) : Int32)).toNatClampNeg := e198_64
              have g198 : v198_64.toInt = (qI S (ma 12) (pI S 121 (ma 0)).toNatClampNeg).toInt := by rw [h198, hr12, FrM.rb hF (ma 0)]
              refine lv_iconst (v := 1) hx hb dX11_readLine_199 (by decide) ?_
              refine lv_iadd hx hb dX11_readLine_200 ?_
              refine lv_topi (fun v200_65 e200_65 => ?_)
              have t200_65 := iAdd e200_65 rfl t_1 (by omega) (by omega)
              have t200 := t200_65
              refine q_stI X hw (mk_12 hM) (vin (mn_12 hM) (by omega) (by omega)) dX11_readLine_201 (fun H locs hw => ?_)
              obtain ⟨q201_66, eq201_66, hw⟩ : ∃ zz9, zz9 = va_up qc159 (ma 12) (upd (qc159 (ma 12)) (Ic159 121 (ma 0)).toNatClampNeg v200_65) ∧ PX G A s.heap (ch S Ic159 Jc159 zz9 (qJ S)) H locs := ⟨_, rfl, hw⟩
              have c201 := eq201_66
              exact hret _ _ _ _ _ ⟨_, _, _, rfl, hF, hE1, (FrQ.ez eq201_66 (FrQ.up (j := 12) (by decide) (by decide) hY)), Or.inr ⟨lm_inc c201 hr12 (FrM.rb hF (ma 0)) h198 t200, by omega⟩, by rw [row_keep hM c201 (i := 18) (by decide) (by decide) (by decide)]; exact hms1⟩ hw dX11_readLine_202
        refine lv_lload_n hx hb dX11_readLine_95 rfl (lv_at hl 0 rfl) ?_
        refine lv_ldc2 hx hb X.1.2.2.2.1 (X.1.2.2.2.2 _ wd_r21_20) dX11_readLine_96 ?_
        refine W.lcmp hx hb dX11_readLine_99 ?_
        refine lv_topi (fun v99_67 e99_67 => ?_)
        refine lv_if_ne (tgt := 110) hx hb dX11_readLine_100 (by decide) (fun c100_68 => ?_) (fun c100_68 => ?_)
        · skip
          refine lv_lload_n hx hb dX11_readLine_110 rfl (lv_at hl 0 rfl) ?_
          refine lv_ldc2 hx hb X.1.2.2.2.1 (X.1.2.2.2.2 _ wd_r21_21) dX11_readLine_111 ?_
          refine W.lcmp hx hb dX11_readLine_114 ?_
          refine lv_topi (fun v114_69 e114_69 => ?_)
          refine lv_if_ne (tgt := 125) hx hb dX11_readLine_115 (by decide) (fun c115_70 => ?_) (fun c115_70 => ?_)
          · skip
            refine lv_lload_n hx hb dX11_readLine_125 rfl (lv_at hl 0 rfl) ?_
            refine lv_ldc2 hx hb X.1.2.2.2.1 (X.1.2.2.2.2 _ wd_r21_22) dX11_readLine_126 ?_
            refine W.lcmp hx hb dX11_readLine_129 ?_
            refine lv_topi (fun v129_71 e129_71 => ?_)
            refine lv_if_ne (tgt := 140) hx hb dX11_readLine_130 (by decide) (fun c130_72 => ?_) (fun c130_72 => ?_)
            · skip
              refine lv_lload_n hx hb dX11_readLine_140 rfl (lv_at hl 0 rfl) ?_
              refine lv_ldc2 hx hb X.1.2.2.2.1 (X.1.2.2.2.2 _ wd_r21_23) dX11_readLine_141 ?_
              refine W.lcmp hx hb dX11_readLine_144 ?_
              refine lv_topi (fun v144_73 e144_73 => ?_)
              refine lv_if_ne (tgt := 155) hx hb dX11_readLine_145 (by decide) (fun c145_74 => ?_) (fun c145_74 => ?_)
              · skip
                refine lv_aload_n hx hb dX11_readLine_155 rfl (lv_at hl 1 rfl) ?_
                refine k_Vv (n := 0) X hw (rcvk (ci := 11) X hw hM.1 (fun _ _ _ _ _ _ _ => ⟨_, rfl⟩) rfl) (c_X11_readMiss l G _ ma hM h92_9.2 (FrM.rbb (FrM.tr (FrM.tr FrM.rf (h75_2.1.m)) (h92_9.1.m)) hrb) hms) wd_r23_14 wd_r23_15 wd_r23_16 wd_r1_5 wd_r23_17 ⟨by decide, by decide, by decide +kernel⟩ rfl rfl ⟨Nat.le_of_ble_eq_true rfl, Nat.le_of_ble_eq_true rfl⟩ rfl rfl hl.1 (Nat.le_of_ble_eq_true rfl) dX11_readLine_156 ⟨Nat.le_of_ble_eq_true rfl, Nat.le_of_ble_eq_true rfl⟩ (fun S156_76 H locs h156_75 hw => ?_)
                obtain ⟨I156_77, J156_78, q156_79, rfl, h156_75⟩ := h156_75
                have hw : PX G A s.heap (ch S I156_77 J156_78 q156_79 (qJ S)) H locs := hw
                have hr12 : q156_79 (ma 12) = qI S (ma 12) := FrQ.at hM h156_75.2.2.1 (by decide) (by decide)
                have hms1 := h156_75.2.2.2
                exact lp159 I156_77 J156_78 q156_79  (FrM.tr (FrM.tr (FrM.tr FrM.rf (h75_2.1.m)) (h92_9.1.m)) h156_75.1) h156_75.2.1 (FrQ.tr FrQ.rf (FrQ.lo (by decide) h156_75.2.2.1)) hr12 hms1 _ _ _ hw (lv_sub hl [1] rfl)
              · have D145_74 := lcn_ne e144_73 c145_74
                refine lv_aload_n hx hb dX11_readLine_148 rfl (lv_at hl 1 rfl) ?_
                refine k_Vv (n := 0) X hw (rcvk (ci := 11) X hw hM.1 (fun _ _ _ _ _ _ _ => ⟨_, rfl⟩) rfl) (c_X11_readLand l G _ ma hM h92_9.2 (FrM.rbb (FrM.tr (FrM.tr FrM.rf (h75_2.1.m)) (h92_9.1.m)) hrb) hms) wd_r23_10 wd_r23_11 wd_r23_12 wd_r1_5 wd_r23_13 ⟨by decide, by decide, by decide +kernel⟩ rfl rfl ⟨Nat.le_of_ble_eq_true rfl, Nat.le_of_ble_eq_true rfl⟩ rfl rfl hl.1 (Nat.le_of_ble_eq_true rfl) dX11_readLine_149 ⟨Nat.le_of_ble_eq_true rfl, Nat.le_of_ble_eq_true rfl⟩ (fun S149_81 H locs h149_80 hw => ?_)
                obtain ⟨I149_82, J149_83, q149_84, rfl, h149_80⟩ := h149_80
                have hw : PX G A s.heap (ch S I149_82 J149_83 q149_84 (qJ S)) H locs := hw
                have hr12 : q149_84 (ma 12) = qI S (ma 12) := FrQ.at hM h149_80.2.2.1 (by decide) (by decide)
                have hms1 := h149_80.2.2.2
                refine lv_goto (tgt := 159) hx hb dX11_readLine_152 (by decide) ?_
                exact lp159 I149_82 J149_83 q149_84  (FrM.tr (FrM.tr (FrM.tr FrM.rf (h75_2.1.m)) (h92_9.1.m)) h149_80.1) h149_80.2.1 (FrQ.tr FrQ.rf (FrQ.lo (by decide) h149_80.2.2.1)) hr12 hms1 _ _ _ hw (lv_sub hl [1] rfl)
            · have D130_72 := lcn_ne e129_71 c130_72
              refine lv_aload_n hx hb dX11_readLine_133 rfl (lv_at hl 1 rfl) ?_
              refine k_Vv (n := 0) X hw (rcvk (ci := 11) X hw hM.1 (fun _ _ _ _ _ _ _ => ⟨_, rfl⟩) rfl) (c_X11_readLee l G _ ma hM h92_9.2 (FrM.rbb (FrM.tr (FrM.tr FrM.rf (h75_2.1.m)) (h92_9.1.m)) hrb) hms) wd_r23_6 wd_r23_7 wd_r23_8 wd_r1_5 wd_r23_9 ⟨by decide, by decide, by decide +kernel⟩ rfl rfl ⟨Nat.le_of_ble_eq_true rfl, Nat.le_of_ble_eq_true rfl⟩ rfl rfl hl.1 (Nat.le_of_ble_eq_true rfl) dX11_readLine_134 ⟨Nat.le_of_ble_eq_true rfl, Nat.le_of_ble_eq_true rfl⟩ (fun S134_86 H locs h134_85 hw => ?_)
              obtain ⟨I134_87, J134_88, q134_89, rfl, h134_85⟩ := h134_85
              have hw : PX G A s.heap (ch S I134_87 J134_88 q134_89 (qJ S)) H locs := hw
              have hr12 : q134_89 (ma 12) = qI S (ma 12) := FrQ.at hM h134_85.2.2.1 (by decide) (by decide)
              have hms1 := h134_85.2.2.2
              refine lv_goto (tgt := 159) hx hb dX11_readLine_137 (by decide) ?_
              exact lp159 I134_87 J134_88 q134_89  (FrM.tr (FrM.tr (FrM.tr FrM.rf (h75_2.1.m)) (h92_9.1.m)) h134_85.1) h134_85.2.1 (FrQ.tr FrQ.rf (FrQ.lo (by decide) h134_85.2.2.1)) hr12 hms1 _ _ _ hw (lv_sub hl [1] rfl)
          · have D115_70 := lcn_ne e114_69 c115_70
            refine lv_aload_n hx hb dX11_readLine_118 rfl (lv_at hl 1 rfl) ?_
            refine k_Vv (n := 0) X hw (rcvk (ci := 11) X hw hM.1 (fun _ _ _ _ _ _ _ => ⟨_, rfl⟩) rfl) (c_X11_readStream l G _ ma hM h92_9.2 (FrM.rbb (FrM.tr (FrM.tr FrM.rf (h75_2.1.m)) (h92_9.1.m)) hrb) hms) wd_r23_2 wd_r23_3 wd_r23_4 wd_r1_5 wd_r23_5 ⟨by decide, by decide, by decide +kernel⟩ rfl rfl ⟨Nat.le_of_ble_eq_true rfl, Nat.le_of_ble_eq_true rfl⟩ rfl rfl hl.1 (Nat.le_of_ble_eq_true rfl) dX11_readLine_119 ⟨Nat.le_of_ble_eq_true rfl, Nat.le_of_ble_eq_true rfl⟩ (fun S119_91 H locs h119_90 hw => ?_)
            obtain ⟨I119_92, J119_93, q119_94, rfl, h119_90⟩ := h119_90
            have hw : PX G A s.heap (ch S I119_92 J119_93 q119_94 (qJ S)) H locs := hw
            have hr12 : q119_94 (ma 12) = qI S (ma 12) := FrQ.at hM h119_90.2.2.1 (by decide) (by decide)
            have hms1 := h119_90.2.2.2
            refine lv_goto (tgt := 159) hx hb dX11_readLine_122 (by decide) ?_
            exact lp159 I119_92 J119_93 q119_94  (FrM.tr (FrM.tr (FrM.tr FrM.rf (h75_2.1.m)) (h92_9.1.m)) h119_90.1) h119_90.2.1 (FrQ.tr FrQ.rf (FrQ.lo (by decide) h119_90.2.2.1)) hr12 hms1 _ _ _ hw (lv_sub hl [1] rfl)
        · have D100_68 := lcn_ne e99_67 c100_68
          refine lv_aload_n hx hb dX11_readLine_103 rfl (lv_at hl 1 rfl) ?_
          refine k_Vv (n := 0) X hw (rcvk (ci := 11) X hw hM.1 (fun _ _ _ _ _ _ _ => ⟨_, rfl⟩) rfl) (c_X11_readWind l G _ ma hM h92_9.2 (FrM.rbb (FrM.tr (FrM.tr FrM.rf (h75_2.1.m)) (h92_9.1.m)) hrb) hms) wd_r22_13 wd_r22_14 wd_r22_15 wd_r1_5 wd_r22_16 ⟨by decide, by decide, by decide +kernel⟩ rfl rfl ⟨Nat.le_of_ble_eq_true rfl, Nat.le_of_ble_eq_true rfl⟩ rfl rfl hl.1 (Nat.le_of_ble_eq_true rfl) dX11_readLine_104 ⟨Nat.le_of_ble_eq_true rfl, Nat.le_of_ble_eq_true rfl⟩ (fun S104_96 H locs h104_95 hw => ?_)
          obtain ⟨I104_97, J104_98, q104_99, rfl, h104_95⟩ := h104_95
          have hw : PX G A s.heap (ch S I104_97 J104_98 q104_99 (qJ S)) H locs := hw
          have hr12 : q104_99 (ma 12) = qI S (ma 12) := FrQ.at hM h104_95.2.2.1 (by decide) (by decide)
          have hms1 := h104_95.2.2.2
          refine lv_goto (tgt := 159) hx hb dX11_readLine_107 (by decide) ?_
          exact lp159 I104_97 J104_98 q104_99  (FrM.tr (FrM.tr (FrM.tr FrM.rf (h75_2.1.m)) (h92_9.1.m)) h104_95.1) h104_95.2.1 (FrQ.tr FrQ.rf (FrQ.lo (by decide) h104_95.2.2.1)) hr12 hms1 _ _ _ hw (lv_sub hl [1] rfl)
      · have h79_6 : ¬ ((I75_4 104 (ma 0) : Int32).toInt = 0) := h79_6
        refine lv_if_ne (tgt := 86) hx hb dX11_readLine_82 (by decide) (fun c82_100 => absurd c82_100 (by decide)) (fun c82_100 => ?_)
        exact hret _ _ _ _ _ ⟨_, _, _, rfl, (FrM.tr FrM.rf (h75_2.1.m)), (FrF.e h75_2.1 hE), FrQ.rf, Or.inl (by omega), hms⟩ hw dX11_readLine_85
    · skip
      refine lv_aload_n hx hb dX11_readLine_60 rfl (lv_at hl 0 rfl) ?_
      refine gf_X11_61 (b := (ma 12)) X hw hM.1 (mr_12 hM) dX11_readLine_61 ?_
      refine lv_aload_n hx hb dX11_readLine_64 rfl (lv_at hl 0 rfl) ?_
      refine gf_X11_149 (v := (pI S) 121 (ma 0)) X hw hM.1 rfl dX11_readLine_65 ?_
      refine q_ldI X hw (mk_12 hM) (vin (mn_12 hM) (by omega) (by omega)) dX11_readLine_68 ?_
      refine lv_topi (fun v68_101 e68_101 => ?_)
      have e68_101 : v68_101 = (qI S) (ma 12) (((pI S) 121 (ma 0)).toNatClampNeg) := e68_101
      have g68 := congrArg Int32.toInt e68_101
      refine lv_bipush (v := 60) hx hb dX11_readLine_69 (by decide) ?_
      refine lv_icmp_ne (tgt := 78) hx hb dX11_readLine_71 (by decide) (fun c71_102 => ?_) (fun c71_102 => ?_)
      · have D71_102 := iNe c71_102 rfl t_60
        refine lv_aload_n hx hb dX11_readLine_78 rfl (lv_at hl 0 rfl) ?_
        refine k_Vi (n := 0) X hw (rcvk (ci := 11) X hw hM.1 (fun _ _ _ _ _ _ _ => ⟨_, rfl⟩) rfl) (c_X11_isGood l G _ ma hM) wd_r21_12 wd_r21_13 wd_r21_14 wd_r1_5 wd_r21_15 ⟨by decide, by decide, by decide +kernel⟩ rfl rfl ⟨Nat.le_of_ble_eq_true rfl, Nat.le_of_ble_eq_true rfl⟩ rfl rfl hl.1 (Nat.le_of_ble_eq_true rfl) dX11_readLine_79 ⟨Nat.le_of_ble_eq_true rfl, Nat.le_of_ble_eq_true rfl⟩ (fun r79_103 S79_105 H locs h79_104 hw => ?_)
        rcases h79_104 with ⟨rfl, rfl, h79_104⟩ | ⟨rfl, rfl, h79_104⟩
        · have h79_104 : ((pI S) 104 (ma 0) : Int32).toInt = 0 := h79_104
          refine lv_if_ne (tgt := 86) hx hb dX11_readLine_82 (by decide) (fun c82_106 => ?_) (fun c82_106 => absurd c82_106 (by decide))
          refine lv_aload_n hx hb dX11_readLine_86 rfl (lv_at hl 0 rfl) ?_
          refine gf_X11_34 (v := (pJ S) 110 (ma 0)) X hw hM.1 rfl dX11_readLine_87 ?_
          refine lv_lstore_n (lv' := [(2, .long ((pJ S) 110 (ma 0))), (0, .ref (ma 0)), (1, .int z)]) hx hb dX11_readLine_90 rfl hl (by decide) rfl (fun ls hl => ?_)
          refine lv_aload_n hx hb dX11_readLine_91 rfl (lv_at hl 1 rfl) ?_
          refine k_Vv (n := 0) X hw (rcvk (ci := 11) X hw hM.1 (fun _ _ _ _ _ _ _ => ⟨_, rfl⟩) rfl) (c_X11_next l G _ ma hM hE) wd_r20_15 wd_r20_16 wd_r20_17 wd_r1_5 wd_r20_18 ⟨by decide, by decide, by decide +kernel⟩ rfl rfl ⟨Nat.le_of_ble_eq_true rfl, Nat.le_of_ble_eq_true rfl⟩ rfl rfl hl.1 (Nat.le_of_ble_eq_true rfl) dX11_readLine_92 ⟨Nat.le_of_ble_eq_true rfl, Nat.le_of_ble_eq_true rfl⟩ (fun S92_108 H locs h92_107 hw => ?_)
          obtain ⟨I92_109, J92_110, rfl, h92_107⟩ := h92_107
          have hw : PX G A s.heap (ch S I92_109 J92_110 (qI S) (qJ S)) H locs := hw
          have lp159 : ∀ (Ic159 : Nat → Nat → Int32) (Jc159 : Nat → Nat → Int64) (qc159 : Nat → Nat → Int32), (FrM (pI S) Ic159) → (eM Ic159 (ma 0)) → (FrQ 12 ma (qI S) qc159) → (qc159 (ma 12) = qI S (ma 12)) → (MsOK (qc159 (ma 18))) → ∀ (H : Heap) (locs : List Loc) (ls : Array Slot), PX G A s.heap (ch S Ic159 Jc159 qc159 (qJ S)) H locs → lv_has ls 4 [(0, .ref (ma 0))] → W p l e (Rm 5 0 0) s m args below meth c H locs 0 0 Q (F0 m 159 ls []) := by
            intro Ic159 Jc159 qc159 hF hE1 hY hr12 hms1 H locs ls hw hl
            refine lv_aload_n hx hb dX11_readLine_159 rfl (lv_at hl 0 rfl) ?_
            refine k_Vi (n := 0) X hw (rcvk (ci := 11) X hw hM.1 (fun _ _ _ _ _ _ _ => ⟨_, rfl⟩) rfl) (c_X11_isGood l G _ ma hM) wd_r21_12 wd_r21_13 wd_r21_14 wd_r1_5 wd_r21_15 ⟨by decide, by decide, by decide +kernel⟩ rfl rfl ⟨Nat.le_of_ble_eq_true rfl, Nat.le_of_ble_eq_true rfl⟩ rfl rfl hl.1 (Nat.le_of_ble_eq_true rfl) dX11_readLine_160 ⟨Nat.le_of_ble_eq_true rfl, Nat.le_of_ble_eq_true rfl⟩ (fun r160_111 S160_113 H locs h160_112 hw => ?_)
            rcases h160_112 with ⟨rfl, rfl, h160_112⟩ | ⟨rfl, rfl, h160_112⟩
            · have h160_112 : (Ic159 104 (ma 0) : Int32).toInt = 0 := h160_112
              refine lv_if_eq (tgt := 178) hx hb dX11_readLine_163 (by decide) (fun c163_114 => absurd c163_114 (by decide)) (fun c163_114 => ?_)
              refine lv_aload_n hx hb dX11_readLine_166 rfl (lv_at hl 0 rfl) ?_
              refine gf_X11_27 (v := Ic159 108 (ma 0)) X hw hM.1 rfl dX11_readLine_167 ?_
              refine lv_iconst (v := 4) hx hb dX11_readLine_170 (by decide) ?_
              refine lv_icmp_eq (tgt := 178) hx hb dX11_readLine_171 (by decide) (fun c171_115 => ?_) (fun c171_115 => ?_)
              · have D171_115 := iEq c171_115 rfl t_4
                refine lv_aload_n hx hb dX11_readLine_178 rfl (lv_at hl 0 rfl) ?_
                refine k_Vi (n := 0) X hw (rcvk (ci := 11) X hw hM.1 (fun _ _ _ _ _ _ _ => ⟨_, rfl⟩) rfl) (c_X11_isGood l G _ ma hM) wd_r21_12 wd_r21_13 wd_r21_14 wd_r1_5 wd_r21_15 ⟨by decide, by decide, by decide +kernel⟩ rfl rfl ⟨Nat.le_of_ble_eq_true rfl, Nat.le_of_ble_eq_true rfl⟩ rfl rfl hl.1 (Nat.le_of_ble_eq_true rfl) dX11_readLine_179 ⟨Nat.le_of_ble_eq_true rfl, Nat.le_of_ble_eq_true rfl⟩ (fun r179_116 S179_118 H locs h179_117 hw => ?_)
                rcases h179_117 with ⟨rfl, rfl, h179_117⟩ | ⟨rfl, rfl, h179_117⟩
                · have h179_117 : (Ic159 104 (ma 0) : Int32).toInt = 0 := h179_117
                  refine lv_if_eq (tgt := 189) hx hb dX11_readLine_182 (by decide) (fun c182_119 => absurd c182_119 (by decide)) (fun c182_119 => ?_)
                  refine lv_aload_n hx hb dX11_readLine_185 rfl (lv_at hl 0 rfl) ?_
                  refine k_Vv (n := 0) X hw (rcvk (ci := 11) X hw hM.1 (fun _ _ _ _ _ _ _ => ⟨_, rfl⟩) rfl) (c_X11_next l G _ ma hM hE1) wd_r20_15 wd_r20_16 wd_r20_17 wd_r1_5 wd_r20_18 ⟨by decide, by decide, by decide +kernel⟩ rfl rfl ⟨Nat.le_of_ble_eq_true rfl, Nat.le_of_ble_eq_true rfl⟩ rfl rfl hl.1 (Nat.le_of_ble_eq_true rfl) dX11_readLine_186 ⟨Nat.le_of_ble_eq_true rfl, Nat.le_of_ble_eq_true rfl⟩ (fun S186_121 H locs h186_120 hw => ?_)
                  obtain ⟨I186_122, J186_123, rfl, h186_120⟩ := h186_120
                  have hw : PX G A s.heap (ch S I186_122 J186_123 qc159 (qJ S)) H locs := hw
                  refine lv_aload_n hx hb dX11_readLine_189 rfl (lv_at hl 0 rfl) ?_
                  have hbb := congrArg Int32.toInt (FrM.rb (FrM.tr hF (h186_120.1.m)) (ma 0))
                  refine gf_X11_61 (b := (ma 12)) X hw hM.1 (mr_12 hM) dX11_readLine_190 ?_
                  refine lv_aload_n hx hb dX11_readLine_193 rfl (lv_at hl 0 rfl) ?_
                  refine gf_X11_149 (v := I186_122 121 (ma 0)) X hw hM.1 rfl dX11_readLine_194 ?_
                  refine lv_dup2_11 hx hb dX11_readLine_197 rfl rfl ?_
                  refine q_ldI X hw (mk_12 hM) (vin (mn_12 hM) (by omega) (by omega)) dX11_readLine_198 ?_
                  refine lv_topi (fun v198_124 e198_124 => ?_)
                  have e198_124 : v198_124 = qc159 (ma 12) ((I186_122 121 (ma 0)).toNatClampNeg) := e198_124
                  have h198 : v198_124 = qc159 (ma 12) ((I186_122 121 (ma 0) : Int32)).toNatClampNeg := e198_124
                  have g198 : v198_124.toInt = (qI S (ma 12) (pI S 121 (ma 0)).toNatClampNeg).toInt := by rw [h198, hr12, FrM.rb (FrM.tr hF (h186_120.1.m)) (ma 0)]
                  refine lv_iconst (v := 1) hx hb dX11_readLine_199 (by decide) ?_
                  refine lv_iadd hx hb dX11_readLine_200 ?_
                  refine lv_topi (fun v200_125 e200_125 => ?_)
                  have t200_125 := iAdd e200_125 rfl t_1 (by omega) (by omega)
                  have t200 := t200_125
                  refine q_stI X hw (mk_12 hM) (vin (mn_12 hM) (by omega) (by omega)) dX11_readLine_201 (fun H locs hw => ?_)
                  obtain ⟨q201_126, eq201_126, hw⟩ : ∃ zz9, zz9 = va_up qc159 (ma 12) (upd (qc159 (ma 12)) (I186_122 121 (ma 0)).toNatClampNeg v200_125) ∧ PX G A s.heap (ch S I186_122 J186_123 zz9 (qJ S)) H locs := ⟨_, rfl, hw⟩
                  have c201 := eq201_126
                  exact hret _ _ _ _ _ ⟨_, _, _, rfl, (FrM.tr hF (h186_120.1.m)), h186_120.2, (FrQ.ez eq201_126 (FrQ.up (j := 12) (by decide) (by decide) hY)), Or.inr ⟨lm_inc c201 hr12 (FrM.rb (FrM.tr hF (h186_120.1.m)) (ma 0)) h198 t200, by omega⟩, by rw [row_keep hM c201 (i := 18) (by decide) (by decide) (by decide)]; exact hms1⟩ hw dX11_readLine_202
                · have h179_117 : ¬ ((Ic159 104 (ma 0) : Int32).toInt = 0) := h179_117
                  refine lv_if_eq (tgt := 189) hx hb dX11_readLine_182 (by decide) (fun c182_127 => ?_) (fun c182_127 => absurd c182_127 (by decide))
                  refine lv_aload_n hx hb dX11_readLine_189 rfl (lv_at hl 0 rfl) ?_
                  have hbb := congrArg Int32.toInt (FrM.rb hF (ma 0))
                  refine gf_X11_61 (b := (ma 12)) X hw hM.1 (mr_12 hM) dX11_readLine_190 ?_
                  refine lv_aload_n hx hb dX11_readLine_193 rfl (lv_at hl 0 rfl) ?_
                  refine gf_X11_149 (v := Ic159 121 (ma 0)) X hw hM.1 rfl dX11_readLine_194 ?_
                  refine lv_dup2_11 hx hb dX11_readLine_197 rfl rfl ?_
                  refine q_ldI X hw (mk_12 hM) (vin (mn_12 hM) (by omega) (by omega)) dX11_readLine_198 ?_
                  refine lv_topi (fun v198_128 e198_128 => ?_)
                  have e198_128 : v198_128 = qc159 (ma 12) ((Ic159 121 (ma 0)).toNatClampNeg) := e198_128
                  have h198 : v198_128 = qc159 (ma 12) ((Ic159 121 (ma 0) : Int32)).toNatClampNeg := e198_128
                  have g198 : v198_128.toInt = (qI S (ma 12) (pI S 121 (ma 0)).toNatClampNeg).toInt := by rw [h198, hr12, FrM.rb hF (ma 0)]
                  refine lv_iconst (v := 1) hx hb dX11_readLine_199 (by decide) ?_
                  refine lv_iadd hx hb dX11_readLine_200 ?_
                  refine lv_topi (fun v200_129 e200_129 => ?_)
                  have t200_129 := iAdd e200_129 rfl t_1 (by omega) (by omega)
                  have t200 := t200_129
                  refine q_stI X hw (mk_12 hM) (vin (mn_12 hM) (by omega) (by omega)) dX11_readLine_201 (fun H locs hw => ?_)
                  obtain ⟨q201_130, eq201_130, hw⟩ : ∃ zz9, zz9 = va_up qc159 (ma 12) (upd (qc159 (ma 12)) (Ic159 121 (ma 0)).toNatClampNeg v200_129) ∧ PX G A s.heap (ch S Ic159 Jc159 zz9 (qJ S)) H locs := ⟨_, rfl, hw⟩
                  have c201 := eq201_130
                  exact hret _ _ _ _ _ ⟨_, _, _, rfl, hF, hE1, (FrQ.ez eq201_130 (FrQ.up (j := 12) (by decide) (by decide) hY)), Or.inr ⟨lm_inc c201 hr12 (FrM.rb hF (ma 0)) h198 t200, by omega⟩, by rw [row_keep hM c201 (i := 18) (by decide) (by decide) (by decide)]; exact hms1⟩ hw dX11_readLine_202
              · skip
                refine lv_aload_n hx hb dX11_readLine_174 rfl (lv_at hl 0 rfl) ?_
                refine k_Vv (n := 0) X hw (rcvk (ci := 11) X hw hM.1 (fun _ _ _ _ _ _ _ => ⟨_, rfl⟩) rfl) (c_X11_wrong l G _ ma hM) wd_r22_5 wd_r22_6 wd_r22_7 wd_r1_5 wd_r22_8 ⟨by decide, by decide, by decide +kernel⟩ rfl rfl ⟨Nat.le_of_ble_eq_true rfl, Nat.le_of_ble_eq_true rfl⟩ rfl rfl hl.1 (Nat.le_of_ble_eq_true rfl) dX11_readLine_175 ⟨Nat.le_of_ble_eq_true rfl, Nat.le_of_ble_eq_true rfl⟩ (fun S175_132 H locs h175_131 hw => ?_)
                obtain ⟨I175_133, rfl, h175_131⟩ := h175_131
                have hw : PX G A s.heap (ch S I175_133 Jc159 qc159 (qJ S)) H locs := hw
                have h175_131n := h175_131.2
                refine lv_aload_n hx hb dX11_readLine_178 rfl (lv_at hl 0 rfl) ?_
                refine k_Vi (n := 0) X hw (rcvk (ci := 11) X hw hM.1 (fun _ _ _ _ _ _ _ => ⟨_, rfl⟩) rfl) (c_X11_isGood l G _ ma hM) wd_r21_12 wd_r21_13 wd_r21_14 wd_r1_5 wd_r21_15 ⟨by decide, by decide, by decide +kernel⟩ rfl rfl ⟨Nat.le_of_ble_eq_true rfl, Nat.le_of_ble_eq_true rfl⟩ rfl rfl hl.1 (Nat.le_of_ble_eq_true rfl) dX11_readLine_179 ⟨Nat.le_of_ble_eq_true rfl, Nat.le_of_ble_eq_true rfl⟩ (fun r179_134 S179_136 H locs h179_135 hw => ?_)
                rcases h179_135 with ⟨rfl, rfl, h179_135⟩ | ⟨rfl, rfl, h179_135⟩
                · have h179_135 : (I175_133 104 (ma 0) : Int32).toInt = 0 := h179_135
                  refine lv_if_eq (tgt := 189) hx hb dX11_readLine_182 (by decide) (fun c182_137 => absurd c182_137 (by decide)) (fun c182_137 => ?_)
                  refine lv_aload_n hx hb dX11_readLine_185 rfl (lv_at hl 0 rfl) ?_
                  refine k_Vv (n := 0) X hw (rcvk (ci := 11) X hw hM.1 (fun _ _ _ _ _ _ _ => ⟨_, rfl⟩) rfl) (c_X11_next l G _ ma hM (FrF.e h175_131.1 hE1)) wd_r20_15 wd_r20_16 wd_r20_17 wd_r1_5 wd_r20_18 ⟨by decide, by decide, by decide +kernel⟩ rfl rfl ⟨Nat.le_of_ble_eq_true rfl, Nat.le_of_ble_eq_true rfl⟩ rfl rfl hl.1 (Nat.le_of_ble_eq_true rfl) dX11_readLine_186 ⟨Nat.le_of_ble_eq_true rfl, Nat.le_of_ble_eq_true rfl⟩ (fun S186_139 H locs h186_138 hw => ?_)
                  obtain ⟨I186_140, J186_141, rfl, h186_138⟩ := h186_138
                  have hw : PX G A s.heap (ch S I186_140 J186_141 qc159 (qJ S)) H locs := hw
                  refine lv_aload_n hx hb dX11_readLine_189 rfl (lv_at hl 0 rfl) ?_
                  have hbb := congrArg Int32.toInt (FrM.rb (FrM.tr (FrM.tr hF (h175_131.1.m)) (h186_138.1.m)) (ma 0))
                  refine gf_X11_61 (b := (ma 12)) X hw hM.1 (mr_12 hM) dX11_readLine_190 ?_
                  refine lv_aload_n hx hb dX11_readLine_193 rfl (lv_at hl 0 rfl) ?_
                  refine gf_X11_149 (v := I186_140 121 (ma 0)) X hw hM.1 rfl dX11_readLine_194 ?_
                  refine lv_dup2_11 hx hb dX11_readLine_197 rfl rfl ?_
                  refine q_ldI X hw (mk_12 hM) (vin (mn_12 hM) (by omega) (by omega)) dX11_readLine_198 ?_
                  refine lv_topi (fun v198_142 e198_142 => ?_)
                  have e198_142 : v198_142 = qc159 (ma 12) ((I186_140 121 (ma 0)).toNatClampNeg) := e198_142
                  have h198 : v198_142 = qc159 (ma 12) ((I186_140 121 (ma 0) : Int32)).toNatClampNeg := e198_142
                  have g198 : v198_142.toInt = (qI S (ma 12) (pI S 121 (ma 0)).toNatClampNeg).toInt := by rw [h198, hr12, FrM.rb (FrM.tr (FrM.tr hF (h175_131.1.m)) (h186_138.1.m)) (ma 0)]
                  refine lv_iconst (v := 1) hx hb dX11_readLine_199 (by decide) ?_
                  refine lv_iadd hx hb dX11_readLine_200 ?_
                  refine lv_topi (fun v200_143 e200_143 => ?_)
                  have t200_143 := iAdd e200_143 rfl t_1 (by omega) (by omega)
                  have t200 := t200_143
                  refine q_stI X hw (mk_12 hM) (vin (mn_12 hM) (by omega) (by omega)) dX11_readLine_201 (fun H locs hw => ?_)
                  obtain ⟨q201_144, eq201_144, hw⟩ : ∃ zz9, zz9 = va_up qc159 (ma 12) (upd (qc159 (ma 12)) (I186_140 121 (ma 0)).toNatClampNeg v200_143) ∧ PX G A s.heap (ch S I186_140 J186_141 zz9 (qJ S)) H locs := ⟨_, rfl, hw⟩
                  have c201 := eq201_144
                  exact hret _ _ _ _ _ ⟨_, _, _, rfl, (FrM.tr (FrM.tr hF (h175_131.1.m)) (h186_138.1.m)), h186_138.2, (FrQ.ez eq201_144 (FrQ.up (j := 12) (by decide) (by decide) hY)), Or.inr ⟨lm_inc c201 hr12 (FrM.rb (FrM.tr (FrM.tr hF (h175_131.1.m)) (h186_138.1.m)) (ma 0)) h198 t200, by omega⟩, by rw [row_keep hM c201 (i := 18) (by decide) (by decide) (by decide)]; exact hms1⟩ hw dX11_readLine_202
                · have h179_135 : ¬ ((I175_133 104 (ma 0) : Int32).toInt = 0) := h179_135
                  refine lv_if_eq (tgt := 189) hx hb dX11_readLine_182 (by decide) (fun c182_145 => ?_) (fun c182_145 => absurd c182_145 (by decide))
                  refine lv_aload_n hx hb dX11_readLine_189 rfl (lv_at hl 0 rfl) ?_
                  have hbb := congrArg Int32.toInt (FrM.rb (FrM.tr hF (h175_131.1.m)) (ma 0))
                  refine gf_X11_61 (b := (ma 12)) X hw hM.1 (mr_12 hM) dX11_readLine_190 ?_
                  refine lv_aload_n hx hb dX11_readLine_193 rfl (lv_at hl 0 rfl) ?_
                  refine gf_X11_149 (v := I175_133 121 (ma 0)) X hw hM.1 rfl dX11_readLine_194 ?_
                  refine lv_dup2_11 hx hb dX11_readLine_197 rfl rfl ?_
                  refine q_ldI X hw (mk_12 hM) (vin (mn_12 hM) (by omega) (by omega)) dX11_readLine_198 ?_
                  refine lv_topi (fun v198_146 e198_146 => ?_)
                  have e198_146 : v198_146 = qc159 (ma 12) ((I175_133 121 (ma 0)).toNatClampNeg) := e198_146
                  have h198 : v198_146 = qc159 (ma 12) ((I175_133 121 (ma 0) : Int32)).toNatClampNeg := e198_146
                  have g198 : v198_146.toInt = (qI S (ma 12) (pI S 121 (ma 0)).toNatClampNeg).toInt := by rw [h198, hr12, FrM.rb (FrM.tr hF (h175_131.1.m)) (ma 0)]
                  refine lv_iconst (v := 1) hx hb dX11_readLine_199 (by decide) ?_
                  refine lv_iadd hx hb dX11_readLine_200 ?_
                  refine lv_topi (fun v200_147 e200_147 => ?_)
                  have t200_147 := iAdd e200_147 rfl t_1 (by omega) (by omega)
                  have t200 := t200_147
                  refine q_stI X hw (mk_12 hM) (vin (mn_12 hM) (by omega) (by omega)) dX11_readLine_201 (fun H locs hw => ?_)
                  obtain ⟨q201_148, eq201_148, hw⟩ : ∃ zz9, zz9 = va_up qc159 (ma 12) (upd (qc159 (ma 12)) (I175_133 121 (ma 0)).toNatClampNeg v200_147) ∧ PX G A s.heap (ch S I175_133 Jc159 zz9 (qJ S)) H locs := ⟨_, rfl, hw⟩
                  have c201 := eq201_148
                  exact hret _ _ _ _ _ ⟨_, _, _, rfl, (FrM.tr hF (h175_131.1.m)), (FrF.e h175_131.1 hE1), (FrQ.ez eq201_148 (FrQ.up (j := 12) (by decide) (by decide) hY)), Or.inr ⟨lm_inc c201 hr12 (FrM.rb (FrM.tr hF (h175_131.1.m)) (ma 0)) h198 t200, by omega⟩, by rw [row_keep hM c201 (i := 18) (by decide) (by decide) (by decide)]; exact hms1⟩ hw dX11_readLine_202
            · have h160_112 : ¬ ((Ic159 104 (ma 0) : Int32).toInt = 0) := h160_112
              refine lv_if_eq (tgt := 178) hx hb dX11_readLine_163 (by decide) (fun c163_149 => ?_) (fun c163_149 => absurd c163_149 (by decide))
              refine lv_aload_n hx hb dX11_readLine_178 rfl (lv_at hl 0 rfl) ?_
              refine k_Vi (n := 0) X hw (rcvk (ci := 11) X hw hM.1 (fun _ _ _ _ _ _ _ => ⟨_, rfl⟩) rfl) (c_X11_isGood l G _ ma hM) wd_r21_12 wd_r21_13 wd_r21_14 wd_r1_5 wd_r21_15 ⟨by decide, by decide, by decide +kernel⟩ rfl rfl ⟨Nat.le_of_ble_eq_true rfl, Nat.le_of_ble_eq_true rfl⟩ rfl rfl hl.1 (Nat.le_of_ble_eq_true rfl) dX11_readLine_179 ⟨Nat.le_of_ble_eq_true rfl, Nat.le_of_ble_eq_true rfl⟩ (fun r179_150 S179_152 H locs h179_151 hw => ?_)
              rcases h179_151 with ⟨rfl, rfl, h179_151⟩ | ⟨rfl, rfl, h179_151⟩
              · have h179_151 : (Ic159 104 (ma 0) : Int32).toInt = 0 := h179_151
                refine lv_if_eq (tgt := 189) hx hb dX11_readLine_182 (by decide) (fun c182_153 => absurd c182_153 (by decide)) (fun c182_153 => ?_)
                refine lv_aload_n hx hb dX11_readLine_185 rfl (lv_at hl 0 rfl) ?_
                refine k_Vv (n := 0) X hw (rcvk (ci := 11) X hw hM.1 (fun _ _ _ _ _ _ _ => ⟨_, rfl⟩) rfl) (c_X11_next l G _ ma hM hE1) wd_r20_15 wd_r20_16 wd_r20_17 wd_r1_5 wd_r20_18 ⟨by decide, by decide, by decide +kernel⟩ rfl rfl ⟨Nat.le_of_ble_eq_true rfl, Nat.le_of_ble_eq_true rfl⟩ rfl rfl hl.1 (Nat.le_of_ble_eq_true rfl) dX11_readLine_186 ⟨Nat.le_of_ble_eq_true rfl, Nat.le_of_ble_eq_true rfl⟩ (fun S186_155 H locs h186_154 hw => ?_)
                obtain ⟨I186_156, J186_157, rfl, h186_154⟩ := h186_154
                have hw : PX G A s.heap (ch S I186_156 J186_157 qc159 (qJ S)) H locs := hw
                refine lv_aload_n hx hb dX11_readLine_189 rfl (lv_at hl 0 rfl) ?_
                have hbb := congrArg Int32.toInt (FrM.rb (FrM.tr hF (h186_154.1.m)) (ma 0))
                refine gf_X11_61 (b := (ma 12)) X hw hM.1 (mr_12 hM) dX11_readLine_190 ?_
                refine lv_aload_n hx hb dX11_readLine_193 rfl (lv_at hl 0 rfl) ?_
                refine gf_X11_149 (v := I186_156 121 (ma 0)) X hw hM.1 rfl dX11_readLine_194 ?_
                refine lv_dup2_11 hx hb dX11_readLine_197 rfl rfl ?_
                refine q_ldI X hw (mk_12 hM) (vin (mn_12 hM) (by omega) (by omega)) dX11_readLine_198 ?_
                refine lv_topi (fun v198_158 e198_158 => ?_)
                have e198_158 : v198_158 = qc159 (ma 12) ((I186_156 121 (ma 0)).toNatClampNeg) := e198_158
                have h198 : v198_158 = qc159 (ma 12) ((I186_156 121 (ma 0) : Int32)).toNatClampNeg := e198_158
                have g198 : v198_158.toInt = (qI S (ma 12) (pI S 121 (ma 0)).toNatClampNeg).toInt := by rw [h198, hr12, FrM.rb (FrM.tr hF (h186_154.1.m)) (ma 0)]
                refine lv_iconst (v := 1) hx hb dX11_readLine_199 (by decide) ?_
                refine lv_iadd hx hb dX11_readLine_200 ?_
                refine lv_topi (fun v200_159 e200_159 => ?_)
                have t200_159 := iAdd e200_159 rfl t_1 (by omega) (by omega)
                have t200 := t200_159
                refine q_stI X hw (mk_12 hM) (vin (mn_12 hM) (by omega) (by omega)) dX11_readLine_201 (fun H locs hw => ?_)
                obtain ⟨q201_160, eq201_160, hw⟩ : ∃ zz9, zz9 = va_up qc159 (ma 12) (upd (qc159 (ma 12)) (I186_156 121 (ma 0)).toNatClampNeg v200_159) ∧ PX G A s.heap (ch S I186_156 J186_157 zz9 (qJ S)) H locs := ⟨_, rfl, hw⟩
                have c201 := eq201_160
                exact hret _ _ _ _ _ ⟨_, _, _, rfl, (FrM.tr hF (h186_154.1.m)), h186_154.2, (FrQ.ez eq201_160 (FrQ.up (j := 12) (by decide) (by decide) hY)), Or.inr ⟨lm_inc c201 hr12 (FrM.rb (FrM.tr hF (h186_154.1.m)) (ma 0)) h198 t200, by omega⟩, by rw [row_keep hM c201 (i := 18) (by decide) (by decide) (by decide)]; exact hms1⟩ hw dX11_readLine_202
              · have h179_151 : ¬ ((Ic159 104 (ma 0) : Int32).toInt = 0) := h179_151
                refine lv_if_eq (tgt := 189) hx hb dX11_readLine_182 (by decide) (fun c182_161 => ?_) (fun c182_161 => absurd c182_161 (by decide))
                refine lv_aload_n hx hb dX11_readLine_189 rfl (lv_at hl 0 rfl) ?_
                have hbb := congrArg Int32.toInt (FrM.rb hF (ma 0))
                refine gf_X11_61 (b := (ma 12)) X hw hM.1 (mr_12 hM) dX11_readLine_190 ?_
                refine lv_aload_n hx hb dX11_readLine_193 rfl (lv_at hl 0 rfl) ?_
                refine gf_X11_149 (v := Ic159 121 (ma 0)) X hw hM.1 rfl dX11_readLine_194 ?_
                refine lv_dup2_11 hx hb dX11_readLine_197 rfl rfl ?_
                refine q_ldI X hw (mk_12 hM) (vin (mn_12 hM) (by omega) (by omega)) dX11_readLine_198 ?_
                refine lv_topi (fun v198_162 e198_162 => ?_)
                have e198_162 : v198_162 = qc159 (ma 12) ((Ic159 121 (ma 0)).toNatClampNeg) := e198_162
                have h198 : v198_162 = qc159 (ma 12) ((Ic159 121 (ma 0) : Int32)).toNatClampNeg := e198_162
                have g198 : v198_162.toInt = (qI S (ma 12) (pI S 121 (ma 0)).toNatClampNeg).toInt := by rw [h198, hr12, FrM.rb hF (ma 0)]
                refine lv_iconst (v := 1) hx hb dX11_readLine_199 (by decide) ?_
                refine lv_iadd hx hb dX11_readLine_200 ?_
                refine lv_topi (fun v200_163 e200_163 => ?_)
                have t200_163 := iAdd e200_163 rfl t_1 (by omega) (by omega)
                have t200 := t200_163
                refine q_stI X hw (mk_12 hM) (vin (mn_12 hM) (by omega) (by omega)) dX11_readLine_201 (fun H locs hw => ?_)
                obtain ⟨q201_164, eq201_164, hw⟩ : ∃ zz9, zz9 = va_up qc159 (ma 12) (upd (qc159 (ma 12)) (Ic159 121 (ma 0)).toNatClampNeg v200_163) ∧ PX G A s.heap (ch S Ic159 Jc159 zz9 (qJ S)) H locs := ⟨_, rfl, hw⟩
                have c201 := eq201_164
                exact hret _ _ _ _ _ ⟨_, _, _, rfl, hF, hE1, (FrQ.ez eq201_164 (FrQ.up (j := 12) (by decide) (by decide) hY)), Or.inr ⟨lm_inc c201 hr12 (FrM.rb hF (ma 0)) h198 t200, by omega⟩, by rw [row_keep hM c201 (i := 18) (by decide) (by decide) (by decide)]; exact hms1⟩ hw dX11_readLine_202
          refine lv_lload_n hx hb dX11_readLine_95 rfl (lv_at hl 0 rfl) ?_
          refine lv_ldc2 hx hb X.1.2.2.2.1 (X.1.2.2.2.2 _ wd_r21_20) dX11_readLine_96 ?_
          refine W.lcmp hx hb dX11_readLine_99 ?_
          refine lv_topi (fun v99_165 e99_165 => ?_)
          refine lv_if_ne (tgt := 110) hx hb dX11_readLine_100 (by decide) (fun c100_166 => ?_) (fun c100_166 => ?_)
          · skip
            refine lv_lload_n hx hb dX11_readLine_110 rfl (lv_at hl 0 rfl) ?_
            refine lv_ldc2 hx hb X.1.2.2.2.1 (X.1.2.2.2.2 _ wd_r21_21) dX11_readLine_111 ?_
            refine W.lcmp hx hb dX11_readLine_114 ?_
            refine lv_topi (fun v114_167 e114_167 => ?_)
            refine lv_if_ne (tgt := 125) hx hb dX11_readLine_115 (by decide) (fun c115_168 => ?_) (fun c115_168 => ?_)
            · skip
              refine lv_lload_n hx hb dX11_readLine_125 rfl (lv_at hl 0 rfl) ?_
              refine lv_ldc2 hx hb X.1.2.2.2.1 (X.1.2.2.2.2 _ wd_r21_22) dX11_readLine_126 ?_
              refine W.lcmp hx hb dX11_readLine_129 ?_
              refine lv_topi (fun v129_169 e129_169 => ?_)
              refine lv_if_ne (tgt := 140) hx hb dX11_readLine_130 (by decide) (fun c130_170 => ?_) (fun c130_170 => ?_)
              · skip
                refine lv_lload_n hx hb dX11_readLine_140 rfl (lv_at hl 0 rfl) ?_
                refine lv_ldc2 hx hb X.1.2.2.2.1 (X.1.2.2.2.2 _ wd_r21_23) dX11_readLine_141 ?_
                refine W.lcmp hx hb dX11_readLine_144 ?_
                refine lv_topi (fun v144_171 e144_171 => ?_)
                refine lv_if_ne (tgt := 155) hx hb dX11_readLine_145 (by decide) (fun c145_172 => ?_) (fun c145_172 => ?_)
                · skip
                  refine lv_aload_n hx hb dX11_readLine_155 rfl (lv_at hl 1 rfl) ?_
                  refine k_Vv (n := 0) X hw (rcvk (ci := 11) X hw hM.1 (fun _ _ _ _ _ _ _ => ⟨_, rfl⟩) rfl) (c_X11_readMiss l G _ ma hM h92_107.2 (FrM.rbb (FrM.tr FrM.rf (h92_107.1.m)) hrb) hms) wd_r23_14 wd_r23_15 wd_r23_16 wd_r1_5 wd_r23_17 ⟨by decide, by decide, by decide +kernel⟩ rfl rfl ⟨Nat.le_of_ble_eq_true rfl, Nat.le_of_ble_eq_true rfl⟩ rfl rfl hl.1 (Nat.le_of_ble_eq_true rfl) dX11_readLine_156 ⟨Nat.le_of_ble_eq_true rfl, Nat.le_of_ble_eq_true rfl⟩ (fun S156_174 H locs h156_173 hw => ?_)
                  obtain ⟨I156_175, J156_176, q156_177, rfl, h156_173⟩ := h156_173
                  have hw : PX G A s.heap (ch S I156_175 J156_176 q156_177 (qJ S)) H locs := hw
                  have hr12 : q156_177 (ma 12) = qI S (ma 12) := FrQ.at hM h156_173.2.2.1 (by decide) (by decide)
                  have hms1 := h156_173.2.2.2
                  exact lp159 I156_175 J156_176 q156_177  (FrM.tr (FrM.tr FrM.rf (h92_107.1.m)) h156_173.1) h156_173.2.1 (FrQ.tr FrQ.rf (FrQ.lo (by decide) h156_173.2.2.1)) hr12 hms1 _ _ _ hw (lv_sub hl [1] rfl)
                · have D145_172 := lcn_ne e144_171 c145_172
                  refine lv_aload_n hx hb dX11_readLine_148 rfl (lv_at hl 1 rfl) ?_
                  refine k_Vv (n := 0) X hw (rcvk (ci := 11) X hw hM.1 (fun _ _ _ _ _ _ _ => ⟨_, rfl⟩) rfl) (c_X11_readLand l G _ ma hM h92_107.2 (FrM.rbb (FrM.tr FrM.rf (h92_107.1.m)) hrb) hms) wd_r23_10 wd_r23_11 wd_r23_12 wd_r1_5 wd_r23_13 ⟨by decide, by decide, by decide +kernel⟩ rfl rfl ⟨Nat.le_of_ble_eq_true rfl, Nat.le_of_ble_eq_true rfl⟩ rfl rfl hl.1 (Nat.le_of_ble_eq_true rfl) dX11_readLine_149 ⟨Nat.le_of_ble_eq_true rfl, Nat.le_of_ble_eq_true rfl⟩ (fun S149_179 H locs h149_178 hw => ?_)
                  obtain ⟨I149_180, J149_181, q149_182, rfl, h149_178⟩ := h149_178
                  have hw : PX G A s.heap (ch S I149_180 J149_181 q149_182 (qJ S)) H locs := hw
                  have hr12 : q149_182 (ma 12) = qI S (ma 12) := FrQ.at hM h149_178.2.2.1 (by decide) (by decide)
                  have hms1 := h149_178.2.2.2
                  refine lv_goto (tgt := 159) hx hb dX11_readLine_152 (by decide) ?_
                  exact lp159 I149_180 J149_181 q149_182  (FrM.tr (FrM.tr FrM.rf (h92_107.1.m)) h149_178.1) h149_178.2.1 (FrQ.tr FrQ.rf (FrQ.lo (by decide) h149_178.2.2.1)) hr12 hms1 _ _ _ hw (lv_sub hl [1] rfl)
              · have D130_170 := lcn_ne e129_169 c130_170
                refine lv_aload_n hx hb dX11_readLine_133 rfl (lv_at hl 1 rfl) ?_
                refine k_Vv (n := 0) X hw (rcvk (ci := 11) X hw hM.1 (fun _ _ _ _ _ _ _ => ⟨_, rfl⟩) rfl) (c_X11_readLee l G _ ma hM h92_107.2 (FrM.rbb (FrM.tr FrM.rf (h92_107.1.m)) hrb) hms) wd_r23_6 wd_r23_7 wd_r23_8 wd_r1_5 wd_r23_9 ⟨by decide, by decide, by decide +kernel⟩ rfl rfl ⟨Nat.le_of_ble_eq_true rfl, Nat.le_of_ble_eq_true rfl⟩ rfl rfl hl.1 (Nat.le_of_ble_eq_true rfl) dX11_readLine_134 ⟨Nat.le_of_ble_eq_true rfl, Nat.le_of_ble_eq_true rfl⟩ (fun S134_184 H locs h134_183 hw => ?_)
                obtain ⟨I134_185, J134_186, q134_187, rfl, h134_183⟩ := h134_183
                have hw : PX G A s.heap (ch S I134_185 J134_186 q134_187 (qJ S)) H locs := hw
                have hr12 : q134_187 (ma 12) = qI S (ma 12) := FrQ.at hM h134_183.2.2.1 (by decide) (by decide)
                have hms1 := h134_183.2.2.2
                refine lv_goto (tgt := 159) hx hb dX11_readLine_137 (by decide) ?_
                exact lp159 I134_185 J134_186 q134_187  (FrM.tr (FrM.tr FrM.rf (h92_107.1.m)) h134_183.1) h134_183.2.1 (FrQ.tr FrQ.rf (FrQ.lo (by decide) h134_183.2.2.1)) hr12 hms1 _ _ _ hw (lv_sub hl [1] rfl)
            · have D115_168 := lcn_ne e114_167 c115_168
              refine lv_aload_n hx hb dX11_readLine_118 rfl (lv_at hl 1 rfl) ?_
              refine k_Vv (n := 0) X hw (rcvk (ci := 11) X hw hM.1 (fun _ _ _ _ _ _ _ => ⟨_, rfl⟩) rfl) (c_X11_readStream l G _ ma hM h92_107.2 (FrM.rbb (FrM.tr FrM.rf (h92_107.1.m)) hrb) hms) wd_r23_2 wd_r23_3 wd_r23_4 wd_r1_5 wd_r23_5 ⟨by decide, by decide, by decide +kernel⟩ rfl rfl ⟨Nat.le_of_ble_eq_true rfl, Nat.le_of_ble_eq_true rfl⟩ rfl rfl hl.1 (Nat.le_of_ble_eq_true rfl) dX11_readLine_119 ⟨Nat.le_of_ble_eq_true rfl, Nat.le_of_ble_eq_true rfl⟩ (fun S119_189 H locs h119_188 hw => ?_)
              obtain ⟨I119_190, J119_191, q119_192, rfl, h119_188⟩ := h119_188
              have hw : PX G A s.heap (ch S I119_190 J119_191 q119_192 (qJ S)) H locs := hw
              have hr12 : q119_192 (ma 12) = qI S (ma 12) := FrQ.at hM h119_188.2.2.1 (by decide) (by decide)
              have hms1 := h119_188.2.2.2
              refine lv_goto (tgt := 159) hx hb dX11_readLine_122 (by decide) ?_
              exact lp159 I119_190 J119_191 q119_192  (FrM.tr (FrM.tr FrM.rf (h92_107.1.m)) h119_188.1) h119_188.2.1 (FrQ.tr FrQ.rf (FrQ.lo (by decide) h119_188.2.2.1)) hr12 hms1 _ _ _ hw (lv_sub hl [1] rfl)
          · have D100_166 := lcn_ne e99_165 c100_166
            refine lv_aload_n hx hb dX11_readLine_103 rfl (lv_at hl 1 rfl) ?_
            refine k_Vv (n := 0) X hw (rcvk (ci := 11) X hw hM.1 (fun _ _ _ _ _ _ _ => ⟨_, rfl⟩) rfl) (c_X11_readWind l G _ ma hM h92_107.2 (FrM.rbb (FrM.tr FrM.rf (h92_107.1.m)) hrb) hms) wd_r22_13 wd_r22_14 wd_r22_15 wd_r1_5 wd_r22_16 ⟨by decide, by decide, by decide +kernel⟩ rfl rfl ⟨Nat.le_of_ble_eq_true rfl, Nat.le_of_ble_eq_true rfl⟩ rfl rfl hl.1 (Nat.le_of_ble_eq_true rfl) dX11_readLine_104 ⟨Nat.le_of_ble_eq_true rfl, Nat.le_of_ble_eq_true rfl⟩ (fun S104_194 H locs h104_193 hw => ?_)
            obtain ⟨I104_195, J104_196, q104_197, rfl, h104_193⟩ := h104_193
            have hw : PX G A s.heap (ch S I104_195 J104_196 q104_197 (qJ S)) H locs := hw
            have hr12 : q104_197 (ma 12) = qI S (ma 12) := FrQ.at hM h104_193.2.2.1 (by decide) (by decide)
            have hms1 := h104_193.2.2.2
            refine lv_goto (tgt := 159) hx hb dX11_readLine_107 (by decide) ?_
            exact lp159 I104_195 J104_196 q104_197  (FrM.tr (FrM.tr FrM.rf (h92_107.1.m)) h104_193.1) h104_193.2.1 (FrQ.tr FrQ.rf (FrQ.lo (by decide) h104_193.2.2.1)) hr12 hms1 _ _ _ hw (lv_sub hl [1] rfl)
        · have h79_104 : ¬ (((pI S) 104 (ma 0) : Int32).toInt = 0) := h79_104
          refine lv_if_ne (tgt := 86) hx hb dX11_readLine_82 (by decide) (fun c82_198 => absurd c82_198 (by decide)) (fun c82_198 => ?_)
          exact hret _ _ _ _ _ ⟨_, _, _, rfl, FrM.rf, hE, FrQ.rf, Or.inl (by omega), hms⟩ hw dX11_readLine_85
      · have D71_102 := iEq c71_102 rfl t_60
        refine lv_aload_n hx hb dX11_readLine_74 rfl (lv_at hl 0 rfl) ?_
        refine k_Vv (n := 0) X hw (rcvk (ci := 11) X hw hM.1 (fun _ _ _ _ _ _ _ => ⟨_, rfl⟩) rfl) (c_X11_wrong l G _ ma hM) wd_r22_5 wd_r22_6 wd_r22_7 wd_r1_5 wd_r22_8 ⟨by decide, by decide, by decide +kernel⟩ rfl rfl ⟨Nat.le_of_ble_eq_true rfl, Nat.le_of_ble_eq_true rfl⟩ rfl rfl hl.1 (Nat.le_of_ble_eq_true rfl) dX11_readLine_75 ⟨Nat.le_of_ble_eq_true rfl, Nat.le_of_ble_eq_true rfl⟩ (fun S75_200 H locs h75_199 hw => ?_)
        obtain ⟨I75_201, rfl, h75_199⟩ := h75_199
        have hw : PX G A s.heap (ch S I75_201 (pJ S) (qI S) (qJ S)) H locs := hw
        have h75_199n := h75_199.2
        refine lv_aload_n hx hb dX11_readLine_78 rfl (lv_at hl 0 rfl) ?_
        refine k_Vi (n := 0) X hw (rcvk (ci := 11) X hw hM.1 (fun _ _ _ _ _ _ _ => ⟨_, rfl⟩) rfl) (c_X11_isGood l G _ ma hM) wd_r21_12 wd_r21_13 wd_r21_14 wd_r1_5 wd_r21_15 ⟨by decide, by decide, by decide +kernel⟩ rfl rfl ⟨Nat.le_of_ble_eq_true rfl, Nat.le_of_ble_eq_true rfl⟩ rfl rfl hl.1 (Nat.le_of_ble_eq_true rfl) dX11_readLine_79 ⟨Nat.le_of_ble_eq_true rfl, Nat.le_of_ble_eq_true rfl⟩ (fun r79_202 S79_204 H locs h79_203 hw => ?_)
        rcases h79_203 with ⟨rfl, rfl, h79_203⟩ | ⟨rfl, rfl, h79_203⟩
        · have h79_203 : (I75_201 104 (ma 0) : Int32).toInt = 0 := h79_203
          refine lv_if_ne (tgt := 86) hx hb dX11_readLine_82 (by decide) (fun c82_205 => ?_) (fun c82_205 => absurd c82_205 (by decide))
          refine lv_aload_n hx hb dX11_readLine_86 rfl (lv_at hl 0 rfl) ?_
          refine gf_X11_34 (v := (pJ S) 110 (ma 0)) X hw hM.1 rfl dX11_readLine_87 ?_
          refine lv_lstore_n (lv' := [(2, .long ((pJ S) 110 (ma 0))), (0, .ref (ma 0)), (1, .int z)]) hx hb dX11_readLine_90 rfl hl (by decide) rfl (fun ls hl => ?_)
          refine lv_aload_n hx hb dX11_readLine_91 rfl (lv_at hl 1 rfl) ?_
          refine k_Vv (n := 0) X hw (rcvk (ci := 11) X hw hM.1 (fun _ _ _ _ _ _ _ => ⟨_, rfl⟩) rfl) (c_X11_next l G _ ma hM (FrF.e h75_199.1 hE)) wd_r20_15 wd_r20_16 wd_r20_17 wd_r1_5 wd_r20_18 ⟨by decide, by decide, by decide +kernel⟩ rfl rfl ⟨Nat.le_of_ble_eq_true rfl, Nat.le_of_ble_eq_true rfl⟩ rfl rfl hl.1 (Nat.le_of_ble_eq_true rfl) dX11_readLine_92 ⟨Nat.le_of_ble_eq_true rfl, Nat.le_of_ble_eq_true rfl⟩ (fun S92_207 H locs h92_206 hw => ?_)
          obtain ⟨I92_208, J92_209, rfl, h92_206⟩ := h92_206
          have hw : PX G A s.heap (ch S I92_208 J92_209 (qI S) (qJ S)) H locs := hw
          have lp159 : ∀ (Ic159 : Nat → Nat → Int32) (Jc159 : Nat → Nat → Int64) (qc159 : Nat → Nat → Int32), (FrM (pI S) Ic159) → (eM Ic159 (ma 0)) → (FrQ 12 ma (qI S) qc159) → (qc159 (ma 12) = qI S (ma 12)) → (MsOK (qc159 (ma 18))) → ∀ (H : Heap) (locs : List Loc) (ls : Array Slot), PX G A s.heap (ch S Ic159 Jc159 qc159 (qJ S)) H locs → lv_has ls 4 [(0, .ref (ma 0))] → W p l e (Rm 5 0 0) s m args below meth c H locs 0 0 Q (F0 m 159 ls []) := by
            intro Ic159 Jc159 qc159 hF hE1 hY hr12 hms1 H locs ls hw hl
            refine lv_aload_n hx hb dX11_readLine_159 rfl (lv_at hl 0 rfl) ?_
            refine k_Vi (n := 0) X hw (rcvk (ci := 11) X hw hM.1 (fun _ _ _ _ _ _ _ => ⟨_, rfl⟩) rfl) (c_X11_isGood l G _ ma hM) wd_r21_12 wd_r21_13 wd_r21_14 wd_r1_5 wd_r21_15 ⟨by decide, by decide, by decide +kernel⟩ rfl rfl ⟨Nat.le_of_ble_eq_true rfl, Nat.le_of_ble_eq_true rfl⟩ rfl rfl hl.1 (Nat.le_of_ble_eq_true rfl) dX11_readLine_160 ⟨Nat.le_of_ble_eq_true rfl, Nat.le_of_ble_eq_true rfl⟩ (fun r160_210 S160_212 H locs h160_211 hw => ?_)
            rcases h160_211 with ⟨rfl, rfl, h160_211⟩ | ⟨rfl, rfl, h160_211⟩
            · have h160_211 : (Ic159 104 (ma 0) : Int32).toInt = 0 := h160_211
              refine lv_if_eq (tgt := 178) hx hb dX11_readLine_163 (by decide) (fun c163_213 => absurd c163_213 (by decide)) (fun c163_213 => ?_)
              refine lv_aload_n hx hb dX11_readLine_166 rfl (lv_at hl 0 rfl) ?_
              refine gf_X11_27 (v := Ic159 108 (ma 0)) X hw hM.1 rfl dX11_readLine_167 ?_
              refine lv_iconst (v := 4) hx hb dX11_readLine_170 (by decide) ?_
              refine lv_icmp_eq (tgt := 178) hx hb dX11_readLine_171 (by decide) (fun c171_214 => ?_) (fun c171_214 => ?_)
              · have D171_214 := iEq c171_214 rfl t_4
                refine lv_aload_n hx hb dX11_readLine_178 rfl (lv_at hl 0 rfl) ?_
                refine k_Vi (n := 0) X hw (rcvk (ci := 11) X hw hM.1 (fun _ _ _ _ _ _ _ => ⟨_, rfl⟩) rfl) (c_X11_isGood l G _ ma hM) wd_r21_12 wd_r21_13 wd_r21_14 wd_r1_5 wd_r21_15 ⟨by decide, by decide, by decide +kernel⟩ rfl rfl ⟨Nat.le_of_ble_eq_true rfl, Nat.le_of_ble_eq_true rfl⟩ rfl rfl hl.1 (Nat.le_of_ble_eq_true rfl) dX11_readLine_179 ⟨Nat.le_of_ble_eq_true rfl, Nat.le_of_ble_eq_true rfl⟩ (fun r179_215 S179_217 H locs h179_216 hw => ?_)
                rcases h179_216 with ⟨rfl, rfl, h179_216⟩ | ⟨rfl, rfl, h179_216⟩
                · have h179_216 : (Ic159 104 (ma 0) : Int32).toInt = 0 := h179_216
                  refine lv_if_eq (tgt := 189) hx hb dX11_readLine_182 (by decide) (fun c182_218 => absurd c182_218 (by decide)) (fun c182_218 => ?_)
                  refine lv_aload_n hx hb dX11_readLine_185 rfl (lv_at hl 0 rfl) ?_
                  refine k_Vv (n := 0) X hw (rcvk (ci := 11) X hw hM.1 (fun _ _ _ _ _ _ _ => ⟨_, rfl⟩) rfl) (c_X11_next l G _ ma hM hE1) wd_r20_15 wd_r20_16 wd_r20_17 wd_r1_5 wd_r20_18 ⟨by decide, by decide, by decide +kernel⟩ rfl rfl ⟨Nat.le_of_ble_eq_true rfl, Nat.le_of_ble_eq_true rfl⟩ rfl rfl hl.1 (Nat.le_of_ble_eq_true rfl) dX11_readLine_186 ⟨Nat.le_of_ble_eq_true rfl, Nat.le_of_ble_eq_true rfl⟩ (fun S186_220 H locs h186_219 hw => ?_)
                  obtain ⟨I186_221, J186_222, rfl, h186_219⟩ := h186_219
                  have hw : PX G A s.heap (ch S I186_221 J186_222 qc159 (qJ S)) H locs := hw
                  refine lv_aload_n hx hb dX11_readLine_189 rfl (lv_at hl 0 rfl) ?_
                  have hbb := congrArg Int32.toInt (FrM.rb (FrM.tr hF (h186_219.1.m)) (ma 0))
                  refine gf_X11_61 (b := (ma 12)) X hw hM.1 (mr_12 hM) dX11_readLine_190 ?_
                  refine lv_aload_n hx hb dX11_readLine_193 rfl (lv_at hl 0 rfl) ?_
                  refine gf_X11_149 (v := I186_221 121 (ma 0)) X hw hM.1 rfl dX11_readLine_194 ?_
                  refine lv_dup2_11 hx hb dX11_readLine_197 rfl rfl ?_
                  refine q_ldI X hw (mk_12 hM) (vin (mn_12 hM) (by omega) (by omega)) dX11_readLine_198 ?_
                  refine lv_topi (fun v198_223 e198_223 => ?_)
                  have e198_223 : v198_223 = qc159 (ma 12) ((I186_221 121 (ma 0)).toNatClampNeg) := e198_223
                  have h198 : v198_223 = qc159 (ma 12) ((I186_221 121 (ma 0) : Int32)).toNatClampNeg := e198_223
                  have g198 : v198_223.toInt = (qI S (ma 12) (pI S 121 (ma 0)).toNatClampNeg).toInt := by rw [h198, hr12, FrM.rb (FrM.tr hF (h186_219.1.m)) (ma 0)]
                  refine lv_iconst (v := 1) hx hb dX11_readLine_199 (by decide) ?_
                  refine lv_iadd hx hb dX11_readLine_200 ?_
                  refine lv_topi (fun v200_224 e200_224 => ?_)
                  have t200_224 := iAdd e200_224 rfl t_1 (by omega) (by omega)
                  have t200 := t200_224
                  refine q_stI X hw (mk_12 hM) (vin (mn_12 hM) (by omega) (by omega)) dX11_readLine_201 (fun H locs hw => ?_)
                  obtain ⟨q201_225, eq201_225, hw⟩ : ∃ zz9, zz9 = va_up qc159 (ma 12) (upd (qc159 (ma 12)) (I186_221 121 (ma 0)).toNatClampNeg v200_224) ∧ PX G A s.heap (ch S I186_221 J186_222 zz9 (qJ S)) H locs := ⟨_, rfl, hw⟩
                  have c201 := eq201_225
                  exact hret _ _ _ _ _ ⟨_, _, _, rfl, (FrM.tr hF (h186_219.1.m)), h186_219.2, (FrQ.ez eq201_225 (FrQ.up (j := 12) (by decide) (by decide) hY)), Or.inr ⟨lm_inc c201 hr12 (FrM.rb (FrM.tr hF (h186_219.1.m)) (ma 0)) h198 t200, by omega⟩, by rw [row_keep hM c201 (i := 18) (by decide) (by decide) (by decide)]; exact hms1⟩ hw dX11_readLine_202
                · have h179_216 : ¬ ((Ic159 104 (ma 0) : Int32).toInt = 0) := h179_216
                  refine lv_if_eq (tgt := 189) hx hb dX11_readLine_182 (by decide) (fun c182_226 => ?_) (fun c182_226 => absurd c182_226 (by decide))
                  refine lv_aload_n hx hb dX11_readLine_189 rfl (lv_at hl 0 rfl) ?_
                  have hbb := congrArg Int32.toInt (FrM.rb hF (ma 0))
                  refine gf_X11_61 (b := (ma 12)) X hw hM.1 (mr_12 hM) dX11_readLine_190 ?_
                  refine lv_aload_n hx hb dX11_readLine_193 rfl (lv_at hl 0 rfl) ?_
                  refine gf_X11_149 (v := Ic159 121 (ma 0)) X hw hM.1 rfl dX11_readLine_194 ?_
                  refine lv_dup2_11 hx hb dX11_readLine_197 rfl rfl ?_
                  refine q_ldI X hw (mk_12 hM) (vin (mn_12 hM) (by omega) (by omega)) dX11_readLine_198 ?_
                  refine lv_topi (fun v198_227 e198_227 => ?_)
                  have e198_227 : v198_227 = qc159 (ma 12) ((Ic159 121 (ma 0)).toNatClampNeg) := e198_227
                  have h198 : v198_227 = qc159 (ma 12) ((Ic159 121 (ma 0) : Int32)).toNatClampNeg := e198_227
                  have g198 : v198_227.toInt = (qI S (ma 12) (pI S 121 (ma 0)).toNatClampNeg).toInt := by rw [h198, hr12, FrM.rb hF (ma 0)]
                  refine lv_iconst (v := 1) hx hb dX11_readLine_199 (by decide) ?_
                  refine lv_iadd hx hb dX11_readLine_200 ?_
                  refine lv_topi (fun v200_228 e200_228 => ?_)
                  have t200_228 := iAdd e200_228 rfl t_1 (by omega) (by omega)
                  have t200 := t200_228
                  refine q_stI X hw (mk_12 hM) (vin (mn_12 hM) (by omega) (by omega)) dX11_readLine_201 (fun H locs hw => ?_)
                  obtain ⟨q201_229, eq201_229, hw⟩ : ∃ zz9, zz9 = va_up qc159 (ma 12) (upd (qc159 (ma 12)) (Ic159 121 (ma 0)).toNatClampNeg v200_228) ∧ PX G A s.heap (ch S Ic159 Jc159 zz9 (qJ S)) H locs := ⟨_, rfl, hw⟩
                  have c201 := eq201_229
                  exact hret _ _ _ _ _ ⟨_, _, _, rfl, hF, hE1, (FrQ.ez eq201_229 (FrQ.up (j := 12) (by decide) (by decide) hY)), Or.inr ⟨lm_inc c201 hr12 (FrM.rb hF (ma 0)) h198 t200, by omega⟩, by rw [row_keep hM c201 (i := 18) (by decide) (by decide) (by decide)]; exact hms1⟩ hw dX11_readLine_202
              · skip
                refine lv_aload_n hx hb dX11_readLine_174 rfl (lv_at hl 0 rfl) ?_
                refine k_Vv (n := 0) X hw (rcvk (ci := 11) X hw hM.1 (fun _ _ _ _ _ _ _ => ⟨_, rfl⟩) rfl) (c_X11_wrong l G _ ma hM) wd_r22_5 wd_r22_6 wd_r22_7 wd_r1_5 wd_r22_8 ⟨by decide, by decide, by decide +kernel⟩ rfl rfl ⟨Nat.le_of_ble_eq_true rfl, Nat.le_of_ble_eq_true rfl⟩ rfl rfl hl.1 (Nat.le_of_ble_eq_true rfl) dX11_readLine_175 ⟨Nat.le_of_ble_eq_true rfl, Nat.le_of_ble_eq_true rfl⟩ (fun S175_231 H locs h175_230 hw => ?_)
                obtain ⟨I175_232, rfl, h175_230⟩ := h175_230
                have hw : PX G A s.heap (ch S I175_232 Jc159 qc159 (qJ S)) H locs := hw
                have h175_230n := h175_230.2
                refine lv_aload_n hx hb dX11_readLine_178 rfl (lv_at hl 0 rfl) ?_
                refine k_Vi (n := 0) X hw (rcvk (ci := 11) X hw hM.1 (fun _ _ _ _ _ _ _ => ⟨_, rfl⟩) rfl) (c_X11_isGood l G _ ma hM) wd_r21_12 wd_r21_13 wd_r21_14 wd_r1_5 wd_r21_15 ⟨by decide, by decide, by decide +kernel⟩ rfl rfl ⟨Nat.le_of_ble_eq_true rfl, Nat.le_of_ble_eq_true rfl⟩ rfl rfl hl.1 (Nat.le_of_ble_eq_true rfl) dX11_readLine_179 ⟨Nat.le_of_ble_eq_true rfl, Nat.le_of_ble_eq_true rfl⟩ (fun r179_233 S179_235 H locs h179_234 hw => ?_)
                rcases h179_234 with ⟨rfl, rfl, h179_234⟩ | ⟨rfl, rfl, h179_234⟩
                · have h179_234 : (I175_232 104 (ma 0) : Int32).toInt = 0 := h179_234
                  refine lv_if_eq (tgt := 189) hx hb dX11_readLine_182 (by decide) (fun c182_236 => absurd c182_236 (by decide)) (fun c182_236 => ?_)
                  refine lv_aload_n hx hb dX11_readLine_185 rfl (lv_at hl 0 rfl) ?_
                  refine k_Vv (n := 0) X hw (rcvk (ci := 11) X hw hM.1 (fun _ _ _ _ _ _ _ => ⟨_, rfl⟩) rfl) (c_X11_next l G _ ma hM (FrF.e h175_230.1 hE1)) wd_r20_15 wd_r20_16 wd_r20_17 wd_r1_5 wd_r20_18 ⟨by decide, by decide, by decide +kernel⟩ rfl rfl ⟨Nat.le_of_ble_eq_true rfl, Nat.le_of_ble_eq_true rfl⟩ rfl rfl hl.1 (Nat.le_of_ble_eq_true rfl) dX11_readLine_186 ⟨Nat.le_of_ble_eq_true rfl, Nat.le_of_ble_eq_true rfl⟩ (fun S186_238 H locs h186_237 hw => ?_)
                  obtain ⟨I186_239, J186_240, rfl, h186_237⟩ := h186_237
                  have hw : PX G A s.heap (ch S I186_239 J186_240 qc159 (qJ S)) H locs := hw
                  refine lv_aload_n hx hb dX11_readLine_189 rfl (lv_at hl 0 rfl) ?_
                  have hbb := congrArg Int32.toInt (FrM.rb (FrM.tr (FrM.tr hF (h175_230.1.m)) (h186_237.1.m)) (ma 0))
                  refine gf_X11_61 (b := (ma 12)) X hw hM.1 (mr_12 hM) dX11_readLine_190 ?_
                  refine lv_aload_n hx hb dX11_readLine_193 rfl (lv_at hl 0 rfl) ?_
                  refine gf_X11_149 (v := I186_239 121 (ma 0)) X hw hM.1 rfl dX11_readLine_194 ?_
                  refine lv_dup2_11 hx hb dX11_readLine_197 rfl rfl ?_
                  refine q_ldI X hw (mk_12 hM) (vin (mn_12 hM) (by omega) (by omega)) dX11_readLine_198 ?_
                  refine lv_topi (fun v198_241 e198_241 => ?_)
                  have e198_241 : v198_241 = qc159 (ma 12) ((I186_239 121 (ma 0)).toNatClampNeg) := e198_241
                  have h198 : v198_241 = qc159 (ma 12) ((I186_239 121 (ma 0) : Int32)).toNatClampNeg := e198_241
                  have g198 : v198_241.toInt = (qI S (ma 12) (pI S 121 (ma 0)).toNatClampNeg).toInt := by rw [h198, hr12, FrM.rb (FrM.tr (FrM.tr hF (h175_230.1.m)) (h186_237.1.m)) (ma 0)]
                  refine lv_iconst (v := 1) hx hb dX11_readLine_199 (by decide) ?_
                  refine lv_iadd hx hb dX11_readLine_200 ?_
                  refine lv_topi (fun v200_242 e200_242 => ?_)
                  have t200_242 := iAdd e200_242 rfl t_1 (by omega) (by omega)
                  have t200 := t200_242
                  refine q_stI X hw (mk_12 hM) (vin (mn_12 hM) (by omega) (by omega)) dX11_readLine_201 (fun H locs hw => ?_)
                  obtain ⟨q201_243, eq201_243, hw⟩ : ∃ zz9, zz9 = va_up qc159 (ma 12) (upd (qc159 (ma 12)) (I186_239 121 (ma 0)).toNatClampNeg v200_242) ∧ PX G A s.heap (ch S I186_239 J186_240 zz9 (qJ S)) H locs := ⟨_, rfl, hw⟩
                  have c201 := eq201_243
                  exact hret _ _ _ _ _ ⟨_, _, _, rfl, (FrM.tr (FrM.tr hF (h175_230.1.m)) (h186_237.1.m)), h186_237.2, (FrQ.ez eq201_243 (FrQ.up (j := 12) (by decide) (by decide) hY)), Or.inr ⟨lm_inc c201 hr12 (FrM.rb (FrM.tr (FrM.tr hF (h175_230.1.m)) (h186_237.1.m)) (ma 0)) h198 t200, by omega⟩, by rw [row_keep hM c201 (i := 18) (by decide) (by decide) (by decide)]; exact hms1⟩ hw dX11_readLine_202
                · have h179_234 : ¬ ((I175_232 104 (ma 0) : Int32).toInt = 0) := h179_234
                  refine lv_if_eq (tgt := 189) hx hb dX11_readLine_182 (by decide) (fun c182_244 => ?_) (fun c182_244 => absurd c182_244 (by decide))
                  refine lv_aload_n hx hb dX11_readLine_189 rfl (lv_at hl 0 rfl) ?_
                  have hbb := congrArg Int32.toInt (FrM.rb (FrM.tr hF (h175_230.1.m)) (ma 0))
                  refine gf_X11_61 (b := (ma 12)) X hw hM.1 (mr_12 hM) dX11_readLine_190 ?_
                  refine lv_aload_n hx hb dX11_readLine_193 rfl (lv_at hl 0 rfl) ?_
                  refine gf_X11_149 (v := I175_232 121 (ma 0)) X hw hM.1 rfl dX11_readLine_194 ?_
                  refine lv_dup2_11 hx hb dX11_readLine_197 rfl rfl ?_
                  refine q_ldI X hw (mk_12 hM) (vin (mn_12 hM) (by omega) (by omega)) dX11_readLine_198 ?_
                  refine lv_topi (fun v198_245 e198_245 => ?_)
                  have e198_245 : v198_245 = qc159 (ma 12) ((I175_232 121 (ma 0)).toNatClampNeg) := e198_245
                  have h198 : v198_245 = qc159 (ma 12) ((I175_232 121 (ma 0) : Int32)).toNatClampNeg := e198_245
                  have g198 : v198_245.toInt = (qI S (ma 12) (pI S 121 (ma 0)).toNatClampNeg).toInt := by rw [h198, hr12, FrM.rb (FrM.tr hF (h175_230.1.m)) (ma 0)]
                  refine lv_iconst (v := 1) hx hb dX11_readLine_199 (by decide) ?_
                  refine lv_iadd hx hb dX11_readLine_200 ?_
                  refine lv_topi (fun v200_246 e200_246 => ?_)
                  have t200_246 := iAdd e200_246 rfl t_1 (by omega) (by omega)
                  have t200 := t200_246
                  refine q_stI X hw (mk_12 hM) (vin (mn_12 hM) (by omega) (by omega)) dX11_readLine_201 (fun H locs hw => ?_)
                  obtain ⟨q201_247, eq201_247, hw⟩ : ∃ zz9, zz9 = va_up qc159 (ma 12) (upd (qc159 (ma 12)) (I175_232 121 (ma 0)).toNatClampNeg v200_246) ∧ PX G A s.heap (ch S I175_232 Jc159 zz9 (qJ S)) H locs := ⟨_, rfl, hw⟩
                  have c201 := eq201_247
                  exact hret _ _ _ _ _ ⟨_, _, _, rfl, (FrM.tr hF (h175_230.1.m)), (FrF.e h175_230.1 hE1), (FrQ.ez eq201_247 (FrQ.up (j := 12) (by decide) (by decide) hY)), Or.inr ⟨lm_inc c201 hr12 (FrM.rb (FrM.tr hF (h175_230.1.m)) (ma 0)) h198 t200, by omega⟩, by rw [row_keep hM c201 (i := 18) (by decide) (by decide) (by decide)]; exact hms1⟩ hw dX11_readLine_202
            · have h160_211 : ¬ ((Ic159 104 (ma 0) : Int32).toInt = 0) := h160_211
              refine lv_if_eq (tgt := 178) hx hb dX11_readLine_163 (by decide) (fun c163_248 => ?_) (fun c163_248 => absurd c163_248 (by decide))
              refine lv_aload_n hx hb dX11_readLine_178 rfl (lv_at hl 0 rfl) ?_
              refine k_Vi (n := 0) X hw (rcvk (ci := 11) X hw hM.1 (fun _ _ _ _ _ _ _ => ⟨_, rfl⟩) rfl) (c_X11_isGood l G _ ma hM) wd_r21_12 wd_r21_13 wd_r21_14 wd_r1_5 wd_r21_15 ⟨by decide, by decide, by decide +kernel⟩ rfl rfl ⟨Nat.le_of_ble_eq_true rfl, Nat.le_of_ble_eq_true rfl⟩ rfl rfl hl.1 (Nat.le_of_ble_eq_true rfl) dX11_readLine_179 ⟨Nat.le_of_ble_eq_true rfl, Nat.le_of_ble_eq_true rfl⟩ (fun r179_249 S179_251 H locs h179_250 hw => ?_)
              rcases h179_250 with ⟨rfl, rfl, h179_250⟩ | ⟨rfl, rfl, h179_250⟩
              · have h179_250 : (Ic159 104 (ma 0) : Int32).toInt = 0 := h179_250
                refine lv_if_eq (tgt := 189) hx hb dX11_readLine_182 (by decide) (fun c182_252 => absurd c182_252 (by decide)) (fun c182_252 => ?_)
                refine lv_aload_n hx hb dX11_readLine_185 rfl (lv_at hl 0 rfl) ?_
                refine k_Vv (n := 0) X hw (rcvk (ci := 11) X hw hM.1 (fun _ _ _ _ _ _ _ => ⟨_, rfl⟩) rfl) (c_X11_next l G _ ma hM hE1) wd_r20_15 wd_r20_16 wd_r20_17 wd_r1_5 wd_r20_18 ⟨by decide, by decide, by decide +kernel⟩ rfl rfl ⟨Nat.le_of_ble_eq_true rfl, Nat.le_of_ble_eq_true rfl⟩ rfl rfl hl.1 (Nat.le_of_ble_eq_true rfl) dX11_readLine_186 ⟨Nat.le_of_ble_eq_true rfl, Nat.le_of_ble_eq_true rfl⟩ (fun S186_254 H locs h186_253 hw => ?_)
                obtain ⟨I186_255, J186_256, rfl, h186_253⟩ := h186_253
                have hw : PX G A s.heap (ch S I186_255 J186_256 qc159 (qJ S)) H locs := hw
                refine lv_aload_n hx hb dX11_readLine_189 rfl (lv_at hl 0 rfl) ?_
                have hbb := congrArg Int32.toInt (FrM.rb (FrM.tr hF (h186_253.1.m)) (ma 0))
                refine gf_X11_61 (b := (ma 12)) X hw hM.1 (mr_12 hM) dX11_readLine_190 ?_
                refine lv_aload_n hx hb dX11_readLine_193 rfl (lv_at hl 0 rfl) ?_
                refine gf_X11_149 (v := I186_255 121 (ma 0)) X hw hM.1 rfl dX11_readLine_194 ?_
                refine lv_dup2_11 hx hb dX11_readLine_197 rfl rfl ?_
                refine q_ldI X hw (mk_12 hM) (vin (mn_12 hM) (by omega) (by omega)) dX11_readLine_198 ?_
                refine lv_topi (fun v198_257 e198_257 => ?_)
                have e198_257 : v198_257 = qc159 (ma 12) ((I186_255 121 (ma 0)).toNatClampNeg) := e198_257
                have h198 : v198_257 = qc159 (ma 12) ((I186_255 121 (ma 0) : Int32)).toNatClampNeg := e198_257
                have g198 : v198_257.toInt = (qI S (ma 12) (pI S 121 (ma 0)).toNatClampNeg).toInt := by rw [h198, hr12, FrM.rb (FrM.tr hF (h186_253.1.m)) (ma 0)]
                refine lv_iconst (v := 1) hx hb dX11_readLine_199 (by decide) ?_
                refine lv_iadd hx hb dX11_readLine_200 ?_
                refine lv_topi (fun v200_258 e200_258 => ?_)
                have t200_258 := iAdd e200_258 rfl t_1 (by omega) (by omega)
                have t200 := t200_258
                refine q_stI X hw (mk_12 hM) (vin (mn_12 hM) (by omega) (by omega)) dX11_readLine_201 (fun H locs hw => ?_)
                obtain ⟨q201_259, eq201_259, hw⟩ : ∃ zz9, zz9 = va_up qc159 (ma 12) (upd (qc159 (ma 12)) (I186_255 121 (ma 0)).toNatClampNeg v200_258) ∧ PX G A s.heap (ch S I186_255 J186_256 zz9 (qJ S)) H locs := ⟨_, rfl, hw⟩
                have c201 := eq201_259
                exact hret _ _ _ _ _ ⟨_, _, _, rfl, (FrM.tr hF (h186_253.1.m)), h186_253.2, (FrQ.ez eq201_259 (FrQ.up (j := 12) (by decide) (by decide) hY)), Or.inr ⟨lm_inc c201 hr12 (FrM.rb (FrM.tr hF (h186_253.1.m)) (ma 0)) h198 t200, by omega⟩, by rw [row_keep hM c201 (i := 18) (by decide) (by decide) (by decide)]; exact hms1⟩ hw dX11_readLine_202
              · have h179_250 : ¬ ((Ic159 104 (ma 0) : Int32).toInt = 0) := h179_250
                refine lv_if_eq (tgt := 189) hx hb dX11_readLine_182 (by decide) (fun c182_260 => ?_) (fun c182_260 => absurd c182_260 (by decide))
                refine lv_aload_n hx hb dX11_readLine_189 rfl (lv_at hl 0 rfl) ?_
                have hbb := congrArg Int32.toInt (FrM.rb hF (ma 0))
                refine gf_X11_61 (b := (ma 12)) X hw hM.1 (mr_12 hM) dX11_readLine_190 ?_
                refine lv_aload_n hx hb dX11_readLine_193 rfl (lv_at hl 0 rfl) ?_
                refine gf_X11_149 (v := Ic159 121 (ma 0)) X hw hM.1 rfl dX11_readLine_194 ?_
                refine lv_dup2_11 hx hb dX11_readLine_197 rfl rfl ?_
                refine q_ldI X hw (mk_12 hM) (vin (mn_12 hM) (by omega) (by omega)) dX11_readLine_198 ?_
                refine lv_topi (fun v198_261 e198_261 => ?_)
                have e198_261 : v198_261 = qc159 (ma 12) ((Ic159 121 (ma 0)).toNatClampNeg) := e198_261
                have h198 : v198_261 = qc159 (ma 12) ((Ic159 121 (ma 0) : Int32)).toNatClampNeg := e198_261
                have g198 : v198_261.toInt = (qI S (ma 12) (pI S 121 (ma 0)).toNatClampNeg).toInt := by rw [h198, hr12, FrM.rb hF (ma 0)]
                refine lv_iconst (v := 1) hx hb dX11_readLine_199 (by decide) ?_
                refine lv_iadd hx hb dX11_readLine_200 ?_
                refine lv_topi (fun v200_262 e200_262 => ?_)
                have t200_262 := iAdd e200_262 rfl t_1 (by omega) (by omega)
                have t200 := t200_262
                refine q_stI X hw (mk_12 hM) (vin (mn_12 hM) (by omega) (by omega)) dX11_readLine_201 (fun H locs hw => ?_)
                obtain ⟨q201_263, eq201_263, hw⟩ : ∃ zz9, zz9 = va_up qc159 (ma 12) (upd (qc159 (ma 12)) (Ic159 121 (ma 0)).toNatClampNeg v200_262) ∧ PX G A s.heap (ch S Ic159 Jc159 zz9 (qJ S)) H locs := ⟨_, rfl, hw⟩
                have c201 := eq201_263
                exact hret _ _ _ _ _ ⟨_, _, _, rfl, hF, hE1, (FrQ.ez eq201_263 (FrQ.up (j := 12) (by decide) (by decide) hY)), Or.inr ⟨lm_inc c201 hr12 (FrM.rb hF (ma 0)) h198 t200, by omega⟩, by rw [row_keep hM c201 (i := 18) (by decide) (by decide) (by decide)]; exact hms1⟩ hw dX11_readLine_202
          refine lv_lload_n hx hb dX11_readLine_95 rfl (lv_at hl 0 rfl) ?_
          refine lv_ldc2 hx hb X.1.2.2.2.1 (X.1.2.2.2.2 _ wd_r21_20) dX11_readLine_96 ?_
          refine W.lcmp hx hb dX11_readLine_99 ?_
          refine lv_topi (fun v99_264 e99_264 => ?_)
          refine lv_if_ne (tgt := 110) hx hb dX11_readLine_100 (by decide) (fun c100_265 => ?_) (fun c100_265 => ?_)
          · skip
            refine lv_lload_n hx hb dX11_readLine_110 rfl (lv_at hl 0 rfl) ?_
            refine lv_ldc2 hx hb X.1.2.2.2.1 (X.1.2.2.2.2 _ wd_r21_21) dX11_readLine_111 ?_
            refine W.lcmp hx hb dX11_readLine_114 ?_
            refine lv_topi (fun v114_266 e114_266 => ?_)
            refine lv_if_ne (tgt := 125) hx hb dX11_readLine_115 (by decide) (fun c115_267 => ?_) (fun c115_267 => ?_)
            · skip
              refine lv_lload_n hx hb dX11_readLine_125 rfl (lv_at hl 0 rfl) ?_
              refine lv_ldc2 hx hb X.1.2.2.2.1 (X.1.2.2.2.2 _ wd_r21_22) dX11_readLine_126 ?_
              refine W.lcmp hx hb dX11_readLine_129 ?_
              refine lv_topi (fun v129_268 e129_268 => ?_)
              refine lv_if_ne (tgt := 140) hx hb dX11_readLine_130 (by decide) (fun c130_269 => ?_) (fun c130_269 => ?_)
              · skip
                refine lv_lload_n hx hb dX11_readLine_140 rfl (lv_at hl 0 rfl) ?_
                refine lv_ldc2 hx hb X.1.2.2.2.1 (X.1.2.2.2.2 _ wd_r21_23) dX11_readLine_141 ?_
                refine W.lcmp hx hb dX11_readLine_144 ?_
                refine lv_topi (fun v144_270 e144_270 => ?_)
                refine lv_if_ne (tgt := 155) hx hb dX11_readLine_145 (by decide) (fun c145_271 => ?_) (fun c145_271 => ?_)
                · skip
                  refine lv_aload_n hx hb dX11_readLine_155 rfl (lv_at hl 1 rfl) ?_
                  refine k_Vv (n := 0) X hw (rcvk (ci := 11) X hw hM.1 (fun _ _ _ _ _ _ _ => ⟨_, rfl⟩) rfl) (c_X11_readMiss l G _ ma hM h92_206.2 (FrM.rbb (FrM.tr (FrM.tr FrM.rf (h75_199.1.m)) (h92_206.1.m)) hrb) hms) wd_r23_14 wd_r23_15 wd_r23_16 wd_r1_5 wd_r23_17 ⟨by decide, by decide, by decide +kernel⟩ rfl rfl ⟨Nat.le_of_ble_eq_true rfl, Nat.le_of_ble_eq_true rfl⟩ rfl rfl hl.1 (Nat.le_of_ble_eq_true rfl) dX11_readLine_156 ⟨Nat.le_of_ble_eq_true rfl, Nat.le_of_ble_eq_true rfl⟩ (fun S156_273 H locs h156_272 hw => ?_)
                  obtain ⟨I156_274, J156_275, q156_276, rfl, h156_272⟩ := h156_272
                  have hw : PX G A s.heap (ch S I156_274 J156_275 q156_276 (qJ S)) H locs := hw
                  have hr12 : q156_276 (ma 12) = qI S (ma 12) := FrQ.at hM h156_272.2.2.1 (by decide) (by decide)
                  have hms1 := h156_272.2.2.2
                  exact lp159 I156_274 J156_275 q156_276  (FrM.tr (FrM.tr (FrM.tr FrM.rf (h75_199.1.m)) (h92_206.1.m)) h156_272.1) h156_272.2.1 (FrQ.tr FrQ.rf (FrQ.lo (by decide) h156_272.2.2.1)) hr12 hms1 _ _ _ hw (lv_sub hl [1] rfl)
                · have D145_271 := lcn_ne e144_270 c145_271
                  refine lv_aload_n hx hb dX11_readLine_148 rfl (lv_at hl 1 rfl) ?_
                  refine k_Vv (n := 0) X hw (rcvk (ci := 11) X hw hM.1 (fun _ _ _ _ _ _ _ => ⟨_, rfl⟩) rfl) (c_X11_readLand l G _ ma hM h92_206.2 (FrM.rbb (FrM.tr (FrM.tr FrM.rf (h75_199.1.m)) (h92_206.1.m)) hrb) hms) wd_r23_10 wd_r23_11 wd_r23_12 wd_r1_5 wd_r23_13 ⟨by decide, by decide, by decide +kernel⟩ rfl rfl ⟨Nat.le_of_ble_eq_true rfl, Nat.le_of_ble_eq_true rfl⟩ rfl rfl hl.1 (Nat.le_of_ble_eq_true rfl) dX11_readLine_149 ⟨Nat.le_of_ble_eq_true rfl, Nat.le_of_ble_eq_true rfl⟩ (fun S149_278 H locs h149_277 hw => ?_)
                  obtain ⟨I149_279, J149_280, q149_281, rfl, h149_277⟩ := h149_277
                  have hw : PX G A s.heap (ch S I149_279 J149_280 q149_281 (qJ S)) H locs := hw
                  have hr12 : q149_281 (ma 12) = qI S (ma 12) := FrQ.at hM h149_277.2.2.1 (by decide) (by decide)
                  have hms1 := h149_277.2.2.2
                  refine lv_goto (tgt := 159) hx hb dX11_readLine_152 (by decide) ?_
                  exact lp159 I149_279 J149_280 q149_281  (FrM.tr (FrM.tr (FrM.tr FrM.rf (h75_199.1.m)) (h92_206.1.m)) h149_277.1) h149_277.2.1 (FrQ.tr FrQ.rf (FrQ.lo (by decide) h149_277.2.2.1)) hr12 hms1 _ _ _ hw (lv_sub hl [1] rfl)
              · have D130_269 := lcn_ne e129_268 c130_269
                refine lv_aload_n hx hb dX11_readLine_133 rfl (lv_at hl 1 rfl) ?_
                refine k_Vv (n := 0) X hw (rcvk (ci := 11) X hw hM.1 (fun _ _ _ _ _ _ _ => ⟨_, rfl⟩) rfl) (c_X11_readLee l G _ ma hM h92_206.2 (FrM.rbb (FrM.tr (FrM.tr FrM.rf (h75_199.1.m)) (h92_206.1.m)) hrb) hms) wd_r23_6 wd_r23_7 wd_r23_8 wd_r1_5 wd_r23_9 ⟨by decide, by decide, by decide +kernel⟩ rfl rfl ⟨Nat.le_of_ble_eq_true rfl, Nat.le_of_ble_eq_true rfl⟩ rfl rfl hl.1 (Nat.le_of_ble_eq_true rfl) dX11_readLine_134 ⟨Nat.le_of_ble_eq_true rfl, Nat.le_of_ble_eq_true rfl⟩ (fun S134_283 H locs h134_282 hw => ?_)
                obtain ⟨I134_284, J134_285, q134_286, rfl, h134_282⟩ := h134_282
                have hw : PX G A s.heap (ch S I134_284 J134_285 q134_286 (qJ S)) H locs := hw
                have hr12 : q134_286 (ma 12) = qI S (ma 12) := FrQ.at hM h134_282.2.2.1 (by decide) (by decide)
                have hms1 := h134_282.2.2.2
                refine lv_goto (tgt := 159) hx hb dX11_readLine_137 (by decide) ?_
                exact lp159 I134_284 J134_285 q134_286  (FrM.tr (FrM.tr (FrM.tr FrM.rf (h75_199.1.m)) (h92_206.1.m)) h134_282.1) h134_282.2.1 (FrQ.tr FrQ.rf (FrQ.lo (by decide) h134_282.2.2.1)) hr12 hms1 _ _ _ hw (lv_sub hl [1] rfl)
            · have D115_267 := lcn_ne e114_266 c115_267
              refine lv_aload_n hx hb dX11_readLine_118 rfl (lv_at hl 1 rfl) ?_
              refine k_Vv (n := 0) X hw (rcvk (ci := 11) X hw hM.1 (fun _ _ _ _ _ _ _ => ⟨_, rfl⟩) rfl) (c_X11_readStream l G _ ma hM h92_206.2 (FrM.rbb (FrM.tr (FrM.tr FrM.rf (h75_199.1.m)) (h92_206.1.m)) hrb) hms) wd_r23_2 wd_r23_3 wd_r23_4 wd_r1_5 wd_r23_5 ⟨by decide, by decide, by decide +kernel⟩ rfl rfl ⟨Nat.le_of_ble_eq_true rfl, Nat.le_of_ble_eq_true rfl⟩ rfl rfl hl.1 (Nat.le_of_ble_eq_true rfl) dX11_readLine_119 ⟨Nat.le_of_ble_eq_true rfl, Nat.le_of_ble_eq_true rfl⟩ (fun S119_288 H locs h119_287 hw => ?_)
              obtain ⟨I119_289, J119_290, q119_291, rfl, h119_287⟩ := h119_287
              have hw : PX G A s.heap (ch S I119_289 J119_290 q119_291 (qJ S)) H locs := hw
              have hr12 : q119_291 (ma 12) = qI S (ma 12) := FrQ.at hM h119_287.2.2.1 (by decide) (by decide)
              have hms1 := h119_287.2.2.2
              refine lv_goto (tgt := 159) hx hb dX11_readLine_122 (by decide) ?_
              exact lp159 I119_289 J119_290 q119_291  (FrM.tr (FrM.tr (FrM.tr FrM.rf (h75_199.1.m)) (h92_206.1.m)) h119_287.1) h119_287.2.1 (FrQ.tr FrQ.rf (FrQ.lo (by decide) h119_287.2.2.1)) hr12 hms1 _ _ _ hw (lv_sub hl [1] rfl)
          · have D100_265 := lcn_ne e99_264 c100_265
            refine lv_aload_n hx hb dX11_readLine_103 rfl (lv_at hl 1 rfl) ?_
            refine k_Vv (n := 0) X hw (rcvk (ci := 11) X hw hM.1 (fun _ _ _ _ _ _ _ => ⟨_, rfl⟩) rfl) (c_X11_readWind l G _ ma hM h92_206.2 (FrM.rbb (FrM.tr (FrM.tr FrM.rf (h75_199.1.m)) (h92_206.1.m)) hrb) hms) wd_r22_13 wd_r22_14 wd_r22_15 wd_r1_5 wd_r22_16 ⟨by decide, by decide, by decide +kernel⟩ rfl rfl ⟨Nat.le_of_ble_eq_true rfl, Nat.le_of_ble_eq_true rfl⟩ rfl rfl hl.1 (Nat.le_of_ble_eq_true rfl) dX11_readLine_104 ⟨Nat.le_of_ble_eq_true rfl, Nat.le_of_ble_eq_true rfl⟩ (fun S104_293 H locs h104_292 hw => ?_)
            obtain ⟨I104_294, J104_295, q104_296, rfl, h104_292⟩ := h104_292
            have hw : PX G A s.heap (ch S I104_294 J104_295 q104_296 (qJ S)) H locs := hw
            have hr12 : q104_296 (ma 12) = qI S (ma 12) := FrQ.at hM h104_292.2.2.1 (by decide) (by decide)
            have hms1 := h104_292.2.2.2
            refine lv_goto (tgt := 159) hx hb dX11_readLine_107 (by decide) ?_
            exact lp159 I104_294 J104_295 q104_296  (FrM.tr (FrM.tr (FrM.tr FrM.rf (h75_199.1.m)) (h92_206.1.m)) h104_292.1) h104_292.2.1 (FrQ.tr FrQ.rf (FrQ.lo (by decide) h104_292.2.2.1)) hr12 hms1 _ _ _ hw (lv_sub hl [1] rfl)
        · have h79_203 : ¬ ((I75_201 104 (ma 0) : Int32).toInt = 0) := h79_203
          refine lv_if_ne (tgt := 86) hx hb dX11_readLine_82 (by decide) (fun c82_297 => absurd c82_297 (by decide)) (fun c82_297 => ?_)
          exact hret _ _ _ _ _ ⟨_, _, _, rfl, (FrM.tr FrM.rf (h75_199.1.m)), (FrF.e h75_199.1 hE), FrQ.rf, Or.inl (by omega), hms⟩ hw dX11_readLine_85
  refine lv_aload_n hx hb dX11_readLine_0 rfl (lv_at hl 0 rfl) ?_
  refine lv_ldc2 hx hb X.1.2.2.2.1 (X.1.2.2.2.2 _ wd_r21_20) dX11_readLine_1 ?_
  refine k_Vi (n := 1) X hw (rcvk (ci := 11) X hw hM.1 (fun _ _ _ _ _ _ _ => ⟨_, rfl⟩) rfl) (c_X11_isWord l G _ ma 2003398244 hM) wd_r22_1 wd_r22_2 wd_r22_3 wd_r1_5 wd_r22_4 ⟨by decide, by decide, by decide +kernel⟩ rfl rfl ⟨Nat.le_of_ble_eq_true rfl, Nat.le_of_ble_eq_true rfl⟩ rfl rfl hl.1 (Nat.le_of_ble_eq_true rfl) dX11_readLine_4 ⟨Nat.le_of_ble_eq_true rfl, Nat.le_of_ble_eq_true rfl⟩ (fun r4_298 S4_300 H locs h4_299 hw => ?_)
  rcases h4_299 with ⟨rfl, rfl, h4_299⟩ | ⟨rfl, rfl, h4_299⟩
  · have h4_299 := h4_299
    refine lv_if_ne (tgt := 50) hx hb dX11_readLine_7 (by decide) (fun c7_301 => ?_) (fun c7_301 => absurd c7_301 (by decide))
    refine lv_iconst (v := 1) hx hb dX11_readLine_50 (by decide) ?_
    refine lv_goto (tgt := 55) hx hb dX11_readLine_51 (by decide) ?_
    refine lv_istore_n (lv' := [(1, .int 1), (0, .ref (ma 0))]) hx hb dX11_readLine_55 rfl hl (by decide) rfl (fun ls hl => ?_)
    exact lp56  1  _ _ _ hw (lv_sub hl [1, 0] rfl)
  · have h4_299 := h4_299
    refine lv_if_ne (tgt := 50) hx hb dX11_readLine_7 (by decide) (fun c7_302 => absurd c7_302 (by decide)) (fun c7_302 => ?_)
    refine lv_aload_n hx hb dX11_readLine_10 rfl (lv_at hl 0 rfl) ?_
    refine lv_ldc2 hx hb X.1.2.2.2.1 (X.1.2.2.2.2 _ wd_r21_21) dX11_readLine_11 ?_
    refine k_Vi (n := 1) X hw (rcvk (ci := 11) X hw hM.1 (fun _ _ _ _ _ _ _ => ⟨_, rfl⟩) rfl) (c_X11_isWord l G _ ma 126943972647277 hM) wd_r22_1 wd_r22_2 wd_r22_3 wd_r1_5 wd_r22_4 ⟨by decide, by decide, by decide +kernel⟩ rfl rfl ⟨Nat.le_of_ble_eq_true rfl, Nat.le_of_ble_eq_true rfl⟩ rfl rfl hl.1 (Nat.le_of_ble_eq_true rfl) dX11_readLine_14 ⟨Nat.le_of_ble_eq_true rfl, Nat.le_of_ble_eq_true rfl⟩ (fun r14_303 S14_305 H locs h14_304 hw => ?_)
    rcases h14_304 with ⟨rfl, rfl, h14_304⟩ | ⟨rfl, rfl, h14_304⟩
    · have h14_304 := h14_304
      refine lv_if_ne (tgt := 50) hx hb dX11_readLine_17 (by decide) (fun c17_306 => ?_) (fun c17_306 => absurd c17_306 (by decide))
      refine lv_iconst (v := 1) hx hb dX11_readLine_50 (by decide) ?_
      refine lv_goto (tgt := 55) hx hb dX11_readLine_51 (by decide) ?_
      refine lv_istore_n (lv' := [(1, .int 1), (0, .ref (ma 0))]) hx hb dX11_readLine_55 rfl hl (by decide) rfl (fun ls hl => ?_)
      exact lp56  1  _ _ _ hw (lv_sub hl [1, 0] rfl)
    · have h14_304 := h14_304
      refine lv_if_ne (tgt := 50) hx hb dX11_readLine_17 (by decide) (fun c17_307 => absurd c17_307 (by decide)) (fun c17_307 => ?_)
      refine lv_aload_n hx hb dX11_readLine_20 rfl (lv_at hl 0 rfl) ?_
      refine lv_ldc2 hx hb X.1.2.2.2.1 (X.1.2.2.2.2 _ wd_r21_22) dX11_readLine_21 ?_
      refine k_Vi (n := 1) X hw (rcvk (ci := 11) X hw hM.1 (fun _ _ _ _ _ _ _ => ⟨_, rfl⟩) rfl) (c_X11_isWord l G _ ma 7103845 hM) wd_r22_1 wd_r22_2 wd_r22_3 wd_r1_5 wd_r22_4 ⟨by decide, by decide, by decide +kernel⟩ rfl rfl ⟨Nat.le_of_ble_eq_true rfl, Nat.le_of_ble_eq_true rfl⟩ rfl rfl hl.1 (Nat.le_of_ble_eq_true rfl) dX11_readLine_24 ⟨Nat.le_of_ble_eq_true rfl, Nat.le_of_ble_eq_true rfl⟩ (fun r24_308 S24_310 H locs h24_309 hw => ?_)
      rcases h24_309 with ⟨rfl, rfl, h24_309⟩ | ⟨rfl, rfl, h24_309⟩
      · have h24_309 := h24_309
        refine lv_if_ne (tgt := 50) hx hb dX11_readLine_27 (by decide) (fun c27_311 => ?_) (fun c27_311 => absurd c27_311 (by decide))
        refine lv_iconst (v := 1) hx hb dX11_readLine_50 (by decide) ?_
        refine lv_goto (tgt := 55) hx hb dX11_readLine_51 (by decide) ?_
        refine lv_istore_n (lv' := [(1, .int 1), (0, .ref (ma 0))]) hx hb dX11_readLine_55 rfl hl (by decide) rfl (fun ls hl => ?_)
        exact lp56  1  _ _ _ hw (lv_sub hl [1, 0] rfl)
      · have h24_309 := h24_309
        refine lv_if_ne (tgt := 50) hx hb dX11_readLine_27 (by decide) (fun c27_312 => absurd c27_312 (by decide)) (fun c27_312 => ?_)
        refine lv_aload_n hx hb dX11_readLine_30 rfl (lv_at hl 0 rfl) ?_
        refine lv_ldc2 hx hb X.1.2.2.2.1 (X.1.2.2.2.2 _ wd_r21_23) dX11_readLine_31 ?_
        refine k_Vi (n := 1) X hw (rcvk (ci := 11) X hw hM.1 (fun _ _ _ _ _ _ _ => ⟨_, rfl⟩) rfl) (c_X11_isWord l G _ ma 1818324580 hM) wd_r22_1 wd_r22_2 wd_r22_3 wd_r1_5 wd_r22_4 ⟨by decide, by decide, by decide +kernel⟩ rfl rfl ⟨Nat.le_of_ble_eq_true rfl, Nat.le_of_ble_eq_true rfl⟩ rfl rfl hl.1 (Nat.le_of_ble_eq_true rfl) dX11_readLine_34 ⟨Nat.le_of_ble_eq_true rfl, Nat.le_of_ble_eq_true rfl⟩ (fun r34_313 S34_315 H locs h34_314 hw => ?_)
        rcases h34_314 with ⟨rfl, rfl, h34_314⟩ | ⟨rfl, rfl, h34_314⟩
        · have h34_314 := h34_314
          refine lv_if_ne (tgt := 50) hx hb dX11_readLine_37 (by decide) (fun c37_316 => ?_) (fun c37_316 => absurd c37_316 (by decide))
          refine lv_iconst (v := 1) hx hb dX11_readLine_50 (by decide) ?_
          refine lv_goto (tgt := 55) hx hb dX11_readLine_51 (by decide) ?_
          refine lv_istore_n (lv' := [(1, .int 1), (0, .ref (ma 0))]) hx hb dX11_readLine_55 rfl hl (by decide) rfl (fun ls hl => ?_)
          exact lp56  1  _ _ _ hw (lv_sub hl [1, 0] rfl)
        · have h34_314 := h34_314
          refine lv_if_ne (tgt := 50) hx hb dX11_readLine_37 (by decide) (fun c37_317 => absurd c37_317 (by decide)) (fun c37_317 => ?_)
          refine lv_aload_n hx hb dX11_readLine_40 rfl (lv_at hl 0 rfl) ?_
          refine lv_ldc2 hx hb X.1.2.2.2.1 (X.1.2.2.2.2 _ wd_r22_0) dX11_readLine_41 ?_
          refine k_Vi (n := 1) X hw (rcvk (ci := 11) X hw hM.1 (fun _ _ _ _ _ _ _ => ⟨_, rfl⟩) rfl) (c_X11_isWord l G _ ma 1835627379 hM) wd_r22_1 wd_r22_2 wd_r22_3 wd_r1_5 wd_r22_4 ⟨by decide, by decide, by decide +kernel⟩ rfl rfl ⟨Nat.le_of_ble_eq_true rfl, Nat.le_of_ble_eq_true rfl⟩ rfl rfl hl.1 (Nat.le_of_ble_eq_true rfl) dX11_readLine_44 ⟨Nat.le_of_ble_eq_true rfl, Nat.le_of_ble_eq_true rfl⟩ (fun r44_318 S44_320 H locs h44_319 hw => ?_)
          rcases h44_319 with ⟨rfl, rfl, h44_319⟩ | ⟨rfl, rfl, h44_319⟩
          · have h44_319 := h44_319
            refine lv_if_eq (tgt := 54) hx hb dX11_readLine_47 (by decide) (fun c47_321 => absurd c47_321 (by decide)) (fun c47_321 => ?_)
            refine lv_iconst (v := 1) hx hb dX11_readLine_50 (by decide) ?_
            refine lv_goto (tgt := 55) hx hb dX11_readLine_51 (by decide) ?_
            refine lv_istore_n (lv' := [(1, .int 1), (0, .ref (ma 0))]) hx hb dX11_readLine_55 rfl hl (by decide) rfl (fun ls hl => ?_)
            exact lp56  1  _ _ _ hw (lv_sub hl [1, 0] rfl)
          · have h44_319 := h44_319
            refine lv_if_eq (tgt := 54) hx hb dX11_readLine_47 (by decide) (fun c47_322 => ?_) (fun c47_322 => absurd c47_322 (by decide))
            refine lv_iconst (v := 0) hx hb dX11_readLine_54 (by decide) ?_
            refine lv_istore_n (lv' := [(1, .int 0), (0, .ref (ma 0))]) hx hb dX11_readLine_55 rfl hl (by decide) rfl (fun ls hl => ?_)
            exact lp56  0  _ _ _ hw (lv_sub hl [1, 0] rfl)
set_option maxHeartbeats 4000000 in
set_option maxRecDepth 100000 in
theorem c_X11_clear (l : Launch) (G : Gh) (S : Pl) (ma : Nat → Nat) (b : Int32) (hM : shMod S ma) (hb0 : 0 ≤ b.toInt ∧ b.toInt ≤ 1) (hms : MsOK (qI S (ma 18))) : MtV l yX11_clear cX11_clear 3 none (Rm 0 0 0) G [.ref (ma 0), .int b] S (fun (S' : Pl) => ∃ q', ch S (pI S) (pJ S) q' (qJ S) = S' ∧ FrQ 12 ma (qI S) q' ∧ (q' (ma 12) b.toNatClampNeg).toInt = 0 ∧ MsOK (q' (ma 18))) 0 0 := by
  refine MtV.of (by decide) (Nat.le_of_ble_eq_true rfl) ?_
  intro p e s m args below meth c Q A X hw hin hret ls hl
  have hx := X.1.1
  have hb := X.1.2.1
  have hl : lv_has ls 3 [(0, .ref (ma 0)), (1, .int b)] := hl
  refine lv_aload_n hx hb dX11_clear_0 rfl (lv_at hl 0 rfl) ?_
  refine gf_X11_61 (b := (ma 12)) X hw hM.1 (mr_12 hM) dX11_clear_1 ?_
  refine lv_iload_n hx hb dX11_clear_4 rfl (lv_at hl 1 rfl) ?_
  refine lv_iconst (v := 0) hx hb dX11_clear_5 (by decide) ?_
  refine q_stI X hw (mk_12 hM) (vin (mn_12 hM) (by omega) (by omega)) dX11_clear_6 (fun H locs hw => ?_)
  obtain ⟨q6_1, eq6_1, hw⟩ : ∃ zz9, zz9 = va_up (qI S) (ma 12) (upd ((qI S) (ma 12)) b.toNatClampNeg 0) ∧ PX G A s.heap (ch S (pI S) (pJ S) zz9 (qJ S)) H locs := ⟨_, rfl, hw⟩
  have c6 := eq6_1
  have h12 : (q6_1 (ma 12) b.toNatClampNeg).toInt = 0 := by rw [c6, vu_s, pk_us]; decide
  have hms1 : MsOK (q6_1 (ma 18)) := by rw [row_keep hM c6 (i := 18) (by decide) (by decide) (by decide)]; exact hms
  refine lv_iconst (v := 0) hx hb dX11_clear_7 (by decide) ?_
  refine lv_istore_n (lv' := [(2, .int 0), (0, .ref (ma 0)), (1, .int b)]) hx hb dX11_clear_8 rfl hl (by decide) rfl (fun ls hl => ?_)
  have lp9 : ∀ (N9 : Nat) (q9 : Nat → Nat → Int32) (k : Int32), (FrQ 12 ma (qI S) q9) → ((q9 (ma 12) b.toNatClampNeg).toInt = 0) → (0 ≤ k.toInt ∧ k.toInt ≤ 72) → (MsOK (q9 (ma 18))) → (72 - k.toInt).toNat < N9 → ∀ (H : Heap) (locs : List Loc) (ls : Array Slot), PX G A s.heap (ch S (pI S) (pJ S) q9 (qJ S)) H locs → lv_has ls 3 [(2, .int k), (0, .ref (ma 0)), (1, .int b)] → W p l e (Rm 0 0 0) s m args below meth c H locs 0 0 Q (F0 m 9 ls []) := by
    intro N9
    induction N9 with
    | zero => intro q9 k hY h12 hi hms1 hm; exact absurd hm (Nat.not_lt_zero _)
    | succ N9 ih9 =>
      intro q9 k hY h12 hi hms1 hm H locs ls hw hl
      refine lv_iload_n hx hb dX11_clear_9 rfl (lv_at hl 0 rfl) ?_
      refine lv_bipush (v := 72) hx hb dX11_clear_10 (by decide) ?_
      refine lv_icmp_ge (tgt := 34) hx hb dX11_clear_12 (by decide) (fun c12_2 => ?_) (fun c12_2 => ?_)
      · have D12_2 := iLe c12_2 t_72 rfl
        refine lv_iconst (v := 0) hx hb dX11_clear_34 (by decide) ?_
        refine lv_istore_n (lv' := [(2, .int 0), (0, .ref (ma 0)), (1, .int b)]) hx hb dX11_clear_35 rfl hl (by decide) rfl (fun ls hl => ?_)
        have lp36 : ∀ (N9 : Nat) (q36 : Nat → Nat → Int32) (k : Int32), (FrQ 12 ma (qI S) q36) → ((q36 (ma 12) b.toNatClampNeg).toInt = 0) → (0 ≤ k.toInt ∧ k.toInt ≤ 288) → (MsOK (q36 (ma 18))) → (288 - k.toInt).toNat < N9 → ∀ (H : Heap) (locs : List Loc) (ls : Array Slot), PX G A s.heap (ch S (pI S) (pJ S) q36 (qJ S)) H locs → lv_has ls 3 [(2, .int k), (0, .ref (ma 0)), (1, .int b)] → W p l e (Rm 0 0 0) s m args below meth c H locs 0 0 Q (F0 m 36 ls []) := by
          intro N9
          induction N9 with
          | zero => intro q36 k hY h12 hi hms1 hm; exact absurd hm (Nat.not_lt_zero _)
          | succ N9 ih36 =>
            intro q36 k hY h12 hi hms1 hm H locs ls hw hl
            refine lv_iload_n hx hb dX11_clear_36 rfl (lv_at hl 0 rfl) ?_
            refine lv_sipush (v := 288) hx hb dX11_clear_37 (by decide) ?_
            refine lv_icmp_ge (tgt := 63) hx hb dX11_clear_40 (by decide) (fun c40_3 => ?_) (fun c40_3 => ?_)
            · have D40_3 := iLe c40_3 t_288 rfl
              refine lv_iconst (v := 0) hx hb dX11_clear_63 (by decide) ?_
              refine lv_istore_n (lv' := [(2, .int 0), (0, .ref (ma 0)), (1, .int b)]) hx hb dX11_clear_64 rfl hl (by decide) rfl (fun ls hl => ?_)
              have lp65 : ∀ (N9 : Nat) (q65 : Nat → Nat → Int32) (k : Int32), (FrQ 12 ma (qI S) q65) → ((q65 (ma 12) b.toNatClampNeg).toInt = 0) → (0 ≤ k.toInt ∧ k.toInt ≤ 4) → (MsOK (q65 (ma 18))) → (4 - k.toInt).toNat < N9 → ∀ (H : Heap) (locs : List Loc) (ls : Array Slot), PX G A s.heap (ch S (pI S) (pJ S) q65 (qJ S)) H locs → lv_has ls 3 [(2, .int k), (0, .ref (ma 0)), (1, .int b)] → W p l e (Rm 0 0 0) s m args below meth c H locs 0 0 Q (F0 m 65 ls []) := by
                intro N9
                induction N9 with
                | zero => intro q65 k hY h12 hi hms1 hm; exact absurd hm (Nat.not_lt_zero _)
                | succ N9 ih65 =>
                  intro q65 k hY h12 hi hms1 hm H locs ls hw hl
                  refine lv_iload_n hx hb dX11_clear_65 rfl (lv_at hl 0 rfl) ?_
                  refine lv_iconst (v := 4) hx hb dX11_clear_66 (by decide) ?_
                  refine lv_icmp_ge (tgt := 98) hx hb dX11_clear_67 (by decide) (fun c67_4 => ?_) (fun c67_4 => ?_)
                  · have D67_4 := iLe c67_4 t_4 rfl
                    refine lv_iconst (v := 0) hx hb dX11_clear_98 (by decide) ?_
                    refine lv_istore_n (lv' := [(2, .int 0), (0, .ref (ma 0)), (1, .int b)]) hx hb dX11_clear_99 rfl hl (by decide) rfl (fun ls hl => ?_)
                    have lp100 : ∀ (N9 : Nat) (q100 : Nat → Nat → Int32) (k : Int32), (FrQ 12 ma (qI S) q100) → ((q100 (ma 12) b.toNatClampNeg).toInt = 0) → (0 ≤ k.toInt ∧ k.toInt ≤ 42) → (MsOK (q100 (ma 18))) → (42 - k.toInt).toNat < N9 → ∀ (H : Heap) (locs : List Loc) (ls : Array Slot), PX G A s.heap (ch S (pI S) (pJ S) q100 (qJ S)) H locs → lv_has ls 3 [(2, .int k), (0, .ref (ma 0)), (1, .int b)] → W p l e (Rm 0 0 0) s m args below meth c H locs 0 0 Q (F0 m 100 ls []) := by
                      intro N9
                      induction N9 with
                      | zero => intro q100 k hY h12 hi hms1 hm; exact absurd hm (Nat.not_lt_zero _)
                      | succ N9 ih100 =>
                        intro q100 k hY h12 hi hms1 hm H locs ls hw hl
                        refine lv_iload_n hx hb dX11_clear_100 rfl (lv_at hl 0 rfl) ?_
                        refine lv_bipush (v := 42) hx hb dX11_clear_101 (by decide) ?_
                        refine lv_icmp_ge (tgt := 125) hx hb dX11_clear_103 (by decide) (fun c103_5 => ?_) (fun c103_5 => ?_)
                        · have D103_5 := iLe c103_5 t_42 rfl
                          refine lv_iconst (v := 0) hx hb dX11_clear_125 (by decide) ?_
                          refine lv_istore_n (lv' := [(2, .int 0), (0, .ref (ma 0)), (1, .int b)]) hx hb dX11_clear_126 rfl hl (by decide) rfl (fun ls hl => ?_)
                          have lp127 : ∀ (N9 : Nat) (q127 : Nat → Nat → Int32) (k : Int32), (FrQ 12 ma (qI S) q127) → ((q127 (ma 12) b.toNatClampNeg).toInt = 0) → (0 ≤ k.toInt ∧ k.toInt ≤ 64) → (MsOK (q127 (ma 18))) → (64 - k.toInt).toNat < N9 → ∀ (H : Heap) (locs : List Loc) (ls : Array Slot), PX G A s.heap (ch S (pI S) (pJ S) q127 (qJ S)) H locs → lv_has ls 3 [(2, .int k), (0, .ref (ma 0)), (1, .int b)] → W p l e (Rm 0 0 0) s m args below meth c H locs 0 0 Q (F0 m 127 ls []) := by
                            intro N9
                            induction N9 with
                            | zero => intro q127 k hY h12 hi hms1 hm; exact absurd hm (Nat.not_lt_zero _)
                            | succ N9 ih127 =>
                              intro q127 k hY h12 hi hms1 hm H locs ls hw hl
                              refine lv_iload_n hx hb dX11_clear_127 rfl (lv_at hl 0 rfl) ?_
                              refine lv_bipush (v := 64) hx hb dX11_clear_128 (by decide) ?_
                              refine lv_icmp_ge (tgt := 151) hx hb dX11_clear_130 (by decide) (fun c130_6 => ?_) (fun c130_6 => ?_)
                              · have D130_6 := iLe c130_6 t_64 rfl
                                exact hret _ _ _ _ _ ⟨_, rfl, hY, h12, hms1⟩ hw dX11_clear_151
                              · have D130_6 := iNle c130_6 t_64 rfl
                                refine lv_aload_n hx hb dX11_clear_133 rfl (lv_at hl 1 rfl) ?_
                                refine gf_X11_83 (b := (ma 19)) X hw hM.1 (mr_19 hM) dX11_clear_134 ?_
                                refine lv_bipush (v := 64) hx hb dX11_clear_137 (by decide) ?_
                                refine lv_iload_n hx hb dX11_clear_139 rfl (lv_at hl 2 rfl) ?_
                                refine lv_imul hx hb dX11_clear_140 ?_
                                refine lv_topi (fun v140_7 e140_7 => ?_)
                                have t140_7 := iMul e140_7 t_64 rfl (by omega) (by omega)
                                have t140 := t140_7
                                refine lv_iload_n hx hb dX11_clear_141 rfl (lv_at hl 0 rfl) ?_
                                refine lv_iadd hx hb dX11_clear_142 ?_
                                refine lv_topi (fun v142_8 e142_8 => ?_)
                                have t142_8 := iAdd e142_8 rfl rfl (by omega) (by omega)
                                have t142 := t142_8
                                refine lv_iconst (v := 0) hx hb dX11_clear_143 (by decide) ?_
                                refine q_stZ X hw (mk_19 hM) (vin (mn_19 hM) (by omega) (by omega)) dX11_clear_144 (fun H locs hw => ?_)
                                obtain ⟨q144_9, eq144_9, hw⟩ : ∃ zz9, zz9 = va_up q127 (ma 19) (upd (q127 (ma 19)) v142_8.toNatClampNeg (vp_nar .boolean 0)) ∧ PX G A s.heap (ch S (pI S) (pJ S) zz9 (qJ S)) H locs := ⟨_, rfl, hw⟩
                                have c144 := eq144_9
                                obtain ⟨v145_10, e145_10⟩ : ∃ y : Int32, y = k + 1 := ⟨_, rfl⟩
                                have t145_10 := iAdd e145_10 rfl t_1 (by omega) (by omega)
                                have t145 := t145_10
                                refine lv_iinc (v := v145_10) (lv' := [(2, .int v145_10), (0, .ref (ma 0)), (1, .int b)]) hx hb dX11_clear_145 hl (k := 0) rfl (by rw [e145_10]; rfl) (by decide) rfl (fun ls hl => ?_)
                                refine lv_goto (tgt := 127) hx hb dX11_clear_148 (by decide) ?_
                                exact ih127 q144_9 v145_10 (FrQ.ez eq144_9 (FrQ.up (j := 19) (by decide) (by decide) hY)) (by rw [row_keep hM c144 (by decide) (by decide) (by decide)]; exact h12) (by omega) (by rw [row_keep hM c144 (i := 18) (by decide) (by decide) (by decide)]; exact hms1) (by omega) _ _ _ hw (lv_sub hl [0, 1, 2] rfl)
                          exact lp127 _ q100 0 hY h12 (by have := t_0; omega) hms1 (Nat.lt_succ_self _) _ _ _ hw (lv_sub hl [0, 1, 2] rfl)
                        · have D103_5 := iNle c103_5 t_42 rfl
                          refine lv_aload_n hx hb dX11_clear_106 rfl (lv_at hl 1 rfl) ?_
                          refine gf_X11_80 (b := (ma 18)) X hw hM.1 (mr_18 hM) dX11_clear_107 ?_
                          refine lv_bipush (v := 42) hx hb dX11_clear_110 (by decide) ?_
                          refine lv_iload_n hx hb dX11_clear_112 rfl (lv_at hl 2 rfl) ?_
                          refine lv_imul hx hb dX11_clear_113 ?_
                          refine lv_topi (fun v113_11 e113_11 => ?_)
                          have t113_11 := iMul e113_11 t_42 rfl (by omega) (by omega)
                          have t113 := t113_11
                          refine lv_iload_n hx hb dX11_clear_114 rfl (lv_at hl 0 rfl) ?_
                          refine lv_iadd hx hb dX11_clear_115 ?_
                          refine lv_topi (fun v115_12 e115_12 => ?_)
                          have t115_12 := iAdd e115_12 rfl rfl (by omega) (by omega)
                          have t115 := t115_12
                          refine lv_bipush (v := -100) hx hb dX11_clear_116 (by decide) ?_
                          refine q_stI X hw (mk_18 hM) (vin (mn_18 hM) (by omega) (by omega)) dX11_clear_118 (fun H locs hw => ?_)
                          obtain ⟨q118_13, eq118_13, hw⟩ : ∃ zz9, zz9 = va_up q100 (ma 18) (upd (q100 (ma 18)) v115_12.toNatClampNeg (-100)) ∧ PX G A s.heap (ch S (pI S) (pJ S) zz9 (qJ S)) H locs := ⟨_, rfl, hw⟩
                          have c118 := eq118_13
                          obtain ⟨v119_14, e119_14⟩ : ∃ y : Int32, y = k + 1 := ⟨_, rfl⟩
                          have t119_14 := iAdd e119_14 rfl t_1 (by omega) (by omega)
                          have t119 := t119_14
                          refine lv_iinc (v := v119_14) (lv' := [(2, .int v119_14), (0, .ref (ma 0)), (1, .int b)]) hx hb dX11_clear_119 hl (k := 0) rfl (by rw [e119_14]; rfl) (by decide) rfl (fun ls hl => ?_)
                          refine lv_goto (tgt := 100) hx hb dX11_clear_122 (by decide) ?_
                          exact ih100 q118_13 v119_14 (FrQ.ez eq118_13 (FrQ.up (j := 18) (by decide) (by decide) hY)) (by rw [row_keep hM c118 (by decide) (by decide) (by decide)]; exact h12) (by omega) (by rw [c118, vu_s]; exact MsOK_upd hms1 (Or.inl (by decide))) (by omega) _ _ _ hw (lv_sub hl [0, 1, 2] rfl)
                    exact lp100 _ q65 0 hY h12 (by have := t_0; omega) hms1 (Nat.lt_succ_self _) _ _ _ hw (lv_sub hl [0, 1, 2] rfl)
                  · have D67_4 := iNle c67_4 t_4 rfl
                    refine lv_aload_n hx hb dX11_clear_70 rfl (lv_at hl 1 rfl) ?_
                    refine gf_X11_77 (b := (ma 17)) X hw hM.1 (mr_17 hM) dX11_clear_71 ?_
                    refine lv_iconst (v := 4) hx hb dX11_clear_74 (by decide) ?_
                    refine lv_iload_n hx hb dX11_clear_75 rfl (lv_at hl 2 rfl) ?_
                    refine lv_imul hx hb dX11_clear_76 ?_
                    refine lv_topi (fun v76_15 e76_15 => ?_)
                    have t76_15 := iMul e76_15 t_4 rfl (by omega) (by omega)
                    have t76 := t76_15
                    refine lv_iload_n hx hb dX11_clear_77 rfl (lv_at hl 0 rfl) ?_
                    refine lv_iadd hx hb dX11_clear_78 ?_
                    refine lv_topi (fun v78_16 e78_16 => ?_)
                    have t78_16 := iAdd e78_16 rfl rfl (by omega) (by omega)
                    have t78 := t78_16
                    refine lv_iconst (v := 3) hx hb dX11_clear_79 (by decide) ?_
                    refine q_stI X hw (mk_17 hM) (vin (mn_17 hM) (by omega) (by omega)) dX11_clear_80 (fun H locs hw => ?_)
                    obtain ⟨q80_17, eq80_17, hw⟩ : ∃ zz9, zz9 = va_up q65 (ma 17) (upd (q65 (ma 17)) v78_16.toNatClampNeg 3) ∧ PX G A s.heap (ch S (pI S) (pJ S) zz9 (qJ S)) H locs := ⟨_, rfl, hw⟩
                    have c80 := eq80_17
                    refine lv_aload_n hx hb dX11_clear_81 rfl (lv_at hl 1 rfl) ?_
                    refine gf_X11_87 (b := (ma 20)) X hw hM.1 (mr_20 hM) dX11_clear_82 ?_
                    refine lv_iconst (v := 4) hx hb dX11_clear_85 (by decide) ?_
                    refine lv_iload_n hx hb dX11_clear_86 rfl (lv_at hl 2 rfl) ?_
                    refine lv_imul hx hb dX11_clear_87 ?_
                    refine lv_topi (fun v87_18 e87_18 => ?_)
                    have t87_18 := iMul e87_18 t_4 rfl (by omega) (by omega)
                    have t87 := t87_18
                    refine lv_iload_n hx hb dX11_clear_88 rfl (lv_at hl 0 rfl) ?_
                    refine lv_iadd hx hb dX11_clear_89 ?_
                    refine lv_topi (fun v89_19 e89_19 => ?_)
                    have t89_19 := iAdd e89_19 rfl rfl (by omega) (by omega)
                    have t89 := t89_19
                    refine lv_iconst (v := 0) hx hb dX11_clear_90 (by decide) ?_
                    refine q_stZ X hw (mk_20 hM) (vin (mn_20 hM) (by omega) (by omega)) dX11_clear_91 (fun H locs hw => ?_)
                    obtain ⟨q91_20, eq91_20, hw⟩ : ∃ zz9, zz9 = va_up q80_17 (ma 20) (upd (q80_17 (ma 20)) v89_19.toNatClampNeg (vp_nar .boolean 0)) ∧ PX G A s.heap (ch S (pI S) (pJ S) zz9 (qJ S)) H locs := ⟨_, rfl, hw⟩
                    have c91 := eq91_20
                    obtain ⟨v92_21, e92_21⟩ : ∃ y : Int32, y = k + 1 := ⟨_, rfl⟩
                    have t92_21 := iAdd e92_21 rfl t_1 (by omega) (by omega)
                    have t92 := t92_21
                    refine lv_iinc (v := v92_21) (lv' := [(2, .int v92_21), (0, .ref (ma 0)), (1, .int b)]) hx hb dX11_clear_92 hl (k := 0) rfl (by rw [e92_21]; rfl) (by decide) rfl (fun ls hl => ?_)
                    refine lv_goto (tgt := 65) hx hb dX11_clear_95 (by decide) ?_
                    exact ih65 q91_20 v92_21 (FrQ.ez eq91_20 (FrQ.up (j := 20) (by decide) (by decide) (FrQ.ez eq80_17 (FrQ.up (j := 17) (by decide) (by decide) hY)))) (by rw [row_keep hM c91 (by decide) (by decide) (by decide), row_keep hM c80 (by decide) (by decide) (by decide)]; exact h12) (by omega) (by rw [row_keep hM c91 (i := 18) (by decide) (by decide) (by decide), row_keep hM c80 (i := 18) (by decide) (by decide) (by decide)]; exact hms1) (by omega) _ _ _ hw (lv_sub hl [0, 1, 2] rfl)
              exact lp65 _ q36 0 hY h12 (by have := t_0; omega) hms1 (Nat.lt_succ_self _) _ _ _ hw (lv_sub hl [0, 1, 2] rfl)
            · have D40_3 := iNle c40_3 t_288 rfl
              refine lv_aload_n hx hb dX11_clear_43 rfl (lv_at hl 1 rfl) ?_
              refine gf_X11_71 (b := (ma 15)) X hw hM.1 (mr_15 hM) dX11_clear_44 ?_
              refine lv_sipush (v := 288) hx hb dX11_clear_47 (by decide) ?_
              refine lv_iload_n hx hb dX11_clear_50 rfl (lv_at hl 2 rfl) ?_
              refine lv_imul hx hb dX11_clear_51 ?_
              refine lv_topi (fun v51_22 e51_22 => ?_)
              have t51_22 := iMul e51_22 t_288 rfl (by omega) (by omega)
              have t51 := t51_22
              refine lv_iload_n hx hb dX11_clear_52 rfl (lv_at hl 0 rfl) ?_
              refine lv_iadd hx hb dX11_clear_53 ?_
              refine lv_topi (fun v53_23 e53_23 => ?_)
              have t53_23 := iAdd e53_23 rfl rfl (by omega) (by omega)
              have t53 := t53_23
              refine lv_bipush (v := -100) hx hb dX11_clear_54 (by decide) ?_
              refine q_stI X hw (mk_15 hM) (vin (mn_15 hM) (by omega) (by omega)) dX11_clear_56 (fun H locs hw => ?_)
              obtain ⟨q56_24, eq56_24, hw⟩ : ∃ zz9, zz9 = va_up q36 (ma 15) (upd (q36 (ma 15)) v53_23.toNatClampNeg (-100)) ∧ PX G A s.heap (ch S (pI S) (pJ S) zz9 (qJ S)) H locs := ⟨_, rfl, hw⟩
              have c56 := eq56_24
              obtain ⟨v57_25, e57_25⟩ : ∃ y : Int32, y = k + 1 := ⟨_, rfl⟩
              have t57_25 := iAdd e57_25 rfl t_1 (by omega) (by omega)
              have t57 := t57_25
              refine lv_iinc (v := v57_25) (lv' := [(2, .int v57_25), (0, .ref (ma 0)), (1, .int b)]) hx hb dX11_clear_57 hl (k := 0) rfl (by rw [e57_25]; rfl) (by decide) rfl (fun ls hl => ?_)
              refine lv_goto (tgt := 36) hx hb dX11_clear_60 (by decide) ?_
              exact ih36 q56_24 v57_25 (FrQ.ez eq56_24 (FrQ.up (j := 15) (by decide) (by decide) hY)) (by rw [row_keep hM c56 (by decide) (by decide) (by decide)]; exact h12) (by omega) (by rw [row_keep hM c56 (i := 18) (by decide) (by decide) (by decide)]; exact hms1) (by omega) _ _ _ hw (lv_sub hl [0, 1, 2] rfl)
        exact lp36 _ q9 0 hY h12 (by have := t_0; omega) hms1 (Nat.lt_succ_self _) _ _ _ hw (lv_sub hl [0, 1, 2] rfl)
      · have D12_2 := iNle c12_2 t_72 rfl
        refine lv_aload_n hx hb dX11_clear_15 rfl (lv_at hl 1 rfl) ?_
        refine gf_X11_65 (b := (ma 13)) X hw hM.1 (mr_13 hM) dX11_clear_16 ?_
        refine lv_bipush (v := 72) hx hb dX11_clear_19 (by decide) ?_
        refine lv_iload_n hx hb dX11_clear_21 rfl (lv_at hl 2 rfl) ?_
        refine lv_imul hx hb dX11_clear_22 ?_
        refine lv_topi (fun v22_26 e22_26 => ?_)
        have t22_26 := iMul e22_26 t_72 rfl (by omega) (by omega)
        have t22 := t22_26
        refine lv_iload_n hx hb dX11_clear_23 rfl (lv_at hl 0 rfl) ?_
        refine lv_iadd hx hb dX11_clear_24 ?_
        refine lv_topi (fun v24_27 e24_27 => ?_)
        have t24_27 := iAdd e24_27 rfl rfl (by omega) (by omega)
        have t24 := t24_27
        refine lv_bipush (v := -100) hx hb dX11_clear_25 (by decide) ?_
        refine q_stI X hw (mk_13 hM) (vin (mn_13 hM) (by omega) (by omega)) dX11_clear_27 (fun H locs hw => ?_)
        obtain ⟨q27_28, eq27_28, hw⟩ : ∃ zz9, zz9 = va_up q9 (ma 13) (upd (q9 (ma 13)) v24_27.toNatClampNeg (-100)) ∧ PX G A s.heap (ch S (pI S) (pJ S) zz9 (qJ S)) H locs := ⟨_, rfl, hw⟩
        have c27 := eq27_28
        obtain ⟨v28_29, e28_29⟩ : ∃ y : Int32, y = k + 1 := ⟨_, rfl⟩
        have t28_29 := iAdd e28_29 rfl t_1 (by omega) (by omega)
        have t28 := t28_29
        refine lv_iinc (v := v28_29) (lv' := [(2, .int v28_29), (0, .ref (ma 0)), (1, .int b)]) hx hb dX11_clear_28 hl (k := 0) rfl (by rw [e28_29]; rfl) (by decide) rfl (fun ls hl => ?_)
        refine lv_goto (tgt := 9) hx hb dX11_clear_31 (by decide) ?_
        exact ih9 q27_28 v28_29 (FrQ.ez eq27_28 (FrQ.up (j := 13) (by decide) (by decide) hY)) (by rw [row_keep hM c27 (by decide) (by decide) (by decide)]; exact h12) (by omega) (by rw [row_keep hM c27 (i := 18) (by decide) (by decide) (by decide)]; exact hms1) (by omega) _ _ _ hw (lv_sub hl [0, 1, 2] rfl)
  exact lp9 _ q6_1 0 (FrQ.ez eq6_1 (FrQ.up (j := 12) (by decide) (by decide) FrQ.rf)) h12 (by have := t_0; omega) hms1 (Nat.lt_succ_self _) _ _ _ hw (lv_sub hl [0, 1, 2] rfl)
