
set_option maxHeartbeats 4000000 in
set_option maxRecDepth 100000 in
theorem c_v_X11_tale (l : Launch) (G : Gh) (S : Pl) (ma : Nat → Nat) (x y z u w : Int32) (hM : shMod S ma) (hI : mInv (pI S) (qI S) ma) : MtI l yX11_tale cX11_tale 6 (some .int) (Rm 1 0 0) G [.ref (ma 0), .int x, .int y, .int z, .int u, .int w] S (fun (r : Int32) (S' : Pl) => (¬ tlC x y z u w (pI S 128 (ma 0)).toInt.toNat ∧ r = -1 ∧ S = S') ∨ (tlC x y z u w (pI S 128 (ma 0)).toInt.toNat ∧ r.toInt = (pI S 128 (ma 0)).toInt ∧ ∃ I' q', ch S I' (pJ S) q' (qJ S) = S' ∧ mInv I' q' ma ∧ (I' 128 (ma 0)).toInt = (pI S 128 (ma 0)).toInt + 1 ∧ I' 102 (ma 0) = pI S 102 (ma 0) ∧ I' 140 (ma 0) = pI S 140 (ma 0) ∧ q' (ma 40) = qI S (ma 40) ∧ (∀ j, j ≤ 23 → q' (ma j) = qI S (ma j)) ∧ I' 120 (ma 0) = pI S 120 (ma 0))) 0 0 := by
  refine MtI.of (by decide) (Nat.le_of_ble_eq_true rfl) ?_
  intro p e s m args below meth c Q A X hw hin hret ls hl
  have hx := X.1.1
  have hb := X.1.2.1
  have hl : lv_has ls 6 [(0, .ref (ma 0)), (1, .int x), (2, .int y), (3, .int z), (4, .int u), (5, .int w)] := hl
  obtain ⟨⟨b1, b2, b3, b4, b5, b6⟩, hT, hP, hC⟩ := id hI
  refine lv_iload_n hx hb dX11_tale_0 rfl (lv_at hl 1 rfl) ?_
  refine lv_if_lt (tgt := 54) hx hb dX11_tale_1 (by decide) (fun c1_1 => ?_) (fun c1_1 => ?_)
  · have D1_1 := iLt c1_1 rfl t_0
    refine lv_iconst (v := -1) hx hb dX11_tale_54 (by decide) ?_
    exact hret (-1) S _ _ _ _ (Or.inl ⟨by unfold tlC; have := t_40; omega, rfl, rfl⟩) hw rfl dX11_tale_55
  · have D1_1 := iNlt c1_1 rfl t_0
    refine lv_iload_n hx hb dX11_tale_4 rfl (lv_at hl 1 rfl) ?_
    refine lv_iconst (v := 4) hx hb dX11_tale_5 (by decide) ?_
    refine lv_icmp_ge (tgt := 54) hx hb dX11_tale_6 (by decide) (fun c6_2 => ?_) (fun c6_2 => ?_)
    · have D6_2 := iLe c6_2 t_4 rfl
      refine lv_iconst (v := -1) hx hb dX11_tale_54 (by decide) ?_
      exact hret (-1) S _ _ _ _ (Or.inl ⟨by unfold tlC; have := t_40; omega, rfl, rfl⟩) hw rfl dX11_tale_55
    · have D6_2 := iNle c6_2 t_4 rfl
      refine lv_iload_n hx hb dX11_tale_9 rfl (lv_at hl 2 rfl) ?_
      refine k_Si (n := 1) X hw (c_X11_isPoint l G _ y) wd_r29_19 wd_r29_20 wd_r1_5 wd_r29_21 ⟨by decide, by decide, by decide +kernel⟩ rfl rfl ⟨Nat.le_of_ble_eq_true rfl, Nat.le_of_ble_eq_true rfl⟩ rfl rfl hl.1 (Nat.le_of_ble_eq_true rfl) dX11_tale_10 ⟨Nat.le_of_ble_eq_true rfl, Nat.le_of_ble_eq_true rfl⟩ (fun r10_3 S10_5 H locs h10_4 hw => ?_)
      rcases h10_4 with ⟨rfl, rfl, h10_4⟩ | ⟨rfl, rfl, h10_4⟩
      · have h10_4 := h10_4
        refine lv_if_eq (tgt := 54) hx hb dX11_tale_13 (by decide) (fun c13_6 => absurd c13_6 (by decide)) (fun c13_6 => ?_)
        refine lv_iload_n hx hb dX11_tale_16 rfl (lv_at hl 3 rfl) ?_
        refine k_Si (n := 1) X hw (c_X11_isPoint l G _ z) wd_r29_19 wd_r29_20 wd_r1_5 wd_r29_21 ⟨by decide, by decide, by decide +kernel⟩ rfl rfl ⟨Nat.le_of_ble_eq_true rfl, Nat.le_of_ble_eq_true rfl⟩ rfl rfl hl.1 (Nat.le_of_ble_eq_true rfl) dX11_tale_17 ⟨Nat.le_of_ble_eq_true rfl, Nat.le_of_ble_eq_true rfl⟩ (fun r17_7 S17_9 H locs h17_8 hw => ?_)
        rcases h17_8 with ⟨rfl, rfl, h17_8⟩ | ⟨rfl, rfl, h17_8⟩
        · have h17_8 := h17_8
          refine lv_if_eq (tgt := 54) hx hb dX11_tale_20 (by decide) (fun c20_10 => absurd c20_10 (by decide)) (fun c20_10 => ?_)
          refine lv_iload hx hb dX11_tale_23 (lv_at hl 4 rfl) ?_
          refine k_Si (n := 1) X hw (c_X11_isHour l G _ u) wd_r24_20 wd_r24_21 wd_r1_5 wd_r24_22 ⟨by decide, by decide, by decide +kernel⟩ rfl rfl ⟨Nat.le_of_ble_eq_true rfl, Nat.le_of_ble_eq_true rfl⟩ rfl rfl hl.1 (Nat.le_of_ble_eq_true rfl) dX11_tale_25 ⟨Nat.le_of_ble_eq_true rfl, Nat.le_of_ble_eq_true rfl⟩ (fun r25_11 S25_13 H locs h25_12 hw => ?_)
          rcases h25_12 with ⟨rfl, rfl, h25_12⟩ | ⟨rfl, rfl, h25_12⟩
          · have h25_12 := h25_12
            refine lv_if_eq (tgt := 54) hx hb dX11_tale_28 (by decide) (fun c28_14 => absurd c28_14 (by decide)) (fun c28_14 => ?_)
            refine lv_iload hx hb dX11_tale_31 (lv_at hl 5 rfl) ?_
            refine lv_iconst (v := 1) hx hb dX11_tale_33 (by decide) ?_
            refine lv_icmp_lt (tgt := 54) hx hb dX11_tale_34 (by decide) (fun c34_15 => ?_) (fun c34_15 => ?_)
            · have D34_15 := iLt c34_15 rfl t_1
              refine lv_iconst (v := -1) hx hb dX11_tale_54 (by decide) ?_
              exact hret (-1) S _ _ _ _ (Or.inl ⟨by unfold tlC; have := t_40; omega, rfl, rfl⟩) hw rfl dX11_tale_55
            · have D34_15 := iNlt c34_15 rfl t_1
              refine lv_iload hx hb dX11_tale_37 (lv_at hl 5 rfl) ?_
              refine lv_sipush (v := 1000) hx hb dX11_tale_39 (by decide) ?_
              refine lv_icmp_gt (tgt := 54) hx hb dX11_tale_42 (by decide) (fun c42_16 => ?_) (fun c42_16 => ?_)
              · have D42_16 := iLt c42_16 t_1000 rfl
                refine lv_iconst (v := -1) hx hb dX11_tale_54 (by decide) ?_
                exact hret (-1) S _ _ _ _ (Or.inl ⟨by unfold tlC; have := t_40; omega, rfl, rfl⟩) hw rfl dX11_tale_55
              · have D42_16 := iNlt c42_16 t_1000 rfl
                refine lv_aload_n hx hb dX11_tale_45 rfl (lv_at hl 0 rfl) ?_
                refine gf_X11_224 (v := (pI S) 128 (ma 0)) X hw hM.1 rfl dX11_tale_46 ?_
                refine lv_bipush (v := 40) hx hb dX11_tale_49 (by decide) ?_
                refine lv_icmp_ne (tgt := 56) hx hb dX11_tale_51 (by decide) (fun c51_17 => ?_) (fun c51_17 => ?_)
                · have D51_17 := iNe c51_17 rfl t_40
                  refine lv_aload_n hx hb dX11_tale_56 rfl (lv_at hl 0 rfl) ?_
                  refine gf_X11_90 (b := (ma 24)) X hw hM.1 (mr_24 hM) dX11_tale_57 ?_
                  refine lv_aload_n hx hb dX11_tale_60 rfl (lv_at hl 0 rfl) ?_
                  refine gf_X11_224 (v := (pI S) 128 (ma 0)) X hw hM.1 rfl dX11_tale_61 ?_
                  refine lv_iload_n hx hb dX11_tale_64 rfl (lv_at hl 1 rfl) ?_
                  refine q_stI X hw (mk_24 hM) (vin (mn_24 hM) (by omega) (by omega)) dX11_tale_65 (fun H locs hw => ?_)
                  obtain ⟨q65_18, eq65_18, hw⟩ : ∃ zz9, zz9 = va_up (qI S) (ma 24) (upd ((qI S) (ma 24)) ((pI S) 128 (ma 0)).toNatClampNeg x) ∧ PX G A s.heap (ch S (pI S) (pJ S) zz9 (qJ S)) H locs := ⟨_, rfl, hw⟩
                  have c65 := eq65_18
                  refine lv_aload_n hx hb dX11_tale_66 rfl (lv_at hl 0 rfl) ?_
                  refine gf_X11_93 (b := (ma 25)) X hw hM.1 (mr_25 hM) dX11_tale_67 ?_
                  refine lv_aload_n hx hb dX11_tale_70 rfl (lv_at hl 0 rfl) ?_
                  refine gf_X11_224 (v := (pI S) 128 (ma 0)) X hw hM.1 rfl dX11_tale_71 ?_
                  refine lv_iload_n hx hb dX11_tale_74 rfl (lv_at hl 2 rfl) ?_
                  refine q_stI X hw (mk_25 hM) (vin (mn_25 hM) (by omega) (by omega)) dX11_tale_75 (fun H locs hw => ?_)
                  obtain ⟨q75_19, eq75_19, hw⟩ : ∃ zz9, zz9 = va_up q65_18 (ma 25) (upd (q65_18 (ma 25)) ((pI S) 128 (ma 0)).toNatClampNeg y) ∧ PX G A s.heap (ch S (pI S) (pJ S) zz9 (qJ S)) H locs := ⟨_, rfl, hw⟩
                  have c75 := eq75_19
                  refine lv_aload_n hx hb dX11_tale_76 rfl (lv_at hl 0 rfl) ?_
                  refine gf_X11_96 (b := (ma 26)) X hw hM.1 (mr_26 hM) dX11_tale_77 ?_
                  refine lv_aload_n hx hb dX11_tale_80 rfl (lv_at hl 0 rfl) ?_
                  refine gf_X11_224 (v := (pI S) 128 (ma 0)) X hw hM.1 rfl dX11_tale_81 ?_
                  refine lv_iload_n hx hb dX11_tale_84 rfl (lv_at hl 3 rfl) ?_
                  refine q_stI X hw (mk_26 hM) (vin (mn_26 hM) (by omega) (by omega)) dX11_tale_85 (fun H locs hw => ?_)
                  obtain ⟨q85_20, eq85_20, hw⟩ : ∃ zz9, zz9 = va_up q75_19 (ma 26) (upd (q75_19 (ma 26)) ((pI S) 128 (ma 0)).toNatClampNeg z) ∧ PX G A s.heap (ch S (pI S) (pJ S) zz9 (qJ S)) H locs := ⟨_, rfl, hw⟩
                  have c85 := eq85_20
                  refine lv_aload_n hx hb dX11_tale_86 rfl (lv_at hl 0 rfl) ?_
                  refine gf_X11_99 (b := (ma 27)) X hw hM.1 (mr_27 hM) dX11_tale_87 ?_
                  refine lv_aload_n hx hb dX11_tale_90 rfl (lv_at hl 0 rfl) ?_
                  refine gf_X11_224 (v := (pI S) 128 (ma 0)) X hw hM.1 rfl dX11_tale_91 ?_
                  refine lv_iload hx hb dX11_tale_94 (lv_at hl 4 rfl) ?_
                  refine q_stI X hw (mk_27 hM) (vin (mn_27 hM) (by omega) (by omega)) dX11_tale_96 (fun H locs hw => ?_)
                  obtain ⟨q96_21, eq96_21, hw⟩ : ∃ zz9, zz9 = va_up q85_20 (ma 27) (upd (q85_20 (ma 27)) ((pI S) 128 (ma 0)).toNatClampNeg u) ∧ PX G A s.heap (ch S (pI S) (pJ S) zz9 (qJ S)) H locs := ⟨_, rfl, hw⟩
                  have c96 := eq96_21
                  refine lv_aload_n hx hb dX11_tale_97 rfl (lv_at hl 0 rfl) ?_
                  refine gf_X11_102 (b := (ma 28)) X hw hM.1 (mr_28 hM) dX11_tale_98 ?_
                  refine lv_aload_n hx hb dX11_tale_101 rfl (lv_at hl 0 rfl) ?_
                  refine gf_X11_224 (v := (pI S) 128 (ma 0)) X hw hM.1 rfl dX11_tale_102 ?_
                  refine lv_iload hx hb dX11_tale_105 (lv_at hl 5 rfl) ?_
                  refine q_stI X hw (mk_28 hM) (vin (mn_28 hM) (by omega) (by omega)) dX11_tale_107 (fun H locs hw => ?_)
                  obtain ⟨q107_22, eq107_22, hw⟩ : ∃ zz9, zz9 = va_up q96_21 (ma 28) (upd (q96_21 (ma 28)) ((pI S) 128 (ma 0)).toNatClampNeg w) ∧ PX G A s.heap (ch S (pI S) (pJ S) zz9 (qJ S)) H locs := ⟨_, rfl, hw⟩
                  have c107 := eq107_22
                  refine lv_aload_n hx hb dX11_tale_108 rfl (lv_at hl 0 rfl) ?_
                  refine lv_dup hx hb dX11_tale_109 rfl ?_
                  refine gf_X11_224 (v := (pI S) 128 (ma 0)) X hw hM.1 rfl dX11_tale_110 ?_
                  refine lv_iconst (v := 1) hx hb dX11_tale_113 (by decide) ?_
                  refine lv_iadd hx hb dX11_tale_114 ?_
                  refine lv_topi (fun v114_23 e114_23 => ?_)
                  have t114_23 := iAdd e114_23 rfl t_1 (by omega) (by omega)
                  have t114 := t114_23
                  refine pf_X11_224 X hw hM.1 dX11_tale_115 (fun H locs hw => ?_)
                  have hw : PX G A s.heap (ch S (up2 (pI S) 128 (ma 0) v114_23) (pJ S) q107_22 (qJ S)) H locs := hw
                  refine lv_aload_n hx hb dX11_tale_118 rfl (lv_at hl 0 rfl) ?_
                  refine gf_X11_224 (v := v114_23) X hw hM.1 (show up2 (pI S) 128 (ma 0) v114_23 128 (ma 0) = v114_23 from up2_s) dX11_tale_119 ?_
                  refine lv_iconst (v := 1) hx hb dX11_tale_122 (by decide) ?_
                  refine lv_isub hx hb dX11_tale_123 ?_
                  refine lv_topi (fun v123_24 e123_24 => ?_)
                  have t123_24 := iSub e123_24 rfl t_1 (by omega) (by omega)
                  have t123 := t123_24
                  exact hret v123_24 (ch S (up2 (pI S) 128 (ma 0) v114_23) (pJ S) q107_22 (qJ S)) _ _ _ _ (Or.inr ⟨by unfold tlC; have := t_40; omega, by omega, _, _, rfl, mInv_tale hM hI (by assumption) t114 c65 c75 c85 c96 c107 (by omega) (by omega) (by omega) (by omega) (by omega), (by rw [show (up2 (pI S) 128 (ma 0) v114_23) 128 (ma 0) = (v114_23 : Int32) from (show up2 (pI S) 128 (ma 0) v114_23 128 (ma 0) = v114_23 from up2_s)]; omega), rfl, rfl, by rw [row_keep hM c107 (i := 40) (by decide) (by decide) (by decide), row_keep hM c96 (i := 40) (by decide) (by decide) (by decide), row_keep hM c85 (i := 40) (by decide) (by decide) (by decide), row_keep hM c75 (i := 40) (by decide) (by decide) (by decide), row_keep hM c65 (i := 40) (by decide) (by decide) (by decide)], (fun j9 h9 => by rw [row_keep hM c107 (i := j9) (by omega) (by decide) (by omega), row_keep hM c96 (i := j9) (by omega) (by decide) (by omega), row_keep hM c85 (i := j9) (by omega) (by decide) (by omega), row_keep hM c75 (i := j9) (by omega) (by decide) (by omega), row_keep hM c65 (i := j9) (by omega) (by decide) (by omega)]), rfl⟩) hw rfl dX11_tale_124
                · have D51_17 := iEq c51_17 rfl t_40
                  refine lv_iconst (v := -1) hx hb dX11_tale_54 (by decide) ?_
                  exact hret (-1) S _ _ _ _ (Or.inl ⟨by unfold tlC; have := t_40; omega, rfl, rfl⟩) hw rfl dX11_tale_55
          · have h25_12 := h25_12
            refine lv_if_eq (tgt := 54) hx hb dX11_tale_28 (by decide) (fun c28_25 => ?_) (fun c28_25 => absurd c28_25 (by decide))
            refine lv_iconst (v := -1) hx hb dX11_tale_54 (by decide) ?_
            exact hret (-1) S _ _ _ _ (Or.inl ⟨by unfold tlC; have := t_40; omega, rfl, rfl⟩) hw rfl dX11_tale_55
        · have h17_8 := h17_8
          refine lv_if_eq (tgt := 54) hx hb dX11_tale_20 (by decide) (fun c20_26 => ?_) (fun c20_26 => absurd c20_26 (by decide))
          refine lv_iconst (v := -1) hx hb dX11_tale_54 (by decide) ?_
          exact hret (-1) S _ _ _ _ (Or.inl ⟨by unfold tlC; have := t_40; omega, rfl, rfl⟩) hw rfl dX11_tale_55
      · have h10_4 := h10_4
        refine lv_if_eq (tgt := 54) hx hb dX11_tale_13 (by decide) (fun c13_27 => ?_) (fun c13_27 => absurd c13_27 (by decide))
        refine lv_iconst (v := -1) hx hb dX11_tale_54 (by decide) ?_
        exact hret (-1) S _ _ _ _ (Or.inl ⟨by unfold tlC; have := t_40; omega, rfl, rfl⟩) hw rfl dX11_tale_55
set_option maxHeartbeats 4000000 in
set_option maxRecDepth 100000 in
theorem c_v_X11_prove (l : Launch) (G : Gh) (S : Pl) (ma : Nat → Nat) (a1 a2 a3 a4 a5 a6 a7 : Int32) (hM : shMod S ma) (hI : mInv (pI S) (qI S) ma) (h59 : (pI S 140 (ma 0)).toInt < 60) (h5 : cntB (qI S (ma 40)) (pI S 140 (ma 0)).toInt.toNat ≤ 5) (g1 : 0 ≤ a1.toInt ∧ a1.toInt ≤ 72) (g6 : 0 ≤ a6.toInt ∧ a6.toInt ≤ 2) (g7 : a6.toInt ≤ 1 → 0 ≤ a7.toInt ∧ a7.toInt ≤ 20) (g8 : 0 ≤ a7.toInt ∧ a7.toInt ≤ 100) : MtI l yX11_prove cX11_prove 8 (some .int) (Rm 0 0 0) G [.ref (ma 0), .int a1, .int a2, .int a3, .int a4, .int a5, .int a6, .int a7] S (fun (r : Int32) (S' : Pl) => ∃ I' q', ch S I' (pJ S) q' (qJ S) = S' ∧ mInv I' q' ma ∧ (I' 140 (ma 0)).toInt = (pI S 140 (ma 0)).toInt + 1 ∧ I' 102 (ma 0) = pI S 102 (ma 0) ∧ I' 128 (ma 0) = pI S 128 (ma 0) ∧ q' (ma 40) = upd (qI S (ma 40)) (pI S 140 (ma 0)).toNatClampNeg 0 ∧ (∀ j, j ≤ 23 → q' (ma j) = qI S (ma j)) ∧ I' 120 (ma 0) = pI S 120 (ma 0) ∧ r.toInt = (pI S 140 (ma 0)).toInt) 0 0 := by
  refine MtI.of (by decide) (Nat.le_of_ble_eq_true rfl) ?_
  intro p e s m args below meth c Q A X hw hin hret ls hl
  have hx := X.1.1
  have hb := X.1.2.1
  have hl : lv_has ls 8 [(0, .ref (ma 0)), (1, .int a1), (2, .int a2), (3, .int a3), (4, .int a4), (5, .int a5), (6, .int a6), (7, .int a7)] := hl
  obtain ⟨⟨b1, b2, b3, b4, b5, b6⟩, hT, hP, hC⟩ := id hI
  refine lv_aload_n hx hb dX11_prove_0 rfl (lv_at hl 0 rfl) ?_
  refine gf_X11_105 (b := (ma 33)) X hw hM.1 (mr_33 hM) dX11_prove_1 ?_
  refine lv_aload_n hx hb dX11_prove_4 rfl (lv_at hl 0 rfl) ?_
  refine gf_X11_252 (v := (pI S) 140 (ma 0)) X hw hM.1 rfl dX11_prove_5 ?_
  refine lv_iload_n hx hb dX11_prove_8 rfl (lv_at hl 1 rfl) ?_
  refine q_stI X hw (mk_33 hM) (vin (mn_33 hM) (by omega) (by omega)) dX11_prove_9 (fun H locs hw => ?_)
  obtain ⟨q9_1, eq9_1, hw⟩ : ∃ zz9, zz9 = va_up (qI S) (ma 33) (upd ((qI S) (ma 33)) ((pI S) 140 (ma 0)).toNatClampNeg a1) ∧ PX G A s.heap (ch S (pI S) (pJ S) zz9 (qJ S)) H locs := ⟨_, rfl, hw⟩
  have c9 := eq9_1
  refine lv_aload_n hx hb dX11_prove_10 rfl (lv_at hl 0 rfl) ?_
  refine gf_X11_108 (b := (ma 34)) X hw hM.1 (mr_34 hM) dX11_prove_11 ?_
  refine lv_aload_n hx hb dX11_prove_14 rfl (lv_at hl 0 rfl) ?_
  refine gf_X11_252 (v := (pI S) 140 (ma 0)) X hw hM.1 rfl dX11_prove_15 ?_
  refine lv_iload_n hx hb dX11_prove_18 rfl (lv_at hl 2 rfl) ?_
  refine q_stI X hw (mk_34 hM) (vin (mn_34 hM) (by omega) (by omega)) dX11_prove_19 (fun H locs hw => ?_)
  obtain ⟨q19_2, eq19_2, hw⟩ : ∃ zz9, zz9 = va_up q9_1 (ma 34) (upd (q9_1 (ma 34)) ((pI S) 140 (ma 0)).toNatClampNeg a2) ∧ PX G A s.heap (ch S (pI S) (pJ S) zz9 (qJ S)) H locs := ⟨_, rfl, hw⟩
  have c19 := eq19_2
  refine lv_aload_n hx hb dX11_prove_20 rfl (lv_at hl 0 rfl) ?_
  refine gf_X11_111 (b := (ma 35)) X hw hM.1 (mr_35 hM) dX11_prove_21 ?_
  refine lv_aload_n hx hb dX11_prove_24 rfl (lv_at hl 0 rfl) ?_
  refine gf_X11_252 (v := (pI S) 140 (ma 0)) X hw hM.1 rfl dX11_prove_25 ?_
  refine lv_iload_n hx hb dX11_prove_28 rfl (lv_at hl 3 rfl) ?_
  refine q_stI X hw (mk_35 hM) (vin (mn_35 hM) (by omega) (by omega)) dX11_prove_29 (fun H locs hw => ?_)
  obtain ⟨q29_3, eq29_3, hw⟩ : ∃ zz9, zz9 = va_up q19_2 (ma 35) (upd (q19_2 (ma 35)) ((pI S) 140 (ma 0)).toNatClampNeg a3) ∧ PX G A s.heap (ch S (pI S) (pJ S) zz9 (qJ S)) H locs := ⟨_, rfl, hw⟩
  have c29 := eq29_3
  refine lv_aload_n hx hb dX11_prove_30 rfl (lv_at hl 0 rfl) ?_
  refine gf_X11_114 (b := (ma 36)) X hw hM.1 (mr_36 hM) dX11_prove_31 ?_
  refine lv_aload_n hx hb dX11_prove_34 rfl (lv_at hl 0 rfl) ?_
  refine gf_X11_252 (v := (pI S) 140 (ma 0)) X hw hM.1 rfl dX11_prove_35 ?_
  refine lv_iload hx hb dX11_prove_38 (lv_at hl 4 rfl) ?_
  refine q_stI X hw (mk_36 hM) (vin (mn_36 hM) (by omega) (by omega)) dX11_prove_40 (fun H locs hw => ?_)
  obtain ⟨q40_4, eq40_4, hw⟩ : ∃ zz9, zz9 = va_up q29_3 (ma 36) (upd (q29_3 (ma 36)) ((pI S) 140 (ma 0)).toNatClampNeg a4) ∧ PX G A s.heap (ch S (pI S) (pJ S) zz9 (qJ S)) H locs := ⟨_, rfl, hw⟩
  have c40 := eq40_4
  refine lv_aload_n hx hb dX11_prove_41 rfl (lv_at hl 0 rfl) ?_
  refine gf_X11_117 (b := (ma 37)) X hw hM.1 (mr_37 hM) dX11_prove_42 ?_
  refine lv_aload_n hx hb dX11_prove_45 rfl (lv_at hl 0 rfl) ?_
  refine gf_X11_252 (v := (pI S) 140 (ma 0)) X hw hM.1 rfl dX11_prove_46 ?_
  refine lv_iload hx hb dX11_prove_49 (lv_at hl 5 rfl) ?_
  refine q_stI X hw (mk_37 hM) (vin (mn_37 hM) (by omega) (by omega)) dX11_prove_51 (fun H locs hw => ?_)
  obtain ⟨q51_5, eq51_5, hw⟩ : ∃ zz9, zz9 = va_up q40_4 (ma 37) (upd (q40_4 (ma 37)) ((pI S) 140 (ma 0)).toNatClampNeg a5) ∧ PX G A s.heap (ch S (pI S) (pJ S) zz9 (qJ S)) H locs := ⟨_, rfl, hw⟩
  have c51 := eq51_5
  refine lv_aload_n hx hb dX11_prove_52 rfl (lv_at hl 0 rfl) ?_
  refine gf_X11_120 (b := (ma 38)) X hw hM.1 (mr_38 hM) dX11_prove_53 ?_
  refine lv_aload_n hx hb dX11_prove_56 rfl (lv_at hl 0 rfl) ?_
  refine gf_X11_252 (v := (pI S) 140 (ma 0)) X hw hM.1 rfl dX11_prove_57 ?_
  refine lv_iload hx hb dX11_prove_60 (lv_at hl 6 rfl) ?_
  refine q_stI X hw (mk_38 hM) (vin (mn_38 hM) (by omega) (by omega)) dX11_prove_62 (fun H locs hw => ?_)
  obtain ⟨q62_6, eq62_6, hw⟩ : ∃ zz9, zz9 = va_up q51_5 (ma 38) (upd (q51_5 (ma 38)) ((pI S) 140 (ma 0)).toNatClampNeg a6) ∧ PX G A s.heap (ch S (pI S) (pJ S) zz9 (qJ S)) H locs := ⟨_, rfl, hw⟩
  have c62 := eq62_6
  refine lv_aload_n hx hb dX11_prove_63 rfl (lv_at hl 0 rfl) ?_
  refine gf_X11_123 (b := (ma 39)) X hw hM.1 (mr_39 hM) dX11_prove_64 ?_
  refine lv_aload_n hx hb dX11_prove_67 rfl (lv_at hl 0 rfl) ?_
  refine gf_X11_252 (v := (pI S) 140 (ma 0)) X hw hM.1 rfl dX11_prove_68 ?_
  refine lv_iload hx hb dX11_prove_71 (lv_at hl 7 rfl) ?_
  refine q_stI X hw (mk_39 hM) (vin (mn_39 hM) (by omega) (by omega)) dX11_prove_73 (fun H locs hw => ?_)
  obtain ⟨q73_7, eq73_7, hw⟩ : ∃ zz9, zz9 = va_up q62_6 (ma 39) (upd (q62_6 (ma 39)) ((pI S) 140 (ma 0)).toNatClampNeg a7) ∧ PX G A s.heap (ch S (pI S) (pJ S) zz9 (qJ S)) H locs := ⟨_, rfl, hw⟩
  have c73 := eq73_7
  refine lv_aload_n hx hb dX11_prove_74 rfl (lv_at hl 0 rfl) ?_
  refine gf_X11_126 (b := (ma 40)) X hw hM.1 (mr_40 hM) dX11_prove_75 ?_
  refine lv_aload_n hx hb dX11_prove_78 rfl (lv_at hl 0 rfl) ?_
  refine gf_X11_252 (v := (pI S) 140 (ma 0)) X hw hM.1 rfl dX11_prove_79 ?_
  refine lv_iconst (v := 0) hx hb dX11_prove_82 (by decide) ?_
  refine q_stZ X hw (mk_40 hM) (vin (mn_40 hM) (by omega) (by omega)) dX11_prove_83 (fun H locs hw => ?_)
  obtain ⟨q83_8, eq83_8, hw⟩ : ∃ zz9, zz9 = va_up q73_7 (ma 40) (upd (q73_7 (ma 40)) ((pI S) 140 (ma 0)).toNatClampNeg (vp_nar .boolean 0)) ∧ PX G A s.heap (ch S (pI S) (pJ S) zz9 (qJ S)) H locs := ⟨_, rfl, hw⟩
  have c83 := eq83_8
  refine lv_aload_n hx hb dX11_prove_84 rfl (lv_at hl 0 rfl) ?_
  refine lv_dup hx hb dX11_prove_85 rfl ?_
  refine gf_X11_252 (v := (pI S) 140 (ma 0)) X hw hM.1 rfl dX11_prove_86 ?_
  refine lv_iconst (v := 1) hx hb dX11_prove_89 (by decide) ?_
  refine lv_iadd hx hb dX11_prove_90 ?_
  refine lv_topi (fun v90_9 e90_9 => ?_)
  have t90_9 := iAdd e90_9 rfl t_1 (by omega) (by omega)
  have t90 := t90_9
  refine pf_X11_252 X hw hM.1 dX11_prove_91 (fun H locs hw => ?_)
  have hw : PX G A s.heap (ch S (up2 (pI S) 140 (ma 0) v90_9) (pJ S) q83_8 (qJ S)) H locs := hw
  refine lv_aload_n hx hb dX11_prove_94 rfl (lv_at hl 0 rfl) ?_
  refine gf_X11_252 (v := v90_9) X hw hM.1 (show up2 (pI S) 140 (ma 0) v90_9 140 (ma 0) = v90_9 from up2_s) dX11_prove_95 ?_
  refine lv_iconst (v := 1) hx hb dX11_prove_98 (by decide) ?_
  refine lv_isub hx hb dX11_prove_99 ?_
  refine lv_topi (fun v99_10 e99_10 => ?_)
  have t99_10 := iSub e99_10 rfl t_1 (by omega) (by omega)
  have t99 := t99_10
  exact hret v99_10 _ _ _ _ _ ⟨_, _, rfl, mInv_prove hM hI t90 h59 h5 (fun i hi h => by rw [row_keep hM c83 hi (by decide) (by omega), row_keep hM c73 hi (by decide) (by omega), row_keep hM c62 hi (by decide) (by omega), row_keep hM c51 hi (by decide) (by omega), row_keep hM c40 hi (by decide) (by omega), row_keep hM c29 hi (by decide) (by omega), row_keep hM c19 hi (by decide) (by omega), row_keep hM c9 hi (by decide) (by omega)]) (by rw [row_keep hM c83 (i := 33) (by decide) (by decide) (by decide), row_keep hM c73 (i := 33) (by decide) (by decide) (by decide), row_keep hM c62 (i := 33) (by decide) (by decide) (by decide), row_keep hM c51 (i := 33) (by decide) (by decide) (by decide), row_keep hM c40 (i := 33) (by decide) (by decide) (by decide), row_keep hM c29 (i := 33) (by decide) (by decide) (by decide), row_keep hM c19 (i := 33) (by decide) (by decide) (by decide), c9, vu_s]) (by rw [row_keep hM c83 (i := 38) (by decide) (by decide) (by decide), row_keep hM c73 (i := 38) (by decide) (by decide) (by decide), c62, vu_s, row_keep hM c51 (i := 38) (by decide) (by decide) (by decide), row_keep hM c40 (i := 38) (by decide) (by decide) (by decide), row_keep hM c29 (i := 38) (by decide) (by decide) (by decide), row_keep hM c19 (i := 38) (by decide) (by decide) (by decide), row_keep hM c9 (i := 38) (by decide) (by decide) (by decide)]) (by rw [row_keep hM c83 (i := 39) (by decide) (by decide) (by decide), c73, vu_s, row_keep hM c62 (i := 39) (by decide) (by decide) (by decide), row_keep hM c51 (i := 39) (by decide) (by decide) (by decide), row_keep hM c40 (i := 39) (by decide) (by decide) (by decide), row_keep hM c29 (i := 39) (by decide) (by decide) (by decide), row_keep hM c19 (i := 39) (by decide) (by decide) (by decide), row_keep hM c9 (i := 39) (by decide) (by decide) (by decide)]) (by rw [c83, vu_s, row_keep hM c73 (i := 40) (by decide) (by decide) (by decide), row_keep hM c62 (i := 40) (by decide) (by decide) (by decide), row_keep hM c51 (i := 40) (by decide) (by decide) (by decide), row_keep hM c40 (i := 40) (by decide) (by decide) (by decide), row_keep hM c29 (i := 40) (by decide) (by decide) (by decide), row_keep hM c19 (i := 40) (by decide) (by decide) (by decide), row_keep hM c9 (i := 40) (by decide) (by decide) (by decide)]) g1 g6 g7 g8, (by rw [show (up2 (pI S) 140 (ma 0) v90_9) 140 (ma 0) = (v90_9 : Int32) from (show up2 (pI S) 140 (ma 0) v90_9 140 (ma 0) = v90_9 from up2_s)]; omega), rfl, rfl, (by rw [c83, vu_s, row_keep hM c73 (i := 40) (by decide) (by decide) (by decide), row_keep hM c62 (i := 40) (by decide) (by decide) (by decide), row_keep hM c51 (i := 40) (by decide) (by decide) (by decide), row_keep hM c40 (i := 40) (by decide) (by decide) (by decide), row_keep hM c29 (i := 40) (by decide) (by decide) (by decide), row_keep hM c19 (i := 40) (by decide) (by decide) (by decide), row_keep hM c9 (i := 40) (by decide) (by decide) (by decide)]; rfl), (fun j9 h9 => by rw [row_keep hM c83 (i := j9) (by omega) (by decide) (by omega), row_keep hM c73 (i := j9) (by omega) (by decide) (by omega), row_keep hM c62 (i := j9) (by omega) (by decide) (by omega), row_keep hM c51 (i := j9) (by omega) (by decide) (by omega), row_keep hM c40 (i := j9) (by omega) (by decide) (by omega), row_keep hM c29 (i := j9) (by omega) (by decide) (by omega), row_keep hM c19 (i := j9) (by omega) (by decide) (by omega), row_keep hM c9 (i := j9) (by omega) (by decide) (by omega)]), rfl, by omega⟩ hw rfl dX11_prove_100
set_option maxHeartbeats 4000000 in
set_option maxRecDepth 100000 in
theorem c_v_X11_search (l : Launch) (G : Gh) (S : Pl) (ma : Nat → Nat) (a1 a2 a3 a4 a5 a6 a7 : Int32) (hM : shMod S ma) (hI : mInv (pI S) (qI S) ma) : MtI l yX11_search cX11_search 8 (some .int) (Rm 2 0 0) G [.ref (ma 0), .int a1, .int a2, .int a3, .int a4, .int a5, .int a6, .int a7] S (fun (r : Int32) (S' : Pl) => (¬ srC a1 a2 a3 a4 a5 a6 a7 (pI S 140 (ma 0)).toInt.toNat (cntB (qI S (ma 40)) (pI S 140 (ma 0)).toInt.toNat) ∧ r = -1 ∧ S = S') ∨ (srC a1 a2 a3 a4 a5 a6 a7 (pI S 140 (ma 0)).toInt.toNat (cntB (qI S (ma 40)) (pI S 140 (ma 0)).toInt.toNat) ∧ r.toInt = (pI S 140 (ma 0)).toInt ∧ ∃ I' q', ch S I' (pJ S) q' (qJ S) = S' ∧ mInv I' q' ma ∧ (I' 140 (ma 0)).toInt = (pI S 140 (ma 0)).toInt + 1 ∧ I' 102 (ma 0) = pI S 102 (ma 0) ∧ I' 128 (ma 0) = pI S 128 (ma 0) ∧ q' (ma 40) = upd (qI S (ma 40)) (pI S 140 (ma 0)).toNatClampNeg 0 ∧ (∀ j, j ≤ 23 → q' (ma j) = qI S (ma j)) ∧ I' 120 (ma 0) = pI S 120 (ma 0))) 0 0 := by
  refine MtI.of (by decide) (Nat.le_of_ble_eq_true rfl) ?_
  intro p e s m args below meth c Q A X hw hin hret ls hl
  have hx := X.1.1
  have hb := X.1.2.1
  have hl : lv_has ls 8 [(0, .ref (ma 0)), (1, .int a1), (2, .int a2), (3, .int a3), (4, .int a4), (5, .int a5), (6, .int a6), (7, .int a7)] := hl
  obtain ⟨⟨b1, b2, b3, b4, b5, b6⟩, hT, hP, hC⟩ := id hI
  unfold mC at hC
  refine lv_iload_n hx hb dX11_search_0 rfl (lv_at hl 1 rfl) ?_
  refine k_Si (n := 1) X hw (c_X11_isMoment l G _ a1) wd_r31_0 wd_r31_1 wd_r1_5 wd_r31_2 ⟨by decide, by decide, by decide +kernel⟩ rfl rfl ⟨Nat.le_of_ble_eq_true rfl, Nat.le_of_ble_eq_true rfl⟩ rfl rfl hl.1 (Nat.le_of_ble_eq_true rfl) dX11_search_1 ⟨Nat.le_of_ble_eq_true rfl, Nat.le_of_ble_eq_true rfl⟩ (fun r1_1 S1_3 H locs h1_2 hw => ?_)
  rcases h1_2 with ⟨rfl, rfl, h1_2⟩ | ⟨rfl, rfl, h1_2⟩
  · have h1_2 := h1_2
    refine lv_if_eq (tgt := 68) hx hb dX11_search_4 (by decide) (fun c4_4 => absurd c4_4 (by decide)) (fun c4_4 => ?_)
    refine lv_iload_n hx hb dX11_search_7 rfl (lv_at hl 2 rfl) ?_
    refine lv_if_lt (tgt := 68) hx hb dX11_search_8 (by decide) (fun c8_5 => ?_) (fun c8_5 => ?_)
    · have D8_5 := iLt c8_5 rfl t_0
      refine lv_iconst (v := -1) hx hb dX11_search_68 (by decide) ?_
      exact hret (-1) S _ _ _ _ (Or.inl ⟨by unfold srC; omega, rfl, rfl⟩) hw rfl dX11_search_69
    · have D8_5 := iNlt c8_5 rfl t_0
      refine lv_iload_n hx hb dX11_search_11 rfl (lv_at hl 3 rfl) ?_
      refine lv_iload_n hx hb dX11_search_12 rfl (lv_at hl 2 rfl) ?_
      refine lv_icmp_lt (tgt := 68) hx hb dX11_search_13 (by decide) (fun c13_6 => ?_) (fun c13_6 => ?_)
      · have D13_6 := iLt c13_6 rfl rfl
        refine lv_iconst (v := -1) hx hb dX11_search_68 (by decide) ?_
        exact hret (-1) S _ _ _ _ (Or.inl ⟨by unfold srC; omega, rfl, rfl⟩) hw rfl dX11_search_69
      · have D13_6 := iNlt c13_6 rfl rfl
        refine lv_iload_n hx hb dX11_search_16 rfl (lv_at hl 3 rfl) ?_
        refine lv_bipush (v := 7) hx hb dX11_search_17 (by decide) ?_
        refine lv_icmp_gt (tgt := 68) hx hb dX11_search_19 (by decide) (fun c19_7 => ?_) (fun c19_7 => ?_)
        · have D19_7 := iLt c19_7 t_7 rfl
          refine lv_iconst (v := -1) hx hb dX11_search_68 (by decide) ?_
          exact hret (-1) S _ _ _ _ (Or.inl ⟨by unfold srC; omega, rfl, rfl⟩) hw rfl dX11_search_69
        · have D19_7 := iNlt c19_7 t_7 rfl
          refine lv_iload hx hb dX11_search_22 (lv_at hl 4 rfl) ?_
          refine lv_if_lt (tgt := 68) hx hb dX11_search_24 (by decide) (fun c24_8 => ?_) (fun c24_8 => ?_)
          · have D24_8 := iLt c24_8 rfl t_0
            refine lv_iconst (v := -1) hx hb dX11_search_68 (by decide) ?_
            exact hret (-1) S _ _ _ _ (Or.inl ⟨by unfold srC; omega, rfl, rfl⟩) hw rfl dX11_search_69
          · have D24_8 := iNlt c24_8 rfl t_0
            refine lv_iload hx hb dX11_search_27 (lv_at hl 5 rfl) ?_
            refine lv_iload hx hb dX11_search_29 (lv_at hl 4 rfl) ?_
            refine lv_icmp_lt (tgt := 68) hx hb dX11_search_31 (by decide) (fun c31_9 => ?_) (fun c31_9 => ?_)
            · have D31_9 := iLt c31_9 rfl rfl
              refine lv_iconst (v := -1) hx hb dX11_search_68 (by decide) ?_
              exact hret (-1) S _ _ _ _ (Or.inl ⟨by unfold srC; omega, rfl, rfl⟩) hw rfl dX11_search_69
            · have D31_9 := iNlt c31_9 rfl rfl
              refine lv_iload hx hb dX11_search_34 (lv_at hl 5 rfl) ?_
              refine lv_bipush (v := 7) hx hb dX11_search_36 (by decide) ?_
              refine lv_icmp_gt (tgt := 68) hx hb dX11_search_38 (by decide) (fun c38_10 => ?_) (fun c38_10 => ?_)
              · have D38_10 := iLt c38_10 t_7 rfl
                refine lv_iconst (v := -1) hx hb dX11_search_68 (by decide) ?_
                exact hret (-1) S _ _ _ _ (Or.inl ⟨by unfold srC; omega, rfl, rfl⟩) hw rfl dX11_search_69
              · have D38_10 := iNlt c38_10 t_7 rfl
                refine lv_iload hx hb dX11_search_41 (lv_at hl 6 rfl) ?_
                refine k_Si (n := 1) X hw (c_X11_isSort l G _ a6) wd_r26_3 wd_r26_4 wd_r1_5 wd_r26_5 ⟨by decide, by decide, by decide +kernel⟩ rfl rfl ⟨Nat.le_of_ble_eq_true rfl, Nat.le_of_ble_eq_true rfl⟩ rfl rfl hl.1 (Nat.le_of_ble_eq_true rfl) dX11_search_43 ⟨Nat.le_of_ble_eq_true rfl, Nat.le_of_ble_eq_true rfl⟩ (fun r43_11 S43_13 H locs h43_12 hw => ?_)
                rcases h43_12 with ⟨rfl, rfl, h43_12⟩ | ⟨rfl, rfl, h43_12⟩
                · have h43_12 := h43_12
                  refine lv_if_eq (tgt := 68) hx hb dX11_search_46 (by decide) (fun c46_14 => absurd c46_14 (by decide)) (fun c46_14 => ?_)
                  refine lv_iload hx hb dX11_search_49 (lv_at hl 7 rfl) ?_
                  refine lv_if_lt (tgt := 68) hx hb dX11_search_51 (by decide) (fun c51_15 => ?_) (fun c51_15 => ?_)
                  · have D51_15 := iLt c51_15 rfl t_0
                    refine lv_iconst (v := -1) hx hb dX11_search_68 (by decide) ?_
                    exact hret (-1) S _ _ _ _ (Or.inl ⟨by unfold srC; omega, rfl, rfl⟩) hw rfl dX11_search_69
                  · have D51_15 := iNlt c51_15 rfl t_0
                    refine lv_iload hx hb dX11_search_54 (lv_at hl 7 rfl) ?_
                    refine lv_bipush (v := 20) hx hb dX11_search_56 (by decide) ?_
                    refine lv_icmp_gt (tgt := 68) hx hb dX11_search_58 (by decide) (fun c58_16 => ?_) (fun c58_16 => ?_)
                    · have D58_16 := iLt c58_16 t_20 rfl
                      refine lv_iconst (v := -1) hx hb dX11_search_68 (by decide) ?_
                      exact hret (-1) S _ _ _ _ (Or.inl ⟨by unfold srC; omega, rfl, rfl⟩) hw rfl dX11_search_69
                    · have D58_16 := iNlt c58_16 t_20 rfl
                      refine lv_aload_n hx hb dX11_search_61 rfl (lv_at hl 0 rfl) ?_
                      refine k_Vi (n := 0) X hw (rcvk (ci := 11) X hw hM.1 (fun _ _ _ _ _ _ _ => ⟨_, rfl⟩) rfl) (c_X11_isFull l G _ ma hM hI) wd_r33_16 wd_r33_17 wd_r33_18 wd_r1_5 wd_r33_19 ⟨by decide, by decide, by decide +kernel⟩ rfl rfl ⟨Nat.le_of_ble_eq_true rfl, Nat.le_of_ble_eq_true rfl⟩ rfl rfl hl.1 (Nat.le_of_ble_eq_true rfl) dX11_search_62 ⟨Nat.le_of_ble_eq_true rfl, Nat.le_of_ble_eq_true rfl⟩ (fun r62_17 S62_19 H locs h62_18 hw => ?_)
                      rcases h62_18 with ⟨rfl, rfl, h62_18⟩ | ⟨rfl, rfl, h62_18⟩
                      · have h62_18 := h62_18
                        refine lv_if_eq (tgt := 70) hx hb dX11_search_65 (by decide) (fun c65_20 => absurd c65_20 (by decide)) (fun c65_20 => ?_)
                        refine lv_iconst (v := -1) hx hb dX11_search_68 (by decide) ?_
                        exact hret (-1) S _ _ _ _ (Or.inl ⟨by unfold srC; omega, rfl, rfl⟩) hw rfl dX11_search_69
                      · have h62_18 := h62_18
                        refine lv_if_eq (tgt := 70) hx hb dX11_search_65 (by decide) (fun c65_21 => ?_) (fun c65_21 => absurd c65_21 (by decide))
                        refine lv_aload_n hx hb dX11_search_70 rfl (lv_at hl 0 rfl) ?_
                        refine lv_iload_n hx hb dX11_search_71 rfl (lv_at hl 1 rfl) ?_
                        refine lv_iload_n hx hb dX11_search_72 rfl (lv_at hl 2 rfl) ?_
                        refine lv_iload_n hx hb dX11_search_73 rfl (lv_at hl 3 rfl) ?_
                        refine lv_iload hx hb dX11_search_74 (lv_at hl 4 rfl) ?_
                        refine lv_iload hx hb dX11_search_76 (lv_at hl 5 rfl) ?_
                        refine lv_iload hx hb dX11_search_78 (lv_at hl 6 rfl) ?_
                        refine lv_iload hx hb dX11_search_80 (lv_at hl 7 rfl) ?_
                        refine k_Vi (n := 7) X hw (rcvk (ci := 11) X hw hM.1 (fun _ _ _ _ _ _ _ => ⟨_, rfl⟩) rfl) (c_v_X11_prove l G _ ma a1 a2 a3 a4 a5 a6 a7 hM hI (by omega) (by omega) (by omega) (by first | omega | decide) (by first | omega | (intro h; exact absurd h (by decide))) (by omega)) wd_r34_1 wd_r34_2 wd_r34_3 wd_r1_5 wd_r34_4 ⟨by decide, by decide, by decide +kernel⟩ rfl rfl ⟨Nat.le_of_ble_eq_true rfl, Nat.le_of_ble_eq_true rfl⟩ rfl rfl hl.1 (Nat.le_of_ble_eq_true rfl) dX11_search_82 ⟨Nat.le_of_ble_eq_true rfl, Nat.le_of_ble_eq_true rfl⟩ (fun r82_22 S82_24 H locs h82_23 hw => ?_)
                        obtain ⟨I82_25, q82_26, rfl, h82_23⟩ := h82_23
                        have hw : PX G A s.heap (ch S I82_25 (pJ S) q82_26 (qJ S)) H locs := hw
                        have HPV := h82_23
                        exact hret r82_22 (ch S I82_25 (pJ S) q82_26 (qJ S)) _ _ _ _ (Or.inr ⟨by unfold srC; omega, HPV.2.2.2.2.2.2.2, _, _, rfl, HPV.1, HPV.2.1, HPV.2.2.1, HPV.2.2.2.1, HPV.2.2.2.2.1, HPV.2.2.2.2.2.1, HPV.2.2.2.2.2.2.1⟩) hw rfl dX11_search_85
                · have h43_12 := h43_12
                  refine lv_if_eq (tgt := 68) hx hb dX11_search_46 (by decide) (fun c46_27 => ?_) (fun c46_27 => absurd c46_27 (by decide))
                  refine lv_iconst (v := -1) hx hb dX11_search_68 (by decide) ?_
                  exact hret (-1) S _ _ _ _ (Or.inl ⟨by unfold srC; omega, rfl, rfl⟩) hw rfl dX11_search_69
  · have h1_2 := h1_2
    refine lv_if_eq (tgt := 68) hx hb dX11_search_4 (by decide) (fun c4_28 => ?_) (fun c4_28 => absurd c4_28 (by decide))
    refine lv_iconst (v := -1) hx hb dX11_search_68 (by decide) ?_
    exact hret (-1) S _ _ _ _ (Or.inl ⟨by unfold srC; omega, rfl, rfl⟩) hw rfl dX11_search_69
set_option maxHeartbeats 4000000 in
set_option maxRecDepth 100000 in
theorem c_v_X11_clue (l : Launch) (G : Gh) (S : Pl) (ma : Nat → Nat) (a1 a2 a3 a4 a5 : Int32) (hM : shMod S ma) (hI : mInv (pI S) (qI S) ma) : MtI l yX11_clue cX11_clue 6 (some .int) (Rm 2 0 0) G [.ref (ma 0), .int a1, .int a2, .int a3, .int a4, .int a5] S (fun (r : Int32) (S' : Pl) => (¬ clC a1 a2 a3 a4 a5 (pI S 140 (ma 0)).toInt.toNat (cntB (qI S (ma 40)) (pI S 140 (ma 0)).toInt.toNat) ∧ r = -1 ∧ S = S') ∨ (clC a1 a2 a3 a4 a5 (pI S 140 (ma 0)).toInt.toNat (cntB (qI S (ma 40)) (pI S 140 (ma 0)).toInt.toNat) ∧ r.toInt = (pI S 140 (ma 0)).toInt ∧ ∃ I' q', ch S I' (pJ S) q' (qJ S) = S' ∧ mInv I' q' ma ∧ (I' 140 (ma 0)).toInt = (pI S 140 (ma 0)).toInt + 1 ∧ I' 102 (ma 0) = pI S 102 (ma 0) ∧ I' 128 (ma 0) = pI S 128 (ma 0) ∧ q' (ma 40) = upd (qI S (ma 40)) (pI S 140 (ma 0)).toNatClampNeg 0 ∧ (∀ j, j ≤ 23 → q' (ma j) = qI S (ma j)) ∧ I' 120 (ma 0) = pI S 120 (ma 0))) 0 0 := by
  refine MtI.of (by decide) (Nat.le_of_ble_eq_true rfl) ?_
  intro p e s m args below meth c Q A X hw hin hret ls hl
  have hx := X.1.1
  have hb := X.1.2.1
  have hl : lv_has ls 6 [(0, .ref (ma 0)), (1, .int a1), (2, .int a2), (3, .int a3), (4, .int a4), (5, .int a5)] := hl
  obtain ⟨⟨b1, b2, b3, b4, b5, b6⟩, hT, hP, hC⟩ := id hI
  unfold mC at hC
  refine lv_iload_n hx hb dX11_clue_0 rfl (lv_at hl 1 rfl) ?_
  refine k_Si (n := 1) X hw (c_X11_isMoment l G _ a1) wd_r31_0 wd_r31_1 wd_r1_5 wd_r31_2 ⟨by decide, by decide, by decide +kernel⟩ rfl rfl ⟨Nat.le_of_ble_eq_true rfl, Nat.le_of_ble_eq_true rfl⟩ rfl rfl hl.1 (Nat.le_of_ble_eq_true rfl) dX11_clue_1 ⟨Nat.le_of_ble_eq_true rfl, Nat.le_of_ble_eq_true rfl⟩ (fun r1_1 S1_3 H locs h1_2 hw => ?_)
  rcases h1_2 with ⟨rfl, rfl, h1_2⟩ | ⟨rfl, rfl, h1_2⟩
  · have h1_2 := h1_2
    refine lv_if_eq (tgt := 52) hx hb dX11_clue_4 (by decide) (fun c4_4 => absurd c4_4 (by decide)) (fun c4_4 => ?_)
    refine lv_iload_n hx hb dX11_clue_7 rfl (lv_at hl 2 rfl) ?_
    refine k_Si (n := 1) X hw (c_X11_isPoint l G _ a2) wd_r29_19 wd_r29_20 wd_r1_5 wd_r29_21 ⟨by decide, by decide, by decide +kernel⟩ rfl rfl ⟨Nat.le_of_ble_eq_true rfl, Nat.le_of_ble_eq_true rfl⟩ rfl rfl hl.1 (Nat.le_of_ble_eq_true rfl) dX11_clue_8 ⟨Nat.le_of_ble_eq_true rfl, Nat.le_of_ble_eq_true rfl⟩ (fun r8_5 S8_7 H locs h8_6 hw => ?_)
    rcases h8_6 with ⟨rfl, rfl, h8_6⟩ | ⟨rfl, rfl, h8_6⟩
    · have h8_6 := h8_6
      refine lv_if_eq (tgt := 52) hx hb dX11_clue_11 (by decide) (fun c11_8 => absurd c11_8 (by decide)) (fun c11_8 => ?_)
      refine lv_iload_n hx hb dX11_clue_14 rfl (lv_at hl 3 rfl) ?_
      refine k_Si (n := 1) X hw (c_X11_isPoint l G _ a3) wd_r29_19 wd_r29_20 wd_r1_5 wd_r29_21 ⟨by decide, by decide, by decide +kernel⟩ rfl rfl ⟨Nat.le_of_ble_eq_true rfl, Nat.le_of_ble_eq_true rfl⟩ rfl rfl hl.1 (Nat.le_of_ble_eq_true rfl) dX11_clue_15 ⟨Nat.le_of_ble_eq_true rfl, Nat.le_of_ble_eq_true rfl⟩ (fun r15_9 S15_11 H locs h15_10 hw => ?_)
      rcases h15_10 with ⟨rfl, rfl, h15_10⟩ | ⟨rfl, rfl, h15_10⟩
      · have h15_10 := h15_10
        refine lv_if_eq (tgt := 52) hx hb dX11_clue_18 (by decide) (fun c18_12 => absurd c18_12 (by decide)) (fun c18_12 => ?_)
        refine lv_iload hx hb dX11_clue_21 (lv_at hl 4 rfl) ?_
        refine lv_if_lt (tgt := 52) hx hb dX11_clue_23 (by decide) (fun c23_13 => ?_) (fun c23_13 => ?_)
        · have D23_13 := iLt c23_13 rfl t_0
          refine lv_iconst (v := -1) hx hb dX11_clue_52 (by decide) ?_
          exact hret (-1) S _ _ _ _ (Or.inl ⟨by unfold clC; omega, rfl, rfl⟩) hw rfl dX11_clue_53
        · have D23_13 := iNlt c23_13 rfl t_0
          refine lv_iload hx hb dX11_clue_26 (lv_at hl 4 rfl) ?_
          refine lv_bipush (v := 80) hx hb dX11_clue_28 (by decide) ?_
          refine lv_icmp_gt (tgt := 52) hx hb dX11_clue_30 (by decide) (fun c30_14 => ?_) (fun c30_14 => ?_)
          · have D30_14 := iLt c30_14 t_80 rfl
            refine lv_iconst (v := -1) hx hb dX11_clue_52 (by decide) ?_
            exact hret (-1) S _ _ _ _ (Or.inl ⟨by unfold clC; omega, rfl, rfl⟩) hw rfl dX11_clue_53
          · have D30_14 := iNlt c30_14 t_80 rfl
            refine lv_iload hx hb dX11_clue_33 (lv_at hl 5 rfl) ?_
            refine lv_if_lt (tgt := 52) hx hb dX11_clue_35 (by decide) (fun c35_15 => ?_) (fun c35_15 => ?_)
            · have D35_15 := iLt c35_15 rfl t_0
              refine lv_iconst (v := -1) hx hb dX11_clue_52 (by decide) ?_
              exact hret (-1) S _ _ _ _ (Or.inl ⟨by unfold clC; omega, rfl, rfl⟩) hw rfl dX11_clue_53
            · have D35_15 := iNlt c35_15 rfl t_0
              refine lv_iload hx hb dX11_clue_38 (lv_at hl 5 rfl) ?_
              refine lv_bipush (v := 100) hx hb dX11_clue_40 (by decide) ?_
              refine lv_icmp_gt (tgt := 52) hx hb dX11_clue_42 (by decide) (fun c42_16 => ?_) (fun c42_16 => ?_)
              · have D42_16 := iLt c42_16 t_100 rfl
                refine lv_iconst (v := -1) hx hb dX11_clue_52 (by decide) ?_
                exact hret (-1) S _ _ _ _ (Or.inl ⟨by unfold clC; omega, rfl, rfl⟩) hw rfl dX11_clue_53
              · have D42_16 := iNlt c42_16 t_100 rfl
                refine lv_aload_n hx hb dX11_clue_45 rfl (lv_at hl 0 rfl) ?_
                refine k_Vi (n := 0) X hw (rcvk (ci := 11) X hw hM.1 (fun _ _ _ _ _ _ _ => ⟨_, rfl⟩) rfl) (c_X11_isFull l G _ ma hM hI) wd_r33_16 wd_r33_17 wd_r33_18 wd_r1_5 wd_r33_19 ⟨by decide, by decide, by decide +kernel⟩ rfl rfl ⟨Nat.le_of_ble_eq_true rfl, Nat.le_of_ble_eq_true rfl⟩ rfl rfl hl.1 (Nat.le_of_ble_eq_true rfl) dX11_clue_46 ⟨Nat.le_of_ble_eq_true rfl, Nat.le_of_ble_eq_true rfl⟩ (fun r46_17 S46_19 H locs h46_18 hw => ?_)
                rcases h46_18 with ⟨rfl, rfl, h46_18⟩ | ⟨rfl, rfl, h46_18⟩
                · have h46_18 := h46_18
                  refine lv_if_eq (tgt := 54) hx hb dX11_clue_49 (by decide) (fun c49_20 => absurd c49_20 (by decide)) (fun c49_20 => ?_)
                  refine lv_iconst (v := -1) hx hb dX11_clue_52 (by decide) ?_
                  exact hret (-1) S _ _ _ _ (Or.inl ⟨by unfold clC; omega, rfl, rfl⟩) hw rfl dX11_clue_53
                · have h46_18 := h46_18
                  refine lv_if_eq (tgt := 54) hx hb dX11_clue_49 (by decide) (fun c49_21 => ?_) (fun c49_21 => absurd c49_21 (by decide))
                  refine lv_aload_n hx hb dX11_clue_54 rfl (lv_at hl 0 rfl) ?_
                  refine lv_iload_n hx hb dX11_clue_55 rfl (lv_at hl 1 rfl) ?_
                  refine lv_iload_n hx hb dX11_clue_56 rfl (lv_at hl 2 rfl) ?_
                  refine lv_iload_n hx hb dX11_clue_57 rfl (lv_at hl 3 rfl) ?_
                  refine lv_iload hx hb dX11_clue_58 (lv_at hl 4 rfl) ?_
                  refine lv_iconst (v := 0) hx hb dX11_clue_60 (by decide) ?_
                  refine lv_iconst (v := 2) hx hb dX11_clue_61 (by decide) ?_
                  refine lv_iload hx hb dX11_clue_62 (lv_at hl 5 rfl) ?_
                  refine k_Vi (n := 7) X hw (rcvk (ci := 11) X hw hM.1 (fun _ _ _ _ _ _ _ => ⟨_, rfl⟩) rfl) (c_v_X11_prove l G _ ma a1 a2 a3 a4 0 2 a5 hM hI (by omega) (by omega) (by omega) (by first | omega | decide) (by first | omega | (intro h; exact absurd h (by decide))) (by omega)) wd_r34_1 wd_r34_2 wd_r34_3 wd_r1_5 wd_r34_4 ⟨by decide, by decide, by decide +kernel⟩ rfl rfl ⟨Nat.le_of_ble_eq_true rfl, Nat.le_of_ble_eq_true rfl⟩ rfl rfl hl.1 (Nat.le_of_ble_eq_true rfl) dX11_clue_64 ⟨Nat.le_of_ble_eq_true rfl, Nat.le_of_ble_eq_true rfl⟩ (fun r64_22 S64_24 H locs h64_23 hw => ?_)
                  have := t_0
                  have := t_2
                  obtain ⟨I64_25, q64_26, rfl, h64_23⟩ := h64_23
                  have hw : PX G A s.heap (ch S I64_25 (pJ S) q64_26 (qJ S)) H locs := hw
                  have HPV := h64_23
                  exact hret r64_22 (ch S I64_25 (pJ S) q64_26 (qJ S)) _ _ _ _ (Or.inr ⟨by unfold clC; omega, HPV.2.2.2.2.2.2.2, _, _, rfl, HPV.1, HPV.2.1, HPV.2.2.1, HPV.2.2.2.1, HPV.2.2.2.2.1, HPV.2.2.2.2.2.1, HPV.2.2.2.2.2.2.1⟩) hw rfl dX11_clue_67
      · have h15_10 := h15_10
        refine lv_if_eq (tgt := 52) hx hb dX11_clue_18 (by decide) (fun c18_27 => ?_) (fun c18_27 => absurd c18_27 (by decide))
        refine lv_iconst (v := -1) hx hb dX11_clue_52 (by decide) ?_
        exact hret (-1) S _ _ _ _ (Or.inl ⟨by unfold clC; omega, rfl, rfl⟩) hw rfl dX11_clue_53
    · have h8_6 := h8_6
      refine lv_if_eq (tgt := 52) hx hb dX11_clue_11 (by decide) (fun c11_28 => ?_) (fun c11_28 => absurd c11_28 (by decide))
      refine lv_iconst (v := -1) hx hb dX11_clue_52 (by decide) ?_
      exact hret (-1) S _ _ _ _ (Or.inl ⟨by unfold clC; omega, rfl, rfl⟩) hw rfl dX11_clue_53
  · have h1_2 := h1_2
    refine lv_if_eq (tgt := 52) hx hb dX11_clue_4 (by decide) (fun c4_29 => ?_) (fun c4_29 => absurd c4_29 (by decide))
    refine lv_iconst (v := -1) hx hb dX11_clue_52 (by decide) ?_
    exact hret (-1) S _ _ _ _ (Or.inl ⟨by unfold clC; omega, rfl, rfl⟩) hw rfl dX11_clue_53
set_option maxHeartbeats 4000000 in
set_option maxRecDepth 100000 in
theorem c_v_X11_back (l : Launch) (G : Gh) (S : Pl) (ma : Nat → Nat) (x : Int32) (hM : shMod S ma) (hI : mInv (pI S) (qI S) ma) : MtI l yX11_back cX11_back 2 (some .boolean) (Rm 0 0 0) G [.ref (ma 0), .int x] S (fun (r : Int32) (S' : Pl) => (r = 1 ∧ (0 ≤ x.toInt ∧ x.toInt < (pI S 140 (ma 0)).toInt ∧ (qI S (ma 40) x.toNatClampNeg).toInt = 0) ∧ ∃ q', ch S (pI S) (pJ S) q' (qJ S) = S' ∧ mInv (pI S) q' ma ∧ q' (ma 40) = upd (qI S (ma 40)) x.toNatClampNeg 1 ∧ ∀ j, j ≤ 23 → q' (ma j) = qI S (ma j)) ∨ (r = 0 ∧ ¬ (0 ≤ x.toInt ∧ x.toInt < (pI S 140 (ma 0)).toInt ∧ (qI S (ma 40) x.toNatClampNeg).toInt = 0) ∧ S = S')) 0 0 := by
  refine MtI.of (by decide) (Nat.le_of_ble_eq_true rfl) ?_
  intro p e s m args below meth c Q A X hw hin hret ls hl
  have hx := X.1.1
  have hb := X.1.2.1
  have hl : lv_has ls 2 [(0, .ref (ma 0)), (1, .int x)] := hl
  obtain ⟨⟨b1, b2, b3, b4, b5, b6⟩, hT, hP, hC⟩ := id hI
  refine lv_iload_n hx hb dX11_back_0 rfl (lv_at hl 1 rfl) ?_
  refine lv_if_lt (tgt := 21) hx hb dX11_back_1 (by decide) (fun c1_1 => ?_) (fun c1_1 => ?_)
  · have D1_1 := iLt c1_1 rfl t_0
    refine lv_iconst (v := 0) hx hb dX11_back_21 (by decide) ?_
    exact hret 0 S _ _ _ _ (Or.inr ⟨rfl, by have := t_0; omega, rfl⟩) hw rfl dX11_back_22
  · have D1_1 := iNlt c1_1 rfl t_0
    refine lv_iload_n hx hb dX11_back_4 rfl (lv_at hl 1 rfl) ?_
    refine lv_aload_n hx hb dX11_back_5 rfl (lv_at hl 0 rfl) ?_
    refine gf_X11_252 (v := (pI S) 140 (ma 0)) X hw hM.1 rfl dX11_back_6 ?_
    refine lv_icmp_ge (tgt := 21) hx hb dX11_back_9 (by decide) (fun c9_2 => ?_) (fun c9_2 => ?_)
    · have D9_2 := iLe c9_2 rfl rfl
      refine lv_iconst (v := 0) hx hb dX11_back_21 (by decide) ?_
      exact hret 0 S _ _ _ _ (Or.inr ⟨rfl, by have := t_0; omega, rfl⟩) hw rfl dX11_back_22
    · have D9_2 := iNle c9_2 rfl rfl
      refine lv_aload_n hx hb dX11_back_12 rfl (lv_at hl 0 rfl) ?_
      refine gf_X11_126 (b := (ma 40)) X hw hM.1 (mr_40 hM) dX11_back_13 ?_
      refine lv_iload_n hx hb dX11_back_16 rfl (lv_at hl 1 rfl) ?_
      refine q_ldZ X hw (mk_40 hM) (vin (mn_40 hM) (by omega) (by omega)) dX11_back_17 ?_
      refine lv_topi (fun v17_3 e17_3 => ?_)
      have e17_3 : v17_3 = (qI S) (ma 40) x.toNatClampNeg := e17_3
      have g17 := congrArg Int32.toInt e17_3
      refine lv_if_eq (tgt := 23) hx hb dX11_back_18 (by decide) (fun c18_4 => ?_) (fun c18_4 => ?_)
      · have D18_4 := iEq c18_4 rfl t_0
        refine lv_aload_n hx hb dX11_back_23 rfl (lv_at hl 0 rfl) ?_
        refine gf_X11_126 (b := (ma 40)) X hw hM.1 (mr_40 hM) dX11_back_24 ?_
        refine lv_iload_n hx hb dX11_back_27 rfl (lv_at hl 1 rfl) ?_
        refine lv_iconst (v := 1) hx hb dX11_back_28 (by decide) ?_
        refine q_stZ X hw (mk_40 hM) (vin (mn_40 hM) (by omega) (by omega)) dX11_back_29 (fun H locs hw => ?_)
        obtain ⟨q29_5, eq29_5, hw⟩ : ∃ zz9, zz9 = va_up (qI S) (ma 40) (upd ((qI S) (ma 40)) x.toNatClampNeg (vp_nar .boolean 1)) ∧ PX G A s.heap (ch S (pI S) (pJ S) zz9 (qJ S)) H locs := ⟨_, rfl, hw⟩
        have c29 := eq29_5
        refine lv_iconst (v := 1) hx hb dX11_back_30 (by decide) ?_
        exact hret 1 (ch S (pI S) (pJ S) q29_5 (qJ S)) _ _ _ _ (Or.inl ⟨rfl, by have := t_0; omega, _, rfl, mInv_back hM hI c29, by rw [c29, vu_s]; rfl, (fun j9 h9 => by rw [row_keep hM c29 (i := j9) (by omega) (by decide) (by omega)])⟩) hw rfl dX11_back_31
      · have D18_4 := iNe c18_4 rfl t_0
        refine lv_iconst (v := 0) hx hb dX11_back_21 (by decide) ?_
        exact hret 0 S _ _ _ _ (Or.inr ⟨rfl, by have := t_0; omega, rfl⟩) hw rfl dX11_back_22
