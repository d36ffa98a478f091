
set_option maxHeartbeats 4000000 in
set_option maxRecDepth 100000 in
theorem c_w_X11_tale (l : Launch) (G : Gh) (S : Pl) (ma : Nat → Nat) (x y z u w : Int32) (hM : shMod S ma) (hI : mInv (pI S) (qI S) ma) : MtI l yX11_tale cX11_tale 6 (some .int) (Rm 1 0 0) G [.ref (ma 0), .int x, .int y, .int z, .int u, .int w] S (fun (r : Int32) (S' : Pl) => (¬ tlC x y z u w (pI S 128 (ma 0)).toInt.toNat ∧ r = -1 ∧ S = S') ∨ (tlC x y z u w (pI S 128 (ma 0)).toInt.toNat ∧ r.toInt = (pI S 128 (ma 0)).toInt ∧ ∃ I' q', ch S I' (pJ S) q' (qJ S) = S' ∧ mInv I' q' ma ∧ (I' 128 (ma 0)).toInt = (pI S 128 (ma 0)).toInt + 1 ∧ I' 102 (ma 0) = pI S 102 (ma 0) ∧ I' 140 (ma 0) = pI S 140 (ma 0) ∧ q' (ma 40) = qI S (ma 40) ∧ (∀ j, j ≤ 45 → (j < 24 ∨ 28 < j) → q' (ma j) = qI S (ma j)) ∧ I' 120 (ma 0) = pI S 120 (ma 0) ∧ q' (ma 24) = upd (qI S (ma 24)) (pI S 128 (ma 0)).toNatClampNeg x ∧ q' (ma 25) = upd (qI S (ma 25)) (pI S 128 (ma 0)).toNatClampNeg y ∧ q' (ma 26) = upd (qI S (ma 26)) (pI S 128 (ma 0)).toNatClampNeg z ∧ q' (ma 27) = upd (qI S (ma 27)) (pI S 128 (ma 0)).toNatClampNeg u ∧ q' (ma 28) = upd (qI S (ma 28)) (pI S 128 (ma 0)).toNatClampNeg w)) 0 0 := by
  refine MtI.of (by decide) (Nat.le_of_ble_eq_true rfl) ?_
  intro p e s m args below meth c Q A X hw hin hret ls hl
  have hx := X.1.1
  have hb := X.1.2.1
  have hl : lv_has ls 6 [(0, .ref (ma 0)), (1, .int x), (2, .int y), (3, .int z), (4, .int u), (5, .int w)] := hl
  obtain ⟨⟨b1, b2, b3, b4, b5, b6⟩, hT, hP, hC⟩ := id hI
  refine lv_iload_n hx hb dX11_tale_0 rfl (lv_at hl 1 rfl) ?_
  refine lv_if_lt (tgt := 54) hx hb dX11_tale_1 (by decide) (fun c1_1 => ?_) (fun c1_1 => ?_)
  · have D1_1 := iLt c1_1 rfl t_0
    refine lv_iconst (v := -1) hx hb dX11_tale_54 (by decide) ?_
    exact hret (-1) S _ _ _ _ (Or.inl ⟨by unfold tlC; have := t_40; omega, rfl, rfl⟩) hw rfl dX11_tale_55
  · have D1_1 := iNlt c1_1 rfl t_0
    refine lv_iload_n hx hb dX11_tale_4 rfl (lv_at hl 1 rfl) ?_
    refine lv_iconst (v := 4) hx hb dX11_tale_5 (by decide) ?_
    refine lv_icmp_ge (tgt := 54) hx hb dX11_tale_6 (by decide) (fun c6_2 => ?_) (fun c6_2 => ?_)
    · have D6_2 := iLe c6_2 t_4 rfl
      refine lv_iconst (v := -1) hx hb dX11_tale_54 (by decide) ?_
      exact hret (-1) S _ _ _ _ (Or.inl ⟨by unfold tlC; have := t_40; omega, rfl, rfl⟩) hw rfl dX11_tale_55
    · have D6_2 := iNle c6_2 t_4 rfl
      refine lv_iload_n hx hb dX11_tale_9 rfl (lv_at hl 2 rfl) ?_
      refine k_Si (n := 1) X hw (c_X11_isPoint l G _ y) wd_r29_19 wd_r29_20 wd_r1_5 wd_r29_21 ⟨by decide, by decide, by decide +kernel⟩ rfl rfl ⟨Nat.le_of_ble_eq_true rfl, Nat.le_of_ble_eq_true rfl⟩ rfl rfl hl.1 (Nat.le_of_ble_eq_true rfl) dX11_tale_10 ⟨Nat.le_of_ble_eq_true rfl, Nat.le_of_ble_eq_true rfl⟩ (fun r10_3 S10_5 H locs h10_4 hw => ?_)
      rcases h10_4 with ⟨rfl, rfl, h10_4⟩ | ⟨rfl, rfl, h10_4⟩
      · have h10_4 := h10_4
        refine lv_if_eq (tgt := 54) hx hb dX11_tale_13 (by decide) (fun c13_6 => absurd c13_6 (by decide)) (fun c13_6 => ?_)
        refine lv_iload_n hx hb dX11_tale_16 rfl (lv_at hl 3 rfl) ?_
        refine k_Si (n := 1) X hw (c_X11_isPoint l G _ z) wd_r29_19 wd_r29_20 wd_r1_5 wd_r29_21 ⟨by decide, by decide, by decide +kernel⟩ rfl rfl ⟨Nat.le_of_ble_eq_true rfl, Nat.le_of_ble_eq_true rfl⟩ rfl rfl hl.1 (Nat.le_of_ble_eq_true rfl) dX11_tale_17 ⟨Nat.le_of_ble_eq_true rfl, Nat.le_of_ble_eq_true rfl⟩ (fun r17_7 S17_9 H locs h17_8 hw => ?_)
        rcases h17_8 with ⟨rfl, rfl, h17_8⟩ | ⟨rfl, rfl, h17_8⟩
        · have h17_8 := h17_8
          refine lv_if_eq (tgt := 54) hx hb dX11_tale_20 (by decide) (fun c20_10 => absurd c20_10 (by decide)) (fun c20_10 => ?_)
          refine lv_iload hx hb dX11_tale_23 (lv_at hl 4 rfl) ?_
          refine k_Si (n := 1) X hw (c_X11_isHour l G _ u) wd_r24_20 wd_r24_21 wd_r1_5 wd_r24_22 ⟨by decide, by decide, by decide +kernel⟩ rfl rfl ⟨Nat.le_of_ble_eq_true rfl, Nat.le_of_ble_eq_true rfl⟩ rfl rfl hl.1 (Nat.le_of_ble_eq_true rfl) dX11_tale_25 ⟨Nat.le_of_ble_eq_true rfl, Nat.le_of_ble_eq_true rfl⟩ (fun r25_11 S25_13 H locs h25_12 hw => ?_)
          rcases h25_12 with ⟨rfl, rfl, h25_12⟩ | ⟨rfl, rfl, h25_12⟩
          · have h25_12 := h25_12
            refine lv_if_eq (tgt := 54) hx hb dX11_tale_28 (by decide) (fun c28_14 => absurd c28_14 (by decide)) (fun c28_14 => ?_)
            refine lv_iload hx hb dX11_tale_31 (lv_at hl 5 rfl) ?_
            refine lv_iconst (v := 1) hx hb dX11_tale_33 (by decide) ?_
            refine lv_icmp_lt (tgt := 54) hx hb dX11_tale_34 (by decide) (fun c34_15 => ?_) (fun c34_15 => ?_)
            · have D34_15 := iLt c34_15 rfl t_1
              refine lv_iconst (v := -1) hx hb dX11_tale_54 (by decide) ?_
              exact hret (-1) S _ _ _ _ (Or.inl ⟨by unfold tlC; have := t_40; omega, rfl, rfl⟩) hw rfl dX11_tale_55
            · have D34_15 := iNlt c34_15 rfl t_1
              refine lv_iload hx hb dX11_tale_37 (lv_at hl 5 rfl) ?_
              refine lv_sipush (v := 1000) hx hb dX11_tale_39 (by decide) ?_
              refine lv_icmp_gt (tgt := 54) hx hb dX11_tale_42 (by decide) (fun c42_16 => ?_) (fun c42_16 => ?_)
              · have D42_16 := iLt c42_16 t_1000 rfl
                refine lv_iconst (v := -1) hx hb dX11_tale_54 (by decide) ?_
                exact hret (-1) S _ _ _ _ (Or.inl ⟨by unfold tlC; have := t_40; omega, rfl, rfl⟩) hw rfl dX11_tale_55
              · have D42_16 := iNlt c42_16 t_1000 rfl
                refine lv_aload_n hx hb dX11_tale_45 rfl (lv_at hl 0 rfl) ?_
                refine gf_X11_224 (v := (pI S) 128 (ma 0)) X hw hM.1 rfl dX11_tale_46 ?_
                refine lv_bipush (v := 40) hx hb dX11_tale_49 (by decide) ?_
                refine lv_icmp_ne (tgt := 56) hx hb dX11_tale_51 (by decide) (fun c51_17 => ?_) (fun c51_17 => ?_)
                · have D51_17 := iNe c51_17 rfl t_40
                  refine lv_aload_n hx hb dX11_tale_56 rfl (lv_at hl 0 rfl) ?_
                  refine gf_X11_90 (b := (ma 24)) X hw hM.1 (mr_24 hM) dX11_tale_57 ?_
                  refine lv_aload_n hx hb dX11_tale_60 rfl (lv_at hl 0 rfl) ?_
                  refine gf_X11_224 (v := (pI S) 128 (ma 0)) X hw hM.1 rfl dX11_tale_61 ?_
                  refine lv_iload_n hx hb dX11_tale_64 rfl (lv_at hl 1 rfl) ?_
                  refine q_stI X hw (mk_24 hM) (vin (mn_24 hM) (by omega) (by omega)) dX11_tale_65 (fun H locs hw => ?_)
                  obtain ⟨q65_18, eq65_18, hw⟩ : ∃ zz9, zz9 = va_up (qI S) (ma 24) (upd ((qI S) (ma 24)) ((pI S) 128 (ma 0)).toNatClampNeg x) ∧ PX G A s.heap (ch S (pI S) (pJ S) zz9 (qJ S)) H locs := ⟨_, rfl, hw⟩
                  have c65 := eq65_18
                  refine lv_aload_n hx hb dX11_tale_66 rfl (lv_at hl 0 rfl) ?_
                  refine gf_X11_93 (b := (ma 25)) X hw hM.1 (mr_25 hM) dX11_tale_67 ?_
                  refine lv_aload_n hx hb dX11_tale_70 rfl (lv_at hl 0 rfl) ?_
                  refine gf_X11_224 (v := (pI S) 128 (ma 0)) X hw hM.1 rfl dX11_tale_71 ?_
                  refine lv_iload_n hx hb dX11_tale_74 rfl (lv_at hl 2 rfl) ?_
                  refine q_stI X hw (mk_25 hM) (vin (mn_25 hM) (by omega) (by omega)) dX11_tale_75 (fun H locs hw => ?_)
                  obtain ⟨q75_19, eq75_19, hw⟩ : ∃ zz9, zz9 = va_up q65_18 (ma 25) (upd (q65_18 (ma 25)) ((pI S) 128 (ma 0)).toNatClampNeg y) ∧ PX G A s.heap (ch S (pI S) (pJ S) zz9 (qJ S)) H locs := ⟨_, rfl, hw⟩
                  have c75 := eq75_19
                  refine lv_aload_n hx hb dX11_tale_76 rfl (lv_at hl 0 rfl) ?_
                  refine gf_X11_96 (b := (ma 26)) X hw hM.1 (mr_26 hM) dX11_tale_77 ?_
                  refine lv_aload_n hx hb dX11_tale_80 rfl (lv_at hl 0 rfl) ?_
                  refine gf_X11_224 (v := (pI S) 128 (ma 0)) X hw hM.1 rfl dX11_tale_81 ?_
                  refine lv_iload_n hx hb dX11_tale_84 rfl (lv_at hl 3 rfl) ?_
                  refine q_stI X hw (mk_26 hM) (vin (mn_26 hM) (by omega) (by omega)) dX11_tale_85 (fun H locs hw => ?_)
                  obtain ⟨q85_20, eq85_20, hw⟩ : ∃ zz9, zz9 = va_up q75_19 (ma 26) (upd (q75_19 (ma 26)) ((pI S) 128 (ma 0)).toNatClampNeg z) ∧ PX G A s.heap (ch S (pI S) (pJ S) zz9 (qJ S)) H locs := ⟨_, rfl, hw⟩
                  have c85 := eq85_20
                  refine lv_aload_n hx hb dX11_tale_86 rfl (lv_at hl 0 rfl) ?_
                  refine gf_X11_99 (b := (ma 27)) X hw hM.1 (mr_27 hM) dX11_tale_87 ?_
                  refine lv_aload_n hx hb dX11_tale_90 rfl (lv_at hl 0 rfl) ?_
                  refine gf_X11_224 (v := (pI S) 128 (ma 0)) X hw hM.1 rfl dX11_tale_91 ?_
                  refine lv_iload hx hb dX11_tale_94 (lv_at hl 4 rfl) ?_
                  refine q_stI X hw (mk_27 hM) (vin (mn_27 hM) (by omega) (by omega)) dX11_tale_96 (fun H locs hw => ?_)
                  obtain ⟨q96_21, eq96_21, hw⟩ : ∃ zz9, zz9 = va_up q85_20 (ma 27) (upd (q85_20 (ma 27)) ((pI S) 128 (ma 0)).toNatClampNeg u) ∧ PX G A s.heap (ch S (pI S) (pJ S) zz9 (qJ S)) H locs := ⟨_, rfl, hw⟩
                  have c96 := eq96_21
                  refine lv_aload_n hx hb dX11_tale_97 rfl (lv_at hl 0 rfl) ?_
                  refine gf_X11_102 (b := (ma 28)) X hw hM.1 (mr_28 hM) dX11_tale_98 ?_
                  refine lv_aload_n hx hb dX11_tale_101 rfl (lv_at hl 0 rfl) ?_
                  refine gf_X11_224 (v := (pI S) 128 (ma 0)) X hw hM.1 rfl dX11_tale_102 ?_
                  refine lv_iload hx hb dX11_tale_105 (lv_at hl 5 rfl) ?_
                  refine q_stI X hw (mk_28 hM) (vin (mn_28 hM) (by omega) (by omega)) dX11_tale_107 (fun H locs hw => ?_)
                  obtain ⟨q107_22, eq107_22, hw⟩ : ∃ zz9, zz9 = va_up q96_21 (ma 28) (upd (q96_21 (ma 28)) ((pI S) 128 (ma 0)).toNatClampNeg w) ∧ PX G A s.heap (ch S (pI S) (pJ S) zz9 (qJ S)) H locs := ⟨_, rfl, hw⟩
                  have c107 := eq107_22
                  refine lv_aload_n hx hb dX11_tale_108 rfl (lv_at hl 0 rfl) ?_
                  refine lv_dup hx hb dX11_tale_109 rfl ?_
                  refine gf_X11_224 (v := (pI S) 128 (ma 0)) X hw hM.1 rfl dX11_tale_110 ?_
                  refine lv_iconst (v := 1) hx hb dX11_tale_113 (by decide) ?_
                  refine lv_iadd hx hb dX11_tale_114 ?_
                  refine lv_topi (fun v114_23 e114_23 => ?_)
                  have t114_23 := iAdd e114_23 rfl t_1 (by omega) (by omega)
                  have t114 := t114_23
                  refine pf_X11_224 X hw hM.1 dX11_tale_115 (fun H locs hw => ?_)
                  have hw : PX G A s.heap (ch S (up2 (pI S) 128 (ma 0) v114_23) (pJ S) q107_22 (qJ S)) H locs := hw
                  refine lv_aload_n hx hb dX11_tale_118 rfl (lv_at hl 0 rfl) ?_
                  refine gf_X11_224 (v := v114_23) X hw hM.1 (show up2 (pI S) 128 (ma 0) v114_23 128 (ma 0) = v114_23 from up2_s) dX11_tale_119 ?_
                  refine lv_iconst (v := 1) hx hb dX11_tale_122 (by decide) ?_
                  refine lv_isub hx hb dX11_tale_123 ?_
                  refine lv_topi (fun v123_24 e123_24 => ?_)
                  have t123_24 := iSub e123_24 rfl t_1 (by omega) (by omega)
                  have t123 := t123_24
                  exact hret v123_24 (ch S (up2 (pI S) 128 (ma 0) v114_23) (pJ S) q107_22 (qJ S)) _ _ _ _ (Or.inr ⟨by unfold tlC; have := t_40; omega, by omega, _, _, rfl, mInv_tale hM hI (by assumption) t114 c65 c75 c85 c96 c107 (by omega) (by omega) (by omega) (by omega) (by omega), (by rw [show (up2 (pI S) 128 (ma 0) v114_23) 128 (ma 0) = (v114_23 : Int32) from (show up2 (pI S) 128 (ma 0) v114_23 128 (ma 0) = v114_23 from up2_s)]; omega), rfl, rfl, by rw [row_keep hM c107 (i := 40) (by decide) (by decide) (by decide), row_keep hM c96 (i := 40) (by decide) (by decide) (by decide), row_keep hM c85 (i := 40) (by decide) (by decide) (by decide), row_keep hM c75 (i := 40) (by decide) (by decide) (by decide), row_keep hM c65 (i := 40) (by decide) (by decide) (by decide)], (fun j9 h9 h8 => by rw [row_keep hM c107 (i := j9) h9 (by decide) (by omega), row_keep hM c96 (i := j9) h9 (by decide) (by omega), row_keep hM c85 (i := j9) h9 (by decide) (by omega), row_keep hM c75 (i := j9) h9 (by decide) (by omega), row_keep hM c65 (i := j9) h9 (by decide) (by omega)]), rfl, (by rw [row_keep hM c107 (i := 24) (by decide) (by decide) (by decide), row_keep hM c96 (i := 24) (by decide) (by decide) (by decide), row_keep hM c85 (i := 24) (by decide) (by decide) (by decide), row_keep hM c75 (i := 24) (by decide) (by decide) (by decide), up_s c65]), (by rw [row_keep hM c107 (i := 25) (by decide) (by decide) (by decide), row_keep hM c96 (i := 25) (by decide) (by decide) (by decide), row_keep hM c85 (i := 25) (by decide) (by decide) (by decide), up_s c75, row_keep hM c65 (i := 25) (by decide) (by decide) (by decide)]), (by rw [row_keep hM c107 (i := 26) (by decide) (by decide) (by decide), row_keep hM c96 (i := 26) (by decide) (by decide) (by decide), up_s c85, row_keep hM c75 (i := 26) (by decide) (by decide) (by decide), row_keep hM c65 (i := 26) (by decide) (by decide) (by decide)]), (by rw [row_keep hM c107 (i := 27) (by decide) (by decide) (by decide), up_s c96, row_keep hM c85 (i := 27) (by decide) (by decide) (by decide), row_keep hM c75 (i := 27) (by decide) (by decide) (by decide), row_keep hM c65 (i := 27) (by decide) (by decide) (by decide)]), (by rw [up_s c107, row_keep hM c96 (i := 28) (by decide) (by decide) (by decide), row_keep hM c85 (i := 28) (by decide) (by decide) (by decide), row_keep hM c75 (i := 28) (by decide) (by decide) (by decide), row_keep hM c65 (i := 28) (by decide) (by decide) (by decide)])⟩) hw rfl dX11_tale_124
                · have D51_17 := iEq c51_17 rfl t_40
                  refine lv_iconst (v := -1) hx hb dX11_tale_54 (by decide) ?_
                  exact hret (-1) S _ _ _ _ (Or.inl ⟨by unfold tlC; have := t_40; omega, rfl, rfl⟩) hw rfl dX11_tale_55
          · have h25_12 := h25_12
            refine lv_if_eq (tgt := 54) hx hb dX11_tale_28 (by decide) (fun c28_25 => ?_) (fun c28_25 => absurd c28_25 (by decide))
            refine lv_iconst (v := -1) hx hb dX11_tale_54 (by decide) ?_
            exact hret (-1) S _ _ _ _ (Or.inl ⟨by unfold tlC; have := t_40; omega, rfl, rfl⟩) hw rfl dX11_tale_55
        · have h17_8 := h17_8
          refine lv_if_eq (tgt := 54) hx hb dX11_tale_20 (by decide) (fun c20_26 => ?_) (fun c20_26 => absurd c20_26 (by decide))
          refine lv_iconst (v := -1) hx hb dX11_tale_54 (by decide) ?_
          exact hret (-1) S _ _ _ _ (Or.inl ⟨by unfold tlC; have := t_40; omega, rfl, rfl⟩) hw rfl dX11_tale_55
      · have h10_4 := h10_4
        refine lv_if_eq (tgt := 54) hx hb dX11_tale_13 (by decide) (fun c13_27 => ?_) (fun c13_27 => absurd c13_27 (by decide))
        refine lv_iconst (v := -1) hx hb dX11_tale_54 (by decide) ?_
        exact hret (-1) S _ _ _ _ (Or.inl ⟨by unfold tlC; have := t_40; omega, rfl, rfl⟩) hw rfl dX11_tale_55
set_option maxHeartbeats 4000000 in
set_option maxRecDepth 100000 in
theorem c_w_X11_prove (l : Launch) (G : Gh) (S : Pl) (ma : Nat → Nat) (a1 a2 a3 a4 a5 a6 a7 : Int32) (hM : shMod S ma) (hI : mInv (pI S) (qI S) ma) (h59 : (pI S 140 (ma 0)).toInt < 60) (h5 : cntB (qI S (ma 40)) (pI S 140 (ma 0)).toInt.toNat ≤ 5) (g1 : 0 ≤ a1.toInt ∧ a1.toInt ≤ 72) (g6 : 0 ≤ a6.toInt ∧ a6.toInt ≤ 2) (g7 : a6.toInt ≤ 1 → 0 ≤ a7.toInt ∧ a7.toInt ≤ 20) (g8 : 0 ≤ a7.toInt ∧ a7.toInt ≤ 100) : MtI l yX11_prove cX11_prove 8 (some .int) (Rm 0 0 0) G [.ref (ma 0), .int a1, .int a2, .int a3, .int a4, .int a5, .int a6, .int a7] S (fun (r : Int32) (S' : Pl) => ∃ I' q', ch S I' (pJ S) q' (qJ S) = S' ∧ mInv I' q' ma ∧ (I' 140 (ma 0)).toInt = (pI S 140 (ma 0)).toInt + 1 ∧ I' 102 (ma 0) = pI S 102 (ma 0) ∧ I' 128 (ma 0) = pI S 128 (ma 0) ∧ q' (ma 40) = upd (qI S (ma 40)) (pI S 140 (ma 0)).toNatClampNeg 0 ∧ (∀ j, j ≤ 45 → (j < 33 ∨ 40 < j) → q' (ma j) = qI S (ma j)) ∧ I' 120 (ma 0) = pI S 120 (ma 0) ∧ (q' (ma 33) = upd (qI S (ma 33)) (pI S 140 (ma 0)).toNatClampNeg a1 ∧ q' (ma 34) = upd (qI S (ma 34)) (pI S 140 (ma 0)).toNatClampNeg a2 ∧ q' (ma 35) = upd (qI S (ma 35)) (pI S 140 (ma 0)).toNatClampNeg a3 ∧ q' (ma 36) = upd (qI S (ma 36)) (pI S 140 (ma 0)).toNatClampNeg a4 ∧ q' (ma 37) = upd (qI S (ma 37)) (pI S 140 (ma 0)).toNatClampNeg a5 ∧ q' (ma 38) = upd (qI S (ma 38)) (pI S 140 (ma 0)).toNatClampNeg a6 ∧ q' (ma 39) = upd (qI S (ma 39)) (pI S 140 (ma 0)).toNatClampNeg a7) ∧ r.toInt = (pI S 140 (ma 0)).toInt) 0 0 := by
  refine MtI.of (by decide) (Nat.le_of_ble_eq_true rfl) ?_
  intro p e s m args below meth c Q A X hw hin hret ls hl
  have hx := X.1.1
  have hb := X.1.2.1
  have hl : lv_has ls 8 [(0, .ref (ma 0)), (1, .int a1), (2, .int a2), (3, .int a3), (4, .int a4), (5, .int a5), (6, .int a6), (7, .int a7)] := hl
  obtain ⟨⟨b1, b2, b3, b4, b5, b6⟩, hT, hP, hC⟩ := id hI
  refine lv_aload_n hx hb dX11_prove_0 rfl (lv_at hl 0 rfl) ?_
  refine gf_X11_105 (b := (ma 33)) X hw hM.1 (mr_33 hM) dX11_prove_1 ?_
  refine lv_aload_n hx hb dX11_prove_4 rfl (lv_at hl 0 rfl) ?_
  refine gf_X11_252 (v := (pI S) 140 (ma 0)) X hw hM.1 rfl dX11_prove_5 ?_
  refine lv_iload_n hx hb dX11_prove_8 rfl (lv_at hl 1 rfl) ?_
  refine q_stI X hw (mk_33 hM) (vin (mn_33 hM) (by omega) (by omega)) dX11_prove_9 (fun H locs hw => ?_)
  obtain ⟨q9_1, eq9_1, hw⟩ : ∃ zz9, zz9 = va_up (qI S) (ma 33) (upd ((qI S) (ma 33)) ((pI S) 140 (ma 0)).toNatClampNeg a1) ∧ PX G A s.heap (ch S (pI S) (pJ S) zz9 (qJ S)) H locs := ⟨_, rfl, hw⟩
  have c9 := eq9_1
  refine lv_aload_n hx hb dX11_prove_10 rfl (lv_at hl 0 rfl) ?_
  refine gf_X11_108 (b := (ma 34)) X hw hM.1 (mr_34 hM) dX11_prove_11 ?_
  refine lv_aload_n hx hb dX11_prove_14 rfl (lv_at hl 0 rfl) ?_
  refine gf_X11_252 (v := (pI S) 140 (ma 0)) X hw hM.1 rfl dX11_prove_15 ?_
  refine lv_iload_n hx hb dX11_prove_18 rfl (lv_at hl 2 rfl) ?_
  refine q_stI X hw (mk_34 hM) (vin (mn_34 hM) (by omega) (by omega)) dX11_prove_19 (fun H locs hw => ?_)
  obtain ⟨q19_2, eq19_2, hw⟩ : ∃ zz9, zz9 = va_up q9_1 (ma 34) (upd (q9_1 (ma 34)) ((pI S) 140 (ma 0)).toNatClampNeg a2) ∧ PX G A s.heap (ch S (pI S) (pJ S) zz9 (qJ S)) H locs := ⟨_, rfl, hw⟩
  have c19 := eq19_2
  refine lv_aload_n hx hb dX11_prove_20 rfl (lv_at hl 0 rfl) ?_
  refine gf_X11_111 (b := (ma 35)) X hw hM.1 (mr_35 hM) dX11_prove_21 ?_
  refine lv_aload_n hx hb dX11_prove_24 rfl (lv_at hl 0 rfl) ?_
  refine gf_X11_252 (v := (pI S) 140 (ma 0)) X hw hM.1 rfl dX11_prove_25 ?_
  refine lv_iload_n hx hb dX11_prove_28 rfl (lv_at hl 3 rfl) ?_
  refine q_stI X hw (mk_35 hM) (vin (mn_35 hM) (by omega) (by omega)) dX11_prove_29 (fun H locs hw => ?_)
  obtain ⟨q29_3, eq29_3, hw⟩ : ∃ zz9, zz9 = va_up q19_2 (ma 35) (upd (q19_2 (ma 35)) ((pI S) 140 (ma 0)).toNatClampNeg a3) ∧ PX G A s.heap (ch S (pI S) (pJ S) zz9 (qJ S)) H locs := ⟨_, rfl, hw⟩
  have c29 := eq29_3
  refine lv_aload_n hx hb dX11_prove_30 rfl (lv_at hl 0 rfl) ?_
  refine gf_X11_114 (b := (ma 36)) X hw hM.1 (mr_36 hM) dX11_prove_31 ?_
  refine lv_aload_n hx hb dX11_prove_34 rfl (lv_at hl 0 rfl) ?_
  refine gf_X11_252 (v := (pI S) 140 (ma 0)) X hw hM.1 rfl dX11_prove_35 ?_
  refine lv_iload hx hb dX11_prove_38 (lv_at hl 4 rfl) ?_
  refine q_stI X hw (mk_36 hM) (vin (mn_36 hM) (by omega) (by omega)) dX11_prove_40 (fun H locs hw => ?_)
  obtain ⟨q40_4, eq40_4, hw⟩ : ∃ zz9, zz9 = va_up q29_3 (ma 36) (upd (q29_3 (ma 36)) ((pI S) 140 (ma 0)).toNatClampNeg a4) ∧ PX G A s.heap (ch S (pI S) (pJ S) zz9 (qJ S)) H locs := ⟨_, rfl, hw⟩
  have c40 := eq40_4
  refine lv_aload_n hx hb dX11_prove_41 rfl (lv_at hl 0 rfl) ?_
  refine gf_X11_117 (b := (ma 37)) X hw hM.1 (mr_37 hM) dX11_prove_42 ?_
  refine lv_aload_n hx hb dX11_prove_45 rfl (lv_at hl 0 rfl) ?_
  refine gf_X11_252 (v := (pI S) 140 (ma 0)) X hw hM.1 rfl dX11_prove_46 ?_
  refine lv_iload hx hb dX11_prove_49 (lv_at hl 5 rfl) ?_
  refine q_stI X hw (mk_37 hM) (vin (mn_37 hM) (by omega) (by omega)) dX11_prove_51 (fun H locs hw => ?_)
  obtain ⟨q51_5, eq51_5, hw⟩ : ∃ zz9, zz9 = va_up q40_4 (ma 37) (upd (q40_4 (ma 37)) ((pI S) 140 (ma 0)).toNatClampNeg a5) ∧ PX G A s.heap (ch S (pI S) (pJ S) zz9 (qJ S)) H locs := ⟨_, rfl, hw⟩
  have c51 := eq51_5
  refine lv_aload_n hx hb dX11_prove_52 rfl (lv_at hl 0 rfl) ?_
  refine gf_X11_120 (b := (ma 38)) X hw hM.1 (mr_38 hM) dX11_prove_53 ?_
  refine lv_aload_n hx hb dX11_prove_56 rfl (lv_at hl 0 rfl) ?_
  refine gf_X11_252 (v := (pI S) 140 (ma 0)) X hw hM.1 rfl dX11_prove_57 ?_
  refine lv_iload hx hb dX11_prove_60 (lv_at hl 6 rfl) ?_
  refine q_stI X hw (mk_38 hM) (vin (mn_38 hM) (by omega) (by omega)) dX11_prove_62 (fun H locs hw => ?_)
  obtain ⟨q62_6, eq62_6, hw⟩ : ∃ zz9, zz9 = va_up q51_5 (ma 38) (upd (q51_5 (ma 38)) ((pI S) 140 (ma 0)).toNatClampNeg a6) ∧ PX G A s.heap (ch S (pI S) (pJ S) zz9 (qJ S)) H locs := ⟨_, rfl, hw⟩
  have c62 := eq62_6
  refine lv_aload_n hx hb dX11_prove_63 rfl (lv_at hl 0 rfl) ?_
  refine gf_X11_123 (b := (ma 39)) X hw hM.1 (mr_39 hM) dX11_prove_64 ?_
  refine lv_aload_n hx hb dX11_prove_67 rfl (lv_at hl 0 rfl) ?_
  refine gf_X11_252 (v := (pI S) 140 (ma 0)) X hw hM.1 rfl dX11_prove_68 ?_
  refine lv_iload hx hb dX11_prove_71 (lv_at hl 7 rfl) ?_
  refine q_stI X hw (mk_39 hM) (vin (mn_39 hM) (by omega) (by omega)) dX11_prove_73 (fun H locs hw => ?_)
  obtain ⟨q73_7, eq73_7, hw⟩ : ∃ zz9, zz9 = va_up q62_6 (ma 39) (upd (q62_6 (ma 39)) ((pI S) 140 (ma 0)).toNatClampNeg a7) ∧ PX G A s.heap (ch S (pI S) (pJ S) zz9 (qJ S)) H locs := ⟨_, rfl, hw⟩
  have c73 := eq73_7
  refine lv_aload_n hx hb dX11_prove_74 rfl (lv_at hl 0 rfl) ?_
  refine gf_X11_126 (b := (ma 40)) X hw hM.1 (mr_40 hM) dX11_prove_75 ?_
  refine lv_aload_n hx hb dX11_prove_78 rfl (lv_at hl 0 rfl) ?_
  refine gf_X11_252 (v := (pI S) 140 (ma 0)) X hw hM.1 rfl dX11_prove_79 ?_
  refine lv_iconst (v := 0) hx hb dX11_prove_82 (by decide) ?_
  refine q_stZ X hw (mk_40 hM) (vin (mn_40 hM) (by omega) (by omega)) dX11_prove_83 (fun H locs hw => ?_)
  obtain ⟨q83_8, eq83_8, hw⟩ : ∃ zz9, zz9 = va_up q73_7 (ma 40) (upd (q73_7 (ma 40)) ((pI S) 140 (ma 0)).toNatClampNeg (vp_nar .boolean 0)) ∧ PX G A s.heap (ch S (pI S) (pJ S) zz9 (qJ S)) H locs := ⟨_, rfl, hw⟩
  have c83 := eq83_8
  refine lv_aload_n hx hb dX11_prove_84 rfl (lv_at hl 0 rfl) ?_
  refine lv_dup hx hb dX11_prove_85 rfl ?_
  refine gf_X11_252 (v := (pI S) 140 (ma 0)) X hw hM.1 rfl dX11_prove_86 ?_
  refine lv_iconst (v := 1) hx hb dX11_prove_89 (by decide) ?_
  refine lv_iadd hx hb dX11_prove_90 ?_
  refine lv_topi (fun v90_9 e90_9 => ?_)
  have t90_9 := iAdd e90_9 rfl t_1 (by omega) (by omega)
  have t90 := t90_9
  refine pf_X11_252 X hw hM.1 dX11_prove_91 (fun H locs hw => ?_)
  have hw : PX G A s.heap (ch S (up2 (pI S) 140 (ma 0) v90_9) (pJ S) q83_8 (qJ S)) H locs := hw
  refine lv_aload_n hx hb dX11_prove_94 rfl (lv_at hl 0 rfl) ?_
  refine gf_X11_252 (v := v90_9) X hw hM.1 (show up2 (pI S) 140 (ma 0) v90_9 140 (ma 0) = v90_9 from up2_s) dX11_prove_95 ?_
  refine lv_iconst (v := 1) hx hb dX11_prove_98 (by decide) ?_
  refine lv_isub hx hb dX11_prove_99 ?_
  refine lv_topi (fun v99_10 e99_10 => ?_)
  have t99_10 := iSub e99_10 rfl t_1 (by omega) (by omega)
  have t99 := t99_10
  exact hret v99_10 _ _ _ _ _ ⟨_, _, rfl, mInv_prove hM hI t90 h59 h5 (fun i hi h => by rw [row_keep hM c83 hi (by decide) (by omega), row_keep hM c73 hi (by decide) (by omega), row_keep hM c62 hi (by decide) (by omega), row_keep hM c51 hi (by decide) (by omega), row_keep hM c40 hi (by decide) (by omega), row_keep hM c29 hi (by decide) (by omega), row_keep hM c19 hi (by decide) (by omega), row_keep hM c9 hi (by decide) (by omega)]) (by rw [row_keep hM c83 (i := 33) (by decide) (by decide) (by decide), row_keep hM c73 (i := 33) (by decide) (by decide) (by decide), row_keep hM c62 (i := 33) (by decide) (by decide) (by decide), row_keep hM c51 (i := 33) (by decide) (by decide) (by decide), row_keep hM c40 (i := 33) (by decide) (by decide) (by decide), row_keep hM c29 (i := 33) (by decide) (by decide) (by decide), row_keep hM c19 (i := 33) (by decide) (by decide) (by decide), c9, vu_s]) (by rw [row_keep hM c83 (i := 38) (by decide) (by decide) (by decide), row_keep hM c73 (i := 38) (by decide) (by decide) (by decide), c62, vu_s, row_keep hM c51 (i := 38) (by decide) (by decide) (by decide), row_keep hM c40 (i := 38) (by decide) (by decide) (by decide), row_keep hM c29 (i := 38) (by decide) (by decide) (by decide), row_keep hM c19 (i := 38) (by decide) (by decide) (by decide), row_keep hM c9 (i := 38) (by decide) (by decide) (by decide)]) (by rw [row_keep hM c83 (i := 39) (by decide) (by decide) (by decide), c73, vu_s, row_keep hM c62 (i := 39) (by decide) (by decide) (by decide), row_keep hM c51 (i := 39) (by decide) (by decide) (by decide), row_keep hM c40 (i := 39) (by decide) (by decide) (by decide), row_keep hM c29 (i := 39) (by decide) (by decide) (by decide), row_keep hM c19 (i := 39) (by decide) (by decide) (by decide), row_keep hM c9 (i := 39) (by decide) (by decide) (by decide)]) (by rw [c83, vu_s, row_keep hM c73 (i := 40) (by decide) (by decide) (by decide), row_keep hM c62 (i := 40) (by decide) (by decide) (by decide), row_keep hM c51 (i := 40) (by decide) (by decide) (by decide), row_keep hM c40 (i := 40) (by decide) (by decide) (by decide), row_keep hM c29 (i := 40) (by decide) (by decide) (by decide), row_keep hM c19 (i := 40) (by decide) (by decide) (by decide), row_keep hM c9 (i := 40) (by decide) (by decide) (by decide)]) g1 g6 g7 g8, (by rw [show (up2 (pI S) 140 (ma 0) v90_9) 140 (ma 0) = (v90_9 : Int32) from (show up2 (pI S) 140 (ma 0) v90_9 140 (ma 0) = v90_9 from up2_s)]; omega), rfl, rfl, (by rw [c83, vu_s, row_keep hM c73 (i := 40) (by decide) (by decide) (by decide), row_keep hM c62 (i := 40) (by decide) (by decide) (by decide), row_keep hM c51 (i := 40) (by decide) (by decide) (by decide), row_keep hM c40 (i := 40) (by decide) (by decide) (by decide), row_keep hM c29 (i := 40) (by decide) (by decide) (by decide), row_keep hM c19 (i := 40) (by decide) (by decide) (by decide), row_keep hM c9 (i := 40) (by decide) (by decide) (by decide)]; rfl), (fun j9 h9 h8 => by rw [row_keep hM c83 (i := j9) h9 (by decide) (by omega), row_keep hM c73 (i := j9) h9 (by decide) (by omega), row_keep hM c62 (i := j9) h9 (by decide) (by omega), row_keep hM c51 (i := j9) h9 (by decide) (by omega), row_keep hM c40 (i := j9) h9 (by decide) (by omega), row_keep hM c29 (i := j9) h9 (by decide) (by omega), row_keep hM c19 (i := j9) h9 (by decide) (by omega), row_keep hM c9 (i := j9) h9 (by decide) (by omega)]), rfl, ⟨(by rw [row_keep hM c83 (i := 33) (by decide) (by decide) (by decide), row_keep hM c73 (i := 33) (by decide) (by decide) (by decide), row_keep hM c62 (i := 33) (by decide) (by decide) (by decide), row_keep hM c51 (i := 33) (by decide) (by decide) (by decide), row_keep hM c40 (i := 33) (by decide) (by decide) (by decide), row_keep hM c29 (i := 33) (by decide) (by decide) (by decide), row_keep hM c19 (i := 33) (by decide) (by decide) (by decide), up_s c9]), (by rw [row_keep hM c83 (i := 34) (by decide) (by decide) (by decide), row_keep hM c73 (i := 34) (by decide) (by decide) (by decide), row_keep hM c62 (i := 34) (by decide) (by decide) (by decide), row_keep hM c51 (i := 34) (by decide) (by decide) (by decide), row_keep hM c40 (i := 34) (by decide) (by decide) (by decide), row_keep hM c29 (i := 34) (by decide) (by decide) (by decide), up_s c19, row_keep hM c9 (i := 34) (by decide) (by decide) (by decide)]), (by rw [row_keep hM c83 (i := 35) (by decide) (by decide) (by decide), row_keep hM c73 (i := 35) (by decide) (by decide) (by decide), row_keep hM c62 (i := 35) (by decide) (by decide) (by decide), row_keep hM c51 (i := 35) (by decide) (by decide) (by decide), row_keep hM c40 (i := 35) (by decide) (by decide) (by decide), up_s c29, row_keep hM c19 (i := 35) (by decide) (by decide) (by decide), row_keep hM c9 (i := 35) (by decide) (by decide) (by decide)]), (by rw [row_keep hM c83 (i := 36) (by decide) (by decide) (by decide), row_keep hM c73 (i := 36) (by decide) (by decide) (by decide), row_keep hM c62 (i := 36) (by decide) (by decide) (by decide), row_keep hM c51 (i := 36) (by decide) (by decide) (by decide), up_s c40, row_keep hM c29 (i := 36) (by decide) (by decide) (by decide), row_keep hM c19 (i := 36) (by decide) (by decide) (by decide), row_keep hM c9 (i := 36) (by decide) (by decide) (by decide)]), (by rw [row_keep hM c83 (i := 37) (by decide) (by decide) (by decide), row_keep hM c73 (i := 37) (by decide) (by decide) (by decide), row_keep hM c62 (i := 37) (by decide) (by decide) (by decide), up_s c51, row_keep hM c40 (i := 37) (by decide) (by decide) (by decide), row_keep hM c29 (i := 37) (by decide) (by decide) (by decide), row_keep hM c19 (i := 37) (by decide) (by decide) (by decide), row_keep hM c9 (i := 37) (by decide) (by decide) (by decide)]), (by rw [row_keep hM c83 (i := 38) (by decide) (by decide) (by decide), row_keep hM c73 (i := 38) (by decide) (by decide) (by decide), up_s c62, row_keep hM c51 (i := 38) (by decide) (by decide) (by decide), row_keep hM c40 (i := 38) (by decide) (by decide) (by decide), row_keep hM c29 (i := 38) (by decide) (by decide) (by decide), row_keep hM c19 (i := 38) (by decide) (by decide) (by decide), row_keep hM c9 (i := 38) (by decide) (by decide) (by decide)]), (by rw [row_keep hM c83 (i := 39) (by decide) (by decide) (by decide), up_s c73, row_keep hM c62 (i := 39) (by decide) (by decide) (by decide), row_keep hM c51 (i := 39) (by decide) (by decide) (by decide), row_keep hM c40 (i := 39) (by decide) (by decide) (by decide), row_keep hM c29 (i := 39) (by decide) (by decide) (by decide), row_keep hM c19 (i := 39) (by decide) (by decide) (by decide), row_keep hM c9 (i := 39) (by decide) (by decide) (by decide)])⟩, by omega⟩ hw rfl dX11_prove_100
set_option maxHeartbeats 4000000 in
set_option maxRecDepth 100000 in
theorem c_w_X11_search (l : Launch) (G : Gh) (S : Pl) (ma : Nat → Nat) (a1 a2 a3 a4 a5 a6 a7 : Int32) (hM : shMod S ma) (hI : mInv (pI S) (qI S) ma) : MtI l yX11_search cX11_search 8 (some .int) (Rm 2 0 0) G [.ref (ma 0), .int a1, .int a2, .int a3, .int a4, .int a5, .int a6, .int a7] S (fun (r : Int32) (S' : Pl) => (¬ srC a1 a2 a3 a4 a5 a6 a7 (pI S 140 (ma 0)).toInt.toNat (cntB (qI S (ma 40)) (pI S 140 (ma 0)).toInt.toNat) ∧ r = -1 ∧ S = S') ∨ (srC a1 a2 a3 a4 a5 a6 a7 (pI S 140 (ma 0)).toInt.toNat (cntB (qI S (ma 40)) (pI S 140 (ma 0)).toInt.toNat) ∧ r.toInt = (pI S 140 (ma 0)).toInt ∧ ∃ I' q', ch S I' (pJ S) q' (qJ S) = S' ∧ mInv I' q' ma ∧ (I' 140 (ma 0)).toInt = (pI S 140 (ma 0)).toInt + 1 ∧ I' 102 (ma 0) = pI S 102 (ma 0) ∧ I' 128 (ma 0) = pI S 128 (ma 0) ∧ q' (ma 40) = upd (qI S (ma 40)) (pI S 140 (ma 0)).toNatClampNeg 0 ∧ (∀ j, j ≤ 45 → (j < 33 ∨ 40 < j) → q' (ma j) = qI S (ma j)) ∧ I' 120 (ma 0) = pI S 120 (ma 0) ∧ q' (ma 33) = upd (qI S (ma 33)) (pI S 140 (ma 0)).toNatClampNeg a1 ∧ q' (ma 34) = upd (qI S (ma 34)) (pI S 140 (ma 0)).toNatClampNeg a2 ∧ q' (ma 35) = upd (qI S (ma 35)) (pI S 140 (ma 0)).toNatClampNeg a3 ∧ q' (ma 36) = upd (qI S (ma 36)) (pI S 140 (ma 0)).toNatClampNeg a4 ∧ q' (ma 37) = upd (qI S (ma 37)) (pI S 140 (ma 0)).toNatClampNeg a5 ∧ q' (ma 38) = upd (qI S (ma 38)) (pI S 140 (ma 0)).toNatClampNeg a6 ∧ q' (ma 39) = upd (qI S (ma 39)) (pI S 140 (ma 0)).toNatClampNeg a7)) 0 0 := by
  refine MtI.of (by decide) (Nat.le_of_ble_eq_true rfl) ?_
  intro p e s m args below meth c Q A X hw hin hret ls hl
  have hx := X.1.1
  have hb := X.1.2.1
  have hl : lv_has ls 8 [(0, .ref (ma 0)), (1, .int a1), (2, .int a2), (3, .int a3), (4, .int a4), (5, .int a5), (6, .int a6), (7, .int a7)] := hl
  obtain ⟨⟨b1, b2, b3, b4, b5, b6⟩, hT, hP, hC⟩ := id hI
  unfold mC at hC
  refine lv_iload_n hx hb dX11_search_0 rfl (lv_at hl 1 rfl) ?_
  refine k_Si (n := 1) X hw (c_X11_isMoment l G _ a1) wd_r31_0 wd_r31_1 wd_r1_5 wd_r31_2 ⟨by decide, by decide, by decide +kernel⟩ rfl rfl ⟨Nat.le_of_ble_eq_true rfl, Nat.le_of_ble_eq_true rfl⟩ rfl rfl hl.1 (Nat.le_of_ble_eq_true rfl) dX11_search_1 ⟨Nat.le_of_ble_eq_true rfl, Nat.le_of_ble_eq_true rfl⟩ (fun r1_1 S1_3 H locs h1_2 hw => ?_)
  rcases h1_2 with ⟨rfl, rfl, h1_2⟩ | ⟨rfl, rfl, h1_2⟩
  · have h1_2 := h1_2
    refine lv_if_eq (tgt := 68) hx hb dX11_search_4 (by decide) (fun c4_4 => absurd c4_4 (by decide)) (fun c4_4 => ?_)
    refine lv_iload_n hx hb dX11_search_7 rfl (lv_at hl 2 rfl) ?_
    refine lv_if_lt (tgt := 68) hx hb dX11_search_8 (by decide) (fun c8_5 => ?_) (fun c8_5 => ?_)
    · have D8_5 := iLt c8_5 rfl t_0
      refine lv_iconst (v := -1) hx hb dX11_search_68 (by decide) ?_
      exact hret (-1) S _ _ _ _ (Or.inl ⟨by unfold srC; omega, rfl, rfl⟩) hw rfl dX11_search_69
    · have D8_5 := iNlt c8_5 rfl t_0
      refine lv_iload_n hx hb dX11_search_11 rfl (lv_at hl 3 rfl) ?_
      refine lv_iload_n hx hb dX11_search_12 rfl (lv_at hl 2 rfl) ?_
      refine lv_icmp_lt (tgt := 68) hx hb dX11_search_13 (by decide) (fun c13_6 => ?_) (fun c13_6 => ?_)
      · have D13_6 := iLt c13_6 rfl rfl
        refine lv_iconst (v := -1) hx hb dX11_search_68 (by decide) ?_
        exact hret (-1) S _ _ _ _ (Or.inl ⟨by unfold srC; omega, rfl, rfl⟩) hw rfl dX11_search_69
      · have D13_6 := iNlt c13_6 rfl rfl
        refine lv_iload_n hx hb dX11_search_16 rfl (lv_at hl 3 rfl) ?_
        refine lv_bipush (v := 7) hx hb dX11_search_17 (by decide) ?_
        refine lv_icmp_gt (tgt := 68) hx hb dX11_search_19 (by decide) (fun c19_7 => ?_) (fun c19_7 => ?_)
        · have D19_7 := iLt c19_7 t_7 rfl
          refine lv_iconst (v := -1) hx hb dX11_search_68 (by decide) ?_
          exact hret (-1) S _ _ _ _ (Or.inl ⟨by unfold srC; omega, rfl, rfl⟩) hw rfl dX11_search_69
        · have D19_7 := iNlt c19_7 t_7 rfl
          refine lv_iload hx hb dX11_search_22 (lv_at hl 4 rfl) ?_
          refine lv_if_lt (tgt := 68) hx hb dX11_search_24 (by decide) (fun c24_8 => ?_) (fun c24_8 => ?_)
          · have D24_8 := iLt c24_8 rfl t_0
            refine lv_iconst (v := -1) hx hb dX11_search_68 (by decide) ?_
            exact hret (-1) S _ _ _ _ (Or.inl ⟨by unfold srC; omega, rfl, rfl⟩) hw rfl dX11_search_69
          · have D24_8 := iNlt c24_8 rfl t_0
            refine lv_iload hx hb dX11_search_27 (lv_at hl 5 rfl) ?_
            refine lv_iload hx hb dX11_search_29 (lv_at hl 4 rfl) ?_
            refine lv_icmp_lt (tgt := 68) hx hb dX11_search_31 (by decide) (fun c31_9 => ?_) (fun c31_9 => ?_)
            · have D31_9 := iLt c31_9 rfl rfl
              refine lv_iconst (v := -1) hx hb dX11_search_68 (by decide) ?_
              exact hret (-1) S _ _ _ _ (Or.inl ⟨by unfold srC; omega, rfl, rfl⟩) hw rfl dX11_search_69
            · have D31_9 := iNlt c31_9 rfl rfl
              refine lv_iload hx hb dX11_search_34 (lv_at hl 5 rfl) ?_
              refine lv_bipush (v := 7) hx hb dX11_search_36 (by decide) ?_
              refine lv_icmp_gt (tgt := 68) hx hb dX11_search_38 (by decide) (fun c38_10 => ?_) (fun c38_10 => ?_)
              · have D38_10 := iLt c38_10 t_7 rfl
                refine lv_iconst (v := -1) hx hb dX11_search_68 (by decide) ?_
                exact hret (-1) S _ _ _ _ (Or.inl ⟨by unfold srC; omega, rfl, rfl⟩) hw rfl dX11_search_69
              · have D38_10 := iNlt c38_10 t_7 rfl
                refine lv_iload hx hb dX11_search_41 (lv_at hl 6 rfl) ?_
                refine k_Si (n := 1) X hw (c_X11_isSort l G _ a6) wd_r26_3 wd_r26_4 wd_r1_5 wd_r26_5 ⟨by decide, by decide, by decide +kernel⟩ rfl rfl ⟨Nat.le_of_ble_eq_true rfl, Nat.le_of_ble_eq_true rfl⟩ rfl rfl hl.1 (Nat.le_of_ble_eq_true rfl) dX11_search_43 ⟨Nat.le_of_ble_eq_true rfl, Nat.le_of_ble_eq_true rfl⟩ (fun r43_11 S43_13 H locs h43_12 hw => ?_)
                rcases h43_12 with ⟨rfl, rfl, h43_12⟩ | ⟨rfl, rfl, h43_12⟩
                · have h43_12 := h43_12
                  refine lv_if_eq (tgt := 68) hx hb dX11_search_46 (by decide) (fun c46_14 => absurd c46_14 (by decide)) (fun c46_14 => ?_)
                  refine lv_iload hx hb dX11_search_49 (lv_at hl 7 rfl) ?_
                  refine lv_if_lt (tgt := 68) hx hb dX11_search_51 (by decide) (fun c51_15 => ?_) (fun c51_15 => ?_)
                  · have D51_15 := iLt c51_15 rfl t_0
                    refine lv_iconst (v := -1) hx hb dX11_search_68 (by decide) ?_
                    exact hret (-1) S _ _ _ _ (Or.inl ⟨by unfold srC; omega, rfl, rfl⟩) hw rfl dX11_search_69
                  · have D51_15 := iNlt c51_15 rfl t_0
                    refine lv_iload hx hb dX11_search_54 (lv_at hl 7 rfl) ?_
                    refine lv_bipush (v := 20) hx hb dX11_search_56 (by decide) ?_
                    refine lv_icmp_gt (tgt := 68) hx hb dX11_search_58 (by decide) (fun c58_16 => ?_) (fun c58_16 => ?_)
                    · have D58_16 := iLt c58_16 t_20 rfl
                      refine lv_iconst (v := -1) hx hb dX11_search_68 (by decide) ?_
                      exact hret (-1) S _ _ _ _ (Or.inl ⟨by unfold srC; omega, rfl, rfl⟩) hw rfl dX11_search_69
                    · have D58_16 := iNlt c58_16 t_20 rfl
                      refine lv_aload_n hx hb dX11_search_61 rfl (lv_at hl 0 rfl) ?_
                      refine k_Vi (n := 0) X hw (rcvk (ci := 11) X hw hM.1 (fun _ _ _ _ _ _ _ => ⟨_, rfl⟩) rfl) (c_X11_isFull l G _ ma hM hI) wd_r33_16 wd_r33_17 wd_r33_18 wd_r1_5 wd_r33_19 ⟨by decide, by decide, by decide +kernel⟩ rfl rfl ⟨Nat.le_of_ble_eq_true rfl, Nat.le_of_ble_eq_true rfl⟩ rfl rfl hl.1 (Nat.le_of_ble_eq_true rfl) dX11_search_62 ⟨Nat.le_of_ble_eq_true rfl, Nat.le_of_ble_eq_true rfl⟩ (fun r62_17 S62_19 H locs h62_18 hw => ?_)
                      rcases h62_18 with ⟨rfl, rfl, h62_18⟩ | ⟨rfl, rfl, h62_18⟩
                      · have h62_18 := h62_18
                        refine lv_if_eq (tgt := 70) hx hb dX11_search_65 (by decide) (fun c65_20 => absurd c65_20 (by decide)) (fun c65_20 => ?_)
                        refine lv_iconst (v := -1) hx hb dX11_search_68 (by decide) ?_
                        exact hret (-1) S _ _ _ _ (Or.inl ⟨by unfold srC; omega, rfl, rfl⟩) hw rfl dX11_search_69
                      · have h62_18 := h62_18
                        refine lv_if_eq (tgt := 70) hx hb dX11_search_65 (by decide) (fun c65_21 => ?_) (fun c65_21 => absurd c65_21 (by decide))
                        refine lv_aload_n hx hb dX11_search_70 rfl (lv_at hl 0 rfl) ?_
                        refine lv_iload_n hx hb dX11_search_71 rfl (lv_at hl 1 rfl) ?_
                        refine lv_iload_n hx hb dX11_search_72 rfl (lv_at hl 2 rfl) ?_
                        refine lv_iload_n hx hb dX11_search_73 rfl (lv_at hl 3 rfl) ?_
                        refine lv_iload hx hb dX11_search_74 (lv_at hl 4 rfl) ?_
                        refine lv_iload hx hb dX11_search_76 (lv_at hl 5 rfl) ?_
                        refine lv_iload hx hb dX11_search_78 (lv_at hl 6 rfl) ?_
                        refine lv_iload hx hb dX11_search_80 (lv_at hl 7 rfl) ?_
                        refine k_Vi (n := 7) X hw (rcvk (ci := 11) X hw hM.1 (fun _ _ _ _ _ _ _ => ⟨_, rfl⟩) rfl) (c_w_X11_prove l G _ ma a1 a2 a3 a4 a5 a6 a7 hM hI (by omega) (by omega) (by omega) (by first | omega | decide) (by first | omega | (intro h; exact absurd h (by decide))) (by omega)) wd_r34_1 wd_r34_2 wd_r34_3 wd_r1_5 wd_r34_4 ⟨by decide, by decide, by decide +kernel⟩ rfl rfl ⟨Nat.le_of_ble_eq_true rfl, Nat.le_of_ble_eq_true rfl⟩ rfl rfl hl.1 (Nat.le_of_ble_eq_true rfl) dX11_search_82 ⟨Nat.le_of_ble_eq_true rfl, Nat.le_of_ble_eq_true rfl⟩ (fun r82_22 S82_24 H locs h82_23 hw => ?_)
                        obtain ⟨I82_25, q82_26, rfl, h82_23⟩ := h82_23
                        have hw : PX G A s.heap (ch S I82_25 (pJ S) q82_26 (qJ S)) H locs := hw
                        have HPV := h82_23
                        exact hret r82_22 (ch S I82_25 (pJ S) q82_26 (qJ S)) _ _ _ _ (Or.inr ⟨by unfold srC; omega, HPV.2.2.2.2.2.2.2.2, _, _, rfl, HPV.1, HPV.2.1, HPV.2.2.1, HPV.2.2.2.1, HPV.2.2.2.2.1, HPV.2.2.2.2.2.1, HPV.2.2.2.2.2.2.1, HPV.2.2.2.2.2.2.2.1⟩) hw rfl dX11_search_85
                · have h43_12 := h43_12
                  refine lv_if_eq (tgt := 68) hx hb dX11_search_46 (by decide) (fun c46_27 => ?_) (fun c46_27 => absurd c46_27 (by decide))
                  refine lv_iconst (v := -1) hx hb dX11_search_68 (by decide) ?_
                  exact hret (-1) S _ _ _ _ (Or.inl ⟨by unfold srC; omega, rfl, rfl⟩) hw rfl dX11_search_69
  · have h1_2 := h1_2
    refine lv_if_eq (tgt := 68) hx hb dX11_search_4 (by decide) (fun c4_28 => ?_) (fun c4_28 => absurd c4_28 (by decide))
    refine lv_iconst (v := -1) hx hb dX11_search_68 (by decide) ?_
    exact hret (-1) S _ _ _ _ (Or.inl ⟨by unfold srC; omega, rfl, rfl⟩) hw rfl dX11_search_69
set_option maxHeartbeats 4000000 in
set_option maxRecDepth 100000 in
theorem c_w_X11_clue (l : Launch) (G : Gh) (S : Pl) (ma : Nat → Nat) (a1 a2 a3 a4 a5 : Int32) (hM : shMod S ma) (hI : mInv (pI S) (qI S) ma) : MtI l yX11_clue cX11_clue 6 (some .int) (Rm 2 0 0) G [.ref (ma 0), .int a1, .int a2, .int a3, .int a4, .int a5] S (fun (r : Int32) (S' : Pl) => (¬ clC a1 a2 a3 a4 a5 (pI S 140 (ma 0)).toInt.toNat (cntB (qI S (ma 40)) (pI S 140 (ma 0)).toInt.toNat) ∧ r = -1 ∧ S = S') ∨ (clC a1 a2 a3 a4 a5 (pI S 140 (ma 0)).toInt.toNat (cntB (qI S (ma 40)) (pI S 140 (ma 0)).toInt.toNat) ∧ r.toInt = (pI S 140 (ma 0)).toInt ∧ ∃ I' q', ch S I' (pJ S) q' (qJ S) = S' ∧ mInv I' q' ma ∧ (I' 140 (ma 0)).toInt = (pI S 140 (ma 0)).toInt + 1 ∧ I' 102 (ma 0) = pI S 102 (ma 0) ∧ I' 128 (ma 0) = pI S 128 (ma 0) ∧ q' (ma 40) = upd (qI S (ma 40)) (pI S 140 (ma 0)).toNatClampNeg 0 ∧ (∀ j, j ≤ 45 → (j < 33 ∨ 40 < j) → q' (ma j) = qI S (ma j)) ∧ I' 120 (ma 0) = pI S 120 (ma 0) ∧ q' (ma 33) = upd (qI S (ma 33)) (pI S 140 (ma 0)).toNatClampNeg a1 ∧ q' (ma 34) = upd (qI S (ma 34)) (pI S 140 (ma 0)).toNatClampNeg a2 ∧ q' (ma 35) = upd (qI S (ma 35)) (pI S 140 (ma 0)).toNatClampNeg a3 ∧ q' (ma 36) = upd (qI S (ma 36)) (pI S 140 (ma 0)).toNatClampNeg a4 ∧ q' (ma 37) = upd (qI S (ma 37)) (pI S 140 (ma 0)).toNatClampNeg 0 ∧ q' (ma 38) = upd (qI S (ma 38)) (pI S 140 (ma 0)).toNatClampNeg 2 ∧ q' (ma 39) = upd (qI S (ma 39)) (pI S 140 (ma 0)).toNatClampNeg a5)) 0 0 := by
  refine MtI.of (by decide) (Nat.le_of_ble_eq_true rfl) ?_
  intro p e s m args below meth c Q A X hw hin hret ls hl
  have hx := X.1.1
  have hb := X.1.2.1
  have hl : lv_has ls 6 [(0, .ref (ma 0)), (1, .int a1), (2, .int a2), (3, .int a3), (4, .int a4), (5, .int a5)] := hl
  obtain ⟨⟨b1, b2, b3, b4, b5, b6⟩, hT, hP, hC⟩ := id hI
  unfold mC at hC
  refine lv_iload_n hx hb dX11_clue_0 rfl (lv_at hl 1 rfl) ?_
  refine k_Si (n := 1) X hw (c_X11_isMoment l G _ a1) wd_r31_0 wd_r31_1 wd_r1_5 wd_r31_2 ⟨by decide, by decide, by decide +kernel⟩ rfl rfl ⟨Nat.le_of_ble_eq_true rfl, Nat.le_of_ble_eq_true rfl⟩ rfl rfl hl.1 (Nat.le_of_ble_eq_true rfl) dX11_clue_1 ⟨Nat.le_of_ble_eq_true rfl, Nat.le_of_ble_eq_true rfl⟩ (fun r1_1 S1_3 H locs h1_2 hw => ?_)
  rcases h1_2 with ⟨rfl, rfl, h1_2⟩ | ⟨rfl, rfl, h1_2⟩
  · have h1_2 := h1_2
    refine lv_if_eq (tgt := 52) hx hb dX11_clue_4 (by decide) (fun c4_4 => absurd c4_4 (by decide)) (fun c4_4 => ?_)
    refine lv_iload_n hx hb dX11_clue_7 rfl (lv_at hl 2 rfl) ?_
    refine k_Si (n := 1) X hw (c_X11_isPoint l G _ a2) wd_r29_19 wd_r29_20 wd_r1_5 wd_r29_21 ⟨by decide, by decide, by decide +kernel⟩ rfl rfl ⟨Nat.le_of_ble_eq_true rfl, Nat.le_of_ble_eq_true rfl⟩ rfl rfl hl.1 (Nat.le_of_ble_eq_true rfl) dX11_clue_8 ⟨Nat.le_of_ble_eq_true rfl, Nat.le_of_ble_eq_true rfl⟩ (fun r8_5 S8_7 H locs h8_6 hw => ?_)
    rcases h8_6 with ⟨rfl, rfl, h8_6⟩ | ⟨rfl, rfl, h8_6⟩
    · have h8_6 := h8_6
      refine lv_if_eq (tgt := 52) hx hb dX11_clue_11 (by decide) (fun c11_8 => absurd c11_8 (by decide)) (fun c11_8 => ?_)
      refine lv_iload_n hx hb dX11_clue_14 rfl (lv_at hl 3 rfl) ?_
      refine k_Si (n := 1) X hw (c_X11_isPoint l G _ a3) wd_r29_19 wd_r29_20 wd_r1_5 wd_r29_21 ⟨by decide, by decide, by decide +kernel⟩ rfl rfl ⟨Nat.le_of_ble_eq_true rfl, Nat.le_of_ble_eq_true rfl⟩ rfl rfl hl.1 (Nat.le_of_ble_eq_true rfl) dX11_clue_15 ⟨Nat.le_of_ble_eq_true rfl, Nat.le_of_ble_eq_true rfl⟩ (fun r15_9 S15_11 H locs h15_10 hw => ?_)
      rcases h15_10 with ⟨rfl, rfl, h15_10⟩ | ⟨rfl, rfl, h15_10⟩
      · have h15_10 := h15_10
        refine lv_if_eq (tgt := 52) hx hb dX11_clue_18 (by decide) (fun c18_12 => absurd c18_12 (by decide)) (fun c18_12 => ?_)
        refine lv_iload hx hb dX11_clue_21 (lv_at hl 4 rfl) ?_
        refine lv_if_lt (tgt := 52) hx hb dX11_clue_23 (by decide) (fun c23_13 => ?_) (fun c23_13 => ?_)
        · have D23_13 := iLt c23_13 rfl t_0
          refine lv_iconst (v := -1) hx hb dX11_clue_52 (by decide) ?_
          exact hret (-1) S _ _ _ _ (Or.inl ⟨by unfold clC; omega, rfl, rfl⟩) hw rfl dX11_clue_53
        · have D23_13 := iNlt c23_13 rfl t_0
          refine lv_iload hx hb dX11_clue_26 (lv_at hl 4 rfl) ?_
          refine lv_bipush (v := 80) hx hb dX11_clue_28 (by decide) ?_
          refine lv_icmp_gt (tgt := 52) hx hb dX11_clue_30 (by decide) (fun c30_14 => ?_) (fun c30_14 => ?_)
          · have D30_14 := iLt c30_14 t_80 rfl
            refine lv_iconst (v := -1) hx hb dX11_clue_52 (by decide) ?_
            exact hret (-1) S _ _ _ _ (Or.inl ⟨by unfold clC; omega, rfl, rfl⟩) hw rfl dX11_clue_53
          · have D30_14 := iNlt c30_14 t_80 rfl
            refine lv_iload hx hb dX11_clue_33 (lv_at hl 5 rfl) ?_
            refine lv_if_lt (tgt := 52) hx hb dX11_clue_35 (by decide) (fun c35_15 => ?_) (fun c35_15 => ?_)
            · have D35_15 := iLt c35_15 rfl t_0
              refine lv_iconst (v := -1) hx hb dX11_clue_52 (by decide) ?_
              exact hret (-1) S _ _ _ _ (Or.inl ⟨by unfold clC; omega, rfl, rfl⟩) hw rfl dX11_clue_53
            · have D35_15 := iNlt c35_15 rfl t_0
              refine lv_iload hx hb dX11_clue_38 (lv_at hl 5 rfl) ?_
              refine lv_bipush (v := 100) hx hb dX11_clue_40 (by decide) ?_
              refine lv_icmp_gt (tgt := 52) hx hb dX11_clue_42 (by decide) (fun c42_16 => ?_) (fun c42_16 => ?_)
              · have D42_16 := iLt c42_16 t_100 rfl
                refine lv_iconst (v := -1) hx hb dX11_clue_52 (by decide) ?_
                exact hret (-1) S _ _ _ _ (Or.inl ⟨by unfold clC; omega, rfl, rfl⟩) hw rfl dX11_clue_53
              · have D42_16 := iNlt c42_16 t_100 rfl
                refine lv_aload_n hx hb dX11_clue_45 rfl (lv_at hl 0 rfl) ?_
                refine k_Vi (n := 0) X hw (rcvk (ci := 11) X hw hM.1 (fun _ _ _ _ _ _ _ => ⟨_, rfl⟩) rfl) (c_X11_isFull l G _ ma hM hI) wd_r33_16 wd_r33_17 wd_r33_18 wd_r1_5 wd_r33_19 ⟨by decide, by decide, by decide +kernel⟩ rfl rfl ⟨Nat.le_of_ble_eq_true rfl, Nat.le_of_ble_eq_true rfl⟩ rfl rfl hl.1 (Nat.le_of_ble_eq_true rfl) dX11_clue_46 ⟨Nat.le_of_ble_eq_true rfl, Nat.le_of_ble_eq_true rfl⟩ (fun r46_17 S46_19 H locs h46_18 hw => ?_)
                rcases h46_18 with ⟨rfl, rfl, h46_18⟩ | ⟨rfl, rfl, h46_18⟩
                · have h46_18 := h46_18
                  refine lv_if_eq (tgt := 54) hx hb dX11_clue_49 (by decide) (fun c49_20 => absurd c49_20 (by decide)) (fun c49_20 => ?_)
                  refine lv_iconst (v := -1) hx hb dX11_clue_52 (by decide) ?_
                  exact hret (-1) S _ _ _ _ (Or.inl ⟨by unfold clC; omega, rfl, rfl⟩) hw rfl dX11_clue_53
                · have h46_18 := h46_18
                  refine lv_if_eq (tgt := 54) hx hb dX11_clue_49 (by decide) (fun c49_21 => ?_) (fun c49_21 => absurd c49_21 (by decide))
                  refine lv_aload_n hx hb dX11_clue_54 rfl (lv_at hl 0 rfl) ?_
                  refine lv_iload_n hx hb dX11_clue_55 rfl (lv_at hl 1 rfl) ?_
                  refine lv_iload_n hx hb dX11_clue_56 rfl (lv_at hl 2 rfl) ?_
                  refine lv_iload_n hx hb dX11_clue_57 rfl (lv_at hl 3 rfl) ?_
                  refine lv_iload hx hb dX11_clue_58 (lv_at hl 4 rfl) ?_
                  refine lv_iconst (v := 0) hx hb dX11_clue_60 (by decide) ?_
                  refine lv_iconst (v := 2) hx hb dX11_clue_61 (by decide) ?_
                  refine lv_iload hx hb dX11_clue_62 (lv_at hl 5 rfl) ?_
                  refine k_Vi (n := 7) X hw (rcvk (ci := 11) X hw hM.1 (fun _ _ _ _ _ _ _ => ⟨_, rfl⟩) rfl) (c_w_X11_prove l G _ ma a1 a2 a3 a4 0 2 a5 hM hI (by omega) (by omega) (by omega) (by first | omega | decide) (by first | omega | (intro h; exact absurd h (by decide))) (by omega)) wd_r34_1 wd_r34_2 wd_r34_3 wd_r1_5 wd_r34_4 ⟨by decide, by decide, by decide +kernel⟩ rfl rfl ⟨Nat.le_of_ble_eq_true rfl, Nat.le_of_ble_eq_true rfl⟩ rfl rfl hl.1 (Nat.le_of_ble_eq_true rfl) dX11_clue_64 ⟨Nat.le_of_ble_eq_true rfl, Nat.le_of_ble_eq_true rfl⟩ (fun r64_22 S64_24 H locs h64_23 hw => ?_)
                  have := t_0
                  have := t_2
                  obtain ⟨I64_25, q64_26, rfl, h64_23⟩ := h64_23
                  have hw : PX G A s.heap (ch S I64_25 (pJ S) q64_26 (qJ S)) H locs := hw
                  have HPV := h64_23
                  exact hret r64_22 (ch S I64_25 (pJ S) q64_26 (qJ S)) _ _ _ _ (Or.inr ⟨by unfold clC; omega, HPV.2.2.2.2.2.2.2.2, _, _, rfl, HPV.1, HPV.2.1, HPV.2.2.1, HPV.2.2.2.1, HPV.2.2.2.2.1, HPV.2.2.2.2.2.1, HPV.2.2.2.2.2.2.1, HPV.2.2.2.2.2.2.2.1⟩) hw rfl dX11_clue_67
      · have h15_10 := h15_10
        refine lv_if_eq (tgt := 52) hx hb dX11_clue_18 (by decide) (fun c18_27 => ?_) (fun c18_27 => absurd c18_27 (by decide))
        refine lv_iconst (v := -1) hx hb dX11_clue_52 (by decide) ?_
        exact hret (-1) S _ _ _ _ (Or.inl ⟨by unfold clC; omega, rfl, rfl⟩) hw rfl dX11_clue_53
    · have h8_6 := h8_6
      refine lv_if_eq (tgt := 52) hx hb dX11_clue_11 (by decide) (fun c11_28 => ?_) (fun c11_28 => absurd c11_28 (by decide))
      refine lv_iconst (v := -1) hx hb dX11_clue_52 (by decide) ?_
      exact hret (-1) S _ _ _ _ (Or.inl ⟨by unfold clC; omega, rfl, rfl⟩) hw rfl dX11_clue_53
  · have h1_2 := h1_2
    refine lv_if_eq (tgt := 52) hx hb dX11_clue_4 (by decide) (fun c4_29 => ?_) (fun c4_29 => absurd c4_29 (by decide))
    refine lv_iconst (v := -1) hx hb dX11_clue_52 (by decide) ?_
    exact hret (-1) S _ _ _ _ (Or.inl ⟨by unfold clC; omega, rfl, rfl⟩) hw rfl dX11_clue_53
set_option maxHeartbeats 4000000 in
set_option maxRecDepth 100000 in
theorem c_w_X11_back (l : Launch) (G : Gh) (S : Pl) (ma : Nat → Nat) (x : Int32) (hM : shMod S ma) (hI : mInv (pI S) (qI S) ma) : MtI l yX11_back cX11_back 2 (some .boolean) (Rm 0 0 0) G [.ref (ma 0), .int x] S (fun (r : Int32) (S' : Pl) => (r = 1 ∧ (0 ≤ x.toInt ∧ x.toInt < (pI S 140 (ma 0)).toInt ∧ (qI S (ma 40) x.toNatClampNeg).toInt = 0) ∧ ∃ q', ch S (pI S) (pJ S) q' (qJ S) = S' ∧ mInv (pI S) q' ma ∧ q' (ma 40) = upd (qI S (ma 40)) x.toNatClampNeg 1 ∧ ∀ j, j ≤ 45 → j ≠ 40 → q' (ma j) = qI S (ma j)) ∨ (r = 0 ∧ ¬ (0 ≤ x.toInt ∧ x.toInt < (pI S 140 (ma 0)).toInt ∧ (qI S (ma 40) x.toNatClampNeg).toInt = 0) ∧ S = S')) 0 0 := by
  refine MtI.of (by decide) (Nat.le_of_ble_eq_true rfl) ?_
  intro p e s m args below meth c Q A X hw hin hret ls hl
  have hx := X.1.1
  have hb := X.1.2.1
  have hl : lv_has ls 2 [(0, .ref (ma 0)), (1, .int x)] := hl
  obtain ⟨⟨b1, b2, b3, b4, b5, b6⟩, hT, hP, hC⟩ := id hI
  refine lv_iload_n hx hb dX11_back_0 rfl (lv_at hl 1 rfl) ?_
  refine lv_if_lt (tgt := 21) hx hb dX11_back_1 (by decide) (fun c1_1 => ?_) (fun c1_1 => ?_)
  · have D1_1 := iLt c1_1 rfl t_0
    refine lv_iconst (v := 0) hx hb dX11_back_21 (by decide) ?_
    exact hret 0 S _ _ _ _ (Or.inr ⟨rfl, by have := t_0; omega, rfl⟩) hw rfl dX11_back_22
  · have D1_1 := iNlt c1_1 rfl t_0
    refine lv_iload_n hx hb dX11_back_4 rfl (lv_at hl 1 rfl) ?_
    refine lv_aload_n hx hb dX11_back_5 rfl (lv_at hl 0 rfl) ?_
    refine gf_X11_252 (v := (pI S) 140 (ma 0)) X hw hM.1 rfl dX11_back_6 ?_
    refine lv_icmp_ge (tgt := 21) hx hb dX11_back_9 (by decide) (fun c9_2 => ?_) (fun c9_2 => ?_)
    · have D9_2 := iLe c9_2 rfl rfl
      refine lv_iconst (v := 0) hx hb dX11_back_21 (by decide) ?_
      exact hret 0 S _ _ _ _ (Or.inr ⟨rfl, by have := t_0; omega, rfl⟩) hw rfl dX11_back_22
    · have D9_2 := iNle c9_2 rfl rfl
      refine lv_aload_n hx hb dX11_back_12 rfl (lv_at hl 0 rfl) ?_
      refine gf_X11_126 (b := (ma 40)) X hw hM.1 (mr_40 hM) dX11_back_13 ?_
      refine lv_iload_n hx hb dX11_back_16 rfl (lv_at hl 1 rfl) ?_
      refine q_ldZ X hw (mk_40 hM) (vin (mn_40 hM) (by omega) (by omega)) dX11_back_17 ?_
      refine lv_topi (fun v17_3 e17_3 => ?_)
      have e17_3 : v17_3 = (qI S) (ma 40) x.toNatClampNeg := e17_3
      have g17 := congrArg Int32.toInt e17_3
      refine lv_if_eq (tgt := 23) hx hb dX11_back_18 (by decide) (fun c18_4 => ?_) (fun c18_4 => ?_)
      · have D18_4 := iEq c18_4 rfl t_0
        refine lv_aload_n hx hb dX11_back_23 rfl (lv_at hl 0 rfl) ?_
        refine gf_X11_126 (b := (ma 40)) X hw hM.1 (mr_40 hM) dX11_back_24 ?_
        refine lv_iload_n hx hb dX11_back_27 rfl (lv_at hl 1 rfl) ?_
        refine lv_iconst (v := 1) hx hb dX11_back_28 (by decide) ?_
        refine q_stZ X hw (mk_40 hM) (vin (mn_40 hM) (by omega) (by omega)) dX11_back_29 (fun H locs hw => ?_)
        obtain ⟨q29_5, eq29_5, hw⟩ : ∃ zz9, zz9 = va_up (qI S) (ma 40) (upd ((qI S) (ma 40)) x.toNatClampNeg (vp_nar .boolean 1)) ∧ PX G A s.heap (ch S (pI S) (pJ S) zz9 (qJ S)) H locs := ⟨_, rfl, hw⟩
        have c29 := eq29_5
        refine lv_iconst (v := 1) hx hb dX11_back_30 (by decide) ?_
        exact hret 1 (ch S (pI S) (pJ S) q29_5 (qJ S)) _ _ _ _ (Or.inl ⟨rfl, by have := t_0; omega, _, rfl, mInv_back hM hI c29, by rw [c29, vu_s]; rfl, (fun j9 h9 h8 => by rw [row_keep hM c29 (i := j9) h9 (by decide) (by omega)])⟩) hw rfl dX11_back_31
      · have D18_4 := iNe c18_4 rfl t_0
        refine lv_iconst (v := 0) hx hb dX11_back_21 (by decide) ?_
        exact hret 0 S _ _ _ _ (Or.inr ⟨rfl, by have := t_0; omega, rfl⟩) hw rfl dX11_back_22
set_option maxHeartbeats 4000000 in
set_option maxRecDepth 100000 in
theorem c_w_X11_sea (l : Launch) (G : Gh) (S : Pl) (ma : Nat → Nat) (tt : Nat → Int32) (tn bk : Nat) (hM : shMod S ma) (hI : mInv (pI S) (qI S) ma) (htt : tt = tx (qI S (ma 1)) tn) (hnt : (pI S 102 (ma 0)).toInt = (tn : Int)) (hbk : (pI S 120 (ma 0)).toInt = (bk : Int)) (hbk1 : bk ≤ 1) : MtI l yX11_sea cX11_sea 2 (some .int) (Rm 6 0 0) G [.ref (ma 0)] S (fun (r : Int32) (S' : Pl) => ∃ I' J' q', ch S I' J' q' (qJ S) = S' ∧ mInv I' q' ma ∧ I' 102 (ma 0) = 0 ∧ I' 128 (ma 0) = pI S 128 (ma 0) ∧ I' 140 (ma 0) = pI S 140 (ma 0) ∧ (∀ j, 21 ≤ j → j ≤ 45 → q' (ma j) = qI S (ma j)) ∧ SEo r.toInt I' (qI S) q' ma bk tt tn) 0 0 := by
  refine MtI.of (by decide) (Nat.le_of_ble_eq_true rfl) ?_
  intro p e s m args below meth c Q A X hw hin hret ls hl
  have hx := X.1.1
  have hb := X.1.2.1
  have hl : lv_has ls 2 [(0, .ref (ma 0))] := hl
  obtain ⟨⟨b1, b2, b3, b4, b5, b6⟩, hT, hP, hC⟩ := id hI
  have hz : tn ≤ 1000 := by omega
  refine lv_aload_n hx hb dX11_sea_0 rfl (lv_at hl 0 rfl) ?_
  refine lv_iconst (v := 0) hx hb dX11_sea_1 (by decide) ?_
  refine pf_X11_11 X hw hM.1 dX11_sea_2 (fun H locs hw => ?_)
  have hw : PX G A s.heap (ch S (up2 (pI S) 104 (ma 0) 0) (pJ S) (qI S) (qJ S)) H locs := hw
  refine lv_aload_n hx hb dX11_sea_5 rfl (lv_at hl 0 rfl) ?_
  refine lv_iconst (v := -1) hx hb dX11_sea_6 (by decide) ?_
  refine pf_X11_14 X hw hM.1 dX11_sea_7 (fun H locs hw => ?_)
  have hw : PX G A s.heap (ch S (up2 (up2 (pI S) 104 (ma 0) 0) 105 (ma 0) (-1)) (pJ S) (qI S) (qJ S)) H locs := hw
  refine lv_aload_n hx hb dX11_sea_10 rfl (lv_at hl 0 rfl) ?_
  refine lv_aload_n hx hb dX11_sea_11 rfl (lv_at hl 0 rfl) ?_
  refine gf_X11_143 (v := (pI S) 102 (ma 0)) X hw hM.1 rfl dX11_sea_12 ?_
  refine pf_X11_1 X hw hM.1 dX11_sea_15 (fun H locs hw => ?_)
  have hw : PX G A s.heap (ch S (up2 (up2 (up2 (pI S) 104 (ma 0) 0) 105 (ma 0) (-1)) 103 (ma 0) ((pI S) 102 (ma 0))) (pJ S) (qI S) (qJ S)) H locs := hw
  refine lv_iconst (v := 0) hx hb dX11_sea_18 (by decide) ?_
  refine lv_istore_n (lv' := [(1, .int 0), (0, .ref (ma 0))]) hx hb dX11_sea_19 rfl hl (by decide) rfl (fun ls hl => ?_)
  have lp20 : ∀ (N9 : Nat) (q20 : Nat → Nat → Int32) (k : Int32), (FrQ 1 ma (qI S) q20) → (0 ≤ k.toInt ∧ k.toInt ≤ 1000) → (q20 (ma 18) = qI S (ma 18)) → (q20 (ma 1) = qI S (ma 1)) → (KeepB (qI S) q20 ma (1 - bk)) → (cpR (q20 (ma 2)) (qI S (ma 1)) k.toNatClampNeg) → (1000 - k.toInt).toNat < N9 → ∀ (H : Heap) (locs : List Loc) (ls : Array Slot), PX G A s.heap (ch S (up2 (up2 (up2 (pI S) 104 (ma 0) 0) 105 (ma 0) (-1)) 103 (ma 0) ((pI S) 102 (ma 0))) (pJ S) q20 (qJ S)) H locs → lv_has ls 2 [(1, .int k), (0, .ref (ma 0))] → W p l e (Rm 6 0 0) s m args below meth c H locs 0 0 Q (F0 m 20 ls []) := by
    intro N9
    induction N9 with
    | zero => intro q20 k hY hk h18 h1r hKB1 hcp hm; exact absurd hm (Nat.not_lt_zero _)
    | succ N9 ih20 =>
      intro q20 k hY hk h18 h1r hKB1 hcp hm H locs ls hw hl
      refine lv_iload_n hx hb dX11_sea_20 rfl (lv_at hl 0 rfl) ?_
      refine lv_aload_n hx hb dX11_sea_21 rfl (lv_at hl 1 rfl) ?_
      refine gf_X11_1 (v := (pI S) 102 (ma 0)) X hw hM.1 (show up2 (up2 (up2 (pI S) 104 (ma 0) 0) 105 (ma 0) (-1)) 103 (ma 0) ((pI S) 102 (ma 0)) 103 (ma 0) = ((pI S) 102 (ma 0)) from up2_s) dX11_sea_22 ?_
      refine lv_icmp_ge (tgt := 46) hx hb dX11_sea_25 (by decide) (fun c25_1 => ?_) (fun c25_1 => ?_)
      · have D25_1 := iLe c25_1 rfl rfl
        have hcpE : cpR (q20 (ma 2)) (qI S (ma 1)) tn := by have e9 := cl_toInt (x := k) hk.1; intro j9 hj9; exact hcp j9 (by omega)
        have htq : tt = tx (q20 (ma 2)) tn := by rw [htt]; exact (tx_c2 hcpE).symm
        refine lv_aload_n hx hb dX11_sea_46 rfl (lv_at hl 1 rfl) ?_
        refine lv_iconst (v := 0) hx hb dX11_sea_47 (by decide) ?_
        refine pf_X11_143 X hw hM.1 dX11_sea_48 (fun H locs hw => ?_)
        have hw : PX G A s.heap (ch S (up2 (up2 (up2 (up2 (pI S) 104 (ma 0) 0) 105 (ma 0) (-1)) 103 (ma 0) ((pI S) 102 (ma 0))) 102 (ma 0) 0) (pJ S) q20 (qJ S)) H locs := hw
        refine lv_aload_n hx hb dX11_sea_51 rfl (lv_at hl 1 rfl) ?_
        refine lv_iconst (v := 0) hx hb dX11_sea_52 (by decide) ?_
        refine pf_X11_17 X hw hM.1 dX11_sea_53 (fun H locs hw => ?_)
        have hw : PX G A s.heap (ch S (up2 (up2 (up2 (up2 (up2 (pI S) 104 (ma 0) 0) 105 (ma 0) (-1)) 103 (ma 0) ((pI S) 102 (ma 0))) 102 (ma 0) 0) 107 (ma 0) 0) (pJ S) q20 (qJ S)) H locs := hw
        refine lv_aload_n hx hb dX11_sea_56 rfl (lv_at hl 1 rfl) ?_
        refine lv_iconst (v := 1) hx hb dX11_sea_57 (by decide) ?_
        refine lv_aload_n hx hb dX11_sea_58 rfl (lv_at hl 1 rfl) ?_
        refine gf_X11_146 (v := (pI S) 120 (ma 0)) X hw hM.1 rfl dX11_sea_59 ?_
        refine lv_isub hx hb dX11_sea_62 ?_
        refine lv_topi (fun v62_2 e62_2 => ?_)
        have t62_2 := iSub e62_2 t_1 rfl (by omega) (by omega)
        have t62 := t62_2
        refine pf_X11_149 X hw hM.1 dX11_sea_63 (fun H locs hw => ?_)
        have hw : PX G A s.heap (ch S (up2 (up2 (up2 (up2 (up2 (up2 (pI S) 104 (ma 0) 0) 105 (ma 0) (-1)) 103 (ma 0) ((pI S) 102 (ma 0))) 102 (ma 0) 0) 107 (ma 0) 0) 121 (ma 0) v62_2) (pJ S) q20 (qJ S)) H locs := hw
        obtain ⟨RB, hRB⟩ : ∃ z, z = (v62_2 : Int32) := ⟨_, rfl⟩
        have hRBt := congrArg Int32.toInt hRB
        have hRBr : 0 ≤ RB.toInt ∧ RB.toInt ≤ 1 := by omega
        have hRBb : RB.toInt = (((1 - bk) : Nat) : Int) := by omega
        have hRBn : RB.toNatClampNeg = (1 - bk) := by have := cl_toInt (x := RB) (by omega); omega
        refine lv_aload_n hx hb dX11_sea_66 rfl (lv_at hl 1 rfl) ?_
        refine lv_aload_n hx hb dX11_sea_67 rfl (lv_at hl 1 rfl) ?_
        refine gf_X11_149 (v := v62_2) X hw hM.1 (show up2 (up2 (up2 (up2 (up2 (up2 (pI S) 104 (ma 0) 0) 105 (ma 0) (-1)) 103 (ma 0) ((pI S) 102 (ma 0))) 102 (ma 0) 0) 107 (ma 0) 0) 121 (ma 0) v62_2 121 (ma 0) = v62_2 from up2_s) dX11_sea_68 ?_
        refine k_Vv (n := 1) X hw (rcvk (ci := 11) X hw hM.1 (fun _ _ _ _ _ _ _ => ⟨_, rfl⟩) rfl) (c_v_X11_clear l G _ ma v62_2 (1 - bk) hM (show (v62_2).toInt = (((1 - bk) : Nat) : Int) by omega) (by omega) (show MsOK (q20 (ma 18)) by rw [h18]; exact hC.2)) wd_r6_11 wd_r6_12 wd_r6_13 wd_r1_5 wd_r6_14 ⟨by decide, by decide, by decide +kernel⟩ rfl rfl ⟨Nat.le_of_ble_eq_true rfl, Nat.le_of_ble_eq_true rfl⟩ rfl rfl hl.1 (Nat.le_of_ble_eq_true rfl) dX11_sea_71 ⟨Nat.le_of_ble_eq_true rfl, Nat.le_of_ble_eq_true rfl⟩ (fun S71_4 H locs h71_3 hw => ?_)
        obtain ⟨q71_5, rfl, h71_3⟩ := h71_3
        have hw : PX G A s.heap (ch S (up2 (up2 (up2 (up2 (up2 (up2 (pI S) 104 (ma 0) 0) 105 (ma 0) (-1)) 103 (ma 0) ((pI S) 102 (ma 0))) 102 (ma 0) 0) 107 (ma 0) 0) 121 (ma 0) v62_2) (pJ S) q71_5 (qJ S)) H locs := hw
        have hcl2 : (q71_5 (ma 12) (1 - bk)).toInt = 0 := h71_3.2.2.1
        have hms2 := h71_3.2.2.2.1
        have hMB0 := h71_3.2.2.2.2
        have hKB2 := hKB1.tr h71_3.2.1
        have htq2 : tt = tx (q71_5 (ma 2)) tn := htq.trans (congrArg (fun r9 => tx r9 tn) (FrQ.at hM h71_3.1 (by decide) (by decide)).symm)
        have hE3 : eM (up2 (up2 (up2 (up2 (up2 (up2 (pI S) 104 (ma 0) 0) 105 (ma 0) (-1)) 103 (ma 0) ((pI S) 102 (ma 0))) 102 (ma 0) 0) 107 (ma 0) 0) 121 (ma 0) v62_2) (ma 0) := eM_of (a := ((pI S) 102 (ma 0) : Int32)) (b := (0 : Int32)) (show up2 (up2 (up2 (pI S) 104 (ma 0) 0) 105 (ma 0) (-1)) 103 (ma 0) ((pI S) 102 (ma 0)) 103 (ma 0) = ((pI S) 102 (ma 0)) from up2_s) (show up2 (up2 (up2 (up2 (up2 (pI S) 104 (ma 0) 0) 105 (ma 0) (-1)) 103 (ma 0) ((pI S) 102 (ma 0))) 102 (ma 0) 0) 107 (ma 0) 0 107 (ma 0) = 0 from up2_s) (by have := t_0; omega)
        have P121 : (up2 (up2 (up2 (up2 (up2 (up2 (pI S) 104 (ma 0) 0) 105 (ma 0) (-1)) 103 (ma 0) ((pI S) 102 (ma 0))) 102 (ma 0) 0) 107 (ma 0) 0) 121 (ma 0) v62_2) 121 (ma 0) = RB := ((show up2 (up2 (up2 (up2 (up2 (up2 (pI S) 104 (ma 0) 0) 105 (ma 0) (-1)) 103 (ma 0) ((pI S) 102 (ma 0))) 102 (ma 0) 0) 107 (ma 0) 0) 121 (ma 0) v62_2 121 (ma 0) = v62_2 from up2_s)).trans hRB.symm
        have P120 : (up2 (up2 (up2 (up2 (up2 (up2 (pI S) 104 (ma 0) 0) 105 (ma 0) (-1)) 103 (ma 0) ((pI S) 102 (ma 0))) 102 (ma 0) 0) 107 (ma 0) 0) 121 (ma 0) v62_2) 120 (ma 0) = pI S 120 (ma 0) := rfl
        have P102 : (up2 (up2 (up2 (up2 (up2 (up2 (pI S) 104 (ma 0) 0) 105 (ma 0) (-1)) 103 (ma 0) ((pI S) 102 (ma 0))) 102 (ma 0) 0) 107 (ma 0) 0) 121 (ma 0) v62_2) 102 (ma 0) = 0 := (show up2 (up2 (up2 (up2 (pI S) 104 (ma 0) 0) 105 (ma 0) (-1)) 103 (ma 0) ((pI S) 102 (ma 0))) 102 (ma 0) 0 102 (ma 0) = 0 from up2_s)
        have P103 : ((up2 (up2 (up2 (up2 (up2 (up2 (pI S) 104 (ma 0) 0) 105 (ma 0) (-1)) 103 (ma 0) ((pI S) 102 (ma 0))) 102 (ma 0) 0) 107 (ma 0) 0) 121 (ma 0) v62_2) 103 (ma 0)).toInt = (tn : Int) := (congrArg Int32.toInt (show (up2 (up2 (up2 (up2 (up2 (up2 (pI S) 104 (ma 0) 0) 105 (ma 0) (-1)) 103 (ma 0) ((pI S) 102 (ma 0))) 102 (ma 0) 0) 107 (ma 0) 0) 121 (ma 0) v62_2) 103 (ma 0) = ((pI S) 102 (ma 0) : Int32) from (show up2 (up2 (up2 (pI S) 104 (ma 0) 0) 105 (ma 0) (-1)) 103 (ma 0) ((pI S) 102 (ma 0)) 103 (ma 0) = ((pI S) 102 (ma 0)) from up2_s))).trans (by omega)
        have P104 : ((up2 (up2 (up2 (up2 (up2 (up2 (pI S) 104 (ma 0) 0) 105 (ma 0) (-1)) 103 (ma 0) ((pI S) 102 (ma 0))) 102 (ma 0) 0) 107 (ma 0) 0) 121 (ma 0) v62_2) 104 (ma 0)).toInt = 0 := (congrArg Int32.toInt (show (up2 (up2 (up2 (up2 (up2 (up2 (pI S) 104 (ma 0) 0) 105 (ma 0) (-1)) 103 (ma 0) ((pI S) 102 (ma 0))) 102 (ma 0) 0) 107 (ma 0) 0) 121 (ma 0) v62_2) 104 (ma 0) = (0 : Int32) from (show up2 (pI S) 104 (ma 0) 0 104 (ma 0) = 0 from up2_s))).trans (by decide)
        have P107 : (up2 (up2 (up2 (up2 (up2 (up2 (pI S) 104 (ma 0) 0) 105 (ma 0) (-1)) 103 (ma 0) ((pI S) 102 (ma 0))) 102 (ma 0) 0) 107 (ma 0) 0) 121 (ma 0) v62_2) 107 (ma 0) = 0 := (show up2 (up2 (up2 (up2 (up2 (pI S) 104 (ma 0) 0) 105 (ma 0) (-1)) 103 (ma 0) ((pI S) 102 (ma 0))) 102 (ma 0) 0) 107 (ma 0) 0 107 (ma 0) = 0 from up2_s)
        have P107n : ((up2 (up2 (up2 (up2 (up2 (up2 (pI S) 104 (ma 0) 0) 105 (ma 0) (-1)) 103 (ma 0) ((pI S) 102 (ma 0))) 102 (ma 0) 0) 107 (ma 0) 0) 121 (ma 0) v62_2) 107 (ma 0)).toNatClampNeg = 0 := by rw [P107]; decide
        refine lv_aload_n hx hb dX11_sea_74 rfl (lv_at hl 1 rfl) ?_
        refine k_Vv (n := 0) X hw (rcvk (ci := 11) X hw hM.1 (fun _ _ _ _ _ _ _ => ⟨_, rfl⟩) rfl) (c_v_X11_next l G _ ma tt tn hM htq2 P103 hz (show 0 ≤ ((up2 (up2 (up2 (up2 (up2 (up2 (pI S) 104 (ma 0) 0) 105 (ma 0) (-1)) 103 (ma 0) ((pI S) 102 (ma 0))) 102 (ma 0) 0) 107 (ma 0) 0) 121 (ma 0) v62_2) 107 (ma 0)).toInt ∧ ((up2 (up2 (up2 (up2 (up2 (up2 (pI S) 104 (ma 0) 0) 105 (ma 0) (-1)) 103 (ma 0) ((pI S) 102 (ma 0))) 102 (ma 0) 0) 107 (ma 0) 0) 121 (ma 0) v62_2) 107 (ma 0)).toInt ≤ (tn : Int) by rw [P107]; have := t_0; omega)) wd_r20_15 wd_r20_16 wd_r20_17 wd_r1_5 wd_r20_18 ⟨by decide, by decide, by decide +kernel⟩ rfl rfl ⟨Nat.le_of_ble_eq_true rfl, Nat.le_of_ble_eq_true rfl⟩ rfl rfl hl.1 (Nat.le_of_ble_eq_true rfl) dX11_sea_75 ⟨Nat.le_of_ble_eq_true rfl, Nat.le_of_ble_eq_true rfl⟩ (fun S75_7 H locs h75_6 hw => ?_)
        obtain ⟨I75_8, J75_9, rfl, h75_6⟩ := h75_6
        have hw : PX G A s.heap (ch S I75_8 J75_9 q71_5 (qJ S)) H locs := hw
        have N1 := h75_6.1
        have hTK0 : mTok I75_8 J75_9 (ma 0) tt tn 0 := by have z9 : mTok I75_8 J75_9 (ma 0) tt tn ((up2 (up2 (up2 (up2 (up2 (up2 (pI S) 104 (ma 0) 0) 105 (ma 0) (-1)) 103 (ma 0) ((pI S) 102 (ma 0))) 102 (ma 0) 0) 107 (ma 0) 0) 121 (ma 0) v62_2) 107 (ma 0)).toNatClampNeg := h75_6.2.1; rw [P107n] at z9; exact z9
        have lp78 : ∀ (N9 : Nat) (I78 : Nat → Nat → Int32) (J78 : Nat → Nat → Int64) (q78 : Nat → Nat → Int32), (FrW (pI S) I78) → (FrQ 1 ma (qI S) q78) → (eM I78 (ma 0)) → (I78 121 (ma 0) = RB) → (I78 120 (ma 0) = pI S 120 (ma 0)) → (I78 102 (ma 0) = 0) → (MsOK (q78 (ma 18))) → (KeepB (qI S) q78 ma (1 - bk)) → (tt = tx (q78 (ma 2)) tn) → ((I78 103 (ma 0)).toInt = (tn : Int)) → (MIt (I78 104 (ma 0)).toInt I78 J78 q78 ma (1 - bk) tt tn) → msz (I78 104 (ma 0)).toInt (q78 (ma 12) (1 - bk)).toInt < N9 → ∀ (H : Heap) (locs : List Loc) (ls : Array Slot), PX G A s.heap (ch S I78 J78 q78 (qJ S)) H locs → lv_has ls 2 [(0, .ref (ma 0))] → W p l e (Rm 6 0 0) s m args below meth c H locs 0 0 Q (F0 m 78 ls []) := by
          intro N9
          induction N9 with
          | zero => intro I78 J78 q78 hF hY2 hE4 hR hK h102 hms3 hKB3 htq3 h103 hst hm; exact absurd hm (Nat.not_lt_zero _)
          | succ N9 ih78 =>
            intro I78 J78 q78 hF hY2 hE4 hR hK h102 hms3 hKB3 htq3 h103 hst hm H locs ls hw hl
            have hRt := congrArg Int32.toInt hR
            refine lv_aload_n hx hb dX11_sea_78 rfl (lv_at hl 0 rfl) ?_
            refine k_Vi (n := 0) X hw (rcvk (ci := 11) X hw hM.1 (fun _ _ _ _ _ _ _ => ⟨_, rfl⟩) rfl) (c_X11_isGood l G _ ma hM) wd_r21_12 wd_r21_13 wd_r21_14 wd_r1_5 wd_r21_15 ⟨by decide, by decide, by decide +kernel⟩ rfl rfl ⟨Nat.le_of_ble_eq_true rfl, Nat.le_of_ble_eq_true rfl⟩ rfl rfl hl.1 (Nat.le_of_ble_eq_true rfl) dX11_sea_79 ⟨Nat.le_of_ble_eq_true rfl, Nat.le_of_ble_eq_true rfl⟩ (fun r79_10 S79_12 H locs h79_11 hw => ?_)
            rcases h79_11 with ⟨rfl, rfl, h79_11⟩ | ⟨rfl, rfl, h79_11⟩
            · have h79_11 : (I78 104 (ma 0) : Int32).toInt = 0 := h79_11
              refine lv_if_eq (tgt := 99) hx hb dX11_sea_82 (by decide) (fun c82_13 => absurd c82_13 (by decide)) (fun c82_13 => ?_)
              refine lv_aload_n hx hb dX11_sea_85 rfl (lv_at hl 0 rfl) ?_
              refine gf_X11_27 (v := I78 108 (ma 0)) X hw hM.1 rfl dX11_sea_86 ?_
              refine lv_if_eq (tgt := 99) hx hb dX11_sea_89 (by decide) (fun c89_14 => ?_) (fun c89_14 => ?_)
              · have D89_14 := iEq c89_14 rfl t_0
                refine lv_aload_n hx hb dX11_sea_99 rfl (lv_at hl 0 rfl) ?_
                refine k_Vi (n := 0) X hw (rcvk (ci := 11) X hw hM.1 (fun _ _ _ _ _ _ _ => ⟨_, rfl⟩) rfl) (c_X11_isGood l G _ ma hM) wd_r21_12 wd_r21_13 wd_r21_14 wd_r1_5 wd_r21_15 ⟨by decide, by decide, by decide +kernel⟩ rfl rfl ⟨Nat.le_of_ble_eq_true rfl, Nat.le_of_ble_eq_true rfl⟩ rfl rfl hl.1 (Nat.le_of_ble_eq_true rfl) dX11_sea_100 ⟨Nat.le_of_ble_eq_true rfl, Nat.le_of_ble_eq_true rfl⟩ (fun r100_15 S100_17 H locs h100_16 hw => ?_)
                rcases h100_16 with ⟨rfl, rfl, h100_16⟩ | ⟨rfl, rfl, h100_16⟩
                · have h100_16 : (I78 104 (ma 0) : Int32).toInt = 0 := h100_16
                  refine lv_if_ne (tgt := 108) hx hb dX11_sea_103 (by decide) (fun c103_18 => ?_) (fun c103_18 => absurd c103_18 (by decide))
                  refine lv_aload_n hx hb dX11_sea_108 rfl (lv_at hl 0 rfl) ?_
                  refine lv_aload_n hx hb dX11_sea_109 rfl (lv_at hl 0 rfl) ?_
                  refine gf_X11_149 (v := I78 121 (ma 0)) X hw hM.1 rfl dX11_sea_110 ?_
                  refine pf_X11_146 X hw hM.1 dX11_sea_113 (fun H locs hw => ?_)
                  have hw : PX G A s.heap (ch S (up2 I78 120 (ma 0) (I78 121 (ma 0))) J78 q78 (qJ S)) H locs := hw
                  obtain ⟨V9, p9, hp9, hTK9, hMB9, hl9, hvk9, hP9⟩ := hst.ok (by omega)
                  have h8k := hTK9.2.2.1
                  have hk91 : tK tt tn p9 = 1 := mK0.mp (by omega)
                  refine lv_aload_n hx hb dX11_sea_116 rfl (lv_at hl 0 rfl) ?_
                  refine gf_X11_61 (b := (ma 12)) X hw hM.1 (mr_12 hM) dX11_sea_117 ?_
                  refine lv_aload_n hx hb dX11_sea_120 rfl (lv_at hl 0 rfl) ?_
                  refine gf_X11_146 (v := I78 121 (ma 0)) X hw hM.1 (show up2 I78 120 (ma 0) (I78 121 (ma 0)) 120 (ma 0) = (I78 121 (ma 0)) from up2_s) dX11_sea_121 ?_
                  refine q_ldI X hw (mk_12 hM) (vin (mn_12 hM) (by omega) (by omega)) dX11_sea_124 ?_
                  refine lv_topi (fun v124_19 e124_19 => ?_)
                  have e124_19 : v124_19 = q78 (ma 12) ((I78 121 (ma 0)).toNatClampNeg) := e124_19
                  have e124n := e124_19
                  exact hret v124_19 _ _ _ _ _ ⟨_, _, _, rfl, mInv_w hM hI (FrW.up (f := 120) (by decide) hF) hY2 (show 0 ≤ (I78 102 (ma 0)).toInt ∧ (I78 102 (ma 0)).toInt ≤ 1000 by rw [h102]; have := t_0; omega) hE4 (by rw [show (up2 I78 120 (ma 0) (I78 121 (ma 0))) 120 (ma 0) = (I78 121 (ma 0) : Int32) from (show up2 I78 120 (ma 0) (I78 121 (ma 0)) 120 (ma 0) = (I78 121 (ma 0)) from up2_s), hR]; omega) (show 0 ≤ (I78 121 (ma 0)).toInt ∧ (I78 121 (ma 0)).toInt ≤ 1 by rw [hR]; omega) hms3, (show I78 102 (ma 0) = 0 from h102), congrFun ((FrW.up (f := 120) (by decide) hF) 128 (by decide)) (ma 0), congrFun ((FrW.up (f := 120) (by decide) hF) 140 (by decide)) (ma 0), (fun j9 h9 h8 => FrQ.at hM hY2 h8 (Or.inr (by omega))), Or.inl ⟨V9, MI_e hvk9 hP9 hk91, (by rw [e124n, hR, hRBn]; exact hl9), (by rw [show (up2 I78 120 (ma 0) (I78 121 (ma 0))) 120 (ma 0) = (I78 121 (ma 0) : Int32) from (show up2 I78 120 (ma 0) (I78 121 (ma 0)) 120 (ma 0) = (I78 121 (ma 0)) from up2_s), hR]; exact hRBb), hMB9, hl9, hvk9⟩⟩ hw rfl dX11_sea_125
                · have h100_16 : ¬ ((I78 104 (ma 0) : Int32).toInt = 0) := h100_16
                  refine lv_if_ne (tgt := 108) hx hb dX11_sea_103 (by decide) (fun c103_20 => absurd c103_20 (by decide)) (fun c103_20 => ?_)
                  refine lv_iconst (v := -1) hx hb dX11_sea_106 (by decide) ?_
                  exact hret (-1) _ _ _ _ _ ⟨_, _, _, rfl, mInv_w hM hI hF hY2 (by rw [h102]; have := t_0; omega) hE4 (by rw [hK]; exact b3) (by rw [hR]; omega) hms3, h102, congrFun (hF 128 (by decide)) (ma 0), congrFun (hF 140 (by decide)) (ma 0), (fun j9 h9 h8 => FrQ.at hM hY2 h8 (Or.inr (by omega))), Or.inr ⟨hst.no (by omega), (by decide), (by rw [hK]; exact hbk), hKB3⟩⟩ hw rfl dX11_sea_107
              · have D89_14 := iNe c89_14 rfl t_0
                obtain ⟨V9, p9, hp9, hTK9, hMB9, hl9, hvk9, hP9⟩ := hst.ok (by omega)
                have h8k := hTK9.2.2.1
                have hk91 : tK tt tn p9 ≠ 1 := fun q9 => by rw [q9] at h8k; have e9 : mKd 1 = 0 := (by decide); have e8 := t_0; omega
                refine lv_aload_n hx hb dX11_sea_92 rfl (lv_at hl 0 rfl) ?_
                refine k_Vv (n := 0) X hw (rcvk (ci := 11) X hw hM.1 (fun _ _ _ _ _ _ _ => ⟨_, rfl⟩) rfl) (c_v_X11_readLine l G _ ma tt tn p9 (1 - bk) V9 hM htq3 h103 hz hp9 (Or.inl ⟨(by omega), trivial, hTK9⟩) (hRt.trans hRBb) (by omega) hMB9 hvk9 hms3 hE4 hl9) wd_r21_16 wd_r21_17 wd_r21_18 wd_r1_5 wd_r21_19 ⟨by decide, by decide, by decide +kernel⟩ rfl rfl ⟨Nat.le_of_ble_eq_true rfl, Nat.le_of_ble_eq_true rfl⟩ rfl rfl hl.1 (Nat.le_of_ble_eq_true rfl) dX11_sea_93 ⟨Nat.le_of_ble_eq_true rfl, Nat.le_of_ble_eq_true rfl⟩ (fun S93_22 H locs h93_21 hw => ?_)
                obtain ⟨I93_23, J93_24, q93_25, rfl, h93_21⟩ := h93_21
                have hw : PX G A s.heap (ch S I93_23 J93_24 q93_25 (qJ S)) H locs := hw
                have M1 := h93_21.1
                have hKB4 := hKB3.tr h93_21.2.2.1
                have hms4 := h93_21.2.2.2.1
                have HLD := h93_21.2.2.2.2.1
                have htq4 : tt = tx (q93_25 (ma 2)) tn := htq3.trans (congrArg (fun r9 => tx r9 tn) (FrQ.at hM h93_21.2.1 (by decide) (by decide)).symm)
                refine lv_goto (tgt := 78) hx hb dX11_sea_96 (by decide) ?_
                exact ih78 I93_23 J93_24 q93_25  (FrW.tr hF (h93_21.1.w)) (FrQ.tr hY2 (FrQ.lo (by decide) h93_21.2.1)) h93_21.2.2.2.2.2 ((congrFun (M1 121 (by decide)) (ma 0)).trans hR) ((congrFun (M1 120 (by decide)) (ma 0)).trans hK) ((congrFun (M1 102 (by decide)) (ma 0)).trans h102) hms4 hKB4 htq4 ((congrArg Int32.toInt (congrFun (M1 103 (by decide)) (ma 0))).trans h103) (MI_s hp9 hvk9 hP9 hk91 HLD rfl) (msz_dec (by assumption) (ML_m hl9 HLD) hm) _ _ _ hw (lv_sub hl [0] rfl)
            · have h79_11 : ¬ ((I78 104 (ma 0) : Int32).toInt = 0) := h79_11
              refine lv_if_eq (tgt := 99) hx hb dX11_sea_82 (by decide) (fun c82_26 => ?_) (fun c82_26 => absurd c82_26 (by decide))
              refine lv_aload_n hx hb dX11_sea_99 rfl (lv_at hl 0 rfl) ?_
              refine k_Vi (n := 0) X hw (rcvk (ci := 11) X hw hM.1 (fun _ _ _ _ _ _ _ => ⟨_, rfl⟩) rfl) (c_X11_isGood l G _ ma hM) wd_r21_12 wd_r21_13 wd_r21_14 wd_r1_5 wd_r21_15 ⟨by decide, by decide, by decide +kernel⟩ rfl rfl ⟨Nat.le_of_ble_eq_true rfl, Nat.le_of_ble_eq_true rfl⟩ rfl rfl hl.1 (Nat.le_of_ble_eq_true rfl) dX11_sea_100 ⟨Nat.le_of_ble_eq_true rfl, Nat.le_of_ble_eq_true rfl⟩ (fun r100_27 S100_29 H locs h100_28 hw => ?_)
              rcases h100_28 with ⟨rfl, rfl, h100_28⟩ | ⟨rfl, rfl, h100_28⟩
              · have h100_28 : (I78 104 (ma 0) : Int32).toInt = 0 := h100_28
                refine lv_if_ne (tgt := 108) hx hb dX11_sea_103 (by decide) (fun c103_30 => ?_) (fun c103_30 => absurd c103_30 (by decide))
                refine lv_aload_n hx hb dX11_sea_108 rfl (lv_at hl 0 rfl) ?_
                refine lv_aload_n hx hb dX11_sea_109 rfl (lv_at hl 0 rfl) ?_
                refine gf_X11_149 (v := I78 121 (ma 0)) X hw hM.1 rfl dX11_sea_110 ?_
                refine pf_X11_146 X hw hM.1 dX11_sea_113 (fun H locs hw => ?_)
                have hw : PX G A s.heap (ch S (up2 I78 120 (ma 0) (I78 121 (ma 0))) J78 q78 (qJ S)) H locs := hw
                obtain ⟨V9, p9, hp9, hTK9, hMB9, hl9, hvk9, hP9⟩ := hst.ok (by omega)
                have h8k := hTK9.2.2.1
                have hk91 : tK tt tn p9 = 1 := mK0.mp (by omega)
                refine lv_aload_n hx hb dX11_sea_116 rfl (lv_at hl 0 rfl) ?_
                refine gf_X11_61 (b := (ma 12)) X hw hM.1 (mr_12 hM) dX11_sea_117 ?_
                refine lv_aload_n hx hb dX11_sea_120 rfl (lv_at hl 0 rfl) ?_
                refine gf_X11_146 (v := I78 121 (ma 0)) X hw hM.1 (show up2 I78 120 (ma 0) (I78 121 (ma 0)) 120 (ma 0) = (I78 121 (ma 0)) from up2_s) dX11_sea_121 ?_
                refine q_ldI X hw (mk_12 hM) (vin (mn_12 hM) (by omega) (by omega)) dX11_sea_124 ?_
                refine lv_topi (fun v124_31 e124_31 => ?_)
                have e124_31 : v124_31 = q78 (ma 12) ((I78 121 (ma 0)).toNatClampNeg) := e124_31
                have e124n := e124_31
                exact hret v124_31 _ _ _ _ _ ⟨_, _, _, rfl, mInv_w hM hI (FrW.up (f := 120) (by decide) hF) hY2 (show 0 ≤ (I78 102 (ma 0)).toInt ∧ (I78 102 (ma 0)).toInt ≤ 1000 by rw [h102]; have := t_0; omega) hE4 (by rw [show (up2 I78 120 (ma 0) (I78 121 (ma 0))) 120 (ma 0) = (I78 121 (ma 0) : Int32) from (show up2 I78 120 (ma 0) (I78 121 (ma 0)) 120 (ma 0) = (I78 121 (ma 0)) from up2_s), hR]; omega) (show 0 ≤ (I78 121 (ma 0)).toInt ∧ (I78 121 (ma 0)).toInt ≤ 1 by rw [hR]; omega) hms3, (show I78 102 (ma 0) = 0 from h102), congrFun ((FrW.up (f := 120) (by decide) hF) 128 (by decide)) (ma 0), congrFun ((FrW.up (f := 120) (by decide) hF) 140 (by decide)) (ma 0), (fun j9 h9 h8 => FrQ.at hM hY2 h8 (Or.inr (by omega))), Or.inl ⟨V9, MI_e hvk9 hP9 hk91, (by rw [e124n, hR, hRBn]; exact hl9), (by rw [show (up2 I78 120 (ma 0) (I78 121 (ma 0))) 120 (ma 0) = (I78 121 (ma 0) : Int32) from (show up2 I78 120 (ma 0) (I78 121 (ma 0)) 120 (ma 0) = (I78 121 (ma 0)) from up2_s), hR]; exact hRBb), hMB9, hl9, hvk9⟩⟩ hw rfl dX11_sea_125
              · have h100_28 : ¬ ((I78 104 (ma 0) : Int32).toInt = 0) := h100_28
                refine lv_if_ne (tgt := 108) hx hb dX11_sea_103 (by decide) (fun c103_32 => absurd c103_32 (by decide)) (fun c103_32 => ?_)
                refine lv_iconst (v := -1) hx hb dX11_sea_106 (by decide) ?_
                exact hret (-1) _ _ _ _ _ ⟨_, _, _, rfl, mInv_w hM hI hF hY2 (by rw [h102]; have := t_0; omega) hE4 (by rw [hK]; exact b3) (by rw [hR]; omega) hms3, h102, congrFun (hF 128 (by decide)) (ma 0), congrFun (hF 140 (by decide)) (ma 0), (fun j9 h9 h8 => FrQ.at hM hY2 h8 (Or.inr (by omega))), Or.inr ⟨hst.no (by omega), (by decide), (by rw [hK]; exact hbk), hKB3⟩⟩ hw rfl dX11_sea_107
        exact lp78 _ I75_8 J75_9 q71_5  (FrW.tr (FrW.up (f := 121) (by decide) (FrW.up (f := 107) (by decide) (FrW.up (f := 102) (by decide) (FrW.up (f := 103) (by decide) (FrW.up (f := 105) (by decide) (FrW.up (f := 104) (by decide) FrW.rf)))))) (h75_6.1.m.w)) (FrQ.tr hY (FrQ.lo (by decide) h71_3.1)) h75_6.2.2 ((congrFun (N1 121 (by decide)) (ma 0)).trans P121) ((congrFun (N1 120 (by decide)) (ma 0)).trans P120) ((congrFun (N1 102 (by decide)) (ma 0)).trans P102) hms2 hKB2 htq2 ((congrArg Int32.toInt (congrFun (N1 103 (by decide)) (ma 0))).trans P103) (Or.inl ⟨(congrArg Int32.toInt (congrFun (N1 104 (by decide)) (ma 0))).trans P104, sv0, 0, Nat.zero_le _, hTK0, hMB0, hcl2, vok_0, fun o ho => ho⟩) (Nat.lt_succ_self _) _ _ _ hw (lv_sub hl [1] rfl)
      · have D25_1 := iNle c25_1 rfl rfl
        refine lv_aload_n hx hb dX11_sea_28 rfl (lv_at hl 1 rfl) ?_
        refine gf_X11_7 (b := (ma 2)) X hw hM.1 (mr_2 hM) dX11_sea_29 ?_
        refine lv_iload_n hx hb dX11_sea_32 rfl (lv_at hl 0 rfl) ?_
        refine lv_aload_n hx hb dX11_sea_33 rfl (lv_at hl 1 rfl) ?_
        refine gf_X11_58 (b := (ma 1)) X hw hM.1 (mr_1 hM) dX11_sea_34 ?_
        refine lv_iload_n hx hb dX11_sea_37 rfl (lv_at hl 0 rfl) ?_
        refine q_ldB X hw (mk_1 hM) (vin (mn_1 hM) (by omega) (by omega)) dX11_sea_38 ?_
        refine lv_topi (fun v38_33 e38_33 => ?_)
        have e38_33 : v38_33 = q20 (ma 1) k.toNatClampNeg := e38_33
        have e38n := e38_33
        refine q_stB X hw (mk_2 hM) (vin (mn_2 hM) (by omega) (by omega)) dX11_sea_39 (fun H locs hw => ?_)
        obtain ⟨q39_34, eq39_34, hw⟩ : ∃ zz9, zz9 = va_up q20 (ma 2) (upd (q20 (ma 2)) k.toNatClampNeg (vp_nar .byte v38_33)) ∧ PX G A s.heap (ch S (up2 (up2 (up2 (pI S) 104 (ma 0) 0) 105 (ma 0) (-1)) 103 (ma 0) ((pI S) 102 (ma 0))) (pJ S) zz9 (qJ S)) H locs := ⟨_, rfl, hw⟩
        have c39 := eq39_34
        obtain ⟨v40_35, e40_35⟩ : ∃ y : Int32, y = k + 1 := ⟨_, rfl⟩
        have t40_35 := iAdd e40_35 rfl t_1 (by omega) (by omega)
        have t40 := t40_35
        refine lv_iinc (v := v40_35) (lv' := [(1, .int v40_35), (0, .ref (ma 0))]) hx hb dX11_sea_40 hl (k := 0) rfl (by rw [e40_35]; rfl) (by decide) rfl (fun ls hl => ?_)
        refine lv_goto (tgt := 20) hx hb dX11_sea_43 (by decide) ?_
        exact ih20 q39_34 v40_35 (FrQ.ez eq39_34 (FrQ.up (j := 2) (by decide) (by decide) hY)) (by omega) (by rw [row_keep hM c39 (i := 18) (by decide) (by decide) (by decide)]; exact h18) (by rw [row_keep hM c39 (i := 1) (by decide) (by decide) (by decide)]; exact h1r) (hKB1.tr (fun j9 h9 h8 i9 _ => congrFun (row_keep hM c39 (i := j9) (by omega) (by decide) (by omega)) i9)) (cpR_s hcp hk.1 t40 (by rw [e38n, h1r]) c39) (by omega) _ _ _ hw (lv_sub hl [0, 1] rfl)
  exact lp20 _ (qI S) 0 FrQ.rf (by have := t_0; omega) rfl rfl KeepB.rf (fun j9 h9 => absurd h9 (by rw [show (0 : Int32).toNatClampNeg = 0 by decide]; omega)) (Nat.lt_succ_self _) _ _ _ hw (lv_sub hl [0, 1] rfl)
