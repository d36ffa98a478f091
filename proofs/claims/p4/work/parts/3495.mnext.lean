
set_option maxHeartbeats 4000000 in
set_option maxRecDepth 100000 in
theorem c_v_X11_next (l : Launch) (G : Gh) (S : Pl) (ma : Nat → Nat) (tc : Nat → Int32) (tn : Nat) (hM : shMod S ma) (htc : tc = tx (qI S (ma 2)) tn) (hn : (pI S 103 (ma 0)).toInt = (tn : Int)) (hz : tn ≤ 1000) (hbh : 0 ≤ (pI S 107 (ma 0)).toInt ∧ (pI S 107 (ma 0)).toInt ≤ (tn : Int)) : MtV l yX11_next cX11_next 3 none (Rm 2 0 0) G [.ref (ma 0)] S (fun (S' : Pl) => ∃ I' J', ch S I' J' (qI S) (qJ S) = S' ∧ FrN (pI S) I' ∧ mTok I' J' (ma 0) tc tn (pI S 107 (ma 0)).toNatClampNeg) 0 0 := by
  refine MtV.of (by decide) (Nat.le_of_ble_eq_true rfl) ?_
  intro p e s m args below meth c Q A X hw hin hret ls hl
  have hx := X.1.1
  have hb := X.1.2.1
  have hl : lv_has ls 3 [(0, .ref (ma 0))] := hl
  have hcl := cl_toInt (x := pI S 107 (ma 0)) hbh.1
  have hS2 := tS_le (c := tc) (n := tn) (p := (pI S 107 (ma 0)).toNatClampNeg) (by omega)
  refine lv_aload_n hx hb dX11_next_0 rfl (lv_at hl 0 rfl) ?_
  refine lv_aload_n hx hb dX11_next_1 rfl (lv_at hl 0 rfl) ?_
  refine gf_X11_17 (v := (pI S) 107 (ma 0)) X hw hM.1 rfl dX11_next_2 ?_
  refine pf_X11_20 X hw hM.1 dX11_next_5 (fun H locs hw => ?_)
  have hw : PX G A s.heap (ch S (up2 (pI S) 106 (ma 0) ((pI S) 107 (ma 0))) (pJ S) (qI S) (qJ S)) H locs := hw
  have lp8 : ∀ (N9 : Nat) (I8 : Nat → Nat → Int32), (FrN (pI S) I8) → (0 ≤ (I8 106 (ma 0)).toInt ∧ (I8 106 (ma 0)).toInt ≤ (tn : Int)) → (run bB tc tn (I8 106 (ma 0)).toNatClampNeg = (tS tc tn (pI S 107 (ma 0)).toNatClampNeg)) → ((tn : Int) - (I8 106 (ma 0)).toInt).toNat < N9 → ∀ (H : Heap) (locs : List Loc) (ls : Array Slot), PX G A s.heap (ch S I8 (pJ S) (qI S) (qJ S)) H locs → lv_has ls 3 [(0, .ref (ma 0))] → W p l e (Rm 2 0 0) s m args below meth c H locs 0 0 Q (F0 m 8 ls []) := by
    intro N9
    induction N9 with
    | zero => intro I8 hF hB hT hm; exact absurd hm (Nat.not_lt_zero _)
    | succ N9 ih8 =>
      intro I8 hF hB hT hm H locs ls hw hl
      have hnn := FrN.n hF hn
      refine lv_aload_n hx hb dX11_next_8 rfl (lv_at hl 0 rfl) ?_
      refine gf_X11_20 (v := I8 106 (ma 0)) X hw hM.1 rfl dX11_next_9 ?_
      refine lv_aload_n hx hb dX11_next_12 rfl (lv_at hl 0 rfl) ?_
      refine gf_X11_1 (v := I8 103 (ma 0)) X hw hM.1 rfl dX11_next_13 ?_
      refine lv_icmp_ge (tgt := 58) hx hb dX11_next_16 (by decide) (fun c16_1 => ?_) (fun c16_1 => ?_)
      · have D16_1 := iLe c16_1 rfl rfl
        have hEX : (I8 106 (ma 0)).toInt = ((tS tc tn (pI S 107 (ma 0)).toNatClampNeg) : Nat) := rs_e hT (by omega) (by first | (left; omega) | (right; exact bB_f (by omega)))
        obtain ⟨B1, hB1⟩ : ∃ z, z = I8 106 (ma 0) := ⟨_, rfl⟩
        have hB2 : B1.toNatClampNeg = (tS tc tn (pI S 107 (ma 0)).toNatClampNeg) := by have := cl_toInt (x := B1) (by rw [hB1]; omega); rw [← hB1] at hEX; omega
        refine lv_aload_n hx hb dX11_next_58 rfl (lv_at hl 0 rfl) ?_
        refine lv_aload_n hx hb dX11_next_59 rfl (lv_at hl 0 rfl) ?_
        refine gf_X11_20 (v := I8 106 (ma 0)) X hw hM.1 rfl dX11_next_60 ?_
        refine k_Vi (n := 1) X hw (rcvk (ci := 11) X hw hM.1 (fun _ _ _ _ _ _ _ => ⟨_, rfl⟩) rfl) (c_v_X11_sign l G _ ma tc tn (I8 106 (ma 0)) hM htc (FrN.n hF hn) hz (by omega)) wd_r20_21 wd_r20_22 wd_r20_23 wd_r1_5 wd_r21_0 ⟨by decide, by decide, by decide +kernel⟩ rfl rfl ⟨Nat.le_of_ble_eq_true rfl, Nat.le_of_ble_eq_true rfl⟩ rfl rfl hl.1 (Nat.le_of_ble_eq_true rfl) dX11_next_63 ⟨Nat.le_of_ble_eq_true rfl, Nat.le_of_ble_eq_true rfl⟩ (fun r63_2 S63_4 H locs h63_3 hw => ?_)
        obtain ⟨rfl, h63_3⟩ := h63_3
        have hc63 : r63_2 = tc (tS tc tn (pI S 107 (ma 0)).toNatClampNeg) := by rw [← hB2, hB1]; exact h63_3
        have hc63t := congrArg Int32.toInt hc63
        refine lv_istore_n (lv' := [(1, .int r63_2), (0, .ref (ma 0))]) hx hb dX11_next_66 rfl hl (by decide) rfl (fun ls hl => ?_)
        refine lv_aload_n hx hb dX11_next_67 rfl (lv_at hl 1 rfl) ?_
        refine lv_aload_n hx hb dX11_next_68 rfl (lv_at hl 1 rfl) ?_
        refine gf_X11_20 (v := I8 106 (ma 0)) X hw hM.1 rfl dX11_next_69 ?_
        refine lv_iconst (v := 1) hx hb dX11_next_72 (by decide) ?_
        refine lv_iadd hx hb dX11_next_73 ?_
        refine lv_topi (fun v73_5 e73_5 => ?_)
        have t73_5 := iAdd e73_5 rfl t_1 (by omega) (by omega)
        have t73 := t73_5
        refine pf_X11_17 X hw hM.1 dX11_next_74 (fun H locs hw => ?_)
        have hw : PX G A s.heap (ch S (up2 I8 107 (ma 0) v73_5) (pJ S) (qI S) (qJ S)) H locs := hw
        refine lv_aload_n hx hb dX11_next_77 rfl (lv_at hl 1 rfl) ?_
        refine gf_X11_20 (v := I8 106 (ma 0)) X hw hM.1 rfl dX11_next_78 ?_
        refine lv_aload_n hx hb dX11_next_81 rfl (lv_at hl 1 rfl) ?_
        refine gf_X11_1 (v := I8 103 (ma 0)) X hw hM.1 rfl dX11_next_82 ?_
        refine lv_icmp_lt (tgt := 112) hx hb dX11_next_85 (by decide) (fun c85_6 => ?_) (fun c85_6 => ?_)
        · have D85_6 := iLt c85_6 rfl rfl
          refine lv_iload_n hx hb dX11_next_112 rfl (lv_at hl 0 rfl) ?_
          refine k_Si (n := 1) X hw (c_X11_isLetter l G _ r63_2) wd_r21_1 wd_r21_2 wd_r1_5 wd_r21_3 ⟨by decide, by decide, by decide +kernel⟩ rfl rfl ⟨Nat.le_of_ble_eq_true rfl, Nat.le_of_ble_eq_true rfl⟩ rfl rfl hl.1 (Nat.le_of_ble_eq_true rfl) dX11_next_113 ⟨Nat.le_of_ble_eq_true rfl, Nat.le_of_ble_eq_true rfl⟩ (fun r113_7 S113_9 H locs h113_8 hw => ?_)
          rcases h113_8 with ⟨rfl, rfl, h113_8⟩ | ⟨rfl, rfl, h113_8⟩
          · have h113_8 := h113_8
            refine lv_if_eq (tgt := 225) hx hb dX11_next_116 (by decide) (fun c116_10 => absurd c116_10 (by decide)) (fun c116_10 => ?_)
            have lp119 : ∀ (N9 : Nat) (I119 : Nat → Nat → Int32), (FrN (pI S) I119) → (((tS tc tn (pI S 107 (ma 0)).toNatClampNeg) : Int) < (I119 107 (ma 0)).toInt ∧ (I119 107 (ma 0)).toInt ≤ (tn : Int)) → (run lB tc tn (I119 107 (ma 0)).toNatClampNeg = (run lB tc tn (tS tc tn (pI S 107 (ma 0)).toNatClampNeg))) → ((I119 106 (ma 0)).toInt = ((tS tc tn (pI S 107 (ma 0)).toNatClampNeg) : Nat)) → ((tn : Int) - (I119 107 (ma 0)).toInt).toNat < N9 → ∀ (H : Heap) (locs : List Loc) (ls : Array Slot), PX G A s.heap (ch S I119 (pJ S) (qI S) (qJ S)) H locs → lv_has ls 3 [(1, .int r63_2), (0, .ref (ma 0))] → W p l e (Rm 2 0 0) s m args below meth c H locs 0 0 Q (F0 m 119 ls []) := by
              intro N9
              induction N9 with
              | zero => intro I119 hF hB hT h106 hm; exact absurd hm (Nat.not_lt_zero _)
              | succ N9 ih119 =>
                intro I119 hF hB hT h106 hm H locs ls hw hl
                have hnn := FrN.n hF hn
                refine lv_aload_n hx hb dX11_next_119 rfl (lv_at hl 1 rfl) ?_
                refine lv_aload_n hx hb dX11_next_120 rfl (lv_at hl 1 rfl) ?_
                refine gf_X11_17 (v := I119 107 (ma 0)) X hw hM.1 rfl dX11_next_121 ?_
                refine k_Vi (n := 1) X hw (rcvk (ci := 11) X hw hM.1 (fun _ _ _ _ _ _ _ => ⟨_, rfl⟩) rfl) (c_v_X11_sign l G _ ma tc tn (I119 107 (ma 0)) hM htc (FrN.n hF hn) hz (by omega)) wd_r20_21 wd_r20_22 wd_r20_23 wd_r1_5 wd_r21_0 ⟨by decide, by decide, by decide +kernel⟩ rfl rfl ⟨Nat.le_of_ble_eq_true rfl, Nat.le_of_ble_eq_true rfl⟩ rfl rfl hl.1 (Nat.le_of_ble_eq_true rfl) dX11_next_124 ⟨Nat.le_of_ble_eq_true rfl, Nat.le_of_ble_eq_true rfl⟩ (fun r124_11 S124_13 H locs h124_12 hw => ?_)
                obtain ⟨rfl, h124_12⟩ := h124_12
                have hby4 := congrArg Int32.toInt (show r124_11 = tc (I119 107 (ma 0)).toNatClampNeg from h124_12)
                have hlt9 : 0 < r124_11.toInt → (I119 107 (ma 0)).toInt < (tn : Int) := fun h => tx_posI htc (by omega) (by omega)
                refine k_Si (n := 1) X hw (c_X11_isLetter l G _ r124_11) wd_r21_1 wd_r21_2 wd_r1_5 wd_r21_3 ⟨by decide, by decide, by decide +kernel⟩ rfl rfl ⟨Nat.le_of_ble_eq_true rfl, Nat.le_of_ble_eq_true rfl⟩ rfl rfl hl.1 (Nat.le_of_ble_eq_true rfl) dX11_next_127 ⟨Nat.le_of_ble_eq_true rfl, Nat.le_of_ble_eq_true rfl⟩ (fun r127_14 S127_16 H locs h127_15 hw => ?_)
                rcases h127_15 with ⟨rfl, rfl, h127_15⟩ | ⟨rfl, rfl, h127_15⟩
                · have h127_15 := h127_15
                  refine lv_if_eq (tgt := 146) hx hb dX11_next_130 (by decide) (fun c130_17 => absurd c130_17 (by decide)) (fun c130_17 => ?_)
                  refine lv_aload_n hx hb dX11_next_133 rfl (lv_at hl 1 rfl) ?_
                  refine lv_dup hx hb dX11_next_134 rfl ?_
                  refine gf_X11_17 (v := I119 107 (ma 0)) X hw hM.1 rfl dX11_next_135 ?_
                  refine lv_iconst (v := 1) hx hb dX11_next_138 (by decide) ?_
                  refine lv_iadd hx hb dX11_next_139 ?_
                  refine lv_topi (fun v139_18 e139_18 => ?_)
                  have t139_18 := iAdd e139_18 rfl t_1 (by omega) (by omega)
                  have t139 := t139_18
                  refine pf_X11_17 X hw hM.1 dX11_next_140 (fun H locs hw => ?_)
                  have hw : PX G A s.heap (ch S (up2 I119 107 (ma 0) v139_18) (pJ S) (qI S) (qJ S)) H locs := hw
                  refine lv_goto (tgt := 119) hx hb dX11_next_143 (by decide) ?_
                  exact ih119 (up2 I119 107 (ma 0) v139_18)  (FrN.up (f := 107) (by decide) hF) (by rw [show (up2 I119 107 (ma 0) v139_18) 107 (ma 0) = (v139_18 : Int32) from (show up2 I119 107 (ma 0) v139_18 107 (ma 0) = v139_18 from up2_s)]; omega) (by rw [show (up2 I119 107 (ma 0) v139_18) 107 (ma 0) = (v139_18 : Int32) from (show up2 I119 107 (ma 0) v139_18 107 (ma 0) = v139_18 from up2_s)]; exact rs_s hT (by omega) (by omega) (lB_i.mpr (by omega)) t139) (by rw [show (up2 I119 107 (ma 0) v139_18) 106 (ma 0) = (I119 106 (ma 0) : Int32) from rfl]; exact h106) (by rw [show (up2 I119 107 (ma 0) v139_18) 107 (ma 0) = (v139_18 : Int32) from (show up2 I119 107 (ma 0) v139_18 107 (ma 0) = v139_18 from up2_s)]; omega) _ _ _ hw (lv_sub hl [0, 1] rfl)
                · have h127_15 := h127_15
                  refine lv_if_eq (tgt := 146) hx hb dX11_next_130 (by decide) (fun c130_19 => ?_) (fun c130_19 => absurd c130_19 (by decide))
                  have hEL : (I119 107 (ma 0)).toInt = ((run lB tc tn (tS tc tn (pI S 107 (ma 0)).toNatClampNeg)) : Nat) := rs_e hT (by omega) (Or.inr (lB_f (by omega)))
                  have hU := u_word (c := tc) (n := tn) (s := (tS tc tn (pI S 107 (ma 0)).toNatClampNeg)) (by omega) (lB_i.mpr (by omega))
                  refine lv_aload_n hx hb dX11_next_146 rfl (lv_at hl 1 rfl) ?_
                  refine lv_lconst (v := 0) hx hb dX11_next_147 (by decide) ?_
                  refine pf_X11_34 X hw hM.1 dX11_next_148 (fun H locs hw => ?_)
                  have hw : PX G A s.heap (ch S I119 (up2 (pJ S) 110 (ma 0) 0) (qI S) (qJ S)) H locs := hw
                  refine lv_aload_n hx hb dX11_next_151 rfl (lv_at hl 1 rfl) ?_
                  refine gf_X11_20 (v := I119 106 (ma 0)) X hw hM.1 rfl dX11_next_152 ?_
                  refine lv_istore_n (lv' := [(2, .int (I119 106 (ma 0))), (1, .int r63_2), (0, .ref (ma 0))]) hx hb dX11_next_155 rfl hl (by decide) rfl (fun ls hl => ?_)
                  have lp156 : ∀ (N9 : Nat) (J156 : Nat → Nat → Int64) (k : Int32), (((tS tc tn (pI S 107 (ma 0)).toNatClampNeg) : Int) ≤ k.toInt ∧ k.toInt ≤ (I119 107 (ma 0)).toInt ∧ k.toInt ≤ ((tS tc tn (pI S 107 (ma 0)).toNatClampNeg) : Int) + 8) → (J156 110 (ma 0) = nmv tc (tS tc tn (pI S 107 (ma 0)).toNatClampNeg) (k.toNatClampNeg - (tS tc tn (pI S 107 (ma 0)).toNatClampNeg))) → ((I119 107 (ma 0)).toInt - k.toInt).toNat < N9 → ∀ (H : Heap) (locs : List Loc) (ls : Array Slot), PX G A s.heap (ch S I119 J156 (qI S) (qJ S)) H locs → lv_has ls 3 [(2, .int k), (1, .int r63_2), (0, .ref (ma 0))] → W p l e (Rm 2 0 0) s m args below meth c H locs 0 0 Q (F0 m 156 ls []) := by
                    intro N9
                    induction N9 with
                    | zero => intro J156 k hk hJ hm; exact absurd hm (Nat.not_lt_zero _)
                    | succ N9 ih156 =>
                      intro J156 k hk hJ hm H locs ls hw hl
                      refine lv_iload_n hx hb dX11_next_156 rfl (lv_at hl 0 rfl) ?_
                      refine lv_aload_n hx hb dX11_next_157 rfl (lv_at hl 2 rfl) ?_
                      refine gf_X11_17 (v := I119 107 (ma 0)) X hw hM.1 rfl dX11_next_158 ?_
                      refine lv_icmp_ge (tgt := 199) hx hb dX11_next_161 (by decide) (fun c161_20 => ?_) (fun c161_20 => ?_)
                      · have D161_20 := iLe c161_20 rfl rfl
                        refine lv_aload_n hx hb dX11_next_199 rfl (lv_at hl 2 rfl) ?_
                        refine lv_aload_n hx hb dX11_next_200 rfl (lv_at hl 2 rfl) ?_
                        refine gf_X11_17 (v := I119 107 (ma 0)) X hw hM.1 rfl dX11_next_201 ?_
                        refine lv_aload_n hx hb dX11_next_204 rfl (lv_at hl 2 rfl) ?_
                        refine gf_X11_20 (v := I119 106 (ma 0)) X hw hM.1 rfl dX11_next_205 ?_
                        refine lv_isub hx hb dX11_next_208 ?_
                        refine lv_topi (fun v208_21 e208_21 => ?_)
                        have t208_21 := iSub e208_21 rfl rfl (by omega) (by omega)
                        have t208 := t208_21
                        refine lv_bipush (v := 8) hx hb dX11_next_209 (by decide) ?_
                        refine lv_icmp_le (tgt := 218) hx hb dX11_next_211 (by decide) (fun c211_22 => ?_) (fun c211_22 => ?_)
                        · have D211_22 := iLe c211_22 rfl t_8
                          refine lv_iconst (v := 2) hx hb dX11_next_218 (by decide) ?_
                          refine pf_X11_27 X hw hM.1 dX11_next_219 (fun H locs hw => ?_)
                          have hw : PX G A s.heap (ch S (up2 I119 108 (ma 0) 2) J156 (qI S) (qJ S)) H locs := hw
                          have HFIN : mTok (up2 I119 108 (ma 0) 2) J156 (ma 0) tc tn (pI S 107 (ma 0)).toNatClampNeg := mt_fin (s := (tS tc tn (pI S 107 (ma 0)).toNatClampNeg)) rfl (by rw [show (up2 I119 108 (ma 0) 2) 106 (ma 0) = (I119 106 (ma 0) : Int32) from rfl]; exact h106) (by rw [hU.1, show (up2 I119 108 (ma 0) 2) 107 (ma 0) = (I119 107 (ma 0) : Int32) from rfl]; exact hEL) (by rw [hU.2, show (up2 I119 108 (ma 0) 2) 108 (ma 0) = (2 : Int32) from (show up2 I119 108 (ma 0) 2 108 (ma 0) = 2 from up2_s)]; first | (rw [if_pos (by omega)]; decide) | (rw [if_neg (by omega)]; decide)) (fun q => absurd (hU.2.symm.trans q) (by split <;> decide)) (fun q => by rw [hU.1]; exact nm_e hJ (by have := ifn2 (hU.2.symm.trans q); omega))
                          refine lv_goto (tgt := 287) hx hb dX11_next_222 (by decide) ?_
                          have HFIN : mTok (up2 I119 108 (ma 0) 2) J156 (ma 0) tc tn (pI S 107 (ma 0)).toNatClampNeg := by first | exact HFIN | exact (mt_fin (s := (tS tc tn (pI S 107 (ma 0)).toNatClampNeg)) rfl (by rw [show (up2 I119 108 (ma 0) 2) 106 (ma 0) = (I119 106 (ma 0) : Int32) from rfl]; exact hEX) (by rw [(u_sem (c := tc) (n := tn) (s := (tS tc tn (pI S 107 (ma 0)).toNatClampNeg)) (by omega) (by omega)).1, show (up2 I119 108 (ma 0) 2) 107 (ma 0) = (I119 107 (ma 0) : Int32) from rfl]; omega) (by rw [(u_sem (c := tc) (n := tn) (s := (tS tc tn (pI S 107 (ma 0)).toNatClampNeg)) (by omega) (by omega)).2, show (up2 I119 108 (ma 0) 2) 108 (ma 0) = (2 : Int32) from (show up2 I119 108 (ma 0) 2 108 (ma 0) = 2 from up2_s)]; decide) (nt3 (u_sem (c := tc) (n := tn) (s := (tS tc tn (pI S 107 (ma 0)).toNatClampNeg)) (by omega) (by omega)).2 (by decide)) (nt2 (u_sem (c := tc) (n := tn) (s := (tS tc tn (pI S 107 (ma 0)).toNatClampNeg)) (by omega) (by omega)).2 (by decide))) | exact (mt_fin (s := (tS tc tn (pI S 107 (ma 0)).toNatClampNeg)) rfl (by rw [show (up2 I119 108 (ma 0) 2) 106 (ma 0) = (I119 106 (ma 0) : Int32) from rfl]; exact hEX) (by rw [(u_bad (c := tc) (n := tn) (s := (tS tc tn (pI S 107 (ma 0)).toNatClampNeg)) (by omega) (lB_f (by omega)) (dB_f (by omega)) (by omega) (by first | (left; omega) | (right; exact dB_f (by omega)))).1, show (up2 I119 108 (ma 0) 2) 107 (ma 0) = (I119 107 (ma 0) : Int32) from rfl]; omega) (by rw [(u_bad (c := tc) (n := tn) (s := (tS tc tn (pI S 107 (ma 0)).toNatClampNeg)) (by omega) (lB_f (by omega)) (dB_f (by omega)) (by omega) (by first | (left; omega) | (right; exact dB_f (by omega)))).2, show (up2 I119 108 (ma 0) 2) 108 (ma 0) = (2 : Int32) from (show up2 I119 108 (ma 0) 2 108 (ma 0) = 2 from up2_s)]; decide) (nt3 (u_bad (c := tc) (n := tn) (s := (tS tc tn (pI S 107 (ma 0)).toNatClampNeg)) (by omega) (lB_f (by omega)) (dB_f (by omega)) (by omega) (by first | (left; omega) | (right; exact dB_f (by omega)))).2 (by decide)) (nt2 (u_bad (c := tc) (n := tn) (s := (tS tc tn (pI S 107 (ma 0)).toNatClampNeg)) (by omega) (lB_f (by omega)) (dB_f (by omega)) (by omega) (by first | (left; omega) | (right; exact dB_f (by omega)))).2 (by decide)))
                          exact hret _ _ _ _ _ ⟨_, _, rfl, (FrN.up (f := 108) (by decide) hF), HFIN⟩ hw dX11_next_287
                        · have D211_22 := iNle c211_22 rfl t_8
                          refine lv_iconst (v := 1) hx hb dX11_next_214 (by decide) ?_
                          refine lv_goto (tgt := 219) hx hb dX11_next_215 (by decide) ?_
                          refine pf_X11_27 X hw hM.1 dX11_next_219 (fun H locs hw => ?_)
                          have hw : PX G A s.heap (ch S (up2 I119 108 (ma 0) 1) J156 (qI S) (qJ S)) H locs := hw
                          have HFIN : mTok (up2 I119 108 (ma 0) 1) J156 (ma 0) tc tn (pI S 107 (ma 0)).toNatClampNeg := mt_fin (s := (tS tc tn (pI S 107 (ma 0)).toNatClampNeg)) rfl (by rw [show (up2 I119 108 (ma 0) 1) 106 (ma 0) = (I119 106 (ma 0) : Int32) from rfl]; exact h106) (by rw [hU.1, show (up2 I119 108 (ma 0) 1) 107 (ma 0) = (I119 107 (ma 0) : Int32) from rfl]; exact hEL) (by rw [hU.2, show (up2 I119 108 (ma 0) 1) 108 (ma 0) = (1 : Int32) from (show up2 I119 108 (ma 0) 1 108 (ma 0) = 1 from up2_s)]; first | (rw [if_pos (by omega)]; decide) | (rw [if_neg (by omega)]; decide)) (fun q => absurd (hU.2.symm.trans q) (by split <;> decide)) (fun q => by rw [hU.1]; exact nm_e hJ (by have := ifn2 (hU.2.symm.trans q); omega))
                          refine lv_goto (tgt := 287) hx hb dX11_next_222 (by decide) ?_
                          have HFIN : mTok (up2 I119 108 (ma 0) 1) J156 (ma 0) tc tn (pI S 107 (ma 0)).toNatClampNeg := by first | exact HFIN | exact (mt_fin (s := (tS tc tn (pI S 107 (ma 0)).toNatClampNeg)) rfl (by rw [show (up2 I119 108 (ma 0) 1) 106 (ma 0) = (I119 106 (ma 0) : Int32) from rfl]; exact hEX) (by rw [(u_sem (c := tc) (n := tn) (s := (tS tc tn (pI S 107 (ma 0)).toNatClampNeg)) (by omega) (by omega)).1, show (up2 I119 108 (ma 0) 1) 107 (ma 0) = (I119 107 (ma 0) : Int32) from rfl]; omega) (by rw [(u_sem (c := tc) (n := tn) (s := (tS tc tn (pI S 107 (ma 0)).toNatClampNeg)) (by omega) (by omega)).2, show (up2 I119 108 (ma 0) 1) 108 (ma 0) = (1 : Int32) from (show up2 I119 108 (ma 0) 1 108 (ma 0) = 1 from up2_s)]; decide) (nt3 (u_sem (c := tc) (n := tn) (s := (tS tc tn (pI S 107 (ma 0)).toNatClampNeg)) (by omega) (by omega)).2 (by decide)) (nt2 (u_sem (c := tc) (n := tn) (s := (tS tc tn (pI S 107 (ma 0)).toNatClampNeg)) (by omega) (by omega)).2 (by decide))) | exact (mt_fin (s := (tS tc tn (pI S 107 (ma 0)).toNatClampNeg)) rfl (by rw [show (up2 I119 108 (ma 0) 1) 106 (ma 0) = (I119 106 (ma 0) : Int32) from rfl]; exact hEX) (by rw [(u_bad (c := tc) (n := tn) (s := (tS tc tn (pI S 107 (ma 0)).toNatClampNeg)) (by omega) (lB_f (by omega)) (dB_f (by omega)) (by omega) (by first | (left; omega) | (right; exact dB_f (by omega)))).1, show (up2 I119 108 (ma 0) 1) 107 (ma 0) = (I119 107 (ma 0) : Int32) from rfl]; omega) (by rw [(u_bad (c := tc) (n := tn) (s := (tS tc tn (pI S 107 (ma 0)).toNatClampNeg)) (by omega) (lB_f (by omega)) (dB_f (by omega)) (by omega) (by first | (left; omega) | (right; exact dB_f (by omega)))).2, show (up2 I119 108 (ma 0) 1) 108 (ma 0) = (1 : Int32) from (show up2 I119 108 (ma 0) 1 108 (ma 0) = 1 from up2_s)]; decide) (nt3 (u_bad (c := tc) (n := tn) (s := (tS tc tn (pI S 107 (ma 0)).toNatClampNeg)) (by omega) (lB_f (by omega)) (dB_f (by omega)) (by omega) (by first | (left; omega) | (right; exact dB_f (by omega)))).2 (by decide)) (nt2 (u_bad (c := tc) (n := tn) (s := (tS tc tn (pI S 107 (ma 0)).toNatClampNeg)) (by omega) (lB_f (by omega)) (dB_f (by omega)) (by omega) (by first | (left; omega) | (right; exact dB_f (by omega)))).2 (by decide)))
                          exact hret _ _ _ _ _ ⟨_, _, rfl, (FrN.up (f := 108) (by decide) hF), HFIN⟩ hw dX11_next_287
                      · have D161_20 := iNle c161_20 rfl rfl
                        refine lv_iload_n hx hb dX11_next_164 rfl (lv_at hl 0 rfl) ?_
                        refine lv_aload_n hx hb dX11_next_165 rfl (lv_at hl 2 rfl) ?_
                        refine gf_X11_20 (v := I119 106 (ma 0)) X hw hM.1 rfl dX11_next_166 ?_
                        refine lv_bipush (v := 8) hx hb dX11_next_169 (by decide) ?_
                        refine lv_iadd hx hb dX11_next_171 ?_
                        refine lv_topi (fun v171_23 e171_23 => ?_)
                        have t171_23 := iAdd e171_23 rfl t_8 (by omega) (by omega)
                        have t171 := t171_23
                        refine lv_icmp_ge (tgt := 199) hx hb dX11_next_172 (by decide) (fun c172_24 => ?_) (fun c172_24 => ?_)
                        · have D172_24 := iLe c172_24 rfl rfl
                          refine lv_aload_n hx hb dX11_next_199 rfl (lv_at hl 2 rfl) ?_
                          refine lv_aload_n hx hb dX11_next_200 rfl (lv_at hl 2 rfl) ?_
                          refine gf_X11_17 (v := I119 107 (ma 0)) X hw hM.1 rfl dX11_next_201 ?_
                          refine lv_aload_n hx hb dX11_next_204 rfl (lv_at hl 2 rfl) ?_
                          refine gf_X11_20 (v := I119 106 (ma 0)) X hw hM.1 rfl dX11_next_205 ?_
                          refine lv_isub hx hb dX11_next_208 ?_
                          refine lv_topi (fun v208_25 e208_25 => ?_)
                          have t208_25 := iSub e208_25 rfl rfl (by omega) (by omega)
                          have t208 := t208_25
                          refine lv_bipush (v := 8) hx hb dX11_next_209 (by decide) ?_
                          refine lv_icmp_le (tgt := 218) hx hb dX11_next_211 (by decide) (fun c211_26 => ?_) (fun c211_26 => ?_)
                          · have D211_26 := iLe c211_26 rfl t_8
                            refine lv_iconst (v := 2) hx hb dX11_next_218 (by decide) ?_
                            refine pf_X11_27 X hw hM.1 dX11_next_219 (fun H locs hw => ?_)
                            have hw : PX G A s.heap (ch S (up2 I119 108 (ma 0) 2) J156 (qI S) (qJ S)) H locs := hw
                            have HFIN : mTok (up2 I119 108 (ma 0) 2) J156 (ma 0) tc tn (pI S 107 (ma 0)).toNatClampNeg := mt_fin (s := (tS tc tn (pI S 107 (ma 0)).toNatClampNeg)) rfl (by rw [show (up2 I119 108 (ma 0) 2) 106 (ma 0) = (I119 106 (ma 0) : Int32) from rfl]; exact h106) (by rw [hU.1, show (up2 I119 108 (ma 0) 2) 107 (ma 0) = (I119 107 (ma 0) : Int32) from rfl]; exact hEL) (by rw [hU.2, show (up2 I119 108 (ma 0) 2) 108 (ma 0) = (2 : Int32) from (show up2 I119 108 (ma 0) 2 108 (ma 0) = 2 from up2_s)]; first | (rw [if_pos (by omega)]; decide) | (rw [if_neg (by omega)]; decide)) (fun q => absurd (hU.2.symm.trans q) (by split <;> decide)) (fun q => by rw [hU.1]; exact nm_e hJ (by have := ifn2 (hU.2.symm.trans q); omega))
                            refine lv_goto (tgt := 287) hx hb dX11_next_222 (by decide) ?_
                            have HFIN : mTok (up2 I119 108 (ma 0) 2) J156 (ma 0) tc tn (pI S 107 (ma 0)).toNatClampNeg := by first | exact HFIN | exact (mt_fin (s := (tS tc tn (pI S 107 (ma 0)).toNatClampNeg)) rfl (by rw [show (up2 I119 108 (ma 0) 2) 106 (ma 0) = (I119 106 (ma 0) : Int32) from rfl]; exact hEX) (by rw [(u_sem (c := tc) (n := tn) (s := (tS tc tn (pI S 107 (ma 0)).toNatClampNeg)) (by omega) (by omega)).1, show (up2 I119 108 (ma 0) 2) 107 (ma 0) = (I119 107 (ma 0) : Int32) from rfl]; omega) (by rw [(u_sem (c := tc) (n := tn) (s := (tS tc tn (pI S 107 (ma 0)).toNatClampNeg)) (by omega) (by omega)).2, show (up2 I119 108 (ma 0) 2) 108 (ma 0) = (2 : Int32) from (show up2 I119 108 (ma 0) 2 108 (ma 0) = 2 from up2_s)]; decide) (nt3 (u_sem (c := tc) (n := tn) (s := (tS tc tn (pI S 107 (ma 0)).toNatClampNeg)) (by omega) (by omega)).2 (by decide)) (nt2 (u_sem (c := tc) (n := tn) (s := (tS tc tn (pI S 107 (ma 0)).toNatClampNeg)) (by omega) (by omega)).2 (by decide))) | exact (mt_fin (s := (tS tc tn (pI S 107 (ma 0)).toNatClampNeg)) rfl (by rw [show (up2 I119 108 (ma 0) 2) 106 (ma 0) = (I119 106 (ma 0) : Int32) from rfl]; exact hEX) (by rw [(u_bad (c := tc) (n := tn) (s := (tS tc tn (pI S 107 (ma 0)).toNatClampNeg)) (by omega) (lB_f (by omega)) (dB_f (by omega)) (by omega) (by first | (left; omega) | (right; exact dB_f (by omega)))).1, show (up2 I119 108 (ma 0) 2) 107 (ma 0) = (I119 107 (ma 0) : Int32) from rfl]; omega) (by rw [(u_bad (c := tc) (n := tn) (s := (tS tc tn (pI S 107 (ma 0)).toNatClampNeg)) (by omega) (lB_f (by omega)) (dB_f (by omega)) (by omega) (by first | (left; omega) | (right; exact dB_f (by omega)))).2, show (up2 I119 108 (ma 0) 2) 108 (ma 0) = (2 : Int32) from (show up2 I119 108 (ma 0) 2 108 (ma 0) = 2 from up2_s)]; decide) (nt3 (u_bad (c := tc) (n := tn) (s := (tS tc tn (pI S 107 (ma 0)).toNatClampNeg)) (by omega) (lB_f (by omega)) (dB_f (by omega)) (by omega) (by first | (left; omega) | (right; exact dB_f (by omega)))).2 (by decide)) (nt2 (u_bad (c := tc) (n := tn) (s := (tS tc tn (pI S 107 (ma 0)).toNatClampNeg)) (by omega) (lB_f (by omega)) (dB_f (by omega)) (by omega) (by first | (left; omega) | (right; exact dB_f (by omega)))).2 (by decide)))
                            exact hret _ _ _ _ _ ⟨_, _, rfl, (FrN.up (f := 108) (by decide) hF), HFIN⟩ hw dX11_next_287
                          · have D211_26 := iNle c211_26 rfl t_8
                            refine lv_iconst (v := 1) hx hb dX11_next_214 (by decide) ?_
                            refine lv_goto (tgt := 219) hx hb dX11_next_215 (by decide) ?_
                            refine pf_X11_27 X hw hM.1 dX11_next_219 (fun H locs hw => ?_)
                            have hw : PX G A s.heap (ch S (up2 I119 108 (ma 0) 1) J156 (qI S) (qJ S)) H locs := hw
                            have HFIN : mTok (up2 I119 108 (ma 0) 1) J156 (ma 0) tc tn (pI S 107 (ma 0)).toNatClampNeg := mt_fin (s := (tS tc tn (pI S 107 (ma 0)).toNatClampNeg)) rfl (by rw [show (up2 I119 108 (ma 0) 1) 106 (ma 0) = (I119 106 (ma 0) : Int32) from rfl]; exact h106) (by rw [hU.1, show (up2 I119 108 (ma 0) 1) 107 (ma 0) = (I119 107 (ma 0) : Int32) from rfl]; exact hEL) (by rw [hU.2, show (up2 I119 108 (ma 0) 1) 108 (ma 0) = (1 : Int32) from (show up2 I119 108 (ma 0) 1 108 (ma 0) = 1 from up2_s)]; first | (rw [if_pos (by omega)]; decide) | (rw [if_neg (by omega)]; decide)) (fun q => absurd (hU.2.symm.trans q) (by split <;> decide)) (fun q => by rw [hU.1]; exact nm_e hJ (by have := ifn2 (hU.2.symm.trans q); omega))
                            refine lv_goto (tgt := 287) hx hb dX11_next_222 (by decide) ?_
                            have HFIN : mTok (up2 I119 108 (ma 0) 1) J156 (ma 0) tc tn (pI S 107 (ma 0)).toNatClampNeg := by first | exact HFIN | exact (mt_fin (s := (tS tc tn (pI S 107 (ma 0)).toNatClampNeg)) rfl (by rw [show (up2 I119 108 (ma 0) 1) 106 (ma 0) = (I119 106 (ma 0) : Int32) from rfl]; exact hEX) (by rw [(u_sem (c := tc) (n := tn) (s := (tS tc tn (pI S 107 (ma 0)).toNatClampNeg)) (by omega) (by omega)).1, show (up2 I119 108 (ma 0) 1) 107 (ma 0) = (I119 107 (ma 0) : Int32) from rfl]; omega) (by rw [(u_sem (c := tc) (n := tn) (s := (tS tc tn (pI S 107 (ma 0)).toNatClampNeg)) (by omega) (by omega)).2, show (up2 I119 108 (ma 0) 1) 108 (ma 0) = (1 : Int32) from (show up2 I119 108 (ma 0) 1 108 (ma 0) = 1 from up2_s)]; decide) (nt3 (u_sem (c := tc) (n := tn) (s := (tS tc tn (pI S 107 (ma 0)).toNatClampNeg)) (by omega) (by omega)).2 (by decide)) (nt2 (u_sem (c := tc) (n := tn) (s := (tS tc tn (pI S 107 (ma 0)).toNatClampNeg)) (by omega) (by omega)).2 (by decide))) | exact (mt_fin (s := (tS tc tn (pI S 107 (ma 0)).toNatClampNeg)) rfl (by rw [show (up2 I119 108 (ma 0) 1) 106 (ma 0) = (I119 106 (ma 0) : Int32) from rfl]; exact hEX) (by rw [(u_bad (c := tc) (n := tn) (s := (tS tc tn (pI S 107 (ma 0)).toNatClampNeg)) (by omega) (lB_f (by omega)) (dB_f (by omega)) (by omega) (by first | (left; omega) | (right; exact dB_f (by omega)))).1, show (up2 I119 108 (ma 0) 1) 107 (ma 0) = (I119 107 (ma 0) : Int32) from rfl]; omega) (by rw [(u_bad (c := tc) (n := tn) (s := (tS tc tn (pI S 107 (ma 0)).toNatClampNeg)) (by omega) (lB_f (by omega)) (dB_f (by omega)) (by omega) (by first | (left; omega) | (right; exact dB_f (by omega)))).2, show (up2 I119 108 (ma 0) 1) 108 (ma 0) = (1 : Int32) from (show up2 I119 108 (ma 0) 1 108 (ma 0) = 1 from up2_s)]; decide) (nt3 (u_bad (c := tc) (n := tn) (s := (tS tc tn (pI S 107 (ma 0)).toNatClampNeg)) (by omega) (lB_f (by omega)) (dB_f (by omega)) (by omega) (by first | (left; omega) | (right; exact dB_f (by omega)))).2 (by decide)) (nt2 (u_bad (c := tc) (n := tn) (s := (tS tc tn (pI S 107 (ma 0)).toNatClampNeg)) (by omega) (lB_f (by omega)) (dB_f (by omega)) (by omega) (by first | (left; omega) | (right; exact dB_f (by omega)))).2 (by decide)))
                            exact hret _ _ _ _ _ ⟨_, _, rfl, (FrN.up (f := 108) (by decide) hF), HFIN⟩ hw dX11_next_287
                        · have D172_24 := iNle c172_24 rfl rfl
                          refine lv_aload_n hx hb dX11_next_175 rfl (lv_at hl 2 rfl) ?_
                          refine lv_aload_n hx hb dX11_next_176 rfl (lv_at hl 2 rfl) ?_
                          refine gf_X11_34 (v := J156 110 (ma 0)) X hw hM.1 rfl dX11_next_177 ?_
                          refine lv_bipush (v := 8) hx hb dX11_next_180 (by decide) ?_
                          refine lv_lshl hx hb dX11_next_182 rfl ?_
                          refine lv_topl (fun v182_27 e182_27 => ?_)
                          have e182n := e182_27
                          refine lv_aload_n hx hb dX11_next_183 rfl (lv_at hl 2 rfl) ?_
                          refine lv_iload_n hx hb dX11_next_184 rfl (lv_at hl 0 rfl) ?_
                          refine k_Vi (n := 1) X hw (rcvk (ci := 11) X hw hM.1 (fun _ _ _ _ _ _ _ => ⟨_, rfl⟩) rfl) (c_v_X11_sign l G _ ma tc tn k hM htc (FrN.n hF hn) hz (by omega)) wd_r20_21 wd_r20_22 wd_r20_23 wd_r1_5 wd_r21_0 ⟨by decide, by decide, by decide +kernel⟩ rfl rfl ⟨Nat.le_of_ble_eq_true rfl, Nat.le_of_ble_eq_true rfl⟩ rfl rfl hl.1 (Nat.le_of_ble_eq_true rfl) dX11_next_185 ⟨Nat.le_of_ble_eq_true rfl, Nat.le_of_ble_eq_true rfl⟩ (fun r185_28 S185_30 H locs h185_29 hw => ?_)
                          obtain ⟨rfl, h185_29⟩ := h185_29
                          have hby5 : r185_28 = tc k.toNatClampNeg := h185_29
                          refine lv_i2l hx hb dX11_next_188 rfl ?_
                          refine lv_topl (fun v188_31 e188_31 => ?_)
                          have e188n := e188_31
                          refine lv_lor hx hb dX11_next_189 ?_
                          refine lv_topl (fun v189_32 e189_32 => ?_)
                          have e189n := e189_32
                          refine pf_X11_34 X hw hM.1 dX11_next_190 (fun H locs hw => ?_)
                          have hw : PX G A s.heap (ch S I119 (up2 J156 110 (ma 0) v189_32) (qI S) (qJ S)) H locs := hw
                          obtain ⟨v193_33, e193_33⟩ : ∃ y : Int32, y = k + 1 := ⟨_, rfl⟩
                          have t193_33 := iAdd e193_33 rfl t_1 (by omega) (by omega)
                          have t193 := t193_33
                          refine lv_iinc (v := v193_33) (lv' := [(2, .int v193_33), (1, .int r63_2), (0, .ref (ma 0))]) hx hb dX11_next_193 hl (k := 0) rfl (by rw [e193_33]; rfl) (by decide) rfl (fun ls hl => ?_)
                          refine lv_goto (tgt := 156) hx hb dX11_next_196 (by decide) ?_
                          exact ih156 (up2 J156 110 (ma 0) v189_32) v193_33 (by omega) (up2_s.trans (nm_s hJ e182n hby5 e188n e189n (by omega) t193)) (by omega) _ _ _ hw (lv_sub hl [0, 1, 2] rfl)
                  exact lp156 _ (up2 (pJ S) 110 (ma 0) 0) (I119 106 (ma 0)) (by omega) (nm_0 up2_s h106) (Nat.lt_succ_self _) _ _ _ hw (lv_sub hl [0, 1, 2] rfl)
            exact lp119 _ (up2 I8 107 (ma 0) v73_5)  (FrN.up (f := 107) (by decide) hF) (by rw [show (up2 I8 107 (ma 0) v73_5) 107 (ma 0) = (v73_5 : Int32) from (show up2 I8 107 (ma 0) v73_5 107 (ma 0) = v73_5 from up2_s)]; omega) (by rw [show (up2 I8 107 (ma 0) v73_5) 107 (ma 0) = (v73_5 : Int32) from (show up2 I8 107 (ma 0) v73_5 107 (ma 0) = v73_5 from up2_s)]; exact rs_1 (by omega) (lB_i.mpr (by omega)) (by omega)) (by rw [show (up2 I8 107 (ma 0) v73_5) 106 (ma 0) = (I8 106 (ma 0) : Int32) from rfl]; exact hEX) (Nat.lt_succ_self _) _ _ _ hw (lv_sub hl [0, 1] rfl)
          · have h113_8 := h113_8
            refine lv_if_eq (tgt := 225) hx hb dX11_next_116 (by decide) (fun c116_34 => ?_) (fun c116_34 => absurd c116_34 (by decide))
            refine lv_iload_n hx hb dX11_next_225 rfl (lv_at hl 0 rfl) ?_
            refine k_Si (n := 1) X hw (c_X11_isDigit l G _ r63_2) wd_r21_4 wd_r21_5 wd_r1_5 wd_r21_6 ⟨by decide, by decide, by decide +kernel⟩ rfl rfl ⟨Nat.le_of_ble_eq_true rfl, Nat.le_of_ble_eq_true rfl⟩ rfl rfl hl.1 (Nat.le_of_ble_eq_true rfl) dX11_next_226 ⟨Nat.le_of_ble_eq_true rfl, Nat.le_of_ble_eq_true rfl⟩ (fun r226_35 S226_37 H locs h226_36 hw => ?_)
            rcases h226_36 with ⟨rfl, rfl, h226_36⟩ | ⟨rfl, rfl, h226_36⟩
            · have h226_36 := h226_36
              refine lv_if_ne (tgt := 254) hx hb dX11_next_229 (by decide) (fun c229_38 => ?_) (fun c229_38 => absurd c229_38 (by decide))
              have HDD : dB (tc (tF tc (tS tc tn (pI S 107 (ma 0)).toNatClampNeg))) = true := by unfold tF; first | (rw [if_neg (by omega)]; exact dB_i.mpr (by omega)) | (rw [if_pos (by omega)]; exact dB_i.mpr (by omega))
              refine lv_aload_n hx hb dX11_next_254 rfl (lv_at hl 1 rfl) ?_
              refine lv_iload_n hx hb dX11_next_255 rfl (lv_at hl 0 rfl) ?_
              refine lv_bipush (v := 45) hx hb dX11_next_256 (by decide) ?_
              refine lv_icmp_ne (tgt := 265) hx hb dX11_next_258 (by decide) (fun c258_39 => ?_) (fun c258_39 => ?_)
              · have D258_39 := iNe c258_39 rfl t_45
                refine lv_iconst (v := 0) hx hb dX11_next_265 (by decide) ?_
                refine k_Vv (n := 1) X hw (rcvk (ci := 11) X hw hM.1 (fun _ _ _ _ _ _ _ => ⟨_, rfl⟩) rfl) (c_v_X11_readNumber l G _ ma tc tn 0 hM htc (FrN.n (FrN.up (f := 107) (by decide) hF) hn) hz (show 0 ≤ (I8 106 (ma 0) : Int32).toInt ∧ (I8 106 (ma 0) : Int32).toInt < (tn : Int) by omega) (show (((0) : Int32).toInt ≠ 0 ∧ (tc ((I8 106 (ma 0) : Int32)).toNatClampNeg).toInt = 45) ∨ (((0) : Int32).toInt = 0 ∧ (tc ((I8 106 (ma 0) : Int32)).toNatClampNeg).toInt ≠ 45) by rw [← hB1, hB2]; have := t_0; have := t_1; omega) (show dB (tc (tF tc ((I8 106 (ma 0) : Int32)).toNatClampNeg)) = true by rw [← hB1, hB2]; exact HDD)) wd_r21_7 wd_r21_8 wd_r21_9 wd_r1_5 wd_r21_10 ⟨by decide, by decide, by decide +kernel⟩ rfl rfl ⟨Nat.le_of_ble_eq_true rfl, Nat.le_of_ble_eq_true rfl⟩ rfl rfl hl.1 (Nat.le_of_ble_eq_true rfl) dX11_next_266 ⟨Nat.le_of_ble_eq_true rfl, Nat.le_of_ble_eq_true rfl⟩ (fun S266_41 H locs h266_40 hw => ?_)
                have := t_0
                obtain ⟨I266_42, rfl, h266_40⟩ := h266_40
                have hw : PX G A s.heap (ch S I266_42 (pJ S) (qI S) (qJ S)) H locs := hw
                have hND : (I266_42 107 (ma 0)).toInt = (uE tc tn B1.toNatClampNeg : Nat) ∧ (I266_42 108 (ma 0)).toInt = mKd (uK tc tn B1.toNatClampNeg) ∧ (uK tc tn B1.toNatClampNeg = 3 → I266_42 109 (ma 0) = uV tc tn B1.toNatClampNeg) := by rw [hB1]; exact h266_40.2
                rw [hB2] at hND
                have h106n : (I266_42 106 (ma 0)).toInt = ((tS tc tn (pI S 107 (ma 0)).toNatClampNeg) : Nat) := by rw [h266_40.1 106 (by decide)]; exact hEX
                have HK3 : uK tc tn (tS tc tn (pI S 107 (ma 0)).toNatClampNeg) ≠ 2 := by rw [(u_num (c := tc) (n := tn) (s := (tS tc tn (pI S 107 (ma 0)).toNatClampNeg)) (by omega) (mnm HDD).1 (mnm HDD).2).2]; split <;> decide
                have HFIN : mTok I266_42 (pJ S) (ma 0) tc tn (pI S 107 (ma 0)).toNatClampNeg := mt_fin (s := (tS tc tn (pI S 107 (ma 0)).toNatClampNeg)) rfl h106n hND.1 hND.2.1 hND.2.2 (fun q => absurd q HK3)
                refine lv_goto (tgt := 287) hx hb dX11_next_269 (by decide) ?_
                have HFIN : mTok I266_42 (pJ S) (ma 0) tc tn (pI S 107 (ma 0)).toNatClampNeg := by first | exact HFIN | exact (mt_fin (s := (tS tc tn (pI S 107 (ma 0)).toNatClampNeg)) rfl (by rw [show I266_42 106 (ma 0) = (I266_42 106 (ma 0) : Int32) from rfl]; exact hEX) (by rw [(u_sem (c := tc) (n := tn) (s := (tS tc tn (pI S 107 (ma 0)).toNatClampNeg)) (by omega) (by omega)).1, show I266_42 107 (ma 0) = (I266_42 107 (ma 0) : Int32) from rfl]; omega) (by rw [(u_sem (c := tc) (n := tn) (s := (tS tc tn (pI S 107 (ma 0)).toNatClampNeg)) (by omega) (by omega)).2, show I266_42 108 (ma 0) = (I266_42 108 (ma 0) : Int32) from rfl]; decide) (nt3 (u_sem (c := tc) (n := tn) (s := (tS tc tn (pI S 107 (ma 0)).toNatClampNeg)) (by omega) (by omega)).2 (by decide)) (nt2 (u_sem (c := tc) (n := tn) (s := (tS tc tn (pI S 107 (ma 0)).toNatClampNeg)) (by omega) (by omega)).2 (by decide))) | exact (mt_fin (s := (tS tc tn (pI S 107 (ma 0)).toNatClampNeg)) rfl (by rw [show I266_42 106 (ma 0) = (I266_42 106 (ma 0) : Int32) from rfl]; exact hEX) (by rw [(u_bad (c := tc) (n := tn) (s := (tS tc tn (pI S 107 (ma 0)).toNatClampNeg)) (by omega) (lB_f (by omega)) (dB_f (by omega)) (by omega) (by first | (left; omega) | (right; exact dB_f (by omega)))).1, show I266_42 107 (ma 0) = (I266_42 107 (ma 0) : Int32) from rfl]; omega) (by rw [(u_bad (c := tc) (n := tn) (s := (tS tc tn (pI S 107 (ma 0)).toNatClampNeg)) (by omega) (lB_f (by omega)) (dB_f (by omega)) (by omega) (by first | (left; omega) | (right; exact dB_f (by omega)))).2, show I266_42 108 (ma 0) = (I266_42 108 (ma 0) : Int32) from rfl]; decide) (nt3 (u_bad (c := tc) (n := tn) (s := (tS tc tn (pI S 107 (ma 0)).toNatClampNeg)) (by omega) (lB_f (by omega)) (dB_f (by omega)) (by omega) (by first | (left; omega) | (right; exact dB_f (by omega)))).2 (by decide)) (nt2 (u_bad (c := tc) (n := tn) (s := (tS tc tn (pI S 107 (ma 0)).toNatClampNeg)) (by omega) (lB_f (by omega)) (dB_f (by omega)) (by omega) (by first | (left; omega) | (right; exact dB_f (by omega)))).2 (by decide)))
                exact hret _ _ _ _ _ ⟨_, _, rfl, (FrN.tr (FrN.up (f := 107) (by decide) hF) (h266_40.1.n2)), HFIN⟩ hw dX11_next_287
              · have D258_39 := iEq c258_39 rfl t_45
                refine lv_iconst (v := 1) hx hb dX11_next_261 (by decide) ?_
                refine lv_goto (tgt := 266) hx hb dX11_next_262 (by decide) ?_
                refine k_Vv (n := 1) X hw (rcvk (ci := 11) X hw hM.1 (fun _ _ _ _ _ _ _ => ⟨_, rfl⟩) rfl) (c_v_X11_readNumber l G _ ma tc tn 1 hM htc (FrN.n (FrN.up (f := 107) (by decide) hF) hn) hz (show 0 ≤ (I8 106 (ma 0) : Int32).toInt ∧ (I8 106 (ma 0) : Int32).toInt < (tn : Int) by omega) (show (((1) : Int32).toInt ≠ 0 ∧ (tc ((I8 106 (ma 0) : Int32)).toNatClampNeg).toInt = 45) ∨ (((1) : Int32).toInt = 0 ∧ (tc ((I8 106 (ma 0) : Int32)).toNatClampNeg).toInt ≠ 45) by rw [← hB1, hB2]; have := t_0; have := t_1; omega) (show dB (tc (tF tc ((I8 106 (ma 0) : Int32)).toNatClampNeg)) = true by rw [← hB1, hB2]; exact HDD)) wd_r21_7 wd_r21_8 wd_r21_9 wd_r1_5 wd_r21_10 ⟨by decide, by decide, by decide +kernel⟩ rfl rfl ⟨Nat.le_of_ble_eq_true rfl, Nat.le_of_ble_eq_true rfl⟩ rfl rfl hl.1 (Nat.le_of_ble_eq_true rfl) dX11_next_266 ⟨Nat.le_of_ble_eq_true rfl, Nat.le_of_ble_eq_true rfl⟩ (fun S266_44 H locs h266_43 hw => ?_)
                have := t_1
                obtain ⟨I266_45, rfl, h266_43⟩ := h266_43
                have hw : PX G A s.heap (ch S I266_45 (pJ S) (qI S) (qJ S)) H locs := hw
                have hND : (I266_45 107 (ma 0)).toInt = (uE tc tn B1.toNatClampNeg : Nat) ∧ (I266_45 108 (ma 0)).toInt = mKd (uK tc tn B1.toNatClampNeg) ∧ (uK tc tn B1.toNatClampNeg = 3 → I266_45 109 (ma 0) = uV tc tn B1.toNatClampNeg) := by rw [hB1]; exact h266_43.2
                rw [hB2] at hND
                have h106n : (I266_45 106 (ma 0)).toInt = ((tS tc tn (pI S 107 (ma 0)).toNatClampNeg) : Nat) := by rw [h266_43.1 106 (by decide)]; exact hEX
                have HK3 : uK tc tn (tS tc tn (pI S 107 (ma 0)).toNatClampNeg) ≠ 2 := by rw [(u_num (c := tc) (n := tn) (s := (tS tc tn (pI S 107 (ma 0)).toNatClampNeg)) (by omega) (mnm HDD).1 (mnm HDD).2).2]; split <;> decide
                have HFIN : mTok I266_45 (pJ S) (ma 0) tc tn (pI S 107 (ma 0)).toNatClampNeg := mt_fin (s := (tS tc tn (pI S 107 (ma 0)).toNatClampNeg)) rfl h106n hND.1 hND.2.1 hND.2.2 (fun q => absurd q HK3)
                refine lv_goto (tgt := 287) hx hb dX11_next_269 (by decide) ?_
                have HFIN : mTok I266_45 (pJ S) (ma 0) tc tn (pI S 107 (ma 0)).toNatClampNeg := by first | exact HFIN | exact (mt_fin (s := (tS tc tn (pI S 107 (ma 0)).toNatClampNeg)) rfl (by rw [show I266_45 106 (ma 0) = (I266_45 106 (ma 0) : Int32) from rfl]; exact hEX) (by rw [(u_sem (c := tc) (n := tn) (s := (tS tc tn (pI S 107 (ma 0)).toNatClampNeg)) (by omega) (by omega)).1, show I266_45 107 (ma 0) = (I266_45 107 (ma 0) : Int32) from rfl]; omega) (by rw [(u_sem (c := tc) (n := tn) (s := (tS tc tn (pI S 107 (ma 0)).toNatClampNeg)) (by omega) (by omega)).2, show I266_45 108 (ma 0) = (I266_45 108 (ma 0) : Int32) from rfl]; decide) (nt3 (u_sem (c := tc) (n := tn) (s := (tS tc tn (pI S 107 (ma 0)).toNatClampNeg)) (by omega) (by omega)).2 (by decide)) (nt2 (u_sem (c := tc) (n := tn) (s := (tS tc tn (pI S 107 (ma 0)).toNatClampNeg)) (by omega) (by omega)).2 (by decide))) | exact (mt_fin (s := (tS tc tn (pI S 107 (ma 0)).toNatClampNeg)) rfl (by rw [show I266_45 106 (ma 0) = (I266_45 106 (ma 0) : Int32) from rfl]; exact hEX) (by rw [(u_bad (c := tc) (n := tn) (s := (tS tc tn (pI S 107 (ma 0)).toNatClampNeg)) (by omega) (lB_f (by omega)) (dB_f (by omega)) (by omega) (by first | (left; omega) | (right; exact dB_f (by omega)))).1, show I266_45 107 (ma 0) = (I266_45 107 (ma 0) : Int32) from rfl]; omega) (by rw [(u_bad (c := tc) (n := tn) (s := (tS tc tn (pI S 107 (ma 0)).toNatClampNeg)) (by omega) (lB_f (by omega)) (dB_f (by omega)) (by omega) (by first | (left; omega) | (right; exact dB_f (by omega)))).2, show I266_45 108 (ma 0) = (I266_45 108 (ma 0) : Int32) from rfl]; decide) (nt3 (u_bad (c := tc) (n := tn) (s := (tS tc tn (pI S 107 (ma 0)).toNatClampNeg)) (by omega) (lB_f (by omega)) (dB_f (by omega)) (by omega) (by first | (left; omega) | (right; exact dB_f (by omega)))).2 (by decide)) (nt2 (u_bad (c := tc) (n := tn) (s := (tS tc tn (pI S 107 (ma 0)).toNatClampNeg)) (by omega) (lB_f (by omega)) (dB_f (by omega)) (by omega) (by first | (left; omega) | (right; exact dB_f (by omega)))).2 (by decide)))
                exact hret _ _ _ _ _ ⟨_, _, rfl, (FrN.tr (FrN.up (f := 107) (by decide) hF) (h266_43.1.n2)), HFIN⟩ hw dX11_next_287
            · have h226_36 := h226_36
              refine lv_if_ne (tgt := 254) hx hb dX11_next_229 (by decide) (fun c229_46 => absurd c229_46 (by decide)) (fun c229_46 => ?_)
              refine lv_iload_n hx hb dX11_next_232 rfl (lv_at hl 0 rfl) ?_
              refine lv_bipush (v := 45) hx hb dX11_next_233 (by decide) ?_
              refine lv_icmp_ne (tgt := 272) hx hb dX11_next_235 (by decide) (fun c235_47 => ?_) (fun c235_47 => ?_)
              · have D235_47 := iNe c235_47 rfl t_45
                refine lv_aload_n hx hb dX11_next_272 rfl (lv_at hl 1 rfl) ?_
                refine lv_iload_n hx hb dX11_next_273 rfl (lv_at hl 0 rfl) ?_
                refine lv_bipush (v := 59) hx hb dX11_next_274 (by decide) ?_
                refine lv_icmp_ne (tgt := 283) hx hb dX11_next_276 (by decide) (fun c276_48 => ?_) (fun c276_48 => ?_)
                · have D276_48 := iNe c276_48 rfl t_59
                  refine lv_iconst (v := 1) hx hb dX11_next_283 (by decide) ?_
                  refine pf_X11_27 X hw hM.1 dX11_next_284 (fun H locs hw => ?_)
                  have hw : PX G A s.heap (ch S (up2 (up2 I8 107 (ma 0) v73_5) 108 (ma 0) 1) (pJ S) (qI S) (qJ S)) H locs := hw
                  have HFIN : mTok (up2 (up2 I8 107 (ma 0) v73_5) 108 (ma 0) 1) (pJ S) (ma 0) tc tn (pI S 107 (ma 0)).toNatClampNeg := by first | exact HFIN | exact (mt_fin (s := (tS tc tn (pI S 107 (ma 0)).toNatClampNeg)) rfl (by rw [show (up2 (up2 I8 107 (ma 0) v73_5) 108 (ma 0) 1) 106 (ma 0) = (I8 106 (ma 0) : Int32) from rfl]; exact hEX) (by rw [(u_sem (c := tc) (n := tn) (s := (tS tc tn (pI S 107 (ma 0)).toNatClampNeg)) (by omega) (by omega)).1, show (up2 (up2 I8 107 (ma 0) v73_5) 108 (ma 0) 1) 107 (ma 0) = (v73_5 : Int32) from (show up2 I8 107 (ma 0) v73_5 107 (ma 0) = v73_5 from up2_s)]; omega) (by rw [(u_sem (c := tc) (n := tn) (s := (tS tc tn (pI S 107 (ma 0)).toNatClampNeg)) (by omega) (by omega)).2, show (up2 (up2 I8 107 (ma 0) v73_5) 108 (ma 0) 1) 108 (ma 0) = (1 : Int32) from (show up2 (up2 I8 107 (ma 0) v73_5) 108 (ma 0) 1 108 (ma 0) = 1 from up2_s)]; decide) (nt3 (u_sem (c := tc) (n := tn) (s := (tS tc tn (pI S 107 (ma 0)).toNatClampNeg)) (by omega) (by omega)).2 (by decide)) (nt2 (u_sem (c := tc) (n := tn) (s := (tS tc tn (pI S 107 (ma 0)).toNatClampNeg)) (by omega) (by omega)).2 (by decide))) | exact (mt_fin (s := (tS tc tn (pI S 107 (ma 0)).toNatClampNeg)) rfl (by rw [show (up2 (up2 I8 107 (ma 0) v73_5) 108 (ma 0) 1) 106 (ma 0) = (I8 106 (ma 0) : Int32) from rfl]; exact hEX) (by rw [(u_bad (c := tc) (n := tn) (s := (tS tc tn (pI S 107 (ma 0)).toNatClampNeg)) (by omega) (lB_f (by omega)) (dB_f (by omega)) (by omega) (by first | (left; omega) | (right; exact dB_f (by omega)))).1, show (up2 (up2 I8 107 (ma 0) v73_5) 108 (ma 0) 1) 107 (ma 0) = (v73_5 : Int32) from (show up2 I8 107 (ma 0) v73_5 107 (ma 0) = v73_5 from up2_s)]; omega) (by rw [(u_bad (c := tc) (n := tn) (s := (tS tc tn (pI S 107 (ma 0)).toNatClampNeg)) (by omega) (lB_f (by omega)) (dB_f (by omega)) (by omega) (by first | (left; omega) | (right; exact dB_f (by omega)))).2, show (up2 (up2 I8 107 (ma 0) v73_5) 108 (ma 0) 1) 108 (ma 0) = (1 : Int32) from (show up2 (up2 I8 107 (ma 0) v73_5) 108 (ma 0) 1 108 (ma 0) = 1 from up2_s)]; decide) (nt3 (u_bad (c := tc) (n := tn) (s := (tS tc tn (pI S 107 (ma 0)).toNatClampNeg)) (by omega) (lB_f (by omega)) (dB_f (by omega)) (by omega) (by first | (left; omega) | (right; exact dB_f (by omega)))).2 (by decide)) (nt2 (u_bad (c := tc) (n := tn) (s := (tS tc tn (pI S 107 (ma 0)).toNatClampNeg)) (by omega) (lB_f (by omega)) (dB_f (by omega)) (by omega) (by first | (left; omega) | (right; exact dB_f (by omega)))).2 (by decide)))
                  exact hret _ _ _ _ _ ⟨_, _, rfl, (FrN.up (f := 108) (by decide) (FrN.up (f := 107) (by decide) hF)), HFIN⟩ hw dX11_next_287
                · have D276_48 := iEq c276_48 rfl t_59
                  refine lv_iconst (v := 4) hx hb dX11_next_279 (by decide) ?_
                  refine lv_goto (tgt := 284) hx hb dX11_next_280 (by decide) ?_
                  refine pf_X11_27 X hw hM.1 dX11_next_284 (fun H locs hw => ?_)
                  have hw : PX G A s.heap (ch S (up2 (up2 I8 107 (ma 0) v73_5) 108 (ma 0) 4) (pJ S) (qI S) (qJ S)) H locs := hw
                  have HFIN : mTok (up2 (up2 I8 107 (ma 0) v73_5) 108 (ma 0) 4) (pJ S) (ma 0) tc tn (pI S 107 (ma 0)).toNatClampNeg := by first | exact HFIN | exact (mt_fin (s := (tS tc tn (pI S 107 (ma 0)).toNatClampNeg)) rfl (by rw [show (up2 (up2 I8 107 (ma 0) v73_5) 108 (ma 0) 4) 106 (ma 0) = (I8 106 (ma 0) : Int32) from rfl]; exact hEX) (by rw [(u_sem (c := tc) (n := tn) (s := (tS tc tn (pI S 107 (ma 0)).toNatClampNeg)) (by omega) (by omega)).1, show (up2 (up2 I8 107 (ma 0) v73_5) 108 (ma 0) 4) 107 (ma 0) = (v73_5 : Int32) from (show up2 I8 107 (ma 0) v73_5 107 (ma 0) = v73_5 from up2_s)]; omega) (by rw [(u_sem (c := tc) (n := tn) (s := (tS tc tn (pI S 107 (ma 0)).toNatClampNeg)) (by omega) (by omega)).2, show (up2 (up2 I8 107 (ma 0) v73_5) 108 (ma 0) 4) 108 (ma 0) = (4 : Int32) from (show up2 (up2 I8 107 (ma 0) v73_5) 108 (ma 0) 4 108 (ma 0) = 4 from up2_s)]; decide) (nt3 (u_sem (c := tc) (n := tn) (s := (tS tc tn (pI S 107 (ma 0)).toNatClampNeg)) (by omega) (by omega)).2 (by decide)) (nt2 (u_sem (c := tc) (n := tn) (s := (tS tc tn (pI S 107 (ma 0)).toNatClampNeg)) (by omega) (by omega)).2 (by decide))) | exact (mt_fin (s := (tS tc tn (pI S 107 (ma 0)).toNatClampNeg)) rfl (by rw [show (up2 (up2 I8 107 (ma 0) v73_5) 108 (ma 0) 4) 106 (ma 0) = (I8 106 (ma 0) : Int32) from rfl]; exact hEX) (by rw [(u_bad (c := tc) (n := tn) (s := (tS tc tn (pI S 107 (ma 0)).toNatClampNeg)) (by omega) (lB_f (by omega)) (dB_f (by omega)) (by omega) (by first | (left; omega) | (right; exact dB_f (by omega)))).1, show (up2 (up2 I8 107 (ma 0) v73_5) 108 (ma 0) 4) 107 (ma 0) = (v73_5 : Int32) from (show up2 I8 107 (ma 0) v73_5 107 (ma 0) = v73_5 from up2_s)]; omega) (by rw [(u_bad (c := tc) (n := tn) (s := (tS tc tn (pI S 107 (ma 0)).toNatClampNeg)) (by omega) (lB_f (by omega)) (dB_f (by omega)) (by omega) (by first | (left; omega) | (right; exact dB_f (by omega)))).2, show (up2 (up2 I8 107 (ma 0) v73_5) 108 (ma 0) 4) 108 (ma 0) = (4 : Int32) from (show up2 (up2 I8 107 (ma 0) v73_5) 108 (ma 0) 4 108 (ma 0) = 4 from up2_s)]; decide) (nt3 (u_bad (c := tc) (n := tn) (s := (tS tc tn (pI S 107 (ma 0)).toNatClampNeg)) (by omega) (lB_f (by omega)) (dB_f (by omega)) (by omega) (by first | (left; omega) | (right; exact dB_f (by omega)))).2 (by decide)) (nt2 (u_bad (c := tc) (n := tn) (s := (tS tc tn (pI S 107 (ma 0)).toNatClampNeg)) (by omega) (lB_f (by omega)) (dB_f (by omega)) (by omega) (by first | (left; omega) | (right; exact dB_f (by omega)))).2 (by decide)))
                  exact hret _ _ _ _ _ ⟨_, _, rfl, (FrN.up (f := 108) (by decide) (FrN.up (f := 107) (by decide) hF)), HFIN⟩ hw dX11_next_287
              · have D235_47 := iEq c235_47 rfl t_45
                refine lv_aload_n hx hb dX11_next_238 rfl (lv_at hl 1 rfl) ?_
                refine lv_aload_n hx hb dX11_next_239 rfl (lv_at hl 1 rfl) ?_
                refine gf_X11_20 (v := I8 106 (ma 0)) X hw hM.1 rfl dX11_next_240 ?_
                refine lv_iconst (v := 1) hx hb dX11_next_243 (by decide) ?_
                refine lv_iadd hx hb dX11_next_244 ?_
                refine lv_topi (fun v244_49 e244_49 => ?_)
                have t244_49 := iAdd e244_49 rfl t_1 (by omega) (by omega)
                have t244 := t244_49
                refine k_Vi (n := 1) X hw (rcvk (ci := 11) X hw hM.1 (fun _ _ _ _ _ _ _ => ⟨_, rfl⟩) rfl) (c_v_X11_sign l G _ ma tc tn v244_49 hM htc (FrN.n (FrN.up (f := 107) (by decide) hF) hn) hz (by omega)) wd_r20_21 wd_r20_22 wd_r20_23 wd_r1_5 wd_r21_0 ⟨by decide, by decide, by decide +kernel⟩ rfl rfl ⟨Nat.le_of_ble_eq_true rfl, Nat.le_of_ble_eq_true rfl⟩ rfl rfl hl.1 (Nat.le_of_ble_eq_true rfl) dX11_next_245 ⟨Nat.le_of_ble_eq_true rfl, Nat.le_of_ble_eq_true rfl⟩ (fun r245_50 S245_52 H locs h245_51 hw => ?_)
                obtain ⟨rfl, h245_51⟩ := h245_51
                have hc245 : r245_50 = tc ((tS tc tn (pI S 107 (ma 0)).toNatClampNeg) + 1) := by have e9 : (v244_49).toNatClampNeg = (tS tc tn (pI S 107 (ma 0)).toNatClampNeg) + 1 := (by have := cl_toInt (x := v244_49) (by omega); omega); rw [← e9]; exact h245_51
                have hc245t := congrArg Int32.toInt hc245
                refine k_Si (n := 1) X hw (c_X11_isDigit l G _ r245_50) wd_r21_4 wd_r21_5 wd_r1_5 wd_r21_6 ⟨by decide, by decide, by decide +kernel⟩ rfl rfl ⟨Nat.le_of_ble_eq_true rfl, Nat.le_of_ble_eq_true rfl⟩ rfl rfl hl.1 (Nat.le_of_ble_eq_true rfl) dX11_next_248 ⟨Nat.le_of_ble_eq_true rfl, Nat.le_of_ble_eq_true rfl⟩ (fun r248_53 S248_55 H locs h248_54 hw => ?_)
                rcases h248_54 with ⟨rfl, rfl, h248_54⟩ | ⟨rfl, rfl, h248_54⟩
                · have h248_54 := h248_54
                  refine lv_if_eq (tgt := 272) hx hb dX11_next_251 (by decide) (fun c251_56 => absurd c251_56 (by decide)) (fun c251_56 => ?_)
                  have HDD : dB (tc (tF tc (tS tc tn (pI S 107 (ma 0)).toNatClampNeg))) = true := by unfold tF; first | (rw [if_neg (by omega)]; exact dB_i.mpr (by omega)) | (rw [if_pos (by omega)]; exact dB_i.mpr (by omega))
                  refine lv_aload_n hx hb dX11_next_254 rfl (lv_at hl 1 rfl) ?_
                  refine lv_iload_n hx hb dX11_next_255 rfl (lv_at hl 0 rfl) ?_
                  refine lv_bipush (v := 45) hx hb dX11_next_256 (by decide) ?_
                  refine lv_icmp_ne (tgt := 265) hx hb dX11_next_258 (by decide) (fun c258_57 => ?_) (fun c258_57 => ?_)
                  · have D258_57 := iNe c258_57 rfl t_45
                    refine lv_iconst (v := 0) hx hb dX11_next_265 (by decide) ?_
                    refine k_Vv (n := 1) X hw (rcvk (ci := 11) X hw hM.1 (fun _ _ _ _ _ _ _ => ⟨_, rfl⟩) rfl) (c_v_X11_readNumber l G _ ma tc tn 0 hM htc (FrN.n (FrN.up (f := 107) (by decide) hF) hn) hz (show 0 ≤ (I8 106 (ma 0) : Int32).toInt ∧ (I8 106 (ma 0) : Int32).toInt < (tn : Int) by omega) (show (((0) : Int32).toInt ≠ 0 ∧ (tc ((I8 106 (ma 0) : Int32)).toNatClampNeg).toInt = 45) ∨ (((0) : Int32).toInt = 0 ∧ (tc ((I8 106 (ma 0) : Int32)).toNatClampNeg).toInt ≠ 45) by rw [← hB1, hB2]; have := t_0; have := t_1; omega) (show dB (tc (tF tc ((I8 106 (ma 0) : Int32)).toNatClampNeg)) = true by rw [← hB1, hB2]; exact HDD)) wd_r21_7 wd_r21_8 wd_r21_9 wd_r1_5 wd_r21_10 ⟨by decide, by decide, by decide +kernel⟩ rfl rfl ⟨Nat.le_of_ble_eq_true rfl, Nat.le_of_ble_eq_true rfl⟩ rfl rfl hl.1 (Nat.le_of_ble_eq_true rfl) dX11_next_266 ⟨Nat.le_of_ble_eq_true rfl, Nat.le_of_ble_eq_true rfl⟩ (fun S266_59 H locs h266_58 hw => ?_)
                    have := t_0
                    obtain ⟨I266_60, rfl, h266_58⟩ := h266_58
                    have hw : PX G A s.heap (ch S I266_60 (pJ S) (qI S) (qJ S)) H locs := hw
                    have hND : (I266_60 107 (ma 0)).toInt = (uE tc tn B1.toNatClampNeg : Nat) ∧ (I266_60 108 (ma 0)).toInt = mKd (uK tc tn B1.toNatClampNeg) ∧ (uK tc tn B1.toNatClampNeg = 3 → I266_60 109 (ma 0) = uV tc tn B1.toNatClampNeg) := by rw [hB1]; exact h266_58.2
                    rw [hB2] at hND
                    have h106n : (I266_60 106 (ma 0)).toInt = ((tS tc tn (pI S 107 (ma 0)).toNatClampNeg) : Nat) := by rw [h266_58.1 106 (by decide)]; exact hEX
                    have HK3 : uK tc tn (tS tc tn (pI S 107 (ma 0)).toNatClampNeg) ≠ 2 := by rw [(u_num (c := tc) (n := tn) (s := (tS tc tn (pI S 107 (ma 0)).toNatClampNeg)) (by omega) (mnm HDD).1 (mnm HDD).2).2]; split <;> decide
                    have HFIN : mTok I266_60 (pJ S) (ma 0) tc tn (pI S 107 (ma 0)).toNatClampNeg := mt_fin (s := (tS tc tn (pI S 107 (ma 0)).toNatClampNeg)) rfl h106n hND.1 hND.2.1 hND.2.2 (fun q => absurd q HK3)
                    refine lv_goto (tgt := 287) hx hb dX11_next_269 (by decide) ?_
                    have HFIN : mTok I266_60 (pJ S) (ma 0) tc tn (pI S 107 (ma 0)).toNatClampNeg := by first | exact HFIN | exact (mt_fin (s := (tS tc tn (pI S 107 (ma 0)).toNatClampNeg)) rfl (by rw [show I266_60 106 (ma 0) = (I266_60 106 (ma 0) : Int32) from rfl]; exact hEX) (by rw [(u_sem (c := tc) (n := tn) (s := (tS tc tn (pI S 107 (ma 0)).toNatClampNeg)) (by omega) (by omega)).1, show I266_60 107 (ma 0) = (I266_60 107 (ma 0) : Int32) from rfl]; omega) (by rw [(u_sem (c := tc) (n := tn) (s := (tS tc tn (pI S 107 (ma 0)).toNatClampNeg)) (by omega) (by omega)).2, show I266_60 108 (ma 0) = (I266_60 108 (ma 0) : Int32) from rfl]; decide) (nt3 (u_sem (c := tc) (n := tn) (s := (tS tc tn (pI S 107 (ma 0)).toNatClampNeg)) (by omega) (by omega)).2 (by decide)) (nt2 (u_sem (c := tc) (n := tn) (s := (tS tc tn (pI S 107 (ma 0)).toNatClampNeg)) (by omega) (by omega)).2 (by decide))) | exact (mt_fin (s := (tS tc tn (pI S 107 (ma 0)).toNatClampNeg)) rfl (by rw [show I266_60 106 (ma 0) = (I266_60 106 (ma 0) : Int32) from rfl]; exact hEX) (by rw [(u_bad (c := tc) (n := tn) (s := (tS tc tn (pI S 107 (ma 0)).toNatClampNeg)) (by omega) (lB_f (by omega)) (dB_f (by omega)) (by omega) (by first | (left; omega) | (right; exact dB_f (by omega)))).1, show I266_60 107 (ma 0) = (I266_60 107 (ma 0) : Int32) from rfl]; omega) (by rw [(u_bad (c := tc) (n := tn) (s := (tS tc tn (pI S 107 (ma 0)).toNatClampNeg)) (by omega) (lB_f (by omega)) (dB_f (by omega)) (by omega) (by first | (left; omega) | (right; exact dB_f (by omega)))).2, show I266_60 108 (ma 0) = (I266_60 108 (ma 0) : Int32) from rfl]; decide) (nt3 (u_bad (c := tc) (n := tn) (s := (tS tc tn (pI S 107 (ma 0)).toNatClampNeg)) (by omega) (lB_f (by omega)) (dB_f (by omega)) (by omega) (by first | (left; omega) | (right; exact dB_f (by omega)))).2 (by decide)) (nt2 (u_bad (c := tc) (n := tn) (s := (tS tc tn (pI S 107 (ma 0)).toNatClampNeg)) (by omega) (lB_f (by omega)) (dB_f (by omega)) (by omega) (by first | (left; omega) | (right; exact dB_f (by omega)))).2 (by decide)))
                    exact hret _ _ _ _ _ ⟨_, _, rfl, (FrN.tr (FrN.up (f := 107) (by decide) hF) (h266_58.1.n2)), HFIN⟩ hw dX11_next_287
                  · have D258_57 := iEq c258_57 rfl t_45
                    refine lv_iconst (v := 1) hx hb dX11_next_261 (by decide) ?_
                    refine lv_goto (tgt := 266) hx hb dX11_next_262 (by decide) ?_
                    refine k_Vv (n := 1) X hw (rcvk (ci := 11) X hw hM.1 (fun _ _ _ _ _ _ _ => ⟨_, rfl⟩) rfl) (c_v_X11_readNumber l G _ ma tc tn 1 hM htc (FrN.n (FrN.up (f := 107) (by decide) hF) hn) hz (show 0 ≤ (I8 106 (ma 0) : Int32).toInt ∧ (I8 106 (ma 0) : Int32).toInt < (tn : Int) by omega) (show (((1) : Int32).toInt ≠ 0 ∧ (tc ((I8 106 (ma 0) : Int32)).toNatClampNeg).toInt = 45) ∨ (((1) : Int32).toInt = 0 ∧ (tc ((I8 106 (ma 0) : Int32)).toNatClampNeg).toInt ≠ 45) by rw [← hB1, hB2]; have := t_0; have := t_1; omega) (show dB (tc (tF tc ((I8 106 (ma 0) : Int32)).toNatClampNeg)) = true by rw [← hB1, hB2]; exact HDD)) wd_r21_7 wd_r21_8 wd_r21_9 wd_r1_5 wd_r21_10 ⟨by decide, by decide, by decide +kernel⟩ rfl rfl ⟨Nat.le_of_ble_eq_true rfl, Nat.le_of_ble_eq_true rfl⟩ rfl rfl hl.1 (Nat.le_of_ble_eq_true rfl) dX11_next_266 ⟨Nat.le_of_ble_eq_true rfl, Nat.le_of_ble_eq_true rfl⟩ (fun S266_62 H locs h266_61 hw => ?_)
                    have := t_1
                    obtain ⟨I266_63, rfl, h266_61⟩ := h266_61
                    have hw : PX G A s.heap (ch S I266_63 (pJ S) (qI S) (qJ S)) H locs := hw
                    have hND : (I266_63 107 (ma 0)).toInt = (uE tc tn B1.toNatClampNeg : Nat) ∧ (I266_63 108 (ma 0)).toInt = mKd (uK tc tn B1.toNatClampNeg) ∧ (uK tc tn B1.toNatClampNeg = 3 → I266_63 109 (ma 0) = uV tc tn B1.toNatClampNeg) := by rw [hB1]; exact h266_61.2
                    rw [hB2] at hND
                    have h106n : (I266_63 106 (ma 0)).toInt = ((tS tc tn (pI S 107 (ma 0)).toNatClampNeg) : Nat) := by rw [h266_61.1 106 (by decide)]; exact hEX
                    have HK3 : uK tc tn (tS tc tn (pI S 107 (ma 0)).toNatClampNeg) ≠ 2 := by rw [(u_num (c := tc) (n := tn) (s := (tS tc tn (pI S 107 (ma 0)).toNatClampNeg)) (by omega) (mnm HDD).1 (mnm HDD).2).2]; split <;> decide
                    have HFIN : mTok I266_63 (pJ S) (ma 0) tc tn (pI S 107 (ma 0)).toNatClampNeg := mt_fin (s := (tS tc tn (pI S 107 (ma 0)).toNatClampNeg)) rfl h106n hND.1 hND.2.1 hND.2.2 (fun q => absurd q HK3)
                    refine lv_goto (tgt := 287) hx hb dX11_next_269 (by decide) ?_
                    have HFIN : mTok I266_63 (pJ S) (ma 0) tc tn (pI S 107 (ma 0)).toNatClampNeg := by first | exact HFIN | exact (mt_fin (s := (tS tc tn (pI S 107 (ma 0)).toNatClampNeg)) rfl (by rw [show I266_63 106 (ma 0) = (I266_63 106 (ma 0) : Int32) from rfl]; exact hEX) (by rw [(u_sem (c := tc) (n := tn) (s := (tS tc tn (pI S 107 (ma 0)).toNatClampNeg)) (by omega) (by omega)).1, show I266_63 107 (ma 0) = (I266_63 107 (ma 0) : Int32) from rfl]; omega) (by rw [(u_sem (c := tc) (n := tn) (s := (tS tc tn (pI S 107 (ma 0)).toNatClampNeg)) (by omega) (by omega)).2, show I266_63 108 (ma 0) = (I266_63 108 (ma 0) : Int32) from rfl]; decide) (nt3 (u_sem (c := tc) (n := tn) (s := (tS tc tn (pI S 107 (ma 0)).toNatClampNeg)) (by omega) (by omega)).2 (by decide)) (nt2 (u_sem (c := tc) (n := tn) (s := (tS tc tn (pI S 107 (ma 0)).toNatClampNeg)) (by omega) (by omega)).2 (by decide))) | exact (mt_fin (s := (tS tc tn (pI S 107 (ma 0)).toNatClampNeg)) rfl (by rw [show I266_63 106 (ma 0) = (I266_63 106 (ma 0) : Int32) from rfl]; exact hEX) (by rw [(u_bad (c := tc) (n := tn) (s := (tS tc tn (pI S 107 (ma 0)).toNatClampNeg)) (by omega) (lB_f (by omega)) (dB_f (by omega)) (by omega) (by first | (left; omega) | (right; exact dB_f (by omega)))).1, show I266_63 107 (ma 0) = (I266_63 107 (ma 0) : Int32) from rfl]; omega) (by rw [(u_bad (c := tc) (n := tn) (s := (tS tc tn (pI S 107 (ma 0)).toNatClampNeg)) (by omega) (lB_f (by omega)) (dB_f (by omega)) (by omega) (by first | (left; omega) | (right; exact dB_f (by omega)))).2, show I266_63 108 (ma 0) = (I266_63 108 (ma 0) : Int32) from rfl]; decide) (nt3 (u_bad (c := tc) (n := tn) (s := (tS tc tn (pI S 107 (ma 0)).toNatClampNeg)) (by omega) (lB_f (by omega)) (dB_f (by omega)) (by omega) (by first | (left; omega) | (right; exact dB_f (by omega)))).2 (by decide)) (nt2 (u_bad (c := tc) (n := tn) (s := (tS tc tn (pI S 107 (ma 0)).toNatClampNeg)) (by omega) (lB_f (by omega)) (dB_f (by omega)) (by omega) (by first | (left; omega) | (right; exact dB_f (by omega)))).2 (by decide)))
                    exact hret _ _ _ _ _ ⟨_, _, rfl, (FrN.tr (FrN.up (f := 107) (by decide) hF) (h266_61.1.n2)), HFIN⟩ hw dX11_next_287
                · have h248_54 := h248_54
                  refine lv_if_eq (tgt := 272) hx hb dX11_next_251 (by decide) (fun c251_64 => ?_) (fun c251_64 => absurd c251_64 (by decide))
                  refine lv_aload_n hx hb dX11_next_272 rfl (lv_at hl 1 rfl) ?_
                  refine lv_iload_n hx hb dX11_next_273 rfl (lv_at hl 0 rfl) ?_
                  refine lv_bipush (v := 59) hx hb dX11_next_274 (by decide) ?_
                  refine lv_icmp_ne (tgt := 283) hx hb dX11_next_276 (by decide) (fun c276_65 => ?_) (fun c276_65 => ?_)
                  · have D276_65 := iNe c276_65 rfl t_59
                    refine lv_iconst (v := 1) hx hb dX11_next_283 (by decide) ?_
                    refine pf_X11_27 X hw hM.1 dX11_next_284 (fun H locs hw => ?_)
                    have hw : PX G A s.heap (ch S (up2 (up2 I8 107 (ma 0) v73_5) 108 (ma 0) 1) (pJ S) (qI S) (qJ S)) H locs := hw
                    have HFIN : mTok (up2 (up2 I8 107 (ma 0) v73_5) 108 (ma 0) 1) (pJ S) (ma 0) tc tn (pI S 107 (ma 0)).toNatClampNeg := by first | exact HFIN | exact (mt_fin (s := (tS tc tn (pI S 107 (ma 0)).toNatClampNeg)) rfl (by rw [show (up2 (up2 I8 107 (ma 0) v73_5) 108 (ma 0) 1) 106 (ma 0) = (I8 106 (ma 0) : Int32) from rfl]; exact hEX) (by rw [(u_sem (c := tc) (n := tn) (s := (tS tc tn (pI S 107 (ma 0)).toNatClampNeg)) (by omega) (by omega)).1, show (up2 (up2 I8 107 (ma 0) v73_5) 108 (ma 0) 1) 107 (ma 0) = (v73_5 : Int32) from (show up2 I8 107 (ma 0) v73_5 107 (ma 0) = v73_5 from up2_s)]; omega) (by rw [(u_sem (c := tc) (n := tn) (s := (tS tc tn (pI S 107 (ma 0)).toNatClampNeg)) (by omega) (by omega)).2, show (up2 (up2 I8 107 (ma 0) v73_5) 108 (ma 0) 1) 108 (ma 0) = (1 : Int32) from (show up2 (up2 I8 107 (ma 0) v73_5) 108 (ma 0) 1 108 (ma 0) = 1 from up2_s)]; decide) (nt3 (u_sem (c := tc) (n := tn) (s := (tS tc tn (pI S 107 (ma 0)).toNatClampNeg)) (by omega) (by omega)).2 (by decide)) (nt2 (u_sem (c := tc) (n := tn) (s := (tS tc tn (pI S 107 (ma 0)).toNatClampNeg)) (by omega) (by omega)).2 (by decide))) | exact (mt_fin (s := (tS tc tn (pI S 107 (ma 0)).toNatClampNeg)) rfl (by rw [show (up2 (up2 I8 107 (ma 0) v73_5) 108 (ma 0) 1) 106 (ma 0) = (I8 106 (ma 0) : Int32) from rfl]; exact hEX) (by rw [(u_bad (c := tc) (n := tn) (s := (tS tc tn (pI S 107 (ma 0)).toNatClampNeg)) (by omega) (lB_f (by omega)) (dB_f (by omega)) (by omega) (by first | (left; omega) | (right; exact dB_f (by omega)))).1, show (up2 (up2 I8 107 (ma 0) v73_5) 108 (ma 0) 1) 107 (ma 0) = (v73_5 : Int32) from (show up2 I8 107 (ma 0) v73_5 107 (ma 0) = v73_5 from up2_s)]; omega) (by rw [(u_bad (c := tc) (n := tn) (s := (tS tc tn (pI S 107 (ma 0)).toNatClampNeg)) (by omega) (lB_f (by omega)) (dB_f (by omega)) (by omega) (by first | (left; omega) | (right; exact dB_f (by omega)))).2, show (up2 (up2 I8 107 (ma 0) v73_5) 108 (ma 0) 1) 108 (ma 0) = (1 : Int32) from (show up2 (up2 I8 107 (ma 0) v73_5) 108 (ma 0) 1 108 (ma 0) = 1 from up2_s)]; decide) (nt3 (u_bad (c := tc) (n := tn) (s := (tS tc tn (pI S 107 (ma 0)).toNatClampNeg)) (by omega) (lB_f (by omega)) (dB_f (by omega)) (by omega) (by first | (left; omega) | (right; exact dB_f (by omega)))).2 (by decide)) (nt2 (u_bad (c := tc) (n := tn) (s := (tS tc tn (pI S 107 (ma 0)).toNatClampNeg)) (by omega) (lB_f (by omega)) (dB_f (by omega)) (by omega) (by first | (left; omega) | (right; exact dB_f (by omega)))).2 (by decide)))
                    exact hret _ _ _ _ _ ⟨_, _, rfl, (FrN.up (f := 108) (by decide) (FrN.up (f := 107) (by decide) hF)), HFIN⟩ hw dX11_next_287
                  · have D276_65 := iEq c276_65 rfl t_59
                    refine lv_iconst (v := 4) hx hb dX11_next_279 (by decide) ?_
                    refine lv_goto (tgt := 284) hx hb dX11_next_280 (by decide) ?_
                    refine pf_X11_27 X hw hM.1 dX11_next_284 (fun H locs hw => ?_)
                    have hw : PX G A s.heap (ch S (up2 (up2 I8 107 (ma 0) v73_5) 108 (ma 0) 4) (pJ S) (qI S) (qJ S)) H locs := hw
                    have HFIN : mTok (up2 (up2 I8 107 (ma 0) v73_5) 108 (ma 0) 4) (pJ S) (ma 0) tc tn (pI S 107 (ma 0)).toNatClampNeg := by first | exact HFIN | exact (mt_fin (s := (tS tc tn (pI S 107 (ma 0)).toNatClampNeg)) rfl (by rw [show (up2 (up2 I8 107 (ma 0) v73_5) 108 (ma 0) 4) 106 (ma 0) = (I8 106 (ma 0) : Int32) from rfl]; exact hEX) (by rw [(u_sem (c := tc) (n := tn) (s := (tS tc tn (pI S 107 (ma 0)).toNatClampNeg)) (by omega) (by omega)).1, show (up2 (up2 I8 107 (ma 0) v73_5) 108 (ma 0) 4) 107 (ma 0) = (v73_5 : Int32) from (show up2 I8 107 (ma 0) v73_5 107 (ma 0) = v73_5 from up2_s)]; omega) (by rw [(u_sem (c := tc) (n := tn) (s := (tS tc tn (pI S 107 (ma 0)).toNatClampNeg)) (by omega) (by omega)).2, show (up2 (up2 I8 107 (ma 0) v73_5) 108 (ma 0) 4) 108 (ma 0) = (4 : Int32) from (show up2 (up2 I8 107 (ma 0) v73_5) 108 (ma 0) 4 108 (ma 0) = 4 from up2_s)]; decide) (nt3 (u_sem (c := tc) (n := tn) (s := (tS tc tn (pI S 107 (ma 0)).toNatClampNeg)) (by omega) (by omega)).2 (by decide)) (nt2 (u_sem (c := tc) (n := tn) (s := (tS tc tn (pI S 107 (ma 0)).toNatClampNeg)) (by omega) (by omega)).2 (by decide))) | exact (mt_fin (s := (tS tc tn (pI S 107 (ma 0)).toNatClampNeg)) rfl (by rw [show (up2 (up2 I8 107 (ma 0) v73_5) 108 (ma 0) 4) 106 (ma 0) = (I8 106 (ma 0) : Int32) from rfl]; exact hEX) (by rw [(u_bad (c := tc) (n := tn) (s := (tS tc tn (pI S 107 (ma 0)).toNatClampNeg)) (by omega) (lB_f (by omega)) (dB_f (by omega)) (by omega) (by first | (left; omega) | (right; exact dB_f (by omega)))).1, show (up2 (up2 I8 107 (ma 0) v73_5) 108 (ma 0) 4) 107 (ma 0) = (v73_5 : Int32) from (show up2 I8 107 (ma 0) v73_5 107 (ma 0) = v73_5 from up2_s)]; omega) (by rw [(u_bad (c := tc) (n := tn) (s := (tS tc tn (pI S 107 (ma 0)).toNatClampNeg)) (by omega) (lB_f (by omega)) (dB_f (by omega)) (by omega) (by first | (left; omega) | (right; exact dB_f (by omega)))).2, show (up2 (up2 I8 107 (ma 0) v73_5) 108 (ma 0) 4) 108 (ma 0) = (4 : Int32) from (show up2 (up2 I8 107 (ma 0) v73_5) 108 (ma 0) 4 108 (ma 0) = 4 from up2_s)]; decide) (nt3 (u_bad (c := tc) (n := tn) (s := (tS tc tn (pI S 107 (ma 0)).toNatClampNeg)) (by omega) (lB_f (by omega)) (dB_f (by omega)) (by omega) (by first | (left; omega) | (right; exact dB_f (by omega)))).2 (by decide)) (nt2 (u_bad (c := tc) (n := tn) (s := (tS tc tn (pI S 107 (ma 0)).toNatClampNeg)) (by omega) (lB_f (by omega)) (dB_f (by omega)) (by omega) (by first | (left; omega) | (right; exact dB_f (by omega)))).2 (by decide)))
                    exact hret _ _ _ _ _ ⟨_, _, rfl, (FrN.up (f := 108) (by decide) (FrN.up (f := 107) (by decide) hF)), HFIN⟩ hw dX11_next_287
        · have D85_6 := iNlt c85_6 rfl rfl
          refine lv_aload_n hx hb dX11_next_88 rfl (lv_at hl 1 rfl) ?_
          refine lv_iconst (v := 0) hx hb dX11_next_89 (by decide) ?_
          refine pf_X11_27 X hw hM.1 dX11_next_90 (fun H locs hw => ?_)
          have hw : PX G A s.heap (ch S (up2 (up2 I8 107 (ma 0) v73_5) 108 (ma 0) 0) (pJ S) (qI S) (qJ S)) H locs := hw
          refine lv_aload_n hx hb dX11_next_93 rfl (lv_at hl 1 rfl) ?_
          refine lv_aload_n hx hb dX11_next_94 rfl (lv_at hl 1 rfl) ?_
          refine gf_X11_1 (v := I8 103 (ma 0)) X hw hM.1 rfl dX11_next_95 ?_
          refine pf_X11_20 X hw hM.1 dX11_next_98 (fun H locs hw => ?_)
          have hw : PX G A s.heap (ch S (up2 (up2 (up2 I8 107 (ma 0) v73_5) 108 (ma 0) 0) 106 (ma 0) (I8 103 (ma 0))) (pJ S) (qI S) (qJ S)) H locs := hw
          refine lv_aload_n hx hb dX11_next_101 rfl (lv_at hl 1 rfl) ?_
          refine lv_aload_n hx hb dX11_next_102 rfl (lv_at hl 1 rfl) ?_
          refine gf_X11_1 (v := I8 103 (ma 0)) X hw hM.1 rfl dX11_next_103 ?_
          refine pf_X11_17 X hw hM.1 dX11_next_106 (fun H locs hw => ?_)
          have hw : PX G A s.heap (ch S (up2 (up2 (up2 (up2 I8 107 (ma 0) v73_5) 108 (ma 0) 0) 106 (ma 0) (I8 103 (ma 0))) 107 (ma 0) (I8 103 (ma 0))) (pJ S) (qI S) (qJ S)) H locs := hw
          have hU := u_end (c := tc) (n := tn) (s := (tS tc tn (pI S 107 (ma 0)).toNatClampNeg)) (by omega)
          have HFIN : mTok (up2 (up2 (up2 (up2 I8 107 (ma 0) v73_5) 108 (ma 0) 0) 106 (ma 0) (I8 103 (ma 0))) 107 (ma 0) (I8 103 (ma 0))) (pJ S) (ma 0) tc tn (pI S 107 (ma 0)).toNatClampNeg := mt_fin (s := (tS tc tn (pI S 107 (ma 0)).toNatClampNeg)) rfl (by rw [show (up2 (up2 (up2 (up2 I8 107 (ma 0) v73_5) 108 (ma 0) 0) 106 (ma 0) (I8 103 (ma 0))) 107 (ma 0) (I8 103 (ma 0))) 106 (ma 0) = (I8 103 (ma 0) : Int32) from (show up2 (up2 (up2 I8 107 (ma 0) v73_5) 108 (ma 0) 0) 106 (ma 0) (I8 103 (ma 0)) 106 (ma 0) = (I8 103 (ma 0)) from up2_s)]; omega) (by rw [hU.1, show (up2 (up2 (up2 (up2 I8 107 (ma 0) v73_5) 108 (ma 0) 0) 106 (ma 0) (I8 103 (ma 0))) 107 (ma 0) (I8 103 (ma 0))) 107 (ma 0) = (I8 103 (ma 0) : Int32) from (show up2 (up2 (up2 (up2 I8 107 (ma 0) v73_5) 108 (ma 0) 0) 106 (ma 0) (I8 103 (ma 0))) 107 (ma 0) (I8 103 (ma 0)) 107 (ma 0) = (I8 103 (ma 0)) from up2_s)]; omega) (by rw [hU.2, show (up2 (up2 (up2 (up2 I8 107 (ma 0) v73_5) 108 (ma 0) 0) 106 (ma 0) (I8 103 (ma 0))) 107 (ma 0) (I8 103 (ma 0))) 108 (ma 0) = (0 : Int32) from (show up2 (up2 I8 107 (ma 0) v73_5) 108 (ma 0) 0 108 (ma 0) = 0 from up2_s)]; decide) (nt3 hU.2 (by decide)) (nt2 hU.2 (by decide))
          refine lv_goto (tgt := 287) hx hb dX11_next_109 (by decide) ?_
          have HFIN : mTok (up2 (up2 (up2 (up2 I8 107 (ma 0) v73_5) 108 (ma 0) 0) 106 (ma 0) (I8 103 (ma 0))) 107 (ma 0) (I8 103 (ma 0))) (pJ S) (ma 0) tc tn (pI S 107 (ma 0)).toNatClampNeg := by first | exact HFIN | exact (mt_fin (s := (tS tc tn (pI S 107 (ma 0)).toNatClampNeg)) rfl (by rw [show (up2 (up2 (up2 (up2 I8 107 (ma 0) v73_5) 108 (ma 0) 0) 106 (ma 0) (I8 103 (ma 0))) 107 (ma 0) (I8 103 (ma 0))) 106 (ma 0) = (I8 103 (ma 0) : Int32) from (show up2 (up2 (up2 I8 107 (ma 0) v73_5) 108 (ma 0) 0) 106 (ma 0) (I8 103 (ma 0)) 106 (ma 0) = (I8 103 (ma 0)) from up2_s)]; exact hEX) (by rw [(u_sem (c := tc) (n := tn) (s := (tS tc tn (pI S 107 (ma 0)).toNatClampNeg)) (by omega) (by omega)).1, show (up2 (up2 (up2 (up2 I8 107 (ma 0) v73_5) 108 (ma 0) 0) 106 (ma 0) (I8 103 (ma 0))) 107 (ma 0) (I8 103 (ma 0))) 107 (ma 0) = (I8 103 (ma 0) : Int32) from (show up2 (up2 (up2 (up2 I8 107 (ma 0) v73_5) 108 (ma 0) 0) 106 (ma 0) (I8 103 (ma 0))) 107 (ma 0) (I8 103 (ma 0)) 107 (ma 0) = (I8 103 (ma 0)) from up2_s)]; omega) (by rw [(u_sem (c := tc) (n := tn) (s := (tS tc tn (pI S 107 (ma 0)).toNatClampNeg)) (by omega) (by omega)).2, show (up2 (up2 (up2 (up2 I8 107 (ma 0) v73_5) 108 (ma 0) 0) 106 (ma 0) (I8 103 (ma 0))) 107 (ma 0) (I8 103 (ma 0))) 108 (ma 0) = (0 : Int32) from (show up2 (up2 I8 107 (ma 0) v73_5) 108 (ma 0) 0 108 (ma 0) = 0 from up2_s)]; decide) (nt3 (u_sem (c := tc) (n := tn) (s := (tS tc tn (pI S 107 (ma 0)).toNatClampNeg)) (by omega) (by omega)).2 (by decide)) (nt2 (u_sem (c := tc) (n := tn) (s := (tS tc tn (pI S 107 (ma 0)).toNatClampNeg)) (by omega) (by omega)).2 (by decide))) | exact (mt_fin (s := (tS tc tn (pI S 107 (ma 0)).toNatClampNeg)) rfl (by rw [show (up2 (up2 (up2 (up2 I8 107 (ma 0) v73_5) 108 (ma 0) 0) 106 (ma 0) (I8 103 (ma 0))) 107 (ma 0) (I8 103 (ma 0))) 106 (ma 0) = (I8 103 (ma 0) : Int32) from (show up2 (up2 (up2 I8 107 (ma 0) v73_5) 108 (ma 0) 0) 106 (ma 0) (I8 103 (ma 0)) 106 (ma 0) = (I8 103 (ma 0)) from up2_s)]; exact hEX) (by rw [(u_bad (c := tc) (n := tn) (s := (tS tc tn (pI S 107 (ma 0)).toNatClampNeg)) (by omega) (lB_f (by omega)) (dB_f (by omega)) (by omega) (by first | (left; omega) | (right; exact dB_f (by omega)))).1, show (up2 (up2 (up2 (up2 I8 107 (ma 0) v73_5) 108 (ma 0) 0) 106 (ma 0) (I8 103 (ma 0))) 107 (ma 0) (I8 103 (ma 0))) 107 (ma 0) = (I8 103 (ma 0) : Int32) from (show up2 (up2 (up2 (up2 I8 107 (ma 0) v73_5) 108 (ma 0) 0) 106 (ma 0) (I8 103 (ma 0))) 107 (ma 0) (I8 103 (ma 0)) 107 (ma 0) = (I8 103 (ma 0)) from up2_s)]; omega) (by rw [(u_bad (c := tc) (n := tn) (s := (tS tc tn (pI S 107 (ma 0)).toNatClampNeg)) (by omega) (lB_f (by omega)) (dB_f (by omega)) (by omega) (by first | (left; omega) | (right; exact dB_f (by omega)))).2, show (up2 (up2 (up2 (up2 I8 107 (ma 0) v73_5) 108 (ma 0) 0) 106 (ma 0) (I8 103 (ma 0))) 107 (ma 0) (I8 103 (ma 0))) 108 (ma 0) = (0 : Int32) from (show up2 (up2 I8 107 (ma 0) v73_5) 108 (ma 0) 0 108 (ma 0) = 0 from up2_s)]; decide) (nt3 (u_bad (c := tc) (n := tn) (s := (tS tc tn (pI S 107 (ma 0)).toNatClampNeg)) (by omega) (lB_f (by omega)) (dB_f (by omega)) (by omega) (by first | (left; omega) | (right; exact dB_f (by omega)))).2 (by decide)) (nt2 (u_bad (c := tc) (n := tn) (s := (tS tc tn (pI S 107 (ma 0)).toNatClampNeg)) (by omega) (lB_f (by omega)) (dB_f (by omega)) (by omega) (by first | (left; omega) | (right; exact dB_f (by omega)))).2 (by decide)))
          exact hret _ _ _ _ _ ⟨_, _, rfl, (FrN.up (f := 107) (by decide) (FrN.up (f := 106) (by decide) (FrN.up (f := 108) (by decide) (FrN.up (f := 107) (by decide) hF)))), HFIN⟩ hw dX11_next_287
      · have D16_1 := iNle c16_1 rfl rfl
        refine lv_aload_n hx hb dX11_next_19 rfl (lv_at hl 0 rfl) ?_
        refine lv_aload_n hx hb dX11_next_20 rfl (lv_at hl 0 rfl) ?_
        refine gf_X11_20 (v := I8 106 (ma 0)) X hw hM.1 rfl dX11_next_21 ?_
        refine k_Vi (n := 1) X hw (rcvk (ci := 11) X hw hM.1 (fun _ _ _ _ _ _ _ => ⟨_, rfl⟩) rfl) (c_v_X11_sign l G _ ma tc tn (I8 106 (ma 0)) hM htc (FrN.n hF hn) hz (by omega)) wd_r20_21 wd_r20_22 wd_r20_23 wd_r1_5 wd_r21_0 ⟨by decide, by decide, by decide +kernel⟩ rfl rfl ⟨Nat.le_of_ble_eq_true rfl, Nat.le_of_ble_eq_true rfl⟩ rfl rfl hl.1 (Nat.le_of_ble_eq_true rfl) dX11_next_24 ⟨Nat.le_of_ble_eq_true rfl, Nat.le_of_ble_eq_true rfl⟩ (fun r24_66 S24_68 H locs h24_67 hw => ?_)
        obtain ⟨rfl, h24_67⟩ := h24_67
        have hby := congrArg Int32.toInt (show r24_66 = tc (I8 106 (ma 0)).toNatClampNeg from h24_67)
        refine lv_bipush (v := 32) hx hb dX11_next_27 (by decide) ?_
        refine lv_icmp_eq (tgt := 45) hx hb dX11_next_29 (by decide) (fun c29_69 => ?_) (fun c29_69 => ?_)
        · have D29_69 := iEq c29_69 rfl t_32
          refine lv_aload_n hx hb dX11_next_45 rfl (lv_at hl 0 rfl) ?_
          refine lv_dup hx hb dX11_next_46 rfl ?_
          refine gf_X11_20 (v := I8 106 (ma 0)) X hw hM.1 rfl dX11_next_47 ?_
          refine lv_iconst (v := 1) hx hb dX11_next_50 (by decide) ?_
          refine lv_iadd hx hb dX11_next_51 ?_
          refine lv_topi (fun v51_70 e51_70 => ?_)
          have t51_70 := iAdd e51_70 rfl t_1 (by omega) (by omega)
          have t51 := t51_70
          refine pf_X11_20 X hw hM.1 dX11_next_52 (fun H locs hw => ?_)
          have hw : PX G A s.heap (ch S (up2 I8 106 (ma 0) v51_70) (pJ S) (qI S) (qJ S)) H locs := hw
          refine lv_goto (tgt := 8) hx hb dX11_next_55 (by decide) ?_
          exact ih8 (up2 I8 106 (ma 0) v51_70)  (FrN.up (f := 106) (by decide) hF) (by rw [show (up2 I8 106 (ma 0) v51_70) 106 (ma 0) = (v51_70 : Int32) from (show up2 I8 106 (ma 0) v51_70 106 (ma 0) = v51_70 from up2_s)]; omega) (by rw [show (up2 I8 106 (ma 0) v51_70) 106 (ma 0) = (v51_70 : Int32) from (show up2 I8 106 (ma 0) v51_70 106 (ma 0) = v51_70 from up2_s)]; exact rs_s hT (by omega) (by omega) (bB_i.mpr (by omega)) t51) (by rw [show (up2 I8 106 (ma 0) v51_70) 106 (ma 0) = (v51_70 : Int32) from (show up2 I8 106 (ma 0) v51_70 106 (ma 0) = v51_70 from up2_s)]; omega) _ _ _ hw (lv_sub hl [0] rfl)
        · have D29_69 := iNe c29_69 rfl t_32
          refine lv_aload_n hx hb dX11_next_32 rfl (lv_at hl 0 rfl) ?_
          refine lv_aload_n hx hb dX11_next_33 rfl (lv_at hl 0 rfl) ?_
          refine gf_X11_20 (v := I8 106 (ma 0)) X hw hM.1 rfl dX11_next_34 ?_
          refine k_Vi (n := 1) X hw (rcvk (ci := 11) X hw hM.1 (fun _ _ _ _ _ _ _ => ⟨_, rfl⟩) rfl) (c_v_X11_sign l G _ ma tc tn (I8 106 (ma 0)) hM htc (FrN.n hF hn) hz (by omega)) wd_r20_21 wd_r20_22 wd_r20_23 wd_r1_5 wd_r21_0 ⟨by decide, by decide, by decide +kernel⟩ rfl rfl ⟨Nat.le_of_ble_eq_true rfl, Nat.le_of_ble_eq_true rfl⟩ rfl rfl hl.1 (Nat.le_of_ble_eq_true rfl) dX11_next_37 ⟨Nat.le_of_ble_eq_true rfl, Nat.le_of_ble_eq_true rfl⟩ (fun r37_71 S37_73 H locs h37_72 hw => ?_)
          obtain ⟨rfl, h37_72⟩ := h37_72
          have hby2 := congrArg Int32.toInt (show r37_71 = tc (I8 106 (ma 0)).toNatClampNeg from h37_72)
          refine lv_bipush (v := 10) hx hb dX11_next_40 (by decide) ?_
          refine lv_icmp_ne (tgt := 58) hx hb dX11_next_42 (by decide) (fun c42_74 => ?_) (fun c42_74 => ?_)
          · have D42_74 := iNe c42_74 rfl t_10
            have hEX : (I8 106 (ma 0)).toInt = ((tS tc tn (pI S 107 (ma 0)).toNatClampNeg) : Nat) := rs_e hT (by omega) (by first | (left; omega) | (right; exact bB_f (by omega)))
            obtain ⟨B1, hB1⟩ : ∃ z, z = I8 106 (ma 0) := ⟨_, rfl⟩
            have hB2 : B1.toNatClampNeg = (tS tc tn (pI S 107 (ma 0)).toNatClampNeg) := by have := cl_toInt (x := B1) (by rw [hB1]; omega); rw [← hB1] at hEX; omega
            refine lv_aload_n hx hb dX11_next_58 rfl (lv_at hl 0 rfl) ?_
            refine lv_aload_n hx hb dX11_next_59 rfl (lv_at hl 0 rfl) ?_
            refine gf_X11_20 (v := I8 106 (ma 0)) X hw hM.1 rfl dX11_next_60 ?_
            refine k_Vi (n := 1) X hw (rcvk (ci := 11) X hw hM.1 (fun _ _ _ _ _ _ _ => ⟨_, rfl⟩) rfl) (c_v_X11_sign l G _ ma tc tn (I8 106 (ma 0)) hM htc (FrN.n hF hn) hz (by omega)) wd_r20_21 wd_r20_22 wd_r20_23 wd_r1_5 wd_r21_0 ⟨by decide, by decide, by decide +kernel⟩ rfl rfl ⟨Nat.le_of_ble_eq_true rfl, Nat.le_of_ble_eq_true rfl⟩ rfl rfl hl.1 (Nat.le_of_ble_eq_true rfl) dX11_next_63 ⟨Nat.le_of_ble_eq_true rfl, Nat.le_of_ble_eq_true rfl⟩ (fun r63_75 S63_77 H locs h63_76 hw => ?_)
            obtain ⟨rfl, h63_76⟩ := h63_76
            have hc63 : r63_75 = tc (tS tc tn (pI S 107 (ma 0)).toNatClampNeg) := by rw [← hB2, hB1]; exact h63_76
            have hc63t := congrArg Int32.toInt hc63
            refine lv_istore_n (lv' := [(1, .int r63_75), (0, .ref (ma 0))]) hx hb dX11_next_66 rfl hl (by decide) rfl (fun ls hl => ?_)
            refine lv_aload_n hx hb dX11_next_67 rfl (lv_at hl 1 rfl) ?_
            refine lv_aload_n hx hb dX11_next_68 rfl (lv_at hl 1 rfl) ?_
            refine gf_X11_20 (v := I8 106 (ma 0)) X hw hM.1 rfl dX11_next_69 ?_
            refine lv_iconst (v := 1) hx hb dX11_next_72 (by decide) ?_
            refine lv_iadd hx hb dX11_next_73 ?_
            refine lv_topi (fun v73_78 e73_78 => ?_)
            have t73_78 := iAdd e73_78 rfl t_1 (by omega) (by omega)
            have t73 := t73_78
            refine pf_X11_17 X hw hM.1 dX11_next_74 (fun H locs hw => ?_)
            have hw : PX G A s.heap (ch S (up2 I8 107 (ma 0) v73_78) (pJ S) (qI S) (qJ S)) H locs := hw
            refine lv_aload_n hx hb dX11_next_77 rfl (lv_at hl 1 rfl) ?_
            refine gf_X11_20 (v := I8 106 (ma 0)) X hw hM.1 rfl dX11_next_78 ?_
            refine lv_aload_n hx hb dX11_next_81 rfl (lv_at hl 1 rfl) ?_
            refine gf_X11_1 (v := I8 103 (ma 0)) X hw hM.1 rfl dX11_next_82 ?_
            refine lv_icmp_lt (tgt := 112) hx hb dX11_next_85 (by decide) (fun c85_79 => ?_) (fun c85_79 => ?_)
            · have D85_79 := iLt c85_79 rfl rfl
              refine lv_iload_n hx hb dX11_next_112 rfl (lv_at hl 0 rfl) ?_
              refine k_Si (n := 1) X hw (c_X11_isLetter l G _ r63_75) wd_r21_1 wd_r21_2 wd_r1_5 wd_r21_3 ⟨by decide, by decide, by decide +kernel⟩ rfl rfl ⟨Nat.le_of_ble_eq_true rfl, Nat.le_of_ble_eq_true rfl⟩ rfl rfl hl.1 (Nat.le_of_ble_eq_true rfl) dX11_next_113 ⟨Nat.le_of_ble_eq_true rfl, Nat.le_of_ble_eq_true rfl⟩ (fun r113_80 S113_82 H locs h113_81 hw => ?_)
              rcases h113_81 with ⟨rfl, rfl, h113_81⟩ | ⟨rfl, rfl, h113_81⟩
              · have h113_81 := h113_81
                refine lv_if_eq (tgt := 225) hx hb dX11_next_116 (by decide) (fun c116_83 => absurd c116_83 (by decide)) (fun c116_83 => ?_)
                have lp119 : ∀ (N9 : Nat) (I119 : Nat → Nat → Int32), (FrN (pI S) I119) → (((tS tc tn (pI S 107 (ma 0)).toNatClampNeg) : Int) < (I119 107 (ma 0)).toInt ∧ (I119 107 (ma 0)).toInt ≤ (tn : Int)) → (run lB tc tn (I119 107 (ma 0)).toNatClampNeg = (run lB tc tn (tS tc tn (pI S 107 (ma 0)).toNatClampNeg))) → ((I119 106 (ma 0)).toInt = ((tS tc tn (pI S 107 (ma 0)).toNatClampNeg) : Nat)) → ((tn : Int) - (I119 107 (ma 0)).toInt).toNat < N9 → ∀ (H : Heap) (locs : List Loc) (ls : Array Slot), PX G A s.heap (ch S I119 (pJ S) (qI S) (qJ S)) H locs → lv_has ls 3 [(1, .int r63_75), (0, .ref (ma 0))] → W p l e (Rm 2 0 0) s m args below meth c H locs 0 0 Q (F0 m 119 ls []) := by
                  intro N9
                  induction N9 with
                  | zero => intro I119 hF hB hT h106 hm; exact absurd hm (Nat.not_lt_zero _)
                  | succ N9 ih119 =>
                    intro I119 hF hB hT h106 hm H locs ls hw hl
                    have hnn := FrN.n hF hn
                    refine lv_aload_n hx hb dX11_next_119 rfl (lv_at hl 1 rfl) ?_
                    refine lv_aload_n hx hb dX11_next_120 rfl (lv_at hl 1 rfl) ?_
                    refine gf_X11_17 (v := I119 107 (ma 0)) X hw hM.1 rfl dX11_next_121 ?_
                    refine k_Vi (n := 1) X hw (rcvk (ci := 11) X hw hM.1 (fun _ _ _ _ _ _ _ => ⟨_, rfl⟩) rfl) (c_v_X11_sign l G _ ma tc tn (I119 107 (ma 0)) hM htc (FrN.n hF hn) hz (by omega)) wd_r20_21 wd_r20_22 wd_r20_23 wd_r1_5 wd_r21_0 ⟨by decide, by decide, by decide +kernel⟩ rfl rfl ⟨Nat.le_of_ble_eq_true rfl, Nat.le_of_ble_eq_true rfl⟩ rfl rfl hl.1 (Nat.le_of_ble_eq_true rfl) dX11_next_124 ⟨Nat.le_of_ble_eq_true rfl, Nat.le_of_ble_eq_true rfl⟩ (fun r124_84 S124_86 H locs h124_85 hw => ?_)
                    obtain ⟨rfl, h124_85⟩ := h124_85
                    have hby4 := congrArg Int32.toInt (show r124_84 = tc (I119 107 (ma 0)).toNatClampNeg from h124_85)
                    have hlt9 : 0 < r124_84.toInt → (I119 107 (ma 0)).toInt < (tn : Int) := fun h => tx_posI htc (by omega) (by omega)
                    refine k_Si (n := 1) X hw (c_X11_isLetter l G _ r124_84) wd_r21_1 wd_r21_2 wd_r1_5 wd_r21_3 ⟨by decide, by decide, by decide +kernel⟩ rfl rfl ⟨Nat.le_of_ble_eq_true rfl, Nat.le_of_ble_eq_true rfl⟩ rfl rfl hl.1 (Nat.le_of_ble_eq_true rfl) dX11_next_127 ⟨Nat.le_of_ble_eq_true rfl, Nat.le_of_ble_eq_true rfl⟩ (fun r127_87 S127_89 H locs h127_88 hw => ?_)
                    rcases h127_88 with ⟨rfl, rfl, h127_88⟩ | ⟨rfl, rfl, h127_88⟩
                    · have h127_88 := h127_88
                      refine lv_if_eq (tgt := 146) hx hb dX11_next_130 (by decide) (fun c130_90 => absurd c130_90 (by decide)) (fun c130_90 => ?_)
                      refine lv_aload_n hx hb dX11_next_133 rfl (lv_at hl 1 rfl) ?_
                      refine lv_dup hx hb dX11_next_134 rfl ?_
                      refine gf_X11_17 (v := I119 107 (ma 0)) X hw hM.1 rfl dX11_next_135 ?_
                      refine lv_iconst (v := 1) hx hb dX11_next_138 (by decide) ?_
                      refine lv_iadd hx hb dX11_next_139 ?_
                      refine lv_topi (fun v139_91 e139_91 => ?_)
                      have t139_91 := iAdd e139_91 rfl t_1 (by omega) (by omega)
                      have t139 := t139_91
                      refine pf_X11_17 X hw hM.1 dX11_next_140 (fun H locs hw => ?_)
                      have hw : PX G A s.heap (ch S (up2 I119 107 (ma 0) v139_91) (pJ S) (qI S) (qJ S)) H locs := hw
                      refine lv_goto (tgt := 119) hx hb dX11_next_143 (by decide) ?_
                      exact ih119 (up2 I119 107 (ma 0) v139_91)  (FrN.up (f := 107) (by decide) hF) (by rw [show (up2 I119 107 (ma 0) v139_91) 107 (ma 0) = (v139_91 : Int32) from (show up2 I119 107 (ma 0) v139_91 107 (ma 0) = v139_91 from up2_s)]; omega) (by rw [show (up2 I119 107 (ma 0) v139_91) 107 (ma 0) = (v139_91 : Int32) from (show up2 I119 107 (ma 0) v139_91 107 (ma 0) = v139_91 from up2_s)]; exact rs_s hT (by omega) (by omega) (lB_i.mpr (by omega)) t139) (by rw [show (up2 I119 107 (ma 0) v139_91) 106 (ma 0) = (I119 106 (ma 0) : Int32) from rfl]; exact h106) (by rw [show (up2 I119 107 (ma 0) v139_91) 107 (ma 0) = (v139_91 : Int32) from (show up2 I119 107 (ma 0) v139_91 107 (ma 0) = v139_91 from up2_s)]; omega) _ _ _ hw (lv_sub hl [0, 1] rfl)
                    · have h127_88 := h127_88
                      refine lv_if_eq (tgt := 146) hx hb dX11_next_130 (by decide) (fun c130_92 => ?_) (fun c130_92 => absurd c130_92 (by decide))
                      have hEL : (I119 107 (ma 0)).toInt = ((run lB tc tn (tS tc tn (pI S 107 (ma 0)).toNatClampNeg)) : Nat) := rs_e hT (by omega) (Or.inr (lB_f (by omega)))
                      have hU := u_word (c := tc) (n := tn) (s := (tS tc tn (pI S 107 (ma 0)).toNatClampNeg)) (by omega) (lB_i.mpr (by omega))
                      refine lv_aload_n hx hb dX11_next_146 rfl (lv_at hl 1 rfl) ?_
                      refine lv_lconst (v := 0) hx hb dX11_next_147 (by decide) ?_
                      refine pf_X11_34 X hw hM.1 dX11_next_148 (fun H locs hw => ?_)
                      have hw : PX G A s.heap (ch S I119 (up2 (pJ S) 110 (ma 0) 0) (qI S) (qJ S)) H locs := hw
                      refine lv_aload_n hx hb dX11_next_151 rfl (lv_at hl 1 rfl) ?_
                      refine gf_X11_20 (v := I119 106 (ma 0)) X hw hM.1 rfl dX11_next_152 ?_
                      refine lv_istore_n (lv' := [(2, .int (I119 106 (ma 0))), (1, .int r63_75), (0, .ref (ma 0))]) hx hb dX11_next_155 rfl hl (by decide) rfl (fun ls hl => ?_)
                      have lp156 : ∀ (N9 : Nat) (J156 : Nat → Nat → Int64) (k : Int32), (((tS tc tn (pI S 107 (ma 0)).toNatClampNeg) : Int) ≤ k.toInt ∧ k.toInt ≤ (I119 107 (ma 0)).toInt ∧ k.toInt ≤ ((tS tc tn (pI S 107 (ma 0)).toNatClampNeg) : Int) + 8) → (J156 110 (ma 0) = nmv tc (tS tc tn (pI S 107 (ma 0)).toNatClampNeg) (k.toNatClampNeg - (tS tc tn (pI S 107 (ma 0)).toNatClampNeg))) → ((I119 107 (ma 0)).toInt - k.toInt).toNat < N9 → ∀ (H : Heap) (locs : List Loc) (ls : Array Slot), PX G A s.heap (ch S I119 J156 (qI S) (qJ S)) H locs → lv_has ls 3 [(2, .int k), (1, .int r63_75), (0, .ref (ma 0))] → W p l e (Rm 2 0 0) s m args below meth c H locs 0 0 Q (F0 m 156 ls []) := by
                        intro N9
                        induction N9 with
                        | zero => intro J156 k hk hJ hm; exact absurd hm (Nat.not_lt_zero _)
                        | succ N9 ih156 =>
                          intro J156 k hk hJ hm H locs ls hw hl
                          refine lv_iload_n hx hb dX11_next_156 rfl (lv_at hl 0 rfl) ?_
                          refine lv_aload_n hx hb dX11_next_157 rfl (lv_at hl 2 rfl) ?_
                          refine gf_X11_17 (v := I119 107 (ma 0)) X hw hM.1 rfl dX11_next_158 ?_
                          refine lv_icmp_ge (tgt := 199) hx hb dX11_next_161 (by decide) (fun c161_93 => ?_) (fun c161_93 => ?_)
                          · have D161_93 := iLe c161_93 rfl rfl
                            refine lv_aload_n hx hb dX11_next_199 rfl (lv_at hl 2 rfl) ?_
                            refine lv_aload_n hx hb dX11_next_200 rfl (lv_at hl 2 rfl) ?_
                            refine gf_X11_17 (v := I119 107 (ma 0)) X hw hM.1 rfl dX11_next_201 ?_
                            refine lv_aload_n hx hb dX11_next_204 rfl (lv_at hl 2 rfl) ?_
                            refine gf_X11_20 (v := I119 106 (ma 0)) X hw hM.1 rfl dX11_next_205 ?_
                            refine lv_isub hx hb dX11_next_208 ?_
                            refine lv_topi (fun v208_94 e208_94 => ?_)
                            have t208_94 := iSub e208_94 rfl rfl (by omega) (by omega)
                            have t208 := t208_94
                            refine lv_bipush (v := 8) hx hb dX11_next_209 (by decide) ?_
                            refine lv_icmp_le (tgt := 218) hx hb dX11_next_211 (by decide) (fun c211_95 => ?_) (fun c211_95 => ?_)
                            · have D211_95 := iLe c211_95 rfl t_8
                              refine lv_iconst (v := 2) hx hb dX11_next_218 (by decide) ?_
                              refine pf_X11_27 X hw hM.1 dX11_next_219 (fun H locs hw => ?_)
                              have hw : PX G A s.heap (ch S (up2 I119 108 (ma 0) 2) J156 (qI S) (qJ S)) H locs := hw
                              have HFIN : mTok (up2 I119 108 (ma 0) 2) J156 (ma 0) tc tn (pI S 107 (ma 0)).toNatClampNeg := mt_fin (s := (tS tc tn (pI S 107 (ma 0)).toNatClampNeg)) rfl (by rw [show (up2 I119 108 (ma 0) 2) 106 (ma 0) = (I119 106 (ma 0) : Int32) from rfl]; exact h106) (by rw [hU.1, show (up2 I119 108 (ma 0) 2) 107 (ma 0) = (I119 107 (ma 0) : Int32) from rfl]; exact hEL) (by rw [hU.2, show (up2 I119 108 (ma 0) 2) 108 (ma 0) = (2 : Int32) from (show up2 I119 108 (ma 0) 2 108 (ma 0) = 2 from up2_s)]; first | (rw [if_pos (by omega)]; decide) | (rw [if_neg (by omega)]; decide)) (fun q => absurd (hU.2.symm.trans q) (by split <;> decide)) (fun q => by rw [hU.1]; exact nm_e hJ (by have := ifn2 (hU.2.symm.trans q); omega))
                              refine lv_goto (tgt := 287) hx hb dX11_next_222 (by decide) ?_
                              have HFIN : mTok (up2 I119 108 (ma 0) 2) J156 (ma 0) tc tn (pI S 107 (ma 0)).toNatClampNeg := by first | exact HFIN | exact (mt_fin (s := (tS tc tn (pI S 107 (ma 0)).toNatClampNeg)) rfl (by rw [show (up2 I119 108 (ma 0) 2) 106 (ma 0) = (I119 106 (ma 0) : Int32) from rfl]; exact hEX) (by rw [(u_sem (c := tc) (n := tn) (s := (tS tc tn (pI S 107 (ma 0)).toNatClampNeg)) (by omega) (by omega)).1, show (up2 I119 108 (ma 0) 2) 107 (ma 0) = (I119 107 (ma 0) : Int32) from rfl]; omega) (by rw [(u_sem (c := tc) (n := tn) (s := (tS tc tn (pI S 107 (ma 0)).toNatClampNeg)) (by omega) (by omega)).2, show (up2 I119 108 (ma 0) 2) 108 (ma 0) = (2 : Int32) from (show up2 I119 108 (ma 0) 2 108 (ma 0) = 2 from up2_s)]; decide) (nt3 (u_sem (c := tc) (n := tn) (s := (tS tc tn (pI S 107 (ma 0)).toNatClampNeg)) (by omega) (by omega)).2 (by decide)) (nt2 (u_sem (c := tc) (n := tn) (s := (tS tc tn (pI S 107 (ma 0)).toNatClampNeg)) (by omega) (by omega)).2 (by decide))) | exact (mt_fin (s := (tS tc tn (pI S 107 (ma 0)).toNatClampNeg)) rfl (by rw [show (up2 I119 108 (ma 0) 2) 106 (ma 0) = (I119 106 (ma 0) : Int32) from rfl]; exact hEX) (by rw [(u_bad (c := tc) (n := tn) (s := (tS tc tn (pI S 107 (ma 0)).toNatClampNeg)) (by omega) (lB_f (by omega)) (dB_f (by omega)) (by omega) (by first | (left; omega) | (right; exact dB_f (by omega)))).1, show (up2 I119 108 (ma 0) 2) 107 (ma 0) = (I119 107 (ma 0) : Int32) from rfl]; omega) (by rw [(u_bad (c := tc) (n := tn) (s := (tS tc tn (pI S 107 (ma 0)).toNatClampNeg)) (by omega) (lB_f (by omega)) (dB_f (by omega)) (by omega) (by first | (left; omega) | (right; exact dB_f (by omega)))).2, show (up2 I119 108 (ma 0) 2) 108 (ma 0) = (2 : Int32) from (show up2 I119 108 (ma 0) 2 108 (ma 0) = 2 from up2_s)]; decide) (nt3 (u_bad (c := tc) (n := tn) (s := (tS tc tn (pI S 107 (ma 0)).toNatClampNeg)) (by omega) (lB_f (by omega)) (dB_f (by omega)) (by omega) (by first | (left; omega) | (right; exact dB_f (by omega)))).2 (by decide)) (nt2 (u_bad (c := tc) (n := tn) (s := (tS tc tn (pI S 107 (ma 0)).toNatClampNeg)) (by omega) (lB_f (by omega)) (dB_f (by omega)) (by omega) (by first | (left; omega) | (right; exact dB_f (by omega)))).2 (by decide)))
                              exact hret _ _ _ _ _ ⟨_, _, rfl, (FrN.up (f := 108) (by decide) hF), HFIN⟩ hw dX11_next_287
                            · have D211_95 := iNle c211_95 rfl t_8
                              refine lv_iconst (v := 1) hx hb dX11_next_214 (by decide) ?_
                              refine lv_goto (tgt := 219) hx hb dX11_next_215 (by decide) ?_
                              refine pf_X11_27 X hw hM.1 dX11_next_219 (fun H locs hw => ?_)
                              have hw : PX G A s.heap (ch S (up2 I119 108 (ma 0) 1) J156 (qI S) (qJ S)) H locs := hw
                              have HFIN : mTok (up2 I119 108 (ma 0) 1) J156 (ma 0) tc tn (pI S 107 (ma 0)).toNatClampNeg := mt_fin (s := (tS tc tn (pI S 107 (ma 0)).toNatClampNeg)) rfl (by rw [show (up2 I119 108 (ma 0) 1) 106 (ma 0) = (I119 106 (ma 0) : Int32) from rfl]; exact h106) (by rw [hU.1, show (up2 I119 108 (ma 0) 1) 107 (ma 0) = (I119 107 (ma 0) : Int32) from rfl]; exact hEL) (by rw [hU.2, show (up2 I119 108 (ma 0) 1) 108 (ma 0) = (1 : Int32) from (show up2 I119 108 (ma 0) 1 108 (ma 0) = 1 from up2_s)]; first | (rw [if_pos (by omega)]; decide) | (rw [if_neg (by omega)]; decide)) (fun q => absurd (hU.2.symm.trans q) (by split <;> decide)) (fun q => by rw [hU.1]; exact nm_e hJ (by have := ifn2 (hU.2.symm.trans q); omega))
                              refine lv_goto (tgt := 287) hx hb dX11_next_222 (by decide) ?_
                              have HFIN : mTok (up2 I119 108 (ma 0) 1) J156 (ma 0) tc tn (pI S 107 (ma 0)).toNatClampNeg := by first | exact HFIN | exact (mt_fin (s := (tS tc tn (pI S 107 (ma 0)).toNatClampNeg)) rfl (by rw [show (up2 I119 108 (ma 0) 1) 106 (ma 0) = (I119 106 (ma 0) : Int32) from rfl]; exact hEX) (by rw [(u_sem (c := tc) (n := tn) (s := (tS tc tn (pI S 107 (ma 0)).toNatClampNeg)) (by omega) (by omega)).1, show (up2 I119 108 (ma 0) 1) 107 (ma 0) = (I119 107 (ma 0) : Int32) from rfl]; omega) (by rw [(u_sem (c := tc) (n := tn) (s := (tS tc tn (pI S 107 (ma 0)).toNatClampNeg)) (by omega) (by omega)).2, show (up2 I119 108 (ma 0) 1) 108 (ma 0) = (1 : Int32) from (show up2 I119 108 (ma 0) 1 108 (ma 0) = 1 from up2_s)]; decide) (nt3 (u_sem (c := tc) (n := tn) (s := (tS tc tn (pI S 107 (ma 0)).toNatClampNeg)) (by omega) (by omega)).2 (by decide)) (nt2 (u_sem (c := tc) (n := tn) (s := (tS tc tn (pI S 107 (ma 0)).toNatClampNeg)) (by omega) (by omega)).2 (by decide))) | exact (mt_fin (s := (tS tc tn (pI S 107 (ma 0)).toNatClampNeg)) rfl (by rw [show (up2 I119 108 (ma 0) 1) 106 (ma 0) = (I119 106 (ma 0) : Int32) from rfl]; exact hEX) (by rw [(u_bad (c := tc) (n := tn) (s := (tS tc tn (pI S 107 (ma 0)).toNatClampNeg)) (by omega) (lB_f (by omega)) (dB_f (by omega)) (by omega) (by first | (left; omega) | (right; exact dB_f (by omega)))).1, show (up2 I119 108 (ma 0) 1) 107 (ma 0) = (I119 107 (ma 0) : Int32) from rfl]; omega) (by rw [(u_bad (c := tc) (n := tn) (s := (tS tc tn (pI S 107 (ma 0)).toNatClampNeg)) (by omega) (lB_f (by omega)) (dB_f (by omega)) (by omega) (by first | (left; omega) | (right; exact dB_f (by omega)))).2, show (up2 I119 108 (ma 0) 1) 108 (ma 0) = (1 : Int32) from (show up2 I119 108 (ma 0) 1 108 (ma 0) = 1 from up2_s)]; decide) (nt3 (u_bad (c := tc) (n := tn) (s := (tS tc tn (pI S 107 (ma 0)).toNatClampNeg)) (by omega) (lB_f (by omega)) (dB_f (by omega)) (by omega) (by first | (left; omega) | (right; exact dB_f (by omega)))).2 (by decide)) (nt2 (u_bad (c := tc) (n := tn) (s := (tS tc tn (pI S 107 (ma 0)).toNatClampNeg)) (by omega) (lB_f (by omega)) (dB_f (by omega)) (by omega) (by first | (left; omega) | (right; exact dB_f (by omega)))).2 (by decide)))
                              exact hret _ _ _ _ _ ⟨_, _, rfl, (FrN.up (f := 108) (by decide) hF), HFIN⟩ hw dX11_next_287
                          · have D161_93 := iNle c161_93 rfl rfl
                            refine lv_iload_n hx hb dX11_next_164 rfl (lv_at hl 0 rfl) ?_
                            refine lv_aload_n hx hb dX11_next_165 rfl (lv_at hl 2 rfl) ?_
                            refine gf_X11_20 (v := I119 106 (ma 0)) X hw hM.1 rfl dX11_next_166 ?_
                            refine lv_bipush (v := 8) hx hb dX11_next_169 (by decide) ?_
                            refine lv_iadd hx hb dX11_next_171 ?_
                            refine lv_topi (fun v171_96 e171_96 => ?_)
                            have t171_96 := iAdd e171_96 rfl t_8 (by omega) (by omega)
                            have t171 := t171_96
                            refine lv_icmp_ge (tgt := 199) hx hb dX11_next_172 (by decide) (fun c172_97 => ?_) (fun c172_97 => ?_)
                            · have D172_97 := iLe c172_97 rfl rfl
                              refine lv_aload_n hx hb dX11_next_199 rfl (lv_at hl 2 rfl) ?_
                              refine lv_aload_n hx hb dX11_next_200 rfl (lv_at hl 2 rfl) ?_
                              refine gf_X11_17 (v := I119 107 (ma 0)) X hw hM.1 rfl dX11_next_201 ?_
                              refine lv_aload_n hx hb dX11_next_204 rfl (lv_at hl 2 rfl) ?_
                              refine gf_X11_20 (v := I119 106 (ma 0)) X hw hM.1 rfl dX11_next_205 ?_
                              refine lv_isub hx hb dX11_next_208 ?_
                              refine lv_topi (fun v208_98 e208_98 => ?_)
                              have t208_98 := iSub e208_98 rfl rfl (by omega) (by omega)
                              have t208 := t208_98
                              refine lv_bipush (v := 8) hx hb dX11_next_209 (by decide) ?_
                              refine lv_icmp_le (tgt := 218) hx hb dX11_next_211 (by decide) (fun c211_99 => ?_) (fun c211_99 => ?_)
                              · have D211_99 := iLe c211_99 rfl t_8
                                refine lv_iconst (v := 2) hx hb dX11_next_218 (by decide) ?_
                                refine pf_X11_27 X hw hM.1 dX11_next_219 (fun H locs hw => ?_)
                                have hw : PX G A s.heap (ch S (up2 I119 108 (ma 0) 2) J156 (qI S) (qJ S)) H locs := hw
                                have HFIN : mTok (up2 I119 108 (ma 0) 2) J156 (ma 0) tc tn (pI S 107 (ma 0)).toNatClampNeg := mt_fin (s := (tS tc tn (pI S 107 (ma 0)).toNatClampNeg)) rfl (by rw [show (up2 I119 108 (ma 0) 2) 106 (ma 0) = (I119 106 (ma 0) : Int32) from rfl]; exact h106) (by rw [hU.1, show (up2 I119 108 (ma 0) 2) 107 (ma 0) = (I119 107 (ma 0) : Int32) from rfl]; exact hEL) (by rw [hU.2, show (up2 I119 108 (ma 0) 2) 108 (ma 0) = (2 : Int32) from (show up2 I119 108 (ma 0) 2 108 (ma 0) = 2 from up2_s)]; first | (rw [if_pos (by omega)]; decide) | (rw [if_neg (by omega)]; decide)) (fun q => absurd (hU.2.symm.trans q) (by split <;> decide)) (fun q => by rw [hU.1]; exact nm_e hJ (by have := ifn2 (hU.2.symm.trans q); omega))
                                refine lv_goto (tgt := 287) hx hb dX11_next_222 (by decide) ?_
                                have HFIN : mTok (up2 I119 108 (ma 0) 2) J156 (ma 0) tc tn (pI S 107 (ma 0)).toNatClampNeg := by first | exact HFIN | exact (mt_fin (s := (tS tc tn (pI S 107 (ma 0)).toNatClampNeg)) rfl (by rw [show (up2 I119 108 (ma 0) 2) 106 (ma 0) = (I119 106 (ma 0) : Int32) from rfl]; exact hEX) (by rw [(u_sem (c := tc) (n := tn) (s := (tS tc tn (pI S 107 (ma 0)).toNatClampNeg)) (by omega) (by omega)).1, show (up2 I119 108 (ma 0) 2) 107 (ma 0) = (I119 107 (ma 0) : Int32) from rfl]; omega) (by rw [(u_sem (c := tc) (n := tn) (s := (tS tc tn (pI S 107 (ma 0)).toNatClampNeg)) (by omega) (by omega)).2, show (up2 I119 108 (ma 0) 2) 108 (ma 0) = (2 : Int32) from (show up2 I119 108 (ma 0) 2 108 (ma 0) = 2 from up2_s)]; decide) (nt3 (u_sem (c := tc) (n := tn) (s := (tS tc tn (pI S 107 (ma 0)).toNatClampNeg)) (by omega) (by omega)).2 (by decide)) (nt2 (u_sem (c := tc) (n := tn) (s := (tS tc tn (pI S 107 (ma 0)).toNatClampNeg)) (by omega) (by omega)).2 (by decide))) | exact (mt_fin (s := (tS tc tn (pI S 107 (ma 0)).toNatClampNeg)) rfl (by rw [show (up2 I119 108 (ma 0) 2) 106 (ma 0) = (I119 106 (ma 0) : Int32) from rfl]; exact hEX) (by rw [(u_bad (c := tc) (n := tn) (s := (tS tc tn (pI S 107 (ma 0)).toNatClampNeg)) (by omega) (lB_f (by omega)) (dB_f (by omega)) (by omega) (by first | (left; omega) | (right; exact dB_f (by omega)))).1, show (up2 I119 108 (ma 0) 2) 107 (ma 0) = (I119 107 (ma 0) : Int32) from rfl]; omega) (by rw [(u_bad (c := tc) (n := tn) (s := (tS tc tn (pI S 107 (ma 0)).toNatClampNeg)) (by omega) (lB_f (by omega)) (dB_f (by omega)) (by omega) (by first | (left; omega) | (right; exact dB_f (by omega)))).2, show (up2 I119 108 (ma 0) 2) 108 (ma 0) = (2 : Int32) from (show up2 I119 108 (ma 0) 2 108 (ma 0) = 2 from up2_s)]; decide) (nt3 (u_bad (c := tc) (n := tn) (s := (tS tc tn (pI S 107 (ma 0)).toNatClampNeg)) (by omega) (lB_f (by omega)) (dB_f (by omega)) (by omega) (by first | (left; omega) | (right; exact dB_f (by omega)))).2 (by decide)) (nt2 (u_bad (c := tc) (n := tn) (s := (tS tc tn (pI S 107 (ma 0)).toNatClampNeg)) (by omega) (lB_f (by omega)) (dB_f (by omega)) (by omega) (by first | (left; omega) | (right; exact dB_f (by omega)))).2 (by decide)))
                                exact hret _ _ _ _ _ ⟨_, _, rfl, (FrN.up (f := 108) (by decide) hF), HFIN⟩ hw dX11_next_287
                              · have D211_99 := iNle c211_99 rfl t_8
                                refine lv_iconst (v := 1) hx hb dX11_next_214 (by decide) ?_
                                refine lv_goto (tgt := 219) hx hb dX11_next_215 (by decide) ?_
                                refine pf_X11_27 X hw hM.1 dX11_next_219 (fun H locs hw => ?_)
                                have hw : PX G A s.heap (ch S (up2 I119 108 (ma 0) 1) J156 (qI S) (qJ S)) H locs := hw
                                have HFIN : mTok (up2 I119 108 (ma 0) 1) J156 (ma 0) tc tn (pI S 107 (ma 0)).toNatClampNeg := mt_fin (s := (tS tc tn (pI S 107 (ma 0)).toNatClampNeg)) rfl (by rw [show (up2 I119 108 (ma 0) 1) 106 (ma 0) = (I119 106 (ma 0) : Int32) from rfl]; exact h106) (by rw [hU.1, show (up2 I119 108 (ma 0) 1) 107 (ma 0) = (I119 107 (ma 0) : Int32) from rfl]; exact hEL) (by rw [hU.2, show (up2 I119 108 (ma 0) 1) 108 (ma 0) = (1 : Int32) from (show up2 I119 108 (ma 0) 1 108 (ma 0) = 1 from up2_s)]; first | (rw [if_pos (by omega)]; decide) | (rw [if_neg (by omega)]; decide)) (fun q => absurd (hU.2.symm.trans q) (by split <;> decide)) (fun q => by rw [hU.1]; exact nm_e hJ (by have := ifn2 (hU.2.symm.trans q); omega))
                                refine lv_goto (tgt := 287) hx hb dX11_next_222 (by decide) ?_
                                have HFIN : mTok (up2 I119 108 (ma 0) 1) J156 (ma 0) tc tn (pI S 107 (ma 0)).toNatClampNeg := by first | exact HFIN | exact (mt_fin (s := (tS tc tn (pI S 107 (ma 0)).toNatClampNeg)) rfl (by rw [show (up2 I119 108 (ma 0) 1) 106 (ma 0) = (I119 106 (ma 0) : Int32) from rfl]; exact hEX) (by rw [(u_sem (c := tc) (n := tn) (s := (tS tc tn (pI S 107 (ma 0)).toNatClampNeg)) (by omega) (by omega)).1, show (up2 I119 108 (ma 0) 1) 107 (ma 0) = (I119 107 (ma 0) : Int32) from rfl]; omega) (by rw [(u_sem (c := tc) (n := tn) (s := (tS tc tn (pI S 107 (ma 0)).toNatClampNeg)) (by omega) (by omega)).2, show (up2 I119 108 (ma 0) 1) 108 (ma 0) = (1 : Int32) from (show up2 I119 108 (ma 0) 1 108 (ma 0) = 1 from up2_s)]; decide) (nt3 (u_sem (c := tc) (n := tn) (s := (tS tc tn (pI S 107 (ma 0)).toNatClampNeg)) (by omega) (by omega)).2 (by decide)) (nt2 (u_sem (c := tc) (n := tn) (s := (tS tc tn (pI S 107 (ma 0)).toNatClampNeg)) (by omega) (by omega)).2 (by decide))) | exact (mt_fin (s := (tS tc tn (pI S 107 (ma 0)).toNatClampNeg)) rfl (by rw [show (up2 I119 108 (ma 0) 1) 106 (ma 0) = (I119 106 (ma 0) : Int32) from rfl]; exact hEX) (by rw [(u_bad (c := tc) (n := tn) (s := (tS tc tn (pI S 107 (ma 0)).toNatClampNeg)) (by omega) (lB_f (by omega)) (dB_f (by omega)) (by omega) (by first | (left; omega) | (right; exact dB_f (by omega)))).1, show (up2 I119 108 (ma 0) 1) 107 (ma 0) = (I119 107 (ma 0) : Int32) from rfl]; omega) (by rw [(u_bad (c := tc) (n := tn) (s := (tS tc tn (pI S 107 (ma 0)).toNatClampNeg)) (by omega) (lB_f (by omega)) (dB_f (by omega)) (by omega) (by first | (left; omega) | (right; exact dB_f (by omega)))).2, show (up2 I119 108 (ma 0) 1) 108 (ma 0) = (1 : Int32) from (show up2 I119 108 (ma 0) 1 108 (ma 0) = 1 from up2_s)]; decide) (nt3 (u_bad (c := tc) (n := tn) (s := (tS tc tn (pI S 107 (ma 0)).toNatClampNeg)) (by omega) (lB_f (by omega)) (dB_f (by omega)) (by omega) (by first | (left; omega) | (right; exact dB_f (by omega)))).2 (by decide)) (nt2 (u_bad (c := tc) (n := tn) (s := (tS tc tn (pI S 107 (ma 0)).toNatClampNeg)) (by omega) (lB_f (by omega)) (dB_f (by omega)) (by omega) (by first | (left; omega) | (right; exact dB_f (by omega)))).2 (by decide)))
                                exact hret _ _ _ _ _ ⟨_, _, rfl, (FrN.up (f := 108) (by decide) hF), HFIN⟩ hw dX11_next_287
                            · have D172_97 := iNle c172_97 rfl rfl
                              refine lv_aload_n hx hb dX11_next_175 rfl (lv_at hl 2 rfl) ?_
                              refine lv_aload_n hx hb dX11_next_176 rfl (lv_at hl 2 rfl) ?_
                              refine gf_X11_34 (v := J156 110 (ma 0)) X hw hM.1 rfl dX11_next_177 ?_
                              refine lv_bipush (v := 8) hx hb dX11_next_180 (by decide) ?_
                              refine lv_lshl hx hb dX11_next_182 rfl ?_
                              refine lv_topl (fun v182_100 e182_100 => ?_)
                              have e182n := e182_100
                              refine lv_aload_n hx hb dX11_next_183 rfl (lv_at hl 2 rfl) ?_
                              refine lv_iload_n hx hb dX11_next_184 rfl (lv_at hl 0 rfl) ?_
                              refine k_Vi (n := 1) X hw (rcvk (ci := 11) X hw hM.1 (fun _ _ _ _ _ _ _ => ⟨_, rfl⟩) rfl) (c_v_X11_sign l G _ ma tc tn k hM htc (FrN.n hF hn) hz (by omega)) wd_r20_21 wd_r20_22 wd_r20_23 wd_r1_5 wd_r21_0 ⟨by decide, by decide, by decide +kernel⟩ rfl rfl ⟨Nat.le_of_ble_eq_true rfl, Nat.le_of_ble_eq_true rfl⟩ rfl rfl hl.1 (Nat.le_of_ble_eq_true rfl) dX11_next_185 ⟨Nat.le_of_ble_eq_true rfl, Nat.le_of_ble_eq_true rfl⟩ (fun r185_101 S185_103 H locs h185_102 hw => ?_)
                              obtain ⟨rfl, h185_102⟩ := h185_102
                              have hby5 : r185_101 = tc k.toNatClampNeg := h185_102
                              refine lv_i2l hx hb dX11_next_188 rfl ?_
                              refine lv_topl (fun v188_104 e188_104 => ?_)
                              have e188n := e188_104
                              refine lv_lor hx hb dX11_next_189 ?_
                              refine lv_topl (fun v189_105 e189_105 => ?_)
                              have e189n := e189_105
                              refine pf_X11_34 X hw hM.1 dX11_next_190 (fun H locs hw => ?_)
                              have hw : PX G A s.heap (ch S I119 (up2 J156 110 (ma 0) v189_105) (qI S) (qJ S)) H locs := hw
                              obtain ⟨v193_106, e193_106⟩ : ∃ y : Int32, y = k + 1 := ⟨_, rfl⟩
                              have t193_106 := iAdd e193_106 rfl t_1 (by omega) (by omega)
                              have t193 := t193_106
                              refine lv_iinc (v := v193_106) (lv' := [(2, .int v193_106), (1, .int r63_75), (0, .ref (ma 0))]) hx hb dX11_next_193 hl (k := 0) rfl (by rw [e193_106]; rfl) (by decide) rfl (fun ls hl => ?_)
                              refine lv_goto (tgt := 156) hx hb dX11_next_196 (by decide) ?_
                              exact ih156 (up2 J156 110 (ma 0) v189_105) v193_106 (by omega) (up2_s.trans (nm_s hJ e182n hby5 e188n e189n (by omega) t193)) (by omega) _ _ _ hw (lv_sub hl [0, 1, 2] rfl)
                      exact lp156 _ (up2 (pJ S) 110 (ma 0) 0) (I119 106 (ma 0)) (by omega) (nm_0 up2_s h106) (Nat.lt_succ_self _) _ _ _ hw (lv_sub hl [0, 1, 2] rfl)
                exact lp119 _ (up2 I8 107 (ma 0) v73_78)  (FrN.up (f := 107) (by decide) hF) (by rw [show (up2 I8 107 (ma 0) v73_78) 107 (ma 0) = (v73_78 : Int32) from (show up2 I8 107 (ma 0) v73_78 107 (ma 0) = v73_78 from up2_s)]; omega) (by rw [show (up2 I8 107 (ma 0) v73_78) 107 (ma 0) = (v73_78 : Int32) from (show up2 I8 107 (ma 0) v73_78 107 (ma 0) = v73_78 from up2_s)]; exact rs_1 (by omega) (lB_i.mpr (by omega)) (by omega)) (by rw [show (up2 I8 107 (ma 0) v73_78) 106 (ma 0) = (I8 106 (ma 0) : Int32) from rfl]; exact hEX) (Nat.lt_succ_self _) _ _ _ hw (lv_sub hl [0, 1] rfl)
              · have h113_81 := h113_81
                refine lv_if_eq (tgt := 225) hx hb dX11_next_116 (by decide) (fun c116_107 => ?_) (fun c116_107 => absurd c116_107 (by decide))
                refine lv_iload_n hx hb dX11_next_225 rfl (lv_at hl 0 rfl) ?_
                refine k_Si (n := 1) X hw (c_X11_isDigit l G _ r63_75) wd_r21_4 wd_r21_5 wd_r1_5 wd_r21_6 ⟨by decide, by decide, by decide +kernel⟩ rfl rfl ⟨Nat.le_of_ble_eq_true rfl, Nat.le_of_ble_eq_true rfl⟩ rfl rfl hl.1 (Nat.le_of_ble_eq_true rfl) dX11_next_226 ⟨Nat.le_of_ble_eq_true rfl, Nat.le_of_ble_eq_true rfl⟩ (fun r226_108 S226_110 H locs h226_109 hw => ?_)
                rcases h226_109 with ⟨rfl, rfl, h226_109⟩ | ⟨rfl, rfl, h226_109⟩
                · have h226_109 := h226_109
                  refine lv_if_ne (tgt := 254) hx hb dX11_next_229 (by decide) (fun c229_111 => ?_) (fun c229_111 => absurd c229_111 (by decide))
                  have HDD : dB (tc (tF tc (tS tc tn (pI S 107 (ma 0)).toNatClampNeg))) = true := by unfold tF; first | (rw [if_neg (by omega)]; exact dB_i.mpr (by omega)) | (rw [if_pos (by omega)]; exact dB_i.mpr (by omega))
                  refine lv_aload_n hx hb dX11_next_254 rfl (lv_at hl 1 rfl) ?_
                  refine lv_iload_n hx hb dX11_next_255 rfl (lv_at hl 0 rfl) ?_
                  refine lv_bipush (v := 45) hx hb dX11_next_256 (by decide) ?_
                  refine lv_icmp_ne (tgt := 265) hx hb dX11_next_258 (by decide) (fun c258_112 => ?_) (fun c258_112 => ?_)
                  · have D258_112 := iNe c258_112 rfl t_45
                    refine lv_iconst (v := 0) hx hb dX11_next_265 (by decide) ?_
                    refine k_Vv (n := 1) X hw (rcvk (ci := 11) X hw hM.1 (fun _ _ _ _ _ _ _ => ⟨_, rfl⟩) rfl) (c_v_X11_readNumber l G _ ma tc tn 0 hM htc (FrN.n (FrN.up (f := 107) (by decide) hF) hn) hz (show 0 ≤ (I8 106 (ma 0) : Int32).toInt ∧ (I8 106 (ma 0) : Int32).toInt < (tn : Int) by omega) (show (((0) : Int32).toInt ≠ 0 ∧ (tc ((I8 106 (ma 0) : Int32)).toNatClampNeg).toInt = 45) ∨ (((0) : Int32).toInt = 0 ∧ (tc ((I8 106 (ma 0) : Int32)).toNatClampNeg).toInt ≠ 45) by rw [← hB1, hB2]; have := t_0; have := t_1; omega) (show dB (tc (tF tc ((I8 106 (ma 0) : Int32)).toNatClampNeg)) = true by rw [← hB1, hB2]; exact HDD)) wd_r21_7 wd_r21_8 wd_r21_9 wd_r1_5 wd_r21_10 ⟨by decide, by decide, by decide +kernel⟩ rfl rfl ⟨Nat.le_of_ble_eq_true rfl, Nat.le_of_ble_eq_true rfl⟩ rfl rfl hl.1 (Nat.le_of_ble_eq_true rfl) dX11_next_266 ⟨Nat.le_of_ble_eq_true rfl, Nat.le_of_ble_eq_true rfl⟩ (fun S266_114 H locs h266_113 hw => ?_)
                    have := t_0
                    obtain ⟨I266_115, rfl, h266_113⟩ := h266_113
                    have hw : PX G A s.heap (ch S I266_115 (pJ S) (qI S) (qJ S)) H locs := hw
                    have hND : (I266_115 107 (ma 0)).toInt = (uE tc tn B1.toNatClampNeg : Nat) ∧ (I266_115 108 (ma 0)).toInt = mKd (uK tc tn B1.toNatClampNeg) ∧ (uK tc tn B1.toNatClampNeg = 3 → I266_115 109 (ma 0) = uV tc tn B1.toNatClampNeg) := by rw [hB1]; exact h266_113.2
                    rw [hB2] at hND
                    have h106n : (I266_115 106 (ma 0)).toInt = ((tS tc tn (pI S 107 (ma 0)).toNatClampNeg) : Nat) := by rw [h266_113.1 106 (by decide)]; exact hEX
                    have HK3 : uK tc tn (tS tc tn (pI S 107 (ma 0)).toNatClampNeg) ≠ 2 := by rw [(u_num (c := tc) (n := tn) (s := (tS tc tn (pI S 107 (ma 0)).toNatClampNeg)) (by omega) (mnm HDD).1 (mnm HDD).2).2]; split <;> decide
                    have HFIN : mTok I266_115 (pJ S) (ma 0) tc tn (pI S 107 (ma 0)).toNatClampNeg := mt_fin (s := (tS tc tn (pI S 107 (ma 0)).toNatClampNeg)) rfl h106n hND.1 hND.2.1 hND.2.2 (fun q => absurd q HK3)
                    refine lv_goto (tgt := 287) hx hb dX11_next_269 (by decide) ?_
                    have HFIN : mTok I266_115 (pJ S) (ma 0) tc tn (pI S 107 (ma 0)).toNatClampNeg := by first | exact HFIN | exact (mt_fin (s := (tS tc tn (pI S 107 (ma 0)).toNatClampNeg)) rfl (by rw [show I266_115 106 (ma 0) = (I266_115 106 (ma 0) : Int32) from rfl]; exact hEX) (by rw [(u_sem (c := tc) (n := tn) (s := (tS tc tn (pI S 107 (ma 0)).toNatClampNeg)) (by omega) (by omega)).1, show I266_115 107 (ma 0) = (I266_115 107 (ma 0) : Int32) from rfl]; omega) (by rw [(u_sem (c := tc) (n := tn) (s := (tS tc tn (pI S 107 (ma 0)).toNatClampNeg)) (by omega) (by omega)).2, show I266_115 108 (ma 0) = (I266_115 108 (ma 0) : Int32) from rfl]; decide) (nt3 (u_sem (c := tc) (n := tn) (s := (tS tc tn (pI S 107 (ma 0)).toNatClampNeg)) (by omega) (by omega)).2 (by decide)) (nt2 (u_sem (c := tc) (n := tn) (s := (tS tc tn (pI S 107 (ma 0)).toNatClampNeg)) (by omega) (by omega)).2 (by decide))) | exact (mt_fin (s := (tS tc tn (pI S 107 (ma 0)).toNatClampNeg)) rfl (by rw [show I266_115 106 (ma 0) = (I266_115 106 (ma 0) : Int32) from rfl]; exact hEX) (by rw [(u_bad (c := tc) (n := tn) (s := (tS tc tn (pI S 107 (ma 0)).toNatClampNeg)) (by omega) (lB_f (by omega)) (dB_f (by omega)) (by omega) (by first | (left; omega) | (right; exact dB_f (by omega)))).1, show I266_115 107 (ma 0) = (I266_115 107 (ma 0) : Int32) from rfl]; omega) (by rw [(u_bad (c := tc) (n := tn) (s := (tS tc tn (pI S 107 (ma 0)).toNatClampNeg)) (by omega) (lB_f (by omega)) (dB_f (by omega)) (by omega) (by first | (left; omega) | (right; exact dB_f (by omega)))).2, show I266_115 108 (ma 0) = (I266_115 108 (ma 0) : Int32) from rfl]; decide) (nt3 (u_bad (c := tc) (n := tn) (s := (tS tc tn (pI S 107 (ma 0)).toNatClampNeg)) (by omega) (lB_f (by omega)) (dB_f (by omega)) (by omega) (by first | (left; omega) | (right; exact dB_f (by omega)))).2 (by decide)) (nt2 (u_bad (c := tc) (n := tn) (s := (tS tc tn (pI S 107 (ma 0)).toNatClampNeg)) (by omega) (lB_f (by omega)) (dB_f (by omega)) (by omega) (by first | (left; omega) | (right; exact dB_f (by omega)))).2 (by decide)))
                    exact hret _ _ _ _ _ ⟨_, _, rfl, (FrN.tr (FrN.up (f := 107) (by decide) hF) (h266_113.1.n2)), HFIN⟩ hw dX11_next_287
                  · have D258_112 := iEq c258_112 rfl t_45
                    refine lv_iconst (v := 1) hx hb dX11_next_261 (by decide) ?_
                    refine lv_goto (tgt := 266) hx hb dX11_next_262 (by decide) ?_
                    refine k_Vv (n := 1) X hw (rcvk (ci := 11) X hw hM.1 (fun _ _ _ _ _ _ _ => ⟨_, rfl⟩) rfl) (c_v_X11_readNumber l G _ ma tc tn 1 hM htc (FrN.n (FrN.up (f := 107) (by decide) hF) hn) hz (show 0 ≤ (I8 106 (ma 0) : Int32).toInt ∧ (I8 106 (ma 0) : Int32).toInt < (tn : Int) by omega) (show (((1) : Int32).toInt ≠ 0 ∧ (tc ((I8 106 (ma 0) : Int32)).toNatClampNeg).toInt = 45) ∨ (((1) : Int32).toInt = 0 ∧ (tc ((I8 106 (ma 0) : Int32)).toNatClampNeg).toInt ≠ 45) by rw [← hB1, hB2]; have := t_0; have := t_1; omega) (show dB (tc (tF tc ((I8 106 (ma 0) : Int32)).toNatClampNeg)) = true by rw [← hB1, hB2]; exact HDD)) wd_r21_7 wd_r21_8 wd_r21_9 wd_r1_5 wd_r21_10 ⟨by decide, by decide, by decide +kernel⟩ rfl rfl ⟨Nat.le_of_ble_eq_true rfl, Nat.le_of_ble_eq_true rfl⟩ rfl rfl hl.1 (Nat.le_of_ble_eq_true rfl) dX11_next_266 ⟨Nat.le_of_ble_eq_true rfl, Nat.le_of_ble_eq_true rfl⟩ (fun S266_117 H locs h266_116 hw => ?_)
                    have := t_1
                    obtain ⟨I266_118, rfl, h266_116⟩ := h266_116
                    have hw : PX G A s.heap (ch S I266_118 (pJ S) (qI S) (qJ S)) H locs := hw
                    have hND : (I266_118 107 (ma 0)).toInt = (uE tc tn B1.toNatClampNeg : Nat) ∧ (I266_118 108 (ma 0)).toInt = mKd (uK tc tn B1.toNatClampNeg) ∧ (uK tc tn B1.toNatClampNeg = 3 → I266_118 109 (ma 0) = uV tc tn B1.toNatClampNeg) := by rw [hB1]; exact h266_116.2
                    rw [hB2] at hND
                    have h106n : (I266_118 106 (ma 0)).toInt = ((tS tc tn (pI S 107 (ma 0)).toNatClampNeg) : Nat) := by rw [h266_116.1 106 (by decide)]; exact hEX
                    have HK3 : uK tc tn (tS tc tn (pI S 107 (ma 0)).toNatClampNeg) ≠ 2 := by rw [(u_num (c := tc) (n := tn) (s := (tS tc tn (pI S 107 (ma 0)).toNatClampNeg)) (by omega) (mnm HDD).1 (mnm HDD).2).2]; split <;> decide
                    have HFIN : mTok I266_118 (pJ S) (ma 0) tc tn (pI S 107 (ma 0)).toNatClampNeg := mt_fin (s := (tS tc tn (pI S 107 (ma 0)).toNatClampNeg)) rfl h106n hND.1 hND.2.1 hND.2.2 (fun q => absurd q HK3)
                    refine lv_goto (tgt := 287) hx hb dX11_next_269 (by decide) ?_
                    have HFIN : mTok I266_118 (pJ S) (ma 0) tc tn (pI S 107 (ma 0)).toNatClampNeg := by first | exact HFIN | exact (mt_fin (s := (tS tc tn (pI S 107 (ma 0)).toNatClampNeg)) rfl (by rw [show I266_118 106 (ma 0) = (I266_118 106 (ma 0) : Int32) from rfl]; exact hEX) (by rw [(u_sem (c := tc) (n := tn) (s := (tS tc tn (pI S 107 (ma 0)).toNatClampNeg)) (by omega) (by omega)).1, show I266_118 107 (ma 0) = (I266_118 107 (ma 0) : Int32) from rfl]; omega) (by rw [(u_sem (c := tc) (n := tn) (s := (tS tc tn (pI S 107 (ma 0)).toNatClampNeg)) (by omega) (by omega)).2, show I266_118 108 (ma 0) = (I266_118 108 (ma 0) : Int32) from rfl]; decide) (nt3 (u_sem (c := tc) (n := tn) (s := (tS tc tn (pI S 107 (ma 0)).toNatClampNeg)) (by omega) (by omega)).2 (by decide)) (nt2 (u_sem (c := tc) (n := tn) (s := (tS tc tn (pI S 107 (ma 0)).toNatClampNeg)) (by omega) (by omega)).2 (by decide))) | exact (mt_fin (s := (tS tc tn (pI S 107 (ma 0)).toNatClampNeg)) rfl (by rw [show I266_118 106 (ma 0) = (I266_118 106 (ma 0) : Int32) from rfl]; exact hEX) (by rw [(u_bad (c := tc) (n := tn) (s := (tS tc tn (pI S 107 (ma 0)).toNatClampNeg)) (by omega) (lB_f (by omega)) (dB_f (by omega)) (by omega) (by first | (left; omega) | (right; exact dB_f (by omega)))).1, show I266_118 107 (ma 0) = (I266_118 107 (ma 0) : Int32) from rfl]; omega) (by rw [(u_bad (c := tc) (n := tn) (s := (tS tc tn (pI S 107 (ma 0)).toNatClampNeg)) (by omega) (lB_f (by omega)) (dB_f (by omega)) (by omega) (by first | (left; omega) | (right; exact dB_f (by omega)))).2, show I266_118 108 (ma 0) = (I266_118 108 (ma 0) : Int32) from rfl]; decide) (nt3 (u_bad (c := tc) (n := tn) (s := (tS tc tn (pI S 107 (ma 0)).toNatClampNeg)) (by omega) (lB_f (by omega)) (dB_f (by omega)) (by omega) (by first | (left; omega) | (right; exact dB_f (by omega)))).2 (by decide)) (nt2 (u_bad (c := tc) (n := tn) (s := (tS tc tn (pI S 107 (ma 0)).toNatClampNeg)) (by omega) (lB_f (by omega)) (dB_f (by omega)) (by omega) (by first | (left; omega) | (right; exact dB_f (by omega)))).2 (by decide)))
                    exact hret _ _ _ _ _ ⟨_, _, rfl, (FrN.tr (FrN.up (f := 107) (by decide) hF) (h266_116.1.n2)), HFIN⟩ hw dX11_next_287
                · have h226_109 := h226_109
                  refine lv_if_ne (tgt := 254) hx hb dX11_next_229 (by decide) (fun c229_119 => absurd c229_119 (by decide)) (fun c229_119 => ?_)
                  refine lv_iload_n hx hb dX11_next_232 rfl (lv_at hl 0 rfl) ?_
                  refine lv_bipush (v := 45) hx hb dX11_next_233 (by decide) ?_
                  refine lv_icmp_ne (tgt := 272) hx hb dX11_next_235 (by decide) (fun c235_120 => ?_) (fun c235_120 => ?_)
                  · have D235_120 := iNe c235_120 rfl t_45
                    refine lv_aload_n hx hb dX11_next_272 rfl (lv_at hl 1 rfl) ?_
                    refine lv_iload_n hx hb dX11_next_273 rfl (lv_at hl 0 rfl) ?_
                    refine lv_bipush (v := 59) hx hb dX11_next_274 (by decide) ?_
                    refine lv_icmp_ne (tgt := 283) hx hb dX11_next_276 (by decide) (fun c276_121 => ?_) (fun c276_121 => ?_)
                    · have D276_121 := iNe c276_121 rfl t_59
                      refine lv_iconst (v := 1) hx hb dX11_next_283 (by decide) ?_
                      refine pf_X11_27 X hw hM.1 dX11_next_284 (fun H locs hw => ?_)
                      have hw : PX G A s.heap (ch S (up2 (up2 I8 107 (ma 0) v73_78) 108 (ma 0) 1) (pJ S) (qI S) (qJ S)) H locs := hw
                      have HFIN : mTok (up2 (up2 I8 107 (ma 0) v73_78) 108 (ma 0) 1) (pJ S) (ma 0) tc tn (pI S 107 (ma 0)).toNatClampNeg := by first | exact HFIN | exact (mt_fin (s := (tS tc tn (pI S 107 (ma 0)).toNatClampNeg)) rfl (by rw [show (up2 (up2 I8 107 (ma 0) v73_78) 108 (ma 0) 1) 106 (ma 0) = (I8 106 (ma 0) : Int32) from rfl]; exact hEX) (by rw [(u_sem (c := tc) (n := tn) (s := (tS tc tn (pI S 107 (ma 0)).toNatClampNeg)) (by omega) (by omega)).1, show (up2 (up2 I8 107 (ma 0) v73_78) 108 (ma 0) 1) 107 (ma 0) = (v73_78 : Int32) from (show up2 I8 107 (ma 0) v73_78 107 (ma 0) = v73_78 from up2_s)]; omega) (by rw [(u_sem (c := tc) (n := tn) (s := (tS tc tn (pI S 107 (ma 0)).toNatClampNeg)) (by omega) (by omega)).2, show (up2 (up2 I8 107 (ma 0) v73_78) 108 (ma 0) 1) 108 (ma 0) = (1 : Int32) from (show up2 (up2 I8 107 (ma 0) v73_78) 108 (ma 0) 1 108 (ma 0) = 1 from up2_s)]; decide) (nt3 (u_sem (c := tc) (n := tn) (s := (tS tc tn (pI S 107 (ma 0)).toNatClampNeg)) (by omega) (by omega)).2 (by decide)) (nt2 (u_sem (c := tc) (n := tn) (s := (tS tc tn (pI S 107 (ma 0)).toNatClampNeg)) (by omega) (by omega)).2 (by decide))) | exact (mt_fin (s := (tS tc tn (pI S 107 (ma 0)).toNatClampNeg)) rfl (by rw [show (up2 (up2 I8 107 (ma 0) v73_78) 108 (ma 0) 1) 106 (ma 0) = (I8 106 (ma 0) : Int32) from rfl]; exact hEX) (by rw [(u_bad (c := tc) (n := tn) (s := (tS tc tn (pI S 107 (ma 0)).toNatClampNeg)) (by omega) (lB_f (by omega)) (dB_f (by omega)) (by omega) (by first | (left; omega) | (right; exact dB_f (by omega)))).1, show (up2 (up2 I8 107 (ma 0) v73_78) 108 (ma 0) 1) 107 (ma 0) = (v73_78 : Int32) from (show up2 I8 107 (ma 0) v73_78 107 (ma 0) = v73_78 from up2_s)]; omega) (by rw [(u_bad (c := tc) (n := tn) (s := (tS tc tn (pI S 107 (ma 0)).toNatClampNeg)) (by omega) (lB_f (by omega)) (dB_f (by omega)) (by omega) (by first | (left; omega) | (right; exact dB_f (by omega)))).2, show (up2 (up2 I8 107 (ma 0) v73_78) 108 (ma 0) 1) 108 (ma 0) = (1 : Int32) from (show up2 (up2 I8 107 (ma 0) v73_78) 108 (ma 0) 1 108 (ma 0) = 1 from up2_s)]; decide) (nt3 (u_bad (c := tc) (n := tn) (s := (tS tc tn (pI S 107 (ma 0)).toNatClampNeg)) (by omega) (lB_f (by omega)) (dB_f (by omega)) (by omega) (by first | (left; omega) | (right; exact dB_f (by omega)))).2 (by decide)) (nt2 (u_bad (c := tc) (n := tn) (s := (tS tc tn (pI S 107 (ma 0)).toNatClampNeg)) (by omega) (lB_f (by omega)) (dB_f (by omega)) (by omega) (by first | (left; omega) | (right; exact dB_f (by omega)))).2 (by decide)))
                      exact hret _ _ _ _ _ ⟨_, _, rfl, (FrN.up (f := 108) (by decide) (FrN.up (f := 107) (by decide) hF)), HFIN⟩ hw dX11_next_287
                    · have D276_121 := iEq c276_121 rfl t_59
                      refine lv_iconst (v := 4) hx hb dX11_next_279 (by decide) ?_
                      refine lv_goto (tgt := 284) hx hb dX11_next_280 (by decide) ?_
                      refine pf_X11_27 X hw hM.1 dX11_next_284 (fun H locs hw => ?_)
                      have hw : PX G A s.heap (ch S (up2 (up2 I8 107 (ma 0) v73_78) 108 (ma 0) 4) (pJ S) (qI S) (qJ S)) H locs := hw
                      have HFIN : mTok (up2 (up2 I8 107 (ma 0) v73_78) 108 (ma 0) 4) (pJ S) (ma 0) tc tn (pI S 107 (ma 0)).toNatClampNeg := by first | exact HFIN | exact (mt_fin (s := (tS tc tn (pI S 107 (ma 0)).toNatClampNeg)) rfl (by rw [show (up2 (up2 I8 107 (ma 0) v73_78) 108 (ma 0) 4) 106 (ma 0) = (I8 106 (ma 0) : Int32) from rfl]; exact hEX) (by rw [(u_sem (c := tc) (n := tn) (s := (tS tc tn (pI S 107 (ma 0)).toNatClampNeg)) (by omega) (by omega)).1, show (up2 (up2 I8 107 (ma 0) v73_78) 108 (ma 0) 4) 107 (ma 0) = (v73_78 : Int32) from (show up2 I8 107 (ma 0) v73_78 107 (ma 0) = v73_78 from up2_s)]; omega) (by rw [(u_sem (c := tc) (n := tn) (s := (tS tc tn (pI S 107 (ma 0)).toNatClampNeg)) (by omega) (by omega)).2, show (up2 (up2 I8 107 (ma 0) v73_78) 108 (ma 0) 4) 108 (ma 0) = (4 : Int32) from (show up2 (up2 I8 107 (ma 0) v73_78) 108 (ma 0) 4 108 (ma 0) = 4 from up2_s)]; decide) (nt3 (u_sem (c := tc) (n := tn) (s := (tS tc tn (pI S 107 (ma 0)).toNatClampNeg)) (by omega) (by omega)).2 (by decide)) (nt2 (u_sem (c := tc) (n := tn) (s := (tS tc tn (pI S 107 (ma 0)).toNatClampNeg)) (by omega) (by omega)).2 (by decide))) | exact (mt_fin (s := (tS tc tn (pI S 107 (ma 0)).toNatClampNeg)) rfl (by rw [show (up2 (up2 I8 107 (ma 0) v73_78) 108 (ma 0) 4) 106 (ma 0) = (I8 106 (ma 0) : Int32) from rfl]; exact hEX) (by rw [(u_bad (c := tc) (n := tn) (s := (tS tc tn (pI S 107 (ma 0)).toNatClampNeg)) (by omega) (lB_f (by omega)) (dB_f (by omega)) (by omega) (by first | (left; omega) | (right; exact dB_f (by omega)))).1, show (up2 (up2 I8 107 (ma 0) v73_78) 108 (ma 0) 4) 107 (ma 0) = (v73_78 : Int32) from (show up2 I8 107 (ma 0) v73_78 107 (ma 0) = v73_78 from up2_s)]; omega) (by rw [(u_bad (c := tc) (n := tn) (s := (tS tc tn (pI S 107 (ma 0)).toNatClampNeg)) (by omega) (lB_f (by omega)) (dB_f (by omega)) (by omega) (by first | (left; omega) | (right; exact dB_f (by omega)))).2, show (up2 (up2 I8 107 (ma 0) v73_78) 108 (ma 0) 4) 108 (ma 0) = (4 : Int32) from (show up2 (up2 I8 107 (ma 0) v73_78) 108 (ma 0) 4 108 (ma 0) = 4 from up2_s)]; decide) (nt3 (u_bad (c := tc) (n := tn) (s := (tS tc tn (pI S 107 (ma 0)).toNatClampNeg)) (by omega) (lB_f (by omega)) (dB_f (by omega)) (by omega) (by first | (left; omega) | (right; exact dB_f (by omega)))).2 (by decide)) (nt2 (u_bad (c := tc) (n := tn) (s := (tS tc tn (pI S 107 (ma 0)).toNatClampNeg)) (by omega) (lB_f (by omega)) (dB_f (by omega)) (by omega) (by first | (left; omega) | (right; exact dB_f (by omega)))).2 (by decide)))
                      exact hret _ _ _ _ _ ⟨_, _, rfl, (FrN.up (f := 108) (by decide) (FrN.up (f := 107) (by decide) hF)), HFIN⟩ hw dX11_next_287
                  · have D235_120 := iEq c235_120 rfl t_45
                    refine lv_aload_n hx hb dX11_next_238 rfl (lv_at hl 1 rfl) ?_
                    refine lv_aload_n hx hb dX11_next_239 rfl (lv_at hl 1 rfl) ?_
                    refine gf_X11_20 (v := I8 106 (ma 0)) X hw hM.1 rfl dX11_next_240 ?_
                    refine lv_iconst (v := 1) hx hb dX11_next_243 (by decide) ?_
                    refine lv_iadd hx hb dX11_next_244 ?_
                    refine lv_topi (fun v244_122 e244_122 => ?_)
                    have t244_122 := iAdd e244_122 rfl t_1 (by omega) (by omega)
                    have t244 := t244_122
                    refine k_Vi (n := 1) X hw (rcvk (ci := 11) X hw hM.1 (fun _ _ _ _ _ _ _ => ⟨_, rfl⟩) rfl) (c_v_X11_sign l G _ ma tc tn v244_122 hM htc (FrN.n (FrN.up (f := 107) (by decide) hF) hn) hz (by omega)) wd_r20_21 wd_r20_22 wd_r20_23 wd_r1_5 wd_r21_0 ⟨by decide, by decide, by decide +kernel⟩ rfl rfl ⟨Nat.le_of_ble_eq_true rfl, Nat.le_of_ble_eq_true rfl⟩ rfl rfl hl.1 (Nat.le_of_ble_eq_true rfl) dX11_next_245 ⟨Nat.le_of_ble_eq_true rfl, Nat.le_of_ble_eq_true rfl⟩ (fun r245_123 S245_125 H locs h245_124 hw => ?_)
                    obtain ⟨rfl, h245_124⟩ := h245_124
                    have hc245 : r245_123 = tc ((tS tc tn (pI S 107 (ma 0)).toNatClampNeg) + 1) := by have e9 : (v244_122).toNatClampNeg = (tS tc tn (pI S 107 (ma 0)).toNatClampNeg) + 1 := (by have := cl_toInt (x := v244_122) (by omega); omega); rw [← e9]; exact h245_124
                    have hc245t := congrArg Int32.toInt hc245
                    refine k_Si (n := 1) X hw (c_X11_isDigit l G _ r245_123) wd_r21_4 wd_r21_5 wd_r1_5 wd_r21_6 ⟨by decide, by decide, by decide +kernel⟩ rfl rfl ⟨Nat.le_of_ble_eq_true rfl, Nat.le_of_ble_eq_true rfl⟩ rfl rfl hl.1 (Nat.le_of_ble_eq_true rfl) dX11_next_248 ⟨Nat.le_of_ble_eq_true rfl, Nat.le_of_ble_eq_true rfl⟩ (fun r248_126 S248_128 H locs h248_127 hw => ?_)
                    rcases h248_127 with ⟨rfl, rfl, h248_127⟩ | ⟨rfl, rfl, h248_127⟩
                    · have h248_127 := h248_127
                      refine lv_if_eq (tgt := 272) hx hb dX11_next_251 (by decide) (fun c251_129 => absurd c251_129 (by decide)) (fun c251_129 => ?_)
                      have HDD : dB (tc (tF tc (tS tc tn (pI S 107 (ma 0)).toNatClampNeg))) = true := by unfold tF; first | (rw [if_neg (by omega)]; exact dB_i.mpr (by omega)) | (rw [if_pos (by omega)]; exact dB_i.mpr (by omega))
                      refine lv_aload_n hx hb dX11_next_254 rfl (lv_at hl 1 rfl) ?_
                      refine lv_iload_n hx hb dX11_next_255 rfl (lv_at hl 0 rfl) ?_
                      refine lv_bipush (v := 45) hx hb dX11_next_256 (by decide) ?_
                      refine lv_icmp_ne (tgt := 265) hx hb dX11_next_258 (by decide) (fun c258_130 => ?_) (fun c258_130 => ?_)
                      · have D258_130 := iNe c258_130 rfl t_45
                        refine lv_iconst (v := 0) hx hb dX11_next_265 (by decide) ?_
                        refine k_Vv (n := 1) X hw (rcvk (ci := 11) X hw hM.1 (fun _ _ _ _ _ _ _ => ⟨_, rfl⟩) rfl) (c_v_X11_readNumber l G _ ma tc tn 0 hM htc (FrN.n (FrN.up (f := 107) (by decide) hF) hn) hz (show 0 ≤ (I8 106 (ma 0) : Int32).toInt ∧ (I8 106 (ma 0) : Int32).toInt < (tn : Int) by omega) (show (((0) : Int32).toInt ≠ 0 ∧ (tc ((I8 106 (ma 0) : Int32)).toNatClampNeg).toInt = 45) ∨ (((0) : Int32).toInt = 0 ∧ (tc ((I8 106 (ma 0) : Int32)).toNatClampNeg).toInt ≠ 45) by rw [← hB1, hB2]; have := t_0; have := t_1; omega) (show dB (tc (tF tc ((I8 106 (ma 0) : Int32)).toNatClampNeg)) = true by rw [← hB1, hB2]; exact HDD)) wd_r21_7 wd_r21_8 wd_r21_9 wd_r1_5 wd_r21_10 ⟨by decide, by decide, by decide +kernel⟩ rfl rfl ⟨Nat.le_of_ble_eq_true rfl, Nat.le_of_ble_eq_true rfl⟩ rfl rfl hl.1 (Nat.le_of_ble_eq_true rfl) dX11_next_266 ⟨Nat.le_of_ble_eq_true rfl, Nat.le_of_ble_eq_true rfl⟩ (fun S266_132 H locs h266_131 hw => ?_)
                        have := t_0
                        obtain ⟨I266_133, rfl, h266_131⟩ := h266_131
                        have hw : PX G A s.heap (ch S I266_133 (pJ S) (qI S) (qJ S)) H locs := hw
                        have hND : (I266_133 107 (ma 0)).toInt = (uE tc tn B1.toNatClampNeg : Nat) ∧ (I266_133 108 (ma 0)).toInt = mKd (uK tc tn B1.toNatClampNeg) ∧ (uK tc tn B1.toNatClampNeg = 3 → I266_133 109 (ma 0) = uV tc tn B1.toNatClampNeg) := by rw [hB1]; exact h266_131.2
                        rw [hB2] at hND
                        have h106n : (I266_133 106 (ma 0)).toInt = ((tS tc tn (pI S 107 (ma 0)).toNatClampNeg) : Nat) := by rw [h266_131.1 106 (by decide)]; exact hEX
                        have HK3 : uK tc tn (tS tc tn (pI S 107 (ma 0)).toNatClampNeg) ≠ 2 := by rw [(u_num (c := tc) (n := tn) (s := (tS tc tn (pI S 107 (ma 0)).toNatClampNeg)) (by omega) (mnm HDD).1 (mnm HDD).2).2]; split <;> decide
                        have HFIN : mTok I266_133 (pJ S) (ma 0) tc tn (pI S 107 (ma 0)).toNatClampNeg := mt_fin (s := (tS tc tn (pI S 107 (ma 0)).toNatClampNeg)) rfl h106n hND.1 hND.2.1 hND.2.2 (fun q => absurd q HK3)
                        refine lv_goto (tgt := 287) hx hb dX11_next_269 (by decide) ?_
                        have HFIN : mTok I266_133 (pJ S) (ma 0) tc tn (pI S 107 (ma 0)).toNatClampNeg := by first | exact HFIN | exact (mt_fin (s := (tS tc tn (pI S 107 (ma 0)).toNatClampNeg)) rfl (by rw [show I266_133 106 (ma 0) = (I266_133 106 (ma 0) : Int32) from rfl]; exact hEX) (by rw [(u_sem (c := tc) (n := tn) (s := (tS tc tn (pI S 107 (ma 0)).toNatClampNeg)) (by omega) (by omega)).1, show I266_133 107 (ma 0) = (I266_133 107 (ma 0) : Int32) from rfl]; omega) (by rw [(u_sem (c := tc) (n := tn) (s := (tS tc tn (pI S 107 (ma 0)).toNatClampNeg)) (by omega) (by omega)).2, show I266_133 108 (ma 0) = (I266_133 108 (ma 0) : Int32) from rfl]; decide) (nt3 (u_sem (c := tc) (n := tn) (s := (tS tc tn (pI S 107 (ma 0)).toNatClampNeg)) (by omega) (by omega)).2 (by decide)) (nt2 (u_sem (c := tc) (n := tn) (s := (tS tc tn (pI S 107 (ma 0)).toNatClampNeg)) (by omega) (by omega)).2 (by decide))) | exact (mt_fin (s := (tS tc tn (pI S 107 (ma 0)).toNatClampNeg)) rfl (by rw [show I266_133 106 (ma 0) = (I266_133 106 (ma 0) : Int32) from rfl]; exact hEX) (by rw [(u_bad (c := tc) (n := tn) (s := (tS tc tn (pI S 107 (ma 0)).toNatClampNeg)) (by omega) (lB_f (by omega)) (dB_f (by omega)) (by omega) (by first | (left; omega) | (right; exact dB_f (by omega)))).1, show I266_133 107 (ma 0) = (I266_133 107 (ma 0) : Int32) from rfl]; omega) (by rw [(u_bad (c := tc) (n := tn) (s := (tS tc tn (pI S 107 (ma 0)).toNatClampNeg)) (by omega) (lB_f (by omega)) (dB_f (by omega)) (by omega) (by first | (left; omega) | (right; exact dB_f (by omega)))).2, show I266_133 108 (ma 0) = (I266_133 108 (ma 0) : Int32) from rfl]; decide) (nt3 (u_bad (c := tc) (n := tn) (s := (tS tc tn (pI S 107 (ma 0)).toNatClampNeg)) (by omega) (lB_f (by omega)) (dB_f (by omega)) (by omega) (by first | (left; omega) | (right; exact dB_f (by omega)))).2 (by decide)) (nt2 (u_bad (c := tc) (n := tn) (s := (tS tc tn (pI S 107 (ma 0)).toNatClampNeg)) (by omega) (lB_f (by omega)) (dB_f (by omega)) (by omega) (by first | (left; omega) | (right; exact dB_f (by omega)))).2 (by decide)))
                        exact hret _ _ _ _ _ ⟨_, _, rfl, (FrN.tr (FrN.up (f := 107) (by decide) hF) (h266_131.1.n2)), HFIN⟩ hw dX11_next_287
                      · have D258_130 := iEq c258_130 rfl t_45
                        refine lv_iconst (v := 1) hx hb dX11_next_261 (by decide) ?_
                        refine lv_goto (tgt := 266) hx hb dX11_next_262 (by decide) ?_
                        refine k_Vv (n := 1) X hw (rcvk (ci := 11) X hw hM.1 (fun _ _ _ _ _ _ _ => ⟨_, rfl⟩) rfl) (c_v_X11_readNumber l G _ ma tc tn 1 hM htc (FrN.n (FrN.up (f := 107) (by decide) hF) hn) hz (show 0 ≤ (I8 106 (ma 0) : Int32).toInt ∧ (I8 106 (ma 0) : Int32).toInt < (tn : Int) by omega) (show (((1) : Int32).toInt ≠ 0 ∧ (tc ((I8 106 (ma 0) : Int32)).toNatClampNeg).toInt = 45) ∨ (((1) : Int32).toInt = 0 ∧ (tc ((I8 106 (ma 0) : Int32)).toNatClampNeg).toInt ≠ 45) by rw [← hB1, hB2]; have := t_0; have := t_1; omega) (show dB (tc (tF tc ((I8 106 (ma 0) : Int32)).toNatClampNeg)) = true by rw [← hB1, hB2]; exact HDD)) wd_r21_7 wd_r21_8 wd_r21_9 wd_r1_5 wd_r21_10 ⟨by decide, by decide, by decide +kernel⟩ rfl rfl ⟨Nat.le_of_ble_eq_true rfl, Nat.le_of_ble_eq_true rfl⟩ rfl rfl hl.1 (Nat.le_of_ble_eq_true rfl) dX11_next_266 ⟨Nat.le_of_ble_eq_true rfl, Nat.le_of_ble_eq_true rfl⟩ (fun S266_135 H locs h266_134 hw => ?_)
                        have := t_1
                        obtain ⟨I266_136, rfl, h266_134⟩ := h266_134
                        have hw : PX G A s.heap (ch S I266_136 (pJ S) (qI S) (qJ S)) H locs := hw
                        have hND : (I266_136 107 (ma 0)).toInt = (uE tc tn B1.toNatClampNeg : Nat) ∧ (I266_136 108 (ma 0)).toInt = mKd (uK tc tn B1.toNatClampNeg) ∧ (uK tc tn B1.toNatClampNeg = 3 → I266_136 109 (ma 0) = uV tc tn B1.toNatClampNeg) := by rw [hB1]; exact h266_134.2
                        rw [hB2] at hND
                        have h106n : (I266_136 106 (ma 0)).toInt = ((tS tc tn (pI S 107 (ma 0)).toNatClampNeg) : Nat) := by rw [h266_134.1 106 (by decide)]; exact hEX
                        have HK3 : uK tc tn (tS tc tn (pI S 107 (ma 0)).toNatClampNeg) ≠ 2 := by rw [(u_num (c := tc) (n := tn) (s := (tS tc tn (pI S 107 (ma 0)).toNatClampNeg)) (by omega) (mnm HDD).1 (mnm HDD).2).2]; split <;> decide
                        have HFIN : mTok I266_136 (pJ S) (ma 0) tc tn (pI S 107 (ma 0)).toNatClampNeg := mt_fin (s := (tS tc tn (pI S 107 (ma 0)).toNatClampNeg)) rfl h106n hND.1 hND.2.1 hND.2.2 (fun q => absurd q HK3)
                        refine lv_goto (tgt := 287) hx hb dX11_next_269 (by decide) ?_
                        have HFIN : mTok I266_136 (pJ S) (ma 0) tc tn (pI S 107 (ma 0)).toNatClampNeg := by first | exact HFIN | exact (mt_fin (s := (tS tc tn (pI S 107 (ma 0)).toNatClampNeg)) rfl (by rw [show I266_136 106 (ma 0) = (I266_136 106 (ma 0) : Int32) from rfl]; exact hEX) (by rw [(u_sem (c := tc) (n := tn) (s := (tS tc tn (pI S 107 (ma 0)).toNatClampNeg)) (by omega) (by omega)).1, show I266_136 107 (ma 0) = (I266_136 107 (ma 0) : Int32) from rfl]; omega) (by rw [(u_sem (c := tc) (n := tn) (s := (tS tc tn (pI S 107 (ma 0)).toNatClampNeg)) (by omega) (by omega)).2, show I266_136 108 (ma 0) = (I266_136 108 (ma 0) : Int32) from rfl]; decide) (nt3 (u_sem (c := tc) (n := tn) (s := (tS tc tn (pI S 107 (ma 0)).toNatClampNeg)) (by omega) (by omega)).2 (by decide)) (nt2 (u_sem (c := tc) (n := tn) (s := (tS tc tn (pI S 107 (ma 0)).toNatClampNeg)) (by omega) (by omega)).2 (by decide))) | exact (mt_fin (s := (tS tc tn (pI S 107 (ma 0)).toNatClampNeg)) rfl (by rw [show I266_136 106 (ma 0) = (I266_136 106 (ma 0) : Int32) from rfl]; exact hEX) (by rw [(u_bad (c := tc) (n := tn) (s := (tS tc tn (pI S 107 (ma 0)).toNatClampNeg)) (by omega) (lB_f (by omega)) (dB_f (by omega)) (by omega) (by first | (left; omega) | (right; exact dB_f (by omega)))).1, show I266_136 107 (ma 0) = (I266_136 107 (ma 0) : Int32) from rfl]; omega) (by rw [(u_bad (c := tc) (n := tn) (s := (tS tc tn (pI S 107 (ma 0)).toNatClampNeg)) (by omega) (lB_f (by omega)) (dB_f (by omega)) (by omega) (by first | (left; omega) | (right; exact dB_f (by omega)))).2, show I266_136 108 (ma 0) = (I266_136 108 (ma 0) : Int32) from rfl]; decide) (nt3 (u_bad (c := tc) (n := tn) (s := (tS tc tn (pI S 107 (ma 0)).toNatClampNeg)) (by omega) (lB_f (by omega)) (dB_f (by omega)) (by omega) (by first | (left; omega) | (right; exact dB_f (by omega)))).2 (by decide)) (nt2 (u_bad (c := tc) (n := tn) (s := (tS tc tn (pI S 107 (ma 0)).toNatClampNeg)) (by omega) (lB_f (by omega)) (dB_f (by omega)) (by omega) (by first | (left; omega) | (right; exact dB_f (by omega)))).2 (by decide)))
                        exact hret _ _ _ _ _ ⟨_, _, rfl, (FrN.tr (FrN.up (f := 107) (by decide) hF) (h266_134.1.n2)), HFIN⟩ hw dX11_next_287
                    · have h248_127 := h248_127
                      refine lv_if_eq (tgt := 272) hx hb dX11_next_251 (by decide) (fun c251_137 => ?_) (fun c251_137 => absurd c251_137 (by decide))
                      refine lv_aload_n hx hb dX11_next_272 rfl (lv_at hl 1 rfl) ?_
                      refine lv_iload_n hx hb dX11_next_273 rfl (lv_at hl 0 rfl) ?_
                      refine lv_bipush (v := 59) hx hb dX11_next_274 (by decide) ?_
                      refine lv_icmp_ne (tgt := 283) hx hb dX11_next_276 (by decide) (fun c276_138 => ?_) (fun c276_138 => ?_)
                      · have D276_138 := iNe c276_138 rfl t_59
                        refine lv_iconst (v := 1) hx hb dX11_next_283 (by decide) ?_
                        refine pf_X11_27 X hw hM.1 dX11_next_284 (fun H locs hw => ?_)
                        have hw : PX G A s.heap (ch S (up2 (up2 I8 107 (ma 0) v73_78) 108 (ma 0) 1) (pJ S) (qI S) (qJ S)) H locs := hw
                        have HFIN : mTok (up2 (up2 I8 107 (ma 0) v73_78) 108 (ma 0) 1) (pJ S) (ma 0) tc tn (pI S 107 (ma 0)).toNatClampNeg := by first | exact HFIN | exact (mt_fin (s := (tS tc tn (pI S 107 (ma 0)).toNatClampNeg)) rfl (by rw [show (up2 (up2 I8 107 (ma 0) v73_78) 108 (ma 0) 1) 106 (ma 0) = (I8 106 (ma 0) : Int32) from rfl]; exact hEX) (by rw [(u_sem (c := tc) (n := tn) (s := (tS tc tn (pI S 107 (ma 0)).toNatClampNeg)) (by omega) (by omega)).1, show (up2 (up2 I8 107 (ma 0) v73_78) 108 (ma 0) 1) 107 (ma 0) = (v73_78 : Int32) from (show up2 I8 107 (ma 0) v73_78 107 (ma 0) = v73_78 from up2_s)]; omega) (by rw [(u_sem (c := tc) (n := tn) (s := (tS tc tn (pI S 107 (ma 0)).toNatClampNeg)) (by omega) (by omega)).2, show (up2 (up2 I8 107 (ma 0) v73_78) 108 (ma 0) 1) 108 (ma 0) = (1 : Int32) from (show up2 (up2 I8 107 (ma 0) v73_78) 108 (ma 0) 1 108 (ma 0) = 1 from up2_s)]; decide) (nt3 (u_sem (c := tc) (n := tn) (s := (tS tc tn (pI S 107 (ma 0)).toNatClampNeg)) (by omega) (by omega)).2 (by decide)) (nt2 (u_sem (c := tc) (n := tn) (s := (tS tc tn (pI S 107 (ma 0)).toNatClampNeg)) (by omega) (by omega)).2 (by decide))) | exact (mt_fin (s := (tS tc tn (pI S 107 (ma 0)).toNatClampNeg)) rfl (by rw [show (up2 (up2 I8 107 (ma 0) v73_78) 108 (ma 0) 1) 106 (ma 0) = (I8 106 (ma 0) : Int32) from rfl]; exact hEX) (by rw [(u_bad (c := tc) (n := tn) (s := (tS tc tn (pI S 107 (ma 0)).toNatClampNeg)) (by omega) (lB_f (by omega)) (dB_f (by omega)) (by omega) (by first | (left; omega) | (right; exact dB_f (by omega)))).1, show (up2 (up2 I8 107 (ma 0) v73_78) 108 (ma 0) 1) 107 (ma 0) = (v73_78 : Int32) from (show up2 I8 107 (ma 0) v73_78 107 (ma 0) = v73_78 from up2_s)]; omega) (by rw [(u_bad (c := tc) (n := tn) (s := (tS tc tn (pI S 107 (ma 0)).toNatClampNeg)) (by omega) (lB_f (by omega)) (dB_f (by omega)) (by omega) (by first | (left; omega) | (right; exact dB_f (by omega)))).2, show (up2 (up2 I8 107 (ma 0) v73_78) 108 (ma 0) 1) 108 (ma 0) = (1 : Int32) from (show up2 (up2 I8 107 (ma 0) v73_78) 108 (ma 0) 1 108 (ma 0) = 1 from up2_s)]; decide) (nt3 (u_bad (c := tc) (n := tn) (s := (tS tc tn (pI S 107 (ma 0)).toNatClampNeg)) (by omega) (lB_f (by omega)) (dB_f (by omega)) (by omega) (by first | (left; omega) | (right; exact dB_f (by omega)))).2 (by decide)) (nt2 (u_bad (c := tc) (n := tn) (s := (tS tc tn (pI S 107 (ma 0)).toNatClampNeg)) (by omega) (lB_f (by omega)) (dB_f (by omega)) (by omega) (by first | (left; omega) | (right; exact dB_f (by omega)))).2 (by decide)))
                        exact hret _ _ _ _ _ ⟨_, _, rfl, (FrN.up (f := 108) (by decide) (FrN.up (f := 107) (by decide) hF)), HFIN⟩ hw dX11_next_287
                      · have D276_138 := iEq c276_138 rfl t_59
                        refine lv_iconst (v := 4) hx hb dX11_next_279 (by decide) ?_
                        refine lv_goto (tgt := 284) hx hb dX11_next_280 (by decide) ?_
                        refine pf_X11_27 X hw hM.1 dX11_next_284 (fun H locs hw => ?_)
                        have hw : PX G A s.heap (ch S (up2 (up2 I8 107 (ma 0) v73_78) 108 (ma 0) 4) (pJ S) (qI S) (qJ S)) H locs := hw
                        have HFIN : mTok (up2 (up2 I8 107 (ma 0) v73_78) 108 (ma 0) 4) (pJ S) (ma 0) tc tn (pI S 107 (ma 0)).toNatClampNeg := by first | exact HFIN | exact (mt_fin (s := (tS tc tn (pI S 107 (ma 0)).toNatClampNeg)) rfl (by rw [show (up2 (up2 I8 107 (ma 0) v73_78) 108 (ma 0) 4) 106 (ma 0) = (I8 106 (ma 0) : Int32) from rfl]; exact hEX) (by rw [(u_sem (c := tc) (n := tn) (s := (tS tc tn (pI S 107 (ma 0)).toNatClampNeg)) (by omega) (by omega)).1, show (up2 (up2 I8 107 (ma 0) v73_78) 108 (ma 0) 4) 107 (ma 0) = (v73_78 : Int32) from (show up2 I8 107 (ma 0) v73_78 107 (ma 0) = v73_78 from up2_s)]; omega) (by rw [(u_sem (c := tc) (n := tn) (s := (tS tc tn (pI S 107 (ma 0)).toNatClampNeg)) (by omega) (by omega)).2, show (up2 (up2 I8 107 (ma 0) v73_78) 108 (ma 0) 4) 108 (ma 0) = (4 : Int32) from (show up2 (up2 I8 107 (ma 0) v73_78) 108 (ma 0) 4 108 (ma 0) = 4 from up2_s)]; decide) (nt3 (u_sem (c := tc) (n := tn) (s := (tS tc tn (pI S 107 (ma 0)).toNatClampNeg)) (by omega) (by omega)).2 (by decide)) (nt2 (u_sem (c := tc) (n := tn) (s := (tS tc tn (pI S 107 (ma 0)).toNatClampNeg)) (by omega) (by omega)).2 (by decide))) | exact (mt_fin (s := (tS tc tn (pI S 107 (ma 0)).toNatClampNeg)) rfl (by rw [show (up2 (up2 I8 107 (ma 0) v73_78) 108 (ma 0) 4) 106 (ma 0) = (I8 106 (ma 0) : Int32) from rfl]; exact hEX) (by rw [(u_bad (c := tc) (n := tn) (s := (tS tc tn (pI S 107 (ma 0)).toNatClampNeg)) (by omega) (lB_f (by omega)) (dB_f (by omega)) (by omega) (by first | (left; omega) | (right; exact dB_f (by omega)))).1, show (up2 (up2 I8 107 (ma 0) v73_78) 108 (ma 0) 4) 107 (ma 0) = (v73_78 : Int32) from (show up2 I8 107 (ma 0) v73_78 107 (ma 0) = v73_78 from up2_s)]; omega) (by rw [(u_bad (c := tc) (n := tn) (s := (tS tc tn (pI S 107 (ma 0)).toNatClampNeg)) (by omega) (lB_f (by omega)) (dB_f (by omega)) (by omega) (by first | (left; omega) | (right; exact dB_f (by omega)))).2, show (up2 (up2 I8 107 (ma 0) v73_78) 108 (ma 0) 4) 108 (ma 0) = (4 : Int32) from (show up2 (up2 I8 107 (ma 0) v73_78) 108 (ma 0) 4 108 (ma 0) = 4 from up2_s)]; decide) (nt3 (u_bad (c := tc) (n := tn) (s := (tS tc tn (pI S 107 (ma 0)).toNatClampNeg)) (by omega) (lB_f (by omega)) (dB_f (by omega)) (by omega) (by first | (left; omega) | (right; exact dB_f (by omega)))).2 (by decide)) (nt2 (u_bad (c := tc) (n := tn) (s := (tS tc tn (pI S 107 (ma 0)).toNatClampNeg)) (by omega) (lB_f (by omega)) (dB_f (by omega)) (by omega) (by first | (left; omega) | (right; exact dB_f (by omega)))).2 (by decide)))
                        exact hret _ _ _ _ _ ⟨_, _, rfl, (FrN.up (f := 108) (by decide) (FrN.up (f := 107) (by decide) hF)), HFIN⟩ hw dX11_next_287
            · have D85_79 := iNlt c85_79 rfl rfl
              refine lv_aload_n hx hb dX11_next_88 rfl (lv_at hl 1 rfl) ?_
              refine lv_iconst (v := 0) hx hb dX11_next_89 (by decide) ?_
              refine pf_X11_27 X hw hM.1 dX11_next_90 (fun H locs hw => ?_)
              have hw : PX G A s.heap (ch S (up2 (up2 I8 107 (ma 0) v73_78) 108 (ma 0) 0) (pJ S) (qI S) (qJ S)) H locs := hw
              refine lv_aload_n hx hb dX11_next_93 rfl (lv_at hl 1 rfl) ?_
              refine lv_aload_n hx hb dX11_next_94 rfl (lv_at hl 1 rfl) ?_
              refine gf_X11_1 (v := I8 103 (ma 0)) X hw hM.1 rfl dX11_next_95 ?_
              refine pf_X11_20 X hw hM.1 dX11_next_98 (fun H locs hw => ?_)
              have hw : PX G A s.heap (ch S (up2 (up2 (up2 I8 107 (ma 0) v73_78) 108 (ma 0) 0) 106 (ma 0) (I8 103 (ma 0))) (pJ S) (qI S) (qJ S)) H locs := hw
              refine lv_aload_n hx hb dX11_next_101 rfl (lv_at hl 1 rfl) ?_
              refine lv_aload_n hx hb dX11_next_102 rfl (lv_at hl 1 rfl) ?_
              refine gf_X11_1 (v := I8 103 (ma 0)) X hw hM.1 rfl dX11_next_103 ?_
              refine pf_X11_17 X hw hM.1 dX11_next_106 (fun H locs hw => ?_)
              have hw : PX G A s.heap (ch S (up2 (up2 (up2 (up2 I8 107 (ma 0) v73_78) 108 (ma 0) 0) 106 (ma 0) (I8 103 (ma 0))) 107 (ma 0) (I8 103 (ma 0))) (pJ S) (qI S) (qJ S)) H locs := hw
              have hU := u_end (c := tc) (n := tn) (s := (tS tc tn (pI S 107 (ma 0)).toNatClampNeg)) (by omega)
              have HFIN : mTok (up2 (up2 (up2 (up2 I8 107 (ma 0) v73_78) 108 (ma 0) 0) 106 (ma 0) (I8 103 (ma 0))) 107 (ma 0) (I8 103 (ma 0))) (pJ S) (ma 0) tc tn (pI S 107 (ma 0)).toNatClampNeg := mt_fin (s := (tS tc tn (pI S 107 (ma 0)).toNatClampNeg)) rfl (by rw [show (up2 (up2 (up2 (up2 I8 107 (ma 0) v73_78) 108 (ma 0) 0) 106 (ma 0) (I8 103 (ma 0))) 107 (ma 0) (I8 103 (ma 0))) 106 (ma 0) = (I8 103 (ma 0) : Int32) from (show up2 (up2 (up2 I8 107 (ma 0) v73_78) 108 (ma 0) 0) 106 (ma 0) (I8 103 (ma 0)) 106 (ma 0) = (I8 103 (ma 0)) from up2_s)]; omega) (by rw [hU.1, show (up2 (up2 (up2 (up2 I8 107 (ma 0) v73_78) 108 (ma 0) 0) 106 (ma 0) (I8 103 (ma 0))) 107 (ma 0) (I8 103 (ma 0))) 107 (ma 0) = (I8 103 (ma 0) : Int32) from (show up2 (up2 (up2 (up2 I8 107 (ma 0) v73_78) 108 (ma 0) 0) 106 (ma 0) (I8 103 (ma 0))) 107 (ma 0) (I8 103 (ma 0)) 107 (ma 0) = (I8 103 (ma 0)) from up2_s)]; omega) (by rw [hU.2, show (up2 (up2 (up2 (up2 I8 107 (ma 0) v73_78) 108 (ma 0) 0) 106 (ma 0) (I8 103 (ma 0))) 107 (ma 0) (I8 103 (ma 0))) 108 (ma 0) = (0 : Int32) from (show up2 (up2 I8 107 (ma 0) v73_78) 108 (ma 0) 0 108 (ma 0) = 0 from up2_s)]; decide) (nt3 hU.2 (by decide)) (nt2 hU.2 (by decide))
              refine lv_goto (tgt := 287) hx hb dX11_next_109 (by decide) ?_
              have HFIN : mTok (up2 (up2 (up2 (up2 I8 107 (ma 0) v73_78) 108 (ma 0) 0) 106 (ma 0) (I8 103 (ma 0))) 107 (ma 0) (I8 103 (ma 0))) (pJ S) (ma 0) tc tn (pI S 107 (ma 0)).toNatClampNeg := by first | exact HFIN | exact (mt_fin (s := (tS tc tn (pI S 107 (ma 0)).toNatClampNeg)) rfl (by rw [show (up2 (up2 (up2 (up2 I8 107 (ma 0) v73_78) 108 (ma 0) 0) 106 (ma 0) (I8 103 (ma 0))) 107 (ma 0) (I8 103 (ma 0))) 106 (ma 0) = (I8 103 (ma 0) : Int32) from (show up2 (up2 (up2 I8 107 (ma 0) v73_78) 108 (ma 0) 0) 106 (ma 0) (I8 103 (ma 0)) 106 (ma 0) = (I8 103 (ma 0)) from up2_s)]; exact hEX) (by rw [(u_sem (c := tc) (n := tn) (s := (tS tc tn (pI S 107 (ma 0)).toNatClampNeg)) (by omega) (by omega)).1, show (up2 (up2 (up2 (up2 I8 107 (ma 0) v73_78) 108 (ma 0) 0) 106 (ma 0) (I8 103 (ma 0))) 107 (ma 0) (I8 103 (ma 0))) 107 (ma 0) = (I8 103 (ma 0) : Int32) from (show up2 (up2 (up2 (up2 I8 107 (ma 0) v73_78) 108 (ma 0) 0) 106 (ma 0) (I8 103 (ma 0))) 107 (ma 0) (I8 103 (ma 0)) 107 (ma 0) = (I8 103 (ma 0)) from up2_s)]; omega) (by rw [(u_sem (c := tc) (n := tn) (s := (tS tc tn (pI S 107 (ma 0)).toNatClampNeg)) (by omega) (by omega)).2, show (up2 (up2 (up2 (up2 I8 107 (ma 0) v73_78) 108 (ma 0) 0) 106 (ma 0) (I8 103 (ma 0))) 107 (ma 0) (I8 103 (ma 0))) 108 (ma 0) = (0 : Int32) from (show up2 (up2 I8 107 (ma 0) v73_78) 108 (ma 0) 0 108 (ma 0) = 0 from up2_s)]; decide) (nt3 (u_sem (c := tc) (n := tn) (s := (tS tc tn (pI S 107 (ma 0)).toNatClampNeg)) (by omega) (by omega)).2 (by decide)) (nt2 (u_sem (c := tc) (n := tn) (s := (tS tc tn (pI S 107 (ma 0)).toNatClampNeg)) (by omega) (by omega)).2 (by decide))) | exact (mt_fin (s := (tS tc tn (pI S 107 (ma 0)).toNatClampNeg)) rfl (by rw [show (up2 (up2 (up2 (up2 I8 107 (ma 0) v73_78) 108 (ma 0) 0) 106 (ma 0) (I8 103 (ma 0))) 107 (ma 0) (I8 103 (ma 0))) 106 (ma 0) = (I8 103 (ma 0) : Int32) from (show up2 (up2 (up2 I8 107 (ma 0) v73_78) 108 (ma 0) 0) 106 (ma 0) (I8 103 (ma 0)) 106 (ma 0) = (I8 103 (ma 0)) from up2_s)]; exact hEX) (by rw [(u_bad (c := tc) (n := tn) (s := (tS tc tn (pI S 107 (ma 0)).toNatClampNeg)) (by omega) (lB_f (by omega)) (dB_f (by omega)) (by omega) (by first | (left; omega) | (right; exact dB_f (by omega)))).1, show (up2 (up2 (up2 (up2 I8 107 (ma 0) v73_78) 108 (ma 0) 0) 106 (ma 0) (I8 103 (ma 0))) 107 (ma 0) (I8 103 (ma 0))) 107 (ma 0) = (I8 103 (ma 0) : Int32) from (show up2 (up2 (up2 (up2 I8 107 (ma 0) v73_78) 108 (ma 0) 0) 106 (ma 0) (I8 103 (ma 0))) 107 (ma 0) (I8 103 (ma 0)) 107 (ma 0) = (I8 103 (ma 0)) from up2_s)]; omega) (by rw [(u_bad (c := tc) (n := tn) (s := (tS tc tn (pI S 107 (ma 0)).toNatClampNeg)) (by omega) (lB_f (by omega)) (dB_f (by omega)) (by omega) (by first | (left; omega) | (right; exact dB_f (by omega)))).2, show (up2 (up2 (up2 (up2 I8 107 (ma 0) v73_78) 108 (ma 0) 0) 106 (ma 0) (I8 103 (ma 0))) 107 (ma 0) (I8 103 (ma 0))) 108 (ma 0) = (0 : Int32) from (show up2 (up2 I8 107 (ma 0) v73_78) 108 (ma 0) 0 108 (ma 0) = 0 from up2_s)]; decide) (nt3 (u_bad (c := tc) (n := tn) (s := (tS tc tn (pI S 107 (ma 0)).toNatClampNeg)) (by omega) (lB_f (by omega)) (dB_f (by omega)) (by omega) (by first | (left; omega) | (right; exact dB_f (by omega)))).2 (by decide)) (nt2 (u_bad (c := tc) (n := tn) (s := (tS tc tn (pI S 107 (ma 0)).toNatClampNeg)) (by omega) (lB_f (by omega)) (dB_f (by omega)) (by omega) (by first | (left; omega) | (right; exact dB_f (by omega)))).2 (by decide)))
              exact hret _ _ _ _ _ ⟨_, _, rfl, (FrN.up (f := 107) (by decide) (FrN.up (f := 106) (by decide) (FrN.up (f := 108) (by decide) (FrN.up (f := 107) (by decide) hF)))), HFIN⟩ hw dX11_next_287
          · have D42_74 := iEq c42_74 rfl t_10
            refine lv_aload_n hx hb dX11_next_45 rfl (lv_at hl 0 rfl) ?_
            refine lv_dup hx hb dX11_next_46 rfl ?_
            refine gf_X11_20 (v := I8 106 (ma 0)) X hw hM.1 rfl dX11_next_47 ?_
            refine lv_iconst (v := 1) hx hb dX11_next_50 (by decide) ?_
            refine lv_iadd hx hb dX11_next_51 ?_
            refine lv_topi (fun v51_139 e51_139 => ?_)
            have t51_139 := iAdd e51_139 rfl t_1 (by omega) (by omega)
            have t51 := t51_139
            refine pf_X11_20 X hw hM.1 dX11_next_52 (fun H locs hw => ?_)
            have hw : PX G A s.heap (ch S (up2 I8 106 (ma 0) v51_139) (pJ S) (qI S) (qJ S)) H locs := hw
            refine lv_goto (tgt := 8) hx hb dX11_next_55 (by decide) ?_
            exact ih8 (up2 I8 106 (ma 0) v51_139)  (FrN.up (f := 106) (by decide) hF) (by rw [show (up2 I8 106 (ma 0) v51_139) 106 (ma 0) = (v51_139 : Int32) from (show up2 I8 106 (ma 0) v51_139 106 (ma 0) = v51_139 from up2_s)]; omega) (by rw [show (up2 I8 106 (ma 0) v51_139) 106 (ma 0) = (v51_139 : Int32) from (show up2 I8 106 (ma 0) v51_139 106 (ma 0) = v51_139 from up2_s)]; exact rs_s hT (by omega) (by omega) (bB_i.mpr (by omega)) t51) (by rw [show (up2 I8 106 (ma 0) v51_139) 106 (ma 0) = (v51_139 : Int32) from (show up2 I8 106 (ma 0) v51_139 106 (ma 0) = v51_139 from up2_s)]; omega) _ _ _ hw (lv_sub hl [0] rfl)
  exact lp8 _ (up2 (pI S) 106 (ma 0) ((pI S) 107 (ma 0)))  (FrN.up (f := 106) (by decide) FrN.rf) (by rw [show (up2 (pI S) 106 (ma 0) ((pI S) 107 (ma 0))) 106 (ma 0) = ((pI S) 107 (ma 0) : Int32) from (show up2 (pI S) 106 (ma 0) ((pI S) 107 (ma 0)) 106 (ma 0) = ((pI S) 107 (ma 0)) from up2_s)]; omega) (by rw [show (up2 (pI S) 106 (ma 0) ((pI S) 107 (ma 0))) 106 (ma 0) = ((pI S) 107 (ma 0) : Int32) from (show up2 (pI S) 106 (ma 0) ((pI S) 107 (ma 0)) 106 (ma 0) = ((pI S) 107 (ma 0)) from up2_s)]; rfl) (Nat.lt_succ_self _) _ _ _ hw (lv_sub hl [0] rfl)
set_option maxHeartbeats 4000000 in
set_option maxRecDepth 100000 in
theorem c_v_X11_isWord (l : Launch) (G : Gh) (S : Pl) (ma : Nat → Nat) (w : Int64) (hM : shMod S ma) : MtI l yX11_isWord cX11_isWord 3 (some .boolean) (Rm 0 0 0) G [.ref (ma 0), .long w] S (fun (r : Int32) (S' : Pl) => (S = S' ∧ r = 1 ∧ ((pI S 108 (ma 0)).toInt = 2 ∧ (pJ S 110 (ma 0)).toInt = w.toInt)) ∨ (S = S' ∧ r = 0 ∧ ¬ ((pI S 108 (ma 0)).toInt = 2 ∧ (pJ S 110 (ma 0)).toInt = w.toInt))) 0 0 := by
  refine MtI.of (by decide) (Nat.le_of_ble_eq_true rfl) ?_
  intro p e s m args below meth c Q A X hw hin hret ls hl
  have hx := X.1.1
  have hb := X.1.2.1
  have hl : lv_has ls 3 [(0, .ref (ma 0)), (1, .long w)] := hl
  refine lv_aload_n hx hb dX11_isWord_0 rfl (lv_at hl 0 rfl) ?_
  refine gf_X11_27 (v := (pI S) 108 (ma 0)) X hw hM.1 rfl dX11_isWord_1 ?_
  refine lv_iconst (v := 2) hx hb dX11_isWord_4 (by decide) ?_
  refine lv_icmp_ne (tgt := 21) hx hb dX11_isWord_5 (by decide) (fun c5_1 => ?_) (fun c5_1 => ?_)
  · have D5_1 := iNe c5_1 rfl t_2
    refine lv_iconst (v := 0) hx hb dX11_isWord_21 (by decide) ?_
    exact hret 0 _ _ _ _ _ (Or.inr ⟨rfl, rfl, by omega⟩) hw rfl dX11_isWord_22
  · have D5_1 := iEq c5_1 rfl t_2
    refine lv_aload_n hx hb dX11_isWord_8 rfl (lv_at hl 0 rfl) ?_
    refine gf_X11_34 (v := (pJ S) 110 (ma 0)) X hw hM.1 rfl dX11_isWord_9 ?_
    refine lv_lload_n hx hb dX11_isWord_12 rfl (lv_at hl 1 rfl) ?_
    refine W.lcmp hx hb dX11_isWord_13 ?_
    refine lv_topi (fun v13_2 e13_2 => ?_)
    refine lv_if_ne (tgt := 21) hx hb dX11_isWord_14 (by decide) (fun c14_3 => ?_) (fun c14_3 => ?_)
    · have D14_3 := lc_ne e13_2 c14_3
      refine lv_iconst (v := 0) hx hb dX11_isWord_21 (by decide) ?_
      exact hret 0 _ _ _ _ _ (Or.inr ⟨rfl, rfl, by omega⟩) hw rfl dX11_isWord_22
    · have D14_3 := lcn_ne e13_2 c14_3
      refine lv_iconst (v := 1) hx hb dX11_isWord_17 (by decide) ?_
      refine lv_goto (tgt := 22) hx hb dX11_isWord_18 (by decide) ?_
      exact hret 1 _ _ _ _ _ (Or.inl ⟨rfl, rfl, by omega⟩) hw rfl dX11_isWord_22
set_option maxHeartbeats 4000000 in
set_option maxRecDepth 100000 in
theorem c_v_X11_twice (l : Launch) (G : Gh) (S : Pl) (ma : Nat → Nat) (k : Int32) (hM : shMod S ma) : MtV l yX11_twice cX11_twice 2 none (Rm 1 0 0) G [.ref (ma 0), .int k] S (fun (S' : Pl) => ∃ I', ch S I' (pJ S) (qI S) (qJ S) = S' ∧ FrF (pI S) I' ∧ (((I' 104 (ma 0)).toInt = 0 ∧ ((pI S 104 (ma 0)).toInt = 0 ∧ k.toInt = 0)) ∨ ((I' 104 (ma 0)).toInt ≠ 0 ∧ ¬ ((pI S 104 (ma 0)).toInt = 0 ∧ k.toInt = 0)))) 0 0 := by
  refine MtV.of (by decide) (Nat.le_of_ble_eq_true rfl) ?_
  intro p e s m args below meth c Q A X hw hin hret ls hl
  have hx := X.1.1
  have hb := X.1.2.1
  have hl : lv_has ls 2 [(0, .ref (ma 0)), (1, .int k)] := hl
  refine lv_aload_n hx hb dX11_twice_0 rfl (lv_at hl 0 rfl) ?_
  refine k_Vi (n := 0) X hw (rcvk (ci := 11) X hw hM.1 (fun _ _ _ _ _ _ _ => ⟨_, rfl⟩) rfl) (c_X11_isGood l G _ ma hM) wd_r21_12 wd_r21_13 wd_r21_14 wd_r1_5 wd_r21_15 ⟨by decide, by decide, by decide +kernel⟩ rfl rfl ⟨Nat.le_of_ble_eq_true rfl, Nat.le_of_ble_eq_true rfl⟩ rfl rfl hl.1 (Nat.le_of_ble_eq_true rfl) dX11_twice_1 ⟨Nat.le_of_ble_eq_true rfl, Nat.le_of_ble_eq_true rfl⟩ (fun r1_1 S1_3 H locs h1_2 hw => ?_)
  rcases h1_2 with ⟨rfl, rfl, h1_2⟩ | ⟨rfl, rfl, h1_2⟩
  · have h1_2 : ((pI S) 104 (ma 0) : Int32).toInt = 0 := h1_2
    refine lv_if_eq (tgt := 20) hx hb dX11_twice_4 (by decide) (fun c4_4 => absurd c4_4 (by decide)) (fun c4_4 => ?_)
    refine lv_iload_n hx hb dX11_twice_7 rfl (lv_at hl 1 rfl) ?_
    refine lv_if_eq (tgt := 20) hx hb dX11_twice_8 (by decide) (fun c8_5 => ?_) (fun c8_5 => ?_)
    · have D8_5 := iEq c8_5 rfl t_0
      exact hret _ _ _ _ _ ⟨_, rfl, FrF.rf, by omega⟩ hw dX11_twice_20
    · have D8_5 := iNe c8_5 rfl t_0
      refine lv_aload_n hx hb dX11_twice_11 rfl (lv_at hl 0 rfl) ?_
      refine lv_iconst (v := 4) hx hb dX11_twice_12 (by decide) ?_
      refine lv_aload_n hx hb dX11_twice_13 rfl (lv_at hl 0 rfl) ?_
      refine gf_X11_162 (v := (pI S) 122 (ma 0)) X hw hM.1 rfl dX11_twice_14 ?_
      refine k_Vv (n := 2) X hw (rcvk (ci := 11) X hw hM.1 (fun _ _ _ _ _ _ _ => ⟨_, rfl⟩) rfl) (c_X11_fails l G _ ma 4 ((pI S) 122 (ma 0)) hM (by decide)) wd_r22_9 wd_r22_10 wd_r22_11 wd_r1_5 wd_r22_12 ⟨by decide, by decide, by decide +kernel⟩ rfl rfl ⟨Nat.le_of_ble_eq_true rfl, Nat.le_of_ble_eq_true rfl⟩ rfl rfl hl.1 (Nat.le_of_ble_eq_true rfl) dX11_twice_17 ⟨Nat.le_of_ble_eq_true rfl, Nat.le_of_ble_eq_true rfl⟩ (fun S17_7 H locs h17_6 hw => ?_)
      have := t_4
      obtain ⟨I17_8, rfl, h17_6⟩ := h17_6
      have hw : PX G A s.heap (ch S I17_8 (pJ S) (qI S) (qJ S)) H locs := hw
      have HC := h17_6.2
      exact hret _ _ _ _ _ ⟨_, rfl, (FrF.tr FrF.rf h17_6.1), by omega⟩ hw dX11_twice_20
  · have h1_2 : ¬ (((pI S) 104 (ma 0) : Int32).toInt = 0) := h1_2
    refine lv_if_eq (tgt := 20) hx hb dX11_twice_4 (by decide) (fun c4_9 => ?_) (fun c4_9 => absurd c4_9 (by decide))
    exact hret _ _ _ _ _ ⟨_, rfl, FrF.rf, by omega⟩ hw dX11_twice_20
