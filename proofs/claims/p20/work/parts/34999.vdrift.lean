
set_option maxHeartbeats 4000000 in
set_option maxRecDepth 100000 in
theorem c_v_X7_drift (l : Launch) (G : Gh) (S : Pl) (ta tm : Nat) (sa : Nat → Nat) (hA : shTale S ta tm) (hS : shSea S sa) : MtV l yX7_drift cX7_drift 9 none (Rm 4 0 0) G [.ref ta, .ref (sa 0)] S (fun (S' : Pl) => ∃ q', ch S (pI S) (pJ S) q' (qJ S) = S' ∧ ∀ a, a ≠ tm → q' a = qI S a) 0 0 := by
  refine MtV.of (by decide) (Nat.le_of_ble_eq_true rfl) ?_
  intro p e s m args below meth c Q A X hw hin hret ls hl
  have hx := X.1.1
  have hb := X.1.2.1
  have hl : lv_has ls 9 [(0, .ref ta), (1, .ref (sa 0))] := hl
  refine lv_aload_n hx hb dX7_drift_0 rfl (lv_at hl 0 rfl) ?_
  refine gf_X7_19 (v := (pI S) 51 ta) X hw hA.1 rfl dX7_drift_1 ?_
  refine lv_istore_n (lv' := [(2, .int ((pI S) 51 ta)), (0, .ref ta), (1, .ref (sa 0))]) hx hb dX7_drift_4 rfl hl (by decide) rfl (fun ls hl => ?_)
  refine lv_aload_n hx hb dX7_drift_5 rfl (lv_at hl 1 rfl) ?_
  refine gf_X7_22 (v := (pI S) 52 ta) X hw hA.1 rfl dX7_drift_6 ?_
  refine lv_istore_n (lv' := [(3, .int ((pI S) 52 ta)), (2, .int ((pI S) 51 ta)), (0, .ref ta), (1, .ref (sa 0))]) hx hb dX7_drift_9 rfl hl (by decide) rfl (fun ls hl => ?_)
  refine lv_iconst (v := 0) hx hb dX7_drift_10 (by decide) ?_
  refine lv_istore (lv' := [(4, .int 0), (3, .int ((pI S) 52 ta)), (2, .int ((pI S) 51 ta)), (0, .ref ta), (1, .ref (sa 0))]) hx hb dX7_drift_11 hl (by decide) rfl (fun ls hl => ?_)
  refine lv_iconst (v := 0) hx hb dX7_drift_13 (by decide) ?_
  refine lv_istore (lv' := [(5, .int 0), (4, .int 0), (3, .int ((pI S) 52 ta)), (2, .int ((pI S) 51 ta)), (0, .ref ta), (1, .ref (sa 0))]) hx hb dX7_drift_14 hl (by decide) rfl (fun ls hl => ?_)
  have lp16 : ∀ (N9 : Nat) (q16 : Nat → Nat → Int32) (x : Int32) (y : Int32) (u : Int32) (t : Int32), (0 ≤ t.toInt ∧ t.toInt ≤ 73) → (∀ a, a ≠ tm → q16 a = qI S a) → (73 - t.toInt).toNat < N9 → ∀ (H : Heap) (locs : List Loc) (ls : Array Slot), PX G A s.heap (ch S (pI S) (pJ S) q16 (qJ S)) H locs → lv_has ls 9 [(5, .int t), (4, .int u), (3, .int y), (2, .int x), (0, .ref ta), (1, .ref (sa 0))] → W p l e (Rm 4 0 0) s m args below meth c H locs 0 0 Q (F0 m 16 ls []) := by
    intro N9
    induction N9 with
    | zero => intro q16 x y u t hi hqk hm; exact absurd hm (Nat.not_lt_zero _)
    | succ N9 ih16 =>
      intro q16 x y u t hi hqk hm H locs ls hw hl
      refine lv_iload hx hb dX7_drift_16 (lv_at hl 0 rfl) ?_
      refine lv_bipush (v := 72) hx hb dX7_drift_18 (by decide) ?_
      refine lv_icmp_gt (tgt := 160) hx hb dX7_drift_20 (by decide) (fun c20_1 => ?_) (fun c20_1 => ?_)
      · have D20_1 := iLt c20_1 t_72 rfl
        exact hret _ _ _ _ _ ⟨_, rfl, hqk⟩ hw dX7_drift_160
      · have D20_1 := iNlt c20_1 t_72 rfl
        refine lv_iload hx hb dX7_drift_23 (lv_at hl 0 rfl) ?_
        refine lv_aload_n hx hb dX7_drift_25 rfl (lv_at hl 4 rfl) ?_
        refine gf_X7_25 (v := (pI S) 53 ta) X hw hA.1 rfl dX7_drift_26 ?_
        refine lv_icmp_le (tgt := 104) hx hb dX7_drift_29 (by decide) (fun c29_2 => ?_) (fun c29_2 => ?_)
        · have D29_2 := iLe c29_2 rfl rfl
          refine lv_iload hx hb dX7_drift_104 (lv_at hl 0 rfl) ?_
          refine lv_aload_n hx hb dX7_drift_106 rfl (lv_at hl 4 rfl) ?_
          refine gf_X7_25 (v := (pI S) 53 ta) X hw hA.1 rfl dX7_drift_107 ?_
          refine lv_icmp_lt (tgt := 133) hx hb dX7_drift_110 (by decide) (fun c110_3 => ?_) (fun c110_3 => ?_)
          · have D110_3 := iLt c110_3 rfl rfl
            refine lv_aload_n hx hb dX7_drift_133 rfl (lv_at hl 4 rfl) ?_
            refine gf_X7_9 (b := tm) X hw hA.1 hA.2.1 dX7_drift_134 ?_
            refine lv_iload hx hb dX7_drift_137 (lv_at hl 0 rfl) ?_
            refine lv_iload hx hb dX7_drift_139 (lv_at hl 1 rfl) ?_
            refine lv_sipush (v := 10000) hx hb dX7_drift_141 (by decide) ?_
            refine lv_imul hx hb dX7_drift_144 ?_
            refine lv_topi (fun v144_4 e144_4 => ?_)
            refine lv_iload_n hx hb dX7_drift_145 rfl (lv_at hl 2 rfl) ?_
            refine lv_bipush (v := 100) hx hb dX7_drift_146 (by decide) ?_
            refine lv_imul hx hb dX7_drift_148 ?_
            refine lv_topi (fun v148_5 e148_5 => ?_)
            refine lv_iadd hx hb dX7_drift_149 ?_
            refine lv_topi (fun v149_6 e149_6 => ?_)
            refine lv_iload_n hx hb dX7_drift_150 rfl (lv_at hl 3 rfl) ?_
            refine lv_iadd hx hb dX7_drift_151 ?_
            refine lv_topi (fun v151_7 e151_7 => ?_)
            refine lv_i2s hx hb dX7_drift_152 rfl ?_
            refine lv_topi (fun v152_8 e152_8 => ?_)
            refine q_stS X hw hA.2.2.1 (vin hA.2.2.2 (by omega) (by omega)) dX7_drift_153 (fun H locs hw => ?_)
            obtain ⟨q153_9, eq153_9, hw⟩ : ∃ zz9, zz9 = va_up q16 tm (upd (q16 tm) t.toNatClampNeg (vp_nar .short v152_8)) ∧ PX G A s.heap (ch S (pI S) (pJ S) zz9 (qJ S)) H locs := ⟨_, rfl, hw⟩
            have c153 := eq153_9
            obtain ⟨v154_10, e154_10⟩ : ∃ y : Int32, y = t + 1 := ⟨_, rfl⟩
            have t154_10 := iAdd e154_10 rfl t_1 (by omega) (by omega)
            have t154 := t154_10
            refine lv_iinc (v := v154_10) (lv' := [(5, .int v154_10), (4, .int u), (3, .int y), (2, .int x), (0, .ref ta), (1, .ref (sa 0))]) hx hb dX7_drift_154 hl (k := 0) rfl (by rw [e154_10]; rfl) (by decide) rfl (fun ls hl => ?_)
            refine lv_goto (tgt := 16) hx hb dX7_drift_157 (by decide) ?_
            exact ih16 q153_9 x y u v154_10 (by omega) (fun a ha => (up_n c153 ha).trans (hqk a ha)) (by omega) _ _ _ hw (lv_sub hl [0, 1, 2, 3, 4, 5] rfl)
          · have D110_3 := iNlt c110_3 rfl rfl
            refine lv_iload hx hb dX7_drift_113 (lv_at hl 1 rfl) ?_
            refine lv_if_ne (tgt := 133) hx hb dX7_drift_115 (by decide) (fun c115_11 => ?_) (fun c115_11 => ?_)
            · have D115_11 := iNe c115_11 rfl t_0
              refine lv_aload_n hx hb dX7_drift_133 rfl (lv_at hl 4 rfl) ?_
              refine gf_X7_9 (b := tm) X hw hA.1 hA.2.1 dX7_drift_134 ?_
              refine lv_iload hx hb dX7_drift_137 (lv_at hl 0 rfl) ?_
              refine lv_iload hx hb dX7_drift_139 (lv_at hl 1 rfl) ?_
              refine lv_sipush (v := 10000) hx hb dX7_drift_141 (by decide) ?_
              refine lv_imul hx hb dX7_drift_144 ?_
              refine lv_topi (fun v144_12 e144_12 => ?_)
              refine lv_iload_n hx hb dX7_drift_145 rfl (lv_at hl 2 rfl) ?_
              refine lv_bipush (v := 100) hx hb dX7_drift_146 (by decide) ?_
              refine lv_imul hx hb dX7_drift_148 ?_
              refine lv_topi (fun v148_13 e148_13 => ?_)
              refine lv_iadd hx hb dX7_drift_149 ?_
              refine lv_topi (fun v149_14 e149_14 => ?_)
              refine lv_iload_n hx hb dX7_drift_150 rfl (lv_at hl 3 rfl) ?_
              refine lv_iadd hx hb dX7_drift_151 ?_
              refine lv_topi (fun v151_15 e151_15 => ?_)
              refine lv_i2s hx hb dX7_drift_152 rfl ?_
              refine lv_topi (fun v152_16 e152_16 => ?_)
              refine q_stS X hw hA.2.2.1 (vin hA.2.2.2 (by omega) (by omega)) dX7_drift_153 (fun H locs hw => ?_)
              obtain ⟨q153_17, eq153_17, hw⟩ : ∃ zz9, zz9 = va_up q16 tm (upd (q16 tm) t.toNatClampNeg (vp_nar .short v152_16)) ∧ PX G A s.heap (ch S (pI S) (pJ S) zz9 (qJ S)) H locs := ⟨_, rfl, hw⟩
              have c153 := eq153_17
              obtain ⟨v154_18, e154_18⟩ : ∃ y : Int32, y = t + 1 := ⟨_, rfl⟩
              have t154_18 := iAdd e154_18 rfl t_1 (by omega) (by omega)
              have t154 := t154_18
              refine lv_iinc (v := v154_18) (lv' := [(5, .int v154_18), (4, .int u), (3, .int y), (2, .int x), (0, .ref ta), (1, .ref (sa 0))]) hx hb dX7_drift_154 hl (k := 0) rfl (by rw [e154_18]; rfl) (by decide) rfl (fun ls hl => ?_)
              refine lv_goto (tgt := 16) hx hb dX7_drift_157 (by decide) ?_
              exact ih16 q153_17 x y u v154_18 (by omega) (fun a ha => (up_n c153 ha).trans (hqk a ha)) (by omega) _ _ _ hw (lv_sub hl [0, 1, 2, 3, 4, 5] rfl)
            · have D115_11 := iEq c115_11 rfl t_0
              refine lv_aload_n hx hb dX7_drift_118 rfl (lv_at hl 5 rfl) ?_
              refine lv_iload_n hx hb dX7_drift_119 rfl (lv_at hl 3 rfl) ?_
              refine lv_iload_n hx hb dX7_drift_120 rfl (lv_at hl 2 rfl) ?_
              refine k_SNi (n := 2) (host := RX10) X hw (c_X10_cellOf l G _ x y) (List.mem_of_getElem? (i := 11) rfl) wd_r20_1 wd_r1_2 wd_r20_2 ⟨by decide, by decide, by decide +kernel⟩ rfl rfl ⟨Nat.le_of_ble_eq_true rfl, Nat.le_of_ble_eq_true rfl⟩ rfl rfl hl.1 (Nat.le_of_ble_eq_true rfl) dX7_drift_121 ⟨Nat.le_of_ble_eq_true rfl, Nat.le_of_ble_eq_true rfl⟩ (fun r121_19 S121_21 H locs h121_20 hw => ?_)
              obtain ⟨rfl, h121_20⟩ := h121_20
              refine k_Vi (n := 1) X hw (rcvk (ci := 3) X hw hS.1 (fun _ _ _ _ _ _ _ => ⟨_, rfl⟩) rfl) (c_v_X3_hasLand l G _ sa r121_19 hS) wd_r20_3 wd_r15_19 wd_r15_20 wd_r2_9 wd_r15_21 ⟨by decide, by decide, by decide +kernel⟩ rfl rfl ⟨Nat.le_of_ble_eq_true rfl, Nat.le_of_ble_eq_true rfl⟩ rfl rfl hl.1 (Nat.le_of_ble_eq_true rfl) dX7_drift_124 ⟨Nat.le_of_ble_eq_true rfl, Nat.le_of_ble_eq_true rfl⟩ (fun r124_22 S124_24 H locs h124_23 hw => ?_)
              rcases h124_23 with ⟨rfl, rfl, h124_23⟩ | ⟨rfl, rfl, h124_23⟩
              · have h124_23 := h124_23
                refine lv_if_eq (tgt := 133) hx hb dX7_drift_127 (by decide) (fun c127_25 => absurd c127_25 (by decide)) (fun c127_25 => ?_)
                refine lv_iconst (v := 1) hx hb dX7_drift_130 (by decide) ?_
                refine lv_istore (lv' := [(4, .int 1), (5, .int t), (3, .int y), (2, .int x), (0, .ref ta), (1, .ref (sa 0))]) hx hb dX7_drift_131 hl (by decide) rfl (fun ls hl => ?_)
                refine lv_aload_n hx hb dX7_drift_133 rfl (lv_at hl 4 rfl) ?_
                refine gf_X7_9 (b := tm) X hw hA.1 hA.2.1 dX7_drift_134 ?_
                refine lv_iload hx hb dX7_drift_137 (lv_at hl 1 rfl) ?_
                refine lv_iload hx hb dX7_drift_139 (lv_at hl 0 rfl) ?_
                refine lv_sipush (v := 10000) hx hb dX7_drift_141 (by decide) ?_
                refine lv_imul hx hb dX7_drift_144 ?_
                refine lv_topi (fun v144_26 e144_26 => ?_)
                refine lv_iload_n hx hb dX7_drift_145 rfl (lv_at hl 2 rfl) ?_
                refine lv_bipush (v := 100) hx hb dX7_drift_146 (by decide) ?_
                refine lv_imul hx hb dX7_drift_148 ?_
                refine lv_topi (fun v148_27 e148_27 => ?_)
                refine lv_iadd hx hb dX7_drift_149 ?_
                refine lv_topi (fun v149_28 e149_28 => ?_)
                refine lv_iload_n hx hb dX7_drift_150 rfl (lv_at hl 3 rfl) ?_
                refine lv_iadd hx hb dX7_drift_151 ?_
                refine lv_topi (fun v151_29 e151_29 => ?_)
                refine lv_i2s hx hb dX7_drift_152 rfl ?_
                refine lv_topi (fun v152_30 e152_30 => ?_)
                refine q_stS X hw hA.2.2.1 (vin hA.2.2.2 (by omega) (by omega)) dX7_drift_153 (fun H locs hw => ?_)
                obtain ⟨q153_31, eq153_31, hw⟩ : ∃ zz9, zz9 = va_up q16 tm (upd (q16 tm) t.toNatClampNeg (vp_nar .short v152_30)) ∧ PX G A s.heap (ch S (pI S) (pJ S) zz9 (qJ S)) H locs := ⟨_, rfl, hw⟩
                have c153 := eq153_31
                obtain ⟨v154_32, e154_32⟩ : ∃ y : Int32, y = t + 1 := ⟨_, rfl⟩
                have t154_32 := iAdd e154_32 rfl t_1 (by omega) (by omega)
                have t154 := t154_32
                refine lv_iinc (v := v154_32) (lv' := [(5, .int v154_32), (4, .int 1), (3, .int y), (2, .int x), (0, .ref ta), (1, .ref (sa 0))]) hx hb dX7_drift_154 hl (k := 1) rfl (by rw [e154_32]; rfl) (by decide) rfl (fun ls hl => ?_)
                refine lv_goto (tgt := 16) hx hb dX7_drift_157 (by decide) ?_
                exact ih16 q153_31 x y 1 v154_32 (by have := t_1; omega) (fun a ha => (up_n c153 ha).trans (hqk a ha)) (by omega) _ _ _ hw (lv_sub hl [0, 1, 2, 3, 4, 5] rfl)
              · have h124_23 := h124_23
                refine lv_if_eq (tgt := 133) hx hb dX7_drift_127 (by decide) (fun c127_33 => ?_) (fun c127_33 => absurd c127_33 (by decide))
                refine lv_aload_n hx hb dX7_drift_133 rfl (lv_at hl 4 rfl) ?_
                refine gf_X7_9 (b := tm) X hw hA.1 hA.2.1 dX7_drift_134 ?_
                refine lv_iload hx hb dX7_drift_137 (lv_at hl 0 rfl) ?_
                refine lv_iload hx hb dX7_drift_139 (lv_at hl 1 rfl) ?_
                refine lv_sipush (v := 10000) hx hb dX7_drift_141 (by decide) ?_
                refine lv_imul hx hb dX7_drift_144 ?_
                refine lv_topi (fun v144_34 e144_34 => ?_)
                refine lv_iload_n hx hb dX7_drift_145 rfl (lv_at hl 2 rfl) ?_
                refine lv_bipush (v := 100) hx hb dX7_drift_146 (by decide) ?_
                refine lv_imul hx hb dX7_drift_148 ?_
                refine lv_topi (fun v148_35 e148_35 => ?_)
                refine lv_iadd hx hb dX7_drift_149 ?_
                refine lv_topi (fun v149_36 e149_36 => ?_)
                refine lv_iload_n hx hb dX7_drift_150 rfl (lv_at hl 3 rfl) ?_
                refine lv_iadd hx hb dX7_drift_151 ?_
                refine lv_topi (fun v151_37 e151_37 => ?_)
                refine lv_i2s hx hb dX7_drift_152 rfl ?_
                refine lv_topi (fun v152_38 e152_38 => ?_)
                refine q_stS X hw hA.2.2.1 (vin hA.2.2.2 (by omega) (by omega)) dX7_drift_153 (fun H locs hw => ?_)
                obtain ⟨q153_39, eq153_39, hw⟩ : ∃ zz9, zz9 = va_up q16 tm (upd (q16 tm) t.toNatClampNeg (vp_nar .short v152_38)) ∧ PX G A s.heap (ch S (pI S) (pJ S) zz9 (qJ S)) H locs := ⟨_, rfl, hw⟩
                have c153 := eq153_39
                obtain ⟨v154_40, e154_40⟩ : ∃ y : Int32, y = t + 1 := ⟨_, rfl⟩
                have t154_40 := iAdd e154_40 rfl t_1 (by omega) (by omega)
                have t154 := t154_40
                refine lv_iinc (v := v154_40) (lv' := [(5, .int v154_40), (4, .int u), (3, .int y), (2, .int x), (0, .ref ta), (1, .ref (sa 0))]) hx hb dX7_drift_154 hl (k := 0) rfl (by rw [e154_40]; rfl) (by decide) rfl (fun ls hl => ?_)
                refine lv_goto (tgt := 16) hx hb dX7_drift_157 (by decide) ?_
                exact ih16 q153_39 x y u v154_40 (by omega) (fun a ha => (up_n c153 ha).trans (hqk a ha)) (by omega) _ _ _ hw (lv_sub hl [0, 1, 2, 3, 4, 5] rfl)
        · have D29_2 := iNle c29_2 rfl rfl
          refine lv_iload hx hb dX7_drift_32 (lv_at hl 1 rfl) ?_
          refine lv_if_ne (tgt := 104) hx hb dX7_drift_34 (by decide) (fun c34_41 => ?_) (fun c34_41 => ?_)
          · have D34_41 := iNe c34_41 rfl t_0
            refine lv_iload hx hb dX7_drift_104 (lv_at hl 0 rfl) ?_
            refine lv_aload_n hx hb dX7_drift_106 rfl (lv_at hl 4 rfl) ?_
            refine gf_X7_25 (v := (pI S) 53 ta) X hw hA.1 rfl dX7_drift_107 ?_
            refine lv_icmp_lt (tgt := 133) hx hb dX7_drift_110 (by decide) (fun c110_42 => ?_) (fun c110_42 => ?_)
            · have D110_42 := iLt c110_42 rfl rfl
              refine lv_aload_n hx hb dX7_drift_133 rfl (lv_at hl 4 rfl) ?_
              refine gf_X7_9 (b := tm) X hw hA.1 hA.2.1 dX7_drift_134 ?_
              refine lv_iload hx hb dX7_drift_137 (lv_at hl 0 rfl) ?_
              refine lv_iload hx hb dX7_drift_139 (lv_at hl 1 rfl) ?_
              refine lv_sipush (v := 10000) hx hb dX7_drift_141 (by decide) ?_
              refine lv_imul hx hb dX7_drift_144 ?_
              refine lv_topi (fun v144_43 e144_43 => ?_)
              refine lv_iload_n hx hb dX7_drift_145 rfl (lv_at hl 2 rfl) ?_
              refine lv_bipush (v := 100) hx hb dX7_drift_146 (by decide) ?_
              refine lv_imul hx hb dX7_drift_148 ?_
              refine lv_topi (fun v148_44 e148_44 => ?_)
              refine lv_iadd hx hb dX7_drift_149 ?_
              refine lv_topi (fun v149_45 e149_45 => ?_)
              refine lv_iload_n hx hb dX7_drift_150 rfl (lv_at hl 3 rfl) ?_
              refine lv_iadd hx hb dX7_drift_151 ?_
              refine lv_topi (fun v151_46 e151_46 => ?_)
              refine lv_i2s hx hb dX7_drift_152 rfl ?_
              refine lv_topi (fun v152_47 e152_47 => ?_)
              refine q_stS X hw hA.2.2.1 (vin hA.2.2.2 (by omega) (by omega)) dX7_drift_153 (fun H locs hw => ?_)
              obtain ⟨q153_48, eq153_48, hw⟩ : ∃ zz9, zz9 = va_up q16 tm (upd (q16 tm) t.toNatClampNeg (vp_nar .short v152_47)) ∧ PX G A s.heap (ch S (pI S) (pJ S) zz9 (qJ S)) H locs := ⟨_, rfl, hw⟩
              have c153 := eq153_48
              obtain ⟨v154_49, e154_49⟩ : ∃ y : Int32, y = t + 1 := ⟨_, rfl⟩
              have t154_49 := iAdd e154_49 rfl t_1 (by omega) (by omega)
              have t154 := t154_49
              refine lv_iinc (v := v154_49) (lv' := [(5, .int v154_49), (4, .int u), (3, .int y), (2, .int x), (0, .ref ta), (1, .ref (sa 0))]) hx hb dX7_drift_154 hl (k := 0) rfl (by rw [e154_49]; rfl) (by decide) rfl (fun ls hl => ?_)
              refine lv_goto (tgt := 16) hx hb dX7_drift_157 (by decide) ?_
              exact ih16 q153_48 x y u v154_49 (by omega) (fun a ha => (up_n c153 ha).trans (hqk a ha)) (by omega) _ _ _ hw (lv_sub hl [0, 1, 2, 3, 4, 5] rfl)
            · have D110_42 := iNlt c110_42 rfl rfl
              refine lv_iload hx hb dX7_drift_113 (lv_at hl 1 rfl) ?_
              refine lv_if_ne (tgt := 133) hx hb dX7_drift_115 (by decide) (fun c115_50 => ?_) (fun c115_50 => ?_)
              · have D115_50 := iNe c115_50 rfl t_0
                refine lv_aload_n hx hb dX7_drift_133 rfl (lv_at hl 4 rfl) ?_
                refine gf_X7_9 (b := tm) X hw hA.1 hA.2.1 dX7_drift_134 ?_
                refine lv_iload hx hb dX7_drift_137 (lv_at hl 0 rfl) ?_
                refine lv_iload hx hb dX7_drift_139 (lv_at hl 1 rfl) ?_
                refine lv_sipush (v := 10000) hx hb dX7_drift_141 (by decide) ?_
                refine lv_imul hx hb dX7_drift_144 ?_
                refine lv_topi (fun v144_51 e144_51 => ?_)
                refine lv_iload_n hx hb dX7_drift_145 rfl (lv_at hl 2 rfl) ?_
                refine lv_bipush (v := 100) hx hb dX7_drift_146 (by decide) ?_
                refine lv_imul hx hb dX7_drift_148 ?_
                refine lv_topi (fun v148_52 e148_52 => ?_)
                refine lv_iadd hx hb dX7_drift_149 ?_
                refine lv_topi (fun v149_53 e149_53 => ?_)
                refine lv_iload_n hx hb dX7_drift_150 rfl (lv_at hl 3 rfl) ?_
                refine lv_iadd hx hb dX7_drift_151 ?_
                refine lv_topi (fun v151_54 e151_54 => ?_)
                refine lv_i2s hx hb dX7_drift_152 rfl ?_
                refine lv_topi (fun v152_55 e152_55 => ?_)
                refine q_stS X hw hA.2.2.1 (vin hA.2.2.2 (by omega) (by omega)) dX7_drift_153 (fun H locs hw => ?_)
                obtain ⟨q153_56, eq153_56, hw⟩ : ∃ zz9, zz9 = va_up q16 tm (upd (q16 tm) t.toNatClampNeg (vp_nar .short v152_55)) ∧ PX G A s.heap (ch S (pI S) (pJ S) zz9 (qJ S)) H locs := ⟨_, rfl, hw⟩
                have c153 := eq153_56
                obtain ⟨v154_57, e154_57⟩ : ∃ y : Int32, y = t + 1 := ⟨_, rfl⟩
                have t154_57 := iAdd e154_57 rfl t_1 (by omega) (by omega)
                have t154 := t154_57
                refine lv_iinc (v := v154_57) (lv' := [(5, .int v154_57), (4, .int u), (3, .int y), (2, .int x), (0, .ref ta), (1, .ref (sa 0))]) hx hb dX7_drift_154 hl (k := 0) rfl (by rw [e154_57]; rfl) (by decide) rfl (fun ls hl => ?_)
                refine lv_goto (tgt := 16) hx hb dX7_drift_157 (by decide) ?_
                exact ih16 q153_56 x y u v154_57 (by omega) (fun a ha => (up_n c153 ha).trans (hqk a ha)) (by omega) _ _ _ hw (lv_sub hl [0, 1, 2, 3, 4, 5] rfl)
              · have D115_50 := iEq c115_50 rfl t_0
                refine lv_aload_n hx hb dX7_drift_118 rfl (lv_at hl 5 rfl) ?_
                refine lv_iload_n hx hb dX7_drift_119 rfl (lv_at hl 3 rfl) ?_
                refine lv_iload_n hx hb dX7_drift_120 rfl (lv_at hl 2 rfl) ?_
                refine k_SNi (n := 2) (host := RX10) X hw (c_X10_cellOf l G _ x y) (List.mem_of_getElem? (i := 11) rfl) wd_r20_1 wd_r1_2 wd_r20_2 ⟨by decide, by decide, by decide +kernel⟩ rfl rfl ⟨Nat.le_of_ble_eq_true rfl, Nat.le_of_ble_eq_true rfl⟩ rfl rfl hl.1 (Nat.le_of_ble_eq_true rfl) dX7_drift_121 ⟨Nat.le_of_ble_eq_true rfl, Nat.le_of_ble_eq_true rfl⟩ (fun r121_58 S121_60 H locs h121_59 hw => ?_)
                obtain ⟨rfl, h121_59⟩ := h121_59
                refine k_Vi (n := 1) X hw (rcvk (ci := 3) X hw hS.1 (fun _ _ _ _ _ _ _ => ⟨_, rfl⟩) rfl) (c_v_X3_hasLand l G _ sa r121_58 hS) wd_r20_3 wd_r15_19 wd_r15_20 wd_r2_9 wd_r15_21 ⟨by decide, by decide, by decide +kernel⟩ rfl rfl ⟨Nat.le_of_ble_eq_true rfl, Nat.le_of_ble_eq_true rfl⟩ rfl rfl hl.1 (Nat.le_of_ble_eq_true rfl) dX7_drift_124 ⟨Nat.le_of_ble_eq_true rfl, Nat.le_of_ble_eq_true rfl⟩ (fun r124_61 S124_63 H locs h124_62 hw => ?_)
                rcases h124_62 with ⟨rfl, rfl, h124_62⟩ | ⟨rfl, rfl, h124_62⟩
                · have h124_62 := h124_62
                  refine lv_if_eq (tgt := 133) hx hb dX7_drift_127 (by decide) (fun c127_64 => absurd c127_64 (by decide)) (fun c127_64 => ?_)
                  refine lv_iconst (v := 1) hx hb dX7_drift_130 (by decide) ?_
                  refine lv_istore (lv' := [(4, .int 1), (5, .int t), (3, .int y), (2, .int x), (0, .ref ta), (1, .ref (sa 0))]) hx hb dX7_drift_131 hl (by decide) rfl (fun ls hl => ?_)
                  refine lv_aload_n hx hb dX7_drift_133 rfl (lv_at hl 4 rfl) ?_
                  refine gf_X7_9 (b := tm) X hw hA.1 hA.2.1 dX7_drift_134 ?_
                  refine lv_iload hx hb dX7_drift_137 (lv_at hl 1 rfl) ?_
                  refine lv_iload hx hb dX7_drift_139 (lv_at hl 0 rfl) ?_
                  refine lv_sipush (v := 10000) hx hb dX7_drift_141 (by decide) ?_
                  refine lv_imul hx hb dX7_drift_144 ?_
                  refine lv_topi (fun v144_65 e144_65 => ?_)
                  refine lv_iload_n hx hb dX7_drift_145 rfl (lv_at hl 2 rfl) ?_
                  refine lv_bipush (v := 100) hx hb dX7_drift_146 (by decide) ?_
                  refine lv_imul hx hb dX7_drift_148 ?_
                  refine lv_topi (fun v148_66 e148_66 => ?_)
                  refine lv_iadd hx hb dX7_drift_149 ?_
                  refine lv_topi (fun v149_67 e149_67 => ?_)
                  refine lv_iload_n hx hb dX7_drift_150 rfl (lv_at hl 3 rfl) ?_
                  refine lv_iadd hx hb dX7_drift_151 ?_
                  refine lv_topi (fun v151_68 e151_68 => ?_)
                  refine lv_i2s hx hb dX7_drift_152 rfl ?_
                  refine lv_topi (fun v152_69 e152_69 => ?_)
                  refine q_stS X hw hA.2.2.1 (vin hA.2.2.2 (by omega) (by omega)) dX7_drift_153 (fun H locs hw => ?_)
                  obtain ⟨q153_70, eq153_70, hw⟩ : ∃ zz9, zz9 = va_up q16 tm (upd (q16 tm) t.toNatClampNeg (vp_nar .short v152_69)) ∧ PX G A s.heap (ch S (pI S) (pJ S) zz9 (qJ S)) H locs := ⟨_, rfl, hw⟩
                  have c153 := eq153_70
                  obtain ⟨v154_71, e154_71⟩ : ∃ y : Int32, y = t + 1 := ⟨_, rfl⟩
                  have t154_71 := iAdd e154_71 rfl t_1 (by omega) (by omega)
                  have t154 := t154_71
                  refine lv_iinc (v := v154_71) (lv' := [(5, .int v154_71), (4, .int 1), (3, .int y), (2, .int x), (0, .ref ta), (1, .ref (sa 0))]) hx hb dX7_drift_154 hl (k := 1) rfl (by rw [e154_71]; rfl) (by decide) rfl (fun ls hl => ?_)
                  refine lv_goto (tgt := 16) hx hb dX7_drift_157 (by decide) ?_
                  exact ih16 q153_70 x y 1 v154_71 (by have := t_1; omega) (fun a ha => (up_n c153 ha).trans (hqk a ha)) (by omega) _ _ _ hw (lv_sub hl [0, 1, 2, 3, 4, 5] rfl)
                · have h124_62 := h124_62
                  refine lv_if_eq (tgt := 133) hx hb dX7_drift_127 (by decide) (fun c127_72 => ?_) (fun c127_72 => absurd c127_72 (by decide))
                  refine lv_aload_n hx hb dX7_drift_133 rfl (lv_at hl 4 rfl) ?_
                  refine gf_X7_9 (b := tm) X hw hA.1 hA.2.1 dX7_drift_134 ?_
                  refine lv_iload hx hb dX7_drift_137 (lv_at hl 0 rfl) ?_
                  refine lv_iload hx hb dX7_drift_139 (lv_at hl 1 rfl) ?_
                  refine lv_sipush (v := 10000) hx hb dX7_drift_141 (by decide) ?_
                  refine lv_imul hx hb dX7_drift_144 ?_
                  refine lv_topi (fun v144_73 e144_73 => ?_)
                  refine lv_iload_n hx hb dX7_drift_145 rfl (lv_at hl 2 rfl) ?_
                  refine lv_bipush (v := 100) hx hb dX7_drift_146 (by decide) ?_
                  refine lv_imul hx hb dX7_drift_148 ?_
                  refine lv_topi (fun v148_74 e148_74 => ?_)
                  refine lv_iadd hx hb dX7_drift_149 ?_
                  refine lv_topi (fun v149_75 e149_75 => ?_)
                  refine lv_iload_n hx hb dX7_drift_150 rfl (lv_at hl 3 rfl) ?_
                  refine lv_iadd hx hb dX7_drift_151 ?_
                  refine lv_topi (fun v151_76 e151_76 => ?_)
                  refine lv_i2s hx hb dX7_drift_152 rfl ?_
                  refine lv_topi (fun v152_77 e152_77 => ?_)
                  refine q_stS X hw hA.2.2.1 (vin hA.2.2.2 (by omega) (by omega)) dX7_drift_153 (fun H locs hw => ?_)
                  obtain ⟨q153_78, eq153_78, hw⟩ : ∃ zz9, zz9 = va_up q16 tm (upd (q16 tm) t.toNatClampNeg (vp_nar .short v152_77)) ∧ PX G A s.heap (ch S (pI S) (pJ S) zz9 (qJ S)) H locs := ⟨_, rfl, hw⟩
                  have c153 := eq153_78
                  obtain ⟨v154_79, e154_79⟩ : ∃ y : Int32, y = t + 1 := ⟨_, rfl⟩
                  have t154_79 := iAdd e154_79 rfl t_1 (by omega) (by omega)
                  have t154 := t154_79
                  refine lv_iinc (v := v154_79) (lv' := [(5, .int v154_79), (4, .int u), (3, .int y), (2, .int x), (0, .ref ta), (1, .ref (sa 0))]) hx hb dX7_drift_154 hl (k := 0) rfl (by rw [e154_79]; rfl) (by decide) rfl (fun ls hl => ?_)
                  refine lv_goto (tgt := 16) hx hb dX7_drift_157 (by decide) ?_
                  exact ih16 q153_78 x y u v154_79 (by omega) (fun a ha => (up_n c153 ha).trans (hqk a ha)) (by omega) _ _ _ hw (lv_sub hl [0, 1, 2, 3, 4, 5] rfl)
          · have D34_41 := iEq c34_41 rfl t_0
            refine lv_iload_n hx hb dX7_drift_37 rfl (lv_at hl 3 rfl) ?_
            refine lv_iload_n hx hb dX7_drift_38 rfl (lv_at hl 2 rfl) ?_
            refine k_SNi (n := 2) (host := RX10) X hw (c_X10_quarterOf l G _ x y) (List.mem_of_getElem? (i := 9) rfl) wd_r19_5 wd_r1_2 wd_r19_6 ⟨by decide, by decide, by decide +kernel⟩ rfl rfl ⟨Nat.le_of_ble_eq_true rfl, Nat.le_of_ble_eq_true rfl⟩ rfl rfl hl.1 (Nat.le_of_ble_eq_true rfl) dX7_drift_39 ⟨Nat.le_of_ble_eq_true rfl, Nat.le_of_ble_eq_true rfl⟩ (fun r39_80 S39_82 H locs h39_81 hw => ?_)
            obtain ⟨rfl, h39_81⟩ := h39_81
            refine lv_istore (lv' := [(6, .int r39_80), (5, .int t), (4, .int u), (3, .int y), (2, .int x), (0, .ref ta), (1, .ref (sa 0))]) hx hb dX7_drift_42 hl (by decide) rfl (fun ls hl => ?_)
            refine lv_iload_n hx hb dX7_drift_44 rfl (lv_at hl 4 rfl) ?_
            refine lv_aload_n hx hb dX7_drift_45 rfl (lv_at hl 6 rfl) ?_
            refine lv_aload_n hx hb dX7_drift_46 rfl (lv_at hl 5 rfl) ?_
            refine gf_X7_15 (v := (pI S) 50 ta) X hw hA.1 rfl dX7_drift_47 ?_
            refine lv_iload hx hb dX7_drift_50 (lv_at hl 0 rfl) ?_
            refine lv_iload hx hb dX7_drift_52 (lv_at hl 1 rfl) ?_
            refine lv_iconst (v := 1) hx hb dX7_drift_54 (by decide) ?_
            refine lv_isub hx hb dX7_drift_55 ?_
            refine lv_topi (fun v55_83 e55_83 => ?_)
            refine lv_iconst (v := 0) hx hb dX7_drift_56 (by decide) ?_
            refine k_Vi (n := 4) X hw (rcvk (ci := 3) X hw hS.1 (fun _ _ _ _ _ _ _ => ⟨_, rfl⟩) rfl) (c_X3_stepOf l G _ sa ((pI S) 50 ta) r39_80 v55_83 0 hS) wd_r19_7 wd_r19_8 wd_r19_9 wd_r2_9 wd_r19_10 ⟨by decide, by decide, by decide +kernel⟩ rfl rfl ⟨Nat.le_of_ble_eq_true rfl, Nat.le_of_ble_eq_true rfl⟩ rfl rfl hl.1 (Nat.le_of_ble_eq_true rfl) dX7_drift_57 ⟨Nat.le_of_ble_eq_true rfl, Nat.le_of_ble_eq_true rfl⟩ (fun r57_84 S57_86 H locs h57_85 hw => ?_)
            have := t_0
            obtain ⟨rfl, h57_85⟩ := h57_85
            refine lv_iadd hx hb dX7_drift_60 ?_
            refine lv_topi (fun v60_87 e60_87 => ?_)
            refine lv_istore (lv' := [(7, .int v60_87), (6, .int r39_80), (5, .int t), (4, .int u), (3, .int y), (2, .int x), (0, .ref ta), (1, .ref (sa 0))]) hx hb dX7_drift_61 hl (by decide) rfl (fun ls hl => ?_)
            refine lv_iload_n hx hb dX7_drift_63 rfl (lv_at hl 4 rfl) ?_
            refine lv_aload_n hx hb dX7_drift_64 rfl (lv_at hl 7 rfl) ?_
            refine lv_aload_n hx hb dX7_drift_65 rfl (lv_at hl 6 rfl) ?_
            refine gf_X7_15 (v := (pI S) 50 ta) X hw hA.1 rfl dX7_drift_66 ?_
            refine lv_iload hx hb dX7_drift_69 (lv_at hl 1 rfl) ?_
            refine lv_iload hx hb dX7_drift_71 (lv_at hl 2 rfl) ?_
            refine lv_iconst (v := 1) hx hb dX7_drift_73 (by decide) ?_
            refine lv_isub hx hb dX7_drift_74 ?_
            refine lv_topi (fun v74_88 e74_88 => ?_)
            refine lv_iconst (v := 1) hx hb dX7_drift_75 (by decide) ?_
            refine k_Vi (n := 4) X hw (rcvk (ci := 3) X hw hS.1 (fun _ _ _ _ _ _ _ => ⟨_, rfl⟩) rfl) (c_X3_stepOf l G _ sa ((pI S) 50 ta) r39_80 v74_88 1 hS) wd_r19_7 wd_r19_8 wd_r19_9 wd_r2_9 wd_r19_10 ⟨by decide, by decide, by decide +kernel⟩ rfl rfl ⟨Nat.le_of_ble_eq_true rfl, Nat.le_of_ble_eq_true rfl⟩ rfl rfl hl.1 (Nat.le_of_ble_eq_true rfl) dX7_drift_76 ⟨Nat.le_of_ble_eq_true rfl, Nat.le_of_ble_eq_true rfl⟩ (fun r76_89 S76_91 H locs h76_90 hw => ?_)
            have := t_1
            obtain ⟨rfl, h76_90⟩ := h76_90
            refine lv_iadd hx hb dX7_drift_79 ?_
            refine lv_topi (fun v79_92 e79_92 => ?_)
            refine lv_istore (lv' := [(8, .int v79_92), (7, .int v60_87), (6, .int r39_80), (5, .int t), (4, .int u), (3, .int y), (2, .int x), (0, .ref ta), (1, .ref (sa 0))]) hx hb dX7_drift_80 hl (by decide) rfl (fun ls hl => ?_)
            refine lv_iload hx hb dX7_drift_82 (lv_at hl 1 rfl) ?_
            refine lv_iload hx hb dX7_drift_84 (lv_at hl 0 rfl) ?_
            refine k_SNi (n := 2) (host := RX10) X hw (c_X10_isPoint l G _ v60_87 v79_92) (List.mem_of_getElem? (i := 10) rfl) wd_r19_23 wd_r1_2 wd_r20_0 ⟨by decide, by decide, by decide +kernel⟩ rfl rfl ⟨Nat.le_of_ble_eq_true rfl, Nat.le_of_ble_eq_true rfl⟩ rfl rfl hl.1 (Nat.le_of_ble_eq_true rfl) dX7_drift_86 ⟨Nat.le_of_ble_eq_true rfl, Nat.le_of_ble_eq_true rfl⟩ (fun r86_93 S86_95 H locs h86_94 hw => ?_)
            rcases h86_94 with ⟨rfl, rfl, h86_94⟩ | ⟨rfl, rfl, h86_94⟩
            · have h86_94 := h86_94
              refine lv_if_eq (tgt := 101) hx hb dX7_drift_89 (by decide) (fun c89_96 => absurd c89_96 (by decide)) (fun c89_96 => ?_)
              refine lv_iload hx hb dX7_drift_92 (lv_at hl 1 rfl) ?_
              refine lv_istore_n (lv' := [(2, .int v60_87), (8, .int v79_92), (7, .int v60_87), (6, .int r39_80), (5, .int t), (4, .int u), (3, .int y), (0, .ref ta), (1, .ref (sa 0))]) hx hb dX7_drift_94 rfl hl (by decide) rfl (fun ls hl => ?_)
              refine lv_iload hx hb dX7_drift_95 (lv_at hl 1 rfl) ?_
              refine lv_istore_n (lv' := [(3, .int v79_92), (2, .int v60_87), (8, .int v79_92), (7, .int v60_87), (6, .int r39_80), (5, .int t), (4, .int u), (0, .ref ta), (1, .ref (sa 0))]) hx hb dX7_drift_97 rfl hl (by decide) rfl (fun ls hl => ?_)
              refine lv_goto (tgt := 104) hx hb dX7_drift_98 (by decide) ?_
              refine lv_iload hx hb dX7_drift_104 (lv_at hl 5 rfl) ?_
              refine lv_aload_n hx hb dX7_drift_106 rfl (lv_at hl 7 rfl) ?_
              refine gf_X7_25 (v := (pI S) 53 ta) X hw hA.1 rfl dX7_drift_107 ?_
              refine lv_icmp_lt (tgt := 133) hx hb dX7_drift_110 (by decide) (fun c110_97 => ?_) (fun c110_97 => ?_)
              · have D110_97 := iLt c110_97 rfl rfl
                refine lv_aload_n hx hb dX7_drift_133 rfl (lv_at hl 7 rfl) ?_
                refine gf_X7_9 (b := tm) X hw hA.1 hA.2.1 dX7_drift_134 ?_
                refine lv_iload hx hb dX7_drift_137 (lv_at hl 5 rfl) ?_
                refine lv_iload hx hb dX7_drift_139 (lv_at hl 6 rfl) ?_
                refine lv_sipush (v := 10000) hx hb dX7_drift_141 (by decide) ?_
                refine lv_imul hx hb dX7_drift_144 ?_
                refine lv_topi (fun v144_98 e144_98 => ?_)
                refine lv_iload_n hx hb dX7_drift_145 rfl (lv_at hl 0 rfl) ?_
                refine lv_bipush (v := 100) hx hb dX7_drift_146 (by decide) ?_
                refine lv_imul hx hb dX7_drift_148 ?_
                refine lv_topi (fun v148_99 e148_99 => ?_)
                refine lv_iadd hx hb dX7_drift_149 ?_
                refine lv_topi (fun v149_100 e149_100 => ?_)
                refine lv_iload_n hx hb dX7_drift_150 rfl (lv_at hl 1 rfl) ?_
                refine lv_iadd hx hb dX7_drift_151 ?_
                refine lv_topi (fun v151_101 e151_101 => ?_)
                refine lv_i2s hx hb dX7_drift_152 rfl ?_
                refine lv_topi (fun v152_102 e152_102 => ?_)
                refine q_stS X hw hA.2.2.1 (vin hA.2.2.2 (by omega) (by omega)) dX7_drift_153 (fun H locs hw => ?_)
                obtain ⟨q153_103, eq153_103, hw⟩ : ∃ zz9, zz9 = va_up q16 tm (upd (q16 tm) t.toNatClampNeg (vp_nar .short v152_102)) ∧ PX G A s.heap (ch S (pI S) (pJ S) zz9 (qJ S)) H locs := ⟨_, rfl, hw⟩
                have c153 := eq153_103
                obtain ⟨v154_104, e154_104⟩ : ∃ y : Int32, y = t + 1 := ⟨_, rfl⟩
                have t154_104 := iAdd e154_104 rfl t_1 (by omega) (by omega)
                have t154 := t154_104
                refine lv_iinc (v := v154_104) (lv' := [(5, .int v154_104), (3, .int v79_92), (2, .int v60_87), (8, .int v79_92), (7, .int v60_87), (6, .int r39_80), (4, .int u), (0, .ref ta), (1, .ref (sa 0))]) hx hb dX7_drift_154 hl (k := 5) rfl (by rw [e154_104]; rfl) (by decide) rfl (fun ls hl => ?_)
                refine lv_goto (tgt := 16) hx hb dX7_drift_157 (by decide) ?_
                exact ih16 q153_103 v60_87 v79_92 u v154_104 (by omega) (fun a ha => (up_n c153 ha).trans (hqk a ha)) (by omega) _ _ _ hw (lv_sub hl [0, 6, 1, 2, 7, 8] rfl)
              · have D110_97 := iNlt c110_97 rfl rfl
                refine lv_iload hx hb dX7_drift_113 (lv_at hl 6 rfl) ?_
                refine lv_if_ne (tgt := 133) hx hb dX7_drift_115 (by decide) (fun c115_105 => ?_) (fun c115_105 => ?_)
                · have D115_105 := iNe c115_105 rfl t_0
                  refine lv_aload_n hx hb dX7_drift_133 rfl (lv_at hl 7 rfl) ?_
                  refine gf_X7_9 (b := tm) X hw hA.1 hA.2.1 dX7_drift_134 ?_
                  refine lv_iload hx hb dX7_drift_137 (lv_at hl 5 rfl) ?_
                  refine lv_iload hx hb dX7_drift_139 (lv_at hl 6 rfl) ?_
                  refine lv_sipush (v := 10000) hx hb dX7_drift_141 (by decide) ?_
                  refine lv_imul hx hb dX7_drift_144 ?_
                  refine lv_topi (fun v144_106 e144_106 => ?_)
                  refine lv_iload_n hx hb dX7_drift_145 rfl (lv_at hl 0 rfl) ?_
                  refine lv_bipush (v := 100) hx hb dX7_drift_146 (by decide) ?_
                  refine lv_imul hx hb dX7_drift_148 ?_
                  refine lv_topi (fun v148_107 e148_107 => ?_)
                  refine lv_iadd hx hb dX7_drift_149 ?_
                  refine lv_topi (fun v149_108 e149_108 => ?_)
                  refine lv_iload_n hx hb dX7_drift_150 rfl (lv_at hl 1 rfl) ?_
                  refine lv_iadd hx hb dX7_drift_151 ?_
                  refine lv_topi (fun v151_109 e151_109 => ?_)
                  refine lv_i2s hx hb dX7_drift_152 rfl ?_
                  refine lv_topi (fun v152_110 e152_110 => ?_)
                  refine q_stS X hw hA.2.2.1 (vin hA.2.2.2 (by omega) (by omega)) dX7_drift_153 (fun H locs hw => ?_)
                  obtain ⟨q153_111, eq153_111, hw⟩ : ∃ zz9, zz9 = va_up q16 tm (upd (q16 tm) t.toNatClampNeg (vp_nar .short v152_110)) ∧ PX G A s.heap (ch S (pI S) (pJ S) zz9 (qJ S)) H locs := ⟨_, rfl, hw⟩
                  have c153 := eq153_111
                  obtain ⟨v154_112, e154_112⟩ : ∃ y : Int32, y = t + 1 := ⟨_, rfl⟩
                  have t154_112 := iAdd e154_112 rfl t_1 (by omega) (by omega)
                  have t154 := t154_112
                  refine lv_iinc (v := v154_112) (lv' := [(5, .int v154_112), (3, .int v79_92), (2, .int v60_87), (8, .int v79_92), (7, .int v60_87), (6, .int r39_80), (4, .int u), (0, .ref ta), (1, .ref (sa 0))]) hx hb dX7_drift_154 hl (k := 5) rfl (by rw [e154_112]; rfl) (by decide) rfl (fun ls hl => ?_)
                  refine lv_goto (tgt := 16) hx hb dX7_drift_157 (by decide) ?_
                  exact ih16 q153_111 v60_87 v79_92 u v154_112 (by omega) (fun a ha => (up_n c153 ha).trans (hqk a ha)) (by omega) _ _ _ hw (lv_sub hl [0, 6, 1, 2, 7, 8] rfl)
                · have D115_105 := iEq c115_105 rfl t_0
                  refine lv_aload_n hx hb dX7_drift_118 rfl (lv_at hl 8 rfl) ?_
                  refine lv_iload_n hx hb dX7_drift_119 rfl (lv_at hl 1 rfl) ?_
                  refine lv_iload_n hx hb dX7_drift_120 rfl (lv_at hl 0 rfl) ?_
                  refine k_SNi (n := 2) (host := RX10) X hw (c_X10_cellOf l G _ v60_87 v79_92) (List.mem_of_getElem? (i := 11) rfl) wd_r20_1 wd_r1_2 wd_r20_2 ⟨by decide, by decide, by decide +kernel⟩ rfl rfl ⟨Nat.le_of_ble_eq_true rfl, Nat.le_of_ble_eq_true rfl⟩ rfl rfl hl.1 (Nat.le_of_ble_eq_true rfl) dX7_drift_121 ⟨Nat.le_of_ble_eq_true rfl, Nat.le_of_ble_eq_true rfl⟩ (fun r121_113 S121_115 H locs h121_114 hw => ?_)
                  obtain ⟨rfl, h121_114⟩ := h121_114
                  refine k_Vi (n := 1) X hw (rcvk (ci := 3) X hw hS.1 (fun _ _ _ _ _ _ _ => ⟨_, rfl⟩) rfl) (c_v_X3_hasLand l G _ sa r121_113 hS) wd_r20_3 wd_r15_19 wd_r15_20 wd_r2_9 wd_r15_21 ⟨by decide, by decide, by decide +kernel⟩ rfl rfl ⟨Nat.le_of_ble_eq_true rfl, Nat.le_of_ble_eq_true rfl⟩ rfl rfl hl.1 (Nat.le_of_ble_eq_true rfl) dX7_drift_124 ⟨Nat.le_of_ble_eq_true rfl, Nat.le_of_ble_eq_true rfl⟩ (fun r124_116 S124_118 H locs h124_117 hw => ?_)
                  rcases h124_117 with ⟨rfl, rfl, h124_117⟩ | ⟨rfl, rfl, h124_117⟩
                  · have h124_117 := h124_117
                    refine lv_if_eq (tgt := 133) hx hb dX7_drift_127 (by decide) (fun c127_119 => absurd c127_119 (by decide)) (fun c127_119 => ?_)
                    refine lv_iconst (v := 1) hx hb dX7_drift_130 (by decide) ?_
                    refine lv_istore (lv' := [(4, .int 1), (3, .int v79_92), (2, .int v60_87), (8, .int v79_92), (7, .int v60_87), (6, .int r39_80), (5, .int t), (0, .ref ta), (1, .ref (sa 0))]) hx hb dX7_drift_131 hl (by decide) rfl (fun ls hl => ?_)
                    refine lv_aload_n hx hb dX7_drift_133 rfl (lv_at hl 7 rfl) ?_
                    refine gf_X7_9 (b := tm) X hw hA.1 hA.2.1 dX7_drift_134 ?_
                    refine lv_iload hx hb dX7_drift_137 (lv_at hl 6 rfl) ?_
                    refine lv_iload hx hb dX7_drift_139 (lv_at hl 0 rfl) ?_
                    refine lv_sipush (v := 10000) hx hb dX7_drift_141 (by decide) ?_
                    refine lv_imul hx hb dX7_drift_144 ?_
                    refine lv_topi (fun v144_120 e144_120 => ?_)
                    refine lv_iload_n hx hb dX7_drift_145 rfl (lv_at hl 1 rfl) ?_
                    refine lv_bipush (v := 100) hx hb dX7_drift_146 (by decide) ?_
                    refine lv_imul hx hb dX7_drift_148 ?_
                    refine lv_topi (fun v148_121 e148_121 => ?_)
                    refine lv_iadd hx hb dX7_drift_149 ?_
                    refine lv_topi (fun v149_122 e149_122 => ?_)
                    refine lv_iload_n hx hb dX7_drift_150 rfl (lv_at hl 2 rfl) ?_
                    refine lv_iadd hx hb dX7_drift_151 ?_
                    refine lv_topi (fun v151_123 e151_123 => ?_)
                    refine lv_i2s hx hb dX7_drift_152 rfl ?_
                    refine lv_topi (fun v152_124 e152_124 => ?_)
                    refine q_stS X hw hA.2.2.1 (vin hA.2.2.2 (by omega) (by omega)) dX7_drift_153 (fun H locs hw => ?_)
                    obtain ⟨q153_125, eq153_125, hw⟩ : ∃ zz9, zz9 = va_up q16 tm (upd (q16 tm) t.toNatClampNeg (vp_nar .short v152_124)) ∧ PX G A s.heap (ch S (pI S) (pJ S) zz9 (qJ S)) H locs := ⟨_, rfl, hw⟩
                    have c153 := eq153_125
                    obtain ⟨v154_126, e154_126⟩ : ∃ y : Int32, y = t + 1 := ⟨_, rfl⟩
                    have t154_126 := iAdd e154_126 rfl t_1 (by omega) (by omega)
                    have t154 := t154_126
                    refine lv_iinc (v := v154_126) (lv' := [(5, .int v154_126), (4, .int 1), (3, .int v79_92), (2, .int v60_87), (8, .int v79_92), (7, .int v60_87), (6, .int r39_80), (0, .ref ta), (1, .ref (sa 0))]) hx hb dX7_drift_154 hl (k := 6) rfl (by rw [e154_126]; rfl) (by decide) rfl (fun ls hl => ?_)
                    refine lv_goto (tgt := 16) hx hb dX7_drift_157 (by decide) ?_
                    exact ih16 q153_125 v60_87 v79_92 1 v154_126 (by have := t_1; omega) (fun a ha => (up_n c153 ha).trans (hqk a ha)) (by omega) _ _ _ hw (lv_sub hl [0, 1, 2, 3, 7, 8] rfl)
                  · have h124_117 := h124_117
                    refine lv_if_eq (tgt := 133) hx hb dX7_drift_127 (by decide) (fun c127_127 => ?_) (fun c127_127 => absurd c127_127 (by decide))
                    refine lv_aload_n hx hb dX7_drift_133 rfl (lv_at hl 7 rfl) ?_
                    refine gf_X7_9 (b := tm) X hw hA.1 hA.2.1 dX7_drift_134 ?_
                    refine lv_iload hx hb dX7_drift_137 (lv_at hl 5 rfl) ?_
                    refine lv_iload hx hb dX7_drift_139 (lv_at hl 6 rfl) ?_
                    refine lv_sipush (v := 10000) hx hb dX7_drift_141 (by decide) ?_
                    refine lv_imul hx hb dX7_drift_144 ?_
                    refine lv_topi (fun v144_128 e144_128 => ?_)
                    refine lv_iload_n hx hb dX7_drift_145 rfl (lv_at hl 0 rfl) ?_
                    refine lv_bipush (v := 100) hx hb dX7_drift_146 (by decide) ?_
                    refine lv_imul hx hb dX7_drift_148 ?_
                    refine lv_topi (fun v148_129 e148_129 => ?_)
                    refine lv_iadd hx hb dX7_drift_149 ?_
                    refine lv_topi (fun v149_130 e149_130 => ?_)
                    refine lv_iload_n hx hb dX7_drift_150 rfl (lv_at hl 1 rfl) ?_
                    refine lv_iadd hx hb dX7_drift_151 ?_
                    refine lv_topi (fun v151_131 e151_131 => ?_)
                    refine lv_i2s hx hb dX7_drift_152 rfl ?_
                    refine lv_topi (fun v152_132 e152_132 => ?_)
                    refine q_stS X hw hA.2.2.1 (vin hA.2.2.2 (by omega) (by omega)) dX7_drift_153 (fun H locs hw => ?_)
                    obtain ⟨q153_133, eq153_133, hw⟩ : ∃ zz9, zz9 = va_up q16 tm (upd (q16 tm) t.toNatClampNeg (vp_nar .short v152_132)) ∧ PX G A s.heap (ch S (pI S) (pJ S) zz9 (qJ S)) H locs := ⟨_, rfl, hw⟩
                    have c153 := eq153_133
                    obtain ⟨v154_134, e154_134⟩ : ∃ y : Int32, y = t + 1 := ⟨_, rfl⟩
                    have t154_134 := iAdd e154_134 rfl t_1 (by omega) (by omega)
                    have t154 := t154_134
                    refine lv_iinc (v := v154_134) (lv' := [(5, .int v154_134), (3, .int v79_92), (2, .int v60_87), (8, .int v79_92), (7, .int v60_87), (6, .int r39_80), (4, .int u), (0, .ref ta), (1, .ref (sa 0))]) hx hb dX7_drift_154 hl (k := 5) rfl (by rw [e154_134]; rfl) (by decide) rfl (fun ls hl => ?_)
                    refine lv_goto (tgt := 16) hx hb dX7_drift_157 (by decide) ?_
                    exact ih16 q153_133 v60_87 v79_92 u v154_134 (by omega) (fun a ha => (up_n c153 ha).trans (hqk a ha)) (by omega) _ _ _ hw (lv_sub hl [0, 6, 1, 2, 7, 8] rfl)
            · have h86_94 := h86_94
              refine lv_if_eq (tgt := 101) hx hb dX7_drift_89 (by decide) (fun c89_135 => ?_) (fun c89_135 => absurd c89_135 (by decide))
              refine lv_iconst (v := 2) hx hb dX7_drift_101 (by decide) ?_
              refine lv_istore (lv' := [(4, .int 2), (8, .int v79_92), (7, .int v60_87), (6, .int r39_80), (5, .int t), (3, .int y), (2, .int x), (0, .ref ta), (1, .ref (sa 0))]) hx hb dX7_drift_102 hl (by decide) rfl (fun ls hl => ?_)
              refine lv_iload hx hb dX7_drift_104 (lv_at hl 4 rfl) ?_
              refine lv_aload_n hx hb dX7_drift_106 rfl (lv_at hl 7 rfl) ?_
              refine gf_X7_25 (v := (pI S) 53 ta) X hw hA.1 rfl dX7_drift_107 ?_
              refine lv_icmp_lt (tgt := 133) hx hb dX7_drift_110 (by decide) (fun c110_136 => ?_) (fun c110_136 => ?_)
              · have D110_136 := iLt c110_136 rfl rfl
                refine lv_aload_n hx hb dX7_drift_133 rfl (lv_at hl 7 rfl) ?_
                refine gf_X7_9 (b := tm) X hw hA.1 hA.2.1 dX7_drift_134 ?_
                refine lv_iload hx hb dX7_drift_137 (lv_at hl 4 rfl) ?_
                refine lv_iload hx hb dX7_drift_139 (lv_at hl 0 rfl) ?_
                refine lv_sipush (v := 10000) hx hb dX7_drift_141 (by decide) ?_
                refine lv_imul hx hb dX7_drift_144 ?_
                refine lv_topi (fun v144_137 e144_137 => ?_)
                refine lv_iload_n hx hb dX7_drift_145 rfl (lv_at hl 5 rfl) ?_
                refine lv_bipush (v := 100) hx hb dX7_drift_146 (by decide) ?_
                refine lv_imul hx hb dX7_drift_148 ?_
                refine lv_topi (fun v148_138 e148_138 => ?_)
                refine lv_iadd hx hb dX7_drift_149 ?_
                refine lv_topi (fun v149_139 e149_139 => ?_)
                refine lv_iload_n hx hb dX7_drift_150 rfl (lv_at hl 6 rfl) ?_
                refine lv_iadd hx hb dX7_drift_151 ?_
                refine lv_topi (fun v151_140 e151_140 => ?_)
                refine lv_i2s hx hb dX7_drift_152 rfl ?_
                refine lv_topi (fun v152_141 e152_141 => ?_)
                refine q_stS X hw hA.2.2.1 (vin hA.2.2.2 (by omega) (by omega)) dX7_drift_153 (fun H locs hw => ?_)
                obtain ⟨q153_142, eq153_142, hw⟩ : ∃ zz9, zz9 = va_up q16 tm (upd (q16 tm) t.toNatClampNeg (vp_nar .short v152_141)) ∧ PX G A s.heap (ch S (pI S) (pJ S) zz9 (qJ S)) H locs := ⟨_, rfl, hw⟩
                have c153 := eq153_142
                obtain ⟨v154_143, e154_143⟩ : ∃ y : Int32, y = t + 1 := ⟨_, rfl⟩
                have t154_143 := iAdd e154_143 rfl t_1 (by omega) (by omega)
                have t154 := t154_143
                refine lv_iinc (v := v154_143) (lv' := [(5, .int v154_143), (4, .int 2), (8, .int v79_92), (7, .int v60_87), (6, .int r39_80), (3, .int y), (2, .int x), (0, .ref ta), (1, .ref (sa 0))]) hx hb dX7_drift_154 hl (k := 4) rfl (by rw [e154_143]; rfl) (by decide) rfl (fun ls hl => ?_)
                refine lv_goto (tgt := 16) hx hb dX7_drift_157 (by decide) ?_
                exact ih16 q153_142 x y 2 v154_143 (by have := t_2; omega) (fun a ha => (up_n c153 ha).trans (hqk a ha)) (by omega) _ _ _ hw (lv_sub hl [0, 1, 5, 6, 7, 8] rfl)
              · have D110_136 := iNlt c110_136 rfl rfl
                refine lv_iload hx hb dX7_drift_113 (lv_at hl 0 rfl) ?_
                refine lv_if_ne (tgt := 133) hx hb dX7_drift_115 (by decide) (fun c115_144 => ?_) (fun c115_144 => absurd c115_144 (by decide))
                refine lv_aload_n hx hb dX7_drift_133 rfl (lv_at hl 7 rfl) ?_
                refine gf_X7_9 (b := tm) X hw hA.1 hA.2.1 dX7_drift_134 ?_
                refine lv_iload hx hb dX7_drift_137 (lv_at hl 4 rfl) ?_
                refine lv_iload hx hb dX7_drift_139 (lv_at hl 0 rfl) ?_
                refine lv_sipush (v := 10000) hx hb dX7_drift_141 (by decide) ?_
                refine lv_imul hx hb dX7_drift_144 ?_
                refine lv_topi (fun v144_145 e144_145 => ?_)
                refine lv_iload_n hx hb dX7_drift_145 rfl (lv_at hl 5 rfl) ?_
                refine lv_bipush (v := 100) hx hb dX7_drift_146 (by decide) ?_
                refine lv_imul hx hb dX7_drift_148 ?_
                refine lv_topi (fun v148_146 e148_146 => ?_)
                refine lv_iadd hx hb dX7_drift_149 ?_
                refine lv_topi (fun v149_147 e149_147 => ?_)
                refine lv_iload_n hx hb dX7_drift_150 rfl (lv_at hl 6 rfl) ?_
                refine lv_iadd hx hb dX7_drift_151 ?_
                refine lv_topi (fun v151_148 e151_148 => ?_)
                refine lv_i2s hx hb dX7_drift_152 rfl ?_
                refine lv_topi (fun v152_149 e152_149 => ?_)
                refine q_stS X hw hA.2.2.1 (vin hA.2.2.2 (by omega) (by omega)) dX7_drift_153 (fun H locs hw => ?_)
                obtain ⟨q153_150, eq153_150, hw⟩ : ∃ zz9, zz9 = va_up q16 tm (upd (q16 tm) t.toNatClampNeg (vp_nar .short v152_149)) ∧ PX G A s.heap (ch S (pI S) (pJ S) zz9 (qJ S)) H locs := ⟨_, rfl, hw⟩
                have c153 := eq153_150
                obtain ⟨v154_151, e154_151⟩ : ∃ y : Int32, y = t + 1 := ⟨_, rfl⟩
                have t154_151 := iAdd e154_151 rfl t_1 (by omega) (by omega)
                have t154 := t154_151
                refine lv_iinc (v := v154_151) (lv' := [(5, .int v154_151), (4, .int 2), (8, .int v79_92), (7, .int v60_87), (6, .int r39_80), (3, .int y), (2, .int x), (0, .ref ta), (1, .ref (sa 0))]) hx hb dX7_drift_154 hl (k := 4) rfl (by rw [e154_151]; rfl) (by decide) rfl (fun ls hl => ?_)
                refine lv_goto (tgt := 16) hx hb dX7_drift_157 (by decide) ?_
                exact ih16 q153_150 x y 2 v154_151 (by have := t_2; omega) (fun a ha => (up_n c153 ha).trans (hqk a ha)) (by omega) _ _ _ hw (lv_sub hl [0, 1, 5, 6, 7, 8] rfl)
  exact lp16 _ (qI S) ((pI S) 51 ta) ((pI S) 52 ta) 0 0 (by have := t_0; have := t_0; omega) (fun _ _ => rfl) (Nat.lt_succ_self _) _ _ _ hw (lv_sub hl [0, 1, 2, 3, 4, 5] rfl)
