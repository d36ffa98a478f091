set_option maxHeartbeats 4000000 in
set_option maxRecDepth 100000 in
theorem c_X10_cellOf (l : Launch) (G : Gh) (S : Pl) (x y : Int32)  : MtI l yX10_cellOf cX10_cellOf 2 (some .int) (Rm 0 0 0) G [.int x, .int y] S (fun (r : Int32) (S' : Pl) => S = S' ∧ True) 0 0 := by
  refine MtI.of (by decide) (Nat.le_of_ble_eq_true rfl) ?_
  intro p e s m args below meth c Q A X hw hin hret ls hl
  have hx := X.1.1
  have hb := X.1.2.1
  have hl : lv_has ls 2 [(0, .int x), (1, .int y)] := hl
  refine lv_iload_n hx hb dX10_cellOf_0 rfl (lv_at hl 1 rfl) ?_
  refine lv_bipush (v := 10) hx hb dX10_cellOf_1 (by decide) ?_
  refine lv_idiv hx hb dX10_cellOf_3 (by decide) ?_
  refine lv_topi (fun v3_1 e3_1 => ?_)
  refine lv_bipush (v := 8) hx hb dX10_cellOf_4 (by decide) ?_
  refine lv_imul hx hb dX10_cellOf_6 ?_
  refine lv_topi (fun v6_2 e6_2 => ?_)
  refine lv_iload_n hx hb dX10_cellOf_7 rfl (lv_at hl 0 rfl) ?_
  refine lv_bipush (v := 10) hx hb dX10_cellOf_8 (by decide) ?_
  refine lv_idiv hx hb dX10_cellOf_10 (by decide) ?_
  refine lv_topi (fun v10_3 e10_3 => ?_)
  refine lv_iadd hx hb dX10_cellOf_11 ?_
  refine lv_topi (fun v11_4 e11_4 => ?_)
  exact hret v11_4 _ _ _ _ _ ⟨rfl, trivial⟩ hw rfl dX10_cellOf_12
set_option maxHeartbeats 4000000 in
set_option maxRecDepth 100000 in
theorem c_X10_quarterOf (l : Launch) (G : Gh) (S : Pl) (x y : Int32)  : MtI l yX10_quarterOf cX10_quarterOf 2 (some .int) (Rm 0 0 0) G [.int x, .int y] S (fun (r : Int32) (S' : Pl) => S = S' ∧ True) 0 0 := by
  refine MtI.of (by decide) (Nat.le_of_ble_eq_true rfl) ?_
  intro p e s m args below meth c Q A X hw hin hret ls hl
  have hx := X.1.1
  have hb := X.1.2.1
  have hl : lv_has ls 2 [(0, .int x), (1, .int y)] := hl
  refine lv_iload_n hx hb dX10_quarterOf_0 rfl (lv_at hl 1 rfl) ?_
  refine lv_bipush (v := 40) hx hb dX10_quarterOf_1 (by decide) ?_
  refine lv_icmp_lt (tgt := 10) hx hb dX10_quarterOf_3 (by decide) (fun c3_1 => ?_) (fun c3_1 => ?_)
  · have D3_1 := iLt c3_1 rfl t_40
    refine lv_iconst (v := 0) hx hb dX10_quarterOf_10 (by decide) ?_
    refine lv_iload_n hx hb dX10_quarterOf_11 rfl (lv_at hl 0 rfl) ?_
    refine lv_bipush (v := 40) hx hb dX10_quarterOf_12 (by decide) ?_
    refine lv_icmp_lt (tgt := 21) hx hb dX10_quarterOf_14 (by decide) (fun c14_2 => ?_) (fun c14_2 => ?_)
    · have D14_2 := iLt c14_2 rfl t_40
      refine lv_iconst (v := 0) hx hb dX10_quarterOf_21 (by decide) ?_
      refine lv_iadd hx hb dX10_quarterOf_22 ?_
      refine lv_topi (fun v22_3 e22_3 => ?_)
      exact hret v22_3 _ _ _ _ _ ⟨rfl, trivial⟩ hw rfl dX10_quarterOf_23
    · have D14_2 := iNlt c14_2 rfl t_40
      refine lv_iconst (v := 1) hx hb dX10_quarterOf_17 (by decide) ?_
      refine lv_goto (tgt := 22) hx hb dX10_quarterOf_18 (by decide) ?_
      refine lv_iadd hx hb dX10_quarterOf_22 ?_
      refine lv_topi (fun v22_4 e22_4 => ?_)
      exact hret v22_4 _ _ _ _ _ ⟨rfl, trivial⟩ hw rfl dX10_quarterOf_23
  · have D3_1 := iNlt c3_1 rfl t_40
    refine lv_iconst (v := 2) hx hb dX10_quarterOf_6 (by decide) ?_
    refine lv_goto (tgt := 11) hx hb dX10_quarterOf_7 (by decide) ?_
    refine lv_iload_n hx hb dX10_quarterOf_11 rfl (lv_at hl 0 rfl) ?_
    refine lv_bipush (v := 40) hx hb dX10_quarterOf_12 (by decide) ?_
    refine lv_icmp_lt (tgt := 21) hx hb dX10_quarterOf_14 (by decide) (fun c14_5 => ?_) (fun c14_5 => ?_)
    · have D14_5 := iLt c14_5 rfl t_40
      refine lv_iconst (v := 0) hx hb dX10_quarterOf_21 (by decide) ?_
      refine lv_iadd hx hb dX10_quarterOf_22 ?_
      refine lv_topi (fun v22_6 e22_6 => ?_)
      exact hret v22_6 _ _ _ _ _ ⟨rfl, trivial⟩ hw rfl dX10_quarterOf_23
    · have D14_5 := iNlt c14_5 rfl t_40
      refine lv_iconst (v := 1) hx hb dX10_quarterOf_17 (by decide) ?_
      refine lv_goto (tgt := 22) hx hb dX10_quarterOf_18 (by decide) ?_
      refine lv_iadd hx hb dX10_quarterOf_22 ?_
      refine lv_topi (fun v22_7 e22_7 => ?_)
      exact hret v22_7 _ _ _ _ _ ⟨rfl, trivial⟩ hw rfl dX10_quarterOf_23
set_option maxHeartbeats 4000000 in
set_option maxRecDepth 100000 in
theorem c_X7_weight (l : Launch) (G : Gh) (S : Pl) (ta tm : Nat) (hA : shTale S ta tm) : MtI l yX7_weight cX7_weight 1 (some .int) (Rm 0 0 0) G [.ref ta] S (fun (r : Int32) (S' : Pl) => S = S' ∧ r = pI S 54 ta) 0 0 := by
  refine MtI.of (by decide) (Nat.le_of_ble_eq_true rfl) ?_
  intro p e s m args below meth c Q A X hw hin hret ls hl
  have hx := X.1.1
  have hb := X.1.2.1
  have hl : lv_has ls 1 [(0, .ref ta)] := hl
  refine lv_aload_n hx hb dX7_weight_0 rfl (lv_at hl 0 rfl) ?_
  refine gf_X7_28 (v := (pI S) 54 ta) X hw hA.1 rfl dX7_weight_1 ?_
  exact hret ((pI S) 54 ta) _ _ _ _ _ ⟨rfl, rfl⟩ hw rfl dX7_weight_4
set_option maxHeartbeats 4000000 in
set_option maxRecDepth 100000 in
theorem c_X7_drift (l : Launch) (G : Gh) (S : Pl) (ta tm : Nat) (sa : Nat → Nat) (hA : shTale S ta tm) (hS : shSea S sa) : MtV l yX7_drift cX7_drift 9 none (Rm 4 0 0) G [.ref ta, .ref (sa 0)] S (fun (S' : Pl) => ∃ q', ch S (pI S) (pJ S) q' (qJ S) = S' ∧ True) 0 0 := by
  refine MtV.of (by decide) (Nat.le_of_ble_eq_true rfl) ?_
  intro p e s m args below meth c Q A X hw hin hret ls hl
  have hx := X.1.1
  have hb := X.1.2.1
  have hl : lv_has ls 9 [(0, .ref ta), (1, .ref (sa 0))] := hl
  refine lv_aload_n hx hb dX7_drift_0 rfl (lv_at hl 0 rfl) ?_
  refine gf_X7_19 (v := (pI S) 51 ta) X hw hA.1 rfl dX7_drift_1 ?_
  refine lv_istore_n (lv' := [(2, .int ((pI S) 51 ta)), (0, .ref ta), (1, .ref (sa 0))]) hx hb dX7_drift_4 rfl hl (by decide) rfl (fun ls hl => ?_)
  refine lv_aload_n hx hb dX7_drift_5 rfl (lv_at hl 1 rfl) ?_
  refine gf_X7_22 (v := (pI S) 52 ta) X hw hA.1 rfl dX7_drift_6 ?_
  refine lv_istore_n (lv' := [(3, .int ((pI S) 52 ta)), (2, .int ((pI S) 51 ta)), (0, .ref ta), (1, .ref (sa 0))]) hx hb dX7_drift_9 rfl hl (by decide) rfl (fun ls hl => ?_)
  refine lv_iconst (v := 0) hx hb dX7_drift_10 (by decide) ?_
  refine lv_istore (lv' := [(4, .int 0), (3, .int ((pI S) 52 ta)), (2, .int ((pI S) 51 ta)), (0, .ref ta), (1, .ref (sa 0))]) hx hb dX7_drift_11 hl (by decide) rfl (fun ls hl => ?_)
  refine lv_iconst (v := 0) hx hb dX7_drift_13 (by decide) ?_
  refine lv_istore (lv' := [(5, .int 0), (4, .int 0), (3, .int ((pI S) 52 ta)), (2, .int ((pI S) 51 ta)), (0, .ref ta), (1, .ref (sa 0))]) hx hb dX7_drift_14 hl (by decide) rfl (fun ls hl => ?_)
  have lp16 : ∀ (N9 : Nat) (q16 : Nat → Nat → Int32) (x : Int32) (y : Int32) (u : Int32) (t : Int32), (0 ≤ t.toInt ∧ t.toInt ≤ 73) → (73 - t.toInt).toNat < N9 → ∀ (H : Heap) (locs : List Loc) (ls : Array Slot), PX G A s.heap (ch S (pI S) (pJ S) q16 (qJ S)) H locs → lv_has ls 9 [(5, .int t), (4, .int u), (3, .int y), (2, .int x), (0, .ref ta), (1, .ref (sa 0))] → W p l e (Rm 4 0 0) s m args below meth c H locs 0 0 Q (F0 m 16 ls []) := by
    intro N9
    induction N9 with
    | zero => intro q16 x y u t hi hm; exact absurd hm (Nat.not_lt_zero _)
    | succ N9 ih16 =>
      intro q16 x y u t hi hm H locs ls hw hl
      refine lv_iload hx hb dX7_drift_16 (lv_at hl 0 rfl) ?_
      refine lv_bipush (v := 72) hx hb dX7_drift_18 (by decide) ?_
      refine lv_icmp_gt (tgt := 160) hx hb dX7_drift_20 (by decide) (fun c20_1 => ?_) (fun c20_1 => ?_)
      · have D20_1 := iLt c20_1 t_72 rfl
        exact hret _ _ _ _ _ ⟨_, rfl, trivial⟩ hw dX7_drift_160
      · have D20_1 := iNlt c20_1 t_72 rfl
        refine lv_iload hx hb dX7_drift_23 (lv_at hl 0 rfl) ?_
        refine lv_aload_n hx hb dX7_drift_25 rfl (lv_at hl 4 rfl) ?_
        refine gf_X7_25 (v := (pI S) 53 ta) X hw hA.1 rfl dX7_drift_26 ?_
        refine lv_icmp_le (tgt := 104) hx hb dX7_drift_29 (by decide) (fun c29_2 => ?_) (fun c29_2 => ?_)
        · have D29_2 := iLe c29_2 rfl rfl
          refine lv_iload hx hb dX7_drift_104 (lv_at hl 0 rfl) ?_
          refine lv_aload_n hx hb dX7_drift_106 rfl (lv_at hl 4 rfl) ?_
          refine gf_X7_25 (v := (pI S) 53 ta) X hw hA.1 rfl dX7_drift_107 ?_
          refine lv_icmp_lt (tgt := 133) hx hb dX7_drift_110 (by decide) (fun c110_3 => ?_) (fun c110_3 => ?_)
          · have D110_3 := iLt c110_3 rfl rfl
            refine lv_aload_n hx hb dX7_drift_133 rfl (lv_at hl 4 rfl) ?_
            refine gf_X7_9 (b := tm) X hw hA.1 hA.2.1 dX7_drift_134 ?_
            refine lv_iload hx hb dX7_drift_137 (lv_at hl 0 rfl) ?_
            refine lv_iload hx hb dX7_drift_139 (lv_at hl 1 rfl) ?_
            refine lv_sipush (v := 10000) hx hb dX7_drift_141 (by decide) ?_
            refine lv_imul hx hb dX7_drift_144 ?_
            refine lv_topi (fun v144_4 e144_4 => ?_)
            refine lv_iload_n hx hb dX7_drift_145 rfl (lv_at hl 2 rfl) ?_
            refine lv_bipush (v := 100) hx hb dX7_drift_146 (by decide) ?_
            refine lv_imul hx hb dX7_drift_148 ?_
            refine lv_topi (fun v148_5 e148_5 => ?_)
            refine lv_iadd hx hb dX7_drift_149 ?_
            refine lv_topi (fun v149_6 e149_6 => ?_)
            refine lv_iload_n hx hb dX7_drift_150 rfl (lv_at hl 3 rfl) ?_
            refine lv_iadd hx hb dX7_drift_151 ?_
            refine lv_topi (fun v151_7 e151_7 => ?_)
            refine lv_i2s hx hb dX7_drift_152 rfl ?_
            refine lv_topi (fun v152_8 e152_8 => ?_)
            refine q_stS X hw hA.2.2.1 (vin hA.2.2.2 (by omega) (by omega)) dX7_drift_153 (fun H locs hw => ?_)
            obtain ⟨q153_9, hw⟩ : ∃ zz9, PX G A s.heap (ch S (pI S) (pJ S) zz9 (qJ S)) H locs := ⟨_, hw⟩
            obtain ⟨v154_10, e154_10⟩ : ∃ y : Int32, y = t + 1 := ⟨_, rfl⟩
            have t154_10 := iAdd e154_10 rfl t_1 (by omega) (by omega)
            have t154 := t154_10
            refine lv_iinc (v := v154_10) (lv' := [(5, .int v154_10), (4, .int u), (3, .int y), (2, .int x), (0, .ref ta), (1, .ref (sa 0))]) hx hb dX7_drift_154 hl (k := 0) rfl (by rw [e154_10]; rfl) (by decide) rfl (fun ls hl => ?_)
            refine lv_goto (tgt := 16) hx hb dX7_drift_157 (by decide) ?_
            exact ih16 q153_9 x y u v154_10 (by omega) (by omega) _ _ _ hw (lv_sub hl [0, 1, 2, 3, 4, 5] rfl)
          · have D110_3 := iNlt c110_3 rfl rfl
            refine lv_iload hx hb dX7_drift_113 (lv_at hl 1 rfl) ?_
            refine lv_if_ne (tgt := 133) hx hb dX7_drift_115 (by decide) (fun c115_11 => ?_) (fun c115_11 => ?_)
            · have D115_11 := iNe c115_11 rfl t_0
              refine lv_aload_n hx hb dX7_drift_133 rfl (lv_at hl 4 rfl) ?_
              refine gf_X7_9 (b := tm) X hw hA.1 hA.2.1 dX7_drift_134 ?_
              refine lv_iload hx hb dX7_drift_137 (lv_at hl 0 rfl) ?_
              refine lv_iload hx hb dX7_drift_139 (lv_at hl 1 rfl) ?_
              refine lv_sipush (v := 10000) hx hb dX7_drift_141 (by decide) ?_
              refine lv_imul hx hb dX7_drift_144 ?_
              refine lv_topi (fun v144_12 e144_12 => ?_)
              refine lv_iload_n hx hb dX7_drift_145 rfl (lv_at hl 2 rfl) ?_
              refine lv_bipush (v := 100) hx hb dX7_drift_146 (by decide) ?_
              refine lv_imul hx hb dX7_drift_148 ?_
              refine lv_topi (fun v148_13 e148_13 => ?_)
              refine lv_iadd hx hb dX7_drift_149 ?_
              refine lv_topi (fun v149_14 e149_14 => ?_)
              refine lv_iload_n hx hb dX7_drift_150 rfl (lv_at hl 3 rfl) ?_
              refine lv_iadd hx hb dX7_drift_151 ?_
              refine lv_topi (fun v151_15 e151_15 => ?_)
              refine lv_i2s hx hb dX7_drift_152 rfl ?_
              refine lv_topi (fun v152_16 e152_16 => ?_)
              refine q_stS X hw hA.2.2.1 (vin hA.2.2.2 (by omega) (by omega)) dX7_drift_153 (fun H locs hw => ?_)
              obtain ⟨q153_17, hw⟩ : ∃ zz9, PX G A s.heap (ch S (pI S) (pJ S) zz9 (qJ S)) H locs := ⟨_, hw⟩
              obtain ⟨v154_18, e154_18⟩ : ∃ y : Int32, y = t + 1 := ⟨_, rfl⟩
              have t154_18 := iAdd e154_18 rfl t_1 (by omega) (by omega)
              have t154 := t154_18
              refine lv_iinc (v := v154_18) (lv' := [(5, .int v154_18), (4, .int u), (3, .int y), (2, .int x), (0, .ref ta), (1, .ref (sa 0))]) hx hb dX7_drift_154 hl (k := 0) rfl (by rw [e154_18]; rfl) (by decide) rfl (fun ls hl => ?_)
              refine lv_goto (tgt := 16) hx hb dX7_drift_157 (by decide) ?_
              exact ih16 q153_17 x y u v154_18 (by omega) (by omega) _ _ _ hw (lv_sub hl [0, 1, 2, 3, 4, 5] rfl)
            · have D115_11 := iEq c115_11 rfl t_0
              refine lv_aload_n hx hb dX7_drift_118 rfl (lv_at hl 5 rfl) ?_
              refine lv_iload_n hx hb dX7_drift_119 rfl (lv_at hl 3 rfl) ?_
              refine lv_iload_n hx hb dX7_drift_120 rfl (lv_at hl 2 rfl) ?_
              refine k_SNi (n := 2) (host := RX10) X hw (c_X10_cellOf l G _ x y) (List.mem_of_getElem? (i := 11) rfl) wd_r20_1 wd_r1_2 wd_r20_2 ⟨by decide, by decide, by decide +kernel⟩ rfl rfl ⟨Nat.le_of_ble_eq_true rfl, Nat.le_of_ble_eq_true rfl⟩ rfl rfl hl.1 (Nat.le_of_ble_eq_true rfl) dX7_drift_121 ⟨Nat.le_of_ble_eq_true rfl, Nat.le_of_ble_eq_true rfl⟩ (fun r121_19 S121_21 H locs h121_20 hw => ?_)
              obtain ⟨rfl, h121_20⟩ := h121_20
              refine k_Vi (n := 1) X hw (rcvk (ci := 3) X hw hS.1 (fun _ _ _ _ _ _ _ => ⟨_, rfl⟩) rfl) (c_X3_hasLand l G _ sa r121_19 hS) wd_r20_3 wd_r15_19 wd_r15_20 wd_r2_9 wd_r15_21 ⟨by decide, by decide, by decide +kernel⟩ rfl rfl ⟨Nat.le_of_ble_eq_true rfl, Nat.le_of_ble_eq_true rfl⟩ rfl rfl hl.1 (Nat.le_of_ble_eq_true rfl) dX7_drift_124 ⟨Nat.le_of_ble_eq_true rfl, Nat.le_of_ble_eq_true rfl⟩ (fun r124_22 S124_24 H locs h124_23 hw => ?_)
              rcases h124_23 with ⟨rfl, rfl, h124_23⟩ | ⟨rfl, rfl, h124_23⟩
              · have h124_23 := h124_23
                refine lv_if_eq (tgt := 133) hx hb dX7_drift_127 (by decide) (fun c127_25 => absurd c127_25 (by decide)) (fun c127_25 => ?_)
                refine lv_iconst (v := 1) hx hb dX7_drift_130 (by decide) ?_
                refine lv_istore (lv' := [(4, .int 1), (5, .int t), (3, .int y), (2, .int x), (0, .ref ta), (1, .ref (sa 0))]) hx hb dX7_drift_131 hl (by decide) rfl (fun ls hl => ?_)
                refine lv_aload_n hx hb dX7_drift_133 rfl (lv_at hl 4 rfl) ?_
                refine gf_X7_9 (b := tm) X hw hA.1 hA.2.1 dX7_drift_134 ?_
                refine lv_iload hx hb dX7_drift_137 (lv_at hl 1 rfl) ?_
                refine lv_iload hx hb dX7_drift_139 (lv_at hl 0 rfl) ?_
                refine lv_sipush (v := 10000) hx hb dX7_drift_141 (by decide) ?_
                refine lv_imul hx hb dX7_drift_144 ?_
                refine lv_topi (fun v144_26 e144_26 => ?_)
                refine lv_iload_n hx hb dX7_drift_145 rfl (lv_at hl 2 rfl) ?_
                refine lv_bipush (v := 100) hx hb dX7_drift_146 (by decide) ?_
                refine lv_imul hx hb dX7_drift_148 ?_
                refine lv_topi (fun v148_27 e148_27 => ?_)
                refine lv_iadd hx hb dX7_drift_149 ?_
                refine lv_topi (fun v149_28 e149_28 => ?_)
                refine lv_iload_n hx hb dX7_drift_150 rfl (lv_at hl 3 rfl) ?_
                refine lv_iadd hx hb dX7_drift_151 ?_
                refine lv_topi (fun v151_29 e151_29 => ?_)
                refine lv_i2s hx hb dX7_drift_152 rfl ?_
                refine lv_topi (fun v152_30 e152_30 => ?_)
                refine q_stS X hw hA.2.2.1 (vin hA.2.2.2 (by omega) (by omega)) dX7_drift_153 (fun H locs hw => ?_)
                obtain ⟨q153_31, hw⟩ : ∃ zz9, PX G A s.heap (ch S (pI S) (pJ S) zz9 (qJ S)) H locs := ⟨_, hw⟩
                obtain ⟨v154_32, e154_32⟩ : ∃ y : Int32, y = t + 1 := ⟨_, rfl⟩
                have t154_32 := iAdd e154_32 rfl t_1 (by omega) (by omega)
                have t154 := t154_32
                refine lv_iinc (v := v154_32) (lv' := [(5, .int v154_32), (4, .int 1), (3, .int y), (2, .int x), (0, .ref ta), (1, .ref (sa 0))]) hx hb dX7_drift_154 hl (k := 1) rfl (by rw [e154_32]; rfl) (by decide) rfl (fun ls hl => ?_)
                refine lv_goto (tgt := 16) hx hb dX7_drift_157 (by decide) ?_
                exact ih16 q153_31 x y 1 v154_32 (by have := t_1; omega) (by omega) _ _ _ hw (lv_sub hl [0, 1, 2, 3, 4, 5] rfl)
              · have h124_23 := h124_23
                refine lv_if_eq (tgt := 133) hx hb dX7_drift_127 (by decide) (fun c127_33 => ?_) (fun c127_33 => absurd c127_33 (by decide))
                refine lv_aload_n hx hb dX7_drift_133 rfl (lv_at hl 4 rfl) ?_
                refine gf_X7_9 (b := tm) X hw hA.1 hA.2.1 dX7_drift_134 ?_
                refine lv_iload hx hb dX7_drift_137 (lv_at hl 0 rfl) ?_
                refine lv_iload hx hb dX7_drift_139 (lv_at hl 1 rfl) ?_
                refine lv_sipush (v := 10000) hx hb dX7_drift_141 (by decide) ?_
                refine lv_imul hx hb dX7_drift_144 ?_
                refine lv_topi (fun v144_34 e144_34 => ?_)
                refine lv_iload_n hx hb dX7_drift_145 rfl (lv_at hl 2 rfl) ?_
                refine lv_bipush (v := 100) hx hb dX7_drift_146 (by decide) ?_
                refine lv_imul hx hb dX7_drift_148 ?_
                refine lv_topi (fun v148_35 e148_35 => ?_)
                refine lv_iadd hx hb dX7_drift_149 ?_
                refine lv_topi (fun v149_36 e149_36 => ?_)
                refine lv_iload_n hx hb dX7_drift_150 rfl (lv_at hl 3 rfl) ?_
                refine lv_iadd hx hb dX7_drift_151 ?_
                refine lv_topi (fun v151_37 e151_37 => ?_)
                refine lv_i2s hx hb dX7_drift_152 rfl ?_
                refine lv_topi (fun v152_38 e152_38 => ?_)
                refine q_stS X hw hA.2.2.1 (vin hA.2.2.2 (by omega) (by omega)) dX7_drift_153 (fun H locs hw => ?_)
                obtain ⟨q153_39, hw⟩ : ∃ zz9, PX G A s.heap (ch S (pI S) (pJ S) zz9 (qJ S)) H locs := ⟨_, hw⟩
                obtain ⟨v154_40, e154_40⟩ : ∃ y : Int32, y = t + 1 := ⟨_, rfl⟩
                have t154_40 := iAdd e154_40 rfl t_1 (by omega) (by omega)
                have t154 := t154_40
                refine lv_iinc (v := v154_40) (lv' := [(5, .int v154_40), (4, .int u), (3, .int y), (2, .int x), (0, .ref ta), (1, .ref (sa 0))]) hx hb dX7_drift_154 hl (k := 0) rfl (by rw [e154_40]; rfl) (by decide) rfl (fun ls hl => ?_)
                refine lv_goto (tgt := 16) hx hb dX7_drift_157 (by decide) ?_
                exact ih16 q153_39 x y u v154_40 (by omega) (by omega) _ _ _ hw (lv_sub hl [0, 1, 2, 3, 4, 5] rfl)
        · have D29_2 := iNle c29_2 rfl rfl
          refine lv_iload hx hb dX7_drift_32 (lv_at hl 1 rfl) ?_
          refine lv_if_ne (tgt := 104) hx hb dX7_drift_34 (by decide) (fun c34_41 => ?_) (fun c34_41 => ?_)
          · have D34_41 := iNe c34_41 rfl t_0
            refine lv_iload hx hb dX7_drift_104 (lv_at hl 0 rfl) ?_
            refine lv_aload_n hx hb dX7_drift_106 rfl (lv_at hl 4 rfl) ?_
            refine gf_X7_25 (v := (pI S) 53 ta) X hw hA.1 rfl dX7_drift_107 ?_
            refine lv_icmp_lt (tgt := 133) hx hb dX7_drift_110 (by decide) (fun c110_42 => ?_) (fun c110_42 => ?_)
            · have D110_42 := iLt c110_42 rfl rfl
              refine lv_aload_n hx hb dX7_drift_133 rfl (lv_at hl 4 rfl) ?_
              refine gf_X7_9 (b := tm) X hw hA.1 hA.2.1 dX7_drift_134 ?_
              refine lv_iload hx hb dX7_drift_137 (lv_at hl 0 rfl) ?_
              refine lv_iload hx hb dX7_drift_139 (lv_at hl 1 rfl) ?_
              refine lv_sipush (v := 10000) hx hb dX7_drift_141 (by decide) ?_
              refine lv_imul hx hb dX7_drift_144 ?_
              refine lv_topi (fun v144_43 e144_43 => ?_)
              refine lv_iload_n hx hb dX7_drift_145 rfl (lv_at hl 2 rfl) ?_
              refine lv_bipush (v := 100) hx hb dX7_drift_146 (by decide) ?_
              refine lv_imul hx hb dX7_drift_148 ?_
              refine lv_topi (fun v148_44 e148_44 => ?_)
              refine lv_iadd hx hb dX7_drift_149 ?_
              refine lv_topi (fun v149_45 e149_45 => ?_)
              refine lv_iload_n hx hb dX7_drift_150 rfl (lv_at hl 3 rfl) ?_
              refine lv_iadd hx hb dX7_drift_151 ?_
              refine lv_topi (fun v151_46 e151_46 => ?_)
              refine lv_i2s hx hb dX7_drift_152 rfl ?_
              refine lv_topi (fun v152_47 e152_47 => ?_)
              refine q_stS X hw hA.2.2.1 (vin hA.2.2.2 (by omega) (by omega)) dX7_drift_153 (fun H locs hw => ?_)
              obtain ⟨q153_48, hw⟩ : ∃ zz9, PX G A s.heap (ch S (pI S) (pJ S) zz9 (qJ S)) H locs := ⟨_, hw⟩
              obtain ⟨v154_49, e154_49⟩ : ∃ y : Int32, y = t + 1 := ⟨_, rfl⟩
              have t154_49 := iAdd e154_49 rfl t_1 (by omega) (by omega)
              have t154 := t154_49
              refine lv_iinc (v := v154_49) (lv' := [(5, .int v154_49), (4, .int u), (3, .int y), (2, .int x), (0, .ref ta), (1, .ref (sa 0))]) hx hb dX7_drift_154 hl (k := 0) rfl (by rw [e154_49]; rfl) (by decide) rfl (fun ls hl => ?_)
              refine lv_goto (tgt := 16) hx hb dX7_drift_157 (by decide) ?_
              exact ih16 q153_48 x y u v154_49 (by omega) (by omega) _ _ _ hw (lv_sub hl [0, 1, 2, 3, 4, 5] rfl)
            · have D110_42 := iNlt c110_42 rfl rfl
              refine lv_iload hx hb dX7_drift_113 (lv_at hl 1 rfl) ?_
              refine lv_if_ne (tgt := 133) hx hb dX7_drift_115 (by decide) (fun c115_50 => ?_) (fun c115_50 => ?_)
              · have D115_50 := iNe c115_50 rfl t_0
                refine lv_aload_n hx hb dX7_drift_133 rfl (lv_at hl 4 rfl) ?_
                refine gf_X7_9 (b := tm) X hw hA.1 hA.2.1 dX7_drift_134 ?_
                refine lv_iload hx hb dX7_drift_137 (lv_at hl 0 rfl) ?_
                refine lv_iload hx hb dX7_drift_139 (lv_at hl 1 rfl) ?_
                refine lv_sipush (v := 10000) hx hb dX7_drift_141 (by decide) ?_
                refine lv_imul hx hb dX7_drift_144 ?_
                refine lv_topi (fun v144_51 e144_51 => ?_)
                refine lv_iload_n hx hb dX7_drift_145 rfl (lv_at hl 2 rfl) ?_
                refine lv_bipush (v := 100) hx hb dX7_drift_146 (by decide) ?_
                refine lv_imul hx hb dX7_drift_148 ?_
                refine lv_topi (fun v148_52 e148_52 => ?_)
                refine lv_iadd hx hb dX7_drift_149 ?_
                refine lv_topi (fun v149_53 e149_53 => ?_)
                refine lv_iload_n hx hb dX7_drift_150 rfl (lv_at hl 3 rfl) ?_
                refine lv_iadd hx hb dX7_drift_151 ?_
                refine lv_topi (fun v151_54 e151_54 => ?_)
                refine lv_i2s hx hb dX7_drift_152 rfl ?_
                refine lv_topi (fun v152_55 e152_55 => ?_)
                refine q_stS X hw hA.2.2.1 (vin hA.2.2.2 (by omega) (by omega)) dX7_drift_153 (fun H locs hw => ?_)
                obtain ⟨q153_56, hw⟩ : ∃ zz9, PX G A s.heap (ch S (pI S) (pJ S) zz9 (qJ S)) H locs := ⟨_, hw⟩
                obtain ⟨v154_57, e154_57⟩ : ∃ y : Int32, y = t + 1 := ⟨_, rfl⟩
                have t154_57 := iAdd e154_57 rfl t_1 (by omega) (by omega)
                have t154 := t154_57
                refine lv_iinc (v := v154_57) (lv' := [(5, .int v154_57), (4, .int u), (3, .int y), (2, .int x), (0, .ref ta), (1, .ref (sa 0))]) hx hb dX7_drift_154 hl (k := 0) rfl (by rw [e154_57]; rfl) (by decide) rfl (fun ls hl => ?_)
                refine lv_goto (tgt := 16) hx hb dX7_drift_157 (by decide) ?_
                exact ih16 q153_56 x y u v154_57 (by omega) (by omega) _ _ _ hw (lv_sub hl [0, 1, 2, 3, 4, 5] rfl)
              · have D115_50 := iEq c115_50 rfl t_0
                refine lv_aload_n hx hb dX7_drift_118 rfl (lv_at hl 5 rfl) ?_
                refine lv_iload_n hx hb dX7_drift_119 rfl (lv_at hl 3 rfl) ?_
                refine lv_iload_n hx hb dX7_drift_120 rfl (lv_at hl 2 rfl) ?_
                refine k_SNi (n := 2) (host := RX10) X hw (c_X10_cellOf l G _ x y) (List.mem_of_getElem? (i := 11) rfl) wd_r20_1 wd_r1_2 wd_r20_2 ⟨by decide, by decide, by decide +kernel⟩ rfl rfl ⟨Nat.le_of_ble_eq_true rfl, Nat.le_of_ble_eq_true rfl⟩ rfl rfl hl.1 (Nat.le_of_ble_eq_true rfl) dX7_drift_121 ⟨Nat.le_of_ble_eq_true rfl, Nat.le_of_ble_eq_true rfl⟩ (fun r121_58 S121_60 H locs h121_59 hw => ?_)
                obtain ⟨rfl, h121_59⟩ := h121_59
                refine k_Vi (n := 1) X hw (rcvk (ci := 3) X hw hS.1 (fun _ _ _ _ _ _ _ => ⟨_, rfl⟩) rfl) (c_X3_hasLand l G _ sa r121_58 hS) wd_r20_3 wd_r15_19 wd_r15_20 wd_r2_9 wd_r15_21 ⟨by decide, by decide, by decide +kernel⟩ rfl rfl ⟨Nat.le_of_ble_eq_true rfl, Nat.le_of_ble_eq_true rfl⟩ rfl rfl hl.1 (Nat.le_of_ble_eq_true rfl) dX7_drift_124 ⟨Nat.le_of_ble_eq_true rfl, Nat.le_of_ble_eq_true rfl⟩ (fun r124_61 S124_63 H locs h124_62 hw => ?_)
                rcases h124_62 with ⟨rfl, rfl, h124_62⟩ | ⟨rfl, rfl, h124_62⟩
                · have h124_62 := h124_62
                  refine lv_if_eq (tgt := 133) hx hb dX7_drift_127 (by decide) (fun c127_64 => absurd c127_64 (by decide)) (fun c127_64 => ?_)
                  refine lv_iconst (v := 1) hx hb dX7_drift_130 (by decide) ?_
                  refine lv_istore (lv' := [(4, .int 1), (5, .int t), (3, .int y), (2, .int x), (0, .ref ta), (1, .ref (sa 0))]) hx hb dX7_drift_131 hl (by decide) rfl (fun ls hl => ?_)
                  refine lv_aload_n hx hb dX7_drift_133 rfl (lv_at hl 4 rfl) ?_
                  refine gf_X7_9 (b := tm) X hw hA.1 hA.2.1 dX7_drift_134 ?_
                  refine lv_iload hx hb dX7_drift_137 (lv_at hl 1 rfl) ?_
                  refine lv_iload hx hb dX7_drift_139 (lv_at hl 0 rfl) ?_
                  refine lv_sipush (v := 10000) hx hb dX7_drift_141 (by decide) ?_
                  refine lv_imul hx hb dX7_drift_144 ?_
                  refine lv_topi (fun v144_65 e144_65 => ?_)
                  refine lv_iload_n hx hb dX7_drift_145 rfl (lv_at hl 2 rfl) ?_
                  refine lv_bipush (v := 100) hx hb dX7_drift_146 (by decide) ?_
                  refine lv_imul hx hb dX7_drift_148 ?_
                  refine lv_topi (fun v148_66 e148_66 => ?_)
                  refine lv_iadd hx hb dX7_drift_149 ?_
                  refine lv_topi (fun v149_67 e149_67 => ?_)
                  refine lv_iload_n hx hb dX7_drift_150 rfl (lv_at hl 3 rfl) ?_
                  refine lv_iadd hx hb dX7_drift_151 ?_
                  refine lv_topi (fun v151_68 e151_68 => ?_)
                  refine lv_i2s hx hb dX7_drift_152 rfl ?_
                  refine lv_topi (fun v152_69 e152_69 => ?_)
                  refine q_stS X hw hA.2.2.1 (vin hA.2.2.2 (by omega) (by omega)) dX7_drift_153 (fun H locs hw => ?_)
                  obtain ⟨q153_70, hw⟩ : ∃ zz9, PX G A s.heap (ch S (pI S) (pJ S) zz9 (qJ S)) H locs := ⟨_, hw⟩
                  obtain ⟨v154_71, e154_71⟩ : ∃ y : Int32, y = t + 1 := ⟨_, rfl⟩
                  have t154_71 := iAdd e154_71 rfl t_1 (by omega) (by omega)
                  have t154 := t154_71
                  refine lv_iinc (v := v154_71) (lv' := [(5, .int v154_71), (4, .int 1), (3, .int y), (2, .int x), (0, .ref ta), (1, .ref (sa 0))]) hx hb dX7_drift_154 hl (k := 1) rfl (by rw [e154_71]; rfl) (by decide) rfl (fun ls hl => ?_)
                  refine lv_goto (tgt := 16) hx hb dX7_drift_157 (by decide) ?_
                  exact ih16 q153_70 x y 1 v154_71 (by have := t_1; omega) (by omega) _ _ _ hw (lv_sub hl [0, 1, 2, 3, 4, 5] rfl)
                · have h124_62 := h124_62
                  refine lv_if_eq (tgt := 133) hx hb dX7_drift_127 (by decide) (fun c127_72 => ?_) (fun c127_72 => absurd c127_72 (by decide))
                  refine lv_aload_n hx hb dX7_drift_133 rfl (lv_at hl 4 rfl) ?_
                  refine gf_X7_9 (b := tm) X hw hA.1 hA.2.1 dX7_drift_134 ?_
                  refine lv_iload hx hb dX7_drift_137 (lv_at hl 0 rfl) ?_
                  refine lv_iload hx hb dX7_drift_139 (lv_at hl 1 rfl) ?_
                  refine lv_sipush (v := 10000) hx hb dX7_drift_141 (by decide) ?_
                  refine lv_imul hx hb dX7_drift_144 ?_
                  refine lv_topi (fun v144_73 e144_73 => ?_)
                  refine lv_iload_n hx hb dX7_drift_145 rfl (lv_at hl 2 rfl) ?_
                  refine lv_bipush (v := 100) hx hb dX7_drift_146 (by decide) ?_
                  refine lv_imul hx hb dX7_drift_148 ?_
                  refine lv_topi (fun v148_74 e148_74 => ?_)
                  refine lv_iadd hx hb dX7_drift_149 ?_
                  refine lv_topi (fun v149_75 e149_75 => ?_)
                  refine lv_iload_n hx hb dX7_drift_150 rfl (lv_at hl 3 rfl) ?_
                  refine lv_iadd hx hb dX7_drift_151 ?_
                  refine lv_topi (fun v151_76 e151_76 => ?_)
                  refine lv_i2s hx hb dX7_drift_152 rfl ?_
                  refine lv_topi (fun v152_77 e152_77 => ?_)
                  refine q_stS X hw hA.2.2.1 (vin hA.2.2.2 (by omega) (by omega)) dX7_drift_153 (fun H locs hw => ?_)
                  obtain ⟨q153_78, hw⟩ : ∃ zz9, PX G A s.heap (ch S (pI S) (pJ S) zz9 (qJ S)) H locs := ⟨_, hw⟩
                  obtain ⟨v154_79, e154_79⟩ : ∃ y : Int32, y = t + 1 := ⟨_, rfl⟩
                  have t154_79 := iAdd e154_79 rfl t_1 (by omega) (by omega)
                  have t154 := t154_79
                  refine lv_iinc (v := v154_79) (lv' := [(5, .int v154_79), (4, .int u), (3, .int y), (2, .int x), (0, .ref ta), (1, .ref (sa 0))]) hx hb dX7_drift_154 hl (k := 0) rfl (by rw [e154_79]; rfl) (by decide) rfl (fun ls hl => ?_)
                  refine lv_goto (tgt := 16) hx hb dX7_drift_157 (by decide) ?_
                  exact ih16 q153_78 x y u v154_79 (by omega) (by omega) _ _ _ hw (lv_sub hl [0, 1, 2, 3, 4, 5] rfl)
          · have D34_41 := iEq c34_41 rfl t_0
            refine lv_iload_n hx hb dX7_drift_37 rfl (lv_at hl 3 rfl) ?_
            refine lv_iload_n hx hb dX7_drift_38 rfl (lv_at hl 2 rfl) ?_
            refine k_SNi (n := 2) (host := RX10) X hw (c_X10_quarterOf l G _ x y) (List.mem_of_getElem? (i := 9) rfl) wd_r19_5 wd_r1_2 wd_r19_6 ⟨by decide, by decide, by decide +kernel⟩ rfl rfl ⟨Nat.le_of_ble_eq_true rfl, Nat.le_of_ble_eq_true rfl⟩ rfl rfl hl.1 (Nat.le_of_ble_eq_true rfl) dX7_drift_39 ⟨Nat.le_of_ble_eq_true rfl, Nat.le_of_ble_eq_true rfl⟩ (fun r39_80 S39_82 H locs h39_81 hw => ?_)
            obtain ⟨rfl, h39_81⟩ := h39_81
            refine lv_istore (lv' := [(6, .int r39_80), (5, .int t), (4, .int u), (3, .int y), (2, .int x), (0, .ref ta), (1, .ref (sa 0))]) hx hb dX7_drift_42 hl (by decide) rfl (fun ls hl => ?_)
            refine lv_iload_n hx hb dX7_drift_44 rfl (lv_at hl 4 rfl) ?_
            refine lv_aload_n hx hb dX7_drift_45 rfl (lv_at hl 6 rfl) ?_
            refine lv_aload_n hx hb dX7_drift_46 rfl (lv_at hl 5 rfl) ?_
            refine gf_X7_15 (v := (pI S) 50 ta) X hw hA.1 rfl dX7_drift_47 ?_
            refine lv_iload hx hb dX7_drift_50 (lv_at hl 0 rfl) ?_
            refine lv_iload hx hb dX7_drift_52 (lv_at hl 1 rfl) ?_
            refine lv_iconst (v := 1) hx hb dX7_drift_54 (by decide) ?_
            refine lv_isub hx hb dX7_drift_55 ?_
            refine lv_topi (fun v55_83 e55_83 => ?_)
            refine lv_iconst (v := 0) hx hb dX7_drift_56 (by decide) ?_
            refine k_Vi (n := 4) X hw (rcvk (ci := 3) X hw hS.1 (fun _ _ _ _ _ _ _ => ⟨_, rfl⟩) rfl) (c_X3_stepOf l G _ sa ((pI S) 50 ta) r39_80 v55_83 0 hS) wd_r19_7 wd_r19_8 wd_r19_9 wd_r2_9 wd_r19_10 ⟨by decide, by decide, by decide +kernel⟩ rfl rfl ⟨Nat.le_of_ble_eq_true rfl, Nat.le_of_ble_eq_true rfl⟩ rfl rfl hl.1 (Nat.le_of_ble_eq_true rfl) dX7_drift_57 ⟨Nat.le_of_ble_eq_true rfl, Nat.le_of_ble_eq_true rfl⟩ (fun r57_84 S57_86 H locs h57_85 hw => ?_)
            have := t_0
            obtain ⟨rfl, h57_85⟩ := h57_85
            refine lv_iadd hx hb dX7_drift_60 ?_
            refine lv_topi (fun v60_87 e60_87 => ?_)
            refine lv_istore (lv' := [(7, .int v60_87), (6, .int r39_80), (5, .int t), (4, .int u), (3, .int y), (2, .int x), (0, .ref ta), (1, .ref (sa 0))]) hx hb dX7_drift_61 hl (by decide) rfl (fun ls hl => ?_)
            refine lv_iload_n hx hb dX7_drift_63 rfl (lv_at hl 4 rfl) ?_
            refine lv_aload_n hx hb dX7_drift_64 rfl (lv_at hl 7 rfl) ?_
            refine lv_aload_n hx hb dX7_drift_65 rfl (lv_at hl 6 rfl) ?_
            refine gf_X7_15 (v := (pI S) 50 ta) X hw hA.1 rfl dX7_drift_66 ?_
            refine lv_iload hx hb dX7_drift_69 (lv_at hl 1 rfl) ?_
            refine lv_iload hx hb dX7_drift_71 (lv_at hl 2 rfl) ?_
            refine lv_iconst (v := 1) hx hb dX7_drift_73 (by decide) ?_
            refine lv_isub hx hb dX7_drift_74 ?_
            refine lv_topi (fun v74_88 e74_88 => ?_)
            refine lv_iconst (v := 1) hx hb dX7_drift_75 (by decide) ?_
            refine k_Vi (n := 4) X hw (rcvk (ci := 3) X hw hS.1 (fun _ _ _ _ _ _ _ => ⟨_, rfl⟩) rfl) (c_X3_stepOf l G _ sa ((pI S) 50 ta) r39_80 v74_88 1 hS) wd_r19_7 wd_r19_8 wd_r19_9 wd_r2_9 wd_r19_10 ⟨by decide, by decide, by decide +kernel⟩ rfl rfl ⟨Nat.le_of_ble_eq_true rfl, Nat.le_of_ble_eq_true rfl⟩ rfl rfl hl.1 (Nat.le_of_ble_eq_true rfl) dX7_drift_76 ⟨Nat.le_of_ble_eq_true rfl, Nat.le_of_ble_eq_true rfl⟩ (fun r76_89 S76_91 H locs h76_90 hw => ?_)
            have := t_1
            obtain ⟨rfl, h76_90⟩ := h76_90
            refine lv_iadd hx hb dX7_drift_79 ?_
            refine lv_topi (fun v79_92 e79_92 => ?_)
            refine lv_istore (lv' := [(8, .int v79_92), (7, .int v60_87), (6, .int r39_80), (5, .int t), (4, .int u), (3, .int y), (2, .int x), (0, .ref ta), (1, .ref (sa 0))]) hx hb dX7_drift_80 hl (by decide) rfl (fun ls hl => ?_)
            refine lv_iload hx hb dX7_drift_82 (lv_at hl 1 rfl) ?_
            refine lv_iload hx hb dX7_drift_84 (lv_at hl 0 rfl) ?_
            refine k_SNi (n := 2) (host := RX10) X hw (c_X10_isPoint l G _ v60_87 v79_92) (List.mem_of_getElem? (i := 10) rfl) wd_r19_23 wd_r1_2 wd_r20_0 ⟨by decide, by decide, by decide +kernel⟩ rfl rfl ⟨Nat.le_of_ble_eq_true rfl, Nat.le_of_ble_eq_true rfl⟩ rfl rfl hl.1 (Nat.le_of_ble_eq_true rfl) dX7_drift_86 ⟨Nat.le_of_ble_eq_true rfl, Nat.le_of_ble_eq_true rfl⟩ (fun r86_93 S86_95 H locs h86_94 hw => ?_)
            rcases h86_94 with ⟨rfl, rfl, h86_94⟩ | ⟨rfl, rfl, h86_94⟩
            · have h86_94 := h86_94
              refine lv_if_eq (tgt := 101) hx hb dX7_drift_89 (by decide) (fun c89_96 => absurd c89_96 (by decide)) (fun c89_96 => ?_)
              refine lv_iload hx hb dX7_drift_92 (lv_at hl 1 rfl) ?_
              refine lv_istore_n (lv' := [(2, .int v60_87), (8, .int v79_92), (7, .int v60_87), (6, .int r39_80), (5, .int t), (4, .int u), (3, .int y), (0, .ref ta), (1, .ref (sa 0))]) hx hb dX7_drift_94 rfl hl (by decide) rfl (fun ls hl => ?_)
              refine lv_iload hx hb dX7_drift_95 (lv_at hl 1 rfl) ?_
              refine lv_istore_n (lv' := [(3, .int v79_92), (2, .int v60_87), (8, .int v79_92), (7, .int v60_87), (6, .int r39_80), (5, .int t), (4, .int u), (0, .ref ta), (1, .ref (sa 0))]) hx hb dX7_drift_97 rfl hl (by decide) rfl (fun ls hl => ?_)
              refine lv_goto (tgt := 104) hx hb dX7_drift_98 (by decide) ?_
              refine lv_iload hx hb dX7_drift_104 (lv_at hl 5 rfl) ?_
              refine lv_aload_n hx hb dX7_drift_106 rfl (lv_at hl 7 rfl) ?_
              refine gf_X7_25 (v := (pI S) 53 ta) X hw hA.1 rfl dX7_drift_107 ?_
              refine lv_icmp_lt (tgt := 133) hx hb dX7_drift_110 (by decide) (fun c110_97 => ?_) (fun c110_97 => ?_)
              · have D110_97 := iLt c110_97 rfl rfl
                refine lv_aload_n hx hb dX7_drift_133 rfl (lv_at hl 7 rfl) ?_
                refine gf_X7_9 (b := tm) X hw hA.1 hA.2.1 dX7_drift_134 ?_
                refine lv_iload hx hb dX7_drift_137 (lv_at hl 5 rfl) ?_
                refine lv_iload hx hb dX7_drift_139 (lv_at hl 6 rfl) ?_
                refine lv_sipush (v := 10000) hx hb dX7_drift_141 (by decide) ?_
                refine lv_imul hx hb dX7_drift_144 ?_
                refine lv_topi (fun v144_98 e144_98 => ?_)
                refine lv_iload_n hx hb dX7_drift_145 rfl (lv_at hl 0 rfl) ?_
                refine lv_bipush (v := 100) hx hb dX7_drift_146 (by decide) ?_
                refine lv_imul hx hb dX7_drift_148 ?_
                refine lv_topi (fun v148_99 e148_99 => ?_)
                refine lv_iadd hx hb dX7_drift_149 ?_
                refine lv_topi (fun v149_100 e149_100 => ?_)
                refine lv_iload_n hx hb dX7_drift_150 rfl (lv_at hl 1 rfl) ?_
                refine lv_iadd hx hb dX7_drift_151 ?_
                refine lv_topi (fun v151_101 e151_101 => ?_)
                refine lv_i2s hx hb dX7_drift_152 rfl ?_
                refine lv_topi (fun v152_102 e152_102 => ?_)
                refine q_stS X hw hA.2.2.1 (vin hA.2.2.2 (by omega) (by omega)) dX7_drift_153 (fun H locs hw => ?_)
                obtain ⟨q153_103, hw⟩ : ∃ zz9, PX G A s.heap (ch S (pI S) (pJ S) zz9 (qJ S)) H locs := ⟨_, hw⟩
                obtain ⟨v154_104, e154_104⟩ : ∃ y : Int32, y = t + 1 := ⟨_, rfl⟩
                have t154_104 := iAdd e154_104 rfl t_1 (by omega) (by omega)
                have t154 := t154_104
                refine lv_iinc (v := v154_104) (lv' := [(5, .int v154_104), (3, .int v79_92), (2, .int v60_87), (8, .int v79_92), (7, .int v60_87), (6, .int r39_80), (4, .int u), (0, .ref ta), (1, .ref (sa 0))]) hx hb dX7_drift_154 hl (k := 5) rfl (by rw [e154_104]; rfl) (by decide) rfl (fun ls hl => ?_)
                refine lv_goto (tgt := 16) hx hb dX7_drift_157 (by decide) ?_
                exact ih16 q153_103 v60_87 v79_92 u v154_104 (by omega) (by omega) _ _ _ hw (lv_sub hl [0, 6, 1, 2, 7, 8] rfl)
              · have D110_97 := iNlt c110_97 rfl rfl
                refine lv_iload hx hb dX7_drift_113 (lv_at hl 6 rfl) ?_
                refine lv_if_ne (tgt := 133) hx hb dX7_drift_115 (by decide) (fun c115_105 => ?_) (fun c115_105 => ?_)
                · have D115_105 := iNe c115_105 rfl t_0
                  refine lv_aload_n hx hb dX7_drift_133 rfl (lv_at hl 7 rfl) ?_
                  refine gf_X7_9 (b := tm) X hw hA.1 hA.2.1 dX7_drift_134 ?_
                  refine lv_iload hx hb dX7_drift_137 (lv_at hl 5 rfl) ?_
                  refine lv_iload hx hb dX7_drift_139 (lv_at hl 6 rfl) ?_
                  refine lv_sipush (v := 10000) hx hb dX7_drift_141 (by decide) ?_
                  refine lv_imul hx hb dX7_drift_144 ?_
                  refine lv_topi (fun v144_106 e144_106 => ?_)
                  refine lv_iload_n hx hb dX7_drift_145 rfl (lv_at hl 0 rfl) ?_
                  refine lv_bipush (v := 100) hx hb dX7_drift_146 (by decide) ?_
                  refine lv_imul hx hb dX7_drift_148 ?_
                  refine lv_topi (fun v148_107 e148_107 => ?_)
                  refine lv_iadd hx hb dX7_drift_149 ?_
                  refine lv_topi (fun v149_108 e149_108 => ?_)
                  refine lv_iload_n hx hb dX7_drift_150 rfl (lv_at hl 1 rfl) ?_
                  refine lv_iadd hx hb dX7_drift_151 ?_
                  refine lv_topi (fun v151_109 e151_109 => ?_)
                  refine lv_i2s hx hb dX7_drift_152 rfl ?_
                  refine lv_topi (fun v152_110 e152_110 => ?_)
                  refine q_stS X hw hA.2.2.1 (vin hA.2.2.2 (by omega) (by omega)) dX7_drift_153 (fun H locs hw => ?_)
                  obtain ⟨q153_111, hw⟩ : ∃ zz9, PX G A s.heap (ch S (pI S) (pJ S) zz9 (qJ S)) H locs := ⟨_, hw⟩
                  obtain ⟨v154_112, e154_112⟩ : ∃ y : Int32, y = t + 1 := ⟨_, rfl⟩
                  have t154_112 := iAdd e154_112 rfl t_1 (by omega) (by omega)
                  have t154 := t154_112
                  refine lv_iinc (v := v154_112) (lv' := [(5, .int v154_112), (3, .int v79_92), (2, .int v60_87), (8, .int v79_92), (7, .int v60_87), (6, .int r39_80), (4, .int u), (0, .ref ta), (1, .ref (sa 0))]) hx hb dX7_drift_154 hl (k := 5) rfl (by rw [e154_112]; rfl) (by decide) rfl (fun ls hl => ?_)
                  refine lv_goto (tgt := 16) hx hb dX7_drift_157 (by decide) ?_
                  exact ih16 q153_111 v60_87 v79_92 u v154_112 (by omega) (by omega) _ _ _ hw (lv_sub hl [0, 6, 1, 2, 7, 8] rfl)
                · have D115_105 := iEq c115_105 rfl t_0
                  refine lv_aload_n hx hb dX7_drift_118 rfl (lv_at hl 8 rfl) ?_
                  refine lv_iload_n hx hb dX7_drift_119 rfl (lv_at hl 1 rfl) ?_
                  refine lv_iload_n hx hb dX7_drift_120 rfl (lv_at hl 0 rfl) ?_
                  refine k_SNi (n := 2) (host := RX10) X hw (c_X10_cellOf l G _ v60_87 v79_92) (List.mem_of_getElem? (i := 11) rfl) wd_r20_1 wd_r1_2 wd_r20_2 ⟨by decide, by decide, by decide +kernel⟩ rfl rfl ⟨Nat.le_of_ble_eq_true rfl, Nat.le_of_ble_eq_true rfl⟩ rfl rfl hl.1 (Nat.le_of_ble_eq_true rfl) dX7_drift_121 ⟨Nat.le_of_ble_eq_true rfl, Nat.le_of_ble_eq_true rfl⟩ (fun r121_113 S121_115 H locs h121_114 hw => ?_)
                  obtain ⟨rfl, h121_114⟩ := h121_114
                  refine k_Vi (n := 1) X hw (rcvk (ci := 3) X hw hS.1 (fun _ _ _ _ _ _ _ => ⟨_, rfl⟩) rfl) (c_X3_hasLand l G _ sa r121_113 hS) wd_r20_3 wd_r15_19 wd_r15_20 wd_r2_9 wd_r15_21 ⟨by decide, by decide, by decide +kernel⟩ rfl rfl ⟨Nat.le_of_ble_eq_true rfl, Nat.le_of_ble_eq_true rfl⟩ rfl rfl hl.1 (Nat.le_of_ble_eq_true rfl) dX7_drift_124 ⟨Nat.le_of_ble_eq_true rfl, Nat.le_of_ble_eq_true rfl⟩ (fun r124_116 S124_118 H locs h124_117 hw => ?_)
                  rcases h124_117 with ⟨rfl, rfl, h124_117⟩ | ⟨rfl, rfl, h124_117⟩
                  · have h124_117 := h124_117
                    refine lv_if_eq (tgt := 133) hx hb dX7_drift_127 (by decide) (fun c127_119 => absurd c127_119 (by decide)) (fun c127_119 => ?_)
                    refine lv_iconst (v := 1) hx hb dX7_drift_130 (by decide) ?_
                    refine lv_istore (lv' := [(4, .int 1), (3, .int v79_92), (2, .int v60_87), (8, .int v79_92), (7, .int v60_87), (6, .int r39_80), (5, .int t), (0, .ref ta), (1, .ref (sa 0))]) hx hb dX7_drift_131 hl (by decide) rfl (fun ls hl => ?_)
                    refine lv_aload_n hx hb dX7_drift_133 rfl (lv_at hl 7 rfl) ?_
                    refine gf_X7_9 (b := tm) X hw hA.1 hA.2.1 dX7_drift_134 ?_
                    refine lv_iload hx hb dX7_drift_137 (lv_at hl 6 rfl) ?_
                    refine lv_iload hx hb dX7_drift_139 (lv_at hl 0 rfl) ?_
                    refine lv_sipush (v := 10000) hx hb dX7_drift_141 (by decide) ?_
                    refine lv_imul hx hb dX7_drift_144 ?_
                    refine lv_topi (fun v144_120 e144_120 => ?_)
                    refine lv_iload_n hx hb dX7_drift_145 rfl (lv_at hl 1 rfl) ?_
                    refine lv_bipush (v := 100) hx hb dX7_drift_146 (by decide) ?_
                    refine lv_imul hx hb dX7_drift_148 ?_
                    refine lv_topi (fun v148_121 e148_121 => ?_)
                    refine lv_iadd hx hb dX7_drift_149 ?_
                    refine lv_topi (fun v149_122 e149_122 => ?_)
                    refine lv_iload_n hx hb dX7_drift_150 rfl (lv_at hl 2 rfl) ?_
                    refine lv_iadd hx hb dX7_drift_151 ?_
                    refine lv_topi (fun v151_123 e151_123 => ?_)
                    refine lv_i2s hx hb dX7_drift_152 rfl ?_
                    refine lv_topi (fun v152_124 e152_124 => ?_)
                    refine q_stS X hw hA.2.2.1 (vin hA.2.2.2 (by omega) (by omega)) dX7_drift_153 (fun H locs hw => ?_)
                    obtain ⟨q153_125, hw⟩ : ∃ zz9, PX G A s.heap (ch S (pI S) (pJ S) zz9 (qJ S)) H locs := ⟨_, hw⟩
                    obtain ⟨v154_126, e154_126⟩ : ∃ y : Int32, y = t + 1 := ⟨_, rfl⟩
                    have t154_126 := iAdd e154_126 rfl t_1 (by omega) (by omega)
                    have t154 := t154_126
                    refine lv_iinc (v := v154_126) (lv' := [(5, .int v154_126), (4, .int 1), (3, .int v79_92), (2, .int v60_87), (8, .int v79_92), (7, .int v60_87), (6, .int r39_80), (0, .ref ta), (1, .ref (sa 0))]) hx hb dX7_drift_154 hl (k := 6) rfl (by rw [e154_126]; rfl) (by decide) rfl (fun ls hl => ?_)
                    refine lv_goto (tgt := 16) hx hb dX7_drift_157 (by decide) ?_
                    exact ih16 q153_125 v60_87 v79_92 1 v154_126 (by have := t_1; omega) (by omega) _ _ _ hw (lv_sub hl [0, 1, 2, 3, 7, 8] rfl)
                  · have h124_117 := h124_117
                    refine lv_if_eq (tgt := 133) hx hb dX7_drift_127 (by decide) (fun c127_127 => ?_) (fun c127_127 => absurd c127_127 (by decide))
                    refine lv_aload_n hx hb dX7_drift_133 rfl (lv_at hl 7 rfl) ?_
                    refine gf_X7_9 (b := tm) X hw hA.1 hA.2.1 dX7_drift_134 ?_
                    refine lv_iload hx hb dX7_drift_137 (lv_at hl 5 rfl) ?_
                    refine lv_iload hx hb dX7_drift_139 (lv_at hl 6 rfl) ?_
                    refine lv_sipush (v := 10000) hx hb dX7_drift_141 (by decide) ?_
                    refine lv_imul hx hb dX7_drift_144 ?_
                    refine lv_topi (fun v144_128 e144_128 => ?_)
                    refine lv_iload_n hx hb dX7_drift_145 rfl (lv_at hl 0 rfl) ?_
                    refine lv_bipush (v := 100) hx hb dX7_drift_146 (by decide) ?_
                    refine lv_imul hx hb dX7_drift_148 ?_
                    refine lv_topi (fun v148_129 e148_129 => ?_)
                    refine lv_iadd hx hb dX7_drift_149 ?_
                    refine lv_topi (fun v149_130 e149_130 => ?_)
                    refine lv_iload_n hx hb dX7_drift_150 rfl (lv_at hl 1 rfl) ?_
                    refine lv_iadd hx hb dX7_drift_151 ?_
                    refine lv_topi (fun v151_131 e151_131 => ?_)
                    refine lv_i2s hx hb dX7_drift_152 rfl ?_
                    refine lv_topi (fun v152_132 e152_132 => ?_)
                    refine q_stS X hw hA.2.2.1 (vin hA.2.2.2 (by omega) (by omega)) dX7_drift_153 (fun H locs hw => ?_)
                    obtain ⟨q153_133, hw⟩ : ∃ zz9, PX G A s.heap (ch S (pI S) (pJ S) zz9 (qJ S)) H locs := ⟨_, hw⟩
                    obtain ⟨v154_134, e154_134⟩ : ∃ y : Int32, y = t + 1 := ⟨_, rfl⟩
                    have t154_134 := iAdd e154_134 rfl t_1 (by omega) (by omega)
                    have t154 := t154_134
                    refine lv_iinc (v := v154_134) (lv' := [(5, .int v154_134), (3, .int v79_92), (2, .int v60_87), (8, .int v79_92), (7, .int v60_87), (6, .int r39_80), (4, .int u), (0, .ref ta), (1, .ref (sa 0))]) hx hb dX7_drift_154 hl (k := 5) rfl (by rw [e154_134]; rfl) (by decide) rfl (fun ls hl => ?_)
                    refine lv_goto (tgt := 16) hx hb dX7_drift_157 (by decide) ?_
                    exact ih16 q153_133 v60_87 v79_92 u v154_134 (by omega) (by omega) _ _ _ hw (lv_sub hl [0, 6, 1, 2, 7, 8] rfl)
            · have h86_94 := h86_94
              refine lv_if_eq (tgt := 101) hx hb dX7_drift_89 (by decide) (fun c89_135 => ?_) (fun c89_135 => absurd c89_135 (by decide))
              refine lv_iconst (v := 2) hx hb dX7_drift_101 (by decide) ?_
              refine lv_istore (lv' := [(4, .int 2), (8, .int v79_92), (7, .int v60_87), (6, .int r39_80), (5, .int t), (3, .int y), (2, .int x), (0, .ref ta), (1, .ref (sa 0))]) hx hb dX7_drift_102 hl (by decide) rfl (fun ls hl => ?_)
              refine lv_iload hx hb dX7_drift_104 (lv_at hl 4 rfl) ?_
              refine lv_aload_n hx hb dX7_drift_106 rfl (lv_at hl 7 rfl) ?_
              refine gf_X7_25 (v := (pI S) 53 ta) X hw hA.1 rfl dX7_drift_107 ?_
              refine lv_icmp_lt (tgt := 133) hx hb dX7_drift_110 (by decide) (fun c110_136 => ?_) (fun c110_136 => ?_)
              · have D110_136 := iLt c110_136 rfl rfl
                refine lv_aload_n hx hb dX7_drift_133 rfl (lv_at hl 7 rfl) ?_
                refine gf_X7_9 (b := tm) X hw hA.1 hA.2.1 dX7_drift_134 ?_
                refine lv_iload hx hb dX7_drift_137 (lv_at hl 4 rfl) ?_
                refine lv_iload hx hb dX7_drift_139 (lv_at hl 0 rfl) ?_
                refine lv_sipush (v := 10000) hx hb dX7_drift_141 (by decide) ?_
                refine lv_imul hx hb dX7_drift_144 ?_
                refine lv_topi (fun v144_137 e144_137 => ?_)
                refine lv_iload_n hx hb dX7_drift_145 rfl (lv_at hl 5 rfl) ?_
                refine lv_bipush (v := 100) hx hb dX7_drift_146 (by decide) ?_
                refine lv_imul hx hb dX7_drift_148 ?_
                refine lv_topi (fun v148_138 e148_138 => ?_)
                refine lv_iadd hx hb dX7_drift_149 ?_
                refine lv_topi (fun v149_139 e149_139 => ?_)
                refine lv_iload_n hx hb dX7_drift_150 rfl (lv_at hl 6 rfl) ?_
                refine lv_iadd hx hb dX7_drift_151 ?_
                refine lv_topi (fun v151_140 e151_140 => ?_)
                refine lv_i2s hx hb dX7_drift_152 rfl ?_
                refine lv_topi (fun v152_141 e152_141 => ?_)
                refine q_stS X hw hA.2.2.1 (vin hA.2.2.2 (by omega) (by omega)) dX7_drift_153 (fun H locs hw => ?_)
                obtain ⟨q153_142, hw⟩ : ∃ zz9, PX G A s.heap (ch S (pI S) (pJ S) zz9 (qJ S)) H locs := ⟨_, hw⟩
                obtain ⟨v154_143, e154_143⟩ : ∃ y : Int32, y = t + 1 := ⟨_, rfl⟩
                have t154_143 := iAdd e154_143 rfl t_1 (by omega) (by omega)
                have t154 := t154_143
                refine lv_iinc (v := v154_143) (lv' := [(5, .int v154_143), (4, .int 2), (8, .int v79_92), (7, .int v60_87), (6, .int r39_80), (3, .int y), (2, .int x), (0, .ref ta), (1, .ref (sa 0))]) hx hb dX7_drift_154 hl (k := 4) rfl (by rw [e154_143]; rfl) (by decide) rfl (fun ls hl => ?_)
                refine lv_goto (tgt := 16) hx hb dX7_drift_157 (by decide) ?_
                exact ih16 q153_142 x y 2 v154_143 (by have := t_2; omega) (by omega) _ _ _ hw (lv_sub hl [0, 1, 5, 6, 7, 8] rfl)
              · have D110_136 := iNlt c110_136 rfl rfl
                refine lv_iload hx hb dX7_drift_113 (lv_at hl 0 rfl) ?_
                refine lv_if_ne (tgt := 133) hx hb dX7_drift_115 (by decide) (fun c115_144 => ?_) (fun c115_144 => absurd c115_144 (by decide))
                refine lv_aload_n hx hb dX7_drift_133 rfl (lv_at hl 7 rfl) ?_
                refine gf_X7_9 (b := tm) X hw hA.1 hA.2.1 dX7_drift_134 ?_
                refine lv_iload hx hb dX7_drift_137 (lv_at hl 4 rfl) ?_
                refine lv_iload hx hb dX7_drift_139 (lv_at hl 0 rfl) ?_
                refine lv_sipush (v := 10000) hx hb dX7_drift_141 (by decide) ?_
                refine lv_imul hx hb dX7_drift_144 ?_
                refine lv_topi (fun v144_145 e144_145 => ?_)
                refine lv_iload_n hx hb dX7_drift_145 rfl (lv_at hl 5 rfl) ?_
                refine lv_bipush (v := 100) hx hb dX7_drift_146 (by decide) ?_
                refine lv_imul hx hb dX7_drift_148 ?_
                refine lv_topi (fun v148_146 e148_146 => ?_)
                refine lv_iadd hx hb dX7_drift_149 ?_
                refine lv_topi (fun v149_147 e149_147 => ?_)
                refine lv_iload_n hx hb dX7_drift_150 rfl (lv_at hl 6 rfl) ?_
                refine lv_iadd hx hb dX7_drift_151 ?_
                refine lv_topi (fun v151_148 e151_148 => ?_)
                refine lv_i2s hx hb dX7_drift_152 rfl ?_
                refine lv_topi (fun v152_149 e152_149 => ?_)
                refine q_stS X hw hA.2.2.1 (vin hA.2.2.2 (by omega) (by omega)) dX7_drift_153 (fun H locs hw => ?_)
                obtain ⟨q153_150, hw⟩ : ∃ zz9, PX G A s.heap (ch S (pI S) (pJ S) zz9 (qJ S)) H locs := ⟨_, hw⟩
                obtain ⟨v154_151, e154_151⟩ : ∃ y : Int32, y = t + 1 := ⟨_, rfl⟩
                have t154_151 := iAdd e154_151 rfl t_1 (by omega) (by omega)
                have t154 := t154_151
                refine lv_iinc (v := v154_151) (lv' := [(5, .int v154_151), (4, .int 2), (8, .int v79_92), (7, .int v60_87), (6, .int r39_80), (3, .int y), (2, .int x), (0, .ref ta), (1, .ref (sa 0))]) hx hb dX7_drift_154 hl (k := 4) rfl (by rw [e154_151]; rfl) (by decide) rfl (fun ls hl => ?_)
                refine lv_goto (tgt := 16) hx hb dX7_drift_157 (by decide) ?_
                exact ih16 q153_150 x y 2 v154_151 (by have := t_2; omega) (by omega) _ _ _ hw (lv_sub hl [0, 1, 5, 6, 7, 8] rfl)
  exact lp16 _ (qI S) ((pI S) 51 ta) ((pI S) 52 ta) 0 0 (by have := t_0; have := t_0; omega) (Nat.lt_succ_self _) _ _ _ hw (lv_sub hl [0, 1, 2, 3, 4, 5] rfl)
set_option maxHeartbeats 4000000 in
set_option maxRecDepth 100000 in
theorem c_X7_stateAt (l : Launch) (G : Gh) (S : Pl) (ta tm : Nat) (t : Int32) (hA : shTale S ta tm) : MtI l yX7_stateAt cX7_stateAt 2 (some .int) (Rm 1 0 0) G [.ref ta, .int t] S (fun (r : Int32) (S' : Pl) => S = S' ∧ True) 0 0 := by
  refine MtI.of (by decide) (Nat.le_of_ble_eq_true rfl) ?_
  intro p e s m args below meth c Q A X hw hin hret ls hl
  have hx := X.1.1
  have hb := X.1.2.1
  have hl : lv_has ls 2 [(0, .ref ta), (1, .int t)] := hl
  refine lv_iload_n hx hb dX7_stateAt_0 rfl (lv_at hl 1 rfl) ?_
  refine k_SNi (n := 1) (host := RX10) X hw (c_X10_isMoment l G _ t) (List.mem_of_getElem? (i := 12) rfl) wd_r30_7 wd_r1_2 wd_r30_8 ⟨by decide, by decide, by decide +kernel⟩ rfl rfl ⟨Nat.le_of_ble_eq_true rfl, Nat.le_of_ble_eq_true rfl⟩ rfl rfl hl.1 (Nat.le_of_ble_eq_true rfl) dX7_stateAt_1 ⟨Nat.le_of_ble_eq_true rfl, Nat.le_of_ble_eq_true rfl⟩ (fun r1_1 S1_3 H locs h1_2 hw => ?_)
  rcases h1_2 with ⟨rfl, rfl, h1_2⟩ | ⟨rfl, rfl, h1_2⟩
  · have h1_2 := h1_2
    refine lv_if_eq (tgt := 20) hx hb dX7_stateAt_4 (by decide) (fun c4_4 => absurd c4_4 (by decide)) (fun c4_4 => ?_)
    refine lv_aload_n hx hb dX7_stateAt_7 rfl (lv_at hl 0 rfl) ?_
    refine gf_X7_9 (b := tm) X hw hA.1 hA.2.1 dX7_stateAt_8 ?_
    refine lv_iload_n hx hb dX7_stateAt_11 rfl (lv_at hl 1 rfl) ?_
    refine q_ldS X hw hA.2.2.1 (vin hA.2.2.2 (by omega) (by omega)) dX7_stateAt_12 ?_
    refine lv_topi (fun v12_5 e12_5 => ?_)
    have e12_5 : v12_5 = (qI S) tm t.toNatClampNeg := e12_5
    refine lv_sipush (v := 10000) hx hb dX7_stateAt_13 (by decide) ?_
    refine lv_idiv hx hb dX7_stateAt_16 (by decide) ?_
    refine lv_topi (fun v16_6 e16_6 => ?_)
    refine lv_goto (tgt := 21) hx hb dX7_stateAt_17 (by decide) ?_
    exact hret v16_6 _ _ _ _ _ ⟨rfl, trivial⟩ hw rfl dX7_stateAt_21
  · have h1_2 := h1_2
    refine lv_if_eq (tgt := 20) hx hb dX7_stateAt_4 (by decide) (fun c4_7 => ?_) (fun c4_7 => absurd c4_7 (by decide))
    refine lv_iconst (v := -1) hx hb dX7_stateAt_20 (by decide) ?_
    exact hret (-1) _ _ _ _ _ ⟨rfl, trivial⟩ hw rfl dX7_stateAt_21
set_option maxHeartbeats 4000000 in
set_option maxRecDepth 100000 in
theorem c_X7_pointAt (l : Launch) (G : Gh) (S : Pl) (ta tm : Nat) (t : Int32) (hA : shTale S ta tm) : MtI l yX7_pointAt cX7_pointAt 3 (some .int) (Rm 1 0 0) G [.ref ta, .int t] S (fun (r : Int32) (S' : Pl) => S = S' ∧ True) 0 0 := by
  refine MtI.of (by decide) (Nat.le_of_ble_eq_true rfl) ?_
  intro p e s m args below meth c Q A X hw hin hret ls hl
  have hx := X.1.1
  have hb := X.1.2.1
  have hl : lv_has ls 3 [(0, .ref ta), (1, .int t)] := hl
  refine lv_iload_n hx hb dX7_pointAt_0 rfl (lv_at hl 1 rfl) ?_
  refine k_SNi (n := 1) (host := RX10) X hw (c_X10_isMoment l G _ t) (List.mem_of_getElem? (i := 12) rfl) wd_r30_7 wd_r1_2 wd_r30_8 ⟨by decide, by decide, by decide +kernel⟩ rfl rfl ⟨Nat.le_of_ble_eq_true rfl, Nat.le_of_ble_eq_true rfl⟩ rfl rfl hl.1 (Nat.le_of_ble_eq_true rfl) dX7_pointAt_1 ⟨Nat.le_of_ble_eq_true rfl, Nat.le_of_ble_eq_true rfl⟩ (fun r1_1 S1_3 H locs h1_2 hw => ?_)
  rcases h1_2 with ⟨rfl, rfl, h1_2⟩ | ⟨rfl, rfl, h1_2⟩
  · have h1_2 := h1_2
    refine lv_if_eq (tgt := 25) hx hb dX7_pointAt_4 (by decide) (fun c4_4 => absurd c4_4 (by decide)) (fun c4_4 => ?_)
    refine lv_aload_n hx hb dX7_pointAt_7 rfl (lv_at hl 0 rfl) ?_
    refine gf_X7_9 (b := tm) X hw hA.1 hA.2.1 dX7_pointAt_8 ?_
    refine lv_iload_n hx hb dX7_pointAt_11 rfl (lv_at hl 1 rfl) ?_
    refine q_ldS X hw hA.2.2.1 (vin hA.2.2.2 (by omega) (by omega)) dX7_pointAt_12 ?_
    refine lv_topi (fun v12_5 e12_5 => ?_)
    have e12_5 : v12_5 = (qI S) tm t.toNatClampNeg := e12_5
    refine lv_sipush (v := 10000) hx hb dX7_pointAt_13 (by decide) ?_
    refine lv_idiv hx hb dX7_pointAt_16 (by decide) ?_
    refine lv_topi (fun v16_6 e16_6 => ?_)
    refine lv_iconst (v := 2) hx hb dX7_pointAt_17 (by decide) ?_
    refine lv_icmp_eq (tgt := 25) hx hb dX7_pointAt_18 (by decide) (fun c18_7 => ?_) (fun c18_7 => ?_)
    · have D18_7 := iEq c18_7 rfl t_2
      refine lv_iconst (v := 0) hx hb dX7_pointAt_25 (by decide) ?_
      refine lv_istore_n (lv' := [(2, .int 0), (0, .ref ta), (1, .int t)]) hx hb dX7_pointAt_26 rfl hl (by decide) rfl (fun ls hl => ?_)
      refine lv_iload_n hx hb dX7_pointAt_27 rfl (lv_at hl 0 rfl) ?_
      refine lv_if_eq (tgt := 44) hx hb dX7_pointAt_28 (by decide) (fun c28_8 => ?_) (fun c28_8 => absurd c28_8 (by decide))
      refine lv_iconst (v := -1) hx hb dX7_pointAt_44 (by decide) ?_
      exact hret (-1) _ _ _ _ _ ⟨rfl, trivial⟩ hw rfl dX7_pointAt_45
    · have D18_7 := iNe c18_7 rfl t_2
      refine lv_iconst (v := 1) hx hb dX7_pointAt_21 (by decide) ?_
      refine lv_goto (tgt := 26) hx hb dX7_pointAt_22 (by decide) ?_
      refine lv_istore_n (lv' := [(2, .int 1), (0, .ref ta), (1, .int t)]) hx hb dX7_pointAt_26 rfl hl (by decide) rfl (fun ls hl => ?_)
      refine lv_iload_n hx hb dX7_pointAt_27 rfl (lv_at hl 0 rfl) ?_
      refine lv_if_eq (tgt := 44) hx hb dX7_pointAt_28 (by decide) (fun c28_9 => absurd c28_9 (by decide)) (fun c28_9 => ?_)
      refine lv_aload_n hx hb dX7_pointAt_31 rfl (lv_at hl 1 rfl) ?_
      refine gf_X7_9 (b := tm) X hw hA.1 hA.2.1 dX7_pointAt_32 ?_
      refine lv_iload_n hx hb dX7_pointAt_35 rfl (lv_at hl 2 rfl) ?_
      refine q_ldS X hw hA.2.2.1 (vin hA.2.2.2 (by omega) (by omega)) dX7_pointAt_36 ?_
      refine lv_topi (fun v36_10 e36_10 => ?_)
      have e36_10 : v36_10 = (qI S) tm t.toNatClampNeg := e36_10
      refine lv_sipush (v := 10000) hx hb dX7_pointAt_37 (by decide) ?_
      refine lv_irem hx hb dX7_pointAt_40 (by decide) ?_
      refine lv_topi (fun v40_11 e40_11 => ?_)
      refine lv_goto (tgt := 45) hx hb dX7_pointAt_41 (by decide) ?_
      exact hret v40_11 _ _ _ _ _ ⟨rfl, trivial⟩ hw rfl dX7_pointAt_45
  · have h1_2 := h1_2
    refine lv_if_eq (tgt := 25) hx hb dX7_pointAt_4 (by decide) (fun c4_12 => ?_) (fun c4_12 => absurd c4_12 (by decide))
    refine lv_iconst (v := 0) hx hb dX7_pointAt_25 (by decide) ?_
    refine lv_istore_n (lv' := [(2, .int 0), (0, .ref ta), (1, .int t)]) hx hb dX7_pointAt_26 rfl hl (by decide) rfl (fun ls hl => ?_)
    refine lv_iload_n hx hb dX7_pointAt_27 rfl (lv_at hl 0 rfl) ?_
    refine lv_if_eq (tgt := 44) hx hb dX7_pointAt_28 (by decide) (fun c28_13 => ?_) (fun c28_13 => absurd c28_13 (by decide))
    refine lv_iconst (v := -1) hx hb dX7_pointAt_44 (by decide) ?_
    exact hret (-1) _ _ _ _ _ ⟨rfl, trivial⟩ hw rfl dX7_pointAt_45
set_option maxHeartbeats 4000000 in
set_option maxRecDepth 100000 in
theorem c_X7_cellAt (l : Launch) (G : Gh) (S : Pl) (ta tm : Nat) (t : Int32) (hA : shTale S ta tm) : MtI l yX7_cellAt cX7_cellAt 3 (some .int) (Rm 2 0 0) G [.ref ta, .int t] S (fun (r : Int32) (S' : Pl) => S = S' ∧ True) 0 0 := by
  refine MtI.of (by decide) (Nat.le_of_ble_eq_true rfl) ?_
  intro p e s m args below meth c Q A X hw hin hret ls hl
  have hx := X.1.1
  have hb := X.1.2.1
  have hl : lv_has ls 3 [(0, .ref ta), (1, .int t)] := hl
  refine lv_aload_n hx hb dX7_cellAt_0 rfl (lv_at hl 0 rfl) ?_
  refine lv_iload_n hx hb dX7_cellAt_1 rfl (lv_at hl 1 rfl) ?_
  refine k_Vi (n := 1) X hw (rcvk (ci := 7) X hw hA.1 (fun _ _ _ _ _ _ _ => ⟨_, rfl⟩) rfl) (c_X7_pointAt l G _ ta tm t hA) wd_r37_4 wd_r30_10 wd_r30_11 wd_r18_22 wd_r30_12 ⟨by decide, by decide, by decide +kernel⟩ rfl rfl ⟨Nat.le_of_ble_eq_true rfl, Nat.le_of_ble_eq_true rfl⟩ rfl rfl hl.1 (Nat.le_of_ble_eq_true rfl) dX7_cellAt_2 ⟨Nat.le_of_ble_eq_true rfl, Nat.le_of_ble_eq_true rfl⟩ (fun r2_1 S2_3 H locs h2_2 hw => ?_)
  obtain ⟨rfl, h2_2⟩ := h2_2
  refine lv_istore_n (lv' := [(2, .int r2_1), (0, .ref ta), (1, .int t)]) hx hb dX7_cellAt_5 rfl hl (by decide) rfl (fun ls hl => ?_)
  refine lv_iload_n hx hb dX7_cellAt_6 rfl (lv_at hl 0 rfl) ?_
  refine lv_iconst (v := -1) hx hb dX7_cellAt_7 (by decide) ?_
  refine lv_icmp_ne (tgt := 15) hx hb dX7_cellAt_8 (by decide) (fun c8_4 => ?_) (fun c8_4 => ?_)
  · have D8_4 := iNe c8_4 rfl t_m1
    refine lv_iload_n hx hb dX7_cellAt_15 rfl (lv_at hl 0 rfl) ?_
    refine lv_bipush (v := 100) hx hb dX7_cellAt_16 (by decide) ?_
    refine lv_irem hx hb dX7_cellAt_18 (by decide) ?_
    refine lv_topi (fun v18_5 e18_5 => ?_)
    refine lv_iload_n hx hb dX7_cellAt_19 rfl (lv_at hl 0 rfl) ?_
    refine lv_bipush (v := 100) hx hb dX7_cellAt_20 (by decide) ?_
    refine lv_idiv hx hb dX7_cellAt_22 (by decide) ?_
    refine lv_topi (fun v22_6 e22_6 => ?_)
    refine k_SNi (n := 2) (host := RX10) X hw (c_X10_cellOf l G _ v18_5 v22_6) (List.mem_of_getElem? (i := 11) rfl) wd_r20_1 wd_r1_2 wd_r20_2 ⟨by decide, by decide, by decide +kernel⟩ rfl rfl ⟨Nat.le_of_ble_eq_true rfl, Nat.le_of_ble_eq_true rfl⟩ rfl rfl hl.1 (Nat.le_of_ble_eq_true rfl) dX7_cellAt_23 ⟨Nat.le_of_ble_eq_true rfl, Nat.le_of_ble_eq_true rfl⟩ (fun r23_7 S23_9 H locs h23_8 hw => ?_)
    obtain ⟨rfl, h23_8⟩ := h23_8
    exact hret r23_7 _ _ _ _ _ ⟨rfl, trivial⟩ hw rfl dX7_cellAt_26
  · have D8_4 := iEq c8_4 rfl t_m1
    refine lv_iconst (v := -1) hx hb dX7_cellAt_11 (by decide) ?_
    refine lv_goto (tgt := 26) hx hb dX7_cellAt_12 (by decide) ?_
    exact hret (-1) _ _ _ _ _ ⟨rfl, trivial⟩ hw rfl dX7_cellAt_26
set_option maxHeartbeats 4000000 in
set_option maxRecDepth 100000 in
theorem c_X2_isStanding_k0 (l : Launch) (G : Gh) (S : Pl) (pr : Nat)  (hp : is S 0 pr) : MtI l yX2_isStanding cX2_isStanding 1 (some .boolean) (Rm 0 0 0) G [.ref pr] S (fun (r : Int32) (S' : Pl) => (S = S' ∧ r = 1 ∧ ((pI S 0 pr).toInt = 0)) ∨ (S = S' ∧ r = 0 ∧ ¬ ((pI S 0 pr).toInt = 0))) 0 0 := by
  refine MtI.of (by decide) (Nat.le_of_ble_eq_true rfl) ?_
  intro p e s m args below meth c Q A X hw hin hret ls hl
  have hx := X.1.1
  have hb := X.1.2.1
  have hl : lv_has ls 1 [(0, .ref pr)] := hl
  refine lv_aload_n hx hb dX2_isStanding_0 rfl (lv_at hl 0 rfl) ?_
  refine gf_X2_7_k0 (v := (pI S) 0 pr) X hw hp rfl dX2_isStanding_1 ?_
  refine lv_if_ne (tgt := 11) hx hb dX2_isStanding_4 (by decide) (fun c4_1 => ?_) (fun c4_1 => ?_)
  · have D4_1 := iNe c4_1 rfl t_0
    refine lv_iconst (v := 0) hx hb dX2_isStanding_11 (by decide) ?_
    exact hret 0 _ _ _ _ _ (Or.inr ⟨rfl, rfl, by omega⟩) hw rfl dX2_isStanding_12
  · have D4_1 := iEq c4_1 rfl t_0
    refine lv_iconst (v := 1) hx hb dX2_isStanding_7 (by decide) ?_
    refine lv_goto (tgt := 12) hx hb dX2_isStanding_8 (by decide) ?_
    exact hret 1 _ _ _ _ _ (Or.inl ⟨rfl, rfl, by omega⟩) hw rfl dX2_isStanding_12
set_option maxHeartbeats 4000000 in
set_option maxRecDepth 100000 in
theorem c_X2_takeBack_k0 (l : Launch) (G : Gh) (S : Pl) (pr : Nat) (hp : is S 0 pr) : MtV l yX2_takeBack cX2_takeBack 1 none (Rm 0 0 0) G [.ref pr] S (fun (S' : Pl) => ∃ I', ch S I' (pJ S) (qI S) (qJ S) = S' ∧ I' = up2 (pI S) 0 pr 1) 0 0 := by
  refine MtV.of (by decide) (Nat.le_of_ble_eq_true rfl) ?_
  intro p e s m args below meth c Q A X hw hin hret ls hl
  have hx := X.1.1
  have hb := X.1.2.1
  have hl : lv_has ls 1 [(0, .ref pr)] := hl
  refine lv_aload_n hx hb dX2_takeBack_0 rfl (lv_at hl 0 rfl) ?_
  refine lv_iconst (v := 1) hx hb dX2_takeBack_1 (by decide) ?_
  refine pf_X2_7_k0 X hw hp rfl rfl dX2_takeBack_2 (fun H locs hw => ?_)
  have hw : PX G A s.heap (ch S (up2 (pI S) 0 pr 1) (pJ S) (qI S) (qJ S)) H locs := hw
  exact hret _ _ _ _ _ ⟨_, rfl, rfl⟩ hw dX2_takeBack_5
set_option maxHeartbeats 4000000 in
set_option maxRecDepth 100000 in
theorem c_X2_isStanding_k4 (l : Launch) (G : Gh) (S : Pl) (pr : Nat)  (hp : is S 4 pr) : MtI l yX2_isStanding cX2_isStanding 1 (some .boolean) (Rm 0 0 0) G [.ref pr] S (fun (r : Int32) (S' : Pl) => (S = S' ∧ r = 1 ∧ ((pI S 0 pr).toInt = 0)) ∨ (S = S' ∧ r = 0 ∧ ¬ ((pI S 0 pr).toInt = 0))) 0 0 := by
  refine MtI.of (by decide) (Nat.le_of_ble_eq_true rfl) ?_
  intro p e s m args below meth c Q A X hw hin hret ls hl
  have hx := X.1.1
  have hb := X.1.2.1
  have hl : lv_has ls 1 [(0, .ref pr)] := hl
  refine lv_aload_n hx hb dX2_isStanding_0 rfl (lv_at hl 0 rfl) ?_
  refine gf_X2_7_k4 (v := (pI S) 0 pr) X hw hp rfl dX2_isStanding_1 ?_
  refine lv_if_ne (tgt := 11) hx hb dX2_isStanding_4 (by decide) (fun c4_1 => ?_) (fun c4_1 => ?_)
  · have D4_1 := iNe c4_1 rfl t_0
    refine lv_iconst (v := 0) hx hb dX2_isStanding_11 (by decide) ?_
    exact hret 0 _ _ _ _ _ (Or.inr ⟨rfl, rfl, by omega⟩) hw rfl dX2_isStanding_12
  · have D4_1 := iEq c4_1 rfl t_0
    refine lv_iconst (v := 1) hx hb dX2_isStanding_7 (by decide) ?_
    refine lv_goto (tgt := 12) hx hb dX2_isStanding_8 (by decide) ?_
    exact hret 1 _ _ _ _ _ (Or.inl ⟨rfl, rfl, by omega⟩) hw rfl dX2_isStanding_12
set_option maxHeartbeats 4000000 in
set_option maxRecDepth 100000 in
theorem c_X2_takeBack_k4 (l : Launch) (G : Gh) (S : Pl) (pr : Nat) (hp : is S 4 pr) : MtV l yX2_takeBack cX2_takeBack 1 none (Rm 0 0 0) G [.ref pr] S (fun (S' : Pl) => ∃ I', ch S I' (pJ S) (qI S) (qJ S) = S' ∧ I' = up2 (pI S) 0 pr 1) 0 0 := by
  refine MtV.of (by decide) (Nat.le_of_ble_eq_true rfl) ?_
  intro p e s m args below meth c Q A X hw hin hret ls hl
  have hx := X.1.1
  have hb := X.1.2.1
  have hl : lv_has ls 1 [(0, .ref pr)] := hl
  refine lv_aload_n hx hb dX2_takeBack_0 rfl (lv_at hl 0 rfl) ?_
  refine lv_iconst (v := 1) hx hb dX2_takeBack_1 (by decide) ?_
  refine pf_X2_7_k4 X hw hp rfl rfl dX2_takeBack_2 (fun H locs hw => ?_)
  have hw : PX G A s.heap (ch S (up2 (pI S) 0 pr 1) (pJ S) (qI S) (qJ S)) H locs := hw
  exact hret _ _ _ _ _ ⟨_, rfl, rfl⟩ hw dX2_takeBack_5
set_option maxHeartbeats 4000000 in
set_option maxRecDepth 100000 in
theorem c_X5_hasCell (l : Launch) (G : Gh) (S : Pl) (pr : Nat) (c0 : Int32) (hp : is S 4 pr) : MtI l yX5_hasCell cX5_hasCell 2 (some .boolean) (Rm 1 0 0) G [.ref pr, .int c0] S (fun (r : Int32) (S' : Pl) => (S = S' ∧ r = 1 ∧ True) ∨ (S = S' ∧ r = 0 ∧ True)) 0 0 := by
  refine MtI.of (by decide) (Nat.le_of_ble_eq_true rfl) ?_
  intro p e s m args below meth c Q A X hw hin hret ls hl
  have hx := X.1.1
  have hb := X.1.2.1
  have hl : lv_has ls 2 [(0, .ref pr), (1, .int c0)] := hl
  refine lv_iload_n hx hb dX5_hasCell_0 rfl (lv_at hl 1 rfl) ?_
  refine k_SNi (n := 1) (host := RX10) X hw (c_X10_isCell l G _ c0) (List.mem_of_getElem? (i := 15) rfl) wd_r15_22 wd_r1_2 wd_r15_23 ⟨by decide, by decide, by decide +kernel⟩ rfl rfl ⟨Nat.le_of_ble_eq_true rfl, Nat.le_of_ble_eq_true rfl⟩ rfl rfl hl.1 (Nat.le_of_ble_eq_true rfl) dX5_hasCell_1 ⟨Nat.le_of_ble_eq_true rfl, Nat.le_of_ble_eq_true rfl⟩ (fun r1_1 S1_3 H locs h1_2 hw => ?_)
  rcases h1_2 with ⟨rfl, rfl, h1_2⟩ | ⟨rfl, rfl, h1_2⟩
  · have h1_2 := h1_2
    refine lv_if_eq (tgt := 47) hx hb dX5_hasCell_4 (by decide) (fun c4_4 => absurd c4_4 (by decide)) (fun c4_4 => ?_)
    refine lv_iload_n hx hb dX5_hasCell_7 rfl (lv_at hl 1 rfl) ?_
    refine lv_bipush (v := 8) hx hb dX5_hasCell_8 (by decide) ?_
    refine lv_irem hx hb dX5_hasCell_10 (by decide) ?_
    refine lv_topi (fun v10_5 e10_5 => ?_)
    refine lv_aload_n hx hb dX5_hasCell_11 rfl (lv_at hl 0 rfl) ?_
    refine gf_X5_15 (v := (pI S) 32 pr) X hw hp rfl dX5_hasCell_12 ?_
    refine lv_aload_n hx hb dX5_hasCell_15 rfl (lv_at hl 0 rfl) ?_
    refine gf_X5_18 (v := (pI S) 33 pr) X hw hp rfl dX5_hasCell_16 ?_
    refine k_SNi (n := 3) (host := RX10) X hw (c_X10_within l G _ v10_5 ((pI S) 32 pr) ((pI S) 33 pr)) (List.mem_of_getElem? (i := 16) rfl) wd_r7_18 wd_r1_2 wd_r7_19 ⟨by decide, by decide, by decide +kernel⟩ rfl rfl ⟨Nat.le_of_ble_eq_true rfl, Nat.le_of_ble_eq_true rfl⟩ rfl rfl hl.1 (Nat.le_of_ble_eq_true rfl) dX5_hasCell_19 ⟨Nat.le_of_ble_eq_true rfl, Nat.le_of_ble_eq_true rfl⟩ (fun r19_6 S19_8 H locs h19_7 hw => ?_)
    rcases h19_7 with ⟨rfl, rfl, h19_7⟩ | ⟨rfl, rfl, h19_7⟩
    · have h19_7 := h19_7
      refine lv_if_eq (tgt := 47) hx hb dX5_hasCell_22 (by decide) (fun c22_9 => absurd c22_9 (by decide)) (fun c22_9 => ?_)
      refine lv_iload_n hx hb dX5_hasCell_25 rfl (lv_at hl 1 rfl) ?_
      refine lv_bipush (v := 8) hx hb dX5_hasCell_26 (by decide) ?_
      refine lv_idiv hx hb dX5_hasCell_28 (by decide) ?_
      refine lv_topi (fun v28_10 e28_10 => ?_)
      refine lv_aload_n hx hb dX5_hasCell_29 rfl (lv_at hl 0 rfl) ?_
      refine gf_X5_21 (v := (pI S) 34 pr) X hw hp rfl dX5_hasCell_30 ?_
      refine lv_aload_n hx hb dX5_hasCell_33 rfl (lv_at hl 0 rfl) ?_
      refine gf_X5_24 (v := (pI S) 35 pr) X hw hp rfl dX5_hasCell_34 ?_
      refine k_SNi (n := 3) (host := RX10) X hw (c_X10_within l G _ v28_10 ((pI S) 34 pr) ((pI S) 35 pr)) (List.mem_of_getElem? (i := 16) rfl) wd_r7_18 wd_r1_2 wd_r7_19 ⟨by decide, by decide, by decide +kernel⟩ rfl rfl ⟨Nat.le_of_ble_eq_true rfl, Nat.le_of_ble_eq_true rfl⟩ rfl rfl hl.1 (Nat.le_of_ble_eq_true rfl) dX5_hasCell_37 ⟨Nat.le_of_ble_eq_true rfl, Nat.le_of_ble_eq_true rfl⟩ (fun r37_11 S37_13 H locs h37_12 hw => ?_)
      rcases h37_12 with ⟨rfl, rfl, h37_12⟩ | ⟨rfl, rfl, h37_12⟩
      · have h37_12 := h37_12
        refine lv_if_eq (tgt := 47) hx hb dX5_hasCell_40 (by decide) (fun c40_14 => absurd c40_14 (by decide)) (fun c40_14 => ?_)
        refine lv_iconst (v := 1) hx hb dX5_hasCell_43 (by decide) ?_
        refine lv_goto (tgt := 48) hx hb dX5_hasCell_44 (by decide) ?_
        exact hret 1 _ _ _ _ _ (Or.inl ⟨rfl, rfl, trivial⟩) hw rfl dX5_hasCell_48
      · have h37_12 := h37_12
        refine lv_if_eq (tgt := 47) hx hb dX5_hasCell_40 (by decide) (fun c40_15 => ?_) (fun c40_15 => absurd c40_15 (by decide))
        refine lv_iconst (v := 0) hx hb dX5_hasCell_47 (by decide) ?_
        exact hret 0 _ _ _ _ _ (Or.inr ⟨rfl, rfl, trivial⟩) hw rfl dX5_hasCell_48
    · have h19_7 := h19_7
      refine lv_if_eq (tgt := 47) hx hb dX5_hasCell_22 (by decide) (fun c22_16 => ?_) (fun c22_16 => absurd c22_16 (by decide))
      refine lv_iconst (v := 0) hx hb dX5_hasCell_47 (by decide) ?_
      exact hret 0 _ _ _ _ _ (Or.inr ⟨rfl, rfl, trivial⟩) hw rfl dX5_hasCell_48
  · have h1_2 := h1_2
    refine lv_if_eq (tgt := 47) hx hb dX5_hasCell_4 (by decide) (fun c4_17 => ?_) (fun c4_17 => absurd c4_17 (by decide))
    refine lv_iconst (v := 0) hx hb dX5_hasCell_47 (by decide) ?_
    exact hret 0 _ _ _ _ _ (Or.inr ⟨rfl, rfl, trivial⟩) hw rfl dX5_hasCell_48
set_option maxHeartbeats 4000000 in
set_option maxRecDepth 100000 in
theorem c_X5_weighing (l : Launch) (G : Gh) (S : Pl) (pr ta tm : Nat) (sa : Nat → Nat) (hp : is S 4 pr) (hA : shTale S ta tm) (hS : shSea S sa) : MtI l yX5_weighing cX5_weighing 4 (some .int) (Rm 3 0 0) G [.ref pr, .ref ta, .ref (sa 0)] S (fun (r : Int32) (S' : Pl) => S = S' ∧ True) 0 0 := by
  refine MtI.of (by decide) (Nat.le_of_ble_eq_true rfl) ?_
  intro p e s m args below meth c Q A X hw hin hret ls hl
  have hx := X.1.1
  have hb := X.1.2.1
  have hl : lv_has ls 4 [(0, .ref pr), (1, .ref ta), (2, .ref (sa 0))] := hl
  refine lv_aload_n hx hb dX5_weighing_0 rfl (lv_at hl 1 rfl) ?_
  refine lv_aload_n hx hb dX5_weighing_1 rfl (lv_at hl 0 rfl) ?_
  refine gf_X5_9 (v := (pI S) 31 pr) X hw hp rfl dX5_weighing_2 ?_
  refine k_Vi (n := 1) X hw (rcvk (ci := 7) X hw hA.1 (fun _ _ _ _ _ _ _ => ⟨_, rfl⟩) rfl) (c_X7_stateAt l G _ ta tm ((pI S) 31 pr) hA) wd_r36_23 wd_r31_20 wd_r31_21 wd_r18_22 wd_r31_22 ⟨by decide, by decide, by decide +kernel⟩ rfl rfl ⟨Nat.le_of_ble_eq_true rfl, Nat.le_of_ble_eq_true rfl⟩ rfl rfl hl.1 (Nat.le_of_ble_eq_true rfl) dX5_weighing_5 ⟨Nat.le_of_ble_eq_true rfl, Nat.le_of_ble_eq_true rfl⟩ (fun r5_1 S5_3 H locs h5_2 hw => ?_)
  obtain ⟨rfl, h5_2⟩ := h5_2
  refine lv_if_ne (tgt := 30) hx hb dX5_weighing_8 (by decide) (fun c8_4 => ?_) (fun c8_4 => ?_)
  · have D8_4 := iNe c8_4 rfl t_0
    refine lv_iconst (v := 0) hx hb dX5_weighing_30 (by decide) ?_
    refine lv_istore_n (lv' := [(3, .int 0), (0, .ref pr), (1, .ref ta), (2, .ref (sa 0))]) hx hb dX5_weighing_31 rfl hl (by decide) rfl (fun ls hl => ?_)
    refine lv_iload_n hx hb dX5_weighing_32 rfl (lv_at hl 0 rfl) ?_
    refine lv_if_eq (tgt := 51) hx hb dX5_weighing_33 (by decide) (fun c33_5 => ?_) (fun c33_5 => absurd c33_5 (by decide))
    refine lv_bipush (v := 100) hx hb dX5_weighing_51 (by decide) ?_
    exact hret 100 _ _ _ _ _ ⟨rfl, trivial⟩ hw rfl dX5_weighing_53
  · have D8_4 := iEq c8_4 rfl t_0
    refine lv_aload_n hx hb dX5_weighing_11 rfl (lv_at hl 0 rfl) ?_
    refine lv_aload_n hx hb dX5_weighing_12 rfl (lv_at hl 1 rfl) ?_
    refine lv_aload_n hx hb dX5_weighing_13 rfl (lv_at hl 0 rfl) ?_
    refine gf_X5_9 (v := (pI S) 31 pr) X hw hp rfl dX5_weighing_14 ?_
    refine k_Vi (n := 1) X hw (rcvk (ci := 7) X hw hA.1 (fun _ _ _ _ _ _ _ => ⟨_, rfl⟩) rfl) (c_X7_cellAt l G _ ta tm ((pI S) 31 pr) hA) wd_r37_0 wd_r37_1 wd_r37_2 wd_r18_22 wd_r37_3 ⟨by decide, by decide, by decide +kernel⟩ rfl rfl ⟨Nat.le_of_ble_eq_true rfl, Nat.le_of_ble_eq_true rfl⟩ rfl rfl hl.1 (Nat.le_of_ble_eq_true rfl) dX5_weighing_17 ⟨Nat.le_of_ble_eq_true rfl, Nat.le_of_ble_eq_true rfl⟩ (fun r17_6 S17_8 H locs h17_7 hw => ?_)
    obtain ⟨rfl, h17_7⟩ := h17_7
    refine k_Vi (n := 1) X hw (rcvk (ci := 5) X hw hp (fun _ _ _ _ _ _ _ => ⟨_, rfl⟩) rfl) (c_X5_hasCell l G _ pr r17_6 hp) wd_r37_5 wd_r37_6 wd_r37_7 wd_r32_9 wd_r37_8 ⟨by decide, by decide, by decide +kernel⟩ rfl rfl ⟨Nat.le_of_ble_eq_true rfl, Nat.le_of_ble_eq_true rfl⟩ rfl rfl hl.1 (Nat.le_of_ble_eq_true rfl) dX5_weighing_20 ⟨Nat.le_of_ble_eq_true rfl, Nat.le_of_ble_eq_true rfl⟩ (fun r20_9 S20_11 H locs h20_10 hw => ?_)
    rcases h20_10 with ⟨rfl, rfl, h20_10⟩ | ⟨rfl, rfl, h20_10⟩
    · have h20_10 := h20_10
      refine lv_if_eq (tgt := 30) hx hb dX5_weighing_23 (by decide) (fun c23_12 => absurd c23_12 (by decide)) (fun c23_12 => ?_)
      refine lv_iconst (v := 1) hx hb dX5_weighing_26 (by decide) ?_
      refine lv_goto (tgt := 31) hx hb dX5_weighing_27 (by decide) ?_
      refine lv_istore_n (lv' := [(3, .int 1), (0, .ref pr), (1, .ref ta), (2, .ref (sa 0))]) hx hb dX5_weighing_31 rfl hl (by decide) rfl (fun ls hl => ?_)
      refine lv_iload_n hx hb dX5_weighing_32 rfl (lv_at hl 0 rfl) ?_
      refine lv_if_eq (tgt := 51) hx hb dX5_weighing_33 (by decide) (fun c33_13 => absurd c33_13 (by decide)) (fun c33_13 => ?_)
      refine lv_aload_n hx hb dX5_weighing_36 rfl (lv_at hl 3 rfl) ?_
      refine lv_aload_n hx hb dX5_weighing_37 rfl (lv_at hl 1 rfl) ?_
      refine gf_X5_27 (v := (pI S) 36 pr) X hw hp rfl dX5_weighing_38 ?_
      refine lv_aload_n hx hb dX5_weighing_41 rfl (lv_at hl 1 rfl) ?_
      refine gf_X5_30 (v := (pI S) 37 pr) X hw hp rfl dX5_weighing_42 ?_
      refine k_Vi (n := 2) X hw (rcvk (ci := 3) X hw hS.1 (fun _ _ _ _ _ _ _ => ⟨_, rfl⟩) rfl) (c_X3_missOf l G _ sa ((pI S) 36 pr) ((pI S) 37 pr) hS) wd_r37_9 wd_r16_12 wd_r16_13 wd_r2_9 wd_r16_14 ⟨by decide, by decide, by decide +kernel⟩ rfl rfl ⟨Nat.le_of_ble_eq_true rfl, Nat.le_of_ble_eq_true rfl⟩ rfl rfl hl.1 (Nat.le_of_ble_eq_true rfl) dX5_weighing_45 ⟨Nat.le_of_ble_eq_true rfl, Nat.le_of_ble_eq_true rfl⟩ (fun r45_14 S45_16 H locs h45_15 hw => ?_)
      obtain ⟨rfl, h45_15⟩ := h45_15
      refine lv_goto (tgt := 53) hx hb dX5_weighing_48 (by decide) ?_
      exact hret r45_14 _ _ _ _ _ ⟨rfl, trivial⟩ hw rfl dX5_weighing_53
    · have h20_10 := h20_10
      refine lv_if_eq (tgt := 30) hx hb dX5_weighing_23 (by decide) (fun c23_17 => ?_) (fun c23_17 => absurd c23_17 (by decide))
      refine lv_iconst (v := 0) hx hb dX5_weighing_30 (by decide) ?_
      refine lv_istore_n (lv' := [(3, .int 0), (0, .ref pr), (1, .ref ta), (2, .ref (sa 0))]) hx hb dX5_weighing_31 rfl hl (by decide) rfl (fun ls hl => ?_)
      refine lv_iload_n hx hb dX5_weighing_32 rfl (lv_at hl 0 rfl) ?_
      refine lv_if_eq (tgt := 51) hx hb dX5_weighing_33 (by decide) (fun c33_18 => ?_) (fun c33_18 => absurd c33_18 (by decide))
      refine lv_bipush (v := 100) hx hb dX5_weighing_51 (by decide) ?_
      exact hret 100 _ _ _ _ _ ⟨rfl, trivial⟩ hw rfl dX5_weighing_53
set_option maxHeartbeats 4000000 in
set_option maxRecDepth 100000 in
theorem c_X0_weighing (l : Launch) (G : Gh) (S : Pl) (pr ta tm : Nat) (sa : Nat → Nat) (hp : is S 0 pr) (hA : shTale S ta tm) (hS : shSea S sa) : MtI l yX0_weighing cX0_weighing 5 (some .int) (Rm 2 0 0) G [.ref pr, .ref ta, .ref (sa 0)] S (fun (r : Int32) (S' : Pl) => S = S' ∧ True) 0 0 := by
  refine MtI.of (by decide) (Nat.le_of_ble_eq_true rfl) ?_
  intro p e s m args below meth c Q A X hw hin hret ls hl
  have hx := X.1.1
  have hb := X.1.2.1
  have hl : lv_has ls 5 [(0, .ref pr), (1, .ref ta), (2, .ref (sa 0))] := hl
  refine lv_aload_n hx hb dX0_weighing_0 rfl (lv_at hl 1 rfl) ?_
  refine lv_aload_n hx hb dX0_weighing_1 rfl (lv_at hl 0 rfl) ?_
  refine gf_X0_9 (v := (pI S) 1 pr) X hw hp rfl dX0_weighing_2 ?_
  refine k_Vi (n := 1) X hw (rcvk (ci := 7) X hw hA.1 (fun _ _ _ _ _ _ _ => ⟨_, rfl⟩) rfl) (c_X7_pointAt l G _ ta tm ((pI S) 1 pr) hA) wd_r36_19 wd_r30_10 wd_r30_11 wd_r18_22 wd_r30_12 ⟨by decide, by decide, by decide +kernel⟩ rfl rfl ⟨Nat.le_of_ble_eq_true rfl, Nat.le_of_ble_eq_true rfl⟩ rfl rfl hl.1 (Nat.le_of_ble_eq_true rfl) dX0_weighing_5 ⟨Nat.le_of_ble_eq_true rfl, Nat.le_of_ble_eq_true rfl⟩ (fun r5_1 S5_3 H locs h5_2 hw => ?_)
  obtain ⟨rfl, h5_2⟩ := h5_2
  refine lv_istore_n (lv' := [(3, .int r5_1), (0, .ref pr), (1, .ref ta), (2, .ref (sa 0))]) hx hb dX0_weighing_8 rfl hl (by decide) rfl (fun ls hl => ?_)
  refine lv_iload_n hx hb dX0_weighing_9 rfl (lv_at hl 0 rfl) ?_
  refine lv_iconst (v := -1) hx hb dX0_weighing_10 (by decide) ?_
  refine lv_icmp_eq (tgt := 56) hx hb dX0_weighing_11 (by decide) (fun c11_4 => ?_) (fun c11_4 => ?_)
  · have D11_4 := iEq c11_4 rfl t_m1
    refine lv_iconst (v := 0) hx hb dX0_weighing_56 (by decide) ?_
    refine lv_istore (lv' := [(4, .int 0), (3, .int r5_1), (0, .ref pr), (1, .ref ta), (2, .ref (sa 0))]) hx hb dX0_weighing_57 hl (by decide) rfl (fun ls hl => ?_)
    refine lv_iload hx hb dX0_weighing_59 (lv_at hl 0 rfl) ?_
    refine lv_if_eq (tgt := 69) hx hb dX0_weighing_61 (by decide) (fun c61_5 => ?_) (fun c61_5 => absurd c61_5 (by decide))
    refine lv_aload_n hx hb dX0_weighing_69 rfl (lv_at hl 2 rfl) ?_
    refine gf_X0_24 (v := (pI S) 5 pr) X hw hp rfl dX0_weighing_70 ?_
    exact hret ((pI S) 5 pr) _ _ _ _ _ ⟨rfl, trivial⟩ hw rfl dX0_weighing_73
  · have D11_4 := iNe c11_4 rfl t_m1
    refine lv_iload_n hx hb dX0_weighing_14 rfl (lv_at hl 0 rfl) ?_
    refine lv_bipush (v := 100) hx hb dX0_weighing_15 (by decide) ?_
    refine lv_irem hx hb dX0_weighing_17 (by decide) ?_
    refine lv_topi (fun v17_6 e17_6 => ?_)
    refine lv_aload_n hx hb dX0_weighing_18 rfl (lv_at hl 1 rfl) ?_
    refine gf_X0_15 (v := (pI S) 2 pr) X hw hp rfl dX0_weighing_19 ?_
    refine lv_isub hx hb dX0_weighing_22 ?_
    refine lv_topi (fun v22_7 e22_7 => ?_)
    refine va_mabs hx hb (by rw [X.1.2.2.1]; exact hl.1.symm) X.1.2.2.2.1 (X.1.2.2.2.2 _ wd_r36_16) (X.1.2.2.2.2 _ wd_r36_17) (X.1.2.2.2.2 _ wd_r28_6) (X.1.2.2.2.2 _ wd_r36_18) (Nat.le_of_ble_eq_true rfl) (Nat.le_of_ble_eq_true rfl) (Nat.zero_le _) (Nat.zero_le _) dX0_weighing_23 ?_
    refine lv_topi (fun v23_8 e23_8 => ?_)
    refine lv_aload_n hx hb dX0_weighing_26 rfl (lv_at hl 1 rfl) ?_
    refine gf_X0_21 (v := (pI S) 4 pr) X hw hp rfl dX0_weighing_27 ?_
    refine lv_icmp_gt (tgt := 56) hx hb dX0_weighing_30 (by decide) (fun c30_9 => ?_) (fun c30_9 => ?_)
    · have D30_9 := iLt c30_9 rfl rfl
      refine lv_iconst (v := 0) hx hb dX0_weighing_56 (by decide) ?_
      refine lv_istore (lv' := [(4, .int 0), (3, .int r5_1), (0, .ref pr), (1, .ref ta), (2, .ref (sa 0))]) hx hb dX0_weighing_57 hl (by decide) rfl (fun ls hl => ?_)
      refine lv_iload hx hb dX0_weighing_59 (lv_at hl 0 rfl) ?_
      refine lv_if_eq (tgt := 69) hx hb dX0_weighing_61 (by decide) (fun c61_10 => ?_) (fun c61_10 => absurd c61_10 (by decide))
      refine lv_aload_n hx hb dX0_weighing_69 rfl (lv_at hl 2 rfl) ?_
      refine gf_X0_24 (v := (pI S) 5 pr) X hw hp rfl dX0_weighing_70 ?_
      exact hret ((pI S) 5 pr) _ _ _ _ _ ⟨rfl, trivial⟩ hw rfl dX0_weighing_73
    · have D30_9 := iNlt c30_9 rfl rfl
      refine lv_iload_n hx hb dX0_weighing_33 rfl (lv_at hl 0 rfl) ?_
      refine lv_bipush (v := 100) hx hb dX0_weighing_34 (by decide) ?_
      refine lv_idiv hx hb dX0_weighing_36 (by decide) ?_
      refine lv_topi (fun v36_11 e36_11 => ?_)
      refine lv_aload_n hx hb dX0_weighing_37 rfl (lv_at hl 1 rfl) ?_
      refine gf_X0_18 (v := (pI S) 3 pr) X hw hp rfl dX0_weighing_38 ?_
      refine lv_isub hx hb dX0_weighing_41 ?_
      refine lv_topi (fun v41_12 e41_12 => ?_)
      refine va_mabs hx hb (by rw [X.1.2.2.1]; exact hl.1.symm) X.1.2.2.2.1 (X.1.2.2.2.2 _ wd_r36_16) (X.1.2.2.2.2 _ wd_r36_17) (X.1.2.2.2.2 _ wd_r28_6) (X.1.2.2.2.2 _ wd_r36_18) (Nat.le_of_ble_eq_true rfl) (Nat.le_of_ble_eq_true rfl) (Nat.zero_le _) (Nat.zero_le _) dX0_weighing_42 ?_
      refine lv_topi (fun v42_13 e42_13 => ?_)
      refine lv_aload_n hx hb dX0_weighing_45 rfl (lv_at hl 1 rfl) ?_
      refine gf_X0_21 (v := (pI S) 4 pr) X hw hp rfl dX0_weighing_46 ?_
      refine lv_icmp_gt (tgt := 56) hx hb dX0_weighing_49 (by decide) (fun c49_14 => ?_) (fun c49_14 => ?_)
      · have D49_14 := iLt c49_14 rfl rfl
        refine lv_iconst (v := 0) hx hb dX0_weighing_56 (by decide) ?_
        refine lv_istore (lv' := [(4, .int 0), (3, .int r5_1), (0, .ref pr), (1, .ref ta), (2, .ref (sa 0))]) hx hb dX0_weighing_57 hl (by decide) rfl (fun ls hl => ?_)
        refine lv_iload hx hb dX0_weighing_59 (lv_at hl 0 rfl) ?_
        refine lv_if_eq (tgt := 69) hx hb dX0_weighing_61 (by decide) (fun c61_15 => ?_) (fun c61_15 => absurd c61_15 (by decide))
        refine lv_aload_n hx hb dX0_weighing_69 rfl (lv_at hl 2 rfl) ?_
        refine gf_X0_24 (v := (pI S) 5 pr) X hw hp rfl dX0_weighing_70 ?_
        exact hret ((pI S) 5 pr) _ _ _ _ _ ⟨rfl, trivial⟩ hw rfl dX0_weighing_73
      · have D49_14 := iNlt c49_14 rfl rfl
        refine lv_iconst (v := 1) hx hb dX0_weighing_52 (by decide) ?_
        refine lv_goto (tgt := 57) hx hb dX0_weighing_53 (by decide) ?_
        refine lv_istore (lv' := [(4, .int 1), (3, .int r5_1), (0, .ref pr), (1, .ref ta), (2, .ref (sa 0))]) hx hb dX0_weighing_57 hl (by decide) rfl (fun ls hl => ?_)
        refine lv_iload hx hb dX0_weighing_59 (lv_at hl 0 rfl) ?_
        refine lv_if_eq (tgt := 69) hx hb dX0_weighing_61 (by decide) (fun c61_16 => absurd c61_16 (by decide)) (fun c61_16 => ?_)
        refine lv_bipush (v := 100) hx hb dX0_weighing_64 (by decide) ?_
        refine lv_goto (tgt := 73) hx hb dX0_weighing_66 (by decide) ?_
        exact hret 100 _ _ _ _ _ ⟨rfl, trivial⟩ hw rfl dX0_weighing_73
set_option maxHeartbeats 4000000 in
set_option maxRecDepth 100000 in
theorem c_X4_foundFault (l : Launch) (G : Gh) (S : Pl) (rd nb tk tp tb : Nat) (hR : shRd S rd nb tk tp tb) : MtI l yX4_foundFault cX4_foundFault 1 (some .int) (Rm 0 0 0) G [.ref rd] S (fun (r : Int32) (S' : Pl) => S = S' ∧ r = pI S 22 rd) 0 0 := by
  refine MtI.of (by decide) (Nat.le_of_ble_eq_true rfl) ?_
  intro p e s m args below meth c Q A X hw hin hret ls hl
  have hx := X.1.1
  have hb := X.1.2.1
  have hl : lv_has ls 1 [(0, .ref rd)] := hl
  refine lv_aload_n hx hb dX4_foundFault_0 rfl (lv_at hl 0 rfl) ?_
  refine gf_X4_28 (v := (pI S) 22 rd) X hw hR.1 rfl dX4_foundFault_1 ?_
  exact hret ((pI S) 22 rd) _ _ _ _ _ ⟨rfl, rfl⟩ hw rfl dX4_foundFault_4
set_option maxHeartbeats 4000000 in
set_option maxRecDepth 100000 in
theorem c_X4_foundAt (l : Launch) (G : Gh) (S : Pl) (rd nb tk tp tb : Nat) (hR : shRd S rd nb tk tp tb) : MtI l yX4_foundAt cX4_foundAt 1 (some .int) (Rm 0 0 0) G [.ref rd] S (fun (r : Int32) (S' : Pl) => S = S' ∧ r = pI S 23 rd) 0 0 := by
  refine MtI.of (by decide) (Nat.le_of_ble_eq_true rfl) ?_
  intro p e s m args below meth c Q A X hw hin hret ls hl
  have hx := X.1.1
  have hb := X.1.2.1
  have hl : lv_has ls 1 [(0, .ref rd)] := hl
  refine lv_aload_n hx hb dX4_foundAt_0 rfl (lv_at hl 0 rfl) ?_
  refine gf_X4_15 (v := (pI S) 23 rd) X hw hR.1 rfl dX4_foundAt_1 ?_
  exact hret ((pI S) 23 rd) _ _ _ _ _ ⟨rfl, rfl⟩ hw rfl dX4_foundAt_4
set_option maxHeartbeats 4000000 in
set_option maxRecDepth 100000 in
theorem c_X4_note (l : Launch) (G : Gh) (S : Pl) (rd nb tk tp tb : Nat) (w : Int32) (hR : shRd S rd nb tk tp tb) : MtV l yX4_note cX4_note 2 none (Rm 1 0 0) G [.ref rd, .int w] S (fun (S' : Pl) => ∃ I', ch S I' (pJ S) (qI S) (qJ S) = S' ∧ Fr (pI S) I') 0 0 := by
  refine MtV.of (by decide) (Nat.le_of_ble_eq_true rfl) ?_
  intro p e s m args below meth c Q A X hw hin hret ls hl
  have hx := X.1.1
  have hb := X.1.2.1
  have hl : lv_has ls 2 [(0, .ref rd), (1, .int w)] := hl
  refine lv_aload_n hx hb dX4_note_0 rfl (lv_at hl 0 rfl) ?_
  refine lv_iload_n hx hb dX4_note_1 rfl (lv_at hl 1 rfl) ?_
  refine pf_X4_28 X hw hR.1 dX4_note_2 (fun H locs hw => ?_)
  have hw : PX G A s.heap (ch S (up2 (pI S) 22 rd w) (pJ S) (qI S) (qJ S)) H locs := hw
  refine lv_aload_n hx hb dX4_note_5 rfl (lv_at hl 0 rfl) ?_
  refine lv_aload_n hx hb dX4_note_6 rfl (lv_at hl 0 rfl) ?_
  refine gf_X4_24 (b := tk) X hw hR.1 hR.2.1 dX4_note_7 ?_
  refine k_Vi (n := 0) X hw (rcvk (ci := 9) X hw hR.2.2.2.2.2.1 (fun _ _ _ _ _ _ _ => ⟨_, rfl⟩) rfl) (c_X9_start l G _ tk tp tb hR.2.2.2.2.2) wd_r11_14 wd_r11_15 wd_r11_16 wd_r3_2 wd_r11_17 ⟨by decide, by decide, by decide +kernel⟩ rfl rfl ⟨Nat.le_of_ble_eq_true rfl, Nat.le_of_ble_eq_true rfl⟩ rfl rfl hl.1 (Nat.le_of_ble_eq_true rfl) dX4_note_10 ⟨Nat.le_of_ble_eq_true rfl, Nat.le_of_ble_eq_true rfl⟩ (fun r10_1 S10_3 H locs h10_2 hw => ?_)
  obtain ⟨rfl, h10_2⟩ := h10_2
  refine pf_X4_15 X hw hR.1 dX4_note_13 (fun H locs hw => ?_)
  have hw : PX G A s.heap (ch S (up2 (up2 (pI S) 22 rd w) 23 rd r10_1) (pJ S) (qI S) (qJ S)) H locs := hw
  exact hret _ _ _ _ _ ⟨_, rfl, (Fr.up (f := 23) (by decide) (Fr.up (f := 22) (by decide) Fr.rf))⟩ hw dX4_note_16
set_option maxHeartbeats 4000000 in
set_option maxRecDepth 100000 in
theorem c_X4_isThere (l : Launch) (G : Gh) (S : Pl) (rd nb tk tp tb : Nat) (w : Int32) (hR : shRd S rd nb tk tp tb) : MtI l yX4_isThere cX4_isThere 3 (some .boolean) (Rm 2 0 0) G [.ref rd, .int w] S (fun (r : Int32) (S' : Pl) => ∃ I', ch S I' (pJ S) (qI S) (qJ S) = S' ∧ Fr (pI S) I') 0 0 := by
  refine MtI.of (by decide) (Nat.le_of_ble_eq_true rfl) ?_
  intro p e s m args below meth c Q A X hw hin hret ls hl
  have hx := X.1.1
  have hb := X.1.2.1
  have hl : lv_has ls 3 [(0, .ref rd), (1, .int w)] := hl
  refine lv_aload_n hx hb dX4_isThere_0 rfl (lv_at hl 0 rfl) ?_
  refine gf_X4_24 (b := tk) X hw hR.1 hR.2.1 dX4_isThere_1 ?_
  refine k_Vi (n := 0) X hw (rcvk (ci := 9) X hw hR.2.2.2.2.2.1 (fun _ _ _ _ _ _ _ => ⟨_, rfl⟩) rfl) (c_X9_kind l G _ tk tp tb hR.2.2.2.2.2) wd_r10_13 wd_r10_14 wd_r10_15 wd_r3_2 wd_r10_16 ⟨by decide, by decide, by decide +kernel⟩ rfl rfl ⟨Nat.le_of_ble_eq_true rfl, Nat.le_of_ble_eq_true rfl⟩ rfl rfl hl.1 (Nat.le_of_ble_eq_true rfl) dX4_isThere_4 ⟨Nat.le_of_ble_eq_true rfl, Nat.le_of_ble_eq_true rfl⟩ (fun r4_1 S4_3 H locs h4_2 hw => ?_)
  obtain ⟨rfl, h4_2⟩ := h4_2
  refine lv_istore_n (lv' := [(2, .int r4_1), (0, .ref rd), (1, .int w)]) hx hb dX4_isThere_7 rfl hl (by decide) rfl (fun ls hl => ?_)
  refine lv_iload_n hx hb dX4_isThere_8 rfl (lv_at hl 0 rfl) ?_
  refine lv_if_eq (tgt := 17) hx hb dX4_isThere_9 (by decide) (fun c9_4 => ?_) (fun c9_4 => ?_)
  · have D9_4 := iEq c9_4 rfl t_0
    refine lv_aload_n hx hb dX4_isThere_17 rfl (lv_at hl 1 rfl) ?_
    refine lv_iconst (v := 1) hx hb dX4_isThere_18 (by decide) ?_
    refine k_Vv (n := 1) X hw (rcvk (ci := 4) X hw hR.1 (fun _ _ _ _ _ _ _ => ⟨_, rfl⟩) rfl) (c_X4_note l G _ rd nb tk tp tb 1 hR) wd_r11_10 wd_r11_11 wd_r11_12 wd_r1_18 wd_r11_13 ⟨by decide, by decide, by decide +kernel⟩ rfl rfl ⟨Nat.le_of_ble_eq_true rfl, Nat.le_of_ble_eq_true rfl⟩ rfl rfl hl.1 (Nat.le_of_ble_eq_true rfl) dX4_isThere_19 ⟨Nat.le_of_ble_eq_true rfl, Nat.le_of_ble_eq_true rfl⟩ (fun S19_6 H locs h19_5 hw => ?_)
    have := t_1
    obtain ⟨I19_7, rfl, h19_5⟩ := h19_5
    have hw : PX G A s.heap (ch S I19_7 (pJ S) (qI S) (qJ S)) H locs := hw
    refine lv_goto (tgt := 35) hx hb dX4_isThere_22 (by decide) ?_
    refine lv_iload_n hx hb dX4_isThere_35 rfl (lv_at hl 0 rfl) ?_
    refine lv_iload_n hx hb dX4_isThere_36 rfl (lv_at hl 2 rfl) ?_
    refine lv_icmp_ne (tgt := 44) hx hb dX4_isThere_37 (by decide) (fun c37_8 => ?_) (fun c37_8 => ?_)
    · have D37_8 := iNe c37_8 rfl rfl
      refine lv_iconst (v := 0) hx hb dX4_isThere_44 (by decide) ?_
      exact hret 0 _ _ _ _ _ ⟨_, rfl, (Fr.tr Fr.rf h19_5)⟩ hw rfl dX4_isThere_45
    · have D37_8 := iEq c37_8 rfl rfl
      refine lv_iconst (v := 1) hx hb dX4_isThere_40 (by decide) ?_
      refine lv_goto (tgt := 45) hx hb dX4_isThere_41 (by decide) ?_
      exact hret 1 _ _ _ _ _ ⟨_, rfl, (Fr.tr Fr.rf h19_5)⟩ hw rfl dX4_isThere_45
  · have D9_4 := iNe c9_4 rfl t_0
    refine lv_iload_n hx hb dX4_isThere_12 rfl (lv_at hl 0 rfl) ?_
    refine lv_iconst (v := 1) hx hb dX4_isThere_13 (by decide) ?_
    refine lv_icmp_ne (tgt := 25) hx hb dX4_isThere_14 (by decide) (fun c14_9 => ?_) (fun c14_9 => ?_)
    · have D14_9 := iNe c14_9 rfl t_1
      refine lv_iload_n hx hb dX4_isThere_25 rfl (lv_at hl 0 rfl) ?_
      refine lv_iload_n hx hb dX4_isThere_26 rfl (lv_at hl 2 rfl) ?_
      refine lv_icmp_eq (tgt := 35) hx hb dX4_isThere_27 (by decide) (fun c27_10 => ?_) (fun c27_10 => ?_)
      · have D27_10 := iEq c27_10 rfl rfl
        refine lv_iload_n hx hb dX4_isThere_35 rfl (lv_at hl 0 rfl) ?_
        refine lv_iload_n hx hb dX4_isThere_36 rfl (lv_at hl 2 rfl) ?_
        refine lv_icmp_ne (tgt := 44) hx hb dX4_isThere_37 (by decide) (fun c37_11 => ?_) (fun c37_11 => ?_)
        · have D37_11 := iNe c37_11 rfl rfl
          refine lv_iconst (v := 0) hx hb dX4_isThere_44 (by decide) ?_
          exact hret 0 _ _ _ _ _ ⟨_, rfl, Fr.rf⟩ hw rfl dX4_isThere_45
        · have D37_11 := iEq c37_11 rfl rfl
          refine lv_iconst (v := 1) hx hb dX4_isThere_40 (by decide) ?_
          refine lv_goto (tgt := 45) hx hb dX4_isThere_41 (by decide) ?_
          exact hret 1 _ _ _ _ _ ⟨_, rfl, Fr.rf⟩ hw rfl dX4_isThere_45
      · have D27_10 := iNe c27_10 rfl rfl
        refine lv_aload_n hx hb dX4_isThere_30 rfl (lv_at hl 1 rfl) ?_
        refine lv_iconst (v := 2) hx hb dX4_isThere_31 (by decide) ?_
        refine k_Vv (n := 1) X hw (rcvk (ci := 4) X hw hR.1 (fun _ _ _ _ _ _ _ => ⟨_, rfl⟩) rfl) (c_X4_note l G _ rd nb tk tp tb 2 hR) wd_r11_10 wd_r11_11 wd_r11_12 wd_r1_18 wd_r11_13 ⟨by decide, by decide, by decide +kernel⟩ rfl rfl ⟨Nat.le_of_ble_eq_true rfl, Nat.le_of_ble_eq_true rfl⟩ rfl rfl hl.1 (Nat.le_of_ble_eq_true rfl) dX4_isThere_32 ⟨Nat.le_of_ble_eq_true rfl, Nat.le_of_ble_eq_true rfl⟩ (fun S32_13 H locs h32_12 hw => ?_)
        have := t_2
        obtain ⟨I32_14, rfl, h32_12⟩ := h32_12
        have hw : PX G A s.heap (ch S I32_14 (pJ S) (qI S) (qJ S)) H locs := hw
        refine lv_iload_n hx hb dX4_isThere_35 rfl (lv_at hl 0 rfl) ?_
        refine lv_iload_n hx hb dX4_isThere_36 rfl (lv_at hl 2 rfl) ?_
        refine lv_icmp_ne (tgt := 44) hx hb dX4_isThere_37 (by decide) (fun c37_15 => ?_) (fun c37_15 => ?_)
        · have D37_15 := iNe c37_15 rfl rfl
          refine lv_iconst (v := 0) hx hb dX4_isThere_44 (by decide) ?_
          exact hret 0 _ _ _ _ _ ⟨_, rfl, (Fr.tr Fr.rf h32_12)⟩ hw rfl dX4_isThere_45
        · have D37_15 := iEq c37_15 rfl rfl
          refine lv_iconst (v := 1) hx hb dX4_isThere_40 (by decide) ?_
          refine lv_goto (tgt := 45) hx hb dX4_isThere_41 (by decide) ?_
          exact hret 1 _ _ _ _ _ ⟨_, rfl, (Fr.tr Fr.rf h32_12)⟩ hw rfl dX4_isThere_45
    · have D14_9 := iEq c14_9 rfl t_1
      refine lv_aload_n hx hb dX4_isThere_17 rfl (lv_at hl 1 rfl) ?_
      refine lv_iconst (v := 1) hx hb dX4_isThere_18 (by decide) ?_
      refine k_Vv (n := 1) X hw (rcvk (ci := 4) X hw hR.1 (fun _ _ _ _ _ _ _ => ⟨_, rfl⟩) rfl) (c_X4_note l G _ rd nb tk tp tb 1 hR) wd_r11_10 wd_r11_11 wd_r11_12 wd_r1_18 wd_r11_13 ⟨by decide, by decide, by decide +kernel⟩ rfl rfl ⟨Nat.le_of_ble_eq_true rfl, Nat.le_of_ble_eq_true rfl⟩ rfl rfl hl.1 (Nat.le_of_ble_eq_true rfl) dX4_isThere_19 ⟨Nat.le_of_ble_eq_true rfl, Nat.le_of_ble_eq_true rfl⟩ (fun S19_17 H locs h19_16 hw => ?_)
      have := t_1
      obtain ⟨I19_18, rfl, h19_16⟩ := h19_16
      have hw : PX G A s.heap (ch S I19_18 (pJ S) (qI S) (qJ S)) H locs := hw
      refine lv_goto (tgt := 35) hx hb dX4_isThere_22 (by decide) ?_
      refine lv_iload_n hx hb dX4_isThere_35 rfl (lv_at hl 0 rfl) ?_
      refine lv_iload_n hx hb dX4_isThere_36 rfl (lv_at hl 2 rfl) ?_
      refine lv_icmp_ne (tgt := 44) hx hb dX4_isThere_37 (by decide) (fun c37_19 => ?_) (fun c37_19 => ?_)
      · have D37_19 := iNe c37_19 rfl rfl
        refine lv_iconst (v := 0) hx hb dX4_isThere_44 (by decide) ?_
        exact hret 0 _ _ _ _ _ ⟨_, rfl, (Fr.tr Fr.rf h19_16)⟩ hw rfl dX4_isThere_45
      · have D37_19 := iEq c37_19 rfl rfl
        refine lv_iconst (v := 1) hx hb dX4_isThere_40 (by decide) ?_
        refine lv_goto (tgt := 45) hx hb dX4_isThere_41 (by decide) ?_
        exact hret 1 _ _ _ _ _ ⟨_, rfl, (Fr.tr Fr.rf h19_16)⟩ hw rfl dX4_isThere_45
set_option maxHeartbeats 4000000 in
set_option maxRecDepth 100000 in
theorem c_X4_isTold (l : Launch) (G : Gh) (S : Pl) (rd nb tk tp tb : Nat) (sa : Nat → Nat) (w : Int32) (hR : shRd S rd nb tk tp tb) (hS : shSea S sa) : MtI l yX4_isTold cX4_isTold 3 (some .boolean) (Rm 2 0 0) G [.ref rd, .ref (sa 0), .int w] S (fun (r : Int32) (S' : Pl) => (S = S' ∧ r = 1 ∧ True) ∨ (S = S' ∧ r = 0 ∧ True)) 0 0 := by
  refine MtI.of (by decide) (Nat.le_of_ble_eq_true rfl) ?_
  intro p e s m args below meth c Q A X hw hin hret ls hl
  have hx := X.1.1
  have hb := X.1.2.1
  have hl : lv_has ls 3 [(0, .ref rd), (1, .ref (sa 0)), (2, .int w)] := hl
  refine lv_iload_n hx hb dX4_isTold_0 rfl (lv_at hl 2 rfl) ?_
  by_cases k1_1 : w = 0
  · refine lv_tableIn (tgt := 32) hx hb dX4_isTold_1 (by rw [k1_1]; decide) (by rw [k1_1]; decide) (by rw [k1_1]; rfl) (by decide) ?_
    refine lv_aload_n hx hb dX4_isTold_32 rfl (lv_at hl 1 rfl) ?_
    refine lv_aload_n hx hb dX4_isTold_33 rfl (lv_at hl 0 rfl) ?_
    refine gf_X4_11 (b := nb) X hw hR.1 hR.2.2.1 dX4_isTold_34 ?_
    refine lv_iconst (v := 0) hx hb dX4_isTold_37 (by decide) ?_
    refine q_ldI X hw hR.2.2.2.1 (vinl hR.2.2.2.2.1 (by decide) t_0 (by decide)) dX4_isTold_38 ?_
    refine lv_topi (fun v38_2 e38_2 => ?_)
    have e38_2 : v38_2 = (qI S) nb ((0 : Int32).toNatClampNeg) := e38_2
    refine k_Vi (n := 1) X hw (rcvk (ci := 3) X hw hS.1 (fun _ _ _ _ _ _ _ => ⟨_, rfl⟩) rfl) (c_X3_isWindTold l G _ sa v38_2 hS) wd_r14_22 wd_r14_23 wd_r15_0 wd_r2_9 wd_r15_1 ⟨by decide, by decide, by decide +kernel⟩ rfl rfl ⟨Nat.le_of_ble_eq_true rfl, Nat.le_of_ble_eq_true rfl⟩ rfl rfl hl.1 (Nat.le_of_ble_eq_true rfl) dX4_isTold_39 ⟨Nat.le_of_ble_eq_true rfl, Nat.le_of_ble_eq_true rfl⟩ (fun r39_3 S39_5 H locs h39_4 hw => ?_)
    rcases h39_4 with ⟨rfl, rfl, h39_4⟩ | ⟨rfl, rfl, h39_4⟩
    · have h39_4 := h39_4
      exact hret 1 _ _ _ _ _ (Or.inl ⟨rfl, rfl, trivial⟩) hw rfl dX4_isTold_42
    · have h39_4 := h39_4
      exact hret 0 _ _ _ _ _ (Or.inr ⟨rfl, rfl, trivial⟩) hw rfl dX4_isTold_42
  have D1_1 := iNe k1_1 rfl t_0
  by_cases k1_6 : w = 1
  · refine lv_tableIn (tgt := 43) hx hb dX4_isTold_1 (by rw [k1_6]; decide) (by rw [k1_6]; decide) (by rw [k1_6]; rfl) (by decide) ?_
    refine lv_aload_n hx hb dX4_isTold_43 rfl (lv_at hl 1 rfl) ?_
    refine lv_aload_n hx hb dX4_isTold_44 rfl (lv_at hl 0 rfl) ?_
    refine gf_X4_11 (b := nb) X hw hR.1 hR.2.2.1 dX4_isTold_45 ?_
    refine lv_iconst (v := 0) hx hb dX4_isTold_48 (by decide) ?_
    refine q_ldI X hw hR.2.2.2.1 (vinl hR.2.2.2.2.1 (by decide) t_0 (by decide)) dX4_isTold_49 ?_
    refine lv_topi (fun v49_7 e49_7 => ?_)
    have e49_7 : v49_7 = (qI S) nb ((0 : Int32).toNatClampNeg) := e49_7
    refine lv_aload_n hx hb dX4_isTold_50 rfl (lv_at hl 0 rfl) ?_
    refine gf_X4_11 (b := nb) X hw hR.1 hR.2.2.1 dX4_isTold_51 ?_
    refine lv_iconst (v := 1) hx hb dX4_isTold_54 (by decide) ?_
    refine q_ldI X hw hR.2.2.2.1 (vinl hR.2.2.2.2.1 (by decide) t_1 (by decide)) dX4_isTold_55 ?_
    refine lv_topi (fun v55_8 e55_8 => ?_)
    have e55_8 : v55_8 = (qI S) nb ((1 : Int32).toNatClampNeg) := e55_8
    refine k_Vi (n := 2) X hw (rcvk (ci := 3) X hw hS.1 (fun _ _ _ _ _ _ _ => ⟨_, rfl⟩) rfl) (c_X3_isStreamTold l G _ sa v49_7 v55_8 hS) wd_r15_6 wd_r15_7 wd_r15_8 wd_r2_9 wd_r15_9 ⟨by decide, by decide, by decide +kernel⟩ rfl rfl ⟨Nat.le_of_ble_eq_true rfl, Nat.le_of_ble_eq_true rfl⟩ rfl rfl hl.1 (Nat.le_of_ble_eq_true rfl) dX4_isTold_56 ⟨Nat.le_of_ble_eq_true rfl, Nat.le_of_ble_eq_true rfl⟩ (fun r56_9 S56_11 H locs h56_10 hw => ?_)
    rcases h56_10 with ⟨rfl, rfl, h56_10⟩ | ⟨rfl, rfl, h56_10⟩
    · have h56_10 := h56_10
      exact hret 1 _ _ _ _ _ (Or.inl ⟨rfl, rfl, trivial⟩) hw rfl dX4_isTold_59
    · have h56_10 := h56_10
      exact hret 0 _ _ _ _ _ (Or.inr ⟨rfl, rfl, trivial⟩) hw rfl dX4_isTold_59
  have D1_6 := iNe k1_6 rfl t_1
  by_cases k1_12 : w = 2
  · refine lv_tableIn (tgt := 60) hx hb dX4_isTold_1 (by rw [k1_12]; decide) (by rw [k1_12]; decide) (by rw [k1_12]; rfl) (by decide) ?_
    refine lv_aload_n hx hb dX4_isTold_60 rfl (lv_at hl 1 rfl) ?_
    refine lv_aload_n hx hb dX4_isTold_61 rfl (lv_at hl 0 rfl) ?_
    refine gf_X4_11 (b := nb) X hw hR.1 hR.2.2.1 dX4_isTold_62 ?_
    refine lv_iconst (v := 0) hx hb dX4_isTold_65 (by decide) ?_
    refine q_ldI X hw hR.2.2.2.1 (vinl hR.2.2.2.2.1 (by decide) t_0 (by decide)) dX4_isTold_66 ?_
    refine lv_topi (fun v66_13 e66_13 => ?_)
    have e66_13 : v66_13 = (qI S) nb ((0 : Int32).toNatClampNeg) := e66_13
    refine k_Vi (n := 1) X hw (rcvk (ci := 3) X hw hS.1 (fun _ _ _ _ _ _ _ => ⟨_, rfl⟩) rfl) (c_X3_isLeeTold l G _ sa v66_13 hS) wd_r15_12 wd_r15_13 wd_r15_14 wd_r2_9 wd_r15_15 ⟨by decide, by decide, by decide +kernel⟩ rfl rfl ⟨Nat.le_of_ble_eq_true rfl, Nat.le_of_ble_eq_true rfl⟩ rfl rfl hl.1 (Nat.le_of_ble_eq_true rfl) dX4_isTold_67 ⟨Nat.le_of_ble_eq_true rfl, Nat.le_of_ble_eq_true rfl⟩ (fun r67_14 S67_16 H locs h67_15 hw => ?_)
    rcases h67_15 with ⟨rfl, rfl, h67_15⟩ | ⟨rfl, rfl, h67_15⟩
    · have h67_15 := h67_15
      exact hret 1 _ _ _ _ _ (Or.inl ⟨rfl, rfl, trivial⟩) hw rfl dX4_isTold_70
    · have h67_15 := h67_15
      exact hret 0 _ _ _ _ _ (Or.inr ⟨rfl, rfl, trivial⟩) hw rfl dX4_isTold_70
  have D1_12 := iNe k1_12 rfl t_2
  by_cases k1_17 : w = 3
  · refine lv_tableIn (tgt := 71) hx hb dX4_isTold_1 (by rw [k1_17]; decide) (by rw [k1_17]; decide) (by rw [k1_17]; rfl) (by decide) ?_
    refine lv_aload_n hx hb dX4_isTold_71 rfl (lv_at hl 1 rfl) ?_
    refine lv_aload_n hx hb dX4_isTold_72 rfl (lv_at hl 0 rfl) ?_
    refine gf_X4_11 (b := nb) X hw hR.1 hR.2.2.1 dX4_isTold_73 ?_
    refine lv_iconst (v := 1) hx hb dX4_isTold_76 (by decide) ?_
    refine q_ldI X hw hR.2.2.2.1 (vinl hR.2.2.2.2.1 (by decide) t_1 (by decide)) dX4_isTold_77 ?_
    refine lv_topi (fun v77_18 e77_18 => ?_)
    have e77_18 : v77_18 = (qI S) nb ((1 : Int32).toNatClampNeg) := e77_18
    refine lv_bipush (v := 8) hx hb dX4_isTold_78 (by decide) ?_
    refine lv_imul hx hb dX4_isTold_80 ?_
    refine lv_topi (fun v80_19 e80_19 => ?_)
    refine lv_aload_n hx hb dX4_isTold_81 rfl (lv_at hl 0 rfl) ?_
    refine gf_X4_11 (b := nb) X hw hR.1 hR.2.2.1 dX4_isTold_82 ?_
    refine lv_iconst (v := 0) hx hb dX4_isTold_85 (by decide) ?_
    refine q_ldI X hw hR.2.2.2.1 (vinl hR.2.2.2.2.1 (by decide) t_0 (by decide)) dX4_isTold_86 ?_
    refine lv_topi (fun v86_20 e86_20 => ?_)
    have e86_20 : v86_20 = (qI S) nb ((0 : Int32).toNatClampNeg) := e86_20
    refine lv_iadd hx hb dX4_isTold_87 ?_
    refine lv_topi (fun v87_21 e87_21 => ?_)
    refine k_Vi (n := 1) X hw (rcvk (ci := 3) X hw hS.1 (fun _ _ _ _ _ _ _ => ⟨_, rfl⟩) rfl) (c_X3_hasLand l G _ sa v87_21 hS) wd_r15_18 wd_r15_19 wd_r15_20 wd_r2_9 wd_r15_21 ⟨by decide, by decide, by decide +kernel⟩ rfl rfl ⟨Nat.le_of_ble_eq_true rfl, Nat.le_of_ble_eq_true rfl⟩ rfl rfl hl.1 (Nat.le_of_ble_eq_true rfl) dX4_isTold_88 ⟨Nat.le_of_ble_eq_true rfl, Nat.le_of_ble_eq_true rfl⟩ (fun r88_22 S88_24 H locs h88_23 hw => ?_)
    rcases h88_23 with ⟨rfl, rfl, h88_23⟩ | ⟨rfl, rfl, h88_23⟩
    · have h88_23 := h88_23
      exact hret 1 _ _ _ _ _ (Or.inl ⟨rfl, rfl, trivial⟩) hw rfl dX4_isTold_91
    · have h88_23 := h88_23
      exact hret 0 _ _ _ _ _ (Or.inr ⟨rfl, rfl, trivial⟩) hw rfl dX4_isTold_91
  have D1_17 := iNe k1_17 rfl t_3
  refine lv_tableOut (tgt := 92) hx hb dX4_isTold_1 (by omega) (by decide) ?_
  refine lv_aload_n hx hb dX4_isTold_92 rfl (lv_at hl 1 rfl) ?_
  refine lv_aload_n hx hb dX4_isTold_93 rfl (lv_at hl 0 rfl) ?_
  refine gf_X4_11 (b := nb) X hw hR.1 hR.2.2.1 dX4_isTold_94 ?_
  refine lv_iconst (v := 0) hx hb dX4_isTold_97 (by decide) ?_
  refine q_ldI X hw hR.2.2.2.1 (vinl hR.2.2.2.2.1 (by decide) t_0 (by decide)) dX4_isTold_98 ?_
  refine lv_topi (fun v98_25 e98_25 => ?_)
  have e98_25 : v98_25 = (qI S) nb ((0 : Int32).toNatClampNeg) := e98_25
  refine lv_aload_n hx hb dX4_isTold_99 rfl (lv_at hl 0 rfl) ?_
  refine gf_X4_11 (b := nb) X hw hR.1 hR.2.2.1 dX4_isTold_100 ?_
  refine lv_iconst (v := 1) hx hb dX4_isTold_103 (by decide) ?_
  refine q_ldI X hw hR.2.2.2.1 (vinl hR.2.2.2.2.1 (by decide) t_1 (by decide)) dX4_isTold_104 ?_
  refine lv_topi (fun v104_26 e104_26 => ?_)
  have e104_26 : v104_26 = (qI S) nb ((1 : Int32).toNatClampNeg) := e104_26
  refine k_Vi (n := 2) X hw (rcvk (ci := 3) X hw hS.1 (fun _ _ _ _ _ _ _ => ⟨_, rfl⟩) rfl) (c_X3_isMissTold l G _ sa v98_25 v104_26 hS) wd_r16_0 wd_r16_1 wd_r16_2 wd_r2_9 wd_r16_3 ⟨by decide, by decide, by decide +kernel⟩ rfl rfl ⟨Nat.le_of_ble_eq_true rfl, Nat.le_of_ble_eq_true rfl⟩ rfl rfl hl.1 (Nat.le_of_ble_eq_true rfl) dX4_isTold_105 ⟨Nat.le_of_ble_eq_true rfl, Nat.le_of_ble_eq_true rfl⟩ (fun r105_27 S105_29 H locs h105_28 hw => ?_)
  rcases h105_28 with ⟨rfl, rfl, h105_28⟩ | ⟨rfl, rfl, h105_28⟩
  · have h105_28 := h105_28
    exact hret 1 _ _ _ _ _ (Or.inl ⟨rfl, rfl, trivial⟩) hw rfl dX4_isTold_108
  · have h105_28 := h105_28
    exact hret 0 _ _ _ _ _ (Or.inr ⟨rfl, rfl, trivial⟩) hw rfl dX4_isTold_108
set_option maxHeartbeats 4000000 in
set_option maxRecDepth 100000 in
theorem c_X4_tell (l : Launch) (G : Gh) (S : Pl) (rd nb tk tp tb : Nat) (sa : Nat → Nat) (w : Int32) (hR : shRd S rd nb tk tp tb) (hS : shSea S sa) : MtV l yX4_tell cX4_tell 3 none (Rm 3 0 0) G [.ref rd, .ref (sa 0), .int w] S (fun (S' : Pl) => ∃ I' q', ch S I' (pJ S) q' (qJ S) = S' ∧ Fr (pI S) I') 0 0 := by
  refine MtV.of (by decide) (Nat.le_of_ble_eq_true rfl) ?_
  intro p e s m args below meth c Q A X hw hin hret ls hl
  have hx := X.1.1
  have hb := X.1.2.1
  have hl : lv_has ls 3 [(0, .ref rd), (1, .ref (sa 0)), (2, .int w)] := hl
  refine lv_iload_n hx hb dX4_tell_0 rfl (lv_at hl 2 rfl) ?_
  by_cases k1_1 : w = 0
  · refine lv_tableIn (tgt := 32) hx hb dX4_tell_1 (by rw [k1_1]; decide) (by rw [k1_1]; decide) (by rw [k1_1]; rfl) (by decide) ?_
    refine lv_aload_n hx hb dX4_tell_32 rfl (lv_at hl 1 rfl) ?_
    refine lv_aload_n hx hb dX4_tell_33 rfl (lv_at hl 0 rfl) ?_
    refine gf_X4_11 (b := nb) X hw hR.1 hR.2.2.1 dX4_tell_34 ?_
    refine lv_iconst (v := 0) hx hb dX4_tell_37 (by decide) ?_
    refine q_ldI X hw hR.2.2.2.1 (vinl hR.2.2.2.2.1 (by decide) t_0 (by decide)) dX4_tell_38 ?_
    refine lv_topi (fun v38_2 e38_2 => ?_)
    have e38_2 : v38_2 = (qI S) nb ((0 : Int32).toNatClampNeg) := e38_2
    refine lv_aload_n hx hb dX4_tell_39 rfl (lv_at hl 0 rfl) ?_
    refine gf_X4_11 (b := nb) X hw hR.1 hR.2.2.1 dX4_tell_40 ?_
    refine lv_iconst (v := 1) hx hb dX4_tell_43 (by decide) ?_
    refine q_ldI X hw hR.2.2.2.1 (vinl hR.2.2.2.2.1 (by decide) t_1 (by decide)) dX4_tell_44 ?_
    refine lv_topi (fun v44_3 e44_3 => ?_)
    have e44_3 : v44_3 = (qI S) nb ((1 : Int32).toNatClampNeg) := e44_3
    refine lv_aload_n hx hb dX4_tell_45 rfl (lv_at hl 0 rfl) ?_
    refine gf_X4_11 (b := nb) X hw hR.1 hR.2.2.1 dX4_tell_46 ?_
    refine lv_iconst (v := 2) hx hb dX4_tell_49 (by decide) ?_
    refine q_ldI X hw hR.2.2.2.1 (vinl hR.2.2.2.2.1 (by decide) t_2 (by decide)) dX4_tell_50 ?_
    refine lv_topi (fun v50_4 e50_4 => ?_)
    have e50_4 : v50_4 = (qI S) nb ((2 : Int32).toNatClampNeg) := e50_4
    refine k_Vv (n := 3) X hw (rcvk (ci := 3) X hw hS.1 (fun _ _ _ _ _ _ _ => ⟨_, rfl⟩) rfl) (c_X3_tellWind l G _ sa v38_2 v44_3 v50_4 hS) wd_r16_19 wd_r16_20 wd_r16_21 wd_r2_9 wd_r16_22 ⟨by decide, by decide, by decide +kernel⟩ rfl rfl ⟨Nat.le_of_ble_eq_true rfl, Nat.le_of_ble_eq_true rfl⟩ rfl rfl hl.1 (Nat.le_of_ble_eq_true rfl) dX4_tell_51 ⟨Nat.le_of_ble_eq_true rfl, Nat.le_of_ble_eq_true rfl⟩ (fun S51_6 H locs h51_5 hw => ?_)
    obtain ⟨q51_7, rfl, h51_5⟩ := h51_5
    have hw : PX G A s.heap (ch S (pI S) (pJ S) q51_7 (qJ S)) H locs := hw
    refine lv_goto (tgt := 152) hx hb dX4_tell_54 (by decide) ?_
    refine lv_aload_n hx hb dX4_tell_152 rfl (lv_at hl 1 rfl) ?_
    refine k_Vv (n := 0) X hw (rcvk (ci := 3) X hw hS.1 (fun _ _ _ _ _ _ _ => ⟨_, rfl⟩) rfl) (c_X3_countLine l G _ sa hS) wd_r17_21 wd_r17_22 wd_r17_23 wd_r2_9 wd_r18_0 ⟨by decide, by decide, by decide +kernel⟩ rfl rfl ⟨Nat.le_of_ble_eq_true rfl, Nat.le_of_ble_eq_true rfl⟩ rfl rfl hl.1 (Nat.le_of_ble_eq_true rfl) dX4_tell_153 ⟨Nat.le_of_ble_eq_true rfl, Nat.le_of_ble_eq_true rfl⟩ (fun S153_9 H locs h153_8 hw => ?_)
    obtain ⟨I153_10, rfl, h153_8⟩ := h153_8
    have hw : PX G A s.heap (ch S I153_10 (pJ S) q51_7 (qJ S)) H locs := hw
    exact hret _ _ _ _ _ ⟨_, _, rfl, (Fr.tr Fr.rf h153_8)⟩ hw dX4_tell_156
  have D1_1 := iNe k1_1 rfl t_0
  by_cases k1_11 : w = 1
  · refine lv_tableIn (tgt := 57) hx hb dX4_tell_1 (by rw [k1_11]; decide) (by rw [k1_11]; decide) (by rw [k1_11]; rfl) (by decide) ?_
    refine lv_aload_n hx hb dX4_tell_57 rfl (lv_at hl 1 rfl) ?_
    refine lv_aload_n hx hb dX4_tell_58 rfl (lv_at hl 0 rfl) ?_
    refine gf_X4_11 (b := nb) X hw hR.1 hR.2.2.1 dX4_tell_59 ?_
    refine lv_iconst (v := 0) hx hb dX4_tell_62 (by decide) ?_
    refine q_ldI X hw hR.2.2.2.1 (vinl hR.2.2.2.2.1 (by decide) t_0 (by decide)) dX4_tell_63 ?_
    refine lv_topi (fun v63_12 e63_12 => ?_)
    have e63_12 : v63_12 = (qI S) nb ((0 : Int32).toNatClampNeg) := e63_12
    refine lv_aload_n hx hb dX4_tell_64 rfl (lv_at hl 0 rfl) ?_
    refine gf_X4_11 (b := nb) X hw hR.1 hR.2.2.1 dX4_tell_65 ?_
    refine lv_iconst (v := 1) hx hb dX4_tell_68 (by decide) ?_
    refine q_ldI X hw hR.2.2.2.1 (vinl hR.2.2.2.2.1 (by decide) t_1 (by decide)) dX4_tell_69 ?_
    refine lv_topi (fun v69_13 e69_13 => ?_)
    have e69_13 : v69_13 = (qI S) nb ((1 : Int32).toNatClampNeg) := e69_13
    refine lv_aload_n hx hb dX4_tell_70 rfl (lv_at hl 0 rfl) ?_
    refine gf_X4_11 (b := nb) X hw hR.1 hR.2.2.1 dX4_tell_71 ?_
    refine lv_iconst (v := 2) hx hb dX4_tell_74 (by decide) ?_
    refine q_ldI X hw hR.2.2.2.1 (vinl hR.2.2.2.2.1 (by decide) t_2 (by decide)) dX4_tell_75 ?_
    refine lv_topi (fun v75_14 e75_14 => ?_)
    have e75_14 : v75_14 = (qI S) nb ((2 : Int32).toNatClampNeg) := e75_14
    refine lv_aload_n hx hb dX4_tell_76 rfl (lv_at hl 0 rfl) ?_
    refine gf_X4_11 (b := nb) X hw hR.1 hR.2.2.1 dX4_tell_77 ?_
    refine lv_iconst (v := 3) hx hb dX4_tell_80 (by decide) ?_
    refine q_ldI X hw hR.2.2.2.1 (vinl hR.2.2.2.2.1 (by decide) t_3 (by decide)) dX4_tell_81 ?_
    refine lv_topi (fun v81_15 e81_15 => ?_)
    have e81_15 : v81_15 = (qI S) nb ((3 : Int32).toNatClampNeg) := e81_15
    refine k_Vv (n := 4) X hw (rcvk (ci := 3) X hw hS.1 (fun _ _ _ _ _ _ _ => ⟨_, rfl⟩) rfl) (c_X3_tellStream l G _ sa v63_12 v69_13 v75_14 v81_15 hS) wd_r17_5 wd_r17_6 wd_r17_7 wd_r2_9 wd_r17_8 ⟨by decide, by decide, by decide +kernel⟩ rfl rfl ⟨Nat.le_of_ble_eq_true rfl, Nat.le_of_ble_eq_true rfl⟩ rfl rfl hl.1 (Nat.le_of_ble_eq_true rfl) dX4_tell_82 ⟨Nat.le_of_ble_eq_true rfl, Nat.le_of_ble_eq_true rfl⟩ (fun S82_17 H locs h82_16 hw => ?_)
    obtain ⟨q82_18, rfl, h82_16⟩ := h82_16
    have hw : PX G A s.heap (ch S (pI S) (pJ S) q82_18 (qJ S)) H locs := hw
    refine lv_goto (tgt := 152) hx hb dX4_tell_85 (by decide) ?_
    refine lv_aload_n hx hb dX4_tell_152 rfl (lv_at hl 1 rfl) ?_
    refine k_Vv (n := 0) X hw (rcvk (ci := 3) X hw hS.1 (fun _ _ _ _ _ _ _ => ⟨_, rfl⟩) rfl) (c_X3_countLine l G _ sa hS) wd_r17_21 wd_r17_22 wd_r17_23 wd_r2_9 wd_r18_0 ⟨by decide, by decide, by decide +kernel⟩ rfl rfl ⟨Nat.le_of_ble_eq_true rfl, Nat.le_of_ble_eq_true rfl⟩ rfl rfl hl.1 (Nat.le_of_ble_eq_true rfl) dX4_tell_153 ⟨Nat.le_of_ble_eq_true rfl, Nat.le_of_ble_eq_true rfl⟩ (fun S153_20 H locs h153_19 hw => ?_)
    obtain ⟨I153_21, rfl, h153_19⟩ := h153_19
    have hw : PX G A s.heap (ch S I153_21 (pJ S) q82_18 (qJ S)) H locs := hw
    exact hret _ _ _ _ _ ⟨_, _, rfl, (Fr.tr Fr.rf h153_19)⟩ hw dX4_tell_156
  have D1_11 := iNe k1_11 rfl t_1
  by_cases k1_22 : w = 2
  · refine lv_tableIn (tgt := 88) hx hb dX4_tell_1 (by rw [k1_22]; decide) (by rw [k1_22]; decide) (by rw [k1_22]; rfl) (by decide) ?_
    refine lv_aload_n hx hb dX4_tell_88 rfl (lv_at hl 1 rfl) ?_
    refine lv_aload_n hx hb dX4_tell_89 rfl (lv_at hl 0 rfl) ?_
    refine gf_X4_11 (b := nb) X hw hR.1 hR.2.2.1 dX4_tell_90 ?_
    refine lv_iconst (v := 0) hx hb dX4_tell_93 (by decide) ?_
    refine q_ldI X hw hR.2.2.2.1 (vinl hR.2.2.2.2.1 (by decide) t_0 (by decide)) dX4_tell_94 ?_
    refine lv_topi (fun v94_23 e94_23 => ?_)
    have e94_23 : v94_23 = (qI S) nb ((0 : Int32).toNatClampNeg) := e94_23
    refine lv_aload_n hx hb dX4_tell_95 rfl (lv_at hl 0 rfl) ?_
    refine gf_X4_11 (b := nb) X hw hR.1 hR.2.2.1 dX4_tell_96 ?_
    refine lv_iconst (v := 1) hx hb dX4_tell_99 (by decide) ?_
    refine q_ldI X hw hR.2.2.2.1 (vinl hR.2.2.2.2.1 (by decide) t_1 (by decide)) dX4_tell_100 ?_
    refine lv_topi (fun v100_24 e100_24 => ?_)
    have e100_24 : v100_24 = (qI S) nb ((1 : Int32).toNatClampNeg) := e100_24
    refine k_Vv (n := 2) X hw (rcvk (ci := 3) X hw hS.1 (fun _ _ _ _ _ _ _ => ⟨_, rfl⟩) rfl) (c_X3_tellLee l G _ sa v94_23 v100_24 hS) wd_r17_9 wd_r17_10 wd_r17_11 wd_r2_9 wd_r17_12 ⟨by decide, by decide, by decide +kernel⟩ rfl rfl ⟨Nat.le_of_ble_eq_true rfl, Nat.le_of_ble_eq_true rfl⟩ rfl rfl hl.1 (Nat.le_of_ble_eq_true rfl) dX4_tell_101 ⟨Nat.le_of_ble_eq_true rfl, Nat.le_of_ble_eq_true rfl⟩ (fun S101_26 H locs h101_25 hw => ?_)
    obtain ⟨q101_27, rfl, h101_25⟩ := h101_25
    have hw : PX G A s.heap (ch S (pI S) (pJ S) q101_27 (qJ S)) H locs := hw
    refine lv_goto (tgt := 152) hx hb dX4_tell_104 (by decide) ?_
    refine lv_aload_n hx hb dX4_tell_152 rfl (lv_at hl 1 rfl) ?_
    refine k_Vv (n := 0) X hw (rcvk (ci := 3) X hw hS.1 (fun _ _ _ _ _ _ _ => ⟨_, rfl⟩) rfl) (c_X3_countLine l G _ sa hS) wd_r17_21 wd_r17_22 wd_r17_23 wd_r2_9 wd_r18_0 ⟨by decide, by decide, by decide +kernel⟩ rfl rfl ⟨Nat.le_of_ble_eq_true rfl, Nat.le_of_ble_eq_true rfl⟩ rfl rfl hl.1 (Nat.le_of_ble_eq_true rfl) dX4_tell_153 ⟨Nat.le_of_ble_eq_true rfl, Nat.le_of_ble_eq_true rfl⟩ (fun S153_29 H locs h153_28 hw => ?_)
    obtain ⟨I153_30, rfl, h153_28⟩ := h153_28
    have hw : PX G A s.heap (ch S I153_30 (pJ S) q101_27 (qJ S)) H locs := hw
    exact hret _ _ _ _ _ ⟨_, _, rfl, (Fr.tr Fr.rf h153_28)⟩ hw dX4_tell_156
  have D1_22 := iNe k1_22 rfl t_2
  by_cases k1_31 : w = 3
  · refine lv_tableIn (tgt := 107) hx hb dX4_tell_1 (by rw [k1_31]; decide) (by rw [k1_31]; decide) (by rw [k1_31]; rfl) (by decide) ?_
    refine lv_aload_n hx hb dX4_tell_107 rfl (lv_at hl 1 rfl) ?_
    refine lv_aload_n hx hb dX4_tell_108 rfl (lv_at hl 0 rfl) ?_
    refine gf_X4_11 (b := nb) X hw hR.1 hR.2.2.1 dX4_tell_109 ?_
    refine lv_iconst (v := 1) hx hb dX4_tell_112 (by decide) ?_
    refine q_ldI X hw hR.2.2.2.1 (vinl hR.2.2.2.2.1 (by decide) t_1 (by decide)) dX4_tell_113 ?_
    refine lv_topi (fun v113_32 e113_32 => ?_)
    have e113_32 : v113_32 = (qI S) nb ((1 : Int32).toNatClampNeg) := e113_32
    refine lv_bipush (v := 8) hx hb dX4_tell_114 (by decide) ?_
    refine lv_imul hx hb dX4_tell_116 ?_
    refine lv_topi (fun v116_33 e116_33 => ?_)
    refine lv_aload_n hx hb dX4_tell_117 rfl (lv_at hl 0 rfl) ?_
    refine gf_X4_11 (b := nb) X hw hR.1 hR.2.2.1 dX4_tell_118 ?_
    refine lv_iconst (v := 0) hx hb dX4_tell_121 (by decide) ?_
    refine q_ldI X hw hR.2.2.2.1 (vinl hR.2.2.2.2.1 (by decide) t_0 (by decide)) dX4_tell_122 ?_
    refine lv_topi (fun v122_34 e122_34 => ?_)
    have e122_34 : v122_34 = (qI S) nb ((0 : Int32).toNatClampNeg) := e122_34
    refine lv_iadd hx hb dX4_tell_123 ?_
    refine lv_topi (fun v123_35 e123_35 => ?_)
    refine k_Vv (n := 1) X hw (rcvk (ci := 3) X hw hS.1 (fun _ _ _ _ _ _ _ => ⟨_, rfl⟩) rfl) (c_X3_tellLand l G _ sa v123_35 hS) wd_r17_13 wd_r17_14 wd_r17_15 wd_r2_9 wd_r17_16 ⟨by decide, by decide, by decide +kernel⟩ rfl rfl ⟨Nat.le_of_ble_eq_true rfl, Nat.le_of_ble_eq_true rfl⟩ rfl rfl hl.1 (Nat.le_of_ble_eq_true rfl) dX4_tell_124 ⟨Nat.le_of_ble_eq_true rfl, Nat.le_of_ble_eq_true rfl⟩ (fun S124_37 H locs h124_36 hw => ?_)
    obtain ⟨q124_38, rfl, h124_36⟩ := h124_36
    have hw : PX G A s.heap (ch S (pI S) (pJ S) q124_38 (qJ S)) H locs := hw
    refine lv_goto (tgt := 152) hx hb dX4_tell_127 (by decide) ?_
    refine lv_aload_n hx hb dX4_tell_152 rfl (lv_at hl 1 rfl) ?_
    refine k_Vv (n := 0) X hw (rcvk (ci := 3) X hw hS.1 (fun _ _ _ _ _ _ _ => ⟨_, rfl⟩) rfl) (c_X3_countLine l G _ sa hS) wd_r17_21 wd_r17_22 wd_r17_23 wd_r2_9 wd_r18_0 ⟨by decide, by decide, by decide +kernel⟩ rfl rfl ⟨Nat.le_of_ble_eq_true rfl, Nat.le_of_ble_eq_true rfl⟩ rfl rfl hl.1 (Nat.le_of_ble_eq_true rfl) dX4_tell_153 ⟨Nat.le_of_ble_eq_true rfl, Nat.le_of_ble_eq_true rfl⟩ (fun S153_40 H locs h153_39 hw => ?_)
    obtain ⟨I153_41, rfl, h153_39⟩ := h153_39
    have hw : PX G A s.heap (ch S I153_41 (pJ S) q124_38 (qJ S)) H locs := hw
    exact hret _ _ _ _ _ ⟨_, _, rfl, (Fr.tr Fr.rf h153_39)⟩ hw dX4_tell_156
  have D1_31 := iNe k1_31 rfl t_3
  refine lv_tableOut (tgt := 130) hx hb dX4_tell_1 (by omega) (by decide) ?_
  refine lv_aload_n hx hb dX4_tell_130 rfl (lv_at hl 1 rfl) ?_
  refine lv_aload_n hx hb dX4_tell_131 rfl (lv_at hl 0 rfl) ?_
  refine gf_X4_11 (b := nb) X hw hR.1 hR.2.2.1 dX4_tell_132 ?_
  refine lv_iconst (v := 0) hx hb dX4_tell_135 (by decide) ?_
  refine q_ldI X hw hR.2.2.2.1 (vinl hR.2.2.2.2.1 (by decide) t_0 (by decide)) dX4_tell_136 ?_
  refine lv_topi (fun v136_42 e136_42 => ?_)
  have e136_42 : v136_42 = (qI S) nb ((0 : Int32).toNatClampNeg) := e136_42
  refine lv_aload_n hx hb dX4_tell_137 rfl (lv_at hl 0 rfl) ?_
  refine gf_X4_11 (b := nb) X hw hR.1 hR.2.2.1 dX4_tell_138 ?_
  refine lv_iconst (v := 1) hx hb dX4_tell_141 (by decide) ?_
  refine q_ldI X hw hR.2.2.2.1 (vinl hR.2.2.2.2.1 (by decide) t_1 (by decide)) dX4_tell_142 ?_
  refine lv_topi (fun v142_43 e142_43 => ?_)
  have e142_43 : v142_43 = (qI S) nb ((1 : Int32).toNatClampNeg) := e142_43
  refine lv_aload_n hx hb dX4_tell_143 rfl (lv_at hl 0 rfl) ?_
  refine gf_X4_11 (b := nb) X hw hR.1 hR.2.2.1 dX4_tell_144 ?_
  refine lv_iconst (v := 2) hx hb dX4_tell_147 (by decide) ?_
  refine q_ldI X hw hR.2.2.2.1 (vinl hR.2.2.2.2.1 (by decide) t_2 (by decide)) dX4_tell_148 ?_
  refine lv_topi (fun v148_44 e148_44 => ?_)
  have e148_44 : v148_44 = (qI S) nb ((2 : Int32).toNatClampNeg) := e148_44
  refine k_Vv (n := 3) X hw (rcvk (ci := 3) X hw hS.1 (fun _ _ _ _ _ _ _ => ⟨_, rfl⟩) rfl) (c_X3_tellMiss l G _ sa v136_42 v142_43 v148_44 hS) wd_r17_17 wd_r17_18 wd_r17_19 wd_r2_9 wd_r17_20 ⟨by decide, by decide, by decide +kernel⟩ rfl rfl ⟨Nat.le_of_ble_eq_true rfl, Nat.le_of_ble_eq_true rfl⟩ rfl rfl hl.1 (Nat.le_of_ble_eq_true rfl) dX4_tell_149 ⟨Nat.le_of_ble_eq_true rfl, Nat.le_of_ble_eq_true rfl⟩ (fun S149_46 H locs h149_45 hw => ?_)
  obtain ⟨q149_47, rfl, h149_45⟩ := h149_45
  have hw : PX G A s.heap (ch S (pI S) (pJ S) q149_47 (qJ S)) H locs := hw
  refine lv_aload_n hx hb dX4_tell_152 rfl (lv_at hl 1 rfl) ?_
  refine k_Vv (n := 0) X hw (rcvk (ci := 3) X hw hS.1 (fun _ _ _ _ _ _ _ => ⟨_, rfl⟩) rfl) (c_X3_countLine l G _ sa hS) wd_r17_21 wd_r17_22 wd_r17_23 wd_r2_9 wd_r18_0 ⟨by decide, by decide, by decide +kernel⟩ rfl rfl ⟨Nat.le_of_ble_eq_true rfl, Nat.le_of_ble_eq_true rfl⟩ rfl rfl hl.1 (Nat.le_of_ble_eq_true rfl) dX4_tell_153 ⟨Nat.le_of_ble_eq_true rfl, Nat.le_of_ble_eq_true rfl⟩ (fun S153_49 H locs h153_48 hw => ?_)
  obtain ⟨I153_50, rfl, h153_48⟩ := h153_48
  have hw : PX G A s.heap (ch S I153_50 (pJ S) q149_47 (qJ S)) H locs := hw
  exact hret _ _ _ _ _ ⟨_, _, rfl, (Fr.tr Fr.rf h153_48)⟩ hw dX4_tell_156
set_option maxHeartbeats 4000000 in
set_option maxRecDepth 100000 in
theorem c_X4_readNumber (l : Launch) (G : Gh) (S : Pl) (rd nb tk tp tb : Nat) (sa : Nat → Nat) (w i : Int32) (hR : shRd S rd nb tk tp tb) (hS : shSea S sa) (hz : (pI S 61 tp).toInt ≤ 1000) (hq : 0 ≤ w.toInt ∧ w.toInt ≤ 4 ∧ 0 ≤ i.toInt ∧ i.toInt ≤ 3) : MtV l yX4_readNumber cX4_readNumber 5 none (Rm 3 0 0) G [.ref rd, .ref (sa 0), .int w, .int i] S (fun (S' : Pl) => ∃ I' q', ch S I' (pJ S) q' (qJ S) = S' ∧ Fr (pI S) I') 0 0 := by
  refine MtV.of (by decide) (Nat.le_of_ble_eq_true rfl) ?_
  intro p e s m args below meth c Q A X hw hin hret ls hl
  have hx := X.1.1
  have hb := X.1.2.1
  have hl : lv_has ls 5 [(0, .ref rd), (1, .ref (sa 0)), (2, .int w), (3, .int i)] := hl
  refine lv_aload_n hx hb dX4_readNumber_0 rfl (lv_at hl 0 rfl) ?_
  refine gf_X4_24 (b := tk) X hw hR.1 hR.2.1 dX4_readNumber_1 ?_
  refine k_Vv (n := 0) X hw (rcvk (ci := 9) X hw hR.2.2.2.2.2.1 (fun _ _ _ _ _ _ _ => ⟨_, rfl⟩) rfl) (c_X9_readNext l G _ tk tp tb hR.2.2.2.2.2 (Fr.sz Fr.rf hz)) wd_r9_4 wd_r9_5 wd_r9_6 wd_r3_2 wd_r9_7 ⟨by decide, by decide, by decide +kernel⟩ rfl rfl ⟨Nat.le_of_ble_eq_true rfl, Nat.le_of_ble_eq_true rfl⟩ rfl rfl hl.1 (Nat.le_of_ble_eq_true rfl) dX4_readNumber_4 ⟨Nat.le_of_ble_eq_true rfl, Nat.le_of_ble_eq_true rfl⟩ (fun S4_2 H locs h4_1 hw => ?_)
  obtain ⟨I4_3, rfl, h4_1⟩ := h4_1
  have hw : PX G A s.heap (ch S I4_3 (pJ S) (qI S) (qJ S)) H locs := hw
  refine lv_aload_n hx hb dX4_readNumber_7 rfl (lv_at hl 0 rfl) ?_
  refine lv_iconst (v := 3) hx hb dX4_readNumber_8 (by decide) ?_
  refine k_Vi (n := 1) X hw (rcvk (ci := 4) X hw hR.1 (fun _ _ _ _ _ _ _ => ⟨_, rfl⟩) rfl) (c_X4_isThere l G _ rd nb tk tp tb 3 hR) wd_r11_6 wd_r11_7 wd_r11_8 wd_r1_18 wd_r11_9 ⟨by decide, by decide, by decide +kernel⟩ rfl rfl ⟨Nat.le_of_ble_eq_true rfl, Nat.le_of_ble_eq_true rfl⟩ rfl rfl hl.1 (Nat.le_of_ble_eq_true rfl) dX4_readNumber_9 ⟨Nat.le_of_ble_eq_true rfl, Nat.le_of_ble_eq_true rfl⟩ (fun r9_4 S9_6 H locs h9_5 hw => ?_)
  have := t_3
  obtain ⟨I9_7, rfl, h9_5⟩ := h9_5
  have hw : PX G A s.heap (ch S I9_7 (pJ S) (qI S) (qJ S)) H locs := hw
  refine lv_if_ne (tgt := 16) hx hb dX4_readNumber_12 (by decide) (fun c12_8 => ?_) (fun c12_8 => ?_)
  · have D12_8 := iNe c12_8 rfl t_0
    refine lv_iload_n hx hb dX4_readNumber_16 rfl (lv_at hl 2 rfl) ?_
    refine lv_iconst (v := 4) hx hb dX4_readNumber_17 (by decide) ?_
    refine lv_imul hx hb dX4_readNumber_18 ?_
    refine lv_topi (fun v18_9 e18_9 => ?_)
    have t18_9 := iMul e18_9 rfl t_4 (by omega) (by omega)
    have t18 := t18_9
    refine lv_iload_n hx hb dX4_readNumber_19 rfl (lv_at hl 3 rfl) ?_
    refine lv_iadd hx hb dX4_readNumber_20 ?_
    refine lv_topi (fun v20_10 e20_10 => ?_)
    have t20_10 := iAdd e20_10 rfl rfl (by omega) (by omega)
    have t20 := t20_10
    refine lv_istore (lv' := [(4, .int v20_10), (0, .ref rd), (1, .ref (sa 0)), (2, .int w), (3, .int i)]) hx hb dX4_readNumber_21 hl (by decide) rfl (fun ls hl => ?_)
    refine lv_aload_n hx hb dX4_readNumber_23 rfl (lv_at hl 1 rfl) ?_
    refine gf_X4_11 (b := nb) X hw hR.1 hR.2.2.1 dX4_readNumber_24 ?_
    refine lv_iload_n hx hb dX4_readNumber_27 rfl (lv_at hl 4 rfl) ?_
    refine lv_aload_n hx hb dX4_readNumber_28 rfl (lv_at hl 1 rfl) ?_
    refine gf_X4_24 (b := tk) X hw hR.1 hR.2.1 dX4_readNumber_29 ?_
    refine k_Vi (n := 0) X hw (rcvk (ci := 9) X hw hR.2.2.2.2.2.1 (fun _ _ _ _ _ _ _ => ⟨_, rfl⟩) rfl) (c_X9_value l G _ tk tp tb hR.2.2.2.2.2) wd_r14_14 wd_r14_15 wd_r14_16 wd_r3_2 wd_r14_17 ⟨by decide, by decide, by decide +kernel⟩ rfl rfl ⟨Nat.le_of_ble_eq_true rfl, Nat.le_of_ble_eq_true rfl⟩ rfl rfl hl.1 (Nat.le_of_ble_eq_true rfl) dX4_readNumber_32 ⟨Nat.le_of_ble_eq_true rfl, Nat.le_of_ble_eq_true rfl⟩ (fun r32_11 S32_13 H locs h32_12 hw => ?_)
    obtain ⟨rfl, h32_12⟩ := h32_12
    refine q_stI X hw hR.2.2.2.1 (vin hR.2.2.2.2.1 (by omega) (by omega)) dX4_readNumber_35 (fun H locs hw => ?_)
    obtain ⟨q35_14, hw⟩ : ∃ zz9, PX G A s.heap (ch S I9_7 (pJ S) zz9 (qJ S)) H locs := ⟨_, hw⟩
    refine lv_aload_n hx hb dX4_readNumber_36 rfl (lv_at hl 1 rfl) ?_
    refine gf_X4_11 (b := nb) X hw hR.1 hR.2.2.1 dX4_readNumber_37 ?_
    refine lv_iload_n hx hb dX4_readNumber_40 rfl (lv_at hl 4 rfl) ?_
    refine q_ldI X hw hR.2.2.2.1 (vin hR.2.2.2.2.1 (by omega) (by omega)) dX4_readNumber_41 ?_
    refine lv_topi (fun v41_15 e41_15 => ?_)
    have e41_15 : v41_15 = q35_14 nb i.toNatClampNeg := e41_15
    refine va_gets hx hb X.2.2.2.2.1.2.2.2.2.2.2.1.1 hw.2.2 X.1.2.2.2.1 (X.1.2.2.2.2 _ wd_r14_11) (fun _ h => h) dX4_readNumber_42 ?_
    refine lv_iload hx hb dX4_readNumber_45 (lv_at hl 0 rfl) ?_
    refine va_ti hx hb X.2.2.2.2.1.2.2.2.2.2.2.1.2 hw.2.2 (vp_in_iff.mpr ⟨by omega, by omega⟩) (v := .int (skLEAST.getD v20_10.toNatClampNeg 0)) rfl dX4_readNumber_47 ?_
    refine lv_topi (fun v47_16 e47_16 => ?_)
    refine va_gets hx hb X.2.2.2.2.1.2.2.2.2.2.2.2.1.1 hw.2.2 X.1.2.2.2.1 (X.1.2.2.2.2 _ wd_r14_12) (fun _ h => h) dX4_readNumber_48 ?_
    refine lv_iload hx hb dX4_readNumber_51 (lv_at hl 0 rfl) ?_
    refine va_ti hx hb X.2.2.2.2.1.2.2.2.2.2.2.2.1.2 hw.2.2 (vp_in_iff.mpr ⟨by omega, by omega⟩) (v := .int (skMOST.getD v20_10.toNatClampNeg 0)) rfl dX4_readNumber_53 ?_
    refine lv_topi (fun v53_17 e53_17 => ?_)
    refine k_SNi (n := 3) (host := RX10) X hw (c_X10_within l G _ v41_15 v47_16 v53_17) (List.mem_of_getElem? (i := 3) rfl) wd_r7_18 wd_r1_2 wd_r7_19 ⟨by decide, by decide, by decide +kernel⟩ rfl rfl ⟨Nat.le_of_ble_eq_true rfl, Nat.le_of_ble_eq_true rfl⟩ rfl rfl hl.1 (Nat.le_of_ble_eq_true rfl) dX4_readNumber_54 ⟨Nat.le_of_ble_eq_true rfl, Nat.le_of_ble_eq_true rfl⟩ (fun r54_18 S54_20 H locs h54_19 hw => ?_)
    rcases h54_19 with ⟨rfl, rfl, h54_19⟩ | ⟨rfl, rfl, h54_19⟩
    · have h54_19 := h54_19
      refine lv_if_ne (tgt := 68) hx hb dX4_readNumber_57 (by decide) (fun c57_21 => ?_) (fun c57_21 => absurd c57_21 (by decide))
      refine lv_iload_n hx hb dX4_readNumber_68 rfl (lv_at hl 4 rfl) ?_
      refine va_gets hx hb X.2.2.2.2.1.2.2.2.2.2.1.1 hw.2.2 X.1.2.2.2.1 (X.1.2.2.2.2 _ wd_r14_13) (fun _ h => h) dX4_readNumber_69 ?_
      refine lv_iload_n hx hb dX4_readNumber_72 rfl (lv_at hl 3 rfl) ?_
      refine va_ti hx hb X.2.2.2.2.1.2.2.2.2.2.1.2 hw.2.2 (vp_in_iff.mpr ⟨by omega, by omega⟩) (v := .int (skTELLING.getD w.toNatClampNeg 0)) rfl dX4_readNumber_73 ?_
      refine lv_topi (fun v73_22 e73_22 => ?_)
      refine lv_iconst (v := 1) hx hb dX4_readNumber_74 (by decide) ?_
      refine lv_isub hx hb dX4_readNumber_75 ?_
      refine lv_topi (fun v75_23 e75_23 => ?_)
      refine lv_icmp_ne (tgt := 96) hx hb dX4_readNumber_76 (by decide) (fun c76_24 => ?_) (fun c76_24 => ?_)
      · have D76_24 := iNe c76_24 rfl rfl
        refine lv_iload_n hx hb dX4_readNumber_96 rfl (lv_at hl 3 rfl) ?_
        refine lv_iconst (v := 4) hx hb dX4_readNumber_97 (by decide) ?_
        refine lv_icmp_ne (tgt := 136) hx hb dX4_readNumber_98 (by decide) (fun c98_25 => ?_) (fun c98_25 => ?_)
        · have D98_25 := iNe c98_25 rfl t_4
          exact hret _ _ _ _ _ ⟨_, _, rfl, (Fr.tr (Fr.tr Fr.rf h4_1) h9_5)⟩ hw dX4_readNumber_136
        · have D98_25 := iEq c98_25 rfl t_4
          refine lv_iload_n hx hb dX4_readNumber_101 rfl (lv_at hl 4 rfl) ?_
          refine lv_iconst (v := 2) hx hb dX4_readNumber_102 (by decide) ?_
          refine lv_icmp_ne (tgt := 136) hx hb dX4_readNumber_103 (by decide) (fun c103_26 => ?_) (fun c103_26 => ?_)
          · have D103_26 := iNe c103_26 rfl t_2
            exact hret _ _ _ _ _ ⟨_, _, rfl, (Fr.tr (Fr.tr Fr.rf h4_1) h9_5)⟩ hw dX4_readNumber_136
          · have D103_26 := iEq c103_26 rfl t_2
            refine lv_aload_n hx hb dX4_readNumber_106 rfl (lv_at hl 2 rfl) ?_
            refine lv_aload_n hx hb dX4_readNumber_107 rfl (lv_at hl 1 rfl) ?_
            refine gf_X4_11 (b := nb) X hw hR.1 hR.2.2.1 dX4_readNumber_108 ?_
            refine lv_iconst (v := 0) hx hb dX4_readNumber_111 (by decide) ?_
            refine q_ldI X hw hR.2.2.2.1 (vinl hR.2.2.2.2.1 (by decide) t_0 (by decide)) dX4_readNumber_112 ?_
            refine lv_topi (fun v112_27 e112_27 => ?_)
            have e112_27 : v112_27 = q35_14 nb ((0 : Int32).toNatClampNeg) := e112_27
            refine lv_aload_n hx hb dX4_readNumber_113 rfl (lv_at hl 1 rfl) ?_
            refine gf_X4_11 (b := nb) X hw hR.1 hR.2.2.1 dX4_readNumber_114 ?_
            refine lv_iconst (v := 1) hx hb dX4_readNumber_117 (by decide) ?_
            refine q_ldI X hw hR.2.2.2.1 (vinl hR.2.2.2.2.1 (by decide) t_1 (by decide)) dX4_readNumber_118 ?_
            refine lv_topi (fun v118_28 e118_28 => ?_)
            have e118_28 : v118_28 = q35_14 nb ((1 : Int32).toNatClampNeg) := e118_28
            refine lv_aload_n hx hb dX4_readNumber_119 rfl (lv_at hl 1 rfl) ?_
            refine gf_X4_11 (b := nb) X hw hR.1 hR.2.2.1 dX4_readNumber_120 ?_
            refine lv_iconst (v := 2) hx hb dX4_readNumber_123 (by decide) ?_
            refine q_ldI X hw hR.2.2.2.1 (vinl hR.2.2.2.2.1 (by decide) t_2 (by decide)) dX4_readNumber_124 ?_
            refine lv_topi (fun v124_29 e124_29 => ?_)
            have e124_29 : v124_29 = q35_14 nb ((2 : Int32).toNatClampNeg) := e124_29
            refine k_Vi (n := 3) X hw (rcvk (ci := 3) X hw hS.1 (fun _ _ _ _ _ _ _ => ⟨_, rfl⟩) rfl) (c_X3_missFits l G _ sa v112_27 v118_28 v124_29 hS) wd_r16_6 wd_r16_7 wd_r16_8 wd_r2_9 wd_r16_9 ⟨by decide, by decide, by decide +kernel⟩ rfl rfl ⟨Nat.le_of_ble_eq_true rfl, Nat.le_of_ble_eq_true rfl⟩ rfl rfl hl.1 (Nat.le_of_ble_eq_true rfl) dX4_readNumber_125 ⟨Nat.le_of_ble_eq_true rfl, Nat.le_of_ble_eq_true rfl⟩ (fun r125_30 S125_32 H locs h125_31 hw => ?_)
            rcases h125_31 with ⟨rfl, rfl, h125_31⟩ | ⟨rfl, rfl, h125_31⟩
            · have h125_31 := h125_31
              refine lv_if_ne (tgt := 136) hx hb dX4_readNumber_128 (by decide) (fun c128_33 => ?_) (fun c128_33 => absurd c128_33 (by decide))
              exact hret _ _ _ _ _ ⟨_, _, rfl, (Fr.tr (Fr.tr Fr.rf h4_1) h9_5)⟩ hw dX4_readNumber_136
            · have h125_31 := h125_31
              refine lv_if_ne (tgt := 136) hx hb dX4_readNumber_128 (by decide) (fun c128_34 => absurd c128_34 (by decide)) (fun c128_34 => ?_)
              refine lv_aload_n hx hb dX4_readNumber_131 rfl (lv_at hl 1 rfl) ?_
              refine lv_iconst (v := 5) hx hb dX4_readNumber_132 (by decide) ?_
              refine k_Vv (n := 1) X hw (rcvk (ci := 4) X hw hR.1 (fun _ _ _ _ _ _ _ => ⟨_, rfl⟩) rfl) (c_X4_note l G _ rd nb tk tp tb 5 hR) wd_r11_10 wd_r11_11 wd_r11_12 wd_r1_18 wd_r11_13 ⟨by decide, by decide, by decide +kernel⟩ rfl rfl ⟨Nat.le_of_ble_eq_true rfl, Nat.le_of_ble_eq_true rfl⟩ rfl rfl hl.1 (Nat.le_of_ble_eq_true rfl) dX4_readNumber_133 ⟨Nat.le_of_ble_eq_true rfl, Nat.le_of_ble_eq_true rfl⟩ (fun S133_36 H locs h133_35 hw => ?_)
              have := t_5
              obtain ⟨I133_37, rfl, h133_35⟩ := h133_35
              have hw : PX G A s.heap (ch S I133_37 (pJ S) q35_14 (qJ S)) H locs := hw
              exact hret _ _ _ _ _ ⟨_, _, rfl, (Fr.tr (Fr.tr (Fr.tr Fr.rf h4_1) h9_5) h133_35)⟩ hw dX4_readNumber_136
      · have D76_24 := iEq c76_24 rfl rfl
        refine lv_aload_n hx hb dX4_readNumber_79 rfl (lv_at hl 1 rfl) ?_
        refine lv_aload_n hx hb dX4_readNumber_80 rfl (lv_at hl 2 rfl) ?_
        refine lv_iload_n hx hb dX4_readNumber_81 rfl (lv_at hl 3 rfl) ?_
        refine k_Vi (n := 2) X hw (rcvk (ci := 4) X hw hR.1 (fun _ _ _ _ _ _ _ => ⟨_, rfl⟩) rfl) (c_X4_isTold l G _ rd nb tk tp tb sa w hR hS) wd_r14_18 wd_r14_19 wd_r14_20 wd_r1_18 wd_r14_21 ⟨by decide, by decide, by decide +kernel⟩ rfl rfl ⟨Nat.le_of_ble_eq_true rfl, Nat.le_of_ble_eq_true rfl⟩ rfl rfl hl.1 (Nat.le_of_ble_eq_true rfl) dX4_readNumber_82 ⟨Nat.le_of_ble_eq_true rfl, Nat.le_of_ble_eq_true rfl⟩ (fun r82_38 S82_40 H locs h82_39 hw => ?_)
        rcases h82_39 with ⟨rfl, rfl, h82_39⟩ | ⟨rfl, rfl, h82_39⟩
        · have h82_39 := h82_39
          refine lv_if_eq (tgt := 96) hx hb dX4_readNumber_85 (by decide) (fun c85_41 => absurd c85_41 (by decide)) (fun c85_41 => ?_)
          refine lv_aload_n hx hb dX4_readNumber_88 rfl (lv_at hl 1 rfl) ?_
          refine lv_iconst (v := 4) hx hb dX4_readNumber_89 (by decide) ?_
          refine k_Vv (n := 1) X hw (rcvk (ci := 4) X hw hR.1 (fun _ _ _ _ _ _ _ => ⟨_, rfl⟩) rfl) (c_X4_note l G _ rd nb tk tp tb 4 hR) wd_r11_10 wd_r11_11 wd_r11_12 wd_r1_18 wd_r11_13 ⟨by decide, by decide, by decide +kernel⟩ rfl rfl ⟨Nat.le_of_ble_eq_true rfl, Nat.le_of_ble_eq_true rfl⟩ rfl rfl hl.1 (Nat.le_of_ble_eq_true rfl) dX4_readNumber_90 ⟨Nat.le_of_ble_eq_true rfl, Nat.le_of_ble_eq_true rfl⟩ (fun S90_43 H locs h90_42 hw => ?_)
          have := t_4
          obtain ⟨I90_44, rfl, h90_42⟩ := h90_42
          have hw : PX G A s.heap (ch S I90_44 (pJ S) q35_14 (qJ S)) H locs := hw
          refine lv_goto (tgt := 136) hx hb dX4_readNumber_93 (by decide) ?_
          exact hret _ _ _ _ _ ⟨_, _, rfl, (Fr.tr (Fr.tr (Fr.tr Fr.rf h4_1) h9_5) h90_42)⟩ hw dX4_readNumber_136
        · have h82_39 := h82_39
          refine lv_if_eq (tgt := 96) hx hb dX4_readNumber_85 (by decide) (fun c85_45 => ?_) (fun c85_45 => absurd c85_45 (by decide))
          refine lv_iload_n hx hb dX4_readNumber_96 rfl (lv_at hl 3 rfl) ?_
          refine lv_iconst (v := 4) hx hb dX4_readNumber_97 (by decide) ?_
          refine lv_icmp_ne (tgt := 136) hx hb dX4_readNumber_98 (by decide) (fun c98_46 => ?_) (fun c98_46 => ?_)
          · have D98_46 := iNe c98_46 rfl t_4
            exact hret _ _ _ _ _ ⟨_, _, rfl, (Fr.tr (Fr.tr Fr.rf h4_1) h9_5)⟩ hw dX4_readNumber_136
          · have D98_46 := iEq c98_46 rfl t_4
            refine lv_iload_n hx hb dX4_readNumber_101 rfl (lv_at hl 4 rfl) ?_
            refine lv_iconst (v := 2) hx hb dX4_readNumber_102 (by decide) ?_
            refine lv_icmp_ne (tgt := 136) hx hb dX4_readNumber_103 (by decide) (fun c103_47 => ?_) (fun c103_47 => ?_)
            · have D103_47 := iNe c103_47 rfl t_2
              exact hret _ _ _ _ _ ⟨_, _, rfl, (Fr.tr (Fr.tr Fr.rf h4_1) h9_5)⟩ hw dX4_readNumber_136
            · have D103_47 := iEq c103_47 rfl t_2
              refine lv_aload_n hx hb dX4_readNumber_106 rfl (lv_at hl 2 rfl) ?_
              refine lv_aload_n hx hb dX4_readNumber_107 rfl (lv_at hl 1 rfl) ?_
              refine gf_X4_11 (b := nb) X hw hR.1 hR.2.2.1 dX4_readNumber_108 ?_
              refine lv_iconst (v := 0) hx hb dX4_readNumber_111 (by decide) ?_
              refine q_ldI X hw hR.2.2.2.1 (vinl hR.2.2.2.2.1 (by decide) t_0 (by decide)) dX4_readNumber_112 ?_
              refine lv_topi (fun v112_48 e112_48 => ?_)
              have e112_48 : v112_48 = q35_14 nb ((0 : Int32).toNatClampNeg) := e112_48
              refine lv_aload_n hx hb dX4_readNumber_113 rfl (lv_at hl 1 rfl) ?_
              refine gf_X4_11 (b := nb) X hw hR.1 hR.2.2.1 dX4_readNumber_114 ?_
              refine lv_iconst (v := 1) hx hb dX4_readNumber_117 (by decide) ?_
              refine q_ldI X hw hR.2.2.2.1 (vinl hR.2.2.2.2.1 (by decide) t_1 (by decide)) dX4_readNumber_118 ?_
              refine lv_topi (fun v118_49 e118_49 => ?_)
              have e118_49 : v118_49 = q35_14 nb ((1 : Int32).toNatClampNeg) := e118_49
              refine lv_aload_n hx hb dX4_readNumber_119 rfl (lv_at hl 1 rfl) ?_
              refine gf_X4_11 (b := nb) X hw hR.1 hR.2.2.1 dX4_readNumber_120 ?_
              refine lv_iconst (v := 2) hx hb dX4_readNumber_123 (by decide) ?_
              refine q_ldI X hw hR.2.2.2.1 (vinl hR.2.2.2.2.1 (by decide) t_2 (by decide)) dX4_readNumber_124 ?_
              refine lv_topi (fun v124_50 e124_50 => ?_)
              have e124_50 : v124_50 = q35_14 nb ((2 : Int32).toNatClampNeg) := e124_50
              refine k_Vi (n := 3) X hw (rcvk (ci := 3) X hw hS.1 (fun _ _ _ _ _ _ _ => ⟨_, rfl⟩) rfl) (c_X3_missFits l G _ sa v112_48 v118_49 v124_50 hS) wd_r16_6 wd_r16_7 wd_r16_8 wd_r2_9 wd_r16_9 ⟨by decide, by decide, by decide +kernel⟩ rfl rfl ⟨Nat.le_of_ble_eq_true rfl, Nat.le_of_ble_eq_true rfl⟩ rfl rfl hl.1 (Nat.le_of_ble_eq_true rfl) dX4_readNumber_125 ⟨Nat.le_of_ble_eq_true rfl, Nat.le_of_ble_eq_true rfl⟩ (fun r125_51 S125_53 H locs h125_52 hw => ?_)
              rcases h125_52 with ⟨rfl, rfl, h125_52⟩ | ⟨rfl, rfl, h125_52⟩
              · have h125_52 := h125_52
                refine lv_if_ne (tgt := 136) hx hb dX4_readNumber_128 (by decide) (fun c128_54 => ?_) (fun c128_54 => absurd c128_54 (by decide))
                exact hret _ _ _ _ _ ⟨_, _, rfl, (Fr.tr (Fr.tr Fr.rf h4_1) h9_5)⟩ hw dX4_readNumber_136
              · have h125_52 := h125_52
                refine lv_if_ne (tgt := 136) hx hb dX4_readNumber_128 (by decide) (fun c128_55 => absurd c128_55 (by decide)) (fun c128_55 => ?_)
                refine lv_aload_n hx hb dX4_readNumber_131 rfl (lv_at hl 1 rfl) ?_
                refine lv_iconst (v := 5) hx hb dX4_readNumber_132 (by decide) ?_
                refine k_Vv (n := 1) X hw (rcvk (ci := 4) X hw hR.1 (fun _ _ _ _ _ _ _ => ⟨_, rfl⟩) rfl) (c_X4_note l G _ rd nb tk tp tb 5 hR) wd_r11_10 wd_r11_11 wd_r11_12 wd_r1_18 wd_r11_13 ⟨by decide, by decide, by decide +kernel⟩ rfl rfl ⟨Nat.le_of_ble_eq_true rfl, Nat.le_of_ble_eq_true rfl⟩ rfl rfl hl.1 (Nat.le_of_ble_eq_true rfl) dX4_readNumber_133 ⟨Nat.le_of_ble_eq_true rfl, Nat.le_of_ble_eq_true rfl⟩ (fun S133_57 H locs h133_56 hw => ?_)
                have := t_5
                obtain ⟨I133_58, rfl, h133_56⟩ := h133_56
                have hw : PX G A s.heap (ch S I133_58 (pJ S) q35_14 (qJ S)) H locs := hw
                exact hret _ _ _ _ _ ⟨_, _, rfl, (Fr.tr (Fr.tr (Fr.tr Fr.rf h4_1) h9_5) h133_56)⟩ hw dX4_readNumber_136
    · have h54_19 := h54_19
      refine lv_if_ne (tgt := 68) hx hb dX4_readNumber_57 (by decide) (fun c57_59 => absurd c57_59 (by decide)) (fun c57_59 => ?_)
      refine lv_aload_n hx hb dX4_readNumber_60 rfl (lv_at hl 1 rfl) ?_
      refine lv_iconst (v := 3) hx hb dX4_readNumber_61 (by decide) ?_
      refine k_Vv (n := 1) X hw (rcvk (ci := 4) X hw hR.1 (fun _ _ _ _ _ _ _ => ⟨_, rfl⟩) rfl) (c_X4_note l G _ rd nb tk tp tb 3 hR) wd_r11_10 wd_r11_11 wd_r11_12 wd_r1_18 wd_r11_13 ⟨by decide, by decide, by decide +kernel⟩ rfl rfl ⟨Nat.le_of_ble_eq_true rfl, Nat.le_of_ble_eq_true rfl⟩ rfl rfl hl.1 (Nat.le_of_ble_eq_true rfl) dX4_readNumber_62 ⟨Nat.le_of_ble_eq_true rfl, Nat.le_of_ble_eq_true rfl⟩ (fun S62_61 H locs h62_60 hw => ?_)
      have := t_3
      obtain ⟨I62_62, rfl, h62_60⟩ := h62_60
      have hw : PX G A s.heap (ch S I62_62 (pJ S) q35_14 (qJ S)) H locs := hw
      refine lv_goto (tgt := 136) hx hb dX4_readNumber_65 (by decide) ?_
      exact hret _ _ _ _ _ ⟨_, _, rfl, (Fr.tr (Fr.tr (Fr.tr Fr.rf h4_1) h9_5) h62_60)⟩ hw dX4_readNumber_136
  · have D12_8 := iEq c12_8 rfl t_0
    exact hret _ _ _ _ _ ⟨_, _, rfl, (Fr.tr (Fr.tr Fr.rf h4_1) h9_5)⟩ hw dX4_readNumber_15
