set_option maxHeartbeats 4000000 in
set_option maxRecDepth 100000 in
theorem c_X11_windOf (l : Launch) (G : Gh) (S : Pl) (ma : Nat → Nat) (h y : Int32) (hM : shMod S ma) (hbk : 0 ≤ (pI S 120 (ma 0)).toInt ∧ (pI S 120 (ma 0)).toInt ≤ 1) (hh : 0 ≤ h.toInt ∧ h.toInt ≤ 71) : MtI l yX11_windOf cX11_windOf 4 (some .int) (Rm 0 0 0) G [.ref (ma 0), .int h, .int y] S (fun (r : Int32) (S' : Pl) => S = S' ∧ True) 0 0 := by
  refine MtI.of (by decide) (Nat.le_of_ble_eq_true rfl) ?_
  intro p e s m args below meth c Q A X hw hin hret ls hl
  have hx := X.1.1
  have hb := X.1.2.1
  have hl : lv_has ls 4 [(0, .ref (ma 0)), (1, .int h), (2, .int y)] := hl
  refine lv_iload_n hx hb dX11_windOf_0 rfl (lv_at hl 1 rfl) ?_
  refine lv_istore_n (lv' := [(3, .int h), (0, .ref (ma 0)), (1, .int h), (2, .int y)]) hx hb dX11_windOf_1 rfl hl (by decide) rfl (fun ls hl => ?_)
  have lp2 : ∀ (N9 : Nat) (k : Int32), (-1 ≤ k.toInt ∧ k.toInt ≤ 71) → (k.toInt + 1).toNat < N9 → ∀ (H : Heap) (locs : List Loc) (ls : Array Slot), PX G A s.heap S H locs → lv_has ls 4 [(3, .int k), (0, .ref (ma 0)), (1, .int h), (2, .int y)] → W p l e (Rm 0 0 0) s m args below meth c H locs 0 0 Q (F0 m 2 ls []) := by
    intro N9
    induction N9 with
    | zero => intro k hk hm; exact absurd hm (Nat.not_lt_zero _)
    | succ N9 ih2 =>
      intro k hk hm H locs ls hw hl
      refine lv_iload_n hx hb dX11_windOf_2 rfl (lv_at hl 0 rfl) ?_
      refine lv_if_lt (tgt := 31) hx hb dX11_windOf_3 (by decide) (fun c3_1 => ?_) (fun c3_1 => ?_)
      · have D3_1 := iLt c3_1 rfl t_0
        refine lv_iload_n hx hb dX11_windOf_31 rfl (lv_at hl 0 rfl) ?_
        refine lv_if_ge (tgt := 39) hx hb dX11_windOf_32 (by decide) (fun c32_2 => ?_) (fun c32_2 => ?_)
        · have D32_2 := iLe c32_2 t_0 rfl
          refine lv_iload_n hx hb dX11_windOf_39 rfl (lv_at hl 3 rfl) ?_
          refine lv_if_eq (tgt := 60) hx hb dX11_windOf_40 (by decide) (fun c40_3 => ?_) (fun c40_3 => ?_)
          · have D40_3 := iEq c40_3 rfl t_0
            refine lv_aload_n hx hb dX11_windOf_60 rfl (lv_at hl 1 rfl) ?_
            refine gf_X11_65 (b := (ma 13)) X hw hM.1 (mr_13 hM) dX11_windOf_61 ?_
            refine lv_bipush (v := 72) hx hb dX11_windOf_64 (by decide) ?_
            refine lv_aload_n hx hb dX11_windOf_66 rfl (lv_at hl 1 rfl) ?_
            refine gf_X11_146 (v := (pI S) 120 (ma 0)) X hw hM.1 rfl dX11_windOf_67 ?_
            refine lv_imul hx hb dX11_windOf_70 ?_
            refine lv_topi (fun v70_4 e70_4 => ?_)
            have t70_4 := iMul e70_4 t_72 rfl (by omega) (by omega)
            have t70 := t70_4
            refine lv_iload_n hx hb dX11_windOf_71 rfl (lv_at hl 0 rfl) ?_
            refine lv_iadd hx hb dX11_windOf_72 ?_
            refine lv_topi (fun v72_5 e72_5 => ?_)
            have t72_5 := iAdd e72_5 rfl rfl (by omega) (by omega)
            have t72 := t72_5
            refine q_ldI X hw (mk_13 hM) (vin (mn_13 hM) (by omega) (by omega)) dX11_windOf_73 ?_
            refine lv_topi (fun v73_6 e73_6 => ?_)
            have e73_6 : v73_6 = (qI S) (ma 13) v72_5.toNatClampNeg := e73_6
            exact hret v73_6 _ _ _ _ _ ⟨rfl, trivial⟩ hw rfl dX11_windOf_74
          · skip
            refine lv_aload_n hx hb dX11_windOf_43 rfl (lv_at hl 1 rfl) ?_
            refine gf_X11_68 (b := (ma 14)) X hw hM.1 (mr_14 hM) dX11_windOf_44 ?_
            refine lv_bipush (v := 72) hx hb dX11_windOf_47 (by decide) ?_
            refine lv_aload_n hx hb dX11_windOf_49 rfl (lv_at hl 1 rfl) ?_
            refine gf_X11_146 (v := (pI S) 120 (ma 0)) X hw hM.1 rfl dX11_windOf_50 ?_
            refine lv_imul hx hb dX11_windOf_53 ?_
            refine lv_topi (fun v53_7 e53_7 => ?_)
            have t53_7 := iMul e53_7 t_72 rfl (by omega) (by omega)
            have t53 := t53_7
            refine lv_iload_n hx hb dX11_windOf_54 rfl (lv_at hl 0 rfl) ?_
            refine lv_iadd hx hb dX11_windOf_55 ?_
            refine lv_topi (fun v55_8 e55_8 => ?_)
            have t55_8 := iAdd e55_8 rfl rfl (by omega) (by omega)
            have t55 := t55_8
            refine q_ldI X hw (mk_14 hM) (vin (mn_14 hM) (by omega) (by omega)) dX11_windOf_56 ?_
            refine lv_topi (fun v56_9 e56_9 => ?_)
            have e56_9 : v56_9 = (qI S) (ma 14) v55_8.toNatClampNeg := e56_9
            refine lv_goto (tgt := 74) hx hb dX11_windOf_57 (by decide) ?_
            exact hret v56_9 _ _ _ _ _ ⟨rfl, trivial⟩ hw rfl dX11_windOf_74
        · have D32_2 := iNle c32_2 t_0 rfl
          refine lv_iconst (v := 0) hx hb dX11_windOf_35 (by decide) ?_
          refine lv_goto (tgt := 74) hx hb dX11_windOf_36 (by decide) ?_
          exact hret 0 _ _ _ _ _ ⟨rfl, trivial⟩ hw rfl dX11_windOf_74
      · have D3_1 := iNlt c3_1 rfl t_0
        refine lv_aload_n hx hb dX11_windOf_6 rfl (lv_at hl 1 rfl) ?_
        refine gf_X11_65 (b := (ma 13)) X hw hM.1 (mr_13 hM) dX11_windOf_7 ?_
        refine lv_bipush (v := 72) hx hb dX11_windOf_10 (by decide) ?_
        refine lv_aload_n hx hb dX11_windOf_12 rfl (lv_at hl 1 rfl) ?_
        refine gf_X11_146 (v := (pI S) 120 (ma 0)) X hw hM.1 rfl dX11_windOf_13 ?_
        refine lv_imul hx hb dX11_windOf_16 ?_
        refine lv_topi (fun v16_10 e16_10 => ?_)
        have t16_10 := iMul e16_10 t_72 rfl (by omega) (by omega)
        have t16 := t16_10
        refine lv_iload_n hx hb dX11_windOf_17 rfl (lv_at hl 0 rfl) ?_
        refine lv_iadd hx hb dX11_windOf_18 ?_
        refine lv_topi (fun v18_11 e18_11 => ?_)
        have t18_11 := iAdd e18_11 rfl rfl (by omega) (by omega)
        have t18 := t18_11
        refine q_ldI X hw (mk_13 hM) (vin (mn_13 hM) (by omega) (by omega)) dX11_windOf_19 ?_
        refine lv_topi (fun v19_12 e19_12 => ?_)
        have e19_12 : v19_12 = (qI S) (ma 13) v18_11.toNatClampNeg := e19_12
        refine lv_bipush (v := -100) hx hb dX11_windOf_20 (by decide) ?_
        refine lv_icmp_ne (tgt := 31) hx hb dX11_windOf_22 (by decide) (fun c22_13 => ?_) (fun c22_13 => ?_)
        · skip
          refine lv_iload_n hx hb dX11_windOf_31 rfl (lv_at hl 0 rfl) ?_
          refine lv_if_ge (tgt := 39) hx hb dX11_windOf_32 (by decide) (fun c32_14 => ?_) (fun c32_14 => ?_)
          · have D32_14 := iLe c32_14 t_0 rfl
            refine lv_iload_n hx hb dX11_windOf_39 rfl (lv_at hl 3 rfl) ?_
            refine lv_if_eq (tgt := 60) hx hb dX11_windOf_40 (by decide) (fun c40_15 => ?_) (fun c40_15 => ?_)
            · have D40_15 := iEq c40_15 rfl t_0
              refine lv_aload_n hx hb dX11_windOf_60 rfl (lv_at hl 1 rfl) ?_
              refine gf_X11_65 (b := (ma 13)) X hw hM.1 (mr_13 hM) dX11_windOf_61 ?_
              refine lv_bipush (v := 72) hx hb dX11_windOf_64 (by decide) ?_
              refine lv_aload_n hx hb dX11_windOf_66 rfl (lv_at hl 1 rfl) ?_
              refine gf_X11_146 (v := (pI S) 120 (ma 0)) X hw hM.1 rfl dX11_windOf_67 ?_
              refine lv_imul hx hb dX11_windOf_70 ?_
              refine lv_topi (fun v70_16 e70_16 => ?_)
              have t70_16 := iMul e70_16 t_72 rfl (by omega) (by omega)
              have t70 := t70_16
              refine lv_iload_n hx hb dX11_windOf_71 rfl (lv_at hl 0 rfl) ?_
              refine lv_iadd hx hb dX11_windOf_72 ?_
              refine lv_topi (fun v72_17 e72_17 => ?_)
              have t72_17 := iAdd e72_17 rfl rfl (by omega) (by omega)
              have t72 := t72_17
              refine q_ldI X hw (mk_13 hM) (vin (mn_13 hM) (by omega) (by omega)) dX11_windOf_73 ?_
              refine lv_topi (fun v73_18 e73_18 => ?_)
              have e73_18 : v73_18 = (qI S) (ma 13) v72_17.toNatClampNeg := e73_18
              exact hret v73_18 _ _ _ _ _ ⟨rfl, trivial⟩ hw rfl dX11_windOf_74
            · skip
              refine lv_aload_n hx hb dX11_windOf_43 rfl (lv_at hl 1 rfl) ?_
              refine gf_X11_68 (b := (ma 14)) X hw hM.1 (mr_14 hM) dX11_windOf_44 ?_
              refine lv_bipush (v := 72) hx hb dX11_windOf_47 (by decide) ?_
              refine lv_aload_n hx hb dX11_windOf_49 rfl (lv_at hl 1 rfl) ?_
              refine gf_X11_146 (v := (pI S) 120 (ma 0)) X hw hM.1 rfl dX11_windOf_50 ?_
              refine lv_imul hx hb dX11_windOf_53 ?_
              refine lv_topi (fun v53_19 e53_19 => ?_)
              have t53_19 := iMul e53_19 t_72 rfl (by omega) (by omega)
              have t53 := t53_19
              refine lv_iload_n hx hb dX11_windOf_54 rfl (lv_at hl 0 rfl) ?_
              refine lv_iadd hx hb dX11_windOf_55 ?_
              refine lv_topi (fun v55_20 e55_20 => ?_)
              have t55_20 := iAdd e55_20 rfl rfl (by omega) (by omega)
              have t55 := t55_20
              refine q_ldI X hw (mk_14 hM) (vin (mn_14 hM) (by omega) (by omega)) dX11_windOf_56 ?_
              refine lv_topi (fun v56_21 e56_21 => ?_)
              have e56_21 : v56_21 = (qI S) (ma 14) v55_20.toNatClampNeg := e56_21
              refine lv_goto (tgt := 74) hx hb dX11_windOf_57 (by decide) ?_
              exact hret v56_21 _ _ _ _ _ ⟨rfl, trivial⟩ hw rfl dX11_windOf_74
          · have D32_14 := iNle c32_14 t_0 rfl
            refine lv_iconst (v := 0) hx hb dX11_windOf_35 (by decide) ?_
            refine lv_goto (tgt := 74) hx hb dX11_windOf_36 (by decide) ?_
            exact hret 0 _ _ _ _ _ ⟨rfl, trivial⟩ hw rfl dX11_windOf_74
        · have D22_13 := iEq c22_13 rfl t_m100
          obtain ⟨v25_22, e25_22⟩ : ∃ y : Int32, y = k + (-1) := ⟨_, rfl⟩
          have t25_22 := iAdd e25_22 rfl t_m1 (by omega) (by omega)
          have t25 := t25_22
          refine lv_iinc (v := v25_22) (lv' := [(3, .int v25_22), (0, .ref (ma 0)), (1, .int h), (2, .int y)]) hx hb dX11_windOf_25 hl (k := 0) rfl (by rw [e25_22]; rfl) (by decide) rfl (fun ls hl => ?_)
          refine lv_goto (tgt := 2) hx hb dX11_windOf_28 (by decide) ?_
          exact ih2  v25_22 (by omega) (by omega) _ _ _ hw (lv_sub hl [0, 1, 2, 3] rfl)
  exact lp2 _  h (by omega) (Nat.lt_succ_self _) _ _ _ hw (lv_sub hl [0, 1, 2, 3] rfl)
set_option maxHeartbeats 4000000 in
set_option maxRecDepth 100000 in
theorem c_X11_streamOf (l : Launch) (G : Gh) (S : Pl) (ma : Nat → Nat) (u h y : Int32) (hM : shMod S ma) (hbk : 0 ≤ (pI S 120 (ma 0)).toInt ∧ (pI S 120 (ma 0)).toInt ≤ 1) (hh : 0 ≤ h.toInt ∧ h.toInt ≤ 71) (hu : 0 ≤ u.toInt ∧ u.toInt ≤ 3) : MtI l yX11_streamOf cX11_streamOf 6 (some .int) (Rm 0 0 0) G [.ref (ma 0), .int u, .int h, .int y] S (fun (r : Int32) (S' : Pl) => S = S' ∧ True) 0 0 := by
  refine MtI.of (by decide) (Nat.le_of_ble_eq_true rfl) ?_
  intro p e s m args below meth c Q A X hw hin hret ls hl
  have hx := X.1.1
  have hb := X.1.2.1
  have hl : lv_has ls 6 [(0, .ref (ma 0)), (1, .int u), (2, .int h), (3, .int y)] := hl
  refine lv_bipush (v := 72) hx hb dX11_streamOf_0 (by decide) ?_
  refine lv_iconst (v := 4) hx hb dX11_streamOf_2 (by decide) ?_
  refine lv_aload_n hx hb dX11_streamOf_3 rfl (lv_at hl 0 rfl) ?_
  refine gf_X11_146 (v := (pI S) 120 (ma 0)) X hw hM.1 rfl dX11_streamOf_4 ?_
  refine lv_imul hx hb dX11_streamOf_7 ?_
  refine lv_topi (fun v7_1 e7_1 => ?_)
  have t7_1 := iMul e7_1 t_4 rfl (by omega) (by omega)
  have t7 := t7_1
  refine lv_iload_n hx hb dX11_streamOf_8 rfl (lv_at hl 1 rfl) ?_
  refine lv_iadd hx hb dX11_streamOf_9 ?_
  refine lv_topi (fun v9_2 e9_2 => ?_)
  have t9_2 := iAdd e9_2 rfl rfl (by omega) (by omega)
  have t9 := t9_2
  refine lv_imul hx hb dX11_streamOf_10 ?_
  refine lv_topi (fun v10_3 e10_3 => ?_)
  have t10_3 := iMul e10_3 t_72 rfl (by omega) (by omega)
  have t10 := t10_3
  refine lv_istore (lv' := [(4, .int v10_3), (0, .ref (ma 0)), (1, .int u), (2, .int h), (3, .int y)]) hx hb dX11_streamOf_11 hl (by decide) rfl (fun ls hl => ?_)
  refine lv_iload_n hx hb dX11_streamOf_13 rfl (lv_at hl 3 rfl) ?_
  refine lv_istore (lv' := [(5, .int h), (4, .int v10_3), (0, .ref (ma 0)), (1, .int u), (2, .int h), (3, .int y)]) hx hb dX11_streamOf_14 hl (by decide) rfl (fun ls hl => ?_)
  have lp16 : ∀ (N9 : Nat) (k : Int32), (-1 ≤ k.toInt ∧ k.toInt ≤ 71) → (k.toInt + 1).toNat < N9 → ∀ (H : Heap) (locs : List Loc) (ls : Array Slot), PX G A s.heap S H locs → lv_has ls 6 [(5, .int k), (4, .int v10_3), (0, .ref (ma 0)), (1, .int u), (2, .int h), (3, .int y)] → W p l e (Rm 0 0 0) s m args below meth c H locs 0 0 Q (F0 m 16 ls []) := by
    intro N9
    induction N9 with
    | zero => intro k hk hm; exact absurd hm (Nat.not_lt_zero _)
    | succ N9 ih16 =>
      intro k hk hm H locs ls hw hl
      refine lv_iload hx hb dX11_streamOf_16 (lv_at hl 0 rfl) ?_
      refine lv_if_lt (tgt := 42) hx hb dX11_streamOf_18 (by decide) (fun c18_4 => ?_) (fun c18_4 => ?_)
      · have D18_4 := iLt c18_4 rfl t_0
        refine lv_iload hx hb dX11_streamOf_42 (lv_at hl 0 rfl) ?_
        refine lv_if_ge (tgt := 51) hx hb dX11_streamOf_44 (by decide) (fun c44_5 => ?_) (fun c44_5 => ?_)
        · have D44_5 := iLe c44_5 t_0 rfl
          refine lv_iload_n hx hb dX11_streamOf_51 rfl (lv_at hl 5 rfl) ?_
          refine lv_if_eq (tgt := 68) hx hb dX11_streamOf_52 (by decide) (fun c52_6 => ?_) (fun c52_6 => ?_)
          · have D52_6 := iEq c52_6 rfl t_0
            refine lv_aload_n hx hb dX11_streamOf_68 rfl (lv_at hl 2 rfl) ?_
            refine gf_X11_71 (b := (ma 15)) X hw hM.1 (mr_15 hM) dX11_streamOf_69 ?_
            refine lv_iload hx hb dX11_streamOf_72 (lv_at hl 1 rfl) ?_
            refine lv_iload hx hb dX11_streamOf_74 (lv_at hl 0 rfl) ?_
            refine lv_iadd hx hb dX11_streamOf_76 ?_
            refine lv_topi (fun v76_7 e76_7 => ?_)
            have t76_7 := iAdd e76_7 rfl rfl (by omega) (by omega)
            have t76 := t76_7
            refine q_ldI X hw (mk_15 hM) (vin (mn_15 hM) (by omega) (by omega)) dX11_streamOf_77 ?_
            refine lv_topi (fun v77_8 e77_8 => ?_)
            have e77_8 : v77_8 = (qI S) (ma 15) v76_7.toNatClampNeg := e77_8
            exact hret v77_8 _ _ _ _ _ ⟨rfl, trivial⟩ hw rfl dX11_streamOf_78
          · skip
            refine lv_aload_n hx hb dX11_streamOf_55 rfl (lv_at hl 2 rfl) ?_
            refine gf_X11_74 (b := (ma 16)) X hw hM.1 (mr_16 hM) dX11_streamOf_56 ?_
            refine lv_iload hx hb dX11_streamOf_59 (lv_at hl 1 rfl) ?_
            refine lv_iload hx hb dX11_streamOf_61 (lv_at hl 0 rfl) ?_
            refine lv_iadd hx hb dX11_streamOf_63 ?_
            refine lv_topi (fun v63_9 e63_9 => ?_)
            have t63_9 := iAdd e63_9 rfl rfl (by omega) (by omega)
            have t63 := t63_9
            refine q_ldI X hw (mk_16 hM) (vin (mn_16 hM) (by omega) (by omega)) dX11_streamOf_64 ?_
            refine lv_topi (fun v64_10 e64_10 => ?_)
            have e64_10 : v64_10 = (qI S) (ma 16) v63_9.toNatClampNeg := e64_10
            refine lv_goto (tgt := 78) hx hb dX11_streamOf_65 (by decide) ?_
            exact hret v64_10 _ _ _ _ _ ⟨rfl, trivial⟩ hw rfl dX11_streamOf_78
        · have D44_5 := iNle c44_5 t_0 rfl
          refine lv_iconst (v := 0) hx hb dX11_streamOf_47 (by decide) ?_
          refine lv_goto (tgt := 78) hx hb dX11_streamOf_48 (by decide) ?_
          exact hret 0 _ _ _ _ _ ⟨rfl, trivial⟩ hw rfl dX11_streamOf_78
      · have D18_4 := iNlt c18_4 rfl t_0
        refine lv_aload_n hx hb dX11_streamOf_21 rfl (lv_at hl 2 rfl) ?_
        refine gf_X11_71 (b := (ma 15)) X hw hM.1 (mr_15 hM) dX11_streamOf_22 ?_
        refine lv_iload hx hb dX11_streamOf_25 (lv_at hl 1 rfl) ?_
        refine lv_iload hx hb dX11_streamOf_27 (lv_at hl 0 rfl) ?_
        refine lv_iadd hx hb dX11_streamOf_29 ?_
        refine lv_topi (fun v29_11 e29_11 => ?_)
        have t29_11 := iAdd e29_11 rfl rfl (by omega) (by omega)
        have t29 := t29_11
        refine q_ldI X hw (mk_15 hM) (vin (mn_15 hM) (by omega) (by omega)) dX11_streamOf_30 ?_
        refine lv_topi (fun v30_12 e30_12 => ?_)
        have e30_12 : v30_12 = (qI S) (ma 15) v29_11.toNatClampNeg := e30_12
        refine lv_bipush (v := -100) hx hb dX11_streamOf_31 (by decide) ?_
        refine lv_icmp_ne (tgt := 42) hx hb dX11_streamOf_33 (by decide) (fun c33_13 => ?_) (fun c33_13 => ?_)
        · skip
          refine lv_iload hx hb dX11_streamOf_42 (lv_at hl 0 rfl) ?_
          refine lv_if_ge (tgt := 51) hx hb dX11_streamOf_44 (by decide) (fun c44_14 => ?_) (fun c44_14 => ?_)
          · have D44_14 := iLe c44_14 t_0 rfl
            refine lv_iload_n hx hb dX11_streamOf_51 rfl (lv_at hl 5 rfl) ?_
            refine lv_if_eq (tgt := 68) hx hb dX11_streamOf_52 (by decide) (fun c52_15 => ?_) (fun c52_15 => ?_)
            · have D52_15 := iEq c52_15 rfl t_0
              refine lv_aload_n hx hb dX11_streamOf_68 rfl (lv_at hl 2 rfl) ?_
              refine gf_X11_71 (b := (ma 15)) X hw hM.1 (mr_15 hM) dX11_streamOf_69 ?_
              refine lv_iload hx hb dX11_streamOf_72 (lv_at hl 1 rfl) ?_
              refine lv_iload hx hb dX11_streamOf_74 (lv_at hl 0 rfl) ?_
              refine lv_iadd hx hb dX11_streamOf_76 ?_
              refine lv_topi (fun v76_16 e76_16 => ?_)
              have t76_16 := iAdd e76_16 rfl rfl (by omega) (by omega)
              have t76 := t76_16
              refine q_ldI X hw (mk_15 hM) (vin (mn_15 hM) (by omega) (by omega)) dX11_streamOf_77 ?_
              refine lv_topi (fun v77_17 e77_17 => ?_)
              have e77_17 : v77_17 = (qI S) (ma 15) v76_16.toNatClampNeg := e77_17
              exact hret v77_17 _ _ _ _ _ ⟨rfl, trivial⟩ hw rfl dX11_streamOf_78
            · skip
              refine lv_aload_n hx hb dX11_streamOf_55 rfl (lv_at hl 2 rfl) ?_
              refine gf_X11_74 (b := (ma 16)) X hw hM.1 (mr_16 hM) dX11_streamOf_56 ?_
              refine lv_iload hx hb dX11_streamOf_59 (lv_at hl 1 rfl) ?_
              refine lv_iload hx hb dX11_streamOf_61 (lv_at hl 0 rfl) ?_
              refine lv_iadd hx hb dX11_streamOf_63 ?_
              refine lv_topi (fun v63_18 e63_18 => ?_)
              have t63_18 := iAdd e63_18 rfl rfl (by omega) (by omega)
              have t63 := t63_18
              refine q_ldI X hw (mk_16 hM) (vin (mn_16 hM) (by omega) (by omega)) dX11_streamOf_64 ?_
              refine lv_topi (fun v64_19 e64_19 => ?_)
              have e64_19 : v64_19 = (qI S) (ma 16) v63_18.toNatClampNeg := e64_19
              refine lv_goto (tgt := 78) hx hb dX11_streamOf_65 (by decide) ?_
              exact hret v64_19 _ _ _ _ _ ⟨rfl, trivial⟩ hw rfl dX11_streamOf_78
          · have D44_14 := iNle c44_14 t_0 rfl
            refine lv_iconst (v := 0) hx hb dX11_streamOf_47 (by decide) ?_
            refine lv_goto (tgt := 78) hx hb dX11_streamOf_48 (by decide) ?_
            exact hret 0 _ _ _ _ _ ⟨rfl, trivial⟩ hw rfl dX11_streamOf_78
        · have D33_13 := iEq c33_13 rfl t_m100
          obtain ⟨v36_20, e36_20⟩ : ∃ y : Int32, y = k + (-1) := ⟨_, rfl⟩
          have t36_20 := iAdd e36_20 rfl t_m1 (by omega) (by omega)
          have t36 := t36_20
          refine lv_iinc (v := v36_20) (lv' := [(5, .int v36_20), (4, .int v10_3), (0, .ref (ma 0)), (1, .int u), (2, .int h), (3, .int y)]) hx hb dX11_streamOf_36 hl (k := 0) rfl (by rw [e36_20]; rfl) (by decide) rfl (fun ls hl => ?_)
          refine lv_goto (tgt := 16) hx hb dX11_streamOf_39 (by decide) ?_
          exact ih16  v36_20 (by omega) (by omega) _ _ _ hw (lv_sub hl [0, 1, 2, 3, 4, 5] rfl)
  exact lp16 _  h (by omega) (Nat.lt_succ_self _) _ _ _ hw (lv_sub hl [0, 1, 2, 3, 4, 5] rfl)
set_option maxHeartbeats 4000000 in
set_option maxRecDepth 100000 in
theorem c_X11_missOf (l : Launch) (G : Gh) (S : Pl) (ma : Nat → Nat) (x y : Int32) (hM : shMod S ma) (hbk : 0 ≤ (pI S 120 (ma 0)).toInt ∧ (pI S 120 (ma 0)).toInt ≤ 1) (hx0 : 0 ≤ x.toInt ∧ x.toInt ≤ 1) (hy0 : 0 ≤ y.toInt ∧ y.toInt ≤ 20) : MtI l yX11_missOf cX11_missOf 4 (some .int) (Rm 0 0 0) G [.ref (ma 0), .int x, .int y] S (fun (r : Int32) (S' : Pl) => S = S' ∧ r = mOr (qI S (ma 18)) (pI S 120 (ma 0)) x y.toNatClampNeg) 0 0 := by
  refine MtI.of (by decide) (Nat.le_of_ble_eq_true rfl) ?_
  intro p e s m args below meth c Q A X hw hin hret ls hl
  have hx := X.1.1
  have hb := X.1.2.1
  have hl : lv_has ls 4 [(0, .ref (ma 0)), (1, .int x), (2, .int y)] := hl
  refine lv_iload_n hx hb dX11_missOf_0 rfl (lv_at hl 2 rfl) ?_
  refine lv_istore_n (lv' := [(3, .int y), (0, .ref (ma 0)), (1, .int x), (2, .int y)]) hx hb dX11_missOf_1 rfl hl (by decide) rfl (fun ls hl => ?_)
  have lp2 : ∀ (N9 : Nat) (k : Int32), (0 ≤ k.toInt ∧ k.toInt ≤ 20) → (mOr (qI S (ma 18)) (pI S 120 (ma 0)) x y.toNatClampNeg = mOr (qI S (ma 18)) (pI S 120 (ma 0)) x k.toNatClampNeg) → k.toInt.toNat < N9 → ∀ (H : Heap) (locs : List Loc) (ls : Array Slot), PX G A s.heap S H locs → lv_has ls 4 [(3, .int k), (0, .ref (ma 0)), (1, .int x), (2, .int y)] → W p l e (Rm 0 0 0) s m args below meth c H locs 0 0 Q (F0 m 2 ls []) := by
    intro N9
    induction N9 with
    | zero => intro k hk hm0 hm; exact absurd hm (Nat.not_lt_zero _)
    | succ N9 ih2 =>
      intro k hk hm0 hm H locs ls hw hl
      refine lv_iload_n hx hb dX11_missOf_2 rfl (lv_at hl 0 rfl) ?_
      refine lv_if_le (tgt := 36) hx hb dX11_missOf_3 (by decide) (fun c3_1 => ?_) (fun c3_1 => ?_)
      · have D3_1 := iLe c3_1 rfl t_0
        refine lv_iload_n hx hb dX11_missOf_36 rfl (lv_at hl 0 rfl) ?_
        refine lv_if_ne (tgt := 45) hx hb dX11_missOf_37 (by decide) (fun c37_2 => ?_) (fun c37_2 => ?_)
        · have D37_2 := iNe c37_2 rfl t_0
          refine lv_aload_n hx hb dX11_missOf_45 rfl (lv_at hl 1 rfl) ?_
          refine gf_X11_80 (b := (ma 18)) X hw hM.1 (mr_18 hM) dX11_missOf_46 ?_
          refine lv_bipush (v := 42) hx hb dX11_missOf_49 (by decide) ?_
          refine lv_aload_n hx hb dX11_missOf_51 rfl (lv_at hl 1 rfl) ?_
          refine gf_X11_146 (v := (pI S) 120 (ma 0)) X hw hM.1 rfl dX11_missOf_52 ?_
          refine lv_imul hx hb dX11_missOf_55 ?_
          refine lv_topi (fun v55_3 e55_3 => ?_)
          have t55_3 := iMul e55_3 t_42 rfl (by omega) (by omega)
          have t55 := t55_3
          refine lv_bipush (v := 21) hx hb dX11_missOf_56 (by decide) ?_
          refine lv_iload_n hx hb dX11_missOf_58 rfl (lv_at hl 2 rfl) ?_
          refine lv_imul hx hb dX11_missOf_59 ?_
          refine lv_topi (fun v59_4 e59_4 => ?_)
          have t59_4 := iMul e59_4 t_21 rfl (by omega) (by omega)
          have t59 := t59_4
          refine lv_iadd hx hb dX11_missOf_60 ?_
          refine lv_topi (fun v60_5 e60_5 => ?_)
          have t60_5 := iAdd e60_5 rfl rfl (by omega) (by omega)
          have t60 := t60_5
          refine lv_iload_n hx hb dX11_missOf_61 rfl (lv_at hl 0 rfl) ?_
          refine lv_iadd hx hb dX11_missOf_62 ?_
          refine lv_topi (fun v62_6 e62_6 => ?_)
          have t62_6 := iAdd e62_6 rfl rfl (by omega) (by omega)
          have t62 := t62_6
          refine q_ldI X hw (mk_18 hM) (vin (mn_18 hM) (by omega) (by omega)) dX11_missOf_63 ?_
          refine lv_topi (fun v63_7 e63_7 => ?_)
          have e63_7 : v63_7 = (qI S) (ma 18) v62_6.toNatClampNeg := e63_7
          have e63q : v63_7 = qI S (ma 18) (42 * pI S 120 (ma 0) + 21 * x + k).toNatClampNeg := by rw [e63_7]; first | rfl | (congr 2; simp only [*])
          exact hret v63_7 _ _ _ _ _ ⟨rfl, by rw [hm0]; first | exact (mOr_y (by omega) e63q (by rw [e63q, ← e24q]; assumption)).symm | omega⟩ hw rfl dX11_missOf_64
        · have D37_2 := iEq c37_2 rfl t_0
          refine lv_bipush (v := 100) hx hb dX11_missOf_40 (by decide) ?_
          refine lv_goto (tgt := 64) hx hb dX11_missOf_42 (by decide) ?_
          exact hret 100 _ _ _ _ _ ⟨rfl, by rw [hm0]; exact (mOr_0 (by omega)).symm⟩ hw rfl dX11_missOf_64
      · have D3_1 := iNle c3_1 rfl t_0
        refine lv_aload_n hx hb dX11_missOf_6 rfl (lv_at hl 1 rfl) ?_
        refine gf_X11_80 (b := (ma 18)) X hw hM.1 (mr_18 hM) dX11_missOf_7 ?_
        refine lv_bipush (v := 42) hx hb dX11_missOf_10 (by decide) ?_
        refine lv_aload_n hx hb dX11_missOf_12 rfl (lv_at hl 1 rfl) ?_
        refine gf_X11_146 (v := (pI S) 120 (ma 0)) X hw hM.1 rfl dX11_missOf_13 ?_
        refine lv_imul hx hb dX11_missOf_16 ?_
        refine lv_topi (fun v16_8 e16_8 => ?_)
        have t16_8 := iMul e16_8 t_42 rfl (by omega) (by omega)
        have t16 := t16_8
        refine lv_bipush (v := 21) hx hb dX11_missOf_17 (by decide) ?_
        refine lv_iload_n hx hb dX11_missOf_19 rfl (lv_at hl 2 rfl) ?_
        refine lv_imul hx hb dX11_missOf_20 ?_
        refine lv_topi (fun v20_9 e20_9 => ?_)
        have t20_9 := iMul e20_9 t_21 rfl (by omega) (by omega)
        have t20 := t20_9
        refine lv_iadd hx hb dX11_missOf_21 ?_
        refine lv_topi (fun v21_10 e21_10 => ?_)
        have t21_10 := iAdd e21_10 rfl rfl (by omega) (by omega)
        have t21 := t21_10
        refine lv_iload_n hx hb dX11_missOf_22 rfl (lv_at hl 0 rfl) ?_
        refine lv_iadd hx hb dX11_missOf_23 ?_
        refine lv_topi (fun v23_11 e23_11 => ?_)
        have t23_11 := iAdd e23_11 rfl rfl (by omega) (by omega)
        have t23 := t23_11
        refine q_ldI X hw (mk_18 hM) (vin (mn_18 hM) (by omega) (by omega)) dX11_missOf_24 ?_
        refine lv_topi (fun v24_12 e24_12 => ?_)
        have e24_12 : v24_12 = (qI S) (ma 18) v23_11.toNatClampNeg := e24_12
        have e24q : v24_12 = qI S (ma 18) (42 * pI S 120 (ma 0) + 21 * x + k).toNatClampNeg := by rw [e24_12]; first | rfl | (congr 2; simp only [*])
        refine lv_bipush (v := -100) hx hb dX11_missOf_25 (by decide) ?_
        refine lv_icmp_ne (tgt := 36) hx hb dX11_missOf_27 (by decide) (fun c27_13 => ?_) (fun c27_13 => ?_)
        · skip
          refine lv_iload_n hx hb dX11_missOf_36 rfl (lv_at hl 0 rfl) ?_
          refine lv_if_ne (tgt := 45) hx hb dX11_missOf_37 (by decide) (fun c37_14 => ?_) (fun c37_14 => ?_)
          · have D37_14 := iNe c37_14 rfl t_0
            refine lv_aload_n hx hb dX11_missOf_45 rfl (lv_at hl 1 rfl) ?_
            refine gf_X11_80 (b := (ma 18)) X hw hM.1 (mr_18 hM) dX11_missOf_46 ?_
            refine lv_bipush (v := 42) hx hb dX11_missOf_49 (by decide) ?_
            refine lv_aload_n hx hb dX11_missOf_51 rfl (lv_at hl 1 rfl) ?_
            refine gf_X11_146 (v := (pI S) 120 (ma 0)) X hw hM.1 rfl dX11_missOf_52 ?_
            refine lv_imul hx hb dX11_missOf_55 ?_
            refine lv_topi (fun v55_15 e55_15 => ?_)
            have t55_15 := iMul e55_15 t_42 rfl (by omega) (by omega)
            have t55 := t55_15
            refine lv_bipush (v := 21) hx hb dX11_missOf_56 (by decide) ?_
            refine lv_iload_n hx hb dX11_missOf_58 rfl (lv_at hl 2 rfl) ?_
            refine lv_imul hx hb dX11_missOf_59 ?_
            refine lv_topi (fun v59_16 e59_16 => ?_)
            have t59_16 := iMul e59_16 t_21 rfl (by omega) (by omega)
            have t59 := t59_16
            refine lv_iadd hx hb dX11_missOf_60 ?_
            refine lv_topi (fun v60_17 e60_17 => ?_)
            have t60_17 := iAdd e60_17 rfl rfl (by omega) (by omega)
            have t60 := t60_17
            refine lv_iload_n hx hb dX11_missOf_61 rfl (lv_at hl 0 rfl) ?_
            refine lv_iadd hx hb dX11_missOf_62 ?_
            refine lv_topi (fun v62_18 e62_18 => ?_)
            have t62_18 := iAdd e62_18 rfl rfl (by omega) (by omega)
            have t62 := t62_18
            refine q_ldI X hw (mk_18 hM) (vin (mn_18 hM) (by omega) (by omega)) dX11_missOf_63 ?_
            refine lv_topi (fun v63_19 e63_19 => ?_)
            have e63_19 : v63_19 = (qI S) (ma 18) v62_18.toNatClampNeg := e63_19
            have e63q : v63_19 = qI S (ma 18) (42 * pI S 120 (ma 0) + 21 * x + k).toNatClampNeg := by rw [e63_19]; first | rfl | (congr 2; simp only [*])
            exact hret v63_19 _ _ _ _ _ ⟨rfl, by rw [hm0]; first | exact (mOr_y (by omega) e63q (by rw [e63q, ← e24q]; assumption)).symm | omega⟩ hw rfl dX11_missOf_64
          · have D37_14 := iEq c37_14 rfl t_0
            refine lv_bipush (v := 100) hx hb dX11_missOf_40 (by decide) ?_
            refine lv_goto (tgt := 64) hx hb dX11_missOf_42 (by decide) ?_
            exact hret 100 _ _ _ _ _ ⟨rfl, by rw [hm0]; exact (mOr_0 (by omega)).symm⟩ hw rfl dX11_missOf_64
        · have D27_13 := iEq c27_13 rfl t_m100
          obtain ⟨v30_20, e30_20⟩ : ∃ y : Int32, y = k + (-1) := ⟨_, rfl⟩
          have t30_20 := iAdd e30_20 rfl t_m1 (by omega) (by omega)
          have t30 := t30_20
          refine lv_iinc (v := v30_20) (lv' := [(3, .int v30_20), (0, .ref (ma 0)), (1, .int x), (2, .int y)]) hx hb dX11_missOf_30 hl (k := 0) rfl (by rw [e30_20]; rfl) (by decide) rfl (fun ls hl => ?_)
          refine lv_goto (tgt := 2) hx hb dX11_missOf_33 (by decide) ?_
          exact ih2  v30_20 (by omega) (hm0.trans (mOr_n (by omega) e24q (by assumption) (by omega))) (by omega) _ _ _ hw (lv_sub hl [0, 1, 2, 3] rfl)
  exact lp2 _  y (by omega) rfl (Nat.lt_succ_self _) _ _ _ hw (lv_sub hl [0, 1, 2, 3] rfl)
set_option maxHeartbeats 4000000 in
set_option maxRecDepth 100000 in
theorem c_X11_cellHere (l : Launch) (G : Gh) (S : Pl) (ma : Nat → Nat) (hM : shMod S ma) (hp : 0 ≤ (pI S 129 (ma 0)).toInt ∧ (pI S 129 (ma 0)).toInt < 80 ∧ 0 ≤ (pI S 130 (ma 0)).toInt ∧ (pI S 130 (ma 0)).toInt < 80) : MtI l yX11_cellHere cX11_cellHere 1 (some .int) (Rm 0 0 0) G [.ref (ma 0)] S (fun (r : Int32) (S' : Pl) => S = S' ∧ 0 ≤ r.toInt ∧ r.toInt ≤ 63) 0 0 := by
  refine MtI.of (by decide) (Nat.le_of_ble_eq_true rfl) ?_
  intro p e s m args below meth c Q A X hw hin hret ls hl
  have hx := X.1.1
  have hb := X.1.2.1
  have hl : lv_has ls 1 [(0, .ref (ma 0))] := hl
  refine lv_aload_n hx hb dX11_cellHere_0 rfl (lv_at hl 0 rfl) ?_
  refine gf_X11_231 (v := (pI S) 130 (ma 0)) X hw hM.1 rfl dX11_cellHere_1 ?_
  refine lv_bipush (v := 10) hx hb dX11_cellHere_4 (by decide) ?_
  refine lv_idiv hx hb dX11_cellHere_6 (by decide) ?_
  refine lv_topi (fun v6_1 e6_1 => ?_)
  have d6 := iDiv10 e6_1 (by omega)
  refine lv_bipush (v := 8) hx hb dX11_cellHere_7 (by decide) ?_
  refine lv_imul hx hb dX11_cellHere_9 ?_
  refine lv_topi (fun v9_2 e9_2 => ?_)
  have t9_2 := iMul e9_2 rfl t_8 (by omega) (by omega)
  have t9 := t9_2
  refine lv_aload_n hx hb dX11_cellHere_10 rfl (lv_at hl 0 rfl) ?_
  refine gf_X11_234 (v := (pI S) 129 (ma 0)) X hw hM.1 rfl dX11_cellHere_11 ?_
  refine lv_bipush (v := 10) hx hb dX11_cellHere_14 (by decide) ?_
  refine lv_idiv hx hb dX11_cellHere_16 (by decide) ?_
  refine lv_topi (fun v16_3 e16_3 => ?_)
  have d16 := iDiv10 e16_3 (by omega)
  refine lv_iadd hx hb dX11_cellHere_17 ?_
  refine lv_topi (fun v17_4 e17_4 => ?_)
  have t17_4 := iAdd e17_4 rfl rfl (by omega) (by omega)
  have t17 := t17_4
  exact hret v17_4 _ _ _ _ _ ⟨rfl, by omega, by omega⟩ hw rfl dX11_cellHere_18
set_option maxHeartbeats 4000000 in
set_option maxRecDepth 100000 in
theorem c_X11_isOnLand (l : Launch) (G : Gh) (S : Pl) (ma : Nat → Nat) (hM : shMod S ma) (hbk : 0 ≤ (pI S 120 (ma 0)).toInt ∧ (pI S 120 (ma 0)).toInt ≤ 1) (hp : 0 ≤ (pI S 129 (ma 0)).toInt ∧ (pI S 129 (ma 0)).toInt < 80 ∧ 0 ≤ (pI S 130 (ma 0)).toInt ∧ (pI S 130 (ma 0)).toInt < 80) : MtI l yX11_isOnLand cX11_isOnLand 1 (some .boolean) (Rm 1 0 0) G [.ref (ma 0)] S (fun (r : Int32) (S' : Pl) => (S = S' ∧ r = 1 ∧ True) ∨ (S = S' ∧ r = 0 ∧ True)) 0 0 := by
  refine MtI.ofN (by decide) (Nat.le_of_ble_eq_true rfl) ?_
  intro p e s m args below meth c Q A X hw hin hret ls hl
  have hx := X.1.1
  have hb := X.1.2.1
  have hl : lv_has ls 1 [(0, .ref (ma 0))] := hl
  refine lv_aload_n hx hb dX11_isOnLand_0 rfl (lv_at hl 0 rfl) ?_
  refine gf_X11_83 (b := (ma 19)) X hw hM.1 (mr_19 hM) dX11_isOnLand_1 ?_
  refine lv_bipush (v := 64) hx hb dX11_isOnLand_4 (by decide) ?_
  refine lv_aload_n hx hb dX11_isOnLand_6 rfl (lv_at hl 0 rfl) ?_
  refine gf_X11_146 (v := (pI S) 120 (ma 0)) X hw hM.1 rfl dX11_isOnLand_7 ?_
  refine lv_imul hx hb dX11_isOnLand_10 ?_
  refine lv_topi (fun v10_1 e10_1 => ?_)
  have t10_1 := iMul e10_1 t_64 rfl (by omega) (by omega)
  have t10 := t10_1
  refine lv_aload_n hx hb dX11_isOnLand_11 rfl (lv_at hl 0 rfl) ?_
  refine k_Vi (n := 0) X hw (rcvk (ci := 11) X hw hM.1 (fun _ _ _ _ _ _ _ => ⟨_, rfl⟩) rfl) (c_X11_cellHere l G _ ma hM (px_of (a := ((pI S) 129 (ma 0) : Int32)) (b := ((pI S) 130 (ma 0) : Int32)) rfl rfl (by omega))) wd_r31_11 wd_r31_12 wd_r31_13 wd_r1_5 wd_r31_14 ⟨by decide, by decide, by decide +kernel⟩ rfl rfl ⟨Nat.le_of_ble_eq_true rfl, Nat.le_of_ble_eq_true rfl⟩ rfl rfl hl.1 (Nat.le_of_ble_eq_true rfl) dX11_isOnLand_12 ⟨Nat.le_of_ble_eq_true rfl, Nat.le_of_ble_eq_true rfl⟩ (fun r12_2 S12_4 H locs h12_3 hw => ?_)
  obtain ⟨rfl, h12_3⟩ := h12_3
  refine lv_iadd hx hb dX11_isOnLand_15 ?_
  refine lv_topi (fun v15_5 e15_5 => ?_)
  have t15_5 := iAdd e15_5 rfl rfl (by omega) (by omega)
  have t15 := t15_5
  refine q_ldZ X hw (mk_19 hM) (vin (mn_19 hM) (by omega) (by omega)) dX11_isOnLand_16 ?_
  refine lv_topi (fun v16_6 e16_6 => ?_)
  have e16_6 : v16_6 = (qI S) (ma 19) v15_5.toNatClampNeg := e16_6
  exact hret v16_6 (v16_6 &&& 1) _ _ _ _ _ ((and1 v16_6).elim (fun h => Or.inl ⟨rfl, h, trivial⟩) (fun h => Or.inr ⟨rfl, h, trivial⟩)) hw rfl dX11_isOnLand_17
set_option maxHeartbeats 4000000 in
set_option maxRecDepth 100000 in
theorem c_X11_isTale (l : Launch) (G : Gh) (S : Pl) (ma : Nat → Nat) (x : Int32) (hM : shMod S ma) : MtI l yX11_isTale cX11_isTale 2 (some .boolean) (Rm 0 0 0) G [.ref (ma 0), .int x] S (fun (r : Int32) (S' : Pl) => (S = S' ∧ r = 1 ∧ (0 ≤ x.toInt ∧ x.toInt < (pI S 128 (ma 0)).toInt)) ∨ (S = S' ∧ r = 0 ∧ ¬ (0 ≤ x.toInt ∧ x.toInt < (pI S 128 (ma 0)).toInt))) 0 0 := by
  refine MtI.of (by decide) (Nat.le_of_ble_eq_true rfl) ?_
  intro p e s m args below meth c Q A X hw hin hret ls hl
  have hx := X.1.1
  have hb := X.1.2.1
  have hl : lv_has ls 2 [(0, .ref (ma 0)), (1, .int x)] := hl
  refine lv_iload_n hx hb dX11_isTale_0 rfl (lv_at hl 1 rfl) ?_
  refine lv_if_lt (tgt := 16) hx hb dX11_isTale_1 (by decide) (fun c1_1 => ?_) (fun c1_1 => ?_)
  · have D1_1 := iLt c1_1 rfl t_0
    refine lv_iconst (v := 0) hx hb dX11_isTale_16 (by decide) ?_
    exact hret 0 _ _ _ _ _ (Or.inr ⟨rfl, rfl, by omega⟩) hw rfl dX11_isTale_17
  · have D1_1 := iNlt c1_1 rfl t_0
    refine lv_iload_n hx hb dX11_isTale_4 rfl (lv_at hl 1 rfl) ?_
    refine lv_aload_n hx hb dX11_isTale_5 rfl (lv_at hl 0 rfl) ?_
    refine gf_X11_224 (v := (pI S) 128 (ma 0)) X hw hM.1 rfl dX11_isTale_6 ?_
    refine lv_icmp_ge (tgt := 16) hx hb dX11_isTale_9 (by decide) (fun c9_2 => ?_) (fun c9_2 => ?_)
    · have D9_2 := iLe c9_2 rfl rfl
      refine lv_iconst (v := 0) hx hb dX11_isTale_16 (by decide) ?_
      exact hret 0 _ _ _ _ _ (Or.inr ⟨rfl, rfl, by omega⟩) hw rfl dX11_isTale_17
    · have D9_2 := iNle c9_2 rfl rfl
      refine lv_iconst (v := 1) hx hb dX11_isTale_12 (by decide) ?_
      refine lv_goto (tgt := 17) hx hb dX11_isTale_13 (by decide) ?_
      exact hret 1 _ _ _ _ _ (Or.inl ⟨rfl, rfl, by omega⟩) hw rfl dX11_isTale_17
set_option maxHeartbeats 4000000 in
set_option maxRecDepth 100000 in
theorem c_X11_off (l : Launch) (G : Gh) (S : Pl) (x y : Int32)  : MtI l yX11_off cX11_off 2 (some .int) (Rm 0 0 0) G [.int x, .int y] S (fun (r : Int32) (S' : Pl) => S = S' ∧ True) 0 0 := by
  refine MtI.of (by decide) (Nat.le_of_ble_eq_true rfl) ?_
  intro p e s m args below meth c Q A X hw hin hret ls hl
  have hx := X.1.1
  have hb := X.1.2.1
  have hl : lv_has ls 2 [(0, .int x), (1, .int y)] := hl
  refine lv_iload_n hx hb dX11_off_0 rfl (lv_at hl 0 rfl) ?_
  refine lv_iload_n hx hb dX11_off_1 rfl (lv_at hl 1 rfl) ?_
  refine lv_icmp_le (tgt := 11) hx hb dX11_off_2 (by decide) (fun c2_1 => ?_) (fun c2_1 => ?_)
  · have D2_1 := iLe c2_1 rfl rfl
    refine lv_iload_n hx hb dX11_off_11 rfl (lv_at hl 1 rfl) ?_
    refine lv_iload_n hx hb dX11_off_12 rfl (lv_at hl 0 rfl) ?_
    refine lv_isub hx hb dX11_off_13 ?_
    refine lv_topi (fun v13_2 e13_2 => ?_)
    exact hret v13_2 _ _ _ _ _ ⟨rfl, trivial⟩ hw rfl dX11_off_14
  · have D2_1 := iNle c2_1 rfl rfl
    refine lv_iload_n hx hb dX11_off_5 rfl (lv_at hl 0 rfl) ?_
    refine lv_iload_n hx hb dX11_off_6 rfl (lv_at hl 1 rfl) ?_
    refine lv_isub hx hb dX11_off_7 ?_
    refine lv_topi (fun v7_3 e7_3 => ?_)
    refine lv_goto (tgt := 14) hx hb dX11_off_8 (by decide) ?_
    exact hret v7_3 _ _ _ _ _ ⟨rfl, trivial⟩ hw rfl dX11_off_14
set_option maxHeartbeats 4000000 in
set_option maxRecDepth 100000 in
theorem c_X11_drift (l : Launch) (G : Gh) (S : Pl) (ma : Nat → Nat) (t n : Int32) (hM : shMod S ma) (hI : mInv (pI S) (qI S) ma) (ht : 0 ≤ t.toInt ∧ t.toInt < (pI S 128 (ma 0)).toInt) (hn : 0 ≤ n.toInt ∧ n.toInt ≤ 72) : MtV l yX11_drift cX11_drift 6 none (Rm 2 0 0) G [.ref (ma 0), .int t, .int n] S (fun (S' : Pl) => ∃ I', ch S I' (pJ S) (qI S) (qJ S) = S' ∧ FrD (pI S) I' ∧ ((I' 131 (ma 0)).toInt ≠ 2 → 0 ≤ (I' 129 (ma 0)).toInt ∧ (I' 129 (ma 0)).toInt < 80 ∧ 0 ≤ (I' 130 (ma 0)).toInt ∧ (I' 130 (ma 0)).toInt < 80)) 0 0 := by
  refine MtV.of (by decide) (Nat.le_of_ble_eq_true rfl) ?_
  intro p e s m args below meth c Q A X hw hin hret ls hl
  have hx := X.1.1
  have hb := X.1.2.1
  have hl : lv_has ls 6 [(0, .ref (ma 0)), (1, .int t), (2, .int n)] := hl
  obtain ⟨⟨b1, b2, b3, b4, b5, b6⟩, hT, hP, hC⟩ := id hI
  have tz := mT_at hT (x := t) ht.1 ht.2
  refine lv_aload_n hx hb dX11_drift_0 rfl (lv_at hl 0 rfl) ?_
  refine lv_aload_n hx hb dX11_drift_1 rfl (lv_at hl 0 rfl) ?_
  refine gf_X11_93 (b := (ma 25)) X hw hM.1 (mr_25 hM) dX11_drift_2 ?_
  refine lv_iload_n hx hb dX11_drift_5 rfl (lv_at hl 1 rfl) ?_
  refine q_ldI X hw (mk_25 hM) (vin (mn_25 hM) (by omega) (by omega)) dX11_drift_6 ?_
  refine lv_topi (fun v6_1 e6_1 => ?_)
  have e6_1 : v6_1 = (qI S) (ma 25) t.toNatClampNeg := e6_1
  have g6 := congrArg Int32.toInt e6_1
  refine pf_X11_234 X hw hM.1 dX11_drift_7 (fun H locs hw => ?_)
  have hw : PX G A s.heap (ch S (up2 (pI S) 129 (ma 0) v6_1) (pJ S) (qI S) (qJ S)) H locs := hw
  refine lv_aload_n hx hb dX11_drift_10 rfl (lv_at hl 0 rfl) ?_
  refine lv_aload_n hx hb dX11_drift_11 rfl (lv_at hl 0 rfl) ?_
  refine gf_X11_96 (b := (ma 26)) X hw hM.1 (mr_26 hM) dX11_drift_12 ?_
  refine lv_iload_n hx hb dX11_drift_15 rfl (lv_at hl 1 rfl) ?_
  refine q_ldI X hw (mk_26 hM) (vin (mn_26 hM) (by omega) (by omega)) dX11_drift_16 ?_
  refine lv_topi (fun v16_2 e16_2 => ?_)
  have e16_2 : v16_2 = (qI S) (ma 26) t.toNatClampNeg := e16_2
  have g16 := congrArg Int32.toInt e16_2
  refine pf_X11_231 X hw hM.1 dX11_drift_17 (fun H locs hw => ?_)
  have hw : PX G A s.heap (ch S (up2 (up2 (pI S) 129 (ma 0) v6_1) 130 (ma 0) v16_2) (pJ S) (qI S) (qJ S)) H locs := hw
  refine lv_aload_n hx hb dX11_drift_20 rfl (lv_at hl 0 rfl) ?_
  refine lv_iload_n hx hb dX11_drift_21 rfl (lv_at hl 2 rfl) ?_
  refine lv_aload_n hx hb dX11_drift_22 rfl (lv_at hl 0 rfl) ?_
  refine gf_X11_99 (b := (ma 27)) X hw hM.1 (mr_27 hM) dX11_drift_23 ?_
  refine lv_iload_n hx hb dX11_drift_26 rfl (lv_at hl 1 rfl) ?_
  refine q_ldI X hw (mk_27 hM) (vin (mn_27 hM) (by omega) (by omega)) dX11_drift_27 ?_
  refine lv_topi (fun v27_3 e27_3 => ?_)
  have e27_3 : v27_3 = (qI S) (ma 27) t.toNatClampNeg := e27_3
  have g27 := congrArg Int32.toInt e27_3
  refine lv_icmp_lt (tgt := 42) hx hb dX11_drift_28 (by decide) (fun c28_4 => ?_) (fun c28_4 => ?_)
  · have D28_4 := iLt c28_4 rfl rfl
    refine lv_iconst (v := 0) hx hb dX11_drift_42 (by decide) ?_
    refine pf_X11_240 X hw hM.1 dX11_drift_43 (fun H locs hw => ?_)
    have hw : PX G A s.heap (ch S (up2 (up2 (up2 (pI S) 129 (ma 0) v6_1) 130 (ma 0) v16_2) 131 (ma 0) 0) (pJ S) (qI S) (qJ S)) H locs := hw
    refine lv_aload_n hx hb dX11_drift_46 rfl (lv_at hl 0 rfl) ?_
    refine gf_X11_77 (b := (ma 17)) X hw hM.1 (mr_17 hM) dX11_drift_47 ?_
    refine lv_iconst (v := 4) hx hb dX11_drift_50 (by decide) ?_
    refine lv_aload_n hx hb dX11_drift_51 rfl (lv_at hl 0 rfl) ?_
    refine gf_X11_146 (v := (pI S) 120 (ma 0)) X hw hM.1 rfl dX11_drift_52 ?_
    refine lv_imul hx hb dX11_drift_55 ?_
    refine lv_topi (fun v55_5 e55_5 => ?_)
    have t55_5 := iMul e55_5 t_4 rfl (by omega) (by omega)
    have t55 := t55_5
    refine lv_aload_n hx hb dX11_drift_56 rfl (lv_at hl 0 rfl) ?_
    refine gf_X11_90 (b := (ma 24)) X hw hM.1 (mr_24 hM) dX11_drift_57 ?_
    refine lv_iload_n hx hb dX11_drift_60 rfl (lv_at hl 1 rfl) ?_
    refine q_ldI X hw (mk_24 hM) (vin (mn_24 hM) (by omega) (by omega)) dX11_drift_61 ?_
    refine lv_topi (fun v61_6 e61_6 => ?_)
    have e61_6 : v61_6 = (qI S) (ma 24) t.toNatClampNeg := e61_6
    have g61 := congrArg Int32.toInt e61_6
    refine lv_iadd hx hb dX11_drift_62 ?_
    refine lv_topi (fun v62_7 e62_7 => ?_)
    have t62_7 := iAdd e62_7 rfl rfl (by omega) (by omega)
    have t62 := t62_7
    refine q_ldI X hw (mk_17 hM) (vin (mn_17 hM) (by omega) (by omega)) dX11_drift_63 ?_
    refine lv_topi (fun v63_8 e63_8 => ?_)
    have e63_8 : v63_8 = (qI S) (ma 17) v62_7.toNatClampNeg := e63_8
    refine lv_istore_n (lv' := [(3, .int v63_8), (0, .ref (ma 0)), (1, .int t), (2, .int n)]) hx hb dX11_drift_64 rfl hl (by decide) rfl (fun ls hl => ?_)
    refine lv_aload_n hx hb dX11_drift_65 rfl (lv_at hl 1 rfl) ?_
    refine gf_X11_99 (b := (ma 27)) X hw hM.1 (mr_27 hM) dX11_drift_66 ?_
    refine lv_iload_n hx hb dX11_drift_69 rfl (lv_at hl 2 rfl) ?_
    refine q_ldI X hw (mk_27 hM) (vin (mn_27 hM) (by omega) (by omega)) dX11_drift_70 ?_
    refine lv_topi (fun v70_9 e70_9 => ?_)
    have e70_9 : v70_9 = (qI S) (ma 27) t.toNatClampNeg := e70_9
    have g70 := congrArg Int32.toInt e70_9
    refine lv_istore (lv' := [(4, .int v70_9), (3, .int v63_8), (0, .ref (ma 0)), (1, .int t), (2, .int n)]) hx hb dX11_drift_71 hl (by decide) rfl (fun ls hl => ?_)
    have lp73 : ∀ (N9 : Nat) (I73 : Nat → Nat → Int32) (k : Int32), (FrD (pI S) I73) → ((I73 131 (ma 0)).toInt ≠ 2 → 0 ≤ (I73 129 (ma 0)).toInt ∧ (I73 129 (ma 0)).toInt < 80 ∧ 0 ≤ (I73 130 (ma 0)).toInt ∧ (I73 130 (ma 0)).toInt < 80) → (0 ≤ k.toInt ∧ k.toInt ≤ 72) → (72 - k.toInt).toNat < N9 → ∀ (H : Heap) (locs : List Loc) (ls : Array Slot), PX G A s.heap (ch S I73 (pJ S) (qI S) (qJ S)) H locs → lv_has ls 6 [(4, .int k), (3, .int v63_8), (0, .ref (ma 0)), (1, .int t), (2, .int n)] → W p l e (Rm 2 0 0) s m args below meth c H locs 0 0 Q (F0 m 73 ls []) := by
      intro N9
      induction N9 with
      | zero => intro I73 k hF hpt hk hm; exact absurd hm (Nat.not_lt_zero _)
      | succ N9 ih73 =>
        intro I73 k hF hpt hk hm H locs ls hw hl
        have hbF := FrD.at hF (f := 120) (by decide) (ma 0)
        refine lv_iload hx hb dX11_drift_73 (lv_at hl 0 rfl) ?_
        refine lv_iload_n hx hb dX11_drift_75 rfl (lv_at hl 4 rfl) ?_
        refine lv_icmp_ge (tgt := 225) hx hb dX11_drift_76 (by decide) (fun c76_10 => ?_) (fun c76_10 => ?_)
        · have D76_10 := iLe c76_10 rfl rfl
          exact hret _ _ _ _ _ ⟨_, rfl, hF, hpt⟩ hw dX11_drift_225
        · have D76_10 := iNle c76_10 rfl rfl
          refine lv_aload_n hx hb dX11_drift_79 rfl (lv_at hl 2 rfl) ?_
          refine gf_X11_240 (v := I73 131 (ma 0)) X hw hM.1 rfl dX11_drift_80 ?_
          refine lv_if_ne (tgt := 225) hx hb dX11_drift_83 (by decide) (fun c83_11 => ?_) (fun c83_11 => ?_)
          · skip
            exact hret _ _ _ _ _ ⟨_, rfl, hF, hpt⟩ hw dX11_drift_225
          · have D83_11 := iEq c83_11 rfl t_0
            refine lv_aload_n hx hb dX11_drift_86 rfl (lv_at hl 2 rfl) ?_
            refine gf_X11_234 (v := I73 129 (ma 0)) X hw hM.1 rfl dX11_drift_87 ?_
            refine lv_bipush (v := 40) hx hb dX11_drift_90 (by decide) ?_
            refine lv_icmp_ge (tgt := 99) hx hb dX11_drift_92 (by decide) (fun c92_12 => ?_) (fun c92_12 => ?_)
            · have D92_12 := iLe c92_12 t_40 rfl
              refine lv_iconst (v := 1) hx hb dX11_drift_99 (by decide) ?_
              refine lv_aload_n hx hb dX11_drift_100 rfl (lv_at hl 2 rfl) ?_
              refine gf_X11_231 (v := I73 130 (ma 0)) X hw hM.1 rfl dX11_drift_101 ?_
              refine lv_bipush (v := 40) hx hb dX11_drift_104 (by decide) ?_
              refine lv_icmp_ge (tgt := 113) hx hb dX11_drift_106 (by decide) (fun c106_13 => ?_) (fun c106_13 => ?_)
              · have D106_13 := iLe c106_13 t_40 rfl
                refine lv_iconst (v := 2) hx hb dX11_drift_113 (by decide) ?_
                refine lv_iadd hx hb dX11_drift_114 ?_
                refine lv_topi (fun v114_14 e114_14 => ?_)
                have t114_14 := iAdd e114_14 t_1 t_2 (by omega) (by omega)
                have t114 := t114_14
                refine lv_istore (lv' := [(5, .int v114_14), (4, .int k), (3, .int v63_8), (0, .ref (ma 0)), (1, .int t), (2, .int n)]) hx hb dX11_drift_115 hl (by decide) rfl (fun ls hl => ?_)
                refine lv_aload_n hx hb dX11_drift_117 rfl (lv_at hl 3 rfl) ?_
                refine lv_dup hx hb dX11_drift_118 rfl ?_
                refine gf_X11_234 (v := I73 129 (ma 0)) X hw hM.1 rfl dX11_drift_119 ?_
                refine lv_aload_n hx hb dX11_drift_122 rfl (lv_at hl 3 rfl) ?_
                refine lv_iload hx hb dX11_drift_123 (lv_at hl 0 rfl) ?_
                refine lv_iload hx hb dX11_drift_125 (lv_at hl 1 rfl) ?_
                refine lv_iconst (v := 0) hx hb dX11_drift_127 (by decide) ?_
                refine k_Vi (n := 3) X hw (rcvk (ci := 11) X hw hM.1 (fun _ _ _ _ _ _ _ => ⟨_, rfl⟩) rfl) (c_X11_streamOf l G _ ma v114_14 k 0 hM (show 0 ≤ (I73 120 (ma 0) : Int32).toInt ∧ (I73 120 (ma 0) : Int32).toInt ≤ 1 by omega) (by omega) (by omega)) wd_r25_13 wd_r25_14 wd_r25_15 wd_r1_5 wd_r25_16 ⟨by decide, by decide, by decide +kernel⟩ rfl rfl ⟨Nat.le_of_ble_eq_true rfl, Nat.le_of_ble_eq_true rfl⟩ rfl rfl hl.1 (Nat.le_of_ble_eq_true rfl) dX11_drift_128 ⟨Nat.le_of_ble_eq_true rfl, Nat.le_of_ble_eq_true rfl⟩ (fun r128_15 S128_17 H locs h128_16 hw => ?_)
                have := t_0
                obtain ⟨rfl, h128_16⟩ := h128_16
                refine lv_aload_n hx hb dX11_drift_131 rfl (lv_at hl 3 rfl) ?_
                refine lv_iload hx hb dX11_drift_132 (lv_at hl 1 rfl) ?_
                refine lv_iconst (v := 0) hx hb dX11_drift_134 (by decide) ?_
                refine k_Vi (n := 2) X hw (rcvk (ci := 11) X hw hM.1 (fun _ _ _ _ _ _ _ => ⟨_, rfl⟩) rfl) (c_X11_windOf l G _ ma k 0 hM (show 0 ≤ (I73 120 (ma 0) : Int32).toInt ∧ (I73 120 (ma 0) : Int32).toInt ≤ 1 by omega) (by omega)) wd_r24_23 wd_r25_0 wd_r25_1 wd_r1_5 wd_r25_2 ⟨by decide, by decide, by decide +kernel⟩ rfl rfl ⟨Nat.le_of_ble_eq_true rfl, Nat.le_of_ble_eq_true rfl⟩ rfl rfl hl.1 (Nat.le_of_ble_eq_true rfl) dX11_drift_135 ⟨Nat.le_of_ble_eq_true rfl, Nat.le_of_ble_eq_true rfl⟩ (fun r135_18 S135_20 H locs h135_19 hw => ?_)
                have := t_0
                obtain ⟨rfl, h135_19⟩ := h135_19
                refine lv_iload_n hx hb dX11_drift_138 rfl (lv_at hl 2 rfl) ?_
                refine lv_imul hx hb dX11_drift_139 ?_
                refine lv_topi (fun v139_21 e139_21 => ?_)
                refine lv_bipush (v := 100) hx hb dX11_drift_140 (by decide) ?_
                refine lv_idiv hx hb dX11_drift_142 (by decide) ?_
                refine lv_topi (fun v142_22 e142_22 => ?_)
                refine lv_iadd hx hb dX11_drift_143 ?_
                refine lv_topi (fun v143_23 e143_23 => ?_)
                refine lv_iadd hx hb dX11_drift_144 ?_
                refine lv_topi (fun v144_24 e144_24 => ?_)
                refine pf_X11_234 X hw hM.1 dX11_drift_145 (fun H locs hw => ?_)
                have hw : PX G A s.heap (ch S (up2 I73 129 (ma 0) v144_24) (pJ S) (qI S) (qJ S)) H locs := hw
                refine lv_aload_n hx hb dX11_drift_148 rfl (lv_at hl 3 rfl) ?_
                refine lv_dup hx hb dX11_drift_149 rfl ?_
                refine gf_X11_231 (v := I73 130 (ma 0)) X hw hM.1 rfl dX11_drift_150 ?_
                refine lv_aload_n hx hb dX11_drift_153 rfl (lv_at hl 3 rfl) ?_
                refine lv_iload hx hb dX11_drift_154 (lv_at hl 0 rfl) ?_
                refine lv_iload hx hb dX11_drift_156 (lv_at hl 1 rfl) ?_
                refine lv_iconst (v := 1) hx hb dX11_drift_158 (by decide) ?_
                refine k_Vi (n := 3) X hw (rcvk (ci := 11) X hw hM.1 (fun _ _ _ _ _ _ _ => ⟨_, rfl⟩) rfl) (c_X11_streamOf l G _ ma v114_14 k 1 hM (show 0 ≤ (I73 120 (ma 0) : Int32).toInt ∧ (I73 120 (ma 0) : Int32).toInt ≤ 1 by omega) (by omega) (by omega)) wd_r25_13 wd_r25_14 wd_r25_15 wd_r1_5 wd_r25_16 ⟨by decide, by decide, by decide +kernel⟩ rfl rfl ⟨Nat.le_of_ble_eq_true rfl, Nat.le_of_ble_eq_true rfl⟩ rfl rfl hl.1 (Nat.le_of_ble_eq_true rfl) dX11_drift_159 ⟨Nat.le_of_ble_eq_true rfl, Nat.le_of_ble_eq_true rfl⟩ (fun r159_25 S159_27 H locs h159_26 hw => ?_)
                have := t_1
                obtain ⟨rfl, h159_26⟩ := h159_26
                refine lv_aload_n hx hb dX11_drift_162 rfl (lv_at hl 3 rfl) ?_
                refine lv_iload hx hb dX11_drift_163 (lv_at hl 1 rfl) ?_
                refine lv_iconst (v := 1) hx hb dX11_drift_165 (by decide) ?_
                refine k_Vi (n := 2) X hw (rcvk (ci := 11) X hw hM.1 (fun _ _ _ _ _ _ _ => ⟨_, rfl⟩) rfl) (c_X11_windOf l G _ ma k 1 hM (show 0 ≤ (I73 120 (ma 0) : Int32).toInt ∧ (I73 120 (ma 0) : Int32).toInt ≤ 1 by omega) (by omega)) wd_r24_23 wd_r25_0 wd_r25_1 wd_r1_5 wd_r25_2 ⟨by decide, by decide, by decide +kernel⟩ rfl rfl ⟨Nat.le_of_ble_eq_true rfl, Nat.le_of_ble_eq_true rfl⟩ rfl rfl hl.1 (Nat.le_of_ble_eq_true rfl) dX11_drift_166 ⟨Nat.le_of_ble_eq_true rfl, Nat.le_of_ble_eq_true rfl⟩ (fun r166_28 S166_30 H locs h166_29 hw => ?_)
                have := t_1
                obtain ⟨rfl, h166_29⟩ := h166_29
                refine lv_iload_n hx hb dX11_drift_169 rfl (lv_at hl 2 rfl) ?_
                refine lv_imul hx hb dX11_drift_170 ?_
                refine lv_topi (fun v170_31 e170_31 => ?_)
                refine lv_bipush (v := 100) hx hb dX11_drift_171 (by decide) ?_
                refine lv_idiv hx hb dX11_drift_173 (by decide) ?_
                refine lv_topi (fun v173_32 e173_32 => ?_)
                refine lv_iadd hx hb dX11_drift_174 ?_
                refine lv_topi (fun v174_33 e174_33 => ?_)
                refine lv_iadd hx hb dX11_drift_175 ?_
                refine lv_topi (fun v175_34 e175_34 => ?_)
                refine pf_X11_231 X hw hM.1 dX11_drift_176 (fun H locs hw => ?_)
                have hw : PX G A s.heap (ch S (up2 (up2 I73 129 (ma 0) v144_24) 130 (ma 0) v175_34) (pJ S) (qI S) (qJ S)) H locs := hw
                refine lv_aload_n hx hb dX11_drift_179 rfl (lv_at hl 3 rfl) ?_
                refine lv_aload_n hx hb dX11_drift_180 rfl (lv_at hl 3 rfl) ?_
                refine gf_X11_234 (v := v144_24) X hw hM.1 (show up2 I73 129 (ma 0) v144_24 129 (ma 0) = v144_24 from up2_s) dX11_drift_181 ?_
                refine k_Si (n := 1) X hw (c_X11_isPoint l G _ v144_24) wd_r29_19 wd_r29_20 wd_r1_5 wd_r29_21 ⟨by decide, by decide, by decide +kernel⟩ rfl rfl ⟨Nat.le_of_ble_eq_true rfl, Nat.le_of_ble_eq_true rfl⟩ rfl rfl hl.1 (Nat.le_of_ble_eq_true rfl) dX11_drift_184 ⟨Nat.le_of_ble_eq_true rfl, Nat.le_of_ble_eq_true rfl⟩ (fun r184_35 S184_37 H locs h184_36 hw => ?_)
                rcases h184_36 with ⟨rfl, rfl, h184_36⟩ | ⟨rfl, rfl, h184_36⟩
                · have h184_36 := h184_36
                  refine lv_if_eq (tgt := 200) hx hb dX11_drift_187 (by decide) (fun c187_38 => absurd c187_38 (by decide)) (fun c187_38 => ?_)
                  refine lv_aload_n hx hb dX11_drift_190 rfl (lv_at hl 3 rfl) ?_
                  refine gf_X11_231 (v := v175_34) X hw hM.1 (show up2 (up2 I73 129 (ma 0) v144_24) 130 (ma 0) v175_34 130 (ma 0) = v175_34 from up2_s) dX11_drift_191 ?_
                  refine k_Si (n := 1) X hw (c_X11_isPoint l G _ v175_34) wd_r29_19 wd_r29_20 wd_r1_5 wd_r29_21 ⟨by decide, by decide, by decide +kernel⟩ rfl rfl ⟨Nat.le_of_ble_eq_true rfl, Nat.le_of_ble_eq_true rfl⟩ rfl rfl hl.1 (Nat.le_of_ble_eq_true rfl) dX11_drift_194 ⟨Nat.le_of_ble_eq_true rfl, Nat.le_of_ble_eq_true rfl⟩ (fun r194_39 S194_41 H locs h194_40 hw => ?_)
                  rcases h194_40 with ⟨rfl, rfl, h194_40⟩ | ⟨rfl, rfl, h194_40⟩
                  · have h194_40 := h194_40
                    refine lv_if_ne (tgt := 204) hx hb dX11_drift_197 (by decide) (fun c197_42 => ?_) (fun c197_42 => absurd c197_42 (by decide))
                    refine lv_aload_n hx hb dX11_drift_204 rfl (lv_at hl 3 rfl) ?_
                    refine k_Vi (n := 0) X hw (rcvk (ci := 11) X hw hM.1 (fun _ _ _ _ _ _ _ => ⟨_, rfl⟩) rfl) (c_X11_isOnLand l G _ ma hM (show 0 ≤ (I73 120 (ma 0) : Int32).toInt ∧ (I73 120 (ma 0) : Int32).toInt ≤ 1 by omega) (px_of (a := (v144_24 : Int32)) (b := (v175_34 : Int32)) (show up2 I73 129 (ma 0) v144_24 129 (ma 0) = v144_24 from up2_s) (show up2 (up2 I73 129 (ma 0) v144_24) 130 (ma 0) v175_34 130 (ma 0) = v175_34 from up2_s) (by omega))) wd_r31_7 wd_r31_8 wd_r31_9 wd_r1_5 wd_r31_10 ⟨by decide, by decide, by decide +kernel⟩ rfl rfl ⟨Nat.le_of_ble_eq_true rfl, Nat.le_of_ble_eq_true rfl⟩ rfl rfl hl.1 (Nat.le_of_ble_eq_true rfl) dX11_drift_205 ⟨Nat.le_of_ble_eq_true rfl, Nat.le_of_ble_eq_true rfl⟩ (fun r205_43 S205_45 H locs h205_44 hw => ?_)
                    rcases h205_44 with ⟨rfl, rfl, h205_44⟩ | ⟨rfl, rfl, h205_44⟩
                    · have h205_44 := h205_44
                      refine lv_if_eq (tgt := 215) hx hb dX11_drift_208 (by decide) (fun c208_46 => absurd c208_46 (by decide)) (fun c208_46 => ?_)
                      refine lv_iconst (v := 1) hx hb dX11_drift_211 (by decide) ?_
                      refine lv_goto (tgt := 216) hx hb dX11_drift_212 (by decide) ?_
                      refine pf_X11_240 X hw hM.1 dX11_drift_216 (fun H locs hw => ?_)
                      have hw : PX G A s.heap (ch S (up2 (up2 (up2 I73 129 (ma 0) v144_24) 130 (ma 0) v175_34) 131 (ma 0) 1) (pJ S) (qI S) (qJ S)) H locs := hw
                      obtain ⟨v219_47, e219_47⟩ : ∃ y : Int32, y = k + 1 := ⟨_, rfl⟩
                      have t219_47 := iAdd e219_47 rfl t_1 (by omega) (by omega)
                      have t219 := t219_47
                      refine lv_iinc (v := v219_47) (lv' := [(4, .int v219_47), (5, .int v114_14), (3, .int v63_8), (0, .ref (ma 0)), (1, .int t), (2, .int n)]) hx hb dX11_drift_219 hl (k := 1) rfl (by rw [e219_47]; rfl) (by decide) rfl (fun ls hl => ?_)
                      refine lv_goto (tgt := 73) hx hb dX11_drift_222 (by decide) ?_
                      exact ih73 (up2 (up2 (up2 I73 129 (ma 0) v144_24) 130 (ma 0) v175_34) 131 (ma 0) 1) v219_47 (FrD.up (f := 131) (by decide) (FrD.up (f := 130) (by decide) (FrD.up (f := 129) (by decide) hF))) (by rw [show (up2 (up2 (up2 I73 129 (ma 0) v144_24) 130 (ma 0) v175_34) 131 (ma 0) 1) 129 (ma 0) = (v144_24 : Int32) from (show up2 I73 129 (ma 0) v144_24 129 (ma 0) = v144_24 from up2_s), show (up2 (up2 (up2 I73 129 (ma 0) v144_24) 130 (ma 0) v175_34) 131 (ma 0) 1) 130 (ma 0) = (v175_34 : Int32) from (show up2 (up2 I73 129 (ma 0) v144_24) 130 (ma 0) v175_34 130 (ma 0) = v175_34 from up2_s), show (up2 (up2 (up2 I73 129 (ma 0) v144_24) 130 (ma 0) v175_34) 131 (ma 0) 1) 131 (ma 0) = (1 : Int32) from (show up2 (up2 (up2 I73 129 (ma 0) v144_24) 130 (ma 0) v175_34) 131 (ma 0) 1 131 (ma 0) = 1 from up2_s)]; have := t_0; have := t_1; have := t_2; omega) (by omega) (by omega) _ _ _ hw (lv_sub hl [0, 2, 3, 4, 5] rfl)
                    · have h205_44 := h205_44
                      refine lv_if_eq (tgt := 215) hx hb dX11_drift_208 (by decide) (fun c208_48 => ?_) (fun c208_48 => absurd c208_48 (by decide))
                      refine lv_iconst (v := 0) hx hb dX11_drift_215 (by decide) ?_
                      refine pf_X11_240 X hw hM.1 dX11_drift_216 (fun H locs hw => ?_)
                      have hw : PX G A s.heap (ch S (up2 (up2 (up2 I73 129 (ma 0) v144_24) 130 (ma 0) v175_34) 131 (ma 0) 0) (pJ S) (qI S) (qJ S)) H locs := hw
                      obtain ⟨v219_49, e219_49⟩ : ∃ y : Int32, y = k + 1 := ⟨_, rfl⟩
                      have t219_49 := iAdd e219_49 rfl t_1 (by omega) (by omega)
                      have t219 := t219_49
                      refine lv_iinc (v := v219_49) (lv' := [(4, .int v219_49), (5, .int v114_14), (3, .int v63_8), (0, .ref (ma 0)), (1, .int t), (2, .int n)]) hx hb dX11_drift_219 hl (k := 1) rfl (by rw [e219_49]; rfl) (by decide) rfl (fun ls hl => ?_)
                      refine lv_goto (tgt := 73) hx hb dX11_drift_222 (by decide) ?_
                      exact ih73 (up2 (up2 (up2 I73 129 (ma 0) v144_24) 130 (ma 0) v175_34) 131 (ma 0) 0) v219_49 (FrD.up (f := 131) (by decide) (FrD.up (f := 130) (by decide) (FrD.up (f := 129) (by decide) hF))) (by rw [show (up2 (up2 (up2 I73 129 (ma 0) v144_24) 130 (ma 0) v175_34) 131 (ma 0) 0) 129 (ma 0) = (v144_24 : Int32) from (show up2 I73 129 (ma 0) v144_24 129 (ma 0) = v144_24 from up2_s), show (up2 (up2 (up2 I73 129 (ma 0) v144_24) 130 (ma 0) v175_34) 131 (ma 0) 0) 130 (ma 0) = (v175_34 : Int32) from (show up2 (up2 I73 129 (ma 0) v144_24) 130 (ma 0) v175_34 130 (ma 0) = v175_34 from up2_s), show (up2 (up2 (up2 I73 129 (ma 0) v144_24) 130 (ma 0) v175_34) 131 (ma 0) 0) 131 (ma 0) = (0 : Int32) from (show up2 (up2 (up2 I73 129 (ma 0) v144_24) 130 (ma 0) v175_34) 131 (ma 0) 0 131 (ma 0) = 0 from up2_s)]; have := t_0; have := t_1; have := t_2; omega) (by omega) (by omega) _ _ _ hw (lv_sub hl [0, 2, 3, 4, 5] rfl)
                  · have h194_40 := h194_40
                    refine lv_if_ne (tgt := 204) hx hb dX11_drift_197 (by decide) (fun c197_50 => absurd c197_50 (by decide)) (fun c197_50 => ?_)
                    refine lv_iconst (v := 2) hx hb dX11_drift_200 (by decide) ?_
                    refine lv_goto (tgt := 216) hx hb dX11_drift_201 (by decide) ?_
                    refine pf_X11_240 X hw hM.1 dX11_drift_216 (fun H locs hw => ?_)
                    have hw : PX G A s.heap (ch S (up2 (up2 (up2 I73 129 (ma 0) v144_24) 130 (ma 0) v175_34) 131 (ma 0) 2) (pJ S) (qI S) (qJ S)) H locs := hw
                    obtain ⟨v219_51, e219_51⟩ : ∃ y : Int32, y = k + 1 := ⟨_, rfl⟩
                    have t219_51 := iAdd e219_51 rfl t_1 (by omega) (by omega)
                    have t219 := t219_51
                    refine lv_iinc (v := v219_51) (lv' := [(4, .int v219_51), (5, .int v114_14), (3, .int v63_8), (0, .ref (ma 0)), (1, .int t), (2, .int n)]) hx hb dX11_drift_219 hl (k := 1) rfl (by rw [e219_51]; rfl) (by decide) rfl (fun ls hl => ?_)
                    refine lv_goto (tgt := 73) hx hb dX11_drift_222 (by decide) ?_
                    exact ih73 (up2 (up2 (up2 I73 129 (ma 0) v144_24) 130 (ma 0) v175_34) 131 (ma 0) 2) v219_51 (FrD.up (f := 131) (by decide) (FrD.up (f := 130) (by decide) (FrD.up (f := 129) (by decide) hF))) (by rw [show (up2 (up2 (up2 I73 129 (ma 0) v144_24) 130 (ma 0) v175_34) 131 (ma 0) 2) 129 (ma 0) = (v144_24 : Int32) from (show up2 I73 129 (ma 0) v144_24 129 (ma 0) = v144_24 from up2_s), show (up2 (up2 (up2 I73 129 (ma 0) v144_24) 130 (ma 0) v175_34) 131 (ma 0) 2) 130 (ma 0) = (v175_34 : Int32) from (show up2 (up2 I73 129 (ma 0) v144_24) 130 (ma 0) v175_34 130 (ma 0) = v175_34 from up2_s), show (up2 (up2 (up2 I73 129 (ma 0) v144_24) 130 (ma 0) v175_34) 131 (ma 0) 2) 131 (ma 0) = (2 : Int32) from (show up2 (up2 (up2 I73 129 (ma 0) v144_24) 130 (ma 0) v175_34) 131 (ma 0) 2 131 (ma 0) = 2 from up2_s)]; have := t_0; have := t_1; have := t_2; omega) (by omega) (by omega) _ _ _ hw (lv_sub hl [0, 2, 3, 4, 5] rfl)
                · have h184_36 := h184_36
                  refine lv_if_eq (tgt := 200) hx hb dX11_drift_187 (by decide) (fun c187_52 => ?_) (fun c187_52 => absurd c187_52 (by decide))
                  refine lv_iconst (v := 2) hx hb dX11_drift_200 (by decide) ?_
                  refine lv_goto (tgt := 216) hx hb dX11_drift_201 (by decide) ?_
                  refine pf_X11_240 X hw hM.1 dX11_drift_216 (fun H locs hw => ?_)
                  have hw : PX G A s.heap (ch S (up2 (up2 (up2 I73 129 (ma 0) v144_24) 130 (ma 0) v175_34) 131 (ma 0) 2) (pJ S) (qI S) (qJ S)) H locs := hw
                  obtain ⟨v219_53, e219_53⟩ : ∃ y : Int32, y = k + 1 := ⟨_, rfl⟩
                  have t219_53 := iAdd e219_53 rfl t_1 (by omega) (by omega)
                  have t219 := t219_53
                  refine lv_iinc (v := v219_53) (lv' := [(4, .int v219_53), (5, .int v114_14), (3, .int v63_8), (0, .ref (ma 0)), (1, .int t), (2, .int n)]) hx hb dX11_drift_219 hl (k := 1) rfl (by rw [e219_53]; rfl) (by decide) rfl (fun ls hl => ?_)
                  refine lv_goto (tgt := 73) hx hb dX11_drift_222 (by decide) ?_
                  exact ih73 (up2 (up2 (up2 I73 129 (ma 0) v144_24) 130 (ma 0) v175_34) 131 (ma 0) 2) v219_53 (FrD.up (f := 131) (by decide) (FrD.up (f := 130) (by decide) (FrD.up (f := 129) (by decide) hF))) (by rw [show (up2 (up2 (up2 I73 129 (ma 0) v144_24) 130 (ma 0) v175_34) 131 (ma 0) 2) 129 (ma 0) = (v144_24 : Int32) from (show up2 I73 129 (ma 0) v144_24 129 (ma 0) = v144_24 from up2_s), show (up2 (up2 (up2 I73 129 (ma 0) v144_24) 130 (ma 0) v175_34) 131 (ma 0) 2) 130 (ma 0) = (v175_34 : Int32) from (show up2 (up2 I73 129 (ma 0) v144_24) 130 (ma 0) v175_34 130 (ma 0) = v175_34 from up2_s), show (up2 (up2 (up2 I73 129 (ma 0) v144_24) 130 (ma 0) v175_34) 131 (ma 0) 2) 131 (ma 0) = (2 : Int32) from (show up2 (up2 (up2 I73 129 (ma 0) v144_24) 130 (ma 0) v175_34) 131 (ma 0) 2 131 (ma 0) = 2 from up2_s)]; have := t_0; have := t_1; have := t_2; omega) (by omega) (by omega) _ _ _ hw (lv_sub hl [0, 2, 3, 4, 5] rfl)
              · have D106_13 := iNle c106_13 t_40 rfl
                refine lv_iconst (v := 0) hx hb dX11_drift_109 (by decide) ?_
                refine lv_goto (tgt := 114) hx hb dX11_drift_110 (by decide) ?_
                refine lv_iadd hx hb dX11_drift_114 ?_
                refine lv_topi (fun v114_54 e114_54 => ?_)
                have t114_54 := iAdd e114_54 t_1 t_0 (by omega) (by omega)
                have t114 := t114_54
                refine lv_istore (lv' := [(5, .int v114_54), (4, .int k), (3, .int v63_8), (0, .ref (ma 0)), (1, .int t), (2, .int n)]) hx hb dX11_drift_115 hl (by decide) rfl (fun ls hl => ?_)
                refine lv_aload_n hx hb dX11_drift_117 rfl (lv_at hl 3 rfl) ?_
                refine lv_dup hx hb dX11_drift_118 rfl ?_
                refine gf_X11_234 (v := I73 129 (ma 0)) X hw hM.1 rfl dX11_drift_119 ?_
                refine lv_aload_n hx hb dX11_drift_122 rfl (lv_at hl 3 rfl) ?_
                refine lv_iload hx hb dX11_drift_123 (lv_at hl 0 rfl) ?_
                refine lv_iload hx hb dX11_drift_125 (lv_at hl 1 rfl) ?_
                refine lv_iconst (v := 0) hx hb dX11_drift_127 (by decide) ?_
                refine k_Vi (n := 3) X hw (rcvk (ci := 11) X hw hM.1 (fun _ _ _ _ _ _ _ => ⟨_, rfl⟩) rfl) (c_X11_streamOf l G _ ma v114_54 k 0 hM (show 0 ≤ (I73 120 (ma 0) : Int32).toInt ∧ (I73 120 (ma 0) : Int32).toInt ≤ 1 by omega) (by omega) (by omega)) wd_r25_13 wd_r25_14 wd_r25_15 wd_r1_5 wd_r25_16 ⟨by decide, by decide, by decide +kernel⟩ rfl rfl ⟨Nat.le_of_ble_eq_true rfl, Nat.le_of_ble_eq_true rfl⟩ rfl rfl hl.1 (Nat.le_of_ble_eq_true rfl) dX11_drift_128 ⟨Nat.le_of_ble_eq_true rfl, Nat.le_of_ble_eq_true rfl⟩ (fun r128_55 S128_57 H locs h128_56 hw => ?_)
                have := t_0
                obtain ⟨rfl, h128_56⟩ := h128_56
                refine lv_aload_n hx hb dX11_drift_131 rfl (lv_at hl 3 rfl) ?_
                refine lv_iload hx hb dX11_drift_132 (lv_at hl 1 rfl) ?_
                refine lv_iconst (v := 0) hx hb dX11_drift_134 (by decide) ?_
                refine k_Vi (n := 2) X hw (rcvk (ci := 11) X hw hM.1 (fun _ _ _ _ _ _ _ => ⟨_, rfl⟩) rfl) (c_X11_windOf l G _ ma k 0 hM (show 0 ≤ (I73 120 (ma 0) : Int32).toInt ∧ (I73 120 (ma 0) : Int32).toInt ≤ 1 by omega) (by omega)) wd_r24_23 wd_r25_0 wd_r25_1 wd_r1_5 wd_r25_2 ⟨by decide, by decide, by decide +kernel⟩ rfl rfl ⟨Nat.le_of_ble_eq_true rfl, Nat.le_of_ble_eq_true rfl⟩ rfl rfl hl.1 (Nat.le_of_ble_eq_true rfl) dX11_drift_135 ⟨Nat.le_of_ble_eq_true rfl, Nat.le_of_ble_eq_true rfl⟩ (fun r135_58 S135_60 H locs h135_59 hw => ?_)
                have := t_0
                obtain ⟨rfl, h135_59⟩ := h135_59
                refine lv_iload_n hx hb dX11_drift_138 rfl (lv_at hl 2 rfl) ?_
                refine lv_imul hx hb dX11_drift_139 ?_
                refine lv_topi (fun v139_61 e139_61 => ?_)
                refine lv_bipush (v := 100) hx hb dX11_drift_140 (by decide) ?_
                refine lv_idiv hx hb dX11_drift_142 (by decide) ?_
                refine lv_topi (fun v142_62 e142_62 => ?_)
                refine lv_iadd hx hb dX11_drift_143 ?_
                refine lv_topi (fun v143_63 e143_63 => ?_)
                refine lv_iadd hx hb dX11_drift_144 ?_
                refine lv_topi (fun v144_64 e144_64 => ?_)
                refine pf_X11_234 X hw hM.1 dX11_drift_145 (fun H locs hw => ?_)
                have hw : PX G A s.heap (ch S (up2 I73 129 (ma 0) v144_64) (pJ S) (qI S) (qJ S)) H locs := hw
                refine lv_aload_n hx hb dX11_drift_148 rfl (lv_at hl 3 rfl) ?_
                refine lv_dup hx hb dX11_drift_149 rfl ?_
                refine gf_X11_231 (v := I73 130 (ma 0)) X hw hM.1 rfl dX11_drift_150 ?_
                refine lv_aload_n hx hb dX11_drift_153 rfl (lv_at hl 3 rfl) ?_
                refine lv_iload hx hb dX11_drift_154 (lv_at hl 0 rfl) ?_
                refine lv_iload hx hb dX11_drift_156 (lv_at hl 1 rfl) ?_
                refine lv_iconst (v := 1) hx hb dX11_drift_158 (by decide) ?_
                refine k_Vi (n := 3) X hw (rcvk (ci := 11) X hw hM.1 (fun _ _ _ _ _ _ _ => ⟨_, rfl⟩) rfl) (c_X11_streamOf l G _ ma v114_54 k 1 hM (show 0 ≤ (I73 120 (ma 0) : Int32).toInt ∧ (I73 120 (ma 0) : Int32).toInt ≤ 1 by omega) (by omega) (by omega)) wd_r25_13 wd_r25_14 wd_r25_15 wd_r1_5 wd_r25_16 ⟨by decide, by decide, by decide +kernel⟩ rfl rfl ⟨Nat.le_of_ble_eq_true rfl, Nat.le_of_ble_eq_true rfl⟩ rfl rfl hl.1 (Nat.le_of_ble_eq_true rfl) dX11_drift_159 ⟨Nat.le_of_ble_eq_true rfl, Nat.le_of_ble_eq_true rfl⟩ (fun r159_65 S159_67 H locs h159_66 hw => ?_)
                have := t_1
                obtain ⟨rfl, h159_66⟩ := h159_66
                refine lv_aload_n hx hb dX11_drift_162 rfl (lv_at hl 3 rfl) ?_
                refine lv_iload hx hb dX11_drift_163 (lv_at hl 1 rfl) ?_
                refine lv_iconst (v := 1) hx hb dX11_drift_165 (by decide) ?_
                refine k_Vi (n := 2) X hw (rcvk (ci := 11) X hw hM.1 (fun _ _ _ _ _ _ _ => ⟨_, rfl⟩) rfl) (c_X11_windOf l G _ ma k 1 hM (show 0 ≤ (I73 120 (ma 0) : Int32).toInt ∧ (I73 120 (ma 0) : Int32).toInt ≤ 1 by omega) (by omega)) wd_r24_23 wd_r25_0 wd_r25_1 wd_r1_5 wd_r25_2 ⟨by decide, by decide, by decide +kernel⟩ rfl rfl ⟨Nat.le_of_ble_eq_true rfl, Nat.le_of_ble_eq_true rfl⟩ rfl rfl hl.1 (Nat.le_of_ble_eq_true rfl) dX11_drift_166 ⟨Nat.le_of_ble_eq_true rfl, Nat.le_of_ble_eq_true rfl⟩ (fun r166_68 S166_70 H locs h166_69 hw => ?_)
                have := t_1
                obtain ⟨rfl, h166_69⟩ := h166_69
                refine lv_iload_n hx hb dX11_drift_169 rfl (lv_at hl 2 rfl) ?_
                refine lv_imul hx hb dX11_drift_170 ?_
                refine lv_topi (fun v170_71 e170_71 => ?_)
                refine lv_bipush (v := 100) hx hb dX11_drift_171 (by decide) ?_
                refine lv_idiv hx hb dX11_drift_173 (by decide) ?_
                refine lv_topi (fun v173_72 e173_72 => ?_)
                refine lv_iadd hx hb dX11_drift_174 ?_
                refine lv_topi (fun v174_73 e174_73 => ?_)
                refine lv_iadd hx hb dX11_drift_175 ?_
                refine lv_topi (fun v175_74 e175_74 => ?_)
                refine pf_X11_231 X hw hM.1 dX11_drift_176 (fun H locs hw => ?_)
                have hw : PX G A s.heap (ch S (up2 (up2 I73 129 (ma 0) v144_64) 130 (ma 0) v175_74) (pJ S) (qI S) (qJ S)) H locs := hw
                refine lv_aload_n hx hb dX11_drift_179 rfl (lv_at hl 3 rfl) ?_
                refine lv_aload_n hx hb dX11_drift_180 rfl (lv_at hl 3 rfl) ?_
                refine gf_X11_234 (v := v144_64) X hw hM.1 (show up2 I73 129 (ma 0) v144_64 129 (ma 0) = v144_64 from up2_s) dX11_drift_181 ?_
                refine k_Si (n := 1) X hw (c_X11_isPoint l G _ v144_64) wd_r29_19 wd_r29_20 wd_r1_5 wd_r29_21 ⟨by decide, by decide, by decide +kernel⟩ rfl rfl ⟨Nat.le_of_ble_eq_true rfl, Nat.le_of_ble_eq_true rfl⟩ rfl rfl hl.1 (Nat.le_of_ble_eq_true rfl) dX11_drift_184 ⟨Nat.le_of_ble_eq_true rfl, Nat.le_of_ble_eq_true rfl⟩ (fun r184_75 S184_77 H locs h184_76 hw => ?_)
                rcases h184_76 with ⟨rfl, rfl, h184_76⟩ | ⟨rfl, rfl, h184_76⟩
                · have h184_76 := h184_76
                  refine lv_if_eq (tgt := 200) hx hb dX11_drift_187 (by decide) (fun c187_78 => absurd c187_78 (by decide)) (fun c187_78 => ?_)
                  refine lv_aload_n hx hb dX11_drift_190 rfl (lv_at hl 3 rfl) ?_
                  refine gf_X11_231 (v := v175_74) X hw hM.1 (show up2 (up2 I73 129 (ma 0) v144_64) 130 (ma 0) v175_74 130 (ma 0) = v175_74 from up2_s) dX11_drift_191 ?_
                  refine k_Si (n := 1) X hw (c_X11_isPoint l G _ v175_74) wd_r29_19 wd_r29_20 wd_r1_5 wd_r29_21 ⟨by decide, by decide, by decide +kernel⟩ rfl rfl ⟨Nat.le_of_ble_eq_true rfl, Nat.le_of_ble_eq_true rfl⟩ rfl rfl hl.1 (Nat.le_of_ble_eq_true rfl) dX11_drift_194 ⟨Nat.le_of_ble_eq_true rfl, Nat.le_of_ble_eq_true rfl⟩ (fun r194_79 S194_81 H locs h194_80 hw => ?_)
                  rcases h194_80 with ⟨rfl, rfl, h194_80⟩ | ⟨rfl, rfl, h194_80⟩
                  · have h194_80 := h194_80
                    refine lv_if_ne (tgt := 204) hx hb dX11_drift_197 (by decide) (fun c197_82 => ?_) (fun c197_82 => absurd c197_82 (by decide))
                    refine lv_aload_n hx hb dX11_drift_204 rfl (lv_at hl 3 rfl) ?_
                    refine k_Vi (n := 0) X hw (rcvk (ci := 11) X hw hM.1 (fun _ _ _ _ _ _ _ => ⟨_, rfl⟩) rfl) (c_X11_isOnLand l G _ ma hM (show 0 ≤ (I73 120 (ma 0) : Int32).toInt ∧ (I73 120 (ma 0) : Int32).toInt ≤ 1 by omega) (px_of (a := (v144_64 : Int32)) (b := (v175_74 : Int32)) (show up2 I73 129 (ma 0) v144_64 129 (ma 0) = v144_64 from up2_s) (show up2 (up2 I73 129 (ma 0) v144_64) 130 (ma 0) v175_74 130 (ma 0) = v175_74 from up2_s) (by omega))) wd_r31_7 wd_r31_8 wd_r31_9 wd_r1_5 wd_r31_10 ⟨by decide, by decide, by decide +kernel⟩ rfl rfl ⟨Nat.le_of_ble_eq_true rfl, Nat.le_of_ble_eq_true rfl⟩ rfl rfl hl.1 (Nat.le_of_ble_eq_true rfl) dX11_drift_205 ⟨Nat.le_of_ble_eq_true rfl, Nat.le_of_ble_eq_true rfl⟩ (fun r205_83 S205_85 H locs h205_84 hw => ?_)
                    rcases h205_84 with ⟨rfl, rfl, h205_84⟩ | ⟨rfl, rfl, h205_84⟩
                    · have h205_84 := h205_84
                      refine lv_if_eq (tgt := 215) hx hb dX11_drift_208 (by decide) (fun c208_86 => absurd c208_86 (by decide)) (fun c208_86 => ?_)
                      refine lv_iconst (v := 1) hx hb dX11_drift_211 (by decide) ?_
                      refine lv_goto (tgt := 216) hx hb dX11_drift_212 (by decide) ?_
                      refine pf_X11_240 X hw hM.1 dX11_drift_216 (fun H locs hw => ?_)
                      have hw : PX G A s.heap (ch S (up2 (up2 (up2 I73 129 (ma 0) v144_64) 130 (ma 0) v175_74) 131 (ma 0) 1) (pJ S) (qI S) (qJ S)) H locs := hw
                      obtain ⟨v219_87, e219_87⟩ : ∃ y : Int32, y = k + 1 := ⟨_, rfl⟩
                      have t219_87 := iAdd e219_87 rfl t_1 (by omega) (by omega)
                      have t219 := t219_87
                      refine lv_iinc (v := v219_87) (lv' := [(4, .int v219_87), (5, .int v114_54), (3, .int v63_8), (0, .ref (ma 0)), (1, .int t), (2, .int n)]) hx hb dX11_drift_219 hl (k := 1) rfl (by rw [e219_87]; rfl) (by decide) rfl (fun ls hl => ?_)
                      refine lv_goto (tgt := 73) hx hb dX11_drift_222 (by decide) ?_
                      exact ih73 (up2 (up2 (up2 I73 129 (ma 0) v144_64) 130 (ma 0) v175_74) 131 (ma 0) 1) v219_87 (FrD.up (f := 131) (by decide) (FrD.up (f := 130) (by decide) (FrD.up (f := 129) (by decide) hF))) (by rw [show (up2 (up2 (up2 I73 129 (ma 0) v144_64) 130 (ma 0) v175_74) 131 (ma 0) 1) 129 (ma 0) = (v144_64 : Int32) from (show up2 I73 129 (ma 0) v144_64 129 (ma 0) = v144_64 from up2_s), show (up2 (up2 (up2 I73 129 (ma 0) v144_64) 130 (ma 0) v175_74) 131 (ma 0) 1) 130 (ma 0) = (v175_74 : Int32) from (show up2 (up2 I73 129 (ma 0) v144_64) 130 (ma 0) v175_74 130 (ma 0) = v175_74 from up2_s), show (up2 (up2 (up2 I73 129 (ma 0) v144_64) 130 (ma 0) v175_74) 131 (ma 0) 1) 131 (ma 0) = (1 : Int32) from (show up2 (up2 (up2 I73 129 (ma 0) v144_64) 130 (ma 0) v175_74) 131 (ma 0) 1 131 (ma 0) = 1 from up2_s)]; have := t_0; have := t_1; have := t_2; omega) (by omega) (by omega) _ _ _ hw (lv_sub hl [0, 2, 3, 4, 5] rfl)
                    · have h205_84 := h205_84
                      refine lv_if_eq (tgt := 215) hx hb dX11_drift_208 (by decide) (fun c208_88 => ?_) (fun c208_88 => absurd c208_88 (by decide))
                      refine lv_iconst (v := 0) hx hb dX11_drift_215 (by decide) ?_
                      refine pf_X11_240 X hw hM.1 dX11_drift_216 (fun H locs hw => ?_)
                      have hw : PX G A s.heap (ch S (up2 (up2 (up2 I73 129 (ma 0) v144_64) 130 (ma 0) v175_74) 131 (ma 0) 0) (pJ S) (qI S) (qJ S)) H locs := hw
                      obtain ⟨v219_89, e219_89⟩ : ∃ y : Int32, y = k + 1 := ⟨_, rfl⟩
                      have t219_89 := iAdd e219_89 rfl t_1 (by omega) (by omega)
                      have t219 := t219_89
                      refine lv_iinc (v := v219_89) (lv' := [(4, .int v219_89), (5, .int v114_54), (3, .int v63_8), (0, .ref (ma 0)), (1, .int t), (2, .int n)]) hx hb dX11_drift_219 hl (k := 1) rfl (by rw [e219_89]; rfl) (by decide) rfl (fun ls hl => ?_)
                      refine lv_goto (tgt := 73) hx hb dX11_drift_222 (by decide) ?_
                      exact ih73 (up2 (up2 (up2 I73 129 (ma 0) v144_64) 130 (ma 0) v175_74) 131 (ma 0) 0) v219_89 (FrD.up (f := 131) (by decide) (FrD.up (f := 130) (by decide) (FrD.up (f := 129) (by decide) hF))) (by rw [show (up2 (up2 (up2 I73 129 (ma 0) v144_64) 130 (ma 0) v175_74) 131 (ma 0) 0) 129 (ma 0) = (v144_64 : Int32) from (show up2 I73 129 (ma 0) v144_64 129 (ma 0) = v144_64 from up2_s), show (up2 (up2 (up2 I73 129 (ma 0) v144_64) 130 (ma 0) v175_74) 131 (ma 0) 0) 130 (ma 0) = (v175_74 : Int32) from (show up2 (up2 I73 129 (ma 0) v144_64) 130 (ma 0) v175_74 130 (ma 0) = v175_74 from up2_s), show (up2 (up2 (up2 I73 129 (ma 0) v144_64) 130 (ma 0) v175_74) 131 (ma 0) 0) 131 (ma 0) = (0 : Int32) from (show up2 (up2 (up2 I73 129 (ma 0) v144_64) 130 (ma 0) v175_74) 131 (ma 0) 0 131 (ma 0) = 0 from up2_s)]; have := t_0; have := t_1; have := t_2; omega) (by omega) (by omega) _ _ _ hw (lv_sub hl [0, 2, 3, 4, 5] rfl)
                  · have h194_80 := h194_80
                    refine lv_if_ne (tgt := 204) hx hb dX11_drift_197 (by decide) (fun c197_90 => absurd c197_90 (by decide)) (fun c197_90 => ?_)
                    refine lv_iconst (v := 2) hx hb dX11_drift_200 (by decide) ?_
                    refine lv_goto (tgt := 216) hx hb dX11_drift_201 (by decide) ?_
                    refine pf_X11_240 X hw hM.1 dX11_drift_216 (fun H locs hw => ?_)
                    have hw : PX G A s.heap (ch S (up2 (up2 (up2 I73 129 (ma 0) v144_64) 130 (ma 0) v175_74) 131 (ma 0) 2) (pJ S) (qI S) (qJ S)) H locs := hw
                    obtain ⟨v219_91, e219_91⟩ : ∃ y : Int32, y = k + 1 := ⟨_, rfl⟩
                    have t219_91 := iAdd e219_91 rfl t_1 (by omega) (by omega)
                    have t219 := t219_91
                    refine lv_iinc (v := v219_91) (lv' := [(4, .int v219_91), (5, .int v114_54), (3, .int v63_8), (0, .ref (ma 0)), (1, .int t), (2, .int n)]) hx hb dX11_drift_219 hl (k := 1) rfl (by rw [e219_91]; rfl) (by decide) rfl (fun ls hl => ?_)
                    refine lv_goto (tgt := 73) hx hb dX11_drift_222 (by decide) ?_
                    exact ih73 (up2 (up2 (up2 I73 129 (ma 0) v144_64) 130 (ma 0) v175_74) 131 (ma 0) 2) v219_91 (FrD.up (f := 131) (by decide) (FrD.up (f := 130) (by decide) (FrD.up (f := 129) (by decide) hF))) (by rw [show (up2 (up2 (up2 I73 129 (ma 0) v144_64) 130 (ma 0) v175_74) 131 (ma 0) 2) 129 (ma 0) = (v144_64 : Int32) from (show up2 I73 129 (ma 0) v144_64 129 (ma 0) = v144_64 from up2_s), show (up2 (up2 (up2 I73 129 (ma 0) v144_64) 130 (ma 0) v175_74) 131 (ma 0) 2) 130 (ma 0) = (v175_74 : Int32) from (show up2 (up2 I73 129 (ma 0) v144_64) 130 (ma 0) v175_74 130 (ma 0) = v175_74 from up2_s), show (up2 (up2 (up2 I73 129 (ma 0) v144_64) 130 (ma 0) v175_74) 131 (ma 0) 2) 131 (ma 0) = (2 : Int32) from (show up2 (up2 (up2 I73 129 (ma 0) v144_64) 130 (ma 0) v175_74) 131 (ma 0) 2 131 (ma 0) = 2 from up2_s)]; have := t_0; have := t_1; have := t_2; omega) (by omega) (by omega) _ _ _ hw (lv_sub hl [0, 2, 3, 4, 5] rfl)
                · have h184_76 := h184_76
                  refine lv_if_eq (tgt := 200) hx hb dX11_drift_187 (by decide) (fun c187_92 => ?_) (fun c187_92 => absurd c187_92 (by decide))
                  refine lv_iconst (v := 2) hx hb dX11_drift_200 (by decide) ?_
                  refine lv_goto (tgt := 216) hx hb dX11_drift_201 (by decide) ?_
                  refine pf_X11_240 X hw hM.1 dX11_drift_216 (fun H locs hw => ?_)
                  have hw : PX G A s.heap (ch S (up2 (up2 (up2 I73 129 (ma 0) v144_64) 130 (ma 0) v175_74) 131 (ma 0) 2) (pJ S) (qI S) (qJ S)) H locs := hw
                  obtain ⟨v219_93, e219_93⟩ : ∃ y : Int32, y = k + 1 := ⟨_, rfl⟩
                  have t219_93 := iAdd e219_93 rfl t_1 (by omega) (by omega)
                  have t219 := t219_93
                  refine lv_iinc (v := v219_93) (lv' := [(4, .int v219_93), (5, .int v114_54), (3, .int v63_8), (0, .ref (ma 0)), (1, .int t), (2, .int n)]) hx hb dX11_drift_219 hl (k := 1) rfl (by rw [e219_93]; rfl) (by decide) rfl (fun ls hl => ?_)
                  refine lv_goto (tgt := 73) hx hb dX11_drift_222 (by decide) ?_
                  exact ih73 (up2 (up2 (up2 I73 129 (ma 0) v144_64) 130 (ma 0) v175_74) 131 (ma 0) 2) v219_93 (FrD.up (f := 131) (by decide) (FrD.up (f := 130) (by decide) (FrD.up (f := 129) (by decide) hF))) (by rw [show (up2 (up2 (up2 I73 129 (ma 0) v144_64) 130 (ma 0) v175_74) 131 (ma 0) 2) 129 (ma 0) = (v144_64 : Int32) from (show up2 I73 129 (ma 0) v144_64 129 (ma 0) = v144_64 from up2_s), show (up2 (up2 (up2 I73 129 (ma 0) v144_64) 130 (ma 0) v175_74) 131 (ma 0) 2) 130 (ma 0) = (v175_74 : Int32) from (show up2 (up2 I73 129 (ma 0) v144_64) 130 (ma 0) v175_74 130 (ma 0) = v175_74 from up2_s), show (up2 (up2 (up2 I73 129 (ma 0) v144_64) 130 (ma 0) v175_74) 131 (ma 0) 2) 131 (ma 0) = (2 : Int32) from (show up2 (up2 (up2 I73 129 (ma 0) v144_64) 130 (ma 0) v175_74) 131 (ma 0) 2 131 (ma 0) = 2 from up2_s)]; have := t_0; have := t_1; have := t_2; omega) (by omega) (by omega) _ _ _ hw (lv_sub hl [0, 2, 3, 4, 5] rfl)
            · have D92_12 := iNle c92_12 t_40 rfl
              refine lv_iconst (v := 0) hx hb dX11_drift_95 (by decide) ?_
              refine lv_goto (tgt := 100) hx hb dX11_drift_96 (by decide) ?_
              refine lv_aload_n hx hb dX11_drift_100 rfl (lv_at hl 2 rfl) ?_
              refine gf_X11_231 (v := I73 130 (ma 0)) X hw hM.1 rfl dX11_drift_101 ?_
              refine lv_bipush (v := 40) hx hb dX11_drift_104 (by decide) ?_
              refine lv_icmp_ge (tgt := 113) hx hb dX11_drift_106 (by decide) (fun c106_94 => ?_) (fun c106_94 => ?_)
              · have D106_94 := iLe c106_94 t_40 rfl
                refine lv_iconst (v := 2) hx hb dX11_drift_113 (by decide) ?_
                refine lv_iadd hx hb dX11_drift_114 ?_
                refine lv_topi (fun v114_95 e114_95 => ?_)
                have t114_95 := iAdd e114_95 t_0 t_2 (by omega) (by omega)
                have t114 := t114_95
                refine lv_istore (lv' := [(5, .int v114_95), (4, .int k), (3, .int v63_8), (0, .ref (ma 0)), (1, .int t), (2, .int n)]) hx hb dX11_drift_115 hl (by decide) rfl (fun ls hl => ?_)
                refine lv_aload_n hx hb dX11_drift_117 rfl (lv_at hl 3 rfl) ?_
                refine lv_dup hx hb dX11_drift_118 rfl ?_
                refine gf_X11_234 (v := I73 129 (ma 0)) X hw hM.1 rfl dX11_drift_119 ?_
                refine lv_aload_n hx hb dX11_drift_122 rfl (lv_at hl 3 rfl) ?_
                refine lv_iload hx hb dX11_drift_123 (lv_at hl 0 rfl) ?_
                refine lv_iload hx hb dX11_drift_125 (lv_at hl 1 rfl) ?_
                refine lv_iconst (v := 0) hx hb dX11_drift_127 (by decide) ?_
                refine k_Vi (n := 3) X hw (rcvk (ci := 11) X hw hM.1 (fun _ _ _ _ _ _ _ => ⟨_, rfl⟩) rfl) (c_X11_streamOf l G _ ma v114_95 k 0 hM (show 0 ≤ (I73 120 (ma 0) : Int32).toInt ∧ (I73 120 (ma 0) : Int32).toInt ≤ 1 by omega) (by omega) (by omega)) wd_r25_13 wd_r25_14 wd_r25_15 wd_r1_5 wd_r25_16 ⟨by decide, by decide, by decide +kernel⟩ rfl rfl ⟨Nat.le_of_ble_eq_true rfl, Nat.le_of_ble_eq_true rfl⟩ rfl rfl hl.1 (Nat.le_of_ble_eq_true rfl) dX11_drift_128 ⟨Nat.le_of_ble_eq_true rfl, Nat.le_of_ble_eq_true rfl⟩ (fun r128_96 S128_98 H locs h128_97 hw => ?_)
                have := t_0
                obtain ⟨rfl, h128_97⟩ := h128_97
                refine lv_aload_n hx hb dX11_drift_131 rfl (lv_at hl 3 rfl) ?_
                refine lv_iload hx hb dX11_drift_132 (lv_at hl 1 rfl) ?_
                refine lv_iconst (v := 0) hx hb dX11_drift_134 (by decide) ?_
                refine k_Vi (n := 2) X hw (rcvk (ci := 11) X hw hM.1 (fun _ _ _ _ _ _ _ => ⟨_, rfl⟩) rfl) (c_X11_windOf l G _ ma k 0 hM (show 0 ≤ (I73 120 (ma 0) : Int32).toInt ∧ (I73 120 (ma 0) : Int32).toInt ≤ 1 by omega) (by omega)) wd_r24_23 wd_r25_0 wd_r25_1 wd_r1_5 wd_r25_2 ⟨by decide, by decide, by decide +kernel⟩ rfl rfl ⟨Nat.le_of_ble_eq_true rfl, Nat.le_of_ble_eq_true rfl⟩ rfl rfl hl.1 (Nat.le_of_ble_eq_true rfl) dX11_drift_135 ⟨Nat.le_of_ble_eq_true rfl, Nat.le_of_ble_eq_true rfl⟩ (fun r135_99 S135_101 H locs h135_100 hw => ?_)
                have := t_0
                obtain ⟨rfl, h135_100⟩ := h135_100
                refine lv_iload_n hx hb dX11_drift_138 rfl (lv_at hl 2 rfl) ?_
                refine lv_imul hx hb dX11_drift_139 ?_
                refine lv_topi (fun v139_102 e139_102 => ?_)
                refine lv_bipush (v := 100) hx hb dX11_drift_140 (by decide) ?_
                refine lv_idiv hx hb dX11_drift_142 (by decide) ?_
                refine lv_topi (fun v142_103 e142_103 => ?_)
                refine lv_iadd hx hb dX11_drift_143 ?_
                refine lv_topi (fun v143_104 e143_104 => ?_)
                refine lv_iadd hx hb dX11_drift_144 ?_
                refine lv_topi (fun v144_105 e144_105 => ?_)
                refine pf_X11_234 X hw hM.1 dX11_drift_145 (fun H locs hw => ?_)
                have hw : PX G A s.heap (ch S (up2 I73 129 (ma 0) v144_105) (pJ S) (qI S) (qJ S)) H locs := hw
                refine lv_aload_n hx hb dX11_drift_148 rfl (lv_at hl 3 rfl) ?_
                refine lv_dup hx hb dX11_drift_149 rfl ?_
                refine gf_X11_231 (v := I73 130 (ma 0)) X hw hM.1 rfl dX11_drift_150 ?_
                refine lv_aload_n hx hb dX11_drift_153 rfl (lv_at hl 3 rfl) ?_
                refine lv_iload hx hb dX11_drift_154 (lv_at hl 0 rfl) ?_
                refine lv_iload hx hb dX11_drift_156 (lv_at hl 1 rfl) ?_
                refine lv_iconst (v := 1) hx hb dX11_drift_158 (by decide) ?_
                refine k_Vi (n := 3) X hw (rcvk (ci := 11) X hw hM.1 (fun _ _ _ _ _ _ _ => ⟨_, rfl⟩) rfl) (c_X11_streamOf l G _ ma v114_95 k 1 hM (show 0 ≤ (I73 120 (ma 0) : Int32).toInt ∧ (I73 120 (ma 0) : Int32).toInt ≤ 1 by omega) (by omega) (by omega)) wd_r25_13 wd_r25_14 wd_r25_15 wd_r1_5 wd_r25_16 ⟨by decide, by decide, by decide +kernel⟩ rfl rfl ⟨Nat.le_of_ble_eq_true rfl, Nat.le_of_ble_eq_true rfl⟩ rfl rfl hl.1 (Nat.le_of_ble_eq_true rfl) dX11_drift_159 ⟨Nat.le_of_ble_eq_true rfl, Nat.le_of_ble_eq_true rfl⟩ (fun r159_106 S159_108 H locs h159_107 hw => ?_)
                have := t_1
                obtain ⟨rfl, h159_107⟩ := h159_107
                refine lv_aload_n hx hb dX11_drift_162 rfl (lv_at hl 3 rfl) ?_
                refine lv_iload hx hb dX11_drift_163 (lv_at hl 1 rfl) ?_
                refine lv_iconst (v := 1) hx hb dX11_drift_165 (by decide) ?_
                refine k_Vi (n := 2) X hw (rcvk (ci := 11) X hw hM.1 (fun _ _ _ _ _ _ _ => ⟨_, rfl⟩) rfl) (c_X11_windOf l G _ ma k 1 hM (show 0 ≤ (I73 120 (ma 0) : Int32).toInt ∧ (I73 120 (ma 0) : Int32).toInt ≤ 1 by omega) (by omega)) wd_r24_23 wd_r25_0 wd_r25_1 wd_r1_5 wd_r25_2 ⟨by decide, by decide, by decide +kernel⟩ rfl rfl ⟨Nat.le_of_ble_eq_true rfl, Nat.le_of_ble_eq_true rfl⟩ rfl rfl hl.1 (Nat.le_of_ble_eq_true rfl) dX11_drift_166 ⟨Nat.le_of_ble_eq_true rfl, Nat.le_of_ble_eq_true rfl⟩ (fun r166_109 S166_111 H locs h166_110 hw => ?_)
                have := t_1
                obtain ⟨rfl, h166_110⟩ := h166_110
                refine lv_iload_n hx hb dX11_drift_169 rfl (lv_at hl 2 rfl) ?_
                refine lv_imul hx hb dX11_drift_170 ?_
                refine lv_topi (fun v170_112 e170_112 => ?_)
                refine lv_bipush (v := 100) hx hb dX11_drift_171 (by decide) ?_
                refine lv_idiv hx hb dX11_drift_173 (by decide) ?_
                refine lv_topi (fun v173_113 e173_113 => ?_)
                refine lv_iadd hx hb dX11_drift_174 ?_
                refine lv_topi (fun v174_114 e174_114 => ?_)
                refine lv_iadd hx hb dX11_drift_175 ?_
                refine lv_topi (fun v175_115 e175_115 => ?_)
                refine pf_X11_231 X hw hM.1 dX11_drift_176 (fun H locs hw => ?_)
                have hw : PX G A s.heap (ch S (up2 (up2 I73 129 (ma 0) v144_105) 130 (ma 0) v175_115) (pJ S) (qI S) (qJ S)) H locs := hw
                refine lv_aload_n hx hb dX11_drift_179 rfl (lv_at hl 3 rfl) ?_
                refine lv_aload_n hx hb dX11_drift_180 rfl (lv_at hl 3 rfl) ?_
                refine gf_X11_234 (v := v144_105) X hw hM.1 (show up2 I73 129 (ma 0) v144_105 129 (ma 0) = v144_105 from up2_s) dX11_drift_181 ?_
                refine k_Si (n := 1) X hw (c_X11_isPoint l G _ v144_105) wd_r29_19 wd_r29_20 wd_r1_5 wd_r29_21 ⟨by decide, by decide, by decide +kernel⟩ rfl rfl ⟨Nat.le_of_ble_eq_true rfl, Nat.le_of_ble_eq_true rfl⟩ rfl rfl hl.1 (Nat.le_of_ble_eq_true rfl) dX11_drift_184 ⟨Nat.le_of_ble_eq_true rfl, Nat.le_of_ble_eq_true rfl⟩ (fun r184_116 S184_118 H locs h184_117 hw => ?_)
                rcases h184_117 with ⟨rfl, rfl, h184_117⟩ | ⟨rfl, rfl, h184_117⟩
                · have h184_117 := h184_117
                  refine lv_if_eq (tgt := 200) hx hb dX11_drift_187 (by decide) (fun c187_119 => absurd c187_119 (by decide)) (fun c187_119 => ?_)
                  refine lv_aload_n hx hb dX11_drift_190 rfl (lv_at hl 3 rfl) ?_
                  refine gf_X11_231 (v := v175_115) X hw hM.1 (show up2 (up2 I73 129 (ma 0) v144_105) 130 (ma 0) v175_115 130 (ma 0) = v175_115 from up2_s) dX11_drift_191 ?_
                  refine k_Si (n := 1) X hw (c_X11_isPoint l G _ v175_115) wd_r29_19 wd_r29_20 wd_r1_5 wd_r29_21 ⟨by decide, by decide, by decide +kernel⟩ rfl rfl ⟨Nat.le_of_ble_eq_true rfl, Nat.le_of_ble_eq_true rfl⟩ rfl rfl hl.1 (Nat.le_of_ble_eq_true rfl) dX11_drift_194 ⟨Nat.le_of_ble_eq_true rfl, Nat.le_of_ble_eq_true rfl⟩ (fun r194_120 S194_122 H locs h194_121 hw => ?_)
                  rcases h194_121 with ⟨rfl, rfl, h194_121⟩ | ⟨rfl, rfl, h194_121⟩
                  · have h194_121 := h194_121
                    refine lv_if_ne (tgt := 204) hx hb dX11_drift_197 (by decide) (fun c197_123 => ?_) (fun c197_123 => absurd c197_123 (by decide))
                    refine lv_aload_n hx hb dX11_drift_204 rfl (lv_at hl 3 rfl) ?_
                    refine k_Vi (n := 0) X hw (rcvk (ci := 11) X hw hM.1 (fun _ _ _ _ _ _ _ => ⟨_, rfl⟩) rfl) (c_X11_isOnLand l G _ ma hM (show 0 ≤ (I73 120 (ma 0) : Int32).toInt ∧ (I73 120 (ma 0) : Int32).toInt ≤ 1 by omega) (px_of (a := (v144_105 : Int32)) (b := (v175_115 : Int32)) (show up2 I73 129 (ma 0) v144_105 129 (ma 0) = v144_105 from up2_s) (show up2 (up2 I73 129 (ma 0) v144_105) 130 (ma 0) v175_115 130 (ma 0) = v175_115 from up2_s) (by omega))) wd_r31_7 wd_r31_8 wd_r31_9 wd_r1_5 wd_r31_10 ⟨by decide, by decide, by decide +kernel⟩ rfl rfl ⟨Nat.le_of_ble_eq_true rfl, Nat.le_of_ble_eq_true rfl⟩ rfl rfl hl.1 (Nat.le_of_ble_eq_true rfl) dX11_drift_205 ⟨Nat.le_of_ble_eq_true rfl, Nat.le_of_ble_eq_true rfl⟩ (fun r205_124 S205_126 H locs h205_125 hw => ?_)
                    rcases h205_125 with ⟨rfl, rfl, h205_125⟩ | ⟨rfl, rfl, h205_125⟩
                    · have h205_125 := h205_125
                      refine lv_if_eq (tgt := 215) hx hb dX11_drift_208 (by decide) (fun c208_127 => absurd c208_127 (by decide)) (fun c208_127 => ?_)
                      refine lv_iconst (v := 1) hx hb dX11_drift_211 (by decide) ?_
                      refine lv_goto (tgt := 216) hx hb dX11_drift_212 (by decide) ?_
                      refine pf_X11_240 X hw hM.1 dX11_drift_216 (fun H locs hw => ?_)
                      have hw : PX G A s.heap (ch S (up2 (up2 (up2 I73 129 (ma 0) v144_105) 130 (ma 0) v175_115) 131 (ma 0) 1) (pJ S) (qI S) (qJ S)) H locs := hw
                      obtain ⟨v219_128, e219_128⟩ : ∃ y : Int32, y = k + 1 := ⟨_, rfl⟩
                      have t219_128 := iAdd e219_128 rfl t_1 (by omega) (by omega)
                      have t219 := t219_128
                      refine lv_iinc (v := v219_128) (lv' := [(4, .int v219_128), (5, .int v114_95), (3, .int v63_8), (0, .ref (ma 0)), (1, .int t), (2, .int n)]) hx hb dX11_drift_219 hl (k := 1) rfl (by rw [e219_128]; rfl) (by decide) rfl (fun ls hl => ?_)
                      refine lv_goto (tgt := 73) hx hb dX11_drift_222 (by decide) ?_
                      exact ih73 (up2 (up2 (up2 I73 129 (ma 0) v144_105) 130 (ma 0) v175_115) 131 (ma 0) 1) v219_128 (FrD.up (f := 131) (by decide) (FrD.up (f := 130) (by decide) (FrD.up (f := 129) (by decide) hF))) (by rw [show (up2 (up2 (up2 I73 129 (ma 0) v144_105) 130 (ma 0) v175_115) 131 (ma 0) 1) 129 (ma 0) = (v144_105 : Int32) from (show up2 I73 129 (ma 0) v144_105 129 (ma 0) = v144_105 from up2_s), show (up2 (up2 (up2 I73 129 (ma 0) v144_105) 130 (ma 0) v175_115) 131 (ma 0) 1) 130 (ma 0) = (v175_115 : Int32) from (show up2 (up2 I73 129 (ma 0) v144_105) 130 (ma 0) v175_115 130 (ma 0) = v175_115 from up2_s), show (up2 (up2 (up2 I73 129 (ma 0) v144_105) 130 (ma 0) v175_115) 131 (ma 0) 1) 131 (ma 0) = (1 : Int32) from (show up2 (up2 (up2 I73 129 (ma 0) v144_105) 130 (ma 0) v175_115) 131 (ma 0) 1 131 (ma 0) = 1 from up2_s)]; have := t_0; have := t_1; have := t_2; omega) (by omega) (by omega) _ _ _ hw (lv_sub hl [0, 2, 3, 4, 5] rfl)
                    · have h205_125 := h205_125
                      refine lv_if_eq (tgt := 215) hx hb dX11_drift_208 (by decide) (fun c208_129 => ?_) (fun c208_129 => absurd c208_129 (by decide))
                      refine lv_iconst (v := 0) hx hb dX11_drift_215 (by decide) ?_
                      refine pf_X11_240 X hw hM.1 dX11_drift_216 (fun H locs hw => ?_)
                      have hw : PX G A s.heap (ch S (up2 (up2 (up2 I73 129 (ma 0) v144_105) 130 (ma 0) v175_115) 131 (ma 0) 0) (pJ S) (qI S) (qJ S)) H locs := hw
                      obtain ⟨v219_130, e219_130⟩ : ∃ y : Int32, y = k + 1 := ⟨_, rfl⟩
                      have t219_130 := iAdd e219_130 rfl t_1 (by omega) (by omega)
                      have t219 := t219_130
                      refine lv_iinc (v := v219_130) (lv' := [(4, .int v219_130), (5, .int v114_95), (3, .int v63_8), (0, .ref (ma 0)), (1, .int t), (2, .int n)]) hx hb dX11_drift_219 hl (k := 1) rfl (by rw [e219_130]; rfl) (by decide) rfl (fun ls hl => ?_)
                      refine lv_goto (tgt := 73) hx hb dX11_drift_222 (by decide) ?_
                      exact ih73 (up2 (up2 (up2 I73 129 (ma 0) v144_105) 130 (ma 0) v175_115) 131 (ma 0) 0) v219_130 (FrD.up (f := 131) (by decide) (FrD.up (f := 130) (by decide) (FrD.up (f := 129) (by decide) hF))) (by rw [show (up2 (up2 (up2 I73 129 (ma 0) v144_105) 130 (ma 0) v175_115) 131 (ma 0) 0) 129 (ma 0) = (v144_105 : Int32) from (show up2 I73 129 (ma 0) v144_105 129 (ma 0) = v144_105 from up2_s), show (up2 (up2 (up2 I73 129 (ma 0) v144_105) 130 (ma 0) v175_115) 131 (ma 0) 0) 130 (ma 0) = (v175_115 : Int32) from (show up2 (up2 I73 129 (ma 0) v144_105) 130 (ma 0) v175_115 130 (ma 0) = v175_115 from up2_s), show (up2 (up2 (up2 I73 129 (ma 0) v144_105) 130 (ma 0) v175_115) 131 (ma 0) 0) 131 (ma 0) = (0 : Int32) from (show up2 (up2 (up2 I73 129 (ma 0) v144_105) 130 (ma 0) v175_115) 131 (ma 0) 0 131 (ma 0) = 0 from up2_s)]; have := t_0; have := t_1; have := t_2; omega) (by omega) (by omega) _ _ _ hw (lv_sub hl [0, 2, 3, 4, 5] rfl)
                  · have h194_121 := h194_121
                    refine lv_if_ne (tgt := 204) hx hb dX11_drift_197 (by decide) (fun c197_131 => absurd c197_131 (by decide)) (fun c197_131 => ?_)
                    refine lv_iconst (v := 2) hx hb dX11_drift_200 (by decide) ?_
                    refine lv_goto (tgt := 216) hx hb dX11_drift_201 (by decide) ?_
                    refine pf_X11_240 X hw hM.1 dX11_drift_216 (fun H locs hw => ?_)
                    have hw : PX G A s.heap (ch S (up2 (up2 (up2 I73 129 (ma 0) v144_105) 130 (ma 0) v175_115) 131 (ma 0) 2) (pJ S) (qI S) (qJ S)) H locs := hw
                    obtain ⟨v219_132, e219_132⟩ : ∃ y : Int32, y = k + 1 := ⟨_, rfl⟩
                    have t219_132 := iAdd e219_132 rfl t_1 (by omega) (by omega)
                    have t219 := t219_132
                    refine lv_iinc (v := v219_132) (lv' := [(4, .int v219_132), (5, .int v114_95), (3, .int v63_8), (0, .ref (ma 0)), (1, .int t), (2, .int n)]) hx hb dX11_drift_219 hl (k := 1) rfl (by rw [e219_132]; rfl) (by decide) rfl (fun ls hl => ?_)
                    refine lv_goto (tgt := 73) hx hb dX11_drift_222 (by decide) ?_
                    exact ih73 (up2 (up2 (up2 I73 129 (ma 0) v144_105) 130 (ma 0) v175_115) 131 (ma 0) 2) v219_132 (FrD.up (f := 131) (by decide) (FrD.up (f := 130) (by decide) (FrD.up (f := 129) (by decide) hF))) (by rw [show (up2 (up2 (up2 I73 129 (ma 0) v144_105) 130 (ma 0) v175_115) 131 (ma 0) 2) 129 (ma 0) = (v144_105 : Int32) from (show up2 I73 129 (ma 0) v144_105 129 (ma 0) = v144_105 from up2_s), show (up2 (up2 (up2 I73 129 (ma 0) v144_105) 130 (ma 0) v175_115) 131 (ma 0) 2) 130 (ma 0) = (v175_115 : Int32) from (show up2 (up2 I73 129 (ma 0) v144_105) 130 (ma 0) v175_115 130 (ma 0) = v175_115 from up2_s), show (up2 (up2 (up2 I73 129 (ma 0) v144_105) 130 (ma 0) v175_115) 131 (ma 0) 2) 131 (ma 0) = (2 : Int32) from (show up2 (up2 (up2 I73 129 (ma 0) v144_105) 130 (ma 0) v175_115) 131 (ma 0) 2 131 (ma 0) = 2 from up2_s)]; have := t_0; have := t_1; have := t_2; omega) (by omega) (by omega) _ _ _ hw (lv_sub hl [0, 2, 3, 4, 5] rfl)
                · have h184_117 := h184_117
                  refine lv_if_eq (tgt := 200) hx hb dX11_drift_187 (by decide) (fun c187_133 => ?_) (fun c187_133 => absurd c187_133 (by decide))
                  refine lv_iconst (v := 2) hx hb dX11_drift_200 (by decide) ?_
                  refine lv_goto (tgt := 216) hx hb dX11_drift_201 (by decide) ?_
                  refine pf_X11_240 X hw hM.1 dX11_drift_216 (fun H locs hw => ?_)
                  have hw : PX G A s.heap (ch S (up2 (up2 (up2 I73 129 (ma 0) v144_105) 130 (ma 0) v175_115) 131 (ma 0) 2) (pJ S) (qI S) (qJ S)) H locs := hw
                  obtain ⟨v219_134, e219_134⟩ : ∃ y : Int32, y = k + 1 := ⟨_, rfl⟩
                  have t219_134 := iAdd e219_134 rfl t_1 (by omega) (by omega)
                  have t219 := t219_134
                  refine lv_iinc (v := v219_134) (lv' := [(4, .int v219_134), (5, .int v114_95), (3, .int v63_8), (0, .ref (ma 0)), (1, .int t), (2, .int n)]) hx hb dX11_drift_219 hl (k := 1) rfl (by rw [e219_134]; rfl) (by decide) rfl (fun ls hl => ?_)
                  refine lv_goto (tgt := 73) hx hb dX11_drift_222 (by decide) ?_
                  exact ih73 (up2 (up2 (up2 I73 129 (ma 0) v144_105) 130 (ma 0) v175_115) 131 (ma 0) 2) v219_134 (FrD.up (f := 131) (by decide) (FrD.up (f := 130) (by decide) (FrD.up (f := 129) (by decide) hF))) (by rw [show (up2 (up2 (up2 I73 129 (ma 0) v144_105) 130 (ma 0) v175_115) 131 (ma 0) 2) 129 (ma 0) = (v144_105 : Int32) from (show up2 I73 129 (ma 0) v144_105 129 (ma 0) = v144_105 from up2_s), show (up2 (up2 (up2 I73 129 (ma 0) v144_105) 130 (ma 0) v175_115) 131 (ma 0) 2) 130 (ma 0) = (v175_115 : Int32) from (show up2 (up2 I73 129 (ma 0) v144_105) 130 (ma 0) v175_115 130 (ma 0) = v175_115 from up2_s), show (up2 (up2 (up2 I73 129 (ma 0) v144_105) 130 (ma 0) v175_115) 131 (ma 0) 2) 131 (ma 0) = (2 : Int32) from (show up2 (up2 (up2 I73 129 (ma 0) v144_105) 130 (ma 0) v175_115) 131 (ma 0) 2 131 (ma 0) = 2 from up2_s)]; have := t_0; have := t_1; have := t_2; omega) (by omega) (by omega) _ _ _ hw (lv_sub hl [0, 2, 3, 4, 5] rfl)
              · have D106_94 := iNle c106_94 t_40 rfl
                refine lv_iconst (v := 0) hx hb dX11_drift_109 (by decide) ?_
                refine lv_goto (tgt := 114) hx hb dX11_drift_110 (by decide) ?_
                refine lv_iadd hx hb dX11_drift_114 ?_
                refine lv_topi (fun v114_135 e114_135 => ?_)
                have t114_135 := iAdd e114_135 t_0 t_0 (by omega) (by omega)
                have t114 := t114_135
                refine lv_istore (lv' := [(5, .int v114_135), (4, .int k), (3, .int v63_8), (0, .ref (ma 0)), (1, .int t), (2, .int n)]) hx hb dX11_drift_115 hl (by decide) rfl (fun ls hl => ?_)
                refine lv_aload_n hx hb dX11_drift_117 rfl (lv_at hl 3 rfl) ?_
                refine lv_dup hx hb dX11_drift_118 rfl ?_
                refine gf_X11_234 (v := I73 129 (ma 0)) X hw hM.1 rfl dX11_drift_119 ?_
                refine lv_aload_n hx hb dX11_drift_122 rfl (lv_at hl 3 rfl) ?_
                refine lv_iload hx hb dX11_drift_123 (lv_at hl 0 rfl) ?_
                refine lv_iload hx hb dX11_drift_125 (lv_at hl 1 rfl) ?_
                refine lv_iconst (v := 0) hx hb dX11_drift_127 (by decide) ?_
                refine k_Vi (n := 3) X hw (rcvk (ci := 11) X hw hM.1 (fun _ _ _ _ _ _ _ => ⟨_, rfl⟩) rfl) (c_X11_streamOf l G _ ma v114_135 k 0 hM (show 0 ≤ (I73 120 (ma 0) : Int32).toInt ∧ (I73 120 (ma 0) : Int32).toInt ≤ 1 by omega) (by omega) (by omega)) wd_r25_13 wd_r25_14 wd_r25_15 wd_r1_5 wd_r25_16 ⟨by decide, by decide, by decide +kernel⟩ rfl rfl ⟨Nat.le_of_ble_eq_true rfl, Nat.le_of_ble_eq_true rfl⟩ rfl rfl hl.1 (Nat.le_of_ble_eq_true rfl) dX11_drift_128 ⟨Nat.le_of_ble_eq_true rfl, Nat.le_of_ble_eq_true rfl⟩ (fun r128_136 S128_138 H locs h128_137 hw => ?_)
                have := t_0
                obtain ⟨rfl, h128_137⟩ := h128_137
                refine lv_aload_n hx hb dX11_drift_131 rfl (lv_at hl 3 rfl) ?_
                refine lv_iload hx hb dX11_drift_132 (lv_at hl 1 rfl) ?_
                refine lv_iconst (v := 0) hx hb dX11_drift_134 (by decide) ?_
                refine k_Vi (n := 2) X hw (rcvk (ci := 11) X hw hM.1 (fun _ _ _ _ _ _ _ => ⟨_, rfl⟩) rfl) (c_X11_windOf l G _ ma k 0 hM (show 0 ≤ (I73 120 (ma 0) : Int32).toInt ∧ (I73 120 (ma 0) : Int32).toInt ≤ 1 by omega) (by omega)) wd_r24_23 wd_r25_0 wd_r25_1 wd_r1_5 wd_r25_2 ⟨by decide, by decide, by decide +kernel⟩ rfl rfl ⟨Nat.le_of_ble_eq_true rfl, Nat.le_of_ble_eq_true rfl⟩ rfl rfl hl.1 (Nat.le_of_ble_eq_true rfl) dX11_drift_135 ⟨Nat.le_of_ble_eq_true rfl, Nat.le_of_ble_eq_true rfl⟩ (fun r135_139 S135_141 H locs h135_140 hw => ?_)
                have := t_0
                obtain ⟨rfl, h135_140⟩ := h135_140
                refine lv_iload_n hx hb dX11_drift_138 rfl (lv_at hl 2 rfl) ?_
                refine lv_imul hx hb dX11_drift_139 ?_
                refine lv_topi (fun v139_142 e139_142 => ?_)
                refine lv_bipush (v := 100) hx hb dX11_drift_140 (by decide) ?_
                refine lv_idiv hx hb dX11_drift_142 (by decide) ?_
                refine lv_topi (fun v142_143 e142_143 => ?_)
                refine lv_iadd hx hb dX11_drift_143 ?_
                refine lv_topi (fun v143_144 e143_144 => ?_)
                refine lv_iadd hx hb dX11_drift_144 ?_
                refine lv_topi (fun v144_145 e144_145 => ?_)
                refine pf_X11_234 X hw hM.1 dX11_drift_145 (fun H locs hw => ?_)
                have hw : PX G A s.heap (ch S (up2 I73 129 (ma 0) v144_145) (pJ S) (qI S) (qJ S)) H locs := hw
                refine lv_aload_n hx hb dX11_drift_148 rfl (lv_at hl 3 rfl) ?_
                refine lv_dup hx hb dX11_drift_149 rfl ?_
                refine gf_X11_231 (v := I73 130 (ma 0)) X hw hM.1 rfl dX11_drift_150 ?_
                refine lv_aload_n hx hb dX11_drift_153 rfl (lv_at hl 3 rfl) ?_
                refine lv_iload hx hb dX11_drift_154 (lv_at hl 0 rfl) ?_
                refine lv_iload hx hb dX11_drift_156 (lv_at hl 1 rfl) ?_
                refine lv_iconst (v := 1) hx hb dX11_drift_158 (by decide) ?_
                refine k_Vi (n := 3) X hw (rcvk (ci := 11) X hw hM.1 (fun _ _ _ _ _ _ _ => ⟨_, rfl⟩) rfl) (c_X11_streamOf l G _ ma v114_135 k 1 hM (show 0 ≤ (I73 120 (ma 0) : Int32).toInt ∧ (I73 120 (ma 0) : Int32).toInt ≤ 1 by omega) (by omega) (by omega)) wd_r25_13 wd_r25_14 wd_r25_15 wd_r1_5 wd_r25_16 ⟨by decide, by decide, by decide +kernel⟩ rfl rfl ⟨Nat.le_of_ble_eq_true rfl, Nat.le_of_ble_eq_true rfl⟩ rfl rfl hl.1 (Nat.le_of_ble_eq_true rfl) dX11_drift_159 ⟨Nat.le_of_ble_eq_true rfl, Nat.le_of_ble_eq_true rfl⟩ (fun r159_146 S159_148 H locs h159_147 hw => ?_)
                have := t_1
                obtain ⟨rfl, h159_147⟩ := h159_147
                refine lv_aload_n hx hb dX11_drift_162 rfl (lv_at hl 3 rfl) ?_
                refine lv_iload hx hb dX11_drift_163 (lv_at hl 1 rfl) ?_
                refine lv_iconst (v := 1) hx hb dX11_drift_165 (by decide) ?_
                refine k_Vi (n := 2) X hw (rcvk (ci := 11) X hw hM.1 (fun _ _ _ _ _ _ _ => ⟨_, rfl⟩) rfl) (c_X11_windOf l G _ ma k 1 hM (show 0 ≤ (I73 120 (ma 0) : Int32).toInt ∧ (I73 120 (ma 0) : Int32).toInt ≤ 1 by omega) (by omega)) wd_r24_23 wd_r25_0 wd_r25_1 wd_r1_5 wd_r25_2 ⟨by decide, by decide, by decide +kernel⟩ rfl rfl ⟨Nat.le_of_ble_eq_true rfl, Nat.le_of_ble_eq_true rfl⟩ rfl rfl hl.1 (Nat.le_of_ble_eq_true rfl) dX11_drift_166 ⟨Nat.le_of_ble_eq_true rfl, Nat.le_of_ble_eq_true rfl⟩ (fun r166_149 S166_151 H locs h166_150 hw => ?_)
                have := t_1
                obtain ⟨rfl, h166_150⟩ := h166_150
                refine lv_iload_n hx hb dX11_drift_169 rfl (lv_at hl 2 rfl) ?_
                refine lv_imul hx hb dX11_drift_170 ?_
                refine lv_topi (fun v170_152 e170_152 => ?_)
                refine lv_bipush (v := 100) hx hb dX11_drift_171 (by decide) ?_
                refine lv_idiv hx hb dX11_drift_173 (by decide) ?_
                refine lv_topi (fun v173_153 e173_153 => ?_)
                refine lv_iadd hx hb dX11_drift_174 ?_
                refine lv_topi (fun v174_154 e174_154 => ?_)
                refine lv_iadd hx hb dX11_drift_175 ?_
                refine lv_topi (fun v175_155 e175_155 => ?_)
                refine pf_X11_231 X hw hM.1 dX11_drift_176 (fun H locs hw => ?_)
                have hw : PX G A s.heap (ch S (up2 (up2 I73 129 (ma 0) v144_145) 130 (ma 0) v175_155) (pJ S) (qI S) (qJ S)) H locs := hw
                refine lv_aload_n hx hb dX11_drift_179 rfl (lv_at hl 3 rfl) ?_
                refine lv_aload_n hx hb dX11_drift_180 rfl (lv_at hl 3 rfl) ?_
                refine gf_X11_234 (v := v144_145) X hw hM.1 (show up2 I73 129 (ma 0) v144_145 129 (ma 0) = v144_145 from up2_s) dX11_drift_181 ?_
                refine k_Si (n := 1) X hw (c_X11_isPoint l G _ v144_145) wd_r29_19 wd_r29_20 wd_r1_5 wd_r29_21 ⟨by decide, by decide, by decide +kernel⟩ rfl rfl ⟨Nat.le_of_ble_eq_true rfl, Nat.le_of_ble_eq_true rfl⟩ rfl rfl hl.1 (Nat.le_of_ble_eq_true rfl) dX11_drift_184 ⟨Nat.le_of_ble_eq_true rfl, Nat.le_of_ble_eq_true rfl⟩ (fun r184_156 S184_158 H locs h184_157 hw => ?_)
                rcases h184_157 with ⟨rfl, rfl, h184_157⟩ | ⟨rfl, rfl, h184_157⟩
                · have h184_157 := h184_157
                  refine lv_if_eq (tgt := 200) hx hb dX11_drift_187 (by decide) (fun c187_159 => absurd c187_159 (by decide)) (fun c187_159 => ?_)
                  refine lv_aload_n hx hb dX11_drift_190 rfl (lv_at hl 3 rfl) ?_
                  refine gf_X11_231 (v := v175_155) X hw hM.1 (show up2 (up2 I73 129 (ma 0) v144_145) 130 (ma 0) v175_155 130 (ma 0) = v175_155 from up2_s) dX11_drift_191 ?_
                  refine k_Si (n := 1) X hw (c_X11_isPoint l G _ v175_155) wd_r29_19 wd_r29_20 wd_r1_5 wd_r29_21 ⟨by decide, by decide, by decide +kernel⟩ rfl rfl ⟨Nat.le_of_ble_eq_true rfl, Nat.le_of_ble_eq_true rfl⟩ rfl rfl hl.1 (Nat.le_of_ble_eq_true rfl) dX11_drift_194 ⟨Nat.le_of_ble_eq_true rfl, Nat.le_of_ble_eq_true rfl⟩ (fun r194_160 S194_162 H locs h194_161 hw => ?_)
                  rcases h194_161 with ⟨rfl, rfl, h194_161⟩ | ⟨rfl, rfl, h194_161⟩
                  · have h194_161 := h194_161
                    refine lv_if_ne (tgt := 204) hx hb dX11_drift_197 (by decide) (fun c197_163 => ?_) (fun c197_163 => absurd c197_163 (by decide))
                    refine lv_aload_n hx hb dX11_drift_204 rfl (lv_at hl 3 rfl) ?_
                    refine k_Vi (n := 0) X hw (rcvk (ci := 11) X hw hM.1 (fun _ _ _ _ _ _ _ => ⟨_, rfl⟩) rfl) (c_X11_isOnLand l G _ ma hM (show 0 ≤ (I73 120 (ma 0) : Int32).toInt ∧ (I73 120 (ma 0) : Int32).toInt ≤ 1 by omega) (px_of (a := (v144_145 : Int32)) (b := (v175_155 : Int32)) (show up2 I73 129 (ma 0) v144_145 129 (ma 0) = v144_145 from up2_s) (show up2 (up2 I73 129 (ma 0) v144_145) 130 (ma 0) v175_155 130 (ma 0) = v175_155 from up2_s) (by omega))) wd_r31_7 wd_r31_8 wd_r31_9 wd_r1_5 wd_r31_10 ⟨by decide, by decide, by decide +kernel⟩ rfl rfl ⟨Nat.le_of_ble_eq_true rfl, Nat.le_of_ble_eq_true rfl⟩ rfl rfl hl.1 (Nat.le_of_ble_eq_true rfl) dX11_drift_205 ⟨Nat.le_of_ble_eq_true rfl, Nat.le_of_ble_eq_true rfl⟩ (fun r205_164 S205_166 H locs h205_165 hw => ?_)
                    rcases h205_165 with ⟨rfl, rfl, h205_165⟩ | ⟨rfl, rfl, h205_165⟩
                    · have h205_165 := h205_165
                      refine lv_if_eq (tgt := 215) hx hb dX11_drift_208 (by decide) (fun c208_167 => absurd c208_167 (by decide)) (fun c208_167 => ?_)
                      refine lv_iconst (v := 1) hx hb dX11_drift_211 (by decide) ?_
                      refine lv_goto (tgt := 216) hx hb dX11_drift_212 (by decide) ?_
                      refine pf_X11_240 X hw hM.1 dX11_drift_216 (fun H locs hw => ?_)
                      have hw : PX G A s.heap (ch S (up2 (up2 (up2 I73 129 (ma 0) v144_145) 130 (ma 0) v175_155) 131 (ma 0) 1) (pJ S) (qI S) (qJ S)) H locs := hw
                      obtain ⟨v219_168, e219_168⟩ : ∃ y : Int32, y = k + 1 := ⟨_, rfl⟩
                      have t219_168 := iAdd e219_168 rfl t_1 (by omega) (by omega)
                      have t219 := t219_168
                      refine lv_iinc (v := v219_168) (lv' := [(4, .int v219_168), (5, .int v114_135), (3, .int v63_8), (0, .ref (ma 0)), (1, .int t), (2, .int n)]) hx hb dX11_drift_219 hl (k := 1) rfl (by rw [e219_168]; rfl) (by decide) rfl (fun ls hl => ?_)
                      refine lv_goto (tgt := 73) hx hb dX11_drift_222 (by decide) ?_
                      exact ih73 (up2 (up2 (up2 I73 129 (ma 0) v144_145) 130 (ma 0) v175_155) 131 (ma 0) 1) v219_168 (FrD.up (f := 131) (by decide) (FrD.up (f := 130) (by decide) (FrD.up (f := 129) (by decide) hF))) (by rw [show (up2 (up2 (up2 I73 129 (ma 0) v144_145) 130 (ma 0) v175_155) 131 (ma 0) 1) 129 (ma 0) = (v144_145 : Int32) from (show up2 I73 129 (ma 0) v144_145 129 (ma 0) = v144_145 from up2_s), show (up2 (up2 (up2 I73 129 (ma 0) v144_145) 130 (ma 0) v175_155) 131 (ma 0) 1) 130 (ma 0) = (v175_155 : Int32) from (show up2 (up2 I73 129 (ma 0) v144_145) 130 (ma 0) v175_155 130 (ma 0) = v175_155 from up2_s), show (up2 (up2 (up2 I73 129 (ma 0) v144_145) 130 (ma 0) v175_155) 131 (ma 0) 1) 131 (ma 0) = (1 : Int32) from (show up2 (up2 (up2 I73 129 (ma 0) v144_145) 130 (ma 0) v175_155) 131 (ma 0) 1 131 (ma 0) = 1 from up2_s)]; have := t_0; have := t_1; have := t_2; omega) (by omega) (by omega) _ _ _ hw (lv_sub hl [0, 2, 3, 4, 5] rfl)
                    · have h205_165 := h205_165
                      refine lv_if_eq (tgt := 215) hx hb dX11_drift_208 (by decide) (fun c208_169 => ?_) (fun c208_169 => absurd c208_169 (by decide))
                      refine lv_iconst (v := 0) hx hb dX11_drift_215 (by decide) ?_
                      refine pf_X11_240 X hw hM.1 dX11_drift_216 (fun H locs hw => ?_)
                      have hw : PX G A s.heap (ch S (up2 (up2 (up2 I73 129 (ma 0) v144_145) 130 (ma 0) v175_155) 131 (ma 0) 0) (pJ S) (qI S) (qJ S)) H locs := hw
                      obtain ⟨v219_170, e219_170⟩ : ∃ y : Int32, y = k + 1 := ⟨_, rfl⟩
                      have t219_170 := iAdd e219_170 rfl t_1 (by omega) (by omega)
                      have t219 := t219_170
                      refine lv_iinc (v := v219_170) (lv' := [(4, .int v219_170), (5, .int v114_135), (3, .int v63_8), (0, .ref (ma 0)), (1, .int t), (2, .int n)]) hx hb dX11_drift_219 hl (k := 1) rfl (by rw [e219_170]; rfl) (by decide) rfl (fun ls hl => ?_)
                      refine lv_goto (tgt := 73) hx hb dX11_drift_222 (by decide) ?_
                      exact ih73 (up2 (up2 (up2 I73 129 (ma 0) v144_145) 130 (ma 0) v175_155) 131 (ma 0) 0) v219_170 (FrD.up (f := 131) (by decide) (FrD.up (f := 130) (by decide) (FrD.up (f := 129) (by decide) hF))) (by rw [show (up2 (up2 (up2 I73 129 (ma 0) v144_145) 130 (ma 0) v175_155) 131 (ma 0) 0) 129 (ma 0) = (v144_145 : Int32) from (show up2 I73 129 (ma 0) v144_145 129 (ma 0) = v144_145 from up2_s), show (up2 (up2 (up2 I73 129 (ma 0) v144_145) 130 (ma 0) v175_155) 131 (ma 0) 0) 130 (ma 0) = (v175_155 : Int32) from (show up2 (up2 I73 129 (ma 0) v144_145) 130 (ma 0) v175_155 130 (ma 0) = v175_155 from up2_s), show (up2 (up2 (up2 I73 129 (ma 0) v144_145) 130 (ma 0) v175_155) 131 (ma 0) 0) 131 (ma 0) = (0 : Int32) from (show up2 (up2 (up2 I73 129 (ma 0) v144_145) 130 (ma 0) v175_155) 131 (ma 0) 0 131 (ma 0) = 0 from up2_s)]; have := t_0; have := t_1; have := t_2; omega) (by omega) (by omega) _ _ _ hw (lv_sub hl [0, 2, 3, 4, 5] rfl)
                  · have h194_161 := h194_161
                    refine lv_if_ne (tgt := 204) hx hb dX11_drift_197 (by decide) (fun c197_171 => absurd c197_171 (by decide)) (fun c197_171 => ?_)
                    refine lv_iconst (v := 2) hx hb dX11_drift_200 (by decide) ?_
                    refine lv_goto (tgt := 216) hx hb dX11_drift_201 (by decide) ?_
                    refine pf_X11_240 X hw hM.1 dX11_drift_216 (fun H locs hw => ?_)
                    have hw : PX G A s.heap (ch S (up2 (up2 (up2 I73 129 (ma 0) v144_145) 130 (ma 0) v175_155) 131 (ma 0) 2) (pJ S) (qI S) (qJ S)) H locs := hw
                    obtain ⟨v219_172, e219_172⟩ : ∃ y : Int32, y = k + 1 := ⟨_, rfl⟩
                    have t219_172 := iAdd e219_172 rfl t_1 (by omega) (by omega)
                    have t219 := t219_172
                    refine lv_iinc (v := v219_172) (lv' := [(4, .int v219_172), (5, .int v114_135), (3, .int v63_8), (0, .ref (ma 0)), (1, .int t), (2, .int n)]) hx hb dX11_drift_219 hl (k := 1) rfl (by rw [e219_172]; rfl) (by decide) rfl (fun ls hl => ?_)
                    refine lv_goto (tgt := 73) hx hb dX11_drift_222 (by decide) ?_
                    exact ih73 (up2 (up2 (up2 I73 129 (ma 0) v144_145) 130 (ma 0) v175_155) 131 (ma 0) 2) v219_172 (FrD.up (f := 131) (by decide) (FrD.up (f := 130) (by decide) (FrD.up (f := 129) (by decide) hF))) (by rw [show (up2 (up2 (up2 I73 129 (ma 0) v144_145) 130 (ma 0) v175_155) 131 (ma 0) 2) 129 (ma 0) = (v144_145 : Int32) from (show up2 I73 129 (ma 0) v144_145 129 (ma 0) = v144_145 from up2_s), show (up2 (up2 (up2 I73 129 (ma 0) v144_145) 130 (ma 0) v175_155) 131 (ma 0) 2) 130 (ma 0) = (v175_155 : Int32) from (show up2 (up2 I73 129 (ma 0) v144_145) 130 (ma 0) v175_155 130 (ma 0) = v175_155 from up2_s), show (up2 (up2 (up2 I73 129 (ma 0) v144_145) 130 (ma 0) v175_155) 131 (ma 0) 2) 131 (ma 0) = (2 : Int32) from (show up2 (up2 (up2 I73 129 (ma 0) v144_145) 130 (ma 0) v175_155) 131 (ma 0) 2 131 (ma 0) = 2 from up2_s)]; have := t_0; have := t_1; have := t_2; omega) (by omega) (by omega) _ _ _ hw (lv_sub hl [0, 2, 3, 4, 5] rfl)
                · have h184_157 := h184_157
                  refine lv_if_eq (tgt := 200) hx hb dX11_drift_187 (by decide) (fun c187_173 => ?_) (fun c187_173 => absurd c187_173 (by decide))
                  refine lv_iconst (v := 2) hx hb dX11_drift_200 (by decide) ?_
                  refine lv_goto (tgt := 216) hx hb dX11_drift_201 (by decide) ?_
                  refine pf_X11_240 X hw hM.1 dX11_drift_216 (fun H locs hw => ?_)
                  have hw : PX G A s.heap (ch S (up2 (up2 (up2 I73 129 (ma 0) v144_145) 130 (ma 0) v175_155) 131 (ma 0) 2) (pJ S) (qI S) (qJ S)) H locs := hw
                  obtain ⟨v219_174, e219_174⟩ : ∃ y : Int32, y = k + 1 := ⟨_, rfl⟩
                  have t219_174 := iAdd e219_174 rfl t_1 (by omega) (by omega)
                  have t219 := t219_174
                  refine lv_iinc (v := v219_174) (lv' := [(4, .int v219_174), (5, .int v114_135), (3, .int v63_8), (0, .ref (ma 0)), (1, .int t), (2, .int n)]) hx hb dX11_drift_219 hl (k := 1) rfl (by rw [e219_174]; rfl) (by decide) rfl (fun ls hl => ?_)
                  refine lv_goto (tgt := 73) hx hb dX11_drift_222 (by decide) ?_
                  exact ih73 (up2 (up2 (up2 I73 129 (ma 0) v144_145) 130 (ma 0) v175_155) 131 (ma 0) 2) v219_174 (FrD.up (f := 131) (by decide) (FrD.up (f := 130) (by decide) (FrD.up (f := 129) (by decide) hF))) (by rw [show (up2 (up2 (up2 I73 129 (ma 0) v144_145) 130 (ma 0) v175_155) 131 (ma 0) 2) 129 (ma 0) = (v144_145 : Int32) from (show up2 I73 129 (ma 0) v144_145 129 (ma 0) = v144_145 from up2_s), show (up2 (up2 (up2 I73 129 (ma 0) v144_145) 130 (ma 0) v175_155) 131 (ma 0) 2) 130 (ma 0) = (v175_155 : Int32) from (show up2 (up2 I73 129 (ma 0) v144_145) 130 (ma 0) v175_155 130 (ma 0) = v175_155 from up2_s), show (up2 (up2 (up2 I73 129 (ma 0) v144_145) 130 (ma 0) v175_155) 131 (ma 0) 2) 131 (ma 0) = (2 : Int32) from (show up2 (up2 (up2 I73 129 (ma 0) v144_145) 130 (ma 0) v175_155) 131 (ma 0) 2 131 (ma 0) = 2 from up2_s)]; have := t_0; have := t_1; have := t_2; omega) (by omega) (by omega) _ _ _ hw (lv_sub hl [0, 2, 3, 4, 5] rfl)
    exact lp73 _ (up2 (up2 (up2 (pI S) 129 (ma 0) v6_1) 130 (ma 0) v16_2) 131 (ma 0) 0) v70_9 (FrD.up (f := 131) (by decide) (FrD.up (f := 130) (by decide) (FrD.up (f := 129) (by decide) FrD.rf))) (by rw [show (up2 (up2 (up2 (pI S) 129 (ma 0) v6_1) 130 (ma 0) v16_2) 131 (ma 0) 0) 129 (ma 0) = (v6_1 : Int32) from (show up2 (pI S) 129 (ma 0) v6_1 129 (ma 0) = v6_1 from up2_s), show (up2 (up2 (up2 (pI S) 129 (ma 0) v6_1) 130 (ma 0) v16_2) 131 (ma 0) 0) 130 (ma 0) = (v16_2 : Int32) from (show up2 (up2 (pI S) 129 (ma 0) v6_1) 130 (ma 0) v16_2 130 (ma 0) = v16_2 from up2_s), show (up2 (up2 (up2 (pI S) 129 (ma 0) v6_1) 130 (ma 0) v16_2) 131 (ma 0) 0) 131 (ma 0) = (0 : Int32) from (show up2 (up2 (up2 (pI S) 129 (ma 0) v6_1) 130 (ma 0) v16_2) 131 (ma 0) 0 131 (ma 0) = 0 from up2_s)]; have := t_0; have := t_1; have := t_2; omega) (by omega) (Nat.lt_succ_self _) _ _ _ hw (lv_sub hl [0, 1, 2, 3, 4] rfl)
  · have D28_4 := iNlt c28_4 rfl rfl
    refine lv_aload_n hx hb dX11_drift_31 rfl (lv_at hl 0 rfl) ?_
    refine k_Vi (n := 0) X hw (rcvk (ci := 11) X hw hM.1 (fun _ _ _ _ _ _ _ => ⟨_, rfl⟩) rfl) (c_X11_isOnLand l G _ ma hM (show 0 ≤ ((pI S) 120 (ma 0) : Int32).toInt ∧ ((pI S) 120 (ma 0) : Int32).toInt ≤ 1 by omega) (px_of (a := (v6_1 : Int32)) (b := (v16_2 : Int32)) (show up2 (pI S) 129 (ma 0) v6_1 129 (ma 0) = v6_1 from up2_s) (show up2 (up2 (pI S) 129 (ma 0) v6_1) 130 (ma 0) v16_2 130 (ma 0) = v16_2 from up2_s) (by omega))) wd_r31_7 wd_r31_8 wd_r31_9 wd_r1_5 wd_r31_10 ⟨by decide, by decide, by decide +kernel⟩ rfl rfl ⟨Nat.le_of_ble_eq_true rfl, Nat.le_of_ble_eq_true rfl⟩ rfl rfl hl.1 (Nat.le_of_ble_eq_true rfl) dX11_drift_32 ⟨Nat.le_of_ble_eq_true rfl, Nat.le_of_ble_eq_true rfl⟩ (fun r32_175 S32_177 H locs h32_176 hw => ?_)
    rcases h32_176 with ⟨rfl, rfl, h32_176⟩ | ⟨rfl, rfl, h32_176⟩
    · have h32_176 := h32_176
      refine lv_if_eq (tgt := 42) hx hb dX11_drift_35 (by decide) (fun c35_178 => absurd c35_178 (by decide)) (fun c35_178 => ?_)
      refine lv_iconst (v := 1) hx hb dX11_drift_38 (by decide) ?_
      refine lv_goto (tgt := 43) hx hb dX11_drift_39 (by decide) ?_
      refine pf_X11_240 X hw hM.1 dX11_drift_43 (fun H locs hw => ?_)
      have hw : PX G A s.heap (ch S (up2 (up2 (up2 (pI S) 129 (ma 0) v6_1) 130 (ma 0) v16_2) 131 (ma 0) 1) (pJ S) (qI S) (qJ S)) H locs := hw
      refine lv_aload_n hx hb dX11_drift_46 rfl (lv_at hl 0 rfl) ?_
      refine gf_X11_77 (b := (ma 17)) X hw hM.1 (mr_17 hM) dX11_drift_47 ?_
      refine lv_iconst (v := 4) hx hb dX11_drift_50 (by decide) ?_
      refine lv_aload_n hx hb dX11_drift_51 rfl (lv_at hl 0 rfl) ?_
      refine gf_X11_146 (v := (pI S) 120 (ma 0)) X hw hM.1 rfl dX11_drift_52 ?_
      refine lv_imul hx hb dX11_drift_55 ?_
      refine lv_topi (fun v55_179 e55_179 => ?_)
      have t55_179 := iMul e55_179 t_4 rfl (by omega) (by omega)
      have t55 := t55_179
      refine lv_aload_n hx hb dX11_drift_56 rfl (lv_at hl 0 rfl) ?_
      refine gf_X11_90 (b := (ma 24)) X hw hM.1 (mr_24 hM) dX11_drift_57 ?_
      refine lv_iload_n hx hb dX11_drift_60 rfl (lv_at hl 1 rfl) ?_
      refine q_ldI X hw (mk_24 hM) (vin (mn_24 hM) (by omega) (by omega)) dX11_drift_61 ?_
      refine lv_topi (fun v61_180 e61_180 => ?_)
      have e61_180 : v61_180 = (qI S) (ma 24) t.toNatClampNeg := e61_180
      have g61 := congrArg Int32.toInt e61_180
      refine lv_iadd hx hb dX11_drift_62 ?_
      refine lv_topi (fun v62_181 e62_181 => ?_)
      have t62_181 := iAdd e62_181 rfl rfl (by omega) (by omega)
      have t62 := t62_181
      refine q_ldI X hw (mk_17 hM) (vin (mn_17 hM) (by omega) (by omega)) dX11_drift_63 ?_
      refine lv_topi (fun v63_182 e63_182 => ?_)
      have e63_182 : v63_182 = (qI S) (ma 17) v62_181.toNatClampNeg := e63_182
      refine lv_istore_n (lv' := [(3, .int v63_182), (0, .ref (ma 0)), (1, .int t), (2, .int n)]) hx hb dX11_drift_64 rfl hl (by decide) rfl (fun ls hl => ?_)
      refine lv_aload_n hx hb dX11_drift_65 rfl (lv_at hl 1 rfl) ?_
      refine gf_X11_99 (b := (ma 27)) X hw hM.1 (mr_27 hM) dX11_drift_66 ?_
      refine lv_iload_n hx hb dX11_drift_69 rfl (lv_at hl 2 rfl) ?_
      refine q_ldI X hw (mk_27 hM) (vin (mn_27 hM) (by omega) (by omega)) dX11_drift_70 ?_
      refine lv_topi (fun v70_183 e70_183 => ?_)
      have e70_183 : v70_183 = (qI S) (ma 27) t.toNatClampNeg := e70_183
      have g70 := congrArg Int32.toInt e70_183
      refine lv_istore (lv' := [(4, .int v70_183), (3, .int v63_182), (0, .ref (ma 0)), (1, .int t), (2, .int n)]) hx hb dX11_drift_71 hl (by decide) rfl (fun ls hl => ?_)
      have lp73 : ∀ (N9 : Nat) (I73 : Nat → Nat → Int32) (k : Int32), (FrD (pI S) I73) → ((I73 131 (ma 0)).toInt ≠ 2 → 0 ≤ (I73 129 (ma 0)).toInt ∧ (I73 129 (ma 0)).toInt < 80 ∧ 0 ≤ (I73 130 (ma 0)).toInt ∧ (I73 130 (ma 0)).toInt < 80) → (0 ≤ k.toInt ∧ k.toInt ≤ 72) → (72 - k.toInt).toNat < N9 → ∀ (H : Heap) (locs : List Loc) (ls : Array Slot), PX G A s.heap (ch S I73 (pJ S) (qI S) (qJ S)) H locs → lv_has ls 6 [(4, .int k), (3, .int v63_182), (0, .ref (ma 0)), (1, .int t), (2, .int n)] → W p l e (Rm 2 0 0) s m args below meth c H locs 0 0 Q (F0 m 73 ls []) := by
        intro N9
        induction N9 with
        | zero => intro I73 k hF hpt hk hm; exact absurd hm (Nat.not_lt_zero _)
        | succ N9 ih73 =>
          intro I73 k hF hpt hk hm H locs ls hw hl
          have hbF := FrD.at hF (f := 120) (by decide) (ma 0)
          refine lv_iload hx hb dX11_drift_73 (lv_at hl 0 rfl) ?_
          refine lv_iload_n hx hb dX11_drift_75 rfl (lv_at hl 4 rfl) ?_
          refine lv_icmp_ge (tgt := 225) hx hb dX11_drift_76 (by decide) (fun c76_184 => ?_) (fun c76_184 => ?_)
          · have D76_184 := iLe c76_184 rfl rfl
            exact hret _ _ _ _ _ ⟨_, rfl, hF, hpt⟩ hw dX11_drift_225
          · have D76_184 := iNle c76_184 rfl rfl
            refine lv_aload_n hx hb dX11_drift_79 rfl (lv_at hl 2 rfl) ?_
            refine gf_X11_240 (v := I73 131 (ma 0)) X hw hM.1 rfl dX11_drift_80 ?_
            refine lv_if_ne (tgt := 225) hx hb dX11_drift_83 (by decide) (fun c83_185 => ?_) (fun c83_185 => ?_)
            · skip
              exact hret _ _ _ _ _ ⟨_, rfl, hF, hpt⟩ hw dX11_drift_225
            · have D83_185 := iEq c83_185 rfl t_0
              refine lv_aload_n hx hb dX11_drift_86 rfl (lv_at hl 2 rfl) ?_
              refine gf_X11_234 (v := I73 129 (ma 0)) X hw hM.1 rfl dX11_drift_87 ?_
              refine lv_bipush (v := 40) hx hb dX11_drift_90 (by decide) ?_
              refine lv_icmp_ge (tgt := 99) hx hb dX11_drift_92 (by decide) (fun c92_186 => ?_) (fun c92_186 => ?_)
              · have D92_186 := iLe c92_186 t_40 rfl
                refine lv_iconst (v := 1) hx hb dX11_drift_99 (by decide) ?_
                refine lv_aload_n hx hb dX11_drift_100 rfl (lv_at hl 2 rfl) ?_
                refine gf_X11_231 (v := I73 130 (ma 0)) X hw hM.1 rfl dX11_drift_101 ?_
                refine lv_bipush (v := 40) hx hb dX11_drift_104 (by decide) ?_
                refine lv_icmp_ge (tgt := 113) hx hb dX11_drift_106 (by decide) (fun c106_187 => ?_) (fun c106_187 => ?_)
                · have D106_187 := iLe c106_187 t_40 rfl
                  refine lv_iconst (v := 2) hx hb dX11_drift_113 (by decide) ?_
                  refine lv_iadd hx hb dX11_drift_114 ?_
                  refine lv_topi (fun v114_188 e114_188 => ?_)
                  have t114_188 := iAdd e114_188 t_1 t_2 (by omega) (by omega)
                  have t114 := t114_188
                  refine lv_istore (lv' := [(5, .int v114_188), (4, .int k), (3, .int v63_182), (0, .ref (ma 0)), (1, .int t), (2, .int n)]) hx hb dX11_drift_115 hl (by decide) rfl (fun ls hl => ?_)
                  refine lv_aload_n hx hb dX11_drift_117 rfl (lv_at hl 3 rfl) ?_
                  refine lv_dup hx hb dX11_drift_118 rfl ?_
                  refine gf_X11_234 (v := I73 129 (ma 0)) X hw hM.1 rfl dX11_drift_119 ?_
                  refine lv_aload_n hx hb dX11_drift_122 rfl (lv_at hl 3 rfl) ?_
                  refine lv_iload hx hb dX11_drift_123 (lv_at hl 0 rfl) ?_
                  refine lv_iload hx hb dX11_drift_125 (lv_at hl 1 rfl) ?_
                  refine lv_iconst (v := 0) hx hb dX11_drift_127 (by decide) ?_
                  refine k_Vi (n := 3) X hw (rcvk (ci := 11) X hw hM.1 (fun _ _ _ _ _ _ _ => ⟨_, rfl⟩) rfl) (c_X11_streamOf l G _ ma v114_188 k 0 hM (show 0 ≤ (I73 120 (ma 0) : Int32).toInt ∧ (I73 120 (ma 0) : Int32).toInt ≤ 1 by omega) (by omega) (by omega)) wd_r25_13 wd_r25_14 wd_r25_15 wd_r1_5 wd_r25_16 ⟨by decide, by decide, by decide +kernel⟩ rfl rfl ⟨Nat.le_of_ble_eq_true rfl, Nat.le_of_ble_eq_true rfl⟩ rfl rfl hl.1 (Nat.le_of_ble_eq_true rfl) dX11_drift_128 ⟨Nat.le_of_ble_eq_true rfl, Nat.le_of_ble_eq_true rfl⟩ (fun r128_189 S128_191 H locs h128_190 hw => ?_)
                  have := t_0
                  obtain ⟨rfl, h128_190⟩ := h128_190
                  refine lv_aload_n hx hb dX11_drift_131 rfl (lv_at hl 3 rfl) ?_
                  refine lv_iload hx hb dX11_drift_132 (lv_at hl 1 rfl) ?_
                  refine lv_iconst (v := 0) hx hb dX11_drift_134 (by decide) ?_
                  refine k_Vi (n := 2) X hw (rcvk (ci := 11) X hw hM.1 (fun _ _ _ _ _ _ _ => ⟨_, rfl⟩) rfl) (c_X11_windOf l G _ ma k 0 hM (show 0 ≤ (I73 120 (ma 0) : Int32).toInt ∧ (I73 120 (ma 0) : Int32).toInt ≤ 1 by omega) (by omega)) wd_r24_23 wd_r25_0 wd_r25_1 wd_r1_5 wd_r25_2 ⟨by decide, by decide, by decide +kernel⟩ rfl rfl ⟨Nat.le_of_ble_eq_true rfl, Nat.le_of_ble_eq_true rfl⟩ rfl rfl hl.1 (Nat.le_of_ble_eq_true rfl) dX11_drift_135 ⟨Nat.le_of_ble_eq_true rfl, Nat.le_of_ble_eq_true rfl⟩ (fun r135_192 S135_194 H locs h135_193 hw => ?_)
                  have := t_0
                  obtain ⟨rfl, h135_193⟩ := h135_193
                  refine lv_iload_n hx hb dX11_drift_138 rfl (lv_at hl 2 rfl) ?_
                  refine lv_imul hx hb dX11_drift_139 ?_
                  refine lv_topi (fun v139_195 e139_195 => ?_)
                  refine lv_bipush (v := 100) hx hb dX11_drift_140 (by decide) ?_
                  refine lv_idiv hx hb dX11_drift_142 (by decide) ?_
                  refine lv_topi (fun v142_196 e142_196 => ?_)
                  refine lv_iadd hx hb dX11_drift_143 ?_
                  refine lv_topi (fun v143_197 e143_197 => ?_)
                  refine lv_iadd hx hb dX11_drift_144 ?_
                  refine lv_topi (fun v144_198 e144_198 => ?_)
                  refine pf_X11_234 X hw hM.1 dX11_drift_145 (fun H locs hw => ?_)
                  have hw : PX G A s.heap (ch S (up2 I73 129 (ma 0) v144_198) (pJ S) (qI S) (qJ S)) H locs := hw
                  refine lv_aload_n hx hb dX11_drift_148 rfl (lv_at hl 3 rfl) ?_
                  refine lv_dup hx hb dX11_drift_149 rfl ?_
                  refine gf_X11_231 (v := I73 130 (ma 0)) X hw hM.1 rfl dX11_drift_150 ?_
                  refine lv_aload_n hx hb dX11_drift_153 rfl (lv_at hl 3 rfl) ?_
                  refine lv_iload hx hb dX11_drift_154 (lv_at hl 0 rfl) ?_
                  refine lv_iload hx hb dX11_drift_156 (lv_at hl 1 rfl) ?_
                  refine lv_iconst (v := 1) hx hb dX11_drift_158 (by decide) ?_
                  refine k_Vi (n := 3) X hw (rcvk (ci := 11) X hw hM.1 (fun _ _ _ _ _ _ _ => ⟨_, rfl⟩) rfl) (c_X11_streamOf l G _ ma v114_188 k 1 hM (show 0 ≤ (I73 120 (ma 0) : Int32).toInt ∧ (I73 120 (ma 0) : Int32).toInt ≤ 1 by omega) (by omega) (by omega)) wd_r25_13 wd_r25_14 wd_r25_15 wd_r1_5 wd_r25_16 ⟨by decide, by decide, by decide +kernel⟩ rfl rfl ⟨Nat.le_of_ble_eq_true rfl, Nat.le_of_ble_eq_true rfl⟩ rfl rfl hl.1 (Nat.le_of_ble_eq_true rfl) dX11_drift_159 ⟨Nat.le_of_ble_eq_true rfl, Nat.le_of_ble_eq_true rfl⟩ (fun r159_199 S159_201 H locs h159_200 hw => ?_)
                  have := t_1
                  obtain ⟨rfl, h159_200⟩ := h159_200
                  refine lv_aload_n hx hb dX11_drift_162 rfl (lv_at hl 3 rfl) ?_
                  refine lv_iload hx hb dX11_drift_163 (lv_at hl 1 rfl) ?_
                  refine lv_iconst (v := 1) hx hb dX11_drift_165 (by decide) ?_
                  refine k_Vi (n := 2) X hw (rcvk (ci := 11) X hw hM.1 (fun _ _ _ _ _ _ _ => ⟨_, rfl⟩) rfl) (c_X11_windOf l G _ ma k 1 hM (show 0 ≤ (I73 120 (ma 0) : Int32).toInt ∧ (I73 120 (ma 0) : Int32).toInt ≤ 1 by omega) (by omega)) wd_r24_23 wd_r25_0 wd_r25_1 wd_r1_5 wd_r25_2 ⟨by decide, by decide, by decide +kernel⟩ rfl rfl ⟨Nat.le_of_ble_eq_true rfl, Nat.le_of_ble_eq_true rfl⟩ rfl rfl hl.1 (Nat.le_of_ble_eq_true rfl) dX11_drift_166 ⟨Nat.le_of_ble_eq_true rfl, Nat.le_of_ble_eq_true rfl⟩ (fun r166_202 S166_204 H locs h166_203 hw => ?_)
                  have := t_1
                  obtain ⟨rfl, h166_203⟩ := h166_203
                  refine lv_iload_n hx hb dX11_drift_169 rfl (lv_at hl 2 rfl) ?_
                  refine lv_imul hx hb dX11_drift_170 ?_
                  refine lv_topi (fun v170_205 e170_205 => ?_)
                  refine lv_bipush (v := 100) hx hb dX11_drift_171 (by decide) ?_
                  refine lv_idiv hx hb dX11_drift_173 (by decide) ?_
                  refine lv_topi (fun v173_206 e173_206 => ?_)
                  refine lv_iadd hx hb dX11_drift_174 ?_
                  refine lv_topi (fun v174_207 e174_207 => ?_)
                  refine lv_iadd hx hb dX11_drift_175 ?_
                  refine lv_topi (fun v175_208 e175_208 => ?_)
                  refine pf_X11_231 X hw hM.1 dX11_drift_176 (fun H locs hw => ?_)
                  have hw : PX G A s.heap (ch S (up2 (up2 I73 129 (ma 0) v144_198) 130 (ma 0) v175_208) (pJ S) (qI S) (qJ S)) H locs := hw
                  refine lv_aload_n hx hb dX11_drift_179 rfl (lv_at hl 3 rfl) ?_
                  refine lv_aload_n hx hb dX11_drift_180 rfl (lv_at hl 3 rfl) ?_
                  refine gf_X11_234 (v := v144_198) X hw hM.1 (show up2 I73 129 (ma 0) v144_198 129 (ma 0) = v144_198 from up2_s) dX11_drift_181 ?_
                  refine k_Si (n := 1) X hw (c_X11_isPoint l G _ v144_198) wd_r29_19 wd_r29_20 wd_r1_5 wd_r29_21 ⟨by decide, by decide, by decide +kernel⟩ rfl rfl ⟨Nat.le_of_ble_eq_true rfl, Nat.le_of_ble_eq_true rfl⟩ rfl rfl hl.1 (Nat.le_of_ble_eq_true rfl) dX11_drift_184 ⟨Nat.le_of_ble_eq_true rfl, Nat.le_of_ble_eq_true rfl⟩ (fun r184_209 S184_211 H locs h184_210 hw => ?_)
                  rcases h184_210 with ⟨rfl, rfl, h184_210⟩ | ⟨rfl, rfl, h184_210⟩
                  · have h184_210 := h184_210
                    refine lv_if_eq (tgt := 200) hx hb dX11_drift_187 (by decide) (fun c187_212 => absurd c187_212 (by decide)) (fun c187_212 => ?_)
                    refine lv_aload_n hx hb dX11_drift_190 rfl (lv_at hl 3 rfl) ?_
                    refine gf_X11_231 (v := v175_208) X hw hM.1 (show up2 (up2 I73 129 (ma 0) v144_198) 130 (ma 0) v175_208 130 (ma 0) = v175_208 from up2_s) dX11_drift_191 ?_
                    refine k_Si (n := 1) X hw (c_X11_isPoint l G _ v175_208) wd_r29_19 wd_r29_20 wd_r1_5 wd_r29_21 ⟨by decide, by decide, by decide +kernel⟩ rfl rfl ⟨Nat.le_of_ble_eq_true rfl, Nat.le_of_ble_eq_true rfl⟩ rfl rfl hl.1 (Nat.le_of_ble_eq_true rfl) dX11_drift_194 ⟨Nat.le_of_ble_eq_true rfl, Nat.le_of_ble_eq_true rfl⟩ (fun r194_213 S194_215 H locs h194_214 hw => ?_)
                    rcases h194_214 with ⟨rfl, rfl, h194_214⟩ | ⟨rfl, rfl, h194_214⟩
                    · have h194_214 := h194_214
                      refine lv_if_ne (tgt := 204) hx hb dX11_drift_197 (by decide) (fun c197_216 => ?_) (fun c197_216 => absurd c197_216 (by decide))
                      refine lv_aload_n hx hb dX11_drift_204 rfl (lv_at hl 3 rfl) ?_
                      refine k_Vi (n := 0) X hw (rcvk (ci := 11) X hw hM.1 (fun _ _ _ _ _ _ _ => ⟨_, rfl⟩) rfl) (c_X11_isOnLand l G _ ma hM (show 0 ≤ (I73 120 (ma 0) : Int32).toInt ∧ (I73 120 (ma 0) : Int32).toInt ≤ 1 by omega) (px_of (a := (v144_198 : Int32)) (b := (v175_208 : Int32)) (show up2 I73 129 (ma 0) v144_198 129 (ma 0) = v144_198 from up2_s) (show up2 (up2 I73 129 (ma 0) v144_198) 130 (ma 0) v175_208 130 (ma 0) = v175_208 from up2_s) (by omega))) wd_r31_7 wd_r31_8 wd_r31_9 wd_r1_5 wd_r31_10 ⟨by decide, by decide, by decide +kernel⟩ rfl rfl ⟨Nat.le_of_ble_eq_true rfl, Nat.le_of_ble_eq_true rfl⟩ rfl rfl hl.1 (Nat.le_of_ble_eq_true rfl) dX11_drift_205 ⟨Nat.le_of_ble_eq_true rfl, Nat.le_of_ble_eq_true rfl⟩ (fun r205_217 S205_219 H locs h205_218 hw => ?_)
                      rcases h205_218 with ⟨rfl, rfl, h205_218⟩ | ⟨rfl, rfl, h205_218⟩
                      · have h205_218 := h205_218
                        refine lv_if_eq (tgt := 215) hx hb dX11_drift_208 (by decide) (fun c208_220 => absurd c208_220 (by decide)) (fun c208_220 => ?_)
                        refine lv_iconst (v := 1) hx hb dX11_drift_211 (by decide) ?_
                        refine lv_goto (tgt := 216) hx hb dX11_drift_212 (by decide) ?_
                        refine pf_X11_240 X hw hM.1 dX11_drift_216 (fun H locs hw => ?_)
                        have hw : PX G A s.heap (ch S (up2 (up2 (up2 I73 129 (ma 0) v144_198) 130 (ma 0) v175_208) 131 (ma 0) 1) (pJ S) (qI S) (qJ S)) H locs := hw
                        obtain ⟨v219_221, e219_221⟩ : ∃ y : Int32, y = k + 1 := ⟨_, rfl⟩
                        have t219_221 := iAdd e219_221 rfl t_1 (by omega) (by omega)
                        have t219 := t219_221
                        refine lv_iinc (v := v219_221) (lv' := [(4, .int v219_221), (5, .int v114_188), (3, .int v63_182), (0, .ref (ma 0)), (1, .int t), (2, .int n)]) hx hb dX11_drift_219 hl (k := 1) rfl (by rw [e219_221]; rfl) (by decide) rfl (fun ls hl => ?_)
                        refine lv_goto (tgt := 73) hx hb dX11_drift_222 (by decide) ?_
                        exact ih73 (up2 (up2 (up2 I73 129 (ma 0) v144_198) 130 (ma 0) v175_208) 131 (ma 0) 1) v219_221 (FrD.up (f := 131) (by decide) (FrD.up (f := 130) (by decide) (FrD.up (f := 129) (by decide) hF))) (by rw [show (up2 (up2 (up2 I73 129 (ma 0) v144_198) 130 (ma 0) v175_208) 131 (ma 0) 1) 129 (ma 0) = (v144_198 : Int32) from (show up2 I73 129 (ma 0) v144_198 129 (ma 0) = v144_198 from up2_s), show (up2 (up2 (up2 I73 129 (ma 0) v144_198) 130 (ma 0) v175_208) 131 (ma 0) 1) 130 (ma 0) = (v175_208 : Int32) from (show up2 (up2 I73 129 (ma 0) v144_198) 130 (ma 0) v175_208 130 (ma 0) = v175_208 from up2_s), show (up2 (up2 (up2 I73 129 (ma 0) v144_198) 130 (ma 0) v175_208) 131 (ma 0) 1) 131 (ma 0) = (1 : Int32) from (show up2 (up2 (up2 I73 129 (ma 0) v144_198) 130 (ma 0) v175_208) 131 (ma 0) 1 131 (ma 0) = 1 from up2_s)]; have := t_0; have := t_1; have := t_2; omega) (by omega) (by omega) _ _ _ hw (lv_sub hl [0, 2, 3, 4, 5] rfl)
                      · have h205_218 := h205_218
                        refine lv_if_eq (tgt := 215) hx hb dX11_drift_208 (by decide) (fun c208_222 => ?_) (fun c208_222 => absurd c208_222 (by decide))
                        refine lv_iconst (v := 0) hx hb dX11_drift_215 (by decide) ?_
                        refine pf_X11_240 X hw hM.1 dX11_drift_216 (fun H locs hw => ?_)
                        have hw : PX G A s.heap (ch S (up2 (up2 (up2 I73 129 (ma 0) v144_198) 130 (ma 0) v175_208) 131 (ma 0) 0) (pJ S) (qI S) (qJ S)) H locs := hw
                        obtain ⟨v219_223, e219_223⟩ : ∃ y : Int32, y = k + 1 := ⟨_, rfl⟩
                        have t219_223 := iAdd e219_223 rfl t_1 (by omega) (by omega)
                        have t219 := t219_223
                        refine lv_iinc (v := v219_223) (lv' := [(4, .int v219_223), (5, .int v114_188), (3, .int v63_182), (0, .ref (ma 0)), (1, .int t), (2, .int n)]) hx hb dX11_drift_219 hl (k := 1) rfl (by rw [e219_223]; rfl) (by decide) rfl (fun ls hl => ?_)
                        refine lv_goto (tgt := 73) hx hb dX11_drift_222 (by decide) ?_
                        exact ih73 (up2 (up2 (up2 I73 129 (ma 0) v144_198) 130 (ma 0) v175_208) 131 (ma 0) 0) v219_223 (FrD.up (f := 131) (by decide) (FrD.up (f := 130) (by decide) (FrD.up (f := 129) (by decide) hF))) (by rw [show (up2 (up2 (up2 I73 129 (ma 0) v144_198) 130 (ma 0) v175_208) 131 (ma 0) 0) 129 (ma 0) = (v144_198 : Int32) from (show up2 I73 129 (ma 0) v144_198 129 (ma 0) = v144_198 from up2_s), show (up2 (up2 (up2 I73 129 (ma 0) v144_198) 130 (ma 0) v175_208) 131 (ma 0) 0) 130 (ma 0) = (v175_208 : Int32) from (show up2 (up2 I73 129 (ma 0) v144_198) 130 (ma 0) v175_208 130 (ma 0) = v175_208 from up2_s), show (up2 (up2 (up2 I73 129 (ma 0) v144_198) 130 (ma 0) v175_208) 131 (ma 0) 0) 131 (ma 0) = (0 : Int32) from (show up2 (up2 (up2 I73 129 (ma 0) v144_198) 130 (ma 0) v175_208) 131 (ma 0) 0 131 (ma 0) = 0 from up2_s)]; have := t_0; have := t_1; have := t_2; omega) (by omega) (by omega) _ _ _ hw (lv_sub hl [0, 2, 3, 4, 5] rfl)
                    · have h194_214 := h194_214
                      refine lv_if_ne (tgt := 204) hx hb dX11_drift_197 (by decide) (fun c197_224 => absurd c197_224 (by decide)) (fun c197_224 => ?_)
                      refine lv_iconst (v := 2) hx hb dX11_drift_200 (by decide) ?_
                      refine lv_goto (tgt := 216) hx hb dX11_drift_201 (by decide) ?_
                      refine pf_X11_240 X hw hM.1 dX11_drift_216 (fun H locs hw => ?_)
                      have hw : PX G A s.heap (ch S (up2 (up2 (up2 I73 129 (ma 0) v144_198) 130 (ma 0) v175_208) 131 (ma 0) 2) (pJ S) (qI S) (qJ S)) H locs := hw
                      obtain ⟨v219_225, e219_225⟩ : ∃ y : Int32, y = k + 1 := ⟨_, rfl⟩
                      have t219_225 := iAdd e219_225 rfl t_1 (by omega) (by omega)
                      have t219 := t219_225
                      refine lv_iinc (v := v219_225) (lv' := [(4, .int v219_225), (5, .int v114_188), (3, .int v63_182), (0, .ref (ma 0)), (1, .int t), (2, .int n)]) hx hb dX11_drift_219 hl (k := 1) rfl (by rw [e219_225]; rfl) (by decide) rfl (fun ls hl => ?_)
                      refine lv_goto (tgt := 73) hx hb dX11_drift_222 (by decide) ?_
                      exact ih73 (up2 (up2 (up2 I73 129 (ma 0) v144_198) 130 (ma 0) v175_208) 131 (ma 0) 2) v219_225 (FrD.up (f := 131) (by decide) (FrD.up (f := 130) (by decide) (FrD.up (f := 129) (by decide) hF))) (by rw [show (up2 (up2 (up2 I73 129 (ma 0) v144_198) 130 (ma 0) v175_208) 131 (ma 0) 2) 129 (ma 0) = (v144_198 : Int32) from (show up2 I73 129 (ma 0) v144_198 129 (ma 0) = v144_198 from up2_s), show (up2 (up2 (up2 I73 129 (ma 0) v144_198) 130 (ma 0) v175_208) 131 (ma 0) 2) 130 (ma 0) = (v175_208 : Int32) from (show up2 (up2 I73 129 (ma 0) v144_198) 130 (ma 0) v175_208 130 (ma 0) = v175_208 from up2_s), show (up2 (up2 (up2 I73 129 (ma 0) v144_198) 130 (ma 0) v175_208) 131 (ma 0) 2) 131 (ma 0) = (2 : Int32) from (show up2 (up2 (up2 I73 129 (ma 0) v144_198) 130 (ma 0) v175_208) 131 (ma 0) 2 131 (ma 0) = 2 from up2_s)]; have := t_0; have := t_1; have := t_2; omega) (by omega) (by omega) _ _ _ hw (lv_sub hl [0, 2, 3, 4, 5] rfl)
                  · have h184_210 := h184_210
                    refine lv_if_eq (tgt := 200) hx hb dX11_drift_187 (by decide) (fun c187_226 => ?_) (fun c187_226 => absurd c187_226 (by decide))
                    refine lv_iconst (v := 2) hx hb dX11_drift_200 (by decide) ?_
                    refine lv_goto (tgt := 216) hx hb dX11_drift_201 (by decide) ?_
                    refine pf_X11_240 X hw hM.1 dX11_drift_216 (fun H locs hw => ?_)
                    have hw : PX G A s.heap (ch S (up2 (up2 (up2 I73 129 (ma 0) v144_198) 130 (ma 0) v175_208) 131 (ma 0) 2) (pJ S) (qI S) (qJ S)) H locs := hw
                    obtain ⟨v219_227, e219_227⟩ : ∃ y : Int32, y = k + 1 := ⟨_, rfl⟩
                    have t219_227 := iAdd e219_227 rfl t_1 (by omega) (by omega)
                    have t219 := t219_227
                    refine lv_iinc (v := v219_227) (lv' := [(4, .int v219_227), (5, .int v114_188), (3, .int v63_182), (0, .ref (ma 0)), (1, .int t), (2, .int n)]) hx hb dX11_drift_219 hl (k := 1) rfl (by rw [e219_227]; rfl) (by decide) rfl (fun ls hl => ?_)
                    refine lv_goto (tgt := 73) hx hb dX11_drift_222 (by decide) ?_
                    exact ih73 (up2 (up2 (up2 I73 129 (ma 0) v144_198) 130 (ma 0) v175_208) 131 (ma 0) 2) v219_227 (FrD.up (f := 131) (by decide) (FrD.up (f := 130) (by decide) (FrD.up (f := 129) (by decide) hF))) (by rw [show (up2 (up2 (up2 I73 129 (ma 0) v144_198) 130 (ma 0) v175_208) 131 (ma 0) 2) 129 (ma 0) = (v144_198 : Int32) from (show up2 I73 129 (ma 0) v144_198 129 (ma 0) = v144_198 from up2_s), show (up2 (up2 (up2 I73 129 (ma 0) v144_198) 130 (ma 0) v175_208) 131 (ma 0) 2) 130 (ma 0) = (v175_208 : Int32) from (show up2 (up2 I73 129 (ma 0) v144_198) 130 (ma 0) v175_208 130 (ma 0) = v175_208 from up2_s), show (up2 (up2 (up2 I73 129 (ma 0) v144_198) 130 (ma 0) v175_208) 131 (ma 0) 2) 131 (ma 0) = (2 : Int32) from (show up2 (up2 (up2 I73 129 (ma 0) v144_198) 130 (ma 0) v175_208) 131 (ma 0) 2 131 (ma 0) = 2 from up2_s)]; have := t_0; have := t_1; have := t_2; omega) (by omega) (by omega) _ _ _ hw (lv_sub hl [0, 2, 3, 4, 5] rfl)
                · have D106_187 := iNle c106_187 t_40 rfl
                  refine lv_iconst (v := 0) hx hb dX11_drift_109 (by decide) ?_
                  refine lv_goto (tgt := 114) hx hb dX11_drift_110 (by decide) ?_
                  refine lv_iadd hx hb dX11_drift_114 ?_
                  refine lv_topi (fun v114_228 e114_228 => ?_)
                  have t114_228 := iAdd e114_228 t_1 t_0 (by omega) (by omega)
                  have t114 := t114_228
                  refine lv_istore (lv' := [(5, .int v114_228), (4, .int k), (3, .int v63_182), (0, .ref (ma 0)), (1, .int t), (2, .int n)]) hx hb dX11_drift_115 hl (by decide) rfl (fun ls hl => ?_)
                  refine lv_aload_n hx hb dX11_drift_117 rfl (lv_at hl 3 rfl) ?_
                  refine lv_dup hx hb dX11_drift_118 rfl ?_
                  refine gf_X11_234 (v := I73 129 (ma 0)) X hw hM.1 rfl dX11_drift_119 ?_
                  refine lv_aload_n hx hb dX11_drift_122 rfl (lv_at hl 3 rfl) ?_
                  refine lv_iload hx hb dX11_drift_123 (lv_at hl 0 rfl) ?_
                  refine lv_iload hx hb dX11_drift_125 (lv_at hl 1 rfl) ?_
                  refine lv_iconst (v := 0) hx hb dX11_drift_127 (by decide) ?_
                  refine k_Vi (n := 3) X hw (rcvk (ci := 11) X hw hM.1 (fun _ _ _ _ _ _ _ => ⟨_, rfl⟩) rfl) (c_X11_streamOf l G _ ma v114_228 k 0 hM (show 0 ≤ (I73 120 (ma 0) : Int32).toInt ∧ (I73 120 (ma 0) : Int32).toInt ≤ 1 by omega) (by omega) (by omega)) wd_r25_13 wd_r25_14 wd_r25_15 wd_r1_5 wd_r25_16 ⟨by decide, by decide, by decide +kernel⟩ rfl rfl ⟨Nat.le_of_ble_eq_true rfl, Nat.le_of_ble_eq_true rfl⟩ rfl rfl hl.1 (Nat.le_of_ble_eq_true rfl) dX11_drift_128 ⟨Nat.le_of_ble_eq_true rfl, Nat.le_of_ble_eq_true rfl⟩ (fun r128_229 S128_231 H locs h128_230 hw => ?_)
                  have := t_0
                  obtain ⟨rfl, h128_230⟩ := h128_230
                  refine lv_aload_n hx hb dX11_drift_131 rfl (lv_at hl 3 rfl) ?_
                  refine lv_iload hx hb dX11_drift_132 (lv_at hl 1 rfl) ?_
                  refine lv_iconst (v := 0) hx hb dX11_drift_134 (by decide) ?_
                  refine k_Vi (n := 2) X hw (rcvk (ci := 11) X hw hM.1 (fun _ _ _ _ _ _ _ => ⟨_, rfl⟩) rfl) (c_X11_windOf l G _ ma k 0 hM (show 0 ≤ (I73 120 (ma 0) : Int32).toInt ∧ (I73 120 (ma 0) : Int32).toInt ≤ 1 by omega) (by omega)) wd_r24_23 wd_r25_0 wd_r25_1 wd_r1_5 wd_r25_2 ⟨by decide, by decide, by decide +kernel⟩ rfl rfl ⟨Nat.le_of_ble_eq_true rfl, Nat.le_of_ble_eq_true rfl⟩ rfl rfl hl.1 (Nat.le_of_ble_eq_true rfl) dX11_drift_135 ⟨Nat.le_of_ble_eq_true rfl, Nat.le_of_ble_eq_true rfl⟩ (fun r135_232 S135_234 H locs h135_233 hw => ?_)
                  have := t_0
                  obtain ⟨rfl, h135_233⟩ := h135_233
                  refine lv_iload_n hx hb dX11_drift_138 rfl (lv_at hl 2 rfl) ?_
                  refine lv_imul hx hb dX11_drift_139 ?_
                  refine lv_topi (fun v139_235 e139_235 => ?_)
                  refine lv_bipush (v := 100) hx hb dX11_drift_140 (by decide) ?_
                  refine lv_idiv hx hb dX11_drift_142 (by decide) ?_
                  refine lv_topi (fun v142_236 e142_236 => ?_)
                  refine lv_iadd hx hb dX11_drift_143 ?_
                  refine lv_topi (fun v143_237 e143_237 => ?_)
                  refine lv_iadd hx hb dX11_drift_144 ?_
                  refine lv_topi (fun v144_238 e144_238 => ?_)
                  refine pf_X11_234 X hw hM.1 dX11_drift_145 (fun H locs hw => ?_)
                  have hw : PX G A s.heap (ch S (up2 I73 129 (ma 0) v144_238) (pJ S) (qI S) (qJ S)) H locs := hw
                  refine lv_aload_n hx hb dX11_drift_148 rfl (lv_at hl 3 rfl) ?_
                  refine lv_dup hx hb dX11_drift_149 rfl ?_
                  refine gf_X11_231 (v := I73 130 (ma 0)) X hw hM.1 rfl dX11_drift_150 ?_
                  refine lv_aload_n hx hb dX11_drift_153 rfl (lv_at hl 3 rfl) ?_
                  refine lv_iload hx hb dX11_drift_154 (lv_at hl 0 rfl) ?_
                  refine lv_iload hx hb dX11_drift_156 (lv_at hl 1 rfl) ?_
                  refine lv_iconst (v := 1) hx hb dX11_drift_158 (by decide) ?_
                  refine k_Vi (n := 3) X hw (rcvk (ci := 11) X hw hM.1 (fun _ _ _ _ _ _ _ => ⟨_, rfl⟩) rfl) (c_X11_streamOf l G _ ma v114_228 k 1 hM (show 0 ≤ (I73 120 (ma 0) : Int32).toInt ∧ (I73 120 (ma 0) : Int32).toInt ≤ 1 by omega) (by omega) (by omega)) wd_r25_13 wd_r25_14 wd_r25_15 wd_r1_5 wd_r25_16 ⟨by decide, by decide, by decide +kernel⟩ rfl rfl ⟨Nat.le_of_ble_eq_true rfl, Nat.le_of_ble_eq_true rfl⟩ rfl rfl hl.1 (Nat.le_of_ble_eq_true rfl) dX11_drift_159 ⟨Nat.le_of_ble_eq_true rfl, Nat.le_of_ble_eq_true rfl⟩ (fun r159_239 S159_241 H locs h159_240 hw => ?_)
                  have := t_1
                  obtain ⟨rfl, h159_240⟩ := h159_240
                  refine lv_aload_n hx hb dX11_drift_162 rfl (lv_at hl 3 rfl) ?_
                  refine lv_iload hx hb dX11_drift_163 (lv_at hl 1 rfl) ?_
                  refine lv_iconst (v := 1) hx hb dX11_drift_165 (by decide) ?_
                  refine k_Vi (n := 2) X hw (rcvk (ci := 11) X hw hM.1 (fun _ _ _ _ _ _ _ => ⟨_, rfl⟩) rfl) (c_X11_windOf l G _ ma k 1 hM (show 0 ≤ (I73 120 (ma 0) : Int32).toInt ∧ (I73 120 (ma 0) : Int32).toInt ≤ 1 by omega) (by omega)) wd_r24_23 wd_r25_0 wd_r25_1 wd_r1_5 wd_r25_2 ⟨by decide, by decide, by decide +kernel⟩ rfl rfl ⟨Nat.le_of_ble_eq_true rfl, Nat.le_of_ble_eq_true rfl⟩ rfl rfl hl.1 (Nat.le_of_ble_eq_true rfl) dX11_drift_166 ⟨Nat.le_of_ble_eq_true rfl, Nat.le_of_ble_eq_true rfl⟩ (fun r166_242 S166_244 H locs h166_243 hw => ?_)
                  have := t_1
                  obtain ⟨rfl, h166_243⟩ := h166_243
                  refine lv_iload_n hx hb dX11_drift_169 rfl (lv_at hl 2 rfl) ?_
                  refine lv_imul hx hb dX11_drift_170 ?_
                  refine lv_topi (fun v170_245 e170_245 => ?_)
                  refine lv_bipush (v := 100) hx hb dX11_drift_171 (by decide) ?_
                  refine lv_idiv hx hb dX11_drift_173 (by decide) ?_
                  refine lv_topi (fun v173_246 e173_246 => ?_)
                  refine lv_iadd hx hb dX11_drift_174 ?_
                  refine lv_topi (fun v174_247 e174_247 => ?_)
                  refine lv_iadd hx hb dX11_drift_175 ?_
                  refine lv_topi (fun v175_248 e175_248 => ?_)
                  refine pf_X11_231 X hw hM.1 dX11_drift_176 (fun H locs hw => ?_)
                  have hw : PX G A s.heap (ch S (up2 (up2 I73 129 (ma 0) v144_238) 130 (ma 0) v175_248) (pJ S) (qI S) (qJ S)) H locs := hw
                  refine lv_aload_n hx hb dX11_drift_179 rfl (lv_at hl 3 rfl) ?_
                  refine lv_aload_n hx hb dX11_drift_180 rfl (lv_at hl 3 rfl) ?_
                  refine gf_X11_234 (v := v144_238) X hw hM.1 (show up2 I73 129 (ma 0) v144_238 129 (ma 0) = v144_238 from up2_s) dX11_drift_181 ?_
                  refine k_Si (n := 1) X hw (c_X11_isPoint l G _ v144_238) wd_r29_19 wd_r29_20 wd_r1_5 wd_r29_21 ⟨by decide, by decide, by decide +kernel⟩ rfl rfl ⟨Nat.le_of_ble_eq_true rfl, Nat.le_of_ble_eq_true rfl⟩ rfl rfl hl.1 (Nat.le_of_ble_eq_true rfl) dX11_drift_184 ⟨Nat.le_of_ble_eq_true rfl, Nat.le_of_ble_eq_true rfl⟩ (fun r184_249 S184_251 H locs h184_250 hw => ?_)
                  rcases h184_250 with ⟨rfl, rfl, h184_250⟩ | ⟨rfl, rfl, h184_250⟩
                  · have h184_250 := h184_250
                    refine lv_if_eq (tgt := 200) hx hb dX11_drift_187 (by decide) (fun c187_252 => absurd c187_252 (by decide)) (fun c187_252 => ?_)
                    refine lv_aload_n hx hb dX11_drift_190 rfl (lv_at hl 3 rfl) ?_
                    refine gf_X11_231 (v := v175_248) X hw hM.1 (show up2 (up2 I73 129 (ma 0) v144_238) 130 (ma 0) v175_248 130 (ma 0) = v175_248 from up2_s) dX11_drift_191 ?_
                    refine k_Si (n := 1) X hw (c_X11_isPoint l G _ v175_248) wd_r29_19 wd_r29_20 wd_r1_5 wd_r29_21 ⟨by decide, by decide, by decide +kernel⟩ rfl rfl ⟨Nat.le_of_ble_eq_true rfl, Nat.le_of_ble_eq_true rfl⟩ rfl rfl hl.1 (Nat.le_of_ble_eq_true rfl) dX11_drift_194 ⟨Nat.le_of_ble_eq_true rfl, Nat.le_of_ble_eq_true rfl⟩ (fun r194_253 S194_255 H locs h194_254 hw => ?_)
                    rcases h194_254 with ⟨rfl, rfl, h194_254⟩ | ⟨rfl, rfl, h194_254⟩
                    · have h194_254 := h194_254
                      refine lv_if_ne (tgt := 204) hx hb dX11_drift_197 (by decide) (fun c197_256 => ?_) (fun c197_256 => absurd c197_256 (by decide))
                      refine lv_aload_n hx hb dX11_drift_204 rfl (lv_at hl 3 rfl) ?_
                      refine k_Vi (n := 0) X hw (rcvk (ci := 11) X hw hM.1 (fun _ _ _ _ _ _ _ => ⟨_, rfl⟩) rfl) (c_X11_isOnLand l G _ ma hM (show 0 ≤ (I73 120 (ma 0) : Int32).toInt ∧ (I73 120 (ma 0) : Int32).toInt ≤ 1 by omega) (px_of (a := (v144_238 : Int32)) (b := (v175_248 : Int32)) (show up2 I73 129 (ma 0) v144_238 129 (ma 0) = v144_238 from up2_s) (show up2 (up2 I73 129 (ma 0) v144_238) 130 (ma 0) v175_248 130 (ma 0) = v175_248 from up2_s) (by omega))) wd_r31_7 wd_r31_8 wd_r31_9 wd_r1_5 wd_r31_10 ⟨by decide, by decide, by decide +kernel⟩ rfl rfl ⟨Nat.le_of_ble_eq_true rfl, Nat.le_of_ble_eq_true rfl⟩ rfl rfl hl.1 (Nat.le_of_ble_eq_true rfl) dX11_drift_205 ⟨Nat.le_of_ble_eq_true rfl, Nat.le_of_ble_eq_true rfl⟩ (fun r205_257 S205_259 H locs h205_258 hw => ?_)
                      rcases h205_258 with ⟨rfl, rfl, h205_258⟩ | ⟨rfl, rfl, h205_258⟩
                      · have h205_258 := h205_258
                        refine lv_if_eq (tgt := 215) hx hb dX11_drift_208 (by decide) (fun c208_260 => absurd c208_260 (by decide)) (fun c208_260 => ?_)
                        refine lv_iconst (v := 1) hx hb dX11_drift_211 (by decide) ?_
                        refine lv_goto (tgt := 216) hx hb dX11_drift_212 (by decide) ?_
                        refine pf_X11_240 X hw hM.1 dX11_drift_216 (fun H locs hw => ?_)
                        have hw : PX G A s.heap (ch S (up2 (up2 (up2 I73 129 (ma 0) v144_238) 130 (ma 0) v175_248) 131 (ma 0) 1) (pJ S) (qI S) (qJ S)) H locs := hw
                        obtain ⟨v219_261, e219_261⟩ : ∃ y : Int32, y = k + 1 := ⟨_, rfl⟩
                        have t219_261 := iAdd e219_261 rfl t_1 (by omega) (by omega)
                        have t219 := t219_261
                        refine lv_iinc (v := v219_261) (lv' := [(4, .int v219_261), (5, .int v114_228), (3, .int v63_182), (0, .ref (ma 0)), (1, .int t), (2, .int n)]) hx hb dX11_drift_219 hl (k := 1) rfl (by rw [e219_261]; rfl) (by decide) rfl (fun ls hl => ?_)
                        refine lv_goto (tgt := 73) hx hb dX11_drift_222 (by decide) ?_
                        exact ih73 (up2 (up2 (up2 I73 129 (ma 0) v144_238) 130 (ma 0) v175_248) 131 (ma 0) 1) v219_261 (FrD.up (f := 131) (by decide) (FrD.up (f := 130) (by decide) (FrD.up (f := 129) (by decide) hF))) (by rw [show (up2 (up2 (up2 I73 129 (ma 0) v144_238) 130 (ma 0) v175_248) 131 (ma 0) 1) 129 (ma 0) = (v144_238 : Int32) from (show up2 I73 129 (ma 0) v144_238 129 (ma 0) = v144_238 from up2_s), show (up2 (up2 (up2 I73 129 (ma 0) v144_238) 130 (ma 0) v175_248) 131 (ma 0) 1) 130 (ma 0) = (v175_248 : Int32) from (show up2 (up2 I73 129 (ma 0) v144_238) 130 (ma 0) v175_248 130 (ma 0) = v175_248 from up2_s), show (up2 (up2 (up2 I73 129 (ma 0) v144_238) 130 (ma 0) v175_248) 131 (ma 0) 1) 131 (ma 0) = (1 : Int32) from (show up2 (up2 (up2 I73 129 (ma 0) v144_238) 130 (ma 0) v175_248) 131 (ma 0) 1 131 (ma 0) = 1 from up2_s)]; have := t_0; have := t_1; have := t_2; omega) (by omega) (by omega) _ _ _ hw (lv_sub hl [0, 2, 3, 4, 5] rfl)
                      · have h205_258 := h205_258
                        refine lv_if_eq (tgt := 215) hx hb dX11_drift_208 (by decide) (fun c208_262 => ?_) (fun c208_262 => absurd c208_262 (by decide))
                        refine lv_iconst (v := 0) hx hb dX11_drift_215 (by decide) ?_
                        refine pf_X11_240 X hw hM.1 dX11_drift_216 (fun H locs hw => ?_)
                        have hw : PX G A s.heap (ch S (up2 (up2 (up2 I73 129 (ma 0) v144_238) 130 (ma 0) v175_248) 131 (ma 0) 0) (pJ S) (qI S) (qJ S)) H locs := hw
                        obtain ⟨v219_263, e219_263⟩ : ∃ y : Int32, y = k + 1 := ⟨_, rfl⟩
                        have t219_263 := iAdd e219_263 rfl t_1 (by omega) (by omega)
                        have t219 := t219_263
                        refine lv_iinc (v := v219_263) (lv' := [(4, .int v219_263), (5, .int v114_228), (3, .int v63_182), (0, .ref (ma 0)), (1, .int t), (2, .int n)]) hx hb dX11_drift_219 hl (k := 1) rfl (by rw [e219_263]; rfl) (by decide) rfl (fun ls hl => ?_)
                        refine lv_goto (tgt := 73) hx hb dX11_drift_222 (by decide) ?_
                        exact ih73 (up2 (up2 (up2 I73 129 (ma 0) v144_238) 130 (ma 0) v175_248) 131 (ma 0) 0) v219_263 (FrD.up (f := 131) (by decide) (FrD.up (f := 130) (by decide) (FrD.up (f := 129) (by decide) hF))) (by rw [show (up2 (up2 (up2 I73 129 (ma 0) v144_238) 130 (ma 0) v175_248) 131 (ma 0) 0) 129 (ma 0) = (v144_238 : Int32) from (show up2 I73 129 (ma 0) v144_238 129 (ma 0) = v144_238 from up2_s), show (up2 (up2 (up2 I73 129 (ma 0) v144_238) 130 (ma 0) v175_248) 131 (ma 0) 0) 130 (ma 0) = (v175_248 : Int32) from (show up2 (up2 I73 129 (ma 0) v144_238) 130 (ma 0) v175_248 130 (ma 0) = v175_248 from up2_s), show (up2 (up2 (up2 I73 129 (ma 0) v144_238) 130 (ma 0) v175_248) 131 (ma 0) 0) 131 (ma 0) = (0 : Int32) from (show up2 (up2 (up2 I73 129 (ma 0) v144_238) 130 (ma 0) v175_248) 131 (ma 0) 0 131 (ma 0) = 0 from up2_s)]; have := t_0; have := t_1; have := t_2; omega) (by omega) (by omega) _ _ _ hw (lv_sub hl [0, 2, 3, 4, 5] rfl)
                    · have h194_254 := h194_254
                      refine lv_if_ne (tgt := 204) hx hb dX11_drift_197 (by decide) (fun c197_264 => absurd c197_264 (by decide)) (fun c197_264 => ?_)
                      refine lv_iconst (v := 2) hx hb dX11_drift_200 (by decide) ?_
                      refine lv_goto (tgt := 216) hx hb dX11_drift_201 (by decide) ?_
                      refine pf_X11_240 X hw hM.1 dX11_drift_216 (fun H locs hw => ?_)
                      have hw : PX G A s.heap (ch S (up2 (up2 (up2 I73 129 (ma 0) v144_238) 130 (ma 0) v175_248) 131 (ma 0) 2) (pJ S) (qI S) (qJ S)) H locs := hw
                      obtain ⟨v219_265, e219_265⟩ : ∃ y : Int32, y = k + 1 := ⟨_, rfl⟩
                      have t219_265 := iAdd e219_265 rfl t_1 (by omega) (by omega)
                      have t219 := t219_265
                      refine lv_iinc (v := v219_265) (lv' := [(4, .int v219_265), (5, .int v114_228), (3, .int v63_182), (0, .ref (ma 0)), (1, .int t), (2, .int n)]) hx hb dX11_drift_219 hl (k := 1) rfl (by rw [e219_265]; rfl) (by decide) rfl (fun ls hl => ?_)
                      refine lv_goto (tgt := 73) hx hb dX11_drift_222 (by decide) ?_
                      exact ih73 (up2 (up2 (up2 I73 129 (ma 0) v144_238) 130 (ma 0) v175_248) 131 (ma 0) 2) v219_265 (FrD.up (f := 131) (by decide) (FrD.up (f := 130) (by decide) (FrD.up (f := 129) (by decide) hF))) (by rw [show (up2 (up2 (up2 I73 129 (ma 0) v144_238) 130 (ma 0) v175_248) 131 (ma 0) 2) 129 (ma 0) = (v144_238 : Int32) from (show up2 I73 129 (ma 0) v144_238 129 (ma 0) = v144_238 from up2_s), show (up2 (up2 (up2 I73 129 (ma 0) v144_238) 130 (ma 0) v175_248) 131 (ma 0) 2) 130 (ma 0) = (v175_248 : Int32) from (show up2 (up2 I73 129 (ma 0) v144_238) 130 (ma 0) v175_248 130 (ma 0) = v175_248 from up2_s), show (up2 (up2 (up2 I73 129 (ma 0) v144_238) 130 (ma 0) v175_248) 131 (ma 0) 2) 131 (ma 0) = (2 : Int32) from (show up2 (up2 (up2 I73 129 (ma 0) v144_238) 130 (ma 0) v175_248) 131 (ma 0) 2 131 (ma 0) = 2 from up2_s)]; have := t_0; have := t_1; have := t_2; omega) (by omega) (by omega) _ _ _ hw (lv_sub hl [0, 2, 3, 4, 5] rfl)
                  · have h184_250 := h184_250
                    refine lv_if_eq (tgt := 200) hx hb dX11_drift_187 (by decide) (fun c187_266 => ?_) (fun c187_266 => absurd c187_266 (by decide))
                    refine lv_iconst (v := 2) hx hb dX11_drift_200 (by decide) ?_
                    refine lv_goto (tgt := 216) hx hb dX11_drift_201 (by decide) ?_
                    refine pf_X11_240 X hw hM.1 dX11_drift_216 (fun H locs hw => ?_)
                    have hw : PX G A s.heap (ch S (up2 (up2 (up2 I73 129 (ma 0) v144_238) 130 (ma 0) v175_248) 131 (ma 0) 2) (pJ S) (qI S) (qJ S)) H locs := hw
                    obtain ⟨v219_267, e219_267⟩ : ∃ y : Int32, y = k + 1 := ⟨_, rfl⟩
                    have t219_267 := iAdd e219_267 rfl t_1 (by omega) (by omega)
                    have t219 := t219_267
                    refine lv_iinc (v := v219_267) (lv' := [(4, .int v219_267), (5, .int v114_228), (3, .int v63_182), (0, .ref (ma 0)), (1, .int t), (2, .int n)]) hx hb dX11_drift_219 hl (k := 1) rfl (by rw [e219_267]; rfl) (by decide) rfl (fun ls hl => ?_)
                    refine lv_goto (tgt := 73) hx hb dX11_drift_222 (by decide) ?_
                    exact ih73 (up2 (up2 (up2 I73 129 (ma 0) v144_238) 130 (ma 0) v175_248) 131 (ma 0) 2) v219_267 (FrD.up (f := 131) (by decide) (FrD.up (f := 130) (by decide) (FrD.up (f := 129) (by decide) hF))) (by rw [show (up2 (up2 (up2 I73 129 (ma 0) v144_238) 130 (ma 0) v175_248) 131 (ma 0) 2) 129 (ma 0) = (v144_238 : Int32) from (show up2 I73 129 (ma 0) v144_238 129 (ma 0) = v144_238 from up2_s), show (up2 (up2 (up2 I73 129 (ma 0) v144_238) 130 (ma 0) v175_248) 131 (ma 0) 2) 130 (ma 0) = (v175_248 : Int32) from (show up2 (up2 I73 129 (ma 0) v144_238) 130 (ma 0) v175_248 130 (ma 0) = v175_248 from up2_s), show (up2 (up2 (up2 I73 129 (ma 0) v144_238) 130 (ma 0) v175_248) 131 (ma 0) 2) 131 (ma 0) = (2 : Int32) from (show up2 (up2 (up2 I73 129 (ma 0) v144_238) 130 (ma 0) v175_248) 131 (ma 0) 2 131 (ma 0) = 2 from up2_s)]; have := t_0; have := t_1; have := t_2; omega) (by omega) (by omega) _ _ _ hw (lv_sub hl [0, 2, 3, 4, 5] rfl)
              · have D92_186 := iNle c92_186 t_40 rfl
                refine lv_iconst (v := 0) hx hb dX11_drift_95 (by decide) ?_
                refine lv_goto (tgt := 100) hx hb dX11_drift_96 (by decide) ?_
                refine lv_aload_n hx hb dX11_drift_100 rfl (lv_at hl 2 rfl) ?_
                refine gf_X11_231 (v := I73 130 (ma 0)) X hw hM.1 rfl dX11_drift_101 ?_
                refine lv_bipush (v := 40) hx hb dX11_drift_104 (by decide) ?_
                refine lv_icmp_ge (tgt := 113) hx hb dX11_drift_106 (by decide) (fun c106_268 => ?_) (fun c106_268 => ?_)
                · have D106_268 := iLe c106_268 t_40 rfl
                  refine lv_iconst (v := 2) hx hb dX11_drift_113 (by decide) ?_
                  refine lv_iadd hx hb dX11_drift_114 ?_
                  refine lv_topi (fun v114_269 e114_269 => ?_)
                  have t114_269 := iAdd e114_269 t_0 t_2 (by omega) (by omega)
                  have t114 := t114_269
                  refine lv_istore (lv' := [(5, .int v114_269), (4, .int k), (3, .int v63_182), (0, .ref (ma 0)), (1, .int t), (2, .int n)]) hx hb dX11_drift_115 hl (by decide) rfl (fun ls hl => ?_)
                  refine lv_aload_n hx hb dX11_drift_117 rfl (lv_at hl 3 rfl) ?_
                  refine lv_dup hx hb dX11_drift_118 rfl ?_
                  refine gf_X11_234 (v := I73 129 (ma 0)) X hw hM.1 rfl dX11_drift_119 ?_
                  refine lv_aload_n hx hb dX11_drift_122 rfl (lv_at hl 3 rfl) ?_
                  refine lv_iload hx hb dX11_drift_123 (lv_at hl 0 rfl) ?_
                  refine lv_iload hx hb dX11_drift_125 (lv_at hl 1 rfl) ?_
                  refine lv_iconst (v := 0) hx hb dX11_drift_127 (by decide) ?_
                  refine k_Vi (n := 3) X hw (rcvk (ci := 11) X hw hM.1 (fun _ _ _ _ _ _ _ => ⟨_, rfl⟩) rfl) (c_X11_streamOf l G _ ma v114_269 k 0 hM (show 0 ≤ (I73 120 (ma 0) : Int32).toInt ∧ (I73 120 (ma 0) : Int32).toInt ≤ 1 by omega) (by omega) (by omega)) wd_r25_13 wd_r25_14 wd_r25_15 wd_r1_5 wd_r25_16 ⟨by decide, by decide, by decide +kernel⟩ rfl rfl ⟨Nat.le_of_ble_eq_true rfl, Nat.le_of_ble_eq_true rfl⟩ rfl rfl hl.1 (Nat.le_of_ble_eq_true rfl) dX11_drift_128 ⟨Nat.le_of_ble_eq_true rfl, Nat.le_of_ble_eq_true rfl⟩ (fun r128_270 S128_272 H locs h128_271 hw => ?_)
                  have := t_0
                  obtain ⟨rfl, h128_271⟩ := h128_271
                  refine lv_aload_n hx hb dX11_drift_131 rfl (lv_at hl 3 rfl) ?_
                  refine lv_iload hx hb dX11_drift_132 (lv_at hl 1 rfl) ?_
                  refine lv_iconst (v := 0) hx hb dX11_drift_134 (by decide) ?_
                  refine k_Vi (n := 2) X hw (rcvk (ci := 11) X hw hM.1 (fun _ _ _ _ _ _ _ => ⟨_, rfl⟩) rfl) (c_X11_windOf l G _ ma k 0 hM (show 0 ≤ (I73 120 (ma 0) : Int32).toInt ∧ (I73 120 (ma 0) : Int32).toInt ≤ 1 by omega) (by omega)) wd_r24_23 wd_r25_0 wd_r25_1 wd_r1_5 wd_r25_2 ⟨by decide, by decide, by decide +kernel⟩ rfl rfl ⟨Nat.le_of_ble_eq_true rfl, Nat.le_of_ble_eq_true rfl⟩ rfl rfl hl.1 (Nat.le_of_ble_eq_true rfl) dX11_drift_135 ⟨Nat.le_of_ble_eq_true rfl, Nat.le_of_ble_eq_true rfl⟩ (fun r135_273 S135_275 H locs h135_274 hw => ?_)
                  have := t_0
                  obtain ⟨rfl, h135_274⟩ := h135_274
                  refine lv_iload_n hx hb dX11_drift_138 rfl (lv_at hl 2 rfl) ?_
                  refine lv_imul hx hb dX11_drift_139 ?_
                  refine lv_topi (fun v139_276 e139_276 => ?_)
                  refine lv_bipush (v := 100) hx hb dX11_drift_140 (by decide) ?_
                  refine lv_idiv hx hb dX11_drift_142 (by decide) ?_
                  refine lv_topi (fun v142_277 e142_277 => ?_)
                  refine lv_iadd hx hb dX11_drift_143 ?_
                  refine lv_topi (fun v143_278 e143_278 => ?_)
                  refine lv_iadd hx hb dX11_drift_144 ?_
                  refine lv_topi (fun v144_279 e144_279 => ?_)
                  refine pf_X11_234 X hw hM.1 dX11_drift_145 (fun H locs hw => ?_)
                  have hw : PX G A s.heap (ch S (up2 I73 129 (ma 0) v144_279) (pJ S) (qI S) (qJ S)) H locs := hw
                  refine lv_aload_n hx hb dX11_drift_148 rfl (lv_at hl 3 rfl) ?_
                  refine lv_dup hx hb dX11_drift_149 rfl ?_
                  refine gf_X11_231 (v := I73 130 (ma 0)) X hw hM.1 rfl dX11_drift_150 ?_
                  refine lv_aload_n hx hb dX11_drift_153 rfl (lv_at hl 3 rfl) ?_
                  refine lv_iload hx hb dX11_drift_154 (lv_at hl 0 rfl) ?_
                  refine lv_iload hx hb dX11_drift_156 (lv_at hl 1 rfl) ?_
                  refine lv_iconst (v := 1) hx hb dX11_drift_158 (by decide) ?_
                  refine k_Vi (n := 3) X hw (rcvk (ci := 11) X hw hM.1 (fun _ _ _ _ _ _ _ => ⟨_, rfl⟩) rfl) (c_X11_streamOf l G _ ma v114_269 k 1 hM (show 0 ≤ (I73 120 (ma 0) : Int32).toInt ∧ (I73 120 (ma 0) : Int32).toInt ≤ 1 by omega) (by omega) (by omega)) wd_r25_13 wd_r25_14 wd_r25_15 wd_r1_5 wd_r25_16 ⟨by decide, by decide, by decide +kernel⟩ rfl rfl ⟨Nat.le_of_ble_eq_true rfl, Nat.le_of_ble_eq_true rfl⟩ rfl rfl hl.1 (Nat.le_of_ble_eq_true rfl) dX11_drift_159 ⟨Nat.le_of_ble_eq_true rfl, Nat.le_of_ble_eq_true rfl⟩ (fun r159_280 S159_282 H locs h159_281 hw => ?_)
                  have := t_1
                  obtain ⟨rfl, h159_281⟩ := h159_281
                  refine lv_aload_n hx hb dX11_drift_162 rfl (lv_at hl 3 rfl) ?_
                  refine lv_iload hx hb dX11_drift_163 (lv_at hl 1 rfl) ?_
                  refine lv_iconst (v := 1) hx hb dX11_drift_165 (by decide) ?_
                  refine k_Vi (n := 2) X hw (rcvk (ci := 11) X hw hM.1 (fun _ _ _ _ _ _ _ => ⟨_, rfl⟩) rfl) (c_X11_windOf l G _ ma k 1 hM (show 0 ≤ (I73 120 (ma 0) : Int32).toInt ∧ (I73 120 (ma 0) : Int32).toInt ≤ 1 by omega) (by omega)) wd_r24_23 wd_r25_0 wd_r25_1 wd_r1_5 wd_r25_2 ⟨by decide, by decide, by decide +kernel⟩ rfl rfl ⟨Nat.le_of_ble_eq_true rfl, Nat.le_of_ble_eq_true rfl⟩ rfl rfl hl.1 (Nat.le_of_ble_eq_true rfl) dX11_drift_166 ⟨Nat.le_of_ble_eq_true rfl, Nat.le_of_ble_eq_true rfl⟩ (fun r166_283 S166_285 H locs h166_284 hw => ?_)
                  have := t_1
                  obtain ⟨rfl, h166_284⟩ := h166_284
                  refine lv_iload_n hx hb dX11_drift_169 rfl (lv_at hl 2 rfl) ?_
                  refine lv_imul hx hb dX11_drift_170 ?_
                  refine lv_topi (fun v170_286 e170_286 => ?_)
                  refine lv_bipush (v := 100) hx hb dX11_drift_171 (by decide) ?_
                  refine lv_idiv hx hb dX11_drift_173 (by decide) ?_
                  refine lv_topi (fun v173_287 e173_287 => ?_)
                  refine lv_iadd hx hb dX11_drift_174 ?_
                  refine lv_topi (fun v174_288 e174_288 => ?_)
                  refine lv_iadd hx hb dX11_drift_175 ?_
                  refine lv_topi (fun v175_289 e175_289 => ?_)
                  refine pf_X11_231 X hw hM.1 dX11_drift_176 (fun H locs hw => ?_)
                  have hw : PX G A s.heap (ch S (up2 (up2 I73 129 (ma 0) v144_279) 130 (ma 0) v175_289) (pJ S) (qI S) (qJ S)) H locs := hw
                  refine lv_aload_n hx hb dX11_drift_179 rfl (lv_at hl 3 rfl) ?_
                  refine lv_aload_n hx hb dX11_drift_180 rfl (lv_at hl 3 rfl) ?_
                  refine gf_X11_234 (v := v144_279) X hw hM.1 (show up2 I73 129 (ma 0) v144_279 129 (ma 0) = v144_279 from up2_s) dX11_drift_181 ?_
                  refine k_Si (n := 1) X hw (c_X11_isPoint l G _ v144_279) wd_r29_19 wd_r29_20 wd_r1_5 wd_r29_21 ⟨by decide, by decide, by decide +kernel⟩ rfl rfl ⟨Nat.le_of_ble_eq_true rfl, Nat.le_of_ble_eq_true rfl⟩ rfl rfl hl.1 (Nat.le_of_ble_eq_true rfl) dX11_drift_184 ⟨Nat.le_of_ble_eq_true rfl, Nat.le_of_ble_eq_true rfl⟩ (fun r184_290 S184_292 H locs h184_291 hw => ?_)
                  rcases h184_291 with ⟨rfl, rfl, h184_291⟩ | ⟨rfl, rfl, h184_291⟩
                  · have h184_291 := h184_291
                    refine lv_if_eq (tgt := 200) hx hb dX11_drift_187 (by decide) (fun c187_293 => absurd c187_293 (by decide)) (fun c187_293 => ?_)
                    refine lv_aload_n hx hb dX11_drift_190 rfl (lv_at hl 3 rfl) ?_
                    refine gf_X11_231 (v := v175_289) X hw hM.1 (show up2 (up2 I73 129 (ma 0) v144_279) 130 (ma 0) v175_289 130 (ma 0) = v175_289 from up2_s) dX11_drift_191 ?_
                    refine k_Si (n := 1) X hw (c_X11_isPoint l G _ v175_289) wd_r29_19 wd_r29_20 wd_r1_5 wd_r29_21 ⟨by decide, by decide, by decide +kernel⟩ rfl rfl ⟨Nat.le_of_ble_eq_true rfl, Nat.le_of_ble_eq_true rfl⟩ rfl rfl hl.1 (Nat.le_of_ble_eq_true rfl) dX11_drift_194 ⟨Nat.le_of_ble_eq_true rfl, Nat.le_of_ble_eq_true rfl⟩ (fun r194_294 S194_296 H locs h194_295 hw => ?_)
                    rcases h194_295 with ⟨rfl, rfl, h194_295⟩ | ⟨rfl, rfl, h194_295⟩
                    · have h194_295 := h194_295
                      refine lv_if_ne (tgt := 204) hx hb dX11_drift_197 (by decide) (fun c197_297 => ?_) (fun c197_297 => absurd c197_297 (by decide))
                      refine lv_aload_n hx hb dX11_drift_204 rfl (lv_at hl 3 rfl) ?_
                      refine k_Vi (n := 0) X hw (rcvk (ci := 11) X hw hM.1 (fun _ _ _ _ _ _ _ => ⟨_, rfl⟩) rfl) (c_X11_isOnLand l G _ ma hM (show 0 ≤ (I73 120 (ma 0) : Int32).toInt ∧ (I73 120 (ma 0) : Int32).toInt ≤ 1 by omega) (px_of (a := (v144_279 : Int32)) (b := (v175_289 : Int32)) (show up2 I73 129 (ma 0) v144_279 129 (ma 0) = v144_279 from up2_s) (show up2 (up2 I73 129 (ma 0) v144_279) 130 (ma 0) v175_289 130 (ma 0) = v175_289 from up2_s) (by omega))) wd_r31_7 wd_r31_8 wd_r31_9 wd_r1_5 wd_r31_10 ⟨by decide, by decide, by decide +kernel⟩ rfl rfl ⟨Nat.le_of_ble_eq_true rfl, Nat.le_of_ble_eq_true rfl⟩ rfl rfl hl.1 (Nat.le_of_ble_eq_true rfl) dX11_drift_205 ⟨Nat.le_of_ble_eq_true rfl, Nat.le_of_ble_eq_true rfl⟩ (fun r205_298 S205_300 H locs h205_299 hw => ?_)
                      rcases h205_299 with ⟨rfl, rfl, h205_299⟩ | ⟨rfl, rfl, h205_299⟩
                      · have h205_299 := h205_299
                        refine lv_if_eq (tgt := 215) hx hb dX11_drift_208 (by decide) (fun c208_301 => absurd c208_301 (by decide)) (fun c208_301 => ?_)
                        refine lv_iconst (v := 1) hx hb dX11_drift_211 (by decide) ?_
                        refine lv_goto (tgt := 216) hx hb dX11_drift_212 (by decide) ?_
                        refine pf_X11_240 X hw hM.1 dX11_drift_216 (fun H locs hw => ?_)
                        have hw : PX G A s.heap (ch S (up2 (up2 (up2 I73 129 (ma 0) v144_279) 130 (ma 0) v175_289) 131 (ma 0) 1) (pJ S) (qI S) (qJ S)) H locs := hw
                        obtain ⟨v219_302, e219_302⟩ : ∃ y : Int32, y = k + 1 := ⟨_, rfl⟩
                        have t219_302 := iAdd e219_302 rfl t_1 (by omega) (by omega)
                        have t219 := t219_302
                        refine lv_iinc (v := v219_302) (lv' := [(4, .int v219_302), (5, .int v114_269), (3, .int v63_182), (0, .ref (ma 0)), (1, .int t), (2, .int n)]) hx hb dX11_drift_219 hl (k := 1) rfl (by rw [e219_302]; rfl) (by decide) rfl (fun ls hl => ?_)
                        refine lv_goto (tgt := 73) hx hb dX11_drift_222 (by decide) ?_
                        exact ih73 (up2 (up2 (up2 I73 129 (ma 0) v144_279) 130 (ma 0) v175_289) 131 (ma 0) 1) v219_302 (FrD.up (f := 131) (by decide) (FrD.up (f := 130) (by decide) (FrD.up (f := 129) (by decide) hF))) (by rw [show (up2 (up2 (up2 I73 129 (ma 0) v144_279) 130 (ma 0) v175_289) 131 (ma 0) 1) 129 (ma 0) = (v144_279 : Int32) from (show up2 I73 129 (ma 0) v144_279 129 (ma 0) = v144_279 from up2_s), show (up2 (up2 (up2 I73 129 (ma 0) v144_279) 130 (ma 0) v175_289) 131 (ma 0) 1) 130 (ma 0) = (v175_289 : Int32) from (show up2 (up2 I73 129 (ma 0) v144_279) 130 (ma 0) v175_289 130 (ma 0) = v175_289 from up2_s), show (up2 (up2 (up2 I73 129 (ma 0) v144_279) 130 (ma 0) v175_289) 131 (ma 0) 1) 131 (ma 0) = (1 : Int32) from (show up2 (up2 (up2 I73 129 (ma 0) v144_279) 130 (ma 0) v175_289) 131 (ma 0) 1 131 (ma 0) = 1 from up2_s)]; have := t_0; have := t_1; have := t_2; omega) (by omega) (by omega) _ _ _ hw (lv_sub hl [0, 2, 3, 4, 5] rfl)
                      · have h205_299 := h205_299
                        refine lv_if_eq (tgt := 215) hx hb dX11_drift_208 (by decide) (fun c208_303 => ?_) (fun c208_303 => absurd c208_303 (by decide))
                        refine lv_iconst (v := 0) hx hb dX11_drift_215 (by decide) ?_
                        refine pf_X11_240 X hw hM.1 dX11_drift_216 (fun H locs hw => ?_)
                        have hw : PX G A s.heap (ch S (up2 (up2 (up2 I73 129 (ma 0) v144_279) 130 (ma 0) v175_289) 131 (ma 0) 0) (pJ S) (qI S) (qJ S)) H locs := hw
                        obtain ⟨v219_304, e219_304⟩ : ∃ y : Int32, y = k + 1 := ⟨_, rfl⟩
                        have t219_304 := iAdd e219_304 rfl t_1 (by omega) (by omega)
                        have t219 := t219_304
                        refine lv_iinc (v := v219_304) (lv' := [(4, .int v219_304), (5, .int v114_269), (3, .int v63_182), (0, .ref (ma 0)), (1, .int t), (2, .int n)]) hx hb dX11_drift_219 hl (k := 1) rfl (by rw [e219_304]; rfl) (by decide) rfl (fun ls hl => ?_)
                        refine lv_goto (tgt := 73) hx hb dX11_drift_222 (by decide) ?_
                        exact ih73 (up2 (up2 (up2 I73 129 (ma 0) v144_279) 130 (ma 0) v175_289) 131 (ma 0) 0) v219_304 (FrD.up (f := 131) (by decide) (FrD.up (f := 130) (by decide) (FrD.up (f := 129) (by decide) hF))) (by rw [show (up2 (up2 (up2 I73 129 (ma 0) v144_279) 130 (ma 0) v175_289) 131 (ma 0) 0) 129 (ma 0) = (v144_279 : Int32) from (show up2 I73 129 (ma 0) v144_279 129 (ma 0) = v144_279 from up2_s), show (up2 (up2 (up2 I73 129 (ma 0) v144_279) 130 (ma 0) v175_289) 131 (ma 0) 0) 130 (ma 0) = (v175_289 : Int32) from (show up2 (up2 I73 129 (ma 0) v144_279) 130 (ma 0) v175_289 130 (ma 0) = v175_289 from up2_s), show (up2 (up2 (up2 I73 129 (ma 0) v144_279) 130 (ma 0) v175_289) 131 (ma 0) 0) 131 (ma 0) = (0 : Int32) from (show up2 (up2 (up2 I73 129 (ma 0) v144_279) 130 (ma 0) v175_289) 131 (ma 0) 0 131 (ma 0) = 0 from up2_s)]; have := t_0; have := t_1; have := t_2; omega) (by omega) (by omega) _ _ _ hw (lv_sub hl [0, 2, 3, 4, 5] rfl)
                    · have h194_295 := h194_295
                      refine lv_if_ne (tgt := 204) hx hb dX11_drift_197 (by decide) (fun c197_305 => absurd c197_305 (by decide)) (fun c197_305 => ?_)
                      refine lv_iconst (v := 2) hx hb dX11_drift_200 (by decide) ?_
                      refine lv_goto (tgt := 216) hx hb dX11_drift_201 (by decide) ?_
                      refine pf_X11_240 X hw hM.1 dX11_drift_216 (fun H locs hw => ?_)
                      have hw : PX G A s.heap (ch S (up2 (up2 (up2 I73 129 (ma 0) v144_279) 130 (ma 0) v175_289) 131 (ma 0) 2) (pJ S) (qI S) (qJ S)) H locs := hw
                      obtain ⟨v219_306, e219_306⟩ : ∃ y : Int32, y = k + 1 := ⟨_, rfl⟩
                      have t219_306 := iAdd e219_306 rfl t_1 (by omega) (by omega)
                      have t219 := t219_306
                      refine lv_iinc (v := v219_306) (lv' := [(4, .int v219_306), (5, .int v114_269), (3, .int v63_182), (0, .ref (ma 0)), (1, .int t), (2, .int n)]) hx hb dX11_drift_219 hl (k := 1) rfl (by rw [e219_306]; rfl) (by decide) rfl (fun ls hl => ?_)
                      refine lv_goto (tgt := 73) hx hb dX11_drift_222 (by decide) ?_
                      exact ih73 (up2 (up2 (up2 I73 129 (ma 0) v144_279) 130 (ma 0) v175_289) 131 (ma 0) 2) v219_306 (FrD.up (f := 131) (by decide) (FrD.up (f := 130) (by decide) (FrD.up (f := 129) (by decide) hF))) (by rw [show (up2 (up2 (up2 I73 129 (ma 0) v144_279) 130 (ma 0) v175_289) 131 (ma 0) 2) 129 (ma 0) = (v144_279 : Int32) from (show up2 I73 129 (ma 0) v144_279 129 (ma 0) = v144_279 from up2_s), show (up2 (up2 (up2 I73 129 (ma 0) v144_279) 130 (ma 0) v175_289) 131 (ma 0) 2) 130 (ma 0) = (v175_289 : Int32) from (show up2 (up2 I73 129 (ma 0) v144_279) 130 (ma 0) v175_289 130 (ma 0) = v175_289 from up2_s), show (up2 (up2 (up2 I73 129 (ma 0) v144_279) 130 (ma 0) v175_289) 131 (ma 0) 2) 131 (ma 0) = (2 : Int32) from (show up2 (up2 (up2 I73 129 (ma 0) v144_279) 130 (ma 0) v175_289) 131 (ma 0) 2 131 (ma 0) = 2 from up2_s)]; have := t_0; have := t_1; have := t_2; omega) (by omega) (by omega) _ _ _ hw (lv_sub hl [0, 2, 3, 4, 5] rfl)
                  · have h184_291 := h184_291
                    refine lv_if_eq (tgt := 200) hx hb dX11_drift_187 (by decide) (fun c187_307 => ?_) (fun c187_307 => absurd c187_307 (by decide))
                    refine lv_iconst (v := 2) hx hb dX11_drift_200 (by decide) ?_
                    refine lv_goto (tgt := 216) hx hb dX11_drift_201 (by decide) ?_
                    refine pf_X11_240 X hw hM.1 dX11_drift_216 (fun H locs hw => ?_)
                    have hw : PX G A s.heap (ch S (up2 (up2 (up2 I73 129 (ma 0) v144_279) 130 (ma 0) v175_289) 131 (ma 0) 2) (pJ S) (qI S) (qJ S)) H locs := hw
                    obtain ⟨v219_308, e219_308⟩ : ∃ y : Int32, y = k + 1 := ⟨_, rfl⟩
                    have t219_308 := iAdd e219_308 rfl t_1 (by omega) (by omega)
                    have t219 := t219_308
                    refine lv_iinc (v := v219_308) (lv' := [(4, .int v219_308), (5, .int v114_269), (3, .int v63_182), (0, .ref (ma 0)), (1, .int t), (2, .int n)]) hx hb dX11_drift_219 hl (k := 1) rfl (by rw [e219_308]; rfl) (by decide) rfl (fun ls hl => ?_)
                    refine lv_goto (tgt := 73) hx hb dX11_drift_222 (by decide) ?_
                    exact ih73 (up2 (up2 (up2 I73 129 (ma 0) v144_279) 130 (ma 0) v175_289) 131 (ma 0) 2) v219_308 (FrD.up (f := 131) (by decide) (FrD.up (f := 130) (by decide) (FrD.up (f := 129) (by decide) hF))) (by rw [show (up2 (up2 (up2 I73 129 (ma 0) v144_279) 130 (ma 0) v175_289) 131 (ma 0) 2) 129 (ma 0) = (v144_279 : Int32) from (show up2 I73 129 (ma 0) v144_279 129 (ma 0) = v144_279 from up2_s), show (up2 (up2 (up2 I73 129 (ma 0) v144_279) 130 (ma 0) v175_289) 131 (ma 0) 2) 130 (ma 0) = (v175_289 : Int32) from (show up2 (up2 I73 129 (ma 0) v144_279) 130 (ma 0) v175_289 130 (ma 0) = v175_289 from up2_s), show (up2 (up2 (up2 I73 129 (ma 0) v144_279) 130 (ma 0) v175_289) 131 (ma 0) 2) 131 (ma 0) = (2 : Int32) from (show up2 (up2 (up2 I73 129 (ma 0) v144_279) 130 (ma 0) v175_289) 131 (ma 0) 2 131 (ma 0) = 2 from up2_s)]; have := t_0; have := t_1; have := t_2; omega) (by omega) (by omega) _ _ _ hw (lv_sub hl [0, 2, 3, 4, 5] rfl)
                · have D106_268 := iNle c106_268 t_40 rfl
                  refine lv_iconst (v := 0) hx hb dX11_drift_109 (by decide) ?_
                  refine lv_goto (tgt := 114) hx hb dX11_drift_110 (by decide) ?_
                  refine lv_iadd hx hb dX11_drift_114 ?_
                  refine lv_topi (fun v114_309 e114_309 => ?_)
                  have t114_309 := iAdd e114_309 t_0 t_0 (by omega) (by omega)
                  have t114 := t114_309
                  refine lv_istore (lv' := [(5, .int v114_309), (4, .int k), (3, .int v63_182), (0, .ref (ma 0)), (1, .int t), (2, .int n)]) hx hb dX11_drift_115 hl (by decide) rfl (fun ls hl => ?_)
                  refine lv_aload_n hx hb dX11_drift_117 rfl (lv_at hl 3 rfl) ?_
                  refine lv_dup hx hb dX11_drift_118 rfl ?_
                  refine gf_X11_234 (v := I73 129 (ma 0)) X hw hM.1 rfl dX11_drift_119 ?_
                  refine lv_aload_n hx hb dX11_drift_122 rfl (lv_at hl 3 rfl) ?_
                  refine lv_iload hx hb dX11_drift_123 (lv_at hl 0 rfl) ?_
                  refine lv_iload hx hb dX11_drift_125 (lv_at hl 1 rfl) ?_
                  refine lv_iconst (v := 0) hx hb dX11_drift_127 (by decide) ?_
                  refine k_Vi (n := 3) X hw (rcvk (ci := 11) X hw hM.1 (fun _ _ _ _ _ _ _ => ⟨_, rfl⟩) rfl) (c_X11_streamOf l G _ ma v114_309 k 0 hM (show 0 ≤ (I73 120 (ma 0) : Int32).toInt ∧ (I73 120 (ma 0) : Int32).toInt ≤ 1 by omega) (by omega) (by omega)) wd_r25_13 wd_r25_14 wd_r25_15 wd_r1_5 wd_r25_16 ⟨by decide, by decide, by decide +kernel⟩ rfl rfl ⟨Nat.le_of_ble_eq_true rfl, Nat.le_of_ble_eq_true rfl⟩ rfl rfl hl.1 (Nat.le_of_ble_eq_true rfl) dX11_drift_128 ⟨Nat.le_of_ble_eq_true rfl, Nat.le_of_ble_eq_true rfl⟩ (fun r128_310 S128_312 H locs h128_311 hw => ?_)
                  have := t_0
                  obtain ⟨rfl, h128_311⟩ := h128_311
                  refine lv_aload_n hx hb dX11_drift_131 rfl (lv_at hl 3 rfl) ?_
                  refine lv_iload hx hb dX11_drift_132 (lv_at hl 1 rfl) ?_
                  refine lv_iconst (v := 0) hx hb dX11_drift_134 (by decide) ?_
                  refine k_Vi (n := 2) X hw (rcvk (ci := 11) X hw hM.1 (fun _ _ _ _ _ _ _ => ⟨_, rfl⟩) rfl) (c_X11_windOf l G _ ma k 0 hM (show 0 ≤ (I73 120 (ma 0) : Int32).toInt ∧ (I73 120 (ma 0) : Int32).toInt ≤ 1 by omega) (by omega)) wd_r24_23 wd_r25_0 wd_r25_1 wd_r1_5 wd_r25_2 ⟨by decide, by decide, by decide +kernel⟩ rfl rfl ⟨Nat.le_of_ble_eq_true rfl, Nat.le_of_ble_eq_true rfl⟩ rfl rfl hl.1 (Nat.le_of_ble_eq_true rfl) dX11_drift_135 ⟨Nat.le_of_ble_eq_true rfl, Nat.le_of_ble_eq_true rfl⟩ (fun r135_313 S135_315 H locs h135_314 hw => ?_)
                  have := t_0
                  obtain ⟨rfl, h135_314⟩ := h135_314
                  refine lv_iload_n hx hb dX11_drift_138 rfl (lv_at hl 2 rfl) ?_
                  refine lv_imul hx hb dX11_drift_139 ?_
                  refine lv_topi (fun v139_316 e139_316 => ?_)
                  refine lv_bipush (v := 100) hx hb dX11_drift_140 (by decide) ?_
                  refine lv_idiv hx hb dX11_drift_142 (by decide) ?_
                  refine lv_topi (fun v142_317 e142_317 => ?_)
                  refine lv_iadd hx hb dX11_drift_143 ?_
                  refine lv_topi (fun v143_318 e143_318 => ?_)
                  refine lv_iadd hx hb dX11_drift_144 ?_
                  refine lv_topi (fun v144_319 e144_319 => ?_)
                  refine pf_X11_234 X hw hM.1 dX11_drift_145 (fun H locs hw => ?_)
                  have hw : PX G A s.heap (ch S (up2 I73 129 (ma 0) v144_319) (pJ S) (qI S) (qJ S)) H locs := hw
                  refine lv_aload_n hx hb dX11_drift_148 rfl (lv_at hl 3 rfl) ?_
                  refine lv_dup hx hb dX11_drift_149 rfl ?_
                  refine gf_X11_231 (v := I73 130 (ma 0)) X hw hM.1 rfl dX11_drift_150 ?_
                  refine lv_aload_n hx hb dX11_drift_153 rfl (lv_at hl 3 rfl) ?_
                  refine lv_iload hx hb dX11_drift_154 (lv_at hl 0 rfl) ?_
                  refine lv_iload hx hb dX11_drift_156 (lv_at hl 1 rfl) ?_
                  refine lv_iconst (v := 1) hx hb dX11_drift_158 (by decide) ?_
                  refine k_Vi (n := 3) X hw (rcvk (ci := 11) X hw hM.1 (fun _ _ _ _ _ _ _ => ⟨_, rfl⟩) rfl) (c_X11_streamOf l G _ ma v114_309 k 1 hM (show 0 ≤ (I73 120 (ma 0) : Int32).toInt ∧ (I73 120 (ma 0) : Int32).toInt ≤ 1 by omega) (by omega) (by omega)) wd_r25_13 wd_r25_14 wd_r25_15 wd_r1_5 wd_r25_16 ⟨by decide, by decide, by decide +kernel⟩ rfl rfl ⟨Nat.le_of_ble_eq_true rfl, Nat.le_of_ble_eq_true rfl⟩ rfl rfl hl.1 (Nat.le_of_ble_eq_true rfl) dX11_drift_159 ⟨Nat.le_of_ble_eq_true rfl, Nat.le_of_ble_eq_true rfl⟩ (fun r159_320 S159_322 H locs h159_321 hw => ?_)
                  have := t_1
                  obtain ⟨rfl, h159_321⟩ := h159_321
                  refine lv_aload_n hx hb dX11_drift_162 rfl (lv_at hl 3 rfl) ?_
                  refine lv_iload hx hb dX11_drift_163 (lv_at hl 1 rfl) ?_
                  refine lv_iconst (v := 1) hx hb dX11_drift_165 (by decide) ?_
                  refine k_Vi (n := 2) X hw (rcvk (ci := 11) X hw hM.1 (fun _ _ _ _ _ _ _ => ⟨_, rfl⟩) rfl) (c_X11_windOf l G _ ma k 1 hM (show 0 ≤ (I73 120 (ma 0) : Int32).toInt ∧ (I73 120 (ma 0) : Int32).toInt ≤ 1 by omega) (by omega)) wd_r24_23 wd_r25_0 wd_r25_1 wd_r1_5 wd_r25_2 ⟨by decide, by decide, by decide +kernel⟩ rfl rfl ⟨Nat.le_of_ble_eq_true rfl, Nat.le_of_ble_eq_true rfl⟩ rfl rfl hl.1 (Nat.le_of_ble_eq_true rfl) dX11_drift_166 ⟨Nat.le_of_ble_eq_true rfl, Nat.le_of_ble_eq_true rfl⟩ (fun r166_323 S166_325 H locs h166_324 hw => ?_)
                  have := t_1
                  obtain ⟨rfl, h166_324⟩ := h166_324
                  refine lv_iload_n hx hb dX11_drift_169 rfl (lv_at hl 2 rfl) ?_
                  refine lv_imul hx hb dX11_drift_170 ?_
                  refine lv_topi (fun v170_326 e170_326 => ?_)
                  refine lv_bipush (v := 100) hx hb dX11_drift_171 (by decide) ?_
                  refine lv_idiv hx hb dX11_drift_173 (by decide) ?_
                  refine lv_topi (fun v173_327 e173_327 => ?_)
                  refine lv_iadd hx hb dX11_drift_174 ?_
                  refine lv_topi (fun v174_328 e174_328 => ?_)
                  refine lv_iadd hx hb dX11_drift_175 ?_
                  refine lv_topi (fun v175_329 e175_329 => ?_)
                  refine pf_X11_231 X hw hM.1 dX11_drift_176 (fun H locs hw => ?_)
                  have hw : PX G A s.heap (ch S (up2 (up2 I73 129 (ma 0) v144_319) 130 (ma 0) v175_329) (pJ S) (qI S) (qJ S)) H locs := hw
                  refine lv_aload_n hx hb dX11_drift_179 rfl (lv_at hl 3 rfl) ?_
                  refine lv_aload_n hx hb dX11_drift_180 rfl (lv_at hl 3 rfl) ?_
                  refine gf_X11_234 (v := v144_319) X hw hM.1 (show up2 I73 129 (ma 0) v144_319 129 (ma 0) = v144_319 from up2_s) dX11_drift_181 ?_
                  refine k_Si (n := 1) X hw (c_X11_isPoint l G _ v144_319) wd_r29_19 wd_r29_20 wd_r1_5 wd_r29_21 ⟨by decide, by decide, by decide +kernel⟩ rfl rfl ⟨Nat.le_of_ble_eq_true rfl, Nat.le_of_ble_eq_true rfl⟩ rfl rfl hl.1 (Nat.le_of_ble_eq_true rfl) dX11_drift_184 ⟨Nat.le_of_ble_eq_true rfl, Nat.le_of_ble_eq_true rfl⟩ (fun r184_330 S184_332 H locs h184_331 hw => ?_)
                  rcases h184_331 with ⟨rfl, rfl, h184_331⟩ | ⟨rfl, rfl, h184_331⟩
                  · have h184_331 := h184_331
                    refine lv_if_eq (tgt := 200) hx hb dX11_drift_187 (by decide) (fun c187_333 => absurd c187_333 (by decide)) (fun c187_333 => ?_)
                    refine lv_aload_n hx hb dX11_drift_190 rfl (lv_at hl 3 rfl) ?_
                    refine gf_X11_231 (v := v175_329) X hw hM.1 (show up2 (up2 I73 129 (ma 0) v144_319) 130 (ma 0) v175_329 130 (ma 0) = v175_329 from up2_s) dX11_drift_191 ?_
                    refine k_Si (n := 1) X hw (c_X11_isPoint l G _ v175_329) wd_r29_19 wd_r29_20 wd_r1_5 wd_r29_21 ⟨by decide, by decide, by decide +kernel⟩ rfl rfl ⟨Nat.le_of_ble_eq_true rfl, Nat.le_of_ble_eq_true rfl⟩ rfl rfl hl.1 (Nat.le_of_ble_eq_true rfl) dX11_drift_194 ⟨Nat.le_of_ble_eq_true rfl, Nat.le_of_ble_eq_true rfl⟩ (fun r194_334 S194_336 H locs h194_335 hw => ?_)
                    rcases h194_335 with ⟨rfl, rfl, h194_335⟩ | ⟨rfl, rfl, h194_335⟩
                    · have h194_335 := h194_335
                      refine lv_if_ne (tgt := 204) hx hb dX11_drift_197 (by decide) (fun c197_337 => ?_) (fun c197_337 => absurd c197_337 (by decide))
                      refine lv_aload_n hx hb dX11_drift_204 rfl (lv_at hl 3 rfl) ?_
                      refine k_Vi (n := 0) X hw (rcvk (ci := 11) X hw hM.1 (fun _ _ _ _ _ _ _ => ⟨_, rfl⟩) rfl) (c_X11_isOnLand l G _ ma hM (show 0 ≤ (I73 120 (ma 0) : Int32).toInt ∧ (I73 120 (ma 0) : Int32).toInt ≤ 1 by omega) (px_of (a := (v144_319 : Int32)) (b := (v175_329 : Int32)) (show up2 I73 129 (ma 0) v144_319 129 (ma 0) = v144_319 from up2_s) (show up2 (up2 I73 129 (ma 0) v144_319) 130 (ma 0) v175_329 130 (ma 0) = v175_329 from up2_s) (by omega))) wd_r31_7 wd_r31_8 wd_r31_9 wd_r1_5 wd_r31_10 ⟨by decide, by decide, by decide +kernel⟩ rfl rfl ⟨Nat.le_of_ble_eq_true rfl, Nat.le_of_ble_eq_true rfl⟩ rfl rfl hl.1 (Nat.le_of_ble_eq_true rfl) dX11_drift_205 ⟨Nat.le_of_ble_eq_true rfl, Nat.le_of_ble_eq_true rfl⟩ (fun r205_338 S205_340 H locs h205_339 hw => ?_)
                      rcases h205_339 with ⟨rfl, rfl, h205_339⟩ | ⟨rfl, rfl, h205_339⟩
                      · have h205_339 := h205_339
                        refine lv_if_eq (tgt := 215) hx hb dX11_drift_208 (by decide) (fun c208_341 => absurd c208_341 (by decide)) (fun c208_341 => ?_)
                        refine lv_iconst (v := 1) hx hb dX11_drift_211 (by decide) ?_
                        refine lv_goto (tgt := 216) hx hb dX11_drift_212 (by decide) ?_
                        refine pf_X11_240 X hw hM.1 dX11_drift_216 (fun H locs hw => ?_)
                        have hw : PX G A s.heap (ch S (up2 (up2 (up2 I73 129 (ma 0) v144_319) 130 (ma 0) v175_329) 131 (ma 0) 1) (pJ S) (qI S) (qJ S)) H locs := hw
                        obtain ⟨v219_342, e219_342⟩ : ∃ y : Int32, y = k + 1 := ⟨_, rfl⟩
                        have t219_342 := iAdd e219_342 rfl t_1 (by omega) (by omega)
                        have t219 := t219_342
                        refine lv_iinc (v := v219_342) (lv' := [(4, .int v219_342), (5, .int v114_309), (3, .int v63_182), (0, .ref (ma 0)), (1, .int t), (2, .int n)]) hx hb dX11_drift_219 hl (k := 1) rfl (by rw [e219_342]; rfl) (by decide) rfl (fun ls hl => ?_)
                        refine lv_goto (tgt := 73) hx hb dX11_drift_222 (by decide) ?_
                        exact ih73 (up2 (up2 (up2 I73 129 (ma 0) v144_319) 130 (ma 0) v175_329) 131 (ma 0) 1) v219_342 (FrD.up (f := 131) (by decide) (FrD.up (f := 130) (by decide) (FrD.up (f := 129) (by decide) hF))) (by rw [show (up2 (up2 (up2 I73 129 (ma 0) v144_319) 130 (ma 0) v175_329) 131 (ma 0) 1) 129 (ma 0) = (v144_319 : Int32) from (show up2 I73 129 (ma 0) v144_319 129 (ma 0) = v144_319 from up2_s), show (up2 (up2 (up2 I73 129 (ma 0) v144_319) 130 (ma 0) v175_329) 131 (ma 0) 1) 130 (ma 0) = (v175_329 : Int32) from (show up2 (up2 I73 129 (ma 0) v144_319) 130 (ma 0) v175_329 130 (ma 0) = v175_329 from up2_s), show (up2 (up2 (up2 I73 129 (ma 0) v144_319) 130 (ma 0) v175_329) 131 (ma 0) 1) 131 (ma 0) = (1 : Int32) from (show up2 (up2 (up2 I73 129 (ma 0) v144_319) 130 (ma 0) v175_329) 131 (ma 0) 1 131 (ma 0) = 1 from up2_s)]; have := t_0; have := t_1; have := t_2; omega) (by omega) (by omega) _ _ _ hw (lv_sub hl [0, 2, 3, 4, 5] rfl)
                      · have h205_339 := h205_339
                        refine lv_if_eq (tgt := 215) hx hb dX11_drift_208 (by decide) (fun c208_343 => ?_) (fun c208_343 => absurd c208_343 (by decide))
                        refine lv_iconst (v := 0) hx hb dX11_drift_215 (by decide) ?_
                        refine pf_X11_240 X hw hM.1 dX11_drift_216 (fun H locs hw => ?_)
                        have hw : PX G A s.heap (ch S (up2 (up2 (up2 I73 129 (ma 0) v144_319) 130 (ma 0) v175_329) 131 (ma 0) 0) (pJ S) (qI S) (qJ S)) H locs := hw
                        obtain ⟨v219_344, e219_344⟩ : ∃ y : Int32, y = k + 1 := ⟨_, rfl⟩
                        have t219_344 := iAdd e219_344 rfl t_1 (by omega) (by omega)
                        have t219 := t219_344
                        refine lv_iinc (v := v219_344) (lv' := [(4, .int v219_344), (5, .int v114_309), (3, .int v63_182), (0, .ref (ma 0)), (1, .int t), (2, .int n)]) hx hb dX11_drift_219 hl (k := 1) rfl (by rw [e219_344]; rfl) (by decide) rfl (fun ls hl => ?_)
                        refine lv_goto (tgt := 73) hx hb dX11_drift_222 (by decide) ?_
                        exact ih73 (up2 (up2 (up2 I73 129 (ma 0) v144_319) 130 (ma 0) v175_329) 131 (ma 0) 0) v219_344 (FrD.up (f := 131) (by decide) (FrD.up (f := 130) (by decide) (FrD.up (f := 129) (by decide) hF))) (by rw [show (up2 (up2 (up2 I73 129 (ma 0) v144_319) 130 (ma 0) v175_329) 131 (ma 0) 0) 129 (ma 0) = (v144_319 : Int32) from (show up2 I73 129 (ma 0) v144_319 129 (ma 0) = v144_319 from up2_s), show (up2 (up2 (up2 I73 129 (ma 0) v144_319) 130 (ma 0) v175_329) 131 (ma 0) 0) 130 (ma 0) = (v175_329 : Int32) from (show up2 (up2 I73 129 (ma 0) v144_319) 130 (ma 0) v175_329 130 (ma 0) = v175_329 from up2_s), show (up2 (up2 (up2 I73 129 (ma 0) v144_319) 130 (ma 0) v175_329) 131 (ma 0) 0) 131 (ma 0) = (0 : Int32) from (show up2 (up2 (up2 I73 129 (ma 0) v144_319) 130 (ma 0) v175_329) 131 (ma 0) 0 131 (ma 0) = 0 from up2_s)]; have := t_0; have := t_1; have := t_2; omega) (by omega) (by omega) _ _ _ hw (lv_sub hl [0, 2, 3, 4, 5] rfl)
                    · have h194_335 := h194_335
                      refine lv_if_ne (tgt := 204) hx hb dX11_drift_197 (by decide) (fun c197_345 => absurd c197_345 (by decide)) (fun c197_345 => ?_)
                      refine lv_iconst (v := 2) hx hb dX11_drift_200 (by decide) ?_
                      refine lv_goto (tgt := 216) hx hb dX11_drift_201 (by decide) ?_
                      refine pf_X11_240 X hw hM.1 dX11_drift_216 (fun H locs hw => ?_)
                      have hw : PX G A s.heap (ch S (up2 (up2 (up2 I73 129 (ma 0) v144_319) 130 (ma 0) v175_329) 131 (ma 0) 2) (pJ S) (qI S) (qJ S)) H locs := hw
                      obtain ⟨v219_346, e219_346⟩ : ∃ y : Int32, y = k + 1 := ⟨_, rfl⟩
                      have t219_346 := iAdd e219_346 rfl t_1 (by omega) (by omega)
                      have t219 := t219_346
                      refine lv_iinc (v := v219_346) (lv' := [(4, .int v219_346), (5, .int v114_309), (3, .int v63_182), (0, .ref (ma 0)), (1, .int t), (2, .int n)]) hx hb dX11_drift_219 hl (k := 1) rfl (by rw [e219_346]; rfl) (by decide) rfl (fun ls hl => ?_)
                      refine lv_goto (tgt := 73) hx hb dX11_drift_222 (by decide) ?_
                      exact ih73 (up2 (up2 (up2 I73 129 (ma 0) v144_319) 130 (ma 0) v175_329) 131 (ma 0) 2) v219_346 (FrD.up (f := 131) (by decide) (FrD.up (f := 130) (by decide) (FrD.up (f := 129) (by decide) hF))) (by rw [show (up2 (up2 (up2 I73 129 (ma 0) v144_319) 130 (ma 0) v175_329) 131 (ma 0) 2) 129 (ma 0) = (v144_319 : Int32) from (show up2 I73 129 (ma 0) v144_319 129 (ma 0) = v144_319 from up2_s), show (up2 (up2 (up2 I73 129 (ma 0) v144_319) 130 (ma 0) v175_329) 131 (ma 0) 2) 130 (ma 0) = (v175_329 : Int32) from (show up2 (up2 I73 129 (ma 0) v144_319) 130 (ma 0) v175_329 130 (ma 0) = v175_329 from up2_s), show (up2 (up2 (up2 I73 129 (ma 0) v144_319) 130 (ma 0) v175_329) 131 (ma 0) 2) 131 (ma 0) = (2 : Int32) from (show up2 (up2 (up2 I73 129 (ma 0) v144_319) 130 (ma 0) v175_329) 131 (ma 0) 2 131 (ma 0) = 2 from up2_s)]; have := t_0; have := t_1; have := t_2; omega) (by omega) (by omega) _ _ _ hw (lv_sub hl [0, 2, 3, 4, 5] rfl)
                  · have h184_331 := h184_331
                    refine lv_if_eq (tgt := 200) hx hb dX11_drift_187 (by decide) (fun c187_347 => ?_) (fun c187_347 => absurd c187_347 (by decide))
                    refine lv_iconst (v := 2) hx hb dX11_drift_200 (by decide) ?_
                    refine lv_goto (tgt := 216) hx hb dX11_drift_201 (by decide) ?_
                    refine pf_X11_240 X hw hM.1 dX11_drift_216 (fun H locs hw => ?_)
                    have hw : PX G A s.heap (ch S (up2 (up2 (up2 I73 129 (ma 0) v144_319) 130 (ma 0) v175_329) 131 (ma 0) 2) (pJ S) (qI S) (qJ S)) H locs := hw
                    obtain ⟨v219_348, e219_348⟩ : ∃ y : Int32, y = k + 1 := ⟨_, rfl⟩
                    have t219_348 := iAdd e219_348 rfl t_1 (by omega) (by omega)
                    have t219 := t219_348
                    refine lv_iinc (v := v219_348) (lv' := [(4, .int v219_348), (5, .int v114_309), (3, .int v63_182), (0, .ref (ma 0)), (1, .int t), (2, .int n)]) hx hb dX11_drift_219 hl (k := 1) rfl (by rw [e219_348]; rfl) (by decide) rfl (fun ls hl => ?_)
                    refine lv_goto (tgt := 73) hx hb dX11_drift_222 (by decide) ?_
                    exact ih73 (up2 (up2 (up2 I73 129 (ma 0) v144_319) 130 (ma 0) v175_329) 131 (ma 0) 2) v219_348 (FrD.up (f := 131) (by decide) (FrD.up (f := 130) (by decide) (FrD.up (f := 129) (by decide) hF))) (by rw [show (up2 (up2 (up2 I73 129 (ma 0) v144_319) 130 (ma 0) v175_329) 131 (ma 0) 2) 129 (ma 0) = (v144_319 : Int32) from (show up2 I73 129 (ma 0) v144_319 129 (ma 0) = v144_319 from up2_s), show (up2 (up2 (up2 I73 129 (ma 0) v144_319) 130 (ma 0) v175_329) 131 (ma 0) 2) 130 (ma 0) = (v175_329 : Int32) from (show up2 (up2 I73 129 (ma 0) v144_319) 130 (ma 0) v175_329 130 (ma 0) = v175_329 from up2_s), show (up2 (up2 (up2 I73 129 (ma 0) v144_319) 130 (ma 0) v175_329) 131 (ma 0) 2) 131 (ma 0) = (2 : Int32) from (show up2 (up2 (up2 I73 129 (ma 0) v144_319) 130 (ma 0) v175_329) 131 (ma 0) 2 131 (ma 0) = 2 from up2_s)]; have := t_0; have := t_1; have := t_2; omega) (by omega) (by omega) _ _ _ hw (lv_sub hl [0, 2, 3, 4, 5] rfl)
      exact lp73 _ (up2 (up2 (up2 (pI S) 129 (ma 0) v6_1) 130 (ma 0) v16_2) 131 (ma 0) 1) v70_183 (FrD.up (f := 131) (by decide) (FrD.up (f := 130) (by decide) (FrD.up (f := 129) (by decide) FrD.rf))) (by rw [show (up2 (up2 (up2 (pI S) 129 (ma 0) v6_1) 130 (ma 0) v16_2) 131 (ma 0) 1) 129 (ma 0) = (v6_1 : Int32) from (show up2 (pI S) 129 (ma 0) v6_1 129 (ma 0) = v6_1 from up2_s), show (up2 (up2 (up2 (pI S) 129 (ma 0) v6_1) 130 (ma 0) v16_2) 131 (ma 0) 1) 130 (ma 0) = (v16_2 : Int32) from (show up2 (up2 (pI S) 129 (ma 0) v6_1) 130 (ma 0) v16_2 130 (ma 0) = v16_2 from up2_s), show (up2 (up2 (up2 (pI S) 129 (ma 0) v6_1) 130 (ma 0) v16_2) 131 (ma 0) 1) 131 (ma 0) = (1 : Int32) from (show up2 (up2 (up2 (pI S) 129 (ma 0) v6_1) 130 (ma 0) v16_2) 131 (ma 0) 1 131 (ma 0) = 1 from up2_s)]; have := t_0; have := t_1; have := t_2; omega) (by omega) (Nat.lt_succ_self _) _ _ _ hw (lv_sub hl [0, 1, 2, 3, 4] rfl)
    · have h32_176 := h32_176
      refine lv_if_eq (tgt := 42) hx hb dX11_drift_35 (by decide) (fun c35_349 => ?_) (fun c35_349 => absurd c35_349 (by decide))
      refine lv_iconst (v := 0) hx hb dX11_drift_42 (by decide) ?_
      refine pf_X11_240 X hw hM.1 dX11_drift_43 (fun H locs hw => ?_)
      have hw : PX G A s.heap (ch S (up2 (up2 (up2 (pI S) 129 (ma 0) v6_1) 130 (ma 0) v16_2) 131 (ma 0) 0) (pJ S) (qI S) (qJ S)) H locs := hw
      refine lv_aload_n hx hb dX11_drift_46 rfl (lv_at hl 0 rfl) ?_
      refine gf_X11_77 (b := (ma 17)) X hw hM.1 (mr_17 hM) dX11_drift_47 ?_
      refine lv_iconst (v := 4) hx hb dX11_drift_50 (by decide) ?_
      refine lv_aload_n hx hb dX11_drift_51 rfl (lv_at hl 0 rfl) ?_
      refine gf_X11_146 (v := (pI S) 120 (ma 0)) X hw hM.1 rfl dX11_drift_52 ?_
      refine lv_imul hx hb dX11_drift_55 ?_
      refine lv_topi (fun v55_350 e55_350 => ?_)
      have t55_350 := iMul e55_350 t_4 rfl (by omega) (by omega)
      have t55 := t55_350
      refine lv_aload_n hx hb dX11_drift_56 rfl (lv_at hl 0 rfl) ?_
      refine gf_X11_90 (b := (ma 24)) X hw hM.1 (mr_24 hM) dX11_drift_57 ?_
      refine lv_iload_n hx hb dX11_drift_60 rfl (lv_at hl 1 rfl) ?_
      refine q_ldI X hw (mk_24 hM) (vin (mn_24 hM) (by omega) (by omega)) dX11_drift_61 ?_
      refine lv_topi (fun v61_351 e61_351 => ?_)
      have e61_351 : v61_351 = (qI S) (ma 24) t.toNatClampNeg := e61_351
      have g61 := congrArg Int32.toInt e61_351
      refine lv_iadd hx hb dX11_drift_62 ?_
      refine lv_topi (fun v62_352 e62_352 => ?_)
      have t62_352 := iAdd e62_352 rfl rfl (by omega) (by omega)
      have t62 := t62_352
      refine q_ldI X hw (mk_17 hM) (vin (mn_17 hM) (by omega) (by omega)) dX11_drift_63 ?_
      refine lv_topi (fun v63_353 e63_353 => ?_)
      have e63_353 : v63_353 = (qI S) (ma 17) v62_352.toNatClampNeg := e63_353
      refine lv_istore_n (lv' := [(3, .int v63_353), (0, .ref (ma 0)), (1, .int t), (2, .int n)]) hx hb dX11_drift_64 rfl hl (by decide) rfl (fun ls hl => ?_)
      refine lv_aload_n hx hb dX11_drift_65 rfl (lv_at hl 1 rfl) ?_
      refine gf_X11_99 (b := (ma 27)) X hw hM.1 (mr_27 hM) dX11_drift_66 ?_
      refine lv_iload_n hx hb dX11_drift_69 rfl (lv_at hl 2 rfl) ?_
      refine q_ldI X hw (mk_27 hM) (vin (mn_27 hM) (by omega) (by omega)) dX11_drift_70 ?_
      refine lv_topi (fun v70_354 e70_354 => ?_)
      have e70_354 : v70_354 = (qI S) (ma 27) t.toNatClampNeg := e70_354
      have g70 := congrArg Int32.toInt e70_354
      refine lv_istore (lv' := [(4, .int v70_354), (3, .int v63_353), (0, .ref (ma 0)), (1, .int t), (2, .int n)]) hx hb dX11_drift_71 hl (by decide) rfl (fun ls hl => ?_)
      have lp73 : ∀ (N9 : Nat) (I73 : Nat → Nat → Int32) (k : Int32), (FrD (pI S) I73) → ((I73 131 (ma 0)).toInt ≠ 2 → 0 ≤ (I73 129 (ma 0)).toInt ∧ (I73 129 (ma 0)).toInt < 80 ∧ 0 ≤ (I73 130 (ma 0)).toInt ∧ (I73 130 (ma 0)).toInt < 80) → (0 ≤ k.toInt ∧ k.toInt ≤ 72) → (72 - k.toInt).toNat < N9 → ∀ (H : Heap) (locs : List Loc) (ls : Array Slot), PX G A s.heap (ch S I73 (pJ S) (qI S) (qJ S)) H locs → lv_has ls 6 [(4, .int k), (3, .int v63_353), (0, .ref (ma 0)), (1, .int t), (2, .int n)] → W p l e (Rm 2 0 0) s m args below meth c H locs 0 0 Q (F0 m 73 ls []) := by
        intro N9
        induction N9 with
        | zero => intro I73 k hF hpt hk hm; exact absurd hm (Nat.not_lt_zero _)
        | succ N9 ih73 =>
          intro I73 k hF hpt hk hm H locs ls hw hl
          have hbF := FrD.at hF (f := 120) (by decide) (ma 0)
          refine lv_iload hx hb dX11_drift_73 (lv_at hl 0 rfl) ?_
          refine lv_iload_n hx hb dX11_drift_75 rfl (lv_at hl 4 rfl) ?_
          refine lv_icmp_ge (tgt := 225) hx hb dX11_drift_76 (by decide) (fun c76_355 => ?_) (fun c76_355 => ?_)
          · have D76_355 := iLe c76_355 rfl rfl
            exact hret _ _ _ _ _ ⟨_, rfl, hF, hpt⟩ hw dX11_drift_225
          · have D76_355 := iNle c76_355 rfl rfl
            refine lv_aload_n hx hb dX11_drift_79 rfl (lv_at hl 2 rfl) ?_
            refine gf_X11_240 (v := I73 131 (ma 0)) X hw hM.1 rfl dX11_drift_80 ?_
            refine lv_if_ne (tgt := 225) hx hb dX11_drift_83 (by decide) (fun c83_356 => ?_) (fun c83_356 => ?_)
            · skip
              exact hret _ _ _ _ _ ⟨_, rfl, hF, hpt⟩ hw dX11_drift_225
            · have D83_356 := iEq c83_356 rfl t_0
              refine lv_aload_n hx hb dX11_drift_86 rfl (lv_at hl 2 rfl) ?_
              refine gf_X11_234 (v := I73 129 (ma 0)) X hw hM.1 rfl dX11_drift_87 ?_
              refine lv_bipush (v := 40) hx hb dX11_drift_90 (by decide) ?_
              refine lv_icmp_ge (tgt := 99) hx hb dX11_drift_92 (by decide) (fun c92_357 => ?_) (fun c92_357 => ?_)
              · have D92_357 := iLe c92_357 t_40 rfl
                refine lv_iconst (v := 1) hx hb dX11_drift_99 (by decide) ?_
                refine lv_aload_n hx hb dX11_drift_100 rfl (lv_at hl 2 rfl) ?_
                refine gf_X11_231 (v := I73 130 (ma 0)) X hw hM.1 rfl dX11_drift_101 ?_
                refine lv_bipush (v := 40) hx hb dX11_drift_104 (by decide) ?_
                refine lv_icmp_ge (tgt := 113) hx hb dX11_drift_106 (by decide) (fun c106_358 => ?_) (fun c106_358 => ?_)
                · have D106_358 := iLe c106_358 t_40 rfl
                  refine lv_iconst (v := 2) hx hb dX11_drift_113 (by decide) ?_
                  refine lv_iadd hx hb dX11_drift_114 ?_
                  refine lv_topi (fun v114_359 e114_359 => ?_)
                  have t114_359 := iAdd e114_359 t_1 t_2 (by omega) (by omega)
                  have t114 := t114_359
                  refine lv_istore (lv' := [(5, .int v114_359), (4, .int k), (3, .int v63_353), (0, .ref (ma 0)), (1, .int t), (2, .int n)]) hx hb dX11_drift_115 hl (by decide) rfl (fun ls hl => ?_)
                  refine lv_aload_n hx hb dX11_drift_117 rfl (lv_at hl 3 rfl) ?_
                  refine lv_dup hx hb dX11_drift_118 rfl ?_
                  refine gf_X11_234 (v := I73 129 (ma 0)) X hw hM.1 rfl dX11_drift_119 ?_
                  refine lv_aload_n hx hb dX11_drift_122 rfl (lv_at hl 3 rfl) ?_
                  refine lv_iload hx hb dX11_drift_123 (lv_at hl 0 rfl) ?_
                  refine lv_iload hx hb dX11_drift_125 (lv_at hl 1 rfl) ?_
                  refine lv_iconst (v := 0) hx hb dX11_drift_127 (by decide) ?_
                  refine k_Vi (n := 3) X hw (rcvk (ci := 11) X hw hM.1 (fun _ _ _ _ _ _ _ => ⟨_, rfl⟩) rfl) (c_X11_streamOf l G _ ma v114_359 k 0 hM (show 0 ≤ (I73 120 (ma 0) : Int32).toInt ∧ (I73 120 (ma 0) : Int32).toInt ≤ 1 by omega) (by omega) (by omega)) wd_r25_13 wd_r25_14 wd_r25_15 wd_r1_5 wd_r25_16 ⟨by decide, by decide, by decide +kernel⟩ rfl rfl ⟨Nat.le_of_ble_eq_true rfl, Nat.le_of_ble_eq_true rfl⟩ rfl rfl hl.1 (Nat.le_of_ble_eq_true rfl) dX11_drift_128 ⟨Nat.le_of_ble_eq_true rfl, Nat.le_of_ble_eq_true rfl⟩ (fun r128_360 S128_362 H locs h128_361 hw => ?_)
                  have := t_0
                  obtain ⟨rfl, h128_361⟩ := h128_361
                  refine lv_aload_n hx hb dX11_drift_131 rfl (lv_at hl 3 rfl) ?_
                  refine lv_iload hx hb dX11_drift_132 (lv_at hl 1 rfl) ?_
                  refine lv_iconst (v := 0) hx hb dX11_drift_134 (by decide) ?_
                  refine k_Vi (n := 2) X hw (rcvk (ci := 11) X hw hM.1 (fun _ _ _ _ _ _ _ => ⟨_, rfl⟩) rfl) (c_X11_windOf l G _ ma k 0 hM (show 0 ≤ (I73 120 (ma 0) : Int32).toInt ∧ (I73 120 (ma 0) : Int32).toInt ≤ 1 by omega) (by omega)) wd_r24_23 wd_r25_0 wd_r25_1 wd_r1_5 wd_r25_2 ⟨by decide, by decide, by decide +kernel⟩ rfl rfl ⟨Nat.le_of_ble_eq_true rfl, Nat.le_of_ble_eq_true rfl⟩ rfl rfl hl.1 (Nat.le_of_ble_eq_true rfl) dX11_drift_135 ⟨Nat.le_of_ble_eq_true rfl, Nat.le_of_ble_eq_true rfl⟩ (fun r135_363 S135_365 H locs h135_364 hw => ?_)
                  have := t_0
                  obtain ⟨rfl, h135_364⟩ := h135_364
                  refine lv_iload_n hx hb dX11_drift_138 rfl (lv_at hl 2 rfl) ?_
                  refine lv_imul hx hb dX11_drift_139 ?_
                  refine lv_topi (fun v139_366 e139_366 => ?_)
                  refine lv_bipush (v := 100) hx hb dX11_drift_140 (by decide) ?_
                  refine lv_idiv hx hb dX11_drift_142 (by decide) ?_
                  refine lv_topi (fun v142_367 e142_367 => ?_)
                  refine lv_iadd hx hb dX11_drift_143 ?_
                  refine lv_topi (fun v143_368 e143_368 => ?_)
                  refine lv_iadd hx hb dX11_drift_144 ?_
                  refine lv_topi (fun v144_369 e144_369 => ?_)
                  refine pf_X11_234 X hw hM.1 dX11_drift_145 (fun H locs hw => ?_)
                  have hw : PX G A s.heap (ch S (up2 I73 129 (ma 0) v144_369) (pJ S) (qI S) (qJ S)) H locs := hw
                  refine lv_aload_n hx hb dX11_drift_148 rfl (lv_at hl 3 rfl) ?_
                  refine lv_dup hx hb dX11_drift_149 rfl ?_
                  refine gf_X11_231 (v := I73 130 (ma 0)) X hw hM.1 rfl dX11_drift_150 ?_
                  refine lv_aload_n hx hb dX11_drift_153 rfl (lv_at hl 3 rfl) ?_
                  refine lv_iload hx hb dX11_drift_154 (lv_at hl 0 rfl) ?_
                  refine lv_iload hx hb dX11_drift_156 (lv_at hl 1 rfl) ?_
                  refine lv_iconst (v := 1) hx hb dX11_drift_158 (by decide) ?_
                  refine k_Vi (n := 3) X hw (rcvk (ci := 11) X hw hM.1 (fun _ _ _ _ _ _ _ => ⟨_, rfl⟩) rfl) (c_X11_streamOf l G _ ma v114_359 k 1 hM (show 0 ≤ (I73 120 (ma 0) : Int32).toInt ∧ (I73 120 (ma 0) : Int32).toInt ≤ 1 by omega) (by omega) (by omega)) wd_r25_13 wd_r25_14 wd_r25_15 wd_r1_5 wd_r25_16 ⟨by decide, by decide, by decide +kernel⟩ rfl rfl ⟨Nat.le_of_ble_eq_true rfl, Nat.le_of_ble_eq_true rfl⟩ rfl rfl hl.1 (Nat.le_of_ble_eq_true rfl) dX11_drift_159 ⟨Nat.le_of_ble_eq_true rfl, Nat.le_of_ble_eq_true rfl⟩ (fun r159_370 S159_372 H locs h159_371 hw => ?_)
                  have := t_1
                  obtain ⟨rfl, h159_371⟩ := h159_371
                  refine lv_aload_n hx hb dX11_drift_162 rfl (lv_at hl 3 rfl) ?_
                  refine lv_iload hx hb dX11_drift_163 (lv_at hl 1 rfl) ?_
                  refine lv_iconst (v := 1) hx hb dX11_drift_165 (by decide) ?_
                  refine k_Vi (n := 2) X hw (rcvk (ci := 11) X hw hM.1 (fun _ _ _ _ _ _ _ => ⟨_, rfl⟩) rfl) (c_X11_windOf l G _ ma k 1 hM (show 0 ≤ (I73 120 (ma 0) : Int32).toInt ∧ (I73 120 (ma 0) : Int32).toInt ≤ 1 by omega) (by omega)) wd_r24_23 wd_r25_0 wd_r25_1 wd_r1_5 wd_r25_2 ⟨by decide, by decide, by decide +kernel⟩ rfl rfl ⟨Nat.le_of_ble_eq_true rfl, Nat.le_of_ble_eq_true rfl⟩ rfl rfl hl.1 (Nat.le_of_ble_eq_true rfl) dX11_drift_166 ⟨Nat.le_of_ble_eq_true rfl, Nat.le_of_ble_eq_true rfl⟩ (fun r166_373 S166_375 H locs h166_374 hw => ?_)
                  have := t_1
                  obtain ⟨rfl, h166_374⟩ := h166_374
                  refine lv_iload_n hx hb dX11_drift_169 rfl (lv_at hl 2 rfl) ?_
                  refine lv_imul hx hb dX11_drift_170 ?_
                  refine lv_topi (fun v170_376 e170_376 => ?_)
                  refine lv_bipush (v := 100) hx hb dX11_drift_171 (by decide) ?_
                  refine lv_idiv hx hb dX11_drift_173 (by decide) ?_
                  refine lv_topi (fun v173_377 e173_377 => ?_)
                  refine lv_iadd hx hb dX11_drift_174 ?_
                  refine lv_topi (fun v174_378 e174_378 => ?_)
                  refine lv_iadd hx hb dX11_drift_175 ?_
                  refine lv_topi (fun v175_379 e175_379 => ?_)
                  refine pf_X11_231 X hw hM.1 dX11_drift_176 (fun H locs hw => ?_)
                  have hw : PX G A s.heap (ch S (up2 (up2 I73 129 (ma 0) v144_369) 130 (ma 0) v175_379) (pJ S) (qI S) (qJ S)) H locs := hw
                  refine lv_aload_n hx hb dX11_drift_179 rfl (lv_at hl 3 rfl) ?_
                  refine lv_aload_n hx hb dX11_drift_180 rfl (lv_at hl 3 rfl) ?_
                  refine gf_X11_234 (v := v144_369) X hw hM.1 (show up2 I73 129 (ma 0) v144_369 129 (ma 0) = v144_369 from up2_s) dX11_drift_181 ?_
                  refine k_Si (n := 1) X hw (c_X11_isPoint l G _ v144_369) wd_r29_19 wd_r29_20 wd_r1_5 wd_r29_21 ⟨by decide, by decide, by decide +kernel⟩ rfl rfl ⟨Nat.le_of_ble_eq_true rfl, Nat.le_of_ble_eq_true rfl⟩ rfl rfl hl.1 (Nat.le_of_ble_eq_true rfl) dX11_drift_184 ⟨Nat.le_of_ble_eq_true rfl, Nat.le_of_ble_eq_true rfl⟩ (fun r184_380 S184_382 H locs h184_381 hw => ?_)
                  rcases h184_381 with ⟨rfl, rfl, h184_381⟩ | ⟨rfl, rfl, h184_381⟩
                  · have h184_381 := h184_381
                    refine lv_if_eq (tgt := 200) hx hb dX11_drift_187 (by decide) (fun c187_383 => absurd c187_383 (by decide)) (fun c187_383 => ?_)
                    refine lv_aload_n hx hb dX11_drift_190 rfl (lv_at hl 3 rfl) ?_
                    refine gf_X11_231 (v := v175_379) X hw hM.1 (show up2 (up2 I73 129 (ma 0) v144_369) 130 (ma 0) v175_379 130 (ma 0) = v175_379 from up2_s) dX11_drift_191 ?_
                    refine k_Si (n := 1) X hw (c_X11_isPoint l G _ v175_379) wd_r29_19 wd_r29_20 wd_r1_5 wd_r29_21 ⟨by decide, by decide, by decide +kernel⟩ rfl rfl ⟨Nat.le_of_ble_eq_true rfl, Nat.le_of_ble_eq_true rfl⟩ rfl rfl hl.1 (Nat.le_of_ble_eq_true rfl) dX11_drift_194 ⟨Nat.le_of_ble_eq_true rfl, Nat.le_of_ble_eq_true rfl⟩ (fun r194_384 S194_386 H locs h194_385 hw => ?_)
                    rcases h194_385 with ⟨rfl, rfl, h194_385⟩ | ⟨rfl, rfl, h194_385⟩
                    · have h194_385 := h194_385
                      refine lv_if_ne (tgt := 204) hx hb dX11_drift_197 (by decide) (fun c197_387 => ?_) (fun c197_387 => absurd c197_387 (by decide))
                      refine lv_aload_n hx hb dX11_drift_204 rfl (lv_at hl 3 rfl) ?_
                      refine k_Vi (n := 0) X hw (rcvk (ci := 11) X hw hM.1 (fun _ _ _ _ _ _ _ => ⟨_, rfl⟩) rfl) (c_X11_isOnLand l G _ ma hM (show 0 ≤ (I73 120 (ma 0) : Int32).toInt ∧ (I73 120 (ma 0) : Int32).toInt ≤ 1 by omega) (px_of (a := (v144_369 : Int32)) (b := (v175_379 : Int32)) (show up2 I73 129 (ma 0) v144_369 129 (ma 0) = v144_369 from up2_s) (show up2 (up2 I73 129 (ma 0) v144_369) 130 (ma 0) v175_379 130 (ma 0) = v175_379 from up2_s) (by omega))) wd_r31_7 wd_r31_8 wd_r31_9 wd_r1_5 wd_r31_10 ⟨by decide, by decide, by decide +kernel⟩ rfl rfl ⟨Nat.le_of_ble_eq_true rfl, Nat.le_of_ble_eq_true rfl⟩ rfl rfl hl.1 (Nat.le_of_ble_eq_true rfl) dX11_drift_205 ⟨Nat.le_of_ble_eq_true rfl, Nat.le_of_ble_eq_true rfl⟩ (fun r205_388 S205_390 H locs h205_389 hw => ?_)
                      rcases h205_389 with ⟨rfl, rfl, h205_389⟩ | ⟨rfl, rfl, h205_389⟩
                      · have h205_389 := h205_389
                        refine lv_if_eq (tgt := 215) hx hb dX11_drift_208 (by decide) (fun c208_391 => absurd c208_391 (by decide)) (fun c208_391 => ?_)
                        refine lv_iconst (v := 1) hx hb dX11_drift_211 (by decide) ?_
                        refine lv_goto (tgt := 216) hx hb dX11_drift_212 (by decide) ?_
                        refine pf_X11_240 X hw hM.1 dX11_drift_216 (fun H locs hw => ?_)
                        have hw : PX G A s.heap (ch S (up2 (up2 (up2 I73 129 (ma 0) v144_369) 130 (ma 0) v175_379) 131 (ma 0) 1) (pJ S) (qI S) (qJ S)) H locs := hw
                        obtain ⟨v219_392, e219_392⟩ : ∃ y : Int32, y = k + 1 := ⟨_, rfl⟩
                        have t219_392 := iAdd e219_392 rfl t_1 (by omega) (by omega)
                        have t219 := t219_392
                        refine lv_iinc (v := v219_392) (lv' := [(4, .int v219_392), (5, .int v114_359), (3, .int v63_353), (0, .ref (ma 0)), (1, .int t), (2, .int n)]) hx hb dX11_drift_219 hl (k := 1) rfl (by rw [e219_392]; rfl) (by decide) rfl (fun ls hl => ?_)
                        refine lv_goto (tgt := 73) hx hb dX11_drift_222 (by decide) ?_
                        exact ih73 (up2 (up2 (up2 I73 129 (ma 0) v144_369) 130 (ma 0) v175_379) 131 (ma 0) 1) v219_392 (FrD.up (f := 131) (by decide) (FrD.up (f := 130) (by decide) (FrD.up (f := 129) (by decide) hF))) (by rw [show (up2 (up2 (up2 I73 129 (ma 0) v144_369) 130 (ma 0) v175_379) 131 (ma 0) 1) 129 (ma 0) = (v144_369 : Int32) from (show up2 I73 129 (ma 0) v144_369 129 (ma 0) = v144_369 from up2_s), show (up2 (up2 (up2 I73 129 (ma 0) v144_369) 130 (ma 0) v175_379) 131 (ma 0) 1) 130 (ma 0) = (v175_379 : Int32) from (show up2 (up2 I73 129 (ma 0) v144_369) 130 (ma 0) v175_379 130 (ma 0) = v175_379 from up2_s), show (up2 (up2 (up2 I73 129 (ma 0) v144_369) 130 (ma 0) v175_379) 131 (ma 0) 1) 131 (ma 0) = (1 : Int32) from (show up2 (up2 (up2 I73 129 (ma 0) v144_369) 130 (ma 0) v175_379) 131 (ma 0) 1 131 (ma 0) = 1 from up2_s)]; have := t_0; have := t_1; have := t_2; omega) (by omega) (by omega) _ _ _ hw (lv_sub hl [0, 2, 3, 4, 5] rfl)
                      · have h205_389 := h205_389
                        refine lv_if_eq (tgt := 215) hx hb dX11_drift_208 (by decide) (fun c208_393 => ?_) (fun c208_393 => absurd c208_393 (by decide))
                        refine lv_iconst (v := 0) hx hb dX11_drift_215 (by decide) ?_
                        refine pf_X11_240 X hw hM.1 dX11_drift_216 (fun H locs hw => ?_)
                        have hw : PX G A s.heap (ch S (up2 (up2 (up2 I73 129 (ma 0) v144_369) 130 (ma 0) v175_379) 131 (ma 0) 0) (pJ S) (qI S) (qJ S)) H locs := hw
                        obtain ⟨v219_394, e219_394⟩ : ∃ y : Int32, y = k + 1 := ⟨_, rfl⟩
                        have t219_394 := iAdd e219_394 rfl t_1 (by omega) (by omega)
                        have t219 := t219_394
                        refine lv_iinc (v := v219_394) (lv' := [(4, .int v219_394), (5, .int v114_359), (3, .int v63_353), (0, .ref (ma 0)), (1, .int t), (2, .int n)]) hx hb dX11_drift_219 hl (k := 1) rfl (by rw [e219_394]; rfl) (by decide) rfl (fun ls hl => ?_)
                        refine lv_goto (tgt := 73) hx hb dX11_drift_222 (by decide) ?_
                        exact ih73 (up2 (up2 (up2 I73 129 (ma 0) v144_369) 130 (ma 0) v175_379) 131 (ma 0) 0) v219_394 (FrD.up (f := 131) (by decide) (FrD.up (f := 130) (by decide) (FrD.up (f := 129) (by decide) hF))) (by rw [show (up2 (up2 (up2 I73 129 (ma 0) v144_369) 130 (ma 0) v175_379) 131 (ma 0) 0) 129 (ma 0) = (v144_369 : Int32) from (show up2 I73 129 (ma 0) v144_369 129 (ma 0) = v144_369 from up2_s), show (up2 (up2 (up2 I73 129 (ma 0) v144_369) 130 (ma 0) v175_379) 131 (ma 0) 0) 130 (ma 0) = (v175_379 : Int32) from (show up2 (up2 I73 129 (ma 0) v144_369) 130 (ma 0) v175_379 130 (ma 0) = v175_379 from up2_s), show (up2 (up2 (up2 I73 129 (ma 0) v144_369) 130 (ma 0) v175_379) 131 (ma 0) 0) 131 (ma 0) = (0 : Int32) from (show up2 (up2 (up2 I73 129 (ma 0) v144_369) 130 (ma 0) v175_379) 131 (ma 0) 0 131 (ma 0) = 0 from up2_s)]; have := t_0; have := t_1; have := t_2; omega) (by omega) (by omega) _ _ _ hw (lv_sub hl [0, 2, 3, 4, 5] rfl)
                    · have h194_385 := h194_385
                      refine lv_if_ne (tgt := 204) hx hb dX11_drift_197 (by decide) (fun c197_395 => absurd c197_395 (by decide)) (fun c197_395 => ?_)
                      refine lv_iconst (v := 2) hx hb dX11_drift_200 (by decide) ?_
                      refine lv_goto (tgt := 216) hx hb dX11_drift_201 (by decide) ?_
                      refine pf_X11_240 X hw hM.1 dX11_drift_216 (fun H locs hw => ?_)
                      have hw : PX G A s.heap (ch S (up2 (up2 (up2 I73 129 (ma 0) v144_369) 130 (ma 0) v175_379) 131 (ma 0) 2) (pJ S) (qI S) (qJ S)) H locs := hw
                      obtain ⟨v219_396, e219_396⟩ : ∃ y : Int32, y = k + 1 := ⟨_, rfl⟩
                      have t219_396 := iAdd e219_396 rfl t_1 (by omega) (by omega)
                      have t219 := t219_396
                      refine lv_iinc (v := v219_396) (lv' := [(4, .int v219_396), (5, .int v114_359), (3, .int v63_353), (0, .ref (ma 0)), (1, .int t), (2, .int n)]) hx hb dX11_drift_219 hl (k := 1) rfl (by rw [e219_396]; rfl) (by decide) rfl (fun ls hl => ?_)
                      refine lv_goto (tgt := 73) hx hb dX11_drift_222 (by decide) ?_
                      exact ih73 (up2 (up2 (up2 I73 129 (ma 0) v144_369) 130 (ma 0) v175_379) 131 (ma 0) 2) v219_396 (FrD.up (f := 131) (by decide) (FrD.up (f := 130) (by decide) (FrD.up (f := 129) (by decide) hF))) (by rw [show (up2 (up2 (up2 I73 129 (ma 0) v144_369) 130 (ma 0) v175_379) 131 (ma 0) 2) 129 (ma 0) = (v144_369 : Int32) from (show up2 I73 129 (ma 0) v144_369 129 (ma 0) = v144_369 from up2_s), show (up2 (up2 (up2 I73 129 (ma 0) v144_369) 130 (ma 0) v175_379) 131 (ma 0) 2) 130 (ma 0) = (v175_379 : Int32) from (show up2 (up2 I73 129 (ma 0) v144_369) 130 (ma 0) v175_379 130 (ma 0) = v175_379 from up2_s), show (up2 (up2 (up2 I73 129 (ma 0) v144_369) 130 (ma 0) v175_379) 131 (ma 0) 2) 131 (ma 0) = (2 : Int32) from (show up2 (up2 (up2 I73 129 (ma 0) v144_369) 130 (ma 0) v175_379) 131 (ma 0) 2 131 (ma 0) = 2 from up2_s)]; have := t_0; have := t_1; have := t_2; omega) (by omega) (by omega) _ _ _ hw (lv_sub hl [0, 2, 3, 4, 5] rfl)
                  · have h184_381 := h184_381
                    refine lv_if_eq (tgt := 200) hx hb dX11_drift_187 (by decide) (fun c187_397 => ?_) (fun c187_397 => absurd c187_397 (by decide))
                    refine lv_iconst (v := 2) hx hb dX11_drift_200 (by decide) ?_
                    refine lv_goto (tgt := 216) hx hb dX11_drift_201 (by decide) ?_
                    refine pf_X11_240 X hw hM.1 dX11_drift_216 (fun H locs hw => ?_)
                    have hw : PX G A s.heap (ch S (up2 (up2 (up2 I73 129 (ma 0) v144_369) 130 (ma 0) v175_379) 131 (ma 0) 2) (pJ S) (qI S) (qJ S)) H locs := hw
                    obtain ⟨v219_398, e219_398⟩ : ∃ y : Int32, y = k + 1 := ⟨_, rfl⟩
                    have t219_398 := iAdd e219_398 rfl t_1 (by omega) (by omega)
                    have t219 := t219_398
                    refine lv_iinc (v := v219_398) (lv' := [(4, .int v219_398), (5, .int v114_359), (3, .int v63_353), (0, .ref (ma 0)), (1, .int t), (2, .int n)]) hx hb dX11_drift_219 hl (k := 1) rfl (by rw [e219_398]; rfl) (by decide) rfl (fun ls hl => ?_)
                    refine lv_goto (tgt := 73) hx hb dX11_drift_222 (by decide) ?_
                    exact ih73 (up2 (up2 (up2 I73 129 (ma 0) v144_369) 130 (ma 0) v175_379) 131 (ma 0) 2) v219_398 (FrD.up (f := 131) (by decide) (FrD.up (f := 130) (by decide) (FrD.up (f := 129) (by decide) hF))) (by rw [show (up2 (up2 (up2 I73 129 (ma 0) v144_369) 130 (ma 0) v175_379) 131 (ma 0) 2) 129 (ma 0) = (v144_369 : Int32) from (show up2 I73 129 (ma 0) v144_369 129 (ma 0) = v144_369 from up2_s), show (up2 (up2 (up2 I73 129 (ma 0) v144_369) 130 (ma 0) v175_379) 131 (ma 0) 2) 130 (ma 0) = (v175_379 : Int32) from (show up2 (up2 I73 129 (ma 0) v144_369) 130 (ma 0) v175_379 130 (ma 0) = v175_379 from up2_s), show (up2 (up2 (up2 I73 129 (ma 0) v144_369) 130 (ma 0) v175_379) 131 (ma 0) 2) 131 (ma 0) = (2 : Int32) from (show up2 (up2 (up2 I73 129 (ma 0) v144_369) 130 (ma 0) v175_379) 131 (ma 0) 2 131 (ma 0) = 2 from up2_s)]; have := t_0; have := t_1; have := t_2; omega) (by omega) (by omega) _ _ _ hw (lv_sub hl [0, 2, 3, 4, 5] rfl)
                · have D106_358 := iNle c106_358 t_40 rfl
                  refine lv_iconst (v := 0) hx hb dX11_drift_109 (by decide) ?_
                  refine lv_goto (tgt := 114) hx hb dX11_drift_110 (by decide) ?_
                  refine lv_iadd hx hb dX11_drift_114 ?_
                  refine lv_topi (fun v114_399 e114_399 => ?_)
                  have t114_399 := iAdd e114_399 t_1 t_0 (by omega) (by omega)
                  have t114 := t114_399
                  refine lv_istore (lv' := [(5, .int v114_399), (4, .int k), (3, .int v63_353), (0, .ref (ma 0)), (1, .int t), (2, .int n)]) hx hb dX11_drift_115 hl (by decide) rfl (fun ls hl => ?_)
                  refine lv_aload_n hx hb dX11_drift_117 rfl (lv_at hl 3 rfl) ?_
                  refine lv_dup hx hb dX11_drift_118 rfl ?_
                  refine gf_X11_234 (v := I73 129 (ma 0)) X hw hM.1 rfl dX11_drift_119 ?_
                  refine lv_aload_n hx hb dX11_drift_122 rfl (lv_at hl 3 rfl) ?_
                  refine lv_iload hx hb dX11_drift_123 (lv_at hl 0 rfl) ?_
                  refine lv_iload hx hb dX11_drift_125 (lv_at hl 1 rfl) ?_
                  refine lv_iconst (v := 0) hx hb dX11_drift_127 (by decide) ?_
                  refine k_Vi (n := 3) X hw (rcvk (ci := 11) X hw hM.1 (fun _ _ _ _ _ _ _ => ⟨_, rfl⟩) rfl) (c_X11_streamOf l G _ ma v114_399 k 0 hM (show 0 ≤ (I73 120 (ma 0) : Int32).toInt ∧ (I73 120 (ma 0) : Int32).toInt ≤ 1 by omega) (by omega) (by omega)) wd_r25_13 wd_r25_14 wd_r25_15 wd_r1_5 wd_r25_16 ⟨by decide, by decide, by decide +kernel⟩ rfl rfl ⟨Nat.le_of_ble_eq_true rfl, Nat.le_of_ble_eq_true rfl⟩ rfl rfl hl.1 (Nat.le_of_ble_eq_true rfl) dX11_drift_128 ⟨Nat.le_of_ble_eq_true rfl, Nat.le_of_ble_eq_true rfl⟩ (fun r128_400 S128_402 H locs h128_401 hw => ?_)
                  have := t_0
                  obtain ⟨rfl, h128_401⟩ := h128_401
                  refine lv_aload_n hx hb dX11_drift_131 rfl (lv_at hl 3 rfl) ?_
                  refine lv_iload hx hb dX11_drift_132 (lv_at hl 1 rfl) ?_
                  refine lv_iconst (v := 0) hx hb dX11_drift_134 (by decide) ?_
                  refine k_Vi (n := 2) X hw (rcvk (ci := 11) X hw hM.1 (fun _ _ _ _ _ _ _ => ⟨_, rfl⟩) rfl) (c_X11_windOf l G _ ma k 0 hM (show 0 ≤ (I73 120 (ma 0) : Int32).toInt ∧ (I73 120 (ma 0) : Int32).toInt ≤ 1 by omega) (by omega)) wd_r24_23 wd_r25_0 wd_r25_1 wd_r1_5 wd_r25_2 ⟨by decide, by decide, by decide +kernel⟩ rfl rfl ⟨Nat.le_of_ble_eq_true rfl, Nat.le_of_ble_eq_true rfl⟩ rfl rfl hl.1 (Nat.le_of_ble_eq_true rfl) dX11_drift_135 ⟨Nat.le_of_ble_eq_true rfl, Nat.le_of_ble_eq_true rfl⟩ (fun r135_403 S135_405 H locs h135_404 hw => ?_)
                  have := t_0
                  obtain ⟨rfl, h135_404⟩ := h135_404
                  refine lv_iload_n hx hb dX11_drift_138 rfl (lv_at hl 2 rfl) ?_
                  refine lv_imul hx hb dX11_drift_139 ?_
                  refine lv_topi (fun v139_406 e139_406 => ?_)
                  refine lv_bipush (v := 100) hx hb dX11_drift_140 (by decide) ?_
                  refine lv_idiv hx hb dX11_drift_142 (by decide) ?_
                  refine lv_topi (fun v142_407 e142_407 => ?_)
                  refine lv_iadd hx hb dX11_drift_143 ?_
                  refine lv_topi (fun v143_408 e143_408 => ?_)
                  refine lv_iadd hx hb dX11_drift_144 ?_
                  refine lv_topi (fun v144_409 e144_409 => ?_)
                  refine pf_X11_234 X hw hM.1 dX11_drift_145 (fun H locs hw => ?_)
                  have hw : PX G A s.heap (ch S (up2 I73 129 (ma 0) v144_409) (pJ S) (qI S) (qJ S)) H locs := hw
                  refine lv_aload_n hx hb dX11_drift_148 rfl (lv_at hl 3 rfl) ?_
                  refine lv_dup hx hb dX11_drift_149 rfl ?_
                  refine gf_X11_231 (v := I73 130 (ma 0)) X hw hM.1 rfl dX11_drift_150 ?_
                  refine lv_aload_n hx hb dX11_drift_153 rfl (lv_at hl 3 rfl) ?_
                  refine lv_iload hx hb dX11_drift_154 (lv_at hl 0 rfl) ?_
                  refine lv_iload hx hb dX11_drift_156 (lv_at hl 1 rfl) ?_
                  refine lv_iconst (v := 1) hx hb dX11_drift_158 (by decide) ?_
                  refine k_Vi (n := 3) X hw (rcvk (ci := 11) X hw hM.1 (fun _ _ _ _ _ _ _ => ⟨_, rfl⟩) rfl) (c_X11_streamOf l G _ ma v114_399 k 1 hM (show 0 ≤ (I73 120 (ma 0) : Int32).toInt ∧ (I73 120 (ma 0) : Int32).toInt ≤ 1 by omega) (by omega) (by omega)) wd_r25_13 wd_r25_14 wd_r25_15 wd_r1_5 wd_r25_16 ⟨by decide, by decide, by decide +kernel⟩ rfl rfl ⟨Nat.le_of_ble_eq_true rfl, Nat.le_of_ble_eq_true rfl⟩ rfl rfl hl.1 (Nat.le_of_ble_eq_true rfl) dX11_drift_159 ⟨Nat.le_of_ble_eq_true rfl, Nat.le_of_ble_eq_true rfl⟩ (fun r159_410 S159_412 H locs h159_411 hw => ?_)
                  have := t_1
                  obtain ⟨rfl, h159_411⟩ := h159_411
                  refine lv_aload_n hx hb dX11_drift_162 rfl (lv_at hl 3 rfl) ?_
                  refine lv_iload hx hb dX11_drift_163 (lv_at hl 1 rfl) ?_
                  refine lv_iconst (v := 1) hx hb dX11_drift_165 (by decide) ?_
                  refine k_Vi (n := 2) X hw (rcvk (ci := 11) X hw hM.1 (fun _ _ _ _ _ _ _ => ⟨_, rfl⟩) rfl) (c_X11_windOf l G _ ma k 1 hM (show 0 ≤ (I73 120 (ma 0) : Int32).toInt ∧ (I73 120 (ma 0) : Int32).toInt ≤ 1 by omega) (by omega)) wd_r24_23 wd_r25_0 wd_r25_1 wd_r1_5 wd_r25_2 ⟨by decide, by decide, by decide +kernel⟩ rfl rfl ⟨Nat.le_of_ble_eq_true rfl, Nat.le_of_ble_eq_true rfl⟩ rfl rfl hl.1 (Nat.le_of_ble_eq_true rfl) dX11_drift_166 ⟨Nat.le_of_ble_eq_true rfl, Nat.le_of_ble_eq_true rfl⟩ (fun r166_413 S166_415 H locs h166_414 hw => ?_)
                  have := t_1
                  obtain ⟨rfl, h166_414⟩ := h166_414
                  refine lv_iload_n hx hb dX11_drift_169 rfl (lv_at hl 2 rfl) ?_
                  refine lv_imul hx hb dX11_drift_170 ?_
                  refine lv_topi (fun v170_416 e170_416 => ?_)
                  refine lv_bipush (v := 100) hx hb dX11_drift_171 (by decide) ?_
                  refine lv_idiv hx hb dX11_drift_173 (by decide) ?_
                  refine lv_topi (fun v173_417 e173_417 => ?_)
                  refine lv_iadd hx hb dX11_drift_174 ?_
                  refine lv_topi (fun v174_418 e174_418 => ?_)
                  refine lv_iadd hx hb dX11_drift_175 ?_
                  refine lv_topi (fun v175_419 e175_419 => ?_)
                  refine pf_X11_231 X hw hM.1 dX11_drift_176 (fun H locs hw => ?_)
                  have hw : PX G A s.heap (ch S (up2 (up2 I73 129 (ma 0) v144_409) 130 (ma 0) v175_419) (pJ S) (qI S) (qJ S)) H locs := hw
                  refine lv_aload_n hx hb dX11_drift_179 rfl (lv_at hl 3 rfl) ?_
                  refine lv_aload_n hx hb dX11_drift_180 rfl (lv_at hl 3 rfl) ?_
                  refine gf_X11_234 (v := v144_409) X hw hM.1 (show up2 I73 129 (ma 0) v144_409 129 (ma 0) = v144_409 from up2_s) dX11_drift_181 ?_
                  refine k_Si (n := 1) X hw (c_X11_isPoint l G _ v144_409) wd_r29_19 wd_r29_20 wd_r1_5 wd_r29_21 ⟨by decide, by decide, by decide +kernel⟩ rfl rfl ⟨Nat.le_of_ble_eq_true rfl, Nat.le_of_ble_eq_true rfl⟩ rfl rfl hl.1 (Nat.le_of_ble_eq_true rfl) dX11_drift_184 ⟨Nat.le_of_ble_eq_true rfl, Nat.le_of_ble_eq_true rfl⟩ (fun r184_420 S184_422 H locs h184_421 hw => ?_)
                  rcases h184_421 with ⟨rfl, rfl, h184_421⟩ | ⟨rfl, rfl, h184_421⟩
                  · have h184_421 := h184_421
                    refine lv_if_eq (tgt := 200) hx hb dX11_drift_187 (by decide) (fun c187_423 => absurd c187_423 (by decide)) (fun c187_423 => ?_)
                    refine lv_aload_n hx hb dX11_drift_190 rfl (lv_at hl 3 rfl) ?_
                    refine gf_X11_231 (v := v175_419) X hw hM.1 (show up2 (up2 I73 129 (ma 0) v144_409) 130 (ma 0) v175_419 130 (ma 0) = v175_419 from up2_s) dX11_drift_191 ?_
                    refine k_Si (n := 1) X hw (c_X11_isPoint l G _ v175_419) wd_r29_19 wd_r29_20 wd_r1_5 wd_r29_21 ⟨by decide, by decide, by decide +kernel⟩ rfl rfl ⟨Nat.le_of_ble_eq_true rfl, Nat.le_of_ble_eq_true rfl⟩ rfl rfl hl.1 (Nat.le_of_ble_eq_true rfl) dX11_drift_194 ⟨Nat.le_of_ble_eq_true rfl, Nat.le_of_ble_eq_true rfl⟩ (fun r194_424 S194_426 H locs h194_425 hw => ?_)
                    rcases h194_425 with ⟨rfl, rfl, h194_425⟩ | ⟨rfl, rfl, h194_425⟩
                    · have h194_425 := h194_425
                      refine lv_if_ne (tgt := 204) hx hb dX11_drift_197 (by decide) (fun c197_427 => ?_) (fun c197_427 => absurd c197_427 (by decide))
                      refine lv_aload_n hx hb dX11_drift_204 rfl (lv_at hl 3 rfl) ?_
                      refine k_Vi (n := 0) X hw (rcvk (ci := 11) X hw hM.1 (fun _ _ _ _ _ _ _ => ⟨_, rfl⟩) rfl) (c_X11_isOnLand l G _ ma hM (show 0 ≤ (I73 120 (ma 0) : Int32).toInt ∧ (I73 120 (ma 0) : Int32).toInt ≤ 1 by omega) (px_of (a := (v144_409 : Int32)) (b := (v175_419 : Int32)) (show up2 I73 129 (ma 0) v144_409 129 (ma 0) = v144_409 from up2_s) (show up2 (up2 I73 129 (ma 0) v144_409) 130 (ma 0) v175_419 130 (ma 0) = v175_419 from up2_s) (by omega))) wd_r31_7 wd_r31_8 wd_r31_9 wd_r1_5 wd_r31_10 ⟨by decide, by decide, by decide +kernel⟩ rfl rfl ⟨Nat.le_of_ble_eq_true rfl, Nat.le_of_ble_eq_true rfl⟩ rfl rfl hl.1 (Nat.le_of_ble_eq_true rfl) dX11_drift_205 ⟨Nat.le_of_ble_eq_true rfl, Nat.le_of_ble_eq_true rfl⟩ (fun r205_428 S205_430 H locs h205_429 hw => ?_)
                      rcases h205_429 with ⟨rfl, rfl, h205_429⟩ | ⟨rfl, rfl, h205_429⟩
                      · have h205_429 := h205_429
                        refine lv_if_eq (tgt := 215) hx hb dX11_drift_208 (by decide) (fun c208_431 => absurd c208_431 (by decide)) (fun c208_431 => ?_)
                        refine lv_iconst (v := 1) hx hb dX11_drift_211 (by decide) ?_
                        refine lv_goto (tgt := 216) hx hb dX11_drift_212 (by decide) ?_
                        refine pf_X11_240 X hw hM.1 dX11_drift_216 (fun H locs hw => ?_)
                        have hw : PX G A s.heap (ch S (up2 (up2 (up2 I73 129 (ma 0) v144_409) 130 (ma 0) v175_419) 131 (ma 0) 1) (pJ S) (qI S) (qJ S)) H locs := hw
                        obtain ⟨v219_432, e219_432⟩ : ∃ y : Int32, y = k + 1 := ⟨_, rfl⟩
                        have t219_432 := iAdd e219_432 rfl t_1 (by omega) (by omega)
                        have t219 := t219_432
                        refine lv_iinc (v := v219_432) (lv' := [(4, .int v219_432), (5, .int v114_399), (3, .int v63_353), (0, .ref (ma 0)), (1, .int t), (2, .int n)]) hx hb dX11_drift_219 hl (k := 1) rfl (by rw [e219_432]; rfl) (by decide) rfl (fun ls hl => ?_)
                        refine lv_goto (tgt := 73) hx hb dX11_drift_222 (by decide) ?_
                        exact ih73 (up2 (up2 (up2 I73 129 (ma 0) v144_409) 130 (ma 0) v175_419) 131 (ma 0) 1) v219_432 (FrD.up (f := 131) (by decide) (FrD.up (f := 130) (by decide) (FrD.up (f := 129) (by decide) hF))) (by rw [show (up2 (up2 (up2 I73 129 (ma 0) v144_409) 130 (ma 0) v175_419) 131 (ma 0) 1) 129 (ma 0) = (v144_409 : Int32) from (show up2 I73 129 (ma 0) v144_409 129 (ma 0) = v144_409 from up2_s), show (up2 (up2 (up2 I73 129 (ma 0) v144_409) 130 (ma 0) v175_419) 131 (ma 0) 1) 130 (ma 0) = (v175_419 : Int32) from (show up2 (up2 I73 129 (ma 0) v144_409) 130 (ma 0) v175_419 130 (ma 0) = v175_419 from up2_s), show (up2 (up2 (up2 I73 129 (ma 0) v144_409) 130 (ma 0) v175_419) 131 (ma 0) 1) 131 (ma 0) = (1 : Int32) from (show up2 (up2 (up2 I73 129 (ma 0) v144_409) 130 (ma 0) v175_419) 131 (ma 0) 1 131 (ma 0) = 1 from up2_s)]; have := t_0; have := t_1; have := t_2; omega) (by omega) (by omega) _ _ _ hw (lv_sub hl [0, 2, 3, 4, 5] rfl)
                      · have h205_429 := h205_429
                        refine lv_if_eq (tgt := 215) hx hb dX11_drift_208 (by decide) (fun c208_433 => ?_) (fun c208_433 => absurd c208_433 (by decide))
                        refine lv_iconst (v := 0) hx hb dX11_drift_215 (by decide) ?_
                        refine pf_X11_240 X hw hM.1 dX11_drift_216 (fun H locs hw => ?_)
                        have hw : PX G A s.heap (ch S (up2 (up2 (up2 I73 129 (ma 0) v144_409) 130 (ma 0) v175_419) 131 (ma 0) 0) (pJ S) (qI S) (qJ S)) H locs := hw
                        obtain ⟨v219_434, e219_434⟩ : ∃ y : Int32, y = k + 1 := ⟨_, rfl⟩
                        have t219_434 := iAdd e219_434 rfl t_1 (by omega) (by omega)
                        have t219 := t219_434
                        refine lv_iinc (v := v219_434) (lv' := [(4, .int v219_434), (5, .int v114_399), (3, .int v63_353), (0, .ref (ma 0)), (1, .int t), (2, .int n)]) hx hb dX11_drift_219 hl (k := 1) rfl (by rw [e219_434]; rfl) (by decide) rfl (fun ls hl => ?_)
                        refine lv_goto (tgt := 73) hx hb dX11_drift_222 (by decide) ?_
                        exact ih73 (up2 (up2 (up2 I73 129 (ma 0) v144_409) 130 (ma 0) v175_419) 131 (ma 0) 0) v219_434 (FrD.up (f := 131) (by decide) (FrD.up (f := 130) (by decide) (FrD.up (f := 129) (by decide) hF))) (by rw [show (up2 (up2 (up2 I73 129 (ma 0) v144_409) 130 (ma 0) v175_419) 131 (ma 0) 0) 129 (ma 0) = (v144_409 : Int32) from (show up2 I73 129 (ma 0) v144_409 129 (ma 0) = v144_409 from up2_s), show (up2 (up2 (up2 I73 129 (ma 0) v144_409) 130 (ma 0) v175_419) 131 (ma 0) 0) 130 (ma 0) = (v175_419 : Int32) from (show up2 (up2 I73 129 (ma 0) v144_409) 130 (ma 0) v175_419 130 (ma 0) = v175_419 from up2_s), show (up2 (up2 (up2 I73 129 (ma 0) v144_409) 130 (ma 0) v175_419) 131 (ma 0) 0) 131 (ma 0) = (0 : Int32) from (show up2 (up2 (up2 I73 129 (ma 0) v144_409) 130 (ma 0) v175_419) 131 (ma 0) 0 131 (ma 0) = 0 from up2_s)]; have := t_0; have := t_1; have := t_2; omega) (by omega) (by omega) _ _ _ hw (lv_sub hl [0, 2, 3, 4, 5] rfl)
                    · have h194_425 := h194_425
                      refine lv_if_ne (tgt := 204) hx hb dX11_drift_197 (by decide) (fun c197_435 => absurd c197_435 (by decide)) (fun c197_435 => ?_)
                      refine lv_iconst (v := 2) hx hb dX11_drift_200 (by decide) ?_
                      refine lv_goto (tgt := 216) hx hb dX11_drift_201 (by decide) ?_
                      refine pf_X11_240 X hw hM.1 dX11_drift_216 (fun H locs hw => ?_)
                      have hw : PX G A s.heap (ch S (up2 (up2 (up2 I73 129 (ma 0) v144_409) 130 (ma 0) v175_419) 131 (ma 0) 2) (pJ S) (qI S) (qJ S)) H locs := hw
                      obtain ⟨v219_436, e219_436⟩ : ∃ y : Int32, y = k + 1 := ⟨_, rfl⟩
                      have t219_436 := iAdd e219_436 rfl t_1 (by omega) (by omega)
                      have t219 := t219_436
                      refine lv_iinc (v := v219_436) (lv' := [(4, .int v219_436), (5, .int v114_399), (3, .int v63_353), (0, .ref (ma 0)), (1, .int t), (2, .int n)]) hx hb dX11_drift_219 hl (k := 1) rfl (by rw [e219_436]; rfl) (by decide) rfl (fun ls hl => ?_)
                      refine lv_goto (tgt := 73) hx hb dX11_drift_222 (by decide) ?_
                      exact ih73 (up2 (up2 (up2 I73 129 (ma 0) v144_409) 130 (ma 0) v175_419) 131 (ma 0) 2) v219_436 (FrD.up (f := 131) (by decide) (FrD.up (f := 130) (by decide) (FrD.up (f := 129) (by decide) hF))) (by rw [show (up2 (up2 (up2 I73 129 (ma 0) v144_409) 130 (ma 0) v175_419) 131 (ma 0) 2) 129 (ma 0) = (v144_409 : Int32) from (show up2 I73 129 (ma 0) v144_409 129 (ma 0) = v144_409 from up2_s), show (up2 (up2 (up2 I73 129 (ma 0) v144_409) 130 (ma 0) v175_419) 131 (ma 0) 2) 130 (ma 0) = (v175_419 : Int32) from (show up2 (up2 I73 129 (ma 0) v144_409) 130 (ma 0) v175_419 130 (ma 0) = v175_419 from up2_s), show (up2 (up2 (up2 I73 129 (ma 0) v144_409) 130 (ma 0) v175_419) 131 (ma 0) 2) 131 (ma 0) = (2 : Int32) from (show up2 (up2 (up2 I73 129 (ma 0) v144_409) 130 (ma 0) v175_419) 131 (ma 0) 2 131 (ma 0) = 2 from up2_s)]; have := t_0; have := t_1; have := t_2; omega) (by omega) (by omega) _ _ _ hw (lv_sub hl [0, 2, 3, 4, 5] rfl)
                  · have h184_421 := h184_421
                    refine lv_if_eq (tgt := 200) hx hb dX11_drift_187 (by decide) (fun c187_437 => ?_) (fun c187_437 => absurd c187_437 (by decide))
                    refine lv_iconst (v := 2) hx hb dX11_drift_200 (by decide) ?_
                    refine lv_goto (tgt := 216) hx hb dX11_drift_201 (by decide) ?_
                    refine pf_X11_240 X hw hM.1 dX11_drift_216 (fun H locs hw => ?_)
                    have hw : PX G A s.heap (ch S (up2 (up2 (up2 I73 129 (ma 0) v144_409) 130 (ma 0) v175_419) 131 (ma 0) 2) (pJ S) (qI S) (qJ S)) H locs := hw
                    obtain ⟨v219_438, e219_438⟩ : ∃ y : Int32, y = k + 1 := ⟨_, rfl⟩
                    have t219_438 := iAdd e219_438 rfl t_1 (by omega) (by omega)
                    have t219 := t219_438
                    refine lv_iinc (v := v219_438) (lv' := [(4, .int v219_438), (5, .int v114_399), (3, .int v63_353), (0, .ref (ma 0)), (1, .int t), (2, .int n)]) hx hb dX11_drift_219 hl (k := 1) rfl (by rw [e219_438]; rfl) (by decide) rfl (fun ls hl => ?_)
                    refine lv_goto (tgt := 73) hx hb dX11_drift_222 (by decide) ?_
                    exact ih73 (up2 (up2 (up2 I73 129 (ma 0) v144_409) 130 (ma 0) v175_419) 131 (ma 0) 2) v219_438 (FrD.up (f := 131) (by decide) (FrD.up (f := 130) (by decide) (FrD.up (f := 129) (by decide) hF))) (by rw [show (up2 (up2 (up2 I73 129 (ma 0) v144_409) 130 (ma 0) v175_419) 131 (ma 0) 2) 129 (ma 0) = (v144_409 : Int32) from (show up2 I73 129 (ma 0) v144_409 129 (ma 0) = v144_409 from up2_s), show (up2 (up2 (up2 I73 129 (ma 0) v144_409) 130 (ma 0) v175_419) 131 (ma 0) 2) 130 (ma 0) = (v175_419 : Int32) from (show up2 (up2 I73 129 (ma 0) v144_409) 130 (ma 0) v175_419 130 (ma 0) = v175_419 from up2_s), show (up2 (up2 (up2 I73 129 (ma 0) v144_409) 130 (ma 0) v175_419) 131 (ma 0) 2) 131 (ma 0) = (2 : Int32) from (show up2 (up2 (up2 I73 129 (ma 0) v144_409) 130 (ma 0) v175_419) 131 (ma 0) 2 131 (ma 0) = 2 from up2_s)]; have := t_0; have := t_1; have := t_2; omega) (by omega) (by omega) _ _ _ hw (lv_sub hl [0, 2, 3, 4, 5] rfl)
              · have D92_357 := iNle c92_357 t_40 rfl
                refine lv_iconst (v := 0) hx hb dX11_drift_95 (by decide) ?_
                refine lv_goto (tgt := 100) hx hb dX11_drift_96 (by decide) ?_
                refine lv_aload_n hx hb dX11_drift_100 rfl (lv_at hl 2 rfl) ?_
                refine gf_X11_231 (v := I73 130 (ma 0)) X hw hM.1 rfl dX11_drift_101 ?_
                refine lv_bipush (v := 40) hx hb dX11_drift_104 (by decide) ?_
                refine lv_icmp_ge (tgt := 113) hx hb dX11_drift_106 (by decide) (fun c106_439 => ?_) (fun c106_439 => ?_)
                · have D106_439 := iLe c106_439 t_40 rfl
                  refine lv_iconst (v := 2) hx hb dX11_drift_113 (by decide) ?_
                  refine lv_iadd hx hb dX11_drift_114 ?_
                  refine lv_topi (fun v114_440 e114_440 => ?_)
                  have t114_440 := iAdd e114_440 t_0 t_2 (by omega) (by omega)
                  have t114 := t114_440
                  refine lv_istore (lv' := [(5, .int v114_440), (4, .int k), (3, .int v63_353), (0, .ref (ma 0)), (1, .int t), (2, .int n)]) hx hb dX11_drift_115 hl (by decide) rfl (fun ls hl => ?_)
                  refine lv_aload_n hx hb dX11_drift_117 rfl (lv_at hl 3 rfl) ?_
                  refine lv_dup hx hb dX11_drift_118 rfl ?_
                  refine gf_X11_234 (v := I73 129 (ma 0)) X hw hM.1 rfl dX11_drift_119 ?_
                  refine lv_aload_n hx hb dX11_drift_122 rfl (lv_at hl 3 rfl) ?_
                  refine lv_iload hx hb dX11_drift_123 (lv_at hl 0 rfl) ?_
                  refine lv_iload hx hb dX11_drift_125 (lv_at hl 1 rfl) ?_
                  refine lv_iconst (v := 0) hx hb dX11_drift_127 (by decide) ?_
                  refine k_Vi (n := 3) X hw (rcvk (ci := 11) X hw hM.1 (fun _ _ _ _ _ _ _ => ⟨_, rfl⟩) rfl) (c_X11_streamOf l G _ ma v114_440 k 0 hM (show 0 ≤ (I73 120 (ma 0) : Int32).toInt ∧ (I73 120 (ma 0) : Int32).toInt ≤ 1 by omega) (by omega) (by omega)) wd_r25_13 wd_r25_14 wd_r25_15 wd_r1_5 wd_r25_16 ⟨by decide, by decide, by decide +kernel⟩ rfl rfl ⟨Nat.le_of_ble_eq_true rfl, Nat.le_of_ble_eq_true rfl⟩ rfl rfl hl.1 (Nat.le_of_ble_eq_true rfl) dX11_drift_128 ⟨Nat.le_of_ble_eq_true rfl, Nat.le_of_ble_eq_true rfl⟩ (fun r128_441 S128_443 H locs h128_442 hw => ?_)
                  have := t_0
                  obtain ⟨rfl, h128_442⟩ := h128_442
                  refine lv_aload_n hx hb dX11_drift_131 rfl (lv_at hl 3 rfl) ?_
                  refine lv_iload hx hb dX11_drift_132 (lv_at hl 1 rfl) ?_
                  refine lv_iconst (v := 0) hx hb dX11_drift_134 (by decide) ?_
                  refine k_Vi (n := 2) X hw (rcvk (ci := 11) X hw hM.1 (fun _ _ _ _ _ _ _ => ⟨_, rfl⟩) rfl) (c_X11_windOf l G _ ma k 0 hM (show 0 ≤ (I73 120 (ma 0) : Int32).toInt ∧ (I73 120 (ma 0) : Int32).toInt ≤ 1 by omega) (by omega)) wd_r24_23 wd_r25_0 wd_r25_1 wd_r1_5 wd_r25_2 ⟨by decide, by decide, by decide +kernel⟩ rfl rfl ⟨Nat.le_of_ble_eq_true rfl, Nat.le_of_ble_eq_true rfl⟩ rfl rfl hl.1 (Nat.le_of_ble_eq_true rfl) dX11_drift_135 ⟨Nat.le_of_ble_eq_true rfl, Nat.le_of_ble_eq_true rfl⟩ (fun r135_444 S135_446 H locs h135_445 hw => ?_)
                  have := t_0
                  obtain ⟨rfl, h135_445⟩ := h135_445
                  refine lv_iload_n hx hb dX11_drift_138 rfl (lv_at hl 2 rfl) ?_
                  refine lv_imul hx hb dX11_drift_139 ?_
                  refine lv_topi (fun v139_447 e139_447 => ?_)
                  refine lv_bipush (v := 100) hx hb dX11_drift_140 (by decide) ?_
                  refine lv_idiv hx hb dX11_drift_142 (by decide) ?_
                  refine lv_topi (fun v142_448 e142_448 => ?_)
                  refine lv_iadd hx hb dX11_drift_143 ?_
                  refine lv_topi (fun v143_449 e143_449 => ?_)
                  refine lv_iadd hx hb dX11_drift_144 ?_
                  refine lv_topi (fun v144_450 e144_450 => ?_)
                  refine pf_X11_234 X hw hM.1 dX11_drift_145 (fun H locs hw => ?_)
                  have hw : PX G A s.heap (ch S (up2 I73 129 (ma 0) v144_450) (pJ S) (qI S) (qJ S)) H locs := hw
                  refine lv_aload_n hx hb dX11_drift_148 rfl (lv_at hl 3 rfl) ?_
                  refine lv_dup hx hb dX11_drift_149 rfl ?_
                  refine gf_X11_231 (v := I73 130 (ma 0)) X hw hM.1 rfl dX11_drift_150 ?_
                  refine lv_aload_n hx hb dX11_drift_153 rfl (lv_at hl 3 rfl) ?_
                  refine lv_iload hx hb dX11_drift_154 (lv_at hl 0 rfl) ?_
                  refine lv_iload hx hb dX11_drift_156 (lv_at hl 1 rfl) ?_
                  refine lv_iconst (v := 1) hx hb dX11_drift_158 (by decide) ?_
                  refine k_Vi (n := 3) X hw (rcvk (ci := 11) X hw hM.1 (fun _ _ _ _ _ _ _ => ⟨_, rfl⟩) rfl) (c_X11_streamOf l G _ ma v114_440 k 1 hM (show 0 ≤ (I73 120 (ma 0) : Int32).toInt ∧ (I73 120 (ma 0) : Int32).toInt ≤ 1 by omega) (by omega) (by omega)) wd_r25_13 wd_r25_14 wd_r25_15 wd_r1_5 wd_r25_16 ⟨by decide, by decide, by decide +kernel⟩ rfl rfl ⟨Nat.le_of_ble_eq_true rfl, Nat.le_of_ble_eq_true rfl⟩ rfl rfl hl.1 (Nat.le_of_ble_eq_true rfl) dX11_drift_159 ⟨Nat.le_of_ble_eq_true rfl, Nat.le_of_ble_eq_true rfl⟩ (fun r159_451 S159_453 H locs h159_452 hw => ?_)
                  have := t_1
                  obtain ⟨rfl, h159_452⟩ := h159_452
                  refine lv_aload_n hx hb dX11_drift_162 rfl (lv_at hl 3 rfl) ?_
                  refine lv_iload hx hb dX11_drift_163 (lv_at hl 1 rfl) ?_
                  refine lv_iconst (v := 1) hx hb dX11_drift_165 (by decide) ?_
                  refine k_Vi (n := 2) X hw (rcvk (ci := 11) X hw hM.1 (fun _ _ _ _ _ _ _ => ⟨_, rfl⟩) rfl) (c_X11_windOf l G _ ma k 1 hM (show 0 ≤ (I73 120 (ma 0) : Int32).toInt ∧ (I73 120 (ma 0) : Int32).toInt ≤ 1 by omega) (by omega)) wd_r24_23 wd_r25_0 wd_r25_1 wd_r1_5 wd_r25_2 ⟨by decide, by decide, by decide +kernel⟩ rfl rfl ⟨Nat.le_of_ble_eq_true rfl, Nat.le_of_ble_eq_true rfl⟩ rfl rfl hl.1 (Nat.le_of_ble_eq_true rfl) dX11_drift_166 ⟨Nat.le_of_ble_eq_true rfl, Nat.le_of_ble_eq_true rfl⟩ (fun r166_454 S166_456 H locs h166_455 hw => ?_)
                  have := t_1
                  obtain ⟨rfl, h166_455⟩ := h166_455
                  refine lv_iload_n hx hb dX11_drift_169 rfl (lv_at hl 2 rfl) ?_
                  refine lv_imul hx hb dX11_drift_170 ?_
                  refine lv_topi (fun v170_457 e170_457 => ?_)
                  refine lv_bipush (v := 100) hx hb dX11_drift_171 (by decide) ?_
                  refine lv_idiv hx hb dX11_drift_173 (by decide) ?_
                  refine lv_topi (fun v173_458 e173_458 => ?_)
                  refine lv_iadd hx hb dX11_drift_174 ?_
                  refine lv_topi (fun v174_459 e174_459 => ?_)
                  refine lv_iadd hx hb dX11_drift_175 ?_
                  refine lv_topi (fun v175_460 e175_460 => ?_)
                  refine pf_X11_231 X hw hM.1 dX11_drift_176 (fun H locs hw => ?_)
                  have hw : PX G A s.heap (ch S (up2 (up2 I73 129 (ma 0) v144_450) 130 (ma 0) v175_460) (pJ S) (qI S) (qJ S)) H locs := hw
                  refine lv_aload_n hx hb dX11_drift_179 rfl (lv_at hl 3 rfl) ?_
                  refine lv_aload_n hx hb dX11_drift_180 rfl (lv_at hl 3 rfl) ?_
                  refine gf_X11_234 (v := v144_450) X hw hM.1 (show up2 I73 129 (ma 0) v144_450 129 (ma 0) = v144_450 from up2_s) dX11_drift_181 ?_
                  refine k_Si (n := 1) X hw (c_X11_isPoint l G _ v144_450) wd_r29_19 wd_r29_20 wd_r1_5 wd_r29_21 ⟨by decide, by decide, by decide +kernel⟩ rfl rfl ⟨Nat.le_of_ble_eq_true rfl, Nat.le_of_ble_eq_true rfl⟩ rfl rfl hl.1 (Nat.le_of_ble_eq_true rfl) dX11_drift_184 ⟨Nat.le_of_ble_eq_true rfl, Nat.le_of_ble_eq_true rfl⟩ (fun r184_461 S184_463 H locs h184_462 hw => ?_)
                  rcases h184_462 with ⟨rfl, rfl, h184_462⟩ | ⟨rfl, rfl, h184_462⟩
                  · have h184_462 := h184_462
                    refine lv_if_eq (tgt := 200) hx hb dX11_drift_187 (by decide) (fun c187_464 => absurd c187_464 (by decide)) (fun c187_464 => ?_)
                    refine lv_aload_n hx hb dX11_drift_190 rfl (lv_at hl 3 rfl) ?_
                    refine gf_X11_231 (v := v175_460) X hw hM.1 (show up2 (up2 I73 129 (ma 0) v144_450) 130 (ma 0) v175_460 130 (ma 0) = v175_460 from up2_s) dX11_drift_191 ?_
                    refine k_Si (n := 1) X hw (c_X11_isPoint l G _ v175_460) wd_r29_19 wd_r29_20 wd_r1_5 wd_r29_21 ⟨by decide, by decide, by decide +kernel⟩ rfl rfl ⟨Nat.le_of_ble_eq_true rfl, Nat.le_of_ble_eq_true rfl⟩ rfl rfl hl.1 (Nat.le_of_ble_eq_true rfl) dX11_drift_194 ⟨Nat.le_of_ble_eq_true rfl, Nat.le_of_ble_eq_true rfl⟩ (fun r194_465 S194_467 H locs h194_466 hw => ?_)
                    rcases h194_466 with ⟨rfl, rfl, h194_466⟩ | ⟨rfl, rfl, h194_466⟩
                    · have h194_466 := h194_466
                      refine lv_if_ne (tgt := 204) hx hb dX11_drift_197 (by decide) (fun c197_468 => ?_) (fun c197_468 => absurd c197_468 (by decide))
                      refine lv_aload_n hx hb dX11_drift_204 rfl (lv_at hl 3 rfl) ?_
                      refine k_Vi (n := 0) X hw (rcvk (ci := 11) X hw hM.1 (fun _ _ _ _ _ _ _ => ⟨_, rfl⟩) rfl) (c_X11_isOnLand l G _ ma hM (show 0 ≤ (I73 120 (ma 0) : Int32).toInt ∧ (I73 120 (ma 0) : Int32).toInt ≤ 1 by omega) (px_of (a := (v144_450 : Int32)) (b := (v175_460 : Int32)) (show up2 I73 129 (ma 0) v144_450 129 (ma 0) = v144_450 from up2_s) (show up2 (up2 I73 129 (ma 0) v144_450) 130 (ma 0) v175_460 130 (ma 0) = v175_460 from up2_s) (by omega))) wd_r31_7 wd_r31_8 wd_r31_9 wd_r1_5 wd_r31_10 ⟨by decide, by decide, by decide +kernel⟩ rfl rfl ⟨Nat.le_of_ble_eq_true rfl, Nat.le_of_ble_eq_true rfl⟩ rfl rfl hl.1 (Nat.le_of_ble_eq_true rfl) dX11_drift_205 ⟨Nat.le_of_ble_eq_true rfl, Nat.le_of_ble_eq_true rfl⟩ (fun r205_469 S205_471 H locs h205_470 hw => ?_)
                      rcases h205_470 with ⟨rfl, rfl, h205_470⟩ | ⟨rfl, rfl, h205_470⟩
                      · have h205_470 := h205_470
                        refine lv_if_eq (tgt := 215) hx hb dX11_drift_208 (by decide) (fun c208_472 => absurd c208_472 (by decide)) (fun c208_472 => ?_)
                        refine lv_iconst (v := 1) hx hb dX11_drift_211 (by decide) ?_
                        refine lv_goto (tgt := 216) hx hb dX11_drift_212 (by decide) ?_
                        refine pf_X11_240 X hw hM.1 dX11_drift_216 (fun H locs hw => ?_)
                        have hw : PX G A s.heap (ch S (up2 (up2 (up2 I73 129 (ma 0) v144_450) 130 (ma 0) v175_460) 131 (ma 0) 1) (pJ S) (qI S) (qJ S)) H locs := hw
                        obtain ⟨v219_473, e219_473⟩ : ∃ y : Int32, y = k + 1 := ⟨_, rfl⟩
                        have t219_473 := iAdd e219_473 rfl t_1 (by omega) (by omega)
                        have t219 := t219_473
                        refine lv_iinc (v := v219_473) (lv' := [(4, .int v219_473), (5, .int v114_440), (3, .int v63_353), (0, .ref (ma 0)), (1, .int t), (2, .int n)]) hx hb dX11_drift_219 hl (k := 1) rfl (by rw [e219_473]; rfl) (by decide) rfl (fun ls hl => ?_)
                        refine lv_goto (tgt := 73) hx hb dX11_drift_222 (by decide) ?_
                        exact ih73 (up2 (up2 (up2 I73 129 (ma 0) v144_450) 130 (ma 0) v175_460) 131 (ma 0) 1) v219_473 (FrD.up (f := 131) (by decide) (FrD.up (f := 130) (by decide) (FrD.up (f := 129) (by decide) hF))) (by rw [show (up2 (up2 (up2 I73 129 (ma 0) v144_450) 130 (ma 0) v175_460) 131 (ma 0) 1) 129 (ma 0) = (v144_450 : Int32) from (show up2 I73 129 (ma 0) v144_450 129 (ma 0) = v144_450 from up2_s), show (up2 (up2 (up2 I73 129 (ma 0) v144_450) 130 (ma 0) v175_460) 131 (ma 0) 1) 130 (ma 0) = (v175_460 : Int32) from (show up2 (up2 I73 129 (ma 0) v144_450) 130 (ma 0) v175_460 130 (ma 0) = v175_460 from up2_s), show (up2 (up2 (up2 I73 129 (ma 0) v144_450) 130 (ma 0) v175_460) 131 (ma 0) 1) 131 (ma 0) = (1 : Int32) from (show up2 (up2 (up2 I73 129 (ma 0) v144_450) 130 (ma 0) v175_460) 131 (ma 0) 1 131 (ma 0) = 1 from up2_s)]; have := t_0; have := t_1; have := t_2; omega) (by omega) (by omega) _ _ _ hw (lv_sub hl [0, 2, 3, 4, 5] rfl)
                      · have h205_470 := h205_470
                        refine lv_if_eq (tgt := 215) hx hb dX11_drift_208 (by decide) (fun c208_474 => ?_) (fun c208_474 => absurd c208_474 (by decide))
                        refine lv_iconst (v := 0) hx hb dX11_drift_215 (by decide) ?_
                        refine pf_X11_240 X hw hM.1 dX11_drift_216 (fun H locs hw => ?_)
                        have hw : PX G A s.heap (ch S (up2 (up2 (up2 I73 129 (ma 0) v144_450) 130 (ma 0) v175_460) 131 (ma 0) 0) (pJ S) (qI S) (qJ S)) H locs := hw
                        obtain ⟨v219_475, e219_475⟩ : ∃ y : Int32, y = k + 1 := ⟨_, rfl⟩
                        have t219_475 := iAdd e219_475 rfl t_1 (by omega) (by omega)
                        have t219 := t219_475
                        refine lv_iinc (v := v219_475) (lv' := [(4, .int v219_475), (5, .int v114_440), (3, .int v63_353), (0, .ref (ma 0)), (1, .int t), (2, .int n)]) hx hb dX11_drift_219 hl (k := 1) rfl (by rw [e219_475]; rfl) (by decide) rfl (fun ls hl => ?_)
                        refine lv_goto (tgt := 73) hx hb dX11_drift_222 (by decide) ?_
                        exact ih73 (up2 (up2 (up2 I73 129 (ma 0) v144_450) 130 (ma 0) v175_460) 131 (ma 0) 0) v219_475 (FrD.up (f := 131) (by decide) (FrD.up (f := 130) (by decide) (FrD.up (f := 129) (by decide) hF))) (by rw [show (up2 (up2 (up2 I73 129 (ma 0) v144_450) 130 (ma 0) v175_460) 131 (ma 0) 0) 129 (ma 0) = (v144_450 : Int32) from (show up2 I73 129 (ma 0) v144_450 129 (ma 0) = v144_450 from up2_s), show (up2 (up2 (up2 I73 129 (ma 0) v144_450) 130 (ma 0) v175_460) 131 (ma 0) 0) 130 (ma 0) = (v175_460 : Int32) from (show up2 (up2 I73 129 (ma 0) v144_450) 130 (ma 0) v175_460 130 (ma 0) = v175_460 from up2_s), show (up2 (up2 (up2 I73 129 (ma 0) v144_450) 130 (ma 0) v175_460) 131 (ma 0) 0) 131 (ma 0) = (0 : Int32) from (show up2 (up2 (up2 I73 129 (ma 0) v144_450) 130 (ma 0) v175_460) 131 (ma 0) 0 131 (ma 0) = 0 from up2_s)]; have := t_0; have := t_1; have := t_2; omega) (by omega) (by omega) _ _ _ hw (lv_sub hl [0, 2, 3, 4, 5] rfl)
                    · have h194_466 := h194_466
                      refine lv_if_ne (tgt := 204) hx hb dX11_drift_197 (by decide) (fun c197_476 => absurd c197_476 (by decide)) (fun c197_476 => ?_)
                      refine lv_iconst (v := 2) hx hb dX11_drift_200 (by decide) ?_
                      refine lv_goto (tgt := 216) hx hb dX11_drift_201 (by decide) ?_
                      refine pf_X11_240 X hw hM.1 dX11_drift_216 (fun H locs hw => ?_)
                      have hw : PX G A s.heap (ch S (up2 (up2 (up2 I73 129 (ma 0) v144_450) 130 (ma 0) v175_460) 131 (ma 0) 2) (pJ S) (qI S) (qJ S)) H locs := hw
                      obtain ⟨v219_477, e219_477⟩ : ∃ y : Int32, y = k + 1 := ⟨_, rfl⟩
                      have t219_477 := iAdd e219_477 rfl t_1 (by omega) (by omega)
                      have t219 := t219_477
                      refine lv_iinc (v := v219_477) (lv' := [(4, .int v219_477), (5, .int v114_440), (3, .int v63_353), (0, .ref (ma 0)), (1, .int t), (2, .int n)]) hx hb dX11_drift_219 hl (k := 1) rfl (by rw [e219_477]; rfl) (by decide) rfl (fun ls hl => ?_)
                      refine lv_goto (tgt := 73) hx hb dX11_drift_222 (by decide) ?_
                      exact ih73 (up2 (up2 (up2 I73 129 (ma 0) v144_450) 130 (ma 0) v175_460) 131 (ma 0) 2) v219_477 (FrD.up (f := 131) (by decide) (FrD.up (f := 130) (by decide) (FrD.up (f := 129) (by decide) hF))) (by rw [show (up2 (up2 (up2 I73 129 (ma 0) v144_450) 130 (ma 0) v175_460) 131 (ma 0) 2) 129 (ma 0) = (v144_450 : Int32) from (show up2 I73 129 (ma 0) v144_450 129 (ma 0) = v144_450 from up2_s), show (up2 (up2 (up2 I73 129 (ma 0) v144_450) 130 (ma 0) v175_460) 131 (ma 0) 2) 130 (ma 0) = (v175_460 : Int32) from (show up2 (up2 I73 129 (ma 0) v144_450) 130 (ma 0) v175_460 130 (ma 0) = v175_460 from up2_s), show (up2 (up2 (up2 I73 129 (ma 0) v144_450) 130 (ma 0) v175_460) 131 (ma 0) 2) 131 (ma 0) = (2 : Int32) from (show up2 (up2 (up2 I73 129 (ma 0) v144_450) 130 (ma 0) v175_460) 131 (ma 0) 2 131 (ma 0) = 2 from up2_s)]; have := t_0; have := t_1; have := t_2; omega) (by omega) (by omega) _ _ _ hw (lv_sub hl [0, 2, 3, 4, 5] rfl)
                  · have h184_462 := h184_462
                    refine lv_if_eq (tgt := 200) hx hb dX11_drift_187 (by decide) (fun c187_478 => ?_) (fun c187_478 => absurd c187_478 (by decide))
                    refine lv_iconst (v := 2) hx hb dX11_drift_200 (by decide) ?_
                    refine lv_goto (tgt := 216) hx hb dX11_drift_201 (by decide) ?_
                    refine pf_X11_240 X hw hM.1 dX11_drift_216 (fun H locs hw => ?_)
                    have hw : PX G A s.heap (ch S (up2 (up2 (up2 I73 129 (ma 0) v144_450) 130 (ma 0) v175_460) 131 (ma 0) 2) (pJ S) (qI S) (qJ S)) H locs := hw
                    obtain ⟨v219_479, e219_479⟩ : ∃ y : Int32, y = k + 1 := ⟨_, rfl⟩
                    have t219_479 := iAdd e219_479 rfl t_1 (by omega) (by omega)
                    have t219 := t219_479
                    refine lv_iinc (v := v219_479) (lv' := [(4, .int v219_479), (5, .int v114_440), (3, .int v63_353), (0, .ref (ma 0)), (1, .int t), (2, .int n)]) hx hb dX11_drift_219 hl (k := 1) rfl (by rw [e219_479]; rfl) (by decide) rfl (fun ls hl => ?_)
                    refine lv_goto (tgt := 73) hx hb dX11_drift_222 (by decide) ?_
                    exact ih73 (up2 (up2 (up2 I73 129 (ma 0) v144_450) 130 (ma 0) v175_460) 131 (ma 0) 2) v219_479 (FrD.up (f := 131) (by decide) (FrD.up (f := 130) (by decide) (FrD.up (f := 129) (by decide) hF))) (by rw [show (up2 (up2 (up2 I73 129 (ma 0) v144_450) 130 (ma 0) v175_460) 131 (ma 0) 2) 129 (ma 0) = (v144_450 : Int32) from (show up2 I73 129 (ma 0) v144_450 129 (ma 0) = v144_450 from up2_s), show (up2 (up2 (up2 I73 129 (ma 0) v144_450) 130 (ma 0) v175_460) 131 (ma 0) 2) 130 (ma 0) = (v175_460 : Int32) from (show up2 (up2 I73 129 (ma 0) v144_450) 130 (ma 0) v175_460 130 (ma 0) = v175_460 from up2_s), show (up2 (up2 (up2 I73 129 (ma 0) v144_450) 130 (ma 0) v175_460) 131 (ma 0) 2) 131 (ma 0) = (2 : Int32) from (show up2 (up2 (up2 I73 129 (ma 0) v144_450) 130 (ma 0) v175_460) 131 (ma 0) 2 131 (ma 0) = 2 from up2_s)]; have := t_0; have := t_1; have := t_2; omega) (by omega) (by omega) _ _ _ hw (lv_sub hl [0, 2, 3, 4, 5] rfl)
                · have D106_439 := iNle c106_439 t_40 rfl
                  refine lv_iconst (v := 0) hx hb dX11_drift_109 (by decide) ?_
                  refine lv_goto (tgt := 114) hx hb dX11_drift_110 (by decide) ?_
                  refine lv_iadd hx hb dX11_drift_114 ?_
                  refine lv_topi (fun v114_480 e114_480 => ?_)
                  have t114_480 := iAdd e114_480 t_0 t_0 (by omega) (by omega)
                  have t114 := t114_480
                  refine lv_istore (lv' := [(5, .int v114_480), (4, .int k), (3, .int v63_353), (0, .ref (ma 0)), (1, .int t), (2, .int n)]) hx hb dX11_drift_115 hl (by decide) rfl (fun ls hl => ?_)
                  refine lv_aload_n hx hb dX11_drift_117 rfl (lv_at hl 3 rfl) ?_
                  refine lv_dup hx hb dX11_drift_118 rfl ?_
                  refine gf_X11_234 (v := I73 129 (ma 0)) X hw hM.1 rfl dX11_drift_119 ?_
                  refine lv_aload_n hx hb dX11_drift_122 rfl (lv_at hl 3 rfl) ?_
                  refine lv_iload hx hb dX11_drift_123 (lv_at hl 0 rfl) ?_
                  refine lv_iload hx hb dX11_drift_125 (lv_at hl 1 rfl) ?_
                  refine lv_iconst (v := 0) hx hb dX11_drift_127 (by decide) ?_
                  refine k_Vi (n := 3) X hw (rcvk (ci := 11) X hw hM.1 (fun _ _ _ _ _ _ _ => ⟨_, rfl⟩) rfl) (c_X11_streamOf l G _ ma v114_480 k 0 hM (show 0 ≤ (I73 120 (ma 0) : Int32).toInt ∧ (I73 120 (ma 0) : Int32).toInt ≤ 1 by omega) (by omega) (by omega)) wd_r25_13 wd_r25_14 wd_r25_15 wd_r1_5 wd_r25_16 ⟨by decide, by decide, by decide +kernel⟩ rfl rfl ⟨Nat.le_of_ble_eq_true rfl, Nat.le_of_ble_eq_true rfl⟩ rfl rfl hl.1 (Nat.le_of_ble_eq_true rfl) dX11_drift_128 ⟨Nat.le_of_ble_eq_true rfl, Nat.le_of_ble_eq_true rfl⟩ (fun r128_481 S128_483 H locs h128_482 hw => ?_)
                  have := t_0
                  obtain ⟨rfl, h128_482⟩ := h128_482
                  refine lv_aload_n hx hb dX11_drift_131 rfl (lv_at hl 3 rfl) ?_
                  refine lv_iload hx hb dX11_drift_132 (lv_at hl 1 rfl) ?_
                  refine lv_iconst (v := 0) hx hb dX11_drift_134 (by decide) ?_
                  refine k_Vi (n := 2) X hw (rcvk (ci := 11) X hw hM.1 (fun _ _ _ _ _ _ _ => ⟨_, rfl⟩) rfl) (c_X11_windOf l G _ ma k 0 hM (show 0 ≤ (I73 120 (ma 0) : Int32).toInt ∧ (I73 120 (ma 0) : Int32).toInt ≤ 1 by omega) (by omega)) wd_r24_23 wd_r25_0 wd_r25_1 wd_r1_5 wd_r25_2 ⟨by decide, by decide, by decide +kernel⟩ rfl rfl ⟨Nat.le_of_ble_eq_true rfl, Nat.le_of_ble_eq_true rfl⟩ rfl rfl hl.1 (Nat.le_of_ble_eq_true rfl) dX11_drift_135 ⟨Nat.le_of_ble_eq_true rfl, Nat.le_of_ble_eq_true rfl⟩ (fun r135_484 S135_486 H locs h135_485 hw => ?_)
                  have := t_0
                  obtain ⟨rfl, h135_485⟩ := h135_485
                  refine lv_iload_n hx hb dX11_drift_138 rfl (lv_at hl 2 rfl) ?_
                  refine lv_imul hx hb dX11_drift_139 ?_
                  refine lv_topi (fun v139_487 e139_487 => ?_)
                  refine lv_bipush (v := 100) hx hb dX11_drift_140 (by decide) ?_
                  refine lv_idiv hx hb dX11_drift_142 (by decide) ?_
                  refine lv_topi (fun v142_488 e142_488 => ?_)
                  refine lv_iadd hx hb dX11_drift_143 ?_
                  refine lv_topi (fun v143_489 e143_489 => ?_)
                  refine lv_iadd hx hb dX11_drift_144 ?_
                  refine lv_topi (fun v144_490 e144_490 => ?_)
                  refine pf_X11_234 X hw hM.1 dX11_drift_145 (fun H locs hw => ?_)
                  have hw : PX G A s.heap (ch S (up2 I73 129 (ma 0) v144_490) (pJ S) (qI S) (qJ S)) H locs := hw
                  refine lv_aload_n hx hb dX11_drift_148 rfl (lv_at hl 3 rfl) ?_
                  refine lv_dup hx hb dX11_drift_149 rfl ?_
                  refine gf_X11_231 (v := I73 130 (ma 0)) X hw hM.1 rfl dX11_drift_150 ?_
                  refine lv_aload_n hx hb dX11_drift_153 rfl (lv_at hl 3 rfl) ?_
                  refine lv_iload hx hb dX11_drift_154 (lv_at hl 0 rfl) ?_
                  refine lv_iload hx hb dX11_drift_156 (lv_at hl 1 rfl) ?_
                  refine lv_iconst (v := 1) hx hb dX11_drift_158 (by decide) ?_
                  refine k_Vi (n := 3) X hw (rcvk (ci := 11) X hw hM.1 (fun _ _ _ _ _ _ _ => ⟨_, rfl⟩) rfl) (c_X11_streamOf l G _ ma v114_480 k 1 hM (show 0 ≤ (I73 120 (ma 0) : Int32).toInt ∧ (I73 120 (ma 0) : Int32).toInt ≤ 1 by omega) (by omega) (by omega)) wd_r25_13 wd_r25_14 wd_r25_15 wd_r1_5 wd_r25_16 ⟨by decide, by decide, by decide +kernel⟩ rfl rfl ⟨Nat.le_of_ble_eq_true rfl, Nat.le_of_ble_eq_true rfl⟩ rfl rfl hl.1 (Nat.le_of_ble_eq_true rfl) dX11_drift_159 ⟨Nat.le_of_ble_eq_true rfl, Nat.le_of_ble_eq_true rfl⟩ (fun r159_491 S159_493 H locs h159_492 hw => ?_)
                  have := t_1
                  obtain ⟨rfl, h159_492⟩ := h159_492
                  refine lv_aload_n hx hb dX11_drift_162 rfl (lv_at hl 3 rfl) ?_
                  refine lv_iload hx hb dX11_drift_163 (lv_at hl 1 rfl) ?_
                  refine lv_iconst (v := 1) hx hb dX11_drift_165 (by decide) ?_
                  refine k_Vi (n := 2) X hw (rcvk (ci := 11) X hw hM.1 (fun _ _ _ _ _ _ _ => ⟨_, rfl⟩) rfl) (c_X11_windOf l G _ ma k 1 hM (show 0 ≤ (I73 120 (ma 0) : Int32).toInt ∧ (I73 120 (ma 0) : Int32).toInt ≤ 1 by omega) (by omega)) wd_r24_23 wd_r25_0 wd_r25_1 wd_r1_5 wd_r25_2 ⟨by decide, by decide, by decide +kernel⟩ rfl rfl ⟨Nat.le_of_ble_eq_true rfl, Nat.le_of_ble_eq_true rfl⟩ rfl rfl hl.1 (Nat.le_of_ble_eq_true rfl) dX11_drift_166 ⟨Nat.le_of_ble_eq_true rfl, Nat.le_of_ble_eq_true rfl⟩ (fun r166_494 S166_496 H locs h166_495 hw => ?_)
                  have := t_1
                  obtain ⟨rfl, h166_495⟩ := h166_495
                  refine lv_iload_n hx hb dX11_drift_169 rfl (lv_at hl 2 rfl) ?_
                  refine lv_imul hx hb dX11_drift_170 ?_
                  refine lv_topi (fun v170_497 e170_497 => ?_)
                  refine lv_bipush (v := 100) hx hb dX11_drift_171 (by decide) ?_
                  refine lv_idiv hx hb dX11_drift_173 (by decide) ?_
                  refine lv_topi (fun v173_498 e173_498 => ?_)
                  refine lv_iadd hx hb dX11_drift_174 ?_
                  refine lv_topi (fun v174_499 e174_499 => ?_)
                  refine lv_iadd hx hb dX11_drift_175 ?_
                  refine lv_topi (fun v175_500 e175_500 => ?_)
                  refine pf_X11_231 X hw hM.1 dX11_drift_176 (fun H locs hw => ?_)
                  have hw : PX G A s.heap (ch S (up2 (up2 I73 129 (ma 0) v144_490) 130 (ma 0) v175_500) (pJ S) (qI S) (qJ S)) H locs := hw
                  refine lv_aload_n hx hb dX11_drift_179 rfl (lv_at hl 3 rfl) ?_
                  refine lv_aload_n hx hb dX11_drift_180 rfl (lv_at hl 3 rfl) ?_
                  refine gf_X11_234 (v := v144_490) X hw hM.1 (show up2 I73 129 (ma 0) v144_490 129 (ma 0) = v144_490 from up2_s) dX11_drift_181 ?_
                  refine k_Si (n := 1) X hw (c_X11_isPoint l G _ v144_490) wd_r29_19 wd_r29_20 wd_r1_5 wd_r29_21 ⟨by decide, by decide, by decide +kernel⟩ rfl rfl ⟨Nat.le_of_ble_eq_true rfl, Nat.le_of_ble_eq_true rfl⟩ rfl rfl hl.1 (Nat.le_of_ble_eq_true rfl) dX11_drift_184 ⟨Nat.le_of_ble_eq_true rfl, Nat.le_of_ble_eq_true rfl⟩ (fun r184_501 S184_503 H locs h184_502 hw => ?_)
                  rcases h184_502 with ⟨rfl, rfl, h184_502⟩ | ⟨rfl, rfl, h184_502⟩
                  · have h184_502 := h184_502
                    refine lv_if_eq (tgt := 200) hx hb dX11_drift_187 (by decide) (fun c187_504 => absurd c187_504 (by decide)) (fun c187_504 => ?_)
                    refine lv_aload_n hx hb dX11_drift_190 rfl (lv_at hl 3 rfl) ?_
                    refine gf_X11_231 (v := v175_500) X hw hM.1 (show up2 (up2 I73 129 (ma 0) v144_490) 130 (ma 0) v175_500 130 (ma 0) = v175_500 from up2_s) dX11_drift_191 ?_
                    refine k_Si (n := 1) X hw (c_X11_isPoint l G _ v175_500) wd_r29_19 wd_r29_20 wd_r1_5 wd_r29_21 ⟨by decide, by decide, by decide +kernel⟩ rfl rfl ⟨Nat.le_of_ble_eq_true rfl, Nat.le_of_ble_eq_true rfl⟩ rfl rfl hl.1 (Nat.le_of_ble_eq_true rfl) dX11_drift_194 ⟨Nat.le_of_ble_eq_true rfl, Nat.le_of_ble_eq_true rfl⟩ (fun r194_505 S194_507 H locs h194_506 hw => ?_)
                    rcases h194_506 with ⟨rfl, rfl, h194_506⟩ | ⟨rfl, rfl, h194_506⟩
                    · have h194_506 := h194_506
                      refine lv_if_ne (tgt := 204) hx hb dX11_drift_197 (by decide) (fun c197_508 => ?_) (fun c197_508 => absurd c197_508 (by decide))
                      refine lv_aload_n hx hb dX11_drift_204 rfl (lv_at hl 3 rfl) ?_
                      refine k_Vi (n := 0) X hw (rcvk (ci := 11) X hw hM.1 (fun _ _ _ _ _ _ _ => ⟨_, rfl⟩) rfl) (c_X11_isOnLand l G _ ma hM (show 0 ≤ (I73 120 (ma 0) : Int32).toInt ∧ (I73 120 (ma 0) : Int32).toInt ≤ 1 by omega) (px_of (a := (v144_490 : Int32)) (b := (v175_500 : Int32)) (show up2 I73 129 (ma 0) v144_490 129 (ma 0) = v144_490 from up2_s) (show up2 (up2 I73 129 (ma 0) v144_490) 130 (ma 0) v175_500 130 (ma 0) = v175_500 from up2_s) (by omega))) wd_r31_7 wd_r31_8 wd_r31_9 wd_r1_5 wd_r31_10 ⟨by decide, by decide, by decide +kernel⟩ rfl rfl ⟨Nat.le_of_ble_eq_true rfl, Nat.le_of_ble_eq_true rfl⟩ rfl rfl hl.1 (Nat.le_of_ble_eq_true rfl) dX11_drift_205 ⟨Nat.le_of_ble_eq_true rfl, Nat.le_of_ble_eq_true rfl⟩ (fun r205_509 S205_511 H locs h205_510 hw => ?_)
                      rcases h205_510 with ⟨rfl, rfl, h205_510⟩ | ⟨rfl, rfl, h205_510⟩
                      · have h205_510 := h205_510
                        refine lv_if_eq (tgt := 215) hx hb dX11_drift_208 (by decide) (fun c208_512 => absurd c208_512 (by decide)) (fun c208_512 => ?_)
                        refine lv_iconst (v := 1) hx hb dX11_drift_211 (by decide) ?_
                        refine lv_goto (tgt := 216) hx hb dX11_drift_212 (by decide) ?_
                        refine pf_X11_240 X hw hM.1 dX11_drift_216 (fun H locs hw => ?_)
                        have hw : PX G A s.heap (ch S (up2 (up2 (up2 I73 129 (ma 0) v144_490) 130 (ma 0) v175_500) 131 (ma 0) 1) (pJ S) (qI S) (qJ S)) H locs := hw
                        obtain ⟨v219_513, e219_513⟩ : ∃ y : Int32, y = k + 1 := ⟨_, rfl⟩
                        have t219_513 := iAdd e219_513 rfl t_1 (by omega) (by omega)
                        have t219 := t219_513
                        refine lv_iinc (v := v219_513) (lv' := [(4, .int v219_513), (5, .int v114_480), (3, .int v63_353), (0, .ref (ma 0)), (1, .int t), (2, .int n)]) hx hb dX11_drift_219 hl (k := 1) rfl (by rw [e219_513]; rfl) (by decide) rfl (fun ls hl => ?_)
                        refine lv_goto (tgt := 73) hx hb dX11_drift_222 (by decide) ?_
                        exact ih73 (up2 (up2 (up2 I73 129 (ma 0) v144_490) 130 (ma 0) v175_500) 131 (ma 0) 1) v219_513 (FrD.up (f := 131) (by decide) (FrD.up (f := 130) (by decide) (FrD.up (f := 129) (by decide) hF))) (by rw [show (up2 (up2 (up2 I73 129 (ma 0) v144_490) 130 (ma 0) v175_500) 131 (ma 0) 1) 129 (ma 0) = (v144_490 : Int32) from (show up2 I73 129 (ma 0) v144_490 129 (ma 0) = v144_490 from up2_s), show (up2 (up2 (up2 I73 129 (ma 0) v144_490) 130 (ma 0) v175_500) 131 (ma 0) 1) 130 (ma 0) = (v175_500 : Int32) from (show up2 (up2 I73 129 (ma 0) v144_490) 130 (ma 0) v175_500 130 (ma 0) = v175_500 from up2_s), show (up2 (up2 (up2 I73 129 (ma 0) v144_490) 130 (ma 0) v175_500) 131 (ma 0) 1) 131 (ma 0) = (1 : Int32) from (show up2 (up2 (up2 I73 129 (ma 0) v144_490) 130 (ma 0) v175_500) 131 (ma 0) 1 131 (ma 0) = 1 from up2_s)]; have := t_0; have := t_1; have := t_2; omega) (by omega) (by omega) _ _ _ hw (lv_sub hl [0, 2, 3, 4, 5] rfl)
                      · have h205_510 := h205_510
                        refine lv_if_eq (tgt := 215) hx hb dX11_drift_208 (by decide) (fun c208_514 => ?_) (fun c208_514 => absurd c208_514 (by decide))
                        refine lv_iconst (v := 0) hx hb dX11_drift_215 (by decide) ?_
                        refine pf_X11_240 X hw hM.1 dX11_drift_216 (fun H locs hw => ?_)
                        have hw : PX G A s.heap (ch S (up2 (up2 (up2 I73 129 (ma 0) v144_490) 130 (ma 0) v175_500) 131 (ma 0) 0) (pJ S) (qI S) (qJ S)) H locs := hw
                        obtain ⟨v219_515, e219_515⟩ : ∃ y : Int32, y = k + 1 := ⟨_, rfl⟩
                        have t219_515 := iAdd e219_515 rfl t_1 (by omega) (by omega)
                        have t219 := t219_515
                        refine lv_iinc (v := v219_515) (lv' := [(4, .int v219_515), (5, .int v114_480), (3, .int v63_353), (0, .ref (ma 0)), (1, .int t), (2, .int n)]) hx hb dX11_drift_219 hl (k := 1) rfl (by rw [e219_515]; rfl) (by decide) rfl (fun ls hl => ?_)
                        refine lv_goto (tgt := 73) hx hb dX11_drift_222 (by decide) ?_
                        exact ih73 (up2 (up2 (up2 I73 129 (ma 0) v144_490) 130 (ma 0) v175_500) 131 (ma 0) 0) v219_515 (FrD.up (f := 131) (by decide) (FrD.up (f := 130) (by decide) (FrD.up (f := 129) (by decide) hF))) (by rw [show (up2 (up2 (up2 I73 129 (ma 0) v144_490) 130 (ma 0) v175_500) 131 (ma 0) 0) 129 (ma 0) = (v144_490 : Int32) from (show up2 I73 129 (ma 0) v144_490 129 (ma 0) = v144_490 from up2_s), show (up2 (up2 (up2 I73 129 (ma 0) v144_490) 130 (ma 0) v175_500) 131 (ma 0) 0) 130 (ma 0) = (v175_500 : Int32) from (show up2 (up2 I73 129 (ma 0) v144_490) 130 (ma 0) v175_500 130 (ma 0) = v175_500 from up2_s), show (up2 (up2 (up2 I73 129 (ma 0) v144_490) 130 (ma 0) v175_500) 131 (ma 0) 0) 131 (ma 0) = (0 : Int32) from (show up2 (up2 (up2 I73 129 (ma 0) v144_490) 130 (ma 0) v175_500) 131 (ma 0) 0 131 (ma 0) = 0 from up2_s)]; have := t_0; have := t_1; have := t_2; omega) (by omega) (by omega) _ _ _ hw (lv_sub hl [0, 2, 3, 4, 5] rfl)
                    · have h194_506 := h194_506
                      refine lv_if_ne (tgt := 204) hx hb dX11_drift_197 (by decide) (fun c197_516 => absurd c197_516 (by decide)) (fun c197_516 => ?_)
                      refine lv_iconst (v := 2) hx hb dX11_drift_200 (by decide) ?_
                      refine lv_goto (tgt := 216) hx hb dX11_drift_201 (by decide) ?_
                      refine pf_X11_240 X hw hM.1 dX11_drift_216 (fun H locs hw => ?_)
                      have hw : PX G A s.heap (ch S (up2 (up2 (up2 I73 129 (ma 0) v144_490) 130 (ma 0) v175_500) 131 (ma 0) 2) (pJ S) (qI S) (qJ S)) H locs := hw
                      obtain ⟨v219_517, e219_517⟩ : ∃ y : Int32, y = k + 1 := ⟨_, rfl⟩
                      have t219_517 := iAdd e219_517 rfl t_1 (by omega) (by omega)
                      have t219 := t219_517
                      refine lv_iinc (v := v219_517) (lv' := [(4, .int v219_517), (5, .int v114_480), (3, .int v63_353), (0, .ref (ma 0)), (1, .int t), (2, .int n)]) hx hb dX11_drift_219 hl (k := 1) rfl (by rw [e219_517]; rfl) (by decide) rfl (fun ls hl => ?_)
                      refine lv_goto (tgt := 73) hx hb dX11_drift_222 (by decide) ?_
                      exact ih73 (up2 (up2 (up2 I73 129 (ma 0) v144_490) 130 (ma 0) v175_500) 131 (ma 0) 2) v219_517 (FrD.up (f := 131) (by decide) (FrD.up (f := 130) (by decide) (FrD.up (f := 129) (by decide) hF))) (by rw [show (up2 (up2 (up2 I73 129 (ma 0) v144_490) 130 (ma 0) v175_500) 131 (ma 0) 2) 129 (ma 0) = (v144_490 : Int32) from (show up2 I73 129 (ma 0) v144_490 129 (ma 0) = v144_490 from up2_s), show (up2 (up2 (up2 I73 129 (ma 0) v144_490) 130 (ma 0) v175_500) 131 (ma 0) 2) 130 (ma 0) = (v175_500 : Int32) from (show up2 (up2 I73 129 (ma 0) v144_490) 130 (ma 0) v175_500 130 (ma 0) = v175_500 from up2_s), show (up2 (up2 (up2 I73 129 (ma 0) v144_490) 130 (ma 0) v175_500) 131 (ma 0) 2) 131 (ma 0) = (2 : Int32) from (show up2 (up2 (up2 I73 129 (ma 0) v144_490) 130 (ma 0) v175_500) 131 (ma 0) 2 131 (ma 0) = 2 from up2_s)]; have := t_0; have := t_1; have := t_2; omega) (by omega) (by omega) _ _ _ hw (lv_sub hl [0, 2, 3, 4, 5] rfl)
                  · have h184_502 := h184_502
                    refine lv_if_eq (tgt := 200) hx hb dX11_drift_187 (by decide) (fun c187_518 => ?_) (fun c187_518 => absurd c187_518 (by decide))
                    refine lv_iconst (v := 2) hx hb dX11_drift_200 (by decide) ?_
                    refine lv_goto (tgt := 216) hx hb dX11_drift_201 (by decide) ?_
                    refine pf_X11_240 X hw hM.1 dX11_drift_216 (fun H locs hw => ?_)
                    have hw : PX G A s.heap (ch S (up2 (up2 (up2 I73 129 (ma 0) v144_490) 130 (ma 0) v175_500) 131 (ma 0) 2) (pJ S) (qI S) (qJ S)) H locs := hw
                    obtain ⟨v219_519, e219_519⟩ : ∃ y : Int32, y = k + 1 := ⟨_, rfl⟩
                    have t219_519 := iAdd e219_519 rfl t_1 (by omega) (by omega)
                    have t219 := t219_519
                    refine lv_iinc (v := v219_519) (lv' := [(4, .int v219_519), (5, .int v114_480), (3, .int v63_353), (0, .ref (ma 0)), (1, .int t), (2, .int n)]) hx hb dX11_drift_219 hl (k := 1) rfl (by rw [e219_519]; rfl) (by decide) rfl (fun ls hl => ?_)
                    refine lv_goto (tgt := 73) hx hb dX11_drift_222 (by decide) ?_
                    exact ih73 (up2 (up2 (up2 I73 129 (ma 0) v144_490) 130 (ma 0) v175_500) 131 (ma 0) 2) v219_519 (FrD.up (f := 131) (by decide) (FrD.up (f := 130) (by decide) (FrD.up (f := 129) (by decide) hF))) (by rw [show (up2 (up2 (up2 I73 129 (ma 0) v144_490) 130 (ma 0) v175_500) 131 (ma 0) 2) 129 (ma 0) = (v144_490 : Int32) from (show up2 I73 129 (ma 0) v144_490 129 (ma 0) = v144_490 from up2_s), show (up2 (up2 (up2 I73 129 (ma 0) v144_490) 130 (ma 0) v175_500) 131 (ma 0) 2) 130 (ma 0) = (v175_500 : Int32) from (show up2 (up2 I73 129 (ma 0) v144_490) 130 (ma 0) v175_500 130 (ma 0) = v175_500 from up2_s), show (up2 (up2 (up2 I73 129 (ma 0) v144_490) 130 (ma 0) v175_500) 131 (ma 0) 2) 131 (ma 0) = (2 : Int32) from (show up2 (up2 (up2 I73 129 (ma 0) v144_490) 130 (ma 0) v175_500) 131 (ma 0) 2 131 (ma 0) = 2 from up2_s)]; have := t_0; have := t_1; have := t_2; omega) (by omega) (by omega) _ _ _ hw (lv_sub hl [0, 2, 3, 4, 5] rfl)
      exact lp73 _ (up2 (up2 (up2 (pI S) 129 (ma 0) v6_1) 130 (ma 0) v16_2) 131 (ma 0) 0) v70_354 (FrD.up (f := 131) (by decide) (FrD.up (f := 130) (by decide) (FrD.up (f := 129) (by decide) FrD.rf))) (by rw [show (up2 (up2 (up2 (pI S) 129 (ma 0) v6_1) 130 (ma 0) v16_2) 131 (ma 0) 0) 129 (ma 0) = (v6_1 : Int32) from (show up2 (pI S) 129 (ma 0) v6_1 129 (ma 0) = v6_1 from up2_s), show (up2 (up2 (up2 (pI S) 129 (ma 0) v6_1) 130 (ma 0) v16_2) 131 (ma 0) 0) 130 (ma 0) = (v16_2 : Int32) from (show up2 (up2 (pI S) 129 (ma 0) v6_1) 130 (ma 0) v16_2 130 (ma 0) = v16_2 from up2_s), show (up2 (up2 (up2 (pI S) 129 (ma 0) v6_1) 130 (ma 0) v16_2) 131 (ma 0) 0) 131 (ma 0) = (0 : Int32) from (show up2 (up2 (up2 (pI S) 129 (ma 0) v6_1) 130 (ma 0) v16_2) 131 (ma 0) 0 131 (ma 0) = 0 from up2_s)]; have := t_0; have := t_1; have := t_2; omega) (by omega) (Nat.lt_succ_self _) _ _ _ hw (lv_sub hl [0, 1, 2, 3, 4] rfl)
set_option maxHeartbeats 4000000 in
set_option maxRecDepth 100000 in
theorem c_X11_place (l : Launch) (G : Gh) (S : Pl) (ma : Nat → Nat) (t n : Int32) (hM : shMod S ma) (hI : mInv (pI S) (qI S) ma) : MtI l yX11_place cX11_place 3 (some .int) (Rm 3 0 0) G [.ref (ma 0), .int t, .int n] S (fun (r : Int32) (S' : Pl) => ∃ I', ch S I' (pJ S) (qI S) (qJ S) = S' ∧ FrD (pI S) I') 0 0 := by
  refine MtI.of (by decide) (Nat.le_of_ble_eq_true rfl) ?_
  intro p e s m args below meth c Q A X hw hin hret ls hl
  have hx := X.1.1
  have hb := X.1.2.1
  have hl : lv_has ls 3 [(0, .ref (ma 0)), (1, .int t), (2, .int n)] := hl
  refine lv_aload_n hx hb dX11_place_0 rfl (lv_at hl 0 rfl) ?_
  refine lv_iload_n hx hb dX11_place_1 rfl (lv_at hl 1 rfl) ?_
  refine k_Vi (n := 1) X hw (rcvk (ci := 11) X hw hM.1 (fun _ _ _ _ _ _ _ => ⟨_, rfl⟩) rfl) (c_X11_isTale l G _ ma t hM) wd_r30_20 wd_r30_21 wd_r30_22 wd_r1_5 wd_r30_23 ⟨by decide, by decide, by decide +kernel⟩ rfl rfl ⟨Nat.le_of_ble_eq_true rfl, Nat.le_of_ble_eq_true rfl⟩ rfl rfl hl.1 (Nat.le_of_ble_eq_true rfl) dX11_place_2 ⟨Nat.le_of_ble_eq_true rfl, Nat.le_of_ble_eq_true rfl⟩ (fun r2_1 S2_3 H locs h2_2 hw => ?_)
  rcases h2_2 with ⟨rfl, rfl, h2_2⟩ | ⟨rfl, rfl, h2_2⟩
  · have h2_2 := h2_2
    refine lv_if_eq (tgt := 15) hx hb dX11_place_5 (by decide) (fun c5_4 => absurd c5_4 (by decide)) (fun c5_4 => ?_)
    refine lv_iload_n hx hb dX11_place_8 rfl (lv_at hl 2 rfl) ?_
    refine k_Si (n := 1) X hw (c_X11_isMoment l G _ n) wd_r31_0 wd_r31_1 wd_r1_5 wd_r31_2 ⟨by decide, by decide, by decide +kernel⟩ rfl rfl ⟨Nat.le_of_ble_eq_true rfl, Nat.le_of_ble_eq_true rfl⟩ rfl rfl hl.1 (Nat.le_of_ble_eq_true rfl) dX11_place_9 ⟨Nat.le_of_ble_eq_true rfl, Nat.le_of_ble_eq_true rfl⟩ (fun r9_5 S9_7 H locs h9_6 hw => ?_)
    rcases h9_6 with ⟨rfl, rfl, h9_6⟩ | ⟨rfl, rfl, h9_6⟩
    · have h9_6 := h9_6
      refine lv_if_ne (tgt := 17) hx hb dX11_place_12 (by decide) (fun c12_8 => ?_) (fun c12_8 => absurd c12_8 (by decide))
      refine lv_aload_n hx hb dX11_place_17 rfl (lv_at hl 0 rfl) ?_
      refine lv_iload_n hx hb dX11_place_18 rfl (lv_at hl 1 rfl) ?_
      refine lv_iload_n hx hb dX11_place_19 rfl (lv_at hl 2 rfl) ?_
      refine k_Vv (n := 2) X hw (rcvk (ci := 11) X hw hM.1 (fun _ _ _ _ _ _ _ => ⟨_, rfl⟩) rfl) (c_X11_drift l G _ ma t n hM (hI.d FrD.rf) (show 0 ≤ t.toInt ∧ t.toInt < ((pI S) 128 (ma 0) : Int32).toInt by omega) (by omega)) wd_r31_3 wd_r31_4 wd_r31_5 wd_r1_5 wd_r31_6 ⟨by decide, by decide, by decide +kernel⟩ rfl rfl ⟨Nat.le_of_ble_eq_true rfl, Nat.le_of_ble_eq_true rfl⟩ rfl rfl hl.1 (Nat.le_of_ble_eq_true rfl) dX11_place_20 ⟨Nat.le_of_ble_eq_true rfl, Nat.le_of_ble_eq_true rfl⟩ (fun S20_10 H locs h20_9 hw => ?_)
      obtain ⟨I20_11, rfl, h20_9⟩ := h20_9
      have hw : PX G A s.heap (ch S I20_11 (pJ S) (qI S) (qJ S)) H locs := hw
      refine lv_aload_n hx hb dX11_place_23 rfl (lv_at hl 0 rfl) ?_
      refine gf_X11_240 (v := I20_11 131 (ma 0)) X hw hM.1 rfl dX11_place_24 ?_
      refine lv_iconst (v := 2) hx hb dX11_place_27 (by decide) ?_
      refine lv_icmp_ne (tgt := 35) hx hb dX11_place_28 (by decide) (fun c28_12 => ?_) (fun c28_12 => ?_)
      · skip
        refine lv_bipush (v := 100) hx hb dX11_place_35 (by decide) ?_
        refine lv_aload_n hx hb dX11_place_37 rfl (lv_at hl 0 rfl) ?_
        refine gf_X11_231 (v := I20_11 130 (ma 0)) X hw hM.1 rfl dX11_place_38 ?_
        refine lv_imul hx hb dX11_place_41 ?_
        refine lv_topi (fun v41_13 e41_13 => ?_)
        refine lv_aload_n hx hb dX11_place_42 rfl (lv_at hl 0 rfl) ?_
        refine gf_X11_234 (v := I20_11 129 (ma 0)) X hw hM.1 rfl dX11_place_43 ?_
        refine lv_iadd hx hb dX11_place_46 ?_
        refine lv_topi (fun v46_14 e46_14 => ?_)
        exact hret v46_14 _ _ _ _ _ ⟨_, rfl, (FrD.tr FrD.rf h20_9.1)⟩ hw rfl dX11_place_47
      · have D28_12 := iEq c28_12 rfl t_2
        refine lv_iconst (v := -1) hx hb dX11_place_31 (by decide) ?_
        refine lv_goto (tgt := 47) hx hb dX11_place_32 (by decide) ?_
        exact hret (-1) _ _ _ _ _ ⟨_, rfl, (FrD.tr FrD.rf h20_9.1)⟩ hw rfl dX11_place_47
    · have h9_6 := h9_6
      refine lv_if_ne (tgt := 17) hx hb dX11_place_12 (by decide) (fun c12_15 => absurd c12_15 (by decide)) (fun c12_15 => ?_)
      refine lv_iconst (v := -1) hx hb dX11_place_15 (by decide) ?_
      exact hret (-1) _ _ _ _ _ ⟨_, rfl, FrD.rf⟩ hw rfl dX11_place_16
  · have h2_2 := h2_2
    refine lv_if_eq (tgt := 15) hx hb dX11_place_5 (by decide) (fun c5_16 => ?_) (fun c5_16 => absurd c5_16 (by decide))
    refine lv_iconst (v := -1) hx hb dX11_place_15 (by decide) ?_
    exact hret (-1) _ _ _ _ _ ⟨_, rfl, FrD.rf⟩ hw rfl dX11_place_16
set_option maxHeartbeats 4000000 in
set_option maxRecDepth 100000 in
theorem c_X11_state (l : Launch) (G : Gh) (S : Pl) (ma : Nat → Nat) (t n : Int32) (hM : shMod S ma) (hI : mInv (pI S) (qI S) ma) : MtI l yX11_state cX11_state 3 (some .int) (Rm 3 0 0) G [.ref (ma 0), .int t, .int n] S (fun (r : Int32) (S' : Pl) => ∃ I', ch S I' (pJ S) (qI S) (qJ S) = S' ∧ FrD (pI S) I') 0 0 := by
  refine MtI.of (by decide) (Nat.le_of_ble_eq_true rfl) ?_
  intro p e s m args below meth c Q A X hw hin hret ls hl
  have hx := X.1.1
  have hb := X.1.2.1
  have hl : lv_has ls 3 [(0, .ref (ma 0)), (1, .int t), (2, .int n)] := hl
  refine lv_aload_n hx hb dX11_state_0 rfl (lv_at hl 0 rfl) ?_
  refine lv_iload_n hx hb dX11_state_1 rfl (lv_at hl 1 rfl) ?_
  refine k_Vi (n := 1) X hw (rcvk (ci := 11) X hw hM.1 (fun _ _ _ _ _ _ _ => ⟨_, rfl⟩) rfl) (c_X11_isTale l G _ ma t hM) wd_r30_20 wd_r30_21 wd_r30_22 wd_r1_5 wd_r30_23 ⟨by decide, by decide, by decide +kernel⟩ rfl rfl ⟨Nat.le_of_ble_eq_true rfl, Nat.le_of_ble_eq_true rfl⟩ rfl rfl hl.1 (Nat.le_of_ble_eq_true rfl) dX11_state_2 ⟨Nat.le_of_ble_eq_true rfl, Nat.le_of_ble_eq_true rfl⟩ (fun r2_1 S2_3 H locs h2_2 hw => ?_)
  rcases h2_2 with ⟨rfl, rfl, h2_2⟩ | ⟨rfl, rfl, h2_2⟩
  · have h2_2 := h2_2
    refine lv_if_eq (tgt := 15) hx hb dX11_state_5 (by decide) (fun c5_4 => absurd c5_4 (by decide)) (fun c5_4 => ?_)
    refine lv_iload_n hx hb dX11_state_8 rfl (lv_at hl 2 rfl) ?_
    refine k_Si (n := 1) X hw (c_X11_isMoment l G _ n) wd_r31_0 wd_r31_1 wd_r1_5 wd_r31_2 ⟨by decide, by decide, by decide +kernel⟩ rfl rfl ⟨Nat.le_of_ble_eq_true rfl, Nat.le_of_ble_eq_true rfl⟩ rfl rfl hl.1 (Nat.le_of_ble_eq_true rfl) dX11_state_9 ⟨Nat.le_of_ble_eq_true rfl, Nat.le_of_ble_eq_true rfl⟩ (fun r9_5 S9_7 H locs h9_6 hw => ?_)
    rcases h9_6 with ⟨rfl, rfl, h9_6⟩ | ⟨rfl, rfl, h9_6⟩
    · have h9_6 := h9_6
      refine lv_if_ne (tgt := 17) hx hb dX11_state_12 (by decide) (fun c12_8 => ?_) (fun c12_8 => absurd c12_8 (by decide))
      refine lv_aload_n hx hb dX11_state_17 rfl (lv_at hl 0 rfl) ?_
      refine lv_iload_n hx hb dX11_state_18 rfl (lv_at hl 1 rfl) ?_
      refine lv_iload_n hx hb dX11_state_19 rfl (lv_at hl 2 rfl) ?_
      refine k_Vv (n := 2) X hw (rcvk (ci := 11) X hw hM.1 (fun _ _ _ _ _ _ _ => ⟨_, rfl⟩) rfl) (c_X11_drift l G _ ma t n hM (hI.d FrD.rf) (show 0 ≤ t.toInt ∧ t.toInt < ((pI S) 128 (ma 0) : Int32).toInt by omega) (by omega)) wd_r31_3 wd_r31_4 wd_r31_5 wd_r1_5 wd_r31_6 ⟨by decide, by decide, by decide +kernel⟩ rfl rfl ⟨Nat.le_of_ble_eq_true rfl, Nat.le_of_ble_eq_true rfl⟩ rfl rfl hl.1 (Nat.le_of_ble_eq_true rfl) dX11_state_20 ⟨Nat.le_of_ble_eq_true rfl, Nat.le_of_ble_eq_true rfl⟩ (fun S20_10 H locs h20_9 hw => ?_)
      obtain ⟨I20_11, rfl, h20_9⟩ := h20_9
      have hw : PX G A s.heap (ch S I20_11 (pJ S) (qI S) (qJ S)) H locs := hw
      refine lv_aload_n hx hb dX11_state_23 rfl (lv_at hl 0 rfl) ?_
      refine gf_X11_240 (v := I20_11 131 (ma 0)) X hw hM.1 rfl dX11_state_24 ?_
      exact hret (I20_11 131 (ma 0)) _ _ _ _ _ ⟨_, rfl, (FrD.tr FrD.rf h20_9.1)⟩ hw rfl dX11_state_27
    · have h9_6 := h9_6
      refine lv_if_ne (tgt := 17) hx hb dX11_state_12 (by decide) (fun c12_12 => absurd c12_12 (by decide)) (fun c12_12 => ?_)
      refine lv_iconst (v := -1) hx hb dX11_state_15 (by decide) ?_
      exact hret (-1) _ _ _ _ _ ⟨_, rfl, FrD.rf⟩ hw rfl dX11_state_16
  · have h2_2 := h2_2
    refine lv_if_eq (tgt := 15) hx hb dX11_state_5 (by decide) (fun c5_13 => ?_) (fun c5_13 => absurd c5_13 (by decide))
    refine lv_iconst (v := -1) hx hb dX11_state_15 (by decide) ?_
    exact hret (-1) _ _ _ _ _ ⟨_, rfl, FrD.rf⟩ hw rfl dX11_state_16
set_option maxHeartbeats 4000000 in
set_option maxRecDepth 100000 in
theorem c_X11_weighs (l : Launch) (G : Gh) (S : Pl) (ma : Nat → Nat) (x t : Int32) (hM : shMod S ma) (hI : mInv (pI S) (qI S) ma) (hx0 : 0 ≤ x.toInt ∧ x.toInt < (pI S 140 (ma 0)).toInt) (ht : 0 ≤ t.toInt ∧ t.toInt < (pI S 128 (ma 0)).toInt) : MtI l yX11_weighs cX11_weighs 4 (some .int) (Rm 3 0 0) G [.ref (ma 0), .int x, .int t] S (fun (r : Int32) (S' : Pl) => ∃ I', ch S I' (pJ S) (qI S) (qJ S) = S' ∧ FrD (pI S) I' ∧ 0 ≤ r.toInt ∧ r.toInt ≤ 100) 0 0 := by
  refine MtI.of (by decide) (Nat.le_of_ble_eq_true rfl) ?_
  intro p e s m args below meth c Q A X hw hin hret ls hl
  have hx := X.1.1
  have hb := X.1.2.1
  have hl : lv_has ls 4 [(0, .ref (ma 0)), (1, .int x), (2, .int t)] := hl
  obtain ⟨⟨b1, b2, b3, b4, b5, b6⟩, hT, hP, hC⟩ := id hI
  have pz := mP_at hP (x := x) hx0.1 hx0.2
  refine lv_aload_n hx hb dX11_weighs_0 rfl (lv_at hl 0 rfl) ?_
  refine lv_iload_n hx hb dX11_weighs_1 rfl (lv_at hl 2 rfl) ?_
  refine lv_aload_n hx hb dX11_weighs_2 rfl (lv_at hl 0 rfl) ?_
  refine gf_X11_105 (b := (ma 33)) X hw hM.1 (mr_33 hM) dX11_weighs_3 ?_
  refine lv_iload_n hx hb dX11_weighs_6 rfl (lv_at hl 1 rfl) ?_
  refine q_ldI X hw (mk_33 hM) (vin (mn_33 hM) (by omega) (by omega)) dX11_weighs_7 ?_
  refine lv_topi (fun v7_1 e7_1 => ?_)
  have e7_1 : v7_1 = (qI S) (ma 33) x.toNatClampNeg := e7_1
  have g7 := congrArg Int32.toInt e7_1
  refine k_Vv (n := 2) X hw (rcvk (ci := 11) X hw hM.1 (fun _ _ _ _ _ _ _ => ⟨_, rfl⟩) rfl) (c_X11_drift l G _ ma t v7_1 hM (hI.d FrD.rf) (show 0 ≤ t.toInt ∧ t.toInt < ((pI S) 128 (ma 0) : Int32).toInt by omega) (by omega)) wd_r31_3 wd_r31_4 wd_r31_5 wd_r1_5 wd_r31_6 ⟨by decide, by decide, by decide +kernel⟩ rfl rfl ⟨Nat.le_of_ble_eq_true rfl, Nat.le_of_ble_eq_true rfl⟩ rfl rfl hl.1 (Nat.le_of_ble_eq_true rfl) dX11_weighs_8 ⟨Nat.le_of_ble_eq_true rfl, Nat.le_of_ble_eq_true rfl⟩ (fun S8_3 H locs h8_2 hw => ?_)
  obtain ⟨I8_4, rfl, h8_2⟩ := h8_2
  have hw : PX G A s.heap (ch S I8_4 (pJ S) (qI S) (qJ S)) H locs := hw
  have hbF := FrD.at (FrD.tr FrD.rf h8_2.1) (f := 120) (by decide) (ma 0)
  refine lv_aload_n hx hb dX11_weighs_11 rfl (lv_at hl 0 rfl) ?_
  refine gf_X11_120 (b := (ma 38)) X hw hM.1 (mr_38 hM) dX11_weighs_12 ?_
  refine lv_iload_n hx hb dX11_weighs_15 rfl (lv_at hl 1 rfl) ?_
  refine q_ldI X hw (mk_38 hM) (vin (mn_38 hM) (by omega) (by omega)) dX11_weighs_16 ?_
  refine lv_topi (fun v16_5 e16_5 => ?_)
  have e16_5 : v16_5 = (qI S) (ma 38) x.toNatClampNeg := e16_5
  have g16 := congrArg Int32.toInt e16_5
  refine lv_iconst (v := 2) hx hb dX11_weighs_17 (by decide) ?_
  refine lv_icmp_ne (tgt := 85) hx hb dX11_weighs_18 (by decide) (fun c18_6 => ?_) (fun c18_6 => ?_)
  · have D18_6 := iNe c18_6 rfl t_2
    refine lv_aload_n hx hb dX11_weighs_85 rfl (lv_at hl 0 rfl) ?_
    refine gf_X11_240 (v := I8_4 131 (ma 0)) X hw hM.1 rfl dX11_weighs_86 ?_
    refine lv_if_ne (tgt := 160) hx hb dX11_weighs_89 (by decide) (fun c89_7 => ?_) (fun c89_7 => ?_)
    · skip
      refine lv_iconst (v := 0) hx hb dX11_weighs_160 (by decide) ?_
      refine lv_istore_n (lv' := [(3, .int 0), (0, .ref (ma 0)), (1, .int x), (2, .int t)]) hx hb dX11_weighs_161 rfl hl (by decide) rfl (fun ls hl => ?_)
      refine lv_iload_n hx hb dX11_weighs_162 rfl (lv_at hl 0 rfl) ?_
      refine lv_if_eq (tgt := 185) hx hb dX11_weighs_163 (by decide) (fun c163_8 => ?_) (fun c163_8 => absurd c163_8 (by decide))
      refine lv_bipush (v := 100) hx hb dX11_weighs_185 (by decide) ?_
      exact hret 100 _ _ _ _ _ ⟨_, rfl, (FrD.tr FrD.rf h8_2.1), by have := t_100; omega, by have := t_100; omega⟩ hw rfl dX11_weighs_187
    · have D89_7 := iEq c89_7 rfl t_0
      refine lv_aload_n hx hb dX11_weighs_92 rfl (lv_at hl 0 rfl) ?_
      refine gf_X11_234 (v := I8_4 129 (ma 0)) X hw hM.1 rfl dX11_weighs_93 ?_
      refine lv_bipush (v := 10) hx hb dX11_weighs_96 (by decide) ?_
      refine lv_idiv hx hb dX11_weighs_98 (by decide) ?_
      refine lv_topi (fun v98_9 e98_9 => ?_)
      refine lv_aload_n hx hb dX11_weighs_99 rfl (lv_at hl 0 rfl) ?_
      refine gf_X11_108 (b := (ma 34)) X hw hM.1 (mr_34 hM) dX11_weighs_100 ?_
      refine lv_iload_n hx hb dX11_weighs_103 rfl (lv_at hl 1 rfl) ?_
      refine q_ldI X hw (mk_34 hM) (vin (mn_34 hM) (by omega) (by omega)) dX11_weighs_104 ?_
      refine lv_topi (fun v104_10 e104_10 => ?_)
      have e104_10 : v104_10 = (qI S) (ma 34) x.toNatClampNeg := e104_10
      refine lv_icmp_lt (tgt := 160) hx hb dX11_weighs_105 (by decide) (fun c105_11 => ?_) (fun c105_11 => ?_)
      · have D105_11 := iLt c105_11 rfl rfl
        refine lv_iconst (v := 0) hx hb dX11_weighs_160 (by decide) ?_
        refine lv_istore_n (lv' := [(3, .int 0), (0, .ref (ma 0)), (1, .int x), (2, .int t)]) hx hb dX11_weighs_161 rfl hl (by decide) rfl (fun ls hl => ?_)
        refine lv_iload_n hx hb dX11_weighs_162 rfl (lv_at hl 0 rfl) ?_
        refine lv_if_eq (tgt := 185) hx hb dX11_weighs_163 (by decide) (fun c163_12 => ?_) (fun c163_12 => absurd c163_12 (by decide))
        refine lv_bipush (v := 100) hx hb dX11_weighs_185 (by decide) ?_
        exact hret 100 _ _ _ _ _ ⟨_, rfl, (FrD.tr FrD.rf h8_2.1), by have := t_100; omega, by have := t_100; omega⟩ hw rfl dX11_weighs_187
      · have D105_11 := iNlt c105_11 rfl rfl
        refine lv_aload_n hx hb dX11_weighs_108 rfl (lv_at hl 0 rfl) ?_
        refine gf_X11_234 (v := I8_4 129 (ma 0)) X hw hM.1 rfl dX11_weighs_109 ?_
        refine lv_bipush (v := 10) hx hb dX11_weighs_112 (by decide) ?_
        refine lv_idiv hx hb dX11_weighs_114 (by decide) ?_
        refine lv_topi (fun v114_13 e114_13 => ?_)
        refine lv_aload_n hx hb dX11_weighs_115 rfl (lv_at hl 0 rfl) ?_
        refine gf_X11_111 (b := (ma 35)) X hw hM.1 (mr_35 hM) dX11_weighs_116 ?_
        refine lv_iload_n hx hb dX11_weighs_119 rfl (lv_at hl 1 rfl) ?_
        refine q_ldI X hw (mk_35 hM) (vin (mn_35 hM) (by omega) (by omega)) dX11_weighs_120 ?_
        refine lv_topi (fun v120_14 e120_14 => ?_)
        have e120_14 : v120_14 = (qI S) (ma 35) x.toNatClampNeg := e120_14
        refine lv_icmp_gt (tgt := 160) hx hb dX11_weighs_121 (by decide) (fun c121_15 => ?_) (fun c121_15 => ?_)
        · have D121_15 := iLt c121_15 rfl rfl
          refine lv_iconst (v := 0) hx hb dX11_weighs_160 (by decide) ?_
          refine lv_istore_n (lv' := [(3, .int 0), (0, .ref (ma 0)), (1, .int x), (2, .int t)]) hx hb dX11_weighs_161 rfl hl (by decide) rfl (fun ls hl => ?_)
          refine lv_iload_n hx hb dX11_weighs_162 rfl (lv_at hl 0 rfl) ?_
          refine lv_if_eq (tgt := 185) hx hb dX11_weighs_163 (by decide) (fun c163_16 => ?_) (fun c163_16 => absurd c163_16 (by decide))
          refine lv_bipush (v := 100) hx hb dX11_weighs_185 (by decide) ?_
          exact hret 100 _ _ _ _ _ ⟨_, rfl, (FrD.tr FrD.rf h8_2.1), by have := t_100; omega, by have := t_100; omega⟩ hw rfl dX11_weighs_187
        · have D121_15 := iNlt c121_15 rfl rfl
          refine lv_aload_n hx hb dX11_weighs_124 rfl (lv_at hl 0 rfl) ?_
          refine gf_X11_231 (v := I8_4 130 (ma 0)) X hw hM.1 rfl dX11_weighs_125 ?_
          refine lv_bipush (v := 10) hx hb dX11_weighs_128 (by decide) ?_
          refine lv_idiv hx hb dX11_weighs_130 (by decide) ?_
          refine lv_topi (fun v130_17 e130_17 => ?_)
          refine lv_aload_n hx hb dX11_weighs_131 rfl (lv_at hl 0 rfl) ?_
          refine gf_X11_114 (b := (ma 36)) X hw hM.1 (mr_36 hM) dX11_weighs_132 ?_
          refine lv_iload_n hx hb dX11_weighs_135 rfl (lv_at hl 1 rfl) ?_
          refine q_ldI X hw (mk_36 hM) (vin (mn_36 hM) (by omega) (by omega)) dX11_weighs_136 ?_
          refine lv_topi (fun v136_18 e136_18 => ?_)
          have e136_18 : v136_18 = (qI S) (ma 36) x.toNatClampNeg := e136_18
          refine lv_icmp_lt (tgt := 160) hx hb dX11_weighs_137 (by decide) (fun c137_19 => ?_) (fun c137_19 => ?_)
          · have D137_19 := iLt c137_19 rfl rfl
            refine lv_iconst (v := 0) hx hb dX11_weighs_160 (by decide) ?_
            refine lv_istore_n (lv' := [(3, .int 0), (0, .ref (ma 0)), (1, .int x), (2, .int t)]) hx hb dX11_weighs_161 rfl hl (by decide) rfl (fun ls hl => ?_)
            refine lv_iload_n hx hb dX11_weighs_162 rfl (lv_at hl 0 rfl) ?_
            refine lv_if_eq (tgt := 185) hx hb dX11_weighs_163 (by decide) (fun c163_20 => ?_) (fun c163_20 => absurd c163_20 (by decide))
            refine lv_bipush (v := 100) hx hb dX11_weighs_185 (by decide) ?_
            exact hret 100 _ _ _ _ _ ⟨_, rfl, (FrD.tr FrD.rf h8_2.1), by have := t_100; omega, by have := t_100; omega⟩ hw rfl dX11_weighs_187
          · have D137_19 := iNlt c137_19 rfl rfl
            refine lv_aload_n hx hb dX11_weighs_140 rfl (lv_at hl 0 rfl) ?_
            refine gf_X11_231 (v := I8_4 130 (ma 0)) X hw hM.1 rfl dX11_weighs_141 ?_
            refine lv_bipush (v := 10) hx hb dX11_weighs_144 (by decide) ?_
            refine lv_idiv hx hb dX11_weighs_146 (by decide) ?_
            refine lv_topi (fun v146_21 e146_21 => ?_)
            refine lv_aload_n hx hb dX11_weighs_147 rfl (lv_at hl 0 rfl) ?_
            refine gf_X11_117 (b := (ma 37)) X hw hM.1 (mr_37 hM) dX11_weighs_148 ?_
            refine lv_iload_n hx hb dX11_weighs_151 rfl (lv_at hl 1 rfl) ?_
            refine q_ldI X hw (mk_37 hM) (vin (mn_37 hM) (by omega) (by omega)) dX11_weighs_152 ?_
            refine lv_topi (fun v152_22 e152_22 => ?_)
            have e152_22 : v152_22 = (qI S) (ma 37) x.toNatClampNeg := e152_22
            refine lv_icmp_gt (tgt := 160) hx hb dX11_weighs_153 (by decide) (fun c153_23 => ?_) (fun c153_23 => ?_)
            · have D153_23 := iLt c153_23 rfl rfl
              refine lv_iconst (v := 0) hx hb dX11_weighs_160 (by decide) ?_
              refine lv_istore_n (lv' := [(3, .int 0), (0, .ref (ma 0)), (1, .int x), (2, .int t)]) hx hb dX11_weighs_161 rfl hl (by decide) rfl (fun ls hl => ?_)
              refine lv_iload_n hx hb dX11_weighs_162 rfl (lv_at hl 0 rfl) ?_
              refine lv_if_eq (tgt := 185) hx hb dX11_weighs_163 (by decide) (fun c163_24 => ?_) (fun c163_24 => absurd c163_24 (by decide))
              refine lv_bipush (v := 100) hx hb dX11_weighs_185 (by decide) ?_
              exact hret 100 _ _ _ _ _ ⟨_, rfl, (FrD.tr FrD.rf h8_2.1), by have := t_100; omega, by have := t_100; omega⟩ hw rfl dX11_weighs_187
            · have D153_23 := iNlt c153_23 rfl rfl
              refine lv_iconst (v := 1) hx hb dX11_weighs_156 (by decide) ?_
              refine lv_goto (tgt := 161) hx hb dX11_weighs_157 (by decide) ?_
              refine lv_istore_n (lv' := [(3, .int 1), (0, .ref (ma 0)), (1, .int x), (2, .int t)]) hx hb dX11_weighs_161 rfl hl (by decide) rfl (fun ls hl => ?_)
              refine lv_iload_n hx hb dX11_weighs_162 rfl (lv_at hl 0 rfl) ?_
              refine lv_if_eq (tgt := 185) hx hb dX11_weighs_163 (by decide) (fun c163_25 => absurd c163_25 (by decide)) (fun c163_25 => ?_)
              refine lv_aload_n hx hb dX11_weighs_166 rfl (lv_at hl 1 rfl) ?_
              refine lv_aload_n hx hb dX11_weighs_167 rfl (lv_at hl 1 rfl) ?_
              refine gf_X11_120 (b := (ma 38)) X hw hM.1 (mr_38 hM) dX11_weighs_168 ?_
              refine lv_iload_n hx hb dX11_weighs_171 rfl (lv_at hl 2 rfl) ?_
              refine q_ldI X hw (mk_38 hM) (vin (mn_38 hM) (by omega) (by omega)) dX11_weighs_172 ?_
              refine lv_topi (fun v172_26 e172_26 => ?_)
              have e172_26 : v172_26 = (qI S) (ma 38) x.toNatClampNeg := e172_26
              have g172 := congrArg Int32.toInt e172_26
              refine lv_aload_n hx hb dX11_weighs_173 rfl (lv_at hl 1 rfl) ?_
              refine gf_X11_123 (b := (ma 39)) X hw hM.1 (mr_39 hM) dX11_weighs_174 ?_
              refine lv_iload_n hx hb dX11_weighs_177 rfl (lv_at hl 2 rfl) ?_
              refine q_ldI X hw (mk_39 hM) (vin (mn_39 hM) (by omega) (by omega)) dX11_weighs_178 ?_
              refine lv_topi (fun v178_27 e178_27 => ?_)
              have e178_27 : v178_27 = (qI S) (ma 39) x.toNatClampNeg := e178_27
              have g178 := congrArg Int32.toInt e178_27
              refine k_Vi (n := 2) X hw (rcvk (ci := 11) X hw hM.1 (fun _ _ _ _ _ _ _ => ⟨_, rfl⟩) rfl) (c_X11_missOf l G _ ma v172_26 v178_27 hM (show 0 ≤ (I8_4 120 (ma 0) : Int32).toInt ∧ (I8_4 120 (ma 0) : Int32).toInt ≤ 1 by omega) (by omega) (by omega)) wd_r26_6 wd_r26_7 wd_r26_8 wd_r1_5 wd_r26_9 ⟨by decide, by decide, by decide +kernel⟩ rfl rfl ⟨Nat.le_of_ble_eq_true rfl, Nat.le_of_ble_eq_true rfl⟩ rfl rfl hl.1 (Nat.le_of_ble_eq_true rfl) dX11_weighs_179 ⟨Nat.le_of_ble_eq_true rfl, Nat.le_of_ble_eq_true rfl⟩ (fun r179_28 S179_30 H locs h179_29 hw => ?_)
              obtain ⟨rfl, h179_29⟩ := h179_29
              have h179_29g : 0 ≤ r179_28.toInt ∧ r179_28.toInt ≤ 100 := by rw [h179_29]; exact mOr_rng hC.2 _
              refine lv_goto (tgt := 187) hx hb dX11_weighs_182 (by decide) ?_
              exact hret r179_28 _ _ _ _ _ ⟨_, rfl, (FrD.tr FrD.rf h8_2.1), by have := t_100; omega, by have := t_100; omega⟩ hw rfl dX11_weighs_187
  · have D18_6 := iEq c18_6 rfl t_2
    refine lv_aload_n hx hb dX11_weighs_21 rfl (lv_at hl 0 rfl) ?_
    refine gf_X11_240 (v := I8_4 131 (ma 0)) X hw hM.1 rfl dX11_weighs_22 ?_
    refine lv_iconst (v := 2) hx hb dX11_weighs_25 (by decide) ?_
    refine lv_icmp_eq (tgt := 78) hx hb dX11_weighs_26 (by decide) (fun c26_31 => ?_) (fun c26_31 => ?_)
    · have D26_31 := iEq c26_31 rfl t_2
      refine lv_aload_n hx hb dX11_weighs_78 rfl (lv_at hl 0 rfl) ?_
      refine gf_X11_123 (b := (ma 39)) X hw hM.1 (mr_39 hM) dX11_weighs_79 ?_
      refine lv_iload_n hx hb dX11_weighs_82 rfl (lv_at hl 1 rfl) ?_
      refine q_ldI X hw (mk_39 hM) (vin (mn_39 hM) (by omega) (by omega)) dX11_weighs_83 ?_
      refine lv_topi (fun v83_32 e83_32 => ?_)
      have e83_32 : v83_32 = (qI S) (ma 39) x.toNatClampNeg := e83_32
      have g83 := congrArg Int32.toInt e83_32
      exact hret v83_32 _ _ _ _ _ ⟨_, rfl, (FrD.tr FrD.rf h8_2.1), by have := t_100; omega, by have := t_100; omega⟩ hw rfl dX11_weighs_84
    · skip
      refine lv_aload_n hx hb dX11_weighs_29 rfl (lv_at hl 0 rfl) ?_
      refine gf_X11_234 (v := I8_4 129 (ma 0)) X hw hM.1 rfl dX11_weighs_30 ?_
      refine lv_aload_n hx hb dX11_weighs_33 rfl (lv_at hl 0 rfl) ?_
      refine gf_X11_108 (b := (ma 34)) X hw hM.1 (mr_34 hM) dX11_weighs_34 ?_
      refine lv_iload_n hx hb dX11_weighs_37 rfl (lv_at hl 1 rfl) ?_
      refine q_ldI X hw (mk_34 hM) (vin (mn_34 hM) (by omega) (by omega)) dX11_weighs_38 ?_
      refine lv_topi (fun v38_33 e38_33 => ?_)
      have e38_33 : v38_33 = (qI S) (ma 34) x.toNatClampNeg := e38_33
      refine k_Si (n := 2) X hw (c_X11_off l G _ (I8_4 129 (ma 0)) v38_33) wd_r37_23 wd_r38_0 wd_r1_5 wd_r38_1 ⟨by decide, by decide, by decide +kernel⟩ rfl rfl ⟨Nat.le_of_ble_eq_true rfl, Nat.le_of_ble_eq_true rfl⟩ rfl rfl hl.1 (Nat.le_of_ble_eq_true rfl) dX11_weighs_39 ⟨Nat.le_of_ble_eq_true rfl, Nat.le_of_ble_eq_true rfl⟩ (fun r39_34 S39_36 H locs h39_35 hw => ?_)
      obtain ⟨rfl, h39_35⟩ := h39_35
      refine lv_aload_n hx hb dX11_weighs_42 rfl (lv_at hl 0 rfl) ?_
      refine gf_X11_114 (b := (ma 36)) X hw hM.1 (mr_36 hM) dX11_weighs_43 ?_
      refine lv_iload_n hx hb dX11_weighs_46 rfl (lv_at hl 1 rfl) ?_
      refine q_ldI X hw (mk_36 hM) (vin (mn_36 hM) (by omega) (by omega)) dX11_weighs_47 ?_
      refine lv_topi (fun v47_37 e47_37 => ?_)
      have e47_37 : v47_37 = (qI S) (ma 36) x.toNatClampNeg := e47_37
      refine lv_icmp_gt (tgt := 78) hx hb dX11_weighs_48 (by decide) (fun c48_38 => ?_) (fun c48_38 => ?_)
      · have D48_38 := iLt c48_38 rfl rfl
        refine lv_aload_n hx hb dX11_weighs_78 rfl (lv_at hl 0 rfl) ?_
        refine gf_X11_123 (b := (ma 39)) X hw hM.1 (mr_39 hM) dX11_weighs_79 ?_
        refine lv_iload_n hx hb dX11_weighs_82 rfl (lv_at hl 1 rfl) ?_
        refine q_ldI X hw (mk_39 hM) (vin (mn_39 hM) (by omega) (by omega)) dX11_weighs_83 ?_
        refine lv_topi (fun v83_39 e83_39 => ?_)
        have e83_39 : v83_39 = (qI S) (ma 39) x.toNatClampNeg := e83_39
        have g83 := congrArg Int32.toInt e83_39
        exact hret v83_39 _ _ _ _ _ ⟨_, rfl, (FrD.tr FrD.rf h8_2.1), by have := t_100; omega, by have := t_100; omega⟩ hw rfl dX11_weighs_84
      · have D48_38 := iNlt c48_38 rfl rfl
        refine lv_aload_n hx hb dX11_weighs_51 rfl (lv_at hl 0 rfl) ?_
        refine gf_X11_231 (v := I8_4 130 (ma 0)) X hw hM.1 rfl dX11_weighs_52 ?_
        refine lv_aload_n hx hb dX11_weighs_55 rfl (lv_at hl 0 rfl) ?_
        refine gf_X11_111 (b := (ma 35)) X hw hM.1 (mr_35 hM) dX11_weighs_56 ?_
        refine lv_iload_n hx hb dX11_weighs_59 rfl (lv_at hl 1 rfl) ?_
        refine q_ldI X hw (mk_35 hM) (vin (mn_35 hM) (by omega) (by omega)) dX11_weighs_60 ?_
        refine lv_topi (fun v60_40 e60_40 => ?_)
        have e60_40 : v60_40 = (qI S) (ma 35) x.toNatClampNeg := e60_40
        refine k_Si (n := 2) X hw (c_X11_off l G _ (I8_4 130 (ma 0)) v60_40) wd_r37_23 wd_r38_0 wd_r1_5 wd_r38_1 ⟨by decide, by decide, by decide +kernel⟩ rfl rfl ⟨Nat.le_of_ble_eq_true rfl, Nat.le_of_ble_eq_true rfl⟩ rfl rfl hl.1 (Nat.le_of_ble_eq_true rfl) dX11_weighs_61 ⟨Nat.le_of_ble_eq_true rfl, Nat.le_of_ble_eq_true rfl⟩ (fun r61_41 S61_43 H locs h61_42 hw => ?_)
        obtain ⟨rfl, h61_42⟩ := h61_42
        refine lv_aload_n hx hb dX11_weighs_64 rfl (lv_at hl 0 rfl) ?_
        refine gf_X11_114 (b := (ma 36)) X hw hM.1 (mr_36 hM) dX11_weighs_65 ?_
        refine lv_iload_n hx hb dX11_weighs_68 rfl (lv_at hl 1 rfl) ?_
        refine q_ldI X hw (mk_36 hM) (vin (mn_36 hM) (by omega) (by omega)) dX11_weighs_69 ?_
        refine lv_topi (fun v69_44 e69_44 => ?_)
        have e69_44 : v69_44 = (qI S) (ma 36) x.toNatClampNeg := e69_44
        refine lv_icmp_gt (tgt := 78) hx hb dX11_weighs_70 (by decide) (fun c70_45 => ?_) (fun c70_45 => ?_)
        · have D70_45 := iLt c70_45 rfl rfl
          refine lv_aload_n hx hb dX11_weighs_78 rfl (lv_at hl 0 rfl) ?_
          refine gf_X11_123 (b := (ma 39)) X hw hM.1 (mr_39 hM) dX11_weighs_79 ?_
          refine lv_iload_n hx hb dX11_weighs_82 rfl (lv_at hl 1 rfl) ?_
          refine q_ldI X hw (mk_39 hM) (vin (mn_39 hM) (by omega) (by omega)) dX11_weighs_83 ?_
          refine lv_topi (fun v83_46 e83_46 => ?_)
          have e83_46 : v83_46 = (qI S) (ma 39) x.toNatClampNeg := e83_46
          have g83 := congrArg Int32.toInt e83_46
          exact hret v83_46 _ _ _ _ _ ⟨_, rfl, (FrD.tr FrD.rf h8_2.1), by have := t_100; omega, by have := t_100; omega⟩ hw rfl dX11_weighs_84
        · have D70_45 := iNlt c70_45 rfl rfl
          refine lv_bipush (v := 100) hx hb dX11_weighs_73 (by decide) ?_
          refine lv_goto (tgt := 84) hx hb dX11_weighs_75 (by decide) ?_
          exact hret 100 _ _ _ _ _ ⟨_, rfl, (FrD.tr FrD.rf h8_2.1), by have := t_100; omega, by have := t_100; omega⟩ hw rfl dX11_weighs_84
set_option maxHeartbeats 4000000 in
set_option maxRecDepth 100000 in
theorem c_X11_oddsOf (l : Launch) (G : Gh) (S : Pl) (ma : Nat → Nat) (t : Int32) (hM : shMod S ma) (hI : mInv (pI S) (qI S) ma) (ht : 0 ≤ t.toInt ∧ t.toInt < (pI S 128 (ma 0)).toInt) : MtL l yX11_oddsOf cX11_oddsOf 5 (some .long) (Rm 4 0 0) G [.ref (ma 0), .int t] S (fun (r : Int64) (S' : Pl) => ∃ I', ch S I' (pJ S) (qI S) (qJ S) = S' ∧ FrD (pI S) I' ∧ 0 ≤ r.toInt ∧ r.toInt ≤ 1000000000000000) 0 0 := by
  refine MtL.of (by decide) (Nat.le_of_ble_eq_true rfl) ?_
  intro p e s m args below meth c Q A X hw hin hret ls hl
  have hx := X.1.1
  have hb := X.1.2.1
  have hl : lv_has ls 5 [(0, .ref (ma 0)), (1, .int t)] := hl
  obtain ⟨⟨b1, b2, b3, b4, b5, b6⟩, hT, hP, hC⟩ := id hI
  have tz := mT_at hT (x := t) ht.1 ht.2
  refine lv_aload_n hx hb dX11_oddsOf_0 rfl (lv_at hl 0 rfl) ?_
  refine gf_X11_102 (b := (ma 28)) X hw hM.1 (mr_28 hM) dX11_oddsOf_1 ?_
  refine lv_iload_n hx hb dX11_oddsOf_4 rfl (lv_at hl 1 rfl) ?_
  refine q_ldI X hw (mk_28 hM) (vin (mn_28 hM) (by omega) (by omega)) dX11_oddsOf_5 ?_
  refine lv_topi (fun v5_1 e5_1 => ?_)
  have e5_1 : v5_1 = (qI S) (ma 28) t.toNatClampNeg := e5_1
  have g5 := congrArg Int32.toInt e5_1
  refine lv_i2l hx hb dX11_oddsOf_6 rfl ?_
  refine lv_topl (fun v6_2 e6_2 => ?_)
  have k6 : v6_2.toInt = _ := (e6_2 ▸ i2l_t _ : v6_2.toInt = v5_1.toInt)
  refine lv_lstore_n (lv' := [(2, .long v6_2), (0, .ref (ma 0)), (1, .int t)]) hx hb dX11_oddsOf_7 rfl hl (by decide) rfl (fun ls hl => ?_)
  refine lv_iconst (v := 0) hx hb dX11_oddsOf_8 (by decide) ?_
  refine lv_istore (lv' := [(4, .int 0), (2, .long v6_2), (0, .ref (ma 0)), (1, .int t)]) hx hb dX11_oddsOf_9 hl (by decide) rfl (fun ls hl => ?_)
  have lp11 : ∀ (N9 : Nat) (I11 : Nat → Nat → Int32) (w : Int64) (i : Int32), (FrD (pI S) I11) → (0 ≤ i.toInt ∧ i.toInt ≤ (pI S 140 (ma 0)).toInt) → (0 ≤ w.toInt ∧ w.toInt ≤ 1000 * pw100 (cntB (qI S (ma 40)) i.toNatClampNeg)) → (60 - i.toInt).toNat < N9 → ∀ (H : Heap) (locs : List Loc) (ls : Array Slot), PX G A s.heap (ch S I11 (pJ S) (qI S) (qJ S)) H locs → lv_has ls 5 [(4, .int i), (2, .long w), (0, .ref (ma 0)), (1, .int t)] → W p l e (Rm 4 0 0) s m args below meth c H locs 0 0 Q (F0 m 11 ls []) := by
    intro N9
    induction N9 with
    | zero => intro I11 w i hF hi hw0 hm; exact absurd hm (Nat.not_lt_zero _)
    | succ N9 ih11 =>
      intro I11 w i hF hi hw0 hm H locs ls hw hl
      have h28 := FrD.at hF (f := 128) (by decide) (ma 0)
      have h40 := FrD.at hF (f := 140) (by decide) (ma 0)
      refine lv_iload hx hb dX11_oddsOf_11 (lv_at hl 0 rfl) ?_
      refine lv_aload_n hx hb dX11_oddsOf_13 rfl (lv_at hl 2 rfl) ?_
      refine gf_X11_252 (v := I11 140 (ma 0)) X hw hM.1 rfl dX11_oddsOf_14 ?_
      refine lv_icmp_ge (tgt := 47) hx hb dX11_oddsOf_17 (by decide) (fun c17_3 => ?_) (fun c17_3 => ?_)
      · have D17_3 := iLe c17_3 rfl rfl
        refine lv_lload_n hx hb dX11_oddsOf_47 rfl (lv_at hl 1 rfl) ?_
        exact hret w _ _ _ _ _ ⟨_, rfl, hF, odds_end hw0 (cnt6 (i := i) (by omega) (by omega) hC.1)⟩ hw dX11_oddsOf_48
      · have D17_3 := iNle c17_3 rfl rfl
        refine lv_aload_n hx hb dX11_oddsOf_20 rfl (lv_at hl 2 rfl) ?_
        refine gf_X11_126 (b := (ma 40)) X hw hM.1 (mr_40 hM) dX11_oddsOf_21 ?_
        refine lv_iload hx hb dX11_oddsOf_24 (lv_at hl 0 rfl) ?_
        refine q_ldZ X hw (mk_40 hM) (vin (mn_40 hM) (by omega) (by omega)) dX11_oddsOf_26 ?_
        refine lv_topi (fun v26_4 e26_4 => ?_)
        have e26_4 : v26_4 = (qI S) (ma 40) i.toNatClampNeg := e26_4
        have e26n := e26_4
        refine lv_if_ne (tgt := 41) hx hb dX11_oddsOf_27 (by decide) (fun c27_5 => ?_) (fun c27_5 => ?_)
        · skip
          obtain ⟨v41_6, e41_6⟩ : ∃ y : Int32, y = i + 1 := ⟨_, rfl⟩
          have t41_6 := iAdd e41_6 rfl t_1 (by omega) (by omega)
          have t41 := t41_6
          refine lv_iinc (v := v41_6) (lv' := [(4, .int v41_6), (2, .long w), (0, .ref (ma 0)), (1, .int t)]) hx hb dX11_oddsOf_41 hl (k := 0) rfl (by rw [e41_6]; rfl) (by decide) rfl (fun ls hl => ?_)
          refine lv_goto (tgt := 11) hx hb dX11_oddsOf_44 (by decide) ?_
          exact ih11 I11 w v41_6 hF (by omega) (by first | exact odds_n hw0 e26n (by assumption) t41 (by omega) | (have z9 := odds_y (by decide) hw0 k38 e39n hwg e26n (by assumption) t41 (by omega) (cnt6 (by omega) (by omega) hC.1); exact ⟨z9.1, z9.2.1⟩)) (by omega) _ _ _ hw (lv_sub hl [0, 1, 2, 3] rfl)
        · have D27_5 := iEq c27_5 rfl t_0
          refine lv_lload_n hx hb dX11_oddsOf_30 rfl (lv_at hl 1 rfl) ?_
          refine lv_aload_n hx hb dX11_oddsOf_31 rfl (lv_at hl 2 rfl) ?_
          refine lv_iload hx hb dX11_oddsOf_32 (lv_at hl 0 rfl) ?_
          refine lv_iload_n hx hb dX11_oddsOf_34 rfl (lv_at hl 3 rfl) ?_
          refine k_Vi (n := 2) X hw (rcvk (ci := 11) X hw hM.1 (fun _ _ _ _ _ _ _ => ⟨_, rfl⟩) rfl) (c_X11_weighs l G _ ma i t hM (hI.d hF) (show 0 ≤ i.toInt ∧ i.toInt < (I11 140 (ma 0) : Int32).toInt by omega) (show 0 ≤ t.toInt ∧ t.toInt < (I11 128 (ma 0) : Int32).toInt by omega)) wd_r37_19 wd_r37_20 wd_r37_21 wd_r1_5 wd_r37_22 ⟨by decide, by decide, by decide +kernel⟩ rfl rfl ⟨Nat.le_of_ble_eq_true rfl, Nat.le_of_ble_eq_true rfl⟩ rfl rfl hl.1 (Nat.le_of_ble_eq_true rfl) dX11_oddsOf_35 ⟨Nat.le_of_ble_eq_true rfl, Nat.le_of_ble_eq_true rfl⟩ (fun r35_7 S35_9 H locs h35_8 hw => ?_)
          obtain ⟨I35_10, rfl, h35_8⟩ := h35_8
          have hw : PX G A s.heap (ch S I35_10 (pJ S) (qI S) (qJ S)) H locs := hw
          have hwg := h35_8.2
          refine lv_i2l hx hb dX11_oddsOf_38 rfl ?_
          refine lv_topl (fun v38_11 e38_11 => ?_)
          have k38 : v38_11.toInt = r35_7.toInt := by rw [e38_11]; exact i2l_t _
          refine lv_lmul hx hb dX11_oddsOf_39 ?_
          refine lv_topl (fun v39_12 e39_12 => ?_)
          have e39n := e39_12
          refine lv_lstore_n (lv' := [(2, .long v39_12), (4, .int i), (0, .ref (ma 0)), (1, .int t)]) hx hb dX11_oddsOf_40 rfl hl (by decide) rfl (fun ls hl => ?_)
          obtain ⟨v41_13, e41_13⟩ : ∃ y : Int32, y = i + 1 := ⟨_, rfl⟩
          have t41_13 := iAdd e41_13 rfl t_1 (by omega) (by omega)
          have t41 := t41_13
          refine lv_iinc (v := v41_13) (lv' := [(4, .int v41_13), (2, .long v39_12), (0, .ref (ma 0)), (1, .int t)]) hx hb dX11_oddsOf_41 hl (k := 1) rfl (by rw [e41_13]; rfl) (by decide) rfl (fun ls hl => ?_)
          refine lv_goto (tgt := 11) hx hb dX11_oddsOf_44 (by decide) ?_
          exact ih11 I35_10 v39_12 v41_13 (FrD.tr hF h35_8.1) (by omega) (by first | exact odds_n hw0 e26n (by assumption) t41 (by omega) | (have z9 := odds_y (by decide) hw0 k38 e39n hwg e26n (by assumption) t41 (by omega) (cnt6 (by omega) (by omega) hC.1); exact ⟨z9.1, z9.2.1⟩)) (by omega) _ _ _ hw (lv_sub hl [0, 1, 2, 3] rfl)
  exact lp11 _ (pI S) v6_2 0 FrD.rf (by have := t_0; omega) (odds_1 k6 (by omega)) (Nat.lt_succ_self _) _ _ _ hw (lv_sub hl [0, 1, 2, 3] rfl)
set_option maxHeartbeats 4000000 in
set_option maxRecDepth 100000 in
theorem c_X11_odds (l : Launch) (G : Gh) (S : Pl) (ma : Nat → Nat) (t : Int32) (hM : shMod S ma) (hI : mInv (pI S) (qI S) ma) : MtL l yX11_odds cX11_odds 2 (some .long) (Rm 5 0 0) G [.ref (ma 0), .int t] S (fun (r : Int64) (S' : Pl) => ∃ I', ch S I' (pJ S) (qI S) (qJ S) = S' ∧ FrD (pI S) I') 0 0 := by
  refine MtL.of (by decide) (Nat.le_of_ble_eq_true rfl) ?_
  intro p e s m args below meth c Q A X hw hin hret ls hl
  have hx := X.1.1
  have hb := X.1.2.1
  have hl : lv_has ls 2 [(0, .ref (ma 0)), (1, .int t)] := hl
  refine lv_aload_n hx hb dX11_odds_0 rfl (lv_at hl 0 rfl) ?_
  refine lv_iload_n hx hb dX11_odds_1 rfl (lv_at hl 1 rfl) ?_
  refine k_Vi (n := 1) X hw (rcvk (ci := 11) X hw hM.1 (fun _ _ _ _ _ _ _ => ⟨_, rfl⟩) rfl) (c_X11_isTale l G _ ma t hM) wd_r30_20 wd_r30_21 wd_r30_22 wd_r1_5 wd_r30_23 ⟨by decide, by decide, by decide +kernel⟩ rfl rfl ⟨Nat.le_of_ble_eq_true rfl, Nat.le_of_ble_eq_true rfl⟩ rfl rfl hl.1 (Nat.le_of_ble_eq_true rfl) dX11_odds_2 ⟨Nat.le_of_ble_eq_true rfl, Nat.le_of_ble_eq_true rfl⟩ (fun r2_1 S2_3 H locs h2_2 hw => ?_)
  rcases h2_2 with ⟨rfl, rfl, h2_2⟩ | ⟨rfl, rfl, h2_2⟩
  · have h2_2 := h2_2
    refine lv_if_eq (tgt := 16) hx hb dX11_odds_5 (by decide) (fun c5_4 => absurd c5_4 (by decide)) (fun c5_4 => ?_)
    refine lv_aload_n hx hb dX11_odds_8 rfl (lv_at hl 0 rfl) ?_
    refine lv_iload_n hx hb dX11_odds_9 rfl (lv_at hl 1 rfl) ?_
    refine k_Vl (n := 1) X hw (rcvk (ci := 11) X hw hM.1 (fun _ _ _ _ _ _ _ => ⟨_, rfl⟩) rfl) (c_X11_oddsOf l G _ ma t hM (hI.d FrD.rf) (show 0 ≤ t.toInt ∧ t.toInt < ((pI S) 128 (ma 0) : Int32).toInt by omega)) wd_r37_15 wd_r37_16 wd_r37_17 wd_r1_5 wd_r37_18 ⟨by decide, by decide, by decide +kernel⟩ rfl rfl ⟨Nat.le_of_ble_eq_true rfl, Nat.le_of_ble_eq_true rfl⟩ rfl rfl hl.1 (Nat.le_of_ble_eq_true rfl) dX11_odds_10 ⟨Nat.le_of_ble_eq_true rfl, Nat.le_of_ble_eq_true rfl⟩ (fun r10_5 S10_7 H locs h10_6 hw => ?_)
    obtain ⟨I10_8, rfl, h10_6⟩ := h10_6
    have hw : PX G A s.heap (ch S I10_8 (pJ S) (qI S) (qJ S)) H locs := hw
    refine lv_goto (tgt := 19) hx hb dX11_odds_13 (by decide) ?_
    exact hret r10_5 _ _ _ _ _ ⟨_, rfl, (FrD.tr FrD.rf h10_6.1)⟩ hw dX11_odds_19
  · have h2_2 := h2_2
    refine lv_if_eq (tgt := 16) hx hb dX11_odds_5 (by decide) (fun c5_9 => ?_) (fun c5_9 => absurd c5_9 (by decide))
    refine lv_ldc2 hx hb X.1.2.2.2.1 (X.1.2.2.2.2 _ wd_r37_14) dX11_odds_16 ?_
    exact hret (-1) _ _ _ _ _ ⟨_, rfl, FrD.rf⟩ hw dX11_odds_19
set_option maxHeartbeats 4000000 in
set_option maxRecDepth 100000 in
theorem c_X11_sumUp (l : Launch) (G : Gh) (S : Pl) (ma : Nat → Nat) (n z : Int32) (hM : shMod S ma) (hI : mInv (pI S) (qI S) ma) (hn : 0 ≤ n.toInt ∧ n.toInt ≤ 72) : MtV l yX11_sumUp cX11_sumUp 6 none (Rm 5 0 0) G [.ref (ma 0), .int n, .int z] S (fun (S' : Pl) => ∃ I' J' y', ch S I' J' (qI S) y' = S' ∧ FrD (pI S) I' ∧ cOK (y' (ma 42)) 40000000000000000 ∧ (∀ a, a ≠ ma 42 → y' a = qJ S a)) 0 0 := by
  refine MtV.of (by decide) (Nat.le_of_ble_eq_true rfl) ?_
  intro p e s m args below meth c Q A X hw hin hret ls hl
  have hx := X.1.1
  have hb := X.1.2.1
  have hl : lv_has ls 6 [(0, .ref (ma 0)), (1, .int n), (2, .int z)] := hl
  obtain ⟨⟨b1, b2, b3, b4, b5, b6⟩, hT, hP, hC⟩ := id hI
  refine lv_iconst (v := 0) hx hb dX11_sumUp_0 (by decide) ?_
  refine lv_istore_n (lv' := [(3, .int 0), (0, .ref (ma 0)), (1, .int n), (2, .int z)]) hx hb dX11_sumUp_1 rfl hl (by decide) rfl (fun ls hl => ?_)
  have lp2 : ∀ (N9 : Nat) (y2 : Nat → Nat → Int64) (k : Int32), (0 ≤ k.toInt ∧ k.toInt ≤ 64) → (∀ a : Nat, (a : Int) < k.toInt → y2 (ma 42) a = 0) → (∀ a, a ≠ ma 42 → y2 a = qJ S a) → (64 - k.toInt).toNat < N9 → ∀ (H : Heap) (locs : List Loc) (ls : Array Slot), PX G A s.heap (ch S (pI S) (pJ S) (qI S) y2) H locs → lv_has ls 6 [(3, .int k), (0, .ref (ma 0)), (1, .int n), (2, .int z)] → W p l e (Rm 5 0 0) s m args below meth c H locs 0 0 Q (F0 m 2 ls []) := by
    intro N9
    induction N9 with
    | zero => intro y2 k hk h0 hya hm; exact absurd hm (Nat.not_lt_zero _)
    | succ N9 ih2 =>
      intro y2 k hk h0 hya hm H locs ls hw hl
      refine lv_iload_n hx hb dX11_sumUp_2 rfl (lv_at hl 0 rfl) ?_
      refine lv_bipush (v := 64) hx hb dX11_sumUp_3 (by decide) ?_
      refine lv_icmp_ge (tgt := 21) hx hb dX11_sumUp_5 (by decide) (fun c5_1 => ?_) (fun c5_1 => ?_)
      · have D5_1 := iLe c5_1 t_64 rfl
        refine lv_aload_n hx hb dX11_sumUp_21 rfl (lv_at hl 1 rfl) ?_
        refine lv_lconst (v := 0) hx hb dX11_sumUp_22 (by decide) ?_
        refine pf_X11_277 X hw hM.1 dX11_sumUp_23 (fun H locs hw => ?_)
        have hw : PX G A s.heap (ch S (pI S) (up2 (pJ S) 142 (ma 0) 0) (qI S) y2) H locs := hw
        refine lv_iconst (v := 0) hx hb dX11_sumUp_26 (by decide) ?_
        refine lv_istore_n (lv' := [(3, .int 0), (0, .ref (ma 0)), (1, .int n), (2, .int z)]) hx hb dX11_sumUp_27 rfl hl (by decide) rfl (fun ls hl => ?_)
        have lp28 : ∀ (N9 : Nat) (I28 : Nat → Nat → Int32) (J28 : Nat → Nat → Int64) (y28 : Nat → Nat → Int64) (i : Int32), (FrD (pI S) I28) → (0 ≤ i.toInt ∧ i.toInt ≤ (pI S 128 (ma 0)).toInt) → (cOK (y28 (ma 42)) (1000000000000000 * i.toInt)) → (∀ a, a ≠ ma 42 → y28 a = qJ S a) → (40 - i.toInt).toNat < N9 → ∀ (H : Heap) (locs : List Loc) (ls : Array Slot), PX G A s.heap (ch S I28 J28 (qI S) y28) H locs → lv_has ls 6 [(3, .int i), (0, .ref (ma 0)), (1, .int n), (2, .int z)] → W p l e (Rm 5 0 0) s m args below meth c H locs 0 0 Q (F0 m 28 ls []) := by
          intro N9
          induction N9 with
          | zero => intro I28 J28 y28 i hF hi hc hya hm; exact absurd hm (Nat.not_lt_zero _)
          | succ N9 ih28 =>
            intro I28 J28 y28 i hF hi hc hya hm H locs ls hw hl
            have h28 := FrD.at hF (f := 128) (by decide) (ma 0)
            have h40 := FrD.at hF (f := 140) (by decide) (ma 0)
            refine lv_iload_n hx hb dX11_sumUp_28 rfl (lv_at hl 0 rfl) ?_
            refine lv_aload_n hx hb dX11_sumUp_29 rfl (lv_at hl 1 rfl) ?_
            refine gf_X11_224 (v := I28 128 (ma 0)) X hw hM.1 rfl dX11_sumUp_30 ?_
            refine lv_icmp_ge (tgt := 99) hx hb dX11_sumUp_33 (by decide) (fun c33_2 => ?_) (fun c33_2 => ?_)
            · have D33_2 := iLe c33_2 rfl rfl
              exact hret _ _ _ _ _ ⟨_, _, _, rfl, hF, cOK_le hc (by omega), hya⟩ hw dX11_sumUp_99
            · have D33_2 := iNle c33_2 rfl rfl
              refine lv_aload_n hx hb dX11_sumUp_36 rfl (lv_at hl 1 rfl) ?_
              refine lv_iload_n hx hb dX11_sumUp_37 rfl (lv_at hl 0 rfl) ?_
              refine k_Vl (n := 1) X hw (rcvk (ci := 11) X hw hM.1 (fun _ _ _ _ _ _ _ => ⟨_, rfl⟩) rfl) (c_X11_oddsOf l G _ ma i hM (hI.d hF) (show 0 ≤ i.toInt ∧ i.toInt < (I28 128 (ma 0) : Int32).toInt by omega)) wd_r37_15 wd_r37_16 wd_r37_17 wd_r1_5 wd_r37_18 ⟨by decide, by decide, by decide +kernel⟩ rfl rfl ⟨Nat.le_of_ble_eq_true rfl, Nat.le_of_ble_eq_true rfl⟩ rfl rfl hl.1 (Nat.le_of_ble_eq_true rfl) dX11_sumUp_38 ⟨Nat.le_of_ble_eq_true rfl, Nat.le_of_ble_eq_true rfl⟩ (fun r38_3 S38_5 H locs h38_4 hw => ?_)
              obtain ⟨I38_6, rfl, h38_4⟩ := h38_4
              have hw : PX G A s.heap (ch S I38_6 J28 (qI S) y28) H locs := hw
              have h28b := FrD.at (FrD.tr hF h38_4.1) (f := 128) (by decide) (ma 0)
              have hod := h38_4.2
              refine lv_lstore (lv' := [(4, .long r38_3), (3, .int i), (0, .ref (ma 0)), (1, .int n), (2, .int z)]) hx hb dX11_sumUp_41 hl (by decide) rfl (fun ls hl => ?_)
              refine lv_aload_n hx hb dX11_sumUp_43 rfl (lv_at hl 2 rfl) ?_
              refine lv_dup hx hb dX11_sumUp_44 rfl ?_
              refine gf_X11_277 (v := J28 142 (ma 0)) X hw hM.1 rfl dX11_sumUp_45 ?_
              refine lv_lload hx hb dX11_sumUp_48 (lv_at hl 0 rfl) ?_
              refine lv_ladd hx hb dX11_sumUp_50 ?_
              refine lv_topl (fun v50_7 e50_7 => ?_)
              refine pf_X11_277 X hw hM.1 dX11_sumUp_51 (fun H locs hw => ?_)
              have hw : PX G A s.heap (ch S I38_6 (up2 J28 142 (ma 0) v50_7) (qI S) y28) H locs := hw
              refine lv_aload_n hx hb dX11_sumUp_54 rfl (lv_at hl 2 rfl) ?_
              refine lv_iload_n hx hb dX11_sumUp_55 rfl (lv_at hl 1 rfl) ?_
              refine lv_iload_n hx hb dX11_sumUp_56 rfl (lv_at hl 3 rfl) ?_
              refine k_Vv (n := 2) X hw (rcvk (ci := 11) X hw hM.1 (fun _ _ _ _ _ _ _ => ⟨_, rfl⟩) rfl) (c_X11_drift l G _ ma i n hM (hI.d (FrD.tr hF h38_4.1)) (show 0 ≤ i.toInt ∧ i.toInt < (I38_6 128 (ma 0) : Int32).toInt by omega) (by omega)) wd_r31_3 wd_r31_4 wd_r31_5 wd_r1_5 wd_r31_6 ⟨by decide, by decide, by decide +kernel⟩ rfl rfl ⟨Nat.le_of_ble_eq_true rfl, Nat.le_of_ble_eq_true rfl⟩ rfl rfl hl.1 (Nat.le_of_ble_eq_true rfl) dX11_sumUp_57 ⟨Nat.le_of_ble_eq_true rfl, Nat.le_of_ble_eq_true rfl⟩ (fun S57_9 H locs h57_8 hw => ?_)
              obtain ⟨I57_10, rfl, h57_8⟩ := h57_8
              have hw : PX G A s.heap (ch S I57_10 (up2 J28 142 (ma 0) v50_7) (qI S) y28) H locs := hw
              have HD : (I57_10 131 (ma 0)).toInt ≠ 2 → 0 ≤ (I57_10 129 (ma 0)).toInt ∧ (I57_10 129 (ma 0)).toInt < 80 ∧ 0 ≤ (I57_10 130 (ma 0)).toInt ∧ (I57_10 130 (ma 0)).toInt < 80 := h57_8.2
              refine lv_aload_n hx hb dX11_sumUp_60 rfl (lv_at hl 2 rfl) ?_
              refine gf_X11_240 (v := I57_10 131 (ma 0)) X hw hM.1 rfl dX11_sumUp_61 ?_
              refine lv_if_eq (tgt := 79) hx hb dX11_sumUp_64 (by decide) (fun c64_11 => ?_) (fun c64_11 => ?_)
              · have D64_11 := iEq c64_11 rfl t_0
                refine lv_aload_n hx hb dX11_sumUp_79 rfl (lv_at hl 2 rfl) ?_
                refine gf_X11_129 (b := (ma 42)) X hw hM.1 (mr_42 hM) dX11_sumUp_80 ?_
                refine lv_aload_n hx hb dX11_sumUp_83 rfl (lv_at hl 2 rfl) ?_
                refine k_Vi (n := 0) X hw (rcvk (ci := 11) X hw hM.1 (fun _ _ _ _ _ _ _ => ⟨_, rfl⟩) rfl) (c_X11_cellHere l G _ ma hM (px_of (a := (I57_10 129 (ma 0) : Int32)) (b := (I57_10 130 (ma 0) : Int32)) rfl rfl (by omega))) wd_r31_11 wd_r31_12 wd_r31_13 wd_r1_5 wd_r31_14 ⟨by decide, by decide, by decide +kernel⟩ rfl rfl ⟨Nat.le_of_ble_eq_true rfl, Nat.le_of_ble_eq_true rfl⟩ rfl rfl hl.1 (Nat.le_of_ble_eq_true rfl) dX11_sumUp_84 ⟨Nat.le_of_ble_eq_true rfl, Nat.le_of_ble_eq_true rfl⟩ (fun r84_12 S84_14 H locs h84_13 hw => ?_)
                obtain ⟨rfl, h84_13⟩ := h84_13
                have hch := h84_13
                refine lv_dup2_11 hx hb dX11_sumUp_87 rfl rfl ?_
                refine q_ldJ X hw (mk_42 hM) (vin (mn_42 hM) (by omega) (by omega)) dX11_sumUp_88 ?_
                refine lv_topl (fun v88_15 e88_15 => ?_)
                have e88_15 : v88_15 = y28 (ma 42) r84_12.toNatClampNeg := e88_15
                have e88n := e88_15
                refine lv_lload hx hb dX11_sumUp_89 (lv_at hl 0 rfl) ?_
                refine lv_ladd hx hb dX11_sumUp_91 ?_
                refine lv_topl (fun v91_16 e91_16 => ?_)
                have e91n := e91_16
                refine q_stJ X hw (mk_42 hM) (vin (mn_42 hM) (by omega) (by omega)) dX11_sumUp_92 (fun H locs hw => ?_)
                obtain ⟨y92_17, ey92_17, hw⟩ : ∃ zz9, zz9 = va_up y28 (ma 42) (vp_updL (y28 (ma 42)) r84_12.toNatClampNeg v91_16) ∧ PX G A s.heap (ch S I57_10 (up2 J28 142 (ma 0) v50_7) (qI S) zz9) H locs := ⟨_, rfl, hw⟩
                have c92 := ey92_17
                obtain ⟨v93_18, e93_18⟩ : ∃ y : Int32, y = i + 1 := ⟨_, rfl⟩
                have t93_18 := iAdd e93_18 rfl t_1 (by omega) (by omega)
                have t93 := t93_18
                refine lv_iinc (v := v93_18) (lv' := [(3, .int v93_18), (4, .long r38_3), (0, .ref (ma 0)), (1, .int n), (2, .int z)]) hx hb dX11_sumUp_93 hl (k := 1) rfl (by rw [e93_18]; rfl) (by decide) rfl (fun ls hl => ?_)
                refine lv_goto (tgt := 28) hx hb dX11_sumUp_96 (by decide) ?_
                exact ih28 I57_10 (up2 J28 142 (ma 0) v50_7) y92_17 v93_18 (FrD.tr (FrD.tr hF h38_4.1) h57_8.1) (by omega) (by first | exact cOK_le hc (by omega) | exact cOK_le (cOK_add hc (by omega) e88n e91n hod (by rw [c92, vu_s]) (by omega)) (by omega)) (by first | exact hya | exact fun a h => by rw [c92, vu_n h]; exact hya a h) (by omega) _ _ _ hw (lv_sub hl [0, 2, 3, 4] rfl)
              · skip
                refine lv_aload_n hx hb dX11_sumUp_67 rfl (lv_at hl 2 rfl) ?_
                refine gf_X11_240 (v := I57_10 131 (ma 0)) X hw hM.1 rfl dX11_sumUp_68 ?_
                refine lv_iconst (v := 1) hx hb dX11_sumUp_71 (by decide) ?_
                refine lv_icmp_ne (tgt := 93) hx hb dX11_sumUp_72 (by decide) (fun c72_19 => ?_) (fun c72_19 => ?_)
                · skip
                  obtain ⟨v93_20, e93_20⟩ : ∃ y : Int32, y = i + 1 := ⟨_, rfl⟩
                  have t93_20 := iAdd e93_20 rfl t_1 (by omega) (by omega)
                  have t93 := t93_20
                  refine lv_iinc (v := v93_20) (lv' := [(3, .int v93_20), (4, .long r38_3), (0, .ref (ma 0)), (1, .int n), (2, .int z)]) hx hb dX11_sumUp_93 hl (k := 1) rfl (by rw [e93_20]; rfl) (by decide) rfl (fun ls hl => ?_)
                  refine lv_goto (tgt := 28) hx hb dX11_sumUp_96 (by decide) ?_
                  exact ih28 I57_10 (up2 J28 142 (ma 0) v50_7) y28 v93_20 (FrD.tr (FrD.tr hF h38_4.1) h57_8.1) (by omega) (by first | exact cOK_le hc (by omega) | exact cOK_le (cOK_add hc (by omega) e88n e91n hod (by rw [c92, vu_s]) (by omega)) (by omega)) (by first | exact hya | exact fun a h => by rw [c92, vu_n h]; exact hya a h) (by omega) _ _ _ hw (lv_sub hl [0, 2, 3, 4] rfl)
                · have D72_19 := iEq c72_19 rfl t_1
                  refine lv_iload_n hx hb dX11_sumUp_75 rfl (lv_at hl 4 rfl) ?_
                  refine lv_if_ne (tgt := 93) hx hb dX11_sumUp_76 (by decide) (fun c76_21 => ?_) (fun c76_21 => ?_)
                  · skip
                    obtain ⟨v93_22, e93_22⟩ : ∃ y : Int32, y = i + 1 := ⟨_, rfl⟩
                    have t93_22 := iAdd e93_22 rfl t_1 (by omega) (by omega)
                    have t93 := t93_22
                    refine lv_iinc (v := v93_22) (lv' := [(3, .int v93_22), (4, .long r38_3), (0, .ref (ma 0)), (1, .int n), (2, .int z)]) hx hb dX11_sumUp_93 hl (k := 1) rfl (by rw [e93_22]; rfl) (by decide) rfl (fun ls hl => ?_)
                    refine lv_goto (tgt := 28) hx hb dX11_sumUp_96 (by decide) ?_
                    exact ih28 I57_10 (up2 J28 142 (ma 0) v50_7) y28 v93_22 (FrD.tr (FrD.tr hF h38_4.1) h57_8.1) (by omega) (by first | exact cOK_le hc (by omega) | exact cOK_le (cOK_add hc (by omega) e88n e91n hod (by rw [c92, vu_s]) (by omega)) (by omega)) (by first | exact hya | exact fun a h => by rw [c92, vu_n h]; exact hya a h) (by omega) _ _ _ hw (lv_sub hl [0, 2, 3, 4] rfl)
                  · have D76_21 := iEq c76_21 rfl t_0
                    refine lv_aload_n hx hb dX11_sumUp_79 rfl (lv_at hl 2 rfl) ?_
                    refine gf_X11_129 (b := (ma 42)) X hw hM.1 (mr_42 hM) dX11_sumUp_80 ?_
                    refine lv_aload_n hx hb dX11_sumUp_83 rfl (lv_at hl 2 rfl) ?_
                    refine k_Vi (n := 0) X hw (rcvk (ci := 11) X hw hM.1 (fun _ _ _ _ _ _ _ => ⟨_, rfl⟩) rfl) (c_X11_cellHere l G _ ma hM (px_of (a := (I57_10 129 (ma 0) : Int32)) (b := (I57_10 130 (ma 0) : Int32)) rfl rfl (by omega))) wd_r31_11 wd_r31_12 wd_r31_13 wd_r1_5 wd_r31_14 ⟨by decide, by decide, by decide +kernel⟩ rfl rfl ⟨Nat.le_of_ble_eq_true rfl, Nat.le_of_ble_eq_true rfl⟩ rfl rfl hl.1 (Nat.le_of_ble_eq_true rfl) dX11_sumUp_84 ⟨Nat.le_of_ble_eq_true rfl, Nat.le_of_ble_eq_true rfl⟩ (fun r84_23 S84_25 H locs h84_24 hw => ?_)
                    obtain ⟨rfl, h84_24⟩ := h84_24
                    have hch := h84_24
                    refine lv_dup2_11 hx hb dX11_sumUp_87 rfl rfl ?_
                    refine q_ldJ X hw (mk_42 hM) (vin (mn_42 hM) (by omega) (by omega)) dX11_sumUp_88 ?_
                    refine lv_topl (fun v88_26 e88_26 => ?_)
                    have e88_26 : v88_26 = y28 (ma 42) r84_23.toNatClampNeg := e88_26
                    have e88n := e88_26
                    refine lv_lload hx hb dX11_sumUp_89 (lv_at hl 0 rfl) ?_
                    refine lv_ladd hx hb dX11_sumUp_91 ?_
                    refine lv_topl (fun v91_27 e91_27 => ?_)
                    have e91n := e91_27
                    refine q_stJ X hw (mk_42 hM) (vin (mn_42 hM) (by omega) (by omega)) dX11_sumUp_92 (fun H locs hw => ?_)
                    obtain ⟨y92_28, ey92_28, hw⟩ : ∃ zz9, zz9 = va_up y28 (ma 42) (vp_updL (y28 (ma 42)) r84_23.toNatClampNeg v91_27) ∧ PX G A s.heap (ch S I57_10 (up2 J28 142 (ma 0) v50_7) (qI S) zz9) H locs := ⟨_, rfl, hw⟩
                    have c92 := ey92_28
                    obtain ⟨v93_29, e93_29⟩ : ∃ y : Int32, y = i + 1 := ⟨_, rfl⟩
                    have t93_29 := iAdd e93_29 rfl t_1 (by omega) (by omega)
                    have t93 := t93_29
                    refine lv_iinc (v := v93_29) (lv' := [(3, .int v93_29), (4, .long r38_3), (0, .ref (ma 0)), (1, .int n), (2, .int z)]) hx hb dX11_sumUp_93 hl (k := 1) rfl (by rw [e93_29]; rfl) (by decide) rfl (fun ls hl => ?_)
                    refine lv_goto (tgt := 28) hx hb dX11_sumUp_96 (by decide) ?_
                    exact ih28 I57_10 (up2 J28 142 (ma 0) v50_7) y92_28 v93_29 (FrD.tr (FrD.tr hF h38_4.1) h57_8.1) (by omega) (by first | exact cOK_le hc (by omega) | exact cOK_le (cOK_add hc (by omega) e88n e91n hod (by rw [c92, vu_s]) (by omega)) (by omega)) (by first | exact hya | exact fun a h => by rw [c92, vu_n h]; exact hya a h) (by omega) _ _ _ hw (lv_sub hl [0, 2, 3, 4] rfl)
        exact lp28 _ (pI S) (up2 (pJ S) 142 (ma 0) 0) y2 0 FrD.rf (by have := t_0; omega) (cOK_le (cOK_0 (fun a h => h0 a (by omega))) (by have := t_0; omega)) hya (Nat.lt_succ_self _) _ _ _ hw (lv_sub hl [0, 1, 2, 3] rfl)
      · have D5_1 := iNle c5_1 t_64 rfl
        refine lv_aload_n hx hb dX11_sumUp_8 rfl (lv_at hl 1 rfl) ?_
        refine gf_X11_129 (b := (ma 42)) X hw hM.1 (mr_42 hM) dX11_sumUp_9 ?_
        refine lv_iload_n hx hb dX11_sumUp_12 rfl (lv_at hl 0 rfl) ?_
        refine lv_lconst (v := 0) hx hb dX11_sumUp_13 (by decide) ?_
        refine q_stJ X hw (mk_42 hM) (vin (mn_42 hM) (by omega) (by omega)) dX11_sumUp_14 (fun H locs hw => ?_)
        obtain ⟨y14_30, ey14_30, hw⟩ : ∃ zz9, zz9 = va_up y2 (ma 42) (vp_updL (y2 (ma 42)) k.toNatClampNeg 0) ∧ PX G A s.heap (ch S (pI S) (pJ S) (qI S) zz9) H locs := ⟨_, rfl, hw⟩
        have c14 := ey14_30
        obtain ⟨v15_31, e15_31⟩ : ∃ y : Int32, y = k + 1 := ⟨_, rfl⟩
        have t15_31 := iAdd e15_31 rfl t_1 (by omega) (by omega)
        have t15 := t15_31
        refine lv_iinc (v := v15_31) (lv' := [(3, .int v15_31), (0, .ref (ma 0)), (1, .int n), (2, .int z)]) hx hb dX11_sumUp_15 hl (k := 0) rfl (by rw [e15_31]; rfl) (by decide) rfl (fun ls hl => ?_)
        refine lv_goto (tgt := 2) hx hb dX11_sumUp_18 (by decide) ?_
        exact ih2 y14_30 v15_31 (by omega) (zero_s h0 c14 (by omega) t15) (fun a h => by rw [c14, vu_n h]; exact hya a h) (by omega) _ _ _ hw (lv_sub hl [0, 1, 2, 3] rfl)
  exact lp2 _ (qJ S) 0 (by have := t_0; omega) (fun a h => by have := t_0; omega) (fun _ _ => rfl) (Nat.lt_succ_self _) _ _ _ hw (lv_sub hl [0, 1, 2, 3] rfl)
set_option maxHeartbeats 4000000 in
set_option maxRecDepth 100000 in
theorem c_X11_divisor (l : Launch) (G : Gh) (S : Pl) (u w : Int64) (hu : u.toInt ≠ 0) : MtL l yX11_divisor cX11_divisor 10 (some .long) (Rm 0 0 0) G [.long u, .long w] S (fun (r : Int64) (S' : Pl) => S = S' ∧ r.toInt ≠ 0) 0 0 := by
  refine MtL.of (by decide) (Nat.le_of_ble_eq_true rfl) ?_
  intro p e s m args below meth c Q A X hw hin hret ls hl
  have hx := X.1.1
  have hb := X.1.2.1
  have hl : lv_has ls 10 [(0, .long u), (2, .long w)] := hl
  refine lv_lload_n hx hb dX11_divisor_0 rfl (lv_at hl 0 rfl) ?_
  refine lv_lstore (lv' := [(4, .long u), (0, .long u), (2, .long w)]) hx hb dX11_divisor_1 hl (by decide) rfl (fun ls hl => ?_)
  refine lv_lload_n hx hb dX11_divisor_3 rfl (lv_at hl 2 rfl) ?_
  refine lv_lstore (lv' := [(6, .long w), (4, .long u), (0, .long u), (2, .long w)]) hx hb dX11_divisor_4 hl (by decide) rfl (fun ls hl => ?_)
  have lp6 : ∀ (N9 : Nat) (x : Int64) (y : Int64), (x.toInt ≠ 0) → y.toInt.natAbs < N9 → ∀ (H : Heap) (locs : List Loc) (ls : Array Slot), PX G A s.heap S H locs → lv_has ls 10 [(6, .long y), (4, .long x), (0, .long u), (2, .long w)] → W p l e (Rm 0 0 0) s m args below meth c H locs 0 0 Q (F0 m 6 ls []) := by
    intro N9
    induction N9 with
    | zero => intro x y hx0 hm; exact absurd hm (Nat.not_lt_zero _)
    | succ N9 ih6 =>
      intro x y hx0 hm H locs ls hw hl
      refine lv_lload hx hb dX11_divisor_6 (lv_at hl 0 rfl) ?_
      refine lv_lconst (v := 0) hx hb dX11_divisor_8 (by decide) ?_
      refine W.lcmp hx hb dX11_divisor_9 ?_
      refine lv_topi (fun v9_1 e9_1 => ?_)
      refine lv_if_eq (tgt := 31) hx hb dX11_divisor_10 (by decide) (fun c10_2 => ?_) (fun c10_2 => ?_)
      · have D10_2 := lc_eq e9_1 c10_2
        refine lv_lload hx hb dX11_divisor_31 (lv_at hl 1 rfl) ?_
        exact hret x _ _ _ _ _ ⟨rfl, hx0⟩ hw dX11_divisor_33
      · have D10_2 := lcn_eq e9_1 c10_2
        refine lv_lload hx hb dX11_divisor_13 (lv_at hl 1 rfl) ?_
        refine lv_lload hx hb dX11_divisor_15 (lv_at hl 0 rfl) ?_
        refine lv_lrem hx hb dX11_divisor_17 (lne0 (by have := (by decide : (0:Int64).toInt = 0); omega)) ?_
        refine lv_topl (fun v17_3 e17_3 => ?_)
        have r17 := lremA e17_3 (by have := (by decide : (0:Int64).toInt = 0); omega)
        refine lv_lstore (lv' := [(8, .long v17_3), (6, .long y), (4, .long x), (0, .long u), (2, .long w)]) hx hb dX11_divisor_18 hl (by decide) rfl (fun ls hl => ?_)
        refine lv_lload hx hb dX11_divisor_20 (lv_at hl 1 rfl) ?_
        refine lv_lstore (lv' := [(4, .long y), (8, .long v17_3), (6, .long y), (0, .long u), (2, .long w)]) hx hb dX11_divisor_22 hl (by decide) rfl (fun ls hl => ?_)
        refine lv_lload hx hb dX11_divisor_24 (lv_at hl 1 rfl) ?_
        refine lv_lstore (lv' := [(6, .long v17_3), (4, .long y), (8, .long v17_3), (0, .long u), (2, .long w)]) hx hb dX11_divisor_26 hl (by decide) rfl (fun ls hl => ?_)
        refine lv_goto (tgt := 6) hx hb dX11_divisor_28 (by decide) ?_
        exact ih6  y v17_3 (by have := (by decide : (0:Int64).toInt = 0); omega) (by omega) _ _ _ hw (lv_sub hl [0, 1, 3, 4] rfl)
  exact lp6 _  u w hu (Nat.lt_succ_self _) _ _ _ hw (lv_sub hl [0, 1, 2, 3] rfl)
