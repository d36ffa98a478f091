set_option maxHeartbeats 4000000 in
set_option maxRecDepth 100000 in
theorem c_X11_fault (l : Launch) (G : Gh) (S : Pl) (ma : Nat → Nat) (x : Int32) (hM : shMod S ma) : MtI l yX11_fault cX11_fault 2 (some .int) (Rm 0 0 0) G [.ref (ma 0), .int x] S (fun (r : Int32) (S' : Pl) => S = S' ∧ True) 0 0 := by
  refine MtI.of (by decide) (Nat.le_of_ble_eq_true rfl) ?_
  intro p e s m args below meth c Q A X hw hin hret ls hl
  have hx := X.1.1
  have hb := X.1.2.1
  have hl : lv_has ls 2 [(0, .ref (ma 0)), (1, .int x)] := hl
  refine lv_iload_n hx hb dX11_fault_0 rfl (lv_at hl 1 rfl) ?_
  refine lv_if_ne (tgt := 11) hx hb dX11_fault_1 (by decide) (fun c1_1 => ?_) (fun c1_1 => ?_)
  · skip
    refine lv_iload_n hx hb dX11_fault_11 rfl (lv_at hl 1 rfl) ?_
    refine lv_iconst (v := 1) hx hb dX11_fault_12 (by decide) ?_
    refine lv_icmp_ne (tgt := 23) hx hb dX11_fault_13 (by decide) (fun c13_2 => ?_) (fun c13_2 => ?_)
    · skip
      refine lv_iconst (v := -1) hx hb dX11_fault_23 (by decide) ?_
      exact hret (-1) _ _ _ _ _ ⟨rfl, trivial⟩ hw rfl dX11_fault_24
    · have D13_2 := iEq c13_2 rfl t_1
      refine lv_aload_n hx hb dX11_fault_16 rfl (lv_at hl 0 rfl) ?_
      refine gf_X11_14 (v := (pI S) 105 (ma 0)) X hw hM.1 rfl dX11_fault_17 ?_
      refine lv_goto (tgt := 24) hx hb dX11_fault_20 (by decide) ?_
      exact hret ((pI S) 105 (ma 0)) _ _ _ _ _ ⟨rfl, trivial⟩ hw rfl dX11_fault_24
  · have D1_1 := iEq c1_1 rfl t_0
    refine lv_aload_n hx hb dX11_fault_4 rfl (lv_at hl 0 rfl) ?_
    refine gf_X11_11 (v := (pI S) 104 (ma 0)) X hw hM.1 rfl dX11_fault_5 ?_
    refine lv_goto (tgt := 24) hx hb dX11_fault_8 (by decide) ?_
    exact hret ((pI S) 104 (ma 0)) _ _ _ _ _ ⟨rfl, trivial⟩ hw rfl dX11_fault_24
set_option maxHeartbeats 4000000 in
set_option maxRecDepth 100000 in
theorem c_X11_wind (l : Launch) (G : Gh) (S : Pl) (ma : Nat → Nat) (x y : Int32) (hM : shMod S ma) (hI : mInv (pI S) (qI S) ma) : MtI l yX11_wind cX11_wind 3 (some .int) (Rm 1 0 0) G [.ref (ma 0), .int x, .int y] S (fun (r : Int32) (S' : Pl) => S = S' ∧ True) 0 0 := by
  refine MtI.of (by decide) (Nat.le_of_ble_eq_true rfl) ?_
  intro p e s m args below meth c Q A X hw hin hret ls hl
  have hx := X.1.1
  have hb := X.1.2.1
  have hl : lv_has ls 3 [(0, .ref (ma 0)), (1, .int x), (2, .int y)] := hl
  refine lv_iload_n hx hb dX11_wind_0 rfl (lv_at hl 1 rfl) ?_
  refine k_Si (n := 1) X hw (c_X11_isHour l G _ x) wd_r24_20 wd_r24_21 wd_r1_5 wd_r24_22 ⟨by decide, by decide, by decide +kernel⟩ rfl rfl ⟨Nat.le_of_ble_eq_true rfl, Nat.le_of_ble_eq_true rfl⟩ rfl rfl hl.1 (Nat.le_of_ble_eq_true rfl) dX11_wind_1 ⟨Nat.le_of_ble_eq_true rfl, Nat.le_of_ble_eq_true rfl⟩ (fun r1_1 S1_3 H locs h1_2 hw => ?_)
  rcases h1_2 with ⟨rfl, rfl, h1_2⟩ | ⟨rfl, rfl, h1_2⟩
  · have h1_2 := h1_2
    refine lv_if_eq (tgt := 16) hx hb dX11_wind_4 (by decide) (fun c4_4 => absurd c4_4 (by decide)) (fun c4_4 => ?_)
    refine lv_aload_n hx hb dX11_wind_7 rfl (lv_at hl 0 rfl) ?_
    refine lv_iload_n hx hb dX11_wind_8 rfl (lv_at hl 1 rfl) ?_
    refine lv_iload_n hx hb dX11_wind_9 rfl (lv_at hl 2 rfl) ?_
    refine k_Vi (n := 2) X hw (rcvk (ci := 11) X hw hM.1 (fun _ _ _ _ _ _ _ => ⟨_, rfl⟩) rfl) (c_X11_windOf l G _ ma x y hM hI.1.2.2.1 (by omega)) wd_r24_23 wd_r25_0 wd_r25_1 wd_r1_5 wd_r25_2 ⟨by decide, by decide, by decide +kernel⟩ rfl rfl ⟨Nat.le_of_ble_eq_true rfl, Nat.le_of_ble_eq_true rfl⟩ rfl rfl hl.1 (Nat.le_of_ble_eq_true rfl) dX11_wind_10 ⟨Nat.le_of_ble_eq_true rfl, Nat.le_of_ble_eq_true rfl⟩ (fun r10_5 S10_7 H locs h10_6 hw => ?_)
    obtain ⟨rfl, h10_6⟩ := h10_6
    refine lv_goto (tgt := 18) hx hb dX11_wind_13 (by decide) ?_
    exact hret r10_5 _ _ _ _ _ ⟨rfl, trivial⟩ hw rfl dX11_wind_18
  · have h1_2 := h1_2
    refine lv_if_eq (tgt := 16) hx hb dX11_wind_4 (by decide) (fun c4_8 => ?_) (fun c4_8 => absurd c4_8 (by decide))
    refine lv_bipush (v := -100) hx hb dX11_wind_16 (by decide) ?_
    exact hret (-100) _ _ _ _ _ ⟨rfl, trivial⟩ hw rfl dX11_wind_18
set_option maxHeartbeats 4000000 in
set_option maxRecDepth 100000 in
theorem c_X11_stream (l : Launch) (G : Gh) (S : Pl) (ma : Nat → Nat) (u x y : Int32) (hM : shMod S ma) (hI : mInv (pI S) (qI S) ma) : MtI l yX11_stream cX11_stream 4 (some .int) (Rm 1 0 0) G [.ref (ma 0), .int u, .int x, .int y] S (fun (r : Int32) (S' : Pl) => S = S' ∧ True) 0 0 := by
  refine MtI.of (by decide) (Nat.le_of_ble_eq_true rfl) ?_
  intro p e s m args below meth c Q A X hw hin hret ls hl
  have hx := X.1.1
  have hb := X.1.2.1
  have hl : lv_has ls 4 [(0, .ref (ma 0)), (1, .int u), (2, .int x), (3, .int y)] := hl
  refine lv_iload_n hx hb dX11_stream_0 rfl (lv_at hl 1 rfl) ?_
  refine lv_if_lt (tgt := 26) hx hb dX11_stream_1 (by decide) (fun c1_1 => ?_) (fun c1_1 => ?_)
  · have D1_1 := iLt c1_1 rfl t_0
    refine lv_bipush (v := -100) hx hb dX11_stream_26 (by decide) ?_
    exact hret (-100) _ _ _ _ _ ⟨rfl, trivial⟩ hw rfl dX11_stream_28
  · have D1_1 := iNlt c1_1 rfl t_0
    refine lv_iload_n hx hb dX11_stream_4 rfl (lv_at hl 1 rfl) ?_
    refine lv_iconst (v := 4) hx hb dX11_stream_5 (by decide) ?_
    refine lv_icmp_ge (tgt := 26) hx hb dX11_stream_6 (by decide) (fun c6_2 => ?_) (fun c6_2 => ?_)
    · have D6_2 := iLe c6_2 t_4 rfl
      refine lv_bipush (v := -100) hx hb dX11_stream_26 (by decide) ?_
      exact hret (-100) _ _ _ _ _ ⟨rfl, trivial⟩ hw rfl dX11_stream_28
    · have D6_2 := iNle c6_2 t_4 rfl
      refine lv_iload_n hx hb dX11_stream_9 rfl (lv_at hl 2 rfl) ?_
      refine k_Si (n := 1) X hw (c_X11_isHour l G _ x) wd_r24_20 wd_r24_21 wd_r1_5 wd_r24_22 ⟨by decide, by decide, by decide +kernel⟩ rfl rfl ⟨Nat.le_of_ble_eq_true rfl, Nat.le_of_ble_eq_true rfl⟩ rfl rfl hl.1 (Nat.le_of_ble_eq_true rfl) dX11_stream_10 ⟨Nat.le_of_ble_eq_true rfl, Nat.le_of_ble_eq_true rfl⟩ (fun r10_3 S10_5 H locs h10_4 hw => ?_)
      rcases h10_4 with ⟨rfl, rfl, h10_4⟩ | ⟨rfl, rfl, h10_4⟩
      · have h10_4 := h10_4
        refine lv_if_eq (tgt := 26) hx hb dX11_stream_13 (by decide) (fun c13_6 => absurd c13_6 (by decide)) (fun c13_6 => ?_)
        refine lv_aload_n hx hb dX11_stream_16 rfl (lv_at hl 0 rfl) ?_
        refine lv_iload_n hx hb dX11_stream_17 rfl (lv_at hl 1 rfl) ?_
        refine lv_iload_n hx hb dX11_stream_18 rfl (lv_at hl 2 rfl) ?_
        refine lv_iload_n hx hb dX11_stream_19 rfl (lv_at hl 3 rfl) ?_
        refine k_Vi (n := 3) X hw (rcvk (ci := 11) X hw hM.1 (fun _ _ _ _ _ _ _ => ⟨_, rfl⟩) rfl) (c_X11_streamOf l G _ ma u x y hM hI.1.2.2.1 (by omega) (by omega)) wd_r25_13 wd_r25_14 wd_r25_15 wd_r1_5 wd_r25_16 ⟨by decide, by decide, by decide +kernel⟩ rfl rfl ⟨Nat.le_of_ble_eq_true rfl, Nat.le_of_ble_eq_true rfl⟩ rfl rfl hl.1 (Nat.le_of_ble_eq_true rfl) dX11_stream_20 ⟨Nat.le_of_ble_eq_true rfl, Nat.le_of_ble_eq_true rfl⟩ (fun r20_7 S20_9 H locs h20_8 hw => ?_)
        obtain ⟨rfl, h20_8⟩ := h20_8
        refine lv_goto (tgt := 28) hx hb dX11_stream_23 (by decide) ?_
        exact hret r20_7 _ _ _ _ _ ⟨rfl, trivial⟩ hw rfl dX11_stream_28
      · have h10_4 := h10_4
        refine lv_if_eq (tgt := 26) hx hb dX11_stream_13 (by decide) (fun c13_10 => ?_) (fun c13_10 => absurd c13_10 (by decide))
        refine lv_bipush (v := -100) hx hb dX11_stream_26 (by decide) ?_
        exact hret (-100) _ _ _ _ _ ⟨rfl, trivial⟩ hw rfl dX11_stream_28
set_option maxHeartbeats 4000000 in
set_option maxRecDepth 100000 in
theorem c_X11_miss (l : Launch) (G : Gh) (S : Pl) (ma : Nat → Nat) (x y : Int32) (hM : shMod S ma) (hI : mInv (pI S) (qI S) ma) : MtI l yX11_miss cX11_miss 3 (some .int) (Rm 1 0 0) G [.ref (ma 0), .int x, .int y] S (fun (r : Int32) (S' : Pl) => S = S' ∧ True) 0 0 := by
  refine MtI.of (by decide) (Nat.le_of_ble_eq_true rfl) ?_
  intro p e s m args below meth c Q A X hw hin hret ls hl
  have hx := X.1.1
  have hb := X.1.2.1
  have hl : lv_has ls 3 [(0, .ref (ma 0)), (1, .int x), (2, .int y)] := hl
  refine lv_iload_n hx hb dX11_miss_0 rfl (lv_at hl 1 rfl) ?_
  refine k_Si (n := 1) X hw (c_X11_isSort l G _ x) wd_r26_3 wd_r26_4 wd_r1_5 wd_r26_5 ⟨by decide, by decide, by decide +kernel⟩ rfl rfl ⟨Nat.le_of_ble_eq_true rfl, Nat.le_of_ble_eq_true rfl⟩ rfl rfl hl.1 (Nat.le_of_ble_eq_true rfl) dX11_miss_1 ⟨Nat.le_of_ble_eq_true rfl, Nat.le_of_ble_eq_true rfl⟩ (fun r1_1 S1_3 H locs h1_2 hw => ?_)
  rcases h1_2 with ⟨rfl, rfl, h1_2⟩ | ⟨rfl, rfl, h1_2⟩
  · have h1_2 := h1_2
    refine lv_if_eq (tgt := 26) hx hb dX11_miss_4 (by decide) (fun c4_4 => absurd c4_4 (by decide)) (fun c4_4 => ?_)
    refine lv_iload_n hx hb dX11_miss_7 rfl (lv_at hl 2 rfl) ?_
    refine lv_if_lt (tgt := 26) hx hb dX11_miss_8 (by decide) (fun c8_5 => ?_) (fun c8_5 => ?_)
    · have D8_5 := iLt c8_5 rfl t_0
      refine lv_iconst (v := -1) hx hb dX11_miss_26 (by decide) ?_
      exact hret (-1) _ _ _ _ _ ⟨rfl, trivial⟩ hw rfl dX11_miss_27
    · have D8_5 := iNlt c8_5 rfl t_0
      refine lv_iload_n hx hb dX11_miss_11 rfl (lv_at hl 2 rfl) ?_
      refine lv_bipush (v := 20) hx hb dX11_miss_12 (by decide) ?_
      refine lv_icmp_gt (tgt := 26) hx hb dX11_miss_14 (by decide) (fun c14_6 => ?_) (fun c14_6 => ?_)
      · have D14_6 := iLt c14_6 t_20 rfl
        refine lv_iconst (v := -1) hx hb dX11_miss_26 (by decide) ?_
        exact hret (-1) _ _ _ _ _ ⟨rfl, trivial⟩ hw rfl dX11_miss_27
      · have D14_6 := iNlt c14_6 t_20 rfl
        refine lv_aload_n hx hb dX11_miss_17 rfl (lv_at hl 0 rfl) ?_
        refine lv_iload_n hx hb dX11_miss_18 rfl (lv_at hl 1 rfl) ?_
        refine lv_iload_n hx hb dX11_miss_19 rfl (lv_at hl 2 rfl) ?_
        refine k_Vi (n := 2) X hw (rcvk (ci := 11) X hw hM.1 (fun _ _ _ _ _ _ _ => ⟨_, rfl⟩) rfl) (c_X11_missOf l G _ ma x y hM hI.1.2.2.1 (by omega) (by omega)) wd_r26_6 wd_r26_7 wd_r26_8 wd_r1_5 wd_r26_9 ⟨by decide, by decide, by decide +kernel⟩ rfl rfl ⟨Nat.le_of_ble_eq_true rfl, Nat.le_of_ble_eq_true rfl⟩ rfl rfl hl.1 (Nat.le_of_ble_eq_true rfl) dX11_miss_20 ⟨Nat.le_of_ble_eq_true rfl, Nat.le_of_ble_eq_true rfl⟩ (fun r20_7 S20_9 H locs h20_8 hw => ?_)
        obtain ⟨rfl, h20_8⟩ := h20_8
        refine lv_goto (tgt := 27) hx hb dX11_miss_23 (by decide) ?_
        exact hret r20_7 _ _ _ _ _ ⟨rfl, trivial⟩ hw rfl dX11_miss_27
  · have h1_2 := h1_2
    refine lv_if_eq (tgt := 26) hx hb dX11_miss_4 (by decide) (fun c4_10 => ?_) (fun c4_10 => absurd c4_10 (by decide))
    refine lv_iconst (v := -1) hx hb dX11_miss_26 (by decide) ?_
    exact hret (-1) _ _ _ _ _ ⟨rfl, trivial⟩ hw rfl dX11_miss_27
set_option maxHeartbeats 4000000 in
set_option maxRecDepth 100000 in
theorem c_X11_land (l : Launch) (G : Gh) (S : Pl) (ma : Nat → Nat) (x : Int32) (hM : shMod S ma) (hI : mInv (pI S) (qI S) ma) : MtI l yX11_land cX11_land 2 (some .int) (Rm 0 0 0) G [.ref (ma 0), .int x] S (fun (r : Int32) (S' : Pl) => S = S' ∧ True) 0 0 := by
  refine MtI.of (by decide) (Nat.le_of_ble_eq_true rfl) ?_
  intro p e s m args below meth c Q A X hw hin hret ls hl
  have hx := X.1.1
  have hb := X.1.2.1
  have hl : lv_has ls 2 [(0, .ref (ma 0)), (1, .int x)] := hl
  obtain ⟨⟨b1, b2, b3, b4, b5, b6⟩, hT, hP, hC⟩ := id hI
  refine lv_iload_n hx hb dX11_land_0 rfl (lv_at hl 1 rfl) ?_
  refine lv_if_lt (tgt := 10) hx hb dX11_land_1 (by decide) (fun c1_1 => ?_) (fun c1_1 => ?_)
  · have D1_1 := iLt c1_1 rfl t_0
    refine lv_iconst (v := -1) hx hb dX11_land_10 (by decide) ?_
    refine lv_goto (tgt := 36) hx hb dX11_land_11 (by decide) ?_
    exact hret (-1) _ _ _ _ _ ⟨rfl, trivial⟩ hw rfl dX11_land_36
  · have D1_1 := iNlt c1_1 rfl t_0
    refine lv_iload_n hx hb dX11_land_4 rfl (lv_at hl 1 rfl) ?_
    refine lv_bipush (v := 64) hx hb dX11_land_5 (by decide) ?_
    refine lv_icmp_lt (tgt := 14) hx hb dX11_land_7 (by decide) (fun c7_2 => ?_) (fun c7_2 => ?_)
    · have D7_2 := iLt c7_2 rfl t_64
      refine lv_aload_n hx hb dX11_land_14 rfl (lv_at hl 0 rfl) ?_
      refine gf_X11_83 (b := (ma 19)) X hw hM.1 (mr_19 hM) dX11_land_15 ?_
      refine lv_bipush (v := 64) hx hb dX11_land_18 (by decide) ?_
      refine lv_aload_n hx hb dX11_land_20 rfl (lv_at hl 0 rfl) ?_
      refine gf_X11_146 (v := (pI S) 120 (ma 0)) X hw hM.1 rfl dX11_land_21 ?_
      refine lv_imul hx hb dX11_land_24 ?_
      refine lv_topi (fun v24_3 e24_3 => ?_)
      have t24_3 := iMul e24_3 t_64 rfl (by omega) (by omega)
      have t24 := t24_3
      refine lv_iload_n hx hb dX11_land_25 rfl (lv_at hl 1 rfl) ?_
      refine lv_iadd hx hb dX11_land_26 ?_
      refine lv_topi (fun v26_4 e26_4 => ?_)
      have t26_4 := iAdd e26_4 rfl rfl (by omega) (by omega)
      have t26 := t26_4
      refine q_ldZ X hw (mk_19 hM) (vin (mn_19 hM) (by omega) (by omega)) dX11_land_27 ?_
      refine lv_topi (fun v27_5 e27_5 => ?_)
      have e27_5 : v27_5 = (qI S) (ma 19) v26_4.toNatClampNeg := e27_5
      refine lv_if_eq (tgt := 35) hx hb dX11_land_28 (by decide) (fun c28_6 => ?_) (fun c28_6 => ?_)
      · have D28_6 := iEq c28_6 rfl t_0
        refine lv_iconst (v := 0) hx hb dX11_land_35 (by decide) ?_
        exact hret 0 _ _ _ _ _ ⟨rfl, trivial⟩ hw rfl dX11_land_36
      · skip
        refine lv_iconst (v := 1) hx hb dX11_land_31 (by decide) ?_
        refine lv_goto (tgt := 36) hx hb dX11_land_32 (by decide) ?_
        exact hret 1 _ _ _ _ _ ⟨rfl, trivial⟩ hw rfl dX11_land_36
    · have D7_2 := iNlt c7_2 rfl t_64
      refine lv_iconst (v := -1) hx hb dX11_land_10 (by decide) ?_
      refine lv_goto (tgt := 36) hx hb dX11_land_11 (by decide) ?_
      exact hret (-1) _ _ _ _ _ ⟨rfl, trivial⟩ hw rfl dX11_land_36
set_option maxHeartbeats 4000000 in
set_option maxRecDepth 100000 in
theorem c_X11_tale (l : Launch) (G : Gh) (S : Pl) (ma : Nat → Nat) (x y z u w : Int32) (hM : shMod S ma) (hI : mInv (pI S) (qI S) ma) : MtI l yX11_tale cX11_tale 6 (some .int) (Rm 1 0 0) G [.ref (ma 0), .int x, .int y, .int z, .int u, .int w] S (fun (r : Int32) (S' : Pl) => (¬ tlC x y z u w (pI S 128 (ma 0)).toInt.toNat ∧ r = -1 ∧ S = S') ∨ (tlC x y z u w (pI S 128 (ma 0)).toInt.toNat ∧ r.toInt = (pI S 128 (ma 0)).toInt ∧ ∃ I' q', ch S I' (pJ S) q' (qJ S) = S' ∧ mInv I' q' ma ∧ (I' 128 (ma 0)).toInt = (pI S 128 (ma 0)).toInt + 1 ∧ I' 102 (ma 0) = pI S 102 (ma 0) ∧ I' 140 (ma 0) = pI S 140 (ma 0) ∧ q' (ma 40) = qI S (ma 40))) 0 0 := by
  refine MtI.of (by decide) (Nat.le_of_ble_eq_true rfl) ?_
  intro p e s m args below meth c Q A X hw hin hret ls hl
  have hx := X.1.1
  have hb := X.1.2.1
  have hl : lv_has ls 6 [(0, .ref (ma 0)), (1, .int x), (2, .int y), (3, .int z), (4, .int u), (5, .int w)] := hl
  obtain ⟨⟨b1, b2, b3, b4, b5, b6⟩, hT, hP, hC⟩ := id hI
  refine lv_iload_n hx hb dX11_tale_0 rfl (lv_at hl 1 rfl) ?_
  refine lv_if_lt (tgt := 54) hx hb dX11_tale_1 (by decide) (fun c1_1 => ?_) (fun c1_1 => ?_)
  · have D1_1 := iLt c1_1 rfl t_0
    refine lv_iconst (v := -1) hx hb dX11_tale_54 (by decide) ?_
    exact hret (-1) S _ _ _ _ (Or.inl ⟨by unfold tlC; have := t_40; omega, rfl, rfl⟩) hw rfl dX11_tale_55
  · have D1_1 := iNlt c1_1 rfl t_0
    refine lv_iload_n hx hb dX11_tale_4 rfl (lv_at hl 1 rfl) ?_
    refine lv_iconst (v := 4) hx hb dX11_tale_5 (by decide) ?_
    refine lv_icmp_ge (tgt := 54) hx hb dX11_tale_6 (by decide) (fun c6_2 => ?_) (fun c6_2 => ?_)
    · have D6_2 := iLe c6_2 t_4 rfl
      refine lv_iconst (v := -1) hx hb dX11_tale_54 (by decide) ?_
      exact hret (-1) S _ _ _ _ (Or.inl ⟨by unfold tlC; have := t_40; omega, rfl, rfl⟩) hw rfl dX11_tale_55
    · have D6_2 := iNle c6_2 t_4 rfl
      refine lv_iload_n hx hb dX11_tale_9 rfl (lv_at hl 2 rfl) ?_
      refine k_Si (n := 1) X hw (c_X11_isPoint l G _ y) wd_r29_19 wd_r29_20 wd_r1_5 wd_r29_21 ⟨by decide, by decide, by decide +kernel⟩ rfl rfl ⟨Nat.le_of_ble_eq_true rfl, Nat.le_of_ble_eq_true rfl⟩ rfl rfl hl.1 (Nat.le_of_ble_eq_true rfl) dX11_tale_10 ⟨Nat.le_of_ble_eq_true rfl, Nat.le_of_ble_eq_true rfl⟩ (fun r10_3 S10_5 H locs h10_4 hw => ?_)
      rcases h10_4 with ⟨rfl, rfl, h10_4⟩ | ⟨rfl, rfl, h10_4⟩
      · have h10_4 := h10_4
        refine lv_if_eq (tgt := 54) hx hb dX11_tale_13 (by decide) (fun c13_6 => absurd c13_6 (by decide)) (fun c13_6 => ?_)
        refine lv_iload_n hx hb dX11_tale_16 rfl (lv_at hl 3 rfl) ?_
        refine k_Si (n := 1) X hw (c_X11_isPoint l G _ z) wd_r29_19 wd_r29_20 wd_r1_5 wd_r29_21 ⟨by decide, by decide, by decide +kernel⟩ rfl rfl ⟨Nat.le_of_ble_eq_true rfl, Nat.le_of_ble_eq_true rfl⟩ rfl rfl hl.1 (Nat.le_of_ble_eq_true rfl) dX11_tale_17 ⟨Nat.le_of_ble_eq_true rfl, Nat.le_of_ble_eq_true rfl⟩ (fun r17_7 S17_9 H locs h17_8 hw => ?_)
        rcases h17_8 with ⟨rfl, rfl, h17_8⟩ | ⟨rfl, rfl, h17_8⟩
        · have h17_8 := h17_8
          refine lv_if_eq (tgt := 54) hx hb dX11_tale_20 (by decide) (fun c20_10 => absurd c20_10 (by decide)) (fun c20_10 => ?_)
          refine lv_iload hx hb dX11_tale_23 (lv_at hl 4 rfl) ?_
          refine k_Si (n := 1) X hw (c_X11_isHour l G _ u) wd_r24_20 wd_r24_21 wd_r1_5 wd_r24_22 ⟨by decide, by decide, by decide +kernel⟩ rfl rfl ⟨Nat.le_of_ble_eq_true rfl, Nat.le_of_ble_eq_true rfl⟩ rfl rfl hl.1 (Nat.le_of_ble_eq_true rfl) dX11_tale_25 ⟨Nat.le_of_ble_eq_true rfl, Nat.le_of_ble_eq_true rfl⟩ (fun r25_11 S25_13 H locs h25_12 hw => ?_)
          rcases h25_12 with ⟨rfl, rfl, h25_12⟩ | ⟨rfl, rfl, h25_12⟩
          · have h25_12 := h25_12
            refine lv_if_eq (tgt := 54) hx hb dX11_tale_28 (by decide) (fun c28_14 => absurd c28_14 (by decide)) (fun c28_14 => ?_)
            refine lv_iload hx hb dX11_tale_31 (lv_at hl 5 rfl) ?_
            refine lv_iconst (v := 1) hx hb dX11_tale_33 (by decide) ?_
            refine lv_icmp_lt (tgt := 54) hx hb dX11_tale_34 (by decide) (fun c34_15 => ?_) (fun c34_15 => ?_)
            · have D34_15 := iLt c34_15 rfl t_1
              refine lv_iconst (v := -1) hx hb dX11_tale_54 (by decide) ?_
              exact hret (-1) S _ _ _ _ (Or.inl ⟨by unfold tlC; have := t_40; omega, rfl, rfl⟩) hw rfl dX11_tale_55
            · have D34_15 := iNlt c34_15 rfl t_1
              refine lv_iload hx hb dX11_tale_37 (lv_at hl 5 rfl) ?_
              refine lv_sipush (v := 1000) hx hb dX11_tale_39 (by decide) ?_
              refine lv_icmp_gt (tgt := 54) hx hb dX11_tale_42 (by decide) (fun c42_16 => ?_) (fun c42_16 => ?_)
              · have D42_16 := iLt c42_16 t_1000 rfl
                refine lv_iconst (v := -1) hx hb dX11_tale_54 (by decide) ?_
                exact hret (-1) S _ _ _ _ (Or.inl ⟨by unfold tlC; have := t_40; omega, rfl, rfl⟩) hw rfl dX11_tale_55
              · have D42_16 := iNlt c42_16 t_1000 rfl
                refine lv_aload_n hx hb dX11_tale_45 rfl (lv_at hl 0 rfl) ?_
                refine gf_X11_224 (v := (pI S) 128 (ma 0)) X hw hM.1 rfl dX11_tale_46 ?_
                refine lv_bipush (v := 40) hx hb dX11_tale_49 (by decide) ?_
                refine lv_icmp_ne (tgt := 56) hx hb dX11_tale_51 (by decide) (fun c51_17 => ?_) (fun c51_17 => ?_)
                · have D51_17 := iNe c51_17 rfl t_40
                  refine lv_aload_n hx hb dX11_tale_56 rfl (lv_at hl 0 rfl) ?_
                  refine gf_X11_90 (b := (ma 24)) X hw hM.1 (mr_24 hM) dX11_tale_57 ?_
                  refine lv_aload_n hx hb dX11_tale_60 rfl (lv_at hl 0 rfl) ?_
                  refine gf_X11_224 (v := (pI S) 128 (ma 0)) X hw hM.1 rfl dX11_tale_61 ?_
                  refine lv_iload_n hx hb dX11_tale_64 rfl (lv_at hl 1 rfl) ?_
                  refine q_stI X hw (mk_24 hM) (vin (mn_24 hM) (by omega) (by omega)) dX11_tale_65 (fun H locs hw => ?_)
                  obtain ⟨q65_18, eq65_18, hw⟩ : ∃ zz9, zz9 = va_up (qI S) (ma 24) (upd ((qI S) (ma 24)) ((pI S) 128 (ma 0)).toNatClampNeg x) ∧ PX G A s.heap (ch S (pI S) (pJ S) zz9 (qJ S)) H locs := ⟨_, rfl, hw⟩
                  have c65 := eq65_18
                  refine lv_aload_n hx hb dX11_tale_66 rfl (lv_at hl 0 rfl) ?_
                  refine gf_X11_93 (b := (ma 25)) X hw hM.1 (mr_25 hM) dX11_tale_67 ?_
                  refine lv_aload_n hx hb dX11_tale_70 rfl (lv_at hl 0 rfl) ?_
                  refine gf_X11_224 (v := (pI S) 128 (ma 0)) X hw hM.1 rfl dX11_tale_71 ?_
                  refine lv_iload_n hx hb dX11_tale_74 rfl (lv_at hl 2 rfl) ?_
                  refine q_stI X hw (mk_25 hM) (vin (mn_25 hM) (by omega) (by omega)) dX11_tale_75 (fun H locs hw => ?_)
                  obtain ⟨q75_19, eq75_19, hw⟩ : ∃ zz9, zz9 = va_up q65_18 (ma 25) (upd (q65_18 (ma 25)) ((pI S) 128 (ma 0)).toNatClampNeg y) ∧ PX G A s.heap (ch S (pI S) (pJ S) zz9 (qJ S)) H locs := ⟨_, rfl, hw⟩
                  have c75 := eq75_19
                  refine lv_aload_n hx hb dX11_tale_76 rfl (lv_at hl 0 rfl) ?_
                  refine gf_X11_96 (b := (ma 26)) X hw hM.1 (mr_26 hM) dX11_tale_77 ?_
                  refine lv_aload_n hx hb dX11_tale_80 rfl (lv_at hl 0 rfl) ?_
                  refine gf_X11_224 (v := (pI S) 128 (ma 0)) X hw hM.1 rfl dX11_tale_81 ?_
                  refine lv_iload_n hx hb dX11_tale_84 rfl (lv_at hl 3 rfl) ?_
                  refine q_stI X hw (mk_26 hM) (vin (mn_26 hM) (by omega) (by omega)) dX11_tale_85 (fun H locs hw => ?_)
                  obtain ⟨q85_20, eq85_20, hw⟩ : ∃ zz9, zz9 = va_up q75_19 (ma 26) (upd (q75_19 (ma 26)) ((pI S) 128 (ma 0)).toNatClampNeg z) ∧ PX G A s.heap (ch S (pI S) (pJ S) zz9 (qJ S)) H locs := ⟨_, rfl, hw⟩
                  have c85 := eq85_20
                  refine lv_aload_n hx hb dX11_tale_86 rfl (lv_at hl 0 rfl) ?_
                  refine gf_X11_99 (b := (ma 27)) X hw hM.1 (mr_27 hM) dX11_tale_87 ?_
                  refine lv_aload_n hx hb dX11_tale_90 rfl (lv_at hl 0 rfl) ?_
                  refine gf_X11_224 (v := (pI S) 128 (ma 0)) X hw hM.1 rfl dX11_tale_91 ?_
                  refine lv_iload hx hb dX11_tale_94 (lv_at hl 4 rfl) ?_
                  refine q_stI X hw (mk_27 hM) (vin (mn_27 hM) (by omega) (by omega)) dX11_tale_96 (fun H locs hw => ?_)
                  obtain ⟨q96_21, eq96_21, hw⟩ : ∃ zz9, zz9 = va_up q85_20 (ma 27) (upd (q85_20 (ma 27)) ((pI S) 128 (ma 0)).toNatClampNeg u) ∧ PX G A s.heap (ch S (pI S) (pJ S) zz9 (qJ S)) H locs := ⟨_, rfl, hw⟩
                  have c96 := eq96_21
                  refine lv_aload_n hx hb dX11_tale_97 rfl (lv_at hl 0 rfl) ?_
                  refine gf_X11_102 (b := (ma 28)) X hw hM.1 (mr_28 hM) dX11_tale_98 ?_
                  refine lv_aload_n hx hb dX11_tale_101 rfl (lv_at hl 0 rfl) ?_
                  refine gf_X11_224 (v := (pI S) 128 (ma 0)) X hw hM.1 rfl dX11_tale_102 ?_
                  refine lv_iload hx hb dX11_tale_105 (lv_at hl 5 rfl) ?_
                  refine q_stI X hw (mk_28 hM) (vin (mn_28 hM) (by omega) (by omega)) dX11_tale_107 (fun H locs hw => ?_)
                  obtain ⟨q107_22, eq107_22, hw⟩ : ∃ zz9, zz9 = va_up q96_21 (ma 28) (upd (q96_21 (ma 28)) ((pI S) 128 (ma 0)).toNatClampNeg w) ∧ PX G A s.heap (ch S (pI S) (pJ S) zz9 (qJ S)) H locs := ⟨_, rfl, hw⟩
                  have c107 := eq107_22
                  refine lv_aload_n hx hb dX11_tale_108 rfl (lv_at hl 0 rfl) ?_
                  refine lv_dup hx hb dX11_tale_109 rfl ?_
                  refine gf_X11_224 (v := (pI S) 128 (ma 0)) X hw hM.1 rfl dX11_tale_110 ?_
                  refine lv_iconst (v := 1) hx hb dX11_tale_113 (by decide) ?_
                  refine lv_iadd hx hb dX11_tale_114 ?_
                  refine lv_topi (fun v114_23 e114_23 => ?_)
                  have t114_23 := iAdd e114_23 rfl t_1 (by omega) (by omega)
                  have t114 := t114_23
                  refine pf_X11_224 X hw hM.1 dX11_tale_115 (fun H locs hw => ?_)
                  have hw : PX G A s.heap (ch S (up2 (pI S) 128 (ma 0) v114_23) (pJ S) q107_22 (qJ S)) H locs := hw
                  refine lv_aload_n hx hb dX11_tale_118 rfl (lv_at hl 0 rfl) ?_
                  refine gf_X11_224 (v := v114_23) X hw hM.1 (show up2 (pI S) 128 (ma 0) v114_23 128 (ma 0) = v114_23 from up2_s) dX11_tale_119 ?_
                  refine lv_iconst (v := 1) hx hb dX11_tale_122 (by decide) ?_
                  refine lv_isub hx hb dX11_tale_123 ?_
                  refine lv_topi (fun v123_24 e123_24 => ?_)
                  have t123_24 := iSub e123_24 rfl t_1 (by omega) (by omega)
                  have t123 := t123_24
                  exact hret v123_24 (ch S (up2 (pI S) 128 (ma 0) v114_23) (pJ S) q107_22 (qJ S)) _ _ _ _ (Or.inr ⟨by unfold tlC; have := t_40; omega, by omega, _, _, rfl, mInv_tale hM hI (by assumption) t114 c65 c75 c85 c96 c107 (by omega) (by omega) (by omega) (by omega) (by omega), (by rw [show (up2 (pI S) 128 (ma 0) v114_23) 128 (ma 0) = (v114_23 : Int32) from (show up2 (pI S) 128 (ma 0) v114_23 128 (ma 0) = v114_23 from up2_s)]; omega), rfl, rfl, by rw [row_keep hM c107 (i := 40) (by decide) (by decide) (by decide), row_keep hM c96 (i := 40) (by decide) (by decide) (by decide), row_keep hM c85 (i := 40) (by decide) (by decide) (by decide), row_keep hM c75 (i := 40) (by decide) (by decide) (by decide), row_keep hM c65 (i := 40) (by decide) (by decide) (by decide)]⟩) hw rfl dX11_tale_124
                · have D51_17 := iEq c51_17 rfl t_40
                  refine lv_iconst (v := -1) hx hb dX11_tale_54 (by decide) ?_
                  exact hret (-1) S _ _ _ _ (Or.inl ⟨by unfold tlC; have := t_40; omega, rfl, rfl⟩) hw rfl dX11_tale_55
          · have h25_12 := h25_12
            refine lv_if_eq (tgt := 54) hx hb dX11_tale_28 (by decide) (fun c28_25 => ?_) (fun c28_25 => absurd c28_25 (by decide))
            refine lv_iconst (v := -1) hx hb dX11_tale_54 (by decide) ?_
            exact hret (-1) S _ _ _ _ (Or.inl ⟨by unfold tlC; have := t_40; omega, rfl, rfl⟩) hw rfl dX11_tale_55
        · have h17_8 := h17_8
          refine lv_if_eq (tgt := 54) hx hb dX11_tale_20 (by decide) (fun c20_26 => ?_) (fun c20_26 => absurd c20_26 (by decide))
          refine lv_iconst (v := -1) hx hb dX11_tale_54 (by decide) ?_
          exact hret (-1) S _ _ _ _ (Or.inl ⟨by unfold tlC; have := t_40; omega, rfl, rfl⟩) hw rfl dX11_tale_55
      · have h10_4 := h10_4
        refine lv_if_eq (tgt := 54) hx hb dX11_tale_13 (by decide) (fun c13_27 => ?_) (fun c13_27 => absurd c13_27 (by decide))
        refine lv_iconst (v := -1) hx hb dX11_tale_54 (by decide) ?_
        exact hret (-1) S _ _ _ _ (Or.inl ⟨by unfold tlC; have := t_40; omega, rfl, rfl⟩) hw rfl dX11_tale_55
set_option maxHeartbeats 4000000 in
set_option maxRecDepth 100000 in
theorem c_X11_standing (l : Launch) (G : Gh) (S : Pl) (ma : Nat → Nat) (hM : shMod S ma) (hI : mInv (pI S) (qI S) ma) : MtI l yX11_standing cX11_standing 3 (some .int) (Rm 0 0 0) G [.ref (ma 0)] S (fun (r : Int32) (S' : Pl) => S = S' ∧ r.toInt = (cntB (qI S (ma 40)) (pI S 140 (ma 0)).toInt.toNat : Nat)) 0 0 := by
  refine MtI.of (by decide) (Nat.le_of_ble_eq_true rfl) ?_
  intro p e s m args below meth c Q A X hw hin hret ls hl
  have hx := X.1.1
  have hb := X.1.2.1
  have hl : lv_has ls 3 [(0, .ref (ma 0))] := hl
  obtain ⟨⟨b1, b2, b3, b4, b5, b6⟩, hT, hP, hC⟩ := id hI
  refine lv_iconst (v := 0) hx hb dX11_standing_0 (by decide) ?_
  refine lv_istore_n (lv' := [(1, .int 0), (0, .ref (ma 0))]) hx hb dX11_standing_1 rfl hl (by decide) rfl (fun ls hl => ?_)
  refine lv_iconst (v := 0) hx hb dX11_standing_2 (by decide) ?_
  refine lv_istore_n (lv' := [(2, .int 0), (1, .int 0), (0, .ref (ma 0))]) hx hb dX11_standing_3 rfl hl (by decide) rfl (fun ls hl => ?_)
  have lp4 : ∀ (N9 : Nat) (n : Int32) (i : Int32), (n.toInt = (cntB (qI S (ma 40)) i.toNatClampNeg : Nat)) → (0 ≤ i.toInt ∧ i.toInt ≤ (pI S 140 (ma 0)).toInt) → (60 - i.toInt).toNat < N9 → ∀ (H : Heap) (locs : List Loc) (ls : Array Slot), PX G A s.heap S H locs → lv_has ls 3 [(2, .int i), (1, .int n), (0, .ref (ma 0))] → W p l e (Rm 0 0 0) s m args below meth c H locs 0 0 Q (F0 m 4 ls []) := by
    intro N9
    induction N9 with
    | zero => intro n i hc hi hm; exact absurd hm (Nat.not_lt_zero _)
    | succ N9 ih4 =>
      intro n i hc hi hm H locs ls hw hl
      have hle := cntB_le (qI S (ma 40)) i.toNatClampNeg
      have hcl := cl_toInt (x := i) (by omega)
      refine lv_iload_n hx hb dX11_standing_4 rfl (lv_at hl 0 rfl) ?_
      refine lv_aload_n hx hb dX11_standing_5 rfl (lv_at hl 2 rfl) ?_
      refine gf_X11_252 (v := (pI S) 140 (ma 0)) X hw hM.1 rfl dX11_standing_6 ?_
      refine lv_icmp_ge (tgt := 35) hx hb dX11_standing_9 (by decide) (fun c9_1 => ?_) (fun c9_1 => ?_)
      · have D9_1 := iLe c9_1 rfl rfl
        refine lv_iload_n hx hb dX11_standing_35 rfl (lv_at hl 1 rfl) ?_
        exact hret n _ _ _ _ _ ⟨rfl, by rw [hc, show i.toNatClampNeg = (pI S 140 (ma 0)).toInt.toNat by have := cl_toInt (x := i) (by omega); omega]⟩ hw rfl dX11_standing_36
      · have D9_1 := iNle c9_1 rfl rfl
        refine lv_iload_n hx hb dX11_standing_12 rfl (lv_at hl 1 rfl) ?_
        refine lv_aload_n hx hb dX11_standing_13 rfl (lv_at hl 2 rfl) ?_
        refine gf_X11_126 (b := (ma 40)) X hw hM.1 (mr_40 hM) dX11_standing_14 ?_
        refine lv_iload_n hx hb dX11_standing_17 rfl (lv_at hl 0 rfl) ?_
        refine q_ldZ X hw (mk_40 hM) (vin (mn_40 hM) (by omega) (by omega)) dX11_standing_18 ?_
        refine lv_topi (fun v18_2 e18_2 => ?_)
        have e18_2 : v18_2 = (qI S) (ma 40) i.toNatClampNeg := e18_2
        have e18n := e18_2
        refine lv_if_eq (tgt := 26) hx hb dX11_standing_19 (by decide) (fun c19_3 => ?_) (fun c19_3 => ?_)
        · have D19_3 := iEq c19_3 rfl t_0
          refine lv_iconst (v := 1) hx hb dX11_standing_26 (by decide) ?_
          refine lv_iadd hx hb dX11_standing_27 ?_
          refine lv_topi (fun v27_4 e27_4 => ?_)
          have t27_4 := iAdd e27_4 rfl t_1 (by omega) (by omega)
          have t27 := t27_4
          refine lv_istore_n (lv' := [(1, .int v27_4), (2, .int i), (0, .ref (ma 0))]) hx hb dX11_standing_28 rfl hl (by decide) rfl (fun ls hl => ?_)
          obtain ⟨v29_5, e29_5⟩ : ∃ y : Int32, y = i + 1 := ⟨_, rfl⟩
          have t29_5 := iAdd e29_5 rfl t_1 (by omega) (by omega)
          have t29 := t29_5
          refine lv_iinc (v := v29_5) (lv' := [(2, .int v29_5), (1, .int v27_4), (0, .ref (ma 0))]) hx hb dX11_standing_29 hl (k := 1) rfl (by rw [e29_5]; rfl) (by decide) rfl (fun ls hl => ?_)
          refine lv_goto (tgt := 4) hx hb dX11_standing_32 (by decide) ?_
          exact ih4  v27_4 v29_5 (by first | exact cnt_y hc e18n (by assumption) t27 t29 (by omega) | exact cnt_n hc e18n (by assumption) t27 t29 (by omega)) (by omega) (by omega) _ _ _ hw (lv_sub hl [0, 1, 2] rfl)
        · skip
          refine lv_iconst (v := 0) hx hb dX11_standing_22 (by decide) ?_
          refine lv_goto (tgt := 27) hx hb dX11_standing_23 (by decide) ?_
          refine lv_iadd hx hb dX11_standing_27 ?_
          refine lv_topi (fun v27_6 e27_6 => ?_)
          have t27_6 := iAdd e27_6 rfl t_0 (by omega) (by omega)
          have t27 := t27_6
          refine lv_istore_n (lv' := [(1, .int v27_6), (2, .int i), (0, .ref (ma 0))]) hx hb dX11_standing_28 rfl hl (by decide) rfl (fun ls hl => ?_)
          obtain ⟨v29_7, e29_7⟩ : ∃ y : Int32, y = i + 1 := ⟨_, rfl⟩
          have t29_7 := iAdd e29_7 rfl t_1 (by omega) (by omega)
          have t29 := t29_7
          refine lv_iinc (v := v29_7) (lv' := [(2, .int v29_7), (1, .int v27_6), (0, .ref (ma 0))]) hx hb dX11_standing_29 hl (k := 1) rfl (by rw [e29_7]; rfl) (by decide) rfl (fun ls hl => ?_)
          refine lv_goto (tgt := 4) hx hb dX11_standing_32 (by decide) ?_
          exact ih4  v27_6 v29_7 (by first | exact cnt_y hc e18n (by assumption) t27 t29 (by omega) | exact cnt_n hc e18n (by assumption) t27 t29 (by omega)) (by omega) (by omega) _ _ _ hw (lv_sub hl [0, 1, 2] rfl)
  exact lp4 _  0 0 (by rw [show (0 : Int32).toNatClampNeg = 0 by decide]; exact t_0) (by have := t_0; have := t_0; omega) (Nat.lt_succ_self _) _ _ _ hw (lv_sub hl [0, 1, 2] rfl)
set_option maxHeartbeats 4000000 in
set_option maxRecDepth 100000 in
theorem c_X11_isFull (l : Launch) (G : Gh) (S : Pl) (ma : Nat → Nat)  (hM : shMod S ma) (hI : mInv (pI S) (qI S) ma) : MtI l yX11_isFull cX11_isFull 1 (some .boolean) (Rm 1 0 0) G [.ref (ma 0)] S (fun (r : Int32) (S' : Pl) => (S = S' ∧ r = 1 ∧ ((pI S 140 (ma 0)).toInt = 60 ∨ cntB (qI S (ma 40)) (pI S 140 (ma 0)).toInt.toNat = 6)) ∨ (S = S' ∧ r = 0 ∧ ¬ ((pI S 140 (ma 0)).toInt = 60 ∨ cntB (qI S (ma 40)) (pI S 140 (ma 0)).toInt.toNat = 6))) 0 0 := by
  refine MtI.of (by decide) (Nat.le_of_ble_eq_true rfl) ?_
  intro p e s m args below meth c Q A X hw hin hret ls hl
  have hx := X.1.1
  have hb := X.1.2.1
  have hl : lv_has ls 1 [(0, .ref (ma 0))] := hl
  refine lv_aload_n hx hb dX11_isFull_0 rfl (lv_at hl 0 rfl) ?_
  refine gf_X11_252 (v := (pI S) 140 (ma 0)) X hw hM.1 rfl dX11_isFull_1 ?_
  refine lv_bipush (v := 60) hx hb dX11_isFull_4 (by decide) ?_
  refine lv_icmp_eq (tgt := 18) hx hb dX11_isFull_6 (by decide) (fun c6_1 => ?_) (fun c6_1 => ?_)
  · have D6_1 := iEq c6_1 rfl t_60
    refine lv_iconst (v := 1) hx hb dX11_isFull_18 (by decide) ?_
    refine lv_goto (tgt := 23) hx hb dX11_isFull_19 (by decide) ?_
    exact hret 1 _ _ _ _ _ (Or.inl ⟨rfl, rfl, by omega⟩) hw rfl dX11_isFull_23
  · have D6_1 := iNe c6_1 rfl t_60
    refine lv_aload_n hx hb dX11_isFull_9 rfl (lv_at hl 0 rfl) ?_
    refine k_Vi (n := 0) X hw (rcvk (ci := 11) X hw hM.1 (fun _ _ _ _ _ _ _ => ⟨_, rfl⟩) rfl) (c_X11_standing l G _ ma hM hI) wd_r33_21 wd_r33_22 wd_r33_23 wd_r1_5 wd_r34_0 ⟨by decide, by decide, by decide +kernel⟩ rfl rfl ⟨Nat.le_of_ble_eq_true rfl, Nat.le_of_ble_eq_true rfl⟩ rfl rfl hl.1 (Nat.le_of_ble_eq_true rfl) dX11_isFull_10 ⟨Nat.le_of_ble_eq_true rfl, Nat.le_of_ble_eq_true rfl⟩ (fun r10_2 S10_4 H locs h10_3 hw => ?_)
    obtain ⟨rfl, h10_3⟩ := h10_3
    refine lv_bipush (v := 6) hx hb dX11_isFull_13 (by decide) ?_
    refine lv_icmp_ne (tgt := 22) hx hb dX11_isFull_15 (by decide) (fun c15_5 => ?_) (fun c15_5 => ?_)
    · have D15_5 := iNe c15_5 rfl t_6
      refine lv_iconst (v := 0) hx hb dX11_isFull_22 (by decide) ?_
      exact hret 0 _ _ _ _ _ (Or.inr ⟨rfl, rfl, by omega⟩) hw rfl dX11_isFull_23
    · have D15_5 := iEq c15_5 rfl t_6
      refine lv_iconst (v := 1) hx hb dX11_isFull_18 (by decide) ?_
      refine lv_goto (tgt := 23) hx hb dX11_isFull_19 (by decide) ?_
      exact hret 1 _ _ _ _ _ (Or.inl ⟨rfl, rfl, by omega⟩) hw rfl dX11_isFull_23
set_option maxHeartbeats 4000000 in
set_option maxRecDepth 100000 in
theorem c_X11_prove (l : Launch) (G : Gh) (S : Pl) (ma : Nat → Nat) (a1 a2 a3 a4 a5 a6 a7 : Int32) (hM : shMod S ma) (hI : mInv (pI S) (qI S) ma) (h59 : (pI S 140 (ma 0)).toInt < 60) (h5 : cntB (qI S (ma 40)) (pI S 140 (ma 0)).toInt.toNat ≤ 5) (g1 : 0 ≤ a1.toInt ∧ a1.toInt ≤ 72) (g6 : 0 ≤ a6.toInt ∧ a6.toInt ≤ 2) (g7 : a6.toInt ≤ 1 → 0 ≤ a7.toInt ∧ a7.toInt ≤ 20) (g8 : 0 ≤ a7.toInt ∧ a7.toInt ≤ 100) : MtI l yX11_prove cX11_prove 8 (some .int) (Rm 0 0 0) G [.ref (ma 0), .int a1, .int a2, .int a3, .int a4, .int a5, .int a6, .int a7] S (fun (r : Int32) (S' : Pl) => ∃ I' q', ch S I' (pJ S) q' (qJ S) = S' ∧ mInv I' q' ma ∧ (I' 140 (ma 0)).toInt = (pI S 140 (ma 0)).toInt + 1 ∧ I' 102 (ma 0) = pI S 102 (ma 0) ∧ I' 128 (ma 0) = pI S 128 (ma 0) ∧ q' (ma 40) = upd (qI S (ma 40)) (pI S 140 (ma 0)).toNatClampNeg 0 ∧ r.toInt = (pI S 140 (ma 0)).toInt) 0 0 := by
  refine MtI.of (by decide) (Nat.le_of_ble_eq_true rfl) ?_
  intro p e s m args below meth c Q A X hw hin hret ls hl
  have hx := X.1.1
  have hb := X.1.2.1
  have hl : lv_has ls 8 [(0, .ref (ma 0)), (1, .int a1), (2, .int a2), (3, .int a3), (4, .int a4), (5, .int a5), (6, .int a6), (7, .int a7)] := hl
  obtain ⟨⟨b1, b2, b3, b4, b5, b6⟩, hT, hP, hC⟩ := id hI
  refine lv_aload_n hx hb dX11_prove_0 rfl (lv_at hl 0 rfl) ?_
  refine gf_X11_105 (b := (ma 33)) X hw hM.1 (mr_33 hM) dX11_prove_1 ?_
  refine lv_aload_n hx hb dX11_prove_4 rfl (lv_at hl 0 rfl) ?_
  refine gf_X11_252 (v := (pI S) 140 (ma 0)) X hw hM.1 rfl dX11_prove_5 ?_
  refine lv_iload_n hx hb dX11_prove_8 rfl (lv_at hl 1 rfl) ?_
  refine q_stI X hw (mk_33 hM) (vin (mn_33 hM) (by omega) (by omega)) dX11_prove_9 (fun H locs hw => ?_)
  obtain ⟨q9_1, eq9_1, hw⟩ : ∃ zz9, zz9 = va_up (qI S) (ma 33) (upd ((qI S) (ma 33)) ((pI S) 140 (ma 0)).toNatClampNeg a1) ∧ PX G A s.heap (ch S (pI S) (pJ S) zz9 (qJ S)) H locs := ⟨_, rfl, hw⟩
  have c9 := eq9_1
  refine lv_aload_n hx hb dX11_prove_10 rfl (lv_at hl 0 rfl) ?_
  refine gf_X11_108 (b := (ma 34)) X hw hM.1 (mr_34 hM) dX11_prove_11 ?_
  refine lv_aload_n hx hb dX11_prove_14 rfl (lv_at hl 0 rfl) ?_
  refine gf_X11_252 (v := (pI S) 140 (ma 0)) X hw hM.1 rfl dX11_prove_15 ?_
  refine lv_iload_n hx hb dX11_prove_18 rfl (lv_at hl 2 rfl) ?_
  refine q_stI X hw (mk_34 hM) (vin (mn_34 hM) (by omega) (by omega)) dX11_prove_19 (fun H locs hw => ?_)
  obtain ⟨q19_2, eq19_2, hw⟩ : ∃ zz9, zz9 = va_up q9_1 (ma 34) (upd (q9_1 (ma 34)) ((pI S) 140 (ma 0)).toNatClampNeg a2) ∧ PX G A s.heap (ch S (pI S) (pJ S) zz9 (qJ S)) H locs := ⟨_, rfl, hw⟩
  have c19 := eq19_2
  refine lv_aload_n hx hb dX11_prove_20 rfl (lv_at hl 0 rfl) ?_
  refine gf_X11_111 (b := (ma 35)) X hw hM.1 (mr_35 hM) dX11_prove_21 ?_
  refine lv_aload_n hx hb dX11_prove_24 rfl (lv_at hl 0 rfl) ?_
  refine gf_X11_252 (v := (pI S) 140 (ma 0)) X hw hM.1 rfl dX11_prove_25 ?_
  refine lv_iload_n hx hb dX11_prove_28 rfl (lv_at hl 3 rfl) ?_
  refine q_stI X hw (mk_35 hM) (vin (mn_35 hM) (by omega) (by omega)) dX11_prove_29 (fun H locs hw => ?_)
  obtain ⟨q29_3, eq29_3, hw⟩ : ∃ zz9, zz9 = va_up q19_2 (ma 35) (upd (q19_2 (ma 35)) ((pI S) 140 (ma 0)).toNatClampNeg a3) ∧ PX G A s.heap (ch S (pI S) (pJ S) zz9 (qJ S)) H locs := ⟨_, rfl, hw⟩
  have c29 := eq29_3
  refine lv_aload_n hx hb dX11_prove_30 rfl (lv_at hl 0 rfl) ?_
  refine gf_X11_114 (b := (ma 36)) X hw hM.1 (mr_36 hM) dX11_prove_31 ?_
  refine lv_aload_n hx hb dX11_prove_34 rfl (lv_at hl 0 rfl) ?_
  refine gf_X11_252 (v := (pI S) 140 (ma 0)) X hw hM.1 rfl dX11_prove_35 ?_
  refine lv_iload hx hb dX11_prove_38 (lv_at hl 4 rfl) ?_
  refine q_stI X hw (mk_36 hM) (vin (mn_36 hM) (by omega) (by omega)) dX11_prove_40 (fun H locs hw => ?_)
  obtain ⟨q40_4, eq40_4, hw⟩ : ∃ zz9, zz9 = va_up q29_3 (ma 36) (upd (q29_3 (ma 36)) ((pI S) 140 (ma 0)).toNatClampNeg a4) ∧ PX G A s.heap (ch S (pI S) (pJ S) zz9 (qJ S)) H locs := ⟨_, rfl, hw⟩
  have c40 := eq40_4
  refine lv_aload_n hx hb dX11_prove_41 rfl (lv_at hl 0 rfl) ?_
  refine gf_X11_117 (b := (ma 37)) X hw hM.1 (mr_37 hM) dX11_prove_42 ?_
  refine lv_aload_n hx hb dX11_prove_45 rfl (lv_at hl 0 rfl) ?_
  refine gf_X11_252 (v := (pI S) 140 (ma 0)) X hw hM.1 rfl dX11_prove_46 ?_
  refine lv_iload hx hb dX11_prove_49 (lv_at hl 5 rfl) ?_
  refine q_stI X hw (mk_37 hM) (vin (mn_37 hM) (by omega) (by omega)) dX11_prove_51 (fun H locs hw => ?_)
  obtain ⟨q51_5, eq51_5, hw⟩ : ∃ zz9, zz9 = va_up q40_4 (ma 37) (upd (q40_4 (ma 37)) ((pI S) 140 (ma 0)).toNatClampNeg a5) ∧ PX G A s.heap (ch S (pI S) (pJ S) zz9 (qJ S)) H locs := ⟨_, rfl, hw⟩
  have c51 := eq51_5
  refine lv_aload_n hx hb dX11_prove_52 rfl (lv_at hl 0 rfl) ?_
  refine gf_X11_120 (b := (ma 38)) X hw hM.1 (mr_38 hM) dX11_prove_53 ?_
  refine lv_aload_n hx hb dX11_prove_56 rfl (lv_at hl 0 rfl) ?_
  refine gf_X11_252 (v := (pI S) 140 (ma 0)) X hw hM.1 rfl dX11_prove_57 ?_
  refine lv_iload hx hb dX11_prove_60 (lv_at hl 6 rfl) ?_
  refine q_stI X hw (mk_38 hM) (vin (mn_38 hM) (by omega) (by omega)) dX11_prove_62 (fun H locs hw => ?_)
  obtain ⟨q62_6, eq62_6, hw⟩ : ∃ zz9, zz9 = va_up q51_5 (ma 38) (upd (q51_5 (ma 38)) ((pI S) 140 (ma 0)).toNatClampNeg a6) ∧ PX G A s.heap (ch S (pI S) (pJ S) zz9 (qJ S)) H locs := ⟨_, rfl, hw⟩
  have c62 := eq62_6
  refine lv_aload_n hx hb dX11_prove_63 rfl (lv_at hl 0 rfl) ?_
  refine gf_X11_123 (b := (ma 39)) X hw hM.1 (mr_39 hM) dX11_prove_64 ?_
  refine lv_aload_n hx hb dX11_prove_67 rfl (lv_at hl 0 rfl) ?_
  refine gf_X11_252 (v := (pI S) 140 (ma 0)) X hw hM.1 rfl dX11_prove_68 ?_
  refine lv_iload hx hb dX11_prove_71 (lv_at hl 7 rfl) ?_
  refine q_stI X hw (mk_39 hM) (vin (mn_39 hM) (by omega) (by omega)) dX11_prove_73 (fun H locs hw => ?_)
  obtain ⟨q73_7, eq73_7, hw⟩ : ∃ zz9, zz9 = va_up q62_6 (ma 39) (upd (q62_6 (ma 39)) ((pI S) 140 (ma 0)).toNatClampNeg a7) ∧ PX G A s.heap (ch S (pI S) (pJ S) zz9 (qJ S)) H locs := ⟨_, rfl, hw⟩
  have c73 := eq73_7
  refine lv_aload_n hx hb dX11_prove_74 rfl (lv_at hl 0 rfl) ?_
  refine gf_X11_126 (b := (ma 40)) X hw hM.1 (mr_40 hM) dX11_prove_75 ?_
  refine lv_aload_n hx hb dX11_prove_78 rfl (lv_at hl 0 rfl) ?_
  refine gf_X11_252 (v := (pI S) 140 (ma 0)) X hw hM.1 rfl dX11_prove_79 ?_
  refine lv_iconst (v := 0) hx hb dX11_prove_82 (by decide) ?_
  refine q_stZ X hw (mk_40 hM) (vin (mn_40 hM) (by omega) (by omega)) dX11_prove_83 (fun H locs hw => ?_)
  obtain ⟨q83_8, eq83_8, hw⟩ : ∃ zz9, zz9 = va_up q73_7 (ma 40) (upd (q73_7 (ma 40)) ((pI S) 140 (ma 0)).toNatClampNeg (vp_nar .boolean 0)) ∧ PX G A s.heap (ch S (pI S) (pJ S) zz9 (qJ S)) H locs := ⟨_, rfl, hw⟩
  have c83 := eq83_8
  refine lv_aload_n hx hb dX11_prove_84 rfl (lv_at hl 0 rfl) ?_
  refine lv_dup hx hb dX11_prove_85 rfl ?_
  refine gf_X11_252 (v := (pI S) 140 (ma 0)) X hw hM.1 rfl dX11_prove_86 ?_
  refine lv_iconst (v := 1) hx hb dX11_prove_89 (by decide) ?_
  refine lv_iadd hx hb dX11_prove_90 ?_
  refine lv_topi (fun v90_9 e90_9 => ?_)
  have t90_9 := iAdd e90_9 rfl t_1 (by omega) (by omega)
  have t90 := t90_9
  refine pf_X11_252 X hw hM.1 dX11_prove_91 (fun H locs hw => ?_)
  have hw : PX G A s.heap (ch S (up2 (pI S) 140 (ma 0) v90_9) (pJ S) q83_8 (qJ S)) H locs := hw
  refine lv_aload_n hx hb dX11_prove_94 rfl (lv_at hl 0 rfl) ?_
  refine gf_X11_252 (v := v90_9) X hw hM.1 (show up2 (pI S) 140 (ma 0) v90_9 140 (ma 0) = v90_9 from up2_s) dX11_prove_95 ?_
  refine lv_iconst (v := 1) hx hb dX11_prove_98 (by decide) ?_
  refine lv_isub hx hb dX11_prove_99 ?_
  refine lv_topi (fun v99_10 e99_10 => ?_)
  have t99_10 := iSub e99_10 rfl t_1 (by omega) (by omega)
  have t99 := t99_10
  exact hret v99_10 _ _ _ _ _ ⟨_, _, rfl, mInv_prove hM hI t90 h59 h5 (fun i hi h => by rw [row_keep hM c83 hi (by decide) (by omega), row_keep hM c73 hi (by decide) (by omega), row_keep hM c62 hi (by decide) (by omega), row_keep hM c51 hi (by decide) (by omega), row_keep hM c40 hi (by decide) (by omega), row_keep hM c29 hi (by decide) (by omega), row_keep hM c19 hi (by decide) (by omega), row_keep hM c9 hi (by decide) (by omega)]) (by rw [row_keep hM c83 (i := 33) (by decide) (by decide) (by decide), row_keep hM c73 (i := 33) (by decide) (by decide) (by decide), row_keep hM c62 (i := 33) (by decide) (by decide) (by decide), row_keep hM c51 (i := 33) (by decide) (by decide) (by decide), row_keep hM c40 (i := 33) (by decide) (by decide) (by decide), row_keep hM c29 (i := 33) (by decide) (by decide) (by decide), row_keep hM c19 (i := 33) (by decide) (by decide) (by decide), c9, vu_s]) (by rw [row_keep hM c83 (i := 38) (by decide) (by decide) (by decide), row_keep hM c73 (i := 38) (by decide) (by decide) (by decide), c62, vu_s, row_keep hM c51 (i := 38) (by decide) (by decide) (by decide), row_keep hM c40 (i := 38) (by decide) (by decide) (by decide), row_keep hM c29 (i := 38) (by decide) (by decide) (by decide), row_keep hM c19 (i := 38) (by decide) (by decide) (by decide), row_keep hM c9 (i := 38) (by decide) (by decide) (by decide)]) (by rw [row_keep hM c83 (i := 39) (by decide) (by decide) (by decide), c73, vu_s, row_keep hM c62 (i := 39) (by decide) (by decide) (by decide), row_keep hM c51 (i := 39) (by decide) (by decide) (by decide), row_keep hM c40 (i := 39) (by decide) (by decide) (by decide), row_keep hM c29 (i := 39) (by decide) (by decide) (by decide), row_keep hM c19 (i := 39) (by decide) (by decide) (by decide), row_keep hM c9 (i := 39) (by decide) (by decide) (by decide)]) (by rw [c83, vu_s, row_keep hM c73 (i := 40) (by decide) (by decide) (by decide), row_keep hM c62 (i := 40) (by decide) (by decide) (by decide), row_keep hM c51 (i := 40) (by decide) (by decide) (by decide), row_keep hM c40 (i := 40) (by decide) (by decide) (by decide), row_keep hM c29 (i := 40) (by decide) (by decide) (by decide), row_keep hM c19 (i := 40) (by decide) (by decide) (by decide), row_keep hM c9 (i := 40) (by decide) (by decide) (by decide)]) g1 g6 g7 g8, (by rw [show (up2 (pI S) 140 (ma 0) v90_9) 140 (ma 0) = (v90_9 : Int32) from (show up2 (pI S) 140 (ma 0) v90_9 140 (ma 0) = v90_9 from up2_s)]; omega), rfl, rfl, (by rw [c83, vu_s, row_keep hM c73 (i := 40) (by decide) (by decide) (by decide), row_keep hM c62 (i := 40) (by decide) (by decide) (by decide), row_keep hM c51 (i := 40) (by decide) (by decide) (by decide), row_keep hM c40 (i := 40) (by decide) (by decide) (by decide), row_keep hM c29 (i := 40) (by decide) (by decide) (by decide), row_keep hM c19 (i := 40) (by decide) (by decide) (by decide), row_keep hM c9 (i := 40) (by decide) (by decide) (by decide)]; rfl), by omega⟩ hw rfl dX11_prove_100
set_option maxHeartbeats 4000000 in
set_option maxRecDepth 100000 in
theorem c_X11_search (l : Launch) (G : Gh) (S : Pl) (ma : Nat → Nat) (a1 a2 a3 a4 a5 a6 a7 : Int32) (hM : shMod S ma) (hI : mInv (pI S) (qI S) ma) : MtI l yX11_search cX11_search 8 (some .int) (Rm 2 0 0) G [.ref (ma 0), .int a1, .int a2, .int a3, .int a4, .int a5, .int a6, .int a7] S (fun (r : Int32) (S' : Pl) => (¬ srC a1 a2 a3 a4 a5 a6 a7 (pI S 140 (ma 0)).toInt.toNat (cntB (qI S (ma 40)) (pI S 140 (ma 0)).toInt.toNat) ∧ r = -1 ∧ S = S') ∨ (srC a1 a2 a3 a4 a5 a6 a7 (pI S 140 (ma 0)).toInt.toNat (cntB (qI S (ma 40)) (pI S 140 (ma 0)).toInt.toNat) ∧ r.toInt = (pI S 140 (ma 0)).toInt ∧ ∃ I' q', ch S I' (pJ S) q' (qJ S) = S' ∧ mInv I' q' ma ∧ (I' 140 (ma 0)).toInt = (pI S 140 (ma 0)).toInt + 1 ∧ I' 102 (ma 0) = pI S 102 (ma 0) ∧ I' 128 (ma 0) = pI S 128 (ma 0) ∧ q' (ma 40) = upd (qI S (ma 40)) (pI S 140 (ma 0)).toNatClampNeg 0)) 0 0 := by
  refine MtI.of (by decide) (Nat.le_of_ble_eq_true rfl) ?_
  intro p e s m args below meth c Q A X hw hin hret ls hl
  have hx := X.1.1
  have hb := X.1.2.1
  have hl : lv_has ls 8 [(0, .ref (ma 0)), (1, .int a1), (2, .int a2), (3, .int a3), (4, .int a4), (5, .int a5), (6, .int a6), (7, .int a7)] := hl
  obtain ⟨⟨b1, b2, b3, b4, b5, b6⟩, hT, hP, hC⟩ := id hI
  unfold mC at hC
  refine lv_iload_n hx hb dX11_search_0 rfl (lv_at hl 1 rfl) ?_
  refine k_Si (n := 1) X hw (c_X11_isMoment l G _ a1) wd_r31_0 wd_r31_1 wd_r1_5 wd_r31_2 ⟨by decide, by decide, by decide +kernel⟩ rfl rfl ⟨Nat.le_of_ble_eq_true rfl, Nat.le_of_ble_eq_true rfl⟩ rfl rfl hl.1 (Nat.le_of_ble_eq_true rfl) dX11_search_1 ⟨Nat.le_of_ble_eq_true rfl, Nat.le_of_ble_eq_true rfl⟩ (fun r1_1 S1_3 H locs h1_2 hw => ?_)
  rcases h1_2 with ⟨rfl, rfl, h1_2⟩ | ⟨rfl, rfl, h1_2⟩
  · have h1_2 := h1_2
    refine lv_if_eq (tgt := 68) hx hb dX11_search_4 (by decide) (fun c4_4 => absurd c4_4 (by decide)) (fun c4_4 => ?_)
    refine lv_iload_n hx hb dX11_search_7 rfl (lv_at hl 2 rfl) ?_
    refine lv_if_lt (tgt := 68) hx hb dX11_search_8 (by decide) (fun c8_5 => ?_) (fun c8_5 => ?_)
    · have D8_5 := iLt c8_5 rfl t_0
      refine lv_iconst (v := -1) hx hb dX11_search_68 (by decide) ?_
      exact hret (-1) S _ _ _ _ (Or.inl ⟨by unfold srC; omega, rfl, rfl⟩) hw rfl dX11_search_69
    · have D8_5 := iNlt c8_5 rfl t_0
      refine lv_iload_n hx hb dX11_search_11 rfl (lv_at hl 3 rfl) ?_
      refine lv_iload_n hx hb dX11_search_12 rfl (lv_at hl 2 rfl) ?_
      refine lv_icmp_lt (tgt := 68) hx hb dX11_search_13 (by decide) (fun c13_6 => ?_) (fun c13_6 => ?_)
      · have D13_6 := iLt c13_6 rfl rfl
        refine lv_iconst (v := -1) hx hb dX11_search_68 (by decide) ?_
        exact hret (-1) S _ _ _ _ (Or.inl ⟨by unfold srC; omega, rfl, rfl⟩) hw rfl dX11_search_69
      · have D13_6 := iNlt c13_6 rfl rfl
        refine lv_iload_n hx hb dX11_search_16 rfl (lv_at hl 3 rfl) ?_
        refine lv_bipush (v := 7) hx hb dX11_search_17 (by decide) ?_
        refine lv_icmp_gt (tgt := 68) hx hb dX11_search_19 (by decide) (fun c19_7 => ?_) (fun c19_7 => ?_)
        · have D19_7 := iLt c19_7 t_7 rfl
          refine lv_iconst (v := -1) hx hb dX11_search_68 (by decide) ?_
          exact hret (-1) S _ _ _ _ (Or.inl ⟨by unfold srC; omega, rfl, rfl⟩) hw rfl dX11_search_69
        · have D19_7 := iNlt c19_7 t_7 rfl
          refine lv_iload hx hb dX11_search_22 (lv_at hl 4 rfl) ?_
          refine lv_if_lt (tgt := 68) hx hb dX11_search_24 (by decide) (fun c24_8 => ?_) (fun c24_8 => ?_)
          · have D24_8 := iLt c24_8 rfl t_0
            refine lv_iconst (v := -1) hx hb dX11_search_68 (by decide) ?_
            exact hret (-1) S _ _ _ _ (Or.inl ⟨by unfold srC; omega, rfl, rfl⟩) hw rfl dX11_search_69
          · have D24_8 := iNlt c24_8 rfl t_0
            refine lv_iload hx hb dX11_search_27 (lv_at hl 5 rfl) ?_
            refine lv_iload hx hb dX11_search_29 (lv_at hl 4 rfl) ?_
            refine lv_icmp_lt (tgt := 68) hx hb dX11_search_31 (by decide) (fun c31_9 => ?_) (fun c31_9 => ?_)
            · have D31_9 := iLt c31_9 rfl rfl
              refine lv_iconst (v := -1) hx hb dX11_search_68 (by decide) ?_
              exact hret (-1) S _ _ _ _ (Or.inl ⟨by unfold srC; omega, rfl, rfl⟩) hw rfl dX11_search_69
            · have D31_9 := iNlt c31_9 rfl rfl
              refine lv_iload hx hb dX11_search_34 (lv_at hl 5 rfl) ?_
              refine lv_bipush (v := 7) hx hb dX11_search_36 (by decide) ?_
              refine lv_icmp_gt (tgt := 68) hx hb dX11_search_38 (by decide) (fun c38_10 => ?_) (fun c38_10 => ?_)
              · have D38_10 := iLt c38_10 t_7 rfl
                refine lv_iconst (v := -1) hx hb dX11_search_68 (by decide) ?_
                exact hret (-1) S _ _ _ _ (Or.inl ⟨by unfold srC; omega, rfl, rfl⟩) hw rfl dX11_search_69
              · have D38_10 := iNlt c38_10 t_7 rfl
                refine lv_iload hx hb dX11_search_41 (lv_at hl 6 rfl) ?_
                refine k_Si (n := 1) X hw (c_X11_isSort l G _ a6) wd_r26_3 wd_r26_4 wd_r1_5 wd_r26_5 ⟨by decide, by decide, by decide +kernel⟩ rfl rfl ⟨Nat.le_of_ble_eq_true rfl, Nat.le_of_ble_eq_true rfl⟩ rfl rfl hl.1 (Nat.le_of_ble_eq_true rfl) dX11_search_43 ⟨Nat.le_of_ble_eq_true rfl, Nat.le_of_ble_eq_true rfl⟩ (fun r43_11 S43_13 H locs h43_12 hw => ?_)
                rcases h43_12 with ⟨rfl, rfl, h43_12⟩ | ⟨rfl, rfl, h43_12⟩
                · have h43_12 := h43_12
                  refine lv_if_eq (tgt := 68) hx hb dX11_search_46 (by decide) (fun c46_14 => absurd c46_14 (by decide)) (fun c46_14 => ?_)
                  refine lv_iload hx hb dX11_search_49 (lv_at hl 7 rfl) ?_
                  refine lv_if_lt (tgt := 68) hx hb dX11_search_51 (by decide) (fun c51_15 => ?_) (fun c51_15 => ?_)
                  · have D51_15 := iLt c51_15 rfl t_0
                    refine lv_iconst (v := -1) hx hb dX11_search_68 (by decide) ?_
                    exact hret (-1) S _ _ _ _ (Or.inl ⟨by unfold srC; omega, rfl, rfl⟩) hw rfl dX11_search_69
                  · have D51_15 := iNlt c51_15 rfl t_0
                    refine lv_iload hx hb dX11_search_54 (lv_at hl 7 rfl) ?_
                    refine lv_bipush (v := 20) hx hb dX11_search_56 (by decide) ?_
                    refine lv_icmp_gt (tgt := 68) hx hb dX11_search_58 (by decide) (fun c58_16 => ?_) (fun c58_16 => ?_)
                    · have D58_16 := iLt c58_16 t_20 rfl
                      refine lv_iconst (v := -1) hx hb dX11_search_68 (by decide) ?_
                      exact hret (-1) S _ _ _ _ (Or.inl ⟨by unfold srC; omega, rfl, rfl⟩) hw rfl dX11_search_69
                    · have D58_16 := iNlt c58_16 t_20 rfl
                      refine lv_aload_n hx hb dX11_search_61 rfl (lv_at hl 0 rfl) ?_
                      refine k_Vi (n := 0) X hw (rcvk (ci := 11) X hw hM.1 (fun _ _ _ _ _ _ _ => ⟨_, rfl⟩) rfl) (c_X11_isFull l G _ ma hM hI) wd_r33_16 wd_r33_17 wd_r33_18 wd_r1_5 wd_r33_19 ⟨by decide, by decide, by decide +kernel⟩ rfl rfl ⟨Nat.le_of_ble_eq_true rfl, Nat.le_of_ble_eq_true rfl⟩ rfl rfl hl.1 (Nat.le_of_ble_eq_true rfl) dX11_search_62 ⟨Nat.le_of_ble_eq_true rfl, Nat.le_of_ble_eq_true rfl⟩ (fun r62_17 S62_19 H locs h62_18 hw => ?_)
                      rcases h62_18 with ⟨rfl, rfl, h62_18⟩ | ⟨rfl, rfl, h62_18⟩
                      · have h62_18 := h62_18
                        refine lv_if_eq (tgt := 70) hx hb dX11_search_65 (by decide) (fun c65_20 => absurd c65_20 (by decide)) (fun c65_20 => ?_)
                        refine lv_iconst (v := -1) hx hb dX11_search_68 (by decide) ?_
                        exact hret (-1) S _ _ _ _ (Or.inl ⟨by unfold srC; omega, rfl, rfl⟩) hw rfl dX11_search_69
                      · have h62_18 := h62_18
                        refine lv_if_eq (tgt := 70) hx hb dX11_search_65 (by decide) (fun c65_21 => ?_) (fun c65_21 => absurd c65_21 (by decide))
                        refine lv_aload_n hx hb dX11_search_70 rfl (lv_at hl 0 rfl) ?_
                        refine lv_iload_n hx hb dX11_search_71 rfl (lv_at hl 1 rfl) ?_
                        refine lv_iload_n hx hb dX11_search_72 rfl (lv_at hl 2 rfl) ?_
                        refine lv_iload_n hx hb dX11_search_73 rfl (lv_at hl 3 rfl) ?_
                        refine lv_iload hx hb dX11_search_74 (lv_at hl 4 rfl) ?_
                        refine lv_iload hx hb dX11_search_76 (lv_at hl 5 rfl) ?_
                        refine lv_iload hx hb dX11_search_78 (lv_at hl 6 rfl) ?_
                        refine lv_iload hx hb dX11_search_80 (lv_at hl 7 rfl) ?_
                        refine k_Vi (n := 7) X hw (rcvk (ci := 11) X hw hM.1 (fun _ _ _ _ _ _ _ => ⟨_, rfl⟩) rfl) (c_X11_prove l G _ ma a1 a2 a3 a4 a5 a6 a7 hM hI (by omega) (by omega) (by omega) (by first | omega | decide) (by first | omega | (intro h; exact absurd h (by decide))) (by omega)) wd_r34_1 wd_r34_2 wd_r34_3 wd_r1_5 wd_r34_4 ⟨by decide, by decide, by decide +kernel⟩ rfl rfl ⟨Nat.le_of_ble_eq_true rfl, Nat.le_of_ble_eq_true rfl⟩ rfl rfl hl.1 (Nat.le_of_ble_eq_true rfl) dX11_search_82 ⟨Nat.le_of_ble_eq_true rfl, Nat.le_of_ble_eq_true rfl⟩ (fun r82_22 S82_24 H locs h82_23 hw => ?_)
                        obtain ⟨I82_25, q82_26, rfl, h82_23⟩ := h82_23
                        have hw : PX G A s.heap (ch S I82_25 (pJ S) q82_26 (qJ S)) H locs := hw
                        have HPV := h82_23
                        exact hret r82_22 (ch S I82_25 (pJ S) q82_26 (qJ S)) _ _ _ _ (Or.inr ⟨by unfold srC; omega, HPV.2.2.2.2.2, _, _, rfl, HPV.1, HPV.2.1, HPV.2.2.1, HPV.2.2.2.1, HPV.2.2.2.2.1⟩) hw rfl dX11_search_85
                · have h43_12 := h43_12
                  refine lv_if_eq (tgt := 68) hx hb dX11_search_46 (by decide) (fun c46_27 => ?_) (fun c46_27 => absurd c46_27 (by decide))
                  refine lv_iconst (v := -1) hx hb dX11_search_68 (by decide) ?_
                  exact hret (-1) S _ _ _ _ (Or.inl ⟨by unfold srC; omega, rfl, rfl⟩) hw rfl dX11_search_69
  · have h1_2 := h1_2
    refine lv_if_eq (tgt := 68) hx hb dX11_search_4 (by decide) (fun c4_28 => ?_) (fun c4_28 => absurd c4_28 (by decide))
    refine lv_iconst (v := -1) hx hb dX11_search_68 (by decide) ?_
    exact hret (-1) S _ _ _ _ (Or.inl ⟨by unfold srC; omega, rfl, rfl⟩) hw rfl dX11_search_69
set_option maxHeartbeats 4000000 in
set_option maxRecDepth 100000 in
theorem c_X11_clue (l : Launch) (G : Gh) (S : Pl) (ma : Nat → Nat) (a1 a2 a3 a4 a5 : Int32) (hM : shMod S ma) (hI : mInv (pI S) (qI S) ma) : MtI l yX11_clue cX11_clue 6 (some .int) (Rm 2 0 0) G [.ref (ma 0), .int a1, .int a2, .int a3, .int a4, .int a5] S (fun (r : Int32) (S' : Pl) => (¬ clC a1 a2 a3 a4 a5 (pI S 140 (ma 0)).toInt.toNat (cntB (qI S (ma 40)) (pI S 140 (ma 0)).toInt.toNat) ∧ r = -1 ∧ S = S') ∨ (clC a1 a2 a3 a4 a5 (pI S 140 (ma 0)).toInt.toNat (cntB (qI S (ma 40)) (pI S 140 (ma 0)).toInt.toNat) ∧ r.toInt = (pI S 140 (ma 0)).toInt ∧ ∃ I' q', ch S I' (pJ S) q' (qJ S) = S' ∧ mInv I' q' ma ∧ (I' 140 (ma 0)).toInt = (pI S 140 (ma 0)).toInt + 1 ∧ I' 102 (ma 0) = pI S 102 (ma 0) ∧ I' 128 (ma 0) = pI S 128 (ma 0) ∧ q' (ma 40) = upd (qI S (ma 40)) (pI S 140 (ma 0)).toNatClampNeg 0)) 0 0 := by
  refine MtI.of (by decide) (Nat.le_of_ble_eq_true rfl) ?_
  intro p e s m args below meth c Q A X hw hin hret ls hl
  have hx := X.1.1
  have hb := X.1.2.1
  have hl : lv_has ls 6 [(0, .ref (ma 0)), (1, .int a1), (2, .int a2), (3, .int a3), (4, .int a4), (5, .int a5)] := hl
  obtain ⟨⟨b1, b2, b3, b4, b5, b6⟩, hT, hP, hC⟩ := id hI
  unfold mC at hC
  refine lv_iload_n hx hb dX11_clue_0 rfl (lv_at hl 1 rfl) ?_
  refine k_Si (n := 1) X hw (c_X11_isMoment l G _ a1) wd_r31_0 wd_r31_1 wd_r1_5 wd_r31_2 ⟨by decide, by decide, by decide +kernel⟩ rfl rfl ⟨Nat.le_of_ble_eq_true rfl, Nat.le_of_ble_eq_true rfl⟩ rfl rfl hl.1 (Nat.le_of_ble_eq_true rfl) dX11_clue_1 ⟨Nat.le_of_ble_eq_true rfl, Nat.le_of_ble_eq_true rfl⟩ (fun r1_1 S1_3 H locs h1_2 hw => ?_)
  rcases h1_2 with ⟨rfl, rfl, h1_2⟩ | ⟨rfl, rfl, h1_2⟩
  · have h1_2 := h1_2
    refine lv_if_eq (tgt := 52) hx hb dX11_clue_4 (by decide) (fun c4_4 => absurd c4_4 (by decide)) (fun c4_4 => ?_)
    refine lv_iload_n hx hb dX11_clue_7 rfl (lv_at hl 2 rfl) ?_
    refine k_Si (n := 1) X hw (c_X11_isPoint l G _ a2) wd_r29_19 wd_r29_20 wd_r1_5 wd_r29_21 ⟨by decide, by decide, by decide +kernel⟩ rfl rfl ⟨Nat.le_of_ble_eq_true rfl, Nat.le_of_ble_eq_true rfl⟩ rfl rfl hl.1 (Nat.le_of_ble_eq_true rfl) dX11_clue_8 ⟨Nat.le_of_ble_eq_true rfl, Nat.le_of_ble_eq_true rfl⟩ (fun r8_5 S8_7 H locs h8_6 hw => ?_)
    rcases h8_6 with ⟨rfl, rfl, h8_6⟩ | ⟨rfl, rfl, h8_6⟩
    · have h8_6 := h8_6
      refine lv_if_eq (tgt := 52) hx hb dX11_clue_11 (by decide) (fun c11_8 => absurd c11_8 (by decide)) (fun c11_8 => ?_)
      refine lv_iload_n hx hb dX11_clue_14 rfl (lv_at hl 3 rfl) ?_
      refine k_Si (n := 1) X hw (c_X11_isPoint l G _ a3) wd_r29_19 wd_r29_20 wd_r1_5 wd_r29_21 ⟨by decide, by decide, by decide +kernel⟩ rfl rfl ⟨Nat.le_of_ble_eq_true rfl, Nat.le_of_ble_eq_true rfl⟩ rfl rfl hl.1 (Nat.le_of_ble_eq_true rfl) dX11_clue_15 ⟨Nat.le_of_ble_eq_true rfl, Nat.le_of_ble_eq_true rfl⟩ (fun r15_9 S15_11 H locs h15_10 hw => ?_)
      rcases h15_10 with ⟨rfl, rfl, h15_10⟩ | ⟨rfl, rfl, h15_10⟩
      · have h15_10 := h15_10
        refine lv_if_eq (tgt := 52) hx hb dX11_clue_18 (by decide) (fun c18_12 => absurd c18_12 (by decide)) (fun c18_12 => ?_)
        refine lv_iload hx hb dX11_clue_21 (lv_at hl 4 rfl) ?_
        refine lv_if_lt (tgt := 52) hx hb dX11_clue_23 (by decide) (fun c23_13 => ?_) (fun c23_13 => ?_)
        · have D23_13 := iLt c23_13 rfl t_0
          refine lv_iconst (v := -1) hx hb dX11_clue_52 (by decide) ?_
          exact hret (-1) S _ _ _ _ (Or.inl ⟨by unfold clC; omega, rfl, rfl⟩) hw rfl dX11_clue_53
        · have D23_13 := iNlt c23_13 rfl t_0
          refine lv_iload hx hb dX11_clue_26 (lv_at hl 4 rfl) ?_
          refine lv_bipush (v := 80) hx hb dX11_clue_28 (by decide) ?_
          refine lv_icmp_gt (tgt := 52) hx hb dX11_clue_30 (by decide) (fun c30_14 => ?_) (fun c30_14 => ?_)
          · have D30_14 := iLt c30_14 t_80 rfl
            refine lv_iconst (v := -1) hx hb dX11_clue_52 (by decide) ?_
            exact hret (-1) S _ _ _ _ (Or.inl ⟨by unfold clC; omega, rfl, rfl⟩) hw rfl dX11_clue_53
          · have D30_14 := iNlt c30_14 t_80 rfl
            refine lv_iload hx hb dX11_clue_33 (lv_at hl 5 rfl) ?_
            refine lv_if_lt (tgt := 52) hx hb dX11_clue_35 (by decide) (fun c35_15 => ?_) (fun c35_15 => ?_)
            · have D35_15 := iLt c35_15 rfl t_0
              refine lv_iconst (v := -1) hx hb dX11_clue_52 (by decide) ?_
              exact hret (-1) S _ _ _ _ (Or.inl ⟨by unfold clC; omega, rfl, rfl⟩) hw rfl dX11_clue_53
            · have D35_15 := iNlt c35_15 rfl t_0
              refine lv_iload hx hb dX11_clue_38 (lv_at hl 5 rfl) ?_
              refine lv_bipush (v := 100) hx hb dX11_clue_40 (by decide) ?_
              refine lv_icmp_gt (tgt := 52) hx hb dX11_clue_42 (by decide) (fun c42_16 => ?_) (fun c42_16 => ?_)
              · have D42_16 := iLt c42_16 t_100 rfl
                refine lv_iconst (v := -1) hx hb dX11_clue_52 (by decide) ?_
                exact hret (-1) S _ _ _ _ (Or.inl ⟨by unfold clC; omega, rfl, rfl⟩) hw rfl dX11_clue_53
              · have D42_16 := iNlt c42_16 t_100 rfl
                refine lv_aload_n hx hb dX11_clue_45 rfl (lv_at hl 0 rfl) ?_
                refine k_Vi (n := 0) X hw (rcvk (ci := 11) X hw hM.1 (fun _ _ _ _ _ _ _ => ⟨_, rfl⟩) rfl) (c_X11_isFull l G _ ma hM hI) wd_r33_16 wd_r33_17 wd_r33_18 wd_r1_5 wd_r33_19 ⟨by decide, by decide, by decide +kernel⟩ rfl rfl ⟨Nat.le_of_ble_eq_true rfl, Nat.le_of_ble_eq_true rfl⟩ rfl rfl hl.1 (Nat.le_of_ble_eq_true rfl) dX11_clue_46 ⟨Nat.le_of_ble_eq_true rfl, Nat.le_of_ble_eq_true rfl⟩ (fun r46_17 S46_19 H locs h46_18 hw => ?_)
                rcases h46_18 with ⟨rfl, rfl, h46_18⟩ | ⟨rfl, rfl, h46_18⟩
                · have h46_18 := h46_18
                  refine lv_if_eq (tgt := 54) hx hb dX11_clue_49 (by decide) (fun c49_20 => absurd c49_20 (by decide)) (fun c49_20 => ?_)
                  refine lv_iconst (v := -1) hx hb dX11_clue_52 (by decide) ?_
                  exact hret (-1) S _ _ _ _ (Or.inl ⟨by unfold clC; omega, rfl, rfl⟩) hw rfl dX11_clue_53
                · have h46_18 := h46_18
                  refine lv_if_eq (tgt := 54) hx hb dX11_clue_49 (by decide) (fun c49_21 => ?_) (fun c49_21 => absurd c49_21 (by decide))
                  refine lv_aload_n hx hb dX11_clue_54 rfl (lv_at hl 0 rfl) ?_
                  refine lv_iload_n hx hb dX11_clue_55 rfl (lv_at hl 1 rfl) ?_
                  refine lv_iload_n hx hb dX11_clue_56 rfl (lv_at hl 2 rfl) ?_
                  refine lv_iload_n hx hb dX11_clue_57 rfl (lv_at hl 3 rfl) ?_
                  refine lv_iload hx hb dX11_clue_58 (lv_at hl 4 rfl) ?_
                  refine lv_iconst (v := 0) hx hb dX11_clue_60 (by decide) ?_
                  refine lv_iconst (v := 2) hx hb dX11_clue_61 (by decide) ?_
                  refine lv_iload hx hb dX11_clue_62 (lv_at hl 5 rfl) ?_
                  refine k_Vi (n := 7) X hw (rcvk (ci := 11) X hw hM.1 (fun _ _ _ _ _ _ _ => ⟨_, rfl⟩) rfl) (c_X11_prove l G _ ma a1 a2 a3 a4 0 2 a5 hM hI (by omega) (by omega) (by omega) (by first | omega | decide) (by first | omega | (intro h; exact absurd h (by decide))) (by omega)) wd_r34_1 wd_r34_2 wd_r34_3 wd_r1_5 wd_r34_4 ⟨by decide, by decide, by decide +kernel⟩ rfl rfl ⟨Nat.le_of_ble_eq_true rfl, Nat.le_of_ble_eq_true rfl⟩ rfl rfl hl.1 (Nat.le_of_ble_eq_true rfl) dX11_clue_64 ⟨Nat.le_of_ble_eq_true rfl, Nat.le_of_ble_eq_true rfl⟩ (fun r64_22 S64_24 H locs h64_23 hw => ?_)
                  have := t_0
                  have := t_2
                  obtain ⟨I64_25, q64_26, rfl, h64_23⟩ := h64_23
                  have hw : PX G A s.heap (ch S I64_25 (pJ S) q64_26 (qJ S)) H locs := hw
                  have HPV := h64_23
                  exact hret r64_22 (ch S I64_25 (pJ S) q64_26 (qJ S)) _ _ _ _ (Or.inr ⟨by unfold clC; omega, HPV.2.2.2.2.2, _, _, rfl, HPV.1, HPV.2.1, HPV.2.2.1, HPV.2.2.2.1, HPV.2.2.2.2.1⟩) hw rfl dX11_clue_67
      · have h15_10 := h15_10
        refine lv_if_eq (tgt := 52) hx hb dX11_clue_18 (by decide) (fun c18_27 => ?_) (fun c18_27 => absurd c18_27 (by decide))
        refine lv_iconst (v := -1) hx hb dX11_clue_52 (by decide) ?_
        exact hret (-1) S _ _ _ _ (Or.inl ⟨by unfold clC; omega, rfl, rfl⟩) hw rfl dX11_clue_53
    · have h8_6 := h8_6
      refine lv_if_eq (tgt := 52) hx hb dX11_clue_11 (by decide) (fun c11_28 => ?_) (fun c11_28 => absurd c11_28 (by decide))
      refine lv_iconst (v := -1) hx hb dX11_clue_52 (by decide) ?_
      exact hret (-1) S _ _ _ _ (Or.inl ⟨by unfold clC; omega, rfl, rfl⟩) hw rfl dX11_clue_53
  · have h1_2 := h1_2
    refine lv_if_eq (tgt := 52) hx hb dX11_clue_4 (by decide) (fun c4_29 => ?_) (fun c4_29 => absurd c4_29 (by decide))
    refine lv_iconst (v := -1) hx hb dX11_clue_52 (by decide) ?_
    exact hret (-1) S _ _ _ _ (Or.inl ⟨by unfold clC; omega, rfl, rfl⟩) hw rfl dX11_clue_53
set_option maxHeartbeats 4000000 in
set_option maxRecDepth 100000 in
theorem c_X11_back (l : Launch) (G : Gh) (S : Pl) (ma : Nat → Nat) (x : Int32) (hM : shMod S ma) (hI : mInv (pI S) (qI S) ma) : MtI l yX11_back cX11_back 2 (some .boolean) (Rm 0 0 0) G [.ref (ma 0), .int x] S (fun (r : Int32) (S' : Pl) => (r = 1 ∧ (0 ≤ x.toInt ∧ x.toInt < (pI S 140 (ma 0)).toInt ∧ (qI S (ma 40) x.toNatClampNeg).toInt = 0) ∧ ∃ q', ch S (pI S) (pJ S) q' (qJ S) = S' ∧ mInv (pI S) q' ma ∧ q' (ma 40) = upd (qI S (ma 40)) x.toNatClampNeg 1) ∨ (r = 0 ∧ ¬ (0 ≤ x.toInt ∧ x.toInt < (pI S 140 (ma 0)).toInt ∧ (qI S (ma 40) x.toNatClampNeg).toInt = 0) ∧ S = S')) 0 0 := by
  refine MtI.of (by decide) (Nat.le_of_ble_eq_true rfl) ?_
  intro p e s m args below meth c Q A X hw hin hret ls hl
  have hx := X.1.1
  have hb := X.1.2.1
  have hl : lv_has ls 2 [(0, .ref (ma 0)), (1, .int x)] := hl
  obtain ⟨⟨b1, b2, b3, b4, b5, b6⟩, hT, hP, hC⟩ := id hI
  refine lv_iload_n hx hb dX11_back_0 rfl (lv_at hl 1 rfl) ?_
  refine lv_if_lt (tgt := 21) hx hb dX11_back_1 (by decide) (fun c1_1 => ?_) (fun c1_1 => ?_)
  · have D1_1 := iLt c1_1 rfl t_0
    refine lv_iconst (v := 0) hx hb dX11_back_21 (by decide) ?_
    exact hret 0 S _ _ _ _ (Or.inr ⟨rfl, by have := t_0; omega, rfl⟩) hw rfl dX11_back_22
  · have D1_1 := iNlt c1_1 rfl t_0
    refine lv_iload_n hx hb dX11_back_4 rfl (lv_at hl 1 rfl) ?_
    refine lv_aload_n hx hb dX11_back_5 rfl (lv_at hl 0 rfl) ?_
    refine gf_X11_252 (v := (pI S) 140 (ma 0)) X hw hM.1 rfl dX11_back_6 ?_
    refine lv_icmp_ge (tgt := 21) hx hb dX11_back_9 (by decide) (fun c9_2 => ?_) (fun c9_2 => ?_)
    · have D9_2 := iLe c9_2 rfl rfl
      refine lv_iconst (v := 0) hx hb dX11_back_21 (by decide) ?_
      exact hret 0 S _ _ _ _ (Or.inr ⟨rfl, by have := t_0; omega, rfl⟩) hw rfl dX11_back_22
    · have D9_2 := iNle c9_2 rfl rfl
      refine lv_aload_n hx hb dX11_back_12 rfl (lv_at hl 0 rfl) ?_
      refine gf_X11_126 (b := (ma 40)) X hw hM.1 (mr_40 hM) dX11_back_13 ?_
      refine lv_iload_n hx hb dX11_back_16 rfl (lv_at hl 1 rfl) ?_
      refine q_ldZ X hw (mk_40 hM) (vin (mn_40 hM) (by omega) (by omega)) dX11_back_17 ?_
      refine lv_topi (fun v17_3 e17_3 => ?_)
      have e17_3 : v17_3 = (qI S) (ma 40) x.toNatClampNeg := e17_3
      have g17 := congrArg Int32.toInt e17_3
      refine lv_if_eq (tgt := 23) hx hb dX11_back_18 (by decide) (fun c18_4 => ?_) (fun c18_4 => ?_)
      · have D18_4 := iEq c18_4 rfl t_0
        refine lv_aload_n hx hb dX11_back_23 rfl (lv_at hl 0 rfl) ?_
        refine gf_X11_126 (b := (ma 40)) X hw hM.1 (mr_40 hM) dX11_back_24 ?_
        refine lv_iload_n hx hb dX11_back_27 rfl (lv_at hl 1 rfl) ?_
        refine lv_iconst (v := 1) hx hb dX11_back_28 (by decide) ?_
        refine q_stZ X hw (mk_40 hM) (vin (mn_40 hM) (by omega) (by omega)) dX11_back_29 (fun H locs hw => ?_)
        obtain ⟨q29_5, eq29_5, hw⟩ : ∃ zz9, zz9 = va_up (qI S) (ma 40) (upd ((qI S) (ma 40)) x.toNatClampNeg (vp_nar .boolean 1)) ∧ PX G A s.heap (ch S (pI S) (pJ S) zz9 (qJ S)) H locs := ⟨_, rfl, hw⟩
        have c29 := eq29_5
        refine lv_iconst (v := 1) hx hb dX11_back_30 (by decide) ?_
        exact hret 1 (ch S (pI S) (pJ S) q29_5 (qJ S)) _ _ _ _ (Or.inl ⟨rfl, by have := t_0; omega, _, rfl, mInv_back hM hI c29, by rw [c29, vu_s]; rfl⟩) hw rfl dX11_back_31
      · have D18_4 := iNe c18_4 rfl t_0
        refine lv_iconst (v := 0) hx hb dX11_back_21 (by decide) ?_
        exact hret 0 S _ _ _ _ (Or.inr ⟨rfl, by have := t_0; omega, rfl⟩) hw rfl dX11_back_22
set_option maxHeartbeats 4000000 in
set_option maxRecDepth 100000 in
theorem c_X11_about (l : Launch) (G : Gh) (S : Pl) (ma : Nat → Nat) (x : Int32) (hM : shMod S ma) (hI : mInv (pI S) (qI S) ma) : MtI l yX11_about cX11_about 2 (some .int) (Rm 1 0 0) G [.ref (ma 0), .int x] S (fun (r : Int32) (S' : Pl) => S = S' ∧ True) 0 0 := by
  refine MtI.of (by decide) (Nat.le_of_ble_eq_true rfl) ?_
  intro p e s m args below meth c Q A X hw hin hret ls hl
  have hx := X.1.1
  have hb := X.1.2.1
  have hl : lv_has ls 2 [(0, .ref (ma 0)), (1, .int x)] := hl
  obtain ⟨⟨b1, b2, b3, b4, b5, b6⟩, hT, hP, hC⟩ := id hI
  refine lv_iload_n hx hb dX11_about_0 rfl (lv_at hl 1 rfl) ?_
  by_cases k1_1 : x = 0
  · refine lv_tableIn (tgt := 36) hx hb dX11_about_1 (by rw [k1_1]; decide) (by rw [k1_1]; decide) (by rw [k1_1]; rfl) (by decide) ?_
    refine lv_aload_n hx hb dX11_about_36 rfl (lv_at hl 0 rfl) ?_
    refine gf_X11_61 (b := (ma 12)) X hw hM.1 (mr_12 hM) dX11_about_37 ?_
    refine lv_aload_n hx hb dX11_about_40 rfl (lv_at hl 0 rfl) ?_
    refine gf_X11_146 (v := (pI S) 120 (ma 0)) X hw hM.1 rfl dX11_about_41 ?_
    refine q_ldI X hw (mk_12 hM) (vin (mn_12 hM) (by omega) (by omega)) dX11_about_44 ?_
    refine lv_topi (fun v44_2 e44_2 => ?_)
    have e44_2 : v44_2 = (qI S) (ma 12) (((pI S) 120 (ma 0)).toNatClampNeg) := e44_2
    exact hret v44_2 _ _ _ _ _ ⟨rfl, trivial⟩ hw rfl dX11_about_45
  have D1_1 := iNe k1_1 rfl t_0
  by_cases k1_3 : x = 1
  · refine lv_tableIn (tgt := 46) hx hb dX11_about_1 (by rw [k1_3]; decide) (by rw [k1_3]; decide) (by rw [k1_3]; rfl) (by decide) ?_
    refine lv_aload_n hx hb dX11_about_46 rfl (lv_at hl 0 rfl) ?_
    refine gf_X11_224 (v := (pI S) 128 (ma 0)) X hw hM.1 rfl dX11_about_47 ?_
    exact hret ((pI S) 128 (ma 0)) _ _ _ _ _ ⟨rfl, trivial⟩ hw rfl dX11_about_50
  have D1_3 := iNe k1_3 rfl t_1
  by_cases k1_4 : x = 2
  · refine lv_tableIn (tgt := 51) hx hb dX11_about_1 (by rw [k1_4]; decide) (by rw [k1_4]; decide) (by rw [k1_4]; rfl) (by decide) ?_
    refine lv_aload_n hx hb dX11_about_51 rfl (lv_at hl 0 rfl) ?_
    refine gf_X11_252 (v := (pI S) 140 (ma 0)) X hw hM.1 rfl dX11_about_52 ?_
    exact hret ((pI S) 140 (ma 0)) _ _ _ _ _ ⟨rfl, trivial⟩ hw rfl dX11_about_55
  have D1_4 := iNe k1_4 rfl t_2
  by_cases k1_5 : x = 3
  · refine lv_tableIn (tgt := 56) hx hb dX11_about_1 (by rw [k1_5]; decide) (by rw [k1_5]; decide) (by rw [k1_5]; rfl) (by decide) ?_
    refine lv_aload_n hx hb dX11_about_56 rfl (lv_at hl 0 rfl) ?_
    refine k_Vi (n := 0) X hw (rcvk (ci := 11) X hw hM.1 (fun _ _ _ _ _ _ _ => ⟨_, rfl⟩) rfl) (c_X11_standing l G _ ma hM hI) wd_r33_21 wd_r33_22 wd_r33_23 wd_r1_5 wd_r34_0 ⟨by decide, by decide, by decide +kernel⟩ rfl rfl ⟨Nat.le_of_ble_eq_true rfl, Nat.le_of_ble_eq_true rfl⟩ rfl rfl hl.1 (Nat.le_of_ble_eq_true rfl) dX11_about_57 ⟨Nat.le_of_ble_eq_true rfl, Nat.le_of_ble_eq_true rfl⟩ (fun r57_6 S57_8 H locs h57_7 hw => ?_)
    obtain ⟨rfl, h57_7⟩ := h57_7
    exact hret r57_6 _ _ _ _ _ ⟨rfl, trivial⟩ hw rfl dX11_about_60
  have D1_5 := iNe k1_5 rfl t_3
  by_cases k1_9 : x = 4
  · refine lv_tableIn (tgt := 61) hx hb dX11_about_1 (by rw [k1_9]; decide) (by rw [k1_9]; decide) (by rw [k1_9]; rfl) (by decide) ?_
    refine lv_aload_n hx hb dX11_about_61 rfl (lv_at hl 0 rfl) ?_
    refine gf_X11_143 (v := (pI S) 102 (ma 0)) X hw hM.1 rfl dX11_about_62 ?_
    exact hret ((pI S) 102 (ma 0)) _ _ _ _ _ ⟨rfl, trivial⟩ hw rfl dX11_about_65
  have D1_9 := iNe k1_9 rfl t_4
  refine lv_tableOut (tgt := 66) hx hb dX11_about_1 (by omega) (by decide) ?_
  refine lv_iconst (v := -1) hx hb dX11_about_66 (by decide) ?_
  exact hret (-1) _ _ _ _ _ ⟨rfl, trivial⟩ hw rfl dX11_about_67
set_option maxHeartbeats 4000000 in
set_option maxRecDepth 100000 in
theorem c_X11_feed (l : Launch) (G : Gh) (S : Pl) (ma : Nat → Nat) (a1 a2 a3 a4 a5 : Int32) (hM : shMod S ma) (hI : mInv (pI S) (qI S) ma) : MtI l yX11_feed cX11_feed 8 (some .int) (Rm 0 0 0) G [.ref (ma 0), .int a1, .int a2, .int a3, .int a4, .int a5] S (fun (r : Int32) (S' : Pl) => ∃ I' q', ch S I' (pJ S) q' (qJ S) = S' ∧ mInv I' q' ma ∧ (I' 102 (ma 0)).toInt = fdN (pI S 102 (ma 0)).toInt ∧ I' 128 (ma 0) = pI S 128 (ma 0) ∧ I' 140 (ma 0) = pI S 140 (ma 0) ∧ q' (ma 40) = qI S (ma 40) ∧ r.toInt = fdR (pI S 102 (ma 0)).toInt) 0 0 := by
  refine MtI.of (by decide) (Nat.le_of_ble_eq_true rfl) ?_
  intro p e s m args below meth c Q A X hw hin hret ls hl
  have hx := X.1.1
  have hb := X.1.2.1
  have hl : lv_has ls 8 [(0, .ref (ma 0)), (1, .int a1), (2, .int a2), (3, .int a3), (4, .int a4), (5, .int a5)] := hl
  obtain ⟨⟨b1, b2, b3, b4, b5, b6⟩, hT, hP, hC⟩ := id hI
  refine lv_aload_n hx hb dX11_feed_0 rfl (lv_at hl 0 rfl) ?_
  refine gf_X11_143 (v := (pI S) 102 (ma 0)) X hw hM.1 rfl dX11_feed_1 ?_
  refine lv_bipush (v := 20) hx hb dX11_feed_4 (by decide) ?_
  refine lv_iadd hx hb dX11_feed_6 ?_
  refine lv_topi (fun v6_1 e6_1 => ?_)
  have t6_1 := iAdd e6_1 rfl t_20 (by omega) (by omega)
  have t6 := t6_1
  refine lv_sipush (v := 1000) hx hb dX11_feed_7 (by decide) ?_
  refine lv_icmp_le (tgt := 15) hx hb dX11_feed_10 (by decide) (fun c10_2 => ?_) (fun c10_2 => ?_)
  · have D10_2 := iLe c10_2 rfl t_1000
    refine lv_iconst (v := 0) hx hb dX11_feed_15 (by decide) ?_
    refine lv_istore (lv' := [(6, .int 0), (0, .ref (ma 0)), (1, .int a1), (2, .int a2), (3, .int a3), (4, .int a4), (5, .int a5)]) hx hb dX11_feed_16 hl (by decide) rfl (fun ls hl => ?_)
    have lp18 : ∀ (N9 : Nat) (q18 : Nat → Nat → Int32) (k : Int32), (FrQ 1 ma (qI S) q18) → (0 ≤ k.toInt ∧ k.toInt ≤ 20) → (q18 (ma 18) = qI S (ma 18)) → (20 - k.toInt).toNat < N9 → ∀ (H : Heap) (locs : List Loc) (ls : Array Slot), PX G A s.heap (ch S (pI S) (pJ S) q18 (qJ S)) H locs → lv_has ls 8 [(6, .int k), (0, .ref (ma 0)), (1, .int a1), (2, .int a2), (3, .int a3), (4, .int a4), (5, .int a5)] → W p l e (Rm 0 0 0) s m args below meth c H locs 0 0 Q (F0 m 18 ls []) := by
      intro N9
      induction N9 with
      | zero => intro q18 k hY hk h18 hm; exact absurd hm (Nat.not_lt_zero _)
      | succ N9 ih18 =>
        intro q18 k hY hk h18 hm H locs ls hw hl
        refine lv_iload hx hb dX11_feed_18 (lv_at hl 0 rfl) ?_
        refine lv_bipush (v := 20) hx hb dX11_feed_20 (by decide) ?_
        refine lv_icmp_ge (tgt := 105) hx hb dX11_feed_22 (by decide) (fun c22_3 => ?_) (fun c22_3 => ?_)
        · have D22_3 := iLe c22_3 t_20 rfl
          refine lv_aload_n hx hb dX11_feed_105 rfl (lv_at hl 1 rfl) ?_
          refine lv_dup hx hb dX11_feed_106 rfl ?_
          refine gf_X11_143 (v := (pI S) 102 (ma 0)) X hw hM.1 rfl dX11_feed_107 ?_
          refine lv_bipush (v := 20) hx hb dX11_feed_110 (by decide) ?_
          refine lv_iadd hx hb dX11_feed_112 ?_
          refine lv_topi (fun v112_4 e112_4 => ?_)
          have t112_4 := iAdd e112_4 rfl t_20 (by omega) (by omega)
          have t112 := t112_4
          refine pf_X11_143 X hw hM.1 dX11_feed_113 (fun H locs hw => ?_)
          have hw : PX G A s.heap (ch S (up2 (pI S) 102 (ma 0) v112_4) (pJ S) q18 (qJ S)) H locs := hw
          refine lv_aload_n hx hb dX11_feed_116 rfl (lv_at hl 1 rfl) ?_
          refine gf_X11_143 (v := v112_4) X hw hM.1 (show up2 (pI S) 102 (ma 0) v112_4 102 (ma 0) = v112_4 from up2_s) dX11_feed_117 ?_
          exact hret v112_4 _ _ _ _ _ ⟨_, _, rfl, mInv_w hM hI (FrW.up (f := 102) (by decide) FrW.rf) hY (by rw [show (up2 (pI S) 102 (ma 0) v112_4) 102 (ma 0) = (v112_4 : Int32) from (show up2 (pI S) 102 (ma 0) v112_4 102 (ma 0) = v112_4 from up2_s)]; omega) b2 b3 b4 (by rw [h18]; exact hC.2), (by rw [show (up2 (pI S) 102 (ma 0) v112_4) 102 (ma 0) = (v112_4 : Int32) from (show up2 (pI S) 102 (ma 0) v112_4 102 (ma 0) = v112_4 from up2_s)]; unfold fdN; rw [if_pos (by omega)]; omega), congrFun ((FrW.up (f := 102) (by decide) FrW.rf) 128 (by decide)) (ma 0), congrFun ((FrW.up (f := 102) (by decide) FrW.rf) 140 (by decide)) (ma 0), FrQ.at hM hY (by decide) (by decide), by unfold fdR; rw [if_pos (by omega)]; omega⟩ hw rfl dX11_feed_120
        · have D22_3 := iNle c22_3 t_20 rfl
          refine lv_iload hx hb dX11_feed_25 (lv_at hl 0 rfl) ?_
          refine lv_iconst (v := 4) hx hb dX11_feed_27 (by decide) ?_
          refine lv_icmp_ge (tgt := 35) hx hb dX11_feed_28 (by decide) (fun c28_5 => ?_) (fun c28_5 => ?_)
          · have D28_5 := iLe c28_5 t_4 rfl
            refine lv_iload hx hb dX11_feed_35 (lv_at hl 0 rfl) ?_
            refine lv_bipush (v := 8) hx hb dX11_feed_37 (by decide) ?_
            refine lv_icmp_ge (tgt := 46) hx hb dX11_feed_39 (by decide) (fun c39_6 => ?_) (fun c39_6 => ?_)
            · have D39_6 := iLe c39_6 t_8 rfl
              refine lv_iload hx hb dX11_feed_46 (lv_at hl 0 rfl) ?_
              refine lv_bipush (v := 12) hx hb dX11_feed_48 (by decide) ?_
              refine lv_icmp_ge (tgt := 57) hx hb dX11_feed_50 (by decide) (fun c50_7 => ?_) (fun c50_7 => ?_)
              · have D50_7 := iLe c50_7 t_12 rfl
                refine lv_iload hx hb dX11_feed_57 (lv_at hl 0 rfl) ?_
                refine lv_bipush (v := 16) hx hb dX11_feed_59 (by decide) ?_
                refine lv_icmp_ge (tgt := 69) hx hb dX11_feed_61 (by decide) (fun c61_8 => ?_) (fun c61_8 => ?_)
                · have D61_8 := iLe c61_8 t_16 rfl
                  refine lv_iload hx hb dX11_feed_69 (lv_at hl 6 rfl) ?_
                  refine lv_istore (lv' := [(7, .int a5), (6, .int k), (0, .ref (ma 0)), (1, .int a1), (2, .int a2), (3, .int a3), (4, .int a4), (5, .int a5)]) hx hb dX11_feed_71 hl (by decide) rfl (fun ls hl => ?_)
                  refine lv_aload_n hx hb dX11_feed_73 rfl (lv_at hl 2 rfl) ?_
                  refine gf_X11_58 (b := (ma 1)) X hw hM.1 (mr_1 hM) dX11_feed_74 ?_
                  refine lv_aload_n hx hb dX11_feed_77 rfl (lv_at hl 2 rfl) ?_
                  refine gf_X11_143 (v := (pI S) 102 (ma 0)) X hw hM.1 rfl dX11_feed_78 ?_
                  refine lv_iload hx hb dX11_feed_81 (lv_at hl 1 rfl) ?_
                  refine lv_iadd hx hb dX11_feed_83 ?_
                  refine lv_topi (fun v83_9 e83_9 => ?_)
                  have t83_9 := iAdd e83_9 rfl rfl (by omega) (by omega)
                  have t83 := t83_9
                  refine lv_iload hx hb dX11_feed_84 (lv_at hl 0 rfl) ?_
                  refine lv_bipush (v := 24) hx hb dX11_feed_86 (by decide) ?_
                  refine lv_bipush (v := 8) hx hb dX11_feed_88 (by decide) ?_
                  refine lv_iload hx hb dX11_feed_90 (lv_at hl 1 rfl) ?_
                  refine lv_iconst (v := 3) hx hb dX11_feed_92 (by decide) ?_
                  refine lv_iand hx hb dX11_feed_93 ?_
                  refine lv_topi (fun v93_10 e93_10 => ?_)
                  refine lv_imul hx hb dX11_feed_94 ?_
                  refine lv_topi (fun v94_11 e94_11 => ?_)
                  refine lv_isub hx hb dX11_feed_95 ?_
                  refine lv_topi (fun v95_12 e95_12 => ?_)
                  refine lv_ishr hx hb dX11_feed_96 ?_
                  refine lv_topi (fun v96_13 e96_13 => ?_)
                  refine lv_i2b hx hb dX11_feed_97 rfl ?_
                  refine lv_topi (fun v97_14 e97_14 => ?_)
                  refine q_stB X hw (mk_1 hM) (vin (mn_1 hM) (by omega) (by omega)) dX11_feed_98 (fun H locs hw => ?_)
                  obtain ⟨q98_15, eq98_15, hw⟩ : ∃ zz9, zz9 = va_up q18 (ma 1) (upd (q18 (ma 1)) v83_9.toNatClampNeg (vp_nar .byte v97_14)) ∧ PX G A s.heap (ch S (pI S) (pJ S) zz9 (qJ S)) H locs := ⟨_, rfl, hw⟩
                  have c98 := eq98_15
                  obtain ⟨v99_16, e99_16⟩ : ∃ y : Int32, y = k + 1 := ⟨_, rfl⟩
                  have t99_16 := iAdd e99_16 rfl t_1 (by omega) (by omega)
                  have t99 := t99_16
                  refine lv_iinc (v := v99_16) (lv' := [(6, .int v99_16), (7, .int a5), (0, .ref (ma 0)), (1, .int a1), (2, .int a2), (3, .int a3), (4, .int a4), (5, .int a5)]) hx hb dX11_feed_99 hl (k := 1) rfl (by rw [e99_16]; rfl) (by decide) rfl (fun ls hl => ?_)
                  refine lv_goto (tgt := 18) hx hb dX11_feed_102 (by decide) ?_
                  exact ih18 q98_15 v99_16 (FrQ.ez eq98_15 (FrQ.up (j := 1) (by decide) (by decide) hY)) (by omega) (by rw [row_keep hM c98 (i := 18) (by decide) (by decide) (by decide)]; exact h18) (by omega) _ _ _ hw (lv_sub hl [0, 2, 3, 4, 5, 6, 7] rfl)
                · have D61_8 := iNle c61_8 t_16 rfl
                  refine lv_iload hx hb dX11_feed_64 (lv_at hl 5 rfl) ?_
                  refine lv_goto (tgt := 71) hx hb dX11_feed_66 (by decide) ?_
                  refine lv_istore (lv' := [(7, .int a4), (6, .int k), (0, .ref (ma 0)), (1, .int a1), (2, .int a2), (3, .int a3), (4, .int a4), (5, .int a5)]) hx hb dX11_feed_71 hl (by decide) rfl (fun ls hl => ?_)
                  refine lv_aload_n hx hb dX11_feed_73 rfl (lv_at hl 2 rfl) ?_
                  refine gf_X11_58 (b := (ma 1)) X hw hM.1 (mr_1 hM) dX11_feed_74 ?_
                  refine lv_aload_n hx hb dX11_feed_77 rfl (lv_at hl 2 rfl) ?_
                  refine gf_X11_143 (v := (pI S) 102 (ma 0)) X hw hM.1 rfl dX11_feed_78 ?_
                  refine lv_iload hx hb dX11_feed_81 (lv_at hl 1 rfl) ?_
                  refine lv_iadd hx hb dX11_feed_83 ?_
                  refine lv_topi (fun v83_17 e83_17 => ?_)
                  have t83_17 := iAdd e83_17 rfl rfl (by omega) (by omega)
                  have t83 := t83_17
                  refine lv_iload hx hb dX11_feed_84 (lv_at hl 0 rfl) ?_
                  refine lv_bipush (v := 24) hx hb dX11_feed_86 (by decide) ?_
                  refine lv_bipush (v := 8) hx hb dX11_feed_88 (by decide) ?_
                  refine lv_iload hx hb dX11_feed_90 (lv_at hl 1 rfl) ?_
                  refine lv_iconst (v := 3) hx hb dX11_feed_92 (by decide) ?_
                  refine lv_iand hx hb dX11_feed_93 ?_
                  refine lv_topi (fun v93_18 e93_18 => ?_)
                  refine lv_imul hx hb dX11_feed_94 ?_
                  refine lv_topi (fun v94_19 e94_19 => ?_)
                  refine lv_isub hx hb dX11_feed_95 ?_
                  refine lv_topi (fun v95_20 e95_20 => ?_)
                  refine lv_ishr hx hb dX11_feed_96 ?_
                  refine lv_topi (fun v96_21 e96_21 => ?_)
                  refine lv_i2b hx hb dX11_feed_97 rfl ?_
                  refine lv_topi (fun v97_22 e97_22 => ?_)
                  refine q_stB X hw (mk_1 hM) (vin (mn_1 hM) (by omega) (by omega)) dX11_feed_98 (fun H locs hw => ?_)
                  obtain ⟨q98_23, eq98_23, hw⟩ : ∃ zz9, zz9 = va_up q18 (ma 1) (upd (q18 (ma 1)) v83_17.toNatClampNeg (vp_nar .byte v97_22)) ∧ PX G A s.heap (ch S (pI S) (pJ S) zz9 (qJ S)) H locs := ⟨_, rfl, hw⟩
                  have c98 := eq98_23
                  obtain ⟨v99_24, e99_24⟩ : ∃ y : Int32, y = k + 1 := ⟨_, rfl⟩
                  have t99_24 := iAdd e99_24 rfl t_1 (by omega) (by omega)
                  have t99 := t99_24
                  refine lv_iinc (v := v99_24) (lv' := [(6, .int v99_24), (7, .int a4), (0, .ref (ma 0)), (1, .int a1), (2, .int a2), (3, .int a3), (4, .int a4), (5, .int a5)]) hx hb dX11_feed_99 hl (k := 1) rfl (by rw [e99_24]; rfl) (by decide) rfl (fun ls hl => ?_)
                  refine lv_goto (tgt := 18) hx hb dX11_feed_102 (by decide) ?_
                  exact ih18 q98_23 v99_24 (FrQ.ez eq98_23 (FrQ.up (j := 1) (by decide) (by decide) hY)) (by omega) (by rw [row_keep hM c98 (i := 18) (by decide) (by decide) (by decide)]; exact h18) (by omega) _ _ _ hw (lv_sub hl [0, 2, 3, 4, 5, 6, 7] rfl)
              · have D50_7 := iNle c50_7 t_12 rfl
                refine lv_iload_n hx hb dX11_feed_53 rfl (lv_at hl 4 rfl) ?_
                refine lv_goto (tgt := 71) hx hb dX11_feed_54 (by decide) ?_
                refine lv_istore (lv' := [(7, .int a3), (6, .int k), (0, .ref (ma 0)), (1, .int a1), (2, .int a2), (3, .int a3), (4, .int a4), (5, .int a5)]) hx hb dX11_feed_71 hl (by decide) rfl (fun ls hl => ?_)
                refine lv_aload_n hx hb dX11_feed_73 rfl (lv_at hl 2 rfl) ?_
                refine gf_X11_58 (b := (ma 1)) X hw hM.1 (mr_1 hM) dX11_feed_74 ?_
                refine lv_aload_n hx hb dX11_feed_77 rfl (lv_at hl 2 rfl) ?_
                refine gf_X11_143 (v := (pI S) 102 (ma 0)) X hw hM.1 rfl dX11_feed_78 ?_
                refine lv_iload hx hb dX11_feed_81 (lv_at hl 1 rfl) ?_
                refine lv_iadd hx hb dX11_feed_83 ?_
                refine lv_topi (fun v83_25 e83_25 => ?_)
                have t83_25 := iAdd e83_25 rfl rfl (by omega) (by omega)
                have t83 := t83_25
                refine lv_iload hx hb dX11_feed_84 (lv_at hl 0 rfl) ?_
                refine lv_bipush (v := 24) hx hb dX11_feed_86 (by decide) ?_
                refine lv_bipush (v := 8) hx hb dX11_feed_88 (by decide) ?_
                refine lv_iload hx hb dX11_feed_90 (lv_at hl 1 rfl) ?_
                refine lv_iconst (v := 3) hx hb dX11_feed_92 (by decide) ?_
                refine lv_iand hx hb dX11_feed_93 ?_
                refine lv_topi (fun v93_26 e93_26 => ?_)
                refine lv_imul hx hb dX11_feed_94 ?_
                refine lv_topi (fun v94_27 e94_27 => ?_)
                refine lv_isub hx hb dX11_feed_95 ?_
                refine lv_topi (fun v95_28 e95_28 => ?_)
                refine lv_ishr hx hb dX11_feed_96 ?_
                refine lv_topi (fun v96_29 e96_29 => ?_)
                refine lv_i2b hx hb dX11_feed_97 rfl ?_
                refine lv_topi (fun v97_30 e97_30 => ?_)
                refine q_stB X hw (mk_1 hM) (vin (mn_1 hM) (by omega) (by omega)) dX11_feed_98 (fun H locs hw => ?_)
                obtain ⟨q98_31, eq98_31, hw⟩ : ∃ zz9, zz9 = va_up q18 (ma 1) (upd (q18 (ma 1)) v83_25.toNatClampNeg (vp_nar .byte v97_30)) ∧ PX G A s.heap (ch S (pI S) (pJ S) zz9 (qJ S)) H locs := ⟨_, rfl, hw⟩
                have c98 := eq98_31
                obtain ⟨v99_32, e99_32⟩ : ∃ y : Int32, y = k + 1 := ⟨_, rfl⟩
                have t99_32 := iAdd e99_32 rfl t_1 (by omega) (by omega)
                have t99 := t99_32
                refine lv_iinc (v := v99_32) (lv' := [(6, .int v99_32), (7, .int a3), (0, .ref (ma 0)), (1, .int a1), (2, .int a2), (3, .int a3), (4, .int a4), (5, .int a5)]) hx hb dX11_feed_99 hl (k := 1) rfl (by rw [e99_32]; rfl) (by decide) rfl (fun ls hl => ?_)
                refine lv_goto (tgt := 18) hx hb dX11_feed_102 (by decide) ?_
                exact ih18 q98_31 v99_32 (FrQ.ez eq98_31 (FrQ.up (j := 1) (by decide) (by decide) hY)) (by omega) (by rw [row_keep hM c98 (i := 18) (by decide) (by decide) (by decide)]; exact h18) (by omega) _ _ _ hw (lv_sub hl [0, 2, 3, 4, 5, 6, 7] rfl)
            · have D39_6 := iNle c39_6 t_8 rfl
              refine lv_iload_n hx hb dX11_feed_42 rfl (lv_at hl 3 rfl) ?_
              refine lv_goto (tgt := 71) hx hb dX11_feed_43 (by decide) ?_
              refine lv_istore (lv' := [(7, .int a2), (6, .int k), (0, .ref (ma 0)), (1, .int a1), (2, .int a2), (3, .int a3), (4, .int a4), (5, .int a5)]) hx hb dX11_feed_71 hl (by decide) rfl (fun ls hl => ?_)
              refine lv_aload_n hx hb dX11_feed_73 rfl (lv_at hl 2 rfl) ?_
              refine gf_X11_58 (b := (ma 1)) X hw hM.1 (mr_1 hM) dX11_feed_74 ?_
              refine lv_aload_n hx hb dX11_feed_77 rfl (lv_at hl 2 rfl) ?_
              refine gf_X11_143 (v := (pI S) 102 (ma 0)) X hw hM.1 rfl dX11_feed_78 ?_
              refine lv_iload hx hb dX11_feed_81 (lv_at hl 1 rfl) ?_
              refine lv_iadd hx hb dX11_feed_83 ?_
              refine lv_topi (fun v83_33 e83_33 => ?_)
              have t83_33 := iAdd e83_33 rfl rfl (by omega) (by omega)
              have t83 := t83_33
              refine lv_iload hx hb dX11_feed_84 (lv_at hl 0 rfl) ?_
              refine lv_bipush (v := 24) hx hb dX11_feed_86 (by decide) ?_
              refine lv_bipush (v := 8) hx hb dX11_feed_88 (by decide) ?_
              refine lv_iload hx hb dX11_feed_90 (lv_at hl 1 rfl) ?_
              refine lv_iconst (v := 3) hx hb dX11_feed_92 (by decide) ?_
              refine lv_iand hx hb dX11_feed_93 ?_
              refine lv_topi (fun v93_34 e93_34 => ?_)
              refine lv_imul hx hb dX11_feed_94 ?_
              refine lv_topi (fun v94_35 e94_35 => ?_)
              refine lv_isub hx hb dX11_feed_95 ?_
              refine lv_topi (fun v95_36 e95_36 => ?_)
              refine lv_ishr hx hb dX11_feed_96 ?_
              refine lv_topi (fun v96_37 e96_37 => ?_)
              refine lv_i2b hx hb dX11_feed_97 rfl ?_
              refine lv_topi (fun v97_38 e97_38 => ?_)
              refine q_stB X hw (mk_1 hM) (vin (mn_1 hM) (by omega) (by omega)) dX11_feed_98 (fun H locs hw => ?_)
              obtain ⟨q98_39, eq98_39, hw⟩ : ∃ zz9, zz9 = va_up q18 (ma 1) (upd (q18 (ma 1)) v83_33.toNatClampNeg (vp_nar .byte v97_38)) ∧ PX G A s.heap (ch S (pI S) (pJ S) zz9 (qJ S)) H locs := ⟨_, rfl, hw⟩
              have c98 := eq98_39
              obtain ⟨v99_40, e99_40⟩ : ∃ y : Int32, y = k + 1 := ⟨_, rfl⟩
              have t99_40 := iAdd e99_40 rfl t_1 (by omega) (by omega)
              have t99 := t99_40
              refine lv_iinc (v := v99_40) (lv' := [(6, .int v99_40), (7, .int a2), (0, .ref (ma 0)), (1, .int a1), (2, .int a2), (3, .int a3), (4, .int a4), (5, .int a5)]) hx hb dX11_feed_99 hl (k := 1) rfl (by rw [e99_40]; rfl) (by decide) rfl (fun ls hl => ?_)
              refine lv_goto (tgt := 18) hx hb dX11_feed_102 (by decide) ?_
              exact ih18 q98_39 v99_40 (FrQ.ez eq98_39 (FrQ.up (j := 1) (by decide) (by decide) hY)) (by omega) (by rw [row_keep hM c98 (i := 18) (by decide) (by decide) (by decide)]; exact h18) (by omega) _ _ _ hw (lv_sub hl [0, 2, 3, 4, 5, 6, 7] rfl)
          · have D28_5 := iNle c28_5 t_4 rfl
            refine lv_iload_n hx hb dX11_feed_31 rfl (lv_at hl 2 rfl) ?_
            refine lv_goto (tgt := 71) hx hb dX11_feed_32 (by decide) ?_
            refine lv_istore (lv' := [(7, .int a1), (6, .int k), (0, .ref (ma 0)), (1, .int a1), (2, .int a2), (3, .int a3), (4, .int a4), (5, .int a5)]) hx hb dX11_feed_71 hl (by decide) rfl (fun ls hl => ?_)
            refine lv_aload_n hx hb dX11_feed_73 rfl (lv_at hl 2 rfl) ?_
            refine gf_X11_58 (b := (ma 1)) X hw hM.1 (mr_1 hM) dX11_feed_74 ?_
            refine lv_aload_n hx hb dX11_feed_77 rfl (lv_at hl 2 rfl) ?_
            refine gf_X11_143 (v := (pI S) 102 (ma 0)) X hw hM.1 rfl dX11_feed_78 ?_
            refine lv_iload hx hb dX11_feed_81 (lv_at hl 1 rfl) ?_
            refine lv_iadd hx hb dX11_feed_83 ?_
            refine lv_topi (fun v83_41 e83_41 => ?_)
            have t83_41 := iAdd e83_41 rfl rfl (by omega) (by omega)
            have t83 := t83_41
            refine lv_iload hx hb dX11_feed_84 (lv_at hl 0 rfl) ?_
            refine lv_bipush (v := 24) hx hb dX11_feed_86 (by decide) ?_
            refine lv_bipush (v := 8) hx hb dX11_feed_88 (by decide) ?_
            refine lv_iload hx hb dX11_feed_90 (lv_at hl 1 rfl) ?_
            refine lv_iconst (v := 3) hx hb dX11_feed_92 (by decide) ?_
            refine lv_iand hx hb dX11_feed_93 ?_
            refine lv_topi (fun v93_42 e93_42 => ?_)
            refine lv_imul hx hb dX11_feed_94 ?_
            refine lv_topi (fun v94_43 e94_43 => ?_)
            refine lv_isub hx hb dX11_feed_95 ?_
            refine lv_topi (fun v95_44 e95_44 => ?_)
            refine lv_ishr hx hb dX11_feed_96 ?_
            refine lv_topi (fun v96_45 e96_45 => ?_)
            refine lv_i2b hx hb dX11_feed_97 rfl ?_
            refine lv_topi (fun v97_46 e97_46 => ?_)
            refine q_stB X hw (mk_1 hM) (vin (mn_1 hM) (by omega) (by omega)) dX11_feed_98 (fun H locs hw => ?_)
            obtain ⟨q98_47, eq98_47, hw⟩ : ∃ zz9, zz9 = va_up q18 (ma 1) (upd (q18 (ma 1)) v83_41.toNatClampNeg (vp_nar .byte v97_46)) ∧ PX G A s.heap (ch S (pI S) (pJ S) zz9 (qJ S)) H locs := ⟨_, rfl, hw⟩
            have c98 := eq98_47
            obtain ⟨v99_48, e99_48⟩ : ∃ y : Int32, y = k + 1 := ⟨_, rfl⟩
            have t99_48 := iAdd e99_48 rfl t_1 (by omega) (by omega)
            have t99 := t99_48
            refine lv_iinc (v := v99_48) (lv' := [(6, .int v99_48), (7, .int a1), (0, .ref (ma 0)), (1, .int a1), (2, .int a2), (3, .int a3), (4, .int a4), (5, .int a5)]) hx hb dX11_feed_99 hl (k := 1) rfl (by rw [e99_48]; rfl) (by decide) rfl (fun ls hl => ?_)
            refine lv_goto (tgt := 18) hx hb dX11_feed_102 (by decide) ?_
            exact ih18 q98_47 v99_48 (FrQ.ez eq98_47 (FrQ.up (j := 1) (by decide) (by decide) hY)) (by omega) (by rw [row_keep hM c98 (i := 18) (by decide) (by decide) (by decide)]; exact h18) (by omega) _ _ _ hw (lv_sub hl [0, 2, 3, 4, 5, 6, 7] rfl)
    exact lp18 _ (qI S) 0 FrQ.rf (by have := t_0; omega) rfl (Nat.lt_succ_self _) _ _ _ hw (lv_sub hl [0, 1, 2, 3, 4, 5, 6] rfl)
  · have D10_2 := iNle c10_2 rfl t_1000
    refine lv_iconst (v := -1) hx hb dX11_feed_13 (by decide) ?_
    exact hret (-1) _ _ _ _ _ ⟨_, _, rfl, hI, by unfold fdN; rw [if_neg (by omega)], rfl, rfl, rfl, by unfold fdR; rw [if_neg (by omega)]; exact t_m1⟩ hw rfl dX11_feed_14
set_option maxHeartbeats 4000000 in
set_option maxRecDepth 100000 in
theorem c_X11_end (l : Launch) (G : Gh) (S : Pl) (ma : Nat → Nat) (x : Int32) (hM : shMod S ma) (hI : mInv (pI S) (qI S) ma) : MtI l yX11_end cX11_end 2 (some .int) (Rm 0 0 0) G [.ref (ma 0), .int x] S (fun (r : Int32) (S' : Pl) => ∃ I' q', ch S I' (pJ S) q' (qJ S) = S' ∧ mInv I' q' ma ∧ (I' 102 (ma 0)).toInt = edN (pI S 102 (ma 0)).toInt x.toInt ∧ I' 128 (ma 0) = pI S 128 (ma 0) ∧ I' 140 (ma 0) = pI S 140 (ma 0) ∧ q' (ma 40) = qI S (ma 40) ∧ r.toInt = edR (pI S 102 (ma 0)).toInt x.toInt) 0 0 := by
  refine MtI.of (by decide) (Nat.le_of_ble_eq_true rfl) ?_
  intro p e s m args below meth c Q A X hw hin hret ls hl
  have hx := X.1.1
  have hb := X.1.2.1
  have hl : lv_has ls 2 [(0, .ref (ma 0)), (1, .int x)] := hl
  obtain ⟨⟨b1, b2, b3, b4, b5, b6⟩, hT, hP, hC⟩ := id hI
  refine lv_iload_n hx hb dX11_end_0 rfl (lv_at hl 1 rfl) ?_
  refine lv_if_lt (tgt := 12) hx hb dX11_end_1 (by decide) (fun c1_1 => ?_) (fun c1_1 => ?_)
  · have D1_1 := iLt c1_1 rfl t_0
    refine lv_iconst (v := -1) hx hb dX11_end_12 (by decide) ?_
    exact hret (-1) _ _ _ _ _ ⟨_, _, rfl, hI, by unfold edN; rw [if_neg (by omega)], rfl, rfl, rfl, by unfold edR; rw [if_neg (by omega)]; exact t_m1⟩ hw rfl dX11_end_13
  · have D1_1 := iNlt c1_1 rfl t_0
    refine lv_iload_n hx hb dX11_end_4 rfl (lv_at hl 1 rfl) ?_
    refine lv_aload_n hx hb dX11_end_5 rfl (lv_at hl 0 rfl) ?_
    refine gf_X11_143 (v := (pI S) 102 (ma 0)) X hw hM.1 rfl dX11_end_6 ?_
    refine lv_icmp_le (tgt := 14) hx hb dX11_end_9 (by decide) (fun c9_2 => ?_) (fun c9_2 => ?_)
    · have D9_2 := iLe c9_2 rfl rfl
      refine lv_aload_n hx hb dX11_end_14 rfl (lv_at hl 0 rfl) ?_
      refine lv_iload_n hx hb dX11_end_15 rfl (lv_at hl 1 rfl) ?_
      refine pf_X11_143 X hw hM.1 dX11_end_16 (fun H locs hw => ?_)
      have hw : PX G A s.heap (ch S (up2 (pI S) 102 (ma 0) x) (pJ S) (qI S) (qJ S)) H locs := hw
      refine lv_iload_n hx hb dX11_end_19 rfl (lv_at hl 1 rfl) ?_
      exact hret x _ _ _ _ _ ⟨_, _, rfl, mInv_w hM hI (FrW.up (f := 102) (by decide) FrW.rf) FrQ.rf (by rw [show (up2 (pI S) 102 (ma 0) x) 102 (ma 0) = (x : Int32) from (show up2 (pI S) 102 (ma 0) x 102 (ma 0) = x from up2_s)]; omega) b2 b3 b4 hC.2, (by rw [show (up2 (pI S) 102 (ma 0) x) 102 (ma 0) = (x : Int32) from (show up2 (pI S) 102 (ma 0) x 102 (ma 0) = x from up2_s)]; unfold edN; rw [if_pos (by omega)]), congrFun ((FrW.up (f := 102) (by decide) FrW.rf) 128 (by decide)) (ma 0), congrFun ((FrW.up (f := 102) (by decide) FrW.rf) 140 (by decide)) (ma 0), rfl, by unfold edR; rw [if_pos (by omega)]⟩ hw rfl dX11_end_20
    · have D9_2 := iNle c9_2 rfl rfl
      refine lv_iconst (v := -1) hx hb dX11_end_12 (by decide) ?_
      exact hret (-1) _ _ _ _ _ ⟨_, _, rfl, hI, by unfold edN; rw [if_neg (by omega)], rfl, rfl, rfl, by unfold edR; rw [if_neg (by omega)]; exact t_m1⟩ hw rfl dX11_end_13
set_option maxHeartbeats 4000000 in
set_option maxRecDepth 100000 in
theorem c_X11_tracks (l : Launch) (G : Gh) (S : Pl) (ma : Nat → Nat) (x y z u : Int32) (hM : shMod S ma) : MtI l yX11_tracks cX11_tracks 7 (some .int) (Rm 0 0 0) G [.ref (ma 0), .int x, .int y, .int z, .int u] S (fun (r : Int32) (S' : Pl) => S = S' ∧ ((trC x y z u ∧ r = trk x y z u) ∨ (¬ trC x y z u ∧ r = -1))) 0 0 := by
  refine MtI.of (by decide) (Nat.le_of_ble_eq_true rfl) ?_
  intro p e s m args below meth c Q A X hw hin hret ls hl
  have hx := X.1.1
  have hb := X.1.2.1
  have hl : lv_has ls 7 [(0, .ref (ma 0)), (1, .int x), (2, .int y), (3, .int z), (4, .int u)] := hl
  refine lv_iload_n hx hb dX11_tracks_0 rfl (lv_at hl 1 rfl) ?_
  refine lv_iconst (v := 1) hx hb dX11_tracks_1 (by decide) ?_
  refine lv_icmp_lt (tgt := 46) hx hb dX11_tracks_2 (by decide) (fun c2_1 => ?_) (fun c2_1 => ?_)
  · have D2_1 := iLt c2_1 rfl t_1
    refine lv_iconst (v := -1) hx hb dX11_tracks_46 (by decide) ?_
    exact hret (-1) _ _ _ _ _ ⟨rfl, Or.inr ⟨by unfold trC; omega, rfl⟩⟩ hw rfl dX11_tracks_47
  · have D2_1 := iNlt c2_1 rfl t_1
    refine lv_iload_n hx hb dX11_tracks_5 rfl (lv_at hl 1 rfl) ?_
    refine lv_bipush (v := 8) hx hb dX11_tracks_6 (by decide) ?_
    refine lv_icmp_gt (tgt := 46) hx hb dX11_tracks_8 (by decide) (fun c8_2 => ?_) (fun c8_2 => ?_)
    · have D8_2 := iLt c8_2 t_8 rfl
      refine lv_iconst (v := -1) hx hb dX11_tracks_46 (by decide) ?_
      exact hret (-1) _ _ _ _ _ ⟨rfl, Or.inr ⟨by unfold trC; omega, rfl⟩⟩ hw rfl dX11_tracks_47
    · have D8_2 := iNlt c8_2 t_8 rfl
      refine lv_iload_n hx hb dX11_tracks_11 rfl (lv_at hl 2 rfl) ?_
      refine lv_iconst (v := 1) hx hb dX11_tracks_12 (by decide) ?_
      refine lv_icmp_lt (tgt := 46) hx hb dX11_tracks_13 (by decide) (fun c13_3 => ?_) (fun c13_3 => ?_)
      · have D13_3 := iLt c13_3 rfl t_1
        refine lv_iconst (v := -1) hx hb dX11_tracks_46 (by decide) ?_
        exact hret (-1) _ _ _ _ _ ⟨rfl, Or.inr ⟨by unfold trC; omega, rfl⟩⟩ hw rfl dX11_tracks_47
      · have D13_3 := iNlt c13_3 rfl t_1
        refine lv_iload_n hx hb dX11_tracks_16 rfl (lv_at hl 2 rfl) ?_
        refine lv_bipush (v := 8) hx hb dX11_tracks_17 (by decide) ?_
        refine lv_icmp_gt (tgt := 46) hx hb dX11_tracks_19 (by decide) (fun c19_4 => ?_) (fun c19_4 => ?_)
        · have D19_4 := iLt c19_4 t_8 rfl
          refine lv_iconst (v := -1) hx hb dX11_tracks_46 (by decide) ?_
          exact hret (-1) _ _ _ _ _ ⟨rfl, Or.inr ⟨by unfold trC; omega, rfl⟩⟩ hw rfl dX11_tracks_47
        · have D19_4 := iNlt c19_4 t_8 rfl
          refine lv_iload_n hx hb dX11_tracks_22 rfl (lv_at hl 3 rfl) ?_
          refine lv_iconst (v := 1) hx hb dX11_tracks_23 (by decide) ?_
          refine lv_icmp_lt (tgt := 46) hx hb dX11_tracks_24 (by decide) (fun c24_5 => ?_) (fun c24_5 => ?_)
          · have D24_5 := iLt c24_5 rfl t_1
            refine lv_iconst (v := -1) hx hb dX11_tracks_46 (by decide) ?_
            exact hret (-1) _ _ _ _ _ ⟨rfl, Or.inr ⟨by unfold trC; omega, rfl⟩⟩ hw rfl dX11_tracks_47
          · have D24_5 := iNlt c24_5 rfl t_1
            refine lv_iload_n hx hb dX11_tracks_27 rfl (lv_at hl 3 rfl) ?_
            refine lv_bipush (v := 80) hx hb dX11_tracks_28 (by decide) ?_
            refine lv_icmp_gt (tgt := 46) hx hb dX11_tracks_30 (by decide) (fun c30_6 => ?_) (fun c30_6 => ?_)
            · have D30_6 := iLt c30_6 t_80 rfl
              refine lv_iconst (v := -1) hx hb dX11_tracks_46 (by decide) ?_
              exact hret (-1) _ _ _ _ _ ⟨rfl, Or.inr ⟨by unfold trC; omega, rfl⟩⟩ hw rfl dX11_tracks_47
            · have D30_6 := iNlt c30_6 t_80 rfl
              refine lv_iload hx hb dX11_tracks_33 (lv_at hl 4 rfl) ?_
              refine lv_iconst (v := 1) hx hb dX11_tracks_35 (by decide) ?_
              refine lv_icmp_lt (tgt := 46) hx hb dX11_tracks_36 (by decide) (fun c36_7 => ?_) (fun c36_7 => ?_)
              · have D36_7 := iLt c36_7 rfl t_1
                refine lv_iconst (v := -1) hx hb dX11_tracks_46 (by decide) ?_
                exact hret (-1) _ _ _ _ _ ⟨rfl, Or.inr ⟨by unfold trC; omega, rfl⟩⟩ hw rfl dX11_tracks_47
              · have D36_7 := iNlt c36_7 rfl t_1
                refine lv_iload hx hb dX11_tracks_39 (lv_at hl 4 rfl) ?_
                refine lv_bipush (v := 100) hx hb dX11_tracks_41 (by decide) ?_
                refine lv_icmp_le (tgt := 48) hx hb dX11_tracks_43 (by decide) (fun c43_8 => ?_) (fun c43_8 => ?_)
                · have D43_8 := iLe c43_8 rfl t_100
                  refine lv_bipush (v := 10) hx hb dX11_tracks_48 (by decide) ?_
                  refine lv_iload_n hx hb dX11_tracks_50 rfl (lv_at hl 2 rfl) ?_
                  refine lv_imul hx hb dX11_tracks_51 ?_
                  refine lv_topi (fun v51_9 e51_9 => ?_)
                  refine lv_iload_n hx hb dX11_tracks_52 rfl (lv_at hl 3 rfl) ?_
                  refine lv_iadd hx hb dX11_tracks_53 ?_
                  refine lv_topi (fun v53_10 e53_10 => ?_)
                  refine lv_iconst (v := 1) hx hb dX11_tracks_54 (by decide) ?_
                  refine lv_isub hx hb dX11_tracks_55 ?_
                  refine lv_topi (fun v55_11 e55_11 => ?_)
                  refine lv_iload_n hx hb dX11_tracks_56 rfl (lv_at hl 3 rfl) ?_
                  refine lv_idiv hx hb dX11_tracks_57 (iNz (by omega)) ?_
                  refine lv_topi (fun v57_12 e57_12 => ?_)
                  refine lv_istore (lv' := [(5, .int v57_12), (0, .ref (ma 0)), (1, .int x), (2, .int y), (3, .int z), (4, .int u)]) hx hb dX11_tracks_58 hl (by decide) rfl (fun ls hl => ?_)
                  refine lv_iload hx hb dX11_tracks_60 (lv_at hl 0 rfl) ?_
                  refine lv_bipush (v := 10) hx hb dX11_tracks_62 (by decide) ?_
                  refine lv_imul hx hb dX11_tracks_64 ?_
                  refine lv_topi (fun v64_13 e64_13 => ?_)
                  refine lv_iload_n hx hb dX11_tracks_65 rfl (lv_at hl 2 rfl) ?_
                  refine lv_imul hx hb dX11_tracks_66 ?_
                  refine lv_topi (fun v66_14 e66_14 => ?_)
                  refine lv_iload hx hb dX11_tracks_67 (lv_at hl 0 rfl) ?_
                  refine lv_iconst (v := 1) hx hb dX11_tracks_69 (by decide) ?_
                  refine lv_isub hx hb dX11_tracks_70 ?_
                  refine lv_topi (fun v70_15 e70_15 => ?_)
                  refine lv_iload_n hx hb dX11_tracks_71 rfl (lv_at hl 4 rfl) ?_
                  refine lv_imul hx hb dX11_tracks_72 ?_
                  refine lv_topi (fun v72_16 e72_16 => ?_)
                  refine lv_iadd hx hb dX11_tracks_73 ?_
                  refine lv_topi (fun v73_17 e73_17 => ?_)
                  refine lv_istore (lv' := [(6, .int v73_17), (5, .int v57_12), (0, .ref (ma 0)), (1, .int x), (2, .int y), (3, .int z), (4, .int u)]) hx hb dX11_tracks_74 hl (by decide) rfl (fun ls hl => ?_)
                  refine lv_bipush (v := 60) hx hb dX11_tracks_76 (by decide) ?_
                  refine lv_iload hx hb dX11_tracks_78 (lv_at hl 0 rfl) ?_
                  refine lv_imul hx hb dX11_tracks_80 ?_
                  refine lv_topi (fun v80_18 e80_18 => ?_)
                  refine lv_iload hx hb dX11_tracks_81 (lv_at hl 6 rfl) ?_
                  refine lv_iadd hx hb dX11_tracks_83 ?_
                  refine lv_topi (fun v83_19 e83_19 => ?_)
                  refine lv_iconst (v := 1) hx hb dX11_tracks_84 (by decide) ?_
                  refine lv_isub hx hb dX11_tracks_85 ?_
                  refine lv_topi (fun v85_20 e85_20 => ?_)
                  refine lv_iload hx hb dX11_tracks_86 (lv_at hl 6 rfl) ?_
                  refine lv_idiv hx hb dX11_tracks_88 (iNz (by omega)) ?_
                  refine lv_topi (fun v88_21 e88_21 => ?_)
                  exact hret v88_21 _ _ _ _ _ ⟨rfl, Or.inl ⟨by unfold trC; omega, by simp only [trk, *]⟩⟩ hw rfl dX11_tracks_89
                · have D43_8 := iNle c43_8 rfl t_100
                  refine lv_iconst (v := -1) hx hb dX11_tracks_46 (by decide) ?_
                  exact hret (-1) _ _ _ _ _ ⟨rfl, Or.inr ⟨by unfold trC; omega, rfl⟩⟩ hw rfl dX11_tracks_47
set_option maxHeartbeats 4000000 in
set_option maxRecDepth 100000 in
theorem c_X11_share (l : Launch) (G : Gh) (S : Pl) (ma : Nat → Nat) (x n z : Int32) (hM : shMod S ma) (hI : mInv (pI S) (qI S) ma) : MtL l yX11_share cX11_share 6 (some .long) (Rm 6 0 0) G [.ref (ma 0), .int x, .int n, .int z] S (fun (r : Int64) (S' : Pl) => ∃ I' J' y', ch S I' J' (qI S) y' = S' ∧ FrD (pI S) I') 0 0 := by
  refine MtL.of (by decide) (Nat.le_of_ble_eq_true rfl) ?_
  intro p e s m args below meth c Q A X hw hin hret ls hl
  have hx := X.1.1
  have hb := X.1.2.1
  have hl : lv_has ls 6 [(0, .ref (ma 0)), (1, .int x), (2, .int n), (3, .int z)] := hl
  refine lv_iload_n hx hb dX11_share_0 rfl (lv_at hl 1 rfl) ?_
  refine lv_if_lt (tgt := 17) hx hb dX11_share_1 (by decide) (fun c1_1 => ?_) (fun c1_1 => ?_)
  · have D1_1 := iLt c1_1 rfl t_0
    refine lv_ldc2 hx hb X.1.2.2.2.1 (X.1.2.2.2.2 _ wd_r37_14) dX11_share_17 ?_
    exact hret (-1) _ _ _ _ _ ⟨_, _, _, rfl, FrD.rf⟩ hw dX11_share_20
  · have D1_1 := iNlt c1_1 rfl t_0
    refine lv_iload_n hx hb dX11_share_4 rfl (lv_at hl 1 rfl) ?_
    refine lv_bipush (v := 64) hx hb dX11_share_5 (by decide) ?_
    refine lv_icmp_ge (tgt := 17) hx hb dX11_share_7 (by decide) (fun c7_2 => ?_) (fun c7_2 => ?_)
    · have D7_2 := iLe c7_2 t_64 rfl
      refine lv_ldc2 hx hb X.1.2.2.2.1 (X.1.2.2.2.2 _ wd_r37_14) dX11_share_17 ?_
      exact hret (-1) _ _ _ _ _ ⟨_, _, _, rfl, FrD.rf⟩ hw dX11_share_20
    · have D7_2 := iNle c7_2 t_64 rfl
      refine lv_iload_n hx hb dX11_share_10 rfl (lv_at hl 2 rfl) ?_
      refine k_Si (n := 1) X hw (c_X11_isMoment l G _ n) wd_r31_0 wd_r31_1 wd_r1_5 wd_r31_2 ⟨by decide, by decide, by decide +kernel⟩ rfl rfl ⟨Nat.le_of_ble_eq_true rfl, Nat.le_of_ble_eq_true rfl⟩ rfl rfl hl.1 (Nat.le_of_ble_eq_true rfl) dX11_share_11 ⟨Nat.le_of_ble_eq_true rfl, Nat.le_of_ble_eq_true rfl⟩ (fun r11_3 S11_5 H locs h11_4 hw => ?_)
      rcases h11_4 with ⟨rfl, rfl, h11_4⟩ | ⟨rfl, rfl, h11_4⟩
      · have h11_4 := h11_4
        refine lv_if_ne (tgt := 21) hx hb dX11_share_14 (by decide) (fun c14_6 => ?_) (fun c14_6 => absurd c14_6 (by decide))
        refine lv_aload_n hx hb dX11_share_21 rfl (lv_at hl 0 rfl) ?_
        refine lv_iload_n hx hb dX11_share_22 rfl (lv_at hl 2 rfl) ?_
        refine lv_iconst (v := 0) hx hb dX11_share_23 (by decide) ?_
        refine k_Vv (n := 2) X hw (rcvk (ci := 11) X hw hM.1 (fun _ _ _ _ _ _ _ => ⟨_, rfl⟩) rfl) (c_X11_sumUp l G _ ma n 0 hM (hI.d FrD.rf) (by omega)) wd_r38_23 wd_r39_0 wd_r39_1 wd_r1_5 wd_r39_2 ⟨by decide, by decide, by decide +kernel⟩ rfl rfl ⟨Nat.le_of_ble_eq_true rfl, Nat.le_of_ble_eq_true rfl⟩ rfl rfl hl.1 (Nat.le_of_ble_eq_true rfl) dX11_share_24 ⟨Nat.le_of_ble_eq_true rfl, Nat.le_of_ble_eq_true rfl⟩ (fun S24_8 H locs h24_7 hw => ?_)
        have := t_0
        obtain ⟨I24_9, J24_10, y24_11, rfl, h24_7⟩ := h24_7
        have hw : PX G A s.heap (ch S I24_9 J24_10 (qI S) y24_11) H locs := hw
        refine lv_aload_n hx hb dX11_share_27 rfl (lv_at hl 0 rfl) ?_
        refine gf_X11_129 (b := (ma 42)) X hw hM.1 (mr_42 hM) dX11_share_28 ?_
        refine lv_iload_n hx hb dX11_share_31 rfl (lv_at hl 1 rfl) ?_
        refine q_ldJ X hw (mk_42 hM) (vin (mn_42 hM) (by omega) (by omega)) dX11_share_32 ?_
        refine lv_topl (fun v32_12 e32_12 => ?_)
        have e32_12 : v32_12 = y24_11 (ma 42) x.toNatClampNeg := e32_12
        have E32 := e32_12
        refine lv_lconst (v := 0) hx hb dX11_share_33 (by decide) ?_
        refine W.lcmp hx hb dX11_share_34 ?_
        refine lv_topi (fun v34_13 e34_13 => ?_)
        refine lv_if_ne (tgt := 48) hx hb dX11_share_35 (by decide) (fun c35_14 => ?_) (fun c35_14 => ?_)
        · have D35_14 := lc_ne e34_13 c35_14
          refine lv_aload_n hx hb dX11_share_48 rfl (lv_at hl 0 rfl) ?_
          refine gf_X11_129 (b := (ma 42)) X hw hM.1 (mr_42 hM) dX11_share_49 ?_
          refine lv_iload_n hx hb dX11_share_52 rfl (lv_at hl 1 rfl) ?_
          refine q_ldJ X hw (mk_42 hM) (vin (mn_42 hM) (by omega) (by omega)) dX11_share_53 ?_
          refine lv_topl (fun v53_15 e53_15 => ?_)
          have e53_15 : v53_15 = y24_11 (ma 42) x.toNatClampNeg := e53_15
          have E53 := e53_15.trans E32.symm
          refine lv_aload_n hx hb dX11_share_54 rfl (lv_at hl 0 rfl) ?_
          refine gf_X11_277 (v := J24_10 142 (ma 0)) X hw hM.1 rfl dX11_share_55 ?_
          refine k_Sl (n := 2) X hw (c_X11_divisor l G _ v53_15 (J24_10 142 (ma 0)) (by rw [E53]; have := (by decide : (0:Int64).toInt = 0); omega)) wd_r39_3 wd_r39_4 wd_r1_5 wd_r39_5 ⟨by decide, by decide, by decide +kernel⟩ rfl rfl ⟨Nat.le_of_ble_eq_true rfl, Nat.le_of_ble_eq_true rfl⟩ rfl rfl hl.1 (Nat.le_of_ble_eq_true rfl) dX11_share_58 ⟨Nat.le_of_ble_eq_true rfl, Nat.le_of_ble_eq_true rfl⟩ (fun r58_16 S58_18 H locs h58_17 hw => ?_)
          obtain ⟨rfl, h58_17⟩ := h58_17
          have HDD := h58_17
          refine lv_lstore (lv' := [(4, .long r58_16), (0, .ref (ma 0)), (1, .int x), (2, .int n), (3, .int z)]) hx hb dX11_share_61 hl (by decide) rfl (fun ls hl => ?_)
          refine lv_iload_n hx hb dX11_share_63 rfl (lv_at hl 4 rfl) ?_
          refine lv_if_eq (tgt := 74) hx hb dX11_share_64 (by decide) (fun c64_19 => ?_) (fun c64_19 => ?_)
          · have D64_19 := iEq c64_19 rfl t_0
            refine lv_aload_n hx hb dX11_share_74 rfl (lv_at hl 1 rfl) ?_
            refine gf_X11_129 (b := (ma 42)) X hw hM.1 (mr_42 hM) dX11_share_75 ?_
            refine lv_iload_n hx hb dX11_share_78 rfl (lv_at hl 2 rfl) ?_
            refine q_ldJ X hw (mk_42 hM) (vin (mn_42 hM) (by omega) (by omega)) dX11_share_79 ?_
            refine lv_topl (fun v79_20 e79_20 => ?_)
            have e79_20 : v79_20 = y24_11 (ma 42) x.toNatClampNeg := e79_20
            refine lv_lload hx hb dX11_share_80 (lv_at hl 0 rfl) ?_
            refine lv_ldiv hx hb dX11_share_82 (lne0 HDD) ?_
            refine lv_topl (fun v82_21 e82_21 => ?_)
            exact hret v82_21 _ _ _ _ _ ⟨_, _, _, rfl, (FrD.tr FrD.rf h24_7.1)⟩ hw dX11_share_83
          · skip
            refine lv_aload_n hx hb dX11_share_67 rfl (lv_at hl 1 rfl) ?_
            refine gf_X11_277 (v := J24_10 142 (ma 0)) X hw hM.1 rfl dX11_share_68 ?_
            refine lv_goto (tgt := 80) hx hb dX11_share_71 (by decide) ?_
            refine lv_lload hx hb dX11_share_80 (lv_at hl 0 rfl) ?_
            refine lv_ldiv hx hb dX11_share_82 (lne0 HDD) ?_
            refine lv_topl (fun v82_22 e82_22 => ?_)
            exact hret v82_22 _ _ _ _ _ ⟨_, _, _, rfl, (FrD.tr FrD.rf h24_7.1)⟩ hw dX11_share_83
        · have D35_14 := lcn_ne e34_13 c35_14
          refine lv_iload_n hx hb dX11_share_38 rfl (lv_at hl 3 rfl) ?_
          refine lv_if_eq (tgt := 46) hx hb dX11_share_39 (by decide) (fun c39_23 => ?_) (fun c39_23 => ?_)
          · have D39_23 := iEq c39_23 rfl t_0
            refine lv_lconst (v := 0) hx hb dX11_share_46 (by decide) ?_
            exact hret 0 _ _ _ _ _ ⟨_, _, _, rfl, (FrD.tr FrD.rf h24_7.1)⟩ hw dX11_share_47
          · skip
            refine lv_lconst (v := 1) hx hb dX11_share_42 (by decide) ?_
            refine lv_goto (tgt := 47) hx hb dX11_share_43 (by decide) ?_
            exact hret 1 _ _ _ _ _ ⟨_, _, _, rfl, (FrD.tr FrD.rf h24_7.1)⟩ hw dX11_share_47
      · have h11_4 := h11_4
        refine lv_if_ne (tgt := 21) hx hb dX11_share_14 (by decide) (fun c14_24 => absurd c14_24 (by decide)) (fun c14_24 => ?_)
        refine lv_ldc2 hx hb X.1.2.2.2.1 (X.1.2.2.2.2 _ wd_r37_14) dX11_share_17 ?_
        exact hret (-1) _ _ _ _ _ ⟨_, _, _, rfl, FrD.rf⟩ hw dX11_share_20
set_option maxHeartbeats 4000000 in
set_option maxRecDepth 100000 in
theorem c_X11_likeliest (l : Launch) (G : Gh) (S : Pl) (ma : Nat → Nat) (n : Int32) (hM : shMod S ma) (hI : mInv (pI S) (qI S) ma) : MtI l yX11_likeliest cX11_likeliest 4 (some .int) (Rm 6 0 0) G [.ref (ma 0), .int n] S (fun (r : Int32) (S' : Pl) => ∃ I' J' y', ch S I' J' (qI S) y' = S' ∧ FrD (pI S) I') 0 0 := by
  refine MtI.of (by decide) (Nat.le_of_ble_eq_true rfl) ?_
  intro p e s m args below meth c Q A X hw hin hret ls hl
  have hx := X.1.1
  have hb := X.1.2.1
  have hl : lv_has ls 4 [(0, .ref (ma 0)), (1, .int n)] := hl
  refine lv_iload_n hx hb dX11_likeliest_0 rfl (lv_at hl 1 rfl) ?_
  refine k_Si (n := 1) X hw (c_X11_isMoment l G _ n) wd_r31_0 wd_r31_1 wd_r1_5 wd_r31_2 ⟨by decide, by decide, by decide +kernel⟩ rfl rfl ⟨Nat.le_of_ble_eq_true rfl, Nat.le_of_ble_eq_true rfl⟩ rfl rfl hl.1 (Nat.le_of_ble_eq_true rfl) dX11_likeliest_1 ⟨Nat.le_of_ble_eq_true rfl, Nat.le_of_ble_eq_true rfl⟩ (fun r1_1 S1_3 H locs h1_2 hw => ?_)
  rcases h1_2 with ⟨rfl, rfl, h1_2⟩ | ⟨rfl, rfl, h1_2⟩
  · have h1_2 := h1_2
    refine lv_if_ne (tgt := 9) hx hb dX11_likeliest_4 (by decide) (fun c4_4 => ?_) (fun c4_4 => absurd c4_4 (by decide))
    refine lv_aload_n hx hb dX11_likeliest_9 rfl (lv_at hl 0 rfl) ?_
    refine lv_iload_n hx hb dX11_likeliest_10 rfl (lv_at hl 1 rfl) ?_
    refine lv_iconst (v := 0) hx hb dX11_likeliest_11 (by decide) ?_
    refine k_Vv (n := 2) X hw (rcvk (ci := 11) X hw hM.1 (fun _ _ _ _ _ _ _ => ⟨_, rfl⟩) rfl) (c_X11_sumUp l G _ ma n 0 hM (hI.d FrD.rf) (by omega)) wd_r38_23 wd_r39_0 wd_r39_1 wd_r1_5 wd_r39_2 ⟨by decide, by decide, by decide +kernel⟩ rfl rfl ⟨Nat.le_of_ble_eq_true rfl, Nat.le_of_ble_eq_true rfl⟩ rfl rfl hl.1 (Nat.le_of_ble_eq_true rfl) dX11_likeliest_12 ⟨Nat.le_of_ble_eq_true rfl, Nat.le_of_ble_eq_true rfl⟩ (fun S12_6 H locs h12_5 hw => ?_)
    have := t_0
    obtain ⟨I12_7, J12_8, y12_9, rfl, h12_5⟩ := h12_5
    have hw : PX G A s.heap (ch S I12_7 J12_8 (qI S) y12_9) H locs := hw
    refine lv_iconst (v := -1) hx hb dX11_likeliest_15 (by decide) ?_
    refine lv_istore_n (lv' := [(2, .int (-1)), (0, .ref (ma 0)), (1, .int n)]) hx hb dX11_likeliest_16 rfl hl (by decide) rfl (fun ls hl => ?_)
    refine lv_iconst (v := 0) hx hb dX11_likeliest_17 (by decide) ?_
    refine lv_istore_n (lv' := [(3, .int 0), (2, .int (-1)), (0, .ref (ma 0)), (1, .int n)]) hx hb dX11_likeliest_18 rfl hl (by decide) rfl (fun ls hl => ?_)
    have lp19 : ∀ (N9 : Nat) (b : Int32) (k : Int32), (-1 ≤ b.toInt ∧ b.toInt ≤ 63) → (0 ≤ k.toInt ∧ k.toInt ≤ 64) → (64 - k.toInt).toNat < N9 → ∀ (H : Heap) (locs : List Loc) (ls : Array Slot), PX G A s.heap (ch S I12_7 J12_8 (qI S) y12_9) H locs → lv_has ls 4 [(3, .int k), (2, .int b), (0, .ref (ma 0)), (1, .int n)] → W p l e (Rm 6 0 0) s m args below meth c H locs 0 0 Q (F0 m 19 ls []) := by
      intro N9
      induction N9 with
      | zero => intro b k hb0 hk hm; exact absurd hm (Nat.not_lt_zero _)
      | succ N9 ih19 =>
        intro b k hb0 hk hm H locs ls hw hl
        refine lv_iload_n hx hb dX11_likeliest_19 rfl (lv_at hl 0 rfl) ?_
        refine lv_bipush (v := 64) hx hb dX11_likeliest_20 (by decide) ?_
        refine lv_icmp_ge (tgt := 64) hx hb dX11_likeliest_22 (by decide) (fun c22_10 => ?_) (fun c22_10 => ?_)
        · have D22_10 := iLe c22_10 t_64 rfl
          refine lv_iload_n hx hb dX11_likeliest_64 rfl (lv_at hl 1 rfl) ?_
          exact hret b _ _ _ _ _ ⟨_, _, _, rfl, (FrD.tr FrD.rf h12_5.1)⟩ hw rfl dX11_likeliest_65
        · have D22_10 := iNle c22_10 t_64 rfl
          refine lv_aload_n hx hb dX11_likeliest_25 rfl (lv_at hl 2 rfl) ?_
          refine gf_X11_129 (b := (ma 42)) X hw hM.1 (mr_42 hM) dX11_likeliest_26 ?_
          refine lv_iload_n hx hb dX11_likeliest_29 rfl (lv_at hl 0 rfl) ?_
          refine q_ldJ X hw (mk_42 hM) (vin (mn_42 hM) (by omega) (by omega)) dX11_likeliest_30 ?_
          refine lv_topl (fun v30_11 e30_11 => ?_)
          have e30_11 : v30_11 = y12_9 (ma 42) k.toNatClampNeg := e30_11
          refine lv_lconst (v := 0) hx hb dX11_likeliest_31 (by decide) ?_
          refine W.lcmp hx hb dX11_likeliest_32 ?_
          refine lv_topi (fun v32_12 e32_12 => ?_)
          refine lv_if_le (tgt := 58) hx hb dX11_likeliest_33 (by decide) (fun c33_13 => ?_) (fun c33_13 => ?_)
          · have D33_13 := lc_le e32_12 c33_13
            obtain ⟨v58_14, e58_14⟩ : ∃ y : Int32, y = k + 1 := ⟨_, rfl⟩
            have t58_14 := iAdd e58_14 rfl t_1 (by omega) (by omega)
            have t58 := t58_14
            refine lv_iinc (v := v58_14) (lv' := [(3, .int v58_14), (2, .int b), (0, .ref (ma 0)), (1, .int n)]) hx hb dX11_likeliest_58 hl (k := 0) rfl (by rw [e58_14]; rfl) (by decide) rfl (fun ls hl => ?_)
            refine lv_goto (tgt := 19) hx hb dX11_likeliest_61 (by decide) ?_
            exact ih19  b v58_14 (by omega) (by omega) (by omega) _ _ _ hw (lv_sub hl [0, 1, 2, 3] rfl)
          · have D33_13 := lcn_le e32_12 c33_13
            refine lv_iload_n hx hb dX11_likeliest_36 rfl (lv_at hl 1 rfl) ?_
            refine lv_if_lt (tgt := 56) hx hb dX11_likeliest_37 (by decide) (fun c37_15 => ?_) (fun c37_15 => ?_)
            · have D37_15 := iLt c37_15 rfl t_0
              refine lv_iload_n hx hb dX11_likeliest_56 rfl (lv_at hl 0 rfl) ?_
              refine lv_istore_n (lv' := [(2, .int k), (3, .int k), (0, .ref (ma 0)), (1, .int n)]) hx hb dX11_likeliest_57 rfl hl (by decide) rfl (fun ls hl => ?_)
              obtain ⟨v58_16, e58_16⟩ : ∃ y : Int32, y = k + 1 := ⟨_, rfl⟩
              have t58_16 := iAdd e58_16 rfl t_1 (by omega) (by omega)
              have t58 := t58_16
              refine lv_iinc (v := v58_16) (lv' := [(3, .int v58_16), (2, .int k), (0, .ref (ma 0)), (1, .int n)]) hx hb dX11_likeliest_58 hl (k := 1) rfl (by rw [e58_16]; rfl) (by decide) rfl (fun ls hl => ?_)
              refine lv_goto (tgt := 19) hx hb dX11_likeliest_61 (by decide) ?_
              exact ih19  k v58_16 (by omega) (by omega) (by omega) _ _ _ hw (lv_sub hl [0, 1, 2, 3] rfl)
            · have D37_15 := iNlt c37_15 rfl t_0
              refine lv_aload_n hx hb dX11_likeliest_40 rfl (lv_at hl 2 rfl) ?_
              refine gf_X11_129 (b := (ma 42)) X hw hM.1 (mr_42 hM) dX11_likeliest_41 ?_
              refine lv_iload_n hx hb dX11_likeliest_44 rfl (lv_at hl 0 rfl) ?_
              refine q_ldJ X hw (mk_42 hM) (vin (mn_42 hM) (by omega) (by omega)) dX11_likeliest_45 ?_
              refine lv_topl (fun v45_17 e45_17 => ?_)
              have e45_17 : v45_17 = y12_9 (ma 42) k.toNatClampNeg := e45_17
              refine lv_aload_n hx hb dX11_likeliest_46 rfl (lv_at hl 2 rfl) ?_
              refine gf_X11_129 (b := (ma 42)) X hw hM.1 (mr_42 hM) dX11_likeliest_47 ?_
              refine lv_iload_n hx hb dX11_likeliest_50 rfl (lv_at hl 1 rfl) ?_
              refine q_ldJ X hw (mk_42 hM) (vin (mn_42 hM) (by omega) (by omega)) dX11_likeliest_51 ?_
              refine lv_topl (fun v51_18 e51_18 => ?_)
              have e51_18 : v51_18 = y12_9 (ma 42) b.toNatClampNeg := e51_18
              refine W.lcmp hx hb dX11_likeliest_52 ?_
              refine lv_topi (fun v52_19 e52_19 => ?_)
              refine lv_if_le (tgt := 58) hx hb dX11_likeliest_53 (by decide) (fun c53_20 => ?_) (fun c53_20 => ?_)
              · have D53_20 := lc_le e52_19 c53_20
                obtain ⟨v58_21, e58_21⟩ : ∃ y : Int32, y = k + 1 := ⟨_, rfl⟩
                have t58_21 := iAdd e58_21 rfl t_1 (by omega) (by omega)
                have t58 := t58_21
                refine lv_iinc (v := v58_21) (lv' := [(3, .int v58_21), (2, .int b), (0, .ref (ma 0)), (1, .int n)]) hx hb dX11_likeliest_58 hl (k := 0) rfl (by rw [e58_21]; rfl) (by decide) rfl (fun ls hl => ?_)
                refine lv_goto (tgt := 19) hx hb dX11_likeliest_61 (by decide) ?_
                exact ih19  b v58_21 (by omega) (by omega) (by omega) _ _ _ hw (lv_sub hl [0, 1, 2, 3] rfl)
              · have D53_20 := lcn_le e52_19 c53_20
                refine lv_iload_n hx hb dX11_likeliest_56 rfl (lv_at hl 0 rfl) ?_
                refine lv_istore_n (lv' := [(2, .int k), (3, .int k), (0, .ref (ma 0)), (1, .int n)]) hx hb dX11_likeliest_57 rfl hl (by decide) rfl (fun ls hl => ?_)
                obtain ⟨v58_22, e58_22⟩ : ∃ y : Int32, y = k + 1 := ⟨_, rfl⟩
                have t58_22 := iAdd e58_22 rfl t_1 (by omega) (by omega)
                have t58 := t58_22
                refine lv_iinc (v := v58_22) (lv' := [(3, .int v58_22), (2, .int k), (0, .ref (ma 0)), (1, .int n)]) hx hb dX11_likeliest_58 hl (k := 1) rfl (by rw [e58_22]; rfl) (by decide) rfl (fun ls hl => ?_)
                refine lv_goto (tgt := 19) hx hb dX11_likeliest_61 (by decide) ?_
                exact ih19  k v58_22 (by omega) (by omega) (by omega) _ _ _ hw (lv_sub hl [0, 1, 2, 3] rfl)
    exact lp19 _  (-1) 0 (by have := t_m1; omega) (by have := t_m1; have := t_0; omega) (Nat.lt_succ_self _) _ _ _ hw (lv_sub hl [0, 1, 2, 3] rfl)
  · have h1_2 := h1_2
    refine lv_if_ne (tgt := 9) hx hb dX11_likeliest_4 (by decide) (fun c4_23 => absurd c4_23 (by decide)) (fun c4_23 => ?_)
    refine lv_iconst (v := -1) hx hb dX11_likeliest_7 (by decide) ?_
    exact hret (-1) _ _ _ _ _ ⟨_, _, _, rfl, FrD.rf⟩ hw rfl dX11_likeliest_8
