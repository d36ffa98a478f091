
set_option maxHeartbeats 4000000 in
set_option maxRecDepth 100000 in
theorem c_v_X10_wind (l : Launch) (G : Gh) (S : Pl) (d sa sb sp te tm pe : Nat → Nat) (tf pf nt np : Nat) (x y : Int32) (bt : Nat → Int32) (V : SV) (hC : CIs G S d sa sb sp te tm pe tf pf nt np) (hN : CIn (pI S) d te pe nt np) (hCV : CV S d sa (pI S 61 (d 1)).toInt bt V) : MtI l yX10_wind cX10_wind 3 (some .int) (Rm 3 0 0) G [.ref (d 0), .int x, .int y] S (fun (r : Int32) (S' : Pl) => S = S' ∧ r = (if 0 ≤ x.toInt ∧ x.toInt < 72 then (if y = 0 then sr (V.2 13) (V.2 11) x.toNatClampNeg else sr (V.2 13) (V.2 12) x.toNatClampNeg) else -100)) 0 0 := by
  refine MtI.of (by decide) (Nat.le_of_ble_eq_true rfl) ?_
  intro p e s m args below meth c Q A X hw hin hret ls hl
  have hx := X.1.1
  have hb := X.1.2.1
  have hl : lv_has ls 3 [(0, .ref (d 0)), (1, .int x), (2, .int y)] := hl
  obtain ⟨k0, r70, r71, r72, r73, r74, r75, r76, r77, hR, hS, hB, hSp, ⟨kco, nco⟩, lT, lP, n68, n79, hTl, hPk, hPi, n40⟩ := id hC
  obtain ⟨z92, z93, zw, zz, zst, zs6⟩ := id hN
  have hTp := hR.2.2.2.2.2.2.2
  have n60 := lP.2.2.1
  have oS := hS
  have oTp := hTp
  have oPk := hPk
  refine lv_iload_n hx hb dX10_wind_0 rfl (lv_at hl 1 rfl) ?_
  refine k_Si (n := 1) X hw (c_X10_isHour l G _ x) wd_r24_14 wd_r17_3 wd_r1_2 wd_r17_4 ⟨by decide, by decide, by decide +kernel⟩ rfl rfl ⟨Nat.le_of_ble_eq_true rfl, Nat.le_of_ble_eq_true rfl⟩ rfl rfl hl.1 (Nat.le_of_ble_eq_true rfl) dX10_wind_1 ⟨Nat.le_of_ble_eq_true rfl, Nat.le_of_ble_eq_true rfl⟩ (fun r1_1 S1_3 H locs h1_2 hw => ?_)
  rcases h1_2 with ⟨rfl, rfl, h1_2⟩ | ⟨rfl, rfl, h1_2⟩
  · have h1_2 := h1_2
    refine lv_if_eq (tgt := 19) hx hb dX10_wind_4 (by decide) (fun c4_4 => absurd c4_4 (by decide)) (fun c4_4 => ?_)
    refine lv_aload_n hx hb dX10_wind_7 rfl (lv_at hl 0 rfl) ?_
    refine gf_X10_49 (b := (sa 0)) X hw k0 r76 dX10_wind_8 ?_
    refine lv_iload_n hx hb dX10_wind_11 rfl (lv_at hl 1 rfl) ?_
    refine lv_iload_n hx hb dX10_wind_12 rfl (lv_at hl 2 rfl) ?_
    refine k_Vi (n := 2) X hw (rcvk (ci := 3) X hw hS.1 (fun _ _ _ _ _ _ _ => ⟨_, rfl⟩) rfl) (c_v_X3_windOf l G _ sa x y hS) wd_r24_15 wd_r19_20 wd_r19_21 wd_r2_9 wd_r19_22 ⟨by decide, by decide, by decide +kernel⟩ rfl rfl ⟨Nat.le_of_ble_eq_true rfl, Nat.le_of_ble_eq_true rfl⟩ rfl rfl hl.1 (Nat.le_of_ble_eq_true rfl) dX10_wind_13 ⟨Nat.le_of_ble_eq_true rfl, Nat.le_of_ble_eq_true rfl⟩ (fun r13_5 S13_7 H locs h13_6 hw => ?_)
    obtain ⟨rfl, h13_6⟩ := h13_6
    have HT9 : r13_5 = (if y = 0 then sr (V.2 13) (V.2 11) x.toNatClampNeg else sr (V.2 13) (V.2 12) x.toNatClampNeg) := by rw [h13_6, if_pos (by omega), show qI S (fl sa 0 1) x.toNatClampNeg = sr (V.2 13) (V.2 11) x.toNatClampNeg from hCV.w (f := 0) (k := 1) (by decide) (Or.inl rfl) (by have := cl_toInt (x := x) (by omega); omega), show qI S (fl sa 0 2) x.toNatClampNeg = sr (V.2 13) (V.2 12) x.toNatClampNeg from hCV.w (f := 0) (k := 2) (by decide) (Or.inr rfl) (by have := cl_toInt (x := x) (by omega); omega)]
    refine lv_goto (tgt := 21) hx hb dX10_wind_16 (by decide) ?_
    exact hret r13_5 _ _ _ _ _ ⟨rfl, by rw [if_pos (by omega)]; exact HT9⟩ hw rfl dX10_wind_21
  · have h1_2 := h1_2
    refine lv_if_eq (tgt := 19) hx hb dX10_wind_4 (by decide) (fun c4_8 => ?_) (fun c4_8 => absurd c4_8 (by decide))
    refine lv_bipush (v := -100) hx hb dX10_wind_19 (by decide) ?_
    exact hret (-100) _ _ _ _ _ ⟨rfl, by rw [if_neg (by omega)]⟩ hw rfl dX10_wind_21
set_option maxHeartbeats 4000000 in
set_option maxRecDepth 100000 in
theorem c_v_X10_stream (l : Launch) (G : Gh) (S : Pl) (d sa sb sp te tm pe : Nat → Nat) (tf pf nt np : Nat) (x y z : Int32) (bt : Nat → Int32) (V : SV) (hC : CIs G S d sa sb sp te tm pe tf pf nt np) (hN : CIn (pI S) d te pe nt np) (hCV : CV S d sa (pI S 61 (d 1)).toInt bt V) : MtI l yX10_stream cX10_stream 5 (some .int) (Rm 3 0 0) G [.ref (d 0), .int x, .int y, .int z] S (fun (r : Int32) (S' : Pl) => S = S' ∧ r = (if 0 ≤ x.toInt ∧ x.toInt < 4 ∧ 0 ≤ y.toInt ∧ y.toInt < 72 then (if z = 0 then sr (V.2 (10 + 4 * (x.toNatClampNeg + 1) + 3)) (V.2 (10 + 4 * (x.toNatClampNeg + 1) + 1)) y.toNatClampNeg else sr (V.2 (10 + 4 * (x.toNatClampNeg + 1) + 3)) (V.2 (10 + 4 * (x.toNatClampNeg + 1) + 2)) y.toNatClampNeg) else -100)) 0 0 := by
  refine MtI.of (by decide) (Nat.le_of_ble_eq_true rfl) ?_
  intro p e s m args below meth c Q A X hw hin hret ls hl
  have hx := X.1.1
  have hb := X.1.2.1
  have hl : lv_has ls 5 [(0, .ref (d 0)), (1, .int x), (2, .int y), (3, .int z)] := hl
  obtain ⟨k0, r70, r71, r72, r73, r74, r75, r76, r77, hR, hS, hB, hSp, ⟨kco, nco⟩, lT, lP, n68, n79, hTl, hPk, hPi, n40⟩ := id hC
  obtain ⟨z92, z93, zw, zz, zst, zs6⟩ := id hN
  have hTp := hR.2.2.2.2.2.2.2
  have n60 := lP.2.2.1
  have oS := hS
  have oTp := hTp
  have oPk := hPk
  refine lv_iload_n hx hb dX10_stream_0 rfl (lv_at hl 1 rfl) ?_
  refine k_Si (n := 1) X hw (c_X10_isQuarter l G _ x) wd_r25_7 wd_r15_10 wd_r1_2 wd_r15_11 ⟨by decide, by decide, by decide +kernel⟩ rfl rfl ⟨Nat.le_of_ble_eq_true rfl, Nat.le_of_ble_eq_true rfl⟩ rfl rfl hl.1 (Nat.le_of_ble_eq_true rfl) dX10_stream_1 ⟨Nat.le_of_ble_eq_true rfl, Nat.le_of_ble_eq_true rfl⟩ (fun r1_1 S1_3 H locs h1_2 hw => ?_)
  rcases h1_2 with ⟨rfl, rfl, h1_2⟩ | ⟨rfl, rfl, h1_2⟩
  · have h1_2 := h1_2
    refine lv_if_eq (tgt := 18) hx hb dX10_stream_4 (by decide) (fun c4_4 => absurd c4_4 (by decide)) (fun c4_4 => ?_)
    refine lv_iload_n hx hb dX10_stream_7 rfl (lv_at hl 2 rfl) ?_
    refine k_Si (n := 1) X hw (c_X10_isHour l G _ y) wd_r24_14 wd_r17_3 wd_r1_2 wd_r17_4 ⟨by decide, by decide, by decide +kernel⟩ rfl rfl ⟨Nat.le_of_ble_eq_true rfl, Nat.le_of_ble_eq_true rfl⟩ rfl rfl hl.1 (Nat.le_of_ble_eq_true rfl) dX10_stream_8 ⟨Nat.le_of_ble_eq_true rfl, Nat.le_of_ble_eq_true rfl⟩ (fun r8_5 S8_7 H locs h8_6 hw => ?_)
    rcases h8_6 with ⟨rfl, rfl, h8_6⟩ | ⟨rfl, rfl, h8_6⟩
    · have h8_6 := h8_6
      refine lv_if_eq (tgt := 18) hx hb dX10_stream_11 (by decide) (fun c11_8 => absurd c11_8 (by decide)) (fun c11_8 => ?_)
      refine lv_iconst (v := 1) hx hb dX10_stream_14 (by decide) ?_
      refine lv_goto (tgt := 19) hx hb dX10_stream_15 (by decide) ?_
      refine lv_istore (lv' := [(4, .int 1), (0, .ref (d 0)), (1, .int x), (2, .int y), (3, .int z)]) hx hb dX10_stream_19 hl (by decide) rfl (fun ls hl => ?_)
      refine lv_iload hx hb dX10_stream_21 (lv_at hl 0 rfl) ?_
      refine lv_if_eq (tgt := 39) hx hb dX10_stream_23 (by decide) (fun c23_9 => absurd c23_9 (by decide)) (fun c23_9 => ?_)
      refine lv_aload_n hx hb dX10_stream_26 rfl (lv_at hl 1 rfl) ?_
      refine gf_X10_49 (b := (sa 0)) X hw k0 r76 dX10_stream_27 ?_
      refine lv_iload_n hx hb dX10_stream_30 rfl (lv_at hl 2 rfl) ?_
      refine lv_iload_n hx hb dX10_stream_31 rfl (lv_at hl 3 rfl) ?_
      refine lv_iload_n hx hb dX10_stream_32 rfl (lv_at hl 4 rfl) ?_
      refine k_Vi (n := 3) X hw (rcvk (ci := 3) X hw hS.1 (fun _ _ _ _ _ _ _ => ⟨_, rfl⟩) rfl) (c_v_X3_streamOf l G _ sa x y z hS) wd_r25_8 wd_r19_12 wd_r19_13 wd_r2_9 wd_r19_14 ⟨by decide, by decide, by decide +kernel⟩ rfl rfl ⟨Nat.le_of_ble_eq_true rfl, Nat.le_of_ble_eq_true rfl⟩ rfl rfl hl.1 (Nat.le_of_ble_eq_true rfl) dX10_stream_33 ⟨Nat.le_of_ble_eq_true rfl, Nat.le_of_ble_eq_true rfl⟩ (fun r33_10 S33_12 H locs h33_11 hw => ?_)
      obtain ⟨rfl, h33_11⟩ := h33_11
      have HT9 : r33_10 = (if z = 0 then sr (V.2 (10 + 4 * (x.toNatClampNeg + 1) + 3)) (V.2 (10 + 4 * (x.toNatClampNeg + 1) + 1)) y.toNatClampNeg else sr (V.2 (10 + 4 * (x.toNatClampNeg + 1) + 3)) (V.2 (10 + 4 * (x.toNatClampNeg + 1) + 2)) y.toNatClampNeg) := by rw [h33_11, if_pos (by omega), if_pos (by omega), show qI S (fl sa (x.toNatClampNeg + 1) 1) y.toNatClampNeg = sr (V.2 (10 + 4 * (x.toNatClampNeg + 1) + 3)) (V.2 (10 + 4 * (x.toNatClampNeg + 1) + 1)) y.toNatClampNeg from hCV.w (f := x.toNatClampNeg + 1) (k := 1) (by have := cl_toInt (x := x) (by omega); omega) (Or.inl rfl) (by have := cl_toInt (x := y) (by omega); omega), show qI S (fl sa (x.toNatClampNeg + 1) 2) y.toNatClampNeg = sr (V.2 (10 + 4 * (x.toNatClampNeg + 1) + 3)) (V.2 (10 + 4 * (x.toNatClampNeg + 1) + 2)) y.toNatClampNeg from hCV.w (f := x.toNatClampNeg + 1) (k := 2) (by have := cl_toInt (x := x) (by omega); omega) (Or.inr rfl) (by have := cl_toInt (x := y) (by omega); omega)]
      refine lv_goto (tgt := 41) hx hb dX10_stream_36 (by decide) ?_
      exact hret r33_10 _ _ _ _ _ ⟨rfl, by rw [if_pos (by omega)]; exact HT9⟩ hw rfl dX10_stream_41
    · have h8_6 := h8_6
      refine lv_if_eq (tgt := 18) hx hb dX10_stream_11 (by decide) (fun c11_13 => ?_) (fun c11_13 => absurd c11_13 (by decide))
      refine lv_iconst (v := 0) hx hb dX10_stream_18 (by decide) ?_
      refine lv_istore (lv' := [(4, .int 0), (0, .ref (d 0)), (1, .int x), (2, .int y), (3, .int z)]) hx hb dX10_stream_19 hl (by decide) rfl (fun ls hl => ?_)
      refine lv_iload hx hb dX10_stream_21 (lv_at hl 0 rfl) ?_
      refine lv_if_eq (tgt := 39) hx hb dX10_stream_23 (by decide) (fun c23_14 => ?_) (fun c23_14 => absurd c23_14 (by decide))
      refine lv_bipush (v := -100) hx hb dX10_stream_39 (by decide) ?_
      exact hret (-100) _ _ _ _ _ ⟨rfl, by rw [if_neg (by omega)]⟩ hw rfl dX10_stream_41
  · have h1_2 := h1_2
    refine lv_if_eq (tgt := 18) hx hb dX10_stream_4 (by decide) (fun c4_15 => ?_) (fun c4_15 => absurd c4_15 (by decide))
    refine lv_iconst (v := 0) hx hb dX10_stream_18 (by decide) ?_
    refine lv_istore (lv' := [(4, .int 0), (0, .ref (d 0)), (1, .int x), (2, .int y), (3, .int z)]) hx hb dX10_stream_19 hl (by decide) rfl (fun ls hl => ?_)
    refine lv_iload hx hb dX10_stream_21 (lv_at hl 0 rfl) ?_
    refine lv_if_eq (tgt := 39) hx hb dX10_stream_23 (by decide) (fun c23_16 => ?_) (fun c23_16 => absurd c23_16 (by decide))
    refine lv_bipush (v := -100) hx hb dX10_stream_39 (by decide) ?_
    exact hret (-100) _ _ _ _ _ ⟨rfl, by rw [if_neg (by omega)]⟩ hw rfl dX10_stream_41
set_option maxHeartbeats 4000000 in
set_option maxRecDepth 100000 in
theorem c_v_X10_miss (l : Launch) (G : Gh) (S : Pl) (d sa sb sp te tm pe : Nat → Nat) (tf pf nt np : Nat) (x y : Int32) (bt : Nat → Int32) (V : SV) (hC : CIs G S d sa sb sp te tm pe tf pf nt np) (hN : CIn (pI S) d te pe nt np) (hCV : CV S d sa (pI S 61 (d 1)).toInt bt V) : MtI l yX10_miss cX10_miss 3 (some .int) (Rm 2 0 0) G [.ref (d 0), .int x, .int y] S (fun (r : Int32) (S' : Pl) => S = S' ∧ r = (if 0 ≤ x.toInt ∧ x.toInt < 2 ∧ 0 ≤ y.toInt ∧ y.toInt ≤ 20 then sm (V.2 4) (21 * x.toNatClampNeg + y.toNatClampNeg) else -1)) 0 0 := by
  refine MtI.of (by decide) (Nat.le_of_ble_eq_true rfl) ?_
  intro p e s m args below meth c Q A X hw hin hret ls hl
  have hx := X.1.1
  have hb := X.1.2.1
  have hl : lv_has ls 3 [(0, .ref (d 0)), (1, .int x), (2, .int y)] := hl
  obtain ⟨k0, r70, r71, r72, r73, r74, r75, r76, r77, hR, hS, hB, hSp, ⟨kco, nco⟩, lT, lP, n68, n79, hTl, hPk, hPi, n40⟩ := id hC
  obtain ⟨z92, z93, zw, zz, zst, zs6⟩ := id hN
  have hTp := hR.2.2.2.2.2.2.2
  have n60 := lP.2.2.1
  have oS := hS
  have oTp := hTp
  have oPk := hPk
  refine lv_iload_n hx hb dX10_miss_0 rfl (lv_at hl 1 rfl) ?_
  refine lv_iload_n hx hb dX10_miss_1 rfl (lv_at hl 2 rfl) ?_
  refine lv_bipush (v := 20) hx hb dX10_miss_2 (by decide) ?_
  refine k_Si (n := 3) X hw (c_X10_isMeans l G _ x y 20) wd_r25_21 wd_r16_4 wd_r1_2 wd_r16_5 ⟨by decide, by decide, by decide +kernel⟩ rfl rfl ⟨Nat.le_of_ble_eq_true rfl, Nat.le_of_ble_eq_true rfl⟩ rfl rfl hl.1 (Nat.le_of_ble_eq_true rfl) dX10_miss_4 ⟨Nat.le_of_ble_eq_true rfl, Nat.le_of_ble_eq_true rfl⟩ (fun r4_1 S4_3 H locs h4_2 hw => ?_)
  have := t_20
  rcases h4_2 with ⟨rfl, rfl, h4_2⟩ | ⟨rfl, rfl, h4_2⟩
  · have h4_2 := h4_2
    refine lv_if_eq (tgt := 22) hx hb dX10_miss_7 (by decide) (fun c7_4 => absurd c7_4 (by decide)) (fun c7_4 => ?_)
    refine lv_aload_n hx hb dX10_miss_10 rfl (lv_at hl 0 rfl) ?_
    refine gf_X10_49 (b := (sa 0)) X hw k0 r76 dX10_miss_11 ?_
    refine lv_iload_n hx hb dX10_miss_14 rfl (lv_at hl 1 rfl) ?_
    refine lv_iload_n hx hb dX10_miss_15 rfl (lv_at hl 2 rfl) ?_
    refine k_Vi (n := 2) X hw (rcvk (ci := 3) X hw hS.1 (fun _ _ _ _ _ _ _ => ⟨_, rfl⟩) rfl) (c_v_X3_missOf l G _ sa x y hS) wd_r25_22 wd_r16_12 wd_r16_13 wd_r2_9 wd_r16_14 ⟨by decide, by decide, by decide +kernel⟩ rfl rfl ⟨Nat.le_of_ble_eq_true rfl, Nat.le_of_ble_eq_true rfl⟩ rfl rfl hl.1 (Nat.le_of_ble_eq_true rfl) dX10_miss_16 ⟨Nat.le_of_ble_eq_true rfl, Nat.le_of_ble_eq_true rfl⟩ (fun r16_5 S16_7 H locs h16_6 hw => ?_)
    obtain ⟨rfl, h16_6⟩ := h16_6
    have HT9 : r16_5 = sm (V.2 4) (21 * x.toNatClampNeg + y.toNatClampNeg) := by rw [h16_6, if_pos (by have := t_20; omega)]; exact hCV.m (i := mix x y) (show 21 * x.toNatClampNeg + y.toNatClampNeg < 42 by have := t_20; have := cl_toInt (x := x) (by omega); have := cl_toInt (x := y) (by omega); omega)
    refine lv_goto (tgt := 23) hx hb dX10_miss_19 (by decide) ?_
    exact hret r16_5 _ _ _ _ _ ⟨rfl, by rw [if_pos (by have := t_20; omega)]; exact HT9⟩ hw rfl dX10_miss_23
  · have h4_2 := h4_2
    refine lv_if_eq (tgt := 22) hx hb dX10_miss_7 (by decide) (fun c7_8 => ?_) (fun c7_8 => absurd c7_8 (by decide))
    refine lv_iconst (v := -1) hx hb dX10_miss_22 (by decide) ?_
    exact hret (-1) _ _ _ _ _ ⟨rfl, by rw [if_neg (by have := t_20; omega)]⟩ hw rfl dX10_miss_23
set_option maxHeartbeats 4000000 in
set_option maxRecDepth 100000 in
theorem c_v_X10_land (l : Launch) (G : Gh) (S : Pl) (d sa sb sp te tm pe : Nat → Nat) (tf pf nt np : Nat) (x : Int32) (bt : Nat → Int32) (V : SV) (hC : CIs G S d sa sb sp te tm pe tf pf nt np) (hN : CIn (pI S) d te pe nt np) (hCV : CV S d sa (pI S 61 (d 1)).toInt bt V) : MtI l yX10_land cX10_land 2 (some .int) (Rm 2 0 0) G [.ref (d 0), .int x] S (fun (r : Int32) (S' : Pl) => S = S' ∧ r = (if 0 ≤ x.toInt ∧ x.toInt < 64 then (if V.2 3 x.toNatClampNeg = 0 then 0 else 1) else -1)) 0 0 := by
  refine MtI.of (by decide) (Nat.le_of_ble_eq_true rfl) ?_
  intro p e s m args below meth c Q A X hw hin hret ls hl
  have hx := X.1.1
  have hb := X.1.2.1
  have hl : lv_has ls 2 [(0, .ref (d 0)), (1, .int x)] := hl
  obtain ⟨k0, r70, r71, r72, r73, r74, r75, r76, r77, hR, hS, hB, hSp, ⟨kco, nco⟩, lT, lP, n68, n79, hTl, hPk, hPi, n40⟩ := id hC
  obtain ⟨z92, z93, zw, zz, zst, zs6⟩ := id hN
  have hTp := hR.2.2.2.2.2.2.2
  have n60 := lP.2.2.1
  have oS := hS
  have oTp := hTp
  have oPk := hPk
  refine lv_iload_n hx hb dX10_land_0 rfl (lv_at hl 1 rfl) ?_
  refine k_Si (n := 1) X hw (c_X10_isCell l G _ x) wd_r26_14 wd_r15_22 wd_r1_2 wd_r15_23 ⟨by decide, by decide, by decide +kernel⟩ rfl rfl ⟨Nat.le_of_ble_eq_true rfl, Nat.le_of_ble_eq_true rfl⟩ rfl rfl hl.1 (Nat.le_of_ble_eq_true rfl) dX10_land_1 ⟨Nat.le_of_ble_eq_true rfl, Nat.le_of_ble_eq_true rfl⟩ (fun r1_1 S1_3 H locs h1_2 hw => ?_)
  rcases h1_2 with ⟨rfl, rfl, h1_2⟩ | ⟨rfl, rfl, h1_2⟩
  · have h1_2 := h1_2
    refine lv_if_ne (tgt := 9) hx hb dX10_land_4 (by decide) (fun c4_4 => ?_) (fun c4_4 => absurd c4_4 (by decide))
    have e39 : qI S (sa 3) x.toNatClampNeg = V.2 3 x.toNatClampNeg := hCV.l (by have := cl_toInt (x := x) (by omega); omega)
    refine lv_aload_n hx hb dX10_land_9 rfl (lv_at hl 0 rfl) ?_
    refine gf_X10_49 (b := (sa 0)) X hw k0 r76 dX10_land_10 ?_
    refine lv_iload_n hx hb dX10_land_13 rfl (lv_at hl 1 rfl) ?_
    refine k_Vi (n := 1) X hw (rcvk (ci := 3) X hw hS.1 (fun _ _ _ _ _ _ _ => ⟨_, rfl⟩) rfl) (c_v_X3_hasLand l G _ sa x hS) wd_r26_15 wd_r15_19 wd_r15_20 wd_r2_9 wd_r15_21 ⟨by decide, by decide, by decide +kernel⟩ rfl rfl ⟨Nat.le_of_ble_eq_true rfl, Nat.le_of_ble_eq_true rfl⟩ rfl rfl hl.1 (Nat.le_of_ble_eq_true rfl) dX10_land_14 ⟨Nat.le_of_ble_eq_true rfl, Nat.le_of_ble_eq_true rfl⟩ (fun r14_5 S14_7 H locs h14_6 hw => ?_)
    rcases h14_6 with ⟨rfl, rfl, h14_6⟩ | ⟨rfl, rfl, h14_6⟩
    · have h14_6 := h14_6
      refine lv_if_eq (tgt := 24) hx hb dX10_land_17 (by decide) (fun c17_8 => absurd c17_8 (by decide)) (fun c17_8 => ?_)
      refine lv_iconst (v := 1) hx hb dX10_land_20 (by decide) ?_
      refine lv_goto (tgt := 25) hx hb dX10_land_21 (by decide) ?_
      exact hret 1 _ _ _ _ _ ⟨rfl, by rw [if_pos (by omega), if_neg (fun q9 => (show (0 ≤ x.toInt ∧ x.toInt < 64 ∧ ¬ qI S (sa 3) x.toNatClampNeg = 0) by assumption).2.2 (e39.trans q9))]⟩ hw rfl dX10_land_25
    · have h14_6 := h14_6
      refine lv_if_eq (tgt := 24) hx hb dX10_land_17 (by decide) (fun c17_9 => ?_) (fun c17_9 => absurd c17_9 (by decide))
      refine lv_iconst (v := 0) hx hb dX10_land_24 (by decide) ?_
      exact hret 0 _ _ _ _ _ ⟨rfl, by rw [if_pos (by omega), if_pos (Classical.byContradiction fun q9 => (show ¬ (0 ≤ x.toInt ∧ x.toInt < 64 ∧ ¬ qI S (sa 3) x.toNatClampNeg = 0) by assumption) ⟨by omega, by omega, fun z9 => q9 (e39.symm.trans z9)⟩)]⟩ hw rfl dX10_land_25
  · have h1_2 := h1_2
    refine lv_if_ne (tgt := 9) hx hb dX10_land_4 (by decide) (fun c4_10 => absurd c4_10 (by decide)) (fun c4_10 => ?_)
    refine lv_iconst (v := -1) hx hb dX10_land_7 (by decide) ?_
    exact hret (-1) _ _ _ _ _ ⟨rfl, by rw [if_neg (by omega)]⟩ hw rfl dX10_land_8
set_option maxHeartbeats 4000000 in
set_option maxRecDepth 100000 in
theorem c_v_X10_about (l : Launch) (G : Gh) (S : Pl) (d sa sb sp te tm pe : Nat → Nat) (tf pf nt np : Nat) (x : Int32) (bt : Nat → Int32) (V : SV) (hC : CIs G S d sa sb sp te tm pe tf pf nt np) (hN : CIn (pI S) d te pe nt np) (hCV : CV S d sa (pI S 61 (d 1)).toInt bt V) : MtI l yX10_about cX10_about 2 (some .int) (Rm 1 0 0) G [.ref (d 0), .int x] S (fun (r : Int32) (S' : Pl) => S = S' ∧ r.toInt = abt x V.1 nt np (cntB (fun k => pI S 0 (pe k)) np) (pI S 61 (d 1)).toInt) 0 0 := by
  refine MtI.of (by decide) (Nat.le_of_ble_eq_true rfl) ?_
  intro p e s m args below meth c Q A X hw hin hret ls hl
  have hx := X.1.1
  have hb := X.1.2.1
  have hl : lv_has ls 2 [(0, .ref (d 0)), (1, .int x)] := hl
  obtain ⟨k0, r70, r71, r72, r73, r74, r75, r76, r77, hR, hS, hB, hSp, ⟨kco, nco⟩, lT, lP, n68, n79, hTl, hPk, hPi, n40⟩ := id hC
  obtain ⟨z92, z93, zw, zz, zst, zs6⟩ := id hN
  have hTp := hR.2.2.2.2.2.2.2
  have n60 := lP.2.2.1
  have oS := hS
  have oTp := hTp
  have oPk := hPk
  refine lv_iload_n hx hb dX10_about_0 rfl (lv_at hl 1 rfl) ?_
  by_cases k1_1 : x = 0
  · refine lv_tableIn (tgt := 36) hx hb dX10_about_1 (by rw [k1_1]; decide) (by rw [k1_1]; decide) (by rw [k1_1]; rfl) (by decide) ?_
    refine lv_aload_n hx hb dX10_about_36 rfl (lv_at hl 0 rfl) ?_
    refine gf_X10_49 (b := (sa 0)) X hw k0 r76 dX10_about_37 ?_
    refine k_Vi (n := 0) X hw (rcvk (ci := 3) X hw hS.1 (fun _ _ _ _ _ _ _ => ⟨_, rfl⟩) rfl) (c_X3_lines l G _ sa hS) wd_r20_4 wd_r14_4 wd_r14_5 wd_r2_9 wd_r14_6 ⟨by decide, by decide, by decide +kernel⟩ rfl rfl ⟨Nat.le_of_ble_eq_true rfl, Nat.le_of_ble_eq_true rfl⟩ rfl rfl hl.1 (Nat.le_of_ble_eq_true rfl) dX10_about_40 ⟨Nat.le_of_ble_eq_true rfl, Nat.le_of_ble_eq_true rfl⟩ (fun r40_2 S40_4 H locs h40_3 hw => ?_)
    obtain ⟨rfl, h40_3⟩ := h40_3
    have HL9 := (congrArg Int32.toInt h40_3).trans hCV.2.2.1
    exact hret r40_2 _ _ _ _ _ ⟨rfl, HL9.trans (abt_0 (by assumption)).symm⟩ hw rfl dX10_about_43
  have D1_1 := iNe k1_1 rfl t_0
  by_cases k1_5 : x = 1
  · refine lv_tableIn (tgt := 44) hx hb dX10_about_1 (by rw [k1_5]; decide) (by rw [k1_5]; decide) (by rw [k1_5]; rfl) (by decide) ?_
    refine lv_aload_n hx hb dX10_about_44 rfl (lv_at hl 0 rfl) ?_
    refine gf_X10_28 (b := (d 6)) X hw k0 r72 dX10_about_45 ?_
    refine k_Vi (n := 0) X hw (rcvk (ci := 0) X hw lT.1 (fun _ _ _ _ _ _ _ => ⟨_, rfl⟩) rfl) (c_Jx4a65c_size_8abf5 l G _ (d 6) lT.1) wd_r18_1 wd_r18_2 wd_r18_3 wd_r1_22 wd_r18_4 ⟨by decide, by decide, by decide +kernel⟩ rfl rfl ⟨Nat.le_of_ble_eq_true rfl, Nat.le_of_ble_eq_true rfl⟩ rfl rfl hl.1 (Nat.le_of_ble_eq_true rfl) dX10_about_48 ⟨Nat.le_of_ble_eq_true rfl, Nat.le_of_ble_eq_true rfl⟩ (fun r48_6 S48_8 H locs h48_7 hw => ?_)
    obtain ⟨rfl, h48_7⟩ := h48_7
    have h48_7t : r48_6.toInt = ((pI S) 92 (d 6)).toInt := congrArg Int32.toInt h48_7
    exact hret r48_6 _ _ _ _ _ ⟨rfl, by rw [abt_1 (by assumption)]; omega⟩ hw rfl dX10_about_51
  have D1_5 := iNe k1_5 rfl t_1
  by_cases k1_9 : x = 2
  · refine lv_tableIn (tgt := 52) hx hb dX10_about_1 (by rw [k1_9]; decide) (by rw [k1_9]; decide) (by rw [k1_9]; rfl) (by decide) ?_
    refine lv_aload_n hx hb dX10_about_52 rfl (lv_at hl 0 rfl) ?_
    refine gf_X10_32 (b := (d 8)) X hw k0 r73 dX10_about_53 ?_
    refine k_Vi (n := 0) X hw (rcvk (ci := 0) X hw lP.1 (fun _ _ _ _ _ _ _ => ⟨_, rfl⟩) rfl) (c_Jx4a65c_size_8abf5 l G _ (d 8) lP.1) wd_r18_1 wd_r18_2 wd_r18_3 wd_r1_22 wd_r18_4 ⟨by decide, by decide, by decide +kernel⟩ rfl rfl ⟨Nat.le_of_ble_eq_true rfl, Nat.le_of_ble_eq_true rfl⟩ rfl rfl hl.1 (Nat.le_of_ble_eq_true rfl) dX10_about_56 ⟨Nat.le_of_ble_eq_true rfl, Nat.le_of_ble_eq_true rfl⟩ (fun r56_10 S56_12 H locs h56_11 hw => ?_)
    obtain ⟨rfl, h56_11⟩ := h56_11
    have h56_11t : r56_10.toInt = ((pI S) 92 (d 8)).toInt := congrArg Int32.toInt h56_11
    exact hret r56_10 _ _ _ _ _ ⟨rfl, by rw [abt_2 (by assumption)]; omega⟩ hw rfl dX10_about_59
  have D1_9 := iNe k1_9 rfl t_2
  by_cases k1_13 : x = 3
  · refine lv_tableIn (tgt := 60) hx hb dX10_about_1 (by rw [k1_13]; decide) (by rw [k1_13]; decide) (by rw [k1_13]; rfl) (by decide) ?_
    refine lv_aload_n hx hb dX10_about_60 rfl (lv_at hl 0 rfl) ?_
    refine gf_X10_179 (v := (pI S) 78 (d 0)) X hw k0 rfl dX10_about_61 ?_
    exact hret ((pI S) 78 (d 0)) _ _ _ _ _ ⟨rfl, zst.trans (abt_3 (by assumption)).symm⟩ hw rfl dX10_about_64
  have D1_13 := iNe k1_13 rfl t_3
  by_cases k1_14 : x = 4
  · refine lv_tableIn (tgt := 65) hx hb dX10_about_1 (by rw [k1_14]; decide) (by rw [k1_14]; decide) (by rw [k1_14]; rfl) (by decide) ?_
    refine lv_aload_n hx hb dX10_about_65 rfl (lv_at hl 0 rfl) ?_
    refine gf_X10_10 (b := (d 1)) X hw k0 r70 dX10_about_66 ?_
    refine k_Vi (n := 0) X hw (rcvk (ci := 8) X hw hTp.1 (fun _ _ _ _ _ _ _ => ⟨_, rfl⟩) rfl) (c_X8_size l G _ (d 1) (d 2) hTp) wd_r7_4 wd_r7_5 wd_r7_6 wd_r1_14 wd_r7_7 ⟨by decide, by decide, by decide +kernel⟩ rfl rfl ⟨Nat.le_of_ble_eq_true rfl, Nat.le_of_ble_eq_true rfl⟩ rfl rfl hl.1 (Nat.le_of_ble_eq_true rfl) dX10_about_69 ⟨Nat.le_of_ble_eq_true rfl, Nat.le_of_ble_eq_true rfl⟩ (fun r69_15 S69_17 H locs h69_16 hw => ?_)
    obtain ⟨rfl, h69_16⟩ := h69_16
    have HL9 := congrArg Int32.toInt h69_16
    exact hret r69_15 _ _ _ _ _ ⟨rfl, HL9.trans (abt_4 (by assumption)).symm⟩ hw rfl dX10_about_72
  have D1_14 := iNe k1_14 rfl t_4
  refine lv_tableOut (tgt := 73) hx hb dX10_about_1 (by omega) (by decide) ?_
  refine lv_iconst (v := -1) hx hb dX10_about_73 (by decide) ?_
  exact hret (-1) _ _ _ _ _ ⟨rfl, by rw [abt_n (by omega)]; decide⟩ hw rfl dX10_about_74
set_option maxHeartbeats 4000000 in
set_option maxRecDepth 100000 in
theorem c_v_X11_about (l : Launch) (G : Gh) (S : Pl) (ma : Nat → Nat) (x : Int32) (bk : Nat) (V : SV) (hM : shMod S ma) (hI : mInv (pI S) (qI S) ma) (hbk : (pI S 120 (ma 0)).toInt = (bk : Int)) (hbk1 : bk ≤ 1) (hl12 : (qI S (ma 12) bk).toInt = V.1) : MtI l yX11_about cX11_about 2 (some .int) (Rm 1 0 0) G [.ref (ma 0), .int x] S (fun (r : Int32) (S' : Pl) => S = S' ∧ r.toInt = abt x V.1 (pI S 128 (ma 0)).toInt.toNat (pI S 140 (ma 0)).toInt.toNat (cntB (qI S (ma 40)) (pI S 140 (ma 0)).toInt.toNat) (pI S 102 (ma 0)).toInt) 0 0 := by
  refine MtI.of (by decide) (Nat.le_of_ble_eq_true rfl) ?_
  intro p e s m args below meth c Q A X hw hin hret ls hl
  have hx := X.1.1
  have hb := X.1.2.1
  have hl : lv_has ls 2 [(0, .ref (ma 0)), (1, .int x)] := hl
  obtain ⟨⟨b1, b2, b3, b4, b5, b6⟩, hT, hP, hC⟩ := id hI
  refine lv_iload_n hx hb dX11_about_0 rfl (lv_at hl 1 rfl) ?_
  by_cases k1_1 : x = 0
  · refine lv_tableIn (tgt := 36) hx hb dX11_about_1 (by rw [k1_1]; decide) (by rw [k1_1]; decide) (by rw [k1_1]; rfl) (by decide) ?_
    refine lv_aload_n hx hb dX11_about_36 rfl (lv_at hl 0 rfl) ?_
    refine gf_X11_61 (b := (ma 12)) X hw hM.1 (mr_12 hM) dX11_about_37 ?_
    refine lv_aload_n hx hb dX11_about_40 rfl (lv_at hl 0 rfl) ?_
    refine gf_X11_146 (v := (pI S) 120 (ma 0)) X hw hM.1 rfl dX11_about_41 ?_
    refine q_ldI X hw (mk_12 hM) (vin (mn_12 hM) (by omega) (by omega)) dX11_about_44 ?_
    refine lv_topi (fun v44_2 e44_2 => ?_)
    have e44_2 : v44_2 = (qI S) (ma 12) (((pI S) 120 (ma 0)).toNatClampNeg) := e44_2
    have HL9 : v44_2.toInt = V.1 := by rw [e44_2, show (pI S 120 (ma 0)).toNatClampNeg = bk by have := cl_toInt (x := pI S 120 (ma 0)) (by omega); omega]; exact hl12
    exact hret v44_2 _ _ _ _ _ ⟨rfl, HL9.trans (abt_0 (by assumption)).symm⟩ hw rfl dX11_about_45
  have D1_1 := iNe k1_1 rfl t_0
  by_cases k1_3 : x = 1
  · refine lv_tableIn (tgt := 46) hx hb dX11_about_1 (by rw [k1_3]; decide) (by rw [k1_3]; decide) (by rw [k1_3]; rfl) (by decide) ?_
    refine lv_aload_n hx hb dX11_about_46 rfl (lv_at hl 0 rfl) ?_
    refine gf_X11_224 (v := (pI S) 128 (ma 0)) X hw hM.1 rfl dX11_about_47 ?_
    exact hret ((pI S) 128 (ma 0)) _ _ _ _ _ ⟨rfl, by rw [abt_1 (by assumption)]; omega⟩ hw rfl dX11_about_50
  have D1_3 := iNe k1_3 rfl t_1
  by_cases k1_4 : x = 2
  · refine lv_tableIn (tgt := 51) hx hb dX11_about_1 (by rw [k1_4]; decide) (by rw [k1_4]; decide) (by rw [k1_4]; rfl) (by decide) ?_
    refine lv_aload_n hx hb dX11_about_51 rfl (lv_at hl 0 rfl) ?_
    refine gf_X11_252 (v := (pI S) 140 (ma 0)) X hw hM.1 rfl dX11_about_52 ?_
    exact hret ((pI S) 140 (ma 0)) _ _ _ _ _ ⟨rfl, by rw [abt_2 (by assumption)]; omega⟩ hw rfl dX11_about_55
  have D1_4 := iNe k1_4 rfl t_2
  by_cases k1_5 : x = 3
  · refine lv_tableIn (tgt := 56) hx hb dX11_about_1 (by rw [k1_5]; decide) (by rw [k1_5]; decide) (by rw [k1_5]; rfl) (by decide) ?_
    refine lv_aload_n hx hb dX11_about_56 rfl (lv_at hl 0 rfl) ?_
    refine k_Vi (n := 0) X hw (rcvk (ci := 11) X hw hM.1 (fun _ _ _ _ _ _ _ => ⟨_, rfl⟩) rfl) (c_X11_standing l G _ ma hM hI) wd_r33_21 wd_r33_22 wd_r33_23 wd_r1_5 wd_r34_0 ⟨by decide, by decide, by decide +kernel⟩ rfl rfl ⟨Nat.le_of_ble_eq_true rfl, Nat.le_of_ble_eq_true rfl⟩ rfl rfl hl.1 (Nat.le_of_ble_eq_true rfl) dX11_about_57 ⟨Nat.le_of_ble_eq_true rfl, Nat.le_of_ble_eq_true rfl⟩ (fun r57_6 S57_8 H locs h57_7 hw => ?_)
    obtain ⟨rfl, h57_7⟩ := h57_7
    have HST := h57_7
    exact hret r57_6 _ _ _ _ _ ⟨rfl, HST.trans (abt_3 (by assumption)).symm⟩ hw rfl dX11_about_60
  have D1_5 := iNe k1_5 rfl t_3
  by_cases k1_9 : x = 4
  · refine lv_tableIn (tgt := 61) hx hb dX11_about_1 (by rw [k1_9]; decide) (by rw [k1_9]; decide) (by rw [k1_9]; rfl) (by decide) ?_
    refine lv_aload_n hx hb dX11_about_61 rfl (lv_at hl 0 rfl) ?_
    refine gf_X11_143 (v := (pI S) 102 (ma 0)) X hw hM.1 rfl dX11_about_62 ?_
    exact hret ((pI S) 102 (ma 0)) _ _ _ _ _ ⟨rfl, by rw [abt_4 (by assumption)]⟩ hw rfl dX11_about_65
  have D1_9 := iNe k1_9 rfl t_4
  refine lv_tableOut (tgt := 66) hx hb dX11_about_1 (by omega) (by decide) ?_
  refine lv_iconst (v := -1) hx hb dX11_about_66 (by decide) ?_
  exact hret (-1) _ _ _ _ _ ⟨rfl, by rw [abt_n (by omega)]; decide⟩ hw rfl dX11_about_67
set_option maxHeartbeats 4000000 in
set_option maxRecDepth 100000 in
theorem c_v_X10_feed (l : Launch) (G : Gh) (S : Pl) (d sa sb sp te tm pe : Nat → Nat) (tf pf nt np : Nat) (a1 a2 a3 a4 a5 : Int32) (tn : Nat) (hC : CIs G S d sa sb sp te tm pe tf pf nt np) (hN : CIn (pI S) d te pe nt np) (hn : (pI S 61 (d 1)).toInt = (tn : Int)) : MtI l yX10_feed cX10_feed 6 (some .int) (Rm 1 0 0) G [.ref (d 0), .int a1, .int a2, .int a3, .int a4, .int a5] S (fun (r : Int32) (S' : Pl) => ∃ I' q', ch S I' (pJ S) q' (qJ S) = S' ∧ ((∀ f, f ≠ 61 → I' f = pI S f) ∧ (I' 61 (d 1)).toInt = fdN (pI S 61 (d 1)).toInt) ∧ (((pI S 61 (d 1)).toInt ≤ 980 → q' (d 2) = fd5 (qI S (d 2)) tn a1 a2 a3 a4 a5) ∧ (¬ (pI S 61 (d 1)).toInt ≤ 980 → q' (d 2) = qI S (d 2)) ∧ ∀ a, a ≠ d 2 → q' a = qI S a) ∧ r.toInt = fdR (pI S 61 (d 1)).toInt) 0 0 := by
  refine MtI.of (by decide) (Nat.le_of_ble_eq_true rfl) ?_
  intro p e s m args below meth c Q A X hw hin hret ls hl
  have hx := X.1.1
  have hb := X.1.2.1
  have hl : lv_has ls 6 [(0, .ref (d 0)), (1, .int a1), (2, .int a2), (3, .int a3), (4, .int a4), (5, .int a5)] := hl
  obtain ⟨k0, r70, r71, r72, r73, r74, r75, r76, r77, hR, hS, hB, hSp, ⟨kco, nco⟩, lT, lP, n68, n79, hTl, hPk, hPi, n40⟩ := id hC
  obtain ⟨z92, z93, zw, zz, zst, zs6⟩ := id hN
  have hTp := hR.2.2.2.2.2.2.2
  have n60 := lP.2.2.1
  have oS := hS
  have oTp := hTp
  have oPk := hPk
  refine lv_aload_n hx hb dX10_feed_0 rfl (lv_at hl 0 rfl) ?_
  refine gf_X10_10 (b := (d 1)) X hw k0 r70 dX10_feed_1 ?_
  refine lv_bipush (v := 20) hx hb dX10_feed_4 (by decide) ?_
  refine k_Vi (n := 1) X hw (rcvk (ci := 8) X hw hTp.1 (fun _ _ _ _ _ _ _ => ⟨_, rfl⟩) rfl) (c_X8_hasRoom l G _ (d 1) (d 2) 20 hTp zz (by have := t_20; omega)) wd_r6_19 wd_r6_20 wd_r6_21 wd_r1_14 wd_r6_22 ⟨by decide, by decide, by decide +kernel⟩ rfl rfl ⟨Nat.le_of_ble_eq_true rfl, Nat.le_of_ble_eq_true rfl⟩ rfl rfl hl.1 (Nat.le_of_ble_eq_true rfl) dX10_feed_6 ⟨Nat.le_of_ble_eq_true rfl, Nat.le_of_ble_eq_true rfl⟩ (fun r6_1 S6_3 H locs h6_2 hw => ?_)
  have := t_20
  rcases h6_2 with ⟨rfl, rfl, h6_2⟩ | ⟨rfl, rfl, h6_2⟩
  · have h6_2 := h6_2
    refine lv_if_ne (tgt := 14) hx hb dX10_feed_9 (by decide) (fun c9_4 => ?_) (fun c9_4 => absurd c9_4 (by decide))
    refine lv_aload_n hx hb dX10_feed_14 rfl (lv_at hl 0 rfl) ?_
    refine gf_X10_10 (b := (d 1)) X hw k0 r70 dX10_feed_15 ?_
    refine lv_iload_n hx hb dX10_feed_18 rfl (lv_at hl 1 rfl) ?_
    refine k_Vv (n := 1) X hw (rcvk (ci := 8) X hw hTp.1 (fun _ _ _ _ _ _ _ => ⟨_, rfl⟩) rfl) (c_v_X8_add l G _ (d 1) (d 2) tn a1 hTp (show 0 ≤ ((pI S) 61 (d 1)).toInt ∧ ((pI S) 61 (d 1)).toInt ≤ 996 by omega) (show ((pI S) 61 (d 1)).toInt = _ by omega)) wd_r7_0 wd_r7_1 wd_r7_2 wd_r1_14 wd_r7_3 ⟨by decide, by decide, by decide +kernel⟩ rfl rfl ⟨Nat.le_of_ble_eq_true rfl, Nat.le_of_ble_eq_true rfl⟩ rfl rfl hl.1 (Nat.le_of_ble_eq_true rfl) dX10_feed_19 ⟨Nat.le_of_ble_eq_true rfl, Nat.le_of_ble_eq_true rfl⟩ (fun S19_6 H locs h19_5 hw => ?_)
    obtain ⟨I19_7, q19_8, rfl, h19_5⟩ := h19_5
    have hw : PX G A s.heap (ch S I19_7 (pJ S) q19_8 (qJ S)) H locs := hw
    have q19 := h19_5
    have g19 : (I19_7 61 (d 1)).toInt = ((pI S) 61 (d 1)).toInt + 4 := h19_5.2.1
    have u19 := h19_5.2.2.1
    have w19 := h19_5.2.2.2
    refine lv_aload_n hx hb dX10_feed_22 rfl (lv_at hl 0 rfl) ?_
    refine gf_X10_10 (b := (d 1)) X hw k0 r70 dX10_feed_23 ?_
    refine lv_iload_n hx hb dX10_feed_26 rfl (lv_at hl 2 rfl) ?_
    refine k_Vv (n := 1) X hw (rcvk (ci := 8) X hw hTp.1 (fun _ _ _ _ _ _ _ => ⟨_, rfl⟩) rfl) (c_v_X8_add l G _ (d 1) (d 2) (tn + 4) a2 hTp (show 0 ≤ (I19_7 61 (d 1)).toInt ∧ (I19_7 61 (d 1)).toInt ≤ 996 by omega) (show (I19_7 61 (d 1)).toInt = _ by omega)) wd_r7_0 wd_r7_1 wd_r7_2 wd_r1_14 wd_r7_3 ⟨by decide, by decide, by decide +kernel⟩ rfl rfl ⟨Nat.le_of_ble_eq_true rfl, Nat.le_of_ble_eq_true rfl⟩ rfl rfl hl.1 (Nat.le_of_ble_eq_true rfl) dX10_feed_27 ⟨Nat.le_of_ble_eq_true rfl, Nat.le_of_ble_eq_true rfl⟩ (fun S27_10 H locs h27_9 hw => ?_)
    obtain ⟨I27_11, q27_12, rfl, h27_9⟩ := h27_9
    have hw : PX G A s.heap (ch S I27_11 (pJ S) q27_12 (qJ S)) H locs := hw
    have q27 := h27_9
    have g27 : (I27_11 61 (d 1)).toInt = (I19_7 61 (d 1)).toInt + 4 := h27_9.2.1
    have u27 := h27_9.2.2.1
    have w27 := h27_9.2.2.2
    refine lv_aload_n hx hb dX10_feed_30 rfl (lv_at hl 0 rfl) ?_
    refine gf_X10_10 (b := (d 1)) X hw k0 r70 dX10_feed_31 ?_
    refine lv_iload_n hx hb dX10_feed_34 rfl (lv_at hl 3 rfl) ?_
    refine k_Vv (n := 1) X hw (rcvk (ci := 8) X hw hTp.1 (fun _ _ _ _ _ _ _ => ⟨_, rfl⟩) rfl) (c_v_X8_add l G _ (d 1) (d 2) (tn + 8) a3 hTp (show 0 ≤ (I27_11 61 (d 1)).toInt ∧ (I27_11 61 (d 1)).toInt ≤ 996 by omega) (show (I27_11 61 (d 1)).toInt = _ by omega)) wd_r7_0 wd_r7_1 wd_r7_2 wd_r1_14 wd_r7_3 ⟨by decide, by decide, by decide +kernel⟩ rfl rfl ⟨Nat.le_of_ble_eq_true rfl, Nat.le_of_ble_eq_true rfl⟩ rfl rfl hl.1 (Nat.le_of_ble_eq_true rfl) dX10_feed_35 ⟨Nat.le_of_ble_eq_true rfl, Nat.le_of_ble_eq_true rfl⟩ (fun S35_14 H locs h35_13 hw => ?_)
    obtain ⟨I35_15, q35_16, rfl, h35_13⟩ := h35_13
    have hw : PX G A s.heap (ch S I35_15 (pJ S) q35_16 (qJ S)) H locs := hw
    have q35 := h35_13
    have g35 : (I35_15 61 (d 1)).toInt = (I27_11 61 (d 1)).toInt + 4 := h35_13.2.1
    have u35 := h35_13.2.2.1
    have w35 := h35_13.2.2.2
    refine lv_aload_n hx hb dX10_feed_38 rfl (lv_at hl 0 rfl) ?_
    refine gf_X10_10 (b := (d 1)) X hw k0 r70 dX10_feed_39 ?_
    refine lv_iload hx hb dX10_feed_42 (lv_at hl 4 rfl) ?_
    refine k_Vv (n := 1) X hw (rcvk (ci := 8) X hw hTp.1 (fun _ _ _ _ _ _ _ => ⟨_, rfl⟩) rfl) (c_v_X8_add l G _ (d 1) (d 2) (tn + 12) a4 hTp (show 0 ≤ (I35_15 61 (d 1)).toInt ∧ (I35_15 61 (d 1)).toInt ≤ 996 by omega) (show (I35_15 61 (d 1)).toInt = _ by omega)) wd_r7_0 wd_r7_1 wd_r7_2 wd_r1_14 wd_r7_3 ⟨by decide, by decide, by decide +kernel⟩ rfl rfl ⟨Nat.le_of_ble_eq_true rfl, Nat.le_of_ble_eq_true rfl⟩ rfl rfl hl.1 (Nat.le_of_ble_eq_true rfl) dX10_feed_44 ⟨Nat.le_of_ble_eq_true rfl, Nat.le_of_ble_eq_true rfl⟩ (fun S44_18 H locs h44_17 hw => ?_)
    obtain ⟨I44_19, q44_20, rfl, h44_17⟩ := h44_17
    have hw : PX G A s.heap (ch S I44_19 (pJ S) q44_20 (qJ S)) H locs := hw
    have q44 := h44_17
    have g44 : (I44_19 61 (d 1)).toInt = (I35_15 61 (d 1)).toInt + 4 := h44_17.2.1
    have u44 := h44_17.2.2.1
    have w44 := h44_17.2.2.2
    refine lv_aload_n hx hb dX10_feed_47 rfl (lv_at hl 0 rfl) ?_
    refine gf_X10_10 (b := (d 1)) X hw k0 r70 dX10_feed_48 ?_
    refine lv_iload hx hb dX10_feed_51 (lv_at hl 5 rfl) ?_
    refine k_Vv (n := 1) X hw (rcvk (ci := 8) X hw hTp.1 (fun _ _ _ _ _ _ _ => ⟨_, rfl⟩) rfl) (c_v_X8_add l G _ (d 1) (d 2) (tn + 16) a5 hTp (show 0 ≤ (I44_19 61 (d 1)).toInt ∧ (I44_19 61 (d 1)).toInt ≤ 996 by omega) (show (I44_19 61 (d 1)).toInt = _ by omega)) wd_r7_0 wd_r7_1 wd_r7_2 wd_r1_14 wd_r7_3 ⟨by decide, by decide, by decide +kernel⟩ rfl rfl ⟨Nat.le_of_ble_eq_true rfl, Nat.le_of_ble_eq_true rfl⟩ rfl rfl hl.1 (Nat.le_of_ble_eq_true rfl) dX10_feed_53 ⟨Nat.le_of_ble_eq_true rfl, Nat.le_of_ble_eq_true rfl⟩ (fun S53_22 H locs h53_21 hw => ?_)
    obtain ⟨I53_23, q53_24, rfl, h53_21⟩ := h53_21
    have hw : PX G A s.heap (ch S I53_23 (pJ S) q53_24 (qJ S)) H locs := hw
    have q53 := h53_21
    have g53 : (I53_23 61 (d 1)).toInt = (I44_19 61 (d 1)).toInt + 4 := h53_21.2.1
    have u53 := h53_21.2.2.1
    have w53 := h53_21.2.2.2
    have FD9 : q53_24 (d 2) = fd5 (qI S (d 2)) tn a1 a2 a3 a4 a5 := u53.trans (congrArg (fun z9 => ad4 z9 (tn + 16) a5) (u44.trans (congrArg (fun z9 => ad4 z9 (tn + 12) a4) (u35.trans (congrArg (fun z9 => ad4 z9 (tn + 8) a3) (u27.trans (congrArg (fun z9 => ad4 z9 (tn + 4) a2) (u19))))))))
    refine lv_aload_n hx hb dX10_feed_56 rfl (lv_at hl 0 rfl) ?_
    refine gf_X10_10 (b := (d 1)) X hw k0 r70 dX10_feed_57 ?_
    refine k_Vi (n := 0) X hw (rcvk (ci := 8) X hw hTp.1 (fun _ _ _ _ _ _ _ => ⟨_, rfl⟩) rfl) (c_X8_size l G _ (d 1) (d 2) hTp) wd_r7_4 wd_r7_5 wd_r7_6 wd_r1_14 wd_r7_7 ⟨by decide, by decide, by decide +kernel⟩ rfl rfl ⟨Nat.le_of_ble_eq_true rfl, Nat.le_of_ble_eq_true rfl⟩ rfl rfl hl.1 (Nat.le_of_ble_eq_true rfl) dX10_feed_60 ⟨Nat.le_of_ble_eq_true rfl, Nat.le_of_ble_eq_true rfl⟩ (fun r60_25 S60_27 H locs h60_26 hw => ?_)
    obtain ⟨rfl, h60_26⟩ := h60_26
    have hsz : r60_25 = I53_23 61 (d 1) := h60_26
    have hszt := congrArg Int32.toInt hsz
    exact hret r60_25 _ _ _ _ _ ⟨_, _, rfl, ⟨fun f hf => (q53.1 f hf).trans ((q44.1 f hf).trans ((q35.1 f hf).trans ((q27.1 f hf).trans ((q19.1 f hf).trans (rfl))))), by unfold fdN; rw [if_pos (by omega)]; omega⟩, ⟨fun _ => FD9, fun h9 => absurd (show (pI S 61 (d 1)).toInt ≤ 980 by omega) h9, fun a ha => (w53 a ha).trans ((w44 a ha).trans ((w35 a ha).trans ((w27 a ha).trans ((w19 a ha).trans (rfl)))))⟩, by unfold fdR; rw [if_pos (by omega)]; omega⟩ hw rfl dX10_feed_63
  · have h6_2 := h6_2
    refine lv_if_ne (tgt := 14) hx hb dX10_feed_9 (by decide) (fun c9_28 => absurd c9_28 (by decide)) (fun c9_28 => ?_)
    refine lv_iconst (v := -1) hx hb dX10_feed_12 (by decide) ?_
    exact hret (-1) _ _ _ _ _ ⟨_, _, rfl, ⟨fun _ _ => rfl, by unfold fdN; rw [if_neg (by omega)]⟩, ⟨fun h9 => absurd h9 (by omega), fun _ => rfl, fun _ _ => rfl⟩, by unfold fdR; rw [if_neg (by omega)]; decide⟩ hw rfl dX10_feed_13
set_option maxHeartbeats 4000000 in
set_option maxRecDepth 100000 in
theorem c_v_X10_seen (l : Launch) (G : Gh) (S : Pl) (d sa sb sp te tm pe : Nat → Nat) (tf pf nt np : Nat) (t x n : Int32) (hC : CIs G S d sa sb sp te tm pe tf pf nt np) (hN : CIn (pI S) d te pe nt np) : MtL l yX10_seen cX10_seen 4 (some .long) (Rm 6 0 0) G [.ref (d 0), .int t, .int x, .int n] S (fun (r : Int64) (S' : Pl) => ∃ I' q' y', ch S I' (pJ S) q' y' = S' ∧ (∀ f, f ∉ [45, 46, 47] → I' f = pI S f) ∧ KP sp (qI S) q') 0 0 := by
  refine MtL.of (by decide) (Nat.le_of_ble_eq_true rfl) ?_
  intro p e s m args below meth c Q A X hw hin hret ls hl
  have hx := X.1.1
  have hb := X.1.2.1
  have hl : lv_has ls 4 [(0, .ref (d 0)), (1, .int t), (2, .int x), (3, .int n)] := hl
  obtain ⟨k0, r70, r71, r72, r73, r74, r75, r76, r77, hR, hS, hB, hSp, ⟨kco, nco⟩, lT, lP, n68, n79, hTl, hPk, hPi, n40⟩ := id hC
  obtain ⟨z92, z93, zw, zz, zst, zs6⟩ := id hN
  have hTp := hR.2.2.2.2.2.2.2
  have n60 := lP.2.2.1
  have oS := hS
  have oTp := hTp
  have oPk := hPk
  refine lv_iload_n hx hb dX10_seen_0 rfl (lv_at hl 1 rfl) ?_
  refine k_Si (n := 1) X hw (c_X10_isMoment l G _ t) wd_r30_6 wd_r30_7 wd_r1_2 wd_r30_8 ⟨by decide, by decide, by decide +kernel⟩ rfl rfl ⟨Nat.le_of_ble_eq_true rfl, Nat.le_of_ble_eq_true rfl⟩ rfl rfl hl.1 (Nat.le_of_ble_eq_true rfl) dX10_seen_1 ⟨Nat.le_of_ble_eq_true rfl, Nat.le_of_ble_eq_true rfl⟩ (fun r1_1 S1_3 H locs h1_2 hw => ?_)
  rcases h1_2 with ⟨rfl, rfl, h1_2⟩ | ⟨rfl, rfl, h1_2⟩
  · have h1_2 := h1_2
    refine lv_if_eq (tgt := 17) hx hb dX10_seen_4 (by decide) (fun c4_4 => absurd c4_4 (by decide)) (fun c4_4 => ?_)
    refine lv_iload_n hx hb dX10_seen_7 rfl (lv_at hl 2 rfl) ?_
    refine lv_iload_n hx hb dX10_seen_8 rfl (lv_at hl 3 rfl) ?_
    refine lv_bipush (v := 40) hx hb dX10_seen_9 (by decide) ?_
    refine k_Si (n := 3) X hw (c_X10_isMeans l G _ x n 40) wd_r25_21 wd_r16_4 wd_r1_2 wd_r16_5 ⟨by decide, by decide, by decide +kernel⟩ rfl rfl ⟨Nat.le_of_ble_eq_true rfl, Nat.le_of_ble_eq_true rfl⟩ rfl rfl hl.1 (Nat.le_of_ble_eq_true rfl) dX10_seen_11 ⟨Nat.le_of_ble_eq_true rfl, Nat.le_of_ble_eq_true rfl⟩ (fun r11_5 S11_7 H locs h11_6 hw => ?_)
    have := t_40
    rcases h11_6 with ⟨rfl, rfl, h11_6⟩ | ⟨rfl, rfl, h11_6⟩
    · have h11_6 := h11_6
      refine lv_if_ne (tgt := 21) hx hb dX10_seen_14 (by decide) (fun c14_8 => ?_) (fun c14_8 => absurd c14_8 (by decide))
      refine lv_aload_n hx hb dX10_seen_21 rfl (lv_at hl 0 rfl) ?_
      refine lv_iload_n hx hb dX10_seen_22 rfl (lv_at hl 1 rfl) ?_
      refine lv_iconst (v := 1) hx hb dX10_seen_23 (by decide) ?_
      refine k_Vv (n := 2) X hw (rcvk (ci := 10) X hw k0 (fun _ _ _ _ _ _ _ => ⟨_, rfl⟩) rfl) (c_X10_sumByCell l G _ d sa sb sp te tm pe tf pf nt np t 1 hC hN) wd_r38_6 wd_r38_7 wd_r38_8 wd_r1_2 wd_r38_9 ⟨by decide, by decide, by decide +kernel⟩ rfl rfl ⟨Nat.le_of_ble_eq_true rfl, Nat.le_of_ble_eq_true rfl⟩ rfl rfl hl.1 (Nat.le_of_ble_eq_true rfl) dX10_seen_24 ⟨Nat.le_of_ble_eq_true rfl, Nat.le_of_ble_eq_true rfl⟩ (fun S24_10 H locs h24_9 hw => ?_)
      have := t_1
      obtain ⟨y24_11, rfl, h24_9⟩ := h24_9
      have hw : PX G A s.heap (ch S (pI S) (pJ S) (qI S) y24_11) H locs := hw
      refine lv_aload_n hx hb dX10_seen_27 rfl (lv_at hl 0 rfl) ?_
      refine gf_X10_38 (b := (sp 0)) X hw k0 r74 dX10_seen_28 ?_
      refine lv_aload_n hx hb dX10_seen_31 rfl (lv_at hl 0 rfl) ?_
      refine gf_X10_42 (b := (d 16)) X hw k0 r75 dX10_seen_32 ?_
      refine lv_aload_n hx hb dX10_seen_35 rfl (lv_at hl 0 rfl) ?_
      refine gf_X10_49 (b := (sa 0)) X hw k0 r76 dX10_seen_36 ?_
      refine lv_iload_n hx hb dX10_seen_39 rfl (lv_at hl 2 rfl) ?_
      refine lv_iload_n hx hb dX10_seen_40 rfl (lv_at hl 3 rfl) ?_
      refine k_Vv (n := 4) X hw (rcvk (ci := 6) X hw hSp.1 (fun _ _ _ _ _ _ _ => ⟨_, rfl⟩) rfl) (c_v_X6_weigh l G _ sp (d 16) sa x n hSp ⟨kco, nco⟩ hS) wd_r39_18 wd_r39_19 wd_r39_20 wd_r2_3 wd_r39_21 ⟨by decide, by decide, by decide +kernel⟩ rfl rfl ⟨Nat.le_of_ble_eq_true rfl, Nat.le_of_ble_eq_true rfl⟩ rfl rfl hl.1 (Nat.le_of_ble_eq_true rfl) dX10_seen_41 ⟨Nat.le_of_ble_eq_true rfl, Nat.le_of_ble_eq_true rfl⟩ (fun S41_13 H locs h41_12 hw => ?_)
      obtain ⟨I41_14, q41_15, y41_16, rfl, h41_12⟩ := h41_12
      have hw : PX G A s.heap (ch S I41_14 (pJ S) q41_15 y41_16) H locs := hw
      have hWG := h41_12
      refine lv_aload_n hx hb dX10_seen_44 rfl (lv_at hl 0 rfl) ?_
      refine gf_X10_38 (b := (sp 0)) X hw k0 r74 dX10_seen_45 ?_
      refine k_Vl (n := 0) X hw (rcvk (ci := 6) X hw hSp.1 (fun _ _ _ _ _ _ _ => ⟨_, rfl⟩) rfl) (c_X6_mostSeen l G _ sp hSp hWG.2.1 hWG.2.2.1) wd_r40_23 wd_r41_0 wd_r41_1 wd_r2_3 wd_r41_2 ⟨by decide, by decide, by decide +kernel⟩ rfl rfl ⟨Nat.le_of_ble_eq_true rfl, Nat.le_of_ble_eq_true rfl⟩ rfl rfl hl.1 (Nat.le_of_ble_eq_true rfl) dX10_seen_48 ⟨Nat.le_of_ble_eq_true rfl, Nat.le_of_ble_eq_true rfl⟩ (fun r48_17 S48_19 H locs h48_18 hw => ?_)
      obtain ⟨rfl, h48_18⟩ := h48_18
      exact hret r48_17 _ _ _ _ _ ⟨_, _, _, rfl, hWG.1, hWG.2.2.2⟩ hw dX10_seen_51
    · have h11_6 := h11_6
      refine lv_if_ne (tgt := 21) hx hb dX10_seen_14 (by decide) (fun c14_20 => absurd c14_20 (by decide)) (fun c14_20 => ?_)
      refine lv_ldc2 hx hb X.1.2.2.2.1 (X.1.2.2.2.2 _ wd_r36_2) dX10_seen_17 ?_
      exact hret (-1) _ _ _ _ _ ⟨_, _, _, rfl, fun _ _ => rfl, KP.rf⟩ hw dX10_seen_20
  · have h1_2 := h1_2
    refine lv_if_eq (tgt := 17) hx hb dX10_seen_4 (by decide) (fun c4_21 => ?_) (fun c4_21 => absurd c4_21 (by decide))
    refine lv_ldc2 hx hb X.1.2.2.2.1 (X.1.2.2.2.2 _ wd_r36_2) dX10_seen_17 ?_
    exact hret (-1) _ _ _ _ _ ⟨_, _, _, rfl, fun _ _ => rfl, KP.rf⟩ hw dX10_seen_20
set_option maxHeartbeats 4000000 in
set_option maxRecDepth 100000 in
theorem c_v_X10_split (l : Launch) (G : Gh) (S : Pl) (d sa sb sp te tm pe : Nat → Nat) (tf pf nt np : Nat) (t x n z : Int32) (hC : CIs G S d sa sb sp te tm pe tf pf nt np) (hN : CIn (pI S) d te pe nt np) : MtI l yX10_split cX10_split 5 (some .int) (Rm 6 0 0) G [.ref (d 0), .int t, .int x, .int n, .int z] S (fun (r : Int32) (S' : Pl) => ∃ I' q' y', ch S I' (pJ S) q' y' = S' ∧ (∀ f, f ∉ [45, 46, 47] → I' f = pI S f) ∧ KP sp (qI S) q') 0 0 := by
  refine MtI.of (by decide) (Nat.le_of_ble_eq_true rfl) ?_
  intro p e s m args below meth c Q A X hw hin hret ls hl
  have hx := X.1.1
  have hb := X.1.2.1
  have hl : lv_has ls 5 [(0, .ref (d 0)), (1, .int t), (2, .int x), (3, .int n), (4, .int z)] := hl
  obtain ⟨k0, r70, r71, r72, r73, r74, r75, r76, r77, hR, hS, hB, hSp, ⟨kco, nco⟩, lT, lP, n68, n79, hTl, hPk, hPi, n40⟩ := id hC
  obtain ⟨z92, z93, zw, zz, zst, zs6⟩ := id hN
  have hTp := hR.2.2.2.2.2.2.2
  have n60 := lP.2.2.1
  have oS := hS
  have oTp := hTp
  have oPk := hPk
  refine lv_iload_n hx hb dX10_split_0 rfl (lv_at hl 1 rfl) ?_
  refine k_Si (n := 1) X hw (c_X10_isMoment l G _ t) wd_r30_6 wd_r30_7 wd_r1_2 wd_r30_8 ⟨by decide, by decide, by decide +kernel⟩ rfl rfl ⟨Nat.le_of_ble_eq_true rfl, Nat.le_of_ble_eq_true rfl⟩ rfl rfl hl.1 (Nat.le_of_ble_eq_true rfl) dX10_split_1 ⟨Nat.le_of_ble_eq_true rfl, Nat.le_of_ble_eq_true rfl⟩ (fun r1_1 S1_3 H locs h1_2 hw => ?_)
  rcases h1_2 with ⟨rfl, rfl, h1_2⟩ | ⟨rfl, rfl, h1_2⟩
  · have h1_2 := h1_2
    refine lv_if_eq (tgt := 25) hx hb dX10_split_4 (by decide) (fun c4_4 => absurd c4_4 (by decide)) (fun c4_4 => ?_)
    refine lv_iload_n hx hb dX10_split_7 rfl (lv_at hl 2 rfl) ?_
    refine lv_iload_n hx hb dX10_split_8 rfl (lv_at hl 3 rfl) ?_
    refine lv_bipush (v := 40) hx hb dX10_split_9 (by decide) ?_
    refine k_Si (n := 3) X hw (c_X10_isMeans l G _ x n 40) wd_r25_21 wd_r16_4 wd_r1_2 wd_r16_5 ⟨by decide, by decide, by decide +kernel⟩ rfl rfl ⟨Nat.le_of_ble_eq_true rfl, Nat.le_of_ble_eq_true rfl⟩ rfl rfl hl.1 (Nat.le_of_ble_eq_true rfl) dX10_split_11 ⟨Nat.le_of_ble_eq_true rfl, Nat.le_of_ble_eq_true rfl⟩ (fun r11_5 S11_7 H locs h11_6 hw => ?_)
    have := t_40
    rcases h11_6 with ⟨rfl, rfl, h11_6⟩ | ⟨rfl, rfl, h11_6⟩
    · have h11_6 := h11_6
      refine lv_if_eq (tgt := 25) hx hb dX10_split_14 (by decide) (fun c14_8 => absurd c14_8 (by decide)) (fun c14_8 => ?_)
      refine lv_iload hx hb dX10_split_17 (lv_at hl 4 rfl) ?_
      refine k_Si (n := 1) X hw (c_X10_isCell l G _ z) wd_r26_14 wd_r15_22 wd_r1_2 wd_r15_23 ⟨by decide, by decide, by decide +kernel⟩ rfl rfl ⟨Nat.le_of_ble_eq_true rfl, Nat.le_of_ble_eq_true rfl⟩ rfl rfl hl.1 (Nat.le_of_ble_eq_true rfl) dX10_split_19 ⟨Nat.le_of_ble_eq_true rfl, Nat.le_of_ble_eq_true rfl⟩ (fun r19_9 S19_11 H locs h19_10 hw => ?_)
      rcases h19_10 with ⟨rfl, rfl, h19_10⟩ | ⟨rfl, rfl, h19_10⟩
      · have h19_10 := h19_10
        refine lv_if_ne (tgt := 27) hx hb dX10_split_22 (by decide) (fun c22_12 => ?_) (fun c22_12 => absurd c22_12 (by decide))
        refine lv_aload_n hx hb dX10_split_27 rfl (lv_at hl 0 rfl) ?_
        refine lv_iload_n hx hb dX10_split_28 rfl (lv_at hl 1 rfl) ?_
        refine lv_iconst (v := 1) hx hb dX10_split_29 (by decide) ?_
        refine k_Vv (n := 2) X hw (rcvk (ci := 10) X hw k0 (fun _ _ _ _ _ _ _ => ⟨_, rfl⟩) rfl) (c_X10_sumByCell l G _ d sa sb sp te tm pe tf pf nt np t 1 hC hN) wd_r38_6 wd_r38_7 wd_r38_8 wd_r1_2 wd_r38_9 ⟨by decide, by decide, by decide +kernel⟩ rfl rfl ⟨Nat.le_of_ble_eq_true rfl, Nat.le_of_ble_eq_true rfl⟩ rfl rfl hl.1 (Nat.le_of_ble_eq_true rfl) dX10_split_30 ⟨Nat.le_of_ble_eq_true rfl, Nat.le_of_ble_eq_true rfl⟩ (fun S30_14 H locs h30_13 hw => ?_)
        have := t_1
        obtain ⟨y30_15, rfl, h30_13⟩ := h30_13
        have hw : PX G A s.heap (ch S (pI S) (pJ S) (qI S) y30_15) H locs := hw
        refine lv_aload_n hx hb dX10_split_33 rfl (lv_at hl 0 rfl) ?_
        refine gf_X10_38 (b := (sp 0)) X hw k0 r74 dX10_split_34 ?_
        refine lv_aload_n hx hb dX10_split_37 rfl (lv_at hl 0 rfl) ?_
        refine gf_X10_42 (b := (d 16)) X hw k0 r75 dX10_split_38 ?_
        refine lv_aload_n hx hb dX10_split_41 rfl (lv_at hl 0 rfl) ?_
        refine gf_X10_49 (b := (sa 0)) X hw k0 r76 dX10_split_42 ?_
        refine lv_iload_n hx hb dX10_split_45 rfl (lv_at hl 2 rfl) ?_
        refine lv_iload_n hx hb dX10_split_46 rfl (lv_at hl 3 rfl) ?_
        refine k_Vv (n := 4) X hw (rcvk (ci := 6) X hw hSp.1 (fun _ _ _ _ _ _ _ => ⟨_, rfl⟩) rfl) (c_v_X6_weigh l G _ sp (d 16) sa x n hSp ⟨kco, nco⟩ hS) wd_r39_18 wd_r39_19 wd_r39_20 wd_r2_3 wd_r39_21 ⟨by decide, by decide, by decide +kernel⟩ rfl rfl ⟨Nat.le_of_ble_eq_true rfl, Nat.le_of_ble_eq_true rfl⟩ rfl rfl hl.1 (Nat.le_of_ble_eq_true rfl) dX10_split_47 ⟨Nat.le_of_ble_eq_true rfl, Nat.le_of_ble_eq_true rfl⟩ (fun S47_17 H locs h47_16 hw => ?_)
        obtain ⟨I47_18, q47_19, y47_20, rfl, h47_16⟩ := h47_16
        have hw : PX G A s.heap (ch S I47_18 (pJ S) q47_19 y47_20) H locs := hw
        have hWG := h47_16
        refine lv_aload_n hx hb dX10_split_50 rfl (lv_at hl 0 rfl) ?_
        refine gf_X10_38 (b := (sp 0)) X hw k0 r74 dX10_split_51 ?_
        refine lv_iload hx hb dX10_split_54 (lv_at hl 4 rfl) ?_
        refine k_Vi (n := 1) X hw (rcvk (ci := 6) X hw hSp.1 (fun _ _ _ _ _ _ _ => ⟨_, rfl⟩) rfl) (c_X6_givenTo l G _ sp z hSp hWG.2.1 hWG.2.2.1) wd_r42_2 wd_r42_3 wd_r42_4 wd_r2_3 wd_r42_5 ⟨by decide, by decide, by decide +kernel⟩ rfl rfl ⟨Nat.le_of_ble_eq_true rfl, Nat.le_of_ble_eq_true rfl⟩ rfl rfl hl.1 (Nat.le_of_ble_eq_true rfl) dX10_split_56 ⟨Nat.le_of_ble_eq_true rfl, Nat.le_of_ble_eq_true rfl⟩ (fun r56_21 S56_23 H locs h56_22 hw => ?_)
        obtain ⟨rfl, h56_22⟩ := h56_22
        exact hret r56_21 _ _ _ _ _ ⟨_, _, _, rfl, hWG.1, hWG.2.2.2⟩ hw rfl dX10_split_59
      · have h19_10 := h19_10
        refine lv_if_ne (tgt := 27) hx hb dX10_split_22 (by decide) (fun c22_24 => absurd c22_24 (by decide)) (fun c22_24 => ?_)
        refine lv_iconst (v := -1) hx hb dX10_split_25 (by decide) ?_
        exact hret (-1) _ _ _ _ _ ⟨_, _, _, rfl, fun _ _ => rfl, KP.rf⟩ hw rfl dX10_split_26
    · have h11_6 := h11_6
      refine lv_if_eq (tgt := 25) hx hb dX10_split_14 (by decide) (fun c14_25 => ?_) (fun c14_25 => absurd c14_25 (by decide))
      refine lv_iconst (v := -1) hx hb dX10_split_25 (by decide) ?_
      exact hret (-1) _ _ _ _ _ ⟨_, _, _, rfl, fun _ _ => rfl, KP.rf⟩ hw rfl dX10_split_26
  · have h1_2 := h1_2
    refine lv_if_eq (tgt := 25) hx hb dX10_split_4 (by decide) (fun c4_26 => ?_) (fun c4_26 => absurd c4_26 (by decide))
    refine lv_iconst (v := -1) hx hb dX10_split_25 (by decide) ?_
    exact hret (-1) _ _ _ _ _ ⟨_, _, _, rfl, fun _ _ => rfl, KP.rf⟩ hw rfl dX10_split_26
