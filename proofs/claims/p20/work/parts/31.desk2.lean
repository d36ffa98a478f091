
theorem trk_c (x y z u : Int32) : ((((y * 10 + z - 1) / z) * x * 10 + ((y * 10 + z - 1) / z - 1) * z) * 60 + u - 1) / u = trk x y z u := by
  unfold trk
  rw [Int32.mul_comm y 10, Int32.mul_comm _ 60, Int32.mul_assoc _ x 10, Int32.mul_comm x 10, ← Int32.mul_assoc]
set_option maxHeartbeats 4000000 in
set_option maxRecDepth 100000 in
theorem c_X10_isTale (l : Launch) (G : Gh) (S : Pl) (d sa sb sp te tm pe : Nat → Nat) (tf pf nt np : Nat) (i : Int32) (hC : CIs G S d sa sb sp te tm pe tf pf nt np) (hN : CIn (pI S) d te pe nt np) : MtI l yX10_isTale cX10_isTale 2 (some .boolean) (Rm 1 0 0) G [.ref (d 0), .int i] S (fun (r : Int32) (S' : Pl) => (S = S' ∧ r = 1 ∧ (0 ≤ i.toInt ∧ i.toInt < (nt : Int))) ∨ (S = S' ∧ r = 0 ∧ ¬ (0 ≤ i.toInt ∧ i.toInt < (nt : Int)))) 0 0 := by
  refine MtI.of (by decide) (Nat.le_of_ble_eq_true rfl) ?_
  intro p e s m args below meth c Q A X hw hin hret ls hl
  have hx := X.1.1
  have hb := X.1.2.1
  have hl : lv_has ls 2 [(0, .ref (d 0)), (1, .int i)] := hl
  obtain ⟨k0, r70, r71, r72, r73, r74, r75, r76, r77, hR, hS, hB, hSp, ⟨kco, nco⟩, lT, lP, n68, n79, hTl, hPk, hPi, n40⟩ := id hC
  obtain ⟨z92, z93, zw, zz, zst, zs6⟩ := id hN
  have hTp := hR.2.2.2.2.2.2.2
  have n60 := lP.2.2.1
  refine lv_iload_n hx hb dX10_isTale_0 rfl (lv_at hl 1 rfl) ?_
  refine lv_iconst (v := 0) hx hb dX10_isTale_1 (by decide) ?_
  refine lv_aload_n hx hb dX10_isTale_2 rfl (lv_at hl 0 rfl) ?_
  refine gf_X10_28 (b := (d 6)) X hw k0 r72 dX10_isTale_3 ?_
  refine k_Vi (n := 0) X hw (rcvk (ci := 0) X hw lT.1 (fun _ _ _ _ _ _ _ => ⟨_, rfl⟩) rfl) (c_Jx4a65c_size_8abf5 l G _ (d 6) lT.1) wd_r18_1 wd_r18_2 wd_r18_3 wd_r1_22 wd_r18_4 ⟨by decide, by decide, by decide +kernel⟩ rfl rfl ⟨Nat.le_of_ble_eq_true rfl, Nat.le_of_ble_eq_true rfl⟩ rfl rfl hl.1 (Nat.le_of_ble_eq_true rfl) dX10_isTale_6 ⟨Nat.le_of_ble_eq_true rfl, Nat.le_of_ble_eq_true rfl⟩ (fun r6_1 S6_3 H locs h6_2 hw => ?_)
  obtain ⟨rfl, h6_2⟩ := h6_2
  have h6_2t : r6_1.toInt = ((pI S) 92 (d 6)).toInt := congrArg Int32.toInt h6_2
  refine lv_iconst (v := 1) hx hb dX10_isTale_9 (by decide) ?_
  refine lv_isub hx hb dX10_isTale_10 ?_
  refine lv_topi (fun v10_4 e10_4 => ?_)
  have t10_4 := iSub e10_4 rfl t_1 (by omega) (by omega)
  have t10 := t10_4
  refine k_Si (n := 3) X hw (c_X10_within l G _ i 0 v10_4) wd_r7_17 wd_r7_18 wd_r1_2 wd_r7_19 ⟨by decide, by decide, by decide +kernel⟩ rfl rfl ⟨Nat.le_of_ble_eq_true rfl, Nat.le_of_ble_eq_true rfl⟩ rfl rfl hl.1 (Nat.le_of_ble_eq_true rfl) dX10_isTale_11 ⟨Nat.le_of_ble_eq_true rfl, Nat.le_of_ble_eq_true rfl⟩ (fun r11_5 S11_7 H locs h11_6 hw => ?_)
  have := t_0
  rcases h11_6 with ⟨rfl, rfl, h11_6⟩ | ⟨rfl, rfl, h11_6⟩
  · have h11_6 := h11_6
    exact hret 1 _ _ _ _ _ (Or.inl ⟨rfl, rfl, by omega⟩) hw rfl dX10_isTale_14
  · have h11_6 := h11_6
    exact hret 0 _ _ _ _ _ (Or.inr ⟨rfl, rfl, by omega⟩) hw rfl dX10_isTale_14
set_option maxHeartbeats 4000000 in
set_option maxRecDepth 100000 in
theorem c_X10_hasRoomForProof (l : Launch) (G : Gh) (S : Pl) (d sa sb sp te tm pe : Nat → Nat) (tf pf nt np : Nat)  (hC : CIs G S d sa sb sp te tm pe tf pf nt np) (hN : CIn (pI S) d te pe nt np) : MtI l yX10_hasRoomForProof cX10_hasRoomForProof 1 (some .boolean) (Rm 1 0 0) G [.ref (d 0)] S (fun (r : Int32) (S' : Pl) => (S = S' ∧ r = 1 ∧ (cntB (fun k => pI S 0 (pe k)) np < 6 ∧ np < 60)) ∨ (S = S' ∧ r = 0 ∧ ¬ (cntB (fun k => pI S 0 (pe k)) np < 6 ∧ np < 60))) 0 0 := by
  refine MtI.of (by decide) (Nat.le_of_ble_eq_true rfl) ?_
  intro p e s m args below meth c Q A X hw hin hret ls hl
  have hx := X.1.1
  have hb := X.1.2.1
  have hl : lv_has ls 1 [(0, .ref (d 0))] := hl
  obtain ⟨k0, r70, r71, r72, r73, r74, r75, r76, r77, hR, hS, hB, hSp, ⟨kco, nco⟩, lT, lP, n68, n79, hTl, hPk, hPi, n40⟩ := id hC
  obtain ⟨z92, z93, zw, zz, zst, zs6⟩ := id hN
  have hTp := hR.2.2.2.2.2.2.2
  have n60 := lP.2.2.1
  refine lv_aload_n hx hb dX10_hasRoomForProof_0 rfl (lv_at hl 0 rfl) ?_
  refine gf_X10_179 (v := (pI S) 78 (d 0)) X hw k0 rfl dX10_hasRoomForProof_1 ?_
  refine lv_bipush (v := 6) hx hb dX10_hasRoomForProof_4 (by decide) ?_
  refine lv_icmp_ge (tgt := 25) hx hb dX10_hasRoomForProof_6 (by decide) (fun c6_1 => ?_) (fun c6_1 => ?_)
  · have D6_1 := iLe c6_1 t_6 rfl
    refine lv_iconst (v := 0) hx hb dX10_hasRoomForProof_25 (by decide) ?_
    exact hret 0 _ _ _ _ _ (Or.inr ⟨rfl, rfl, by omega⟩) hw rfl dX10_hasRoomForProof_26
  · have D6_1 := iNle c6_1 t_6 rfl
    refine lv_aload_n hx hb dX10_hasRoomForProof_9 rfl (lv_at hl 0 rfl) ?_
    refine gf_X10_32 (b := (d 8)) X hw k0 r73 dX10_hasRoomForProof_10 ?_
    refine k_Vi (n := 0) X hw (rcvk (ci := 0) X hw lP.1 (fun _ _ _ _ _ _ _ => ⟨_, rfl⟩) rfl) (c_Jx4a65c_size_8abf5 l G _ (d 8) lP.1) wd_r18_1 wd_r18_2 wd_r18_3 wd_r1_22 wd_r18_4 ⟨by decide, by decide, by decide +kernel⟩ rfl rfl ⟨Nat.le_of_ble_eq_true rfl, Nat.le_of_ble_eq_true rfl⟩ rfl rfl hl.1 (Nat.le_of_ble_eq_true rfl) dX10_hasRoomForProof_13 ⟨Nat.le_of_ble_eq_true rfl, Nat.le_of_ble_eq_true rfl⟩ (fun r13_2 S13_4 H locs h13_3 hw => ?_)
    obtain ⟨rfl, h13_3⟩ := h13_3
    have h13_3t : r13_2.toInt = ((pI S) 92 (d 8)).toInt := congrArg Int32.toInt h13_3
    refine lv_bipush (v := 60) hx hb dX10_hasRoomForProof_16 (by decide) ?_
    refine lv_icmp_ge (tgt := 25) hx hb dX10_hasRoomForProof_18 (by decide) (fun c18_5 => ?_) (fun c18_5 => ?_)
    · have D18_5 := iLe c18_5 t_60 rfl
      refine lv_iconst (v := 0) hx hb dX10_hasRoomForProof_25 (by decide) ?_
      exact hret 0 _ _ _ _ _ (Or.inr ⟨rfl, rfl, by omega⟩) hw rfl dX10_hasRoomForProof_26
    · have D18_5 := iNle c18_5 t_60 rfl
      refine lv_iconst (v := 1) hx hb dX10_hasRoomForProof_21 (by decide) ?_
      refine lv_goto (tgt := 26) hx hb dX10_hasRoomForProof_22 (by decide) ?_
      exact hret 1 _ _ _ _ _ (Or.inl ⟨rfl, rfl, by omega⟩) hw rfl dX10_hasRoomForProof_26
set_option maxHeartbeats 4000000 in
set_option maxRecDepth 100000 in
theorem c_X10_fault (l : Launch) (G : Gh) (S : Pl) (d sa sb sp te tm pe : Nat → Nat) (tf pf nt np : Nat) (x : Int32) (hC : CIs G S d sa sb sp te tm pe tf pf nt np) (hN : CIn (pI S) d te pe nt np) : MtI l yX10_fault cX10_fault 2 (some .int) (Rm 1 0 0) G [.ref (d 0), .int x] S (fun (r : Int32) (S' : Pl) => S = S' ∧ True) 0 0 := by
  refine MtI.of (by decide) (Nat.le_of_ble_eq_true rfl) ?_
  intro p e s m args below meth c Q A X hw hin hret ls hl
  have hx := X.1.1
  have hb := X.1.2.1
  have hl : lv_has ls 2 [(0, .ref (d 0)), (1, .int x)] := hl
  obtain ⟨k0, r70, r71, r72, r73, r74, r75, r76, r77, hR, hS, hB, hSp, ⟨kco, nco⟩, lT, lP, n68, n79, hTl, hPk, hPi, n40⟩ := id hC
  obtain ⟨z92, z93, zw, zz, zst, zs6⟩ := id hN
  have hTp := hR.2.2.2.2.2.2.2
  have n60 := lP.2.2.1
  refine lv_iload_n hx hb dX10_fault_0 rfl (lv_at hl 1 rfl) ?_
  by_cases k1_1 : x = 0
  · refine lv_lookup (tgt := 28) (off := 27) hx hb dX10_fault_1 (by decide) (by rw [k1_1]; decide) (by decide) ?_
    refine lv_aload_n hx hb dX10_fault_28 rfl (lv_at hl 0 rfl) ?_
    refine gf_X10_21 (b := (d 3)) X hw k0 r71 dX10_fault_29 ?_
    refine k_Vi (n := 0) X hw (rcvk (ci := 4) X hw hR.1 (fun _ _ _ _ _ _ _ => ⟨_, rfl⟩) rfl) (c_X4_foundFault l G _ (d 3) (d 4) (d 5) (d 1) (d 2) hR) wd_r23_22 wd_r23_23 wd_r24_0 wd_r1_18 wd_r24_1 ⟨by decide, by decide, by decide +kernel⟩ rfl rfl ⟨Nat.le_of_ble_eq_true rfl, Nat.le_of_ble_eq_true rfl⟩ rfl rfl hl.1 (Nat.le_of_ble_eq_true rfl) dX10_fault_32 ⟨Nat.le_of_ble_eq_true rfl, Nat.le_of_ble_eq_true rfl⟩ (fun r32_2 S32_4 H locs h32_3 hw => ?_)
    obtain ⟨rfl, h32_3⟩ := h32_3
    exact hret r32_2 _ _ _ _ _ ⟨rfl, trivial⟩ hw rfl dX10_fault_35
  by_cases k1_5 : x = 1
  · refine lv_lookup (tgt := 36) (off := 35) hx hb dX10_fault_1 (by decide) (by rw [k1_5]; decide) (by decide) ?_
    refine lv_aload_n hx hb dX10_fault_36 rfl (lv_at hl 0 rfl) ?_
    refine gf_X10_21 (b := (d 3)) X hw k0 r71 dX10_fault_37 ?_
    refine k_Vi (n := 0) X hw (rcvk (ci := 4) X hw hR.1 (fun _ _ _ _ _ _ _ => ⟨_, rfl⟩) rfl) (c_X4_foundAt l G _ (d 3) (d 4) (d 5) (d 1) (d 2) hR) wd_r24_2 wd_r24_3 wd_r24_4 wd_r1_18 wd_r24_5 ⟨by decide, by decide, by decide +kernel⟩ rfl rfl ⟨Nat.le_of_ble_eq_true rfl, Nat.le_of_ble_eq_true rfl⟩ rfl rfl hl.1 (Nat.le_of_ble_eq_true rfl) dX10_fault_40 ⟨Nat.le_of_ble_eq_true rfl, Nat.le_of_ble_eq_true rfl⟩ (fun r40_6 S40_8 H locs h40_7 hw => ?_)
    obtain ⟨rfl, h40_7⟩ := h40_7
    exact hret r40_6 _ _ _ _ _ ⟨rfl, trivial⟩ hw rfl dX10_fault_43
  refine lv_lookup (tgt := 44) (off := 43) hx hb dX10_fault_1 (by decide) (by rw [lv_osw k1_1 (k := 0) (by decide)]; rw [lv_osw k1_5 (k := 1) (by decide)]; rfl) (by decide) ?_
  refine lv_iconst (v := -1) hx hb dX10_fault_44 (by decide) ?_
  exact hret (-1) _ _ _ _ _ ⟨rfl, trivial⟩ hw rfl dX10_fault_45
set_option maxHeartbeats 4000000 in
set_option maxRecDepth 100000 in
theorem c_X10_wind (l : Launch) (G : Gh) (S : Pl) (d sa sb sp te tm pe : Nat → Nat) (tf pf nt np : Nat) (x y : Int32) (hC : CIs G S d sa sb sp te tm pe tf pf nt np) (hN : CIn (pI S) d te pe nt np) : MtI l yX10_wind cX10_wind 3 (some .int) (Rm 3 0 0) G [.ref (d 0), .int x, .int y] S (fun (r : Int32) (S' : Pl) => S = S' ∧ True) 0 0 := by
  refine MtI.of (by decide) (Nat.le_of_ble_eq_true rfl) ?_
  intro p e s m args below meth c Q A X hw hin hret ls hl
  have hx := X.1.1
  have hb := X.1.2.1
  have hl : lv_has ls 3 [(0, .ref (d 0)), (1, .int x), (2, .int y)] := hl
  obtain ⟨k0, r70, r71, r72, r73, r74, r75, r76, r77, hR, hS, hB, hSp, ⟨kco, nco⟩, lT, lP, n68, n79, hTl, hPk, hPi, n40⟩ := id hC
  obtain ⟨z92, z93, zw, zz, zst, zs6⟩ := id hN
  have hTp := hR.2.2.2.2.2.2.2
  have n60 := lP.2.2.1
  refine lv_iload_n hx hb dX10_wind_0 rfl (lv_at hl 1 rfl) ?_
  refine k_Si (n := 1) X hw (c_X10_isHour l G _ x) wd_r24_14 wd_r17_3 wd_r1_2 wd_r17_4 ⟨by decide, by decide, by decide +kernel⟩ rfl rfl ⟨Nat.le_of_ble_eq_true rfl, Nat.le_of_ble_eq_true rfl⟩ rfl rfl hl.1 (Nat.le_of_ble_eq_true rfl) dX10_wind_1 ⟨Nat.le_of_ble_eq_true rfl, Nat.le_of_ble_eq_true rfl⟩ (fun r1_1 S1_3 H locs h1_2 hw => ?_)
  rcases h1_2 with ⟨rfl, rfl, h1_2⟩ | ⟨rfl, rfl, h1_2⟩
  · have h1_2 := h1_2
    refine lv_if_eq (tgt := 19) hx hb dX10_wind_4 (by decide) (fun c4_4 => absurd c4_4 (by decide)) (fun c4_4 => ?_)
    refine lv_aload_n hx hb dX10_wind_7 rfl (lv_at hl 0 rfl) ?_
    refine gf_X10_49 (b := (sa 0)) X hw k0 r76 dX10_wind_8 ?_
    refine lv_iload_n hx hb dX10_wind_11 rfl (lv_at hl 1 rfl) ?_
    refine lv_iload_n hx hb dX10_wind_12 rfl (lv_at hl 2 rfl) ?_
    refine k_Vi (n := 2) X hw (rcvk (ci := 3) X hw hS.1 (fun _ _ _ _ _ _ _ => ⟨_, rfl⟩) rfl) (c_X3_windOf l G _ sa x y hS) wd_r24_15 wd_r19_20 wd_r19_21 wd_r2_9 wd_r19_22 ⟨by decide, by decide, by decide +kernel⟩ rfl rfl ⟨Nat.le_of_ble_eq_true rfl, Nat.le_of_ble_eq_true rfl⟩ rfl rfl hl.1 (Nat.le_of_ble_eq_true rfl) dX10_wind_13 ⟨Nat.le_of_ble_eq_true rfl, Nat.le_of_ble_eq_true rfl⟩ (fun r13_5 S13_7 H locs h13_6 hw => ?_)
    obtain ⟨rfl, h13_6⟩ := h13_6
    refine lv_goto (tgt := 21) hx hb dX10_wind_16 (by decide) ?_
    exact hret r13_5 _ _ _ _ _ ⟨rfl, trivial⟩ hw rfl dX10_wind_21
  · have h1_2 := h1_2
    refine lv_if_eq (tgt := 19) hx hb dX10_wind_4 (by decide) (fun c4_8 => ?_) (fun c4_8 => absurd c4_8 (by decide))
    refine lv_bipush (v := -100) hx hb dX10_wind_19 (by decide) ?_
    exact hret (-100) _ _ _ _ _ ⟨rfl, trivial⟩ hw rfl dX10_wind_21
set_option maxHeartbeats 4000000 in
set_option maxRecDepth 100000 in
theorem c_X10_stream (l : Launch) (G : Gh) (S : Pl) (d sa sb sp te tm pe : Nat → Nat) (tf pf nt np : Nat) (x y z : Int32) (hC : CIs G S d sa sb sp te tm pe tf pf nt np) (hN : CIn (pI S) d te pe nt np) : MtI l yX10_stream cX10_stream 5 (some .int) (Rm 3 0 0) G [.ref (d 0), .int x, .int y, .int z] S (fun (r : Int32) (S' : Pl) => S = S' ∧ True) 0 0 := by
  refine MtI.of (by decide) (Nat.le_of_ble_eq_true rfl) ?_
  intro p e s m args below meth c Q A X hw hin hret ls hl
  have hx := X.1.1
  have hb := X.1.2.1
  have hl : lv_has ls 5 [(0, .ref (d 0)), (1, .int x), (2, .int y), (3, .int z)] := hl
  obtain ⟨k0, r70, r71, r72, r73, r74, r75, r76, r77, hR, hS, hB, hSp, ⟨kco, nco⟩, lT, lP, n68, n79, hTl, hPk, hPi, n40⟩ := id hC
  obtain ⟨z92, z93, zw, zz, zst, zs6⟩ := id hN
  have hTp := hR.2.2.2.2.2.2.2
  have n60 := lP.2.2.1
  refine lv_iload_n hx hb dX10_stream_0 rfl (lv_at hl 1 rfl) ?_
  refine k_Si (n := 1) X hw (c_X10_isQuarter l G _ x) wd_r25_7 wd_r15_10 wd_r1_2 wd_r15_11 ⟨by decide, by decide, by decide +kernel⟩ rfl rfl ⟨Nat.le_of_ble_eq_true rfl, Nat.le_of_ble_eq_true rfl⟩ rfl rfl hl.1 (Nat.le_of_ble_eq_true rfl) dX10_stream_1 ⟨Nat.le_of_ble_eq_true rfl, Nat.le_of_ble_eq_true rfl⟩ (fun r1_1 S1_3 H locs h1_2 hw => ?_)
  rcases h1_2 with ⟨rfl, rfl, h1_2⟩ | ⟨rfl, rfl, h1_2⟩
  · have h1_2 := h1_2
    refine lv_if_eq (tgt := 18) hx hb dX10_stream_4 (by decide) (fun c4_4 => absurd c4_4 (by decide)) (fun c4_4 => ?_)
    refine lv_iload_n hx hb dX10_stream_7 rfl (lv_at hl 2 rfl) ?_
    refine k_Si (n := 1) X hw (c_X10_isHour l G _ y) wd_r24_14 wd_r17_3 wd_r1_2 wd_r17_4 ⟨by decide, by decide, by decide +kernel⟩ rfl rfl ⟨Nat.le_of_ble_eq_true rfl, Nat.le_of_ble_eq_true rfl⟩ rfl rfl hl.1 (Nat.le_of_ble_eq_true rfl) dX10_stream_8 ⟨Nat.le_of_ble_eq_true rfl, Nat.le_of_ble_eq_true rfl⟩ (fun r8_5 S8_7 H locs h8_6 hw => ?_)
    rcases h8_6 with ⟨rfl, rfl, h8_6⟩ | ⟨rfl, rfl, h8_6⟩
    · have h8_6 := h8_6
      refine lv_if_eq (tgt := 18) hx hb dX10_stream_11 (by decide) (fun c11_8 => absurd c11_8 (by decide)) (fun c11_8 => ?_)
      refine lv_iconst (v := 1) hx hb dX10_stream_14 (by decide) ?_
      refine lv_goto (tgt := 19) hx hb dX10_stream_15 (by decide) ?_
      refine lv_istore (lv' := [(4, .int 1), (0, .ref (d 0)), (1, .int x), (2, .int y), (3, .int z)]) hx hb dX10_stream_19 hl (by decide) rfl (fun ls hl => ?_)
      refine lv_iload hx hb dX10_stream_21 (lv_at hl 0 rfl) ?_
      refine lv_if_eq (tgt := 39) hx hb dX10_stream_23 (by decide) (fun c23_9 => absurd c23_9 (by decide)) (fun c23_9 => ?_)
      refine lv_aload_n hx hb dX10_stream_26 rfl (lv_at hl 1 rfl) ?_
      refine gf_X10_49 (b := (sa 0)) X hw k0 r76 dX10_stream_27 ?_
      refine lv_iload_n hx hb dX10_stream_30 rfl (lv_at hl 2 rfl) ?_
      refine lv_iload_n hx hb dX10_stream_31 rfl (lv_at hl 3 rfl) ?_
      refine lv_iload_n hx hb dX10_stream_32 rfl (lv_at hl 4 rfl) ?_
      refine k_Vi (n := 3) X hw (rcvk (ci := 3) X hw hS.1 (fun _ _ _ _ _ _ _ => ⟨_, rfl⟩) rfl) (c_X3_streamOf l G _ sa x y z hS) wd_r25_8 wd_r19_12 wd_r19_13 wd_r2_9 wd_r19_14 ⟨by decide, by decide, by decide +kernel⟩ rfl rfl ⟨Nat.le_of_ble_eq_true rfl, Nat.le_of_ble_eq_true rfl⟩ rfl rfl hl.1 (Nat.le_of_ble_eq_true rfl) dX10_stream_33 ⟨Nat.le_of_ble_eq_true rfl, Nat.le_of_ble_eq_true rfl⟩ (fun r33_10 S33_12 H locs h33_11 hw => ?_)
      obtain ⟨rfl, h33_11⟩ := h33_11
      refine lv_goto (tgt := 41) hx hb dX10_stream_36 (by decide) ?_
      exact hret r33_10 _ _ _ _ _ ⟨rfl, trivial⟩ hw rfl dX10_stream_41
    · have h8_6 := h8_6
      refine lv_if_eq (tgt := 18) hx hb dX10_stream_11 (by decide) (fun c11_13 => ?_) (fun c11_13 => absurd c11_13 (by decide))
      refine lv_iconst (v := 0) hx hb dX10_stream_18 (by decide) ?_
      refine lv_istore (lv' := [(4, .int 0), (0, .ref (d 0)), (1, .int x), (2, .int y), (3, .int z)]) hx hb dX10_stream_19 hl (by decide) rfl (fun ls hl => ?_)
      refine lv_iload hx hb dX10_stream_21 (lv_at hl 0 rfl) ?_
      refine lv_if_eq (tgt := 39) hx hb dX10_stream_23 (by decide) (fun c23_14 => ?_) (fun c23_14 => absurd c23_14 (by decide))
      refine lv_bipush (v := -100) hx hb dX10_stream_39 (by decide) ?_
      exact hret (-100) _ _ _ _ _ ⟨rfl, trivial⟩ hw rfl dX10_stream_41
  · have h1_2 := h1_2
    refine lv_if_eq (tgt := 18) hx hb dX10_stream_4 (by decide) (fun c4_15 => ?_) (fun c4_15 => absurd c4_15 (by decide))
    refine lv_iconst (v := 0) hx hb dX10_stream_18 (by decide) ?_
    refine lv_istore (lv' := [(4, .int 0), (0, .ref (d 0)), (1, .int x), (2, .int y), (3, .int z)]) hx hb dX10_stream_19 hl (by decide) rfl (fun ls hl => ?_)
    refine lv_iload hx hb dX10_stream_21 (lv_at hl 0 rfl) ?_
    refine lv_if_eq (tgt := 39) hx hb dX10_stream_23 (by decide) (fun c23_16 => ?_) (fun c23_16 => absurd c23_16 (by decide))
    refine lv_bipush (v := -100) hx hb dX10_stream_39 (by decide) ?_
    exact hret (-100) _ _ _ _ _ ⟨rfl, trivial⟩ hw rfl dX10_stream_41
set_option maxHeartbeats 4000000 in
set_option maxRecDepth 100000 in
theorem c_X10_miss (l : Launch) (G : Gh) (S : Pl) (d sa sb sp te tm pe : Nat → Nat) (tf pf nt np : Nat) (x y : Int32) (hC : CIs G S d sa sb sp te tm pe tf pf nt np) (hN : CIn (pI S) d te pe nt np) : MtI l yX10_miss cX10_miss 3 (some .int) (Rm 2 0 0) G [.ref (d 0), .int x, .int y] S (fun (r : Int32) (S' : Pl) => S = S' ∧ True) 0 0 := by
  refine MtI.of (by decide) (Nat.le_of_ble_eq_true rfl) ?_
  intro p e s m args below meth c Q A X hw hin hret ls hl
  have hx := X.1.1
  have hb := X.1.2.1
  have hl : lv_has ls 3 [(0, .ref (d 0)), (1, .int x), (2, .int y)] := hl
  obtain ⟨k0, r70, r71, r72, r73, r74, r75, r76, r77, hR, hS, hB, hSp, ⟨kco, nco⟩, lT, lP, n68, n79, hTl, hPk, hPi, n40⟩ := id hC
  obtain ⟨z92, z93, zw, zz, zst, zs6⟩ := id hN
  have hTp := hR.2.2.2.2.2.2.2
  have n60 := lP.2.2.1
  refine lv_iload_n hx hb dX10_miss_0 rfl (lv_at hl 1 rfl) ?_
  refine lv_iload_n hx hb dX10_miss_1 rfl (lv_at hl 2 rfl) ?_
  refine lv_bipush (v := 20) hx hb dX10_miss_2 (by decide) ?_
  refine k_Si (n := 3) X hw (c_X10_isMeans l G _ x y 20) wd_r25_21 wd_r16_4 wd_r1_2 wd_r16_5 ⟨by decide, by decide, by decide +kernel⟩ rfl rfl ⟨Nat.le_of_ble_eq_true rfl, Nat.le_of_ble_eq_true rfl⟩ rfl rfl hl.1 (Nat.le_of_ble_eq_true rfl) dX10_miss_4 ⟨Nat.le_of_ble_eq_true rfl, Nat.le_of_ble_eq_true rfl⟩ (fun r4_1 S4_3 H locs h4_2 hw => ?_)
  have := t_20
  rcases h4_2 with ⟨rfl, rfl, h4_2⟩ | ⟨rfl, rfl, h4_2⟩
  · have h4_2 := h4_2
    refine lv_if_eq (tgt := 22) hx hb dX10_miss_7 (by decide) (fun c7_4 => absurd c7_4 (by decide)) (fun c7_4 => ?_)
    refine lv_aload_n hx hb dX10_miss_10 rfl (lv_at hl 0 rfl) ?_
    refine gf_X10_49 (b := (sa 0)) X hw k0 r76 dX10_miss_11 ?_
    refine lv_iload_n hx hb dX10_miss_14 rfl (lv_at hl 1 rfl) ?_
    refine lv_iload_n hx hb dX10_miss_15 rfl (lv_at hl 2 rfl) ?_
    refine k_Vi (n := 2) X hw (rcvk (ci := 3) X hw hS.1 (fun _ _ _ _ _ _ _ => ⟨_, rfl⟩) rfl) (c_X3_missOf l G _ sa x y hS) wd_r25_22 wd_r16_12 wd_r16_13 wd_r2_9 wd_r16_14 ⟨by decide, by decide, by decide +kernel⟩ rfl rfl ⟨Nat.le_of_ble_eq_true rfl, Nat.le_of_ble_eq_true rfl⟩ rfl rfl hl.1 (Nat.le_of_ble_eq_true rfl) dX10_miss_16 ⟨Nat.le_of_ble_eq_true rfl, Nat.le_of_ble_eq_true rfl⟩ (fun r16_5 S16_7 H locs h16_6 hw => ?_)
    obtain ⟨rfl, h16_6⟩ := h16_6
    refine lv_goto (tgt := 23) hx hb dX10_miss_19 (by decide) ?_
    exact hret r16_5 _ _ _ _ _ ⟨rfl, trivial⟩ hw rfl dX10_miss_23
  · have h4_2 := h4_2
    refine lv_if_eq (tgt := 22) hx hb dX10_miss_7 (by decide) (fun c7_8 => ?_) (fun c7_8 => absurd c7_8 (by decide))
    refine lv_iconst (v := -1) hx hb dX10_miss_22 (by decide) ?_
    exact hret (-1) _ _ _ _ _ ⟨rfl, trivial⟩ hw rfl dX10_miss_23
set_option maxHeartbeats 4000000 in
set_option maxRecDepth 100000 in
theorem c_X10_land (l : Launch) (G : Gh) (S : Pl) (d sa sb sp te tm pe : Nat → Nat) (tf pf nt np : Nat) (x : Int32) (hC : CIs G S d sa sb sp te tm pe tf pf nt np) (hN : CIn (pI S) d te pe nt np) : MtI l yX10_land cX10_land 2 (some .int) (Rm 2 0 0) G [.ref (d 0), .int x] S (fun (r : Int32) (S' : Pl) => S = S' ∧ True) 0 0 := by
  refine MtI.of (by decide) (Nat.le_of_ble_eq_true rfl) ?_
  intro p e s m args below meth c Q A X hw hin hret ls hl
  have hx := X.1.1
  have hb := X.1.2.1
  have hl : lv_has ls 2 [(0, .ref (d 0)), (1, .int x)] := hl
  obtain ⟨k0, r70, r71, r72, r73, r74, r75, r76, r77, hR, hS, hB, hSp, ⟨kco, nco⟩, lT, lP, n68, n79, hTl, hPk, hPi, n40⟩ := id hC
  obtain ⟨z92, z93, zw, zz, zst, zs6⟩ := id hN
  have hTp := hR.2.2.2.2.2.2.2
  have n60 := lP.2.2.1
  refine lv_iload_n hx hb dX10_land_0 rfl (lv_at hl 1 rfl) ?_
  refine k_Si (n := 1) X hw (c_X10_isCell l G _ x) wd_r26_14 wd_r15_22 wd_r1_2 wd_r15_23 ⟨by decide, by decide, by decide +kernel⟩ rfl rfl ⟨Nat.le_of_ble_eq_true rfl, Nat.le_of_ble_eq_true rfl⟩ rfl rfl hl.1 (Nat.le_of_ble_eq_true rfl) dX10_land_1 ⟨Nat.le_of_ble_eq_true rfl, Nat.le_of_ble_eq_true rfl⟩ (fun r1_1 S1_3 H locs h1_2 hw => ?_)
  rcases h1_2 with ⟨rfl, rfl, h1_2⟩ | ⟨rfl, rfl, h1_2⟩
  · have h1_2 := h1_2
    refine lv_if_ne (tgt := 9) hx hb dX10_land_4 (by decide) (fun c4_4 => ?_) (fun c4_4 => absurd c4_4 (by decide))
    refine lv_aload_n hx hb dX10_land_9 rfl (lv_at hl 0 rfl) ?_
    refine gf_X10_49 (b := (sa 0)) X hw k0 r76 dX10_land_10 ?_
    refine lv_iload_n hx hb dX10_land_13 rfl (lv_at hl 1 rfl) ?_
    refine k_Vi (n := 1) X hw (rcvk (ci := 3) X hw hS.1 (fun _ _ _ _ _ _ _ => ⟨_, rfl⟩) rfl) (c_X3_hasLand l G _ sa x hS) wd_r26_15 wd_r15_19 wd_r15_20 wd_r2_9 wd_r15_21 ⟨by decide, by decide, by decide +kernel⟩ rfl rfl ⟨Nat.le_of_ble_eq_true rfl, Nat.le_of_ble_eq_true rfl⟩ rfl rfl hl.1 (Nat.le_of_ble_eq_true rfl) dX10_land_14 ⟨Nat.le_of_ble_eq_true rfl, Nat.le_of_ble_eq_true rfl⟩ (fun r14_5 S14_7 H locs h14_6 hw => ?_)
    rcases h14_6 with ⟨rfl, rfl, h14_6⟩ | ⟨rfl, rfl, h14_6⟩
    · have h14_6 := h14_6
      refine lv_if_eq (tgt := 24) hx hb dX10_land_17 (by decide) (fun c17_8 => absurd c17_8 (by decide)) (fun c17_8 => ?_)
      refine lv_iconst (v := 1) hx hb dX10_land_20 (by decide) ?_
      refine lv_goto (tgt := 25) hx hb dX10_land_21 (by decide) ?_
      exact hret 1 _ _ _ _ _ ⟨rfl, trivial⟩ hw rfl dX10_land_25
    · have h14_6 := h14_6
      refine lv_if_eq (tgt := 24) hx hb dX10_land_17 (by decide) (fun c17_9 => ?_) (fun c17_9 => absurd c17_9 (by decide))
      refine lv_iconst (v := 0) hx hb dX10_land_24 (by decide) ?_
      exact hret 0 _ _ _ _ _ ⟨rfl, trivial⟩ hw rfl dX10_land_25
  · have h1_2 := h1_2
    refine lv_if_ne (tgt := 9) hx hb dX10_land_4 (by decide) (fun c4_10 => absurd c4_10 (by decide)) (fun c4_10 => ?_)
    refine lv_iconst (v := -1) hx hb dX10_land_7 (by decide) ?_
    exact hret (-1) _ _ _ _ _ ⟨rfl, trivial⟩ hw rfl dX10_land_8
set_option maxHeartbeats 4000000 in
set_option maxRecDepth 100000 in
theorem c_X10_place (l : Launch) (G : Gh) (S : Pl) (d sa sb sp te tm pe : Nat → Nat) (tf pf nt np : Nat) (i t : Int32) (hC : CIs G S d sa sb sp te tm pe tf pf nt np) (hN : CIn (pI S) d te pe nt np) : MtI l yX10_place cX10_place 4 (some .int) (Rm 3 0 0) G [.ref (d 0), .int i, .int t] S (fun (r : Int32) (S' : Pl) => S = S' ∧ True) 0 0 := by
  refine MtI.of (by decide) (Nat.le_of_ble_eq_true rfl) ?_
  intro p e s m args below meth c Q A X hw hin hret ls hl
  have hx := X.1.1
  have hb := X.1.2.1
  have hl : lv_has ls 4 [(0, .ref (d 0)), (1, .int i), (2, .int t)] := hl
  obtain ⟨k0, r70, r71, r72, r73, r74, r75, r76, r77, hR, hS, hB, hSp, ⟨kco, nco⟩, lT, lP, n68, n79, hTl, hPk, hPi, n40⟩ := id hC
  obtain ⟨z92, z93, zw, zz, zst, zs6⟩ := id hN
  have hTp := hR.2.2.2.2.2.2.2
  have n60 := lP.2.2.1
  refine lv_aload_n hx hb dX10_place_0 rfl (lv_at hl 0 rfl) ?_
  refine lv_iload_n hx hb dX10_place_1 rfl (lv_at hl 1 rfl) ?_
  refine k_Vi (n := 1) X hw (rcvk (ci := 10) X hw k0 (fun _ _ _ _ _ _ _ => ⟨_, rfl⟩) rfl) (c_X10_isTale l G _ d sa sb sp te tm pe tf pf nt np i hC hN) wd_r30_2 wd_r30_3 wd_r30_4 wd_r1_2 wd_r30_5 ⟨by decide, by decide, by decide +kernel⟩ rfl rfl ⟨Nat.le_of_ble_eq_true rfl, Nat.le_of_ble_eq_true rfl⟩ rfl rfl hl.1 (Nat.le_of_ble_eq_true rfl) dX10_place_2 ⟨Nat.le_of_ble_eq_true rfl, Nat.le_of_ble_eq_true rfl⟩ (fun r2_1 S2_3 H locs h2_2 hw => ?_)
  rcases h2_2 with ⟨rfl, rfl, h2_2⟩ | ⟨rfl, rfl, h2_2⟩
  · have h2_2 := h2_2
    refine lv_if_eq (tgt := 19) hx hb dX10_place_5 (by decide) (fun c5_4 => absurd c5_4 (by decide)) (fun c5_4 => ?_)
    refine lv_iload_n hx hb dX10_place_8 rfl (lv_at hl 2 rfl) ?_
    refine k_Si (n := 1) X hw (c_X10_isMoment l G _ t) wd_r30_6 wd_r30_7 wd_r1_2 wd_r30_8 ⟨by decide, by decide, by decide +kernel⟩ rfl rfl ⟨Nat.le_of_ble_eq_true rfl, Nat.le_of_ble_eq_true rfl⟩ rfl rfl hl.1 (Nat.le_of_ble_eq_true rfl) dX10_place_9 ⟨Nat.le_of_ble_eq_true rfl, Nat.le_of_ble_eq_true rfl⟩ (fun r9_5 S9_7 H locs h9_6 hw => ?_)
    rcases h9_6 with ⟨rfl, rfl, h9_6⟩ | ⟨rfl, rfl, h9_6⟩
    · have h9_6 := h9_6
      refine lv_if_eq (tgt := 19) hx hb dX10_place_12 (by decide) (fun c12_8 => absurd c12_8 (by decide)) (fun c12_8 => ?_)
      refine lv_iconst (v := 1) hx hb dX10_place_15 (by decide) ?_
      refine lv_goto (tgt := 20) hx hb dX10_place_16 (by decide) ?_
      refine lv_istore_n (lv' := [(3, .int 1), (0, .ref (d 0)), (1, .int i), (2, .int t)]) hx hb dX10_place_20 rfl hl (by decide) rfl (fun ls hl => ?_)
      refine lv_iload_n hx hb dX10_place_21 rfl (lv_at hl 0 rfl) ?_
      refine lv_if_eq (tgt := 43) hx hb dX10_place_22 (by decide) (fun c22_9 => absurd c22_9 (by decide)) (fun c22_9 => ?_)
      refine lv_aload_n hx hb dX10_place_25 rfl (lv_at hl 1 rfl) ?_
      refine gf_X10_28 (b := (d 6)) X hw k0 r72 dX10_place_26 ?_
      refine lv_iload_n hx hb dX10_place_29 rfl (lv_at hl 2 rfl) ?_
      refine k_Vq (n := 1) X hw (rcvk (ci := 0) X hw lT.1 (fun _ _ _ _ _ _ _ => ⟨_, rfl⟩) rfl) (c_Jx4a65c_get_915e3 l G _ (d 6) (d 7) tf nt te i (lT.sh z92) (by omega)) wd_r18_6 wd_r18_7 wd_r18_8 wd_r1_22 wd_r18_9 ⟨by decide, by decide, by decide +kernel⟩ rfl rfl ⟨Nat.le_of_ble_eq_true rfl, Nat.le_of_ble_eq_true rfl⟩ rfl rfl hl.1 (Nat.le_of_ble_eq_true rfl) dX10_place_30 ⟨Nat.le_of_ble_eq_true rfl, Nat.le_of_ble_eq_true rfl⟩ (fun r30_10 S30_12 H locs h30_11 hw => ?_)
      obtain ⟨rfl, rfl⟩ := h30_11
      have hik : i.toNatClampNeg < nt := clt (by omega) (by omega)
      refine q_castT X hw (hTl _ hik).1 dX10_place_33 ?_
      refine lv_iload_n hx hb dX10_place_36 rfl (lv_at hl 3 rfl) ?_
      refine k_Vi (n := 1) X hw (rcvk (ci := 7) X hw (hTl _ hik).1 (fun _ _ _ _ _ _ _ => ⟨_, rfl⟩) rfl) (c_X7_pointAt l G _ (te i.toNatClampNeg) (tm i.toNatClampNeg) t (hTl _ hik)) wd_r30_9 wd_r30_10 wd_r30_11 wd_r18_22 wd_r30_12 ⟨by decide, by decide, by decide +kernel⟩ rfl rfl ⟨Nat.le_of_ble_eq_true rfl, Nat.le_of_ble_eq_true rfl⟩ rfl rfl hl.1 (Nat.le_of_ble_eq_true rfl) dX10_place_37 ⟨Nat.le_of_ble_eq_true rfl, Nat.le_of_ble_eq_true rfl⟩ (fun r37_13 S37_15 H locs h37_14 hw => ?_)
      obtain ⟨rfl, h37_14⟩ := h37_14
      refine lv_goto (tgt := 44) hx hb dX10_place_40 (by decide) ?_
      exact hret r37_13 _ _ _ _ _ ⟨rfl, trivial⟩ hw rfl dX10_place_44
    · have h9_6 := h9_6
      refine lv_if_eq (tgt := 19) hx hb dX10_place_12 (by decide) (fun c12_16 => ?_) (fun c12_16 => absurd c12_16 (by decide))
      refine lv_iconst (v := 0) hx hb dX10_place_19 (by decide) ?_
      refine lv_istore_n (lv' := [(3, .int 0), (0, .ref (d 0)), (1, .int i), (2, .int t)]) hx hb dX10_place_20 rfl hl (by decide) rfl (fun ls hl => ?_)
      refine lv_iload_n hx hb dX10_place_21 rfl (lv_at hl 0 rfl) ?_
      refine lv_if_eq (tgt := 43) hx hb dX10_place_22 (by decide) (fun c22_17 => ?_) (fun c22_17 => absurd c22_17 (by decide))
      refine lv_iconst (v := -1) hx hb dX10_place_43 (by decide) ?_
      exact hret (-1) _ _ _ _ _ ⟨rfl, trivial⟩ hw rfl dX10_place_44
  · have h2_2 := h2_2
    refine lv_if_eq (tgt := 19) hx hb dX10_place_5 (by decide) (fun c5_18 => ?_) (fun c5_18 => absurd c5_18 (by decide))
    refine lv_iconst (v := 0) hx hb dX10_place_19 (by decide) ?_
    refine lv_istore_n (lv' := [(3, .int 0), (0, .ref (d 0)), (1, .int i), (2, .int t)]) hx hb dX10_place_20 rfl hl (by decide) rfl (fun ls hl => ?_)
    refine lv_iload_n hx hb dX10_place_21 rfl (lv_at hl 0 rfl) ?_
    refine lv_if_eq (tgt := 43) hx hb dX10_place_22 (by decide) (fun c22_19 => ?_) (fun c22_19 => absurd c22_19 (by decide))
    refine lv_iconst (v := -1) hx hb dX10_place_43 (by decide) ?_
    exact hret (-1) _ _ _ _ _ ⟨rfl, trivial⟩ hw rfl dX10_place_44
set_option maxHeartbeats 4000000 in
set_option maxRecDepth 100000 in
theorem c_X10_state (l : Launch) (G : Gh) (S : Pl) (d sa sb sp te tm pe : Nat → Nat) (tf pf nt np : Nat) (i t : Int32) (hC : CIs G S d sa sb sp te tm pe tf pf nt np) (hN : CIn (pI S) d te pe nt np) : MtI l yX10_state cX10_state 4 (some .int) (Rm 3 0 0) G [.ref (d 0), .int i, .int t] S (fun (r : Int32) (S' : Pl) => S = S' ∧ True) 0 0 := by
  refine MtI.of (by decide) (Nat.le_of_ble_eq_true rfl) ?_
  intro p e s m args below meth c Q A X hw hin hret ls hl
  have hx := X.1.1
  have hb := X.1.2.1
  have hl : lv_has ls 4 [(0, .ref (d 0)), (1, .int i), (2, .int t)] := hl
  obtain ⟨k0, r70, r71, r72, r73, r74, r75, r76, r77, hR, hS, hB, hSp, ⟨kco, nco⟩, lT, lP, n68, n79, hTl, hPk, hPi, n40⟩ := id hC
  obtain ⟨z92, z93, zw, zz, zst, zs6⟩ := id hN
  have hTp := hR.2.2.2.2.2.2.2
  have n60 := lP.2.2.1
  refine lv_aload_n hx hb dX10_state_0 rfl (lv_at hl 0 rfl) ?_
  refine lv_iload_n hx hb dX10_state_1 rfl (lv_at hl 1 rfl) ?_
  refine k_Vi (n := 1) X hw (rcvk (ci := 10) X hw k0 (fun _ _ _ _ _ _ _ => ⟨_, rfl⟩) rfl) (c_X10_isTale l G _ d sa sb sp te tm pe tf pf nt np i hC hN) wd_r30_2 wd_r30_3 wd_r30_4 wd_r1_2 wd_r30_5 ⟨by decide, by decide, by decide +kernel⟩ rfl rfl ⟨Nat.le_of_ble_eq_true rfl, Nat.le_of_ble_eq_true rfl⟩ rfl rfl hl.1 (Nat.le_of_ble_eq_true rfl) dX10_state_2 ⟨Nat.le_of_ble_eq_true rfl, Nat.le_of_ble_eq_true rfl⟩ (fun r2_1 S2_3 H locs h2_2 hw => ?_)
  rcases h2_2 with ⟨rfl, rfl, h2_2⟩ | ⟨rfl, rfl, h2_2⟩
  · have h2_2 := h2_2
    refine lv_if_eq (tgt := 19) hx hb dX10_state_5 (by decide) (fun c5_4 => absurd c5_4 (by decide)) (fun c5_4 => ?_)
    refine lv_iload_n hx hb dX10_state_8 rfl (lv_at hl 2 rfl) ?_
    refine k_Si (n := 1) X hw (c_X10_isMoment l G _ t) wd_r30_6 wd_r30_7 wd_r1_2 wd_r30_8 ⟨by decide, by decide, by decide +kernel⟩ rfl rfl ⟨Nat.le_of_ble_eq_true rfl, Nat.le_of_ble_eq_true rfl⟩ rfl rfl hl.1 (Nat.le_of_ble_eq_true rfl) dX10_state_9 ⟨Nat.le_of_ble_eq_true rfl, Nat.le_of_ble_eq_true rfl⟩ (fun r9_5 S9_7 H locs h9_6 hw => ?_)
    rcases h9_6 with ⟨rfl, rfl, h9_6⟩ | ⟨rfl, rfl, h9_6⟩
    · have h9_6 := h9_6
      refine lv_if_eq (tgt := 19) hx hb dX10_state_12 (by decide) (fun c12_8 => absurd c12_8 (by decide)) (fun c12_8 => ?_)
      refine lv_iconst (v := 1) hx hb dX10_state_15 (by decide) ?_
      refine lv_goto (tgt := 20) hx hb dX10_state_16 (by decide) ?_
      refine lv_istore_n (lv' := [(3, .int 1), (0, .ref (d 0)), (1, .int i), (2, .int t)]) hx hb dX10_state_20 rfl hl (by decide) rfl (fun ls hl => ?_)
      refine lv_iload_n hx hb dX10_state_21 rfl (lv_at hl 0 rfl) ?_
      refine lv_if_eq (tgt := 43) hx hb dX10_state_22 (by decide) (fun c22_9 => absurd c22_9 (by decide)) (fun c22_9 => ?_)
      refine lv_aload_n hx hb dX10_state_25 rfl (lv_at hl 1 rfl) ?_
      refine gf_X10_28 (b := (d 6)) X hw k0 r72 dX10_state_26 ?_
      refine lv_iload_n hx hb dX10_state_29 rfl (lv_at hl 2 rfl) ?_
      refine k_Vq (n := 1) X hw (rcvk (ci := 0) X hw lT.1 (fun _ _ _ _ _ _ _ => ⟨_, rfl⟩) rfl) (c_Jx4a65c_get_915e3 l G _ (d 6) (d 7) tf nt te i (lT.sh z92) (by omega)) wd_r18_6 wd_r18_7 wd_r18_8 wd_r1_22 wd_r18_9 ⟨by decide, by decide, by decide +kernel⟩ rfl rfl ⟨Nat.le_of_ble_eq_true rfl, Nat.le_of_ble_eq_true rfl⟩ rfl rfl hl.1 (Nat.le_of_ble_eq_true rfl) dX10_state_30 ⟨Nat.le_of_ble_eq_true rfl, Nat.le_of_ble_eq_true rfl⟩ (fun r30_10 S30_12 H locs h30_11 hw => ?_)
      obtain ⟨rfl, rfl⟩ := h30_11
      have hik : i.toNatClampNeg < nt := clt (by omega) (by omega)
      refine q_castT X hw (hTl _ hik).1 dX10_state_33 ?_
      refine lv_iload_n hx hb dX10_state_36 rfl (lv_at hl 3 rfl) ?_
      refine k_Vi (n := 1) X hw (rcvk (ci := 7) X hw (hTl _ hik).1 (fun _ _ _ _ _ _ _ => ⟨_, rfl⟩) rfl) (c_X7_stateAt l G _ (te i.toNatClampNeg) (tm i.toNatClampNeg) t (hTl _ hik)) wd_r31_19 wd_r31_20 wd_r31_21 wd_r18_22 wd_r31_22 ⟨by decide, by decide, by decide +kernel⟩ rfl rfl ⟨Nat.le_of_ble_eq_true rfl, Nat.le_of_ble_eq_true rfl⟩ rfl rfl hl.1 (Nat.le_of_ble_eq_true rfl) dX10_state_37 ⟨Nat.le_of_ble_eq_true rfl, Nat.le_of_ble_eq_true rfl⟩ (fun r37_13 S37_15 H locs h37_14 hw => ?_)
      obtain ⟨rfl, h37_14⟩ := h37_14
      refine lv_goto (tgt := 44) hx hb dX10_state_40 (by decide) ?_
      exact hret r37_13 _ _ _ _ _ ⟨rfl, trivial⟩ hw rfl dX10_state_44
    · have h9_6 := h9_6
      refine lv_if_eq (tgt := 19) hx hb dX10_state_12 (by decide) (fun c12_16 => ?_) (fun c12_16 => absurd c12_16 (by decide))
      refine lv_iconst (v := 0) hx hb dX10_state_19 (by decide) ?_
      refine lv_istore_n (lv' := [(3, .int 0), (0, .ref (d 0)), (1, .int i), (2, .int t)]) hx hb dX10_state_20 rfl hl (by decide) rfl (fun ls hl => ?_)
      refine lv_iload_n hx hb dX10_state_21 rfl (lv_at hl 0 rfl) ?_
      refine lv_if_eq (tgt := 43) hx hb dX10_state_22 (by decide) (fun c22_17 => ?_) (fun c22_17 => absurd c22_17 (by decide))
      refine lv_iconst (v := -1) hx hb dX10_state_43 (by decide) ?_
      exact hret (-1) _ _ _ _ _ ⟨rfl, trivial⟩ hw rfl dX10_state_44
  · have h2_2 := h2_2
    refine lv_if_eq (tgt := 19) hx hb dX10_state_5 (by decide) (fun c5_18 => ?_) (fun c5_18 => absurd c5_18 (by decide))
    refine lv_iconst (v := 0) hx hb dX10_state_19 (by decide) ?_
    refine lv_istore_n (lv' := [(3, .int 0), (0, .ref (d 0)), (1, .int i), (2, .int t)]) hx hb dX10_state_20 rfl hl (by decide) rfl (fun ls hl => ?_)
    refine lv_iload_n hx hb dX10_state_21 rfl (lv_at hl 0 rfl) ?_
    refine lv_if_eq (tgt := 43) hx hb dX10_state_22 (by decide) (fun c22_19 => ?_) (fun c22_19 => absurd c22_19 (by decide))
    refine lv_iconst (v := -1) hx hb dX10_state_43 (by decide) ?_
    exact hret (-1) _ _ _ _ _ ⟨rfl, trivial⟩ hw rfl dX10_state_44
set_option maxHeartbeats 4000000 in
set_option maxRecDepth 100000 in
theorem c_X10_about (l : Launch) (G : Gh) (S : Pl) (d sa sb sp te tm pe : Nat → Nat) (tf pf nt np : Nat) (x : Int32) (hC : CIs G S d sa sb sp te tm pe tf pf nt np) (hN : CIn (pI S) d te pe nt np) : MtI l yX10_about cX10_about 2 (some .int) (Rm 1 0 0) G [.ref (d 0), .int x] S (fun (r : Int32) (S' : Pl) => S = S' ∧ True) 0 0 := by
  refine MtI.of (by decide) (Nat.le_of_ble_eq_true rfl) ?_
  intro p e s m args below meth c Q A X hw hin hret ls hl
  have hx := X.1.1
  have hb := X.1.2.1
  have hl : lv_has ls 2 [(0, .ref (d 0)), (1, .int x)] := hl
  obtain ⟨k0, r70, r71, r72, r73, r74, r75, r76, r77, hR, hS, hB, hSp, ⟨kco, nco⟩, lT, lP, n68, n79, hTl, hPk, hPi, n40⟩ := id hC
  obtain ⟨z92, z93, zw, zz, zst, zs6⟩ := id hN
  have hTp := hR.2.2.2.2.2.2.2
  have n60 := lP.2.2.1
  refine lv_iload_n hx hb dX10_about_0 rfl (lv_at hl 1 rfl) ?_
  by_cases k1_1 : x = 0
  · refine lv_tableIn (tgt := 36) hx hb dX10_about_1 (by rw [k1_1]; decide) (by rw [k1_1]; decide) (by rw [k1_1]; rfl) (by decide) ?_
    refine lv_aload_n hx hb dX10_about_36 rfl (lv_at hl 0 rfl) ?_
    refine gf_X10_49 (b := (sa 0)) X hw k0 r76 dX10_about_37 ?_
    refine k_Vi (n := 0) X hw (rcvk (ci := 3) X hw hS.1 (fun _ _ _ _ _ _ _ => ⟨_, rfl⟩) rfl) (c_X3_lines l G _ sa hS) wd_r20_4 wd_r14_4 wd_r14_5 wd_r2_9 wd_r14_6 ⟨by decide, by decide, by decide +kernel⟩ rfl rfl ⟨Nat.le_of_ble_eq_true rfl, Nat.le_of_ble_eq_true rfl⟩ rfl rfl hl.1 (Nat.le_of_ble_eq_true rfl) dX10_about_40 ⟨Nat.le_of_ble_eq_true rfl, Nat.le_of_ble_eq_true rfl⟩ (fun r40_2 S40_4 H locs h40_3 hw => ?_)
    obtain ⟨rfl, h40_3⟩ := h40_3
    exact hret r40_2 _ _ _ _ _ ⟨rfl, trivial⟩ hw rfl dX10_about_43
  have D1_1 := iNe k1_1 rfl t_0
  by_cases k1_5 : x = 1
  · refine lv_tableIn (tgt := 44) hx hb dX10_about_1 (by rw [k1_5]; decide) (by rw [k1_5]; decide) (by rw [k1_5]; rfl) (by decide) ?_
    refine lv_aload_n hx hb dX10_about_44 rfl (lv_at hl 0 rfl) ?_
    refine gf_X10_28 (b := (d 6)) X hw k0 r72 dX10_about_45 ?_
    refine k_Vi (n := 0) X hw (rcvk (ci := 0) X hw lT.1 (fun _ _ _ _ _ _ _ => ⟨_, rfl⟩) rfl) (c_Jx4a65c_size_8abf5 l G _ (d 6) lT.1) wd_r18_1 wd_r18_2 wd_r18_3 wd_r1_22 wd_r18_4 ⟨by decide, by decide, by decide +kernel⟩ rfl rfl ⟨Nat.le_of_ble_eq_true rfl, Nat.le_of_ble_eq_true rfl⟩ rfl rfl hl.1 (Nat.le_of_ble_eq_true rfl) dX10_about_48 ⟨Nat.le_of_ble_eq_true rfl, Nat.le_of_ble_eq_true rfl⟩ (fun r48_6 S48_8 H locs h48_7 hw => ?_)
    obtain ⟨rfl, h48_7⟩ := h48_7
    have h48_7t : r48_6.toInt = ((pI S) 92 (d 6)).toInt := congrArg Int32.toInt h48_7
    exact hret r48_6 _ _ _ _ _ ⟨rfl, trivial⟩ hw rfl dX10_about_51
  have D1_5 := iNe k1_5 rfl t_1
  by_cases k1_9 : x = 2
  · refine lv_tableIn (tgt := 52) hx hb dX10_about_1 (by rw [k1_9]; decide) (by rw [k1_9]; decide) (by rw [k1_9]; rfl) (by decide) ?_
    refine lv_aload_n hx hb dX10_about_52 rfl (lv_at hl 0 rfl) ?_
    refine gf_X10_32 (b := (d 8)) X hw k0 r73 dX10_about_53 ?_
    refine k_Vi (n := 0) X hw (rcvk (ci := 0) X hw lP.1 (fun _ _ _ _ _ _ _ => ⟨_, rfl⟩) rfl) (c_Jx4a65c_size_8abf5 l G _ (d 8) lP.1) wd_r18_1 wd_r18_2 wd_r18_3 wd_r1_22 wd_r18_4 ⟨by decide, by decide, by decide +kernel⟩ rfl rfl ⟨Nat.le_of_ble_eq_true rfl, Nat.le_of_ble_eq_true rfl⟩ rfl rfl hl.1 (Nat.le_of_ble_eq_true rfl) dX10_about_56 ⟨Nat.le_of_ble_eq_true rfl, Nat.le_of_ble_eq_true rfl⟩ (fun r56_10 S56_12 H locs h56_11 hw => ?_)
    obtain ⟨rfl, h56_11⟩ := h56_11
    have h56_11t : r56_10.toInt = ((pI S) 92 (d 8)).toInt := congrArg Int32.toInt h56_11
    exact hret r56_10 _ _ _ _ _ ⟨rfl, trivial⟩ hw rfl dX10_about_59
  have D1_9 := iNe k1_9 rfl t_2
  by_cases k1_13 : x = 3
  · refine lv_tableIn (tgt := 60) hx hb dX10_about_1 (by rw [k1_13]; decide) (by rw [k1_13]; decide) (by rw [k1_13]; rfl) (by decide) ?_
    refine lv_aload_n hx hb dX10_about_60 rfl (lv_at hl 0 rfl) ?_
    refine gf_X10_179 (v := (pI S) 78 (d 0)) X hw k0 rfl dX10_about_61 ?_
    exact hret ((pI S) 78 (d 0)) _ _ _ _ _ ⟨rfl, trivial⟩ hw rfl dX10_about_64
  have D1_13 := iNe k1_13 rfl t_3
  by_cases k1_14 : x = 4
  · refine lv_tableIn (tgt := 65) hx hb dX10_about_1 (by rw [k1_14]; decide) (by rw [k1_14]; decide) (by rw [k1_14]; rfl) (by decide) ?_
    refine lv_aload_n hx hb dX10_about_65 rfl (lv_at hl 0 rfl) ?_
    refine gf_X10_10 (b := (d 1)) X hw k0 r70 dX10_about_66 ?_
    refine k_Vi (n := 0) X hw (rcvk (ci := 8) X hw hTp.1 (fun _ _ _ _ _ _ _ => ⟨_, rfl⟩) rfl) (c_X8_size l G _ (d 1) (d 2) hTp) wd_r7_4 wd_r7_5 wd_r7_6 wd_r1_14 wd_r7_7 ⟨by decide, by decide, by decide +kernel⟩ rfl rfl ⟨Nat.le_of_ble_eq_true rfl, Nat.le_of_ble_eq_true rfl⟩ rfl rfl hl.1 (Nat.le_of_ble_eq_true rfl) dX10_about_69 ⟨Nat.le_of_ble_eq_true rfl, Nat.le_of_ble_eq_true rfl⟩ (fun r69_15 S69_17 H locs h69_16 hw => ?_)
    obtain ⟨rfl, h69_16⟩ := h69_16
    exact hret r69_15 _ _ _ _ _ ⟨rfl, trivial⟩ hw rfl dX10_about_72
  have D1_14 := iNe k1_14 rfl t_4
  refine lv_tableOut (tgt := 73) hx hb dX10_about_1 (by omega) (by decide) ?_
  refine lv_iconst (v := -1) hx hb dX10_about_73 (by decide) ?_
  exact hret (-1) _ _ _ _ _ ⟨rfl, trivial⟩ hw rfl dX10_about_74
set_option maxHeartbeats 4000000 in
set_option maxRecDepth 100000 in
theorem c_X10_feed (l : Launch) (G : Gh) (S : Pl) (d sa sb sp te tm pe : Nat → Nat) (tf pf nt np : Nat) (a1 a2 a3 a4 a5 : Int32) (hC : CIs G S d sa sb sp te tm pe tf pf nt np) (hN : CIn (pI S) d te pe nt np) : MtI l yX10_feed cX10_feed 6 (some .int) (Rm 1 0 0) G [.ref (d 0), .int a1, .int a2, .int a3, .int a4, .int a5] S (fun (r : Int32) (S' : Pl) => ∃ I' q', ch S I' (pJ S) q' (qJ S) = S' ∧ ((∀ f, f ≠ 61 → I' f = pI S f) ∧ (I' 61 (d 1)).toInt = fdN (pI S 61 (d 1)).toInt) ∧ r.toInt = fdR (pI S 61 (d 1)).toInt) 0 0 := by
  refine MtI.of (by decide) (Nat.le_of_ble_eq_true rfl) ?_
  intro p e s m args below meth c Q A X hw hin hret ls hl
  have hx := X.1.1
  have hb := X.1.2.1
  have hl : lv_has ls 6 [(0, .ref (d 0)), (1, .int a1), (2, .int a2), (3, .int a3), (4, .int a4), (5, .int a5)] := hl
  obtain ⟨k0, r70, r71, r72, r73, r74, r75, r76, r77, hR, hS, hB, hSp, ⟨kco, nco⟩, lT, lP, n68, n79, hTl, hPk, hPi, n40⟩ := id hC
  obtain ⟨z92, z93, zw, zz, zst, zs6⟩ := id hN
  have hTp := hR.2.2.2.2.2.2.2
  have n60 := lP.2.2.1
  refine lv_aload_n hx hb dX10_feed_0 rfl (lv_at hl 0 rfl) ?_
  refine gf_X10_10 (b := (d 1)) X hw k0 r70 dX10_feed_1 ?_
  refine lv_bipush (v := 20) hx hb dX10_feed_4 (by decide) ?_
  refine k_Vi (n := 1) X hw (rcvk (ci := 8) X hw hTp.1 (fun _ _ _ _ _ _ _ => ⟨_, rfl⟩) rfl) (c_X8_hasRoom l G _ (d 1) (d 2) 20 hTp zz (by have := t_20; omega)) wd_r6_19 wd_r6_20 wd_r6_21 wd_r1_14 wd_r6_22 ⟨by decide, by decide, by decide +kernel⟩ rfl rfl ⟨Nat.le_of_ble_eq_true rfl, Nat.le_of_ble_eq_true rfl⟩ rfl rfl hl.1 (Nat.le_of_ble_eq_true rfl) dX10_feed_6 ⟨Nat.le_of_ble_eq_true rfl, Nat.le_of_ble_eq_true rfl⟩ (fun r6_1 S6_3 H locs h6_2 hw => ?_)
  have := t_20
  rcases h6_2 with ⟨rfl, rfl, h6_2⟩ | ⟨rfl, rfl, h6_2⟩
  · have h6_2 := h6_2
    refine lv_if_ne (tgt := 14) hx hb dX10_feed_9 (by decide) (fun c9_4 => ?_) (fun c9_4 => absurd c9_4 (by decide))
    refine lv_aload_n hx hb dX10_feed_14 rfl (lv_at hl 0 rfl) ?_
    refine gf_X10_10 (b := (d 1)) X hw k0 r70 dX10_feed_15 ?_
    refine lv_iload_n hx hb dX10_feed_18 rfl (lv_at hl 1 rfl) ?_
    refine k_Vv (n := 1) X hw (rcvk (ci := 8) X hw hTp.1 (fun _ _ _ _ _ _ _ => ⟨_, rfl⟩) rfl) (c_X8_add l G _ (d 1) (d 2) a1 hTp (show 0 ≤ ((pI S) 61 (d 1)).toInt ∧ ((pI S) 61 (d 1)).toInt ≤ 996 by omega)) wd_r7_0 wd_r7_1 wd_r7_2 wd_r1_14 wd_r7_3 ⟨by decide, by decide, by decide +kernel⟩ rfl rfl ⟨Nat.le_of_ble_eq_true rfl, Nat.le_of_ble_eq_true rfl⟩ rfl rfl hl.1 (Nat.le_of_ble_eq_true rfl) dX10_feed_19 ⟨Nat.le_of_ble_eq_true rfl, Nat.le_of_ble_eq_true rfl⟩ (fun S19_6 H locs h19_5 hw => ?_)
    obtain ⟨I19_7, q19_8, rfl, h19_5⟩ := h19_5
    have hw : PX G A s.heap (ch S I19_7 (pJ S) q19_8 (qJ S)) H locs := hw
    have q19 := h19_5
    have g19 : (I19_7 61 (d 1)).toInt = ((pI S) 61 (d 1)).toInt + 4 := h19_5.2
    refine lv_aload_n hx hb dX10_feed_22 rfl (lv_at hl 0 rfl) ?_
    refine gf_X10_10 (b := (d 1)) X hw k0 r70 dX10_feed_23 ?_
    refine lv_iload_n hx hb dX10_feed_26 rfl (lv_at hl 2 rfl) ?_
    refine k_Vv (n := 1) X hw (rcvk (ci := 8) X hw hTp.1 (fun _ _ _ _ _ _ _ => ⟨_, rfl⟩) rfl) (c_X8_add l G _ (d 1) (d 2) a2 hTp (show 0 ≤ (I19_7 61 (d 1)).toInt ∧ (I19_7 61 (d 1)).toInt ≤ 996 by omega)) wd_r7_0 wd_r7_1 wd_r7_2 wd_r1_14 wd_r7_3 ⟨by decide, by decide, by decide +kernel⟩ rfl rfl ⟨Nat.le_of_ble_eq_true rfl, Nat.le_of_ble_eq_true rfl⟩ rfl rfl hl.1 (Nat.le_of_ble_eq_true rfl) dX10_feed_27 ⟨Nat.le_of_ble_eq_true rfl, Nat.le_of_ble_eq_true rfl⟩ (fun S27_10 H locs h27_9 hw => ?_)
    obtain ⟨I27_11, q27_12, rfl, h27_9⟩ := h27_9
    have hw : PX G A s.heap (ch S I27_11 (pJ S) q27_12 (qJ S)) H locs := hw
    have q27 := h27_9
    have g27 : (I27_11 61 (d 1)).toInt = (I19_7 61 (d 1)).toInt + 4 := h27_9.2
    refine lv_aload_n hx hb dX10_feed_30 rfl (lv_at hl 0 rfl) ?_
    refine gf_X10_10 (b := (d 1)) X hw k0 r70 dX10_feed_31 ?_
    refine lv_iload_n hx hb dX10_feed_34 rfl (lv_at hl 3 rfl) ?_
    refine k_Vv (n := 1) X hw (rcvk (ci := 8) X hw hTp.1 (fun _ _ _ _ _ _ _ => ⟨_, rfl⟩) rfl) (c_X8_add l G _ (d 1) (d 2) a3 hTp (show 0 ≤ (I27_11 61 (d 1)).toInt ∧ (I27_11 61 (d 1)).toInt ≤ 996 by omega)) wd_r7_0 wd_r7_1 wd_r7_2 wd_r1_14 wd_r7_3 ⟨by decide, by decide, by decide +kernel⟩ rfl rfl ⟨Nat.le_of_ble_eq_true rfl, Nat.le_of_ble_eq_true rfl⟩ rfl rfl hl.1 (Nat.le_of_ble_eq_true rfl) dX10_feed_35 ⟨Nat.le_of_ble_eq_true rfl, Nat.le_of_ble_eq_true rfl⟩ (fun S35_14 H locs h35_13 hw => ?_)
    obtain ⟨I35_15, q35_16, rfl, h35_13⟩ := h35_13
    have hw : PX G A s.heap (ch S I35_15 (pJ S) q35_16 (qJ S)) H locs := hw
    have q35 := h35_13
    have g35 : (I35_15 61 (d 1)).toInt = (I27_11 61 (d 1)).toInt + 4 := h35_13.2
    refine lv_aload_n hx hb dX10_feed_38 rfl (lv_at hl 0 rfl) ?_
    refine gf_X10_10 (b := (d 1)) X hw k0 r70 dX10_feed_39 ?_
    refine lv_iload hx hb dX10_feed_42 (lv_at hl 4 rfl) ?_
    refine k_Vv (n := 1) X hw (rcvk (ci := 8) X hw hTp.1 (fun _ _ _ _ _ _ _ => ⟨_, rfl⟩) rfl) (c_X8_add l G _ (d 1) (d 2) a4 hTp (show 0 ≤ (I35_15 61 (d 1)).toInt ∧ (I35_15 61 (d 1)).toInt ≤ 996 by omega)) wd_r7_0 wd_r7_1 wd_r7_2 wd_r1_14 wd_r7_3 ⟨by decide, by decide, by decide +kernel⟩ rfl rfl ⟨Nat.le_of_ble_eq_true rfl, Nat.le_of_ble_eq_true rfl⟩ rfl rfl hl.1 (Nat.le_of_ble_eq_true rfl) dX10_feed_44 ⟨Nat.le_of_ble_eq_true rfl, Nat.le_of_ble_eq_true rfl⟩ (fun S44_18 H locs h44_17 hw => ?_)
    obtain ⟨I44_19, q44_20, rfl, h44_17⟩ := h44_17
    have hw : PX G A s.heap (ch S I44_19 (pJ S) q44_20 (qJ S)) H locs := hw
    have q44 := h44_17
    have g44 : (I44_19 61 (d 1)).toInt = (I35_15 61 (d 1)).toInt + 4 := h44_17.2
    refine lv_aload_n hx hb dX10_feed_47 rfl (lv_at hl 0 rfl) ?_
    refine gf_X10_10 (b := (d 1)) X hw k0 r70 dX10_feed_48 ?_
    refine lv_iload hx hb dX10_feed_51 (lv_at hl 5 rfl) ?_
    refine k_Vv (n := 1) X hw (rcvk (ci := 8) X hw hTp.1 (fun _ _ _ _ _ _ _ => ⟨_, rfl⟩) rfl) (c_X8_add l G _ (d 1) (d 2) a5 hTp (show 0 ≤ (I44_19 61 (d 1)).toInt ∧ (I44_19 61 (d 1)).toInt ≤ 996 by omega)) wd_r7_0 wd_r7_1 wd_r7_2 wd_r1_14 wd_r7_3 ⟨by decide, by decide, by decide +kernel⟩ rfl rfl ⟨Nat.le_of_ble_eq_true rfl, Nat.le_of_ble_eq_true rfl⟩ rfl rfl hl.1 (Nat.le_of_ble_eq_true rfl) dX10_feed_53 ⟨Nat.le_of_ble_eq_true rfl, Nat.le_of_ble_eq_true rfl⟩ (fun S53_22 H locs h53_21 hw => ?_)
    obtain ⟨I53_23, q53_24, rfl, h53_21⟩ := h53_21
    have hw : PX G A s.heap (ch S I53_23 (pJ S) q53_24 (qJ S)) H locs := hw
    have q53 := h53_21
    have g53 : (I53_23 61 (d 1)).toInt = (I44_19 61 (d 1)).toInt + 4 := h53_21.2
    refine lv_aload_n hx hb dX10_feed_56 rfl (lv_at hl 0 rfl) ?_
    refine gf_X10_10 (b := (d 1)) X hw k0 r70 dX10_feed_57 ?_
    refine k_Vi (n := 0) X hw (rcvk (ci := 8) X hw hTp.1 (fun _ _ _ _ _ _ _ => ⟨_, rfl⟩) rfl) (c_X8_size l G _ (d 1) (d 2) hTp) wd_r7_4 wd_r7_5 wd_r7_6 wd_r1_14 wd_r7_7 ⟨by decide, by decide, by decide +kernel⟩ rfl rfl ⟨Nat.le_of_ble_eq_true rfl, Nat.le_of_ble_eq_true rfl⟩ rfl rfl hl.1 (Nat.le_of_ble_eq_true rfl) dX10_feed_60 ⟨Nat.le_of_ble_eq_true rfl, Nat.le_of_ble_eq_true rfl⟩ (fun r60_25 S60_27 H locs h60_26 hw => ?_)
    obtain ⟨rfl, h60_26⟩ := h60_26
    have hsz : r60_25 = I53_23 61 (d 1) := h60_26
    have hszt := congrArg Int32.toInt hsz
    exact hret r60_25 _ _ _ _ _ ⟨_, _, rfl, ⟨fun f hf => (q53.1 f hf).trans ((q44.1 f hf).trans ((q35.1 f hf).trans ((q27.1 f hf).trans ((q19.1 f hf).trans (rfl))))), by unfold fdN; rw [if_pos (by omega)]; omega⟩, by unfold fdR; rw [if_pos (by omega)]; omega⟩ hw rfl dX10_feed_63
  · have h6_2 := h6_2
    refine lv_if_ne (tgt := 14) hx hb dX10_feed_9 (by decide) (fun c9_28 => absurd c9_28 (by decide)) (fun c9_28 => ?_)
    refine lv_iconst (v := -1) hx hb dX10_feed_12 (by decide) ?_
    exact hret (-1) _ _ _ _ _ ⟨_, _, rfl, ⟨fun _ _ => rfl, by unfold fdN; rw [if_neg (by omega)]⟩, by unfold fdR; rw [if_neg (by omega)]; decide⟩ hw rfl dX10_feed_13
set_option maxHeartbeats 4000000 in
set_option maxRecDepth 100000 in
theorem c_X10_end (l : Launch) (G : Gh) (S : Pl) (d sa sb sp te tm pe : Nat → Nat) (tf pf nt np : Nat) (n : Int32) (hC : CIs G S d sa sb sp te tm pe tf pf nt np) (hN : CIn (pI S) d te pe nt np) : MtI l yX10_end cX10_end 2 (some .int) (Rm 1 0 0) G [.ref (d 0), .int n] S (fun (r : Int32) (S' : Pl) => ∃ I', ch S I' (pJ S) (qI S) (qJ S) = S' ∧ ((∀ f, f ≠ 61 → I' f = pI S f) ∧ (I' 61 (d 1)).toInt = edN (pI S 61 (d 1)).toInt n.toInt) ∧ r.toInt = edR (pI S 61 (d 1)).toInt n.toInt) 0 0 := by
  refine MtI.of (by decide) (Nat.le_of_ble_eq_true rfl) ?_
  intro p e s m args below meth c Q A X hw hin hret ls hl
  have hx := X.1.1
  have hb := X.1.2.1
  have hl : lv_has ls 2 [(0, .ref (d 0)), (1, .int n)] := hl
  obtain ⟨k0, r70, r71, r72, r73, r74, r75, r76, r77, hR, hS, hB, hSp, ⟨kco, nco⟩, lT, lP, n68, n79, hTl, hPk, hPi, n40⟩ := id hC
  obtain ⟨z92, z93, zw, zz, zst, zs6⟩ := id hN
  have hTp := hR.2.2.2.2.2.2.2
  have n60 := lP.2.2.1
  refine lv_iload_n hx hb dX10_end_0 rfl (lv_at hl 1 rfl) ?_
  refine lv_iconst (v := 0) hx hb dX10_end_1 (by decide) ?_
  refine lv_aload_n hx hb dX10_end_2 rfl (lv_at hl 0 rfl) ?_
  refine gf_X10_10 (b := (d 1)) X hw k0 r70 dX10_end_3 ?_
  refine k_Vi (n := 0) X hw (rcvk (ci := 8) X hw hTp.1 (fun _ _ _ _ _ _ _ => ⟨_, rfl⟩) rfl) (c_X8_size l G _ (d 1) (d 2) hTp) wd_r7_4 wd_r7_5 wd_r7_6 wd_r1_14 wd_r7_7 ⟨by decide, by decide, by decide +kernel⟩ rfl rfl ⟨Nat.le_of_ble_eq_true rfl, Nat.le_of_ble_eq_true rfl⟩ rfl rfl hl.1 (Nat.le_of_ble_eq_true rfl) dX10_end_6 ⟨Nat.le_of_ble_eq_true rfl, Nat.le_of_ble_eq_true rfl⟩ (fun r6_1 S6_3 H locs h6_2 hw => ?_)
  obtain ⟨rfl, h6_2⟩ := h6_2
  have h6_2t := congrArg Int32.toInt h6_2
  refine k_Si (n := 3) X hw (c_X10_within l G _ n 0 r6_1) wd_r7_17 wd_r7_18 wd_r1_2 wd_r7_19 ⟨by decide, by decide, by decide +kernel⟩ rfl rfl ⟨Nat.le_of_ble_eq_true rfl, Nat.le_of_ble_eq_true rfl⟩ rfl rfl hl.1 (Nat.le_of_ble_eq_true rfl) dX10_end_9 ⟨Nat.le_of_ble_eq_true rfl, Nat.le_of_ble_eq_true rfl⟩ (fun r9_4 S9_6 H locs h9_5 hw => ?_)
  have := t_0
  rcases h9_5 with ⟨rfl, rfl, h9_5⟩ | ⟨rfl, rfl, h9_5⟩
  · have h9_5 := h9_5
    refine lv_if_ne (tgt := 17) hx hb dX10_end_12 (by decide) (fun c12_7 => ?_) (fun c12_7 => absurd c12_7 (by decide))
    refine lv_aload_n hx hb dX10_end_17 rfl (lv_at hl 0 rfl) ?_
    refine gf_X10_10 (b := (d 1)) X hw k0 r70 dX10_end_18 ?_
    refine lv_iload_n hx hb dX10_end_21 rfl (lv_at hl 1 rfl) ?_
    refine k_Vv (n := 1) X hw (rcvk (ci := 8) X hw hTp.1 (fun _ _ _ _ _ _ _ => ⟨_, rfl⟩) rfl) (c_X8_cut l G _ (d 1) (d 2) n hTp) wd_r7_20 wd_r7_21 wd_r7_22 wd_r1_14 wd_r7_23 ⟨by decide, by decide, by decide +kernel⟩ rfl rfl ⟨Nat.le_of_ble_eq_true rfl, Nat.le_of_ble_eq_true rfl⟩ rfl rfl hl.1 (Nat.le_of_ble_eq_true rfl) dX10_end_22 ⟨Nat.le_of_ble_eq_true rfl, Nat.le_of_ble_eq_true rfl⟩ (fun S22_9 H locs h22_8 hw => ?_)
    obtain ⟨I22_10, rfl, h22_8⟩ := h22_8
    have hw : PX G A s.heap (ch S I22_10 (pJ S) (qI S) (qJ S)) H locs := hw
    have hct := h22_8
    refine lv_iload_n hx hb dX10_end_25 rfl (lv_at hl 1 rfl) ?_
    exact hret n _ _ _ _ _ ⟨_, rfl, ⟨hct.1, by unfold edN; rw [if_pos (by omega), hct.2.1 (by omega)]⟩, by unfold edR; rw [if_pos (by omega)]⟩ hw rfl dX10_end_26
  · have h9_5 := h9_5
    refine lv_if_ne (tgt := 17) hx hb dX10_end_12 (by decide) (fun c12_11 => absurd c12_11 (by decide)) (fun c12_11 => ?_)
    refine lv_iconst (v := -1) hx hb dX10_end_15 (by decide) ?_
    exact hret (-1) _ _ _ _ _ ⟨_, rfl, ⟨fun _ _ => rfl, by unfold edN; rw [if_neg (by omega)]⟩, by unfold edR; rw [if_neg (by omega)]; decide⟩ hw rfl dX10_end_16
set_option maxHeartbeats 4000000 in
set_option maxRecDepth 100000 in
theorem c_X10_oddsOf (l : Launch) (G : Gh) (S : Pl) (d sa sb sp te tm pe : Nat → Nat) (tf pf nt np : Nat) (j : Nat) (hC : CIs G S d sa sb sp te tm pe tf pf nt np) (hN : CIn (pI S) d te pe nt np) (hj : j < nt) : MtL l yX10_oddsOf cX10_oddsOf 6 (some .long) (Rm 4 0 0) G [.ref (d 0), .ref (te j)] S (fun (r : Int64) (S' : Pl) => S = S' ∧ True) 0 0 := by
  refine MtL.of (by decide) (Nat.le_of_ble_eq_true rfl) ?_
  intro p e s m args below meth c Q A X hw hin hret ls hl
  have hx := X.1.1
  have hb := X.1.2.1
  have hl : lv_has ls 6 [(0, .ref (d 0)), (1, .ref (te j))] := hl
  obtain ⟨k0, r70, r71, r72, r73, r74, r75, r76, r77, hR, hS, hB, hSp, ⟨kco, nco⟩, lT, lP, n68, n79, hTl, hPk, hPi, n40⟩ := id hC
  obtain ⟨z92, z93, zw, zz, zst, zs6⟩ := id hN
  have hTp := hR.2.2.2.2.2.2.2
  have n60 := lP.2.2.1
  refine lv_aload_n hx hb dX10_oddsOf_0 rfl (lv_at hl 1 rfl) ?_
  refine k_Vi (n := 0) X hw (rcvk (ci := 7) X hw (hTl _ hj).1 (fun _ _ _ _ _ _ _ => ⟨_, rfl⟩) rfl) (c_X7_weight l G _ (te j) (tm j) (hTl _ hj)) wd_r36_7 wd_r36_8 wd_r36_9 wd_r18_22 wd_r36_10 ⟨by decide, by decide, by decide +kernel⟩ rfl rfl ⟨Nat.le_of_ble_eq_true rfl, Nat.le_of_ble_eq_true rfl⟩ rfl rfl hl.1 (Nat.le_of_ble_eq_true rfl) dX10_oddsOf_1 ⟨Nat.le_of_ble_eq_true rfl, Nat.le_of_ble_eq_true rfl⟩ (fun r1_1 S1_3 H locs h1_2 hw => ?_)
  obtain ⟨rfl, h1_2⟩ := h1_2
  refine lv_i2l hx hb dX10_oddsOf_4 rfl ?_
  refine lv_topl (fun v4_4 e4_4 => ?_)
  refine lv_lstore_n (lv' := [(2, .long v4_4), (0, .ref (d 0)), (1, .ref (te j))]) hx hb dX10_oddsOf_5 rfl hl (by decide) rfl (fun ls hl => ?_)
  refine lv_iconst (v := 0) hx hb dX10_oddsOf_6 (by decide) ?_
  refine lv_istore (lv' := [(4, .int 0), (2, .long v4_4), (0, .ref (d 0)), (1, .ref (te j))]) hx hb dX10_oddsOf_7 hl (by decide) rfl (fun ls hl => ?_)
  have lp9 : ∀ (N9 : Nat) (u : Int64) (i : Int32), (0 ≤ i.toInt ∧ i.toInt ≤ (np : Int)) → (60 - i.toInt).toNat < N9 → ∀ (H : Heap) (locs : List Loc) (ls : Array Slot), PX G A s.heap S H locs → lv_has ls 6 [(4, .int i), (2, .long u), (0, .ref (d 0)), (1, .ref (te j))] → W p l e (Rm 4 0 0) s m args below meth c H locs 0 0 Q (F0 m 9 ls []) := by
    intro N9
    induction N9 with
    | zero => intro u i hi hm; exact absurd hm (Nat.not_lt_zero _)
    | succ N9 ih9 =>
      intro u i hi hm H locs ls hw hl
      refine lv_iload hx hb dX10_oddsOf_9 (lv_at hl 0 rfl) ?_
      refine lv_aload_n hx hb dX10_oddsOf_11 rfl (lv_at hl 2 rfl) ?_
      refine gf_X10_32 (b := (d 8)) X hw k0 r73 dX10_oddsOf_12 ?_
      refine k_Vi (n := 0) X hw (rcvk (ci := 0) X hw lP.1 (fun _ _ _ _ _ _ _ => ⟨_, rfl⟩) rfl) (c_Jx4a65c_size_8abf5 l G _ (d 8) lP.1) wd_r18_1 wd_r18_2 wd_r18_3 wd_r1_22 wd_r18_4 ⟨by decide, by decide, by decide +kernel⟩ rfl rfl ⟨Nat.le_of_ble_eq_true rfl, Nat.le_of_ble_eq_true rfl⟩ rfl rfl hl.1 (Nat.le_of_ble_eq_true rfl) dX10_oddsOf_15 ⟨Nat.le_of_ble_eq_true rfl, Nat.le_of_ble_eq_true rfl⟩ (fun r15_5 S15_7 H locs h15_6 hw => ?_)
      obtain ⟨rfl, h15_6⟩ := h15_6
      have h15_6t : r15_5.toInt = ((pI S) 92 (d 8)).toInt := congrArg Int32.toInt h15_6
      refine lv_icmp_ge (tgt := 63) hx hb dX10_oddsOf_18 (by decide) (fun c18_8 => ?_) (fun c18_8 => ?_)
      · have D18_8 := iLe c18_8 rfl rfl
        refine lv_lload_n hx hb dX10_oddsOf_63 rfl (lv_at hl 1 rfl) ?_
        exact hret u _ _ _ _ _ ⟨rfl, trivial⟩ hw dX10_oddsOf_64
      · have D18_8 := iNle c18_8 rfl rfl
        refine lv_aload_n hx hb dX10_oddsOf_21 rfl (lv_at hl 2 rfl) ?_
        refine gf_X10_32 (b := (d 8)) X hw k0 r73 dX10_oddsOf_22 ?_
        refine lv_iload hx hb dX10_oddsOf_25 (lv_at hl 0 rfl) ?_
        refine k_Vq (n := 1) X hw (rcvk (ci := 0) X hw lP.1 (fun _ _ _ _ _ _ _ => ⟨_, rfl⟩) rfl) (c_Jx4a65c_get_915e3 l G _ (d 8) (d 9) pf np pe i (lP.sh z93) (by omega)) wd_r18_6 wd_r18_7 wd_r18_8 wd_r1_22 wd_r18_9 ⟨by decide, by decide, by decide +kernel⟩ rfl rfl ⟨Nat.le_of_ble_eq_true rfl, Nat.le_of_ble_eq_true rfl⟩ rfl rfl hl.1 (Nat.le_of_ble_eq_true rfl) dX10_oddsOf_27 ⟨Nat.le_of_ble_eq_true rfl, Nat.le_of_ble_eq_true rfl⟩ (fun r27_9 S27_11 H locs h27_10 hw => ?_)
        obtain ⟨rfl, rfl⟩ := h27_10
        have hik : i.toNatClampNeg < np := clt (by omega) (by omega)
        refine q_castP X hw (hPk _ hik) dX10_oddsOf_30 ?_
        refine lv_astore (lv' := [(5, .ref (pe i.toNatClampNeg)), (4, .int i), (2, .long u), (0, .ref (d 0)), (1, .ref (te j))]) hx hb dX10_oddsOf_33 hl (by decide) rfl (fun ls hl => ?_)
        refine lv_aload hx hb dX10_oddsOf_35 (lv_at hl 0 rfl) ?_
        refine kp_st X hw (hPk _ hik) ⟨Nat.le_of_ble_eq_true rfl, Nat.le_of_ble_eq_true rfl⟩ hl.1 (Nat.le_of_ble_eq_true rfl) dX10_oddsOf_37 ⟨Nat.le_of_ble_eq_true rfl, Nat.le_of_ble_eq_true rfl⟩ (fun r37 H locs h37 hw => ?_)
        rcases h37 with ⟨rfl, h37⟩ | ⟨rfl, h37⟩
        · skip
          refine lv_if_eq (tgt := 57) hx hb dX10_oddsOf_40 (by decide) (fun c40_12 => absurd c40_12 (by decide)) (fun c40_12 => ?_)
          refine lv_lload_n hx hb dX10_oddsOf_43 rfl (lv_at hl 2 rfl) ?_
          refine lv_aload hx hb dX10_oddsOf_44 (lv_at hl 0 rfl) ?_
          refine lv_aload_n hx hb dX10_oddsOf_46 rfl (lv_at hl 4 rfl) ?_
          refine lv_aload_n hx hb dX10_oddsOf_47 rfl (lv_at hl 3 rfl) ?_
          refine gf_X10_49 (b := (sa 0)) X hw k0 r76 dX10_oddsOf_48 ?_
          refine kp_wg X hw (hPk _ hik) (hTl _ hj) hS ⟨Nat.le_of_ble_eq_true rfl, Nat.le_of_ble_eq_true rfl⟩ hl.1 (Nat.le_of_ble_eq_true rfl) dX10_oddsOf_51 ⟨Nat.le_of_ble_eq_true rfl, Nat.le_of_ble_eq_true rfl⟩ (fun r51 H locs hw => ?_)
          refine lv_i2l hx hb dX10_oddsOf_54 rfl ?_
          refine lv_topl (fun v54_13 e54_13 => ?_)
          refine lv_lmul hx hb dX10_oddsOf_55 ?_
          refine lv_topl (fun v55_14 e55_14 => ?_)
          refine lv_lstore_n (lv' := [(2, .long v55_14), (5, .ref (pe i.toNatClampNeg)), (4, .int i), (0, .ref (d 0)), (1, .ref (te j))]) hx hb dX10_oddsOf_56 rfl hl (by decide) rfl (fun ls hl => ?_)
          obtain ⟨v57_15, e57_15⟩ : ∃ y : Int32, y = i + 1 := ⟨_, rfl⟩
          have t57_15 := iAdd e57_15 rfl t_1 (by omega) (by omega)
          have t57 := t57_15
          refine lv_iinc (v := v57_15) (lv' := [(4, .int v57_15), (2, .long v55_14), (5, .ref (pe i.toNatClampNeg)), (0, .ref (d 0)), (1, .ref (te j))]) hx hb dX10_oddsOf_57 hl (k := 2) rfl (by rw [e57_15]; rfl) (by decide) rfl (fun ls hl => ?_)
          refine lv_goto (tgt := 9) hx hb dX10_oddsOf_60 (by decide) ?_
          exact ih9  v55_14 v57_15 (by omega) (by omega) _ _ _ hw (lv_sub hl [0, 1, 3, 4] rfl)
        · skip
          refine lv_if_eq (tgt := 57) hx hb dX10_oddsOf_40 (by decide) (fun c40_16 => ?_) (fun c40_16 => absurd c40_16 (by decide))
          obtain ⟨v57_17, e57_17⟩ : ∃ y : Int32, y = i + 1 := ⟨_, rfl⟩
          have t57_17 := iAdd e57_17 rfl t_1 (by omega) (by omega)
          have t57 := t57_17
          refine lv_iinc (v := v57_17) (lv' := [(4, .int v57_17), (5, .ref (pe i.toNatClampNeg)), (2, .long u), (0, .ref (d 0)), (1, .ref (te j))]) hx hb dX10_oddsOf_57 hl (k := 1) rfl (by rw [e57_17]; rfl) (by decide) rfl (fun ls hl => ?_)
          refine lv_goto (tgt := 9) hx hb dX10_oddsOf_60 (by decide) ?_
          exact ih9  u v57_17 (by omega) (by omega) _ _ _ hw (lv_sub hl [0, 2, 3, 4] rfl)
  exact lp9 _  v4_4 0 (by have := t_0; omega) (Nat.lt_succ_self _) _ _ _ hw (lv_sub hl [0, 1, 2, 3] rfl)
set_option maxHeartbeats 4000000 in
set_option maxRecDepth 100000 in
theorem c_X10_allOdds (l : Launch) (G : Gh) (S : Pl) (d sa sb sp te tm pe : Nat → Nat) (tf pf nt np : Nat) (hC : CIs G S d sa sb sp te tm pe tf pf nt np) (hN : CIn (pI S) d te pe nt np) : MtL l yX10_allOdds cX10_allOdds 4 (some .long) (Rm 5 0 0) G [.ref (d 0)] S (fun (r : Int64) (S' : Pl) => S = S' ∧ True) 0 0 := by
  refine MtL.of (by decide) (Nat.le_of_ble_eq_true rfl) ?_
  intro p e s m args below meth c Q A X hw hin hret ls hl
  have hx := X.1.1
  have hb := X.1.2.1
  have hl : lv_has ls 4 [(0, .ref (d 0))] := hl
  obtain ⟨k0, r70, r71, r72, r73, r74, r75, r76, r77, hR, hS, hB, hSp, ⟨kco, nco⟩, lT, lP, n68, n79, hTl, hPk, hPi, n40⟩ := id hC
  obtain ⟨z92, z93, zw, zz, zst, zs6⟩ := id hN
  have hTp := hR.2.2.2.2.2.2.2
  have n60 := lP.2.2.1
  refine lv_lconst (v := 0) hx hb dX10_allOdds_0 (by decide) ?_
  refine lv_lstore_n (lv' := [(1, .long 0), (0, .ref (d 0))]) hx hb dX10_allOdds_1 rfl hl (by decide) rfl (fun ls hl => ?_)
  refine lv_iconst (v := 0) hx hb dX10_allOdds_2 (by decide) ?_
  refine lv_istore_n (lv' := [(3, .int 0), (1, .long 0), (0, .ref (d 0))]) hx hb dX10_allOdds_3 rfl hl (by decide) rfl (fun ls hl => ?_)
  have lp4 : ∀ (N9 : Nat) (u : Int64) (i : Int32), (0 ≤ i.toInt ∧ i.toInt ≤ (nt : Int)) → (40 - i.toInt).toNat < N9 → ∀ (H : Heap) (locs : List Loc) (ls : Array Slot), PX G A s.heap S H locs → lv_has ls 4 [(3, .int i), (1, .long u), (0, .ref (d 0))] → W p l e (Rm 5 0 0) s m args below meth c H locs 0 0 Q (F0 m 4 ls []) := by
    intro N9
    induction N9 with
    | zero => intro u i hi hm; exact absurd hm (Nat.not_lt_zero _)
    | succ N9 ih4 =>
      intro u i hi hm H locs ls hw hl
      refine lv_iload_n hx hb dX10_allOdds_4 rfl (lv_at hl 0 rfl) ?_
      refine lv_aload_n hx hb dX10_allOdds_5 rfl (lv_at hl 2 rfl) ?_
      refine gf_X10_28 (b := (d 6)) X hw k0 r72 dX10_allOdds_6 ?_
      refine k_Vi (n := 0) X hw (rcvk (ci := 0) X hw lT.1 (fun _ _ _ _ _ _ _ => ⟨_, rfl⟩) rfl) (c_Jx4a65c_size_8abf5 l G _ (d 6) lT.1) wd_r18_1 wd_r18_2 wd_r18_3 wd_r1_22 wd_r18_4 ⟨by decide, by decide, by decide +kernel⟩ rfl rfl ⟨Nat.le_of_ble_eq_true rfl, Nat.le_of_ble_eq_true rfl⟩ rfl rfl hl.1 (Nat.le_of_ble_eq_true rfl) dX10_allOdds_9 ⟨Nat.le_of_ble_eq_true rfl, Nat.le_of_ble_eq_true rfl⟩ (fun r9_1 S9_3 H locs h9_2 hw => ?_)
      obtain ⟨rfl, h9_2⟩ := h9_2
      have h9_2t : r9_1.toInt = ((pI S) 92 (d 6)).toInt := congrArg Int32.toInt h9_2
      refine lv_icmp_ge (tgt := 39) hx hb dX10_allOdds_12 (by decide) (fun c12_4 => ?_) (fun c12_4 => ?_)
      · have D12_4 := iLe c12_4 rfl rfl
        refine lv_lload_n hx hb dX10_allOdds_39 rfl (lv_at hl 1 rfl) ?_
        exact hret u _ _ _ _ _ ⟨rfl, trivial⟩ hw dX10_allOdds_40
      · have D12_4 := iNle c12_4 rfl rfl
        refine lv_lload_n hx hb dX10_allOdds_15 rfl (lv_at hl 1 rfl) ?_
        refine lv_aload_n hx hb dX10_allOdds_16 rfl (lv_at hl 2 rfl) ?_
        refine lv_aload_n hx hb dX10_allOdds_17 rfl (lv_at hl 2 rfl) ?_
        refine gf_X10_28 (b := (d 6)) X hw k0 r72 dX10_allOdds_18 ?_
        refine lv_iload_n hx hb dX10_allOdds_21 rfl (lv_at hl 0 rfl) ?_
        refine k_Vq (n := 1) X hw (rcvk (ci := 0) X hw lT.1 (fun _ _ _ _ _ _ _ => ⟨_, rfl⟩) rfl) (c_Jx4a65c_get_915e3 l G _ (d 6) (d 7) tf nt te i (lT.sh z92) (by omega)) wd_r18_6 wd_r18_7 wd_r18_8 wd_r1_22 wd_r18_9 ⟨by decide, by decide, by decide +kernel⟩ rfl rfl ⟨Nat.le_of_ble_eq_true rfl, Nat.le_of_ble_eq_true rfl⟩ rfl rfl hl.1 (Nat.le_of_ble_eq_true rfl) dX10_allOdds_22 ⟨Nat.le_of_ble_eq_true rfl, Nat.le_of_ble_eq_true rfl⟩ (fun r22_5 S22_7 H locs h22_6 hw => ?_)
        obtain ⟨rfl, rfl⟩ := h22_6
        have hik : i.toNatClampNeg < nt := clt (by omega) (by omega)
        refine q_castT X hw (hTl _ hik).1 dX10_allOdds_25 ?_
        refine k_Vl (n := 1) X hw (rcvk (ci := 10) X hw k0 (fun _ _ _ _ _ _ _ => ⟨_, rfl⟩) rfl) (c_X10_oddsOf l G _ d sa sb sp te tm pe tf pf nt np i.toNatClampNeg hC hN hik) wd_r36_3 wd_r36_4 wd_r36_5 wd_r1_2 wd_r36_6 ⟨by decide, by decide, by decide +kernel⟩ rfl rfl ⟨Nat.le_of_ble_eq_true rfl, Nat.le_of_ble_eq_true rfl⟩ rfl rfl hl.1 (Nat.le_of_ble_eq_true rfl) dX10_allOdds_28 ⟨Nat.le_of_ble_eq_true rfl, Nat.le_of_ble_eq_true rfl⟩ (fun r28_8 S28_10 H locs h28_9 hw => ?_)
        obtain ⟨rfl, h28_9⟩ := h28_9
        refine lv_ladd hx hb dX10_allOdds_31 ?_
        refine lv_topl (fun v31_11 e31_11 => ?_)
        refine lv_lstore_n (lv' := [(1, .long v31_11), (3, .int i), (0, .ref (d 0))]) hx hb dX10_allOdds_32 rfl hl (by decide) rfl (fun ls hl => ?_)
        obtain ⟨v33_12, e33_12⟩ : ∃ y : Int32, y = i + 1 := ⟨_, rfl⟩
        have t33_12 := iAdd e33_12 rfl t_1 (by omega) (by omega)
        have t33 := t33_12
        refine lv_iinc (v := v33_12) (lv' := [(3, .int v33_12), (1, .long v31_11), (0, .ref (d 0))]) hx hb dX10_allOdds_33 hl (k := 1) rfl (by rw [e33_12]; rfl) (by decide) rfl (fun ls hl => ?_)
        refine lv_goto (tgt := 4) hx hb dX10_allOdds_36 (by decide) ?_
        exact ih4  v31_11 v33_12 (by omega) (by omega) _ _ _ hw (lv_sub hl [0, 1, 2] rfl)
  exact lp4 _  0 0 (by have := t_0; omega) (Nat.lt_succ_self _) _ _ _ hw (lv_sub hl [0, 1, 2] rfl)
set_option maxHeartbeats 4000000 in
set_option maxRecDepth 100000 in
theorem c_X10_sumByCell (l : Launch) (G : Gh) (S : Pl) (d sa sb sp te tm pe : Nat → Nat) (tf pf nt np : Nat) (t z : Int32) (hC : CIs G S d sa sb sp te tm pe tf pf nt np) (hN : CIn (pI S) d te pe nt np) : MtV l yX10_sumByCell cX10_sumByCell 7 none (Rm 5 0 0) G [.ref (d 0), .int t, .int z] S (fun (S' : Pl) => ∃ y', ch S (pI S) (pJ S) (qI S) y' = S' ∧ True) 0 0 := by
  refine MtV.of (by decide) (Nat.le_of_ble_eq_true rfl) ?_
  intro p e s m args below meth c Q A X hw hin hret ls hl
  have hx := X.1.1
  have hb := X.1.2.1
  have hl : lv_has ls 7 [(0, .ref (d 0)), (1, .int t), (2, .int z)] := hl
  obtain ⟨k0, r70, r71, r72, r73, r74, r75, r76, r77, hR, hS, hB, hSp, ⟨kco, nco⟩, lT, lP, n68, n79, hTl, hPk, hPi, n40⟩ := id hC
  obtain ⟨z92, z93, zw, zz, zst, zs6⟩ := id hN
  have hTp := hR.2.2.2.2.2.2.2
  have n60 := lP.2.2.1
  refine lv_iconst (v := 0) hx hb dX10_sumByCell_0 (by decide) ?_
  refine lv_istore_n (lv' := [(3, .int 0), (0, .ref (d 0)), (1, .int t), (2, .int z)]) hx hb dX10_sumByCell_1 rfl hl (by decide) rfl (fun ls hl => ?_)
  have lp2 : ∀ (N9 : Nat) (y2 : Nat → Nat → Int64) (k : Int32), (0 ≤ k.toInt ∧ k.toInt ≤ 64) → (64 - k.toInt).toNat < N9 → ∀ (H : Heap) (locs : List Loc) (ls : Array Slot), PX G A s.heap (ch S (pI S) (pJ S) (qI S) y2) H locs → lv_has ls 7 [(3, .int k), (0, .ref (d 0)), (1, .int t), (2, .int z)] → W p l e (Rm 5 0 0) s m args below meth c H locs 0 0 Q (F0 m 2 ls []) := by
    intro N9
    induction N9 with
    | zero => intro y2 k hk hm; exact absurd hm (Nat.not_lt_zero _)
    | succ N9 ih2 =>
      intro y2 k hk hm H locs ls hw hl
      refine lv_iload_n hx hb dX10_sumByCell_2 rfl (lv_at hl 0 rfl) ?_
      refine lv_bipush (v := 64) hx hb dX10_sumByCell_3 (by decide) ?_
      refine lv_icmp_ge (tgt := 21) hx hb dX10_sumByCell_5 (by decide) (fun c5_1 => ?_) (fun c5_1 => ?_)
      · have D5_1 := iLe c5_1 t_64 rfl
        refine lv_iconst (v := 0) hx hb dX10_sumByCell_21 (by decide) ?_
        refine lv_istore_n (lv' := [(3, .int 0), (0, .ref (d 0)), (1, .int t), (2, .int z)]) hx hb dX10_sumByCell_22 rfl hl (by decide) rfl (fun ls hl => ?_)
        have lp23 : ∀ (N9 : Nat) (y23 : Nat → Nat → Int64) (i : Int32), (0 ≤ i.toInt ∧ i.toInt ≤ (nt : Int)) → (40 - i.toInt).toNat < N9 → ∀ (H : Heap) (locs : List Loc) (ls : Array Slot), PX G A s.heap (ch S (pI S) (pJ S) (qI S) y23) H locs → lv_has ls 7 [(3, .int i), (0, .ref (d 0)), (1, .int t), (2, .int z)] → W p l e (Rm 5 0 0) s m args below meth c H locs 0 0 Q (F0 m 23 ls []) := by
          intro N9
          induction N9 with
          | zero => intro y23 i hi hm; exact absurd hm (Nat.not_lt_zero _)
          | succ N9 ih23 =>
            intro y23 i hi hm H locs ls hw hl
            refine lv_iload_n hx hb dX10_sumByCell_23 rfl (lv_at hl 0 rfl) ?_
            refine lv_aload_n hx hb dX10_sumByCell_24 rfl (lv_at hl 1 rfl) ?_
            refine gf_X10_28 (b := (d 6)) X hw k0 r72 dX10_sumByCell_25 ?_
            refine k_Vi (n := 0) X hw (rcvk (ci := 0) X hw lT.1 (fun _ _ _ _ _ _ _ => ⟨_, rfl⟩) rfl) (c_Jx4a65c_size_8abf5 l G _ (d 6) lT.1) wd_r18_1 wd_r18_2 wd_r18_3 wd_r1_22 wd_r18_4 ⟨by decide, by decide, by decide +kernel⟩ rfl rfl ⟨Nat.le_of_ble_eq_true rfl, Nat.le_of_ble_eq_true rfl⟩ rfl rfl hl.1 (Nat.le_of_ble_eq_true rfl) dX10_sumByCell_28 ⟨Nat.le_of_ble_eq_true rfl, Nat.le_of_ble_eq_true rfl⟩ (fun r28_2 S28_4 H locs h28_3 hw => ?_)
            obtain ⟨rfl, h28_3⟩ := h28_3
            have h28_3t : r28_2.toInt = ((pI S) 92 (d 6)).toInt := congrArg Int32.toInt h28_3
            refine lv_icmp_ge (tgt := 110) hx hb dX10_sumByCell_31 (by decide) (fun c31_5 => ?_) (fun c31_5 => ?_)
            · have D31_5 := iLe c31_5 rfl rfl
              exact hret _ _ _ _ _ ⟨_, rfl, trivial⟩ hw dX10_sumByCell_110
            · have D31_5 := iNle c31_5 rfl rfl
              refine lv_aload_n hx hb dX10_sumByCell_34 rfl (lv_at hl 1 rfl) ?_
              refine gf_X10_28 (b := (d 6)) X hw k0 r72 dX10_sumByCell_35 ?_
              refine lv_iload_n hx hb dX10_sumByCell_38 rfl (lv_at hl 0 rfl) ?_
              refine k_Vq (n := 1) X hw (rcvk (ci := 0) X hw lT.1 (fun _ _ _ _ _ _ _ => ⟨_, rfl⟩) rfl) (c_Jx4a65c_get_915e3 l G _ (d 6) (d 7) tf nt te i (lT.sh z92) (by omega)) wd_r18_6 wd_r18_7 wd_r18_8 wd_r1_22 wd_r18_9 ⟨by decide, by decide, by decide +kernel⟩ rfl rfl ⟨Nat.le_of_ble_eq_true rfl, Nat.le_of_ble_eq_true rfl⟩ rfl rfl hl.1 (Nat.le_of_ble_eq_true rfl) dX10_sumByCell_39 ⟨Nat.le_of_ble_eq_true rfl, Nat.le_of_ble_eq_true rfl⟩ (fun r39_6 S39_8 H locs h39_7 hw => ?_)
              obtain ⟨rfl, rfl⟩ := h39_7
              have hik : i.toNatClampNeg < nt := clt (by omega) (by omega)
              refine q_castT X hw (hTl _ hik).1 dX10_sumByCell_42 ?_
              refine lv_astore (lv' := [(4, .ref (te i.toNatClampNeg)), (3, .int i), (0, .ref (d 0)), (1, .int t), (2, .int z)]) hx hb dX10_sumByCell_45 hl (by decide) rfl (fun ls hl => ?_)
              refine lv_aload hx hb dX10_sumByCell_47 (lv_at hl 0 rfl) ?_
              refine lv_iload_n hx hb dX10_sumByCell_49 rfl (lv_at hl 3 rfl) ?_
              refine k_Vi (n := 1) X hw (rcvk (ci := 7) X hw (hTl _ hik).1 (fun _ _ _ _ _ _ _ => ⟨_, rfl⟩) rfl) (c_X7_cellAt l G _ (te i.toNatClampNeg) (tm i.toNatClampNeg) t (hTl _ hik)) wd_r38_10 wd_r37_1 wd_r37_2 wd_r18_22 wd_r37_3 ⟨by decide, by decide, by decide +kernel⟩ rfl rfl ⟨Nat.le_of_ble_eq_true rfl, Nat.le_of_ble_eq_true rfl⟩ rfl rfl hl.1 (Nat.le_of_ble_eq_true rfl) dX10_sumByCell_50 ⟨Nat.le_of_ble_eq_true rfl, Nat.le_of_ble_eq_true rfl⟩ (fun r50_9 S50_11 H locs h50_10 hw => ?_)
              obtain ⟨rfl, h50_10⟩ := h50_10
              refine lv_istore (lv' := [(5, .int r50_9), (4, .ref (te i.toNatClampNeg)), (3, .int i), (0, .ref (d 0)), (1, .int t), (2, .int z)]) hx hb dX10_sumByCell_53 hl (by decide) rfl (fun ls hl => ?_)
              refine lv_iload_n hx hb dX10_sumByCell_55 rfl (lv_at hl 5 rfl) ?_
              refine lv_if_eq (tgt := 68) hx hb dX10_sumByCell_56 (by decide) (fun c56_12 => ?_) (fun c56_12 => ?_)
              · have D56_12 := iEq c56_12 rfl t_0
                refine lv_iconst (v := 1) hx hb dX10_sumByCell_68 (by decide) ?_
                refine lv_goto (tgt := 73) hx hb dX10_sumByCell_69 (by decide) ?_
                refine lv_istore (lv' := [(6, .int 1), (5, .int r50_9), (4, .ref (te i.toNatClampNeg)), (3, .int i), (0, .ref (d 0)), (1, .int t), (2, .int z)]) hx hb dX10_sumByCell_73 hl (by decide) rfl (fun ls hl => ?_)
                refine lv_iload hx hb dX10_sumByCell_75 (lv_at hl 0 rfl) ?_
                refine lv_if_eq (tgt := 104) hx hb dX10_sumByCell_77 (by decide) (fun c77_13 => absurd c77_13 (by decide)) (fun c77_13 => ?_)
                refine lv_iload hx hb dX10_sumByCell_80 (lv_at hl 1 rfl) ?_
                refine k_Si (n := 1) X hw (c_X10_isCell l G _ r50_9) wd_r26_14 wd_r15_22 wd_r1_2 wd_r15_23 ⟨by decide, by decide, by decide +kernel⟩ rfl rfl ⟨Nat.le_of_ble_eq_true rfl, Nat.le_of_ble_eq_true rfl⟩ rfl rfl hl.1 (Nat.le_of_ble_eq_true rfl) dX10_sumByCell_82 ⟨Nat.le_of_ble_eq_true rfl, Nat.le_of_ble_eq_true rfl⟩ (fun r82_14 S82_16 H locs h82_15 hw => ?_)
                rcases h82_15 with ⟨rfl, rfl, h82_15⟩ | ⟨rfl, rfl, h82_15⟩
                · have h82_15 := h82_15
                  refine lv_if_eq (tgt := 104) hx hb dX10_sumByCell_85 (by decide) (fun c85_17 => absurd c85_17 (by decide)) (fun c85_17 => ?_)
                  refine lv_aload_n hx hb dX10_sumByCell_88 rfl (lv_at hl 4 rfl) ?_
                  refine gf_X10_42 (b := (d 16)) X hw k0 r75 dX10_sumByCell_89 ?_
                  refine lv_iload hx hb dX10_sumByCell_92 (lv_at hl 1 rfl) ?_
                  refine lv_dup2_11 hx hb dX10_sumByCell_94 rfl rfl ?_
                  refine q_ldJ X hw kco (vin nco (by omega) (by omega)) dX10_sumByCell_95 ?_
                  refine lv_topl (fun v95_18 e95_18 => ?_)
                  have e95_18 : v95_18 = y23 (d 16) r50_9.toNatClampNeg := e95_18
                  refine lv_aload_n hx hb dX10_sumByCell_96 rfl (lv_at hl 4 rfl) ?_
                  refine lv_aload hx hb dX10_sumByCell_97 (lv_at hl 2 rfl) ?_
                  refine k_Vl (n := 1) X hw (rcvk (ci := 10) X hw k0 (fun _ _ _ _ _ _ _ => ⟨_, rfl⟩) rfl) (c_X10_oddsOf l G _ d sa sb sp te tm pe tf pf nt np i.toNatClampNeg hC hN hik) wd_r36_3 wd_r36_4 wd_r36_5 wd_r1_2 wd_r36_6 ⟨by decide, by decide, by decide +kernel⟩ rfl rfl ⟨Nat.le_of_ble_eq_true rfl, Nat.le_of_ble_eq_true rfl⟩ rfl rfl hl.1 (Nat.le_of_ble_eq_true rfl) dX10_sumByCell_99 ⟨Nat.le_of_ble_eq_true rfl, Nat.le_of_ble_eq_true rfl⟩ (fun r99_19 S99_21 H locs h99_20 hw => ?_)
                  obtain ⟨rfl, h99_20⟩ := h99_20
                  refine lv_ladd hx hb dX10_sumByCell_102 ?_
                  refine lv_topl (fun v102_22 e102_22 => ?_)
                  refine q_stJ X hw kco (vin nco (by omega) (by omega)) dX10_sumByCell_103 (fun H locs hw => ?_)
                  obtain ⟨y103_23, hw⟩ : ∃ zz9, PX G A s.heap (ch S (pI S) (pJ S) (qI S) zz9) H locs := ⟨_, hw⟩
                  obtain ⟨v104_24, e104_24⟩ : ∃ y : Int32, y = i + 1 := ⟨_, rfl⟩
                  have t104_24 := iAdd e104_24 rfl t_1 (by omega) (by omega)
                  have t104 := t104_24
                  refine lv_iinc (v := v104_24) (lv' := [(3, .int v104_24), (6, .int 1), (5, .int r50_9), (4, .ref (te i.toNatClampNeg)), (0, .ref (d 0)), (1, .int t), (2, .int z)]) hx hb dX10_sumByCell_104 hl (k := 3) rfl (by rw [e104_24]; rfl) (by decide) rfl (fun ls hl => ?_)
                  refine lv_goto (tgt := 23) hx hb dX10_sumByCell_107 (by decide) ?_
                  exact ih23 y103_23 v104_24 (by omega) (by omega) _ _ _ hw (lv_sub hl [0, 4, 5, 6] rfl)
                · have h82_15 := h82_15
                  refine lv_if_eq (tgt := 104) hx hb dX10_sumByCell_85 (by decide) (fun c85_25 => ?_) (fun c85_25 => absurd c85_25 (by decide))
                  obtain ⟨v104_26, e104_26⟩ : ∃ y : Int32, y = i + 1 := ⟨_, rfl⟩
                  have t104_26 := iAdd e104_26 rfl t_1 (by omega) (by omega)
                  have t104 := t104_26
                  refine lv_iinc (v := v104_26) (lv' := [(3, .int v104_26), (6, .int 1), (5, .int r50_9), (4, .ref (te i.toNatClampNeg)), (0, .ref (d 0)), (1, .int t), (2, .int z)]) hx hb dX10_sumByCell_104 hl (k := 3) rfl (by rw [e104_26]; rfl) (by decide) rfl (fun ls hl => ?_)
                  refine lv_goto (tgt := 23) hx hb dX10_sumByCell_107 (by decide) ?_
                  exact ih23 y23 v104_26 (by omega) (by omega) _ _ _ hw (lv_sub hl [0, 4, 5, 6] rfl)
              · skip
                refine lv_aload hx hb dX10_sumByCell_59 (lv_at hl 1 rfl) ?_
                refine lv_iload_n hx hb dX10_sumByCell_61 rfl (lv_at hl 4 rfl) ?_
                refine k_Vi (n := 1) X hw (rcvk (ci := 7) X hw (hTl _ hik).1 (fun _ _ _ _ _ _ _ => ⟨_, rfl⟩) rfl) (c_X7_stateAt l G _ (te i.toNatClampNeg) (tm i.toNatClampNeg) t (hTl _ hik)) wd_r31_19 wd_r31_20 wd_r31_21 wd_r18_22 wd_r31_22 ⟨by decide, by decide, by decide +kernel⟩ rfl rfl ⟨Nat.le_of_ble_eq_true rfl, Nat.le_of_ble_eq_true rfl⟩ rfl rfl hl.1 (Nat.le_of_ble_eq_true rfl) dX10_sumByCell_62 ⟨Nat.le_of_ble_eq_true rfl, Nat.le_of_ble_eq_true rfl⟩ (fun r62_27 S62_29 H locs h62_28 hw => ?_)
                obtain ⟨rfl, h62_28⟩ := h62_28
                refine lv_if_ne (tgt := 72) hx hb dX10_sumByCell_65 (by decide) (fun c65_30 => ?_) (fun c65_30 => ?_)
                · skip
                  refine lv_iconst (v := 0) hx hb dX10_sumByCell_72 (by decide) ?_
                  refine lv_istore (lv' := [(6, .int 0), (5, .int r50_9), (4, .ref (te i.toNatClampNeg)), (3, .int i), (0, .ref (d 0)), (1, .int t), (2, .int z)]) hx hb dX10_sumByCell_73 hl (by decide) rfl (fun ls hl => ?_)
                  refine lv_iload hx hb dX10_sumByCell_75 (lv_at hl 0 rfl) ?_
                  refine lv_if_eq (tgt := 104) hx hb dX10_sumByCell_77 (by decide) (fun c77_31 => ?_) (fun c77_31 => absurd c77_31 (by decide))
                  obtain ⟨v104_32, e104_32⟩ : ∃ y : Int32, y = i + 1 := ⟨_, rfl⟩
                  have t104_32 := iAdd e104_32 rfl t_1 (by omega) (by omega)
                  have t104 := t104_32
                  refine lv_iinc (v := v104_32) (lv' := [(3, .int v104_32), (6, .int 0), (5, .int r50_9), (4, .ref (te i.toNatClampNeg)), (0, .ref (d 0)), (1, .int t), (2, .int z)]) hx hb dX10_sumByCell_104 hl (k := 3) rfl (by rw [e104_32]; rfl) (by decide) rfl (fun ls hl => ?_)
                  refine lv_goto (tgt := 23) hx hb dX10_sumByCell_107 (by decide) ?_
                  exact ih23 y23 v104_32 (by omega) (by omega) _ _ _ hw (lv_sub hl [0, 4, 5, 6] rfl)
                · have D65_30 := iEq c65_30 rfl t_0
                  refine lv_iconst (v := 1) hx hb dX10_sumByCell_68 (by decide) ?_
                  refine lv_goto (tgt := 73) hx hb dX10_sumByCell_69 (by decide) ?_
                  refine lv_istore (lv' := [(6, .int 1), (5, .int r50_9), (4, .ref (te i.toNatClampNeg)), (3, .int i), (0, .ref (d 0)), (1, .int t), (2, .int z)]) hx hb dX10_sumByCell_73 hl (by decide) rfl (fun ls hl => ?_)
                  refine lv_iload hx hb dX10_sumByCell_75 (lv_at hl 0 rfl) ?_
                  refine lv_if_eq (tgt := 104) hx hb dX10_sumByCell_77 (by decide) (fun c77_33 => absurd c77_33 (by decide)) (fun c77_33 => ?_)
                  refine lv_iload hx hb dX10_sumByCell_80 (lv_at hl 1 rfl) ?_
                  refine k_Si (n := 1) X hw (c_X10_isCell l G _ r50_9) wd_r26_14 wd_r15_22 wd_r1_2 wd_r15_23 ⟨by decide, by decide, by decide +kernel⟩ rfl rfl ⟨Nat.le_of_ble_eq_true rfl, Nat.le_of_ble_eq_true rfl⟩ rfl rfl hl.1 (Nat.le_of_ble_eq_true rfl) dX10_sumByCell_82 ⟨Nat.le_of_ble_eq_true rfl, Nat.le_of_ble_eq_true rfl⟩ (fun r82_34 S82_36 H locs h82_35 hw => ?_)
                  rcases h82_35 with ⟨rfl, rfl, h82_35⟩ | ⟨rfl, rfl, h82_35⟩
                  · have h82_35 := h82_35
                    refine lv_if_eq (tgt := 104) hx hb dX10_sumByCell_85 (by decide) (fun c85_37 => absurd c85_37 (by decide)) (fun c85_37 => ?_)
                    refine lv_aload_n hx hb dX10_sumByCell_88 rfl (lv_at hl 4 rfl) ?_
                    refine gf_X10_42 (b := (d 16)) X hw k0 r75 dX10_sumByCell_89 ?_
                    refine lv_iload hx hb dX10_sumByCell_92 (lv_at hl 1 rfl) ?_
                    refine lv_dup2_11 hx hb dX10_sumByCell_94 rfl rfl ?_
                    refine q_ldJ X hw kco (vin nco (by omega) (by omega)) dX10_sumByCell_95 ?_
                    refine lv_topl (fun v95_38 e95_38 => ?_)
                    have e95_38 : v95_38 = y23 (d 16) r50_9.toNatClampNeg := e95_38
                    refine lv_aload_n hx hb dX10_sumByCell_96 rfl (lv_at hl 4 rfl) ?_
                    refine lv_aload hx hb dX10_sumByCell_97 (lv_at hl 2 rfl) ?_
                    refine k_Vl (n := 1) X hw (rcvk (ci := 10) X hw k0 (fun _ _ _ _ _ _ _ => ⟨_, rfl⟩) rfl) (c_X10_oddsOf l G _ d sa sb sp te tm pe tf pf nt np i.toNatClampNeg hC hN hik) wd_r36_3 wd_r36_4 wd_r36_5 wd_r1_2 wd_r36_6 ⟨by decide, by decide, by decide +kernel⟩ rfl rfl ⟨Nat.le_of_ble_eq_true rfl, Nat.le_of_ble_eq_true rfl⟩ rfl rfl hl.1 (Nat.le_of_ble_eq_true rfl) dX10_sumByCell_99 ⟨Nat.le_of_ble_eq_true rfl, Nat.le_of_ble_eq_true rfl⟩ (fun r99_39 S99_41 H locs h99_40 hw => ?_)
                    obtain ⟨rfl, h99_40⟩ := h99_40
                    refine lv_ladd hx hb dX10_sumByCell_102 ?_
                    refine lv_topl (fun v102_42 e102_42 => ?_)
                    refine q_stJ X hw kco (vin nco (by omega) (by omega)) dX10_sumByCell_103 (fun H locs hw => ?_)
                    obtain ⟨y103_43, hw⟩ : ∃ zz9, PX G A s.heap (ch S (pI S) (pJ S) (qI S) zz9) H locs := ⟨_, hw⟩
                    obtain ⟨v104_44, e104_44⟩ : ∃ y : Int32, y = i + 1 := ⟨_, rfl⟩
                    have t104_44 := iAdd e104_44 rfl t_1 (by omega) (by omega)
                    have t104 := t104_44
                    refine lv_iinc (v := v104_44) (lv' := [(3, .int v104_44), (6, .int 1), (5, .int r50_9), (4, .ref (te i.toNatClampNeg)), (0, .ref (d 0)), (1, .int t), (2, .int z)]) hx hb dX10_sumByCell_104 hl (k := 3) rfl (by rw [e104_44]; rfl) (by decide) rfl (fun ls hl => ?_)
                    refine lv_goto (tgt := 23) hx hb dX10_sumByCell_107 (by decide) ?_
                    exact ih23 y103_43 v104_44 (by omega) (by omega) _ _ _ hw (lv_sub hl [0, 4, 5, 6] rfl)
                  · have h82_35 := h82_35
                    refine lv_if_eq (tgt := 104) hx hb dX10_sumByCell_85 (by decide) (fun c85_45 => ?_) (fun c85_45 => absurd c85_45 (by decide))
                    obtain ⟨v104_46, e104_46⟩ : ∃ y : Int32, y = i + 1 := ⟨_, rfl⟩
                    have t104_46 := iAdd e104_46 rfl t_1 (by omega) (by omega)
                    have t104 := t104_46
                    refine lv_iinc (v := v104_46) (lv' := [(3, .int v104_46), (6, .int 1), (5, .int r50_9), (4, .ref (te i.toNatClampNeg)), (0, .ref (d 0)), (1, .int t), (2, .int z)]) hx hb dX10_sumByCell_104 hl (k := 3) rfl (by rw [e104_46]; rfl) (by decide) rfl (fun ls hl => ?_)
                    refine lv_goto (tgt := 23) hx hb dX10_sumByCell_107 (by decide) ?_
                    exact ih23 y23 v104_46 (by omega) (by omega) _ _ _ hw (lv_sub hl [0, 4, 5, 6] rfl)
        exact lp23 _ y2 0 (by have := t_0; omega) (Nat.lt_succ_self _) _ _ _ hw (lv_sub hl [0, 1, 2, 3] rfl)
      · have D5_1 := iNle c5_1 t_64 rfl
        refine lv_aload_n hx hb dX10_sumByCell_8 rfl (lv_at hl 1 rfl) ?_
        refine gf_X10_42 (b := (d 16)) X hw k0 r75 dX10_sumByCell_9 ?_
        refine lv_iload_n hx hb dX10_sumByCell_12 rfl (lv_at hl 0 rfl) ?_
        refine lv_lconst (v := 0) hx hb dX10_sumByCell_13 (by decide) ?_
        refine q_stJ X hw kco (vin nco (by omega) (by omega)) dX10_sumByCell_14 (fun H locs hw => ?_)
        obtain ⟨y14_47, hw⟩ : ∃ zz9, PX G A s.heap (ch S (pI S) (pJ S) (qI S) zz9) H locs := ⟨_, hw⟩
        obtain ⟨v15_48, e15_48⟩ : ∃ y : Int32, y = k + 1 := ⟨_, rfl⟩
        have t15_48 := iAdd e15_48 rfl t_1 (by omega) (by omega)
        have t15 := t15_48
        refine lv_iinc (v := v15_48) (lv' := [(3, .int v15_48), (0, .ref (d 0)), (1, .int t), (2, .int z)]) hx hb dX10_sumByCell_15 hl (k := 0) rfl (by rw [e15_48]; rfl) (by decide) rfl (fun ls hl => ?_)
        refine lv_goto (tgt := 2) hx hb dX10_sumByCell_18 (by decide) ?_
        exact ih2 y14_47 v15_48 (by omega) (by omega) _ _ _ hw (lv_sub hl [0, 1, 2, 3] rfl)
  exact lp2 _ (qJ S) 0 (by have := t_0; omega) (Nat.lt_succ_self _) _ _ _ hw (lv_sub hl [0, 1, 2, 3] rfl)
set_option maxHeartbeats 4000000 in
set_option maxRecDepth 100000 in
theorem c_X10_greatestDivisor (l : Launch) (G : Gh) (S : Pl) (a b : Int64)  : MtL l yX10_greatestDivisor cX10_greatestDivisor 7 (some .long) (Rm 0 0 0) G [.long a, .long b] S (fun (r : Int64) (S' : Pl) => S = S' ∧ True) 0 0 := by
  refine MtL.of (by decide) (Nat.le_of_ble_eq_true rfl) ?_
  intro p e s m args below meth c Q A X hw hin hret ls hl
  have hx := X.1.1
  have hb := X.1.2.1
  have hl : lv_has ls 7 [(0, .long a), (2, .long b)] := hl
  refine lv_iconst (v := 0) hx hb dX10_greatestDivisor_0 (by decide) ?_
  refine lv_istore (lv' := [(4, .int 0), (0, .long a), (2, .long b)]) hx hb dX10_greatestDivisor_1 hl (by decide) rfl (fun ls hl => ?_)
  have lp3 : ∀ (N9 : Nat) (u : Int64) (v : Int64) (i : Int32), (0 ≤ i.toInt ∧ i.toInt ≤ 100) → (100 - i.toInt).toNat < N9 → ∀ (H : Heap) (locs : List Loc) (ls : Array Slot), PX G A s.heap S H locs → lv_has ls 7 [(4, .int i), (0, .long u), (2, .long v)] → W p l e (Rm 0 0 0) s m args below meth c H locs 0 0 Q (F0 m 3 ls []) := by
    intro N9
    induction N9 with
    | zero => intro u v i hi hm; exact absurd hm (Nat.not_lt_zero _)
    | succ N9 ih3 =>
      intro u v i hi hm H locs ls hw hl
      refine lv_lload_n hx hb dX10_greatestDivisor_3 rfl (lv_at hl 2 rfl) ?_
      refine lv_lconst (v := 0) hx hb dX10_greatestDivisor_4 (by decide) ?_
      refine W.lcmp hx hb dX10_greatestDivisor_5 ?_
      refine lv_topi (fun v5_1 e5_1 => ?_)
      refine lv_if_eq (tgt := 32) hx hb dX10_greatestDivisor_6 (by decide) (fun c6_2 => ?_) (fun c6_2 => ?_)
      · have D6_2 := lc_eq e5_1 c6_2
        refine lv_lload_n hx hb dX10_greatestDivisor_32 rfl (lv_at hl 1 rfl) ?_
        exact hret u _ _ _ _ _ ⟨rfl, trivial⟩ hw dX10_greatestDivisor_33
      · have D6_2 := lcn_eq e5_1 c6_2
        refine lv_iload hx hb dX10_greatestDivisor_9 (lv_at hl 0 rfl) ?_
        refine lv_bipush (v := 100) hx hb dX10_greatestDivisor_11 (by decide) ?_
        refine lv_icmp_ge (tgt := 32) hx hb dX10_greatestDivisor_13 (by decide) (fun c13_3 => ?_) (fun c13_3 => ?_)
        · have D13_3 := iLe c13_3 t_100 rfl
          refine lv_lload_n hx hb dX10_greatestDivisor_32 rfl (lv_at hl 1 rfl) ?_
          exact hret u _ _ _ _ _ ⟨rfl, trivial⟩ hw dX10_greatestDivisor_33
        · have D13_3 := iNle c13_3 t_100 rfl
          refine lv_lload_n hx hb dX10_greatestDivisor_16 rfl (lv_at hl 1 rfl) ?_
          refine lv_lload_n hx hb dX10_greatestDivisor_17 rfl (lv_at hl 2 rfl) ?_
          refine lv_lrem hx hb dX10_greatestDivisor_18 (lne0 (by have := (by decide : (0:Int64).toInt = 0); omega)) ?_
          refine lv_topl (fun v18_4 e18_4 => ?_)
          refine lv_lstore (lv' := [(5, .long v18_4), (4, .int i), (0, .long u), (2, .long v)]) hx hb dX10_greatestDivisor_19 hl (by decide) rfl (fun ls hl => ?_)
          refine lv_lload_n hx hb dX10_greatestDivisor_21 rfl (lv_at hl 3 rfl) ?_
          refine lv_lstore_n (lv' := [(0, .long v), (5, .long v18_4), (4, .int i), (2, .long v)]) hx hb dX10_greatestDivisor_22 rfl hl (by decide) rfl (fun ls hl => ?_)
          refine lv_lload hx hb dX10_greatestDivisor_23 (lv_at hl 1 rfl) ?_
          refine lv_lstore_n (lv' := [(2, .long v18_4), (0, .long v), (5, .long v18_4), (4, .int i)]) hx hb dX10_greatestDivisor_25 rfl hl (by decide) rfl (fun ls hl => ?_)
          obtain ⟨v26_5, e26_5⟩ : ∃ y : Int32, y = i + 1 := ⟨_, rfl⟩
          have t26_5 := iAdd e26_5 rfl t_1 (by omega) (by omega)
          have t26 := t26_5
          refine lv_iinc (v := v26_5) (lv' := [(4, .int v26_5), (2, .long v18_4), (0, .long v), (5, .long v18_4)]) hx hb dX10_greatestDivisor_26 hl (k := 3) rfl (by rw [e26_5]; rfl) (by decide) rfl (fun ls hl => ?_)
          refine lv_goto (tgt := 3) hx hb dX10_greatestDivisor_29 (by decide) ?_
          exact ih3  v v18_4 v26_5 (by omega) (by omega) _ _ _ hw (lv_sub hl [0, 2, 1] rfl)
  exact lp3 _  a b 0 (by have := t_0; omega) (Nat.lt_succ_self _) _ _ _ hw (lv_sub hl [0, 1, 2] rfl)
set_option maxHeartbeats 4000000 in
set_option maxRecDepth 100000 in
theorem c_X10_odds (l : Launch) (G : Gh) (S : Pl) (d sa sb sp te tm pe : Nat → Nat) (tf pf nt np : Nat) (i : Int32) (hC : CIs G S d sa sb sp te tm pe tf pf nt np) (hN : CIn (pI S) d te pe nt np) : MtL l yX10_odds cX10_odds 2 (some .long) (Rm 5 0 0) G [.ref (d 0), .int i] S (fun (r : Int64) (S' : Pl) => S = S' ∧ True) 0 0 := by
  refine MtL.of (by decide) (Nat.le_of_ble_eq_true rfl) ?_
  intro p e s m args below meth c Q A X hw hin hret ls hl
  have hx := X.1.1
  have hb := X.1.2.1
  have hl : lv_has ls 2 [(0, .ref (d 0)), (1, .int i)] := hl
  obtain ⟨k0, r70, r71, r72, r73, r74, r75, r76, r77, hR, hS, hB, hSp, ⟨kco, nco⟩, lT, lP, n68, n79, hTl, hPk, hPi, n40⟩ := id hC
  obtain ⟨z92, z93, zw, zz, zst, zs6⟩ := id hN
  have hTp := hR.2.2.2.2.2.2.2
  have n60 := lP.2.2.1
  refine lv_aload_n hx hb dX10_odds_0 rfl (lv_at hl 0 rfl) ?_
  refine lv_iload_n hx hb dX10_odds_1 rfl (lv_at hl 1 rfl) ?_
  refine k_Vi (n := 1) X hw (rcvk (ci := 10) X hw k0 (fun _ _ _ _ _ _ _ => ⟨_, rfl⟩) rfl) (c_X10_isTale l G _ d sa sb sp te tm pe tf pf nt np i hC hN) wd_r30_2 wd_r30_3 wd_r30_4 wd_r1_2 wd_r30_5 ⟨by decide, by decide, by decide +kernel⟩ rfl rfl ⟨Nat.le_of_ble_eq_true rfl, Nat.le_of_ble_eq_true rfl⟩ rfl rfl hl.1 (Nat.le_of_ble_eq_true rfl) dX10_odds_2 ⟨Nat.le_of_ble_eq_true rfl, Nat.le_of_ble_eq_true rfl⟩ (fun r2_1 S2_3 H locs h2_2 hw => ?_)
  rcases h2_2 with ⟨rfl, rfl, h2_2⟩ | ⟨rfl, rfl, h2_2⟩
  · have h2_2 := h2_2
    refine lv_if_eq (tgt := 26) hx hb dX10_odds_5 (by decide) (fun c5_4 => absurd c5_4 (by decide)) (fun c5_4 => ?_)
    refine lv_aload_n hx hb dX10_odds_8 rfl (lv_at hl 0 rfl) ?_
    refine lv_aload_n hx hb dX10_odds_9 rfl (lv_at hl 0 rfl) ?_
    refine gf_X10_28 (b := (d 6)) X hw k0 r72 dX10_odds_10 ?_
    refine lv_iload_n hx hb dX10_odds_13 rfl (lv_at hl 1 rfl) ?_
    refine k_Vq (n := 1) X hw (rcvk (ci := 0) X hw lT.1 (fun _ _ _ _ _ _ _ => ⟨_, rfl⟩) rfl) (c_Jx4a65c_get_915e3 l G _ (d 6) (d 7) tf nt te i (lT.sh z92) (by omega)) wd_r18_6 wd_r18_7 wd_r18_8 wd_r1_22 wd_r18_9 ⟨by decide, by decide, by decide +kernel⟩ rfl rfl ⟨Nat.le_of_ble_eq_true rfl, Nat.le_of_ble_eq_true rfl⟩ rfl rfl hl.1 (Nat.le_of_ble_eq_true rfl) dX10_odds_14 ⟨Nat.le_of_ble_eq_true rfl, Nat.le_of_ble_eq_true rfl⟩ (fun r14_5 S14_7 H locs h14_6 hw => ?_)
    obtain ⟨rfl, rfl⟩ := h14_6
    have hik : i.toNatClampNeg < nt := clt (by omega) (by omega)
    refine q_castT X hw (hTl _ hik).1 dX10_odds_17 ?_
    refine k_Vl (n := 1) X hw (rcvk (ci := 10) X hw k0 (fun _ _ _ _ _ _ _ => ⟨_, rfl⟩) rfl) (c_X10_oddsOf l G _ d sa sb sp te tm pe tf pf nt np i.toNatClampNeg hC hN hik) wd_r36_3 wd_r36_4 wd_r36_5 wd_r1_2 wd_r36_6 ⟨by decide, by decide, by decide +kernel⟩ rfl rfl ⟨Nat.le_of_ble_eq_true rfl, Nat.le_of_ble_eq_true rfl⟩ rfl rfl hl.1 (Nat.le_of_ble_eq_true rfl) dX10_odds_20 ⟨Nat.le_of_ble_eq_true rfl, Nat.le_of_ble_eq_true rfl⟩ (fun r20_8 S20_10 H locs h20_9 hw => ?_)
    obtain ⟨rfl, h20_9⟩ := h20_9
    refine lv_goto (tgt := 29) hx hb dX10_odds_23 (by decide) ?_
    exact hret r20_8 _ _ _ _ _ ⟨rfl, trivial⟩ hw dX10_odds_29
  · have h2_2 := h2_2
    refine lv_if_eq (tgt := 26) hx hb dX10_odds_5 (by decide) (fun c5_11 => ?_) (fun c5_11 => absurd c5_11 (by decide))
    refine lv_ldc2 hx hb X.1.2.2.2.1 (X.1.2.2.2.2 _ wd_r36_2) dX10_odds_26 ?_
    exact hret (-1) _ _ _ _ _ ⟨rfl, trivial⟩ hw dX10_odds_29
set_option maxHeartbeats 4000000 in
set_option maxRecDepth 100000 in
theorem c_X10_share (l : Launch) (G : Gh) (S : Pl) (d sa sb sp te tm pe : Nat → Nat) (tf pf nt np : Nat) (x t z : Int32) (hC : CIs G S d sa sb sp te tm pe tf pf nt np) (hN : CIn (pI S) d te pe nt np) : MtL l yX10_share cX10_share 10 (some .long) (Rm 6 0 0) G [.ref (d 0), .int x, .int t, .int z] S (fun (r : Int64) (S' : Pl) => ∃ y', ch S (pI S) (pJ S) (qI S) y' = S' ∧ True) 0 0 := by
  refine MtL.of (by decide) (Nat.le_of_ble_eq_true rfl) ?_
  intro p e s m args below meth c Q A X hw hin hret ls hl
  have hx := X.1.1
  have hb := X.1.2.1
  have hl : lv_has ls 10 [(0, .ref (d 0)), (1, .int x), (2, .int t), (3, .int z)] := hl
  obtain ⟨k0, r70, r71, r72, r73, r74, r75, r76, r77, hR, hS, hB, hSp, ⟨kco, nco⟩, lT, lP, n68, n79, hTl, hPk, hPi, n40⟩ := id hC
  obtain ⟨z92, z93, zw, zz, zst, zs6⟩ := id hN
  have hTp := hR.2.2.2.2.2.2.2
  have n60 := lP.2.2.1
  refine lv_iload_n hx hb dX10_share_0 rfl (lv_at hl 1 rfl) ?_
  refine k_Si (n := 1) X hw (c_X10_isCell l G _ x) wd_r26_14 wd_r15_22 wd_r1_2 wd_r15_23 ⟨by decide, by decide, by decide +kernel⟩ rfl rfl ⟨Nat.le_of_ble_eq_true rfl, Nat.le_of_ble_eq_true rfl⟩ rfl rfl hl.1 (Nat.le_of_ble_eq_true rfl) dX10_share_1 ⟨Nat.le_of_ble_eq_true rfl, Nat.le_of_ble_eq_true rfl⟩ (fun r1_1 S1_3 H locs h1_2 hw => ?_)
  rcases h1_2 with ⟨rfl, rfl, h1_2⟩ | ⟨rfl, rfl, h1_2⟩
  · have h1_2 := h1_2
    refine lv_if_eq (tgt := 14) hx hb dX10_share_4 (by decide) (fun c4_4 => absurd c4_4 (by decide)) (fun c4_4 => ?_)
    refine lv_iload_n hx hb dX10_share_7 rfl (lv_at hl 2 rfl) ?_
    refine k_Si (n := 1) X hw (c_X10_isMoment l G _ t) wd_r30_6 wd_r30_7 wd_r1_2 wd_r30_8 ⟨by decide, by decide, by decide +kernel⟩ rfl rfl ⟨Nat.le_of_ble_eq_true rfl, Nat.le_of_ble_eq_true rfl⟩ rfl rfl hl.1 (Nat.le_of_ble_eq_true rfl) dX10_share_8 ⟨Nat.le_of_ble_eq_true rfl, Nat.le_of_ble_eq_true rfl⟩ (fun r8_5 S8_7 H locs h8_6 hw => ?_)
    rcases h8_6 with ⟨rfl, rfl, h8_6⟩ | ⟨rfl, rfl, h8_6⟩
    · have h8_6 := h8_6
      refine lv_if_ne (tgt := 18) hx hb dX10_share_11 (by decide) (fun c11_8 => ?_) (fun c11_8 => absurd c11_8 (by decide))
      refine lv_aload_n hx hb dX10_share_18 rfl (lv_at hl 0 rfl) ?_
      refine lv_iload_n hx hb dX10_share_19 rfl (lv_at hl 2 rfl) ?_
      refine lv_iconst (v := 0) hx hb dX10_share_20 (by decide) ?_
      refine k_Vv (n := 2) X hw (rcvk (ci := 10) X hw k0 (fun _ _ _ _ _ _ _ => ⟨_, rfl⟩) rfl) (c_X10_sumByCell l G _ d sa sb sp te tm pe tf pf nt np t 0 hC hN) wd_r38_6 wd_r38_7 wd_r38_8 wd_r1_2 wd_r38_9 ⟨by decide, by decide, by decide +kernel⟩ rfl rfl ⟨Nat.le_of_ble_eq_true rfl, Nat.le_of_ble_eq_true rfl⟩ rfl rfl hl.1 (Nat.le_of_ble_eq_true rfl) dX10_share_21 ⟨Nat.le_of_ble_eq_true rfl, Nat.le_of_ble_eq_true rfl⟩ (fun S21_10 H locs h21_9 hw => ?_)
      have := t_0
      obtain ⟨y21_11, rfl, h21_9⟩ := h21_9
      have hw : PX G A s.heap (ch S (pI S) (pJ S) (qI S) y21_11) H locs := hw
      refine lv_aload_n hx hb dX10_share_24 rfl (lv_at hl 0 rfl) ?_
      refine gf_X10_42 (b := (d 16)) X hw k0 r75 dX10_share_25 ?_
      refine lv_iload_n hx hb dX10_share_28 rfl (lv_at hl 1 rfl) ?_
      refine q_ldJ X hw kco (vin nco (by omega) (by omega)) dX10_share_29 ?_
      refine lv_topl (fun v29_12 e29_12 => ?_)
      have e29_12 : v29_12 = y21_11 (d 16) x.toNatClampNeg := e29_12
      refine lv_lstore (lv' := [(4, .long v29_12), (0, .ref (d 0)), (1, .int x), (2, .int t), (3, .int z)]) hx hb dX10_share_30 hl (by decide) rfl (fun ls hl => ?_)
      refine lv_aload_n hx hb dX10_share_32 rfl (lv_at hl 1 rfl) ?_
      refine k_Vl (n := 0) X hw (rcvk (ci := 10) X hw k0 (fun _ _ _ _ _ _ _ => ⟨_, rfl⟩) rfl) (c_X10_allOdds l G _ d sa sb sp te tm pe tf pf nt np hC hN) wd_r38_11 wd_r38_12 wd_r38_13 wd_r1_2 wd_r38_14 ⟨by decide, by decide, by decide +kernel⟩ rfl rfl ⟨Nat.le_of_ble_eq_true rfl, Nat.le_of_ble_eq_true rfl⟩ rfl rfl hl.1 (Nat.le_of_ble_eq_true rfl) dX10_share_33 ⟨Nat.le_of_ble_eq_true rfl, Nat.le_of_ble_eq_true rfl⟩ (fun r33_13 S33_15 H locs h33_14 hw => ?_)
      obtain ⟨rfl, h33_14⟩ := h33_14
      refine lv_lstore (lv' := [(6, .long r33_13), (4, .long v29_12), (0, .ref (d 0)), (1, .int x), (2, .int t), (3, .int z)]) hx hb dX10_share_36 hl (by decide) rfl (fun ls hl => ?_)
      refine lv_lload hx hb dX10_share_38 (lv_at hl 0 rfl) ?_
      refine lv_lload hx hb dX10_share_40 (lv_at hl 1 rfl) ?_
      refine k_Sl (n := 2) X hw (c_X10_greatestDivisor l G _ r33_13 v29_12) wd_r38_15 wd_r38_16 wd_r1_2 wd_r38_17 ⟨by decide, by decide, by decide +kernel⟩ rfl rfl ⟨Nat.le_of_ble_eq_true rfl, Nat.le_of_ble_eq_true rfl⟩ rfl rfl hl.1 (Nat.le_of_ble_eq_true rfl) dX10_share_42 ⟨Nat.le_of_ble_eq_true rfl, Nat.le_of_ble_eq_true rfl⟩ (fun r42_16 S42_18 H locs h42_17 hw => ?_)
      obtain ⟨rfl, h42_17⟩ := h42_17
      refine lv_lstore (lv' := [(8, .long r42_16), (6, .long r33_13), (4, .long v29_12), (0, .ref (d 0)), (1, .int x), (2, .int t), (3, .int z)]) hx hb dX10_share_45 hl (by decide) rfl (fun ls hl => ?_)
      refine lv_lload hx hb dX10_share_47 (lv_at hl 0 rfl) ?_
      refine lv_lconst (v := 0) hx hb dX10_share_49 (by decide) ?_
      refine W.lcmp hx hb dX10_share_50 ?_
      refine lv_topi (fun v50_19 e50_19 => ?_)
      refine lv_if_ne (tgt := 64) hx hb dX10_share_51 (by decide) (fun c51_20 => ?_) (fun c51_20 => ?_)
      · have D51_20 := lc_ne e50_19 c51_20
        refine lv_iload_n hx hb dX10_share_64 rfl (lv_at hl 6 rfl) ?_
        refine lv_if_eq (tgt := 76) hx hb dX10_share_65 (by decide) (fun c65_21 => ?_) (fun c65_21 => ?_)
        · have D65_21 := iEq c65_21 rfl t_0
          refine lv_lload hx hb dX10_share_76 (lv_at hl 2 rfl) ?_
          refine lv_lload hx hb dX10_share_78 (lv_at hl 0 rfl) ?_
          refine lv_ldiv hx hb dX10_share_80 (lne0 (by have := (by decide : (0:Int64).toInt = 0); omega)) ?_
          refine lv_topl (fun v80_22 e80_22 => ?_)
          exact hret v80_22 _ _ _ _ _ ⟨_, rfl, trivial⟩ hw dX10_share_81
        · skip
          refine lv_lload hx hb dX10_share_68 (lv_at hl 1 rfl) ?_
          refine lv_lload hx hb dX10_share_70 (lv_at hl 0 rfl) ?_
          refine lv_ldiv hx hb dX10_share_72 (lne0 (by have := (by decide : (0:Int64).toInt = 0); omega)) ?_
          refine lv_topl (fun v72_23 e72_23 => ?_)
          refine lv_goto (tgt := 81) hx hb dX10_share_73 (by decide) ?_
          exact hret v72_23 _ _ _ _ _ ⟨_, rfl, trivial⟩ hw dX10_share_81
      · have D51_20 := lcn_ne e50_19 c51_20
        refine lv_iload_n hx hb dX10_share_54 rfl (lv_at hl 6 rfl) ?_
        refine lv_if_eq (tgt := 62) hx hb dX10_share_55 (by decide) (fun c55_24 => ?_) (fun c55_24 => ?_)
        · have D55_24 := iEq c55_24 rfl t_0
          refine lv_lconst (v := 0) hx hb dX10_share_62 (by decide) ?_
          exact hret 0 _ _ _ _ _ ⟨_, rfl, trivial⟩ hw dX10_share_63
        · skip
          refine lv_lconst (v := 1) hx hb dX10_share_58 (by decide) ?_
          refine lv_goto (tgt := 63) hx hb dX10_share_59 (by decide) ?_
          exact hret 1 _ _ _ _ _ ⟨_, rfl, trivial⟩ hw dX10_share_63
    · have h8_6 := h8_6
      refine lv_if_ne (tgt := 18) hx hb dX10_share_11 (by decide) (fun c11_25 => absurd c11_25 (by decide)) (fun c11_25 => ?_)
      refine lv_ldc2 hx hb X.1.2.2.2.1 (X.1.2.2.2.2 _ wd_r36_2) dX10_share_14 ?_
      exact hret (-1) _ _ _ _ _ ⟨_, rfl, trivial⟩ hw dX10_share_17
  · have h1_2 := h1_2
    refine lv_if_eq (tgt := 14) hx hb dX10_share_4 (by decide) (fun c4_26 => ?_) (fun c4_26 => absurd c4_26 (by decide))
    refine lv_ldc2 hx hb X.1.2.2.2.1 (X.1.2.2.2.2 _ wd_r36_2) dX10_share_14 ?_
    exact hret (-1) _ _ _ _ _ ⟨_, rfl, trivial⟩ hw dX10_share_17
set_option maxHeartbeats 4000000 in
set_option maxRecDepth 100000 in
theorem c_X10_likeliest (l : Launch) (G : Gh) (S : Pl) (d sa sb sp te tm pe : Nat → Nat) (tf pf nt np : Nat) (t : Int32) (hC : CIs G S d sa sb sp te tm pe tf pf nt np) (hN : CIn (pI S) d te pe nt np) : MtI l yX10_likeliest cX10_likeliest 6 (some .int) (Rm 6 0 0) G [.ref (d 0), .int t] S (fun (r : Int32) (S' : Pl) => ∃ y', ch S (pI S) (pJ S) (qI S) y' = S' ∧ True) 0 0 := by
  refine MtI.of (by decide) (Nat.le_of_ble_eq_true rfl) ?_
  intro p e s m args below meth c Q A X hw hin hret ls hl
  have hx := X.1.1
  have hb := X.1.2.1
  have hl : lv_has ls 6 [(0, .ref (d 0)), (1, .int t)] := hl
  obtain ⟨k0, r70, r71, r72, r73, r74, r75, r76, r77, hR, hS, hB, hSp, ⟨kco, nco⟩, lT, lP, n68, n79, hTl, hPk, hPi, n40⟩ := id hC
  obtain ⟨z92, z93, zw, zz, zst, zs6⟩ := id hN
  have hTp := hR.2.2.2.2.2.2.2
  have n60 := lP.2.2.1
  refine lv_iload_n hx hb dX10_likeliest_0 rfl (lv_at hl 1 rfl) ?_
  refine k_Si (n := 1) X hw (c_X10_isMoment l G _ t) wd_r30_6 wd_r30_7 wd_r1_2 wd_r30_8 ⟨by decide, by decide, by decide +kernel⟩ rfl rfl ⟨Nat.le_of_ble_eq_true rfl, Nat.le_of_ble_eq_true rfl⟩ rfl rfl hl.1 (Nat.le_of_ble_eq_true rfl) dX10_likeliest_1 ⟨Nat.le_of_ble_eq_true rfl, Nat.le_of_ble_eq_true rfl⟩ (fun r1_1 S1_3 H locs h1_2 hw => ?_)
  rcases h1_2 with ⟨rfl, rfl, h1_2⟩ | ⟨rfl, rfl, h1_2⟩
  · have h1_2 := h1_2
    refine lv_if_ne (tgt := 9) hx hb dX10_likeliest_4 (by decide) (fun c4_4 => ?_) (fun c4_4 => absurd c4_4 (by decide))
    refine lv_aload_n hx hb dX10_likeliest_9 rfl (lv_at hl 0 rfl) ?_
    refine lv_iload_n hx hb dX10_likeliest_10 rfl (lv_at hl 1 rfl) ?_
    refine lv_iconst (v := 0) hx hb dX10_likeliest_11 (by decide) ?_
    refine k_Vv (n := 2) X hw (rcvk (ci := 10) X hw k0 (fun _ _ _ _ _ _ _ => ⟨_, rfl⟩) rfl) (c_X10_sumByCell l G _ d sa sb sp te tm pe tf pf nt np t 0 hC hN) wd_r38_6 wd_r38_7 wd_r38_8 wd_r1_2 wd_r38_9 ⟨by decide, by decide, by decide +kernel⟩ rfl rfl ⟨Nat.le_of_ble_eq_true rfl, Nat.le_of_ble_eq_true rfl⟩ rfl rfl hl.1 (Nat.le_of_ble_eq_true rfl) dX10_likeliest_12 ⟨Nat.le_of_ble_eq_true rfl, Nat.le_of_ble_eq_true rfl⟩ (fun S12_6 H locs h12_5 hw => ?_)
    have := t_0
    obtain ⟨y12_7, rfl, h12_5⟩ := h12_5
    have hw : PX G A s.heap (ch S (pI S) (pJ S) (qI S) y12_7) H locs := hw
    refine lv_iconst (v := -1) hx hb dX10_likeliest_15 (by decide) ?_
    refine lv_istore_n (lv' := [(2, .int (-1)), (0, .ref (d 0)), (1, .int t)]) hx hb dX10_likeliest_16 rfl hl (by decide) rfl (fun ls hl => ?_)
    refine lv_lconst (v := 0) hx hb dX10_likeliest_17 (by decide) ?_
    refine lv_lstore_n (lv' := [(3, .long 0), (2, .int (-1)), (0, .ref (d 0)), (1, .int t)]) hx hb dX10_likeliest_18 rfl hl (by decide) rfl (fun ls hl => ?_)
    refine lv_iconst (v := 0) hx hb dX10_likeliest_19 (by decide) ?_
    refine lv_istore (lv' := [(5, .int 0), (3, .long 0), (2, .int (-1)), (0, .ref (d 0)), (1, .int t)]) hx hb dX10_likeliest_20 hl (by decide) rfl (fun ls hl => ?_)
    have lp22 : ∀ (N9 : Nat) (b : Int32) (u : Int64) (k : Int32), (0 ≤ k.toInt ∧ k.toInt ≤ 64) → (64 - k.toInt).toNat < N9 → ∀ (H : Heap) (locs : List Loc) (ls : Array Slot), PX G A s.heap (ch S (pI S) (pJ S) (qI S) y12_7) H locs → lv_has ls 6 [(5, .int k), (3, .long u), (2, .int b), (0, .ref (d 0)), (1, .int t)] → W p l e (Rm 6 0 0) s m args below meth c H locs 0 0 Q (F0 m 22 ls []) := by
      intro N9
      induction N9 with
      | zero => intro b u k hk hm; exact absurd hm (Nat.not_lt_zero _)
      | succ N9 ih22 =>
        intro b u k hk hm H locs ls hw hl
        refine lv_iload hx hb dX10_likeliest_22 (lv_at hl 0 rfl) ?_
        refine lv_bipush (v := 64) hx hb dX10_likeliest_24 (by decide) ?_
        refine lv_icmp_ge (tgt := 58) hx hb dX10_likeliest_26 (by decide) (fun c26_8 => ?_) (fun c26_8 => ?_)
        · have D26_8 := iLe c26_8 t_64 rfl
          refine lv_iload_n hx hb dX10_likeliest_58 rfl (lv_at hl 2 rfl) ?_
          exact hret b _ _ _ _ _ ⟨_, rfl, trivial⟩ hw rfl dX10_likeliest_59
        · have D26_8 := iNle c26_8 t_64 rfl
          refine lv_aload_n hx hb dX10_likeliest_29 rfl (lv_at hl 3 rfl) ?_
          refine gf_X10_42 (b := (d 16)) X hw k0 r75 dX10_likeliest_30 ?_
          refine lv_iload hx hb dX10_likeliest_33 (lv_at hl 0 rfl) ?_
          refine q_ldJ X hw kco (vin nco (by omega) (by omega)) dX10_likeliest_35 ?_
          refine lv_topl (fun v35_9 e35_9 => ?_)
          have e35_9 : v35_9 = y12_7 (d 16) k.toNatClampNeg := e35_9
          refine lv_lload_n hx hb dX10_likeliest_36 rfl (lv_at hl 1 rfl) ?_
          refine W.lcmp hx hb dX10_likeliest_37 ?_
          refine lv_topi (fun v37_10 e37_10 => ?_)
          refine lv_if_le (tgt := 52) hx hb dX10_likeliest_38 (by decide) (fun c38_11 => ?_) (fun c38_11 => ?_)
          · have D38_11 := lc_le e37_10 c38_11
            obtain ⟨v52_12, e52_12⟩ : ∃ y : Int32, y = k + 1 := ⟨_, rfl⟩
            have t52_12 := iAdd e52_12 rfl t_1 (by omega) (by omega)
            have t52 := t52_12
            refine lv_iinc (v := v52_12) (lv' := [(5, .int v52_12), (3, .long u), (2, .int b), (0, .ref (d 0)), (1, .int t)]) hx hb dX10_likeliest_52 hl (k := 0) rfl (by rw [e52_12]; rfl) (by decide) rfl (fun ls hl => ?_)
            refine lv_goto (tgt := 22) hx hb dX10_likeliest_55 (by decide) ?_
            exact ih22  b u v52_12 (by omega) (by omega) _ _ _ hw (lv_sub hl [0, 1, 2, 3, 4] rfl)
          · have D38_11 := lcn_le e37_10 c38_11
            refine lv_aload_n hx hb dX10_likeliest_41 rfl (lv_at hl 3 rfl) ?_
            refine gf_X10_42 (b := (d 16)) X hw k0 r75 dX10_likeliest_42 ?_
            refine lv_iload hx hb dX10_likeliest_45 (lv_at hl 0 rfl) ?_
            refine q_ldJ X hw kco (vin nco (by omega) (by omega)) dX10_likeliest_47 ?_
            refine lv_topl (fun v47_13 e47_13 => ?_)
            have e47_13 : v47_13 = y12_7 (d 16) k.toNatClampNeg := e47_13
            refine lv_lstore_n (lv' := [(3, .long v47_13), (5, .int k), (2, .int b), (0, .ref (d 0)), (1, .int t)]) hx hb dX10_likeliest_48 rfl hl (by decide) rfl (fun ls hl => ?_)
            refine lv_iload hx hb dX10_likeliest_49 (lv_at hl 1 rfl) ?_
            refine lv_istore_n (lv' := [(2, .int k), (3, .long v47_13), (5, .int k), (0, .ref (d 0)), (1, .int t)]) hx hb dX10_likeliest_51 rfl hl (by decide) rfl (fun ls hl => ?_)
            obtain ⟨v52_14, e52_14⟩ : ∃ y : Int32, y = k + 1 := ⟨_, rfl⟩
            have t52_14 := iAdd e52_14 rfl t_1 (by omega) (by omega)
            have t52 := t52_14
            refine lv_iinc (v := v52_14) (lv' := [(5, .int v52_14), (2, .int k), (3, .long v47_13), (0, .ref (d 0)), (1, .int t)]) hx hb dX10_likeliest_52 hl (k := 2) rfl (by rw [e52_14]; rfl) (by decide) rfl (fun ls hl => ?_)
            refine lv_goto (tgt := 22) hx hb dX10_likeliest_55 (by decide) ?_
            exact ih22  k v47_13 v52_14 (by omega) (by omega) _ _ _ hw (lv_sub hl [0, 2, 1, 3, 4] rfl)
    exact lp22 _  (-1) 0 0 (by have := t_m1; have := t_0; omega) (Nat.lt_succ_self _) _ _ _ hw (lv_sub hl [0, 1, 2, 3, 4] rfl)
  · have h1_2 := h1_2
    refine lv_if_ne (tgt := 9) hx hb dX10_likeliest_4 (by decide) (fun c4_15 => absurd c4_15 (by decide)) (fun c4_15 => ?_)
    refine lv_iconst (v := -1) hx hb dX10_likeliest_7 (by decide) ?_
    exact hret (-1) _ _ _ _ _ ⟨_, rfl, trivial⟩ hw rfl dX10_likeliest_8
set_option maxHeartbeats 4000000 in
set_option maxRecDepth 100000 in
theorem c_X10_seen (l : Launch) (G : Gh) (S : Pl) (d sa sb sp te tm pe : Nat → Nat) (tf pf nt np : Nat) (t x n : Int32) (hC : CIs G S d sa sb sp te tm pe tf pf nt np) (hN : CIn (pI S) d te pe nt np) : MtL l yX10_seen cX10_seen 4 (some .long) (Rm 6 0 0) G [.ref (d 0), .int t, .int x, .int n] S (fun (r : Int64) (S' : Pl) => ∃ I' q' y', ch S I' (pJ S) q' y' = S' ∧ ∀ f, f ∉ [45, 46, 47] → I' f = pI S f) 0 0 := by
  refine MtL.of (by decide) (Nat.le_of_ble_eq_true rfl) ?_
  intro p e s m args below meth c Q A X hw hin hret ls hl
  have hx := X.1.1
  have hb := X.1.2.1
  have hl : lv_has ls 4 [(0, .ref (d 0)), (1, .int t), (2, .int x), (3, .int n)] := hl
  obtain ⟨k0, r70, r71, r72, r73, r74, r75, r76, r77, hR, hS, hB, hSp, ⟨kco, nco⟩, lT, lP, n68, n79, hTl, hPk, hPi, n40⟩ := id hC
  obtain ⟨z92, z93, zw, zz, zst, zs6⟩ := id hN
  have hTp := hR.2.2.2.2.2.2.2
  have n60 := lP.2.2.1
  refine lv_iload_n hx hb dX10_seen_0 rfl (lv_at hl 1 rfl) ?_
  refine k_Si (n := 1) X hw (c_X10_isMoment l G _ t) wd_r30_6 wd_r30_7 wd_r1_2 wd_r30_8 ⟨by decide, by decide, by decide +kernel⟩ rfl rfl ⟨Nat.le_of_ble_eq_true rfl, Nat.le_of_ble_eq_true rfl⟩ rfl rfl hl.1 (Nat.le_of_ble_eq_true rfl) dX10_seen_1 ⟨Nat.le_of_ble_eq_true rfl, Nat.le_of_ble_eq_true rfl⟩ (fun r1_1 S1_3 H locs h1_2 hw => ?_)
  rcases h1_2 with ⟨rfl, rfl, h1_2⟩ | ⟨rfl, rfl, h1_2⟩
  · have h1_2 := h1_2
    refine lv_if_eq (tgt := 17) hx hb dX10_seen_4 (by decide) (fun c4_4 => absurd c4_4 (by decide)) (fun c4_4 => ?_)
    refine lv_iload_n hx hb dX10_seen_7 rfl (lv_at hl 2 rfl) ?_
    refine lv_iload_n hx hb dX10_seen_8 rfl (lv_at hl 3 rfl) ?_
    refine lv_bipush (v := 40) hx hb dX10_seen_9 (by decide) ?_
    refine k_Si (n := 3) X hw (c_X10_isMeans l G _ x n 40) wd_r25_21 wd_r16_4 wd_r1_2 wd_r16_5 ⟨by decide, by decide, by decide +kernel⟩ rfl rfl ⟨Nat.le_of_ble_eq_true rfl, Nat.le_of_ble_eq_true rfl⟩ rfl rfl hl.1 (Nat.le_of_ble_eq_true rfl) dX10_seen_11 ⟨Nat.le_of_ble_eq_true rfl, Nat.le_of_ble_eq_true rfl⟩ (fun r11_5 S11_7 H locs h11_6 hw => ?_)
    have := t_40
    rcases h11_6 with ⟨rfl, rfl, h11_6⟩ | ⟨rfl, rfl, h11_6⟩
    · have h11_6 := h11_6
      refine lv_if_ne (tgt := 21) hx hb dX10_seen_14 (by decide) (fun c14_8 => ?_) (fun c14_8 => absurd c14_8 (by decide))
      refine lv_aload_n hx hb dX10_seen_21 rfl (lv_at hl 0 rfl) ?_
      refine lv_iload_n hx hb dX10_seen_22 rfl (lv_at hl 1 rfl) ?_
      refine lv_iconst (v := 1) hx hb dX10_seen_23 (by decide) ?_
      refine k_Vv (n := 2) X hw (rcvk (ci := 10) X hw k0 (fun _ _ _ _ _ _ _ => ⟨_, rfl⟩) rfl) (c_X10_sumByCell l G _ d sa sb sp te tm pe tf pf nt np t 1 hC hN) wd_r38_6 wd_r38_7 wd_r38_8 wd_r1_2 wd_r38_9 ⟨by decide, by decide, by decide +kernel⟩ rfl rfl ⟨Nat.le_of_ble_eq_true rfl, Nat.le_of_ble_eq_true rfl⟩ rfl rfl hl.1 (Nat.le_of_ble_eq_true rfl) dX10_seen_24 ⟨Nat.le_of_ble_eq_true rfl, Nat.le_of_ble_eq_true rfl⟩ (fun S24_10 H locs h24_9 hw => ?_)
      have := t_1
      obtain ⟨y24_11, rfl, h24_9⟩ := h24_9
      have hw : PX G A s.heap (ch S (pI S) (pJ S) (qI S) y24_11) H locs := hw
      refine lv_aload_n hx hb dX10_seen_27 rfl (lv_at hl 0 rfl) ?_
      refine gf_X10_38 (b := (sp 0)) X hw k0 r74 dX10_seen_28 ?_
      refine lv_aload_n hx hb dX10_seen_31 rfl (lv_at hl 0 rfl) ?_
      refine gf_X10_42 (b := (d 16)) X hw k0 r75 dX10_seen_32 ?_
      refine lv_aload_n hx hb dX10_seen_35 rfl (lv_at hl 0 rfl) ?_
      refine gf_X10_49 (b := (sa 0)) X hw k0 r76 dX10_seen_36 ?_
      refine lv_iload_n hx hb dX10_seen_39 rfl (lv_at hl 2 rfl) ?_
      refine lv_iload_n hx hb dX10_seen_40 rfl (lv_at hl 3 rfl) ?_
      refine k_Vv (n := 4) X hw (rcvk (ci := 6) X hw hSp.1 (fun _ _ _ _ _ _ _ => ⟨_, rfl⟩) rfl) (c_X6_weigh l G _ sp (d 16) sa x n hSp ⟨kco, nco⟩ hS) wd_r39_18 wd_r39_19 wd_r39_20 wd_r2_3 wd_r39_21 ⟨by decide, by decide, by decide +kernel⟩ rfl rfl ⟨Nat.le_of_ble_eq_true rfl, Nat.le_of_ble_eq_true rfl⟩ rfl rfl hl.1 (Nat.le_of_ble_eq_true rfl) dX10_seen_41 ⟨Nat.le_of_ble_eq_true rfl, Nat.le_of_ble_eq_true rfl⟩ (fun S41_13 H locs h41_12 hw => ?_)
      obtain ⟨I41_14, q41_15, y41_16, rfl, h41_12⟩ := h41_12
      have hw : PX G A s.heap (ch S I41_14 (pJ S) q41_15 y41_16) H locs := hw
      have hWG := h41_12
      refine lv_aload_n hx hb dX10_seen_44 rfl (lv_at hl 0 rfl) ?_
      refine gf_X10_38 (b := (sp 0)) X hw k0 r74 dX10_seen_45 ?_
      refine k_Vl (n := 0) X hw (rcvk (ci := 6) X hw hSp.1 (fun _ _ _ _ _ _ _ => ⟨_, rfl⟩) rfl) (c_X6_mostSeen l G _ sp hSp hWG.2.1 hWG.2.2) wd_r40_23 wd_r41_0 wd_r41_1 wd_r2_3 wd_r41_2 ⟨by decide, by decide, by decide +kernel⟩ rfl rfl ⟨Nat.le_of_ble_eq_true rfl, Nat.le_of_ble_eq_true rfl⟩ rfl rfl hl.1 (Nat.le_of_ble_eq_true rfl) dX10_seen_48 ⟨Nat.le_of_ble_eq_true rfl, Nat.le_of_ble_eq_true rfl⟩ (fun r48_17 S48_19 H locs h48_18 hw => ?_)
      obtain ⟨rfl, h48_18⟩ := h48_18
      exact hret r48_17 _ _ _ _ _ ⟨_, _, _, rfl, hWG.1⟩ hw dX10_seen_51
    · have h11_6 := h11_6
      refine lv_if_ne (tgt := 21) hx hb dX10_seen_14 (by decide) (fun c14_20 => absurd c14_20 (by decide)) (fun c14_20 => ?_)
      refine lv_ldc2 hx hb X.1.2.2.2.1 (X.1.2.2.2.2 _ wd_r36_2) dX10_seen_17 ?_
      exact hret (-1) _ _ _ _ _ ⟨_, _, _, rfl, fun _ _ => rfl⟩ hw dX10_seen_20
  · have h1_2 := h1_2
    refine lv_if_eq (tgt := 17) hx hb dX10_seen_4 (by decide) (fun c4_21 => ?_) (fun c4_21 => absurd c4_21 (by decide))
    refine lv_ldc2 hx hb X.1.2.2.2.1 (X.1.2.2.2.2 _ wd_r36_2) dX10_seen_17 ?_
    exact hret (-1) _ _ _ _ _ ⟨_, _, _, rfl, fun _ _ => rfl⟩ hw dX10_seen_20
set_option maxHeartbeats 4000000 in
set_option maxRecDepth 100000 in
theorem c_X10_split (l : Launch) (G : Gh) (S : Pl) (d sa sb sp te tm pe : Nat → Nat) (tf pf nt np : Nat) (t x n z : Int32) (hC : CIs G S d sa sb sp te tm pe tf pf nt np) (hN : CIn (pI S) d te pe nt np) : MtI l yX10_split cX10_split 5 (some .int) (Rm 6 0 0) G [.ref (d 0), .int t, .int x, .int n, .int z] S (fun (r : Int32) (S' : Pl) => ∃ I' q' y', ch S I' (pJ S) q' y' = S' ∧ ∀ f, f ∉ [45, 46, 47] → I' f = pI S f) 0 0 := by
  refine MtI.of (by decide) (Nat.le_of_ble_eq_true rfl) ?_
  intro p e s m args below meth c Q A X hw hin hret ls hl
  have hx := X.1.1
  have hb := X.1.2.1
  have hl : lv_has ls 5 [(0, .ref (d 0)), (1, .int t), (2, .int x), (3, .int n), (4, .int z)] := hl
  obtain ⟨k0, r70, r71, r72, r73, r74, r75, r76, r77, hR, hS, hB, hSp, ⟨kco, nco⟩, lT, lP, n68, n79, hTl, hPk, hPi, n40⟩ := id hC
  obtain ⟨z92, z93, zw, zz, zst, zs6⟩ := id hN
  have hTp := hR.2.2.2.2.2.2.2
  have n60 := lP.2.2.1
  refine lv_iload_n hx hb dX10_split_0 rfl (lv_at hl 1 rfl) ?_
  refine k_Si (n := 1) X hw (c_X10_isMoment l G _ t) wd_r30_6 wd_r30_7 wd_r1_2 wd_r30_8 ⟨by decide, by decide, by decide +kernel⟩ rfl rfl ⟨Nat.le_of_ble_eq_true rfl, Nat.le_of_ble_eq_true rfl⟩ rfl rfl hl.1 (Nat.le_of_ble_eq_true rfl) dX10_split_1 ⟨Nat.le_of_ble_eq_true rfl, Nat.le_of_ble_eq_true rfl⟩ (fun r1_1 S1_3 H locs h1_2 hw => ?_)
  rcases h1_2 with ⟨rfl, rfl, h1_2⟩ | ⟨rfl, rfl, h1_2⟩
  · have h1_2 := h1_2
    refine lv_if_eq (tgt := 25) hx hb dX10_split_4 (by decide) (fun c4_4 => absurd c4_4 (by decide)) (fun c4_4 => ?_)
    refine lv_iload_n hx hb dX10_split_7 rfl (lv_at hl 2 rfl) ?_
    refine lv_iload_n hx hb dX10_split_8 rfl (lv_at hl 3 rfl) ?_
    refine lv_bipush (v := 40) hx hb dX10_split_9 (by decide) ?_
    refine k_Si (n := 3) X hw (c_X10_isMeans l G _ x n 40) wd_r25_21 wd_r16_4 wd_r1_2 wd_r16_5 ⟨by decide, by decide, by decide +kernel⟩ rfl rfl ⟨Nat.le_of_ble_eq_true rfl, Nat.le_of_ble_eq_true rfl⟩ rfl rfl hl.1 (Nat.le_of_ble_eq_true rfl) dX10_split_11 ⟨Nat.le_of_ble_eq_true rfl, Nat.le_of_ble_eq_true rfl⟩ (fun r11_5 S11_7 H locs h11_6 hw => ?_)
    have := t_40
    rcases h11_6 with ⟨rfl, rfl, h11_6⟩ | ⟨rfl, rfl, h11_6⟩
    · have h11_6 := h11_6
      refine lv_if_eq (tgt := 25) hx hb dX10_split_14 (by decide) (fun c14_8 => absurd c14_8 (by decide)) (fun c14_8 => ?_)
      refine lv_iload hx hb dX10_split_17 (lv_at hl 4 rfl) ?_
      refine k_Si (n := 1) X hw (c_X10_isCell l G _ z) wd_r26_14 wd_r15_22 wd_r1_2 wd_r15_23 ⟨by decide, by decide, by decide +kernel⟩ rfl rfl ⟨Nat.le_of_ble_eq_true rfl, Nat.le_of_ble_eq_true rfl⟩ rfl rfl hl.1 (Nat.le_of_ble_eq_true rfl) dX10_split_19 ⟨Nat.le_of_ble_eq_true rfl, Nat.le_of_ble_eq_true rfl⟩ (fun r19_9 S19_11 H locs h19_10 hw => ?_)
      rcases h19_10 with ⟨rfl, rfl, h19_10⟩ | ⟨rfl, rfl, h19_10⟩
      · have h19_10 := h19_10
        refine lv_if_ne (tgt := 27) hx hb dX10_split_22 (by decide) (fun c22_12 => ?_) (fun c22_12 => absurd c22_12 (by decide))
        refine lv_aload_n hx hb dX10_split_27 rfl (lv_at hl 0 rfl) ?_
        refine lv_iload_n hx hb dX10_split_28 rfl (lv_at hl 1 rfl) ?_
        refine lv_iconst (v := 1) hx hb dX10_split_29 (by decide) ?_
        refine k_Vv (n := 2) X hw (rcvk (ci := 10) X hw k0 (fun _ _ _ _ _ _ _ => ⟨_, rfl⟩) rfl) (c_X10_sumByCell l G _ d sa sb sp te tm pe tf pf nt np t 1 hC hN) wd_r38_6 wd_r38_7 wd_r38_8 wd_r1_2 wd_r38_9 ⟨by decide, by decide, by decide +kernel⟩ rfl rfl ⟨Nat.le_of_ble_eq_true rfl, Nat.le_of_ble_eq_true rfl⟩ rfl rfl hl.1 (Nat.le_of_ble_eq_true rfl) dX10_split_30 ⟨Nat.le_of_ble_eq_true rfl, Nat.le_of_ble_eq_true rfl⟩ (fun S30_14 H locs h30_13 hw => ?_)
        have := t_1
        obtain ⟨y30_15, rfl, h30_13⟩ := h30_13
        have hw : PX G A s.heap (ch S (pI S) (pJ S) (qI S) y30_15) H locs := hw
        refine lv_aload_n hx hb dX10_split_33 rfl (lv_at hl 0 rfl) ?_
        refine gf_X10_38 (b := (sp 0)) X hw k0 r74 dX10_split_34 ?_
        refine lv_aload_n hx hb dX10_split_37 rfl (lv_at hl 0 rfl) ?_
        refine gf_X10_42 (b := (d 16)) X hw k0 r75 dX10_split_38 ?_
        refine lv_aload_n hx hb dX10_split_41 rfl (lv_at hl 0 rfl) ?_
        refine gf_X10_49 (b := (sa 0)) X hw k0 r76 dX10_split_42 ?_
        refine lv_iload_n hx hb dX10_split_45 rfl (lv_at hl 2 rfl) ?_
        refine lv_iload_n hx hb dX10_split_46 rfl (lv_at hl 3 rfl) ?_
        refine k_Vv (n := 4) X hw (rcvk (ci := 6) X hw hSp.1 (fun _ _ _ _ _ _ _ => ⟨_, rfl⟩) rfl) (c_X6_weigh l G _ sp (d 16) sa x n hSp ⟨kco, nco⟩ hS) wd_r39_18 wd_r39_19 wd_r39_20 wd_r2_3 wd_r39_21 ⟨by decide, by decide, by decide +kernel⟩ rfl rfl ⟨Nat.le_of_ble_eq_true rfl, Nat.le_of_ble_eq_true rfl⟩ rfl rfl hl.1 (Nat.le_of_ble_eq_true rfl) dX10_split_47 ⟨Nat.le_of_ble_eq_true rfl, Nat.le_of_ble_eq_true rfl⟩ (fun S47_17 H locs h47_16 hw => ?_)
        obtain ⟨I47_18, q47_19, y47_20, rfl, h47_16⟩ := h47_16
        have hw : PX G A s.heap (ch S I47_18 (pJ S) q47_19 y47_20) H locs := hw
        have hWG := h47_16
        refine lv_aload_n hx hb dX10_split_50 rfl (lv_at hl 0 rfl) ?_
        refine gf_X10_38 (b := (sp 0)) X hw k0 r74 dX10_split_51 ?_
        refine lv_iload hx hb dX10_split_54 (lv_at hl 4 rfl) ?_
        refine k_Vi (n := 1) X hw (rcvk (ci := 6) X hw hSp.1 (fun _ _ _ _ _ _ _ => ⟨_, rfl⟩) rfl) (c_X6_givenTo l G _ sp z hSp hWG.2.1 hWG.2.2) wd_r42_2 wd_r42_3 wd_r42_4 wd_r2_3 wd_r42_5 ⟨by decide, by decide, by decide +kernel⟩ rfl rfl ⟨Nat.le_of_ble_eq_true rfl, Nat.le_of_ble_eq_true rfl⟩ rfl rfl hl.1 (Nat.le_of_ble_eq_true rfl) dX10_split_56 ⟨Nat.le_of_ble_eq_true rfl, Nat.le_of_ble_eq_true rfl⟩ (fun r56_21 S56_23 H locs h56_22 hw => ?_)
        obtain ⟨rfl, h56_22⟩ := h56_22
        exact hret r56_21 _ _ _ _ _ ⟨_, _, _, rfl, hWG.1⟩ hw rfl dX10_split_59
      · have h19_10 := h19_10
        refine lv_if_ne (tgt := 27) hx hb dX10_split_22 (by decide) (fun c22_24 => absurd c22_24 (by decide)) (fun c22_24 => ?_)
        refine lv_iconst (v := -1) hx hb dX10_split_25 (by decide) ?_
        exact hret (-1) _ _ _ _ _ ⟨_, _, _, rfl, fun _ _ => rfl⟩ hw rfl dX10_split_26
    · have h11_6 := h11_6
      refine lv_if_eq (tgt := 25) hx hb dX10_split_14 (by decide) (fun c14_25 => ?_) (fun c14_25 => absurd c14_25 (by decide))
      refine lv_iconst (v := -1) hx hb dX10_split_25 (by decide) ?_
      exact hret (-1) _ _ _ _ _ ⟨_, _, _, rfl, fun _ _ => rfl⟩ hw rfl dX10_split_26
  · have h1_2 := h1_2
    refine lv_if_eq (tgt := 25) hx hb dX10_split_4 (by decide) (fun c4_26 => ?_) (fun c4_26 => absurd c4_26 (by decide))
    refine lv_iconst (v := -1) hx hb dX10_split_25 (by decide) ?_
    exact hret (-1) _ _ _ _ _ ⟨_, _, _, rfl, fun _ _ => rfl⟩ hw rfl dX10_split_26
set_option maxHeartbeats 4000000 in
set_option maxRecDepth 100000 in
theorem c_X10_left (l : Launch) (G : Gh) (S : Pl) (d sa sb sp te tm pe : Nat → Nat) (tf pf nt np : Nat) (hC : CIs G S d sa sb sp te tm pe tf pf nt np) (hN : CIn (pI S) d te pe nt np) : MtI l yX10_left cX10_left 6 (some .int) (Rm 6 0 0) G [.ref (d 0)] S (fun (r : Int32) (S' : Pl) => S = S' ∧ True) 0 0 := by
  refine MtI.of (by decide) (Nat.le_of_ble_eq_true rfl) ?_
  intro p e s m args below meth c Q A X hw hin hret ls hl
  have hx := X.1.1
  have hb := X.1.2.1
  have hl : lv_has ls 6 [(0, .ref (d 0))] := hl
  obtain ⟨k0, r70, r71, r72, r73, r74, r75, r76, r77, hR, hS, hB, hSp, ⟨kco, nco⟩, lT, lP, n68, n79, hTl, hPk, hPi, n40⟩ := id hC
  obtain ⟨z92, z93, zw, zz, zst, zs6⟩ := id hN
  have hTp := hR.2.2.2.2.2.2.2
  have n60 := lP.2.2.1
  refine lv_lconst (v := 0) hx hb dX10_left_0 (by decide) ?_
  refine lv_lstore_n (lv' := [(1, .long 0), (0, .ref (d 0))]) hx hb dX10_left_1 rfl hl (by decide) rfl (fun ls hl => ?_)
  refine lv_iconst (v := 0) hx hb dX10_left_2 (by decide) ?_
  refine lv_istore_n (lv' := [(3, .int 0), (1, .long 0), (0, .ref (d 0))]) hx hb dX10_left_3 rfl hl (by decide) rfl (fun ls hl => ?_)
  have lp4 : ∀ (N9 : Nat) (u : Int64) (i : Int32), (0 ≤ i.toInt ∧ i.toInt ≤ (nt : Int)) → (i.toInt ≤ u.toInt ∧ u.toInt ≤ 1000 * i.toInt) → (40 - i.toInt).toNat < N9 → ∀ (H : Heap) (locs : List Loc) (ls : Array Slot), PX G A s.heap S H locs → lv_has ls 6 [(3, .int i), (1, .long u), (0, .ref (d 0))] → W p l e (Rm 6 0 0) s m args below meth c H locs 0 0 Q (F0 m 4 ls []) := by
    intro N9
    induction N9 with
    | zero => intro u i hi hu hm; exact absurd hm (Nat.not_lt_zero _)
    | succ N9 ih4 =>
      intro u i hi hu hm H locs ls hw hl
      refine lv_iload_n hx hb dX10_left_4 rfl (lv_at hl 0 rfl) ?_
      refine lv_aload_n hx hb dX10_left_5 rfl (lv_at hl 2 rfl) ?_
      refine gf_X10_28 (b := (d 6)) X hw k0 r72 dX10_left_6 ?_
      refine k_Vi (n := 0) X hw (rcvk (ci := 0) X hw lT.1 (fun _ _ _ _ _ _ _ => ⟨_, rfl⟩) rfl) (c_Jx4a65c_size_8abf5 l G _ (d 6) lT.1) wd_r18_1 wd_r18_2 wd_r18_3 wd_r1_22 wd_r18_4 ⟨by decide, by decide, by decide +kernel⟩ rfl rfl ⟨Nat.le_of_ble_eq_true rfl, Nat.le_of_ble_eq_true rfl⟩ rfl rfl hl.1 (Nat.le_of_ble_eq_true rfl) dX10_left_9 ⟨Nat.le_of_ble_eq_true rfl, Nat.le_of_ble_eq_true rfl⟩ (fun r9_1 S9_3 H locs h9_2 hw => ?_)
      obtain ⟨rfl, h9_2⟩ := h9_2
      have h9_2t : r9_1.toInt = ((pI S) 92 (d 6)).toInt := congrArg Int32.toInt h9_2
      refine lv_icmp_ge (tgt := 39) hx hb dX10_left_12 (by decide) (fun c12_4 => ?_) (fun c12_4 => ?_)
      · have D12_4 := iLe c12_4 rfl rfl
        refine lv_lload_n hx hb dX10_left_39 rfl (lv_at hl 1 rfl) ?_
        refine lv_lconst (v := 0) hx hb dX10_left_40 (by decide) ?_
        refine W.lcmp hx hb dX10_left_41 ?_
        refine lv_topi (fun v41_5 e41_5 => ?_)
        refine lv_if_gt (tgt := 49) hx hb dX10_left_42 (by decide) (fun c42_6 => ?_) (fun c42_6 => ?_)
        · have D42_6 := lc_gt e41_5 c42_6
          refine lv_ldc2 hx hb X.1.2.2.2.1 (X.1.2.2.2.2 _ wd_r42_22) dX10_left_49 ?_
          refine lv_lstore_n (lv' := [(3, .long 10000), (1, .long u), (0, .ref (d 0))]) hx hb dX10_left_52 rfl hl (by decide) rfl (fun ls hl => ?_)
          refine lv_iconst (v := 0) hx hb dX10_left_53 (by decide) ?_
          refine lv_istore (lv' := [(5, .int 0), (3, .long 10000), (1, .long u), (0, .ref (d 0))]) hx hb dX10_left_54 hl (by decide) rfl (fun ls hl => ?_)
          have lp56 : ∀ (N9 : Nat) (v : Int64) (n : Int64) (k : Int32), (0 ≤ k.toInt ∧ k.toInt ≤ 6) → (1 ≤ v.toInt ∧ v.toInt ≤ 40000 * pw100 k.toNatClampNeg) → (6 - k.toInt).toNat < N9 → ∀ (H : Heap) (locs : List Loc) (ls : Array Slot), PX G A s.heap S H locs → lv_has ls 6 [(5, .int k), (3, .long n), (1, .long v), (0, .ref (d 0))] → W p l e (Rm 6 0 0) s m args below meth c H locs 0 0 Q (F0 m 56 ls []) := by
            intro N9
            induction N9 with
            | zero => intro v n k hk hv hm; exact absurd hm (Nat.not_lt_zero _)
            | succ N9 ih56 =>
              intro v n k hk hv hm H locs ls hw hl
              refine lv_iload hx hb dX10_left_56 (lv_at hl 0 rfl) ?_
              refine lv_aload_n hx hb dX10_left_58 rfl (lv_at hl 3 rfl) ?_
              refine gf_X10_179 (v := (pI S) 78 (d 0)) X hw k0 rfl dX10_left_59 ?_
              refine lv_icmp_ge (tgt := 92) hx hb dX10_left_62 (by decide) (fun c62_7 => ?_) (fun c62_7 => ?_)
              · have D62_7 := iLe c62_7 rfl rfl
                refine lv_aload_n hx hb dX10_left_92 rfl (lv_at hl 3 rfl) ?_
                refine k_Vl (n := 0) X hw (rcvk (ci := 10) X hw k0 (fun _ _ _ _ _ _ _ => ⟨_, rfl⟩) rfl) (c_X10_allOdds l G _ d sa sb sp te tm pe tf pf nt np hC hN) wd_r38_11 wd_r38_12 wd_r38_13 wd_r1_2 wd_r38_14 ⟨by decide, by decide, by decide +kernel⟩ rfl rfl ⟨Nat.le_of_ble_eq_true rfl, Nat.le_of_ble_eq_true rfl⟩ rfl rfl hl.1 (Nat.le_of_ble_eq_true rfl) dX10_left_93 ⟨Nat.le_of_ble_eq_true rfl, Nat.le_of_ble_eq_true rfl⟩ (fun r93_8 S93_10 H locs h93_9 hw => ?_)
                obtain ⟨rfl, h93_9⟩ := h93_9
                refine lv_lload_n hx hb dX10_left_96 rfl (lv_at hl 1 rfl) ?_
                refine lv_lmul hx hb dX10_left_97 ?_
                refine lv_topl (fun v97_11 e97_11 => ?_)
                refine lv_lload_n hx hb dX10_left_98 rfl (lv_at hl 2 rfl) ?_
                refine lv_ldiv hx hb dX10_left_99 (lne0 (by omega)) ?_
                refine lv_topl (fun v99_12 e99_12 => ?_)
                refine lv_l2i hx hb dX10_left_100 rfl ?_
                refine lv_topi (fun v100_13 e100_13 => ?_)
                exact hret v100_13 _ _ _ _ _ ⟨rfl, trivial⟩ hw rfl dX10_left_101
              · have D62_7 := iNle c62_7 rfl rfl
                refine lv_lload_n hx hb dX10_left_65 rfl (lv_at hl 1 rfl) ?_
                refine lv_lconst (v := 1) hx hb dX10_left_66 (by decide) ?_
                refine W.lcmp hx hb dX10_left_67 ?_
                refine lv_topi (fun v67_14 e67_14 => ?_)
                refine lv_if_le (tgt := 80) hx hb dX10_left_68 (by decide) (fun c68_15 => ?_) (fun c68_15 => ?_)
                · have D68_15 := lc_le e67_14 c68_15
                  refine lv_lload_n hx hb dX10_left_80 rfl (lv_at hl 2 rfl) ?_
                  refine lv_ldc2 hx hb X.1.2.2.2.1 (X.1.2.2.2.2 _ wd_r42_23) dX10_left_81 ?_
                  refine lv_lmul hx hb dX10_left_84 ?_
                  refine lv_topl (fun v84_16 e84_16 => ?_)
                  have e84n := e84_16
                  refine lv_lstore_n (lv' := [(1, .long v84_16), (5, .int k), (3, .long n), (0, .ref (d 0))]) hx hb dX10_left_85 rfl hl (by decide) rfl (fun ls hl => ?_)
                  obtain ⟨v86_17, e86_17⟩ : ∃ y : Int32, y = k + 1 := ⟨_, rfl⟩
                  have t86_17 := iAdd e86_17 rfl t_1 (by omega) (by omega)
                  have t86 := t86_17
                  refine lv_iinc (v := v86_17) (lv' := [(5, .int v86_17), (1, .long v84_16), (3, .long n), (0, .ref (d 0))]) hx hb dX10_left_86 hl (k := 1) rfl (by rw [e86_17]; rfl) (by decide) rfl (fun ls hl => ?_)
                  refine lv_goto (tgt := 56) hx hb dX10_left_89 (by decide) ?_
                  exact ih56  v84_16 n v86_17 (by omega) (by first | exact lf_y hv e84n t86 (by omega) (by omega) | exact lf_n hv t86 (by omega)) (by omega) _ _ _ hw (lv_sub hl [0, 2, 1, 3] rfl)
                · have D68_15 := lcn_le e67_14 c68_15
                  refine lv_lload_n hx hb dX10_left_71 rfl (lv_at hl 1 rfl) ?_
                  refine lv_ldc2 hx hb X.1.2.2.2.1 (X.1.2.2.2.2 _ wd_r42_23) dX10_left_72 ?_
                  refine lv_ldiv hx hb dX10_left_75 (by decide) ?_
                  refine lv_topl (fun v75_18 e75_18 => ?_)
                  refine lv_lstore_n (lv' := [(3, .long v75_18), (5, .int k), (1, .long v), (0, .ref (d 0))]) hx hb dX10_left_76 rfl hl (by decide) rfl (fun ls hl => ?_)
                  refine lv_goto (tgt := 86) hx hb dX10_left_77 (by decide) ?_
                  obtain ⟨v86_19, e86_19⟩ : ∃ y : Int32, y = k + 1 := ⟨_, rfl⟩
                  have t86_19 := iAdd e86_19 rfl t_1 (by omega) (by omega)
                  have t86 := t86_19
                  refine lv_iinc (v := v86_19) (lv' := [(5, .int v86_19), (3, .long v75_18), (1, .long v), (0, .ref (d 0))]) hx hb dX10_left_86 hl (k := 1) rfl (by rw [e86_19]; rfl) (by decide) rfl (fun ls hl => ?_)
                  refine lv_goto (tgt := 56) hx hb dX10_left_89 (by decide) ?_
                  exact ih56  v v75_18 v86_19 (by omega) (by first | exact lf_y hv e84n t86 (by omega) (by omega) | exact lf_n hv t86 (by omega)) (by omega) _ _ _ hw (lv_sub hl [0, 1, 2, 3] rfl)
          exact lp56 _  u 10000 0 (by have := t_0; omega) (lf_0 (by have := (by decide : (0:Int64).toInt = 0); omega)) (Nat.lt_succ_self _) _ _ _ hw (lv_sub hl [0, 1, 2, 3] rfl)
        · have D42_6 := lcn_gt e41_5 c42_6
          refine lv_sipush (v := 10000) hx hb dX10_left_45 (by decide) ?_
          exact hret 10000 _ _ _ _ _ ⟨rfl, trivial⟩ hw rfl dX10_left_48
      · have D12_4 := iNle c12_4 rfl rfl
        refine lv_lload_n hx hb dX10_left_15 rfl (lv_at hl 1 rfl) ?_
        refine lv_aload_n hx hb dX10_left_16 rfl (lv_at hl 2 rfl) ?_
        refine gf_X10_28 (b := (d 6)) X hw k0 r72 dX10_left_17 ?_
        refine lv_iload_n hx hb dX10_left_20 rfl (lv_at hl 0 rfl) ?_
        refine k_Vq (n := 1) X hw (rcvk (ci := 0) X hw lT.1 (fun _ _ _ _ _ _ _ => ⟨_, rfl⟩) rfl) (c_Jx4a65c_get_915e3 l G _ (d 6) (d 7) tf nt te i (lT.sh z92) (by omega)) wd_r18_6 wd_r18_7 wd_r18_8 wd_r1_22 wd_r18_9 ⟨by decide, by decide, by decide +kernel⟩ rfl rfl ⟨Nat.le_of_ble_eq_true rfl, Nat.le_of_ble_eq_true rfl⟩ rfl rfl hl.1 (Nat.le_of_ble_eq_true rfl) dX10_left_21 ⟨Nat.le_of_ble_eq_true rfl, Nat.le_of_ble_eq_true rfl⟩ (fun r21_20 S21_22 H locs h21_21 hw => ?_)
        obtain ⟨rfl, rfl⟩ := h21_21
        have hik : i.toNatClampNeg < nt := clt (by omega) (by omega)
        refine q_castT X hw (hTl _ hik).1 dX10_left_24 ?_
        refine k_Vi (n := 0) X hw (rcvk (ci := 7) X hw (hTl _ hik).1 (fun _ _ _ _ _ _ _ => ⟨_, rfl⟩) rfl) (c_X7_weight l G _ (te i.toNatClampNeg) (tm i.toNatClampNeg) (hTl _ hik)) wd_r36_7 wd_r36_8 wd_r36_9 wd_r18_22 wd_r36_10 ⟨by decide, by decide, by decide +kernel⟩ rfl rfl ⟨Nat.le_of_ble_eq_true rfl, Nat.le_of_ble_eq_true rfl⟩ rfl rfl hl.1 (Nat.le_of_ble_eq_true rfl) dX10_left_27 ⟨Nat.le_of_ble_eq_true rfl, Nat.le_of_ble_eq_true rfl⟩ (fun r27_23 S27_25 H locs h27_24 hw => ?_)
        obtain ⟨rfl, h27_24⟩ := h27_24
        have h27_24t := congrArg Int32.toInt h27_24
        have zwi := zw _ hik
        refine lv_i2l hx hb dX10_left_30 rfl ?_
        refine lv_topl (fun v30_26 e30_26 => ?_)
        have k30 : v30_26.toInt = r27_23.toInt := by rw [e30_26]; exact i2l_t _
        refine lv_ladd hx hb dX10_left_31 ?_
        refine lv_topl (fun v31_27 e31_27 => ?_)
        have t31_27 := lAdd e31_27 rfl rfl (by omega) (by omega)
        have t31 := t31_27
        refine lv_lstore_n (lv' := [(1, .long v31_27), (3, .int i), (0, .ref (d 0))]) hx hb dX10_left_32 rfl hl (by decide) rfl (fun ls hl => ?_)
        obtain ⟨v33_28, e33_28⟩ : ∃ y : Int32, y = i + 1 := ⟨_, rfl⟩
        have t33_28 := iAdd e33_28 rfl t_1 (by omega) (by omega)
        have t33 := t33_28
        refine lv_iinc (v := v33_28) (lv' := [(3, .int v33_28), (1, .long v31_27), (0, .ref (d 0))]) hx hb dX10_left_33 hl (k := 1) rfl (by rw [e33_28]; rfl) (by decide) rfl (fun ls hl => ?_)
        refine lv_goto (tgt := 4) hx hb dX10_left_36 (by decide) ?_
        exact ih4  v31_27 v33_28 (by omega) (by omega) (by omega) _ _ _ hw (lv_sub hl [0, 1, 2] rfl)
  exact lp4 _  0 0 (by have := t_0; omega) (by have := t_0; have := (by decide : (0:Int64).toInt = 0); omega) (Nat.lt_succ_self _) _ _ _ hw (lv_sub hl [0, 1, 2] rfl)
set_option maxHeartbeats 4000000 in
set_option maxRecDepth 100000 in
theorem c_X10_tracks (l : Launch) (G : Gh) (S : Pl) (d sa sb sp te tm pe : Nat → Nat) (tf pf nt np : Nat) (x y z u : Int32) (hC : CIs G S d sa sb sp te tm pe tf pf nt np) (hN : CIn (pI S) d te pe nt np) : MtI l yX10_tracks cX10_tracks 8 (some .int) (Rm 1 0 0) G [.ref (d 0), .int x, .int y, .int z, .int u] S (fun (r : Int32) (S' : Pl) => S = S' ∧ ((trC x y z u ∧ r = trk x y z u) ∨ (¬ trC x y z u ∧ r = -1))) 0 0 := by
  refine MtI.of (by decide) (Nat.le_of_ble_eq_true rfl) ?_
  intro p e s m args below meth c Q A X hw hin hret ls hl
  have hx := X.1.1
  have hb := X.1.2.1
  have hl : lv_has ls 8 [(0, .ref (d 0)), (1, .int x), (2, .int y), (3, .int z), (4, .int u)] := hl
  obtain ⟨k0, r70, r71, r72, r73, r74, r75, r76, r77, hR, hS, hB, hSp, ⟨kco, nco⟩, lT, lP, n68, n79, hTl, hPk, hPi, n40⟩ := id hC
  obtain ⟨z92, z93, zw, zz, zst, zs6⟩ := id hN
  have hTp := hR.2.2.2.2.2.2.2
  have n60 := lP.2.2.1
  refine lv_iload_n hx hb dX10_tracks_0 rfl (lv_at hl 1 rfl) ?_
  refine lv_iconst (v := 1) hx hb dX10_tracks_1 (by decide) ?_
  refine lv_bipush (v := 8) hx hb dX10_tracks_2 (by decide) ?_
  refine k_Si (n := 3) X hw (c_X10_within l G _ x 1 8) wd_r7_17 wd_r7_18 wd_r1_2 wd_r7_19 ⟨by decide, by decide, by decide +kernel⟩ rfl rfl ⟨Nat.le_of_ble_eq_true rfl, Nat.le_of_ble_eq_true rfl⟩ rfl rfl hl.1 (Nat.le_of_ble_eq_true rfl) dX10_tracks_4 ⟨Nat.le_of_ble_eq_true rfl, Nat.le_of_ble_eq_true rfl⟩ (fun r4_1 S4_3 H locs h4_2 hw => ?_)
  have := t_1
  have := t_8
  rcases h4_2 with ⟨rfl, rfl, h4_2⟩ | ⟨rfl, rfl, h4_2⟩
  · have h4_2 := h4_2
    refine lv_if_eq (tgt := 45) hx hb dX10_tracks_7 (by decide) (fun c7_4 => absurd c7_4 (by decide)) (fun c7_4 => ?_)
    refine lv_iload_n hx hb dX10_tracks_10 rfl (lv_at hl 2 rfl) ?_
    refine lv_iconst (v := 1) hx hb dX10_tracks_11 (by decide) ?_
    refine lv_bipush (v := 8) hx hb dX10_tracks_12 (by decide) ?_
    refine k_Si (n := 3) X hw (c_X10_within l G _ y 1 8) wd_r7_17 wd_r7_18 wd_r1_2 wd_r7_19 ⟨by decide, by decide, by decide +kernel⟩ rfl rfl ⟨Nat.le_of_ble_eq_true rfl, Nat.le_of_ble_eq_true rfl⟩ rfl rfl hl.1 (Nat.le_of_ble_eq_true rfl) dX10_tracks_14 ⟨Nat.le_of_ble_eq_true rfl, Nat.le_of_ble_eq_true rfl⟩ (fun r14_5 S14_7 H locs h14_6 hw => ?_)
    have := t_1
    have := t_8
    rcases h14_6 with ⟨rfl, rfl, h14_6⟩ | ⟨rfl, rfl, h14_6⟩
    · have h14_6 := h14_6
      refine lv_if_eq (tgt := 45) hx hb dX10_tracks_17 (by decide) (fun c17_8 => absurd c17_8 (by decide)) (fun c17_8 => ?_)
      refine lv_iload_n hx hb dX10_tracks_20 rfl (lv_at hl 3 rfl) ?_
      refine lv_iconst (v := 1) hx hb dX10_tracks_21 (by decide) ?_
      refine lv_bipush (v := 80) hx hb dX10_tracks_22 (by decide) ?_
      refine k_Si (n := 3) X hw (c_X10_within l G _ z 1 80) wd_r7_17 wd_r7_18 wd_r1_2 wd_r7_19 ⟨by decide, by decide, by decide +kernel⟩ rfl rfl ⟨Nat.le_of_ble_eq_true rfl, Nat.le_of_ble_eq_true rfl⟩ rfl rfl hl.1 (Nat.le_of_ble_eq_true rfl) dX10_tracks_24 ⟨Nat.le_of_ble_eq_true rfl, Nat.le_of_ble_eq_true rfl⟩ (fun r24_9 S24_11 H locs h24_10 hw => ?_)
      have := t_1
      have := t_80
      rcases h24_10 with ⟨rfl, rfl, h24_10⟩ | ⟨rfl, rfl, h24_10⟩
      · have h24_10 := h24_10
        refine lv_if_eq (tgt := 45) hx hb dX10_tracks_27 (by decide) (fun c27_12 => absurd c27_12 (by decide)) (fun c27_12 => ?_)
        refine lv_iload hx hb dX10_tracks_30 (lv_at hl 4 rfl) ?_
        refine lv_iconst (v := 1) hx hb dX10_tracks_32 (by decide) ?_
        refine lv_bipush (v := 100) hx hb dX10_tracks_33 (by decide) ?_
        refine k_Si (n := 3) X hw (c_X10_within l G _ u 1 100) wd_r7_17 wd_r7_18 wd_r1_2 wd_r7_19 ⟨by decide, by decide, by decide +kernel⟩ rfl rfl ⟨Nat.le_of_ble_eq_true rfl, Nat.le_of_ble_eq_true rfl⟩ rfl rfl hl.1 (Nat.le_of_ble_eq_true rfl) dX10_tracks_35 ⟨Nat.le_of_ble_eq_true rfl, Nat.le_of_ble_eq_true rfl⟩ (fun r35_13 S35_15 H locs h35_14 hw => ?_)
        have := t_1
        have := t_100
        rcases h35_14 with ⟨rfl, rfl, h35_14⟩ | ⟨rfl, rfl, h35_14⟩
        · have h35_14 := h35_14
          refine lv_if_eq (tgt := 45) hx hb dX10_tracks_38 (by decide) (fun c38_16 => absurd c38_16 (by decide)) (fun c38_16 => ?_)
          refine lv_iconst (v := 1) hx hb dX10_tracks_41 (by decide) ?_
          refine lv_goto (tgt := 46) hx hb dX10_tracks_42 (by decide) ?_
          refine lv_istore (lv' := [(5, .int 1), (0, .ref (d 0)), (1, .int x), (2, .int y), (3, .int z), (4, .int u)]) hx hb dX10_tracks_46 hl (by decide) rfl (fun ls hl => ?_)
          refine lv_iload hx hb dX10_tracks_48 (lv_at hl 0 rfl) ?_
          refine lv_if_ne (tgt := 55) hx hb dX10_tracks_50 (by decide) (fun c50_17 => ?_) (fun c50_17 => absurd c50_17 (by decide))
          refine lv_iload_n hx hb dX10_tracks_55 rfl (lv_at hl 3 rfl) ?_
          refine lv_bipush (v := 10) hx hb dX10_tracks_56 (by decide) ?_
          refine lv_imul hx hb dX10_tracks_58 ?_
          refine lv_topi (fun v58_18 e58_18 => ?_)
          refine lv_iload_n hx hb dX10_tracks_59 rfl (lv_at hl 4 rfl) ?_
          refine lv_iadd hx hb dX10_tracks_60 ?_
          refine lv_topi (fun v60_19 e60_19 => ?_)
          refine lv_iconst (v := 1) hx hb dX10_tracks_61 (by decide) ?_
          refine lv_isub hx hb dX10_tracks_62 ?_
          refine lv_topi (fun v62_20 e62_20 => ?_)
          refine lv_iload_n hx hb dX10_tracks_63 rfl (lv_at hl 4 rfl) ?_
          refine lv_idiv hx hb dX10_tracks_64 (iNz (by omega)) ?_
          refine lv_topi (fun v64_21 e64_21 => ?_)
          refine lv_istore (lv' := [(6, .int v64_21), (5, .int 1), (0, .ref (d 0)), (1, .int x), (2, .int y), (3, .int z), (4, .int u)]) hx hb dX10_tracks_65 hl (by decide) rfl (fun ls hl => ?_)
          refine lv_iload hx hb dX10_tracks_67 (lv_at hl 0 rfl) ?_
          refine lv_iload_n hx hb dX10_tracks_69 rfl (lv_at hl 3 rfl) ?_
          refine lv_imul hx hb dX10_tracks_70 ?_
          refine lv_topi (fun v70_22 e70_22 => ?_)
          refine lv_bipush (v := 10) hx hb dX10_tracks_71 (by decide) ?_
          refine lv_imul hx hb dX10_tracks_73 ?_
          refine lv_topi (fun v73_23 e73_23 => ?_)
          refine lv_iload hx hb dX10_tracks_74 (lv_at hl 0 rfl) ?_
          refine lv_iconst (v := 1) hx hb dX10_tracks_76 (by decide) ?_
          refine lv_isub hx hb dX10_tracks_77 ?_
          refine lv_topi (fun v77_24 e77_24 => ?_)
          refine lv_iload_n hx hb dX10_tracks_78 rfl (lv_at hl 5 rfl) ?_
          refine lv_imul hx hb dX10_tracks_79 ?_
          refine lv_topi (fun v79_25 e79_25 => ?_)
          refine lv_iadd hx hb dX10_tracks_80 ?_
          refine lv_topi (fun v80_26 e80_26 => ?_)
          refine lv_istore (lv' := [(7, .int v80_26), (6, .int v64_21), (5, .int 1), (0, .ref (d 0)), (1, .int x), (2, .int y), (3, .int z), (4, .int u)]) hx hb dX10_tracks_81 hl (by decide) rfl (fun ls hl => ?_)
          refine lv_iload hx hb dX10_tracks_83 (lv_at hl 0 rfl) ?_
          refine lv_bipush (v := 60) hx hb dX10_tracks_85 (by decide) ?_
          refine lv_imul hx hb dX10_tracks_87 ?_
          refine lv_topi (fun v87_27 e87_27 => ?_)
          refine lv_iload hx hb dX10_tracks_88 (lv_at hl 7 rfl) ?_
          refine lv_iadd hx hb dX10_tracks_90 ?_
          refine lv_topi (fun v90_28 e90_28 => ?_)
          refine lv_iconst (v := 1) hx hb dX10_tracks_91 (by decide) ?_
          refine lv_isub hx hb dX10_tracks_92 ?_
          refine lv_topi (fun v92_29 e92_29 => ?_)
          refine lv_iload hx hb dX10_tracks_93 (lv_at hl 7 rfl) ?_
          refine lv_idiv hx hb dX10_tracks_95 (iNz (by omega)) ?_
          refine lv_topi (fun v95_30 e95_30 => ?_)
          exact hret v95_30 _ _ _ _ _ ⟨rfl, Or.inl ⟨by unfold trC; omega, by simp only [*]; exact trk_c x y z u⟩⟩ hw rfl dX10_tracks_96
        · have h35_14 := h35_14
          refine lv_if_eq (tgt := 45) hx hb dX10_tracks_38 (by decide) (fun c38_31 => ?_) (fun c38_31 => absurd c38_31 (by decide))
          refine lv_iconst (v := 0) hx hb dX10_tracks_45 (by decide) ?_
          refine lv_istore (lv' := [(5, .int 0), (0, .ref (d 0)), (1, .int x), (2, .int y), (3, .int z), (4, .int u)]) hx hb dX10_tracks_46 hl (by decide) rfl (fun ls hl => ?_)
          refine lv_iload hx hb dX10_tracks_48 (lv_at hl 0 rfl) ?_
          refine lv_if_ne (tgt := 55) hx hb dX10_tracks_50 (by decide) (fun c50_32 => absurd c50_32 (by decide)) (fun c50_32 => ?_)
          refine lv_iconst (v := -1) hx hb dX10_tracks_53 (by decide) ?_
          exact hret (-1) _ _ _ _ _ ⟨rfl, Or.inr ⟨by unfold trC; omega, rfl⟩⟩ hw rfl dX10_tracks_54
      · have h24_10 := h24_10
        refine lv_if_eq (tgt := 45) hx hb dX10_tracks_27 (by decide) (fun c27_33 => ?_) (fun c27_33 => absurd c27_33 (by decide))
        refine lv_iconst (v := 0) hx hb dX10_tracks_45 (by decide) ?_
        refine lv_istore (lv' := [(5, .int 0), (0, .ref (d 0)), (1, .int x), (2, .int y), (3, .int z), (4, .int u)]) hx hb dX10_tracks_46 hl (by decide) rfl (fun ls hl => ?_)
        refine lv_iload hx hb dX10_tracks_48 (lv_at hl 0 rfl) ?_
        refine lv_if_ne (tgt := 55) hx hb dX10_tracks_50 (by decide) (fun c50_34 => absurd c50_34 (by decide)) (fun c50_34 => ?_)
        refine lv_iconst (v := -1) hx hb dX10_tracks_53 (by decide) ?_
        exact hret (-1) _ _ _ _ _ ⟨rfl, Or.inr ⟨by unfold trC; omega, rfl⟩⟩ hw rfl dX10_tracks_54
    · have h14_6 := h14_6
      refine lv_if_eq (tgt := 45) hx hb dX10_tracks_17 (by decide) (fun c17_35 => ?_) (fun c17_35 => absurd c17_35 (by decide))
      refine lv_iconst (v := 0) hx hb dX10_tracks_45 (by decide) ?_
      refine lv_istore (lv' := [(5, .int 0), (0, .ref (d 0)), (1, .int x), (2, .int y), (3, .int z), (4, .int u)]) hx hb dX10_tracks_46 hl (by decide) rfl (fun ls hl => ?_)
      refine lv_iload hx hb dX10_tracks_48 (lv_at hl 0 rfl) ?_
      refine lv_if_ne (tgt := 55) hx hb dX10_tracks_50 (by decide) (fun c50_36 => absurd c50_36 (by decide)) (fun c50_36 => ?_)
      refine lv_iconst (v := -1) hx hb dX10_tracks_53 (by decide) ?_
      exact hret (-1) _ _ _ _ _ ⟨rfl, Or.inr ⟨by unfold trC; omega, rfl⟩⟩ hw rfl dX10_tracks_54
  · have h4_2 := h4_2
    refine lv_if_eq (tgt := 45) hx hb dX10_tracks_7 (by decide) (fun c7_37 => ?_) (fun c7_37 => absurd c7_37 (by decide))
    refine lv_iconst (v := 0) hx hb dX10_tracks_45 (by decide) ?_
    refine lv_istore (lv' := [(5, .int 0), (0, .ref (d 0)), (1, .int x), (2, .int y), (3, .int z), (4, .int u)]) hx hb dX10_tracks_46 hl (by decide) rfl (fun ls hl => ?_)
    refine lv_iload hx hb dX10_tracks_48 (lv_at hl 0 rfl) ?_
    refine lv_if_ne (tgt := 55) hx hb dX10_tracks_50 (by decide) (fun c50_38 => absurd c50_38 (by decide)) (fun c50_38 => ?_)
    refine lv_iconst (v := -1) hx hb dX10_tracks_53 (by decide) ?_
    exact hret (-1) _ _ _ _ _ ⟨rfl, Or.inr ⟨by unfold trC; omega, rfl⟩⟩ hw rfl dX10_tracks_54
