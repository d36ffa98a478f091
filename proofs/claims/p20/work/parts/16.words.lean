set_option maxHeartbeats 4000000 in
set_option maxRecDepth 100000 in
theorem c_J0_coder_7d493 (l : Launch) (G : Gh) (S : Pl) (k : Nat) (hk : k < 5) : MtI l yJ0_coder_7d493 cJ0_coder_7d493 1 (some .byte) (Rm 0 0 0) G [.ref (G.2.2.1 k)] S (fun (r : Int32) (S' : Pl) => S = S' ∧ r = 0) 0 0 := by
  refine MtI.of (by decide) (Nat.le_of_ble_eq_true rfl) ?_
  intro p e s m args below meth c Q A X hw hin hret ls hl
  have hx := X.1.1
  have hb := X.1.2.1
  have hl : lv_has ls 1 [(0, .ref (G.2.2.1 k))] := hl
  refine va_gets hx hb X.2.2.2.2.1.2.2.2.2.2.2.2.2.2.1 hw.2.2 X.1.2.2.2.1 (X.1.2.2.2.2 _ wd_r12_12) (fun _ h => h) dJ0_coder_7d493_0 ?_
  refine lv_if_eq (tgt := 13) hx hb dJ0_coder_7d493_3 (by decide) (fun c3_1 => absurd c3_1 (by decide)) (fun c3_1 => ?_)
  refine lv_aload_n hx hb dJ0_coder_7d493_6 rfl (lv_at hl 0 rfl) ?_
  refine vk_getf hx hb (X.2.2.2.2.1.2.2.2.1.1.1 k hk).2.1 hw.2.2 X.1.2.2.2.1 (X.1.2.2.2.2 _ wd_r12_13) (fun _ h => h) dJ0_coder_7d493_7 ?_
  refine lv_goto (tgt := 14) hx hb dJ0_coder_7d493_10 (by decide) ?_
  exact hret 0 _ _ _ _ _ ⟨rfl, rfl⟩ hw rfl dJ0_coder_7d493_14
set_option maxHeartbeats 4000000 in
set_option maxRecDepth 100000 in
theorem c_J0_isLatin1_aae02 (l : Launch) (G : Gh) (S : Pl) (k : Nat) (hk : k < 5) : MtI l yJ0_isLatin1_aae02 cJ0_isLatin1_aae02 1 (some .boolean) (Rm 0 0 0) G [.ref (G.2.2.1 k)] S (fun (r : Int32) (S' : Pl) => (S = S' ∧ r = 1 ∧ True) ∨ (S = S' ∧ r = 0 ∧ False)) 0 0 := by
  refine MtI.of (by decide) (Nat.le_of_ble_eq_true rfl) ?_
  intro p e s m args below meth c Q A X hw hin hret ls hl
  have hx := X.1.1
  have hb := X.1.2.1
  have hl : lv_has ls 1 [(0, .ref (G.2.2.1 k))] := hl
  refine va_gets hx hb X.2.2.2.2.1.2.2.2.2.2.2.2.2.2.1 hw.2.2 X.1.2.2.2.1 (X.1.2.2.2.2 _ wd_r12_12) (fun _ h => h) dJ0_isLatin1_aae02_0 ?_
  refine lv_if_eq (tgt := 17) hx hb dJ0_isLatin1_aae02_3 (by decide) (fun c3_1 => absurd c3_1 (by decide)) (fun c3_1 => ?_)
  refine lv_aload_n hx hb dJ0_isLatin1_aae02_6 rfl (lv_at hl 0 rfl) ?_
  refine vk_getf hx hb (X.2.2.2.2.1.2.2.2.1.1.1 k hk).2.1 hw.2.2 X.1.2.2.2.1 (X.1.2.2.2.2 _ wd_r12_13) (fun _ h => h) dJ0_isLatin1_aae02_7 ?_
  refine lv_if_ne (tgt := 17) hx hb dJ0_isLatin1_aae02_10 (by decide) (fun c10_2 => absurd c10_2 (by decide)) (fun c10_2 => ?_)
  refine lv_iconst (v := 1) hx hb dJ0_isLatin1_aae02_13 (by decide) ?_
  refine lv_goto (tgt := 18) hx hb dJ0_isLatin1_aae02_14 (by decide) ?_
  exact hret 1 _ _ _ _ _ (Or.inl ⟨rfl, rfl, trivial⟩) hw rfl dJ0_isLatin1_aae02_18
set_option maxHeartbeats 4000000 in
set_option maxRecDepth 100000 in
theorem c_J0_length_8abf5 (l : Launch) (G : Gh) (S : Pl) (k : Nat) (hk : k < 5) : MtI l yJ0_length_8abf5 cJ0_length_8abf5 1 (some .int) (Rm 1 0 0) G [.ref (G.2.2.1 k)] S (fun (r : Int32) (S' : Pl) => S = S' ∧ r = Int32.ofNat (skL.getD k 0)) 0 0 := by
  refine MtI.of (by decide) (Nat.le_of_ble_eq_true rfl) ?_
  intro p e s m args below meth c Q A X hw hin hret ls hl
  have hx := X.1.1
  have hb := X.1.2.1
  have hl : lv_has ls 1 [(0, .ref (G.2.2.1 k))] := hl
  refine lv_aload_n hx hb dJ0_length_8abf5_0 rfl (lv_at hl 0 rfl) ?_
  refine vk_getf hx hb (X.2.2.2.2.1.2.2.2.1.1.1 k hk).2.2.1 hw.2.2 X.1.2.2.2.1 (X.1.2.2.2.2 _ wd_r12_7) (fun _ h => h) dJ0_length_8abf5_1 ?_
  refine va_tlen hx hb (X.2.2.2.2.1.2.2.2.1.1.1 k hk).2.2.2 hw.2.2 (v := Int32.ofNat (skL.getD k 0)) rfl dJ0_length_8abf5_4 ?_
  refine lv_aload_n hx hb dJ0_length_8abf5_5 rfl (lv_at hl 0 rfl) ?_
  refine k_Vi (n := 0) X hw (vk_recv X.2.2.2.2.1.2.2.2.1.1 hk hw.2.2) (c_J0_coder_7d493 l G _ k hk) wd_r12_8 wd_r12_9 wd_r12_10 wd_r12_5 wd_r12_11 ⟨by decide, by decide, by decide +kernel⟩ rfl rfl ⟨Nat.le_of_ble_eq_true rfl, Nat.le_of_ble_eq_true rfl⟩ rfl rfl hl.1 (Nat.le_of_ble_eq_true rfl) dJ0_length_8abf5_6 ⟨Nat.le_of_ble_eq_true rfl, Nat.le_of_ble_eq_true rfl⟩ (fun r6_1 S6_3 H locs h6_2 hw => ?_)
  obtain ⟨rfl, h6_2⟩ := h6_2
  have HC := h6_2
  refine lv_ishr hx hb dJ0_length_8abf5_9 ?_
  refine lv_topi (fun v9_4 e9_4 => ?_)
  exact hret v9_4 _ _ _ _ _ ⟨rfl, by rw [e9_4, HC, sb_shr0]⟩ hw rfl dJ0_length_8abf5_10
set_option maxHeartbeats 4000000 in
set_option maxRecDepth 100000 in
theorem c_J3_ckN (l : Launch) (G : Gh) (S : Pl) (i n : Int32) (hi : 0 ≤ i.toInt ∧ i.toInt < n.toInt) : MtI l yJ3_checkIndex_8e157 cJ3_checkIndex_8e157 3 (some .int) (Rm 0 0 0) G [.int i, .int n, .null] S (fun (r : Int32) (S' : Pl) => S = S' ∧ r = i) 0 0 := by
  refine MtI.of (by decide) (Nat.le_of_ble_eq_true rfl) ?_
  intro p e s m args below meth c Q A X hw hin hret ls hl
  have hx := X.1.1
  have hb := X.1.2.1
  have hl : lv_has ls 3 [(0, .int i), (1, .int n), (2, .null)] := hl
  refine lv_iload_n hx hb dJ3_checkIndex_8e157_0 rfl (lv_at hl 0 rfl) ?_
  refine lv_if_lt (tgt := 9) hx hb dJ3_checkIndex_8e157_1 (by decide) (fun c1_1 => absurd c1_1 (fun h => absurd (iLt h rfl t_0) (by omega))) (fun c1_1 => ?_)
  have D1_1 := iNlt c1_1 rfl t_0
  refine lv_iload_n hx hb dJ3_checkIndex_8e157_4 rfl (lv_at hl 0 rfl) ?_
  refine lv_iload_n hx hb dJ3_checkIndex_8e157_5 rfl (lv_at hl 1 rfl) ?_
  refine lv_icmp_lt (tgt := 16) hx hb dJ3_checkIndex_8e157_6 (by decide) (fun c6_2 => ?_) (fun c6_2 => absurd c6_2 (fun h => h (Int32.lt_iff_toInt_lt.mpr hi.2)))
  have D6_2 := iLt c6_2 rfl rfl
  refine lv_iload_n hx hb dJ3_checkIndex_8e157_16 rfl (lv_at hl 0 rfl) ?_
  exact hret i _ _ _ _ _ ⟨rfl, rfl⟩ hw rfl dJ3_checkIndex_8e157_17
set_option maxHeartbeats 4000000 in
set_option maxRecDepth 100000 in
theorem c_J3_ckR (l : Launch) (G : Gh) (S : Pl) (i n : Int32) (z : Nat) (hi : 0 ≤ i.toInt ∧ i.toInt < n.toInt) : MtI l yJ3_checkIndex_8e157 cJ3_checkIndex_8e157 3 (some .int) (Rm 0 0 0) G [.int i, .int n, .ref z] S (fun (r : Int32) (S' : Pl) => S = S' ∧ r = i) 0 0 := by
  refine MtI.of (by decide) (Nat.le_of_ble_eq_true rfl) ?_
  intro p e s m args below meth c Q A X hw hin hret ls hl
  have hx := X.1.1
  have hb := X.1.2.1
  have hl : lv_has ls 3 [(0, .int i), (1, .int n), (2, .ref z)] := hl
  refine lv_iload_n hx hb dJ3_checkIndex_8e157_0 rfl (lv_at hl 0 rfl) ?_
  refine lv_if_lt (tgt := 9) hx hb dJ3_checkIndex_8e157_1 (by decide) (fun c1_1 => absurd c1_1 (fun h => absurd (iLt h rfl t_0) (by omega))) (fun c1_1 => ?_)
  have D1_1 := iNlt c1_1 rfl t_0
  refine lv_iload_n hx hb dJ3_checkIndex_8e157_4 rfl (lv_at hl 0 rfl) ?_
  refine lv_iload_n hx hb dJ3_checkIndex_8e157_5 rfl (lv_at hl 1 rfl) ?_
  refine lv_icmp_lt (tgt := 16) hx hb dJ3_checkIndex_8e157_6 (by decide) (fun c6_2 => ?_) (fun c6_2 => absurd c6_2 (fun h => h (Int32.lt_iff_toInt_lt.mpr hi.2)))
  have D6_2 := iLt c6_2 rfl rfl
  refine lv_iload_n hx hb dJ3_checkIndex_8e157_16 rfl (lv_at hl 0 rfl) ?_
  exact hret i _ _ _ _ _ ⟨rfl, rfl⟩ hw rfl dJ3_checkIndex_8e157_17
set_option maxHeartbeats 4000000 in
set_option maxRecDepth 100000 in
theorem c_J0_checkIndex_df160 (l : Launch) (G : Gh) (S : Pl) (i n : Int32) (hi : 0 ≤ i.toInt ∧ i.toInt < n.toInt) : MtV l yJ0_checkIndex_df160 cJ0_checkIndex_df160 2 none (Rm 1 0 0) G [.int i, .int n] S (fun (S' : Pl) => S = S' ∧ True) 0 0 := by
  refine MtV.of (by decide) (Nat.le_of_ble_eq_true rfl) ?_
  intro p e s m args below meth c Q A X hw hin hret ls hl
  have hx := X.1.1
  have hb := X.1.2.1
  have hl : lv_has ls 2 [(0, .int i), (1, .int n)] := hl
  refine lv_iload_n hx hb dJ0_checkIndex_df160_0 rfl (lv_at hl 0 rfl) ?_
  refine lv_iload_n hx hb dJ0_checkIndex_df160_1 rfl (lv_at hl 1 rfl) ?_
  rcases X.2.2.2.2.1.2.2.2.2.2.2.2.2.2.2 with hZ | ⟨z, hZ⟩
  · refine va_gets hx hb hZ hw.2.2 X.1.2.2.2.1 (X.1.2.2.2.2 _ wd_r13_5) (fun _ h => h) dJ0_checkIndex_df160_2 ?_
    refine k_Si (n := 3) X hw (c_J3_ckN l G _ i n hi) wd_r13_6 wd_r13_7 wd_r13_8 wd_r13_9 ⟨by decide, by decide, by decide +kernel⟩ rfl rfl ⟨Nat.le_of_ble_eq_true rfl, Nat.le_of_ble_eq_true rfl⟩ rfl rfl hl.1 (Nat.le_of_ble_eq_true rfl) dJ0_checkIndex_df160_5 ⟨Nat.le_of_ble_eq_true rfl, Nat.le_of_ble_eq_true rfl⟩ (fun r5_1 S5_3 H locs h5_2 hw => ?_)
    obtain ⟨rfl, h5_2⟩ := h5_2
    refine lv_pop hx hb dJ0_checkIndex_df160_8 rfl ?_
    exact hret _ _ _ _ _ ⟨rfl, trivial⟩ hw dJ0_checkIndex_df160_9
  · refine va_gets hx hb hZ hw.2.2 X.1.2.2.2.1 (X.1.2.2.2.2 _ wd_r13_5) (fun _ h => h) dJ0_checkIndex_df160_2 ?_
    refine k_Si (n := 3) X hw (c_J3_ckR l G _ i n z hi) wd_r13_6 wd_r13_7 wd_r13_8 wd_r13_9 ⟨by decide, by decide, by decide +kernel⟩ rfl rfl ⟨Nat.le_of_ble_eq_true rfl, Nat.le_of_ble_eq_true rfl⟩ rfl rfl hl.1 (Nat.le_of_ble_eq_true rfl) dJ0_checkIndex_df160_5 ⟨Nat.le_of_ble_eq_true rfl, Nat.le_of_ble_eq_true rfl⟩ (fun r5_4 S5_6 H locs h5_5 hw => ?_)
    obtain ⟨rfl, h5_5⟩ := h5_5
    refine lv_pop hx hb dJ0_checkIndex_df160_8 rfl ?_
    exact hret _ _ _ _ _ ⟨rfl, trivial⟩ hw dJ0_checkIndex_df160_9
set_option maxHeartbeats 4000000 in
set_option maxRecDepth 100000 in
theorem c_J1_charAt_3b067 (l : Launch) (G : Gh) (S : Pl) (k : Nat) (i : Int32) (hk : k < 5) (hi : 0 ≤ i.toInt ∧ i.toInt < (skL.getD k 0 : Nat)) : MtI l yJ1_charAt_3b067 cJ1_charAt_3b067 2 (some .char) (Rm 2 0 0) G [.ref (G.2.2.2.1 k), .int i] S (fun (r : Int32) (S' : Pl) => S = S' ∧ narrow .char (.int r) = .int r) 0 0 := by
  refine MtI.of (by decide) (Nat.le_of_ble_eq_true rfl) ?_
  intro p e s m args below meth c Q A X hw hin hret ls hl
  have hx := X.1.1
  have hb := X.1.2.1
  have hl : lv_has ls 2 [(0, .ref (G.2.2.2.1 k)), (1, .int i)] := hl
  have hkb := skLb hk
  refine lv_iload_n hx hb dJ1_charAt_3b067_0 rfl (lv_at hl 1 rfl) ?_
  refine lv_aload_n hx hb dJ1_charAt_3b067_1 rfl (lv_at hl 0 rfl) ?_
  refine va_tlen hx hb (X.2.2.2.2.1.2.2.2.1.1.1 k hk).2.2.2 hw.2.2 (v := Int32.ofNat (skL.getD k 0)) rfl dJ1_charAt_3b067_2 ?_
  refine k_Sv (n := 2) X hw (c_J0_checkIndex_df160 l G _ i (Int32.ofNat (skL.getD k 0)) (by omega)) wd_r13_2 wd_r13_3 wd_r12_5 wd_r13_4 ⟨by decide, by decide, by decide +kernel⟩ rfl rfl ⟨Nat.le_of_ble_eq_true rfl, Nat.le_of_ble_eq_true rfl⟩ rfl rfl hl.1 (Nat.le_of_ble_eq_true rfl) dJ1_charAt_3b067_3 ⟨Nat.le_of_ble_eq_true rfl, Nat.le_of_ble_eq_true rfl⟩ (fun S3_2 H locs h3_1 hw => ?_)
  obtain ⟨rfl, h3_1⟩ := h3_1
  refine lv_aload_n hx hb dJ1_charAt_3b067_6 rfl (lv_at hl 0 rfl) ?_
  refine lv_iload_n hx hb dJ1_charAt_3b067_7 rfl (lv_at hl 1 rfl) ?_
  refine va_tb hx hb (X.2.2.2.2.1.2.2.2.1.1.1 k hk).2.2.2 hw.2.2 (vp_in_iff.mpr ⟨by omega, by omega⟩) (v := .int ((skB.getD k []).getD i.toNatClampNeg 0)) rfl dJ1_charAt_3b067_8 ?_
  refine lv_topi (fun v8_3 e8_3 => ?_)
  refine lv_sipush (v := 255) hx hb dJ1_charAt_3b067_9 (by decide) ?_
  refine lv_iand hx hb dJ1_charAt_3b067_12 ?_
  refine lv_topi (fun v12_4 e12_4 => ?_)
  refine lv_i2c hx hb dJ1_charAt_3b067_13 rfl ?_
  refine lv_topi (fun v13_5 e13_5 => ?_)
  have RE := e13_5
  exact hret v13_5 _ _ _ _ _ ⟨rfl, by rw [e13_5]; exact pk_nc _⟩ hw (by rw [RE]; exact pk_nc _) dJ1_charAt_3b067_14
set_option maxHeartbeats 4000000 in
set_option maxRecDepth 100000 in
theorem c_J0_charAt_5068e (l : Launch) (G : Gh) (S : Pl) (k : Nat) (i : Int32) (hk : k < 5) (hi : 0 ≤ i.toInt ∧ i.toInt < (skL.getD k 0 : Nat)) : MtI l yJ0_charAt_5068e cJ0_charAt_5068e 2 (some .char) (Rm 3 0 0) G [.ref (G.2.2.1 k), .int i] S (fun (r : Int32) (S' : Pl) => S = S' ∧ narrow .char (.int r) = .int r) 0 0 := by
  refine MtI.of (by decide) (Nat.le_of_ble_eq_true rfl) ?_
  intro p e s m args below meth c Q A X hw hin hret ls hl
  have hx := X.1.1
  have hb := X.1.2.1
  have hl : lv_has ls 2 [(0, .ref (G.2.2.1 k)), (1, .int i)] := hl
  refine lv_aload_n hx hb dJ0_charAt_5068e_0 rfl (lv_at hl 0 rfl) ?_
  refine k_Vi (n := 0) X hw (vk_recv X.2.2.2.2.1.2.2.2.1.1 hk hw.2.2) (c_J0_isLatin1_aae02 l G _ k hk) wd_r12_18 wd_r12_19 wd_r12_20 wd_r12_5 wd_r12_21 ⟨by decide, by decide, by decide +kernel⟩ rfl rfl ⟨Nat.le_of_ble_eq_true rfl, Nat.le_of_ble_eq_true rfl⟩ rfl rfl hl.1 (Nat.le_of_ble_eq_true rfl) dJ0_charAt_5068e_1 ⟨Nat.le_of_ble_eq_true rfl, Nat.le_of_ble_eq_true rfl⟩ (fun r1_1 S1_3 H locs h1_2 hw => ?_)
  rcases h1_2 with ⟨rfl, rfl, h1_2⟩ | ⟨rfl, rfl, h1_2⟩
  · have h1_2 := h1_2
    refine lv_if_eq (tgt := 16) hx hb dJ0_charAt_5068e_4 (by decide) (fun c4_4 => absurd c4_4 (by decide)) (fun c4_4 => ?_)
    refine lv_aload_n hx hb dJ0_charAt_5068e_7 rfl (lv_at hl 0 rfl) ?_
    refine vk_getf hx hb (X.2.2.2.2.1.2.2.2.1.1.1 k hk).2.2.1 hw.2.2 X.1.2.2.2.1 (X.1.2.2.2.2 _ wd_r12_7) (fun _ h => h) dJ0_charAt_5068e_8 ?_
    refine lv_iload_n hx hb dJ0_charAt_5068e_11 rfl (lv_at hl 1 rfl) ?_
    refine k_Si (n := 2) X hw (c_J1_charAt_3b067 l G _ k i hk hi) wd_r12_22 wd_r12_23 wd_r13_0 wd_r13_1 ⟨by decide, by decide, by decide +kernel⟩ rfl rfl ⟨Nat.le_of_ble_eq_true rfl, Nat.le_of_ble_eq_true rfl⟩ rfl rfl hl.1 (Nat.le_of_ble_eq_true rfl) dJ0_charAt_5068e_12 ⟨Nat.le_of_ble_eq_true rfl, Nat.le_of_ble_eq_true rfl⟩ (fun r12_5 S12_7 H locs h12_6 hw => ?_)
    obtain ⟨rfl, h12_6⟩ := h12_6
    have HC := h12_6
    exact hret r12_5 _ _ _ _ _ ⟨rfl, HC⟩ hw HC dJ0_charAt_5068e_15
  · have h1_2 := h1_2
    exact h1_2.elim
set_option maxHeartbeats 4000000 in
set_option maxRecDepth 100000 in
theorem c_X9_spells (l : Launch) (G : Gh) (S : Pl) (tk tp tb k : Nat) (hK : shTok S tk tp tb) (hz : (pI S 61 tp).toInt ≤ 1000) (hk : k < 5) : MtI l yX9_spells cX9_spells 4 (some .boolean) (Rm 4 0 0) G [.ref tk, .ref (G.2.2.1 k)] S (fun (r : Int32) (S' : Pl) => (S = S' ∧ r = 1 ∧ True) ∨ (S = S' ∧ r = 0 ∧ True)) 0 0 := by
  refine MtI.of (by decide) (Nat.le_of_ble_eq_true rfl) ?_
  intro p e s m args below meth c Q A X hw hin hret ls hl
  have hx := X.1.1
  have hb := X.1.2.1
  have hl : lv_has ls 4 [(0, .ref tk), (1, .ref (G.2.2.1 k))] := hl
  refine lv_aload_n hx hb dX9_spells_0 rfl (lv_at hl 0 rfl) ?_
  refine gf_X9_23 (v := (pI S) 68 tk) X hw hK.1 rfl dX9_spells_1 ?_
  refine lv_aload_n hx hb dX9_spells_4 rfl (lv_at hl 0 rfl) ?_
  refine gf_X9_17 (v := (pI S) 67 tk) X hw hK.1 rfl dX9_spells_5 ?_
  refine lv_isub hx hb dX9_spells_8 ?_
  refine lv_topi (fun v8_1 e8_1 => ?_)
  refine lv_aload_n hx hb dX9_spells_9 rfl (lv_at hl 1 rfl) ?_
  refine k_Vi (n := 0) X hw (vk_recv X.2.2.2.2.1.2.2.2.1.1 hk hw.2.2) (c_J0_length_8abf5 l G _ k hk) wd_r12_2 wd_r12_3 wd_r12_4 wd_r12_5 wd_r12_6 ⟨by decide, by decide, by decide +kernel⟩ rfl rfl ⟨Nat.le_of_ble_eq_true rfl, Nat.le_of_ble_eq_true rfl⟩ rfl rfl hl.1 (Nat.le_of_ble_eq_true rfl) dX9_spells_10 ⟨Nat.le_of_ble_eq_true rfl, Nat.le_of_ble_eq_true rfl⟩ (fun r10_2 S10_4 H locs h10_3 hw => ?_)
  obtain ⟨rfl, h10_3⟩ := h10_3
  refine lv_icmp_ne (tgt := 20) hx hb dX9_spells_13 (by decide) (fun c13_5 => ?_) (fun c13_5 => ?_)
  · have D13_5 := iNe c13_5 rfl rfl
    refine lv_iconst (v := 0) hx hb dX9_spells_20 (by decide) ?_
    refine lv_istore_n (lv' := [(2, .int 0), (0, .ref tk), (1, .ref (G.2.2.1 k))]) hx hb dX9_spells_21 rfl hl (by decide) rfl (fun ls hl => ?_)
    refine lv_iconst (v := 0) hx hb dX9_spells_22 (by decide) ?_
    refine lv_istore_n (lv' := [(3, .int 0), (2, .int 0), (0, .ref tk), (1, .ref (G.2.2.1 k))]) hx hb dX9_spells_23 rfl hl (by decide) rfl (fun ls hl => ?_)
    have lp24 : ∀ (N9 : Nat) (z : Int32) (i : Int32), (z = 0 ∨ z = 1) → (0 ≤ i.toInt ∧ i.toInt ≤ 6) → (6 - i.toInt).toNat < N9 → ∀ (H : Heap) (locs : List Loc) (ls : Array Slot), PX G A s.heap S H locs → lv_has ls 4 [(3, .int i), (2, .int z), (0, .ref tk), (1, .ref (G.2.2.1 k))] → W p l e (Rm 4 0 0) s m args below meth c H locs 0 0 Q (F0 m 24 ls []) := by
      intro N9
      induction N9 with
      | zero => intro z i hb2 hi hm; exact absurd hm (Nat.not_lt_zero _)
      | succ N9 ih24 =>
        intro z i hb2 hi hm H locs ls hw hl
        refine lv_iload_n hx hb dX9_spells_24 rfl (lv_at hl 1 rfl) ?_
        refine lv_if_eq (tgt := 69) hx hb dX9_spells_25 (by decide) (fun c25_6 => ?_) (fun c25_6 => ?_)
        · have D25_6 := iEq c25_6 rfl t_0
          refine lv_iload_n hx hb dX9_spells_69 rfl (lv_at hl 1 rfl) ?_
          exact hret z _ _ _ _ _ (hb2.elim (fun h => Or.inr ⟨rfl, h, trivial⟩) (fun h => Or.inl ⟨rfl, h, trivial⟩)) hw (nbool hb2) dX9_spells_70
        · have D25_6 := iNe c25_6 rfl t_0
          refine lv_iload_n hx hb dX9_spells_28 rfl (lv_at hl 0 rfl) ?_
          refine lv_aload_n hx hb dX9_spells_29 rfl (lv_at hl 3 rfl) ?_
          refine k_Vi (n := 0) X hw (vk_recv X.2.2.2.2.1.2.2.2.1.1 hk hw.2.2) (c_J0_length_8abf5 l G _ k hk) wd_r12_2 wd_r12_3 wd_r12_4 wd_r12_5 wd_r12_6 ⟨by decide, by decide, by decide +kernel⟩ rfl rfl ⟨Nat.le_of_ble_eq_true rfl, Nat.le_of_ble_eq_true rfl⟩ rfl rfl hl.1 (Nat.le_of_ble_eq_true rfl) dX9_spells_30 ⟨Nat.le_of_ble_eq_true rfl, Nat.le_of_ble_eq_true rfl⟩ (fun r30_7 S30_9 H locs h30_8 hw => ?_)
          obtain ⟨rfl, h30_8⟩ := h30_8
          have h30_8b := skLc hk h30_8
          refine lv_icmp_ge (tgt := 69) hx hb dX9_spells_33 (by decide) (fun c33_10 => ?_) (fun c33_10 => ?_)
          · have D33_10 := iLe c33_10 rfl rfl
            refine lv_iload_n hx hb dX9_spells_69 rfl (lv_at hl 1 rfl) ?_
            exact hret z _ _ _ _ _ (hb2.elim (fun h => Or.inr ⟨rfl, h, trivial⟩) (fun h => Or.inl ⟨rfl, h, trivial⟩)) hw (nbool hb2) dX9_spells_70
          · have D33_10 := iNle c33_10 rfl rfl
            refine lv_aload_n hx hb dX9_spells_36 rfl (lv_at hl 2 rfl) ?_
            refine gf_X9_7 (b := tp) X hw hK.1 hK.2.1 dX9_spells_37 ?_
            refine lv_aload_n hx hb dX9_spells_40 rfl (lv_at hl 2 rfl) ?_
            refine gf_X9_17 (v := (pI S) 67 tk) X hw hK.1 rfl dX9_spells_41 ?_
            refine lv_iload_n hx hb dX9_spells_44 rfl (lv_at hl 0 rfl) ?_
            refine lv_iadd hx hb dX9_spells_45 ?_
            refine lv_topi (fun v45_11 e45_11 => ?_)
            refine k_Vi (n := 1) X hw (rcvk (ci := 8) X hw hK.2.2.1 (fun _ _ _ _ _ _ _ => ⟨_, rfl⟩) rfl) (c_X8_byteAt l G _ tp tb v45_11 hK.2.2 (Fr.sz Fr.rf hz)) wd_r9_15 wd_r9_16 wd_r9_17 wd_r1_14 wd_r9_18 ⟨by decide, by decide, by decide +kernel⟩ rfl rfl ⟨Nat.le_of_ble_eq_true rfl, Nat.le_of_ble_eq_true rfl⟩ rfl rfl hl.1 (Nat.le_of_ble_eq_true rfl) dX9_spells_46 ⟨Nat.le_of_ble_eq_true rfl, Nat.le_of_ble_eq_true rfl⟩ (fun r46_12 S46_14 H locs h46_13 hw => ?_)
            obtain ⟨rfl, h46_13⟩ := h46_13
            refine lv_aload_n hx hb dX9_spells_49 rfl (lv_at hl 3 rfl) ?_
            refine lv_iload_n hx hb dX9_spells_50 rfl (lv_at hl 0 rfl) ?_
            refine k_Vi (n := 1) X hw (vk_recv X.2.2.2.2.1.2.2.2.1.1 hk hw.2.2) (c_J0_charAt_5068e l G _ k i hk (by omega)) wd_r12_14 wd_r12_15 wd_r12_16 wd_r12_5 wd_r12_17 ⟨by decide, by decide, by decide +kernel⟩ rfl rfl ⟨Nat.le_of_ble_eq_true rfl, Nat.le_of_ble_eq_true rfl⟩ rfl rfl hl.1 (Nat.le_of_ble_eq_true rfl) dX9_spells_51 ⟨Nat.le_of_ble_eq_true rfl, Nat.le_of_ble_eq_true rfl⟩ (fun r51_15 S51_17 H locs h51_16 hw => ?_)
            obtain ⟨rfl, h51_16⟩ := h51_16
            refine lv_icmp_ne (tgt := 61) hx hb dX9_spells_54 (by decide) (fun c54_18 => ?_) (fun c54_18 => ?_)
            · have D54_18 := iNe c54_18 rfl rfl
              refine lv_iconst (v := 0) hx hb dX9_spells_61 (by decide) ?_
              refine lv_istore_n (lv' := [(2, .int 0), (3, .int i), (0, .ref tk), (1, .ref (G.2.2.1 k))]) hx hb dX9_spells_62 rfl hl (by decide) rfl (fun ls hl => ?_)
              obtain ⟨v63_19, e63_19⟩ : ∃ y : Int32, y = i + 1 := ⟨_, rfl⟩
              have t63_19 := iAdd e63_19 rfl t_1 (by omega) (by omega)
              have t63 := t63_19
              refine lv_iinc (v := v63_19) (lv' := [(3, .int v63_19), (2, .int 0), (0, .ref tk), (1, .ref (G.2.2.1 k))]) hx hb dX9_spells_63 hl (k := 1) rfl (by rw [e63_19]; rfl) (by decide) rfl (fun ls hl => ?_)
              refine lv_goto (tgt := 24) hx hb dX9_spells_66 (by decide) ?_
              exact ih24  0 v63_19 (by first | exact Or.inl rfl | exact Or.inr rfl) (by have := t_0; omega) (by omega) _ _ _ hw (lv_sub hl [0, 1, 2, 3] rfl)
            · have D54_18 := iEq c54_18 rfl rfl
              refine lv_iconst (v := 1) hx hb dX9_spells_57 (by decide) ?_
              refine lv_goto (tgt := 62) hx hb dX9_spells_58 (by decide) ?_
              refine lv_istore_n (lv' := [(2, .int 1), (3, .int i), (0, .ref tk), (1, .ref (G.2.2.1 k))]) hx hb dX9_spells_62 rfl hl (by decide) rfl (fun ls hl => ?_)
              obtain ⟨v63_20, e63_20⟩ : ∃ y : Int32, y = i + 1 := ⟨_, rfl⟩
              have t63_20 := iAdd e63_20 rfl t_1 (by omega) (by omega)
              have t63 := t63_20
              refine lv_iinc (v := v63_20) (lv' := [(3, .int v63_20), (2, .int 1), (0, .ref tk), (1, .ref (G.2.2.1 k))]) hx hb dX9_spells_63 hl (k := 1) rfl (by rw [e63_20]; rfl) (by decide) rfl (fun ls hl => ?_)
              refine lv_goto (tgt := 24) hx hb dX9_spells_66 (by decide) ?_
              exact ih24  1 v63_20 (by first | exact Or.inl rfl | exact Or.inr rfl) (by have := t_1; omega) (by omega) _ _ _ hw (lv_sub hl [0, 1, 2, 3] rfl)
    exact lp24 _  0 0 (by first | exact Or.inl rfl | exact Or.inr rfl) (by have := t_0; have := t_0; omega) (Nat.lt_succ_self _) _ _ _ hw (lv_sub hl [0, 1, 2, 3] rfl)
  · have D13_5 := iEq c13_5 rfl rfl
    refine lv_iconst (v := 1) hx hb dX9_spells_16 (by decide) ?_
    refine lv_goto (tgt := 21) hx hb dX9_spells_17 (by decide) ?_
    refine lv_istore_n (lv' := [(2, .int 1), (0, .ref tk), (1, .ref (G.2.2.1 k))]) hx hb dX9_spells_21 rfl hl (by decide) rfl (fun ls hl => ?_)
    refine lv_iconst (v := 0) hx hb dX9_spells_22 (by decide) ?_
    refine lv_istore_n (lv' := [(3, .int 0), (2, .int 1), (0, .ref tk), (1, .ref (G.2.2.1 k))]) hx hb dX9_spells_23 rfl hl (by decide) rfl (fun ls hl => ?_)
    have lp24 : ∀ (N9 : Nat) (z : Int32) (i : Int32), (z = 0 ∨ z = 1) → (0 ≤ i.toInt ∧ i.toInt ≤ 6) → (6 - i.toInt).toNat < N9 → ∀ (H : Heap) (locs : List Loc) (ls : Array Slot), PX G A s.heap S H locs → lv_has ls 4 [(3, .int i), (2, .int z), (0, .ref tk), (1, .ref (G.2.2.1 k))] → W p l e (Rm 4 0 0) s m args below meth c H locs 0 0 Q (F0 m 24 ls []) := by
      intro N9
      induction N9 with
      | zero => intro z i hb2 hi hm; exact absurd hm (Nat.not_lt_zero _)
      | succ N9 ih24 =>
        intro z i hb2 hi hm H locs ls hw hl
        refine lv_iload_n hx hb dX9_spells_24 rfl (lv_at hl 1 rfl) ?_
        refine lv_if_eq (tgt := 69) hx hb dX9_spells_25 (by decide) (fun c25_21 => ?_) (fun c25_21 => ?_)
        · have D25_21 := iEq c25_21 rfl t_0
          refine lv_iload_n hx hb dX9_spells_69 rfl (lv_at hl 1 rfl) ?_
          exact hret z _ _ _ _ _ (hb2.elim (fun h => Or.inr ⟨rfl, h, trivial⟩) (fun h => Or.inl ⟨rfl, h, trivial⟩)) hw (nbool hb2) dX9_spells_70
        · have D25_21 := iNe c25_21 rfl t_0
          refine lv_iload_n hx hb dX9_spells_28 rfl (lv_at hl 0 rfl) ?_
          refine lv_aload_n hx hb dX9_spells_29 rfl (lv_at hl 3 rfl) ?_
          refine k_Vi (n := 0) X hw (vk_recv X.2.2.2.2.1.2.2.2.1.1 hk hw.2.2) (c_J0_length_8abf5 l G _ k hk) wd_r12_2 wd_r12_3 wd_r12_4 wd_r12_5 wd_r12_6 ⟨by decide, by decide, by decide +kernel⟩ rfl rfl ⟨Nat.le_of_ble_eq_true rfl, Nat.le_of_ble_eq_true rfl⟩ rfl rfl hl.1 (Nat.le_of_ble_eq_true rfl) dX9_spells_30 ⟨Nat.le_of_ble_eq_true rfl, Nat.le_of_ble_eq_true rfl⟩ (fun r30_22 S30_24 H locs h30_23 hw => ?_)
          obtain ⟨rfl, h30_23⟩ := h30_23
          have h30_23b := skLc hk h30_23
          refine lv_icmp_ge (tgt := 69) hx hb dX9_spells_33 (by decide) (fun c33_25 => ?_) (fun c33_25 => ?_)
          · have D33_25 := iLe c33_25 rfl rfl
            refine lv_iload_n hx hb dX9_spells_69 rfl (lv_at hl 1 rfl) ?_
            exact hret z _ _ _ _ _ (hb2.elim (fun h => Or.inr ⟨rfl, h, trivial⟩) (fun h => Or.inl ⟨rfl, h, trivial⟩)) hw (nbool hb2) dX9_spells_70
          · have D33_25 := iNle c33_25 rfl rfl
            refine lv_aload_n hx hb dX9_spells_36 rfl (lv_at hl 2 rfl) ?_
            refine gf_X9_7 (b := tp) X hw hK.1 hK.2.1 dX9_spells_37 ?_
            refine lv_aload_n hx hb dX9_spells_40 rfl (lv_at hl 2 rfl) ?_
            refine gf_X9_17 (v := (pI S) 67 tk) X hw hK.1 rfl dX9_spells_41 ?_
            refine lv_iload_n hx hb dX9_spells_44 rfl (lv_at hl 0 rfl) ?_
            refine lv_iadd hx hb dX9_spells_45 ?_
            refine lv_topi (fun v45_26 e45_26 => ?_)
            refine k_Vi (n := 1) X hw (rcvk (ci := 8) X hw hK.2.2.1 (fun _ _ _ _ _ _ _ => ⟨_, rfl⟩) rfl) (c_X8_byteAt l G _ tp tb v45_26 hK.2.2 (Fr.sz Fr.rf hz)) wd_r9_15 wd_r9_16 wd_r9_17 wd_r1_14 wd_r9_18 ⟨by decide, by decide, by decide +kernel⟩ rfl rfl ⟨Nat.le_of_ble_eq_true rfl, Nat.le_of_ble_eq_true rfl⟩ rfl rfl hl.1 (Nat.le_of_ble_eq_true rfl) dX9_spells_46 ⟨Nat.le_of_ble_eq_true rfl, Nat.le_of_ble_eq_true rfl⟩ (fun r46_27 S46_29 H locs h46_28 hw => ?_)
            obtain ⟨rfl, h46_28⟩ := h46_28
            refine lv_aload_n hx hb dX9_spells_49 rfl (lv_at hl 3 rfl) ?_
            refine lv_iload_n hx hb dX9_spells_50 rfl (lv_at hl 0 rfl) ?_
            refine k_Vi (n := 1) X hw (vk_recv X.2.2.2.2.1.2.2.2.1.1 hk hw.2.2) (c_J0_charAt_5068e l G _ k i hk (by omega)) wd_r12_14 wd_r12_15 wd_r12_16 wd_r12_5 wd_r12_17 ⟨by decide, by decide, by decide +kernel⟩ rfl rfl ⟨Nat.le_of_ble_eq_true rfl, Nat.le_of_ble_eq_true rfl⟩ rfl rfl hl.1 (Nat.le_of_ble_eq_true rfl) dX9_spells_51 ⟨Nat.le_of_ble_eq_true rfl, Nat.le_of_ble_eq_true rfl⟩ (fun r51_30 S51_32 H locs h51_31 hw => ?_)
            obtain ⟨rfl, h51_31⟩ := h51_31
            refine lv_icmp_ne (tgt := 61) hx hb dX9_spells_54 (by decide) (fun c54_33 => ?_) (fun c54_33 => ?_)
            · have D54_33 := iNe c54_33 rfl rfl
              refine lv_iconst (v := 0) hx hb dX9_spells_61 (by decide) ?_
              refine lv_istore_n (lv' := [(2, .int 0), (3, .int i), (0, .ref tk), (1, .ref (G.2.2.1 k))]) hx hb dX9_spells_62 rfl hl (by decide) rfl (fun ls hl => ?_)
              obtain ⟨v63_34, e63_34⟩ : ∃ y : Int32, y = i + 1 := ⟨_, rfl⟩
              have t63_34 := iAdd e63_34 rfl t_1 (by omega) (by omega)
              have t63 := t63_34
              refine lv_iinc (v := v63_34) (lv' := [(3, .int v63_34), (2, .int 0), (0, .ref tk), (1, .ref (G.2.2.1 k))]) hx hb dX9_spells_63 hl (k := 1) rfl (by rw [e63_34]; rfl) (by decide) rfl (fun ls hl => ?_)
              refine lv_goto (tgt := 24) hx hb dX9_spells_66 (by decide) ?_
              exact ih24  0 v63_34 (by first | exact Or.inl rfl | exact Or.inr rfl) (by have := t_0; omega) (by omega) _ _ _ hw (lv_sub hl [0, 1, 2, 3] rfl)
            · have D54_33 := iEq c54_33 rfl rfl
              refine lv_iconst (v := 1) hx hb dX9_spells_57 (by decide) ?_
              refine lv_goto (tgt := 62) hx hb dX9_spells_58 (by decide) ?_
              refine lv_istore_n (lv' := [(2, .int 1), (3, .int i), (0, .ref tk), (1, .ref (G.2.2.1 k))]) hx hb dX9_spells_62 rfl hl (by decide) rfl (fun ls hl => ?_)
              obtain ⟨v63_35, e63_35⟩ : ∃ y : Int32, y = i + 1 := ⟨_, rfl⟩
              have t63_35 := iAdd e63_35 rfl t_1 (by omega) (by omega)
              have t63 := t63_35
              refine lv_iinc (v := v63_35) (lv' := [(3, .int v63_35), (2, .int 1), (0, .ref tk), (1, .ref (G.2.2.1 k))]) hx hb dX9_spells_63 hl (k := 1) rfl (by rw [e63_35]; rfl) (by decide) rfl (fun ls hl => ?_)
              refine lv_goto (tgt := 24) hx hb dX9_spells_66 (by decide) ?_
              exact ih24  1 v63_35 (by first | exact Or.inl rfl | exact Or.inr rfl) (by have := t_1; omega) (by omega) _ _ _ hw (lv_sub hl [0, 1, 2, 3] rfl)
    exact lp24 _  1 0 (by first | exact Or.inl rfl | exact Or.inr rfl) (by have := t_1; have := t_0; omega) (Nat.lt_succ_self _) _ _ _ hw (lv_sub hl [0, 1, 2, 3] rfl)
set_option maxHeartbeats 4000000 in
set_option maxRecDepth 100000 in
theorem c_X4_sortOfWord (l : Launch) (G : Gh) (S : Pl) (rd nb tk tp tb : Nat) (hR : shRd S rd nb tk tp tb) (hz : (pI S 61 tp).toInt ≤ 1000) : MtI l yX4_sortOfWord cX4_sortOfWord 1 (some .int) (Rm 5 0 0) G [.ref rd] S (fun (r : Int32) (S' : Pl) => S = S' ∧ (r.toInt = -1 ∨ (0 ≤ r.toInt ∧ r.toInt ≤ 4))) 0 0 := by
  refine MtI.of (by decide) (Nat.le_of_ble_eq_true rfl) ?_
  intro p e s m args below meth c Q A X hw hin hret ls hl
  have hx := X.1.1
  have hb := X.1.2.1
  have hl : lv_has ls 1 [(0, .ref rd)] := hl
  refine lv_aload_n hx hb dX4_sortOfWord_0 rfl (lv_at hl 0 rfl) ?_
  refine gf_X4_24 (b := tk) X hw hR.1 hR.2.1 dX4_sortOfWord_1 ?_
  refine va_ldcS (q := G.2.2.1 0) hx hb X.1.2.2.2.1 (X.2.2.2.2.1.2.2.2.1.2 0 (by decide)) dX4_sortOfWord_4 ?_
  refine k_Vi (n := 1) X hw (rcvk (ci := 9) X hw hR.2.2.2.2.2.1 (fun _ _ _ _ _ _ _ => ⟨_, rfl⟩) rfl) (c_X9_spells l G _ tk tp tb 0 hR.2.2.2.2.2 hz (by decide)) wd_r11_22 wd_r11_23 wd_r12_0 wd_r3_2 wd_r12_1 ⟨by decide, by decide, by decide +kernel⟩ rfl rfl ⟨Nat.le_of_ble_eq_true rfl, Nat.le_of_ble_eq_true rfl⟩ rfl rfl hl.1 (Nat.le_of_ble_eq_true rfl) dX4_sortOfWord_6 ⟨Nat.le_of_ble_eq_true rfl, Nat.le_of_ble_eq_true rfl⟩ (fun r6_1 S6_3 H locs h6_2 hw => ?_)
  rcases h6_2 with ⟨rfl, rfl, h6_2⟩ | ⟨rfl, rfl, h6_2⟩
  · have h6_2 := h6_2
    refine lv_if_eq (tgt := 16) hx hb dX4_sortOfWord_9 (by decide) (fun c9_4 => absurd c9_4 (by decide)) (fun c9_4 => ?_)
    refine lv_iconst (v := 0) hx hb dX4_sortOfWord_12 (by decide) ?_
    refine lv_goto (tgt := 81) hx hb dX4_sortOfWord_13 (by decide) ?_
    exact hret 0 _ _ _ _ _ ⟨rfl, by have := t_0; omega⟩ hw rfl dX4_sortOfWord_81
  · have h6_2 := h6_2
    refine lv_if_eq (tgt := 16) hx hb dX4_sortOfWord_9 (by decide) (fun c9_5 => ?_) (fun c9_5 => absurd c9_5 (by decide))
    refine lv_aload_n hx hb dX4_sortOfWord_16 rfl (lv_at hl 0 rfl) ?_
    refine gf_X4_24 (b := tk) X hw hR.1 hR.2.1 dX4_sortOfWord_17 ?_
    refine va_ldcS (q := G.2.2.1 1) hx hb X.1.2.2.2.1 (X.2.2.2.2.1.2.2.2.1.2 1 (by decide)) dX4_sortOfWord_20 ?_
    refine k_Vi (n := 1) X hw (rcvk (ci := 9) X hw hR.2.2.2.2.2.1 (fun _ _ _ _ _ _ _ => ⟨_, rfl⟩) rfl) (c_X9_spells l G _ tk tp tb 1 hR.2.2.2.2.2 hz (by decide)) wd_r11_22 wd_r11_23 wd_r12_0 wd_r3_2 wd_r12_1 ⟨by decide, by decide, by decide +kernel⟩ rfl rfl ⟨Nat.le_of_ble_eq_true rfl, Nat.le_of_ble_eq_true rfl⟩ rfl rfl hl.1 (Nat.le_of_ble_eq_true rfl) dX4_sortOfWord_22 ⟨Nat.le_of_ble_eq_true rfl, Nat.le_of_ble_eq_true rfl⟩ (fun r22_6 S22_8 H locs h22_7 hw => ?_)
    rcases h22_7 with ⟨rfl, rfl, h22_7⟩ | ⟨rfl, rfl, h22_7⟩
    · have h22_7 := h22_7
      refine lv_if_eq (tgt := 32) hx hb dX4_sortOfWord_25 (by decide) (fun c25_9 => absurd c25_9 (by decide)) (fun c25_9 => ?_)
      refine lv_iconst (v := 1) hx hb dX4_sortOfWord_28 (by decide) ?_
      refine lv_goto (tgt := 81) hx hb dX4_sortOfWord_29 (by decide) ?_
      exact hret 1 _ _ _ _ _ ⟨rfl, by have := t_1; omega⟩ hw rfl dX4_sortOfWord_81
    · have h22_7 := h22_7
      refine lv_if_eq (tgt := 32) hx hb dX4_sortOfWord_25 (by decide) (fun c25_10 => ?_) (fun c25_10 => absurd c25_10 (by decide))
      refine lv_aload_n hx hb dX4_sortOfWord_32 rfl (lv_at hl 0 rfl) ?_
      refine gf_X4_24 (b := tk) X hw hR.1 hR.2.1 dX4_sortOfWord_33 ?_
      refine va_ldcS (q := G.2.2.1 2) hx hb X.1.2.2.2.1 (X.2.2.2.2.1.2.2.2.1.2 2 (by decide)) dX4_sortOfWord_36 ?_
      refine k_Vi (n := 1) X hw (rcvk (ci := 9) X hw hR.2.2.2.2.2.1 (fun _ _ _ _ _ _ _ => ⟨_, rfl⟩) rfl) (c_X9_spells l G _ tk tp tb 2 hR.2.2.2.2.2 hz (by decide)) wd_r11_22 wd_r11_23 wd_r12_0 wd_r3_2 wd_r12_1 ⟨by decide, by decide, by decide +kernel⟩ rfl rfl ⟨Nat.le_of_ble_eq_true rfl, Nat.le_of_ble_eq_true rfl⟩ rfl rfl hl.1 (Nat.le_of_ble_eq_true rfl) dX4_sortOfWord_38 ⟨Nat.le_of_ble_eq_true rfl, Nat.le_of_ble_eq_true rfl⟩ (fun r38_11 S38_13 H locs h38_12 hw => ?_)
      rcases h38_12 with ⟨rfl, rfl, h38_12⟩ | ⟨rfl, rfl, h38_12⟩
      · have h38_12 := h38_12
        refine lv_if_eq (tgt := 48) hx hb dX4_sortOfWord_41 (by decide) (fun c41_14 => absurd c41_14 (by decide)) (fun c41_14 => ?_)
        refine lv_iconst (v := 2) hx hb dX4_sortOfWord_44 (by decide) ?_
        refine lv_goto (tgt := 81) hx hb dX4_sortOfWord_45 (by decide) ?_
        exact hret 2 _ _ _ _ _ ⟨rfl, by have := t_2; omega⟩ hw rfl dX4_sortOfWord_81
      · have h38_12 := h38_12
        refine lv_if_eq (tgt := 48) hx hb dX4_sortOfWord_41 (by decide) (fun c41_15 => ?_) (fun c41_15 => absurd c41_15 (by decide))
        refine lv_aload_n hx hb dX4_sortOfWord_48 rfl (lv_at hl 0 rfl) ?_
        refine gf_X4_24 (b := tk) X hw hR.1 hR.2.1 dX4_sortOfWord_49 ?_
        refine va_ldcS (q := G.2.2.1 3) hx hb X.1.2.2.2.1 (X.2.2.2.2.1.2.2.2.1.2 3 (by decide)) dX4_sortOfWord_52 ?_
        refine k_Vi (n := 1) X hw (rcvk (ci := 9) X hw hR.2.2.2.2.2.1 (fun _ _ _ _ _ _ _ => ⟨_, rfl⟩) rfl) (c_X9_spells l G _ tk tp tb 3 hR.2.2.2.2.2 hz (by decide)) wd_r11_22 wd_r11_23 wd_r12_0 wd_r3_2 wd_r12_1 ⟨by decide, by decide, by decide +kernel⟩ rfl rfl ⟨Nat.le_of_ble_eq_true rfl, Nat.le_of_ble_eq_true rfl⟩ rfl rfl hl.1 (Nat.le_of_ble_eq_true rfl) dX4_sortOfWord_54 ⟨Nat.le_of_ble_eq_true rfl, Nat.le_of_ble_eq_true rfl⟩ (fun r54_16 S54_18 H locs h54_17 hw => ?_)
        rcases h54_17 with ⟨rfl, rfl, h54_17⟩ | ⟨rfl, rfl, h54_17⟩
        · have h54_17 := h54_17
          refine lv_if_eq (tgt := 64) hx hb dX4_sortOfWord_57 (by decide) (fun c57_19 => absurd c57_19 (by decide)) (fun c57_19 => ?_)
          refine lv_iconst (v := 3) hx hb dX4_sortOfWord_60 (by decide) ?_
          refine lv_goto (tgt := 81) hx hb dX4_sortOfWord_61 (by decide) ?_
          exact hret 3 _ _ _ _ _ ⟨rfl, by have := t_3; omega⟩ hw rfl dX4_sortOfWord_81
        · have h54_17 := h54_17
          refine lv_if_eq (tgt := 64) hx hb dX4_sortOfWord_57 (by decide) (fun c57_20 => ?_) (fun c57_20 => absurd c57_20 (by decide))
          refine lv_aload_n hx hb dX4_sortOfWord_64 rfl (lv_at hl 0 rfl) ?_
          refine gf_X4_24 (b := tk) X hw hR.1 hR.2.1 dX4_sortOfWord_65 ?_
          refine va_ldcS (q := G.2.2.1 4) hx hb X.1.2.2.2.1 (X.2.2.2.2.1.2.2.2.1.2 4 (by decide)) dX4_sortOfWord_68 ?_
          refine k_Vi (n := 1) X hw (rcvk (ci := 9) X hw hR.2.2.2.2.2.1 (fun _ _ _ _ _ _ _ => ⟨_, rfl⟩) rfl) (c_X9_spells l G _ tk tp tb 4 hR.2.2.2.2.2 hz (by decide)) wd_r11_22 wd_r11_23 wd_r12_0 wd_r3_2 wd_r12_1 ⟨by decide, by decide, by decide +kernel⟩ rfl rfl ⟨Nat.le_of_ble_eq_true rfl, Nat.le_of_ble_eq_true rfl⟩ rfl rfl hl.1 (Nat.le_of_ble_eq_true rfl) dX4_sortOfWord_70 ⟨Nat.le_of_ble_eq_true rfl, Nat.le_of_ble_eq_true rfl⟩ (fun r70_21 S70_23 H locs h70_22 hw => ?_)
          rcases h70_22 with ⟨rfl, rfl, h70_22⟩ | ⟨rfl, rfl, h70_22⟩
          · have h70_22 := h70_22
            refine lv_if_eq (tgt := 80) hx hb dX4_sortOfWord_73 (by decide) (fun c73_24 => absurd c73_24 (by decide)) (fun c73_24 => ?_)
            refine lv_iconst (v := 4) hx hb dX4_sortOfWord_76 (by decide) ?_
            refine lv_goto (tgt := 81) hx hb dX4_sortOfWord_77 (by decide) ?_
            exact hret 4 _ _ _ _ _ ⟨rfl, by have := t_4; omega⟩ hw rfl dX4_sortOfWord_81
          · have h70_22 := h70_22
            refine lv_if_eq (tgt := 80) hx hb dX4_sortOfWord_73 (by decide) (fun c73_25 => ?_) (fun c73_25 => absurd c73_25 (by decide))
            refine lv_iconst (v := -1) hx hb dX4_sortOfWord_80 (by decide) ?_
            exact hret (-1) _ _ _ _ _ ⟨rfl, by have := t_m1; omega⟩ hw rfl dX4_sortOfWord_81
set_option maxHeartbeats 4000000 in
set_option maxRecDepth 100000 in
theorem c_X4_readLine (l : Launch) (G : Gh) (S : Pl) (rd nb tk tp tb : Nat) (sa : Nat → Nat) (hR : shRd S rd nb tk tp tb) (hS : shSea S sa) (hz : (pI S 61 tp).toInt ≤ 1000) : MtV l yX4_readLine cX4_readLine 4 none (Rm 6 0 0) G [.ref rd, .ref (sa 0)] S (fun (S' : Pl) => ∃ I' q', ch S I' (pJ S) q' (qJ S) = S' ∧ Fr (pI S) I') 0 0 := by
  refine MtV.of (by decide) (Nat.le_of_ble_eq_true rfl) ?_
  intro p e s m args below meth c Q A X hw hin hret ls hl
  have hx := X.1.1
  have hb := X.1.2.1
  have hl : lv_has ls 4 [(0, .ref rd), (1, .ref (sa 0))] := hl
  refine lv_aload_n hx hb dX4_readLine_0 rfl (lv_at hl 0 rfl) ?_
  refine lv_iconst (v := 2) hx hb dX4_readLine_1 (by decide) ?_
  refine k_Vi (n := 1) X hw (rcvk (ci := 4) X hw hR.1 (fun _ _ _ _ _ _ _ => ⟨_, rfl⟩) rfl) (c_X4_isThere l G _ rd nb tk tp tb 2 hR) wd_r11_6 wd_r11_7 wd_r11_8 wd_r1_18 wd_r11_9 ⟨by decide, by decide, by decide +kernel⟩ rfl rfl ⟨Nat.le_of_ble_eq_true rfl, Nat.le_of_ble_eq_true rfl⟩ rfl rfl hl.1 (Nat.le_of_ble_eq_true rfl) dX4_readLine_2 ⟨Nat.le_of_ble_eq_true rfl, Nat.le_of_ble_eq_true rfl⟩ (fun r2_1 S2_3 H locs h2_2 hw => ?_)
  have := t_2
  obtain ⟨I2_4, rfl, h2_2⟩ := h2_2
  have hw : PX G A s.heap (ch S I2_4 (pJ S) (qI S) (qJ S)) H locs := hw
  refine lv_if_ne (tgt := 9) hx hb dX4_readLine_5 (by decide) (fun c5_5 => ?_) (fun c5_5 => ?_)
  · have D5_5 := iNe c5_5 rfl t_0
    refine lv_aload_n hx hb dX4_readLine_9 rfl (lv_at hl 0 rfl) ?_
    refine k_Vi (n := 0) X hw (rcvk (ci := 4) X hw hR.1 (fun _ _ _ _ _ _ _ => ⟨_, rfl⟩) rfl) (c_X4_sortOfWord l G _ rd nb tk tp tb hR (Fr.sz (Fr.tr Fr.rf h2_2) hz)) wd_r11_18 wd_r11_19 wd_r11_20 wd_r1_18 wd_r11_21 ⟨by decide, by decide, by decide +kernel⟩ rfl rfl ⟨Nat.le_of_ble_eq_true rfl, Nat.le_of_ble_eq_true rfl⟩ rfl rfl hl.1 (Nat.le_of_ble_eq_true rfl) dX4_readLine_10 ⟨Nat.le_of_ble_eq_true rfl, Nat.le_of_ble_eq_true rfl⟩ (fun r10_6 S10_8 H locs h10_7 hw => ?_)
    obtain ⟨rfl, h10_7⟩ := h10_7
    refine lv_istore_n (lv' := [(2, .int r10_6), (0, .ref rd), (1, .ref (sa 0))]) hx hb dX4_readLine_13 rfl hl (by decide) rfl (fun ls hl => ?_)
    refine lv_iload_n hx hb dX4_readLine_14 rfl (lv_at hl 0 rfl) ?_
    refine lv_iconst (v := -1) hx hb dX4_readLine_15 (by decide) ?_
    refine lv_icmp_eq (tgt := 28) hx hb dX4_readLine_16 (by decide) (fun c16_9 => ?_) (fun c16_9 => ?_)
    · have D16_9 := iEq c16_9 rfl t_m1
      refine lv_aload_n hx hb dX4_readLine_28 rfl (lv_at hl 1 rfl) ?_
      refine lv_iconst (v := 2) hx hb dX4_readLine_29 (by decide) ?_
      refine k_Vv (n := 1) X hw (rcvk (ci := 4) X hw hR.1 (fun _ _ _ _ _ _ _ => ⟨_, rfl⟩) rfl) (c_X4_note l G _ rd nb tk tp tb 2 hR) wd_r11_10 wd_r11_11 wd_r11_12 wd_r1_18 wd_r11_13 ⟨by decide, by decide, by decide +kernel⟩ rfl rfl ⟨Nat.le_of_ble_eq_true rfl, Nat.le_of_ble_eq_true rfl⟩ rfl rfl hl.1 (Nat.le_of_ble_eq_true rfl) dX4_readLine_30 ⟨Nat.le_of_ble_eq_true rfl, Nat.le_of_ble_eq_true rfl⟩ (fun S30_11 H locs h30_10 hw => ?_)
      have := t_2
      obtain ⟨I30_12, rfl, h30_10⟩ := h30_10
      have hw : PX G A s.heap (ch S I30_12 (pJ S) (qI S) (qJ S)) H locs := hw
      exact hret _ _ _ _ _ ⟨_, _, rfl, (Fr.tr (Fr.tr Fr.rf h2_2) h30_10)⟩ hw dX4_readLine_33
    · have D16_9 := iNe c16_9 rfl t_m1
      refine lv_aload_n hx hb dX4_readLine_19 rfl (lv_at hl 2 rfl) ?_
      refine k_Vi (n := 0) X hw (rcvk (ci := 3) X hw hS.1 (fun _ _ _ _ _ _ _ => ⟨_, rfl⟩) rfl) (c_X3_lines l G _ sa hS) wd_r14_3 wd_r14_4 wd_r14_5 wd_r2_9 wd_r14_6 ⟨by decide, by decide, by decide +kernel⟩ rfl rfl ⟨Nat.le_of_ble_eq_true rfl, Nat.le_of_ble_eq_true rfl⟩ rfl rfl hl.1 (Nat.le_of_ble_eq_true rfl) dX4_readLine_20 ⟨Nat.le_of_ble_eq_true rfl, Nat.le_of_ble_eq_true rfl⟩ (fun r20_13 S20_15 H locs h20_14 hw => ?_)
      obtain ⟨rfl, h20_14⟩ := h20_14
      refine lv_bipush (v := 60) hx hb dX4_readLine_23 (by decide) ?_
      refine lv_icmp_lt (tgt := 34) hx hb dX4_readLine_25 (by decide) (fun c25_16 => ?_) (fun c25_16 => ?_)
      · have D25_16 := iLt c25_16 rfl t_60
        refine lv_iconst (v := 0) hx hb dX4_readLine_34 (by decide) ?_
        refine lv_istore_n (lv' := [(3, .int 0), (2, .int r10_6), (0, .ref rd), (1, .ref (sa 0))]) hx hb dX4_readLine_35 rfl hl (by decide) rfl (fun ls hl => ?_)
        have lp36 : ∀ (N9 : Nat) (I36 : Nat → Nat → Int32) (q36 : Nat → Nat → Int32) (i : Int32), (Fr (pI S) I36) → (0 ≤ i.toInt ∧ i.toInt ≤ 4) → (4 - i.toInt).toNat < N9 → ∀ (H : Heap) (locs : List Loc) (ls : Array Slot), PX G A s.heap (ch S I36 (pJ S) q36 (qJ S)) H locs → lv_has ls 4 [(3, .int i), (2, .int r10_6), (0, .ref rd), (1, .ref (sa 0))] → W p l e (Rm 6 0 0) s m args below meth c H locs 0 0 Q (F0 m 36 ls []) := by
          intro N9
          induction N9 with
          | zero => intro I36 q36 i hF hi hm; exact absurd hm (Nat.not_lt_zero _)
          | succ N9 ih36 =>
            intro I36 q36 i hF hi hm H locs ls hw hl
            refine lv_iload_n hx hb dX4_readLine_36 rfl (lv_at hl 0 rfl) ?_
            refine va_gets hx hb X.2.2.2.2.1.2.2.2.2.1.1 hw.2.2 X.1.2.2.2.1 (X.1.2.2.2.2 _ wd_r11_5) (fun _ h => h) dX4_readLine_37 ?_
            refine lv_iload_n hx hb dX4_readLine_40 rfl (lv_at hl 1 rfl) ?_
            refine va_ti hx hb X.2.2.2.2.1.2.2.2.2.1.2 hw.2.2 (vp_in_iff.mpr ⟨by omega, by omega⟩) (v := .int (skNUMBERS.getD r10_6.toNatClampNeg 0)) rfl dX4_readLine_41 ?_
            refine lv_topi (fun v41_17 e41_17 => ?_)
            have b41_17 := numb4 e41_17
            refine lv_icmp_ge (tgt := 65) hx hb dX4_readLine_42 (by decide) (fun c42_18 => ?_) (fun c42_18 => ?_)
            · have D42_18 := iLe c42_18 rfl rfl
              refine lv_aload_n hx hb dX4_readLine_65 rfl (lv_at hl 2 rfl) ?_
              refine gf_X4_28 (v := I36 22 rd) X hw hR.1 rfl dX4_readLine_66 ?_
              refine lv_if_ne (tgt := 79) hx hb dX4_readLine_69 (by decide) (fun c69_19 => ?_) (fun c69_19 => ?_)
              · have D69_19 := iNe c69_19 rfl t_0
                refine lv_aload_n hx hb dX4_readLine_79 rfl (lv_at hl 2 rfl) ?_
                refine gf_X4_28 (v := I36 22 rd) X hw hR.1 rfl dX4_readLine_80 ?_
                refine lv_if_ne (tgt := 100) hx hb dX4_readLine_83 (by decide) (fun c83_20 => ?_) (fun c83_20 => ?_)
                · have D83_20 := iNe c83_20 rfl t_0
                  exact hret _ _ _ _ _ ⟨_, _, rfl, hF⟩ hw dX4_readLine_100
                · have D83_20 := iEq c83_20 rfl t_0
                  refine lv_aload_n hx hb dX4_readLine_86 rfl (lv_at hl 2 rfl) ?_
                  refine lv_iconst (v := 4) hx hb dX4_readLine_87 (by decide) ?_
                  refine k_Vi (n := 1) X hw (rcvk (ci := 4) X hw hR.1 (fun _ _ _ _ _ _ _ => ⟨_, rfl⟩) rfl) (c_X4_isThere l G _ rd nb tk tp tb 4 hR) wd_r11_6 wd_r11_7 wd_r11_8 wd_r1_18 wd_r11_9 ⟨by decide, by decide, by decide +kernel⟩ rfl rfl ⟨Nat.le_of_ble_eq_true rfl, Nat.le_of_ble_eq_true rfl⟩ rfl rfl hl.1 (Nat.le_of_ble_eq_true rfl) dX4_readLine_88 ⟨Nat.le_of_ble_eq_true rfl, Nat.le_of_ble_eq_true rfl⟩ (fun r88_21 S88_23 H locs h88_22 hw => ?_)
                  have := t_4
                  obtain ⟨I88_24, rfl, h88_22⟩ := h88_22
                  have hw : PX G A s.heap (ch S I88_24 (pJ S) q36 (qJ S)) H locs := hw
                  refine lv_if_eq (tgt := 100) hx hb dX4_readLine_91 (by decide) (fun c91_25 => ?_) (fun c91_25 => ?_)
                  · have D91_25 := iEq c91_25 rfl t_0
                    exact hret _ _ _ _ _ ⟨_, _, rfl, (Fr.tr hF h88_22)⟩ hw dX4_readLine_100
                  · have D91_25 := iNe c91_25 rfl t_0
                    refine lv_aload_n hx hb dX4_readLine_94 rfl (lv_at hl 2 rfl) ?_
                    refine lv_aload_n hx hb dX4_readLine_95 rfl (lv_at hl 3 rfl) ?_
                    refine lv_iload_n hx hb dX4_readLine_96 rfl (lv_at hl 1 rfl) ?_
                    refine k_Vv (n := 2) X hw (rcvk (ci := 4) X hw hR.1 (fun _ _ _ _ _ _ _ => ⟨_, rfl⟩) rfl) (c_X4_tell l G _ rd nb tk tp tb sa r10_6 hR hS) wd_r16_15 wd_r16_16 wd_r16_17 wd_r1_18 wd_r16_18 ⟨by decide, by decide, by decide +kernel⟩ rfl rfl ⟨Nat.le_of_ble_eq_true rfl, Nat.le_of_ble_eq_true rfl⟩ rfl rfl hl.1 (Nat.le_of_ble_eq_true rfl) dX4_readLine_97 ⟨Nat.le_of_ble_eq_true rfl, Nat.le_of_ble_eq_true rfl⟩ (fun S97_27 H locs h97_26 hw => ?_)
                    obtain ⟨I97_28, q97_29, rfl, h97_26⟩ := h97_26
                    have hw : PX G A s.heap (ch S I97_28 (pJ S) q97_29 (qJ S)) H locs := hw
                    exact hret _ _ _ _ _ ⟨_, _, rfl, (Fr.tr (Fr.tr hF h88_22) h97_26)⟩ hw dX4_readLine_100
              · have D69_19 := iEq c69_19 rfl t_0
                refine lv_aload_n hx hb dX4_readLine_72 rfl (lv_at hl 2 rfl) ?_
                refine gf_X4_24 (b := tk) X hw hR.1 hR.2.1 dX4_readLine_73 ?_
                refine k_Vv (n := 0) X hw (rcvk (ci := 9) X hw hR.2.2.2.2.2.1 (fun _ _ _ _ _ _ _ => ⟨_, rfl⟩) rfl) (c_X9_readNext l G _ tk tp tb hR.2.2.2.2.2 (Fr.sz hF hz)) wd_r9_4 wd_r9_5 wd_r9_6 wd_r3_2 wd_r9_7 ⟨by decide, by decide, by decide +kernel⟩ rfl rfl ⟨Nat.le_of_ble_eq_true rfl, Nat.le_of_ble_eq_true rfl⟩ rfl rfl hl.1 (Nat.le_of_ble_eq_true rfl) dX4_readLine_76 ⟨Nat.le_of_ble_eq_true rfl, Nat.le_of_ble_eq_true rfl⟩ (fun S76_31 H locs h76_30 hw => ?_)
                obtain ⟨I76_32, rfl, h76_30⟩ := h76_30
                have hw : PX G A s.heap (ch S I76_32 (pJ S) q36 (qJ S)) H locs := hw
                refine lv_aload_n hx hb dX4_readLine_79 rfl (lv_at hl 2 rfl) ?_
                refine gf_X4_28 (v := I76_32 22 rd) X hw hR.1 rfl dX4_readLine_80 ?_
                refine lv_if_ne (tgt := 100) hx hb dX4_readLine_83 (by decide) (fun c83_33 => ?_) (fun c83_33 => ?_)
                · have D83_33 := iNe c83_33 rfl t_0
                  exact hret _ _ _ _ _ ⟨_, _, rfl, (Fr.tr hF h76_30)⟩ hw dX4_readLine_100
                · have D83_33 := iEq c83_33 rfl t_0
                  refine lv_aload_n hx hb dX4_readLine_86 rfl (lv_at hl 2 rfl) ?_
                  refine lv_iconst (v := 4) hx hb dX4_readLine_87 (by decide) ?_
                  refine k_Vi (n := 1) X hw (rcvk (ci := 4) X hw hR.1 (fun _ _ _ _ _ _ _ => ⟨_, rfl⟩) rfl) (c_X4_isThere l G _ rd nb tk tp tb 4 hR) wd_r11_6 wd_r11_7 wd_r11_8 wd_r1_18 wd_r11_9 ⟨by decide, by decide, by decide +kernel⟩ rfl rfl ⟨Nat.le_of_ble_eq_true rfl, Nat.le_of_ble_eq_true rfl⟩ rfl rfl hl.1 (Nat.le_of_ble_eq_true rfl) dX4_readLine_88 ⟨Nat.le_of_ble_eq_true rfl, Nat.le_of_ble_eq_true rfl⟩ (fun r88_34 S88_36 H locs h88_35 hw => ?_)
                  have := t_4
                  obtain ⟨I88_37, rfl, h88_35⟩ := h88_35
                  have hw : PX G A s.heap (ch S I88_37 (pJ S) q36 (qJ S)) H locs := hw
                  refine lv_if_eq (tgt := 100) hx hb dX4_readLine_91 (by decide) (fun c91_38 => ?_) (fun c91_38 => ?_)
                  · have D91_38 := iEq c91_38 rfl t_0
                    exact hret _ _ _ _ _ ⟨_, _, rfl, (Fr.tr (Fr.tr hF h76_30) h88_35)⟩ hw dX4_readLine_100
                  · have D91_38 := iNe c91_38 rfl t_0
                    refine lv_aload_n hx hb dX4_readLine_94 rfl (lv_at hl 2 rfl) ?_
                    refine lv_aload_n hx hb dX4_readLine_95 rfl (lv_at hl 3 rfl) ?_
                    refine lv_iload_n hx hb dX4_readLine_96 rfl (lv_at hl 1 rfl) ?_
                    refine k_Vv (n := 2) X hw (rcvk (ci := 4) X hw hR.1 (fun _ _ _ _ _ _ _ => ⟨_, rfl⟩) rfl) (c_X4_tell l G _ rd nb tk tp tb sa r10_6 hR hS) wd_r16_15 wd_r16_16 wd_r16_17 wd_r1_18 wd_r16_18 ⟨by decide, by decide, by decide +kernel⟩ rfl rfl ⟨Nat.le_of_ble_eq_true rfl, Nat.le_of_ble_eq_true rfl⟩ rfl rfl hl.1 (Nat.le_of_ble_eq_true rfl) dX4_readLine_97 ⟨Nat.le_of_ble_eq_true rfl, Nat.le_of_ble_eq_true rfl⟩ (fun S97_40 H locs h97_39 hw => ?_)
                    obtain ⟨I97_41, q97_42, rfl, h97_39⟩ := h97_39
                    have hw : PX G A s.heap (ch S I97_41 (pJ S) q97_42 (qJ S)) H locs := hw
                    exact hret _ _ _ _ _ ⟨_, _, rfl, (Fr.tr (Fr.tr (Fr.tr hF h76_30) h88_35) h97_39)⟩ hw dX4_readLine_100
            · have D42_18 := iNle c42_18 rfl rfl
              refine lv_aload_n hx hb dX4_readLine_45 rfl (lv_at hl 2 rfl) ?_
              refine gf_X4_28 (v := I36 22 rd) X hw hR.1 rfl dX4_readLine_46 ?_
              refine lv_if_ne (tgt := 65) hx hb dX4_readLine_49 (by decide) (fun c49_43 => ?_) (fun c49_43 => ?_)
              · have D49_43 := iNe c49_43 rfl t_0
                refine lv_aload_n hx hb dX4_readLine_65 rfl (lv_at hl 2 rfl) ?_
                refine gf_X4_28 (v := I36 22 rd) X hw hR.1 rfl dX4_readLine_66 ?_
                refine lv_if_ne (tgt := 79) hx hb dX4_readLine_69 (by decide) (fun c69_44 => ?_) (fun c69_44 => ?_)
                · have D69_44 := iNe c69_44 rfl t_0
                  refine lv_aload_n hx hb dX4_readLine_79 rfl (lv_at hl 2 rfl) ?_
                  refine gf_X4_28 (v := I36 22 rd) X hw hR.1 rfl dX4_readLine_80 ?_
                  refine lv_if_ne (tgt := 100) hx hb dX4_readLine_83 (by decide) (fun c83_45 => ?_) (fun c83_45 => ?_)
                  · have D83_45 := iNe c83_45 rfl t_0
                    exact hret _ _ _ _ _ ⟨_, _, rfl, hF⟩ hw dX4_readLine_100
                  · have D83_45 := iEq c83_45 rfl t_0
                    refine lv_aload_n hx hb dX4_readLine_86 rfl (lv_at hl 2 rfl) ?_
                    refine lv_iconst (v := 4) hx hb dX4_readLine_87 (by decide) ?_
                    refine k_Vi (n := 1) X hw (rcvk (ci := 4) X hw hR.1 (fun _ _ _ _ _ _ _ => ⟨_, rfl⟩) rfl) (c_X4_isThere l G _ rd nb tk tp tb 4 hR) wd_r11_6 wd_r11_7 wd_r11_8 wd_r1_18 wd_r11_9 ⟨by decide, by decide, by decide +kernel⟩ rfl rfl ⟨Nat.le_of_ble_eq_true rfl, Nat.le_of_ble_eq_true rfl⟩ rfl rfl hl.1 (Nat.le_of_ble_eq_true rfl) dX4_readLine_88 ⟨Nat.le_of_ble_eq_true rfl, Nat.le_of_ble_eq_true rfl⟩ (fun r88_46 S88_48 H locs h88_47 hw => ?_)
                    have := t_4
                    obtain ⟨I88_49, rfl, h88_47⟩ := h88_47
                    have hw : PX G A s.heap (ch S I88_49 (pJ S) q36 (qJ S)) H locs := hw
                    refine lv_if_eq (tgt := 100) hx hb dX4_readLine_91 (by decide) (fun c91_50 => ?_) (fun c91_50 => ?_)
                    · have D91_50 := iEq c91_50 rfl t_0
                      exact hret _ _ _ _ _ ⟨_, _, rfl, (Fr.tr hF h88_47)⟩ hw dX4_readLine_100
                    · have D91_50 := iNe c91_50 rfl t_0
                      refine lv_aload_n hx hb dX4_readLine_94 rfl (lv_at hl 2 rfl) ?_
                      refine lv_aload_n hx hb dX4_readLine_95 rfl (lv_at hl 3 rfl) ?_
                      refine lv_iload_n hx hb dX4_readLine_96 rfl (lv_at hl 1 rfl) ?_
                      refine k_Vv (n := 2) X hw (rcvk (ci := 4) X hw hR.1 (fun _ _ _ _ _ _ _ => ⟨_, rfl⟩) rfl) (c_X4_tell l G _ rd nb tk tp tb sa r10_6 hR hS) wd_r16_15 wd_r16_16 wd_r16_17 wd_r1_18 wd_r16_18 ⟨by decide, by decide, by decide +kernel⟩ rfl rfl ⟨Nat.le_of_ble_eq_true rfl, Nat.le_of_ble_eq_true rfl⟩ rfl rfl hl.1 (Nat.le_of_ble_eq_true rfl) dX4_readLine_97 ⟨Nat.le_of_ble_eq_true rfl, Nat.le_of_ble_eq_true rfl⟩ (fun S97_52 H locs h97_51 hw => ?_)
                      obtain ⟨I97_53, q97_54, rfl, h97_51⟩ := h97_51
                      have hw : PX G A s.heap (ch S I97_53 (pJ S) q97_54 (qJ S)) H locs := hw
                      exact hret _ _ _ _ _ ⟨_, _, rfl, (Fr.tr (Fr.tr hF h88_47) h97_51)⟩ hw dX4_readLine_100
                · have D69_44 := iEq c69_44 rfl t_0
                  refine lv_aload_n hx hb dX4_readLine_72 rfl (lv_at hl 2 rfl) ?_
                  refine gf_X4_24 (b := tk) X hw hR.1 hR.2.1 dX4_readLine_73 ?_
                  refine k_Vv (n := 0) X hw (rcvk (ci := 9) X hw hR.2.2.2.2.2.1 (fun _ _ _ _ _ _ _ => ⟨_, rfl⟩) rfl) (c_X9_readNext l G _ tk tp tb hR.2.2.2.2.2 (Fr.sz hF hz)) wd_r9_4 wd_r9_5 wd_r9_6 wd_r3_2 wd_r9_7 ⟨by decide, by decide, by decide +kernel⟩ rfl rfl ⟨Nat.le_of_ble_eq_true rfl, Nat.le_of_ble_eq_true rfl⟩ rfl rfl hl.1 (Nat.le_of_ble_eq_true rfl) dX4_readLine_76 ⟨Nat.le_of_ble_eq_true rfl, Nat.le_of_ble_eq_true rfl⟩ (fun S76_56 H locs h76_55 hw => ?_)
                  obtain ⟨I76_57, rfl, h76_55⟩ := h76_55
                  have hw : PX G A s.heap (ch S I76_57 (pJ S) q36 (qJ S)) H locs := hw
                  refine lv_aload_n hx hb dX4_readLine_79 rfl (lv_at hl 2 rfl) ?_
                  refine gf_X4_28 (v := I76_57 22 rd) X hw hR.1 rfl dX4_readLine_80 ?_
                  refine lv_if_ne (tgt := 100) hx hb dX4_readLine_83 (by decide) (fun c83_58 => ?_) (fun c83_58 => ?_)
                  · have D83_58 := iNe c83_58 rfl t_0
                    exact hret _ _ _ _ _ ⟨_, _, rfl, (Fr.tr hF h76_55)⟩ hw dX4_readLine_100
                  · have D83_58 := iEq c83_58 rfl t_0
                    refine lv_aload_n hx hb dX4_readLine_86 rfl (lv_at hl 2 rfl) ?_
                    refine lv_iconst (v := 4) hx hb dX4_readLine_87 (by decide) ?_
                    refine k_Vi (n := 1) X hw (rcvk (ci := 4) X hw hR.1 (fun _ _ _ _ _ _ _ => ⟨_, rfl⟩) rfl) (c_X4_isThere l G _ rd nb tk tp tb 4 hR) wd_r11_6 wd_r11_7 wd_r11_8 wd_r1_18 wd_r11_9 ⟨by decide, by decide, by decide +kernel⟩ rfl rfl ⟨Nat.le_of_ble_eq_true rfl, Nat.le_of_ble_eq_true rfl⟩ rfl rfl hl.1 (Nat.le_of_ble_eq_true rfl) dX4_readLine_88 ⟨Nat.le_of_ble_eq_true rfl, Nat.le_of_ble_eq_true rfl⟩ (fun r88_59 S88_61 H locs h88_60 hw => ?_)
                    have := t_4
                    obtain ⟨I88_62, rfl, h88_60⟩ := h88_60
                    have hw : PX G A s.heap (ch S I88_62 (pJ S) q36 (qJ S)) H locs := hw
                    refine lv_if_eq (tgt := 100) hx hb dX4_readLine_91 (by decide) (fun c91_63 => ?_) (fun c91_63 => ?_)
                    · have D91_63 := iEq c91_63 rfl t_0
                      exact hret _ _ _ _ _ ⟨_, _, rfl, (Fr.tr (Fr.tr hF h76_55) h88_60)⟩ hw dX4_readLine_100
                    · have D91_63 := iNe c91_63 rfl t_0
                      refine lv_aload_n hx hb dX4_readLine_94 rfl (lv_at hl 2 rfl) ?_
                      refine lv_aload_n hx hb dX4_readLine_95 rfl (lv_at hl 3 rfl) ?_
                      refine lv_iload_n hx hb dX4_readLine_96 rfl (lv_at hl 1 rfl) ?_
                      refine k_Vv (n := 2) X hw (rcvk (ci := 4) X hw hR.1 (fun _ _ _ _ _ _ _ => ⟨_, rfl⟩) rfl) (c_X4_tell l G _ rd nb tk tp tb sa r10_6 hR hS) wd_r16_15 wd_r16_16 wd_r16_17 wd_r1_18 wd_r16_18 ⟨by decide, by decide, by decide +kernel⟩ rfl rfl ⟨Nat.le_of_ble_eq_true rfl, Nat.le_of_ble_eq_true rfl⟩ rfl rfl hl.1 (Nat.le_of_ble_eq_true rfl) dX4_readLine_97 ⟨Nat.le_of_ble_eq_true rfl, Nat.le_of_ble_eq_true rfl⟩ (fun S97_65 H locs h97_64 hw => ?_)
                      obtain ⟨I97_66, q97_67, rfl, h97_64⟩ := h97_64
                      have hw : PX G A s.heap (ch S I97_66 (pJ S) q97_67 (qJ S)) H locs := hw
                      exact hret _ _ _ _ _ ⟨_, _, rfl, (Fr.tr (Fr.tr (Fr.tr hF h76_55) h88_60) h97_64)⟩ hw dX4_readLine_100
              · have D49_43 := iEq c49_43 rfl t_0
                refine lv_aload_n hx hb dX4_readLine_52 rfl (lv_at hl 2 rfl) ?_
                refine lv_aload_n hx hb dX4_readLine_53 rfl (lv_at hl 3 rfl) ?_
                refine lv_iload_n hx hb dX4_readLine_54 rfl (lv_at hl 1 rfl) ?_
                refine lv_iload_n hx hb dX4_readLine_55 rfl (lv_at hl 0 rfl) ?_
                refine k_Vv (n := 3) X hw (rcvk (ci := 4) X hw hR.1 (fun _ _ _ _ _ _ _ => ⟨_, rfl⟩) rfl) (c_X4_readNumber l G _ rd nb tk tp tb sa r10_6 i hR hS (Fr.sz hF hz) (by omega)) wd_r14_7 wd_r14_8 wd_r14_9 wd_r1_18 wd_r14_10 ⟨by decide, by decide, by decide +kernel⟩ rfl rfl ⟨Nat.le_of_ble_eq_true rfl, Nat.le_of_ble_eq_true rfl⟩ rfl rfl hl.1 (Nat.le_of_ble_eq_true rfl) dX4_readLine_56 ⟨Nat.le_of_ble_eq_true rfl, Nat.le_of_ble_eq_true rfl⟩ (fun S56_69 H locs h56_68 hw => ?_)
                obtain ⟨I56_70, q56_71, rfl, h56_68⟩ := h56_68
                have hw : PX G A s.heap (ch S I56_70 (pJ S) q56_71 (qJ S)) H locs := hw
                obtain ⟨v59_72, e59_72⟩ : ∃ y : Int32, y = i + 1 := ⟨_, rfl⟩
                have t59_72 := iAdd e59_72 rfl t_1 (by omega) (by omega)
                have t59 := t59_72
                refine lv_iinc (v := v59_72) (lv' := [(3, .int v59_72), (2, .int r10_6), (0, .ref rd), (1, .ref (sa 0))]) hx hb dX4_readLine_59 hl (k := 0) rfl (by rw [e59_72]; rfl) (by decide) rfl (fun ls hl => ?_)
                refine lv_goto (tgt := 36) hx hb dX4_readLine_62 (by decide) ?_
                exact ih36 I56_70 q56_71 v59_72 (Fr.tr hF h56_68) (by omega) (by omega) _ _ _ hw (lv_sub hl [0, 1, 2, 3] rfl)
        exact lp36 _ I2_4 (qI S) 0 (Fr.tr Fr.rf h2_2) (by have := t_0; omega) (Nat.lt_succ_self _) _ _ _ hw (lv_sub hl [0, 1, 2, 3] rfl)
      · have D25_16 := iNlt c25_16 rfl t_60
        refine lv_aload_n hx hb dX4_readLine_28 rfl (lv_at hl 1 rfl) ?_
        refine lv_iconst (v := 2) hx hb dX4_readLine_29 (by decide) ?_
        refine k_Vv (n := 1) X hw (rcvk (ci := 4) X hw hR.1 (fun _ _ _ _ _ _ _ => ⟨_, rfl⟩) rfl) (c_X4_note l G _ rd nb tk tp tb 2 hR) wd_r11_10 wd_r11_11 wd_r11_12 wd_r1_18 wd_r11_13 ⟨by decide, by decide, by decide +kernel⟩ rfl rfl ⟨Nat.le_of_ble_eq_true rfl, Nat.le_of_ble_eq_true rfl⟩ rfl rfl hl.1 (Nat.le_of_ble_eq_true rfl) dX4_readLine_30 ⟨Nat.le_of_ble_eq_true rfl, Nat.le_of_ble_eq_true rfl⟩ (fun S30_74 H locs h30_73 hw => ?_)
        have := t_2
        obtain ⟨I30_75, rfl, h30_73⟩ := h30_73
        have hw : PX G A s.heap (ch S I30_75 (pJ S) (qI S) (qJ S)) H locs := hw
        exact hret _ _ _ _ _ ⟨_, _, rfl, (Fr.tr (Fr.tr Fr.rf h2_2) h30_73)⟩ hw dX4_readLine_33
  · have D5_5 := iEq c5_5 rfl t_0
    exact hret _ _ _ _ _ ⟨_, _, rfl, (Fr.tr Fr.rf h2_2)⟩ hw dX4_readLine_8
set_option maxHeartbeats 4000000 in
set_option maxRecDepth 100000 in
theorem c_X4_readInto (l : Launch) (G : Gh) (S : Pl) (rd nb tk tp tb : Nat) (sa : Nat → Nat) (hR : shRd S rd nb tk tp tb) (hS : shSea S sa) (hz : (pI S 61 tp).toInt ≤ 1000) : MtI l yX4_readInto cX4_readInto 3 (some .boolean) (Rm 7 0 0) G [.ref rd, .ref (sa 0)] S (fun (r : Int32) (S' : Pl) => ∃ I' q', ch S I' (pJ S) q' (qJ S) = S' ∧ Fr (pI S) I') 0 0 := by
  refine MtI.of (by decide) (Nat.le_of_ble_eq_true rfl) ?_
  intro p e s m args below meth c Q A X hw hin hret ls hl
  have hx := X.1.1
  have hb := X.1.2.1
  have hl : lv_has ls 3 [(0, .ref rd), (1, .ref (sa 0))] := hl
  refine lv_aload_n hx hb dX4_readInto_0 rfl (lv_at hl 0 rfl) ?_
  refine lv_iconst (v := 0) hx hb dX4_readInto_1 (by decide) ?_
  refine pf_X4_28 X hw hR.1 dX4_readInto_2 (fun H locs hw => ?_)
  have hw : PX G A s.heap (ch S (up2 (pI S) 22 rd 0) (pJ S) (qI S) (qJ S)) H locs := hw
  refine lv_aload_n hx hb dX4_readInto_5 rfl (lv_at hl 0 rfl) ?_
  refine lv_iconst (v := -1) hx hb dX4_readInto_6 (by decide) ?_
  refine pf_X4_15 X hw hR.1 dX4_readInto_7 (fun H locs hw => ?_)
  have hw : PX G A s.heap (ch S (up2 (up2 (pI S) 22 rd 0) 23 rd (-1)) (pJ S) (qI S) (qJ S)) H locs := hw
  refine lv_aload_n hx hb dX4_readInto_10 rfl (lv_at hl 1 rfl) ?_
  refine k_Vv (n := 0) X hw (rcvk (ci := 3) X hw hS.1 (fun _ _ _ _ _ _ _ => ⟨_, rfl⟩) rfl) (c_X3_clear l G _ sa hS) wd_r8_14 wd_r8_15 wd_r8_16 wd_r2_9 wd_r8_17 ⟨by decide, by decide, by decide +kernel⟩ rfl rfl ⟨Nat.le_of_ble_eq_true rfl, Nat.le_of_ble_eq_true rfl⟩ rfl rfl hl.1 (Nat.le_of_ble_eq_true rfl) dX4_readInto_11 ⟨Nat.le_of_ble_eq_true rfl, Nat.le_of_ble_eq_true rfl⟩ (fun S11_2 H locs h11_1 hw => ?_)
  obtain ⟨I11_3, q11_4, rfl, h11_1⟩ := h11_1
  have hw : PX G A s.heap (ch S I11_3 (pJ S) q11_4 (qJ S)) H locs := hw
  refine lv_aload_n hx hb dX4_readInto_14 rfl (lv_at hl 0 rfl) ?_
  refine gf_X4_24 (b := tk) X hw hR.1 hR.2.1 dX4_readInto_15 ?_
  refine k_Vv (n := 0) X hw (rcvk (ci := 9) X hw hR.2.2.2.2.2.1 (fun _ _ _ _ _ _ _ => ⟨_, rfl⟩) rfl) (c_X9_rewind l G _ tk tp tb hR.2.2.2.2.2) wd_r8_23 wd_r9_0 wd_r9_1 wd_r3_2 wd_r9_2 ⟨by decide, by decide, by decide +kernel⟩ rfl rfl ⟨Nat.le_of_ble_eq_true rfl, Nat.le_of_ble_eq_true rfl⟩ rfl rfl hl.1 (Nat.le_of_ble_eq_true rfl) dX4_readInto_18 ⟨Nat.le_of_ble_eq_true rfl, Nat.le_of_ble_eq_true rfl⟩ (fun S18_6 H locs h18_5 hw => ?_)
  obtain ⟨I18_7, rfl, h18_5⟩ := h18_5
  have hw : PX G A s.heap (ch S I18_7 (pJ S) q11_4 (qJ S)) H locs := hw
  refine lv_aload_n hx hb dX4_readInto_21 rfl (lv_at hl 0 rfl) ?_
  refine gf_X4_24 (b := tk) X hw hR.1 hR.2.1 dX4_readInto_22 ?_
  refine k_Vv (n := 0) X hw (rcvk (ci := 9) X hw hR.2.2.2.2.2.1 (fun _ _ _ _ _ _ _ => ⟨_, rfl⟩) rfl) (c_X9_readNext l G _ tk tp tb hR.2.2.2.2.2 (Fr.sz (Fr.tr (Fr.tr (Fr.up (f := 23) (by decide) (Fr.up (f := 22) (by decide) Fr.rf)) h11_1) h18_5) hz)) wd_r9_4 wd_r9_5 wd_r9_6 wd_r3_2 wd_r9_7 ⟨by decide, by decide, by decide +kernel⟩ rfl rfl ⟨Nat.le_of_ble_eq_true rfl, Nat.le_of_ble_eq_true rfl⟩ rfl rfl hl.1 (Nat.le_of_ble_eq_true rfl) dX4_readInto_25 ⟨Nat.le_of_ble_eq_true rfl, Nat.le_of_ble_eq_true rfl⟩ (fun S25_9 H locs h25_8 hw => ?_)
  obtain ⟨I25_10, rfl, h25_8⟩ := h25_8
  have hw : PX G A s.heap (ch S I25_10 (pJ S) q11_4 (qJ S)) H locs := hw
  refine lv_iconst (v := 0) hx hb dX4_readInto_28 (by decide) ?_
  refine lv_istore_n (lv' := [(2, .int 0), (0, .ref rd), (1, .ref (sa 0))]) hx hb dX4_readInto_29 rfl hl (by decide) rfl (fun ls hl => ?_)
  have lp30 : ∀ (N9 : Nat) (I30 : Nat → Nat → Int32) (q30 : Nat → Nat → Int32) (i : Int32), (Fr (pI S) I30) → (0 ≤ i.toInt ∧ i.toInt ≤ 61) → (61 - i.toInt).toNat < N9 → ∀ (H : Heap) (locs : List Loc) (ls : Array Slot), PX G A s.heap (ch S I30 (pJ S) q30 (qJ S)) H locs → lv_has ls 3 [(2, .int i), (0, .ref rd), (1, .ref (sa 0))] → W p l e (Rm 7 0 0) s m args below meth c H locs 0 0 Q (F0 m 30 ls []) := by
    intro N9
    induction N9 with
    | zero => intro I30 q30 i hF hi hm; exact absurd hm (Nat.not_lt_zero _)
    | succ N9 ih30 =>
      intro I30 q30 i hF hi hm H locs ls hw hl
      refine lv_iload_n hx hb dX4_readInto_30 rfl (lv_at hl 0 rfl) ?_
      refine lv_bipush (v := 60) hx hb dX4_readInto_31 (by decide) ?_
      refine lv_icmp_gt (tgt := 78) hx hb dX4_readInto_33 (by decide) (fun c33_11 => ?_) (fun c33_11 => ?_)
      · have D33_11 := iLt c33_11 t_60 rfl
        refine lv_iconst (v := 0) hx hb dX4_readInto_78 (by decide) ?_
        exact hret 0 _ _ _ _ _ ⟨_, _, rfl, hF⟩ hw rfl dX4_readInto_79
      · have D33_11 := iNlt c33_11 t_60 rfl
        refine lv_aload_n hx hb dX4_readInto_36 rfl (lv_at hl 1 rfl) ?_
        refine gf_X4_28 (v := I30 22 rd) X hw hR.1 rfl dX4_readInto_37 ?_
        refine lv_if_ne (tgt := 78) hx hb dX4_readInto_40 (by decide) (fun c40_12 => ?_) (fun c40_12 => ?_)
        · have D40_12 := iNe c40_12 rfl t_0
          refine lv_iconst (v := 0) hx hb dX4_readInto_78 (by decide) ?_
          exact hret 0 _ _ _ _ _ ⟨_, _, rfl, hF⟩ hw rfl dX4_readInto_79
        · have D40_12 := iEq c40_12 rfl t_0
          refine lv_aload_n hx hb dX4_readInto_43 rfl (lv_at hl 1 rfl) ?_
          refine gf_X4_24 (b := tk) X hw hR.1 hR.2.1 dX4_readInto_44 ?_
          refine k_Vi (n := 0) X hw (rcvk (ci := 9) X hw hR.2.2.2.2.2.1 (fun _ _ _ _ _ _ _ => ⟨_, rfl⟩) rfl) (c_X9_kind l G _ tk tp tb hR.2.2.2.2.2) wd_r10_13 wd_r10_14 wd_r10_15 wd_r3_2 wd_r10_16 ⟨by decide, by decide, by decide +kernel⟩ rfl rfl ⟨Nat.le_of_ble_eq_true rfl, Nat.le_of_ble_eq_true rfl⟩ rfl rfl hl.1 (Nat.le_of_ble_eq_true rfl) dX4_readInto_47 ⟨Nat.le_of_ble_eq_true rfl, Nat.le_of_ble_eq_true rfl⟩ (fun r47_13 S47_15 H locs h47_14 hw => ?_)
          obtain ⟨rfl, h47_14⟩ := h47_14
          refine lv_iconst (v := 1) hx hb dX4_readInto_50 (by decide) ?_
          refine lv_icmp_ne (tgt := 60) hx hb dX4_readInto_51 (by decide) (fun c51_16 => ?_) (fun c51_16 => ?_)
          · have D51_16 := iNe c51_16 rfl t_1
            refine lv_aload_n hx hb dX4_readInto_60 rfl (lv_at hl 1 rfl) ?_
            refine lv_aload_n hx hb dX4_readInto_61 rfl (lv_at hl 2 rfl) ?_
            refine k_Vv (n := 1) X hw (rcvk (ci := 4) X hw hR.1 (fun _ _ _ _ _ _ _ => ⟨_, rfl⟩) rfl) (c_X4_readLine l G _ rd nb tk tp tb sa hR hS (Fr.sz hF hz)) wd_r11_1 wd_r11_2 wd_r11_3 wd_r1_18 wd_r11_4 ⟨by decide, by decide, by decide +kernel⟩ rfl rfl ⟨Nat.le_of_ble_eq_true rfl, Nat.le_of_ble_eq_true rfl⟩ rfl rfl hl.1 (Nat.le_of_ble_eq_true rfl) dX4_readInto_62 ⟨Nat.le_of_ble_eq_true rfl, Nat.le_of_ble_eq_true rfl⟩ (fun S62_18 H locs h62_17 hw => ?_)
            obtain ⟨I62_19, q62_20, rfl, h62_17⟩ := h62_17
            have hw : PX G A s.heap (ch S I62_19 (pJ S) q62_20 (qJ S)) H locs := hw
            refine lv_aload_n hx hb dX4_readInto_65 rfl (lv_at hl 1 rfl) ?_
            refine gf_X4_24 (b := tk) X hw hR.1 hR.2.1 dX4_readInto_66 ?_
            refine k_Vv (n := 0) X hw (rcvk (ci := 9) X hw hR.2.2.2.2.2.1 (fun _ _ _ _ _ _ _ => ⟨_, rfl⟩) rfl) (c_X9_readNext l G _ tk tp tb hR.2.2.2.2.2 (Fr.sz (Fr.tr hF h62_17) hz)) wd_r9_4 wd_r9_5 wd_r9_6 wd_r3_2 wd_r9_7 ⟨by decide, by decide, by decide +kernel⟩ rfl rfl ⟨Nat.le_of_ble_eq_true rfl, Nat.le_of_ble_eq_true rfl⟩ rfl rfl hl.1 (Nat.le_of_ble_eq_true rfl) dX4_readInto_69 ⟨Nat.le_of_ble_eq_true rfl, Nat.le_of_ble_eq_true rfl⟩ (fun S69_22 H locs h69_21 hw => ?_)
            obtain ⟨I69_23, rfl, h69_21⟩ := h69_21
            have hw : PX G A s.heap (ch S I69_23 (pJ S) q62_20 (qJ S)) H locs := hw
            obtain ⟨v72_24, e72_24⟩ : ∃ y : Int32, y = i + 1 := ⟨_, rfl⟩
            have t72_24 := iAdd e72_24 rfl t_1 (by omega) (by omega)
            have t72 := t72_24
            refine lv_iinc (v := v72_24) (lv' := [(2, .int v72_24), (0, .ref rd), (1, .ref (sa 0))]) hx hb dX4_readInto_72 hl (k := 0) rfl (by rw [e72_24]; rfl) (by decide) rfl (fun ls hl => ?_)
            refine lv_goto (tgt := 30) hx hb dX4_readInto_75 (by decide) ?_
            exact ih30 I69_23 q62_20 v72_24 (Fr.tr (Fr.tr hF h62_17) h69_21) (by omega) (by omega) _ _ _ hw (lv_sub hl [0, 1, 2] rfl)
          · have D51_16 := iEq c51_16 rfl t_1
            refine lv_aload_n hx hb dX4_readInto_54 rfl (lv_at hl 2 rfl) ?_
            refine k_Vv (n := 0) X hw (rcvk (ci := 3) X hw hS.1 (fun _ _ _ _ _ _ _ => ⟨_, rfl⟩) rfl) (c_X3_settle l G _ sa hS) wd_r10_17 wd_r10_18 wd_r10_19 wd_r2_9 wd_r10_20 ⟨by decide, by decide, by decide +kernel⟩ rfl rfl ⟨Nat.le_of_ble_eq_true rfl, Nat.le_of_ble_eq_true rfl⟩ rfl rfl hl.1 (Nat.le_of_ble_eq_true rfl) dX4_readInto_55 ⟨Nat.le_of_ble_eq_true rfl, Nat.le_of_ble_eq_true rfl⟩ (fun S55_26 H locs h55_25 hw => ?_)
            obtain ⟨q55_27, rfl, h55_25⟩ := h55_25
            have hw : PX G A s.heap (ch S I30 (pJ S) q55_27 (qJ S)) H locs := hw
            refine lv_iconst (v := 1) hx hb dX4_readInto_58 (by decide) ?_
            exact hret 1 _ _ _ _ _ ⟨_, _, rfl, hF⟩ hw rfl dX4_readInto_59
  exact lp30 _ I25_10 q11_4 0 (Fr.tr (Fr.tr (Fr.tr (Fr.up (f := 23) (by decide) (Fr.up (f := 22) (by decide) Fr.rf)) h11_1) h18_5) h25_8) (by have := t_0; omega) (Nat.lt_succ_self _) _ _ _ hw (lv_sub hl [0, 1, 2] rfl)
