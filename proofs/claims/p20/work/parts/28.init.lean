set_option maxHeartbeats 4000000 in
set_option maxRecDepth 100000 in
theorem c_X2_init (l : Launch) (G : Gh) (S : Pl) (pr : Nat)  : MtV l yX2_init cX2_init 1 none (Rm 1 0 0) G [.ref pr] S (fun (S' : Pl) => S = S' ∧ True) 0 0 := by
  refine MtV.of (by decide) (Nat.le_of_ble_eq_true rfl) ?_
  intro p e s m args below meth c Q A X hw hin hret ls hl
  have hx := X.1.1
  have hb := X.1.2.1
  have hl : lv_has ls 1 [(0, .ref pr)] := hl
  refine lv_aload_n hx hb dX2_init_0 rfl (lv_at hl 0 rfl) ?_
  refine W.objInit hx hb X.1.2.2.2.1 (X.1.2.2.2.2 _ wd_r33_7) (X.1.2.2.2.2 _ wd_r1_10) (X.1.2.2.2.2 _ wd_r1_11) rfl (by rw [X.1.2.2.1]; exact hl.1) rfl dX2_init_1 (Nat.le_of_ble_eq_true rfl) (Nat.le_of_ble_eq_true rfl) ?_
  refine W.eq (g2 := F0 m 4 ls []) rfl ?_
  exact hret _ _ _ _ _ ⟨rfl, trivial⟩ hw dX2_init_4
set_option maxHeartbeats 4000000 in
set_option maxRecDepth 100000 in
theorem c_X8_init (l : Launch) (G : Gh) (S : Pl) (tp : Nat)  (k0 : is S 7 tp) (v0 : pI S 61 tp = 0) : MtV l yX8_init cX8_init 1 none (Rm 1 1 1000) G [.ref tp] S (fun (S' : Pl) => ∃ tb, ExX tp S S' ∧ pR S' 60 tp = some tb ∧ is S' 12 tb ∧ pN S' tb = 1000 ∧ pI S' 61 tp = 0) 1 1000 := by
  refine MtV.of (by decide) (Nat.le_of_ble_eq_true rfl) ?_
  intro p e s m args below meth c Q A X hw hin hret ls hl
  have hx := X.1.1
  have hb := X.1.2.1
  have hl : lv_has ls 1 [(0, .ref tp)] := hl
  have xx := ExX.rf (S := S) (b := tp)
  refine lv_aload_n hx hb dX8_init_0 rfl (lv_at hl 0 rfl) ?_
  refine W.objInit hx hb X.1.2.2.2.1 (X.1.2.2.2.2 _ wd_r2_14) (X.1.2.2.2.2 _ wd_r1_10) (X.1.2.2.2.2 _ wd_r1_11) rfl (by rw [X.1.2.2.1]; exact hl.1) rfl dX8_init_1 (Nat.le_of_ble_eq_true rfl) (Nat.le_of_ble_eq_true rfl) ?_
  refine W.eq (g2 := F0 m 4 ls []) rfl ?_
  refine lv_aload_n hx hb dX8_init_4 rfl (lv_at hl 0 rfl) ?_
  refine lv_sipush (v := 1000) hx hb dX8_init_5 (by decide) ?_
  refine q_nwB (N' := 1000) X hw wd_r2_15 (by decide) (by decide) (by decide) (Nat.le_of_ble_eq_true rfl) (Nat.le_of_ble_eq_true rfl) dX8_init_8 (fun a8_1 H f8_2 hw => ?_)
  obtain ⟨T8_3, eT8_3, hw⟩ : ∃ zz9 : Pl, zz9 = nA S a8_1 12 1000 ∧ PX G A s.heap zz9 H [] := ⟨_, rfl, hw⟩
  have e4ne := (ne_of k0.1 f8_2)
  have e5ns := fresh_of xx f8_2
  have xx := ExX.mA eT8_3 f8_2 xx
  have v0 := ivA eT8_3 v0
  have k0 := isA eT8_3 f8_2 k0
  have kL6 := isA_n eT8_3
  have nL7 := lnA_n eT8_3
  refine pf_X8_9 X hw k0 hin dX8_init_10 (fun H locs hw => ?_)
  obtain ⟨T10_8, eT10_8, hw⟩ : ∃ zz9 : Pl, zz9 = sR T8_3 60 tp (some a8_1) ∧ PX G A s.heap zz9 H locs := ⟨_, rfl, hw⟩
  have xx := ExX.mR eT10_8 xx
  have v0 := ivR eT10_8 v0
  have nL7 := lnR eT10_8 nL7
  have k0 := isR eT10_8 k0
  have kL6 := isR eT10_8 kL6
  have rL9 := rfR_n eT10_8
  exact hret T10_8 _ _ _ _ ⟨a8_1, xx, rL9, kL6, nL7, v0⟩ hw dX8_init_13
set_option maxHeartbeats 4000000 in
set_option maxRecDepth 100000 in
theorem c_X9_init (l : Launch) (G : Gh) (S : Pl) (tk : Nat) (tp : Nat) (k0 : is S 8 tk) : MtV l yX9_init cX9_init 2 none (Rm 1 0 0) G [.ref tk, .ref tp] S (fun (S' : Pl) => ExX tk S S' ∧ pR S' 65 tk = some tp) 0 0 := by
  refine MtV.of (by decide) (Nat.le_of_ble_eq_true rfl) ?_
  intro p e s m args below meth c Q A X hw hin hret ls hl
  have hx := X.1.1
  have hb := X.1.2.1
  have hl : lv_has ls 2 [(0, .ref tk), (1, .ref tp)] := hl
  have xx := ExX.rf (S := S) (b := tk)
  refine lv_aload_n hx hb dX9_init_0 rfl (lv_at hl 0 rfl) ?_
  refine W.objInit hx hb X.1.2.2.2.1 (X.1.2.2.2.2 _ wd_r3_7) (X.1.2.2.2.2 _ wd_r1_10) (X.1.2.2.2.2 _ wd_r1_11) rfl (by rw [X.1.2.2.1]; exact hl.1) rfl dX9_init_1 (Nat.le_of_ble_eq_true rfl) (Nat.le_of_ble_eq_true rfl) ?_
  refine W.eq (g2 := F0 m 4 ls []) rfl ?_
  refine lv_aload_n hx hb dX9_init_4 rfl (lv_at hl 0 rfl) ?_
  refine lv_aload_n hx hb dX9_init_5 rfl (lv_at hl 1 rfl) ?_
  refine pf_X9_7 X hw k0 hin dX9_init_6 (fun H locs hw => ?_)
  obtain ⟨T6_1, eT6_1, hw⟩ : ∃ zz9 : Pl, zz9 = sR S 65 tk (some tp) ∧ PX G A s.heap zz9 H locs := ⟨_, rfl, hw⟩
  have xx := ExX.mR eT6_1 xx
  have k0 := isR eT6_1 k0
  have rL2 := rfR_n eT6_1
  exact hret T6_1 _ _ _ _ ⟨xx, rL2⟩ hw dX9_init_9
set_option maxHeartbeats 4000000 in
set_option maxRecDepth 100000 in
theorem c_X4_init (l : Launch) (G : Gh) (S : Pl) (rd : Nat) (tp : Nat) (k0 : is S 3 rd) : MtV l yX4_init cX4_init 2 none (Rm 2 2 9) G [.ref rd, .ref tp] S (fun (S' : Pl) => ∃ nb tk, ExX rd S S' ∧ pR S' 20 rd = some tk ∧ pR S' 21 rd = some nb ∧ is S' 13 nb ∧ pN S' nb = 4 ∧ is S' 8 tk ∧ pR S' 65 tk = some tp) 2 9 := by
  refine MtV.of (by decide) (Nat.le_of_ble_eq_true rfl) ?_
  intro p e s m args below meth c Q A X hw hin hret ls hl
  have hx := X.1.1
  have hb := X.1.2.1
  have hl : lv_has ls 2 [(0, .ref rd), (1, .ref tp)] := hl
  have xx := ExX.rf (S := S) (b := rd)
  refine lv_aload_n hx hb dX4_init_0 rfl (lv_at hl 0 rfl) ?_
  refine W.objInit hx hb X.1.2.2.2.1 (X.1.2.2.2.2 _ wd_r2_20) (X.1.2.2.2.2 _ wd_r1_10) (X.1.2.2.2.2 _ wd_r1_11) rfl (by rw [X.1.2.2.1]; exact hl.1) rfl dX4_init_1 (Nat.le_of_ble_eq_true rfl) (Nat.le_of_ble_eq_true rfl) ?_
  refine W.eq (g2 := F0 m 4 ls []) rfl ?_
  refine lv_aload_n hx hb dX4_init_4 rfl (lv_at hl 0 rfl) ?_
  refine lv_iconst (v := 4) hx hb dX4_init_5 (by decide) ?_
  refine q_nwI (N' := 4) X hw wd_r2_21 (by decide) (by decide) (by decide) (Nat.le_of_ble_eq_true rfl) (Nat.le_of_ble_eq_true rfl) dX4_init_6 (fun a6_1 H f6_2 hw => ?_)
  obtain ⟨T6_3, eT6_3, hw⟩ : ∃ zz9 : Pl, zz9 = nA S a6_1 13 4 ∧ PX G A s.heap zz9 H [] := ⟨_, rfl, hw⟩
  have e4ne := (ne_of k0.1 f6_2)
  have e5ns := fresh_of xx f6_2
  have xx := ExX.mA eT6_3 f6_2 xx
  have k0 := isA eT6_3 f6_2 k0
  have kL6 := isA_n eT6_3
  have nL7 := lnA_n eT6_3
  refine pf_X4_11 X hw k0 hin dX4_init_8 (fun H locs hw => ?_)
  obtain ⟨T8_8, eT8_8, hw⟩ : ∃ zz9 : Pl, zz9 = sR T6_3 21 rd (some a6_1) ∧ PX G A s.heap zz9 H locs := ⟨_, rfl, hw⟩
  have xx := ExX.mR eT8_8 xx
  have nL7 := lnR eT8_8 nL7
  have k0 := isR eT8_8 k0
  have kL6 := isR eT8_8 kL6
  have rL9 := rfR_n eT8_8
  refine lv_aload_n hx hb dX4_init_11 rfl (lv_at hl 0 rfl) ?_
  refine lv_iconst (v := -1) hx hb dX4_init_12 (by decide) ?_
  refine pf_X4_15 X hw k0 dX4_init_13 (fun H locs hw => ?_)
  obtain ⟨T13_10, eT13_10, hw⟩ : ∃ zz9 : Pl, zz9 = sI T8_8 23 rd (-1) ∧ PX G A s.heap zz9 H locs := ⟨_, rfl, hw⟩
  have xx := ExX.mI eT13_10 xx
  have nL7 := lnI eT13_10 nL7
  have rL9 := rfI eT13_10 rL9
  have k0 := isI eT13_10 k0
  have kL6 := isI eT13_10 kL6
  have vL11 := ivI_n eT13_10
  refine lv_aload_n hx hb dX4_init_16 rfl (lv_at hl 0 rfl) ?_
  refine q_new (k := 8) (ci := 9) (fs := [.null, .int 0, .int 0, .int 0, .int 0]) X hw rfl inlX9 tyX9_ok (by decide +kernel) wd_r3_0 wd_r3_1 wd_r3_2 (fun _ _ _ _ => rfl) (Nat.le_of_ble_eq_true rfl) (Nat.le_of_ble_eq_true rfl) dX4_init_17 (fun a17_12 H f17_13 hw => ?_)
  obtain ⟨T17_14, eT17_14, hw⟩ : ∃ zz9 : Pl, zz9 = nO T13_10 a17_12 8 ∧ PX G A s.heap zz9 H locs := ⟨_, rfl, hw⟩
  have e15ne := (ne_of k0.1 f17_13)
  have e16ne := (ne_of kL6.1 f17_13)
  have e17ns := fresh_of xx f17_13
  have xx := ExX.mO eT17_14 f17_13 xx
  have nL7 := lnO eT17_14 nL7
  have rL9 := rfO eT17_14 f17_13 k0.1 rL9
  have vL11 := ivO eT17_14 f17_13 k0.1 vL11
  have k0 := isO eT17_14 f17_13 k0
  have kL6 := isO eT17_14 f17_13 kL6
  have kL18 := isO_n eT17_14
  refine lv_dup hx hb dX4_init_20 rfl ?_
  refine lv_aload_n hx hb dX4_init_21 rfl (lv_at hl 1 rfl) ?_
  refine k_Iv (n := 1) (ret2 := none) X hw (c_X9_init l G _ a17_12 tp kL18) wd_r3_4 wd_r3_5 wd_r3_2 wd_r3_6 rfl ⟨by decide, by decide, by decide +kernel⟩ rfl rfl ⟨Nat.le_of_ble_eq_true rfl, Nat.le_of_ble_eq_true rfl⟩ rfl rfl hl.1 (Nat.le_of_ble_eq_true rfl) dX4_init_22 ⟨Nat.le_of_ble_eq_true rfl, Nat.le_of_ble_eq_true rfl⟩ (fun S22_20 H locs h22_19 hw => ?_)
  obtain ⟨xL, fL0⟩ := h22_19
  have xx := ExX.mX e17ns xx xL
  have nL7 := lnX xL kL6.1 nL7
  have rL9 := rfX xL k0.1 e15ne rL9
  have vL11 := ivX xL k0.1 e15ne vL11
  have k0 := isX xL k0
  have kL6 := isX xL kL6
  have kL18 := isX xL kL18
  have rL21 := fL0
  refine pf_X4_24 X hw k0 hin dX4_init_25 (fun H locs hw => ?_)
  obtain ⟨T25_22, eT25_22, hw⟩ : ∃ zz9 : Pl, zz9 = sR S22_20 20 rd (some a17_12) ∧ PX G A s.heap zz9 H locs := ⟨_, rfl, hw⟩
  have xx := ExX.mR eT25_22 xx
  have nL7 := lnR eT25_22 nL7
  have rL9 := rfR eT25_22 (by decide) rL9
  have vL11 := ivR eT25_22 vL11
  have rL21 := rfR eT25_22 (by decide) rL21
  have k0 := isR eT25_22 k0
  have kL6 := isR eT25_22 kL6
  have kL18 := isR eT25_22 kL18
  have rL23 := rfR_n eT25_22
  exact hret T25_22 _ _ _ _ ⟨a6_1, a17_12, xx, rL23, rL9, kL6, nL7, kL18, rL21⟩ hw dX4_init_28
set_option maxHeartbeats 4000000 in
set_option maxRecDepth 100000 in
theorem c_X1_init (l : Launch) (G : Gh) (S : Pl) (fa : Nat)  (k0 : is S 1 fa) : MtV l yX1_init cX1_init 1 none (Rm 1 3 216) G [.ref fa] S (fun (S' : Pl) => ∃ b1 b2 b3, ExX fa S S' ∧ pR S' 6 fa = some b1 ∧ pR S' 7 fa = some b2 ∧ pR S' 8 fa = some b3 ∧ is S' 12 b1 ∧ pN S' b1 = 72 ∧ is S' 12 b2 ∧ pN S' b2 = 72 ∧ is S' 16 b3 ∧ pN S' b3 = 72) 3 216 := by
  refine MtV.of (by decide) (Nat.le_of_ble_eq_true rfl) ?_
  intro p e s m args below meth c Q A X hw hin hret ls hl
  have hx := X.1.1
  have hb := X.1.2.1
  have hl : lv_has ls 1 [(0, .ref fa)] := hl
  have xx := ExX.rf (S := S) (b := fa)
  refine lv_aload_n hx hb dX1_init_0 rfl (lv_at hl 0 rfl) ?_
  refine W.objInit hx hb X.1.2.2.2.1 (X.1.2.2.2.2 _ wd_r4_23) (X.1.2.2.2.2 _ wd_r1_10) (X.1.2.2.2.2 _ wd_r1_11) rfl (by rw [X.1.2.2.1]; exact hl.1) rfl dX1_init_1 (Nat.le_of_ble_eq_true rfl) (Nat.le_of_ble_eq_true rfl) ?_
  refine W.eq (g2 := F0 m 4 ls []) rfl ?_
  refine lv_aload_n hx hb dX1_init_4 rfl (lv_at hl 0 rfl) ?_
  refine lv_bipush (v := 72) hx hb dX1_init_5 (by decide) ?_
  refine q_nwB (N' := 72) X hw wd_r2_15 (by decide) (by decide) (by decide) (Nat.le_of_ble_eq_true rfl) (Nat.le_of_ble_eq_true rfl) dX1_init_7 (fun a7_1 H f7_2 hw => ?_)
  obtain ⟨T7_3, eT7_3, hw⟩ : ∃ zz9 : Pl, zz9 = nA S a7_1 12 72 ∧ PX G A s.heap zz9 H [] := ⟨_, rfl, hw⟩
  have e4ne := (ne_of k0.1 f7_2)
  have e5ns := fresh_of xx f7_2
  have xx := ExX.mA eT7_3 f7_2 xx
  have k0 := isA eT7_3 f7_2 k0
  have kL6 := isA_n eT7_3
  have nL7 := lnA_n eT7_3
  refine pf_X1_9 X hw k0 hin dX1_init_9 (fun H locs hw => ?_)
  obtain ⟨T9_8, eT9_8, hw⟩ : ∃ zz9 : Pl, zz9 = sR T7_3 6 fa (some a7_1) ∧ PX G A s.heap zz9 H locs := ⟨_, rfl, hw⟩
  have xx := ExX.mR eT9_8 xx
  have nL7 := lnR eT9_8 nL7
  have k0 := isR eT9_8 k0
  have kL6 := isR eT9_8 kL6
  have rL9 := rfR_n eT9_8
  refine lv_aload_n hx hb dX1_init_12 rfl (lv_at hl 0 rfl) ?_
  refine lv_bipush (v := 72) hx hb dX1_init_13 (by decide) ?_
  refine q_nwB (N' := 72) X hw wd_r2_15 (by decide) (by decide) (by decide) (Nat.le_of_ble_eq_true rfl) (Nat.le_of_ble_eq_true rfl) dX1_init_15 (fun a15_10 H f15_11 hw => ?_)
  obtain ⟨T15_12, eT15_12, hw⟩ : ∃ zz9 : Pl, zz9 = nA T9_8 a15_10 12 72 ∧ PX G A s.heap zz9 H locs := ⟨_, rfl, hw⟩
  have e13ne := (ne_of k0.1 f15_11)
  have e14ne := (ne_of kL6.1 f15_11)
  have e15ns := fresh_of xx f15_11
  have xx := ExX.mA eT15_12 f15_11 xx
  have nL7 := lnA eT15_12 f15_11 kL6.1 nL7
  have rL9 := rfA eT15_12 rL9
  have k0 := isA eT15_12 f15_11 k0
  have kL6 := isA eT15_12 f15_11 kL6
  have kL16 := isA_n eT15_12
  have nL17 := lnA_n eT15_12
  refine pf_X1_15 X hw k0 hin dX1_init_17 (fun H locs hw => ?_)
  obtain ⟨T17_18, eT17_18, hw⟩ : ∃ zz9 : Pl, zz9 = sR T15_12 7 fa (some a15_10) ∧ PX G A s.heap zz9 H locs := ⟨_, rfl, hw⟩
  have xx := ExX.mR eT17_18 xx
  have nL7 := lnR eT17_18 nL7
  have rL9 := rfR eT17_18 (by decide) rL9
  have nL17 := lnR eT17_18 nL17
  have k0 := isR eT17_18 k0
  have kL6 := isR eT17_18 kL6
  have kL16 := isR eT17_18 kL16
  have rL19 := rfR_n eT17_18
  refine lv_aload_n hx hb dX1_init_20 rfl (lv_at hl 0 rfl) ?_
  refine lv_bipush (v := 72) hx hb dX1_init_21 (by decide) ?_
  refine q_nwZ (N' := 72) X hw wd_r4_18 (by decide) (by decide) (by decide) (Nat.le_of_ble_eq_true rfl) (Nat.le_of_ble_eq_true rfl) dX1_init_23 (fun a23_20 H f23_21 hw => ?_)
  obtain ⟨T23_22, eT23_22, hw⟩ : ∃ zz9 : Pl, zz9 = nA T17_18 a23_20 16 72 ∧ PX G A s.heap zz9 H locs := ⟨_, rfl, hw⟩
  have e23ne := (ne_of k0.1 f23_21)
  have e24ne := (ne_of kL6.1 f23_21)
  have e25ne := (ne_of kL16.1 f23_21)
  have e26ns := fresh_of xx f23_21
  have xx := ExX.mA eT23_22 f23_21 xx
  have nL7 := lnA eT23_22 f23_21 kL6.1 nL7
  have rL9 := rfA eT23_22 rL9
  have nL17 := lnA eT23_22 f23_21 kL16.1 nL17
  have rL19 := rfA eT23_22 rL19
  have k0 := isA eT23_22 f23_21 k0
  have kL6 := isA eT23_22 f23_21 kL6
  have kL16 := isA eT23_22 f23_21 kL16
  have kL27 := isA_n eT23_22
  have nL28 := lnA_n eT23_22
  refine pf_X1_18 X hw k0 hin dX1_init_25 (fun H locs hw => ?_)
  obtain ⟨T25_29, eT25_29, hw⟩ : ∃ zz9 : Pl, zz9 = sR T23_22 8 fa (some a23_20) ∧ PX G A s.heap zz9 H locs := ⟨_, rfl, hw⟩
  have xx := ExX.mR eT25_29 xx
  have nL7 := lnR eT25_29 nL7
  have rL9 := rfR eT25_29 (by decide) rL9
  have nL17 := lnR eT25_29 nL17
  have rL19 := rfR eT25_29 (by decide) rL19
  have nL28 := lnR eT25_29 nL28
  have k0 := isR eT25_29 k0
  have kL6 := isR eT25_29 kL6
  have kL16 := isR eT25_29 kL16
  have kL27 := isR eT25_29 kL27
  have rL30 := rfR_n eT25_29
  exact hret T25_29 _ _ _ _ ⟨a7_1, a15_10, a23_20, xx, rL9, rL19, rL30, kL6, nL7, kL16, nL17, kL27, nL28⟩ hw dX1_init_28
set_option maxHeartbeats 4000000 in
set_option maxRecDepth 100000 in
theorem c_X3_init (l : Launch) (G : Gh) (S : Pl) (s0 : Nat)  (k0 : is S 2 s0) : MtV l yX3_init cX3_init 2 none (Rm 2 24 1209) G [.ref s0] S (fun (S' : Pl) => ∃ sa : Nat → Nat, sa 0 = s0 ∧ ExX s0 S S' ∧ shSea S' sa) 24 1209 := by
  refine MtV.of (by decide) (Nat.le_of_ble_eq_true rfl) ?_
  intro p e s m args below meth c Q A X hw hin hret ls hl
  have hx := X.1.1
  have hb := X.1.2.1
  have hl : lv_has ls 2 [(0, .ref s0)] := hl
  have xx := ExX.rf (S := S) (b := s0)
  refine lv_aload_n hx hb dX3_init_0 rfl (lv_at hl 0 rfl) ?_
  refine W.objInit hx hb X.1.2.2.2.1 (X.1.2.2.2.2 _ wd_r4_11) (X.1.2.2.2.2 _ wd_r1_10) (X.1.2.2.2.2 _ wd_r1_11) rfl (by rw [X.1.2.2.1]; exact hl.1) rfl dX3_init_1 (Nat.le_of_ble_eq_true rfl) (Nat.le_of_ble_eq_true rfl) ?_
  refine W.eq (g2 := F0 m 4 ls []) rfl ?_
  refine lv_aload_n hx hb dX3_init_4 rfl (lv_at hl 0 rfl) ?_
  refine q_new (k := 1) (ci := 2) (fs := [.null, .null, .null]) X hw rfl inlX1 tyX1_ok (by decide +kernel) wd_r4_12 wd_r4_13 wd_r4_14 (fun _ _ _ _ => rfl) (Nat.le_of_ble_eq_true rfl) (Nat.le_of_ble_eq_true rfl) dX3_init_5 (fun a5_1 H f5_2 hw => ?_)
  obtain ⟨T5_3, eT5_3, hw⟩ : ∃ zz9 : Pl, zz9 = nO S a5_1 1 ∧ PX G A s.heap zz9 H [] := ⟨_, rfl, hw⟩
  have e4ne := (ne_of k0.1 f5_2)
  have e5ns := fresh_of xx f5_2
  have xx := ExX.mO eT5_3 f5_2 xx
  have k0 := isO eT5_3 f5_2 k0
  have kL6 := isO_n eT5_3
  refine lv_dup hx hb dX3_init_8 rfl ?_
  refine k_INv (n := 0) (ret2 := none) (host := RX10) X hw (c_X1_init l G _ a5_1  kL6) (List.mem_of_getElem? (i := 2) rfl) wd_r4_21 wd_r4_14 wd_r4_22 rfl ⟨by decide, by decide, by decide +kernel⟩ rfl rfl ⟨Nat.le_of_ble_eq_true rfl, Nat.le_of_ble_eq_true rfl⟩ rfl rfl hl.1 (Nat.le_of_ble_eq_true rfl) dX3_init_9 ⟨Nat.le_of_ble_eq_true rfl, Nat.le_of_ble_eq_true rfl⟩ (fun S9_8 H locs h9_7 hw => ?_)
  obtain ⟨b1_a5_1, b2_a5_1, b3_a5_1, xL, fL0, fL1, fL2, fL3, fL4, fL5, fL6, fL7, fL8⟩ := h9_7
  have xx := ExX.mX e5ns xx xL
  have k0 := isX xL k0
  have kL6 := isX xL kL6
  have rL9 := fL0
  have rL10 := fL1
  have rL11 := fL2
  have kL12 := fL3
  have nL13 := fL4
  have kL14 := fL5
  have nL15 := fL6
  have kL16 := fL7
  have nL17 := fL8
  refine pf_X3_12 X hw k0 hin dX3_init_12 (fun H locs hw => ?_)
  obtain ⟨T12_18, eT12_18, hw⟩ : ∃ zz9 : Pl, zz9 = sR S9_8 10 s0 (some a5_1) ∧ PX G A s.heap zz9 H locs := ⟨_, rfl, hw⟩
  have xx := ExX.mR eT12_18 xx
  have rL9 := rfR eT12_18 (by decide) rL9
  have rL10 := rfR eT12_18 (by decide) rL10
  have rL11 := rfR eT12_18 (by decide) rL11
  have nL13 := lnR eT12_18 nL13
  have nL15 := lnR eT12_18 nL15
  have nL17 := lnR eT12_18 nL17
  have k0 := isR eT12_18 k0
  have kL6 := isR eT12_18 kL6
  have kL12 := isR eT12_18 kL12
  have kL14 := isR eT12_18 kL14
  have kL16 := isR eT12_18 kL16
  have rL19 := rfR_n eT12_18
  refine lv_aload_n hx hb dX3_init_15 rfl (lv_at hl 0 rfl) ?_
  refine lv_iconst (v := 4) hx hb dX3_init_16 (by decide) ?_
  refine q_nwFlow (N' := 4) X hw wd_r4_12 (by decide) (by decide) (by decide) (Nat.le_of_ble_eq_true rfl) (Nat.le_of_ble_eq_true rfl) dX3_init_17 (fun a17_20 H f17_21 hw => ?_)
  obtain ⟨T17_22, eT17_22, hw⟩ : ∃ zz9 : Pl, zz9 = nA T12_18 a17_20 17 4 ∧ PX G A s.heap zz9 H locs := ⟨_, rfl, hw⟩
  have e23ne := (ne_of k0.1 f17_21)
  have e24ne := (ne_of kL6.1 f17_21)
  have e25ne := (ne_of kL12.1 f17_21)
  have e26ne := (ne_of kL14.1 f17_21)
  have e27ne := (ne_of kL16.1 f17_21)
  have e28ns := fresh_of xx f17_21
  have xx := ExX.mA eT17_22 f17_21 xx
  have rL9 := rfA eT17_22 rL9
  have rL10 := rfA eT17_22 rL10
  have rL11 := rfA eT17_22 rL11
  have nL13 := lnA eT17_22 f17_21 kL12.1 nL13
  have nL15 := lnA eT17_22 f17_21 kL14.1 nL15
  have nL17 := lnA eT17_22 f17_21 kL16.1 nL17
  have rL19 := rfA eT17_22 rL19
  have k0 := isA eT17_22 f17_21 k0
  have kL6 := isA eT17_22 f17_21 kL6
  have kL12 := isA eT17_22 f17_21 kL12
  have kL14 := isA eT17_22 f17_21 kL14
  have kL16 := isA eT17_22 f17_21 kL16
  have kL29 := isA_n eT17_22
  have nL30 := lnA_n eT17_22
  refine pf_X3_18 X hw k0 hin dX3_init_20 (fun H locs hw => ?_)
  obtain ⟨T20_31, eT20_31, hw⟩ : ∃ zz9 : Pl, zz9 = sR T17_22 11 s0 (some a17_20) ∧ PX G A s.heap zz9 H locs := ⟨_, rfl, hw⟩
  have xx := ExX.mR eT20_31 xx
  have rL9 := rfR eT20_31 (by decide) rL9
  have rL10 := rfR eT20_31 (by decide) rL10
  have rL11 := rfR eT20_31 (by decide) rL11
  have nL13 := lnR eT20_31 nL13
  have nL15 := lnR eT20_31 nL15
  have nL17 := lnR eT20_31 nL17
  have rL19 := rfR eT20_31 (by decide) rL19
  have nL30 := lnR eT20_31 nL30
  have k0 := isR eT20_31 k0
  have kL6 := isR eT20_31 kL6
  have kL12 := isR eT20_31 kL12
  have kL14 := isR eT20_31 kL14
  have kL16 := isR eT20_31 kL16
  have kL29 := isR eT20_31 kL29
  have rL32 := rfR_n eT20_31
  refine lv_aload_n hx hb dX3_init_23 rfl (lv_at hl 0 rfl) ?_
  refine lv_iconst (v := 4) hx hb dX3_init_24 (by decide) ?_
  refine q_nwI (N' := 4) X hw wd_r2_21 (by decide) (by decide) (by decide) (Nat.le_of_ble_eq_true rfl) (Nat.le_of_ble_eq_true rfl) dX3_init_25 (fun a25_33 H f25_34 hw => ?_)
  obtain ⟨T25_35, eT25_35, hw⟩ : ∃ zz9 : Pl, zz9 = nA T20_31 a25_33 13 4 ∧ PX G A s.heap zz9 H locs := ⟨_, rfl, hw⟩
  have e36ne := (ne_of k0.1 f25_34)
  have e37ne := (ne_of kL6.1 f25_34)
  have e38ne := (ne_of kL12.1 f25_34)
  have e39ne := (ne_of kL14.1 f25_34)
  have e40ne := (ne_of kL16.1 f25_34)
  have e41ne := (ne_of kL29.1 f25_34)
  have e42ns := fresh_of xx f25_34
  have xx := ExX.mA eT25_35 f25_34 xx
  have rL9 := rfA eT25_35 rL9
  have rL10 := rfA eT25_35 rL10
  have rL11 := rfA eT25_35 rL11
  have nL13 := lnA eT25_35 f25_34 kL12.1 nL13
  have nL15 := lnA eT25_35 f25_34 kL14.1 nL15
  have nL17 := lnA eT25_35 f25_34 kL16.1 nL17
  have rL19 := rfA eT25_35 rL19
  have nL30 := lnA eT25_35 f25_34 kL29.1 nL30
  have rL32 := rfA eT25_35 rL32
  have k0 := isA eT25_35 f25_34 k0
  have kL6 := isA eT25_35 f25_34 kL6
  have kL12 := isA eT25_35 f25_34 kL12
  have kL14 := isA eT25_35 f25_34 kL14
  have kL16 := isA eT25_35 f25_34 kL16
  have kL29 := isA eT25_35 f25_34 kL29
  have kL43 := isA_n eT25_35
  have nL44 := lnA_n eT25_35
  refine pf_X3_22 X hw k0 hin dX3_init_27 (fun H locs hw => ?_)
  obtain ⟨T27_45, eT27_45, hw⟩ : ∃ zz9 : Pl, zz9 = sR T25_35 12 s0 (some a25_33) ∧ PX G A s.heap zz9 H locs := ⟨_, rfl, hw⟩
  have xx := ExX.mR eT27_45 xx
  have rL9 := rfR eT27_45 (by decide) rL9
  have rL10 := rfR eT27_45 (by decide) rL10
  have rL11 := rfR eT27_45 (by decide) rL11
  have nL13 := lnR eT27_45 nL13
  have nL15 := lnR eT27_45 nL15
  have nL17 := lnR eT27_45 nL17
  have rL19 := rfR eT27_45 (by decide) rL19
  have nL30 := lnR eT27_45 nL30
  have rL32 := rfR eT27_45 (by decide) rL32
  have nL44 := lnR eT27_45 nL44
  have k0 := isR eT27_45 k0
  have kL6 := isR eT27_45 kL6
  have kL12 := isR eT27_45 kL12
  have kL14 := isR eT27_45 kL14
  have kL16 := isR eT27_45 kL16
  have kL29 := isR eT27_45 kL29
  have kL43 := isR eT27_45 kL43
  have rL46 := rfR_n eT27_45
  refine lv_aload_n hx hb dX3_init_30 rfl (lv_at hl 0 rfl) ?_
  refine lv_bipush (v := 64) hx hb dX3_init_31 (by decide) ?_
  refine q_nwZ (N' := 64) X hw wd_r4_18 (by decide) (by decide) (by decide) (Nat.le_of_ble_eq_true rfl) (Nat.le_of_ble_eq_true rfl) dX3_init_33 (fun a33_47 H f33_48 hw => ?_)
  obtain ⟨T33_49, eT33_49, hw⟩ : ∃ zz9 : Pl, zz9 = nA T27_45 a33_47 16 64 ∧ PX G A s.heap zz9 H locs := ⟨_, rfl, hw⟩
  have e50ne := (ne_of k0.1 f33_48)
  have e51ne := (ne_of kL6.1 f33_48)
  have e52ne := (ne_of kL12.1 f33_48)
  have e53ne := (ne_of kL14.1 f33_48)
  have e54ne := (ne_of kL16.1 f33_48)
  have e55ne := (ne_of kL29.1 f33_48)
  have e56ne := (ne_of kL43.1 f33_48)
  have e57ns := fresh_of xx f33_48
  have xx := ExX.mA eT33_49 f33_48 xx
  have rL9 := rfA eT33_49 rL9
  have rL10 := rfA eT33_49 rL10
  have rL11 := rfA eT33_49 rL11
  have nL13 := lnA eT33_49 f33_48 kL12.1 nL13
  have nL15 := lnA eT33_49 f33_48 kL14.1 nL15
  have nL17 := lnA eT33_49 f33_48 kL16.1 nL17
  have rL19 := rfA eT33_49 rL19
  have nL30 := lnA eT33_49 f33_48 kL29.1 nL30
  have rL32 := rfA eT33_49 rL32
  have nL44 := lnA eT33_49 f33_48 kL43.1 nL44
  have rL46 := rfA eT33_49 rL46
  have k0 := isA eT33_49 f33_48 k0
  have kL6 := isA eT33_49 f33_48 kL6
  have kL12 := isA eT33_49 f33_48 kL12
  have kL14 := isA eT33_49 f33_48 kL14
  have kL16 := isA eT33_49 f33_48 kL16
  have kL29 := isA eT33_49 f33_48 kL29
  have kL43 := isA eT33_49 f33_48 kL43
  have kL58 := isA_n eT33_49
  have nL59 := lnA_n eT33_49
  refine pf_X3_26 X hw k0 hin dX3_init_35 (fun H locs hw => ?_)
  obtain ⟨T35_60, eT35_60, hw⟩ : ∃ zz9 : Pl, zz9 = sR T33_49 13 s0 (some a33_47) ∧ PX G A s.heap zz9 H locs := ⟨_, rfl, hw⟩
  have xx := ExX.mR eT35_60 xx
  have rL9 := rfR eT35_60 (by decide) rL9
  have rL10 := rfR eT35_60 (by decide) rL10
  have rL11 := rfR eT35_60 (by decide) rL11
  have nL13 := lnR eT35_60 nL13
  have nL15 := lnR eT35_60 nL15
  have nL17 := lnR eT35_60 nL17
  have rL19 := rfR eT35_60 (by decide) rL19
  have nL30 := lnR eT35_60 nL30
  have rL32 := rfR eT35_60 (by decide) rL32
  have nL44 := lnR eT35_60 nL44
  have rL46 := rfR eT35_60 (by decide) rL46
  have nL59 := lnR eT35_60 nL59
  have k0 := isR eT35_60 k0
  have kL6 := isR eT35_60 kL6
  have kL12 := isR eT35_60 kL12
  have kL14 := isR eT35_60 kL14
  have kL16 := isR eT35_60 kL16
  have kL29 := isR eT35_60 kL29
  have kL43 := isR eT35_60 kL43
  have kL58 := isR eT35_60 kL58
  have rL61 := rfR_n eT35_60
  refine lv_aload_n hx hb dX3_init_38 rfl (lv_at hl 0 rfl) ?_
  refine lv_bipush (v := 42) hx hb dX3_init_39 (by decide) ?_
  refine q_nwI (N' := 42) X hw wd_r2_21 (by decide) (by decide) (by decide) (Nat.le_of_ble_eq_true rfl) (Nat.le_of_ble_eq_true rfl) dX3_init_41 (fun a41_62 H f41_63 hw => ?_)
  obtain ⟨T41_64, eT41_64, hw⟩ : ∃ zz9 : Pl, zz9 = nA T35_60 a41_62 13 42 ∧ PX G A s.heap zz9 H locs := ⟨_, rfl, hw⟩
  have e65ne := (ne_of k0.1 f41_63)
  have e66ne := (ne_of kL6.1 f41_63)
  have e67ne := (ne_of kL12.1 f41_63)
  have e68ne := (ne_of kL14.1 f41_63)
  have e69ne := (ne_of kL16.1 f41_63)
  have e70ne := (ne_of kL29.1 f41_63)
  have e71ne := (ne_of kL43.1 f41_63)
  have e72ne := (ne_of kL58.1 f41_63)
  have e73ns := fresh_of xx f41_63
  have xx := ExX.mA eT41_64 f41_63 xx
  have rL9 := rfA eT41_64 rL9
  have rL10 := rfA eT41_64 rL10
  have rL11 := rfA eT41_64 rL11
  have nL13 := lnA eT41_64 f41_63 kL12.1 nL13
  have nL15 := lnA eT41_64 f41_63 kL14.1 nL15
  have nL17 := lnA eT41_64 f41_63 kL16.1 nL17
  have rL19 := rfA eT41_64 rL19
  have nL30 := lnA eT41_64 f41_63 kL29.1 nL30
  have rL32 := rfA eT41_64 rL32
  have nL44 := lnA eT41_64 f41_63 kL43.1 nL44
  have rL46 := rfA eT41_64 rL46
  have nL59 := lnA eT41_64 f41_63 kL58.1 nL59
  have rL61 := rfA eT41_64 rL61
  have k0 := isA eT41_64 f41_63 k0
  have kL6 := isA eT41_64 f41_63 kL6
  have kL12 := isA eT41_64 f41_63 kL12
  have kL14 := isA eT41_64 f41_63 kL14
  have kL16 := isA eT41_64 f41_63 kL16
  have kL29 := isA eT41_64 f41_63 kL29
  have kL43 := isA eT41_64 f41_63 kL43
  have kL58 := isA eT41_64 f41_63 kL58
  have kL74 := isA_n eT41_64
  have nL75 := lnA_n eT41_64
  refine pf_X3_30 X hw k0 hin dX3_init_43 (fun H locs hw => ?_)
  obtain ⟨T43_76, eT43_76, hw⟩ : ∃ zz9 : Pl, zz9 = sR T41_64 14 s0 (some a41_62) ∧ PX G A s.heap zz9 H locs := ⟨_, rfl, hw⟩
  have xx := ExX.mR eT43_76 xx
  have rL9 := rfR eT43_76 (by decide) rL9
  have rL10 := rfR eT43_76 (by decide) rL10
  have rL11 := rfR eT43_76 (by decide) rL11
  have nL13 := lnR eT43_76 nL13
  have nL15 := lnR eT43_76 nL15
  have nL17 := lnR eT43_76 nL17
  have rL19 := rfR eT43_76 (by decide) rL19
  have nL30 := lnR eT43_76 nL30
  have rL32 := rfR eT43_76 (by decide) rL32
  have nL44 := lnR eT43_76 nL44
  have rL46 := rfR eT43_76 (by decide) rL46
  have nL59 := lnR eT43_76 nL59
  have rL61 := rfR eT43_76 (by decide) rL61
  have nL75 := lnR eT43_76 nL75
  have k0 := isR eT43_76 k0
  have kL6 := isR eT43_76 kL6
  have kL12 := isR eT43_76 kL12
  have kL14 := isR eT43_76 kL14
  have kL16 := isR eT43_76 kL16
  have kL29 := isR eT43_76 kL29
  have kL43 := isR eT43_76 kL43
  have kL58 := isR eT43_76 kL58
  have kL74 := isR eT43_76 kL74
  have rL77 := rfR_n eT43_76
  refine lv_iconst (v := 0) hx hb dX3_init_46 (by decide) ?_
  refine lv_istore_n (lv' := [(1, .int 0), (0, .ref s0)]) hx hb dX3_init_47 rfl hl (by decide) rfl (fun ls hl => ?_)
  refine lv_iload_n hx hb dX3_init_48 rfl (lv_at hl 0 rfl) ?_
  refine lv_iconst (v := 4) hx hb dX3_init_49 (by decide) ?_
  refine lv_icmp_ge (tgt := 72) hx hb dX3_init_50 (by decide) (fun c50_78 => absurd c50_78 (by decide)) (fun c50_78 => ?_)
  refine lv_aload_n hx hb dX3_init_53 rfl (lv_at hl 1 rfl) ?_
  refine gf_X3_18 (b := a17_20) X hw k0 rL32 dX3_init_54 ?_
  refine lv_iload_n hx hb dX3_init_57 rfl (lv_at hl 0 rfl) ?_
  refine q_new (k := 1) (ci := 2) (fs := [.null, .null, .null]) X hw rfl inlX1 tyX1_ok (by decide +kernel) wd_r4_12 wd_r4_13 wd_r4_14 (fun _ _ _ _ => rfl) (Nat.le_of_ble_eq_true rfl) (Nat.le_of_ble_eq_true rfl) dX3_init_58 (fun a58_79 H f58_80 hw => ?_)
  obtain ⟨T58_81, eT58_81, hw⟩ : ∃ zz9 : Pl, zz9 = nO T43_76 a58_79 1 ∧ PX G A s.heap zz9 H locs := ⟨_, rfl, hw⟩
  have e82ne := (ne_of k0.1 f58_80)
  have e83ne := (ne_of kL6.1 f58_80)
  have e84ne := (ne_of kL12.1 f58_80)
  have e85ne := (ne_of kL14.1 f58_80)
  have e86ne := (ne_of kL16.1 f58_80)
  have e87ne := (ne_of kL29.1 f58_80)
  have e88ne := (ne_of kL43.1 f58_80)
  have e89ne := (ne_of kL58.1 f58_80)
  have e90ne := (ne_of kL74.1 f58_80)
  have e91ns := fresh_of xx f58_80
  have xx := ExX.mO eT58_81 f58_80 xx
  have rL9 := rfO eT58_81 f58_80 kL6.1 rL9
  have rL10 := rfO eT58_81 f58_80 kL6.1 rL10
  have rL11 := rfO eT58_81 f58_80 kL6.1 rL11
  have nL13 := lnO eT58_81 nL13
  have nL15 := lnO eT58_81 nL15
  have nL17 := lnO eT58_81 nL17
  have rL19 := rfO eT58_81 f58_80 k0.1 rL19
  have nL30 := lnO eT58_81 nL30
  have rL32 := rfO eT58_81 f58_80 k0.1 rL32
  have nL44 := lnO eT58_81 nL44
  have rL46 := rfO eT58_81 f58_80 k0.1 rL46
  have nL59 := lnO eT58_81 nL59
  have rL61 := rfO eT58_81 f58_80 k0.1 rL61
  have nL75 := lnO eT58_81 nL75
  have rL77 := rfO eT58_81 f58_80 k0.1 rL77
  have k0 := isO eT58_81 f58_80 k0
  have kL6 := isO eT58_81 f58_80 kL6
  have kL12 := isO eT58_81 f58_80 kL12
  have kL14 := isO eT58_81 f58_80 kL14
  have kL16 := isO eT58_81 f58_80 kL16
  have kL29 := isO eT58_81 f58_80 kL29
  have kL43 := isO eT58_81 f58_80 kL43
  have kL58 := isO eT58_81 f58_80 kL58
  have kL74 := isO eT58_81 f58_80 kL74
  have kL92 := isO_n eT58_81
  refine lv_dup hx hb dX3_init_61 rfl ?_
  refine k_INv (n := 0) (ret2 := none) (host := RX10) X hw (c_X1_init l G _ a58_79  kL92) (List.mem_of_getElem? (i := 2) rfl) wd_r4_21 wd_r4_14 wd_r4_22 rfl ⟨by decide, by decide, by decide +kernel⟩ rfl rfl ⟨Nat.le_of_ble_eq_true rfl, Nat.le_of_ble_eq_true rfl⟩ rfl rfl hl.1 (Nat.le_of_ble_eq_true rfl) dX3_init_62 ⟨Nat.le_of_ble_eq_true rfl, Nat.le_of_ble_eq_true rfl⟩ (fun S62_94 H locs h62_93 hw => ?_)
  obtain ⟨b1_a58_79, b2_a58_79, b3_a58_79, xL, fL0, fL1, fL2, fL3, fL4, fL5, fL6, fL7, fL8⟩ := h62_93
  have xx := ExX.mX e91ns xx xL
  have rL9 := rfX xL kL6.1 e83ne rL9
  have rL10 := rfX xL kL6.1 e83ne rL10
  have rL11 := rfX xL kL6.1 e83ne rL11
  have nL13 := lnX xL kL12.1 nL13
  have nL15 := lnX xL kL14.1 nL15
  have nL17 := lnX xL kL16.1 nL17
  have rL19 := rfX xL k0.1 e82ne rL19
  have nL30 := lnX xL kL29.1 nL30
  have rL32 := rfX xL k0.1 e82ne rL32
  have nL44 := lnX xL kL43.1 nL44
  have rL46 := rfX xL k0.1 e82ne rL46
  have nL59 := lnX xL kL58.1 nL59
  have rL61 := rfX xL k0.1 e82ne rL61
  have nL75 := lnX xL kL74.1 nL75
  have rL77 := rfX xL k0.1 e82ne rL77
  have k0 := isX xL k0
  have kL6 := isX xL kL6
  have kL12 := isX xL kL12
  have kL14 := isX xL kL14
  have kL16 := isX xL kL16
  have kL29 := isX xL kL29
  have kL43 := isX xL kL43
  have kL58 := isX xL kL58
  have kL74 := isX xL kL74
  have kL92 := isX xL kL92
  have rL95 := fL0
  have rL96 := fL1
  have rL97 := fL2
  have kL98 := fL3
  have nL99 := fL4
  have kL100 := fL5
  have nL101 := fL6
  have kL102 := fL7
  have nL103 := fL8
  refine q_stFlow X hw kL29 kL92 (vinl nL30 (by decide) t_0 (by decide)) dX3_init_65 (fun H locs hw => ?_)
  obtain ⟨T65_104, eT65_104, hw⟩ : ∃ zz9 : Pl, zz9 = tR S62_94 a17_20 (va_up (qR S62_94 a17_20) 0 (some a58_79)) ∧ PX G A s.heap zz9 H locs := ⟨_, rfl, hw⟩
  have xx := ExX.mT e28ns eT65_104 xx
  have rL9 := rfT eT65_104 rL9
  have rL10 := rfT eT65_104 rL10
  have rL11 := rfT eT65_104 rL11
  have nL13 := lnT eT65_104 nL13
  have nL15 := lnT eT65_104 nL15
  have nL17 := lnT eT65_104 nL17
  have rL19 := rfT eT65_104 rL19
  have nL30 := lnT eT65_104 nL30
  have rL32 := rfT eT65_104 rL32
  have nL44 := lnT eT65_104 nL44
  have rL46 := rfT eT65_104 rL46
  have nL59 := lnT eT65_104 nL59
  have rL61 := rfT eT65_104 rL61
  have nL75 := lnT eT65_104 nL75
  have rL77 := rfT eT65_104 rL77
  have rL95 := rfT eT65_104 rL95
  have rL96 := rfT eT65_104 rL96
  have rL97 := rfT eT65_104 rL97
  have nL99 := lnT eT65_104 nL99
  have nL101 := lnT eT65_104 nL101
  have nL103 := lnT eT65_104 nL103
  have k0 := isT eT65_104 k0
  have kL6 := isT eT65_104 kL6
  have kL12 := isT eT65_104 kL12
  have kL14 := isT eT65_104 kL14
  have kL16 := isT eT65_104 kL16
  have kL29 := isT eT65_104 kL29
  have kL43 := isT eT65_104 kL43
  have kL58 := isT eT65_104 kL58
  have kL74 := isT eT65_104 kL74
  have kL92 := isT eT65_104 kL92
  have kL98 := isT eT65_104 kL98
  have kL100 := isT eT65_104 kL100
  have kL102 := isT eT65_104 kL102
  have uL105 := qrT_n eT65_104
  refine lv_iinc (v := 1) (lv' := [(1, .int 1), (0, .ref s0)]) hx hb dX3_init_66 hl (k := 0) rfl (by decide) (by decide) rfl (fun ls hl => ?_)
  refine lv_goto (tgt := 48) hx hb dX3_init_69 (by decide) ?_
  refine lv_iload_n hx hb dX3_init_48 rfl (lv_at hl 0 rfl) ?_
  refine lv_iconst (v := 4) hx hb dX3_init_49 (by decide) ?_
  refine lv_icmp_ge (tgt := 72) hx hb dX3_init_50 (by decide) (fun c50_106 => absurd c50_106 (by decide)) (fun c50_106 => ?_)
  refine lv_aload_n hx hb dX3_init_53 rfl (lv_at hl 1 rfl) ?_
  refine gf_X3_18 (b := a17_20) X hw k0 rL32 dX3_init_54 ?_
  refine lv_iload_n hx hb dX3_init_57 rfl (lv_at hl 0 rfl) ?_
  refine q_new (k := 1) (ci := 2) (fs := [.null, .null, .null]) X hw rfl inlX1 tyX1_ok (by decide +kernel) wd_r4_12 wd_r4_13 wd_r4_14 (fun _ _ _ _ => rfl) (Nat.le_of_ble_eq_true rfl) (Nat.le_of_ble_eq_true rfl) dX3_init_58 (fun a58_107 H f58_108 hw => ?_)
  obtain ⟨T58_109, eT58_109, hw⟩ : ∃ zz9 : Pl, zz9 = nO T65_104 a58_107 1 ∧ PX G A s.heap zz9 H locs := ⟨_, rfl, hw⟩
  have e110ne := (ne_of k0.1 f58_108)
  have e111ne := (ne_of kL6.1 f58_108)
  have e112ne := (ne_of kL12.1 f58_108)
  have e113ne := (ne_of kL14.1 f58_108)
  have e114ne := (ne_of kL16.1 f58_108)
  have e115ne := (ne_of kL29.1 f58_108)
  have e116ne := (ne_of kL43.1 f58_108)
  have e117ne := (ne_of kL58.1 f58_108)
  have e118ne := (ne_of kL74.1 f58_108)
  have e119ne := (ne_of kL92.1 f58_108)
  have e120ne := (ne_of kL98.1 f58_108)
  have e121ne := (ne_of kL100.1 f58_108)
  have e122ne := (ne_of kL102.1 f58_108)
  have e123ns := fresh_of xx f58_108
  have xx := ExX.mO eT58_109 f58_108 xx
  have rL9 := rfO eT58_109 f58_108 kL6.1 rL9
  have rL10 := rfO eT58_109 f58_108 kL6.1 rL10
  have rL11 := rfO eT58_109 f58_108 kL6.1 rL11
  have nL13 := lnO eT58_109 nL13
  have nL15 := lnO eT58_109 nL15
  have nL17 := lnO eT58_109 nL17
  have rL19 := rfO eT58_109 f58_108 k0.1 rL19
  have nL30 := lnO eT58_109 nL30
  have rL32 := rfO eT58_109 f58_108 k0.1 rL32
  have nL44 := lnO eT58_109 nL44
  have rL46 := rfO eT58_109 f58_108 k0.1 rL46
  have nL59 := lnO eT58_109 nL59
  have rL61 := rfO eT58_109 f58_108 k0.1 rL61
  have nL75 := lnO eT58_109 nL75
  have rL77 := rfO eT58_109 f58_108 k0.1 rL77
  have rL95 := rfO eT58_109 f58_108 kL92.1 rL95
  have rL96 := rfO eT58_109 f58_108 kL92.1 rL96
  have rL97 := rfO eT58_109 f58_108 kL92.1 rL97
  have nL99 := lnO eT58_109 nL99
  have nL101 := lnO eT58_109 nL101
  have nL103 := lnO eT58_109 nL103
  have uL105 := qrO eT58_109 uL105
  have k0 := isO eT58_109 f58_108 k0
  have kL6 := isO eT58_109 f58_108 kL6
  have kL12 := isO eT58_109 f58_108 kL12
  have kL14 := isO eT58_109 f58_108 kL14
  have kL16 := isO eT58_109 f58_108 kL16
  have kL29 := isO eT58_109 f58_108 kL29
  have kL43 := isO eT58_109 f58_108 kL43
  have kL58 := isO eT58_109 f58_108 kL58
  have kL74 := isO eT58_109 f58_108 kL74
  have kL92 := isO eT58_109 f58_108 kL92
  have kL98 := isO eT58_109 f58_108 kL98
  have kL100 := isO eT58_109 f58_108 kL100
  have kL102 := isO eT58_109 f58_108 kL102
  have kL124 := isO_n eT58_109
  refine lv_dup hx hb dX3_init_61 rfl ?_
  refine k_INv (n := 0) (ret2 := none) (host := RX10) X hw (c_X1_init l G _ a58_107  kL124) (List.mem_of_getElem? (i := 2) rfl) wd_r4_21 wd_r4_14 wd_r4_22 rfl ⟨by decide, by decide, by decide +kernel⟩ rfl rfl ⟨Nat.le_of_ble_eq_true rfl, Nat.le_of_ble_eq_true rfl⟩ rfl rfl hl.1 (Nat.le_of_ble_eq_true rfl) dX3_init_62 ⟨Nat.le_of_ble_eq_true rfl, Nat.le_of_ble_eq_true rfl⟩ (fun S62_126 H locs h62_125 hw => ?_)
  obtain ⟨b1_a58_107, b2_a58_107, b3_a58_107, xL, fL0, fL1, fL2, fL3, fL4, fL5, fL6, fL7, fL8⟩ := h62_125
  have xx := ExX.mX e123ns xx xL
  have rL9 := rfX xL kL6.1 e111ne rL9
  have rL10 := rfX xL kL6.1 e111ne rL10
  have rL11 := rfX xL kL6.1 e111ne rL11
  have nL13 := lnX xL kL12.1 nL13
  have nL15 := lnX xL kL14.1 nL15
  have nL17 := lnX xL kL16.1 nL17
  have rL19 := rfX xL k0.1 e110ne rL19
  have nL30 := lnX xL kL29.1 nL30
  have rL32 := rfX xL k0.1 e110ne rL32
  have nL44 := lnX xL kL43.1 nL44
  have rL46 := rfX xL k0.1 e110ne rL46
  have nL59 := lnX xL kL58.1 nL59
  have rL61 := rfX xL k0.1 e110ne rL61
  have nL75 := lnX xL kL74.1 nL75
  have rL77 := rfX xL k0.1 e110ne rL77
  have rL95 := rfX xL kL92.1 e119ne rL95
  have rL96 := rfX xL kL92.1 e119ne rL96
  have rL97 := rfX xL kL92.1 e119ne rL97
  have nL99 := lnX xL kL98.1 nL99
  have nL101 := lnX xL kL100.1 nL101
  have nL103 := lnX xL kL102.1 nL103
  have uL105 := qrX xL kL29.1 e115ne uL105
  have k0 := isX xL k0
  have kL6 := isX xL kL6
  have kL12 := isX xL kL12
  have kL14 := isX xL kL14
  have kL16 := isX xL kL16
  have kL29 := isX xL kL29
  have kL43 := isX xL kL43
  have kL58 := isX xL kL58
  have kL74 := isX xL kL74
  have kL92 := isX xL kL92
  have kL98 := isX xL kL98
  have kL100 := isX xL kL100
  have kL102 := isX xL kL102
  have kL124 := isX xL kL124
  have rL127 := fL0
  have rL128 := fL1
  have rL129 := fL2
  have kL130 := fL3
  have nL131 := fL4
  have kL132 := fL5
  have nL133 := fL6
  have kL134 := fL7
  have nL135 := fL8
  refine q_stFlow X hw kL29 kL124 (vinl nL30 (by decide) t_1 (by decide)) dX3_init_65 (fun H locs hw => ?_)
  obtain ⟨T65_136, eT65_136, hw⟩ : ∃ zz9 : Pl, zz9 = tR S62_126 a17_20 (va_up (qR S62_126 a17_20) 1 (some a58_107)) ∧ PX G A s.heap zz9 H locs := ⟨_, rfl, hw⟩
  have xx := ExX.mT e28ns eT65_136 xx
  have rL9 := rfT eT65_136 rL9
  have rL10 := rfT eT65_136 rL10
  have rL11 := rfT eT65_136 rL11
  have nL13 := lnT eT65_136 nL13
  have nL15 := lnT eT65_136 nL15
  have nL17 := lnT eT65_136 nL17
  have rL19 := rfT eT65_136 rL19
  have nL30 := lnT eT65_136 nL30
  have rL32 := rfT eT65_136 rL32
  have nL44 := lnT eT65_136 nL44
  have rL46 := rfT eT65_136 rL46
  have nL59 := lnT eT65_136 nL59
  have rL61 := rfT eT65_136 rL61
  have nL75 := lnT eT65_136 nL75
  have rL77 := rfT eT65_136 rL77
  have rL95 := rfT eT65_136 rL95
  have rL96 := rfT eT65_136 rL96
  have rL97 := rfT eT65_136 rL97
  have nL99 := lnT eT65_136 nL99
  have nL101 := lnT eT65_136 nL101
  have nL103 := lnT eT65_136 nL103
  have uL105 := qrT eT65_136 (by decide) uL105
  have rL127 := rfT eT65_136 rL127
  have rL128 := rfT eT65_136 rL128
  have rL129 := rfT eT65_136 rL129
  have nL131 := lnT eT65_136 nL131
  have nL133 := lnT eT65_136 nL133
  have nL135 := lnT eT65_136 nL135
  have k0 := isT eT65_136 k0
  have kL6 := isT eT65_136 kL6
  have kL12 := isT eT65_136 kL12
  have kL14 := isT eT65_136 kL14
  have kL16 := isT eT65_136 kL16
  have kL29 := isT eT65_136 kL29
  have kL43 := isT eT65_136 kL43
  have kL58 := isT eT65_136 kL58
  have kL74 := isT eT65_136 kL74
  have kL92 := isT eT65_136 kL92
  have kL98 := isT eT65_136 kL98
  have kL100 := isT eT65_136 kL100
  have kL102 := isT eT65_136 kL102
  have kL124 := isT eT65_136 kL124
  have kL130 := isT eT65_136 kL130
  have kL132 := isT eT65_136 kL132
  have kL134 := isT eT65_136 kL134
  have uL137 := qrT_n eT65_136
  refine lv_iinc (v := 2) (lv' := [(1, .int 2), (0, .ref s0)]) hx hb dX3_init_66 hl (k := 0) rfl (by decide) (by decide) rfl (fun ls hl => ?_)
  refine lv_goto (tgt := 48) hx hb dX3_init_69 (by decide) ?_
  refine lv_iload_n hx hb dX3_init_48 rfl (lv_at hl 0 rfl) ?_
  refine lv_iconst (v := 4) hx hb dX3_init_49 (by decide) ?_
  refine lv_icmp_ge (tgt := 72) hx hb dX3_init_50 (by decide) (fun c50_138 => absurd c50_138 (by decide)) (fun c50_138 => ?_)
  refine lv_aload_n hx hb dX3_init_53 rfl (lv_at hl 1 rfl) ?_
  refine gf_X3_18 (b := a17_20) X hw k0 rL32 dX3_init_54 ?_
  refine lv_iload_n hx hb dX3_init_57 rfl (lv_at hl 0 rfl) ?_
  refine q_new (k := 1) (ci := 2) (fs := [.null, .null, .null]) X hw rfl inlX1 tyX1_ok (by decide +kernel) wd_r4_12 wd_r4_13 wd_r4_14 (fun _ _ _ _ => rfl) (Nat.le_of_ble_eq_true rfl) (Nat.le_of_ble_eq_true rfl) dX3_init_58 (fun a58_139 H f58_140 hw => ?_)
  obtain ⟨T58_141, eT58_141, hw⟩ : ∃ zz9 : Pl, zz9 = nO T65_136 a58_139 1 ∧ PX G A s.heap zz9 H locs := ⟨_, rfl, hw⟩
  have e142ne := (ne_of k0.1 f58_140)
  have e143ne := (ne_of kL6.1 f58_140)
  have e144ne := (ne_of kL12.1 f58_140)
  have e145ne := (ne_of kL14.1 f58_140)
  have e146ne := (ne_of kL16.1 f58_140)
  have e147ne := (ne_of kL29.1 f58_140)
  have e148ne := (ne_of kL43.1 f58_140)
  have e149ne := (ne_of kL58.1 f58_140)
  have e150ne := (ne_of kL74.1 f58_140)
  have e151ne := (ne_of kL92.1 f58_140)
  have e152ne := (ne_of kL98.1 f58_140)
  have e153ne := (ne_of kL100.1 f58_140)
  have e154ne := (ne_of kL102.1 f58_140)
  have e155ne := (ne_of kL124.1 f58_140)
  have e156ne := (ne_of kL130.1 f58_140)
  have e157ne := (ne_of kL132.1 f58_140)
  have e158ne := (ne_of kL134.1 f58_140)
  have e159ns := fresh_of xx f58_140
  have xx := ExX.mO eT58_141 f58_140 xx
  have rL9 := rfO eT58_141 f58_140 kL6.1 rL9
  have rL10 := rfO eT58_141 f58_140 kL6.1 rL10
  have rL11 := rfO eT58_141 f58_140 kL6.1 rL11
  have nL13 := lnO eT58_141 nL13
  have nL15 := lnO eT58_141 nL15
  have nL17 := lnO eT58_141 nL17
  have rL19 := rfO eT58_141 f58_140 k0.1 rL19
  have nL30 := lnO eT58_141 nL30
  have rL32 := rfO eT58_141 f58_140 k0.1 rL32
  have nL44 := lnO eT58_141 nL44
  have rL46 := rfO eT58_141 f58_140 k0.1 rL46
  have nL59 := lnO eT58_141 nL59
  have rL61 := rfO eT58_141 f58_140 k0.1 rL61
  have nL75 := lnO eT58_141 nL75
  have rL77 := rfO eT58_141 f58_140 k0.1 rL77
  have rL95 := rfO eT58_141 f58_140 kL92.1 rL95
  have rL96 := rfO eT58_141 f58_140 kL92.1 rL96
  have rL97 := rfO eT58_141 f58_140 kL92.1 rL97
  have nL99 := lnO eT58_141 nL99
  have nL101 := lnO eT58_141 nL101
  have nL103 := lnO eT58_141 nL103
  have uL105 := qrO eT58_141 uL105
  have rL127 := rfO eT58_141 f58_140 kL124.1 rL127
  have rL128 := rfO eT58_141 f58_140 kL124.1 rL128
  have rL129 := rfO eT58_141 f58_140 kL124.1 rL129
  have nL131 := lnO eT58_141 nL131
  have nL133 := lnO eT58_141 nL133
  have nL135 := lnO eT58_141 nL135
  have uL137 := qrO eT58_141 uL137
  have k0 := isO eT58_141 f58_140 k0
  have kL6 := isO eT58_141 f58_140 kL6
  have kL12 := isO eT58_141 f58_140 kL12
  have kL14 := isO eT58_141 f58_140 kL14
  have kL16 := isO eT58_141 f58_140 kL16
  have kL29 := isO eT58_141 f58_140 kL29
  have kL43 := isO eT58_141 f58_140 kL43
  have kL58 := isO eT58_141 f58_140 kL58
  have kL74 := isO eT58_141 f58_140 kL74
  have kL92 := isO eT58_141 f58_140 kL92
  have kL98 := isO eT58_141 f58_140 kL98
  have kL100 := isO eT58_141 f58_140 kL100
  have kL102 := isO eT58_141 f58_140 kL102
  have kL124 := isO eT58_141 f58_140 kL124
  have kL130 := isO eT58_141 f58_140 kL130
  have kL132 := isO eT58_141 f58_140 kL132
  have kL134 := isO eT58_141 f58_140 kL134
  have kL160 := isO_n eT58_141
  refine lv_dup hx hb dX3_init_61 rfl ?_
  refine k_INv (n := 0) (ret2 := none) (host := RX10) X hw (c_X1_init l G _ a58_139  kL160) (List.mem_of_getElem? (i := 2) rfl) wd_r4_21 wd_r4_14 wd_r4_22 rfl ⟨by decide, by decide, by decide +kernel⟩ rfl rfl ⟨Nat.le_of_ble_eq_true rfl, Nat.le_of_ble_eq_true rfl⟩ rfl rfl hl.1 (Nat.le_of_ble_eq_true rfl) dX3_init_62 ⟨Nat.le_of_ble_eq_true rfl, Nat.le_of_ble_eq_true rfl⟩ (fun S62_162 H locs h62_161 hw => ?_)
  obtain ⟨b1_a58_139, b2_a58_139, b3_a58_139, xL, fL0, fL1, fL2, fL3, fL4, fL5, fL6, fL7, fL8⟩ := h62_161
  have xx := ExX.mX e159ns xx xL
  have rL9 := rfX xL kL6.1 e143ne rL9
  have rL10 := rfX xL kL6.1 e143ne rL10
  have rL11 := rfX xL kL6.1 e143ne rL11
  have nL13 := lnX xL kL12.1 nL13
  have nL15 := lnX xL kL14.1 nL15
  have nL17 := lnX xL kL16.1 nL17
  have rL19 := rfX xL k0.1 e142ne rL19
  have nL30 := lnX xL kL29.1 nL30
  have rL32 := rfX xL k0.1 e142ne rL32
  have nL44 := lnX xL kL43.1 nL44
  have rL46 := rfX xL k0.1 e142ne rL46
  have nL59 := lnX xL kL58.1 nL59
  have rL61 := rfX xL k0.1 e142ne rL61
  have nL75 := lnX xL kL74.1 nL75
  have rL77 := rfX xL k0.1 e142ne rL77
  have rL95 := rfX xL kL92.1 e151ne rL95
  have rL96 := rfX xL kL92.1 e151ne rL96
  have rL97 := rfX xL kL92.1 e151ne rL97
  have nL99 := lnX xL kL98.1 nL99
  have nL101 := lnX xL kL100.1 nL101
  have nL103 := lnX xL kL102.1 nL103
  have uL105 := qrX xL kL29.1 e147ne uL105
  have rL127 := rfX xL kL124.1 e155ne rL127
  have rL128 := rfX xL kL124.1 e155ne rL128
  have rL129 := rfX xL kL124.1 e155ne rL129
  have nL131 := lnX xL kL130.1 nL131
  have nL133 := lnX xL kL132.1 nL133
  have nL135 := lnX xL kL134.1 nL135
  have uL137 := qrX xL kL29.1 e147ne uL137
  have k0 := isX xL k0
  have kL6 := isX xL kL6
  have kL12 := isX xL kL12
  have kL14 := isX xL kL14
  have kL16 := isX xL kL16
  have kL29 := isX xL kL29
  have kL43 := isX xL kL43
  have kL58 := isX xL kL58
  have kL74 := isX xL kL74
  have kL92 := isX xL kL92
  have kL98 := isX xL kL98
  have kL100 := isX xL kL100
  have kL102 := isX xL kL102
  have kL124 := isX xL kL124
  have kL130 := isX xL kL130
  have kL132 := isX xL kL132
  have kL134 := isX xL kL134
  have kL160 := isX xL kL160
  have rL163 := fL0
  have rL164 := fL1
  have rL165 := fL2
  have kL166 := fL3
  have nL167 := fL4
  have kL168 := fL5
  have nL169 := fL6
  have kL170 := fL7
  have nL171 := fL8
  refine q_stFlow X hw kL29 kL160 (vinl nL30 (by decide) t_2 (by decide)) dX3_init_65 (fun H locs hw => ?_)
  obtain ⟨T65_172, eT65_172, hw⟩ : ∃ zz9 : Pl, zz9 = tR S62_162 a17_20 (va_up (qR S62_162 a17_20) 2 (some a58_139)) ∧ PX G A s.heap zz9 H locs := ⟨_, rfl, hw⟩
  have xx := ExX.mT e28ns eT65_172 xx
  have rL9 := rfT eT65_172 rL9
  have rL10 := rfT eT65_172 rL10
  have rL11 := rfT eT65_172 rL11
  have nL13 := lnT eT65_172 nL13
  have nL15 := lnT eT65_172 nL15
  have nL17 := lnT eT65_172 nL17
  have rL19 := rfT eT65_172 rL19
  have nL30 := lnT eT65_172 nL30
  have rL32 := rfT eT65_172 rL32
  have nL44 := lnT eT65_172 nL44
  have rL46 := rfT eT65_172 rL46
  have nL59 := lnT eT65_172 nL59
  have rL61 := rfT eT65_172 rL61
  have nL75 := lnT eT65_172 nL75
  have rL77 := rfT eT65_172 rL77
  have rL95 := rfT eT65_172 rL95
  have rL96 := rfT eT65_172 rL96
  have rL97 := rfT eT65_172 rL97
  have nL99 := lnT eT65_172 nL99
  have nL101 := lnT eT65_172 nL101
  have nL103 := lnT eT65_172 nL103
  have uL105 := qrT eT65_172 (by decide) uL105
  have rL127 := rfT eT65_172 rL127
  have rL128 := rfT eT65_172 rL128
  have rL129 := rfT eT65_172 rL129
  have nL131 := lnT eT65_172 nL131
  have nL133 := lnT eT65_172 nL133
  have nL135 := lnT eT65_172 nL135
  have uL137 := qrT eT65_172 (by decide) uL137
  have rL163 := rfT eT65_172 rL163
  have rL164 := rfT eT65_172 rL164
  have rL165 := rfT eT65_172 rL165
  have nL167 := lnT eT65_172 nL167
  have nL169 := lnT eT65_172 nL169
  have nL171 := lnT eT65_172 nL171
  have k0 := isT eT65_172 k0
  have kL6 := isT eT65_172 kL6
  have kL12 := isT eT65_172 kL12
  have kL14 := isT eT65_172 kL14
  have kL16 := isT eT65_172 kL16
  have kL29 := isT eT65_172 kL29
  have kL43 := isT eT65_172 kL43
  have kL58 := isT eT65_172 kL58
  have kL74 := isT eT65_172 kL74
  have kL92 := isT eT65_172 kL92
  have kL98 := isT eT65_172 kL98
  have kL100 := isT eT65_172 kL100
  have kL102 := isT eT65_172 kL102
  have kL124 := isT eT65_172 kL124
  have kL130 := isT eT65_172 kL130
  have kL132 := isT eT65_172 kL132
  have kL134 := isT eT65_172 kL134
  have kL160 := isT eT65_172 kL160
  have kL166 := isT eT65_172 kL166
  have kL168 := isT eT65_172 kL168
  have kL170 := isT eT65_172 kL170
  have uL173 := qrT_n eT65_172
  refine lv_iinc (v := 3) (lv' := [(1, .int 3), (0, .ref s0)]) hx hb dX3_init_66 hl (k := 0) rfl (by decide) (by decide) rfl (fun ls hl => ?_)
  refine lv_goto (tgt := 48) hx hb dX3_init_69 (by decide) ?_
  refine lv_iload_n hx hb dX3_init_48 rfl (lv_at hl 0 rfl) ?_
  refine lv_iconst (v := 4) hx hb dX3_init_49 (by decide) ?_
  refine lv_icmp_ge (tgt := 72) hx hb dX3_init_50 (by decide) (fun c50_174 => absurd c50_174 (by decide)) (fun c50_174 => ?_)
  refine lv_aload_n hx hb dX3_init_53 rfl (lv_at hl 1 rfl) ?_
  refine gf_X3_18 (b := a17_20) X hw k0 rL32 dX3_init_54 ?_
  refine lv_iload_n hx hb dX3_init_57 rfl (lv_at hl 0 rfl) ?_
  refine q_new (k := 1) (ci := 2) (fs := [.null, .null, .null]) X hw rfl inlX1 tyX1_ok (by decide +kernel) wd_r4_12 wd_r4_13 wd_r4_14 (fun _ _ _ _ => rfl) (Nat.le_of_ble_eq_true rfl) (Nat.le_of_ble_eq_true rfl) dX3_init_58 (fun a58_175 H f58_176 hw => ?_)
  obtain ⟨T58_177, eT58_177, hw⟩ : ∃ zz9 : Pl, zz9 = nO T65_172 a58_175 1 ∧ PX G A s.heap zz9 H locs := ⟨_, rfl, hw⟩
  have e178ne := (ne_of k0.1 f58_176)
  have e179ne := (ne_of kL6.1 f58_176)
  have e180ne := (ne_of kL12.1 f58_176)
  have e181ne := (ne_of kL14.1 f58_176)
  have e182ne := (ne_of kL16.1 f58_176)
  have e183ne := (ne_of kL29.1 f58_176)
  have e184ne := (ne_of kL43.1 f58_176)
  have e185ne := (ne_of kL58.1 f58_176)
  have e186ne := (ne_of kL74.1 f58_176)
  have e187ne := (ne_of kL92.1 f58_176)
  have e188ne := (ne_of kL98.1 f58_176)
  have e189ne := (ne_of kL100.1 f58_176)
  have e190ne := (ne_of kL102.1 f58_176)
  have e191ne := (ne_of kL124.1 f58_176)
  have e192ne := (ne_of kL130.1 f58_176)
  have e193ne := (ne_of kL132.1 f58_176)
  have e194ne := (ne_of kL134.1 f58_176)
  have e195ne := (ne_of kL160.1 f58_176)
  have e196ne := (ne_of kL166.1 f58_176)
  have e197ne := (ne_of kL168.1 f58_176)
  have e198ne := (ne_of kL170.1 f58_176)
  have e199ns := fresh_of xx f58_176
  have xx := ExX.mO eT58_177 f58_176 xx
  have rL9 := rfO eT58_177 f58_176 kL6.1 rL9
  have rL10 := rfO eT58_177 f58_176 kL6.1 rL10
  have rL11 := rfO eT58_177 f58_176 kL6.1 rL11
  have nL13 := lnO eT58_177 nL13
  have nL15 := lnO eT58_177 nL15
  have nL17 := lnO eT58_177 nL17
  have rL19 := rfO eT58_177 f58_176 k0.1 rL19
  have nL30 := lnO eT58_177 nL30
  have rL32 := rfO eT58_177 f58_176 k0.1 rL32
  have nL44 := lnO eT58_177 nL44
  have rL46 := rfO eT58_177 f58_176 k0.1 rL46
  have nL59 := lnO eT58_177 nL59
  have rL61 := rfO eT58_177 f58_176 k0.1 rL61
  have nL75 := lnO eT58_177 nL75
  have rL77 := rfO eT58_177 f58_176 k0.1 rL77
  have rL95 := rfO eT58_177 f58_176 kL92.1 rL95
  have rL96 := rfO eT58_177 f58_176 kL92.1 rL96
  have rL97 := rfO eT58_177 f58_176 kL92.1 rL97
  have nL99 := lnO eT58_177 nL99
  have nL101 := lnO eT58_177 nL101
  have nL103 := lnO eT58_177 nL103
  have uL105 := qrO eT58_177 uL105
  have rL127 := rfO eT58_177 f58_176 kL124.1 rL127
  have rL128 := rfO eT58_177 f58_176 kL124.1 rL128
  have rL129 := rfO eT58_177 f58_176 kL124.1 rL129
  have nL131 := lnO eT58_177 nL131
  have nL133 := lnO eT58_177 nL133
  have nL135 := lnO eT58_177 nL135
  have uL137 := qrO eT58_177 uL137
  have rL163 := rfO eT58_177 f58_176 kL160.1 rL163
  have rL164 := rfO eT58_177 f58_176 kL160.1 rL164
  have rL165 := rfO eT58_177 f58_176 kL160.1 rL165
  have nL167 := lnO eT58_177 nL167
  have nL169 := lnO eT58_177 nL169
  have nL171 := lnO eT58_177 nL171
  have uL173 := qrO eT58_177 uL173
  have k0 := isO eT58_177 f58_176 k0
  have kL6 := isO eT58_177 f58_176 kL6
  have kL12 := isO eT58_177 f58_176 kL12
  have kL14 := isO eT58_177 f58_176 kL14
  have kL16 := isO eT58_177 f58_176 kL16
  have kL29 := isO eT58_177 f58_176 kL29
  have kL43 := isO eT58_177 f58_176 kL43
  have kL58 := isO eT58_177 f58_176 kL58
  have kL74 := isO eT58_177 f58_176 kL74
  have kL92 := isO eT58_177 f58_176 kL92
  have kL98 := isO eT58_177 f58_176 kL98
  have kL100 := isO eT58_177 f58_176 kL100
  have kL102 := isO eT58_177 f58_176 kL102
  have kL124 := isO eT58_177 f58_176 kL124
  have kL130 := isO eT58_177 f58_176 kL130
  have kL132 := isO eT58_177 f58_176 kL132
  have kL134 := isO eT58_177 f58_176 kL134
  have kL160 := isO eT58_177 f58_176 kL160
  have kL166 := isO eT58_177 f58_176 kL166
  have kL168 := isO eT58_177 f58_176 kL168
  have kL170 := isO eT58_177 f58_176 kL170
  have kL200 := isO_n eT58_177
  refine lv_dup hx hb dX3_init_61 rfl ?_
  refine k_INv (n := 0) (ret2 := none) (host := RX10) X hw (c_X1_init l G _ a58_175  kL200) (List.mem_of_getElem? (i := 2) rfl) wd_r4_21 wd_r4_14 wd_r4_22 rfl ⟨by decide, by decide, by decide +kernel⟩ rfl rfl ⟨Nat.le_of_ble_eq_true rfl, Nat.le_of_ble_eq_true rfl⟩ rfl rfl hl.1 (Nat.le_of_ble_eq_true rfl) dX3_init_62 ⟨Nat.le_of_ble_eq_true rfl, Nat.le_of_ble_eq_true rfl⟩ (fun S62_202 H locs h62_201 hw => ?_)
  obtain ⟨b1_a58_175, b2_a58_175, b3_a58_175, xL, fL0, fL1, fL2, fL3, fL4, fL5, fL6, fL7, fL8⟩ := h62_201
  have xx := ExX.mX e199ns xx xL
  have rL9 := rfX xL kL6.1 e179ne rL9
  have rL10 := rfX xL kL6.1 e179ne rL10
  have rL11 := rfX xL kL6.1 e179ne rL11
  have nL13 := lnX xL kL12.1 nL13
  have nL15 := lnX xL kL14.1 nL15
  have nL17 := lnX xL kL16.1 nL17
  have rL19 := rfX xL k0.1 e178ne rL19
  have nL30 := lnX xL kL29.1 nL30
  have rL32 := rfX xL k0.1 e178ne rL32
  have nL44 := lnX xL kL43.1 nL44
  have rL46 := rfX xL k0.1 e178ne rL46
  have nL59 := lnX xL kL58.1 nL59
  have rL61 := rfX xL k0.1 e178ne rL61
  have nL75 := lnX xL kL74.1 nL75
  have rL77 := rfX xL k0.1 e178ne rL77
  have rL95 := rfX xL kL92.1 e187ne rL95
  have rL96 := rfX xL kL92.1 e187ne rL96
  have rL97 := rfX xL kL92.1 e187ne rL97
  have nL99 := lnX xL kL98.1 nL99
  have nL101 := lnX xL kL100.1 nL101
  have nL103 := lnX xL kL102.1 nL103
  have uL105 := qrX xL kL29.1 e183ne uL105
  have rL127 := rfX xL kL124.1 e191ne rL127
  have rL128 := rfX xL kL124.1 e191ne rL128
  have rL129 := rfX xL kL124.1 e191ne rL129
  have nL131 := lnX xL kL130.1 nL131
  have nL133 := lnX xL kL132.1 nL133
  have nL135 := lnX xL kL134.1 nL135
  have uL137 := qrX xL kL29.1 e183ne uL137
  have rL163 := rfX xL kL160.1 e195ne rL163
  have rL164 := rfX xL kL160.1 e195ne rL164
  have rL165 := rfX xL kL160.1 e195ne rL165
  have nL167 := lnX xL kL166.1 nL167
  have nL169 := lnX xL kL168.1 nL169
  have nL171 := lnX xL kL170.1 nL171
  have uL173 := qrX xL kL29.1 e183ne uL173
  have k0 := isX xL k0
  have kL6 := isX xL kL6
  have kL12 := isX xL kL12
  have kL14 := isX xL kL14
  have kL16 := isX xL kL16
  have kL29 := isX xL kL29
  have kL43 := isX xL kL43
  have kL58 := isX xL kL58
  have kL74 := isX xL kL74
  have kL92 := isX xL kL92
  have kL98 := isX xL kL98
  have kL100 := isX xL kL100
  have kL102 := isX xL kL102
  have kL124 := isX xL kL124
  have kL130 := isX xL kL130
  have kL132 := isX xL kL132
  have kL134 := isX xL kL134
  have kL160 := isX xL kL160
  have kL166 := isX xL kL166
  have kL168 := isX xL kL168
  have kL170 := isX xL kL170
  have kL200 := isX xL kL200
  have rL203 := fL0
  have rL204 := fL1
  have rL205 := fL2
  have kL206 := fL3
  have nL207 := fL4
  have kL208 := fL5
  have nL209 := fL6
  have kL210 := fL7
  have nL211 := fL8
  refine q_stFlow X hw kL29 kL200 (vinl nL30 (by decide) t_3 (by decide)) dX3_init_65 (fun H locs hw => ?_)
  obtain ⟨T65_212, eT65_212, hw⟩ : ∃ zz9 : Pl, zz9 = tR S62_202 a17_20 (va_up (qR S62_202 a17_20) 3 (some a58_175)) ∧ PX G A s.heap zz9 H locs := ⟨_, rfl, hw⟩
  have xx := ExX.mT e28ns eT65_212 xx
  have rL9 := rfT eT65_212 rL9
  have rL10 := rfT eT65_212 rL10
  have rL11 := rfT eT65_212 rL11
  have nL13 := lnT eT65_212 nL13
  have nL15 := lnT eT65_212 nL15
  have nL17 := lnT eT65_212 nL17
  have rL19 := rfT eT65_212 rL19
  have nL30 := lnT eT65_212 nL30
  have rL32 := rfT eT65_212 rL32
  have nL44 := lnT eT65_212 nL44
  have rL46 := rfT eT65_212 rL46
  have nL59 := lnT eT65_212 nL59
  have rL61 := rfT eT65_212 rL61
  have nL75 := lnT eT65_212 nL75
  have rL77 := rfT eT65_212 rL77
  have rL95 := rfT eT65_212 rL95
  have rL96 := rfT eT65_212 rL96
  have rL97 := rfT eT65_212 rL97
  have nL99 := lnT eT65_212 nL99
  have nL101 := lnT eT65_212 nL101
  have nL103 := lnT eT65_212 nL103
  have uL105 := qrT eT65_212 (by decide) uL105
  have rL127 := rfT eT65_212 rL127
  have rL128 := rfT eT65_212 rL128
  have rL129 := rfT eT65_212 rL129
  have nL131 := lnT eT65_212 nL131
  have nL133 := lnT eT65_212 nL133
  have nL135 := lnT eT65_212 nL135
  have uL137 := qrT eT65_212 (by decide) uL137
  have rL163 := rfT eT65_212 rL163
  have rL164 := rfT eT65_212 rL164
  have rL165 := rfT eT65_212 rL165
  have nL167 := lnT eT65_212 nL167
  have nL169 := lnT eT65_212 nL169
  have nL171 := lnT eT65_212 nL171
  have uL173 := qrT eT65_212 (by decide) uL173
  have rL203 := rfT eT65_212 rL203
  have rL204 := rfT eT65_212 rL204
  have rL205 := rfT eT65_212 rL205
  have nL207 := lnT eT65_212 nL207
  have nL209 := lnT eT65_212 nL209
  have nL211 := lnT eT65_212 nL211
  have k0 := isT eT65_212 k0
  have kL6 := isT eT65_212 kL6
  have kL12 := isT eT65_212 kL12
  have kL14 := isT eT65_212 kL14
  have kL16 := isT eT65_212 kL16
  have kL29 := isT eT65_212 kL29
  have kL43 := isT eT65_212 kL43
  have kL58 := isT eT65_212 kL58
  have kL74 := isT eT65_212 kL74
  have kL92 := isT eT65_212 kL92
  have kL98 := isT eT65_212 kL98
  have kL100 := isT eT65_212 kL100
  have kL102 := isT eT65_212 kL102
  have kL124 := isT eT65_212 kL124
  have kL130 := isT eT65_212 kL130
  have kL132 := isT eT65_212 kL132
  have kL134 := isT eT65_212 kL134
  have kL160 := isT eT65_212 kL160
  have kL166 := isT eT65_212 kL166
  have kL168 := isT eT65_212 kL168
  have kL170 := isT eT65_212 kL170
  have kL200 := isT eT65_212 kL200
  have kL206 := isT eT65_212 kL206
  have kL208 := isT eT65_212 kL208
  have kL210 := isT eT65_212 kL210
  have uL213 := qrT_n eT65_212
  refine lv_iinc (v := 4) (lv' := [(1, .int 4), (0, .ref s0)]) hx hb dX3_init_66 hl (k := 0) rfl (by decide) (by decide) rfl (fun ls hl => ?_)
  refine lv_goto (tgt := 48) hx hb dX3_init_69 (by decide) ?_
  refine lv_iload_n hx hb dX3_init_48 rfl (lv_at hl 0 rfl) ?_
  refine lv_iconst (v := 4) hx hb dX3_init_49 (by decide) ?_
  refine lv_icmp_ge (tgt := 72) hx hb dX3_init_50 (by decide) (fun c50_214 => ?_) (fun c50_214 => absurd c50_214 (by decide))
  refine lv_iconst (v := 0) hx hb dX3_init_72 (by decide) ?_
  refine lv_istore_n (lv' := [(1, .int 0), (0, .ref s0)]) hx hb dX3_init_73 rfl hl (by decide) rfl (fun ls hl => ?_)
  have lp74 : ∀ (N9 : Nat) (q74 : Nat → Nat → Int32) (k : Int32), (0 ≤ k.toInt ∧ k.toInt ≤ 4) → (4 - k.toInt).toNat < N9 → ∀ (H : Heap) (locs : List Loc) (ls : Array Slot), PX G A s.heap (ch T65_212 (pI T65_212) (pJ T65_212) q74 (qJ T65_212)) H locs → lv_has ls 2 [(1, .int k), (0, .ref s0)] → W p l e (Rm 2 24 1209) s m args below meth c H locs 24 1209 Q (F0 m 74 ls []) := by
    intro N9
    induction N9 with
    | zero => intro q74 k hi hm; exact absurd hm (Nat.not_lt_zero _)
    | succ N9 ih74 =>
      intro q74 k hi hm H locs ls hw hl
      refine lv_iload_n hx hb dX3_init_74 rfl (lv_at hl 0 rfl) ?_
      refine lv_iconst (v := 4) hx hb dX3_init_75 (by decide) ?_
      refine lv_icmp_ge (tgt := 92) hx hb dX3_init_76 (by decide) (fun c76_215 => ?_) (fun c76_215 => ?_)
      · have D76_215 := iLe c76_215 t_4 rfl
        refine lv_iconst (v := 0) hx hb dX3_init_92 (by decide) ?_
        refine lv_istore_n (lv' := [(1, .int 0), (0, .ref s0)]) hx hb dX3_init_93 rfl hl (by decide) rfl (fun ls hl => ?_)
        have lp94 : ∀ (N9 : Nat) (q94 : Nat → Nat → Int32) (n : Int32), (0 ≤ n.toInt ∧ n.toInt ≤ 42) → (42 - n.toInt).toNat < N9 → ∀ (H : Heap) (locs : List Loc) (ls : Array Slot), PX G A s.heap (ch T65_212 (pI T65_212) (pJ T65_212) q94 (qJ T65_212)) H locs → lv_has ls 2 [(1, .int n), (0, .ref s0)] → W p l e (Rm 2 24 1209) s m args below meth c H locs 24 1209 Q (F0 m 94 ls []) := by
          intro N9
          induction N9 with
          | zero => intro q94 n hi hm; exact absurd hm (Nat.not_lt_zero _)
          | succ N9 ih94 =>
            intro q94 n hi hm H locs ls hw hl
            refine lv_iload_n hx hb dX3_init_94 rfl (lv_at hl 0 rfl) ?_
            refine lv_aload_n hx hb dX3_init_95 rfl (lv_at hl 1 rfl) ?_
            refine gf_X3_30 (b := a41_62) X hw k0 rL77 dX3_init_96 ?_
            refine q_lenI (v := 42) X hw kL74 (by rw [show _ = 42 from nL75]; decide) dX3_init_99 ?_
            refine lv_icmp_ge (tgt := 117) hx hb dX3_init_100 (by decide) (fun c100_216 => ?_) (fun c100_216 => ?_)
            · have D100_216 := iLe c100_216 t_42 rfl
              have hf0 : shFlow (ch T65_212 (pI T65_212) (pJ T65_212) q94 (qJ T65_212)) (fl (fun i => ([s0, a17_20, a25_33, a33_47, a41_62, 0, 0, 0, 0, 0, a5_1, b1_a5_1, b2_a5_1, b3_a5_1, a58_79, b1_a58_79, b2_a58_79, b3_a58_79, a58_107, b1_a58_107, b2_a58_107, b3_a58_107, a58_139, b1_a58_139, b2_a58_139, b3_a58_139, a58_175, b1_a58_175, b2_a58_175, b3_a58_175] : List Nat).getD i 0) 0) := ⟨kL6, rL9, rL10, rL11, kL12, nL13, kL14, nL15, kL16, nL17⟩
              have hf1 : shFlow (ch T65_212 (pI T65_212) (pJ T65_212) q94 (qJ T65_212)) (fl (fun i => ([s0, a17_20, a25_33, a33_47, a41_62, 0, 0, 0, 0, 0, a5_1, b1_a5_1, b2_a5_1, b3_a5_1, a58_79, b1_a58_79, b2_a58_79, b3_a58_79, a58_107, b1_a58_107, b2_a58_107, b3_a58_107, a58_139, b1_a58_139, b2_a58_139, b3_a58_139, a58_175, b1_a58_175, b2_a58_175, b3_a58_175] : List Nat).getD i 0) 1) := ⟨kL92, rL95, rL96, rL97, kL98, nL99, kL100, nL101, kL102, nL103⟩
              have hf2 : shFlow (ch T65_212 (pI T65_212) (pJ T65_212) q94 (qJ T65_212)) (fl (fun i => ([s0, a17_20, a25_33, a33_47, a41_62, 0, 0, 0, 0, 0, a5_1, b1_a5_1, b2_a5_1, b3_a5_1, a58_79, b1_a58_79, b2_a58_79, b3_a58_79, a58_107, b1_a58_107, b2_a58_107, b3_a58_107, a58_139, b1_a58_139, b2_a58_139, b3_a58_139, a58_175, b1_a58_175, b2_a58_175, b3_a58_175] : List Nat).getD i 0) 2) := ⟨kL124, rL127, rL128, rL129, kL130, nL131, kL132, nL133, kL134, nL135⟩
              have hf3 : shFlow (ch T65_212 (pI T65_212) (pJ T65_212) q94 (qJ T65_212)) (fl (fun i => ([s0, a17_20, a25_33, a33_47, a41_62, 0, 0, 0, 0, 0, a5_1, b1_a5_1, b2_a5_1, b3_a5_1, a58_79, b1_a58_79, b2_a58_79, b3_a58_79, a58_107, b1_a58_107, b2_a58_107, b3_a58_107, a58_139, b1_a58_139, b2_a58_139, b3_a58_139, a58_175, b1_a58_175, b2_a58_175, b3_a58_175] : List Nat).getD i 0) 3) := ⟨kL160, rL163, rL164, rL165, kL166, nL167, kL168, nL169, kL170, nL171⟩
              have hf4 : shFlow (ch T65_212 (pI T65_212) (pJ T65_212) q94 (qJ T65_212)) (fl (fun i => ([s0, a17_20, a25_33, a33_47, a41_62, 0, 0, 0, 0, 0, a5_1, b1_a5_1, b2_a5_1, b3_a5_1, a58_79, b1_a58_79, b2_a58_79, b3_a58_79, a58_107, b1_a58_107, b2_a58_107, b3_a58_107, a58_139, b1_a58_139, b2_a58_139, b3_a58_139, a58_175, b1_a58_175, b2_a58_175, b3_a58_175] : List Nat).getD i 0) 4) := ⟨kL200, rL203, rL204, rL205, kL206, nL207, kL208, nL209, kL210, nL211⟩
              have hq : ∀ i, i < 4 → qR (ch T65_212 (pI T65_212) (pJ T65_212) q94 (qJ T65_212)) a17_20 i = some (fl (fun i => ([s0, a17_20, a25_33, a33_47, a41_62, 0, 0, 0, 0, 0, a5_1, b1_a5_1, b2_a5_1, b3_a5_1, a58_79, b1_a58_79, b2_a58_79, b3_a58_79, a58_107, b1_a58_107, b2_a58_107, b3_a58_107, a58_139, b1_a58_139, b2_a58_139, b3_a58_139, a58_175, b1_a58_175, b2_a58_175, b3_a58_175] : List Nat).getD i 0) (i + 1) 0) := fun i hi => match i, hi with | 0, _ => uL105 | 1, _ => uL137 | 2, _ => uL173 | 3, _ => uL213 | i + 4, h => absurd h (by omega)
              have hfz : ∀ i, i < 5 → shFlow (ch T65_212 (pI T65_212) (pJ T65_212) q94 (qJ T65_212)) (fl (fun i => ([s0, a17_20, a25_33, a33_47, a41_62, 0, 0, 0, 0, 0, a5_1, b1_a5_1, b2_a5_1, b3_a5_1, a58_79, b1_a58_79, b2_a58_79, b3_a58_79, a58_107, b1_a58_107, b2_a58_107, b3_a58_107, a58_139, b1_a58_139, b2_a58_139, b3_a58_139, a58_175, b1_a58_175, b2_a58_175, b3_a58_175] : List Nat).getD i 0) i) := fun i hi => match i, hi with | 0, _ => hf0 | 1, _ => hf1 | 2, _ => hf2 | 3, _ => hf3 | 4, _ => hf4 | i + 5, h => absurd h (by omega)
              exact hret (ch T65_212 (pI T65_212) (pJ T65_212) q94 (qJ T65_212)) _ _ _ _ ⟨(fun i => ([s0, a17_20, a25_33, a33_47, a41_62, 0, 0, 0, 0, 0, a5_1, b1_a5_1, b2_a5_1, b3_a5_1, a58_79, b1_a58_79, b2_a58_79, b3_a58_79, a58_107, b1_a58_107, b2_a58_107, b3_a58_107, a58_139, b1_a58_139, b2_a58_139, b3_a58_139, a58_175, b1_a58_175, b2_a58_175, b3_a58_175] : List Nat).getD i 0), rfl, xx, ⟨k0, rL19, rL32, rL46, rL61, rL77, kL29, nL30, hq, kL43, nL44, kL58, nL59, kL74, nL75, hfz⟩⟩ hw dX3_init_117
            · have D100_216 := iNle c100_216 t_42 rfl
              refine lv_aload_n hx hb dX3_init_103 rfl (lv_at hl 1 rfl) ?_
              refine gf_X3_30 (b := a41_62) X hw k0 rL77 dX3_init_104 ?_
              refine lv_iload_n hx hb dX3_init_107 rfl (lv_at hl 0 rfl) ?_
              refine lv_bipush (v := 100) hx hb dX3_init_108 (by decide) ?_
              refine q_stI X hw kL74 (vin nL75 (by omega) (by omega)) dX3_init_110 (fun H locs hw => ?_)
              obtain ⟨q110_217, hw⟩ : ∃ zz9, PX G A s.heap (ch T65_212 (pI T65_212) (pJ T65_212) zz9 (qJ T65_212)) H locs := ⟨_, hw⟩
              obtain ⟨v111_218, e111_218⟩ : ∃ y : Int32, y = n + 1 := ⟨_, rfl⟩
              have t111_218 := iAdd e111_218 rfl t_1 (by omega) (by omega)
              have t111 := t111_218
              refine lv_iinc (v := v111_218) (lv' := [(1, .int v111_218), (0, .ref s0)]) hx hb dX3_init_111 hl (k := 0) rfl (by rw [e111_218]; rfl) (by decide) rfl (fun ls hl => ?_)
              refine lv_goto (tgt := 94) hx hb dX3_init_114 (by decide) ?_
              exact ih94 q110_217 v111_218 (by omega) (by omega) _ _ _ hw (lv_sub hl [0, 1] rfl)
        exact lp94 _ q74 0 (by have := t_0; omega) (Nat.lt_succ_self _) _ _ _ hw (lv_sub hl [0, 1] rfl)
      · have D76_215 := iNle c76_215 t_4 rfl
        refine lv_aload_n hx hb dX3_init_79 rfl (lv_at hl 1 rfl) ?_
        refine gf_X3_22 (b := a25_33) X hw k0 rL46 dX3_init_80 ?_
        refine lv_iload_n hx hb dX3_init_83 rfl (lv_at hl 0 rfl) ?_
        refine lv_iconst (v := 3) hx hb dX3_init_84 (by decide) ?_
        refine q_stI X hw kL43 (vin nL44 (by omega) (by omega)) dX3_init_85 (fun H locs hw => ?_)
        obtain ⟨q85_219, hw⟩ : ∃ zz9, PX G A s.heap (ch T65_212 (pI T65_212) (pJ T65_212) zz9 (qJ T65_212)) H locs := ⟨_, hw⟩
        obtain ⟨v86_220, e86_220⟩ : ∃ y : Int32, y = k + 1 := ⟨_, rfl⟩
        have t86_220 := iAdd e86_220 rfl t_1 (by omega) (by omega)
        have t86 := t86_220
        refine lv_iinc (v := v86_220) (lv' := [(1, .int v86_220), (0, .ref s0)]) hx hb dX3_init_86 hl (k := 0) rfl (by rw [e86_220]; rfl) (by decide) rfl (fun ls hl => ?_)
        refine lv_goto (tgt := 74) hx hb dX3_init_89 (by decide) ?_
        exact ih74 q85_219 v86_220 (by omega) (by omega) _ _ _ hw (lv_sub hl [0, 1] rfl)
  exact lp74 _ (qI T65_212) 0 (by have := t_0; omega) (Nat.lt_succ_self _) _ _ _ hw (lv_sub hl [0, 1] rfl)
set_option maxHeartbeats 4000000 in
set_option maxRecDepth 100000 in
theorem c_X6_init (l : Launch) (G : Gh) (S : Pl) (p0 : Nat)  (k0 : is S 5 p0) : MtV l yX6_init cX6_init 1 none (Rm 1 5 1803) G [.ref p0] S (fun (S' : Pl) => ∃ sp : Nat → Nat, sp 0 = p0 ∧ ExX p0 S S' ∧ shSpl S' sp) 5 1803 := by
  refine MtV.of (by decide) (Nat.le_of_ble_eq_true rfl) ?_
  intro p e s m args below meth c Q A X hw hin hret ls hl
  have hx := X.1.1
  have hb := X.1.2.1
  have hl : lv_has ls 1 [(0, .ref p0)] := hl
  have xx := ExX.rf (S := S) (b := p0)
  refine lv_aload_n hx hb dX6_init_0 rfl (lv_at hl 0 rfl) ?_
  refine W.objInit hx hb X.1.2.2.2.1 (X.1.2.2.2.2 _ wd_r4_2) (X.1.2.2.2.2 _ wd_r1_10) (X.1.2.2.2.2 _ wd_r1_11) rfl (by rw [X.1.2.2.1]; exact hl.1) rfl dX6_init_1 (Nat.le_of_ble_eq_true rfl) (Nat.le_of_ble_eq_true rfl) ?_
  refine W.eq (g2 := F0 m 4 ls []) rfl ?_
  refine lv_aload_n hx hb dX6_init_4 rfl (lv_at hl 0 rfl) ?_
  refine lv_bipush (v := 40) hx hb dX6_init_5 (by decide) ?_
  refine q_nwI (N' := 40) X hw wd_r2_21 (by decide) (by decide) (by decide) (Nat.le_of_ble_eq_true rfl) (Nat.le_of_ble_eq_true rfl) dX6_init_7 (fun a7_1 H f7_2 hw => ?_)
  obtain ⟨T7_3, eT7_3, hw⟩ : ∃ zz9 : Pl, zz9 = nA S a7_1 13 40 ∧ PX G A s.heap zz9 H [] := ⟨_, rfl, hw⟩
  have e4ne := (ne_of k0.1 f7_2)
  have e5ns := fresh_of xx f7_2
  have xx := ExX.mA eT7_3 f7_2 xx
  have k0 := isA eT7_3 f7_2 k0
  have kL6 := isA_n eT7_3
  have nL7 := lnA_n eT7_3
  refine pf_X6_9 X hw k0 hin dX6_init_9 (fun H locs hw => ?_)
  obtain ⟨T9_8, eT9_8, hw⟩ : ∃ zz9 : Pl, zz9 = sR T7_3 40 p0 (some a7_1) ∧ PX G A s.heap zz9 H locs := ⟨_, rfl, hw⟩
  have xx := ExX.mR eT9_8 xx
  have nL7 := lnR eT9_8 nL7
  have k0 := isR eT9_8 k0
  have kL6 := isR eT9_8 kL6
  have rL9 := rfR_n eT9_8
  refine lv_aload_n hx hb dX6_init_12 rfl (lv_at hl 0 rfl) ?_
  refine lv_bipush (v := 40) hx hb dX6_init_13 (by decide) ?_
  refine q_nwJ (N' := 40) X hw wd_r2_5 (by decide) (by decide) (by decide) (Nat.le_of_ble_eq_true rfl) (Nat.le_of_ble_eq_true rfl) dX6_init_15 (fun a15_10 H f15_11 hw => ?_)
  obtain ⟨T15_12, eT15_12, hw⟩ : ∃ zz9 : Pl, zz9 = nA T9_8 a15_10 14 40 ∧ PX G A s.heap zz9 H locs := ⟨_, rfl, hw⟩
  have e13ne := (ne_of k0.1 f15_11)
  have e14ne := (ne_of kL6.1 f15_11)
  have e15ns := fresh_of xx f15_11
  have xx := ExX.mA eT15_12 f15_11 xx
  have nL7 := lnA eT15_12 f15_11 kL6.1 nL7
  have rL9 := rfA eT15_12 rL9
  have k0 := isA eT15_12 f15_11 k0
  have kL6 := isA eT15_12 f15_11 kL6
  have kL16 := isA_n eT15_12
  have nL17 := lnA_n eT15_12
  refine pf_X6_15 X hw k0 hin dX6_init_17 (fun H locs hw => ?_)
  obtain ⟨T17_18, eT17_18, hw⟩ : ∃ zz9 : Pl, zz9 = sR T15_12 41 p0 (some a15_10) ∧ PX G A s.heap zz9 H locs := ⟨_, rfl, hw⟩
  have xx := ExX.mR eT17_18 xx
  have nL7 := lnR eT17_18 nL7
  have rL9 := rfR eT17_18 (by decide) rL9
  have nL17 := lnR eT17_18 nL17
  have k0 := isR eT17_18 k0
  have kL6 := isR eT17_18 kL6
  have kL16 := isR eT17_18 kL16
  have rL19 := rfR_n eT17_18
  refine lv_aload_n hx hb dX6_init_20 rfl (lv_at hl 0 rfl) ?_
  refine lv_bipush (v := 21) hx hb dX6_init_21 (by decide) ?_
  refine q_nwI (N' := 21) X hw wd_r2_21 (by decide) (by decide) (by decide) (Nat.le_of_ble_eq_true rfl) (Nat.le_of_ble_eq_true rfl) dX6_init_23 (fun a23_20 H f23_21 hw => ?_)
  obtain ⟨T23_22, eT23_22, hw⟩ : ∃ zz9 : Pl, zz9 = nA T17_18 a23_20 13 21 ∧ PX G A s.heap zz9 H locs := ⟨_, rfl, hw⟩
  have e23ne := (ne_of k0.1 f23_21)
  have e24ne := (ne_of kL6.1 f23_21)
  have e25ne := (ne_of kL16.1 f23_21)
  have e26ns := fresh_of xx f23_21
  have xx := ExX.mA eT23_22 f23_21 xx
  have nL7 := lnA eT23_22 f23_21 kL6.1 nL7
  have rL9 := rfA eT23_22 rL9
  have nL17 := lnA eT23_22 f23_21 kL16.1 nL17
  have rL19 := rfA eT23_22 rL19
  have k0 := isA eT23_22 f23_21 k0
  have kL6 := isA eT23_22 f23_21 kL6
  have kL16 := isA eT23_22 f23_21 kL16
  have kL27 := isA_n eT23_22
  have nL28 := lnA_n eT23_22
  refine pf_X6_19 X hw k0 hin dX6_init_25 (fun H locs hw => ?_)
  obtain ⟨T25_29, eT25_29, hw⟩ : ∃ zz9 : Pl, zz9 = sR T23_22 42 p0 (some a23_20) ∧ PX G A s.heap zz9 H locs := ⟨_, rfl, hw⟩
  have xx := ExX.mR eT25_29 xx
  have nL7 := lnR eT25_29 nL7
  have rL9 := rfR eT25_29 (by decide) rL9
  have nL17 := lnR eT25_29 nL17
  have rL19 := rfR eT25_29 (by decide) rL19
  have nL28 := lnR eT25_29 nL28
  have k0 := isR eT25_29 k0
  have kL6 := isR eT25_29 kL6
  have kL16 := isR eT25_29 kL16
  have kL27 := isR eT25_29 kL27
  have rL30 := rfR_n eT25_29
  refine lv_aload_n hx hb dX6_init_28 rfl (lv_at hl 0 rfl) ?_
  refine lv_bipush (v := 21) hx hb dX6_init_29 (by decide) ?_
  refine q_nwI (N' := 21) X hw wd_r2_21 (by decide) (by decide) (by decide) (Nat.le_of_ble_eq_true rfl) (Nat.le_of_ble_eq_true rfl) dX6_init_31 (fun a31_31 H f31_32 hw => ?_)
  obtain ⟨T31_33, eT31_33, hw⟩ : ∃ zz9 : Pl, zz9 = nA T25_29 a31_31 13 21 ∧ PX G A s.heap zz9 H locs := ⟨_, rfl, hw⟩
  have e34ne := (ne_of k0.1 f31_32)
  have e35ne := (ne_of kL6.1 f31_32)
  have e36ne := (ne_of kL16.1 f31_32)
  have e37ne := (ne_of kL27.1 f31_32)
  have e38ns := fresh_of xx f31_32
  have xx := ExX.mA eT31_33 f31_32 xx
  have nL7 := lnA eT31_33 f31_32 kL6.1 nL7
  have rL9 := rfA eT31_33 rL9
  have nL17 := lnA eT31_33 f31_32 kL16.1 nL17
  have rL19 := rfA eT31_33 rL19
  have nL28 := lnA eT31_33 f31_32 kL27.1 nL28
  have rL30 := rfA eT31_33 rL30
  have k0 := isA eT31_33 f31_32 k0
  have kL6 := isA eT31_33 f31_32 kL6
  have kL16 := isA eT31_33 f31_32 kL16
  have kL27 := isA eT31_33 f31_32 kL27
  have kL39 := isA_n eT31_33
  have nL40 := lnA_n eT31_33
  refine pf_X6_22 X hw k0 hin dX6_init_33 (fun H locs hw => ?_)
  obtain ⟨T33_41, eT33_41, hw⟩ : ∃ zz9 : Pl, zz9 = sR T31_33 43 p0 (some a31_31) ∧ PX G A s.heap zz9 H locs := ⟨_, rfl, hw⟩
  have xx := ExX.mR eT33_41 xx
  have nL7 := lnR eT33_41 nL7
  have rL9 := rfR eT33_41 (by decide) rL9
  have nL17 := lnR eT33_41 nL17
  have rL19 := rfR eT33_41 (by decide) rL19
  have nL28 := lnR eT33_41 nL28
  have rL30 := rfR eT33_41 (by decide) rL30
  have nL40 := lnR eT33_41 nL40
  have k0 := isR eT33_41 k0
  have kL6 := isR eT33_41 kL6
  have kL16 := isR eT33_41 kL16
  have kL27 := isR eT33_41 kL27
  have kL39 := isR eT33_41 kL39
  have rL42 := rfR_n eT33_41
  refine lv_aload_n hx hb dX6_init_36 rfl (lv_at hl 0 rfl) ?_
  refine lv_sipush (v := 1681) hx hb dX6_init_37 (by decide) ?_
  refine q_nwJ (N' := 1681) X hw wd_r2_5 (by decide) (by decide) (by decide) (Nat.le_of_ble_eq_true rfl) (Nat.le_of_ble_eq_true rfl) dX6_init_40 (fun a40_43 H f40_44 hw => ?_)
  obtain ⟨T40_45, eT40_45, hw⟩ : ∃ zz9 : Pl, zz9 = nA T33_41 a40_43 14 1681 ∧ PX G A s.heap zz9 H locs := ⟨_, rfl, hw⟩
  have e46ne := (ne_of k0.1 f40_44)
  have e47ne := (ne_of kL6.1 f40_44)
  have e48ne := (ne_of kL16.1 f40_44)
  have e49ne := (ne_of kL27.1 f40_44)
  have e50ne := (ne_of kL39.1 f40_44)
  have e51ns := fresh_of xx f40_44
  have xx := ExX.mA eT40_45 f40_44 xx
  have nL7 := lnA eT40_45 f40_44 kL6.1 nL7
  have rL9 := rfA eT40_45 rL9
  have nL17 := lnA eT40_45 f40_44 kL16.1 nL17
  have rL19 := rfA eT40_45 rL19
  have nL28 := lnA eT40_45 f40_44 kL27.1 nL28
  have rL30 := rfA eT40_45 rL30
  have nL40 := lnA eT40_45 f40_44 kL39.1 nL40
  have rL42 := rfA eT40_45 rL42
  have k0 := isA eT40_45 f40_44 k0
  have kL6 := isA eT40_45 f40_44 kL6
  have kL16 := isA eT40_45 f40_44 kL16
  have kL27 := isA eT40_45 f40_44 kL27
  have kL39 := isA eT40_45 f40_44 kL39
  have kL52 := isA_n eT40_45
  have nL53 := lnA_n eT40_45
  refine pf_X6_25 X hw k0 hin dX6_init_42 (fun H locs hw => ?_)
  obtain ⟨T42_54, eT42_54, hw⟩ : ∃ zz9 : Pl, zz9 = sR T40_45 44 p0 (some a40_43) ∧ PX G A s.heap zz9 H locs := ⟨_, rfl, hw⟩
  have xx := ExX.mR eT42_54 xx
  have nL7 := lnR eT42_54 nL7
  have rL9 := rfR eT42_54 (by decide) rL9
  have nL17 := lnR eT42_54 nL17
  have rL19 := rfR eT42_54 (by decide) rL19
  have nL28 := lnR eT42_54 nL28
  have rL30 := rfR eT42_54 (by decide) rL30
  have nL40 := lnR eT42_54 nL40
  have rL42 := rfR eT42_54 (by decide) rL42
  have nL53 := lnR eT42_54 nL53
  have k0 := isR eT42_54 k0
  have kL6 := isR eT42_54 kL6
  have kL16 := isR eT42_54 kL16
  have kL27 := isR eT42_54 kL27
  have kL39 := isR eT42_54 kL39
  have kL52 := isR eT42_54 kL52
  have rL55 := rfR_n eT42_54
  exact hret T42_54 _ _ _ _ ⟨(fun i => ([p0, a7_1, a15_10, a23_20, a31_31, a40_43] : List Nat).getD i 0), rfl, xx, ⟨k0, rL9, rL19, rL30, rL42, rL55, kL6, nL7, kL16, nL17, kL27, nL28, kL39, nL40, kL52, nL53, e37ne⟩⟩ hw dX6_init_45
set_option maxHeartbeats 4000000 in
set_option maxRecDepth 100000 in
theorem c_X7_init (l : Launch) (G : Gh) (S : Pl) (ta : Nat) (k x y h u : Int32) (k0 : is S 6 ta) : MtV l yX7_init cX7_init 6 none (Rm 1 1 73) G [.ref ta, .int k, .int x, .int y, .int h, .int u] S (fun (S' : Pl) => ∃ tm, ExX ta S S' ∧ shTale S' ta tm ∧ pI S' 54 ta = u) 1 73 := by
  refine MtV.of (by decide) (Nat.le_of_ble_eq_true rfl) ?_
  intro p e s m args below meth c Q A X hw hin hret ls hl
  have hx := X.1.1
  have hb := X.1.2.1
  have hl : lv_has ls 6 [(0, .ref ta), (1, .int k), (2, .int x), (3, .int y), (4, .int h), (5, .int u)] := hl
  have xx := ExX.rf (S := S) (b := ta)
  refine lv_aload_n hx hb dX7_init_0 rfl (lv_at hl 0 rfl) ?_
  refine W.objInit hx hb X.1.2.2.2.1 (X.1.2.2.2.2 _ wd_r27_7) (X.1.2.2.2.2 _ wd_r1_10) (X.1.2.2.2.2 _ wd_r1_11) rfl (by rw [X.1.2.2.1]; exact hl.1) rfl dX7_init_1 (Nat.le_of_ble_eq_true rfl) (Nat.le_of_ble_eq_true rfl) ?_
  refine W.eq (g2 := F0 m 4 ls []) rfl ?_
  refine lv_aload_n hx hb dX7_init_4 rfl (lv_at hl 0 rfl) ?_
  refine lv_bipush (v := 73) hx hb dX7_init_5 (by decide) ?_
  refine q_nwS (N' := 73) X hw wd_r27_8 (by decide) (by decide) (by decide) (Nat.le_of_ble_eq_true rfl) (Nat.le_of_ble_eq_true rfl) dX7_init_7 (fun a7_1 H f7_2 hw => ?_)
  obtain ⟨T7_3, eT7_3, hw⟩ : ∃ zz9 : Pl, zz9 = nA S a7_1 15 73 ∧ PX G A s.heap zz9 H [] := ⟨_, rfl, hw⟩
  have e4ne := (ne_of k0.1 f7_2)
  have e5ns := fresh_of xx f7_2
  have xx := ExX.mA eT7_3 f7_2 xx
  have k0 := isA eT7_3 f7_2 k0
  have kL6 := isA_n eT7_3
  have nL7 := lnA_n eT7_3
  refine pf_X7_9 X hw k0 hin dX7_init_9 (fun H locs hw => ?_)
  obtain ⟨T9_8, eT9_8, hw⟩ : ∃ zz9 : Pl, zz9 = sR T7_3 55 ta (some a7_1) ∧ PX G A s.heap zz9 H locs := ⟨_, rfl, hw⟩
  have xx := ExX.mR eT9_8 xx
  have nL7 := lnR eT9_8 nL7
  have k0 := isR eT9_8 k0
  have kL6 := isR eT9_8 kL6
  have rL9 := rfR_n eT9_8
  refine lv_aload_n hx hb dX7_init_12 rfl (lv_at hl 0 rfl) ?_
  refine lv_iload_n hx hb dX7_init_13 rfl (lv_at hl 1 rfl) ?_
  refine pf_X7_15 X hw k0 hin dX7_init_14 (fun H locs hw => ?_)
  obtain ⟨T14_10, eT14_10, hw⟩ : ∃ zz9 : Pl, zz9 = sI T9_8 50 ta k ∧ PX G A s.heap zz9 H locs := ⟨_, rfl, hw⟩
  have xx := ExX.mI eT14_10 xx
  have nL7 := lnI eT14_10 nL7
  have rL9 := rfI eT14_10 rL9
  have k0 := isI eT14_10 k0
  have kL6 := isI eT14_10 kL6
  have vL11 := ivI_n eT14_10
  refine lv_aload_n hx hb dX7_init_17 rfl (lv_at hl 0 rfl) ?_
  refine lv_iload_n hx hb dX7_init_18 rfl (lv_at hl 2 rfl) ?_
  refine pf_X7_19 X hw k0 hin dX7_init_19 (fun H locs hw => ?_)
  obtain ⟨T19_12, eT19_12, hw⟩ : ∃ zz9 : Pl, zz9 = sI T14_10 51 ta x ∧ PX G A s.heap zz9 H locs := ⟨_, rfl, hw⟩
  have xx := ExX.mI eT19_12 xx
  have nL7 := lnI eT19_12 nL7
  have rL9 := rfI eT19_12 rL9
  have vL11 := ivI eT19_12 (by decide) vL11
  have k0 := isI eT19_12 k0
  have kL6 := isI eT19_12 kL6
  have vL13 := ivI_n eT19_12
  refine lv_aload_n hx hb dX7_init_22 rfl (lv_at hl 0 rfl) ?_
  refine lv_iload_n hx hb dX7_init_23 rfl (lv_at hl 3 rfl) ?_
  refine pf_X7_22 X hw k0 hin dX7_init_24 (fun H locs hw => ?_)
  obtain ⟨T24_14, eT24_14, hw⟩ : ∃ zz9 : Pl, zz9 = sI T19_12 52 ta y ∧ PX G A s.heap zz9 H locs := ⟨_, rfl, hw⟩
  have xx := ExX.mI eT24_14 xx
  have nL7 := lnI eT24_14 nL7
  have rL9 := rfI eT24_14 rL9
  have vL11 := ivI eT24_14 (by decide) vL11
  have vL13 := ivI eT24_14 (by decide) vL13
  have k0 := isI eT24_14 k0
  have kL6 := isI eT24_14 kL6
  have vL15 := ivI_n eT24_14
  refine lv_aload_n hx hb dX7_init_27 rfl (lv_at hl 0 rfl) ?_
  refine lv_iload hx hb dX7_init_28 (lv_at hl 4 rfl) ?_
  refine pf_X7_25 X hw k0 hin dX7_init_30 (fun H locs hw => ?_)
  obtain ⟨T30_16, eT30_16, hw⟩ : ∃ zz9 : Pl, zz9 = sI T24_14 53 ta h ∧ PX G A s.heap zz9 H locs := ⟨_, rfl, hw⟩
  have xx := ExX.mI eT30_16 xx
  have nL7 := lnI eT30_16 nL7
  have rL9 := rfI eT30_16 rL9
  have vL11 := ivI eT30_16 (by decide) vL11
  have vL13 := ivI eT30_16 (by decide) vL13
  have vL15 := ivI eT30_16 (by decide) vL15
  have k0 := isI eT30_16 k0
  have kL6 := isI eT30_16 kL6
  have vL17 := ivI_n eT30_16
  refine lv_aload_n hx hb dX7_init_33 rfl (lv_at hl 0 rfl) ?_
  refine lv_iload hx hb dX7_init_34 (lv_at hl 5 rfl) ?_
  refine pf_X7_28 X hw k0 hin dX7_init_36 (fun H locs hw => ?_)
  obtain ⟨T36_18, eT36_18, hw⟩ : ∃ zz9 : Pl, zz9 = sI T30_16 54 ta u ∧ PX G A s.heap zz9 H locs := ⟨_, rfl, hw⟩
  have xx := ExX.mI eT36_18 xx
  have nL7 := lnI eT36_18 nL7
  have rL9 := rfI eT36_18 rL9
  have vL11 := ivI eT36_18 (by decide) vL11
  have vL13 := ivI eT36_18 (by decide) vL13
  have vL15 := ivI eT36_18 (by decide) vL15
  have vL17 := ivI eT36_18 (by decide) vL17
  have k0 := isI eT36_18 k0
  have kL6 := isI eT36_18 kL6
  have vL19 := ivI_n eT36_18
  exact hret T36_18 _ _ _ _ ⟨a7_1, xx, ⟨k0, rL9, kL6, nL7⟩, vL19⟩ hw dX7_init_39
set_option maxHeartbeats 4000000 in
set_option maxRecDepth 100000 in
theorem c_X5_init (l : Launch) (G : Gh) (S : Pl) (pr : Nat) (a1 a2 a3 a4 a5 a6 a7 : Int32) (k0 : is S 4 pr) (v0 : pI S 0 pr = 0) : MtV l yX5_init cX5_init 8 none (Rm 2 0 0) G [.ref pr, .int a1, .int a2, .int a3, .int a4, .int a5, .int a6, .int a7] S (fun (S' : Pl) => ExX pr S S' ∧ pI S' 0 pr = 0) 0 0 := by
  refine MtV.of (by decide) (Nat.le_of_ble_eq_true rfl) ?_
  intro p e s m args below meth c Q A X hw hin hret ls hl
  have hx := X.1.1
  have hb := X.1.2.1
  have hl : lv_has ls 8 [(0, .ref pr), (1, .int a1), (2, .int a2), (3, .int a3), (4, .int a4), (5, .int a5), (6, .int a6), (7, .int a7)] := hl
  have xx := ExX.rf (S := S) (b := pr)
  refine lv_aload_n hx hb dX5_init_0 rfl (lv_at hl 0 rfl) ?_
  refine k_INv (n := 0) (ret2 := none) (host := RX10) X hw (c_X2_init l G _ pr) (List.mem_of_getElem? (i := 13) rfl) wd_r33_4 wd_r33_5 wd_r33_6 rfl ⟨by decide, by decide, by decide +kernel⟩ rfl rfl ⟨Nat.le_of_ble_eq_true rfl, Nat.le_of_ble_eq_true rfl⟩ rfl rfl hl.1 (Nat.le_of_ble_eq_true rfl) dX5_init_1 ⟨Nat.le_of_ble_eq_true rfl, Nat.le_of_ble_eq_true rfl⟩ (fun S1_2 H locs h1_1 hw => ?_)
  obtain ⟨rfl, -⟩ := h1_1
  refine lv_aload_n hx hb dX5_init_4 rfl (lv_at hl 0 rfl) ?_
  refine lv_iload_n hx hb dX5_init_5 rfl (lv_at hl 1 rfl) ?_
  refine pf_X5_9 X hw k0 hin dX5_init_6 (fun H locs hw => ?_)
  obtain ⟨T6_3, eT6_3, hw⟩ : ∃ zz9 : Pl, zz9 = sI S 31 pr a1 ∧ PX G A s.heap zz9 H locs := ⟨_, rfl, hw⟩
  have xx := ExX.mI eT6_3 xx
  have v0 := ivI eT6_3 (by decide) v0
  have k0 := isI eT6_3 k0
  have vL4 := ivI_n eT6_3
  refine lv_aload_n hx hb dX5_init_9 rfl (lv_at hl 0 rfl) ?_
  refine lv_iload_n hx hb dX5_init_10 rfl (lv_at hl 2 rfl) ?_
  refine pf_X5_15 X hw k0 hin dX5_init_11 (fun H locs hw => ?_)
  obtain ⟨T11_5, eT11_5, hw⟩ : ∃ zz9 : Pl, zz9 = sI T6_3 32 pr a2 ∧ PX G A s.heap zz9 H locs := ⟨_, rfl, hw⟩
  have xx := ExX.mI eT11_5 xx
  have v0 := ivI eT11_5 (by decide) v0
  have vL4 := ivI eT11_5 (by decide) vL4
  have k0 := isI eT11_5 k0
  have vL6 := ivI_n eT11_5
  refine lv_aload_n hx hb dX5_init_14 rfl (lv_at hl 0 rfl) ?_
  refine lv_iload_n hx hb dX5_init_15 rfl (lv_at hl 3 rfl) ?_
  refine pf_X5_18 X hw k0 hin dX5_init_16 (fun H locs hw => ?_)
  obtain ⟨T16_7, eT16_7, hw⟩ : ∃ zz9 : Pl, zz9 = sI T11_5 33 pr a3 ∧ PX G A s.heap zz9 H locs := ⟨_, rfl, hw⟩
  have xx := ExX.mI eT16_7 xx
  have v0 := ivI eT16_7 (by decide) v0
  have vL4 := ivI eT16_7 (by decide) vL4
  have vL6 := ivI eT16_7 (by decide) vL6
  have k0 := isI eT16_7 k0
  have vL8 := ivI_n eT16_7
  refine lv_aload_n hx hb dX5_init_19 rfl (lv_at hl 0 rfl) ?_
  refine lv_iload hx hb dX5_init_20 (lv_at hl 4 rfl) ?_
  refine pf_X5_21 X hw k0 hin dX5_init_22 (fun H locs hw => ?_)
  obtain ⟨T22_9, eT22_9, hw⟩ : ∃ zz9 : Pl, zz9 = sI T16_7 34 pr a4 ∧ PX G A s.heap zz9 H locs := ⟨_, rfl, hw⟩
  have xx := ExX.mI eT22_9 xx
  have v0 := ivI eT22_9 (by decide) v0
  have vL4 := ivI eT22_9 (by decide) vL4
  have vL6 := ivI eT22_9 (by decide) vL6
  have vL8 := ivI eT22_9 (by decide) vL8
  have k0 := isI eT22_9 k0
  have vL10 := ivI_n eT22_9
  refine lv_aload_n hx hb dX5_init_25 rfl (lv_at hl 0 rfl) ?_
  refine lv_iload hx hb dX5_init_26 (lv_at hl 5 rfl) ?_
  refine pf_X5_24 X hw k0 hin dX5_init_28 (fun H locs hw => ?_)
  obtain ⟨T28_11, eT28_11, hw⟩ : ∃ zz9 : Pl, zz9 = sI T22_9 35 pr a5 ∧ PX G A s.heap zz9 H locs := ⟨_, rfl, hw⟩
  have xx := ExX.mI eT28_11 xx
  have v0 := ivI eT28_11 (by decide) v0
  have vL4 := ivI eT28_11 (by decide) vL4
  have vL6 := ivI eT28_11 (by decide) vL6
  have vL8 := ivI eT28_11 (by decide) vL8
  have vL10 := ivI eT28_11 (by decide) vL10
  have k0 := isI eT28_11 k0
  have vL12 := ivI_n eT28_11
  refine lv_aload_n hx hb dX5_init_31 rfl (lv_at hl 0 rfl) ?_
  refine lv_iload hx hb dX5_init_32 (lv_at hl 6 rfl) ?_
  refine pf_X5_27 X hw k0 hin dX5_init_34 (fun H locs hw => ?_)
  obtain ⟨T34_13, eT34_13, hw⟩ : ∃ zz9 : Pl, zz9 = sI T28_11 36 pr a6 ∧ PX G A s.heap zz9 H locs := ⟨_, rfl, hw⟩
  have xx := ExX.mI eT34_13 xx
  have v0 := ivI eT34_13 (by decide) v0
  have vL4 := ivI eT34_13 (by decide) vL4
  have vL6 := ivI eT34_13 (by decide) vL6
  have vL8 := ivI eT34_13 (by decide) vL8
  have vL10 := ivI eT34_13 (by decide) vL10
  have vL12 := ivI eT34_13 (by decide) vL12
  have k0 := isI eT34_13 k0
  have vL14 := ivI_n eT34_13
  refine lv_aload_n hx hb dX5_init_37 rfl (lv_at hl 0 rfl) ?_
  refine lv_iload hx hb dX5_init_38 (lv_at hl 7 rfl) ?_
  refine pf_X5_30 X hw k0 hin dX5_init_40 (fun H locs hw => ?_)
  obtain ⟨T40_15, eT40_15, hw⟩ : ∃ zz9 : Pl, zz9 = sI T34_13 37 pr a7 ∧ PX G A s.heap zz9 H locs := ⟨_, rfl, hw⟩
  have xx := ExX.mI eT40_15 xx
  have v0 := ivI eT40_15 (by decide) v0
  have vL4 := ivI eT40_15 (by decide) vL4
  have vL6 := ivI eT40_15 (by decide) vL6
  have vL8 := ivI eT40_15 (by decide) vL8
  have vL10 := ivI eT40_15 (by decide) vL10
  have vL12 := ivI eT40_15 (by decide) vL12
  have vL14 := ivI eT40_15 (by decide) vL14
  have k0 := isI eT40_15 k0
  have vL16 := ivI_n eT40_15
  exact hret T40_15 _ _ _ _ ⟨xx, v0⟩ hw dX5_init_43
set_option maxHeartbeats 4000000 in
set_option maxRecDepth 100000 in
theorem c_X0_init (l : Launch) (G : Gh) (S : Pl) (pr : Nat) (a1 a2 a3 a4 a5 : Int32) (k0 : is S 0 pr) (v0 : pI S 0 pr = 0) : MtV l yX0_init cX0_init 6 none (Rm 2 0 0) G [.ref pr, .int a1, .int a2, .int a3, .int a4, .int a5] S (fun (S' : Pl) => ExX pr S S' ∧ pI S' 0 pr = 0) 0 0 := by
  refine MtV.of (by decide) (Nat.le_of_ble_eq_true rfl) ?_
  intro p e s m args below meth c Q A X hw hin hret ls hl
  have hx := X.1.1
  have hb := X.1.2.1
  have hl : lv_has ls 6 [(0, .ref pr), (1, .int a1), (2, .int a2), (3, .int a3), (4, .int a4), (5, .int a5)] := hl
  have xx := ExX.rf (S := S) (b := pr)
  refine lv_aload_n hx hb dX0_init_0 rfl (lv_at hl 0 rfl) ?_
  refine k_INv (n := 0) (ret2 := none) (host := RX10) X hw (c_X2_init l G _ pr) (List.mem_of_getElem? (i := 14) rfl) wd_r33_4 wd_r33_5 wd_r33_6 rfl ⟨by decide, by decide, by decide +kernel⟩ rfl rfl ⟨Nat.le_of_ble_eq_true rfl, Nat.le_of_ble_eq_true rfl⟩ rfl rfl hl.1 (Nat.le_of_ble_eq_true rfl) dX0_init_1 ⟨Nat.le_of_ble_eq_true rfl, Nat.le_of_ble_eq_true rfl⟩ (fun S1_2 H locs h1_1 hw => ?_)
  obtain ⟨rfl, -⟩ := h1_1
  refine lv_aload_n hx hb dX0_init_4 rfl (lv_at hl 0 rfl) ?_
  refine lv_iload_n hx hb dX0_init_5 rfl (lv_at hl 1 rfl) ?_
  refine pf_X0_9 X hw k0 hin dX0_init_6 (fun H locs hw => ?_)
  obtain ⟨T6_3, eT6_3, hw⟩ : ∃ zz9 : Pl, zz9 = sI S 1 pr a1 ∧ PX G A s.heap zz9 H locs := ⟨_, rfl, hw⟩
  have xx := ExX.mI eT6_3 xx
  have v0 := ivI eT6_3 (by decide) v0
  have k0 := isI eT6_3 k0
  have vL4 := ivI_n eT6_3
  refine lv_aload_n hx hb dX0_init_9 rfl (lv_at hl 0 rfl) ?_
  refine lv_iload_n hx hb dX0_init_10 rfl (lv_at hl 2 rfl) ?_
  refine pf_X0_15 X hw k0 hin dX0_init_11 (fun H locs hw => ?_)
  obtain ⟨T11_5, eT11_5, hw⟩ : ∃ zz9 : Pl, zz9 = sI T6_3 2 pr a2 ∧ PX G A s.heap zz9 H locs := ⟨_, rfl, hw⟩
  have xx := ExX.mI eT11_5 xx
  have v0 := ivI eT11_5 (by decide) v0
  have vL4 := ivI eT11_5 (by decide) vL4
  have k0 := isI eT11_5 k0
  have vL6 := ivI_n eT11_5
  refine lv_aload_n hx hb dX0_init_14 rfl (lv_at hl 0 rfl) ?_
  refine lv_iload_n hx hb dX0_init_15 rfl (lv_at hl 3 rfl) ?_
  refine pf_X0_18 X hw k0 hin dX0_init_16 (fun H locs hw => ?_)
  obtain ⟨T16_7, eT16_7, hw⟩ : ∃ zz9 : Pl, zz9 = sI T11_5 3 pr a3 ∧ PX G A s.heap zz9 H locs := ⟨_, rfl, hw⟩
  have xx := ExX.mI eT16_7 xx
  have v0 := ivI eT16_7 (by decide) v0
  have vL4 := ivI eT16_7 (by decide) vL4
  have vL6 := ivI eT16_7 (by decide) vL6
  have k0 := isI eT16_7 k0
  have vL8 := ivI_n eT16_7
  refine lv_aload_n hx hb dX0_init_19 rfl (lv_at hl 0 rfl) ?_
  refine lv_iload hx hb dX0_init_20 (lv_at hl 4 rfl) ?_
  refine pf_X0_21 X hw k0 hin dX0_init_22 (fun H locs hw => ?_)
  obtain ⟨T22_9, eT22_9, hw⟩ : ∃ zz9 : Pl, zz9 = sI T16_7 4 pr a4 ∧ PX G A s.heap zz9 H locs := ⟨_, rfl, hw⟩
  have xx := ExX.mI eT22_9 xx
  have v0 := ivI eT22_9 (by decide) v0
  have vL4 := ivI eT22_9 (by decide) vL4
  have vL6 := ivI eT22_9 (by decide) vL6
  have vL8 := ivI eT22_9 (by decide) vL8
  have k0 := isI eT22_9 k0
  have vL10 := ivI_n eT22_9
  refine lv_aload_n hx hb dX0_init_25 rfl (lv_at hl 0 rfl) ?_
  refine lv_iload hx hb dX0_init_26 (lv_at hl 5 rfl) ?_
  refine pf_X0_24 X hw k0 hin dX0_init_28 (fun H locs hw => ?_)
  obtain ⟨T28_11, eT28_11, hw⟩ : ∃ zz9 : Pl, zz9 = sI T22_9 5 pr a5 ∧ PX G A s.heap zz9 H locs := ⟨_, rfl, hw⟩
  have xx := ExX.mI eT28_11 xx
  have v0 := ivI eT28_11 (by decide) v0
  have vL4 := ivI eT28_11 (by decide) vL4
  have vL6 := ivI eT28_11 (by decide) vL6
  have vL8 := ivI eT28_11 (by decide) vL8
  have vL10 := ivI eT28_11 (by decide) vL10
  have k0 := isI eT28_11 k0
  have vL12 := ivI_n eT28_11
  exact hret T28_11 _ _ _ _ ⟨xx, v0⟩ hw dX0_init_31
