set_option maxHeartbeats 4000000 in
set_option maxRecDepth 100000 in
theorem c_X6_mostSeen (l : Launch) (G : Gh) (S : Pl) (sp : Nat → Nat) (hP : shSpl S sp) (hN : spN (pI S) sp) (hs : spS (pI S) (qI S) sp) : MtL l yX6_mostSeen cX6_mostSeen 1 (some .long) (Rm 0 0 0) G [.ref (sp 0)] S (fun (r : Int64) (S' : Pl) => S = S' ∧ True) 0 0 := by
  refine MtL.of (by decide) (Nat.le_of_ble_eq_true rfl) ?_
  intro p e s m args below meth c Q A X hw hin hret ls hl
  have hx := X.1.1
  have hb := X.1.2.1
  have hl : lv_has ls 1 [(0, .ref (sp 0))] := hl
  obtain ⟨k0, r40, r41, r42, r43, r44, k1, n1, k2, n2, k3, n3, k4, n4, k5, n5, ne⟩ := id hP
  obtain ⟨u1, u2, u3, u4, u5, u6⟩ := id hN
  refine lv_aload_n hx hb dX6_mostSeen_0 rfl (lv_at hl 0 rfl) ?_
  refine gf_X6_25 (b := (sp 5)) X hw k0 r44 dX6_mostSeen_1 ?_
  refine lv_aload_n hx hb dX6_mostSeen_4 rfl (lv_at hl 0 rfl) ?_
  refine gf_X6_37 (v := (pI S) 47 (sp 0)) X hw k0 rfl dX6_mostSeen_5 ?_
  refine q_ldJ X hw k5 (vin n5 (by omega) (by omega)) dX6_mostSeen_8 ?_
  refine lv_topl (fun v8_1 e8_1 => ?_)
  have e8_1 : v8_1 = (qJ S) (sp 5) (((pI S) 47 (sp 0)).toNatClampNeg) := e8_1
  exact hret v8_1 _ _ _ _ _ ⟨rfl, trivial⟩ hw dX6_mostSeen_9
set_option maxHeartbeats 4000000 in
set_option maxRecDepth 100000 in
theorem c_X6_shownBy (l : Launch) (G : Gh) (S : Pl) (sp : Nat → Nat) (i n x : Int32) (hP : shSpl S sp) (hi : 0 ≤ i.toInt ∧ i.toInt < 40) (hn : 0 ≤ n.toInt ∧ n.toInt ≤ 40) (hx0 : 0 ≤ x.toInt ∧ x.toInt < 21) (h3 : 0 ≤ (qI S (sp 3) x.toNatClampNeg).toInt ∧ (qI S (sp 3) x.toNatClampNeg).toInt ≤ n.toInt) : MtL l yX6_shownBy cX6_shownBy 4 (some .long) (Rm 0 0 0) G [.ref (sp 0), .int i, .int n, .int x] S (fun (r : Int64) (S' : Pl) => S = S' ∧ True) 0 0 := by
  refine MtL.of (by decide) (Nat.le_of_ble_eq_true rfl) ?_
  intro p e s m args below meth c Q A X hw hin hret ls hl
  have hx := X.1.1
  have hb := X.1.2.1
  have hl : lv_has ls 4 [(0, .ref (sp 0)), (1, .int i), (2, .int n), (3, .int x)] := hl
  obtain ⟨k0, r40, r41, r42, r43, r44, k1, n1, k2, n2, k3, n3, k4, n4, k5, n5, ne⟩ := id hP
  refine lv_aload_n hx hb dX6_shownBy_0 rfl (lv_at hl 0 rfl) ?_
  refine gf_X6_15 (b := (sp 2)) X hw k0 r41 dX6_shownBy_1 ?_
  refine lv_iload_n hx hb dX6_shownBy_4 rfl (lv_at hl 1 rfl) ?_
  refine q_ldJ X hw k2 (vin n2 (by omega) (by omega)) dX6_shownBy_5 ?_
  refine lv_topl (fun v5_1 e5_1 => ?_)
  have e5_1 : v5_1 = (qJ S) (sp 2) i.toNatClampNeg := e5_1
  refine lv_aload_n hx hb dX6_shownBy_6 rfl (lv_at hl 0 rfl) ?_
  refine gf_X6_22 (b := (sp 4)) X hw k0 r43 dX6_shownBy_7 ?_
  refine lv_iload_n hx hb dX6_shownBy_10 rfl (lv_at hl 3 rfl) ?_
  refine q_ldI X hw k4 (vin n4 (by omega) (by omega)) dX6_shownBy_11 ?_
  refine lv_topi (fun v11_2 e11_2 => ?_)
  have e11_2 : v11_2 = (qI S) (sp 4) x.toNatClampNeg := e11_2
  refine lv_i2l hx hb dX6_shownBy_12 rfl ?_
  refine lv_topl (fun v12_3 e12_3 => ?_)
  refine lv_lmul hx hb dX6_shownBy_13 ?_
  refine lv_topl (fun v13_4 e13_4 => ?_)
  refine lv_aload_n hx hb dX6_shownBy_14 rfl (lv_at hl 0 rfl) ?_
  refine gf_X6_25 (b := (sp 5)) X hw k0 r44 dX6_shownBy_15 ?_
  refine lv_iload_n hx hb dX6_shownBy_18 rfl (lv_at hl 1 rfl) ?_
  refine lv_iconst (v := 1) hx hb dX6_shownBy_19 (by decide) ?_
  refine lv_iadd hx hb dX6_shownBy_20 ?_
  refine lv_topi (fun v20_5 e20_5 => ?_)
  have t20_5 := iAdd e20_5 rfl t_1 (by omega) (by omega)
  have t20 := t20_5
  refine lv_bipush (v := 41) hx hb dX6_shownBy_21 (by decide) ?_
  refine lv_imul hx hb dX6_shownBy_23 ?_
  refine lv_topi (fun v23_6 e23_6 => ?_)
  have t23_6 := iMul e23_6 rfl t_41 (by omega) (by omega)
  have t23 := t23_6
  refine lv_iload_n hx hb dX6_shownBy_24 rfl (lv_at hl 2 rfl) ?_
  refine lv_iadd hx hb dX6_shownBy_25 ?_
  refine lv_topi (fun v25_7 e25_7 => ?_)
  have t25_7 := iAdd e25_7 rfl rfl (by omega) (by omega)
  have t25 := t25_7
  refine lv_aload_n hx hb dX6_shownBy_26 rfl (lv_at hl 0 rfl) ?_
  refine gf_X6_19 (b := (sp 3)) X hw k0 r42 dX6_shownBy_27 ?_
  refine lv_iload_n hx hb dX6_shownBy_30 rfl (lv_at hl 3 rfl) ?_
  refine q_ldI X hw k3 (vin n3 (by omega) (by omega)) dX6_shownBy_31 ?_
  refine lv_topi (fun v31_8 e31_8 => ?_)
  have e31_8 : v31_8 = (qI S) (sp 3) x.toNatClampNeg := e31_8
  have g31 := congrArg Int32.toInt e31_8
  refine lv_isub hx hb dX6_shownBy_32 ?_
  refine lv_topi (fun v32_9 e32_9 => ?_)
  have t32_9 := iSub e32_9 rfl rfl (by omega) (by omega)
  have t32 := t32_9
  refine q_ldJ X hw k5 (vin n5 (by omega) (by omega)) dX6_shownBy_33 ?_
  refine lv_topl (fun v33_10 e33_10 => ?_)
  have e33_10 : v33_10 = (qJ S) (sp 5) v32_9.toNatClampNeg := e33_10
  refine lv_ladd hx hb dX6_shownBy_34 ?_
  refine lv_topl (fun v34_11 e34_11 => ?_)
  exact hret v34_11 _ _ _ _ _ ⟨rfl, trivial⟩ hw dX6_shownBy_35
set_option maxHeartbeats 4000000 in
set_option maxRecDepth 100000 in
theorem c_X6_mostFrom (l : Launch) (G : Gh) (S : Pl) (sp : Nat → Nat) (i n : Int32) (hP : shSpl S sp) (hN : spN (pI S) sp) (hs : spS (pI S) (qI S) sp) (hi : 0 ≤ i.toInt ∧ i.toInt < 40) (hn : 0 ≤ n.toInt ∧ n.toInt ≤ 40) : MtL l yX6_mostFrom cX6_mostFrom 6 (some .long) (Rm 1 0 0) G [.ref (sp 0), .int i, .int n] S (fun (r : Int64) (S' : Pl) => S = S' ∧ True) 0 0 := by
  refine MtL.of (by decide) (Nat.le_of_ble_eq_true rfl) ?_
  intro p e s m args below meth c Q A X hw hin hret ls hl
  have hx := X.1.1
  have hb := X.1.2.1
  have hl : lv_has ls 6 [(0, .ref (sp 0)), (1, .int i), (2, .int n)] := hl
  obtain ⟨k0, r40, r41, r42, r43, r44, k1, n1, k2, n2, k3, n3, k4, n4, k5, n5, ne⟩ := id hP
  obtain ⟨u1, u2, u3, u4, u5, u6⟩ := id hN
  refine lv_lconst (v := 0) hx hb dX6_mostFrom_0 (by decide) ?_
  refine lv_lstore_n (lv' := [(3, .long 0), (0, .ref (sp 0)), (1, .int i), (2, .int n)]) hx hb dX6_mostFrom_1 rfl hl (by decide) rfl (fun ls hl => ?_)
  refine lv_iconst (v := 0) hx hb dX6_mostFrom_2 (by decide) ?_
  refine lv_istore (lv' := [(5, .int 0), (3, .long 0), (0, .ref (sp 0)), (1, .int i), (2, .int n)]) hx hb dX6_mostFrom_3 hl (by decide) rfl (fun ls hl => ?_)
  have lp5 : ∀ (N9 : Nat) (t : Int64) (x : Int32), (0 ≤ x.toInt ∧ x.toInt ≤ 21) → (21 - x.toInt).toNat < N9 → ∀ (H : Heap) (locs : List Loc) (ls : Array Slot), PX G A s.heap S H locs → lv_has ls 6 [(5, .int x), (3, .long t), (0, .ref (sp 0)), (1, .int i), (2, .int n)] → W p l e (Rm 1 0 0) s m args below meth c H locs 0 0 Q (F0 m 5 ls []) := by
    intro N9
    induction N9 with
    | zero => intro t x hx0 hm; exact absurd hm (Nat.not_lt_zero _)
    | succ N9 ih5 =>
      intro t x hx0 hm H locs ls hw hl
      refine lv_iload hx hb dX6_mostFrom_5 (lv_at hl 0 rfl) ?_
      refine lv_aload_n hx hb dX6_mostFrom_7 rfl (lv_at hl 2 rfl) ?_
      refine gf_X6_68 (v := (pI S) 46 (sp 0)) X hw k0 rfl dX6_mostFrom_8 ?_
      refine lv_icmp_ge (tgt := 44) hx hb dX6_mostFrom_11 (by decide) (fun c11_1 => ?_) (fun c11_1 => ?_)
      · have D11_1 := iLe c11_1 rfl rfl
        refine lv_lload_n hx hb dX6_mostFrom_44 rfl (lv_at hl 1 rfl) ?_
        exact hret t _ _ _ _ _ ⟨rfl, trivial⟩ hw dX6_mostFrom_45
      · have D11_1 := iNle c11_1 rfl rfl
        refine lv_aload_n hx hb dX6_mostFrom_14 rfl (lv_at hl 2 rfl) ?_
        refine gf_X6_19 (b := (sp 3)) X hw k0 r42 dX6_mostFrom_15 ?_
        refine lv_iload hx hb dX6_mostFrom_18 (lv_at hl 0 rfl) ?_
        refine q_ldI X hw k3 (vin n3 (by omega) (by omega)) dX6_mostFrom_20 ?_
        refine lv_topi (fun v20_2 e20_2 => ?_)
        have e20_2 : v20_2 = (qI S) (sp 3) x.toNatClampNeg := e20_2
        have gv20_2 := congrArg Int32.toInt e20_2
        have zv20_2 := spS_at hs (x := x) (by omega) (by omega)
        refine lv_iload_n hx hb dX6_mostFrom_21 rfl (lv_at hl 4 rfl) ?_
        refine lv_icmp_gt (tgt := 44) hx hb dX6_mostFrom_22 (by decide) (fun c22_3 => ?_) (fun c22_3 => ?_)
        · have D22_3 := iLt c22_3 rfl rfl
          refine lv_lload_n hx hb dX6_mostFrom_44 rfl (lv_at hl 1 rfl) ?_
          exact hret t _ _ _ _ _ ⟨rfl, trivial⟩ hw dX6_mostFrom_45
        · have D22_3 := iNlt c22_3 rfl rfl
          refine lv_lload_n hx hb dX6_mostFrom_25 rfl (lv_at hl 1 rfl) ?_
          refine lv_aload_n hx hb dX6_mostFrom_26 rfl (lv_at hl 2 rfl) ?_
          refine lv_iload_n hx hb dX6_mostFrom_27 rfl (lv_at hl 3 rfl) ?_
          refine lv_iload_n hx hb dX6_mostFrom_28 rfl (lv_at hl 4 rfl) ?_
          refine lv_iload hx hb dX6_mostFrom_29 (lv_at hl 0 rfl) ?_
          refine k_Vl (n := 3) X hw (rcvk (ci := 6) X hw k0 (fun _ _ _ _ _ _ _ => ⟨_, rfl⟩) rfl) (c_X6_shownBy l G _ sp i n x hP (by omega) (by omega) (by omega) (by omega)) wd_r40_19 wd_r40_20 wd_r40_21 wd_r2_3 wd_r40_22 ⟨by decide, by decide, by decide +kernel⟩ rfl rfl ⟨Nat.le_of_ble_eq_true rfl, Nat.le_of_ble_eq_true rfl⟩ rfl rfl hl.1 (Nat.le_of_ble_eq_true rfl) dX6_mostFrom_31 ⟨Nat.le_of_ble_eq_true rfl, Nat.le_of_ble_eq_true rfl⟩ (fun r31_4 S31_6 H locs h31_5 hw => ?_)
          obtain ⟨rfl, h31_5⟩ := h31_5
          refine va_mmax_long hx hb (by rw [X.1.2.2.1]; exact hl.1.symm) X.1.2.2.2.1 (X.1.2.2.2.2 _ wd_r40_16) (X.1.2.2.2.2 _ wd_r40_17) (X.1.2.2.2.2 _ wd_r28_6) (X.1.2.2.2.2 _ wd_r40_18) (Nat.le_of_ble_eq_true rfl) (Nat.le_of_ble_eq_true rfl) (Nat.zero_le _) (Nat.zero_le _) dX6_mostFrom_34 ?_
          refine lv_topl (fun v34_7 e34_7 => ?_)
          refine lv_lstore_n (lv' := [(3, .long v34_7), (5, .int x), (0, .ref (sp 0)), (1, .int i), (2, .int n)]) hx hb dX6_mostFrom_37 rfl hl (by decide) rfl (fun ls hl => ?_)
          obtain ⟨v38_8, e38_8⟩ : ∃ y : Int32, y = x + 1 := ⟨_, rfl⟩
          have t38_8 := iAdd e38_8 rfl t_1 (by omega) (by omega)
          have t38 := t38_8
          refine lv_iinc (v := v38_8) (lv' := [(5, .int v38_8), (3, .long v34_7), (0, .ref (sp 0)), (1, .int i), (2, .int n)]) hx hb dX6_mostFrom_38 hl (k := 1) rfl (by rw [e38_8]; rfl) (by decide) rfl (fun ls hl => ?_)
          refine lv_goto (tgt := 5) hx hb dX6_mostFrom_41 (by decide) ?_
          exact ih5  v34_7 v38_8 (by omega) (by omega) _ _ _ hw (lv_sub hl [0, 1, 2, 3, 4] rfl)
  exact lp5 _  0 0 (by have := t_0; omega) (Nat.lt_succ_self _) _ _ _ hw (lv_sub hl [0, 1, 2, 3, 4] rfl)
set_option maxHeartbeats 4000000 in
set_option maxRecDepth 100000 in
theorem c_X6_leastForMost (l : Launch) (G : Gh) (S : Pl) (sp : Nat → Nat) (hP : shSpl S sp) (hN : spN (pI S) sp) (hs : spS (pI S) (qI S) sp) : MtI l yX6_leastForMost cX6_leastForMost 2 (some .int) (Rm 0 0 0) G [.ref (sp 0)] S (fun (r : Int32) (S' : Pl) => S = S' ∧ 0 ≤ r.toInt ∧ r.toInt ≤ (pI S 47 (sp 0)).toInt) 0 0 := by
  refine MtI.of (by decide) (Nat.le_of_ble_eq_true rfl) ?_
  intro p e s m args below meth c Q A X hw hin hret ls hl
  have hx := X.1.1
  have hb := X.1.2.1
  have hl : lv_has ls 2 [(0, .ref (sp 0))] := hl
  obtain ⟨k0, r40, r41, r42, r43, r44, k1, n1, k2, n2, k3, n3, k4, n4, k5, n5, ne⟩ := id hP
  obtain ⟨u1, u2, u3, u4, u5, u6⟩ := id hN
  refine lv_iconst (v := 0) hx hb dX6_leastForMost_0 (by decide) ?_
  refine lv_istore_n (lv' := [(1, .int 0), (0, .ref (sp 0))]) hx hb dX6_leastForMost_1 rfl hl (by decide) rfl (fun ls hl => ?_)
  have lp2 : ∀ (N9 : Nat) (n : Int32), (0 ≤ n.toInt ∧ n.toInt ≤ (pI S 47 (sp 0)).toInt) → (40 - n.toInt).toNat < N9 → ∀ (H : Heap) (locs : List Loc) (ls : Array Slot), PX G A s.heap S H locs → lv_has ls 2 [(1, .int n), (0, .ref (sp 0))] → W p l e (Rm 0 0 0) s m args below meth c H locs 0 0 Q (F0 m 2 ls []) := by
    intro N9
    induction N9 with
    | zero => intro n hn hm; exact absurd hm (Nat.not_lt_zero _)
    | succ N9 ih2 =>
      intro n hn hm H locs ls hw hl
      refine lv_iload_n hx hb dX6_leastForMost_2 rfl (lv_at hl 0 rfl) ?_
      refine lv_aload_n hx hb dX6_leastForMost_3 rfl (lv_at hl 1 rfl) ?_
      refine gf_X6_37 (v := (pI S) 47 (sp 0)) X hw k0 rfl dX6_leastForMost_4 ?_
      refine lv_icmp_ge (tgt := 35) hx hb dX6_leastForMost_7 (by decide) (fun c7_1 => ?_) (fun c7_1 => ?_)
      · have D7_1 := iLe c7_1 rfl rfl
        refine lv_iload_n hx hb dX6_leastForMost_35 rfl (lv_at hl 0 rfl) ?_
        exact hret n _ _ _ _ _ ⟨rfl, by omega, by omega⟩ hw rfl dX6_leastForMost_36
      · have D7_1 := iNle c7_1 rfl rfl
        refine lv_aload_n hx hb dX6_leastForMost_10 rfl (lv_at hl 1 rfl) ?_
        refine gf_X6_25 (b := (sp 5)) X hw k0 r44 dX6_leastForMost_11 ?_
        refine lv_iload_n hx hb dX6_leastForMost_14 rfl (lv_at hl 0 rfl) ?_
        refine q_ldJ X hw k5 (vin n5 (by omega) (by omega)) dX6_leastForMost_15 ?_
        refine lv_topl (fun v15_2 e15_2 => ?_)
        have e15_2 : v15_2 = (qJ S) (sp 5) n.toNatClampNeg := e15_2
        refine lv_aload_n hx hb dX6_leastForMost_16 rfl (lv_at hl 1 rfl) ?_
        refine gf_X6_25 (b := (sp 5)) X hw k0 r44 dX6_leastForMost_17 ?_
        refine lv_aload_n hx hb dX6_leastForMost_20 rfl (lv_at hl 1 rfl) ?_
        refine gf_X6_37 (v := (pI S) 47 (sp 0)) X hw k0 rfl dX6_leastForMost_21 ?_
        refine q_ldJ X hw k5 (vin n5 (by omega) (by omega)) dX6_leastForMost_24 ?_
        refine lv_topl (fun v24_3 e24_3 => ?_)
        have e24_3 : v24_3 = (qJ S) (sp 5) (((pI S) 47 (sp 0)).toNatClampNeg) := e24_3
        refine W.lcmp hx hb dX6_leastForMost_25 ?_
        refine lv_topi (fun v25_4 e25_4 => ?_)
        refine lv_if_eq (tgt := 35) hx hb dX6_leastForMost_26 (by decide) (fun c26_5 => ?_) (fun c26_5 => ?_)
        · have D26_5 := lc_eq e25_4 c26_5
          refine lv_iload_n hx hb dX6_leastForMost_35 rfl (lv_at hl 0 rfl) ?_
          exact hret n _ _ _ _ _ ⟨rfl, by omega, by omega⟩ hw rfl dX6_leastForMost_36
        · have D26_5 := lcn_eq e25_4 c26_5
          obtain ⟨v29_6, e29_6⟩ : ∃ y : Int32, y = n + 1 := ⟨_, rfl⟩
          have t29_6 := iAdd e29_6 rfl t_1 (by omega) (by omega)
          have t29 := t29_6
          refine lv_iinc (v := v29_6) (lv' := [(1, .int v29_6), (0, .ref (sp 0))]) hx hb dX6_leastForMost_29 hl (k := 0) rfl (by rw [e29_6]; rfl) (by decide) rfl (fun ls hl => ?_)
          refine lv_goto (tgt := 2) hx hb dX6_leastForMost_32 (by decide) ?_
          exact ih2  v29_6 (by omega) (by omega) _ _ _ hw (lv_sub hl [0, 1] rfl)
  exact lp2 _  0 (by have := t_0; omega) (Nat.lt_succ_self _) _ _ _ hw (lv_sub hl [0, 1] rfl)
set_option maxHeartbeats 4000000 in
set_option maxRecDepth 100000 in
theorem c_X6_leastGift (l : Launch) (G : Gh) (S : Pl) (sp : Nat → Nat) (i n : Int32) (hP : shSpl S sp) (hN : spN (pI S) sp) (hs : spS (pI S) (qI S) sp) (hi : 0 ≤ i.toInt ∧ i.toInt < 40) (hn : 0 ≤ n.toInt ∧ n.toInt ≤ 40) : MtI l yX6_leastGift cX6_leastGift 4 (some .int) (Rm 1 0 0) G [.ref (sp 0), .int i, .int n] S (fun (r : Int32) (S' : Pl) => S = S' ∧ 0 ≤ r.toInt ∧ r.toInt ≤ n.toInt) 0 0 := by
  refine MtI.of (by decide) (Nat.le_of_ble_eq_true rfl) ?_
  intro p e s m args below meth c Q A X hw hin hret ls hl
  have hx := X.1.1
  have hb := X.1.2.1
  have hl : lv_has ls 4 [(0, .ref (sp 0)), (1, .int i), (2, .int n)] := hl
  obtain ⟨k0, r40, r41, r42, r43, r44, k1, n1, k2, n2, k3, n3, k4, n4, k5, n5, ne⟩ := id hP
  obtain ⟨u1, u2, u3, u4, u5, u6⟩ := id hN
  refine lv_iconst (v := 0) hx hb dX6_leastGift_0 (by decide) ?_
  refine lv_istore_n (lv' := [(3, .int 0), (0, .ref (sp 0)), (1, .int i), (2, .int n)]) hx hb dX6_leastGift_1 rfl hl (by decide) rfl (fun ls hl => ?_)
  have lp2 : ∀ (N9 : Nat) (x : Int32), (0 ≤ x.toInt ∧ x.toInt ≤ 21) → (21 - x.toInt).toNat < N9 → ∀ (H : Heap) (locs : List Loc) (ls : Array Slot), PX G A s.heap S H locs → lv_has ls 4 [(3, .int x), (0, .ref (sp 0)), (1, .int i), (2, .int n)] → W p l e (Rm 1 0 0) s m args below meth c H locs 0 0 Q (F0 m 2 ls []) := by
    intro N9
    induction N9 with
    | zero => intro x hx0 hm; exact absurd hm (Nat.not_lt_zero _)
    | succ N9 ih2 =>
      intro x hx0 hm H locs ls hw hl
      refine lv_iload_n hx hb dX6_leastGift_2 rfl (lv_at hl 0 rfl) ?_
      refine lv_aload_n hx hb dX6_leastGift_3 rfl (lv_at hl 1 rfl) ?_
      refine gf_X6_68 (v := (pI S) 46 (sp 0)) X hw k0 rfl dX6_leastGift_4 ?_
      refine lv_icmp_ge (tgt := 55) hx hb dX6_leastGift_7 (by decide) (fun c7_1 => ?_) (fun c7_1 => ?_)
      · have D7_1 := iLe c7_1 rfl rfl
        refine lv_iconst (v := 0) hx hb dX6_leastGift_55 (by decide) ?_
        exact hret 0 _ _ _ _ _ ⟨rfl, by have := t_0; omega, by have := t_0; omega⟩ hw rfl dX6_leastGift_56
      · have D7_1 := iNle c7_1 rfl rfl
        refine lv_aload_n hx hb dX6_leastGift_10 rfl (lv_at hl 1 rfl) ?_
        refine gf_X6_19 (b := (sp 3)) X hw k0 r42 dX6_leastGift_11 ?_
        refine lv_iload_n hx hb dX6_leastGift_14 rfl (lv_at hl 0 rfl) ?_
        refine q_ldI X hw k3 (vin n3 (by omega) (by omega)) dX6_leastGift_15 ?_
        refine lv_topi (fun v15_2 e15_2 => ?_)
        have e15_2 : v15_2 = (qI S) (sp 3) x.toNatClampNeg := e15_2
        have gv15_2 := congrArg Int32.toInt e15_2
        have zv15_2 := spS_at hs (x := x) (by omega) (by omega)
        refine lv_iload_n hx hb dX6_leastGift_16 rfl (lv_at hl 3 rfl) ?_
        refine lv_icmp_gt (tgt := 55) hx hb dX6_leastGift_17 (by decide) (fun c17_3 => ?_) (fun c17_3 => ?_)
        · have D17_3 := iLt c17_3 rfl rfl
          refine lv_iconst (v := 0) hx hb dX6_leastGift_55 (by decide) ?_
          exact hret 0 _ _ _ _ _ ⟨rfl, by have := t_0; omega, by have := t_0; omega⟩ hw rfl dX6_leastGift_56
        · have D17_3 := iNlt c17_3 rfl rfl
          refine lv_aload_n hx hb dX6_leastGift_20 rfl (lv_at hl 1 rfl) ?_
          refine lv_iload_n hx hb dX6_leastGift_21 rfl (lv_at hl 2 rfl) ?_
          refine lv_iload_n hx hb dX6_leastGift_22 rfl (lv_at hl 3 rfl) ?_
          refine lv_iload_n hx hb dX6_leastGift_23 rfl (lv_at hl 0 rfl) ?_
          refine k_Vl (n := 3) X hw (rcvk (ci := 6) X hw k0 (fun _ _ _ _ _ _ _ => ⟨_, rfl⟩) rfl) (c_X6_shownBy l G _ sp i n x hP (by omega) (by omega) (by omega) (by omega)) wd_r40_19 wd_r40_20 wd_r40_21 wd_r2_3 wd_r40_22 ⟨by decide, by decide, by decide +kernel⟩ rfl rfl ⟨Nat.le_of_ble_eq_true rfl, Nat.le_of_ble_eq_true rfl⟩ rfl rfl hl.1 (Nat.le_of_ble_eq_true rfl) dX6_leastGift_24 ⟨Nat.le_of_ble_eq_true rfl, Nat.le_of_ble_eq_true rfl⟩ (fun r24_4 S24_6 H locs h24_5 hw => ?_)
          obtain ⟨rfl, h24_5⟩ := h24_5
          refine lv_aload_n hx hb dX6_leastGift_27 rfl (lv_at hl 1 rfl) ?_
          refine gf_X6_25 (b := (sp 5)) X hw k0 r44 dX6_leastGift_28 ?_
          refine lv_iload_n hx hb dX6_leastGift_31 rfl (lv_at hl 2 rfl) ?_
          refine lv_bipush (v := 41) hx hb dX6_leastGift_32 (by decide) ?_
          refine lv_imul hx hb dX6_leastGift_34 ?_
          refine lv_topi (fun v34_7 e34_7 => ?_)
          have t34_7 := iMul e34_7 rfl t_41 (by omega) (by omega)
          have t34 := t34_7
          refine lv_iload_n hx hb dX6_leastGift_35 rfl (lv_at hl 3 rfl) ?_
          refine lv_iadd hx hb dX6_leastGift_36 ?_
          refine lv_topi (fun v36_8 e36_8 => ?_)
          have t36_8 := iAdd e36_8 rfl rfl (by omega) (by omega)
          have t36 := t36_8
          refine q_ldJ X hw k5 (vin n5 (by omega) (by omega)) dX6_leastGift_37 ?_
          refine lv_topl (fun v37_9 e37_9 => ?_)
          have e37_9 : v37_9 = (qJ S) (sp 5) v36_8.toNatClampNeg := e37_9
          refine W.lcmp hx hb dX6_leastGift_38 ?_
          refine lv_topi (fun v38_10 e38_10 => ?_)
          refine lv_if_ne (tgt := 49) hx hb dX6_leastGift_39 (by decide) (fun c39_11 => ?_) (fun c39_11 => ?_)
          · have D39_11 := lc_ne e38_10 c39_11
            obtain ⟨v49_12, e49_12⟩ : ∃ y : Int32, y = x + 1 := ⟨_, rfl⟩
            have t49_12 := iAdd e49_12 rfl t_1 (by omega) (by omega)
            have t49 := t49_12
            refine lv_iinc (v := v49_12) (lv' := [(3, .int v49_12), (0, .ref (sp 0)), (1, .int i), (2, .int n)]) hx hb dX6_leastGift_49 hl (k := 0) rfl (by rw [e49_12]; rfl) (by decide) rfl (fun ls hl => ?_)
            refine lv_goto (tgt := 2) hx hb dX6_leastGift_52 (by decide) ?_
            exact ih2  v49_12 (by omega) (by omega) _ _ _ hw (lv_sub hl [0, 1, 2, 3] rfl)
          · have D39_11 := lcn_ne e38_10 c39_11
            refine lv_aload_n hx hb dX6_leastGift_42 rfl (lv_at hl 1 rfl) ?_
            refine gf_X6_19 (b := (sp 3)) X hw k0 r42 dX6_leastGift_43 ?_
            refine lv_iload_n hx hb dX6_leastGift_46 rfl (lv_at hl 0 rfl) ?_
            refine q_ldI X hw k3 (vin n3 (by omega) (by omega)) dX6_leastGift_47 ?_
            refine lv_topi (fun v47_13 e47_13 => ?_)
            have e47_13 : v47_13 = (qI S) (sp 3) x.toNatClampNeg := e47_13
            have gv47_13 := congrArg Int32.toInt e47_13
            have zv47_13 := spS_at hs (x := x) (by omega) (by omega)
            exact hret v47_13 _ _ _ _ _ ⟨rfl, by have := t_0; omega, by have := t_0; omega⟩ hw rfl dX6_leastGift_48
  exact lp2 _  0 (by have := t_0; omega) (Nat.lt_succ_self _) _ _ _ hw (lv_sub hl [0, 1, 2, 3] rfl)
set_option maxHeartbeats 4000000 in
set_option maxRecDepth 100000 in
theorem c_X6_givenTo (l : Launch) (G : Gh) (S : Pl) (sp : Nat → Nat) (w : Int32) (hP : shSpl S sp) (hN : spN (pI S) sp) (hs : spS (pI S) (qI S) sp) : MtI l yX6_givenTo cX6_givenTo 5 (some .int) (Rm 2 0 0) G [.ref (sp 0), .int w] S (fun (r : Int32) (S' : Pl) => S = S' ∧ True) 0 0 := by
  refine MtI.of (by decide) (Nat.le_of_ble_eq_true rfl) ?_
  intro p e s m args below meth c Q A X hw hin hret ls hl
  have hx := X.1.1
  have hb := X.1.2.1
  have hl : lv_has ls 5 [(0, .ref (sp 0)), (1, .int w)] := hl
  obtain ⟨k0, r40, r41, r42, r43, r44, k1, n1, k2, n2, k3, n3, k4, n4, k5, n5, ne⟩ := id hP
  obtain ⟨u1, u2, u3, u4, u5, u6⟩ := id hN
  refine lv_aload_n hx hb dX6_givenTo_0 rfl (lv_at hl 0 rfl) ?_
  refine k_Vi (n := 0) X hw (rcvk (ci := 6) X hw k0 (fun _ _ _ _ _ _ _ => ⟨_, rfl⟩) rfl) (c_X6_leastForMost l G _ sp hP hN hs) wd_r42_6 wd_r42_7 wd_r42_8 wd_r2_3 wd_r42_9 ⟨by decide, by decide, by decide +kernel⟩ rfl rfl ⟨Nat.le_of_ble_eq_true rfl, Nat.le_of_ble_eq_true rfl⟩ rfl rfl hl.1 (Nat.le_of_ble_eq_true rfl) dX6_givenTo_1 ⟨Nat.le_of_ble_eq_true rfl, Nat.le_of_ble_eq_true rfl⟩ (fun r1_1 S1_3 H locs h1_2 hw => ?_)
  obtain ⟨rfl, h1_2⟩ := h1_2
  refine lv_istore_n (lv' := [(2, .int r1_1), (0, .ref (sp 0)), (1, .int w)]) hx hb dX6_givenTo_4 rfl hl (by decide) rfl (fun ls hl => ?_)
  refine lv_iconst (v := 0) hx hb dX6_givenTo_5 (by decide) ?_
  refine lv_istore_n (lv' := [(3, .int 0), (2, .int r1_1), (0, .ref (sp 0)), (1, .int w)]) hx hb dX6_givenTo_6 rfl hl (by decide) rfl (fun ls hl => ?_)
  have lp7 : ∀ (N9 : Nat) (z : Int32) (i : Int32), (0 ≤ z.toInt ∧ z.toInt ≤ 40) → (0 ≤ i.toInt ∧ i.toInt ≤ 40) → (40 - i.toInt).toNat < N9 → ∀ (H : Heap) (locs : List Loc) (ls : Array Slot), PX G A s.heap S H locs → lv_has ls 5 [(3, .int i), (2, .int z), (0, .ref (sp 0)), (1, .int w)] → W p l e (Rm 2 0 0) s m args below meth c H locs 0 0 Q (F0 m 7 ls []) := by
    intro N9
    induction N9 with
    | zero => intro z i hz hi hm; exact absurd hm (Nat.not_lt_zero _)
    | succ N9 ih7 =>
      intro z i hz hi hm H locs ls hw hl
      refine lv_iload_n hx hb dX6_givenTo_7 rfl (lv_at hl 0 rfl) ?_
      refine lv_aload_n hx hb dX6_givenTo_8 rfl (lv_at hl 2 rfl) ?_
      refine gf_X6_49 (v := (pI S) 45 (sp 0)) X hw k0 rfl dX6_givenTo_9 ?_
      refine lv_icmp_ge (tgt := 47) hx hb dX6_givenTo_12 (by decide) (fun c12_4 => ?_) (fun c12_4 => ?_)
      · have D12_4 := iLe c12_4 rfl rfl
        refine lv_iconst (v := 0) hx hb dX6_givenTo_47 (by decide) ?_
        exact hret 0 _ _ _ _ _ ⟨rfl, trivial⟩ hw rfl dX6_givenTo_48
      · have D12_4 := iNle c12_4 rfl rfl
        refine lv_aload_n hx hb dX6_givenTo_15 rfl (lv_at hl 2 rfl) ?_
        refine lv_iload_n hx hb dX6_givenTo_16 rfl (lv_at hl 0 rfl) ?_
        refine lv_iload_n hx hb dX6_givenTo_17 rfl (lv_at hl 1 rfl) ?_
        refine k_Vi (n := 2) X hw (rcvk (ci := 6) X hw k0 (fun _ _ _ _ _ _ _ => ⟨_, rfl⟩) rfl) (c_X6_leastGift l G _ sp i z hP hN hs (by omega) (by omega)) wd_r42_10 wd_r42_11 wd_r42_12 wd_r2_3 wd_r42_13 ⟨by decide, by decide, by decide +kernel⟩ rfl rfl ⟨Nat.le_of_ble_eq_true rfl, Nat.le_of_ble_eq_true rfl⟩ rfl rfl hl.1 (Nat.le_of_ble_eq_true rfl) dX6_givenTo_18 ⟨Nat.le_of_ble_eq_true rfl, Nat.le_of_ble_eq_true rfl⟩ (fun r18_5 S18_7 H locs h18_6 hw => ?_)
        obtain ⟨rfl, h18_6⟩ := h18_6
        refine lv_istore (lv' := [(4, .int r18_5), (3, .int i), (2, .int z), (0, .ref (sp 0)), (1, .int w)]) hx hb dX6_givenTo_21 hl (by decide) rfl (fun ls hl => ?_)
        refine lv_aload_n hx hb dX6_givenTo_23 rfl (lv_at hl 3 rfl) ?_
        refine gf_X6_9 (b := (sp 1)) X hw k0 r40 dX6_givenTo_24 ?_
        refine lv_iload_n hx hb dX6_givenTo_27 rfl (lv_at hl 1 rfl) ?_
        refine q_ldI X hw k1 (vin n1 (by omega) (by omega)) dX6_givenTo_28 ?_
        refine lv_topi (fun v28_8 e28_8 => ?_)
        have e28_8 : v28_8 = (qI S) (sp 1) i.toNatClampNeg := e28_8
        refine lv_iload_n hx hb dX6_givenTo_29 rfl (lv_at hl 4 rfl) ?_
        refine lv_icmp_ne (tgt := 36) hx hb dX6_givenTo_30 (by decide) (fun c30_9 => ?_) (fun c30_9 => ?_)
        · have D30_9 := iNe c30_9 rfl rfl
          refine lv_iload_n hx hb dX6_givenTo_36 rfl (lv_at hl 2 rfl) ?_
          refine lv_iload hx hb dX6_givenTo_37 (lv_at hl 0 rfl) ?_
          refine lv_isub hx hb dX6_givenTo_39 ?_
          refine lv_topi (fun v39_10 e39_10 => ?_)
          have t39_10 := iSub e39_10 rfl rfl (by omega) (by omega)
          have t39 := t39_10
          refine lv_istore_n (lv' := [(2, .int v39_10), (4, .int r18_5), (3, .int i), (0, .ref (sp 0)), (1, .int w)]) hx hb dX6_givenTo_40 rfl hl (by decide) rfl (fun ls hl => ?_)
          obtain ⟨v41_11, e41_11⟩ : ∃ y : Int32, y = i + 1 := ⟨_, rfl⟩
          have t41_11 := iAdd e41_11 rfl t_1 (by omega) (by omega)
          have t41 := t41_11
          refine lv_iinc (v := v41_11) (lv' := [(3, .int v41_11), (2, .int v39_10), (4, .int r18_5), (0, .ref (sp 0)), (1, .int w)]) hx hb dX6_givenTo_41 hl (k := 2) rfl (by rw [e41_11]; rfl) (by decide) rfl (fun ls hl => ?_)
          refine lv_goto (tgt := 7) hx hb dX6_givenTo_44 (by decide) ?_
          exact ih7  v39_10 v41_11 (by omega) (by omega) (by omega) _ _ _ hw (lv_sub hl [0, 1, 3, 4] rfl)
        · have D30_9 := iEq c30_9 rfl rfl
          refine lv_iload hx hb dX6_givenTo_33 (lv_at hl 0 rfl) ?_
          exact hret r18_5 _ _ _ _ _ ⟨rfl, trivial⟩ hw rfl dX6_givenTo_35
  exact lp7 _  r1_1 0 (by have := t_0; omega) (by have := t_0; omega) (Nat.lt_succ_self _) _ _ _ hw (lv_sub hl [0, 1, 2, 3] rfl)
set_option maxHeartbeats 4000000 in
set_option maxRecDepth 100000 in
theorem c_X6_listCells (l : Launch) (G : Gh) (S : Pl) (sp : Nat → Nat) (co : Nat) (hP : shSpl S sp) (hc : is S 14 co ∧ pN S co = 64) : MtV l yX6_listCells cX6_listCells 3 none (Rm 0 0 0) G [.ref (sp 0), .ref co] S (fun (S' : Pl) => ∃ I' q' y', ch S I' (pJ S) q' y' = S' ∧ (∀ f, f ≠ 45 → I' f = pI S f) ∧ 0 ≤ (I' 45 (sp 0)).toInt ∧ (I' 45 (sp 0)).toInt ≤ 40) 0 0 := by
  refine MtV.of (by decide) (Nat.le_of_ble_eq_true rfl) ?_
  intro p e s m args below meth c Q A X hw hin hret ls hl
  have hx := X.1.1
  have hb := X.1.2.1
  have hl : lv_has ls 3 [(0, .ref (sp 0)), (1, .ref co)] := hl
  obtain ⟨k0, r40, r41, r42, r43, r44, k1, n1, k2, n2, k3, n3, k4, n4, k5, n5, ne⟩ := id hP
  refine lv_aload_n hx hb dX6_listCells_0 rfl (lv_at hl 0 rfl) ?_
  refine lv_iconst (v := 0) hx hb dX6_listCells_1 (by decide) ?_
  refine pf_X6_49 X hw k0 dX6_listCells_2 (fun H locs hw => ?_)
  have hw : PX G A s.heap (ch S (up2 (pI S) 45 (sp 0) 0) (pJ S) (qI S) (qJ S)) H locs := hw
  refine lv_iconst (v := 0) hx hb dX6_listCells_5 (by decide) ?_
  refine lv_istore_n (lv' := [(2, .int 0), (0, .ref (sp 0)), (1, .ref co)]) hx hb dX6_listCells_6 rfl hl (by decide) rfl (fun ls hl => ?_)
  have lp7 : ∀ (N9 : Nat) (I7 : Nat → Nat → Int32) (q7 : Nat → Nat → Int32) (y7 : Nat → Nat → Int64) (j : Int32), (∀ f, f ≠ 45 → I7 f = pI S f) → (0 ≤ j.toInt ∧ j.toInt ≤ 64) → (0 ≤ (I7 45 (sp 0)).toInt ∧ (I7 45 (sp 0)).toInt ≤ 40) → (64 - j.toInt).toNat < N9 → ∀ (H : Heap) (locs : List Loc) (ls : Array Slot), PX G A s.heap (ch S I7 (pJ S) q7 y7) H locs → lv_has ls 3 [(2, .int j), (0, .ref (sp 0)), (1, .ref co)] → W p l e (Rm 0 0 0) s m args below meth c H locs 0 0 Q (F0 m 7 ls []) := by
    intro N9
    induction N9 with
    | zero => intro I7 q7 y7 j hI hj hk hm; exact absurd hm (Nat.not_lt_zero _)
    | succ N9 ih7 =>
      intro I7 q7 y7 j hI hj hk hm H locs ls hw hl
      refine lv_iload_n hx hb dX6_listCells_7 rfl (lv_at hl 0 rfl) ?_
      refine lv_aload_n hx hb dX6_listCells_8 rfl (lv_at hl 2 rfl) ?_
      refine q_lenJ (v := 64) X hw hc.1 (by rw [show _ = 64 from hc.2]; decide) dX6_listCells_9 ?_
      refine lv_icmp_ge (tgt := 68) hx hb dX6_listCells_10 (by decide) (fun c10_1 => ?_) (fun c10_1 => ?_)
      · have D10_1 := iLe c10_1 t_64 rfl
        exact hret _ _ _ _ _ ⟨_, _, _, rfl, hI, by omega, by omega⟩ hw dX6_listCells_68
      · have D10_1 := iNle c10_1 t_64 rfl
        refine lv_aload_n hx hb dX6_listCells_13 rfl (lv_at hl 1 rfl) ?_
        refine gf_X6_49 (v := I7 45 (sp 0)) X hw k0 rfl dX6_listCells_14 ?_
        refine lv_bipush (v := 40) hx hb dX6_listCells_17 (by decide) ?_
        refine lv_icmp_ge (tgt := 68) hx hb dX6_listCells_19 (by decide) (fun c19_2 => ?_) (fun c19_2 => ?_)
        · have D19_2 := iLe c19_2 t_40 rfl
          exact hret _ _ _ _ _ ⟨_, _, _, rfl, hI, by omega, by omega⟩ hw dX6_listCells_68
        · have D19_2 := iNle c19_2 t_40 rfl
          refine lv_aload_n hx hb dX6_listCells_22 rfl (lv_at hl 2 rfl) ?_
          refine lv_iload_n hx hb dX6_listCells_23 rfl (lv_at hl 0 rfl) ?_
          refine q_ldJ X hw hc.1 (vin hc.2 (by omega) (by omega)) dX6_listCells_24 ?_
          refine lv_topl (fun v24_3 e24_3 => ?_)
          have e24_3 : v24_3 = y7 co j.toNatClampNeg := e24_3
          refine lv_lconst (v := 0) hx hb dX6_listCells_25 (by decide) ?_
          refine W.lcmp hx hb dX6_listCells_26 ?_
          refine lv_topi (fun v26_4 e26_4 => ?_)
          refine lv_if_le (tgt := 62) hx hb dX6_listCells_27 (by decide) (fun c27_5 => ?_) (fun c27_5 => ?_)
          · have D27_5 := lc_le e26_4 c27_5
            obtain ⟨v62_6, e62_6⟩ : ∃ y : Int32, y = j + 1 := ⟨_, rfl⟩
            have t62_6 := iAdd e62_6 rfl t_1 (by omega) (by omega)
            have t62 := t62_6
            refine lv_iinc (v := v62_6) (lv' := [(2, .int v62_6), (0, .ref (sp 0)), (1, .ref co)]) hx hb dX6_listCells_62 hl (k := 0) rfl (by rw [e62_6]; rfl) (by decide) rfl (fun ls hl => ?_)
            refine lv_goto (tgt := 7) hx hb dX6_listCells_65 (by decide) ?_
            exact ih7 I7 q7 y7 v62_6 (by first | exact hI | exact fun f hf => (up2_f hf).trans (hI f hf)) (by omega) (by first | exact hk | (simp only [up2_s]; omega)) (by omega) _ _ _ hw (lv_sub hl [0, 1, 2] rfl)
          · have D27_5 := lcn_le e26_4 c27_5
            refine lv_aload_n hx hb dX6_listCells_30 rfl (lv_at hl 1 rfl) ?_
            refine gf_X6_9 (b := (sp 1)) X hw k0 r40 dX6_listCells_31 ?_
            refine lv_aload_n hx hb dX6_listCells_34 rfl (lv_at hl 1 rfl) ?_
            refine gf_X6_49 (v := I7 45 (sp 0)) X hw k0 rfl dX6_listCells_35 ?_
            refine lv_iload_n hx hb dX6_listCells_38 rfl (lv_at hl 0 rfl) ?_
            refine q_stI X hw k1 (vin n1 (by omega) (by omega)) dX6_listCells_39 (fun H locs hw => ?_)
            obtain ⟨q39_7, hw⟩ : ∃ zz9, PX G A s.heap (ch S I7 (pJ S) zz9 y7) H locs := ⟨_, hw⟩
            refine lv_aload_n hx hb dX6_listCells_40 rfl (lv_at hl 1 rfl) ?_
            refine gf_X6_15 (b := (sp 2)) X hw k0 r41 dX6_listCells_41 ?_
            refine lv_aload_n hx hb dX6_listCells_44 rfl (lv_at hl 1 rfl) ?_
            refine gf_X6_49 (v := I7 45 (sp 0)) X hw k0 rfl dX6_listCells_45 ?_
            refine lv_aload_n hx hb dX6_listCells_48 rfl (lv_at hl 2 rfl) ?_
            refine lv_iload_n hx hb dX6_listCells_49 rfl (lv_at hl 0 rfl) ?_
            refine q_ldJ X hw hc.1 (vin hc.2 (by omega) (by omega)) dX6_listCells_50 ?_
            refine lv_topl (fun v50_8 e50_8 => ?_)
            have e50_8 : v50_8 = y7 co j.toNatClampNeg := e50_8
            refine q_stJ X hw k2 (vin n2 (by omega) (by omega)) dX6_listCells_51 (fun H locs hw => ?_)
            obtain ⟨y51_9, hw⟩ : ∃ zz9, PX G A s.heap (ch S I7 (pJ S) q39_7 zz9) H locs := ⟨_, hw⟩
            refine lv_aload_n hx hb dX6_listCells_52 rfl (lv_at hl 1 rfl) ?_
            refine lv_dup hx hb dX6_listCells_53 rfl ?_
            refine gf_X6_49 (v := I7 45 (sp 0)) X hw k0 rfl dX6_listCells_54 ?_
            refine lv_iconst (v := 1) hx hb dX6_listCells_57 (by decide) ?_
            refine lv_iadd hx hb dX6_listCells_58 ?_
            refine lv_topi (fun v58_10 e58_10 => ?_)
            have t58_10 := iAdd e58_10 rfl t_1 (by omega) (by omega)
            have t58 := t58_10
            refine pf_X6_49 X hw k0 dX6_listCells_59 (fun H locs hw => ?_)
            have hw : PX G A s.heap (ch S (up2 I7 45 (sp 0) v58_10) (pJ S) q39_7 y51_9) H locs := hw
            obtain ⟨v62_11, e62_11⟩ : ∃ y : Int32, y = j + 1 := ⟨_, rfl⟩
            have t62_11 := iAdd e62_11 rfl t_1 (by omega) (by omega)
            have t62 := t62_11
            refine lv_iinc (v := v62_11) (lv' := [(2, .int v62_11), (0, .ref (sp 0)), (1, .ref co)]) hx hb dX6_listCells_62 hl (k := 0) rfl (by rw [e62_11]; rfl) (by decide) rfl (fun ls hl => ?_)
            refine lv_goto (tgt := 7) hx hb dX6_listCells_65 (by decide) ?_
            exact ih7 (up2 I7 45 (sp 0) v58_10) q39_7 y51_9 v62_11 (by first | exact hI | exact fun f hf => (up2_f hf).trans (hI f hf)) (by omega) (by first | exact hk | (simp only [up2_s]; omega)) (by omega) _ _ _ hw (lv_sub hl [0, 1, 2] rfl)
  exact lp7 _ (up2 (pI S) 45 (sp 0) 0) (qI S) (qJ S) 0 (fun f hf => up2_f hf) (by have := t_0; omega) (by simp only [up2_s]; decide) (Nat.lt_succ_self _) _ _ _ hw (lv_sub hl [0, 1, 2] rfl)
set_option maxHeartbeats 4000000 in
set_option maxRecDepth 100000 in
theorem c_X6_listSteps (l : Launch) (G : Gh) (S : Pl) (sp : Nat → Nat) (sa : Nat → Nat) (w : Int32) (hP : shSpl S sp) (hS : shSea S sa) : MtV l yX6_listSteps cX6_listSteps 5 none (Rm 2 0 0) G [.ref (sp 0), .ref (sa 0), .int w] S (fun (S' : Pl) => ∃ I' q', ch S I' (pJ S) q' (qJ S) = S' ∧ (∀ f, f ≠ 46 → I' f = pI S f) ∧ 1 ≤ (I' 46 (sp 0)).toInt ∧ (I' 46 (sp 0)).toInt ≤ 21 ∧ spS I' q' sp) 0 0 := by
  refine MtV.of (by decide) (Nat.le_of_ble_eq_true rfl) ?_
  intro p e s m args below meth c Q A X hw hin hret ls hl
  have hx := X.1.1
  have hb := X.1.2.1
  have hl : lv_has ls 5 [(0, .ref (sp 0)), (1, .ref (sa 0)), (2, .int w)] := hl
  obtain ⟨k0, r40, r41, r42, r43, r44, k1, n1, k2, n2, k3, n3, k4, n4, k5, n5, ne⟩ := id hP
  refine lv_aload_n hx hb dX6_listSteps_0 rfl (lv_at hl 0 rfl) ?_
  refine gf_X6_19 (b := (sp 3)) X hw k0 r42 dX6_listSteps_1 ?_
  refine lv_iconst (v := 0) hx hb dX6_listSteps_4 (by decide) ?_
  refine lv_iconst (v := 0) hx hb dX6_listSteps_5 (by decide) ?_
  refine q_stI X hw k3 (vinl n3 (by decide) t_0 (by decide)) dX6_listSteps_6 (fun H locs hw => ?_)
  obtain ⟨q6_1, eq6_1, hw⟩ : ∃ zz9, zz9 = va_up (qI S) (sp 3) (upd ((qI S) (sp 3)) (0 : Int32).toNatClampNeg 0) ∧ PX G A s.heap (ch S (pI S) (pJ S) zz9 (qJ S)) H locs := ⟨_, rfl, hw⟩
  have c6 := eq6_1
  refine lv_aload_n hx hb dX6_listSteps_7 rfl (lv_at hl 0 rfl) ?_
  refine gf_X6_22 (b := (sp 4)) X hw k0 r43 dX6_listSteps_8 ?_
  refine lv_iconst (v := 0) hx hb dX6_listSteps_11 (by decide) ?_
  refine lv_bipush (v := 100) hx hb dX6_listSteps_12 (by decide) ?_
  refine lv_aload_n hx hb dX6_listSteps_14 rfl (lv_at hl 1 rfl) ?_
  refine lv_iload_n hx hb dX6_listSteps_15 rfl (lv_at hl 2 rfl) ?_
  refine lv_iconst (v := 0) hx hb dX6_listSteps_16 (by decide) ?_
  refine k_Vi (n := 2) X hw (rcvk (ci := 3) X hw hS.1 (fun _ _ _ _ _ _ _ => ⟨_, rfl⟩) rfl) (c_X3_missOf l G _ sa w 0 hS) wd_r40_11 wd_r16_12 wd_r16_13 wd_r2_9 wd_r16_14 ⟨by decide, by decide, by decide +kernel⟩ rfl rfl ⟨Nat.le_of_ble_eq_true rfl, Nat.le_of_ble_eq_true rfl⟩ rfl rfl hl.1 (Nat.le_of_ble_eq_true rfl) dX6_listSteps_17 ⟨Nat.le_of_ble_eq_true rfl, Nat.le_of_ble_eq_true rfl⟩ (fun r17_2 S17_4 H locs h17_3 hw => ?_)
  have := t_0
  obtain ⟨rfl, h17_3⟩ := h17_3
  refine lv_isub hx hb dX6_listSteps_20 ?_
  refine lv_topi (fun v20_5 e20_5 => ?_)
  refine q_stI X hw k4 (vinl n4 (by decide) t_0 (by decide)) dX6_listSteps_21 (fun H locs hw => ?_)
  obtain ⟨q21_6, eq21_6, hw⟩ : ∃ zz9, zz9 = va_up q6_1 (sp 4) (upd (q6_1 (sp 4)) (0 : Int32).toNatClampNeg v20_5) ∧ PX G A s.heap (ch S (pI S) (pJ S) zz9 (qJ S)) H locs := ⟨_, rfl, hw⟩
  have c21 := eq21_6
  refine lv_aload_n hx hb dX6_listSteps_22 rfl (lv_at hl 0 rfl) ?_
  refine lv_iconst (v := 1) hx hb dX6_listSteps_23 (by decide) ?_
  refine pf_X6_68 X hw k0 dX6_listSteps_24 (fun H locs hw => ?_)
  have hw : PX G A s.heap (ch S (up2 (pI S) 46 (sp 0) 1) (pJ S) q21_6 (qJ S)) H locs := hw
  refine lv_iconst (v := 1) hx hb dX6_listSteps_27 (by decide) ?_
  refine lv_istore_n (lv' := [(3, .int 1), (0, .ref (sp 0)), (1, .ref (sa 0)), (2, .int w)]) hx hb dX6_listSteps_28 rfl hl (by decide) rfl (fun ls hl => ?_)
  have lp29 : ∀ (N9 : Nat) (I29 : Nat → Nat → Int32) (q29 : Nat → Nat → Int32) (v : Int32), (∀ f, f ≠ 46 → I29 f = pI S f) → (1 ≤ v.toInt ∧ v.toInt ≤ 21) → (1 ≤ (I29 46 (sp 0)).toInt ∧ (I29 46 (sp 0)).toInt ≤ v.toInt) → (spS I29 q29 sp) → (21 - v.toInt).toNat < N9 → ∀ (H : Heap) (locs : List Loc) (ls : Array Slot), PX G A s.heap (ch S I29 (pJ S) q29 (qJ S)) H locs → lv_has ls 5 [(3, .int v), (0, .ref (sp 0)), (1, .ref (sa 0)), (2, .int w)] → W p l e (Rm 2 0 0) s m args below meth c H locs 0 0 Q (F0 m 29 ls []) := by
    intro N9
    induction N9 with
    | zero => intro I29 q29 v hI hj hk hs hm; exact absurd hm (Nat.not_lt_zero _)
    | succ N9 ih29 =>
      intro I29 q29 v hI hj hk hs hm H locs ls hw hl
      refine lv_iload_n hx hb dX6_listSteps_29 rfl (lv_at hl 0 rfl) ?_
      refine lv_bipush (v := 20) hx hb dX6_listSteps_30 (by decide) ?_
      refine lv_icmp_gt (tgt := 99) hx hb dX6_listSteps_32 (by decide) (fun c32_7 => ?_) (fun c32_7 => ?_)
      · have D32_7 := iLt c32_7 t_20 rfl
        exact hret _ _ _ _ _ ⟨_, _, rfl, hI, by omega, by omega, hs⟩ hw dX6_listSteps_99
      · have D32_7 := iNlt c32_7 t_20 rfl
        refine lv_bipush (v := 100) hx hb dX6_listSteps_35 (by decide) ?_
        refine lv_aload_n hx hb dX6_listSteps_37 rfl (lv_at hl 2 rfl) ?_
        refine lv_iload_n hx hb dX6_listSteps_38 rfl (lv_at hl 3 rfl) ?_
        refine lv_iload_n hx hb dX6_listSteps_39 rfl (lv_at hl 0 rfl) ?_
        refine k_Vi (n := 2) X hw (rcvk (ci := 3) X hw hS.1 (fun _ _ _ _ _ _ _ => ⟨_, rfl⟩) rfl) (c_X3_missOf l G _ sa w v hS) wd_r40_11 wd_r16_12 wd_r16_13 wd_r2_9 wd_r16_14 ⟨by decide, by decide, by decide +kernel⟩ rfl rfl ⟨Nat.le_of_ble_eq_true rfl, Nat.le_of_ble_eq_true rfl⟩ rfl rfl hl.1 (Nat.le_of_ble_eq_true rfl) dX6_listSteps_40 ⟨Nat.le_of_ble_eq_true rfl, Nat.le_of_ble_eq_true rfl⟩ (fun r40_8 S40_10 H locs h40_9 hw => ?_)
        obtain ⟨rfl, h40_9⟩ := h40_9
        refine lv_isub hx hb dX6_listSteps_43 ?_
        refine lv_topi (fun v43_11 e43_11 => ?_)
        refine lv_istore (lv' := [(4, .int v43_11), (3, .int v), (0, .ref (sp 0)), (1, .ref (sa 0)), (2, .int w)]) hx hb dX6_listSteps_44 hl (by decide) rfl (fun ls hl => ?_)
        refine lv_iload hx hb dX6_listSteps_46 (lv_at hl 0 rfl) ?_
        refine lv_aload_n hx hb dX6_listSteps_48 rfl (lv_at hl 2 rfl) ?_
        refine gf_X6_22 (b := (sp 4)) X hw k0 r43 dX6_listSteps_49 ?_
        refine lv_aload_n hx hb dX6_listSteps_52 rfl (lv_at hl 2 rfl) ?_
        refine gf_X6_68 (v := I29 46 (sp 0)) X hw k0 rfl dX6_listSteps_53 ?_
        refine lv_iconst (v := 1) hx hb dX6_listSteps_56 (by decide) ?_
        refine lv_isub hx hb dX6_listSteps_57 ?_
        refine lv_topi (fun v57_12 e57_12 => ?_)
        have t57_12 := iSub e57_12 rfl t_1 (by omega) (by omega)
        have t57 := t57_12
        refine q_ldI X hw k4 (vin n4 (by omega) (by omega)) dX6_listSteps_58 ?_
        refine lv_topi (fun v58_13 e58_13 => ?_)
        have e58_13 : v58_13 = q29 (sp 4) v57_12.toNatClampNeg := e58_13
        refine lv_icmp_le (tgt := 93) hx hb dX6_listSteps_59 (by decide) (fun c59_14 => ?_) (fun c59_14 => ?_)
        · have D59_14 := iLe c59_14 rfl rfl
          obtain ⟨v93_15, e93_15⟩ : ∃ y : Int32, y = v + 1 := ⟨_, rfl⟩
          have t93_15 := iAdd e93_15 rfl t_1 (by omega) (by omega)
          have t93 := t93_15
          refine lv_iinc (v := v93_15) (lv' := [(3, .int v93_15), (4, .int v43_11), (0, .ref (sp 0)), (1, .ref (sa 0)), (2, .int w)]) hx hb dX6_listSteps_93 hl (k := 1) rfl (by rw [e93_15]; rfl) (by decide) rfl (fun ls hl => ?_)
          refine lv_goto (tgt := 29) hx hb dX6_listSteps_96 (by decide) ?_
          exact ih29 I29 q29 v93_15 (by first | exact hI | exact fun f hf => (up2_f hf).trans (hI f hf)) (by omega) (by first | omega | (simp only [up2_s]; omega)) (by first | exact hs | exact spS_push hs (by omega) (by assumption) (by rw [c82, vu_n ne, c71, vu_s]) (by omega)) (by omega) _ _ _ hw (lv_sub hl [0, 2, 3, 4] rfl)
        · have D59_14 := iNle c59_14 rfl rfl
          refine lv_aload_n hx hb dX6_listSteps_62 rfl (lv_at hl 2 rfl) ?_
          refine gf_X6_19 (b := (sp 3)) X hw k0 r42 dX6_listSteps_63 ?_
          refine lv_aload_n hx hb dX6_listSteps_66 rfl (lv_at hl 2 rfl) ?_
          refine gf_X6_68 (v := I29 46 (sp 0)) X hw k0 rfl dX6_listSteps_67 ?_
          refine lv_iload_n hx hb dX6_listSteps_70 rfl (lv_at hl 1 rfl) ?_
          refine q_stI X hw k3 (vin n3 (by omega) (by omega)) dX6_listSteps_71 (fun H locs hw => ?_)
          obtain ⟨q71_16, eq71_16, hw⟩ : ∃ zz9, zz9 = va_up q29 (sp 3) (upd (q29 (sp 3)) (I29 46 (sp 0)).toNatClampNeg v) ∧ PX G A s.heap (ch S I29 (pJ S) zz9 (qJ S)) H locs := ⟨_, rfl, hw⟩
          have c71 := eq71_16
          refine lv_aload_n hx hb dX6_listSteps_72 rfl (lv_at hl 2 rfl) ?_
          refine gf_X6_22 (b := (sp 4)) X hw k0 r43 dX6_listSteps_73 ?_
          refine lv_aload_n hx hb dX6_listSteps_76 rfl (lv_at hl 2 rfl) ?_
          refine gf_X6_68 (v := I29 46 (sp 0)) X hw k0 rfl dX6_listSteps_77 ?_
          refine lv_iload hx hb dX6_listSteps_80 (lv_at hl 0 rfl) ?_
          refine q_stI X hw k4 (vin n4 (by omega) (by omega)) dX6_listSteps_82 (fun H locs hw => ?_)
          obtain ⟨q82_17, eq82_17, hw⟩ : ∃ zz9, zz9 = va_up q71_16 (sp 4) (upd (q71_16 (sp 4)) (I29 46 (sp 0)).toNatClampNeg v43_11) ∧ PX G A s.heap (ch S I29 (pJ S) zz9 (qJ S)) H locs := ⟨_, rfl, hw⟩
          have c82 := eq82_17
          refine lv_aload_n hx hb dX6_listSteps_83 rfl (lv_at hl 2 rfl) ?_
          refine lv_dup hx hb dX6_listSteps_84 rfl ?_
          refine gf_X6_68 (v := I29 46 (sp 0)) X hw k0 rfl dX6_listSteps_85 ?_
          refine lv_iconst (v := 1) hx hb dX6_listSteps_88 (by decide) ?_
          refine lv_iadd hx hb dX6_listSteps_89 ?_
          refine lv_topi (fun v89_18 e89_18 => ?_)
          have t89_18 := iAdd e89_18 rfl t_1 (by omega) (by omega)
          have t89 := t89_18
          refine pf_X6_68 X hw k0 dX6_listSteps_90 (fun H locs hw => ?_)
          have hw : PX G A s.heap (ch S (up2 I29 46 (sp 0) v89_18) (pJ S) q82_17 (qJ S)) H locs := hw
          obtain ⟨v93_19, e93_19⟩ : ∃ y : Int32, y = v + 1 := ⟨_, rfl⟩
          have t93_19 := iAdd e93_19 rfl t_1 (by omega) (by omega)
          have t93 := t93_19
          refine lv_iinc (v := v93_19) (lv' := [(3, .int v93_19), (4, .int v43_11), (0, .ref (sp 0)), (1, .ref (sa 0)), (2, .int w)]) hx hb dX6_listSteps_93 hl (k := 1) rfl (by rw [e93_19]; rfl) (by decide) rfl (fun ls hl => ?_)
          refine lv_goto (tgt := 29) hx hb dX6_listSteps_96 (by decide) ?_
          exact ih29 (up2 I29 46 (sp 0) v89_18) q82_17 v93_19 (by first | exact hI | exact fun f hf => (up2_f hf).trans (hI f hf)) (by omega) (by first | omega | (simp only [up2_s]; omega)) (by first | exact hs | exact spS_push hs (by omega) (by assumption) (by rw [c82, vu_n ne, c71, vu_s]) (by omega)) (by omega) _ _ _ hw (lv_sub hl [0, 2, 3, 4] rfl)
  exact lp29 _ (up2 (pI S) 46 (sp 0) 1) q21_6 1 (fun f hf => up2_f hf) (by have := t_1; omega) (by simp only [up2_s]; decide) (spS_one c6 c21 ne) (Nat.lt_succ_self _) _ _ _ hw (lv_sub hl [0, 1, 2, 3] rfl)
set_option maxHeartbeats 4000000 in
set_option maxRecDepth 100000 in
theorem c_X6_weigh (l : Launch) (G : Gh) (S : Pl) (sp : Nat → Nat) (co : Nat) (sa : Nat → Nat) (w n : Int32) (hP : shSpl S sp) (hc : is S 14 co ∧ pN S co = 64) (hS : shSea S sa) : MtV l yX6_weigh cX6_weigh 7 none (Rm 3 0 0) G [.ref (sp 0), .ref co, .ref (sa 0), .int w, .int n] S (fun (S' : Pl) => ∃ I' q' y', ch S I' (pJ S) q' y' = S' ∧ (∀ f, f ∉ [45, 46, 47] → I' f = pI S f) ∧ spN I' sp ∧ spS I' q' sp) 0 0 := by
  refine MtV.of (by decide) (Nat.le_of_ble_eq_true rfl) ?_
  intro p e s m args below meth c Q A X hw hin hret ls hl
  have hx := X.1.1
  have hb := X.1.2.1
  have hl : lv_has ls 7 [(0, .ref (sp 0)), (1, .ref co), (2, .ref (sa 0)), (3, .int w), (4, .int n)] := hl
  obtain ⟨k0, r40, r41, r42, r43, r44, k1, n1, k2, n2, k3, n3, k4, n4, k5, n5, ne⟩ := id hP
  refine lv_aload_n hx hb dX6_weigh_0 rfl (lv_at hl 0 rfl) ?_
  refine lv_iconst (v := 0) hx hb dX6_weigh_1 (by decide) ?_
  refine lv_iload hx hb dX6_weigh_2 (lv_at hl 4 rfl) ?_
  refine lv_bipush (v := 40) hx hb dX6_weigh_4 (by decide) ?_
  refine va_mmin hx hb (by rw [X.1.2.2.1]; exact hl.1.symm) X.1.2.2.2.1 (X.1.2.2.2.2 _ wd_r39_22) (X.1.2.2.2.2 _ wd_r29_8) (X.1.2.2.2.2 _ wd_r28_6) (X.1.2.2.2.2 _ wd_r29_9) (Nat.le_of_ble_eq_true rfl) (Nat.le_of_ble_eq_true rfl) (Nat.zero_le _) (Nat.zero_le _) dX6_weigh_6 ?_
  refine lv_topi (fun v6_1 e6_1 => ?_)
  refine va_mmax hx hb (by rw [X.1.2.2.1]; exact hl.1.symm) X.1.2.2.2.1 (X.1.2.2.2.2 _ wd_r39_23) (X.1.2.2.2.2 _ wd_r28_5) (X.1.2.2.2.2 _ wd_r28_6) (X.1.2.2.2.2 _ wd_r28_7) (Nat.le_of_ble_eq_true rfl) (Nat.le_of_ble_eq_true rfl) (Nat.zero_le _) (Nat.zero_le _) dX6_weigh_9 ?_
  refine lv_topi (fun v9_2 e9_2 => ?_)
  have hef := effb (by assumption) (by assumption)
  refine pf_X6_37 X hw k0 dX6_weigh_12 (fun H locs hw => ?_)
  have hw : PX G A s.heap (ch S (up2 (pI S) 47 (sp 0) v9_2) (pJ S) (qI S) (qJ S)) H locs := hw
  refine lv_aload_n hx hb dX6_weigh_15 rfl (lv_at hl 0 rfl) ?_
  refine lv_aload_n hx hb dX6_weigh_16 rfl (lv_at hl 1 rfl) ?_
  refine k_Vv (n := 1) X hw (rcvk (ci := 6) X hw k0 (fun _ _ _ _ _ _ _ => ⟨_, rfl⟩) rfl) (c_X6_listCells l G _ sp co hP hc) wd_r40_2 wd_r40_3 wd_r40_4 wd_r2_3 wd_r40_5 ⟨by decide, by decide, by decide +kernel⟩ rfl rfl ⟨Nat.le_of_ble_eq_true rfl, Nat.le_of_ble_eq_true rfl⟩ rfl rfl hl.1 (Nat.le_of_ble_eq_true rfl) dX6_weigh_17 ⟨Nat.le_of_ble_eq_true rfl, Nat.le_of_ble_eq_true rfl⟩ (fun S17_4 H locs h17_3 hw => ?_)
  obtain ⟨I17_5, q17_6, y17_7, rfl, h17_3⟩ := h17_3
  have hw : PX G A s.heap (ch S I17_5 (pJ S) q17_6 y17_7) H locs := hw
  refine lv_aload_n hx hb dX6_weigh_20 rfl (lv_at hl 0 rfl) ?_
  refine lv_aload_n hx hb dX6_weigh_21 rfl (lv_at hl 2 rfl) ?_
  refine lv_iload_n hx hb dX6_weigh_22 rfl (lv_at hl 3 rfl) ?_
  refine k_Vv (n := 2) X hw (rcvk (ci := 6) X hw k0 (fun _ _ _ _ _ _ _ => ⟨_, rfl⟩) rfl) (c_X6_listSteps l G _ sp sa w hP hS) wd_r40_6 wd_r40_7 wd_r40_8 wd_r2_3 wd_r40_9 ⟨by decide, by decide, by decide +kernel⟩ rfl rfl ⟨Nat.le_of_ble_eq_true rfl, Nat.le_of_ble_eq_true rfl⟩ rfl rfl hl.1 (Nat.le_of_ble_eq_true rfl) dX6_weigh_23 ⟨Nat.le_of_ble_eq_true rfl, Nat.le_of_ble_eq_true rfl⟩ (fun S23_9 H locs h23_8 hw => ?_)
  obtain ⟨I23_10, q23_11, rfl, h23_8⟩ := h23_8
  have hw : PX G A s.heap (ch S I23_10 (pJ S) q23_11 y17_7) H locs := hw
  have hN : spN I23_10 sp := wg_N hef (by assumption) (by assumption)
  have hs : spS I23_10 q23_11 sp := wg_S (by assumption)
  have hI : ∀ f, f ∉ [45, 46, 47] → I23_10 f = pI S f := wg_I (by assumption) (by assumption)
  obtain ⟨u1, u2, u3, u4, u5, u6⟩ := id hN
  refine lv_iconst (v := 0) hx hb dX6_weigh_26 (by decide) ?_
  refine lv_istore (lv' := [(5, .int 0), (0, .ref (sp 0)), (1, .ref co), (2, .ref (sa 0)), (3, .int w), (4, .int n)]) hx hb dX6_weigh_27 hl (by decide) rfl (fun ls hl => ?_)
  have lp29 : ∀ (N9 : Nat) (y29 : Nat → Nat → Int64) (a : Int32), (0 ≤ a.toInt ∧ a.toInt ≤ 41) → (41 - a.toInt).toNat < N9 → ∀ (H : Heap) (locs : List Loc) (ls : Array Slot), PX G A s.heap (ch S I23_10 (pJ S) q23_11 y29) H locs → lv_has ls 7 [(5, .int a), (0, .ref (sp 0)), (1, .ref co), (2, .ref (sa 0)), (3, .int w), (4, .int n)] → W p l e (Rm 3 0 0) s m args below meth c H locs 0 0 Q (F0 m 29 ls []) := by
    intro N9
    induction N9 with
    | zero => intro y29 a ha hm; exact absurd hm (Nat.not_lt_zero _)
    | succ N9 ih29 =>
      intro y29 a ha hm H locs ls hw hl
      refine lv_iload hx hb dX6_weigh_29 (lv_at hl 0 rfl) ?_
      refine lv_aload_n hx hb dX6_weigh_31 rfl (lv_at hl 1 rfl) ?_
      refine gf_X6_37 (v := I23_10 47 (sp 0)) X hw k0 rfl dX6_weigh_32 ?_
      refine lv_icmp_gt (tgt := 60) hx hb dX6_weigh_35 (by decide) (fun c35_12 => ?_) (fun c35_12 => ?_)
      · have D35_12 := iLt c35_12 rfl rfl
        refine lv_aload_n hx hb dX6_weigh_60 rfl (lv_at hl 1 rfl) ?_
        refine gf_X6_49 (v := I23_10 45 (sp 0)) X hw k0 rfl dX6_weigh_61 ?_
        refine lv_iconst (v := 1) hx hb dX6_weigh_64 (by decide) ?_
        refine lv_isub hx hb dX6_weigh_65 ?_
        refine lv_topi (fun v65_13 e65_13 => ?_)
        have t65_13 := iSub e65_13 rfl t_1 (by omega) (by omega)
        have t65 := t65_13
        refine lv_istore (lv' := [(5, .int v65_13), (0, .ref (sp 0)), (1, .ref co), (2, .ref (sa 0)), (3, .int w), (4, .int n)]) hx hb dX6_weigh_66 hl (by decide) rfl (fun ls hl => ?_)
        have lp68 : ∀ (N9 : Nat) (y68 : Nat → Nat → Int64) (b : Int32), (-1 ≤ b.toInt ∧ b.toInt ≤ 39) → (b.toInt + 1).toNat < N9 → ∀ (H : Heap) (locs : List Loc) (ls : Array Slot), PX G A s.heap (ch S I23_10 (pJ S) q23_11 y68) H locs → lv_has ls 7 [(5, .int b), (0, .ref (sp 0)), (1, .ref co), (2, .ref (sa 0)), (3, .int w), (4, .int n)] → W p l e (Rm 3 0 0) s m args below meth c H locs 0 0 Q (F0 m 68 ls []) := by
          intro N9
          induction N9 with
          | zero => intro y68 b hb0 hm; exact absurd hm (Nat.not_lt_zero _)
          | succ N9 ih68 =>
            intro y68 b hb0 hm H locs ls hw hl
            refine lv_iload hx hb dX6_weigh_68 (lv_at hl 0 rfl) ?_
            refine lv_if_lt (tgt := 118) hx hb dX6_weigh_70 (by decide) (fun c70_14 => ?_) (fun c70_14 => ?_)
            · have D70_14 := iLt c70_14 rfl t_0
              exact hret _ _ _ _ _ ⟨_, _, _, rfl, hI, hN, hs⟩ hw dX6_weigh_118
            · have D70_14 := iNlt c70_14 rfl t_0
              refine lv_iconst (v := 0) hx hb dX6_weigh_73 (by decide) ?_
              refine lv_istore (lv' := [(6, .int 0), (5, .int b), (0, .ref (sp 0)), (1, .ref co), (2, .ref (sa 0)), (3, .int w), (4, .int n)]) hx hb dX6_weigh_74 hl (by decide) rfl (fun ls hl => ?_)
              have lp76 : ∀ (N9 : Nat) (y76 : Nat → Nat → Int64) (d : Int32), (0 ≤ d.toInt ∧ d.toInt ≤ 41) → (41 - d.toInt).toNat < N9 → ∀ (H : Heap) (locs : List Loc) (ls : Array Slot), PX G A s.heap (ch S I23_10 (pJ S) q23_11 y76) H locs → lv_has ls 7 [(6, .int d), (5, .int b), (0, .ref (sp 0)), (1, .ref co), (2, .ref (sa 0)), (3, .int w), (4, .int n)] → W p l e (Rm 3 0 0) s m args below meth c H locs 0 0 Q (F0 m 76 ls []) := by
                intro N9
                induction N9 with
                | zero => intro y76 d hd hm; exact absurd hm (Nat.not_lt_zero _)
                | succ N9 ih76 =>
                  intro y76 d hd hm H locs ls hw hl
                  refine lv_iload hx hb dX6_weigh_76 (lv_at hl 0 rfl) ?_
                  refine lv_aload_n hx hb dX6_weigh_78 rfl (lv_at hl 2 rfl) ?_
                  refine gf_X6_37 (v := I23_10 47 (sp 0)) X hw k0 rfl dX6_weigh_79 ?_
                  refine lv_icmp_gt (tgt := 112) hx hb dX6_weigh_82 (by decide) (fun c82_15 => ?_) (fun c82_15 => ?_)
                  · have D82_15 := iLt c82_15 rfl rfl
                    obtain ⟨v112_16, e112_16⟩ : ∃ y : Int32, y = b + (-1) := ⟨_, rfl⟩
                    have t112_16 := iAdd e112_16 rfl t_m1 (by omega) (by omega)
                    have t112 := t112_16
                    refine lv_iinc (v := v112_16) (lv' := [(5, .int v112_16), (6, .int d), (0, .ref (sp 0)), (1, .ref co), (2, .ref (sa 0)), (3, .int w), (4, .int n)]) hx hb dX6_weigh_112 hl (k := 1) rfl (by rw [e112_16]; rfl) (by decide) rfl (fun ls hl => ?_)
                    refine lv_goto (tgt := 68) hx hb dX6_weigh_115 (by decide) ?_
                    exact ih68 y76 v112_16 (by omega) (by omega) _ _ _ hw (lv_sub hl [0, 2, 3, 4, 5, 6] rfl)
                  · have D82_15 := iNlt c82_15 rfl rfl
                    refine lv_aload_n hx hb dX6_weigh_85 rfl (lv_at hl 2 rfl) ?_
                    refine gf_X6_25 (b := (sp 5)) X hw k0 r44 dX6_weigh_86 ?_
                    refine lv_iload hx hb dX6_weigh_89 (lv_at hl 1 rfl) ?_
                    refine lv_bipush (v := 41) hx hb dX6_weigh_91 (by decide) ?_
                    refine lv_imul hx hb dX6_weigh_93 ?_
                    refine lv_topi (fun v93_17 e93_17 => ?_)
                    have t93_17 := iMul e93_17 rfl t_41 (by omega) (by omega)
                    have t93 := t93_17
                    refine lv_iload hx hb dX6_weigh_94 (lv_at hl 0 rfl) ?_
                    refine lv_iadd hx hb dX6_weigh_96 ?_
                    refine lv_topi (fun v96_18 e96_18 => ?_)
                    have t96_18 := iAdd e96_18 rfl rfl (by omega) (by omega)
                    have t96 := t96_18
                    refine lv_aload_n hx hb dX6_weigh_97 rfl (lv_at hl 2 rfl) ?_
                    refine lv_iload hx hb dX6_weigh_98 (lv_at hl 1 rfl) ?_
                    refine lv_iload hx hb dX6_weigh_100 (lv_at hl 0 rfl) ?_
                    refine k_Vl (n := 2) X hw (rcvk (ci := 6) X hw k0 (fun _ _ _ _ _ _ _ => ⟨_, rfl⟩) rfl) (c_X6_mostFrom l G _ sp b d hP hN hs (by omega) (by omega)) wd_r40_12 wd_r40_13 wd_r40_14 wd_r2_3 wd_r40_15 ⟨by decide, by decide, by decide +kernel⟩ rfl rfl ⟨Nat.le_of_ble_eq_true rfl, Nat.le_of_ble_eq_true rfl⟩ rfl rfl hl.1 (Nat.le_of_ble_eq_true rfl) dX6_weigh_102 ⟨Nat.le_of_ble_eq_true rfl, Nat.le_of_ble_eq_true rfl⟩ (fun r102_19 S102_21 H locs h102_20 hw => ?_)
                    obtain ⟨rfl, h102_20⟩ := h102_20
                    refine q_stJ X hw k5 (vin n5 (by omega) (by omega)) dX6_weigh_105 (fun H locs hw => ?_)
                    obtain ⟨y105_22, hw⟩ : ∃ zz9, PX G A s.heap (ch S I23_10 (pJ S) q23_11 zz9) H locs := ⟨_, hw⟩
                    obtain ⟨v106_23, e106_23⟩ : ∃ y : Int32, y = d + 1 := ⟨_, rfl⟩
                    have t106_23 := iAdd e106_23 rfl t_1 (by omega) (by omega)
                    have t106 := t106_23
                    refine lv_iinc (v := v106_23) (lv' := [(6, .int v106_23), (5, .int b), (0, .ref (sp 0)), (1, .ref co), (2, .ref (sa 0)), (3, .int w), (4, .int n)]) hx hb dX6_weigh_106 hl (k := 0) rfl (by rw [e106_23]; rfl) (by decide) rfl (fun ls hl => ?_)
                    refine lv_goto (tgt := 76) hx hb dX6_weigh_109 (by decide) ?_
                    exact ih76 y105_22 v106_23 (by omega) (by omega) _ _ _ hw (lv_sub hl [0, 1, 2, 3, 4, 5, 6] rfl)
              exact lp76 _ y68 0 (by have := t_0; omega) (Nat.lt_succ_self _) _ _ _ hw (lv_sub hl [0, 1, 2, 3, 4, 5, 6] rfl)
        exact lp68 _ y29 v65_13 (by omega) (Nat.lt_succ_self _) _ _ _ hw (lv_sub hl [0, 1, 2, 3, 4, 5] rfl)
      · have D35_12 := iNlt c35_12 rfl rfl
        refine lv_aload_n hx hb dX6_weigh_38 rfl (lv_at hl 1 rfl) ?_
        refine gf_X6_25 (b := (sp 5)) X hw k0 r44 dX6_weigh_39 ?_
        refine lv_aload_n hx hb dX6_weigh_42 rfl (lv_at hl 1 rfl) ?_
        refine gf_X6_49 (v := I23_10 45 (sp 0)) X hw k0 rfl dX6_weigh_43 ?_
        refine lv_bipush (v := 41) hx hb dX6_weigh_46 (by decide) ?_
        refine lv_imul hx hb dX6_weigh_48 ?_
        refine lv_topi (fun v48_24 e48_24 => ?_)
        have t48_24 := iMul e48_24 rfl t_41 (by omega) (by omega)
        have t48 := t48_24
        refine lv_iload hx hb dX6_weigh_49 (lv_at hl 0 rfl) ?_
        refine lv_iadd hx hb dX6_weigh_51 ?_
        refine lv_topi (fun v51_25 e51_25 => ?_)
        have t51_25 := iAdd e51_25 rfl rfl (by omega) (by omega)
        have t51 := t51_25
        refine lv_lconst (v := 0) hx hb dX6_weigh_52 (by decide) ?_
        refine q_stJ X hw k5 (vin n5 (by omega) (by omega)) dX6_weigh_53 (fun H locs hw => ?_)
        obtain ⟨y53_26, hw⟩ : ∃ zz9, PX G A s.heap (ch S I23_10 (pJ S) q23_11 zz9) H locs := ⟨_, hw⟩
        obtain ⟨v54_27, e54_27⟩ : ∃ y : Int32, y = a + 1 := ⟨_, rfl⟩
        have t54_27 := iAdd e54_27 rfl t_1 (by omega) (by omega)
        have t54 := t54_27
        refine lv_iinc (v := v54_27) (lv' := [(5, .int v54_27), (0, .ref (sp 0)), (1, .ref co), (2, .ref (sa 0)), (3, .int w), (4, .int n)]) hx hb dX6_weigh_54 hl (k := 0) rfl (by rw [e54_27]; rfl) (by decide) rfl (fun ls hl => ?_)
        refine lv_goto (tgt := 29) hx hb dX6_weigh_57 (by decide) ?_
        exact ih29 y53_26 v54_27 (by omega) (by omega) _ _ _ hw (lv_sub hl [0, 1, 2, 3, 4, 5] rfl)
  exact lp29 _ y17_7 0 (by have := t_0; omega) (Nat.lt_succ_self _) _ _ _ hw (lv_sub hl [0, 1, 2, 3, 4, 5] rfl)
