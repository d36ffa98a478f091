set_option maxHeartbeats 4000000 in
set_option maxRecDepth 100000 in
theorem c_X1_clear (l : Launch) (G : Gh) (S : Pl) (fa : Nat → Nat) (hf : shFlow S fa) : MtV l yX1_clear cX1_clear 2 none (Rm 0 0 0) G [.ref (fa 0)] S (fun (S' : Pl) => ∃ q', ch S (pI S) (pJ S) q' (qJ S) = S' ∧ True) 0 0 := by
  refine MtV.of (by decide) (Nat.le_of_ble_eq_true rfl) ?_
  intro p e s m args below meth c Q A X hw hin hret ls hl
  have hx := X.1.1
  have hb := X.1.2.1
  have hl : lv_has ls 2 [(0, .ref (fa 0))] := hl
  obtain ⟨k0, r6, r7, r8, k1, n1, k2, n2, k3, n3⟩ := id hf
  refine lv_iconst (v := 0) hx hb dX1_clear_0 (by decide) ?_
  refine lv_istore_n (lv' := [(1, .int 0), (0, .ref (fa 0))]) hx hb dX1_clear_1 rfl hl (by decide) rfl (fun ls hl => ?_)
  have lp2 : ∀ (N9 : Nat) (q2 : Nat → Nat → Int32) (h : Int32), (0 ≤ h.toInt ∧ h.toInt ≤ 72) → (72 - h.toInt).toNat < N9 → ∀ (H : Heap) (locs : List Loc) (ls : Array Slot), PX G A s.heap (ch S (pI S) (pJ S) q2 (qJ S)) H locs → lv_has ls 2 [(1, .int h), (0, .ref (fa 0))] → W p l e (Rm 0 0 0) s m args below meth c H locs 0 0 Q (F0 m 2 ls []) := by
    intro N9
    induction N9 with
    | zero => intro q2 h hi hm; exact absurd hm (Nat.not_lt_zero _)
    | succ N9 ih2 =>
      intro q2 h hi hm H locs ls hw hl
      refine lv_iload_n hx hb dX1_clear_2 rfl (lv_at hl 0 rfl) ?_
      refine lv_bipush (v := 72) hx hb dX1_clear_3 (by decide) ?_
      refine lv_icmp_ge (tgt := 35) hx hb dX1_clear_5 (by decide) (fun c5_1 => ?_) (fun c5_1 => ?_)
      · have D5_1 := iLe c5_1 t_72 rfl
        exact hret _ _ _ _ _ ⟨_, rfl, trivial⟩ hw dX1_clear_35
      · have D5_1 := iNle c5_1 t_72 rfl
        refine lv_aload_n hx hb dX1_clear_8 rfl (lv_at hl 1 rfl) ?_
        refine gf_X1_18 (b := (fa 3)) X hw k0 r8 dX1_clear_9 ?_
        refine lv_iload_n hx hb dX1_clear_12 rfl (lv_at hl 0 rfl) ?_
        refine lv_iconst (v := 0) hx hb dX1_clear_13 (by decide) ?_
        refine q_stZ X hw k3 (vin n3 (by omega) (by omega)) dX1_clear_14 (fun H locs hw => ?_)
        obtain ⟨q14_2, hw⟩ : ∃ zz9, PX G A s.heap (ch S (pI S) (pJ S) zz9 (qJ S)) H locs := ⟨_, hw⟩
        refine lv_aload_n hx hb dX1_clear_15 rfl (lv_at hl 1 rfl) ?_
        refine gf_X1_9 (b := (fa 1)) X hw k0 r6 dX1_clear_16 ?_
        refine lv_iload_n hx hb dX1_clear_19 rfl (lv_at hl 0 rfl) ?_
        refine lv_iconst (v := 0) hx hb dX1_clear_20 (by decide) ?_
        refine q_stB X hw k1 (vin n1 (by omega) (by omega)) dX1_clear_21 (fun H locs hw => ?_)
        obtain ⟨q21_3, hw⟩ : ∃ zz9, PX G A s.heap (ch S (pI S) (pJ S) zz9 (qJ S)) H locs := ⟨_, hw⟩
        refine lv_aload_n hx hb dX1_clear_22 rfl (lv_at hl 1 rfl) ?_
        refine gf_X1_15 (b := (fa 2)) X hw k0 r7 dX1_clear_23 ?_
        refine lv_iload_n hx hb dX1_clear_26 rfl (lv_at hl 0 rfl) ?_
        refine lv_iconst (v := 0) hx hb dX1_clear_27 (by decide) ?_
        refine q_stB X hw k2 (vin n2 (by omega) (by omega)) dX1_clear_28 (fun H locs hw => ?_)
        obtain ⟨q28_4, hw⟩ : ∃ zz9, PX G A s.heap (ch S (pI S) (pJ S) zz9 (qJ S)) H locs := ⟨_, hw⟩
        obtain ⟨v29_5, e29_5⟩ : ∃ y : Int32, y = h + 1 := ⟨_, rfl⟩
        have t29_5 := iAdd e29_5 rfl t_1 (by omega) (by omega)
        have t29 := t29_5
        refine lv_iinc (v := v29_5) (lv' := [(1, .int v29_5), (0, .ref (fa 0))]) hx hb dX1_clear_29 hl (k := 0) rfl (by rw [e29_5]; rfl) (by decide) rfl (fun ls hl => ?_)
        refine lv_goto (tgt := 2) hx hb dX1_clear_32 (by decide) ?_
        exact ih2 q28_4 v29_5 (by omega) (by omega) _ _ _ hw (lv_sub hl [0, 1] rfl)
  exact lp2 _ (qI S) 0 (by have := t_0; omega) (Nat.lt_succ_self _) _ _ _ hw (lv_sub hl [0, 1] rfl)
set_option maxHeartbeats 4000000 in
set_option maxRecDepth 100000 in
theorem c_X1_isTold (l : Launch) (G : Gh) (S : Pl) (fa : Nat → Nat) (h : Int32) (hf : shFlow S fa) : MtI l yX1_isTold cX1_isTold 2 (some .boolean) (Rm 0 0 0) G [.ref (fa 0), .int h] S (fun (r : Int32) (S' : Pl) => (S = S' ∧ r = 1 ∧ True) ∨ (S = S' ∧ r = 0 ∧ True)) 0 0 := by
  refine MtI.of (by decide) (Nat.le_of_ble_eq_true rfl) ?_
  intro p e s m args below meth c Q A X hw hin hret ls hl
  have hx := X.1.1
  have hb := X.1.2.1
  have hl : lv_has ls 2 [(0, .ref (fa 0)), (1, .int h)] := hl
  obtain ⟨k0, r6, r7, r8, k1, n1, k2, n2, k3, n3⟩ := id hf
  refine lv_iload_n hx hb dX1_isTold_0 rfl (lv_at hl 1 rfl) ?_
  refine lv_if_lt (tgt := 23) hx hb dX1_isTold_1 (by decide) (fun c1_1 => ?_) (fun c1_1 => ?_)
  · have D1_1 := iLt c1_1 rfl t_0
    refine lv_iconst (v := 0) hx hb dX1_isTold_23 (by decide) ?_
    exact hret 0 _ _ _ _ _ (Or.inr ⟨rfl, rfl, trivial⟩) hw rfl dX1_isTold_24
  · have D1_1 := iNlt c1_1 rfl t_0
    refine lv_iload_n hx hb dX1_isTold_4 rfl (lv_at hl 1 rfl) ?_
    refine lv_bipush (v := 72) hx hb dX1_isTold_5 (by decide) ?_
    refine lv_icmp_ge (tgt := 23) hx hb dX1_isTold_7 (by decide) (fun c7_2 => ?_) (fun c7_2 => ?_)
    · have D7_2 := iLe c7_2 t_72 rfl
      refine lv_iconst (v := 0) hx hb dX1_isTold_23 (by decide) ?_
      exact hret 0 _ _ _ _ _ (Or.inr ⟨rfl, rfl, trivial⟩) hw rfl dX1_isTold_24
    · have D7_2 := iNle c7_2 t_72 rfl
      refine lv_aload_n hx hb dX1_isTold_10 rfl (lv_at hl 0 rfl) ?_
      refine gf_X1_18 (b := (fa 3)) X hw k0 r8 dX1_isTold_11 ?_
      refine lv_iload_n hx hb dX1_isTold_14 rfl (lv_at hl 1 rfl) ?_
      refine q_ldZ X hw k3 (vin n3 (by omega) (by omega)) dX1_isTold_15 ?_
      refine lv_topi (fun v15_3 e15_3 => ?_)
      have e15_3 : v15_3 = (qI S) (fa 3) h.toNatClampNeg := e15_3
      refine lv_if_eq (tgt := 23) hx hb dX1_isTold_16 (by decide) (fun c16_4 => ?_) (fun c16_4 => ?_)
      · have D16_4 := iEq c16_4 rfl t_0
        refine lv_iconst (v := 0) hx hb dX1_isTold_23 (by decide) ?_
        exact hret 0 _ _ _ _ _ (Or.inr ⟨rfl, rfl, trivial⟩) hw rfl dX1_isTold_24
      · have D16_4 := iNe c16_4 rfl t_0
        refine lv_iconst (v := 1) hx hb dX1_isTold_19 (by decide) ?_
        refine lv_goto (tgt := 24) hx hb dX1_isTold_20 (by decide) ?_
        exact hret 1 _ _ _ _ _ (Or.inl ⟨rfl, rfl, trivial⟩) hw rfl dX1_isTold_24
set_option maxHeartbeats 4000000 in
set_option maxRecDepth 100000 in
theorem c_X1_tell (l : Launch) (G : Gh) (S : Pl) (fa : Nat → Nat) (h x y : Int32) (hf : shFlow S fa) : MtV l yX1_tell cX1_tell 4 none (Rm 1 0 0) G [.ref (fa 0), .int h, .int x, .int y] S (fun (S' : Pl) => ∃ q', ch S (pI S) (pJ S) q' (qJ S) = S' ∧ True) 0 0 := by
  refine MtV.of (by decide) (Nat.le_of_ble_eq_true rfl) ?_
  intro p e s m args below meth c Q A X hw hin hret ls hl
  have hx := X.1.1
  have hb := X.1.2.1
  have hl : lv_has ls 4 [(0, .ref (fa 0)), (1, .int h), (2, .int x), (3, .int y)] := hl
  obtain ⟨k0, r6, r7, r8, k1, n1, k2, n2, k3, n3⟩ := id hf
  refine lv_iload_n hx hb dX1_tell_0 rfl (lv_at hl 1 rfl) ?_
  refine k_SNi (n := 1) (host := RX10) X hw (c_X10_isHour l G _ h) (List.mem_of_getElem? (i := 8) rfl) wd_r17_3 wd_r1_2 wd_r17_4 ⟨by decide, by decide, by decide +kernel⟩ rfl rfl ⟨Nat.le_of_ble_eq_true rfl, Nat.le_of_ble_eq_true rfl⟩ rfl rfl hl.1 (Nat.le_of_ble_eq_true rfl) dX1_tell_1 ⟨Nat.le_of_ble_eq_true rfl, Nat.le_of_ble_eq_true rfl⟩ (fun r1_1 S1_3 H locs h1_2 hw => ?_)
  rcases h1_2 with ⟨rfl, rfl, h1_2⟩ | ⟨rfl, rfl, h1_2⟩
  · have h1_2 := h1_2
    refine lv_if_eq (tgt := 30) hx hb dX1_tell_4 (by decide) (fun c4_4 => absurd c4_4 (by decide)) (fun c4_4 => ?_)
    refine lv_aload_n hx hb dX1_tell_7 rfl (lv_at hl 0 rfl) ?_
    refine gf_X1_18 (b := (fa 3)) X hw k0 r8 dX1_tell_8 ?_
    refine lv_iload_n hx hb dX1_tell_11 rfl (lv_at hl 1 rfl) ?_
    refine lv_iconst (v := 1) hx hb dX1_tell_12 (by decide) ?_
    refine q_stZ X hw k3 (vin n3 (by omega) (by omega)) dX1_tell_13 (fun H locs hw => ?_)
    obtain ⟨q13_5, hw⟩ : ∃ zz9, PX G A s.heap (ch S (pI S) (pJ S) zz9 (qJ S)) H locs := ⟨_, hw⟩
    refine lv_aload_n hx hb dX1_tell_14 rfl (lv_at hl 0 rfl) ?_
    refine gf_X1_9 (b := (fa 1)) X hw k0 r6 dX1_tell_15 ?_
    refine lv_iload_n hx hb dX1_tell_18 rfl (lv_at hl 1 rfl) ?_
    refine lv_iload_n hx hb dX1_tell_19 rfl (lv_at hl 2 rfl) ?_
    refine lv_i2b hx hb dX1_tell_20 rfl ?_
    refine lv_topi (fun v20_6 e20_6 => ?_)
    refine q_stB X hw k1 (vin n1 (by omega) (by omega)) dX1_tell_21 (fun H locs hw => ?_)
    obtain ⟨q21_7, hw⟩ : ∃ zz9, PX G A s.heap (ch S (pI S) (pJ S) zz9 (qJ S)) H locs := ⟨_, hw⟩
    refine lv_aload_n hx hb dX1_tell_22 rfl (lv_at hl 0 rfl) ?_
    refine gf_X1_15 (b := (fa 2)) X hw k0 r7 dX1_tell_23 ?_
    refine lv_iload_n hx hb dX1_tell_26 rfl (lv_at hl 1 rfl) ?_
    refine lv_iload_n hx hb dX1_tell_27 rfl (lv_at hl 3 rfl) ?_
    refine lv_i2b hx hb dX1_tell_28 rfl ?_
    refine lv_topi (fun v28_8 e28_8 => ?_)
    refine q_stB X hw k2 (vin n2 (by omega) (by omega)) dX1_tell_29 (fun H locs hw => ?_)
    obtain ⟨q29_9, hw⟩ : ∃ zz9, PX G A s.heap (ch S (pI S) (pJ S) zz9 (qJ S)) H locs := ⟨_, hw⟩
    exact hret _ _ _ _ _ ⟨_, rfl, trivial⟩ hw dX1_tell_30
  · have h1_2 := h1_2
    refine lv_if_eq (tgt := 30) hx hb dX1_tell_4 (by decide) (fun c4_10 => ?_) (fun c4_10 => absurd c4_10 (by decide))
    exact hret _ _ _ _ _ ⟨_, rfl, trivial⟩ hw dX1_tell_30
set_option maxHeartbeats 4000000 in
set_option maxRecDepth 100000 in
theorem c_X1_settle (l : Launch) (G : Gh) (S : Pl) (fa : Nat → Nat) (hf : shFlow S fa) : MtV l yX1_settle cX1_settle 2 none (Rm 0 0 0) G [.ref (fa 0)] S (fun (S' : Pl) => ∃ q', ch S (pI S) (pJ S) q' (qJ S) = S' ∧ True) 0 0 := by
  refine MtV.of (by decide) (Nat.le_of_ble_eq_true rfl) ?_
  intro p e s m args below meth c Q A X hw hin hret ls hl
  have hx := X.1.1
  have hb := X.1.2.1
  have hl : lv_has ls 2 [(0, .ref (fa 0))] := hl
  obtain ⟨k0, r6, r7, r8, k1, n1, k2, n2, k3, n3⟩ := id hf
  refine lv_iconst (v := 1) hx hb dX1_settle_0 (by decide) ?_
  refine lv_istore_n (lv' := [(1, .int 1), (0, .ref (fa 0))]) hx hb dX1_settle_1 rfl hl (by decide) rfl (fun ls hl => ?_)
  have lp2 : ∀ (N9 : Nat) (q2 : Nat → Nat → Int32) (h : Int32), (1 ≤ h.toInt ∧ h.toInt ≤ 72) → (72 - h.toInt).toNat < N9 → ∀ (H : Heap) (locs : List Loc) (ls : Array Slot), PX G A s.heap (ch S (pI S) (pJ S) q2 (qJ S)) H locs → lv_has ls 2 [(1, .int h), (0, .ref (fa 0))] → W p l e (Rm 0 0 0) s m args below meth c H locs 0 0 Q (F0 m 2 ls []) := by
    intro N9
    induction N9 with
    | zero => intro q2 h hi hm; exact absurd hm (Nat.not_lt_zero _)
    | succ N9 ih2 =>
      intro q2 h hi hm H locs ls hw hl
      refine lv_iload_n hx hb dX1_settle_2 rfl (lv_at hl 0 rfl) ?_
      refine lv_bipush (v := 72) hx hb dX1_settle_3 (by decide) ?_
      refine lv_icmp_ge (tgt := 51) hx hb dX1_settle_5 (by decide) (fun c5_1 => ?_) (fun c5_1 => ?_)
      · have D5_1 := iLe c5_1 t_72 rfl
        exact hret _ _ _ _ _ ⟨_, rfl, trivial⟩ hw dX1_settle_51
      · have D5_1 := iNle c5_1 t_72 rfl
        refine lv_aload_n hx hb dX1_settle_8 rfl (lv_at hl 1 rfl) ?_
        refine gf_X1_18 (b := (fa 3)) X hw k0 r8 dX1_settle_9 ?_
        refine lv_iload_n hx hb dX1_settle_12 rfl (lv_at hl 0 rfl) ?_
        refine q_ldZ X hw k3 (vin n3 (by omega) (by omega)) dX1_settle_13 ?_
        refine lv_topi (fun v13_2 e13_2 => ?_)
        have e13_2 : v13_2 = q2 (fa 3) h.toNatClampNeg := e13_2
        refine lv_if_ne (tgt := 45) hx hb dX1_settle_14 (by decide) (fun c14_3 => ?_) (fun c14_3 => ?_)
        · have D14_3 := iNe c14_3 rfl t_0
          obtain ⟨v45_4, e45_4⟩ : ∃ y : Int32, y = h + 1 := ⟨_, rfl⟩
          have t45_4 := iAdd e45_4 rfl t_1 (by omega) (by omega)
          have t45 := t45_4
          refine lv_iinc (v := v45_4) (lv' := [(1, .int v45_4), (0, .ref (fa 0))]) hx hb dX1_settle_45 hl (k := 0) rfl (by rw [e45_4]; rfl) (by decide) rfl (fun ls hl => ?_)
          refine lv_goto (tgt := 2) hx hb dX1_settle_48 (by decide) ?_
          exact ih2 q2 v45_4 (by omega) (by omega) _ _ _ hw (lv_sub hl [0, 1] rfl)
        · have D14_3 := iEq c14_3 rfl t_0
          refine lv_aload_n hx hb dX1_settle_17 rfl (lv_at hl 1 rfl) ?_
          refine gf_X1_9 (b := (fa 1)) X hw k0 r6 dX1_settle_18 ?_
          refine lv_iload_n hx hb dX1_settle_21 rfl (lv_at hl 0 rfl) ?_
          refine lv_aload_n hx hb dX1_settle_22 rfl (lv_at hl 1 rfl) ?_
          refine gf_X1_9 (b := (fa 1)) X hw k0 r6 dX1_settle_23 ?_
          refine lv_iload_n hx hb dX1_settle_26 rfl (lv_at hl 0 rfl) ?_
          refine lv_iconst (v := 1) hx hb dX1_settle_27 (by decide) ?_
          refine lv_isub hx hb dX1_settle_28 ?_
          refine lv_topi (fun v28_5 e28_5 => ?_)
          have t28_5 := iSub e28_5 rfl t_1 (by omega) (by omega)
          have t28 := t28_5
          refine q_ldB X hw k1 (vin n1 (by omega) (by omega)) dX1_settle_29 ?_
          refine lv_topi (fun v29_6 e29_6 => ?_)
          have e29_6 : v29_6 = q2 (fa 1) v28_5.toNatClampNeg := e29_6
          refine q_stB X hw k1 (vin n1 (by omega) (by omega)) dX1_settle_30 (fun H locs hw => ?_)
          obtain ⟨q30_7, hw⟩ : ∃ zz9, PX G A s.heap (ch S (pI S) (pJ S) zz9 (qJ S)) H locs := ⟨_, hw⟩
          refine lv_aload_n hx hb dX1_settle_31 rfl (lv_at hl 1 rfl) ?_
          refine gf_X1_15 (b := (fa 2)) X hw k0 r7 dX1_settle_32 ?_
          refine lv_iload_n hx hb dX1_settle_35 rfl (lv_at hl 0 rfl) ?_
          refine lv_aload_n hx hb dX1_settle_36 rfl (lv_at hl 1 rfl) ?_
          refine gf_X1_15 (b := (fa 2)) X hw k0 r7 dX1_settle_37 ?_
          refine lv_iload_n hx hb dX1_settle_40 rfl (lv_at hl 0 rfl) ?_
          refine lv_iconst (v := 1) hx hb dX1_settle_41 (by decide) ?_
          refine lv_isub hx hb dX1_settle_42 ?_
          refine lv_topi (fun v42_8 e42_8 => ?_)
          have t42_8 := iSub e42_8 rfl t_1 (by omega) (by omega)
          have t42 := t42_8
          refine q_ldB X hw k2 (vin n2 (by omega) (by omega)) dX1_settle_43 ?_
          refine lv_topi (fun v43_9 e43_9 => ?_)
          have e43_9 : v43_9 = q30_7 (fa 2) v42_8.toNatClampNeg := e43_9
          refine q_stB X hw k2 (vin n2 (by omega) (by omega)) dX1_settle_44 (fun H locs hw => ?_)
          obtain ⟨q44_10, hw⟩ : ∃ zz9, PX G A s.heap (ch S (pI S) (pJ S) zz9 (qJ S)) H locs := ⟨_, hw⟩
          obtain ⟨v45_11, e45_11⟩ : ∃ y : Int32, y = h + 1 := ⟨_, rfl⟩
          have t45_11 := iAdd e45_11 rfl t_1 (by omega) (by omega)
          have t45 := t45_11
          refine lv_iinc (v := v45_11) (lv' := [(1, .int v45_11), (0, .ref (fa 0))]) hx hb dX1_settle_45 hl (k := 0) rfl (by rw [e45_11]; rfl) (by decide) rfl (fun ls hl => ?_)
          refine lv_goto (tgt := 2) hx hb dX1_settle_48 (by decide) ?_
          exact ih2 q44_10 v45_11 (by omega) (by omega) _ _ _ hw (lv_sub hl [0, 1] rfl)
  exact lp2 _ (qI S) 1 (by have := t_1; omega) (Nat.lt_succ_self _) _ _ _ hw (lv_sub hl [0, 1] rfl)
set_option maxHeartbeats 4000000 in
set_option maxRecDepth 100000 in
theorem c_X1_stepIn (l : Launch) (G : Gh) (S : Pl) (fa : Nat → Nat) (h y : Int32) (hf : shFlow S fa) : MtI l yX1_stepIn cX1_stepIn 3 (some .int) (Rm 1 0 0) G [.ref (fa 0), .int h, .int y] S (fun (r : Int32) (S' : Pl) => S = S' ∧ True) 0 0 := by
  refine MtI.of (by decide) (Nat.le_of_ble_eq_true rfl) ?_
  intro p e s m args below meth c Q A X hw hin hret ls hl
  have hx := X.1.1
  have hb := X.1.2.1
  have hl : lv_has ls 3 [(0, .ref (fa 0)), (1, .int h), (2, .int y)] := hl
  obtain ⟨k0, r6, r7, r8, k1, n1, k2, n2, k3, n3⟩ := id hf
  refine lv_iload_n hx hb dX1_stepIn_0 rfl (lv_at hl 1 rfl) ?_
  refine k_SNi (n := 1) (host := RX10) X hw (c_X10_isHour l G _ h) (List.mem_of_getElem? (i := 8) rfl) wd_r17_3 wd_r1_2 wd_r17_4 ⟨by decide, by decide, by decide +kernel⟩ rfl rfl ⟨Nat.le_of_ble_eq_true rfl, Nat.le_of_ble_eq_true rfl⟩ rfl rfl hl.1 (Nat.le_of_ble_eq_true rfl) dX1_stepIn_1 ⟨Nat.le_of_ble_eq_true rfl, Nat.le_of_ble_eq_true rfl⟩ (fun r1_1 S1_3 H locs h1_2 hw => ?_)
  rcases h1_2 with ⟨rfl, rfl, h1_2⟩ | ⟨rfl, rfl, h1_2⟩
  · have h1_2 := h1_2
    refine lv_if_ne (tgt := 9) hx hb dX1_stepIn_4 (by decide) (fun c4_4 => ?_) (fun c4_4 => absurd c4_4 (by decide))
    refine lv_iload_n hx hb dX1_stepIn_9 rfl (lv_at hl 2 rfl) ?_
    refine lv_if_eq (tgt := 22) hx hb dX1_stepIn_10 (by decide) (fun c10_5 => ?_) (fun c10_5 => ?_)
    · have D10_5 := iEq c10_5 rfl t_0
      refine lv_aload_n hx hb dX1_stepIn_22 rfl (lv_at hl 0 rfl) ?_
      refine gf_X1_9 (b := (fa 1)) X hw k0 r6 dX1_stepIn_23 ?_
      refine lv_iload_n hx hb dX1_stepIn_26 rfl (lv_at hl 1 rfl) ?_
      refine q_ldB X hw k1 (vin n1 (by omega) (by omega)) dX1_stepIn_27 ?_
      refine lv_topi (fun v27_6 e27_6 => ?_)
      have e27_6 : v27_6 = (qI S) (fa 1) h.toNatClampNeg := e27_6
      exact hret v27_6 _ _ _ _ _ ⟨rfl, trivial⟩ hw rfl dX1_stepIn_28
    · have D10_5 := iNe c10_5 rfl t_0
      refine lv_aload_n hx hb dX1_stepIn_13 rfl (lv_at hl 0 rfl) ?_
      refine gf_X1_15 (b := (fa 2)) X hw k0 r7 dX1_stepIn_14 ?_
      refine lv_iload_n hx hb dX1_stepIn_17 rfl (lv_at hl 1 rfl) ?_
      refine q_ldB X hw k2 (vin n2 (by omega) (by omega)) dX1_stepIn_18 ?_
      refine lv_topi (fun v18_7 e18_7 => ?_)
      have e18_7 : v18_7 = (qI S) (fa 2) h.toNatClampNeg := e18_7
      refine lv_goto (tgt := 28) hx hb dX1_stepIn_19 (by decide) ?_
      exact hret v18_7 _ _ _ _ _ ⟨rfl, trivial⟩ hw rfl dX1_stepIn_28
  · have h1_2 := h1_2
    refine lv_if_ne (tgt := 9) hx hb dX1_stepIn_4 (by decide) (fun c4_8 => absurd c4_8 (by decide)) (fun c4_8 => ?_)
    refine lv_iconst (v := 0) hx hb dX1_stepIn_7 (by decide) ?_
    exact hret 0 _ _ _ _ _ ⟨rfl, trivial⟩ hw rfl dX1_stepIn_8
set_option maxHeartbeats 4000000 in
set_option maxRecDepth 100000 in
theorem c_X3_clear (l : Launch) (G : Gh) (S : Pl) (sa : Nat → Nat) (hS : shSea S sa) : MtV l yX3_clear cX3_clear 2 none (Rm 1 0 0) G [.ref (sa 0)] S (fun (S' : Pl) => ∃ I' q', ch S I' (pJ S) q' (qJ S) = S' ∧ Fr (pI S) I') 0 0 := by
  refine MtV.of (by decide) (Nat.le_of_ble_eq_true rfl) ?_
  intro p e s m args below meth c Q A X hw hin hret ls hl
  have hx := X.1.1
  have hb := X.1.2.1
  have hl : lv_has ls 2 [(0, .ref (sa 0))] := hl
  obtain ⟨k0, r10, r11, r12, r13, r14, k1, n1, g1, k2, n2, k3, n3, k4, n4, fz⟩ := id hS
  refine lv_aload_n hx hb dX3_clear_0 rfl (lv_at hl 0 rfl) ?_
  refine lv_iconst (v := 0) hx hb dX3_clear_1 (by decide) ?_
  refine pf_X3_33 X hw k0 dX3_clear_2 (fun H locs hw => ?_)
  have hw : PX G A s.heap (ch S (up2 (pI S) 15 (sa 0) 0) (pJ S) (qI S) (qJ S)) H locs := hw
  refine lv_aload_n hx hb dX3_clear_5 rfl (lv_at hl 0 rfl) ?_
  refine gf_X3_12 (b := (fl sa 0 0)) X hw k0 r10 dX3_clear_6 ?_
  refine k_Vv (n := 0) X hw (rcvk (ci := 2) X hw (fz 0 (by decide)).1 (fun _ _ _ _ _ _ _ => ⟨_, rfl⟩) rfl) (c_X1_clear l G _ (fl sa 0) (fz 0 (by decide))) wd_r8_19 wd_r8_20 wd_r8_21 wd_r4_14 wd_r8_22 ⟨by decide, by decide, by decide +kernel⟩ rfl rfl ⟨Nat.le_of_ble_eq_true rfl, Nat.le_of_ble_eq_true rfl⟩ rfl rfl hl.1 (Nat.le_of_ble_eq_true rfl) dX3_clear_9 ⟨Nat.le_of_ble_eq_true rfl, Nat.le_of_ble_eq_true rfl⟩ (fun S9_2 H locs h9_1 hw => ?_)
  obtain ⟨q9_3, rfl, h9_1⟩ := h9_1
  have hw : PX G A s.heap (ch S (up2 (pI S) 15 (sa 0) 0) (pJ S) q9_3 (qJ S)) H locs := hw
  refine lv_iconst (v := 0) hx hb dX3_clear_12 (by decide) ?_
  refine lv_istore_n (lv' := [(1, .int 0), (0, .ref (sa 0))]) hx hb dX3_clear_13 rfl hl (by decide) rfl (fun ls hl => ?_)
  have lp14 : ∀ (N9 : Nat) (q14 : Nat → Nat → Int32) (i : Int32), (0 ≤ i.toInt ∧ i.toInt ≤ 4) → (4 - i.toInt).toNat < N9 → ∀ (H : Heap) (locs : List Loc) (ls : Array Slot), PX G A s.heap (ch S (up2 (pI S) 15 (sa 0) 0) (pJ S) q14 (qJ S)) H locs → lv_has ls 2 [(1, .int i), (0, .ref (sa 0))] → W p l e (Rm 1 0 0) s m args below meth c H locs 0 0 Q (F0 m 14 ls []) := by
    intro N9
    induction N9 with
    | zero => intro q14 i hi hm; exact absurd hm (Nat.not_lt_zero _)
    | succ N9 ih14 =>
      intro q14 i hi hm H locs ls hw hl
      refine lv_iload_n hx hb dX3_clear_14 rfl (lv_at hl 0 rfl) ?_
      refine lv_iconst (v := 4) hx hb dX3_clear_15 (by decide) ?_
      refine lv_icmp_ge (tgt := 34) hx hb dX3_clear_16 (by decide) (fun c16_4 => ?_) (fun c16_4 => ?_)
      · have D16_4 := iLe c16_4 t_4 rfl
        refine lv_iconst (v := 0) hx hb dX3_clear_34 (by decide) ?_
        refine lv_istore_n (lv' := [(1, .int 0), (0, .ref (sa 0))]) hx hb dX3_clear_35 rfl hl (by decide) rfl (fun ls hl => ?_)
        have lp36 : ∀ (N9 : Nat) (q36 : Nat → Nat → Int32) (j : Int32), (0 ≤ j.toInt ∧ j.toInt ≤ 4) → (4 - j.toInt).toNat < N9 → ∀ (H : Heap) (locs : List Loc) (ls : Array Slot), PX G A s.heap (ch S (up2 (pI S) 15 (sa 0) 0) (pJ S) q36 (qJ S)) H locs → lv_has ls 2 [(1, .int j), (0, .ref (sa 0))] → W p l e (Rm 1 0 0) s m args below meth c H locs 0 0 Q (F0 m 36 ls []) := by
          intro N9
          induction N9 with
          | zero => intro q36 j hi hm; exact absurd hm (Nat.not_lt_zero _)
          | succ N9 ih36 =>
            intro q36 j hi hm H locs ls hw hl
            refine lv_iload_n hx hb dX3_clear_36 rfl (lv_at hl 0 rfl) ?_
            refine lv_iconst (v := 4) hx hb dX3_clear_37 (by decide) ?_
            refine lv_icmp_ge (tgt := 54) hx hb dX3_clear_38 (by decide) (fun c38_5 => ?_) (fun c38_5 => ?_)
            · have D38_5 := iLe c38_5 t_4 rfl
              refine lv_iconst (v := 0) hx hb dX3_clear_54 (by decide) ?_
              refine lv_istore_n (lv' := [(1, .int 0), (0, .ref (sa 0))]) hx hb dX3_clear_55 rfl hl (by decide) rfl (fun ls hl => ?_)
              have lp56 : ∀ (N9 : Nat) (q56 : Nat → Nat → Int32) (k : Int32), (0 ≤ k.toInt ∧ k.toInt ≤ 64) → (64 - k.toInt).toNat < N9 → ∀ (H : Heap) (locs : List Loc) (ls : Array Slot), PX G A s.heap (ch S (up2 (pI S) 15 (sa 0) 0) (pJ S) q56 (qJ S)) H locs → lv_has ls 2 [(1, .int k), (0, .ref (sa 0))] → W p l e (Rm 1 0 0) s m args below meth c H locs 0 0 Q (F0 m 56 ls []) := by
                intro N9
                induction N9 with
                | zero => intro q56 k hi hm; exact absurd hm (Nat.not_lt_zero _)
                | succ N9 ih56 =>
                  intro q56 k hi hm H locs ls hw hl
                  refine lv_iload_n hx hb dX3_clear_56 rfl (lv_at hl 0 rfl) ?_
                  refine lv_bipush (v := 64) hx hb dX3_clear_57 (by decide) ?_
                  refine lv_icmp_ge (tgt := 75) hx hb dX3_clear_59 (by decide) (fun c59_6 => ?_) (fun c59_6 => ?_)
                  · have D59_6 := iLe c59_6 t_64 rfl
                    refine lv_iconst (v := 0) hx hb dX3_clear_75 (by decide) ?_
                    refine lv_istore_n (lv' := [(1, .int 0), (0, .ref (sa 0))]) hx hb dX3_clear_76 rfl hl (by decide) rfl (fun ls hl => ?_)
                    have lp77 : ∀ (N9 : Nat) (q77 : Nat → Nat → Int32) (n : Int32), (0 ≤ n.toInt ∧ n.toInt ≤ 42) → (42 - n.toInt).toNat < N9 → ∀ (H : Heap) (locs : List Loc) (ls : Array Slot), PX G A s.heap (ch S (up2 (pI S) 15 (sa 0) 0) (pJ S) q77 (qJ S)) H locs → lv_has ls 2 [(1, .int n), (0, .ref (sa 0))] → W p l e (Rm 1 0 0) s m args below meth c H locs 0 0 Q (F0 m 77 ls []) := by
                      intro N9
                      induction N9 with
                      | zero => intro q77 n hi hm; exact absurd hm (Nat.not_lt_zero _)
                      | succ N9 ih77 =>
                        intro q77 n hi hm H locs ls hw hl
                        refine lv_iload_n hx hb dX3_clear_77 rfl (lv_at hl 0 rfl) ?_
                        refine lv_aload_n hx hb dX3_clear_78 rfl (lv_at hl 1 rfl) ?_
                        refine gf_X3_30 (b := (sa 4)) X hw k0 r14 dX3_clear_79 ?_
                        refine q_lenI (v := 42) X hw k4 (by rw [show _ = 42 from n4]; decide) dX3_clear_82 ?_
                        refine lv_icmp_ge (tgt := 99) hx hb dX3_clear_83 (by decide) (fun c83_7 => ?_) (fun c83_7 => ?_)
                        · have D83_7 := iLe c83_7 t_42 rfl
                          exact hret _ _ _ _ _ ⟨_, _, rfl, (Fr.up (f := 15) (by decide) Fr.rf)⟩ hw dX3_clear_99
                        · have D83_7 := iNle c83_7 t_42 rfl
                          refine lv_aload_n hx hb dX3_clear_86 rfl (lv_at hl 1 rfl) ?_
                          refine gf_X3_30 (b := (sa 4)) X hw k0 r14 dX3_clear_87 ?_
                          refine lv_iload_n hx hb dX3_clear_90 rfl (lv_at hl 0 rfl) ?_
                          refine lv_iconst (v := -1) hx hb dX3_clear_91 (by decide) ?_
                          refine q_stI X hw k4 (vin n4 (by omega) (by omega)) dX3_clear_92 (fun H locs hw => ?_)
                          obtain ⟨q92_8, hw⟩ : ∃ zz9, PX G A s.heap (ch S (up2 (pI S) 15 (sa 0) 0) (pJ S) zz9 (qJ S)) H locs := ⟨_, hw⟩
                          obtain ⟨v93_9, e93_9⟩ : ∃ y : Int32, y = n + 1 := ⟨_, rfl⟩
                          have t93_9 := iAdd e93_9 rfl t_1 (by omega) (by omega)
                          have t93 := t93_9
                          refine lv_iinc (v := v93_9) (lv' := [(1, .int v93_9), (0, .ref (sa 0))]) hx hb dX3_clear_93 hl (k := 0) rfl (by rw [e93_9]; rfl) (by decide) rfl (fun ls hl => ?_)
                          refine lv_goto (tgt := 77) hx hb dX3_clear_96 (by decide) ?_
                          exact ih77 q92_8 v93_9 (by omega) (by omega) _ _ _ hw (lv_sub hl [0, 1] rfl)
                    exact lp77 _ q56 0 (by have := t_0; omega) (Nat.lt_succ_self _) _ _ _ hw (lv_sub hl [0, 1] rfl)
                  · have D59_6 := iNle c59_6 t_64 rfl
                    refine lv_aload_n hx hb dX3_clear_62 rfl (lv_at hl 1 rfl) ?_
                    refine gf_X3_26 (b := (sa 3)) X hw k0 r13 dX3_clear_63 ?_
                    refine lv_iload_n hx hb dX3_clear_66 rfl (lv_at hl 0 rfl) ?_
                    refine lv_iconst (v := 0) hx hb dX3_clear_67 (by decide) ?_
                    refine q_stZ X hw k3 (vin n3 (by omega) (by omega)) dX3_clear_68 (fun H locs hw => ?_)
                    obtain ⟨q68_10, hw⟩ : ∃ zz9, PX G A s.heap (ch S (up2 (pI S) 15 (sa 0) 0) (pJ S) zz9 (qJ S)) H locs := ⟨_, hw⟩
                    obtain ⟨v69_11, e69_11⟩ : ∃ y : Int32, y = k + 1 := ⟨_, rfl⟩
                    have t69_11 := iAdd e69_11 rfl t_1 (by omega) (by omega)
                    have t69 := t69_11
                    refine lv_iinc (v := v69_11) (lv' := [(1, .int v69_11), (0, .ref (sa 0))]) hx hb dX3_clear_69 hl (k := 0) rfl (by rw [e69_11]; rfl) (by decide) rfl (fun ls hl => ?_)
                    refine lv_goto (tgt := 56) hx hb dX3_clear_72 (by decide) ?_
                    exact ih56 q68_10 v69_11 (by omega) (by omega) _ _ _ hw (lv_sub hl [0, 1] rfl)
              exact lp56 _ q36 0 (by have := t_0; omega) (Nat.lt_succ_self _) _ _ _ hw (lv_sub hl [0, 1] rfl)
            · have D38_5 := iNle c38_5 t_4 rfl
              refine lv_aload_n hx hb dX3_clear_41 rfl (lv_at hl 1 rfl) ?_
              refine gf_X3_22 (b := (sa 2)) X hw k0 r12 dX3_clear_42 ?_
              refine lv_iload_n hx hb dX3_clear_45 rfl (lv_at hl 0 rfl) ?_
              refine lv_iconst (v := -1) hx hb dX3_clear_46 (by decide) ?_
              refine q_stI X hw k2 (vin n2 (by omega) (by omega)) dX3_clear_47 (fun H locs hw => ?_)
              obtain ⟨q47_12, hw⟩ : ∃ zz9, PX G A s.heap (ch S (up2 (pI S) 15 (sa 0) 0) (pJ S) zz9 (qJ S)) H locs := ⟨_, hw⟩
              obtain ⟨v48_13, e48_13⟩ : ∃ y : Int32, y = j + 1 := ⟨_, rfl⟩
              have t48_13 := iAdd e48_13 rfl t_1 (by omega) (by omega)
              have t48 := t48_13
              refine lv_iinc (v := v48_13) (lv' := [(1, .int v48_13), (0, .ref (sa 0))]) hx hb dX3_clear_48 hl (k := 0) rfl (by rw [e48_13]; rfl) (by decide) rfl (fun ls hl => ?_)
              refine lv_goto (tgt := 36) hx hb dX3_clear_51 (by decide) ?_
              exact ih36 q47_12 v48_13 (by omega) (by omega) _ _ _ hw (lv_sub hl [0, 1] rfl)
        exact lp36 _ q14 0 (by have := t_0; omega) (Nat.lt_succ_self _) _ _ _ hw (lv_sub hl [0, 1] rfl)
      · have D16_4 := iNle c16_4 t_4 rfl
        refine lv_aload_n hx hb dX3_clear_19 rfl (lv_at hl 1 rfl) ?_
        refine gf_X3_18 (b := (sa 1)) X hw k0 r11 dX3_clear_20 ?_
        refine lv_iload_n hx hb dX3_clear_23 rfl (lv_at hl 0 rfl) ?_
        refine q_ldFlow (v := .ref (fl sa (i.toNatClampNeg + 1) 0)) X hw k1 (vin n1 (by omega) (by omega)) (congrArg va_rf (g1 i.toNatClampNeg (clt (by omega) (by omega)))) dX3_clear_24 ?_
        refine k_Vv (n := 0) X hw (rcvk (ci := 2) X hw (fz (i.toNatClampNeg + 1) (Nat.succ_lt_succ (clt (by omega) (by omega)))).1 (fun _ _ _ _ _ _ _ => ⟨_, rfl⟩) rfl) (c_X1_clear l G _ (fl sa (i.toNatClampNeg + 1))  (fz (i.toNatClampNeg + 1) (Nat.succ_lt_succ (clt (by omega) (by omega))))) wd_r8_19 wd_r8_20 wd_r8_21 wd_r4_14 wd_r8_22 ⟨by decide, by decide, by decide +kernel⟩ rfl rfl ⟨Nat.le_of_ble_eq_true rfl, Nat.le_of_ble_eq_true rfl⟩ rfl rfl hl.1 (Nat.le_of_ble_eq_true rfl) dX3_clear_25 ⟨Nat.le_of_ble_eq_true rfl, Nat.le_of_ble_eq_true rfl⟩ (fun S25_15 H locs h25_14 hw => ?_)
        obtain ⟨q25_16, rfl, h25_14⟩ := h25_14
        have hw : PX G A s.heap (ch S (up2 (pI S) 15 (sa 0) 0) (pJ S) q25_16 (qJ S)) H locs := hw
        obtain ⟨v28_17, e28_17⟩ : ∃ y : Int32, y = i + 1 := ⟨_, rfl⟩
        have t28_17 := iAdd e28_17 rfl t_1 (by omega) (by omega)
        have t28 := t28_17
        refine lv_iinc (v := v28_17) (lv' := [(1, .int v28_17), (0, .ref (sa 0))]) hx hb dX3_clear_28 hl (k := 0) rfl (by rw [e28_17]; rfl) (by decide) rfl (fun ls hl => ?_)
        refine lv_goto (tgt := 14) hx hb dX3_clear_31 (by decide) ?_
        exact ih14 q25_16 v28_17 (by omega) (by omega) _ _ _ hw (lv_sub hl [0, 1] rfl)
  exact lp14 _ q9_3 0 (by have := t_0; omega) (Nat.lt_succ_self _) _ _ _ hw (lv_sub hl [0, 1] rfl)
set_option maxHeartbeats 4000000 in
set_option maxRecDepth 100000 in
theorem c_X3_settle (l : Launch) (G : Gh) (S : Pl) (sa : Nat → Nat) (hS : shSea S sa) : MtV l yX3_settle cX3_settle 2 none (Rm 1 0 0) G [.ref (sa 0)] S (fun (S' : Pl) => ∃ q', ch S (pI S) (pJ S) q' (qJ S) = S' ∧ True) 0 0 := by
  refine MtV.of (by decide) (Nat.le_of_ble_eq_true rfl) ?_
  intro p e s m args below meth c Q A X hw hin hret ls hl
  have hx := X.1.1
  have hb := X.1.2.1
  have hl : lv_has ls 2 [(0, .ref (sa 0))] := hl
  obtain ⟨k0, r10, r11, r12, r13, r14, k1, n1, g1, k2, n2, k3, n3, k4, n4, fz⟩ := id hS
  refine lv_aload_n hx hb dX3_settle_0 rfl (lv_at hl 0 rfl) ?_
  refine gf_X3_12 (b := (fl sa 0 0)) X hw k0 r10 dX3_settle_1 ?_
  refine k_Vv (n := 0) X hw (rcvk (ci := 2) X hw (fz 0 (by decide)).1 (fun _ _ _ _ _ _ _ => ⟨_, rfl⟩) rfl) (c_X1_settle l G _ (fl sa 0) (fz 0 (by decide))) wd_r10_21 wd_r10_22 wd_r10_23 wd_r4_14 wd_r11_0 ⟨by decide, by decide, by decide +kernel⟩ rfl rfl ⟨Nat.le_of_ble_eq_true rfl, Nat.le_of_ble_eq_true rfl⟩ rfl rfl hl.1 (Nat.le_of_ble_eq_true rfl) dX3_settle_4 ⟨Nat.le_of_ble_eq_true rfl, Nat.le_of_ble_eq_true rfl⟩ (fun S4_2 H locs h4_1 hw => ?_)
  obtain ⟨q4_3, rfl, h4_1⟩ := h4_1
  have hw : PX G A s.heap (ch S (pI S) (pJ S) q4_3 (qJ S)) H locs := hw
  refine lv_iconst (v := 0) hx hb dX3_settle_7 (by decide) ?_
  refine lv_istore_n (lv' := [(1, .int 0), (0, .ref (sa 0))]) hx hb dX3_settle_8 rfl hl (by decide) rfl (fun ls hl => ?_)
  have lp9 : ∀ (N9 : Nat) (q9 : Nat → Nat → Int32) (i : Int32), (0 ≤ i.toInt ∧ i.toInt ≤ 4) → (4 - i.toInt).toNat < N9 → ∀ (H : Heap) (locs : List Loc) (ls : Array Slot), PX G A s.heap (ch S (pI S) (pJ S) q9 (qJ S)) H locs → lv_has ls 2 [(1, .int i), (0, .ref (sa 0))] → W p l e (Rm 1 0 0) s m args below meth c H locs 0 0 Q (F0 m 9 ls []) := by
    intro N9
    induction N9 with
    | zero => intro q9 i hi hm; exact absurd hm (Nat.not_lt_zero _)
    | succ N9 ih9 =>
      intro q9 i hi hm H locs ls hw hl
      refine lv_iload_n hx hb dX3_settle_9 rfl (lv_at hl 0 rfl) ?_
      refine lv_iconst (v := 4) hx hb dX3_settle_10 (by decide) ?_
      refine lv_icmp_ge (tgt := 29) hx hb dX3_settle_11 (by decide) (fun c11_4 => ?_) (fun c11_4 => ?_)
      · have D11_4 := iLe c11_4 t_4 rfl
        refine lv_iconst (v := 0) hx hb dX3_settle_29 (by decide) ?_
        refine lv_istore_n (lv' := [(1, .int 0), (0, .ref (sa 0))]) hx hb dX3_settle_30 rfl hl (by decide) rfl (fun ls hl => ?_)
        have lp31 : ∀ (N9 : Nat) (q31 : Nat → Nat → Int32) (j : Int32), (0 ≤ j.toInt ∧ j.toInt ≤ 4) → (4 - j.toInt).toNat < N9 → ∀ (H : Heap) (locs : List Loc) (ls : Array Slot), PX G A s.heap (ch S (pI S) (pJ S) q31 (qJ S)) H locs → lv_has ls 2 [(1, .int j), (0, .ref (sa 0))] → W p l e (Rm 1 0 0) s m args below meth c H locs 0 0 Q (F0 m 31 ls []) := by
          intro N9
          induction N9 with
          | zero => intro q31 j hi hm; exact absurd hm (Nat.not_lt_zero _)
          | succ N9 ih31 =>
            intro q31 j hi hm H locs ls hw hl
            refine lv_iload_n hx hb dX3_settle_31 rfl (lv_at hl 0 rfl) ?_
            refine lv_iconst (v := 4) hx hb dX3_settle_32 (by decide) ?_
            refine lv_icmp_ge (tgt := 59) hx hb dX3_settle_33 (by decide) (fun c33_5 => ?_) (fun c33_5 => ?_)
            · have D33_5 := iLe c33_5 t_4 rfl
              refine lv_iconst (v := 0) hx hb dX3_settle_59 (by decide) ?_
              refine lv_istore_n (lv' := [(1, .int 0), (0, .ref (sa 0))]) hx hb dX3_settle_60 rfl hl (by decide) rfl (fun ls hl => ?_)
              have lp61 : ∀ (N9 : Nat) (q61 : Nat → Nat → Int32) (n : Int32), (0 ≤ n.toInt ∧ n.toInt ≤ 42) → (42 - n.toInt).toNat < N9 → ∀ (H : Heap) (locs : List Loc) (ls : Array Slot), PX G A s.heap (ch S (pI S) (pJ S) q61 (qJ S)) H locs → lv_has ls 2 [(1, .int n), (0, .ref (sa 0))] → W p l e (Rm 1 0 0) s m args below meth c H locs 0 0 Q (F0 m 61 ls []) := by
                intro N9
                induction N9 with
                | zero => intro q61 n hi hm; exact absurd hm (Nat.not_lt_zero _)
                | succ N9 ih61 =>
                  intro q61 n hi hm H locs ls hw hl
                  refine lv_iload_n hx hb dX3_settle_61 rfl (lv_at hl 0 rfl) ?_
                  refine lv_aload_n hx hb dX3_settle_62 rfl (lv_at hl 1 rfl) ?_
                  refine gf_X3_30 (b := (sa 4)) X hw k0 r14 dX3_settle_63 ?_
                  refine q_lenI (v := 42) X hw k4 (by rw [show _ = 42 from n4]; decide) dX3_settle_66 ?_
                  refine lv_icmp_ge (tgt := 112) hx hb dX3_settle_67 (by decide) (fun c67_6 => ?_) (fun c67_6 => ?_)
                  · have D67_6 := iLe c67_6 t_42 rfl
                    exact hret _ _ _ _ _ ⟨_, rfl, trivial⟩ hw dX3_settle_112
                  · have D67_6 := iNle c67_6 t_42 rfl
                    refine lv_aload_n hx hb dX3_settle_70 rfl (lv_at hl 1 rfl) ?_
                    refine gf_X3_30 (b := (sa 4)) X hw k0 r14 dX3_settle_71 ?_
                    refine lv_iload_n hx hb dX3_settle_74 rfl (lv_at hl 0 rfl) ?_
                    refine q_ldI X hw k4 (vin n4 (by omega) (by omega)) dX3_settle_75 ?_
                    refine lv_topi (fun v75_7 e75_7 => ?_)
                    have e75_7 : v75_7 = q61 (sa 4) n.toNatClampNeg := e75_7
                    refine lv_iconst (v := -1) hx hb dX3_settle_76 (by decide) ?_
                    refine lv_icmp_ne (tgt := 106) hx hb dX3_settle_77 (by decide) (fun c77_8 => ?_) (fun c77_8 => ?_)
                    · have D77_8 := iNe c77_8 rfl t_m1
                      obtain ⟨v106_9, e106_9⟩ : ∃ y : Int32, y = n + 1 := ⟨_, rfl⟩
                      have t106_9 := iAdd e106_9 rfl t_1 (by omega) (by omega)
                      have t106 := t106_9
                      refine lv_iinc (v := v106_9) (lv' := [(1, .int v106_9), (0, .ref (sa 0))]) hx hb dX3_settle_106 hl (k := 0) rfl (by rw [e106_9]; rfl) (by decide) rfl (fun ls hl => ?_)
                      refine lv_goto (tgt := 61) hx hb dX3_settle_109 (by decide) ?_
                      exact ih61 q61 v106_9 (by omega) (by omega) _ _ _ hw (lv_sub hl [0, 1] rfl)
                    · have D77_8 := iEq c77_8 rfl t_m1
                      refine lv_aload_n hx hb dX3_settle_80 rfl (lv_at hl 1 rfl) ?_
                      refine gf_X3_30 (b := (sa 4)) X hw k0 r14 dX3_settle_81 ?_
                      refine lv_iload_n hx hb dX3_settle_84 rfl (lv_at hl 0 rfl) ?_
                      refine lv_iload_n hx hb dX3_settle_85 rfl (lv_at hl 0 rfl) ?_
                      refine lv_bipush (v := 21) hx hb dX3_settle_86 (by decide) ?_
                      refine lv_irem hx hb dX3_settle_88 (by decide) ?_
                      refine lv_topi (fun v88_10 e88_10 => ?_)
                      refine lv_if_ne (tgt := 97) hx hb dX3_settle_89 (by decide) (fun c89_11 => ?_) (fun c89_11 => ?_)
                      · have D89_11 := iNe c89_11 rfl t_0
                        have hi1 := rem_pos (x := n) (by assumption) (by assumption) hi.1
                        refine lv_aload_n hx hb dX3_settle_97 rfl (lv_at hl 1 rfl) ?_
                        refine gf_X3_30 (b := (sa 4)) X hw k0 r14 dX3_settle_98 ?_
                        refine lv_iload_n hx hb dX3_settle_101 rfl (lv_at hl 0 rfl) ?_
                        refine lv_iconst (v := 1) hx hb dX3_settle_102 (by decide) ?_
                        refine lv_isub hx hb dX3_settle_103 ?_
                        refine lv_topi (fun v103_12 e103_12 => ?_)
                        have t103_12 := iSub e103_12 rfl t_1 (by omega) (by omega)
                        have t103 := t103_12
                        refine q_ldI X hw k4 (vin n4 (by omega) (by omega)) dX3_settle_104 ?_
                        refine lv_topi (fun v104_13 e104_13 => ?_)
                        have e104_13 : v104_13 = q61 (sa 4) v103_12.toNatClampNeg := e104_13
                        refine q_stI X hw k4 (vin n4 (by omega) (by omega)) dX3_settle_105 (fun H locs hw => ?_)
                        obtain ⟨q105_14, hw⟩ : ∃ zz9, PX G A s.heap (ch S (pI S) (pJ S) zz9 (qJ S)) H locs := ⟨_, hw⟩
                        obtain ⟨v106_15, e106_15⟩ : ∃ y : Int32, y = n + 1 := ⟨_, rfl⟩
                        have t106_15 := iAdd e106_15 rfl t_1 (by omega) (by omega)
                        have t106 := t106_15
                        refine lv_iinc (v := v106_15) (lv' := [(1, .int v106_15), (0, .ref (sa 0))]) hx hb dX3_settle_106 hl (k := 0) rfl (by rw [e106_15]; rfl) (by decide) rfl (fun ls hl => ?_)
                        refine lv_goto (tgt := 61) hx hb dX3_settle_109 (by decide) ?_
                        exact ih61 q105_14 v106_15 (by omega) (by omega) _ _ _ hw (lv_sub hl [0, 1] rfl)
                      · have D89_11 := iEq c89_11 rfl t_0
                        refine lv_bipush (v := 100) hx hb dX3_settle_92 (by decide) ?_
                        refine lv_goto (tgt := 105) hx hb dX3_settle_94 (by decide) ?_
                        refine q_stI X hw k4 (vin n4 (by omega) (by omega)) dX3_settle_105 (fun H locs hw => ?_)
                        obtain ⟨q105_16, hw⟩ : ∃ zz9, PX G A s.heap (ch S (pI S) (pJ S) zz9 (qJ S)) H locs := ⟨_, hw⟩
                        obtain ⟨v106_17, e106_17⟩ : ∃ y : Int32, y = n + 1 := ⟨_, rfl⟩
                        have t106_17 := iAdd e106_17 rfl t_1 (by omega) (by omega)
                        have t106 := t106_17
                        refine lv_iinc (v := v106_17) (lv' := [(1, .int v106_17), (0, .ref (sa 0))]) hx hb dX3_settle_106 hl (k := 0) rfl (by rw [e106_17]; rfl) (by decide) rfl (fun ls hl => ?_)
                        refine lv_goto (tgt := 61) hx hb dX3_settle_109 (by decide) ?_
                        exact ih61 q105_16 v106_17 (by omega) (by omega) _ _ _ hw (lv_sub hl [0, 1] rfl)
              exact lp61 _ q31 0 (by have := t_0; omega) (Nat.lt_succ_self _) _ _ _ hw (lv_sub hl [0, 1] rfl)
            · have D33_5 := iNle c33_5 t_4 rfl
              refine lv_aload_n hx hb dX3_settle_36 rfl (lv_at hl 1 rfl) ?_
              refine gf_X3_22 (b := (sa 2)) X hw k0 r12 dX3_settle_37 ?_
              refine lv_iload_n hx hb dX3_settle_40 rfl (lv_at hl 0 rfl) ?_
              refine q_ldI X hw k2 (vin n2 (by omega) (by omega)) dX3_settle_41 ?_
              refine lv_topi (fun v41_18 e41_18 => ?_)
              have e41_18 : v41_18 = q31 (sa 2) j.toNatClampNeg := e41_18
              refine lv_iconst (v := -1) hx hb dX3_settle_42 (by decide) ?_
              refine lv_icmp_ne (tgt := 53) hx hb dX3_settle_43 (by decide) (fun c43_19 => ?_) (fun c43_19 => ?_)
              · have D43_19 := iNe c43_19 rfl t_m1
                obtain ⟨v53_20, e53_20⟩ : ∃ y : Int32, y = j + 1 := ⟨_, rfl⟩
                have t53_20 := iAdd e53_20 rfl t_1 (by omega) (by omega)
                have t53 := t53_20
                refine lv_iinc (v := v53_20) (lv' := [(1, .int v53_20), (0, .ref (sa 0))]) hx hb dX3_settle_53 hl (k := 0) rfl (by rw [e53_20]; rfl) (by decide) rfl (fun ls hl => ?_)
                refine lv_goto (tgt := 31) hx hb dX3_settle_56 (by decide) ?_
                exact ih31 q31 v53_20 (by omega) (by omega) _ _ _ hw (lv_sub hl [0, 1] rfl)
              · have D43_19 := iEq c43_19 rfl t_m1
                refine lv_aload_n hx hb dX3_settle_46 rfl (lv_at hl 1 rfl) ?_
                refine gf_X3_22 (b := (sa 2)) X hw k0 r12 dX3_settle_47 ?_
                refine lv_iload_n hx hb dX3_settle_50 rfl (lv_at hl 0 rfl) ?_
                refine lv_iconst (v := 3) hx hb dX3_settle_51 (by decide) ?_
                refine q_stI X hw k2 (vin n2 (by omega) (by omega)) dX3_settle_52 (fun H locs hw => ?_)
                obtain ⟨q52_21, hw⟩ : ∃ zz9, PX G A s.heap (ch S (pI S) (pJ S) zz9 (qJ S)) H locs := ⟨_, hw⟩
                obtain ⟨v53_22, e53_22⟩ : ∃ y : Int32, y = j + 1 := ⟨_, rfl⟩
                have t53_22 := iAdd e53_22 rfl t_1 (by omega) (by omega)
                have t53 := t53_22
                refine lv_iinc (v := v53_22) (lv' := [(1, .int v53_22), (0, .ref (sa 0))]) hx hb dX3_settle_53 hl (k := 0) rfl (by rw [e53_22]; rfl) (by decide) rfl (fun ls hl => ?_)
                refine lv_goto (tgt := 31) hx hb dX3_settle_56 (by decide) ?_
                exact ih31 q52_21 v53_22 (by omega) (by omega) _ _ _ hw (lv_sub hl [0, 1] rfl)
        exact lp31 _ q9 0 (by have := t_0; omega) (Nat.lt_succ_self _) _ _ _ hw (lv_sub hl [0, 1] rfl)
      · have D11_4 := iNle c11_4 t_4 rfl
        refine lv_aload_n hx hb dX3_settle_14 rfl (lv_at hl 1 rfl) ?_
        refine gf_X3_18 (b := (sa 1)) X hw k0 r11 dX3_settle_15 ?_
        refine lv_iload_n hx hb dX3_settle_18 rfl (lv_at hl 0 rfl) ?_
        refine q_ldFlow (v := .ref (fl sa (i.toNatClampNeg + 1) 0)) X hw k1 (vin n1 (by omega) (by omega)) (congrArg va_rf (g1 i.toNatClampNeg (clt (by omega) (by omega)))) dX3_settle_19 ?_
        refine k_Vv (n := 0) X hw (rcvk (ci := 2) X hw (fz (i.toNatClampNeg + 1) (Nat.succ_lt_succ (clt (by omega) (by omega)))).1 (fun _ _ _ _ _ _ _ => ⟨_, rfl⟩) rfl) (c_X1_settle l G _ (fl sa (i.toNatClampNeg + 1))  (fz (i.toNatClampNeg + 1) (Nat.succ_lt_succ (clt (by omega) (by omega))))) wd_r10_21 wd_r10_22 wd_r10_23 wd_r4_14 wd_r11_0 ⟨by decide, by decide, by decide +kernel⟩ rfl rfl ⟨Nat.le_of_ble_eq_true rfl, Nat.le_of_ble_eq_true rfl⟩ rfl rfl hl.1 (Nat.le_of_ble_eq_true rfl) dX3_settle_20 ⟨Nat.le_of_ble_eq_true rfl, Nat.le_of_ble_eq_true rfl⟩ (fun S20_24 H locs h20_23 hw => ?_)
        obtain ⟨q20_25, rfl, h20_23⟩ := h20_23
        have hw : PX G A s.heap (ch S (pI S) (pJ S) q20_25 (qJ S)) H locs := hw
        obtain ⟨v23_26, e23_26⟩ : ∃ y : Int32, y = i + 1 := ⟨_, rfl⟩
        have t23_26 := iAdd e23_26 rfl t_1 (by omega) (by omega)
        have t23 := t23_26
        refine lv_iinc (v := v23_26) (lv' := [(1, .int v23_26), (0, .ref (sa 0))]) hx hb dX3_settle_23 hl (k := 0) rfl (by rw [e23_26]; rfl) (by decide) rfl (fun ls hl => ?_)
        refine lv_goto (tgt := 9) hx hb dX3_settle_26 (by decide) ?_
        exact ih9 q20_25 v23_26 (by omega) (by omega) _ _ _ hw (lv_sub hl [0, 1] rfl)
  exact lp9 _ q4_3 0 (by have := t_0; omega) (Nat.lt_succ_self _) _ _ _ hw (lv_sub hl [0, 1] rfl)
set_option maxHeartbeats 4000000 in
set_option maxRecDepth 100000 in
theorem c_X3_lines (l : Launch) (G : Gh) (S : Pl) (sa : Nat → Nat) (hS : shSea S sa) : MtI l yX3_lines cX3_lines 1 (some .int) (Rm 0 0 0) G [.ref (sa 0)] S (fun (r : Int32) (S' : Pl) => S = S' ∧ r = pI S 15 (sa 0)) 0 0 := by
  refine MtI.of (by decide) (Nat.le_of_ble_eq_true rfl) ?_
  intro p e s m args below meth c Q A X hw hin hret ls hl
  have hx := X.1.1
  have hb := X.1.2.1
  have hl : lv_has ls 1 [(0, .ref (sa 0))] := hl
  obtain ⟨k0, r10, r11, r12, r13, r14, k1, n1, g1, k2, n2, k3, n3, k4, n4, fz⟩ := id hS
  refine lv_aload_n hx hb dX3_lines_0 rfl (lv_at hl 0 rfl) ?_
  refine gf_X3_33 (v := (pI S) 15 (sa 0)) X hw k0 rfl dX3_lines_1 ?_
  exact hret ((pI S) 15 (sa 0)) _ _ _ _ _ ⟨rfl, rfl⟩ hw rfl dX3_lines_4
set_option maxHeartbeats 4000000 in
set_option maxRecDepth 100000 in
theorem c_X3_countLine (l : Launch) (G : Gh) (S : Pl) (sa : Nat → Nat) (hS : shSea S sa) : MtV l yX3_countLine cX3_countLine 1 none (Rm 0 0 0) G [.ref (sa 0)] S (fun (S' : Pl) => ∃ I', ch S I' (pJ S) (qI S) (qJ S) = S' ∧ Fr (pI S) I') 0 0 := by
  refine MtV.of (by decide) (Nat.le_of_ble_eq_true rfl) ?_
  intro p e s m args below meth c Q A X hw hin hret ls hl
  have hx := X.1.1
  have hb := X.1.2.1
  have hl : lv_has ls 1 [(0, .ref (sa 0))] := hl
  obtain ⟨k0, r10, r11, r12, r13, r14, k1, n1, g1, k2, n2, k3, n3, k4, n4, fz⟩ := id hS
  refine lv_aload_n hx hb dX3_countLine_0 rfl (lv_at hl 0 rfl) ?_
  refine lv_dup hx hb dX3_countLine_1 rfl ?_
  refine gf_X3_33 (v := (pI S) 15 (sa 0)) X hw k0 rfl dX3_countLine_2 ?_
  refine lv_iconst (v := 1) hx hb dX3_countLine_5 (by decide) ?_
  refine lv_iadd hx hb dX3_countLine_6 ?_
  refine lv_topi (fun v6_1 e6_1 => ?_)
  refine pf_X3_33 X hw k0 dX3_countLine_7 (fun H locs hw => ?_)
  have hw : PX G A s.heap (ch S (up2 (pI S) 15 (sa 0) v6_1) (pJ S) (qI S) (qJ S)) H locs := hw
  exact hret _ _ _ _ _ ⟨_, rfl, (Fr.up (f := 15) (by decide) Fr.rf)⟩ hw dX3_countLine_10
set_option maxHeartbeats 4000000 in
set_option maxRecDepth 100000 in
theorem c_X3_isWindTold (l : Launch) (G : Gh) (S : Pl) (sa : Nat → Nat) (h : Int32) (hS : shSea S sa) : MtI l yX3_isWindTold cX3_isWindTold 2 (some .boolean) (Rm 1 0 0) G [.ref (sa 0), .int h] S (fun (r : Int32) (S' : Pl) => (S = S' ∧ r = 1 ∧ True) ∨ (S = S' ∧ r = 0 ∧ True)) 0 0 := by
  refine MtI.of (by decide) (Nat.le_of_ble_eq_true rfl) ?_
  intro p e s m args below meth c Q A X hw hin hret ls hl
  have hx := X.1.1
  have hb := X.1.2.1
  have hl : lv_has ls 2 [(0, .ref (sa 0)), (1, .int h)] := hl
  obtain ⟨k0, r10, r11, r12, r13, r14, k1, n1, g1, k2, n2, k3, n3, k4, n4, fz⟩ := id hS
  refine lv_aload_n hx hb dX3_isWindTold_0 rfl (lv_at hl 0 rfl) ?_
  refine gf_X3_12 (b := (fl sa 0 0)) X hw k0 r10 dX3_isWindTold_1 ?_
  refine lv_iload_n hx hb dX3_isWindTold_4 rfl (lv_at hl 1 rfl) ?_
  refine k_Vi (n := 1) X hw (rcvk (ci := 2) X hw (fz 0 (by decide)).1 (fun _ _ _ _ _ _ _ => ⟨_, rfl⟩) rfl) (c_X1_isTold l G _ (fl sa 0) h (fz 0 (by decide))) wd_r15_2 wd_r15_3 wd_r15_4 wd_r4_14 wd_r15_5 ⟨by decide, by decide, by decide +kernel⟩ rfl rfl ⟨Nat.le_of_ble_eq_true rfl, Nat.le_of_ble_eq_true rfl⟩ rfl rfl hl.1 (Nat.le_of_ble_eq_true rfl) dX3_isWindTold_5 ⟨Nat.le_of_ble_eq_true rfl, Nat.le_of_ble_eq_true rfl⟩ (fun r5_1 S5_3 H locs h5_2 hw => ?_)
  rcases h5_2 with ⟨rfl, rfl, h5_2⟩ | ⟨rfl, rfl, h5_2⟩
  · have h5_2 := h5_2
    exact hret 1 _ _ _ _ _ (Or.inl ⟨rfl, rfl, trivial⟩) hw rfl dX3_isWindTold_8
  · have h5_2 := h5_2
    exact hret 0 _ _ _ _ _ (Or.inr ⟨rfl, rfl, trivial⟩) hw rfl dX3_isWindTold_8
set_option maxHeartbeats 4000000 in
set_option maxRecDepth 100000 in
theorem c_X3_tellWind (l : Launch) (G : Gh) (S : Pl) (sa : Nat → Nat) (h x y : Int32) (hS : shSea S sa) : MtV l yX3_tellWind cX3_tellWind 4 none (Rm 2 0 0) G [.ref (sa 0), .int h, .int x, .int y] S (fun (S' : Pl) => ∃ q', ch S (pI S) (pJ S) q' (qJ S) = S' ∧ True) 0 0 := by
  refine MtV.of (by decide) (Nat.le_of_ble_eq_true rfl) ?_
  intro p e s m args below meth c Q A X hw hin hret ls hl
  have hx := X.1.1
  have hb := X.1.2.1
  have hl : lv_has ls 4 [(0, .ref (sa 0)), (1, .int h), (2, .int x), (3, .int y)] := hl
  obtain ⟨k0, r10, r11, r12, r13, r14, k1, n1, g1, k2, n2, k3, n3, k4, n4, fz⟩ := id hS
  refine lv_aload_n hx hb dX3_tellWind_0 rfl (lv_at hl 0 rfl) ?_
  refine gf_X3_12 (b := (fl sa 0 0)) X hw k0 r10 dX3_tellWind_1 ?_
  refine lv_iload_n hx hb dX3_tellWind_4 rfl (lv_at hl 1 rfl) ?_
  refine lv_iload_n hx hb dX3_tellWind_5 rfl (lv_at hl 2 rfl) ?_
  refine lv_iload_n hx hb dX3_tellWind_6 rfl (lv_at hl 3 rfl) ?_
  refine k_Vv (n := 3) X hw (rcvk (ci := 2) X hw (fz 0 (by decide)).1 (fun _ _ _ _ _ _ _ => ⟨_, rfl⟩) rfl) (c_X1_tell l G _ (fl sa 0) h x y (fz 0 (by decide))) wd_r16_23 wd_r17_0 wd_r17_1 wd_r4_14 wd_r17_2 ⟨by decide, by decide, by decide +kernel⟩ rfl rfl ⟨Nat.le_of_ble_eq_true rfl, Nat.le_of_ble_eq_true rfl⟩ rfl rfl hl.1 (Nat.le_of_ble_eq_true rfl) dX3_tellWind_7 ⟨Nat.le_of_ble_eq_true rfl, Nat.le_of_ble_eq_true rfl⟩ (fun S7_2 H locs h7_1 hw => ?_)
  obtain ⟨q7_3, rfl, h7_1⟩ := h7_1
  have hw : PX G A s.heap (ch S (pI S) (pJ S) q7_3 (qJ S)) H locs := hw
  exact hret _ _ _ _ _ ⟨_, rfl, trivial⟩ hw dX3_tellWind_10
set_option maxHeartbeats 4000000 in
set_option maxRecDepth 100000 in
theorem c_X3_windOf (l : Launch) (G : Gh) (S : Pl) (sa : Nat → Nat) (h y : Int32) (hS : shSea S sa) : MtI l yX3_windOf cX3_windOf 3 (some .int) (Rm 2 0 0) G [.ref (sa 0), .int h, .int y] S (fun (r : Int32) (S' : Pl) => S = S' ∧ True) 0 0 := by
  refine MtI.of (by decide) (Nat.le_of_ble_eq_true rfl) ?_
  intro p e s m args below meth c Q A X hw hin hret ls hl
  have hx := X.1.1
  have hb := X.1.2.1
  have hl : lv_has ls 3 [(0, .ref (sa 0)), (1, .int h), (2, .int y)] := hl
  obtain ⟨k0, r10, r11, r12, r13, r14, k1, n1, g1, k2, n2, k3, n3, k4, n4, fz⟩ := id hS
  refine lv_aload_n hx hb dX3_windOf_0 rfl (lv_at hl 0 rfl) ?_
  refine gf_X3_12 (b := (fl sa 0 0)) X hw k0 r10 dX3_windOf_1 ?_
  refine lv_iload_n hx hb dX3_windOf_4 rfl (lv_at hl 1 rfl) ?_
  refine lv_iload_n hx hb dX3_windOf_5 rfl (lv_at hl 2 rfl) ?_
  refine k_Vi (n := 2) X hw (rcvk (ci := 2) X hw (fz 0 (by decide)).1 (fun _ _ _ _ _ _ _ => ⟨_, rfl⟩) rfl) (c_X1_stepIn l G _ (fl sa 0) h y (fz 0 (by decide))) wd_r19_15 wd_r19_16 wd_r19_17 wd_r4_14 wd_r19_18 ⟨by decide, by decide, by decide +kernel⟩ rfl rfl ⟨Nat.le_of_ble_eq_true rfl, Nat.le_of_ble_eq_true rfl⟩ rfl rfl hl.1 (Nat.le_of_ble_eq_true rfl) dX3_windOf_6 ⟨Nat.le_of_ble_eq_true rfl, Nat.le_of_ble_eq_true rfl⟩ (fun r6_1 S6_3 H locs h6_2 hw => ?_)
  obtain ⟨rfl, h6_2⟩ := h6_2
  exact hret r6_1 _ _ _ _ _ ⟨rfl, trivial⟩ hw rfl dX3_windOf_9
set_option maxHeartbeats 4000000 in
set_option maxRecDepth 100000 in
theorem c_X3_isStreamTold (l : Launch) (G : Gh) (S : Pl) (sa : Nat → Nat) (q h : Int32) (hS : shSea S sa) : MtI l yX3_isStreamTold cX3_isStreamTold 3 (some .boolean) (Rm 1 0 0) G [.ref (sa 0), .int q, .int h] S (fun (r : Int32) (S' : Pl) => (S = S' ∧ r = 1 ∧ True) ∨ (S = S' ∧ r = 0 ∧ True)) 0 0 := by
  refine MtI.of (by decide) (Nat.le_of_ble_eq_true rfl) ?_
  intro p e s m args below meth c Q A X hw hin hret ls hl
  have hx := X.1.1
  have hb := X.1.2.1
  have hl : lv_has ls 3 [(0, .ref (sa 0)), (1, .int q), (2, .int h)] := hl
  obtain ⟨k0, r10, r11, r12, r13, r14, k1, n1, g1, k2, n2, k3, n3, k4, n4, fz⟩ := id hS
  refine lv_iload_n hx hb dX3_isStreamTold_0 rfl (lv_at hl 1 rfl) ?_
  refine k_SNi (n := 1) (host := RX10) X hw (c_X10_isQuarter l G _ q) (List.mem_of_getElem? (i := 4) rfl) wd_r15_10 wd_r1_2 wd_r15_11 ⟨by decide, by decide, by decide +kernel⟩ rfl rfl ⟨Nat.le_of_ble_eq_true rfl, Nat.le_of_ble_eq_true rfl⟩ rfl rfl hl.1 (Nat.le_of_ble_eq_true rfl) dX3_isStreamTold_1 ⟨Nat.le_of_ble_eq_true rfl, Nat.le_of_ble_eq_true rfl⟩ (fun r1_1 S1_3 H locs h1_2 hw => ?_)
  rcases h1_2 with ⟨rfl, rfl, h1_2⟩ | ⟨rfl, rfl, h1_2⟩
  · have h1_2 := h1_2
    refine lv_if_eq (tgt := 24) hx hb dX3_isStreamTold_4 (by decide) (fun c4_4 => absurd c4_4 (by decide)) (fun c4_4 => ?_)
    refine lv_aload_n hx hb dX3_isStreamTold_7 rfl (lv_at hl 0 rfl) ?_
    refine gf_X3_18 (b := (sa 1)) X hw k0 r11 dX3_isStreamTold_8 ?_
    refine lv_iload_n hx hb dX3_isStreamTold_11 rfl (lv_at hl 1 rfl) ?_
    refine q_ldFlow (v := .ref (fl sa (q.toNatClampNeg + 1) 0)) X hw k1 (vin n1 (by omega) (by omega)) (congrArg va_rf (g1 q.toNatClampNeg (clt (by omega) (by omega)))) dX3_isStreamTold_12 ?_
    refine lv_iload_n hx hb dX3_isStreamTold_13 rfl (lv_at hl 2 rfl) ?_
    refine k_Vi (n := 1) X hw (rcvk (ci := 2) X hw (fz (q.toNatClampNeg + 1) (Nat.succ_lt_succ (clt (by omega) (by omega)))).1 (fun _ _ _ _ _ _ _ => ⟨_, rfl⟩) rfl) (c_X1_isTold l G _ (fl sa (q.toNatClampNeg + 1)) h (fz (q.toNatClampNeg + 1) (Nat.succ_lt_succ (clt (by omega) (by omega))))) wd_r15_2 wd_r15_3 wd_r15_4 wd_r4_14 wd_r15_5 ⟨by decide, by decide, by decide +kernel⟩ rfl rfl ⟨Nat.le_of_ble_eq_true rfl, Nat.le_of_ble_eq_true rfl⟩ rfl rfl hl.1 (Nat.le_of_ble_eq_true rfl) dX3_isStreamTold_14 ⟨Nat.le_of_ble_eq_true rfl, Nat.le_of_ble_eq_true rfl⟩ (fun r14_5 S14_7 H locs h14_6 hw => ?_)
    rcases h14_6 with ⟨rfl, rfl, h14_6⟩ | ⟨rfl, rfl, h14_6⟩
    · have h14_6 := h14_6
      refine lv_if_eq (tgt := 24) hx hb dX3_isStreamTold_17 (by decide) (fun c17_8 => absurd c17_8 (by decide)) (fun c17_8 => ?_)
      refine lv_iconst (v := 1) hx hb dX3_isStreamTold_20 (by decide) ?_
      refine lv_goto (tgt := 25) hx hb dX3_isStreamTold_21 (by decide) ?_
      exact hret 1 _ _ _ _ _ (Or.inl ⟨rfl, rfl, trivial⟩) hw rfl dX3_isStreamTold_25
    · have h14_6 := h14_6
      refine lv_if_eq (tgt := 24) hx hb dX3_isStreamTold_17 (by decide) (fun c17_9 => ?_) (fun c17_9 => absurd c17_9 (by decide))
      refine lv_iconst (v := 0) hx hb dX3_isStreamTold_24 (by decide) ?_
      exact hret 0 _ _ _ _ _ (Or.inr ⟨rfl, rfl, trivial⟩) hw rfl dX3_isStreamTold_25
  · have h1_2 := h1_2
    refine lv_if_eq (tgt := 24) hx hb dX3_isStreamTold_4 (by decide) (fun c4_10 => ?_) (fun c4_10 => absurd c4_10 (by decide))
    refine lv_iconst (v := 0) hx hb dX3_isStreamTold_24 (by decide) ?_
    exact hret 0 _ _ _ _ _ (Or.inr ⟨rfl, rfl, trivial⟩) hw rfl dX3_isStreamTold_25
set_option maxHeartbeats 4000000 in
set_option maxRecDepth 100000 in
theorem c_X3_tellStream (l : Launch) (G : Gh) (S : Pl) (sa : Nat → Nat) (q h x y : Int32) (hS : shSea S sa) : MtV l yX3_tellStream cX3_tellStream 5 none (Rm 2 0 0) G [.ref (sa 0), .int q, .int h, .int x, .int y] S (fun (S' : Pl) => ∃ q', ch S (pI S) (pJ S) q' (qJ S) = S' ∧ True) 0 0 := by
  refine MtV.of (by decide) (Nat.le_of_ble_eq_true rfl) ?_
  intro p e s m args below meth c Q A X hw hin hret ls hl
  have hx := X.1.1
  have hb := X.1.2.1
  have hl : lv_has ls 5 [(0, .ref (sa 0)), (1, .int q), (2, .int h), (3, .int x), (4, .int y)] := hl
  obtain ⟨k0, r10, r11, r12, r13, r14, k1, n1, g1, k2, n2, k3, n3, k4, n4, fz⟩ := id hS
  refine lv_iload_n hx hb dX3_tellStream_0 rfl (lv_at hl 1 rfl) ?_
  refine k_SNi (n := 1) (host := RX10) X hw (c_X10_isQuarter l G _ q) (List.mem_of_getElem? (i := 4) rfl) wd_r15_10 wd_r1_2 wd_r15_11 ⟨by decide, by decide, by decide +kernel⟩ rfl rfl ⟨Nat.le_of_ble_eq_true rfl, Nat.le_of_ble_eq_true rfl⟩ rfl rfl hl.1 (Nat.le_of_ble_eq_true rfl) dX3_tellStream_1 ⟨Nat.le_of_ble_eq_true rfl, Nat.le_of_ble_eq_true rfl⟩ (fun r1_1 S1_3 H locs h1_2 hw => ?_)
  rcases h1_2 with ⟨rfl, rfl, h1_2⟩ | ⟨rfl, rfl, h1_2⟩
  · have h1_2 := h1_2
    refine lv_if_eq (tgt := 20) hx hb dX3_tellStream_4 (by decide) (fun c4_4 => absurd c4_4 (by decide)) (fun c4_4 => ?_)
    refine lv_aload_n hx hb dX3_tellStream_7 rfl (lv_at hl 0 rfl) ?_
    refine gf_X3_18 (b := (sa 1)) X hw k0 r11 dX3_tellStream_8 ?_
    refine lv_iload_n hx hb dX3_tellStream_11 rfl (lv_at hl 1 rfl) ?_
    refine q_ldFlow (v := .ref (fl sa (q.toNatClampNeg + 1) 0)) X hw k1 (vin n1 (by omega) (by omega)) (congrArg va_rf (g1 q.toNatClampNeg (clt (by omega) (by omega)))) dX3_tellStream_12 ?_
    refine lv_iload_n hx hb dX3_tellStream_13 rfl (lv_at hl 2 rfl) ?_
    refine lv_iload_n hx hb dX3_tellStream_14 rfl (lv_at hl 3 rfl) ?_
    refine lv_iload hx hb dX3_tellStream_15 (lv_at hl 4 rfl) ?_
    refine k_Vv (n := 3) X hw (rcvk (ci := 2) X hw (fz (q.toNatClampNeg + 1) (Nat.succ_lt_succ (clt (by omega) (by omega)))).1 (fun _ _ _ _ _ _ _ => ⟨_, rfl⟩) rfl) (c_X1_tell l G _ (fl sa (q.toNatClampNeg + 1)) h x y (fz (q.toNatClampNeg + 1) (Nat.succ_lt_succ (clt (by omega) (by omega))))) wd_r16_23 wd_r17_0 wd_r17_1 wd_r4_14 wd_r17_2 ⟨by decide, by decide, by decide +kernel⟩ rfl rfl ⟨Nat.le_of_ble_eq_true rfl, Nat.le_of_ble_eq_true rfl⟩ rfl rfl hl.1 (Nat.le_of_ble_eq_true rfl) dX3_tellStream_17 ⟨Nat.le_of_ble_eq_true rfl, Nat.le_of_ble_eq_true rfl⟩ (fun S17_6 H locs h17_5 hw => ?_)
    obtain ⟨q17_7, rfl, h17_5⟩ := h17_5
    have hw : PX G A s.heap (ch S (pI S) (pJ S) q17_7 (qJ S)) H locs := hw
    exact hret _ _ _ _ _ ⟨_, rfl, trivial⟩ hw dX3_tellStream_20
  · have h1_2 := h1_2
    refine lv_if_eq (tgt := 20) hx hb dX3_tellStream_4 (by decide) (fun c4_8 => ?_) (fun c4_8 => absurd c4_8 (by decide))
    exact hret _ _ _ _ _ ⟨_, rfl, trivial⟩ hw dX3_tellStream_20
set_option maxHeartbeats 4000000 in
set_option maxRecDepth 100000 in
theorem c_X3_streamOf (l : Launch) (G : Gh) (S : Pl) (sa : Nat → Nat) (q h y : Int32) (hS : shSea S sa) : MtI l yX3_streamOf cX3_streamOf 4 (some .int) (Rm 2 0 0) G [.ref (sa 0), .int q, .int h, .int y] S (fun (r : Int32) (S' : Pl) => S = S' ∧ True) 0 0 := by
  refine MtI.of (by decide) (Nat.le_of_ble_eq_true rfl) ?_
  intro p e s m args below meth c Q A X hw hin hret ls hl
  have hx := X.1.1
  have hb := X.1.2.1
  have hl : lv_has ls 4 [(0, .ref (sa 0)), (1, .int q), (2, .int h), (3, .int y)] := hl
  obtain ⟨k0, r10, r11, r12, r13, r14, k1, n1, g1, k2, n2, k3, n3, k4, n4, fz⟩ := id hS
  refine lv_iload_n hx hb dX3_streamOf_0 rfl (lv_at hl 1 rfl) ?_
  refine k_SNi (n := 1) (host := RX10) X hw (c_X10_isQuarter l G _ q) (List.mem_of_getElem? (i := 4) rfl) wd_r15_10 wd_r1_2 wd_r15_11 ⟨by decide, by decide, by decide +kernel⟩ rfl rfl ⟨Nat.le_of_ble_eq_true rfl, Nat.le_of_ble_eq_true rfl⟩ rfl rfl hl.1 (Nat.le_of_ble_eq_true rfl) dX3_streamOf_1 ⟨Nat.le_of_ble_eq_true rfl, Nat.le_of_ble_eq_true rfl⟩ (fun r1_1 S1_3 H locs h1_2 hw => ?_)
  rcases h1_2 with ⟨rfl, rfl, h1_2⟩ | ⟨rfl, rfl, h1_2⟩
  · have h1_2 := h1_2
    refine lv_if_eq (tgt := 21) hx hb dX3_streamOf_4 (by decide) (fun c4_4 => absurd c4_4 (by decide)) (fun c4_4 => ?_)
    refine lv_aload_n hx hb dX3_streamOf_7 rfl (lv_at hl 0 rfl) ?_
    refine gf_X3_18 (b := (sa 1)) X hw k0 r11 dX3_streamOf_8 ?_
    refine lv_iload_n hx hb dX3_streamOf_11 rfl (lv_at hl 1 rfl) ?_
    refine q_ldFlow (v := .ref (fl sa (q.toNatClampNeg + 1) 0)) X hw k1 (vin n1 (by omega) (by omega)) (congrArg va_rf (g1 q.toNatClampNeg (clt (by omega) (by omega)))) dX3_streamOf_12 ?_
    refine lv_iload_n hx hb dX3_streamOf_13 rfl (lv_at hl 2 rfl) ?_
    refine lv_iload_n hx hb dX3_streamOf_14 rfl (lv_at hl 3 rfl) ?_
    refine k_Vi (n := 2) X hw (rcvk (ci := 2) X hw (fz (q.toNatClampNeg + 1) (Nat.succ_lt_succ (clt (by omega) (by omega)))).1 (fun _ _ _ _ _ _ _ => ⟨_, rfl⟩) rfl) (c_X1_stepIn l G _ (fl sa (q.toNatClampNeg + 1)) h y (fz (q.toNatClampNeg + 1) (Nat.succ_lt_succ (clt (by omega) (by omega))))) wd_r19_15 wd_r19_16 wd_r19_17 wd_r4_14 wd_r19_18 ⟨by decide, by decide, by decide +kernel⟩ rfl rfl ⟨Nat.le_of_ble_eq_true rfl, Nat.le_of_ble_eq_true rfl⟩ rfl rfl hl.1 (Nat.le_of_ble_eq_true rfl) dX3_streamOf_15 ⟨Nat.le_of_ble_eq_true rfl, Nat.le_of_ble_eq_true rfl⟩ (fun r15_5 S15_7 H locs h15_6 hw => ?_)
    obtain ⟨rfl, h15_6⟩ := h15_6
    refine lv_goto (tgt := 22) hx hb dX3_streamOf_18 (by decide) ?_
    exact hret r15_5 _ _ _ _ _ ⟨rfl, trivial⟩ hw rfl dX3_streamOf_22
  · have h1_2 := h1_2
    refine lv_if_eq (tgt := 21) hx hb dX3_streamOf_4 (by decide) (fun c4_8 => ?_) (fun c4_8 => absurd c4_8 (by decide))
    refine lv_iconst (v := 0) hx hb dX3_streamOf_21 (by decide) ?_
    exact hret 0 _ _ _ _ _ ⟨rfl, trivial⟩ hw rfl dX3_streamOf_22
set_option maxHeartbeats 4000000 in
set_option maxRecDepth 100000 in
theorem c_X3_isLeeTold (l : Launch) (G : Gh) (S : Pl) (sa : Nat → Nat) (k : Int32) (hS : shSea S sa) : MtI l yX3_isLeeTold cX3_isLeeTold 2 (some .boolean) (Rm 1 0 0) G [.ref (sa 0), .int k] S (fun (r : Int32) (S' : Pl) => (S = S' ∧ r = 1 ∧ True) ∨ (S = S' ∧ r = 0 ∧ True)) 0 0 := by
  refine MtI.of (by decide) (Nat.le_of_ble_eq_true rfl) ?_
  intro p e s m args below meth c Q A X hw hin hret ls hl
  have hx := X.1.1
  have hb := X.1.2.1
  have hl : lv_has ls 2 [(0, .ref (sa 0)), (1, .int k)] := hl
  obtain ⟨k0, r10, r11, r12, r13, r14, k1, n1, g1, k2, n2, k3, n3, k4, n4, fz⟩ := id hS
  refine lv_iload_n hx hb dX3_isLeeTold_0 rfl (lv_at hl 1 rfl) ?_
  refine k_SNi (n := 1) (host := RX10) X hw (c_X10_isKind l G _ k) (List.mem_of_getElem? (i := 5) rfl) wd_r15_16 wd_r1_2 wd_r15_17 ⟨by decide, by decide, by decide +kernel⟩ rfl rfl ⟨Nat.le_of_ble_eq_true rfl, Nat.le_of_ble_eq_true rfl⟩ rfl rfl hl.1 (Nat.le_of_ble_eq_true rfl) dX3_isLeeTold_1 ⟨Nat.le_of_ble_eq_true rfl, Nat.le_of_ble_eq_true rfl⟩ (fun r1_1 S1_3 H locs h1_2 hw => ?_)
  rcases h1_2 with ⟨rfl, rfl, h1_2⟩ | ⟨rfl, rfl, h1_2⟩
  · have h1_2 := h1_2
    refine lv_if_eq (tgt := 21) hx hb dX3_isLeeTold_4 (by decide) (fun c4_4 => absurd c4_4 (by decide)) (fun c4_4 => ?_)
    refine lv_aload_n hx hb dX3_isLeeTold_7 rfl (lv_at hl 0 rfl) ?_
    refine gf_X3_22 (b := (sa 2)) X hw k0 r12 dX3_isLeeTold_8 ?_
    refine lv_iload_n hx hb dX3_isLeeTold_11 rfl (lv_at hl 1 rfl) ?_
    refine q_ldI X hw k2 (vin n2 (by omega) (by omega)) dX3_isLeeTold_12 ?_
    refine lv_topi (fun v12_5 e12_5 => ?_)
    have e12_5 : v12_5 = (qI S) (sa 2) k.toNatClampNeg := e12_5
    refine lv_iconst (v := -1) hx hb dX3_isLeeTold_13 (by decide) ?_
    refine lv_icmp_eq (tgt := 21) hx hb dX3_isLeeTold_14 (by decide) (fun c14_6 => ?_) (fun c14_6 => ?_)
    · have D14_6 := iEq c14_6 rfl t_m1
      refine lv_iconst (v := 0) hx hb dX3_isLeeTold_21 (by decide) ?_
      exact hret 0 _ _ _ _ _ (Or.inr ⟨rfl, rfl, trivial⟩) hw rfl dX3_isLeeTold_22
    · have D14_6 := iNe c14_6 rfl t_m1
      refine lv_iconst (v := 1) hx hb dX3_isLeeTold_17 (by decide) ?_
      refine lv_goto (tgt := 22) hx hb dX3_isLeeTold_18 (by decide) ?_
      exact hret 1 _ _ _ _ _ (Or.inl ⟨rfl, rfl, trivial⟩) hw rfl dX3_isLeeTold_22
  · have h1_2 := h1_2
    refine lv_if_eq (tgt := 21) hx hb dX3_isLeeTold_4 (by decide) (fun c4_7 => ?_) (fun c4_7 => absurd c4_7 (by decide))
    refine lv_iconst (v := 0) hx hb dX3_isLeeTold_21 (by decide) ?_
    exact hret 0 _ _ _ _ _ (Or.inr ⟨rfl, rfl, trivial⟩) hw rfl dX3_isLeeTold_22
set_option maxHeartbeats 4000000 in
set_option maxRecDepth 100000 in
theorem c_X3_tellLee (l : Launch) (G : Gh) (S : Pl) (sa : Nat → Nat) (k v : Int32) (hS : shSea S sa) : MtV l yX3_tellLee cX3_tellLee 3 none (Rm 1 0 0) G [.ref (sa 0), .int k, .int v] S (fun (S' : Pl) => ∃ q', ch S (pI S) (pJ S) q' (qJ S) = S' ∧ True) 0 0 := by
  refine MtV.of (by decide) (Nat.le_of_ble_eq_true rfl) ?_
  intro p e s m args below meth c Q A X hw hin hret ls hl
  have hx := X.1.1
  have hb := X.1.2.1
  have hl : lv_has ls 3 [(0, .ref (sa 0)), (1, .int k), (2, .int v)] := hl
  obtain ⟨k0, r10, r11, r12, r13, r14, k1, n1, g1, k2, n2, k3, n3, k4, n4, fz⟩ := id hS
  refine lv_iload_n hx hb dX3_tellLee_0 rfl (lv_at hl 1 rfl) ?_
  refine k_SNi (n := 1) (host := RX10) X hw (c_X10_isKind l G _ k) (List.mem_of_getElem? (i := 5) rfl) wd_r15_16 wd_r1_2 wd_r15_17 ⟨by decide, by decide, by decide +kernel⟩ rfl rfl ⟨Nat.le_of_ble_eq_true rfl, Nat.le_of_ble_eq_true rfl⟩ rfl rfl hl.1 (Nat.le_of_ble_eq_true rfl) dX3_tellLee_1 ⟨Nat.le_of_ble_eq_true rfl, Nat.le_of_ble_eq_true rfl⟩ (fun r1_1 S1_3 H locs h1_2 hw => ?_)
  rcases h1_2 with ⟨rfl, rfl, h1_2⟩ | ⟨rfl, rfl, h1_2⟩
  · have h1_2 := h1_2
    refine lv_if_eq (tgt := 14) hx hb dX3_tellLee_4 (by decide) (fun c4_4 => absurd c4_4 (by decide)) (fun c4_4 => ?_)
    refine lv_aload_n hx hb dX3_tellLee_7 rfl (lv_at hl 0 rfl) ?_
    refine gf_X3_22 (b := (sa 2)) X hw k0 r12 dX3_tellLee_8 ?_
    refine lv_iload_n hx hb dX3_tellLee_11 rfl (lv_at hl 1 rfl) ?_
    refine lv_iload_n hx hb dX3_tellLee_12 rfl (lv_at hl 2 rfl) ?_
    refine q_stI X hw k2 (vin n2 (by omega) (by omega)) dX3_tellLee_13 (fun H locs hw => ?_)
    obtain ⟨q13_5, hw⟩ : ∃ zz9, PX G A s.heap (ch S (pI S) (pJ S) zz9 (qJ S)) H locs := ⟨_, hw⟩
    exact hret _ _ _ _ _ ⟨_, rfl, trivial⟩ hw dX3_tellLee_14
  · have h1_2 := h1_2
    refine lv_if_eq (tgt := 14) hx hb dX3_tellLee_4 (by decide) (fun c4_6 => ?_) (fun c4_6 => absurd c4_6 (by decide))
    exact hret _ _ _ _ _ ⟨_, rfl, trivial⟩ hw dX3_tellLee_14
set_option maxHeartbeats 4000000 in
set_option maxRecDepth 100000 in
theorem c_X3_hasLand (l : Launch) (G : Gh) (S : Pl) (sa : Nat → Nat) (c0 : Int32) (hS : shSea S sa) : MtI l yX3_hasLand cX3_hasLand 2 (some .boolean) (Rm 1 0 0) G [.ref (sa 0), .int c0] S (fun (r : Int32) (S' : Pl) => (S = S' ∧ r = 1 ∧ True) ∨ (S = S' ∧ r = 0 ∧ True)) 0 0 := by
  refine MtI.of (by decide) (Nat.le_of_ble_eq_true rfl) ?_
  intro p e s m args below meth c Q A X hw hin hret ls hl
  have hx := X.1.1
  have hb := X.1.2.1
  have hl : lv_has ls 2 [(0, .ref (sa 0)), (1, .int c0)] := hl
  obtain ⟨k0, r10, r11, r12, r13, r14, k1, n1, g1, k2, n2, k3, n3, k4, n4, fz⟩ := id hS
  refine lv_iload_n hx hb dX3_hasLand_0 rfl (lv_at hl 1 rfl) ?_
  refine k_SNi (n := 1) (host := RX10) X hw (c_X10_isCell l G _ c0) (List.mem_of_getElem? (i := 6) rfl) wd_r15_22 wd_r1_2 wd_r15_23 ⟨by decide, by decide, by decide +kernel⟩ rfl rfl ⟨Nat.le_of_ble_eq_true rfl, Nat.le_of_ble_eq_true rfl⟩ rfl rfl hl.1 (Nat.le_of_ble_eq_true rfl) dX3_hasLand_1 ⟨Nat.le_of_ble_eq_true rfl, Nat.le_of_ble_eq_true rfl⟩ (fun r1_1 S1_3 H locs h1_2 hw => ?_)
  rcases h1_2 with ⟨rfl, rfl, h1_2⟩ | ⟨rfl, rfl, h1_2⟩
  · have h1_2 := h1_2
    refine lv_if_eq (tgt := 20) hx hb dX3_hasLand_4 (by decide) (fun c4_4 => absurd c4_4 (by decide)) (fun c4_4 => ?_)
    refine lv_aload_n hx hb dX3_hasLand_7 rfl (lv_at hl 0 rfl) ?_
    refine gf_X3_26 (b := (sa 3)) X hw k0 r13 dX3_hasLand_8 ?_
    refine lv_iload_n hx hb dX3_hasLand_11 rfl (lv_at hl 1 rfl) ?_
    refine q_ldZ X hw k3 (vin n3 (by omega) (by omega)) dX3_hasLand_12 ?_
    refine lv_topi (fun v12_5 e12_5 => ?_)
    have e12_5 : v12_5 = (qI S) (sa 3) c0.toNatClampNeg := e12_5
    refine lv_if_eq (tgt := 20) hx hb dX3_hasLand_13 (by decide) (fun c13_6 => ?_) (fun c13_6 => ?_)
    · have D13_6 := iEq c13_6 rfl t_0
      refine lv_iconst (v := 0) hx hb dX3_hasLand_20 (by decide) ?_
      exact hret 0 _ _ _ _ _ (Or.inr ⟨rfl, rfl, trivial⟩) hw rfl dX3_hasLand_21
    · have D13_6 := iNe c13_6 rfl t_0
      refine lv_iconst (v := 1) hx hb dX3_hasLand_16 (by decide) ?_
      refine lv_goto (tgt := 21) hx hb dX3_hasLand_17 (by decide) ?_
      exact hret 1 _ _ _ _ _ (Or.inl ⟨rfl, rfl, trivial⟩) hw rfl dX3_hasLand_21
  · have h1_2 := h1_2
    refine lv_if_eq (tgt := 20) hx hb dX3_hasLand_4 (by decide) (fun c4_7 => ?_) (fun c4_7 => absurd c4_7 (by decide))
    refine lv_iconst (v := 0) hx hb dX3_hasLand_20 (by decide) ?_
    exact hret 0 _ _ _ _ _ (Or.inr ⟨rfl, rfl, trivial⟩) hw rfl dX3_hasLand_21
set_option maxHeartbeats 4000000 in
set_option maxRecDepth 100000 in
theorem c_X3_tellLand (l : Launch) (G : Gh) (S : Pl) (sa : Nat → Nat) (c0 : Int32) (hS : shSea S sa) : MtV l yX3_tellLand cX3_tellLand 2 none (Rm 1 0 0) G [.ref (sa 0), .int c0] S (fun (S' : Pl) => ∃ q', ch S (pI S) (pJ S) q' (qJ S) = S' ∧ True) 0 0 := by
  refine MtV.of (by decide) (Nat.le_of_ble_eq_true rfl) ?_
  intro p e s m args below meth c Q A X hw hin hret ls hl
  have hx := X.1.1
  have hb := X.1.2.1
  have hl : lv_has ls 2 [(0, .ref (sa 0)), (1, .int c0)] := hl
  obtain ⟨k0, r10, r11, r12, r13, r14, k1, n1, g1, k2, n2, k3, n3, k4, n4, fz⟩ := id hS
  refine lv_iload_n hx hb dX3_tellLand_0 rfl (lv_at hl 1 rfl) ?_
  refine k_SNi (n := 1) (host := RX10) X hw (c_X10_isCell l G _ c0) (List.mem_of_getElem? (i := 6) rfl) wd_r15_22 wd_r1_2 wd_r15_23 ⟨by decide, by decide, by decide +kernel⟩ rfl rfl ⟨Nat.le_of_ble_eq_true rfl, Nat.le_of_ble_eq_true rfl⟩ rfl rfl hl.1 (Nat.le_of_ble_eq_true rfl) dX3_tellLand_1 ⟨Nat.le_of_ble_eq_true rfl, Nat.le_of_ble_eq_true rfl⟩ (fun r1_1 S1_3 H locs h1_2 hw => ?_)
  rcases h1_2 with ⟨rfl, rfl, h1_2⟩ | ⟨rfl, rfl, h1_2⟩
  · have h1_2 := h1_2
    refine lv_if_eq (tgt := 14) hx hb dX3_tellLand_4 (by decide) (fun c4_4 => absurd c4_4 (by decide)) (fun c4_4 => ?_)
    refine lv_aload_n hx hb dX3_tellLand_7 rfl (lv_at hl 0 rfl) ?_
    refine gf_X3_26 (b := (sa 3)) X hw k0 r13 dX3_tellLand_8 ?_
    refine lv_iload_n hx hb dX3_tellLand_11 rfl (lv_at hl 1 rfl) ?_
    refine lv_iconst (v := 1) hx hb dX3_tellLand_12 (by decide) ?_
    refine q_stZ X hw k3 (vin n3 (by omega) (by omega)) dX3_tellLand_13 (fun H locs hw => ?_)
    obtain ⟨q13_5, hw⟩ : ∃ zz9, PX G A s.heap (ch S (pI S) (pJ S) zz9 (qJ S)) H locs := ⟨_, hw⟩
    exact hret _ _ _ _ _ ⟨_, rfl, trivial⟩ hw dX3_tellLand_14
  · have h1_2 := h1_2
    refine lv_if_eq (tgt := 14) hx hb dX3_tellLand_4 (by decide) (fun c4_6 => ?_) (fun c4_6 => absurd c4_6 (by decide))
    exact hret _ _ _ _ _ ⟨_, rfl, trivial⟩ hw dX3_tellLand_14
set_option maxHeartbeats 4000000 in
set_option maxRecDepth 100000 in
theorem c_X3_isMissTold (l : Launch) (G : Gh) (S : Pl) (sa : Nat → Nat) (x y : Int32) (hS : shSea S sa) : MtI l yX3_isMissTold cX3_isMissTold 3 (some .boolean) (Rm 1 0 0) G [.ref (sa 0), .int x, .int y] S (fun (r : Int32) (S' : Pl) => (S = S' ∧ r = 1 ∧ True) ∨ (S = S' ∧ r = 0 ∧ True)) 0 0 := by
  refine MtI.of (by decide) (Nat.le_of_ble_eq_true rfl) ?_
  intro p e s m args below meth c Q A X hw hin hret ls hl
  have hx := X.1.1
  have hb := X.1.2.1
  have hl : lv_has ls 3 [(0, .ref (sa 0)), (1, .int x), (2, .int y)] := hl
  obtain ⟨k0, r10, r11, r12, r13, r14, k1, n1, g1, k2, n2, k3, n3, k4, n4, fz⟩ := id hS
  refine lv_iload_n hx hb dX3_isMissTold_0 rfl (lv_at hl 1 rfl) ?_
  refine lv_iload_n hx hb dX3_isMissTold_1 rfl (lv_at hl 2 rfl) ?_
  refine lv_bipush (v := 20) hx hb dX3_isMissTold_2 (by decide) ?_
  refine k_SNi (n := 3) (host := RX10) X hw (c_X10_isMeans l G _ x y 20) (List.mem_of_getElem? (i := 7) rfl) wd_r16_4 wd_r1_2 wd_r16_5 ⟨by decide, by decide, by decide +kernel⟩ rfl rfl ⟨Nat.le_of_ble_eq_true rfl, Nat.le_of_ble_eq_true rfl⟩ rfl rfl hl.1 (Nat.le_of_ble_eq_true rfl) dX3_isMissTold_4 ⟨Nat.le_of_ble_eq_true rfl, Nat.le_of_ble_eq_true rfl⟩ (fun r4_1 S4_3 H locs h4_2 hw => ?_)
  have := t_20
  rcases h4_2 with ⟨rfl, rfl, h4_2⟩ | ⟨rfl, rfl, h4_2⟩
  · have h4_2 := h4_2
    refine lv_if_eq (tgt := 29) hx hb dX3_isMissTold_7 (by decide) (fun c7_4 => absurd c7_4 (by decide)) (fun c7_4 => ?_)
    refine lv_aload_n hx hb dX3_isMissTold_10 rfl (lv_at hl 0 rfl) ?_
    refine gf_X3_30 (b := (sa 4)) X hw k0 r14 dX3_isMissTold_11 ?_
    refine lv_iload_n hx hb dX3_isMissTold_14 rfl (lv_at hl 1 rfl) ?_
    refine lv_bipush (v := 21) hx hb dX3_isMissTold_15 (by decide) ?_
    refine lv_imul hx hb dX3_isMissTold_17 ?_
    refine lv_topi (fun v17_5 e17_5 => ?_)
    have t17_5 := iMul e17_5 rfl t_21 (by omega) (by omega)
    have t17 := t17_5
    refine lv_iload_n hx hb dX3_isMissTold_18 rfl (lv_at hl 2 rfl) ?_
    refine lv_iadd hx hb dX3_isMissTold_19 ?_
    refine lv_topi (fun v19_6 e19_6 => ?_)
    have t19_6 := iAdd e19_6 rfl rfl (by omega) (by omega)
    have t19 := t19_6
    refine q_ldI X hw k4 (vin n4 (by omega) (by omega)) dX3_isMissTold_20 ?_
    refine lv_topi (fun v20_7 e20_7 => ?_)
    have e20_7 : v20_7 = (qI S) (sa 4) v19_6.toNatClampNeg := e20_7
    refine lv_iconst (v := -1) hx hb dX3_isMissTold_21 (by decide) ?_
    refine lv_icmp_eq (tgt := 29) hx hb dX3_isMissTold_22 (by decide) (fun c22_8 => ?_) (fun c22_8 => ?_)
    · have D22_8 := iEq c22_8 rfl t_m1
      refine lv_iconst (v := 0) hx hb dX3_isMissTold_29 (by decide) ?_
      exact hret 0 _ _ _ _ _ (Or.inr ⟨rfl, rfl, trivial⟩) hw rfl dX3_isMissTold_30
    · have D22_8 := iNe c22_8 rfl t_m1
      refine lv_iconst (v := 1) hx hb dX3_isMissTold_25 (by decide) ?_
      refine lv_goto (tgt := 30) hx hb dX3_isMissTold_26 (by decide) ?_
      exact hret 1 _ _ _ _ _ (Or.inl ⟨rfl, rfl, trivial⟩) hw rfl dX3_isMissTold_30
  · have h4_2 := h4_2
    refine lv_if_eq (tgt := 29) hx hb dX3_isMissTold_7 (by decide) (fun c7_9 => ?_) (fun c7_9 => absurd c7_9 (by decide))
    refine lv_iconst (v := 0) hx hb dX3_isMissTold_29 (by decide) ?_
    exact hret 0 _ _ _ _ _ (Or.inr ⟨rfl, rfl, trivial⟩) hw rfl dX3_isMissTold_30
set_option maxHeartbeats 4000000 in
set_option maxRecDepth 100000 in
theorem c_X3_tellMiss (l : Launch) (G : Gh) (S : Pl) (sa : Nat → Nat) (x y v : Int32) (hS : shSea S sa) : MtV l yX3_tellMiss cX3_tellMiss 4 none (Rm 1 0 0) G [.ref (sa 0), .int x, .int y, .int v] S (fun (S' : Pl) => ∃ q', ch S (pI S) (pJ S) q' (qJ S) = S' ∧ True) 0 0 := by
  refine MtV.of (by decide) (Nat.le_of_ble_eq_true rfl) ?_
  intro p e s m args below meth c Q A X hw hin hret ls hl
  have hx := X.1.1
  have hb := X.1.2.1
  have hl : lv_has ls 4 [(0, .ref (sa 0)), (1, .int x), (2, .int y), (3, .int v)] := hl
  obtain ⟨k0, r10, r11, r12, r13, r14, k1, n1, g1, k2, n2, k3, n3, k4, n4, fz⟩ := id hS
  refine lv_iload_n hx hb dX3_tellMiss_0 rfl (lv_at hl 1 rfl) ?_
  refine lv_iload_n hx hb dX3_tellMiss_1 rfl (lv_at hl 2 rfl) ?_
  refine lv_bipush (v := 20) hx hb dX3_tellMiss_2 (by decide) ?_
  refine k_SNi (n := 3) (host := RX10) X hw (c_X10_isMeans l G _ x y 20) (List.mem_of_getElem? (i := 7) rfl) wd_r16_4 wd_r1_2 wd_r16_5 ⟨by decide, by decide, by decide +kernel⟩ rfl rfl ⟨Nat.le_of_ble_eq_true rfl, Nat.le_of_ble_eq_true rfl⟩ rfl rfl hl.1 (Nat.le_of_ble_eq_true rfl) dX3_tellMiss_4 ⟨Nat.le_of_ble_eq_true rfl, Nat.le_of_ble_eq_true rfl⟩ (fun r4_1 S4_3 H locs h4_2 hw => ?_)
  have := t_20
  rcases h4_2 with ⟨rfl, rfl, h4_2⟩ | ⟨rfl, rfl, h4_2⟩
  · have h4_2 := h4_2
    refine lv_if_eq (tgt := 22) hx hb dX3_tellMiss_7 (by decide) (fun c7_4 => absurd c7_4 (by decide)) (fun c7_4 => ?_)
    refine lv_aload_n hx hb dX3_tellMiss_10 rfl (lv_at hl 0 rfl) ?_
    refine gf_X3_30 (b := (sa 4)) X hw k0 r14 dX3_tellMiss_11 ?_
    refine lv_iload_n hx hb dX3_tellMiss_14 rfl (lv_at hl 1 rfl) ?_
    refine lv_bipush (v := 21) hx hb dX3_tellMiss_15 (by decide) ?_
    refine lv_imul hx hb dX3_tellMiss_17 ?_
    refine lv_topi (fun v17_5 e17_5 => ?_)
    have t17_5 := iMul e17_5 rfl t_21 (by omega) (by omega)
    have t17 := t17_5
    refine lv_iload_n hx hb dX3_tellMiss_18 rfl (lv_at hl 2 rfl) ?_
    refine lv_iadd hx hb dX3_tellMiss_19 ?_
    refine lv_topi (fun v19_6 e19_6 => ?_)
    have t19_6 := iAdd e19_6 rfl rfl (by omega) (by omega)
    have t19 := t19_6
    refine lv_iload_n hx hb dX3_tellMiss_20 rfl (lv_at hl 3 rfl) ?_
    refine q_stI X hw k4 (vin n4 (by omega) (by omega)) dX3_tellMiss_21 (fun H locs hw => ?_)
    obtain ⟨q21_7, hw⟩ : ∃ zz9, PX G A s.heap (ch S (pI S) (pJ S) zz9 (qJ S)) H locs := ⟨_, hw⟩
    exact hret _ _ _ _ _ ⟨_, rfl, trivial⟩ hw dX3_tellMiss_22
  · have h4_2 := h4_2
    refine lv_if_eq (tgt := 22) hx hb dX3_tellMiss_7 (by decide) (fun c7_8 => ?_) (fun c7_8 => absurd c7_8 (by decide))
    exact hret _ _ _ _ _ ⟨_, rfl, trivial⟩ hw dX3_tellMiss_22
set_option maxHeartbeats 4000000 in
set_option maxRecDepth 100000 in
theorem c_X3_missOf (l : Launch) (G : Gh) (S : Pl) (sa : Nat → Nat) (x y : Int32) (hS : shSea S sa) : MtI l yX3_missOf cX3_missOf 3 (some .int) (Rm 1 0 0) G [.ref (sa 0), .int x, .int y] S (fun (r : Int32) (S' : Pl) => S = S' ∧ True) 0 0 := by
  refine MtI.of (by decide) (Nat.le_of_ble_eq_true rfl) ?_
  intro p e s m args below meth c Q A X hw hin hret ls hl
  have hx := X.1.1
  have hb := X.1.2.1
  have hl : lv_has ls 3 [(0, .ref (sa 0)), (1, .int x), (2, .int y)] := hl
  obtain ⟨k0, r10, r11, r12, r13, r14, k1, n1, g1, k2, n2, k3, n3, k4, n4, fz⟩ := id hS
  refine lv_iload_n hx hb dX3_missOf_0 rfl (lv_at hl 1 rfl) ?_
  refine lv_iload_n hx hb dX3_missOf_1 rfl (lv_at hl 2 rfl) ?_
  refine lv_bipush (v := 20) hx hb dX3_missOf_2 (by decide) ?_
  refine k_SNi (n := 3) (host := RX10) X hw (c_X10_isMeans l G _ x y 20) (List.mem_of_getElem? (i := 7) rfl) wd_r16_4 wd_r1_2 wd_r16_5 ⟨by decide, by decide, by decide +kernel⟩ rfl rfl ⟨Nat.le_of_ble_eq_true rfl, Nat.le_of_ble_eq_true rfl⟩ rfl rfl hl.1 (Nat.le_of_ble_eq_true rfl) dX3_missOf_4 ⟨Nat.le_of_ble_eq_true rfl, Nat.le_of_ble_eq_true rfl⟩ (fun r4_1 S4_3 H locs h4_2 hw => ?_)
  have := t_20
  rcases h4_2 with ⟨rfl, rfl, h4_2⟩ | ⟨rfl, rfl, h4_2⟩
  · have h4_2 := h4_2
    refine lv_if_eq (tgt := 24) hx hb dX3_missOf_7 (by decide) (fun c7_4 => absurd c7_4 (by decide)) (fun c7_4 => ?_)
    refine lv_aload_n hx hb dX3_missOf_10 rfl (lv_at hl 0 rfl) ?_
    refine gf_X3_30 (b := (sa 4)) X hw k0 r14 dX3_missOf_11 ?_
    refine lv_iload_n hx hb dX3_missOf_14 rfl (lv_at hl 1 rfl) ?_
    refine lv_bipush (v := 21) hx hb dX3_missOf_15 (by decide) ?_
    refine lv_imul hx hb dX3_missOf_17 ?_
    refine lv_topi (fun v17_5 e17_5 => ?_)
    have t17_5 := iMul e17_5 rfl t_21 (by omega) (by omega)
    have t17 := t17_5
    refine lv_iload_n hx hb dX3_missOf_18 rfl (lv_at hl 2 rfl) ?_
    refine lv_iadd hx hb dX3_missOf_19 ?_
    refine lv_topi (fun v19_6 e19_6 => ?_)
    have t19_6 := iAdd e19_6 rfl rfl (by omega) (by omega)
    have t19 := t19_6
    refine q_ldI X hw k4 (vin n4 (by omega) (by omega)) dX3_missOf_20 ?_
    refine lv_topi (fun v20_7 e20_7 => ?_)
    have e20_7 : v20_7 = (qI S) (sa 4) v19_6.toNatClampNeg := e20_7
    refine lv_goto (tgt := 26) hx hb dX3_missOf_21 (by decide) ?_
    exact hret v20_7 _ _ _ _ _ ⟨rfl, trivial⟩ hw rfl dX3_missOf_26
  · have h4_2 := h4_2
    refine lv_if_eq (tgt := 24) hx hb dX3_missOf_7 (by decide) (fun c7_8 => ?_) (fun c7_8 => absurd c7_8 (by decide))
    refine lv_bipush (v := 100) hx hb dX3_missOf_24 (by decide) ?_
    exact hret 100 _ _ _ _ _ ⟨rfl, trivial⟩ hw rfl dX3_missOf_26
set_option maxHeartbeats 4000000 in
set_option maxRecDepth 100000 in
theorem c_X3_missFits (l : Launch) (G : Gh) (S : Pl) (sa : Nat → Nat) (x y z : Int32) (hS : shSea S sa) : MtI l yX3_missFits cX3_missFits 5 (some .boolean) (Rm 2 0 0) G [.ref (sa 0), .int x, .int y, .int z] S (fun (r : Int32) (S' : Pl) => (S = S' ∧ r = 1 ∧ True) ∨ (S = S' ∧ r = 0 ∧ True)) 0 0 := by
  refine MtI.of (by decide) (Nat.le_of_ble_eq_true rfl) ?_
  intro p e s m args below meth c Q A X hw hin hret ls hl
  have hx := X.1.1
  have hb := X.1.2.1
  have hl : lv_has ls 5 [(0, .ref (sa 0)), (1, .int x), (2, .int y), (3, .int z)] := hl
  obtain ⟨k0, r10, r11, r12, r13, r14, k1, n1, g1, k2, n2, k3, n3, k4, n4, fz⟩ := id hS
  refine lv_iconst (v := 1) hx hb dX3_missFits_0 (by decide) ?_
  refine lv_istore (lv' := [(4, .int 1), (0, .ref (sa 0)), (1, .int x), (2, .int y), (3, .int z)]) hx hb dX3_missFits_1 hl (by decide) rfl (fun ls hl => ?_)
  have lp3 : ∀ (N9 : Nat) (u : Int32), (1 ≤ u.toInt) → (y.toInt - u.toInt).toNat < N9 → ∀ (H : Heap) (locs : List Loc) (ls : Array Slot), PX G A s.heap S H locs → lv_has ls 5 [(4, .int u), (0, .ref (sa 0)), (1, .int x), (2, .int y), (3, .int z)] → W p l e (Rm 2 0 0) s m args below meth c H locs 0 0 Q (F0 m 3 ls []) := by
    intro N9
    induction N9 with
    | zero => intro u hu hm; exact absurd hm (Nat.not_lt_zero _)
    | succ N9 ih3 =>
      intro u hu hm H locs ls hw hl
      have := iRng y
      refine lv_iload hx hb dX3_missFits_3 (lv_at hl 0 rfl) ?_
      refine lv_iload_n hx hb dX3_missFits_5 rfl (lv_at hl 3 rfl) ?_
      refine lv_icmp_ge (tgt := 38) hx hb dX3_missFits_6 (by decide) (fun c6_1 => ?_) (fun c6_1 => ?_)
      · have D6_1 := iLe c6_1 rfl rfl
        refine lv_iload_n hx hb dX3_missFits_38 rfl (lv_at hl 3 rfl) ?_
        refine lv_iconst (v := 1) hx hb dX3_missFits_39 (by decide) ?_
        refine lv_iadd hx hb dX3_missFits_40 ?_
        refine lv_topi (fun v40_2 e40_2 => ?_)
        refine lv_istore (lv' := [(4, .int v40_2), (0, .ref (sa 0)), (1, .int x), (2, .int y), (3, .int z)]) hx hb dX3_missFits_41 hl (by decide) rfl (fun ls hl => ?_)
        have lp43 : ∀ (N9 : Nat) (v : Int32), (21 - v.toInt).toNat < N9 → ∀ (H : Heap) (locs : List Loc) (ls : Array Slot), PX G A s.heap S H locs → lv_has ls 5 [(4, .int v), (0, .ref (sa 0)), (1, .int x), (2, .int y), (3, .int z)] → W p l e (Rm 2 0 0) s m args below meth c H locs 0 0 Q (F0 m 43 ls []) := by
          intro N9
          induction N9 with
          | zero => intro v hm; exact absurd hm (Nat.not_lt_zero _)
          | succ N9 ih43 =>
            intro v hm H locs ls hw hl
            have := iRng v
            refine lv_iload hx hb dX3_missFits_43 (lv_at hl 0 rfl) ?_
            refine lv_bipush (v := 20) hx hb dX3_missFits_45 (by decide) ?_
            refine lv_icmp_gt (tgt := 79) hx hb dX3_missFits_47 (by decide) (fun c47_3 => ?_) (fun c47_3 => ?_)
            · have D47_3 := iLt c47_3 t_20 rfl
              refine lv_iconst (v := 1) hx hb dX3_missFits_79 (by decide) ?_
              exact hret 1 _ _ _ _ _ (Or.inl ⟨rfl, rfl, trivial⟩) hw rfl dX3_missFits_80
            · have D47_3 := iNlt c47_3 t_20 rfl
              refine lv_aload_n hx hb dX3_missFits_50 rfl (lv_at hl 1 rfl) ?_
              refine lv_iload_n hx hb dX3_missFits_51 rfl (lv_at hl 2 rfl) ?_
              refine lv_iload hx hb dX3_missFits_52 (lv_at hl 0 rfl) ?_
              refine k_Vi (n := 2) X hw (rcvk (ci := 3) X hw k0 (fun _ _ _ _ _ _ _ => ⟨_, rfl⟩) rfl) (c_X3_isMissTold l G _ sa x v hS) wd_r16_10 wd_r16_1 wd_r16_2 wd_r2_9 wd_r16_3 ⟨by decide, by decide, by decide +kernel⟩ rfl rfl ⟨Nat.le_of_ble_eq_true rfl, Nat.le_of_ble_eq_true rfl⟩ rfl rfl hl.1 (Nat.le_of_ble_eq_true rfl) dX3_missFits_54 ⟨Nat.le_of_ble_eq_true rfl, Nat.le_of_ble_eq_true rfl⟩ (fun r54_4 S54_6 H locs h54_5 hw => ?_)
              rcases h54_5 with ⟨rfl, rfl, h54_5⟩ | ⟨rfl, rfl, h54_5⟩
              · have h54_5 := h54_5
                refine lv_if_eq (tgt := 73) hx hb dX3_missFits_57 (by decide) (fun c57_7 => absurd c57_7 (by decide)) (fun c57_7 => ?_)
                refine lv_iload_n hx hb dX3_missFits_60 rfl (lv_at hl 4 rfl) ?_
                refine lv_aload_n hx hb dX3_missFits_61 rfl (lv_at hl 1 rfl) ?_
                refine lv_iload_n hx hb dX3_missFits_62 rfl (lv_at hl 2 rfl) ?_
                refine lv_iload hx hb dX3_missFits_63 (lv_at hl 0 rfl) ?_
                refine k_Vi (n := 2) X hw (rcvk (ci := 3) X hw k0 (fun _ _ _ _ _ _ _ => ⟨_, rfl⟩) rfl) (c_X3_missOf l G _ sa x v hS) wd_r16_11 wd_r16_12 wd_r16_13 wd_r2_9 wd_r16_14 ⟨by decide, by decide, by decide +kernel⟩ rfl rfl ⟨Nat.le_of_ble_eq_true rfl, Nat.le_of_ble_eq_true rfl⟩ rfl rfl hl.1 (Nat.le_of_ble_eq_true rfl) dX3_missFits_65 ⟨Nat.le_of_ble_eq_true rfl, Nat.le_of_ble_eq_true rfl⟩ (fun r65_8 S65_10 H locs h65_9 hw => ?_)
                obtain ⟨rfl, h65_9⟩ := h65_9
                refine lv_icmp_ge (tgt := 73) hx hb dX3_missFits_68 (by decide) (fun c68_11 => ?_) (fun c68_11 => ?_)
                · have D68_11 := iLe c68_11 rfl rfl
                  obtain ⟨v73_12, e73_12⟩ : ∃ y : Int32, y = v + 1 := ⟨_, rfl⟩
                  have t73_12 := iAdd e73_12 rfl t_1 (by omega) (by omega)
                  have t73 := t73_12
                  refine lv_iinc (v := v73_12) (lv' := [(4, .int v73_12), (0, .ref (sa 0)), (1, .int x), (2, .int y), (3, .int z)]) hx hb dX3_missFits_73 hl (k := 0) rfl (by rw [e73_12]; rfl) (by decide) rfl (fun ls hl => ?_)
                  refine lv_goto (tgt := 43) hx hb dX3_missFits_76 (by decide) ?_
                  exact ih43  v73_12  (by omega) _ _ _ hw (lv_sub hl [0, 1, 2, 3, 4] rfl)
                · have D68_11 := iNle c68_11 rfl rfl
                  refine lv_iconst (v := 0) hx hb dX3_missFits_71 (by decide) ?_
                  exact hret 0 _ _ _ _ _ (Or.inr ⟨rfl, rfl, trivial⟩) hw rfl dX3_missFits_72
              · have h54_5 := h54_5
                refine lv_if_eq (tgt := 73) hx hb dX3_missFits_57 (by decide) (fun c57_13 => ?_) (fun c57_13 => absurd c57_13 (by decide))
                obtain ⟨v73_14, e73_14⟩ : ∃ y : Int32, y = v + 1 := ⟨_, rfl⟩
                have t73_14 := iAdd e73_14 rfl t_1 (by omega) (by omega)
                have t73 := t73_14
                refine lv_iinc (v := v73_14) (lv' := [(4, .int v73_14), (0, .ref (sa 0)), (1, .int x), (2, .int y), (3, .int z)]) hx hb dX3_missFits_73 hl (k := 0) rfl (by rw [e73_14]; rfl) (by decide) rfl (fun ls hl => ?_)
                refine lv_goto (tgt := 43) hx hb dX3_missFits_76 (by decide) ?_
                exact ih43  v73_14  (by omega) _ _ _ hw (lv_sub hl [0, 1, 2, 3, 4] rfl)
        exact lp43 _  v40_2  (Nat.lt_succ_self _) _ _ _ hw (lv_sub hl [0, 1, 2, 3, 4] rfl)
      · have D6_1 := iNle c6_1 rfl rfl
        refine lv_aload_n hx hb dX3_missFits_9 rfl (lv_at hl 1 rfl) ?_
        refine lv_iload_n hx hb dX3_missFits_10 rfl (lv_at hl 2 rfl) ?_
        refine lv_iload hx hb dX3_missFits_11 (lv_at hl 0 rfl) ?_
        refine k_Vi (n := 2) X hw (rcvk (ci := 3) X hw k0 (fun _ _ _ _ _ _ _ => ⟨_, rfl⟩) rfl) (c_X3_isMissTold l G _ sa x u hS) wd_r16_10 wd_r16_1 wd_r16_2 wd_r2_9 wd_r16_3 ⟨by decide, by decide, by decide +kernel⟩ rfl rfl ⟨Nat.le_of_ble_eq_true rfl, Nat.le_of_ble_eq_true rfl⟩ rfl rfl hl.1 (Nat.le_of_ble_eq_true rfl) dX3_missFits_13 ⟨Nat.le_of_ble_eq_true rfl, Nat.le_of_ble_eq_true rfl⟩ (fun r13_15 S13_17 H locs h13_16 hw => ?_)
        rcases h13_16 with ⟨rfl, rfl, h13_16⟩ | ⟨rfl, rfl, h13_16⟩
        · have h13_16 := h13_16
          refine lv_if_eq (tgt := 32) hx hb dX3_missFits_16 (by decide) (fun c16_18 => absurd c16_18 (by decide)) (fun c16_18 => ?_)
          refine lv_iload_n hx hb dX3_missFits_19 rfl (lv_at hl 4 rfl) ?_
          refine lv_aload_n hx hb dX3_missFits_20 rfl (lv_at hl 1 rfl) ?_
          refine lv_iload_n hx hb dX3_missFits_21 rfl (lv_at hl 2 rfl) ?_
          refine lv_iload hx hb dX3_missFits_22 (lv_at hl 0 rfl) ?_
          refine k_Vi (n := 2) X hw (rcvk (ci := 3) X hw k0 (fun _ _ _ _ _ _ _ => ⟨_, rfl⟩) rfl) (c_X3_missOf l G _ sa x u hS) wd_r16_11 wd_r16_12 wd_r16_13 wd_r2_9 wd_r16_14 ⟨by decide, by decide, by decide +kernel⟩ rfl rfl ⟨Nat.le_of_ble_eq_true rfl, Nat.le_of_ble_eq_true rfl⟩ rfl rfl hl.1 (Nat.le_of_ble_eq_true rfl) dX3_missFits_24 ⟨Nat.le_of_ble_eq_true rfl, Nat.le_of_ble_eq_true rfl⟩ (fun r24_19 S24_21 H locs h24_20 hw => ?_)
          obtain ⟨rfl, h24_20⟩ := h24_20
          refine lv_icmp_le (tgt := 32) hx hb dX3_missFits_27 (by decide) (fun c27_22 => ?_) (fun c27_22 => ?_)
          · have D27_22 := iLe c27_22 rfl rfl
            obtain ⟨v32_23, e32_23⟩ : ∃ y : Int32, y = u + 1 := ⟨_, rfl⟩
            have t32_23 := iAdd e32_23 rfl t_1 (by omega) (by omega)
            have t32 := t32_23
            refine lv_iinc (v := v32_23) (lv' := [(4, .int v32_23), (0, .ref (sa 0)), (1, .int x), (2, .int y), (3, .int z)]) hx hb dX3_missFits_32 hl (k := 0) rfl (by rw [e32_23]; rfl) (by decide) rfl (fun ls hl => ?_)
            refine lv_goto (tgt := 3) hx hb dX3_missFits_35 (by decide) ?_
            exact ih3  v32_23 (by omega) (by omega) _ _ _ hw (lv_sub hl [0, 1, 2, 3, 4] rfl)
          · have D27_22 := iNle c27_22 rfl rfl
            refine lv_iconst (v := 0) hx hb dX3_missFits_30 (by decide) ?_
            exact hret 0 _ _ _ _ _ (Or.inr ⟨rfl, rfl, trivial⟩) hw rfl dX3_missFits_31
        · have h13_16 := h13_16
          refine lv_if_eq (tgt := 32) hx hb dX3_missFits_16 (by decide) (fun c16_24 => ?_) (fun c16_24 => absurd c16_24 (by decide))
          obtain ⟨v32_25, e32_25⟩ : ∃ y : Int32, y = u + 1 := ⟨_, rfl⟩
          have t32_25 := iAdd e32_25 rfl t_1 (by omega) (by omega)
          have t32 := t32_25
          refine lv_iinc (v := v32_25) (lv' := [(4, .int v32_25), (0, .ref (sa 0)), (1, .int x), (2, .int y), (3, .int z)]) hx hb dX3_missFits_32 hl (k := 0) rfl (by rw [e32_25]; rfl) (by decide) rfl (fun ls hl => ?_)
          refine lv_goto (tgt := 3) hx hb dX3_missFits_35 (by decide) ?_
          exact ih3  v32_25 (by omega) (by omega) _ _ _ hw (lv_sub hl [0, 1, 2, 3, 4] rfl)
  exact lp3 _  1 (by have := t_1; omega) (Nat.lt_succ_self _) _ _ _ hw (lv_sub hl [0, 1, 2, 3, 4] rfl)
set_option maxHeartbeats 4000000 in
set_option maxRecDepth 100000 in
theorem c_X3_stepOf (l : Launch) (G : Gh) (S : Pl) (sa : Nat → Nat) (k q h y : Int32) (hS : shSea S sa) : MtI l yX3_stepOf cX3_stepOf 6 (some .int) (Rm 3 0 0) G [.ref (sa 0), .int k, .int q, .int h, .int y] S (fun (r : Int32) (S' : Pl) => S = S' ∧ True) 0 0 := by
  refine MtI.of (by decide) (Nat.le_of_ble_eq_true rfl) ?_
  intro p e s m args below meth c Q A X hw hin hret ls hl
  have hx := X.1.1
  have hb := X.1.2.1
  have hl : lv_has ls 6 [(0, .ref (sa 0)), (1, .int k), (2, .int q), (3, .int h), (4, .int y)] := hl
  obtain ⟨k0, r10, r11, r12, r13, r14, k1, n1, g1, k2, n2, k3, n3, k4, n4, fz⟩ := id hS
  refine lv_iload_n hx hb dX3_stepOf_0 rfl (lv_at hl 1 rfl) ?_
  refine k_SNi (n := 1) (host := RX10) X hw (c_X10_isKind l G _ k) (List.mem_of_getElem? (i := 5) rfl) wd_r15_16 wd_r1_2 wd_r15_17 ⟨by decide, by decide, by decide +kernel⟩ rfl rfl ⟨Nat.le_of_ble_eq_true rfl, Nat.le_of_ble_eq_true rfl⟩ rfl rfl hl.1 (Nat.le_of_ble_eq_true rfl) dX3_stepOf_1 ⟨Nat.le_of_ble_eq_true rfl, Nat.le_of_ble_eq_true rfl⟩ (fun r1_1 S1_3 H locs h1_2 hw => ?_)
  rcases h1_2 with ⟨rfl, rfl, h1_2⟩ | ⟨rfl, rfl, h1_2⟩
  · have h1_2 := h1_2
    refine lv_if_eq (tgt := 16) hx hb dX3_stepOf_4 (by decide) (fun c4_4 => absurd c4_4 (by decide)) (fun c4_4 => ?_)
    refine lv_aload_n hx hb dX3_stepOf_7 rfl (lv_at hl 0 rfl) ?_
    refine gf_X3_22 (b := (sa 2)) X hw k0 r12 dX3_stepOf_8 ?_
    refine lv_iload_n hx hb dX3_stepOf_11 rfl (lv_at hl 1 rfl) ?_
    refine q_ldI X hw k2 (vin n2 (by omega) (by omega)) dX3_stepOf_12 ?_
    refine lv_topi (fun v12_5 e12_5 => ?_)
    have e12_5 : v12_5 = (qI S) (sa 2) k.toNatClampNeg := e12_5
    refine lv_goto (tgt := 17) hx hb dX3_stepOf_13 (by decide) ?_
    refine lv_istore (lv' := [(5, .int v12_5), (0, .ref (sa 0)), (1, .int k), (2, .int q), (3, .int h), (4, .int y)]) hx hb dX3_stepOf_17 hl (by decide) rfl (fun ls hl => ?_)
    refine lv_aload_n hx hb dX3_stepOf_19 rfl (lv_at hl 1 rfl) ?_
    refine lv_iload_n hx hb dX3_stepOf_20 rfl (lv_at hl 3 rfl) ?_
    refine lv_iload_n hx hb dX3_stepOf_21 rfl (lv_at hl 4 rfl) ?_
    refine lv_iload hx hb dX3_stepOf_22 (lv_at hl 5 rfl) ?_
    refine k_Vi (n := 3) X hw (rcvk (ci := 3) X hw k0 (fun _ _ _ _ _ _ _ => ⟨_, rfl⟩) rfl) (c_X3_streamOf l G _ sa q h y hS) wd_r19_11 wd_r19_12 wd_r19_13 wd_r2_9 wd_r19_14 ⟨by decide, by decide, by decide +kernel⟩ rfl rfl ⟨Nat.le_of_ble_eq_true rfl, Nat.le_of_ble_eq_true rfl⟩ rfl rfl hl.1 (Nat.le_of_ble_eq_true rfl) dX3_stepOf_24 ⟨Nat.le_of_ble_eq_true rfl, Nat.le_of_ble_eq_true rfl⟩ (fun r24_6 S24_8 H locs h24_7 hw => ?_)
    obtain ⟨rfl, h24_7⟩ := h24_7
    refine lv_aload_n hx hb dX3_stepOf_27 rfl (lv_at hl 1 rfl) ?_
    refine lv_iload_n hx hb dX3_stepOf_28 rfl (lv_at hl 4 rfl) ?_
    refine lv_iload hx hb dX3_stepOf_29 (lv_at hl 5 rfl) ?_
    refine k_Vi (n := 2) X hw (rcvk (ci := 3) X hw k0 (fun _ _ _ _ _ _ _ => ⟨_, rfl⟩) rfl) (c_X3_windOf l G _ sa h y hS) wd_r19_19 wd_r19_20 wd_r19_21 wd_r2_9 wd_r19_22 ⟨by decide, by decide, by decide +kernel⟩ rfl rfl ⟨Nat.le_of_ble_eq_true rfl, Nat.le_of_ble_eq_true rfl⟩ rfl rfl hl.1 (Nat.le_of_ble_eq_true rfl) dX3_stepOf_31 ⟨Nat.le_of_ble_eq_true rfl, Nat.le_of_ble_eq_true rfl⟩ (fun r31_9 S31_11 H locs h31_10 hw => ?_)
    obtain ⟨rfl, h31_10⟩ := h31_10
    refine lv_iload hx hb dX3_stepOf_34 (lv_at hl 0 rfl) ?_
    refine lv_imul hx hb dX3_stepOf_36 ?_
    refine lv_topi (fun v36_12 e36_12 => ?_)
    refine lv_bipush (v := 100) hx hb dX3_stepOf_37 (by decide) ?_
    refine lv_idiv hx hb dX3_stepOf_39 (by decide) ?_
    refine lv_topi (fun v39_13 e39_13 => ?_)
    refine lv_iadd hx hb dX3_stepOf_40 ?_
    refine lv_topi (fun v40_14 e40_14 => ?_)
    exact hret v40_14 _ _ _ _ _ ⟨rfl, trivial⟩ hw rfl dX3_stepOf_41
  · have h1_2 := h1_2
    refine lv_if_eq (tgt := 16) hx hb dX3_stepOf_4 (by decide) (fun c4_15 => ?_) (fun c4_15 => absurd c4_15 (by decide))
    refine lv_iconst (v := 0) hx hb dX3_stepOf_16 (by decide) ?_
    refine lv_istore (lv' := [(5, .int 0), (0, .ref (sa 0)), (1, .int k), (2, .int q), (3, .int h), (4, .int y)]) hx hb dX3_stepOf_17 hl (by decide) rfl (fun ls hl => ?_)
    refine lv_aload_n hx hb dX3_stepOf_19 rfl (lv_at hl 1 rfl) ?_
    refine lv_iload_n hx hb dX3_stepOf_20 rfl (lv_at hl 3 rfl) ?_
    refine lv_iload_n hx hb dX3_stepOf_21 rfl (lv_at hl 4 rfl) ?_
    refine lv_iload hx hb dX3_stepOf_22 (lv_at hl 5 rfl) ?_
    refine k_Vi (n := 3) X hw (rcvk (ci := 3) X hw k0 (fun _ _ _ _ _ _ _ => ⟨_, rfl⟩) rfl) (c_X3_streamOf l G _ sa q h y hS) wd_r19_11 wd_r19_12 wd_r19_13 wd_r2_9 wd_r19_14 ⟨by decide, by decide, by decide +kernel⟩ rfl rfl ⟨Nat.le_of_ble_eq_true rfl, Nat.le_of_ble_eq_true rfl⟩ rfl rfl hl.1 (Nat.le_of_ble_eq_true rfl) dX3_stepOf_24 ⟨Nat.le_of_ble_eq_true rfl, Nat.le_of_ble_eq_true rfl⟩ (fun r24_16 S24_18 H locs h24_17 hw => ?_)
    obtain ⟨rfl, h24_17⟩ := h24_17
    refine lv_aload_n hx hb dX3_stepOf_27 rfl (lv_at hl 1 rfl) ?_
    refine lv_iload_n hx hb dX3_stepOf_28 rfl (lv_at hl 4 rfl) ?_
    refine lv_iload hx hb dX3_stepOf_29 (lv_at hl 5 rfl) ?_
    refine k_Vi (n := 2) X hw (rcvk (ci := 3) X hw k0 (fun _ _ _ _ _ _ _ => ⟨_, rfl⟩) rfl) (c_X3_windOf l G _ sa h y hS) wd_r19_19 wd_r19_20 wd_r19_21 wd_r2_9 wd_r19_22 ⟨by decide, by decide, by decide +kernel⟩ rfl rfl ⟨Nat.le_of_ble_eq_true rfl, Nat.le_of_ble_eq_true rfl⟩ rfl rfl hl.1 (Nat.le_of_ble_eq_true rfl) dX3_stepOf_31 ⟨Nat.le_of_ble_eq_true rfl, Nat.le_of_ble_eq_true rfl⟩ (fun r31_19 S31_21 H locs h31_20 hw => ?_)
    obtain ⟨rfl, h31_20⟩ := h31_20
    refine lv_iload hx hb dX3_stepOf_34 (lv_at hl 0 rfl) ?_
    refine lv_imul hx hb dX3_stepOf_36 ?_
    refine lv_topi (fun v36_22 e36_22 => ?_)
    refine lv_bipush (v := 100) hx hb dX3_stepOf_37 (by decide) ?_
    refine lv_idiv hx hb dX3_stepOf_39 (by decide) ?_
    refine lv_topi (fun v39_23 e39_23 => ?_)
    refine lv_iadd hx hb dX3_stepOf_40 ?_
    refine lv_topi (fun v40_24 e40_24 => ?_)
    exact hret v40_24 _ _ _ _ _ ⟨rfl, trivial⟩ hw rfl dX3_stepOf_41
