set_option maxHeartbeats 4000000 in
set_option maxRecDepth 100000 in
theorem c_X9_isBlank (l : Launch) (G : Gh) (S : Pl) (x : Int32)  : MtI l yX9_isBlank cX9_isBlank 1 (some .boolean) (Rm 0 0 0) G [.int x] S (fun (r : Int32) (S' : Pl) => (S = S' ∧ r = 1 ∧ (x.toInt = 32 ∨ x.toInt = 10)) ∨ (S = S' ∧ r = 0 ∧ ¬ (x.toInt = 32 ∨ x.toInt = 10))) 0 0 := by
  refine MtI.of (by decide) (Nat.le_of_ble_eq_true rfl) ?_
  intro p e s m args below meth c Q A X hw hin hret ls hl
  have hx := X.1.1
  have hb := X.1.2.1
  have hl : lv_has ls 1 [(0, .int x)] := hl
  refine lv_iload_n hx hb dX9_isBlank_0 rfl (lv_at hl 0 rfl) ?_
  refine lv_bipush (v := 32) hx hb dX9_isBlank_1 (by decide) ?_
  refine lv_icmp_eq (tgt := 12) hx hb dX9_isBlank_3 (by decide) (fun c3_1 => ?_) (fun c3_1 => ?_)
  · have D3_1 := iEq c3_1 rfl t_32
    refine lv_iconst (v := 1) hx hb dX9_isBlank_12 (by decide) ?_
    refine lv_goto (tgt := 17) hx hb dX9_isBlank_13 (by decide) ?_
    exact hret 1 _ _ _ _ _ (Or.inl ⟨rfl, rfl, by omega⟩) hw rfl dX9_isBlank_17
  · have D3_1 := iNe c3_1 rfl t_32
    refine lv_iload_n hx hb dX9_isBlank_6 rfl (lv_at hl 0 rfl) ?_
    refine lv_bipush (v := 10) hx hb dX9_isBlank_7 (by decide) ?_
    refine lv_icmp_ne (tgt := 16) hx hb dX9_isBlank_9 (by decide) (fun c9_2 => ?_) (fun c9_2 => ?_)
    · have D9_2 := iNe c9_2 rfl t_10
      refine lv_iconst (v := 0) hx hb dX9_isBlank_16 (by decide) ?_
      exact hret 0 _ _ _ _ _ (Or.inr ⟨rfl, rfl, by omega⟩) hw rfl dX9_isBlank_17
    · have D9_2 := iEq c9_2 rfl t_10
      refine lv_iconst (v := 1) hx hb dX9_isBlank_12 (by decide) ?_
      refine lv_goto (tgt := 17) hx hb dX9_isBlank_13 (by decide) ?_
      exact hret 1 _ _ _ _ _ (Or.inl ⟨rfl, rfl, by omega⟩) hw rfl dX9_isBlank_17
set_option maxHeartbeats 4000000 in
set_option maxRecDepth 100000 in
theorem c_X9_isLetter (l : Launch) (G : Gh) (S : Pl) (x : Int32)  : MtI l yX9_isLetter cX9_isLetter 1 (some .boolean) (Rm 0 0 0) G [.int x] S (fun (r : Int32) (S' : Pl) => (S = S' ∧ r = 1 ∧ (97 ≤ x.toInt ∧ x.toInt ≤ 122)) ∨ (S = S' ∧ r = 0 ∧ ¬ (97 ≤ x.toInt ∧ x.toInt ≤ 122))) 0 0 := by
  refine MtI.of (by decide) (Nat.le_of_ble_eq_true rfl) ?_
  intro p e s m args below meth c Q A X hw hin hret ls hl
  have hx := X.1.1
  have hb := X.1.2.1
  have hl : lv_has ls 1 [(0, .int x)] := hl
  refine lv_iload_n hx hb dX9_isLetter_0 rfl (lv_at hl 0 rfl) ?_
  refine lv_bipush (v := 97) hx hb dX9_isLetter_1 (by decide) ?_
  refine lv_icmp_lt (tgt := 16) hx hb dX9_isLetter_3 (by decide) (fun c3_1 => ?_) (fun c3_1 => ?_)
  · have D3_1 := iLt c3_1 rfl t_97
    refine lv_iconst (v := 0) hx hb dX9_isLetter_16 (by decide) ?_
    exact hret 0 _ _ _ _ _ (Or.inr ⟨rfl, rfl, by omega⟩) hw rfl dX9_isLetter_17
  · have D3_1 := iNlt c3_1 rfl t_97
    refine lv_iload_n hx hb dX9_isLetter_6 rfl (lv_at hl 0 rfl) ?_
    refine lv_bipush (v := 122) hx hb dX9_isLetter_7 (by decide) ?_
    refine lv_icmp_gt (tgt := 16) hx hb dX9_isLetter_9 (by decide) (fun c9_2 => ?_) (fun c9_2 => ?_)
    · have D9_2 := iLt c9_2 t_122 rfl
      refine lv_iconst (v := 0) hx hb dX9_isLetter_16 (by decide) ?_
      exact hret 0 _ _ _ _ _ (Or.inr ⟨rfl, rfl, by omega⟩) hw rfl dX9_isLetter_17
    · have D9_2 := iNlt c9_2 t_122 rfl
      refine lv_iconst (v := 1) hx hb dX9_isLetter_12 (by decide) ?_
      refine lv_goto (tgt := 17) hx hb dX9_isLetter_13 (by decide) ?_
      exact hret 1 _ _ _ _ _ (Or.inl ⟨rfl, rfl, by omega⟩) hw rfl dX9_isLetter_17
set_option maxHeartbeats 4000000 in
set_option maxRecDepth 100000 in
theorem c_X9_isDigit (l : Launch) (G : Gh) (S : Pl) (x : Int32)  : MtI l yX9_isDigit cX9_isDigit 1 (some .boolean) (Rm 0 0 0) G [.int x] S (fun (r : Int32) (S' : Pl) => (S = S' ∧ r = 1 ∧ (48 ≤ x.toInt ∧ x.toInt ≤ 57)) ∨ (S = S' ∧ r = 0 ∧ ¬ (48 ≤ x.toInt ∧ x.toInt ≤ 57))) 0 0 := by
  refine MtI.of (by decide) (Nat.le_of_ble_eq_true rfl) ?_
  intro p e s m args below meth c Q A X hw hin hret ls hl
  have hx := X.1.1
  have hb := X.1.2.1
  have hl : lv_has ls 1 [(0, .int x)] := hl
  refine lv_iload_n hx hb dX9_isDigit_0 rfl (lv_at hl 0 rfl) ?_
  refine lv_bipush (v := 48) hx hb dX9_isDigit_1 (by decide) ?_
  refine lv_icmp_lt (tgt := 16) hx hb dX9_isDigit_3 (by decide) (fun c3_1 => ?_) (fun c3_1 => ?_)
  · have D3_1 := iLt c3_1 rfl t_48
    refine lv_iconst (v := 0) hx hb dX9_isDigit_16 (by decide) ?_
    exact hret 0 _ _ _ _ _ (Or.inr ⟨rfl, rfl, by omega⟩) hw rfl dX9_isDigit_17
  · have D3_1 := iNlt c3_1 rfl t_48
    refine lv_iload_n hx hb dX9_isDigit_6 rfl (lv_at hl 0 rfl) ?_
    refine lv_bipush (v := 57) hx hb dX9_isDigit_7 (by decide) ?_
    refine lv_icmp_gt (tgt := 16) hx hb dX9_isDigit_9 (by decide) (fun c9_2 => ?_) (fun c9_2 => ?_)
    · have D9_2 := iLt c9_2 t_57 rfl
      refine lv_iconst (v := 0) hx hb dX9_isDigit_16 (by decide) ?_
      exact hret 0 _ _ _ _ _ (Or.inr ⟨rfl, rfl, by omega⟩) hw rfl dX9_isDigit_17
    · have D9_2 := iNlt c9_2 t_57 rfl
      refine lv_iconst (v := 1) hx hb dX9_isDigit_12 (by decide) ?_
      refine lv_goto (tgt := 17) hx hb dX9_isDigit_13 (by decide) ?_
      exact hret 1 _ _ _ _ _ (Or.inl ⟨rfl, rfl, by omega⟩) hw rfl dX9_isDigit_17
set_option maxHeartbeats 4000000 in
set_option maxRecDepth 100000 in
theorem c_X9_kind (l : Launch) (G : Gh) (S : Pl) (tk tp tb : Nat) (hK : shTok S tk tp tb) : MtI l yX9_kind cX9_kind 1 (some .int) (Rm 0 0 0) G [.ref tk] S (fun (r : Int32) (S' : Pl) => S = S' ∧ r = pI S 66 tk) 0 0 := by
  refine MtI.of (by decide) (Nat.le_of_ble_eq_true rfl) ?_
  intro p e s m args below meth c Q A X hw hin hret ls hl
  have hx := X.1.1
  have hb := X.1.2.1
  have hl : lv_has ls 1 [(0, .ref tk)] := hl
  refine lv_aload_n hx hb dX9_kind_0 rfl (lv_at hl 0 rfl) ?_
  refine gf_X9_13 (v := (pI S) 66 tk) X hw hK.1 rfl dX9_kind_1 ?_
  exact hret ((pI S) 66 tk) _ _ _ _ _ ⟨rfl, rfl⟩ hw rfl dX9_kind_4
set_option maxHeartbeats 4000000 in
set_option maxRecDepth 100000 in
theorem c_X9_start (l : Launch) (G : Gh) (S : Pl) (tk tp tb : Nat) (hK : shTok S tk tp tb) : MtI l yX9_start cX9_start 1 (some .int) (Rm 0 0 0) G [.ref tk] S (fun (r : Int32) (S' : Pl) => S = S' ∧ r = pI S 67 tk) 0 0 := by
  refine MtI.of (by decide) (Nat.le_of_ble_eq_true rfl) ?_
  intro p e s m args below meth c Q A X hw hin hret ls hl
  have hx := X.1.1
  have hb := X.1.2.1
  have hl : lv_has ls 1 [(0, .ref tk)] := hl
  refine lv_aload_n hx hb dX9_start_0 rfl (lv_at hl 0 rfl) ?_
  refine gf_X9_17 (v := (pI S) 67 tk) X hw hK.1 rfl dX9_start_1 ?_
  exact hret ((pI S) 67 tk) _ _ _ _ _ ⟨rfl, rfl⟩ hw rfl dX9_start_4
set_option maxHeartbeats 4000000 in
set_option maxRecDepth 100000 in
theorem c_X9_value (l : Launch) (G : Gh) (S : Pl) (tk tp tb : Nat) (hK : shTok S tk tp tb) : MtI l yX9_value cX9_value 1 (some .int) (Rm 0 0 0) G [.ref tk] S (fun (r : Int32) (S' : Pl) => S = S' ∧ r = pI S 69 tk) 0 0 := by
  refine MtI.of (by decide) (Nat.le_of_ble_eq_true rfl) ?_
  intro p e s m args below meth c Q A X hw hin hret ls hl
  have hx := X.1.1
  have hb := X.1.2.1
  have hl : lv_has ls 1 [(0, .ref tk)] := hl
  refine lv_aload_n hx hb dX9_value_0 rfl (lv_at hl 0 rfl) ?_
  refine gf_X9_20 (v := (pI S) 69 tk) X hw hK.1 rfl dX9_value_1 ?_
  exact hret ((pI S) 69 tk) _ _ _ _ _ ⟨rfl, rfl⟩ hw rfl dX9_value_4
set_option maxHeartbeats 4000000 in
set_option maxRecDepth 100000 in
theorem c_X9_rewind (l : Launch) (G : Gh) (S : Pl) (tk tp tb : Nat) (hK : shTok S tk tp tb) : MtV l yX9_rewind cX9_rewind 1 none (Rm 0 0 0) G [.ref tk] S (fun (S' : Pl) => ∃ I', ch S I' (pJ S) (qI S) (qJ S) = S' ∧ Fr (pI S) I') 0 0 := by
  refine MtV.of (by decide) (Nat.le_of_ble_eq_true rfl) ?_
  intro p e s m args below meth c Q A X hw hin hret ls hl
  have hx := X.1.1
  have hb := X.1.2.1
  have hl : lv_has ls 1 [(0, .ref tk)] := hl
  refine lv_aload_n hx hb dX9_rewind_0 rfl (lv_at hl 0 rfl) ?_
  refine lv_iconst (v := 0) hx hb dX9_rewind_1 (by decide) ?_
  refine pf_X9_23 X hw hK.1 dX9_rewind_2 (fun H locs hw => ?_)
  have hw : PX G A s.heap (ch S (up2 (pI S) 68 tk 0) (pJ S) (qI S) (qJ S)) H locs := hw
  exact hret _ _ _ _ _ ⟨_, rfl, (Fr.up (f := 68) (by decide) Fr.rf)⟩ hw dX9_rewind_5
set_option maxHeartbeats 4000000 in
set_option maxRecDepth 100000 in
theorem c_X9_skipBlanks (l : Launch) (G : Gh) (S : Pl) (tk tp tb : Nat) (hK : shTok S tk tp tb) (hz : (pI S 61 tp).toInt ≤ 1000) : MtV l yX9_skipBlanks cX9_skipBlanks 1 none (Rm 1 0 0) G [.ref tk] S (fun (S' : Pl) => ∃ I', ch S I' (pJ S) (qI S) (qJ S) = S' ∧ Fr (pI S) I') 0 0 := by
  refine MtV.of (by decide) (Nat.le_of_ble_eq_true rfl) ?_
  intro p e s m args below meth c Q A X hw hin hret ls hl
  have hx := X.1.1
  have hb := X.1.2.1
  have hl : lv_has ls 1 [(0, .ref tk)] := hl
  have lp0 : ∀ (N9 : Nat) (I0 : Nat → Nat → Int32), (Fr (pI S) I0) → ((I0 61 tp).toInt - (I0 68 tk).toInt).toNat < N9 → ∀ (H : Heap) (locs : List Loc) (ls : Array Slot), PX G A s.heap (ch S I0 (pJ S) (qI S) (qJ S)) H locs → lv_has ls 1 [(0, .ref tk)] → W p l e (Rm 1 0 0) s m args below meth c H locs 0 0 Q (F0 m 0 ls []) := by
    intro N9
    induction N9 with
    | zero => intro I0 hF hm; exact absurd hm (Nat.not_lt_zero _)
    | succ N9 ih0 =>
      intro I0 hF hm H locs ls hw hl
      have hrg := iRng (I0 68 tk)
      have hzz := Fr.sz hF hz
      refine lv_aload_n hx hb dX9_skipBlanks_0 rfl (lv_at hl 0 rfl) ?_
      refine gf_X9_23 (v := I0 68 tk) X hw hK.1 rfl dX9_skipBlanks_1 ?_
      refine lv_aload_n hx hb dX9_skipBlanks_4 rfl (lv_at hl 0 rfl) ?_
      refine gf_X9_7 (b := tp) X hw hK.1 hK.2.1 dX9_skipBlanks_5 ?_
      refine k_Vi (n := 0) X hw (rcvk (ci := 8) X hw hK.2.2.1 (fun _ _ _ _ _ _ _ => ⟨_, rfl⟩) rfl) (c_X8_size l G _ tp tb hK.2.2) wd_r9_14 wd_r7_5 wd_r7_6 wd_r1_14 wd_r7_7 ⟨by decide, by decide, by decide +kernel⟩ rfl rfl ⟨Nat.le_of_ble_eq_true rfl, Nat.le_of_ble_eq_true rfl⟩ rfl rfl hl.1 (Nat.le_of_ble_eq_true rfl) dX9_skipBlanks_8 ⟨Nat.le_of_ble_eq_true rfl, Nat.le_of_ble_eq_true rfl⟩ (fun r8_1 S8_3 H locs h8_2 hw => ?_)
      obtain ⟨rfl, h8_2⟩ := h8_2
      have h8_2 : r8_1 = I0 61 tp := h8_2
      have h8_2t := congrArg Int32.toInt h8_2
      refine lv_icmp_ge (tgt := 44) hx hb dX9_skipBlanks_11 (by decide) (fun c11_4 => ?_) (fun c11_4 => ?_)
      · have D11_4 := iLe c11_4 rfl rfl
        exact hret _ _ _ _ _ ⟨_, rfl, hF⟩ hw dX9_skipBlanks_44
      · have D11_4 := iNle c11_4 rfl rfl
        refine lv_aload_n hx hb dX9_skipBlanks_14 rfl (lv_at hl 0 rfl) ?_
        refine gf_X9_7 (b := tp) X hw hK.1 hK.2.1 dX9_skipBlanks_15 ?_
        refine lv_aload_n hx hb dX9_skipBlanks_18 rfl (lv_at hl 0 rfl) ?_
        refine gf_X9_23 (v := I0 68 tk) X hw hK.1 rfl dX9_skipBlanks_19 ?_
        refine k_Vi (n := 1) X hw (rcvk (ci := 8) X hw hK.2.2.1 (fun _ _ _ _ _ _ _ => ⟨_, rfl⟩) rfl) (c_X8_byteAt l G _ tp tb (I0 68 tk) hK.2.2 (Fr.sz hF hz)) wd_r9_15 wd_r9_16 wd_r9_17 wd_r1_14 wd_r9_18 ⟨by decide, by decide, by decide +kernel⟩ rfl rfl ⟨Nat.le_of_ble_eq_true rfl, Nat.le_of_ble_eq_true rfl⟩ rfl rfl hl.1 (Nat.le_of_ble_eq_true rfl) dX9_skipBlanks_22 ⟨Nat.le_of_ble_eq_true rfl, Nat.le_of_ble_eq_true rfl⟩ (fun r22_5 S22_7 H locs h22_6 hw => ?_)
        obtain ⟨rfl, h22_6⟩ := h22_6
        refine k_Si (n := 1) X hw (c_X9_isBlank l G _ r22_5) wd_r9_19 wd_r9_20 wd_r3_2 wd_r9_21 ⟨by decide, by decide, by decide +kernel⟩ rfl rfl ⟨Nat.le_of_ble_eq_true rfl, Nat.le_of_ble_eq_true rfl⟩ rfl rfl hl.1 (Nat.le_of_ble_eq_true rfl) dX9_skipBlanks_25 ⟨Nat.le_of_ble_eq_true rfl, Nat.le_of_ble_eq_true rfl⟩ (fun r25_8 S25_10 H locs h25_9 hw => ?_)
        rcases h25_9 with ⟨rfl, rfl, h25_9⟩ | ⟨rfl, rfl, h25_9⟩
        · have h25_9 := h25_9
          refine lv_if_eq (tgt := 44) hx hb dX9_skipBlanks_28 (by decide) (fun c28_11 => absurd c28_11 (by decide)) (fun c28_11 => ?_)
          refine lv_aload_n hx hb dX9_skipBlanks_31 rfl (lv_at hl 0 rfl) ?_
          refine lv_dup hx hb dX9_skipBlanks_32 rfl ?_
          refine gf_X9_23 (v := I0 68 tk) X hw hK.1 rfl dX9_skipBlanks_33 ?_
          refine lv_iconst (v := 1) hx hb dX9_skipBlanks_36 (by decide) ?_
          refine lv_iadd hx hb dX9_skipBlanks_37 ?_
          refine lv_topi (fun v37_12 e37_12 => ?_)
          have t37_12 := iAdd e37_12 rfl t_1 (by omega) (by omega)
          have t37 := t37_12
          refine pf_X9_23 X hw hK.1 dX9_skipBlanks_38 (fun H locs hw => ?_)
          have hw : PX G A s.heap (ch S (up2 I0 68 tk v37_12) (pJ S) (qI S) (qJ S)) H locs := hw
          refine lv_goto (tgt := 0) hx hb dX9_skipBlanks_41 (by decide) ?_
          exact ih0 (up2 I0 68 tk v37_12)  (Fr.up (f := 68) (by decide) hF) (by simp only [up2_s, up2_f (show (61:Nat) ≠ 68 by decide)]; omega) _ _ _ hw (lv_sub hl [0] rfl)
        · have h25_9 := h25_9
          refine lv_if_eq (tgt := 44) hx hb dX9_skipBlanks_28 (by decide) (fun c28_13 => ?_) (fun c28_13 => absurd c28_13 (by decide))
          exact hret _ _ _ _ _ ⟨_, rfl, hF⟩ hw dX9_skipBlanks_44
  exact lp0 _ (pI S)  Fr.rf (Nat.lt_succ_self _) _ _ _ hw (lv_sub hl [0] rfl)
set_option maxHeartbeats 4000000 in
set_option maxRecDepth 100000 in
theorem c_X9_readWord (l : Launch) (G : Gh) (S : Pl) (tk tp tb : Nat) (hK : shTok S tk tp tb) (hz : (pI S 61 tp).toInt ≤ 1000) : MtV l yX9_readWord cX9_readWord 1 none (Rm 1 0 0) G [.ref tk] S (fun (S' : Pl) => ∃ I', ch S I' (pJ S) (qI S) (qJ S) = S' ∧ Fr (pI S) I') 0 0 := by
  refine MtV.of (by decide) (Nat.le_of_ble_eq_true rfl) ?_
  intro p e s m args below meth c Q A X hw hin hret ls hl
  have hx := X.1.1
  have hb := X.1.2.1
  have hl : lv_has ls 1 [(0, .ref tk)] := hl
  have lp0 : ∀ (N9 : Nat) (I0 : Nat → Nat → Int32), (Fr (pI S) I0) → ((I0 61 tp).toInt - (I0 68 tk).toInt).toNat < N9 → ∀ (H : Heap) (locs : List Loc) (ls : Array Slot), PX G A s.heap (ch S I0 (pJ S) (qI S) (qJ S)) H locs → lv_has ls 1 [(0, .ref tk)] → W p l e (Rm 1 0 0) s m args below meth c H locs 0 0 Q (F0 m 0 ls []) := by
    intro N9
    induction N9 with
    | zero => intro I0 hF hm; exact absurd hm (Nat.not_lt_zero _)
    | succ N9 ih0 =>
      intro I0 hF hm H locs ls hw hl
      have hrg := iRng (I0 68 tk)
      have hzz := Fr.sz hF hz
      refine lv_aload_n hx hb dX9_readWord_0 rfl (lv_at hl 0 rfl) ?_
      refine gf_X9_23 (v := I0 68 tk) X hw hK.1 rfl dX9_readWord_1 ?_
      refine lv_aload_n hx hb dX9_readWord_4 rfl (lv_at hl 0 rfl) ?_
      refine gf_X9_7 (b := tp) X hw hK.1 hK.2.1 dX9_readWord_5 ?_
      refine k_Vi (n := 0) X hw (rcvk (ci := 8) X hw hK.2.2.1 (fun _ _ _ _ _ _ _ => ⟨_, rfl⟩) rfl) (c_X8_size l G _ tp tb hK.2.2) wd_r9_14 wd_r7_5 wd_r7_6 wd_r1_14 wd_r7_7 ⟨by decide, by decide, by decide +kernel⟩ rfl rfl ⟨Nat.le_of_ble_eq_true rfl, Nat.le_of_ble_eq_true rfl⟩ rfl rfl hl.1 (Nat.le_of_ble_eq_true rfl) dX9_readWord_8 ⟨Nat.le_of_ble_eq_true rfl, Nat.le_of_ble_eq_true rfl⟩ (fun r8_1 S8_3 H locs h8_2 hw => ?_)
      obtain ⟨rfl, h8_2⟩ := h8_2
      have h8_2 : r8_1 = I0 61 tp := h8_2
      have h8_2t := congrArg Int32.toInt h8_2
      refine lv_icmp_ge (tgt := 44) hx hb dX9_readWord_11 (by decide) (fun c11_4 => ?_) (fun c11_4 => ?_)
      · have D11_4 := iLe c11_4 rfl rfl
        refine lv_aload_n hx hb dX9_readWord_44 rfl (lv_at hl 0 rfl) ?_
        refine lv_aload_n hx hb dX9_readWord_45 rfl (lv_at hl 0 rfl) ?_
        refine gf_X9_23 (v := I0 68 tk) X hw hK.1 rfl dX9_readWord_46 ?_
        refine lv_aload_n hx hb dX9_readWord_49 rfl (lv_at hl 0 rfl) ?_
        refine gf_X9_17 (v := I0 67 tk) X hw hK.1 rfl dX9_readWord_50 ?_
        refine lv_isub hx hb dX9_readWord_53 ?_
        refine lv_topi (fun v53_5 e53_5 => ?_)
        refine lv_bipush (v := 8) hx hb dX9_readWord_54 (by decide) ?_
        refine lv_icmp_gt (tgt := 63) hx hb dX9_readWord_56 (by decide) (fun c56_6 => ?_) (fun c56_6 => ?_)
        · have D56_6 := iLt c56_6 t_8 rfl
          refine lv_iconst (v := 0) hx hb dX9_readWord_63 (by decide) ?_
          refine pf_X9_13 X hw hK.1 dX9_readWord_64 (fun H locs hw => ?_)
          have hw : PX G A s.heap (ch S (up2 I0 66 tk 0) (pJ S) (qI S) (qJ S)) H locs := hw
          exact hret _ _ _ _ _ ⟨_, rfl, (Fr.up (f := 66) (by decide) hF)⟩ hw dX9_readWord_67
        · have D56_6 := iNlt c56_6 t_8 rfl
          refine lv_iconst (v := 2) hx hb dX9_readWord_59 (by decide) ?_
          refine lv_goto (tgt := 64) hx hb dX9_readWord_60 (by decide) ?_
          refine pf_X9_13 X hw hK.1 dX9_readWord_64 (fun H locs hw => ?_)
          have hw : PX G A s.heap (ch S (up2 I0 66 tk 2) (pJ S) (qI S) (qJ S)) H locs := hw
          exact hret _ _ _ _ _ ⟨_, rfl, (Fr.up (f := 66) (by decide) hF)⟩ hw dX9_readWord_67
      · have D11_4 := iNle c11_4 rfl rfl
        refine lv_aload_n hx hb dX9_readWord_14 rfl (lv_at hl 0 rfl) ?_
        refine gf_X9_7 (b := tp) X hw hK.1 hK.2.1 dX9_readWord_15 ?_
        refine lv_aload_n hx hb dX9_readWord_18 rfl (lv_at hl 0 rfl) ?_
        refine gf_X9_23 (v := I0 68 tk) X hw hK.1 rfl dX9_readWord_19 ?_
        refine k_Vi (n := 1) X hw (rcvk (ci := 8) X hw hK.2.2.1 (fun _ _ _ _ _ _ _ => ⟨_, rfl⟩) rfl) (c_X8_byteAt l G _ tp tb (I0 68 tk) hK.2.2 (Fr.sz hF hz)) wd_r9_15 wd_r9_16 wd_r9_17 wd_r1_14 wd_r9_18 ⟨by decide, by decide, by decide +kernel⟩ rfl rfl ⟨Nat.le_of_ble_eq_true rfl, Nat.le_of_ble_eq_true rfl⟩ rfl rfl hl.1 (Nat.le_of_ble_eq_true rfl) dX9_readWord_22 ⟨Nat.le_of_ble_eq_true rfl, Nat.le_of_ble_eq_true rfl⟩ (fun r22_7 S22_9 H locs h22_8 hw => ?_)
        obtain ⟨rfl, h22_8⟩ := h22_8
        refine k_Si (n := 1) X hw (c_X9_isLetter l G _ r22_7) wd_r9_22 wd_r9_23 wd_r3_2 wd_r10_0 ⟨by decide, by decide, by decide +kernel⟩ rfl rfl ⟨Nat.le_of_ble_eq_true rfl, Nat.le_of_ble_eq_true rfl⟩ rfl rfl hl.1 (Nat.le_of_ble_eq_true rfl) dX9_readWord_25 ⟨Nat.le_of_ble_eq_true rfl, Nat.le_of_ble_eq_true rfl⟩ (fun r25_10 S25_12 H locs h25_11 hw => ?_)
        rcases h25_11 with ⟨rfl, rfl, h25_11⟩ | ⟨rfl, rfl, h25_11⟩
        · have h25_11 := h25_11
          refine lv_if_eq (tgt := 44) hx hb dX9_readWord_28 (by decide) (fun c28_13 => absurd c28_13 (by decide)) (fun c28_13 => ?_)
          refine lv_aload_n hx hb dX9_readWord_31 rfl (lv_at hl 0 rfl) ?_
          refine lv_dup hx hb dX9_readWord_32 rfl ?_
          refine gf_X9_23 (v := I0 68 tk) X hw hK.1 rfl dX9_readWord_33 ?_
          refine lv_iconst (v := 1) hx hb dX9_readWord_36 (by decide) ?_
          refine lv_iadd hx hb dX9_readWord_37 ?_
          refine lv_topi (fun v37_14 e37_14 => ?_)
          have t37_14 := iAdd e37_14 rfl t_1 (by omega) (by omega)
          have t37 := t37_14
          refine pf_X9_23 X hw hK.1 dX9_readWord_38 (fun H locs hw => ?_)
          have hw : PX G A s.heap (ch S (up2 I0 68 tk v37_14) (pJ S) (qI S) (qJ S)) H locs := hw
          refine lv_goto (tgt := 0) hx hb dX9_readWord_41 (by decide) ?_
          exact ih0 (up2 I0 68 tk v37_14)  (Fr.up (f := 68) (by decide) hF) (by simp only [up2_s, up2_f (show (61:Nat) ≠ 68 by decide)]; omega) _ _ _ hw (lv_sub hl [0] rfl)
        · have h25_11 := h25_11
          refine lv_if_eq (tgt := 44) hx hb dX9_readWord_28 (by decide) (fun c28_15 => ?_) (fun c28_15 => absurd c28_15 (by decide))
          refine lv_aload_n hx hb dX9_readWord_44 rfl (lv_at hl 0 rfl) ?_
          refine lv_aload_n hx hb dX9_readWord_45 rfl (lv_at hl 0 rfl) ?_
          refine gf_X9_23 (v := I0 68 tk) X hw hK.1 rfl dX9_readWord_46 ?_
          refine lv_aload_n hx hb dX9_readWord_49 rfl (lv_at hl 0 rfl) ?_
          refine gf_X9_17 (v := I0 67 tk) X hw hK.1 rfl dX9_readWord_50 ?_
          refine lv_isub hx hb dX9_readWord_53 ?_
          refine lv_topi (fun v53_16 e53_16 => ?_)
          refine lv_bipush (v := 8) hx hb dX9_readWord_54 (by decide) ?_
          refine lv_icmp_gt (tgt := 63) hx hb dX9_readWord_56 (by decide) (fun c56_17 => ?_) (fun c56_17 => ?_)
          · have D56_17 := iLt c56_17 t_8 rfl
            refine lv_iconst (v := 0) hx hb dX9_readWord_63 (by decide) ?_
            refine pf_X9_13 X hw hK.1 dX9_readWord_64 (fun H locs hw => ?_)
            have hw : PX G A s.heap (ch S (up2 I0 66 tk 0) (pJ S) (qI S) (qJ S)) H locs := hw
            exact hret _ _ _ _ _ ⟨_, rfl, (Fr.up (f := 66) (by decide) hF)⟩ hw dX9_readWord_67
          · have D56_17 := iNlt c56_17 t_8 rfl
            refine lv_iconst (v := 2) hx hb dX9_readWord_59 (by decide) ?_
            refine lv_goto (tgt := 64) hx hb dX9_readWord_60 (by decide) ?_
            refine pf_X9_13 X hw hK.1 dX9_readWord_64 (fun H locs hw => ?_)
            have hw : PX G A s.heap (ch S (up2 I0 66 tk 2) (pJ S) (qI S) (qJ S)) H locs := hw
            exact hret _ _ _ _ _ ⟨_, rfl, (Fr.up (f := 66) (by decide) hF)⟩ hw dX9_readWord_67
  exact lp0 _ (pI S)  Fr.rf (Nat.lt_succ_self _) _ _ _ hw (lv_sub hl [0] rfl)
set_option maxHeartbeats 4000000 in
set_option maxRecDepth 100000 in
theorem c_X9_readNumber (l : Launch) (G : Gh) (S : Pl) (tk tp tb : Nat) (hK : shTok S tk tp tb) (hz : (pI S 61 tp).toInt ≤ 1000) : MtV l yX9_readNumber cX9_readNumber 6 none (Rm 1 0 0) G [.ref tk] S (fun (S' : Pl) => ∃ I', ch S I' (pJ S) (qI S) (qJ S) = S' ∧ Fr (pI S) I') 0 0 := by
  refine MtV.of (by decide) (Nat.le_of_ble_eq_true rfl) ?_
  intro p e s m args below meth c Q A X hw hin hret ls hl
  have hx := X.1.1
  have hb := X.1.2.1
  have hl : lv_has ls 6 [(0, .ref tk)] := hl
  refine lv_aload_n hx hb dX9_readNumber_0 rfl (lv_at hl 0 rfl) ?_
  refine gf_X9_7 (b := tp) X hw hK.1 hK.2.1 dX9_readNumber_1 ?_
  refine lv_aload_n hx hb dX9_readNumber_4 rfl (lv_at hl 0 rfl) ?_
  refine gf_X9_17 (v := (pI S) 67 tk) X hw hK.1 rfl dX9_readNumber_5 ?_
  refine k_Vi (n := 1) X hw (rcvk (ci := 8) X hw hK.2.2.1 (fun _ _ _ _ _ _ _ => ⟨_, rfl⟩) rfl) (c_X8_byteAt l G _ tp tb ((pI S) 67 tk) hK.2.2 (Fr.sz Fr.rf hz)) wd_r9_15 wd_r9_16 wd_r9_17 wd_r1_14 wd_r9_18 ⟨by decide, by decide, by decide +kernel⟩ rfl rfl ⟨Nat.le_of_ble_eq_true rfl, Nat.le_of_ble_eq_true rfl⟩ rfl rfl hl.1 (Nat.le_of_ble_eq_true rfl) dX9_readNumber_8 ⟨Nat.le_of_ble_eq_true rfl, Nat.le_of_ble_eq_true rfl⟩ (fun r8_1 S8_3 H locs h8_2 hw => ?_)
  obtain ⟨rfl, h8_2⟩ := h8_2
  refine lv_bipush (v := 45) hx hb dX9_readNumber_11 (by decide) ?_
  refine lv_icmp_ne (tgt := 20) hx hb dX9_readNumber_13 (by decide) (fun c13_4 => ?_) (fun c13_4 => ?_)
  · have D13_4 := iNe c13_4 rfl t_45
    refine lv_iconst (v := 0) hx hb dX9_readNumber_20 (by decide) ?_
    refine lv_istore_n (lv' := [(1, .int 0), (0, .ref tk)]) hx hb dX9_readNumber_21 rfl hl (by decide) rfl (fun ls hl => ?_)
    refine lv_iload_n hx hb dX9_readNumber_22 rfl (lv_at hl 0 rfl) ?_
    refine lv_if_eq (tgt := 35) hx hb dX9_readNumber_23 (by decide) (fun c23_5 => ?_) (fun c23_5 => absurd c23_5 (by decide))
    refine lv_aload_n hx hb dX9_readNumber_35 rfl (lv_at hl 1 rfl) ?_
    refine gf_X9_17 (v := (pI S) 67 tk) X hw hK.1 rfl dX9_readNumber_36 ?_
    refine lv_istore_n (lv' := [(2, .int ((pI S) 67 tk)), (1, .int 0), (0, .ref tk)]) hx hb dX9_readNumber_39 rfl hl (by decide) rfl (fun ls hl => ?_)
    refine lv_iconst (v := 0) hx hb dX9_readNumber_40 (by decide) ?_
    refine lv_istore_n (lv' := [(3, .int 0), (2, .int ((pI S) 67 tk)), (1, .int 0), (0, .ref tk)]) hx hb dX9_readNumber_41 rfl hl (by decide) rfl (fun ls hl => ?_)
    refine lv_aload_n hx hb dX9_readNumber_42 rfl (lv_at hl 3 rfl) ?_
    refine lv_iload_n hx hb dX9_readNumber_43 rfl (lv_at hl 1 rfl) ?_
    refine pf_X9_23 X hw hK.1 dX9_readNumber_44 (fun H locs hw => ?_)
    have hw : PX G A s.heap (ch S (up2 (pI S) 68 tk ((pI S) 67 tk)) (pJ S) (qI S) (qJ S)) H locs := hw
    have lp47 : ∀ (N9 : Nat) (I47 : Nat → Nat → Int32) (z : Int32), (Fr (pI S) I47) → ((I47 61 tp).toInt - (I47 68 tk).toInt).toNat < N9 → ∀ (H : Heap) (locs : List Loc) (ls : Array Slot), PX G A s.heap (ch S I47 (pJ S) (qI S) (qJ S)) H locs → lv_has ls 6 [(3, .int z), (2, .int ((pI S) 67 tk)), (1, .int 0), (0, .ref tk)] → W p l e (Rm 1 0 0) s m args below meth c H locs 0 0 Q (F0 m 47 ls []) := by
      intro N9
      induction N9 with
      | zero => intro I47 z hF hm; exact absurd hm (Nat.not_lt_zero _)
      | succ N9 ih47 =>
        intro I47 z hF hm H locs ls hw hl
        have hrg := iRng (I47 68 tk)
        have hzz := Fr.sz hF hz
        refine lv_aload_n hx hb dX9_readNumber_47 rfl (lv_at hl 3 rfl) ?_
        refine gf_X9_23 (v := I47 68 tk) X hw hK.1 rfl dX9_readNumber_48 ?_
        refine lv_aload_n hx hb dX9_readNumber_51 rfl (lv_at hl 3 rfl) ?_
        refine gf_X9_7 (b := tp) X hw hK.1 hK.2.1 dX9_readNumber_52 ?_
        refine k_Vi (n := 0) X hw (rcvk (ci := 8) X hw hK.2.2.1 (fun _ _ _ _ _ _ _ => ⟨_, rfl⟩) rfl) (c_X8_size l G _ tp tb hK.2.2) wd_r9_14 wd_r7_5 wd_r7_6 wd_r1_14 wd_r7_7 ⟨by decide, by decide, by decide +kernel⟩ rfl rfl ⟨Nat.le_of_ble_eq_true rfl, Nat.le_of_ble_eq_true rfl⟩ rfl rfl hl.1 (Nat.le_of_ble_eq_true rfl) dX9_readNumber_55 ⟨Nat.le_of_ble_eq_true rfl, Nat.le_of_ble_eq_true rfl⟩ (fun r55_6 S55_8 H locs h55_7 hw => ?_)
        obtain ⟨rfl, h55_7⟩ := h55_7
        have h55_7 : r55_6 = I47 61 tp := h55_7
        have h55_7t := congrArg Int32.toInt h55_7
        refine lv_icmp_ge (tgt := 111) hx hb dX9_readNumber_58 (by decide) (fun c58_9 => ?_) (fun c58_9 => ?_)
        · have D58_9 := iLe c58_9 rfl rfl
          refine lv_aload_n hx hb dX9_readNumber_111 rfl (lv_at hl 3 rfl) ?_
          refine gf_X9_23 (v := I47 68 tk) X hw hK.1 rfl dX9_readNumber_112 ?_
          refine lv_iload_n hx hb dX9_readNumber_115 rfl (lv_at hl 1 rfl) ?_
          refine lv_isub hx hb dX9_readNumber_116 ?_
          refine lv_topi (fun v116_10 e116_10 => ?_)
          refine lv_istore (lv' := [(4, .int v116_10), (3, .int z), (2, .int ((pI S) 67 tk)), (1, .int 0), (0, .ref tk)]) hx hb dX9_readNumber_117 hl (by decide) rfl (fun ls hl => ?_)
          refine lv_iload hx hb dX9_readNumber_119 (lv_at hl 0 rfl) ?_
          refine lv_iconst (v := 1) hx hb dX9_readNumber_121 (by decide) ?_
          refine lv_icmp_lt (tgt := 152) hx hb dX9_readNumber_122 (by decide) (fun c122_11 => ?_) (fun c122_11 => ?_)
          · have D122_11 := iLt c122_11 rfl t_1
            refine lv_iconst (v := 0) hx hb dX9_readNumber_152 (by decide) ?_
            refine lv_istore (lv' := [(5, .int 0), (4, .int v116_10), (3, .int z), (2, .int ((pI S) 67 tk)), (1, .int 0), (0, .ref tk)]) hx hb dX9_readNumber_153 hl (by decide) rfl (fun ls hl => ?_)
            refine lv_aload_n hx hb dX9_readNumber_155 rfl (lv_at hl 5 rfl) ?_
            refine lv_iload hx hb dX9_readNumber_156 (lv_at hl 0 rfl) ?_
            refine lv_if_eq (tgt := 165) hx hb dX9_readNumber_158 (by decide) (fun c158_12 => ?_) (fun c158_12 => absurd c158_12 (by decide))
            refine lv_iconst (v := 0) hx hb dX9_readNumber_165 (by decide) ?_
            refine pf_X9_13 X hw hK.1 dX9_readNumber_166 (fun H locs hw => ?_)
            have hw : PX G A s.heap (ch S (up2 I47 66 tk 0) (pJ S) (qI S) (qJ S)) H locs := hw
            refine lv_aload_n hx hb dX9_readNumber_169 rfl (lv_at hl 5 rfl) ?_
            refine lv_iload_n hx hb dX9_readNumber_170 rfl (lv_at hl 4 rfl) ?_
            refine lv_if_eq (tgt := 179) hx hb dX9_readNumber_171 (by decide) (fun c171_13 => ?_) (fun c171_13 => absurd c171_13 (by decide))
            refine lv_iload_n hx hb dX9_readNumber_179 rfl (lv_at hl 2 rfl) ?_
            refine pf_X9_20 X hw hK.1 dX9_readNumber_180 (fun H locs hw => ?_)
            have hw : PX G A s.heap (ch S (up2 (up2 I47 66 tk 0) 69 tk z) (pJ S) (qI S) (qJ S)) H locs := hw
            exact hret _ _ _ _ _ ⟨_, rfl, (Fr.up (f := 69) (by decide) (Fr.up (f := 66) (by decide) hF))⟩ hw dX9_readNumber_183
          · have D122_11 := iNlt c122_11 rfl t_1
            refine lv_iload hx hb dX9_readNumber_125 (lv_at hl 0 rfl) ?_
            refine lv_iconst (v := 3) hx hb dX9_readNumber_127 (by decide) ?_
            refine lv_icmp_gt (tgt := 152) hx hb dX9_readNumber_128 (by decide) (fun c128_14 => ?_) (fun c128_14 => ?_)
            · have D128_14 := iLt c128_14 t_3 rfl
              refine lv_iconst (v := 0) hx hb dX9_readNumber_152 (by decide) ?_
              refine lv_istore (lv' := [(5, .int 0), (4, .int v116_10), (3, .int z), (2, .int ((pI S) 67 tk)), (1, .int 0), (0, .ref tk)]) hx hb dX9_readNumber_153 hl (by decide) rfl (fun ls hl => ?_)
              refine lv_aload_n hx hb dX9_readNumber_155 rfl (lv_at hl 5 rfl) ?_
              refine lv_iload hx hb dX9_readNumber_156 (lv_at hl 0 rfl) ?_
              refine lv_if_eq (tgt := 165) hx hb dX9_readNumber_158 (by decide) (fun c158_15 => ?_) (fun c158_15 => absurd c158_15 (by decide))
              refine lv_iconst (v := 0) hx hb dX9_readNumber_165 (by decide) ?_
              refine pf_X9_13 X hw hK.1 dX9_readNumber_166 (fun H locs hw => ?_)
              have hw : PX G A s.heap (ch S (up2 I47 66 tk 0) (pJ S) (qI S) (qJ S)) H locs := hw
              refine lv_aload_n hx hb dX9_readNumber_169 rfl (lv_at hl 5 rfl) ?_
              refine lv_iload_n hx hb dX9_readNumber_170 rfl (lv_at hl 4 rfl) ?_
              refine lv_if_eq (tgt := 179) hx hb dX9_readNumber_171 (by decide) (fun c171_16 => ?_) (fun c171_16 => absurd c171_16 (by decide))
              refine lv_iload_n hx hb dX9_readNumber_179 rfl (lv_at hl 2 rfl) ?_
              refine pf_X9_20 X hw hK.1 dX9_readNumber_180 (fun H locs hw => ?_)
              have hw : PX G A s.heap (ch S (up2 (up2 I47 66 tk 0) 69 tk z) (pJ S) (qI S) (qJ S)) H locs := hw
              exact hret _ _ _ _ _ ⟨_, rfl, (Fr.up (f := 69) (by decide) (Fr.up (f := 66) (by decide) hF))⟩ hw dX9_readNumber_183
            · have D128_14 := iNlt c128_14 t_3 rfl
              refine lv_aload_n hx hb dX9_readNumber_131 rfl (lv_at hl 4 rfl) ?_
              refine gf_X9_7 (b := tp) X hw hK.1 hK.2.1 dX9_readNumber_132 ?_
              refine lv_aload_n hx hb dX9_readNumber_135 rfl (lv_at hl 4 rfl) ?_
              refine gf_X9_23 (v := I47 68 tk) X hw hK.1 rfl dX9_readNumber_136 ?_
              refine k_Vi (n := 1) X hw (rcvk (ci := 8) X hw hK.2.2.1 (fun _ _ _ _ _ _ _ => ⟨_, rfl⟩) rfl) (c_X8_byteAt l G _ tp tb (I47 68 tk) hK.2.2 (Fr.sz hF hz)) wd_r9_15 wd_r9_16 wd_r9_17 wd_r1_14 wd_r9_18 ⟨by decide, by decide, by decide +kernel⟩ rfl rfl ⟨Nat.le_of_ble_eq_true rfl, Nat.le_of_ble_eq_true rfl⟩ rfl rfl hl.1 (Nat.le_of_ble_eq_true rfl) dX9_readNumber_139 ⟨Nat.le_of_ble_eq_true rfl, Nat.le_of_ble_eq_true rfl⟩ (fun r139_17 S139_19 H locs h139_18 hw => ?_)
              obtain ⟨rfl, h139_18⟩ := h139_18
              refine k_Si (n := 1) X hw (c_X9_isLetter l G _ r139_17) wd_r9_22 wd_r9_23 wd_r3_2 wd_r10_0 ⟨by decide, by decide, by decide +kernel⟩ rfl rfl ⟨Nat.le_of_ble_eq_true rfl, Nat.le_of_ble_eq_true rfl⟩ rfl rfl hl.1 (Nat.le_of_ble_eq_true rfl) dX9_readNumber_142 ⟨Nat.le_of_ble_eq_true rfl, Nat.le_of_ble_eq_true rfl⟩ (fun r142_20 S142_22 H locs h142_21 hw => ?_)
              rcases h142_21 with ⟨rfl, rfl, h142_21⟩ | ⟨rfl, rfl, h142_21⟩
              · have h142_21 := h142_21
                refine lv_if_ne (tgt := 152) hx hb dX9_readNumber_145 (by decide) (fun c145_23 => ?_) (fun c145_23 => absurd c145_23 (by decide))
                refine lv_iconst (v := 0) hx hb dX9_readNumber_152 (by decide) ?_
                refine lv_istore (lv' := [(5, .int 0), (4, .int v116_10), (3, .int z), (2, .int ((pI S) 67 tk)), (1, .int 0), (0, .ref tk)]) hx hb dX9_readNumber_153 hl (by decide) rfl (fun ls hl => ?_)
                refine lv_aload_n hx hb dX9_readNumber_155 rfl (lv_at hl 5 rfl) ?_
                refine lv_iload hx hb dX9_readNumber_156 (lv_at hl 0 rfl) ?_
                refine lv_if_eq (tgt := 165) hx hb dX9_readNumber_158 (by decide) (fun c158_24 => ?_) (fun c158_24 => absurd c158_24 (by decide))
                refine lv_iconst (v := 0) hx hb dX9_readNumber_165 (by decide) ?_
                refine pf_X9_13 X hw hK.1 dX9_readNumber_166 (fun H locs hw => ?_)
                have hw : PX G A s.heap (ch S (up2 I47 66 tk 0) (pJ S) (qI S) (qJ S)) H locs := hw
                refine lv_aload_n hx hb dX9_readNumber_169 rfl (lv_at hl 5 rfl) ?_
                refine lv_iload_n hx hb dX9_readNumber_170 rfl (lv_at hl 4 rfl) ?_
                refine lv_if_eq (tgt := 179) hx hb dX9_readNumber_171 (by decide) (fun c171_25 => ?_) (fun c171_25 => absurd c171_25 (by decide))
                refine lv_iload_n hx hb dX9_readNumber_179 rfl (lv_at hl 2 rfl) ?_
                refine pf_X9_20 X hw hK.1 dX9_readNumber_180 (fun H locs hw => ?_)
                have hw : PX G A s.heap (ch S (up2 (up2 I47 66 tk 0) 69 tk z) (pJ S) (qI S) (qJ S)) H locs := hw
                exact hret _ _ _ _ _ ⟨_, rfl, (Fr.up (f := 69) (by decide) (Fr.up (f := 66) (by decide) hF))⟩ hw dX9_readNumber_183
              · have h142_21 := h142_21
                refine lv_if_ne (tgt := 152) hx hb dX9_readNumber_145 (by decide) (fun c145_26 => absurd c145_26 (by decide)) (fun c145_26 => ?_)
                refine lv_iconst (v := 1) hx hb dX9_readNumber_148 (by decide) ?_
                refine lv_goto (tgt := 153) hx hb dX9_readNumber_149 (by decide) ?_
                refine lv_istore (lv' := [(5, .int 1), (4, .int v116_10), (3, .int z), (2, .int ((pI S) 67 tk)), (1, .int 0), (0, .ref tk)]) hx hb dX9_readNumber_153 hl (by decide) rfl (fun ls hl => ?_)
                refine lv_aload_n hx hb dX9_readNumber_155 rfl (lv_at hl 5 rfl) ?_
                refine lv_iload hx hb dX9_readNumber_156 (lv_at hl 0 rfl) ?_
                refine lv_if_eq (tgt := 165) hx hb dX9_readNumber_158 (by decide) (fun c158_27 => absurd c158_27 (by decide)) (fun c158_27 => ?_)
                refine lv_iconst (v := 3) hx hb dX9_readNumber_161 (by decide) ?_
                refine lv_goto (tgt := 166) hx hb dX9_readNumber_162 (by decide) ?_
                refine pf_X9_13 X hw hK.1 dX9_readNumber_166 (fun H locs hw => ?_)
                have hw : PX G A s.heap (ch S (up2 I47 66 tk 3) (pJ S) (qI S) (qJ S)) H locs := hw
                refine lv_aload_n hx hb dX9_readNumber_169 rfl (lv_at hl 5 rfl) ?_
                refine lv_iload_n hx hb dX9_readNumber_170 rfl (lv_at hl 4 rfl) ?_
                refine lv_if_eq (tgt := 179) hx hb dX9_readNumber_171 (by decide) (fun c171_28 => ?_) (fun c171_28 => absurd c171_28 (by decide))
                refine lv_iload_n hx hb dX9_readNumber_179 rfl (lv_at hl 2 rfl) ?_
                refine pf_X9_20 X hw hK.1 dX9_readNumber_180 (fun H locs hw => ?_)
                have hw : PX G A s.heap (ch S (up2 (up2 I47 66 tk 3) 69 tk z) (pJ S) (qI S) (qJ S)) H locs := hw
                exact hret _ _ _ _ _ ⟨_, rfl, (Fr.up (f := 69) (by decide) (Fr.up (f := 66) (by decide) hF))⟩ hw dX9_readNumber_183
        · have D58_9 := iNle c58_9 rfl rfl
          refine lv_aload_n hx hb dX9_readNumber_61 rfl (lv_at hl 3 rfl) ?_
          refine gf_X9_7 (b := tp) X hw hK.1 hK.2.1 dX9_readNumber_62 ?_
          refine lv_aload_n hx hb dX9_readNumber_65 rfl (lv_at hl 3 rfl) ?_
          refine gf_X9_23 (v := I47 68 tk) X hw hK.1 rfl dX9_readNumber_66 ?_
          refine k_Vi (n := 1) X hw (rcvk (ci := 8) X hw hK.2.2.1 (fun _ _ _ _ _ _ _ => ⟨_, rfl⟩) rfl) (c_X8_byteAt l G _ tp tb (I47 68 tk) hK.2.2 (Fr.sz hF hz)) wd_r9_15 wd_r9_16 wd_r9_17 wd_r1_14 wd_r9_18 ⟨by decide, by decide, by decide +kernel⟩ rfl rfl ⟨Nat.le_of_ble_eq_true rfl, Nat.le_of_ble_eq_true rfl⟩ rfl rfl hl.1 (Nat.le_of_ble_eq_true rfl) dX9_readNumber_69 ⟨Nat.le_of_ble_eq_true rfl, Nat.le_of_ble_eq_true rfl⟩ (fun r69_29 S69_31 H locs h69_30 hw => ?_)
          obtain ⟨rfl, h69_30⟩ := h69_30
          refine k_Si (n := 1) X hw (c_X9_isDigit l G _ r69_29) wd_r10_5 wd_r10_6 wd_r3_2 wd_r10_7 ⟨by decide, by decide, by decide +kernel⟩ rfl rfl ⟨Nat.le_of_ble_eq_true rfl, Nat.le_of_ble_eq_true rfl⟩ rfl rfl hl.1 (Nat.le_of_ble_eq_true rfl) dX9_readNumber_72 ⟨Nat.le_of_ble_eq_true rfl, Nat.le_of_ble_eq_true rfl⟩ (fun r72_32 S72_34 H locs h72_33 hw => ?_)
          rcases h72_33 with ⟨rfl, rfl, h72_33⟩ | ⟨rfl, rfl, h72_33⟩
          · have h72_33 := h72_33
            refine lv_if_eq (tgt := 111) hx hb dX9_readNumber_75 (by decide) (fun c75_35 => absurd c75_35 (by decide)) (fun c75_35 => ?_)
            refine lv_iload_n hx hb dX9_readNumber_78 rfl (lv_at hl 0 rfl) ?_
            refine lv_bipush (v := 10) hx hb dX9_readNumber_79 (by decide) ?_
            refine lv_imul hx hb dX9_readNumber_81 ?_
            refine lv_topi (fun v81_36 e81_36 => ?_)
            refine lv_aload_n hx hb dX9_readNumber_82 rfl (lv_at hl 3 rfl) ?_
            refine gf_X9_7 (b := tp) X hw hK.1 hK.2.1 dX9_readNumber_83 ?_
            refine lv_aload_n hx hb dX9_readNumber_86 rfl (lv_at hl 3 rfl) ?_
            refine gf_X9_23 (v := I47 68 tk) X hw hK.1 rfl dX9_readNumber_87 ?_
            refine k_Vi (n := 1) X hw (rcvk (ci := 8) X hw hK.2.2.1 (fun _ _ _ _ _ _ _ => ⟨_, rfl⟩) rfl) (c_X8_byteAt l G _ tp tb (I47 68 tk) hK.2.2 (Fr.sz hF hz)) wd_r9_15 wd_r9_16 wd_r9_17 wd_r1_14 wd_r9_18 ⟨by decide, by decide, by decide +kernel⟩ rfl rfl ⟨Nat.le_of_ble_eq_true rfl, Nat.le_of_ble_eq_true rfl⟩ rfl rfl hl.1 (Nat.le_of_ble_eq_true rfl) dX9_readNumber_90 ⟨Nat.le_of_ble_eq_true rfl, Nat.le_of_ble_eq_true rfl⟩ (fun r90_37 S90_39 H locs h90_38 hw => ?_)
            obtain ⟨rfl, h90_38⟩ := h90_38
            refine lv_iadd hx hb dX9_readNumber_93 ?_
            refine lv_topi (fun v93_40 e93_40 => ?_)
            refine lv_bipush (v := 48) hx hb dX9_readNumber_94 (by decide) ?_
            refine lv_isub hx hb dX9_readNumber_96 ?_
            refine lv_topi (fun v96_41 e96_41 => ?_)
            refine lv_istore_n (lv' := [(3, .int v96_41), (2, .int ((pI S) 67 tk)), (1, .int 0), (0, .ref tk)]) hx hb dX9_readNumber_97 rfl hl (by decide) rfl (fun ls hl => ?_)
            refine lv_aload_n hx hb dX9_readNumber_98 rfl (lv_at hl 3 rfl) ?_
            refine lv_dup hx hb dX9_readNumber_99 rfl ?_
            refine gf_X9_23 (v := I47 68 tk) X hw hK.1 rfl dX9_readNumber_100 ?_
            refine lv_iconst (v := 1) hx hb dX9_readNumber_103 (by decide) ?_
            refine lv_iadd hx hb dX9_readNumber_104 ?_
            refine lv_topi (fun v104_42 e104_42 => ?_)
            have t104_42 := iAdd e104_42 rfl t_1 (by omega) (by omega)
            have t104 := t104_42
            refine pf_X9_23 X hw hK.1 dX9_readNumber_105 (fun H locs hw => ?_)
            have hw : PX G A s.heap (ch S (up2 I47 68 tk v104_42) (pJ S) (qI S) (qJ S)) H locs := hw
            refine lv_goto (tgt := 47) hx hb dX9_readNumber_108 (by decide) ?_
            exact ih47 (up2 I47 68 tk v104_42) v96_41 (Fr.up (f := 68) (by decide) hF) (by simp only [up2_s, up2_f (show (61:Nat) ≠ 68 by decide)]; omega) _ _ _ hw (lv_sub hl [0, 1, 2, 3] rfl)
          · have h72_33 := h72_33
            refine lv_if_eq (tgt := 111) hx hb dX9_readNumber_75 (by decide) (fun c75_43 => ?_) (fun c75_43 => absurd c75_43 (by decide))
            refine lv_aload_n hx hb dX9_readNumber_111 rfl (lv_at hl 3 rfl) ?_
            refine gf_X9_23 (v := I47 68 tk) X hw hK.1 rfl dX9_readNumber_112 ?_
            refine lv_iload_n hx hb dX9_readNumber_115 rfl (lv_at hl 1 rfl) ?_
            refine lv_isub hx hb dX9_readNumber_116 ?_
            refine lv_topi (fun v116_44 e116_44 => ?_)
            refine lv_istore (lv' := [(4, .int v116_44), (3, .int z), (2, .int ((pI S) 67 tk)), (1, .int 0), (0, .ref tk)]) hx hb dX9_readNumber_117 hl (by decide) rfl (fun ls hl => ?_)
            refine lv_iload hx hb dX9_readNumber_119 (lv_at hl 0 rfl) ?_
            refine lv_iconst (v := 1) hx hb dX9_readNumber_121 (by decide) ?_
            refine lv_icmp_lt (tgt := 152) hx hb dX9_readNumber_122 (by decide) (fun c122_45 => ?_) (fun c122_45 => ?_)
            · have D122_45 := iLt c122_45 rfl t_1
              refine lv_iconst (v := 0) hx hb dX9_readNumber_152 (by decide) ?_
              refine lv_istore (lv' := [(5, .int 0), (4, .int v116_44), (3, .int z), (2, .int ((pI S) 67 tk)), (1, .int 0), (0, .ref tk)]) hx hb dX9_readNumber_153 hl (by decide) rfl (fun ls hl => ?_)
              refine lv_aload_n hx hb dX9_readNumber_155 rfl (lv_at hl 5 rfl) ?_
              refine lv_iload hx hb dX9_readNumber_156 (lv_at hl 0 rfl) ?_
              refine lv_if_eq (tgt := 165) hx hb dX9_readNumber_158 (by decide) (fun c158_46 => ?_) (fun c158_46 => absurd c158_46 (by decide))
              refine lv_iconst (v := 0) hx hb dX9_readNumber_165 (by decide) ?_
              refine pf_X9_13 X hw hK.1 dX9_readNumber_166 (fun H locs hw => ?_)
              have hw : PX G A s.heap (ch S (up2 I47 66 tk 0) (pJ S) (qI S) (qJ S)) H locs := hw
              refine lv_aload_n hx hb dX9_readNumber_169 rfl (lv_at hl 5 rfl) ?_
              refine lv_iload_n hx hb dX9_readNumber_170 rfl (lv_at hl 4 rfl) ?_
              refine lv_if_eq (tgt := 179) hx hb dX9_readNumber_171 (by decide) (fun c171_47 => ?_) (fun c171_47 => absurd c171_47 (by decide))
              refine lv_iload_n hx hb dX9_readNumber_179 rfl (lv_at hl 2 rfl) ?_
              refine pf_X9_20 X hw hK.1 dX9_readNumber_180 (fun H locs hw => ?_)
              have hw : PX G A s.heap (ch S (up2 (up2 I47 66 tk 0) 69 tk z) (pJ S) (qI S) (qJ S)) H locs := hw
              exact hret _ _ _ _ _ ⟨_, rfl, (Fr.up (f := 69) (by decide) (Fr.up (f := 66) (by decide) hF))⟩ hw dX9_readNumber_183
            · have D122_45 := iNlt c122_45 rfl t_1
              refine lv_iload hx hb dX9_readNumber_125 (lv_at hl 0 rfl) ?_
              refine lv_iconst (v := 3) hx hb dX9_readNumber_127 (by decide) ?_
              refine lv_icmp_gt (tgt := 152) hx hb dX9_readNumber_128 (by decide) (fun c128_48 => ?_) (fun c128_48 => ?_)
              · have D128_48 := iLt c128_48 t_3 rfl
                refine lv_iconst (v := 0) hx hb dX9_readNumber_152 (by decide) ?_
                refine lv_istore (lv' := [(5, .int 0), (4, .int v116_44), (3, .int z), (2, .int ((pI S) 67 tk)), (1, .int 0), (0, .ref tk)]) hx hb dX9_readNumber_153 hl (by decide) rfl (fun ls hl => ?_)
                refine lv_aload_n hx hb dX9_readNumber_155 rfl (lv_at hl 5 rfl) ?_
                refine lv_iload hx hb dX9_readNumber_156 (lv_at hl 0 rfl) ?_
                refine lv_if_eq (tgt := 165) hx hb dX9_readNumber_158 (by decide) (fun c158_49 => ?_) (fun c158_49 => absurd c158_49 (by decide))
                refine lv_iconst (v := 0) hx hb dX9_readNumber_165 (by decide) ?_
                refine pf_X9_13 X hw hK.1 dX9_readNumber_166 (fun H locs hw => ?_)
                have hw : PX G A s.heap (ch S (up2 I47 66 tk 0) (pJ S) (qI S) (qJ S)) H locs := hw
                refine lv_aload_n hx hb dX9_readNumber_169 rfl (lv_at hl 5 rfl) ?_
                refine lv_iload_n hx hb dX9_readNumber_170 rfl (lv_at hl 4 rfl) ?_
                refine lv_if_eq (tgt := 179) hx hb dX9_readNumber_171 (by decide) (fun c171_50 => ?_) (fun c171_50 => absurd c171_50 (by decide))
                refine lv_iload_n hx hb dX9_readNumber_179 rfl (lv_at hl 2 rfl) ?_
                refine pf_X9_20 X hw hK.1 dX9_readNumber_180 (fun H locs hw => ?_)
                have hw : PX G A s.heap (ch S (up2 (up2 I47 66 tk 0) 69 tk z) (pJ S) (qI S) (qJ S)) H locs := hw
                exact hret _ _ _ _ _ ⟨_, rfl, (Fr.up (f := 69) (by decide) (Fr.up (f := 66) (by decide) hF))⟩ hw dX9_readNumber_183
              · have D128_48 := iNlt c128_48 t_3 rfl
                refine lv_aload_n hx hb dX9_readNumber_131 rfl (lv_at hl 4 rfl) ?_
                refine gf_X9_7 (b := tp) X hw hK.1 hK.2.1 dX9_readNumber_132 ?_
                refine lv_aload_n hx hb dX9_readNumber_135 rfl (lv_at hl 4 rfl) ?_
                refine gf_X9_23 (v := I47 68 tk) X hw hK.1 rfl dX9_readNumber_136 ?_
                refine k_Vi (n := 1) X hw (rcvk (ci := 8) X hw hK.2.2.1 (fun _ _ _ _ _ _ _ => ⟨_, rfl⟩) rfl) (c_X8_byteAt l G _ tp tb (I47 68 tk) hK.2.2 (Fr.sz hF hz)) wd_r9_15 wd_r9_16 wd_r9_17 wd_r1_14 wd_r9_18 ⟨by decide, by decide, by decide +kernel⟩ rfl rfl ⟨Nat.le_of_ble_eq_true rfl, Nat.le_of_ble_eq_true rfl⟩ rfl rfl hl.1 (Nat.le_of_ble_eq_true rfl) dX9_readNumber_139 ⟨Nat.le_of_ble_eq_true rfl, Nat.le_of_ble_eq_true rfl⟩ (fun r139_51 S139_53 H locs h139_52 hw => ?_)
                obtain ⟨rfl, h139_52⟩ := h139_52
                refine k_Si (n := 1) X hw (c_X9_isLetter l G _ r139_51) wd_r9_22 wd_r9_23 wd_r3_2 wd_r10_0 ⟨by decide, by decide, by decide +kernel⟩ rfl rfl ⟨Nat.le_of_ble_eq_true rfl, Nat.le_of_ble_eq_true rfl⟩ rfl rfl hl.1 (Nat.le_of_ble_eq_true rfl) dX9_readNumber_142 ⟨Nat.le_of_ble_eq_true rfl, Nat.le_of_ble_eq_true rfl⟩ (fun r142_54 S142_56 H locs h142_55 hw => ?_)
                rcases h142_55 with ⟨rfl, rfl, h142_55⟩ | ⟨rfl, rfl, h142_55⟩
                · have h142_55 := h142_55
                  refine lv_if_ne (tgt := 152) hx hb dX9_readNumber_145 (by decide) (fun c145_57 => ?_) (fun c145_57 => absurd c145_57 (by decide))
                  refine lv_iconst (v := 0) hx hb dX9_readNumber_152 (by decide) ?_
                  refine lv_istore (lv' := [(5, .int 0), (4, .int v116_44), (3, .int z), (2, .int ((pI S) 67 tk)), (1, .int 0), (0, .ref tk)]) hx hb dX9_readNumber_153 hl (by decide) rfl (fun ls hl => ?_)
                  refine lv_aload_n hx hb dX9_readNumber_155 rfl (lv_at hl 5 rfl) ?_
                  refine lv_iload hx hb dX9_readNumber_156 (lv_at hl 0 rfl) ?_
                  refine lv_if_eq (tgt := 165) hx hb dX9_readNumber_158 (by decide) (fun c158_58 => ?_) (fun c158_58 => absurd c158_58 (by decide))
                  refine lv_iconst (v := 0) hx hb dX9_readNumber_165 (by decide) ?_
                  refine pf_X9_13 X hw hK.1 dX9_readNumber_166 (fun H locs hw => ?_)
                  have hw : PX G A s.heap (ch S (up2 I47 66 tk 0) (pJ S) (qI S) (qJ S)) H locs := hw
                  refine lv_aload_n hx hb dX9_readNumber_169 rfl (lv_at hl 5 rfl) ?_
                  refine lv_iload_n hx hb dX9_readNumber_170 rfl (lv_at hl 4 rfl) ?_
                  refine lv_if_eq (tgt := 179) hx hb dX9_readNumber_171 (by decide) (fun c171_59 => ?_) (fun c171_59 => absurd c171_59 (by decide))
                  refine lv_iload_n hx hb dX9_readNumber_179 rfl (lv_at hl 2 rfl) ?_
                  refine pf_X9_20 X hw hK.1 dX9_readNumber_180 (fun H locs hw => ?_)
                  have hw : PX G A s.heap (ch S (up2 (up2 I47 66 tk 0) 69 tk z) (pJ S) (qI S) (qJ S)) H locs := hw
                  exact hret _ _ _ _ _ ⟨_, rfl, (Fr.up (f := 69) (by decide) (Fr.up (f := 66) (by decide) hF))⟩ hw dX9_readNumber_183
                · have h142_55 := h142_55
                  refine lv_if_ne (tgt := 152) hx hb dX9_readNumber_145 (by decide) (fun c145_60 => absurd c145_60 (by decide)) (fun c145_60 => ?_)
                  refine lv_iconst (v := 1) hx hb dX9_readNumber_148 (by decide) ?_
                  refine lv_goto (tgt := 153) hx hb dX9_readNumber_149 (by decide) ?_
                  refine lv_istore (lv' := [(5, .int 1), (4, .int v116_44), (3, .int z), (2, .int ((pI S) 67 tk)), (1, .int 0), (0, .ref tk)]) hx hb dX9_readNumber_153 hl (by decide) rfl (fun ls hl => ?_)
                  refine lv_aload_n hx hb dX9_readNumber_155 rfl (lv_at hl 5 rfl) ?_
                  refine lv_iload hx hb dX9_readNumber_156 (lv_at hl 0 rfl) ?_
                  refine lv_if_eq (tgt := 165) hx hb dX9_readNumber_158 (by decide) (fun c158_61 => absurd c158_61 (by decide)) (fun c158_61 => ?_)
                  refine lv_iconst (v := 3) hx hb dX9_readNumber_161 (by decide) ?_
                  refine lv_goto (tgt := 166) hx hb dX9_readNumber_162 (by decide) ?_
                  refine pf_X9_13 X hw hK.1 dX9_readNumber_166 (fun H locs hw => ?_)
                  have hw : PX G A s.heap (ch S (up2 I47 66 tk 3) (pJ S) (qI S) (qJ S)) H locs := hw
                  refine lv_aload_n hx hb dX9_readNumber_169 rfl (lv_at hl 5 rfl) ?_
                  refine lv_iload_n hx hb dX9_readNumber_170 rfl (lv_at hl 4 rfl) ?_
                  refine lv_if_eq (tgt := 179) hx hb dX9_readNumber_171 (by decide) (fun c171_62 => ?_) (fun c171_62 => absurd c171_62 (by decide))
                  refine lv_iload_n hx hb dX9_readNumber_179 rfl (lv_at hl 2 rfl) ?_
                  refine pf_X9_20 X hw hK.1 dX9_readNumber_180 (fun H locs hw => ?_)
                  have hw : PX G A s.heap (ch S (up2 (up2 I47 66 tk 3) 69 tk z) (pJ S) (qI S) (qJ S)) H locs := hw
                  exact hret _ _ _ _ _ ⟨_, rfl, (Fr.up (f := 69) (by decide) (Fr.up (f := 66) (by decide) hF))⟩ hw dX9_readNumber_183
    exact lp47 _ (up2 (pI S) 68 tk ((pI S) 67 tk)) 0 (Fr.up (f := 68) (by decide) Fr.rf) (Nat.lt_succ_self _) _ _ _ hw (lv_sub hl [0, 1, 2, 3] rfl)
  · have D13_4 := iEq c13_4 rfl t_45
    refine lv_iconst (v := 1) hx hb dX9_readNumber_16 (by decide) ?_
    refine lv_goto (tgt := 21) hx hb dX9_readNumber_17 (by decide) ?_
    refine lv_istore_n (lv' := [(1, .int 1), (0, .ref tk)]) hx hb dX9_readNumber_21 rfl hl (by decide) rfl (fun ls hl => ?_)
    refine lv_iload_n hx hb dX9_readNumber_22 rfl (lv_at hl 0 rfl) ?_
    refine lv_if_eq (tgt := 35) hx hb dX9_readNumber_23 (by decide) (fun c23_63 => absurd c23_63 (by decide)) (fun c23_63 => ?_)
    refine lv_aload_n hx hb dX9_readNumber_26 rfl (lv_at hl 1 rfl) ?_
    refine gf_X9_17 (v := (pI S) 67 tk) X hw hK.1 rfl dX9_readNumber_27 ?_
    refine lv_iconst (v := 1) hx hb dX9_readNumber_30 (by decide) ?_
    refine lv_iadd hx hb dX9_readNumber_31 ?_
    refine lv_topi (fun v31_64 e31_64 => ?_)
    refine lv_goto (tgt := 39) hx hb dX9_readNumber_32 (by decide) ?_
    refine lv_istore_n (lv' := [(2, .int v31_64), (1, .int 1), (0, .ref tk)]) hx hb dX9_readNumber_39 rfl hl (by decide) rfl (fun ls hl => ?_)
    refine lv_iconst (v := 0) hx hb dX9_readNumber_40 (by decide) ?_
    refine lv_istore_n (lv' := [(3, .int 0), (2, .int v31_64), (1, .int 1), (0, .ref tk)]) hx hb dX9_readNumber_41 rfl hl (by decide) rfl (fun ls hl => ?_)
    refine lv_aload_n hx hb dX9_readNumber_42 rfl (lv_at hl 3 rfl) ?_
    refine lv_iload_n hx hb dX9_readNumber_43 rfl (lv_at hl 1 rfl) ?_
    refine pf_X9_23 X hw hK.1 dX9_readNumber_44 (fun H locs hw => ?_)
    have hw : PX G A s.heap (ch S (up2 (pI S) 68 tk v31_64) (pJ S) (qI S) (qJ S)) H locs := hw
    have lp47 : ∀ (N9 : Nat) (I47 : Nat → Nat → Int32) (z : Int32), (Fr (pI S) I47) → ((I47 61 tp).toInt - (I47 68 tk).toInt).toNat < N9 → ∀ (H : Heap) (locs : List Loc) (ls : Array Slot), PX G A s.heap (ch S I47 (pJ S) (qI S) (qJ S)) H locs → lv_has ls 6 [(3, .int z), (2, .int v31_64), (1, .int 1), (0, .ref tk)] → W p l e (Rm 1 0 0) s m args below meth c H locs 0 0 Q (F0 m 47 ls []) := by
      intro N9
      induction N9 with
      | zero => intro I47 z hF hm; exact absurd hm (Nat.not_lt_zero _)
      | succ N9 ih47 =>
        intro I47 z hF hm H locs ls hw hl
        have hrg := iRng (I47 68 tk)
        have hzz := Fr.sz hF hz
        refine lv_aload_n hx hb dX9_readNumber_47 rfl (lv_at hl 3 rfl) ?_
        refine gf_X9_23 (v := I47 68 tk) X hw hK.1 rfl dX9_readNumber_48 ?_
        refine lv_aload_n hx hb dX9_readNumber_51 rfl (lv_at hl 3 rfl) ?_
        refine gf_X9_7 (b := tp) X hw hK.1 hK.2.1 dX9_readNumber_52 ?_
        refine k_Vi (n := 0) X hw (rcvk (ci := 8) X hw hK.2.2.1 (fun _ _ _ _ _ _ _ => ⟨_, rfl⟩) rfl) (c_X8_size l G _ tp tb hK.2.2) wd_r9_14 wd_r7_5 wd_r7_6 wd_r1_14 wd_r7_7 ⟨by decide, by decide, by decide +kernel⟩ rfl rfl ⟨Nat.le_of_ble_eq_true rfl, Nat.le_of_ble_eq_true rfl⟩ rfl rfl hl.1 (Nat.le_of_ble_eq_true rfl) dX9_readNumber_55 ⟨Nat.le_of_ble_eq_true rfl, Nat.le_of_ble_eq_true rfl⟩ (fun r55_65 S55_67 H locs h55_66 hw => ?_)
        obtain ⟨rfl, h55_66⟩ := h55_66
        have h55_66 : r55_65 = I47 61 tp := h55_66
        have h55_66t := congrArg Int32.toInt h55_66
        refine lv_icmp_ge (tgt := 111) hx hb dX9_readNumber_58 (by decide) (fun c58_68 => ?_) (fun c58_68 => ?_)
        · have D58_68 := iLe c58_68 rfl rfl
          refine lv_aload_n hx hb dX9_readNumber_111 rfl (lv_at hl 3 rfl) ?_
          refine gf_X9_23 (v := I47 68 tk) X hw hK.1 rfl dX9_readNumber_112 ?_
          refine lv_iload_n hx hb dX9_readNumber_115 rfl (lv_at hl 1 rfl) ?_
          refine lv_isub hx hb dX9_readNumber_116 ?_
          refine lv_topi (fun v116_69 e116_69 => ?_)
          refine lv_istore (lv' := [(4, .int v116_69), (3, .int z), (2, .int v31_64), (1, .int 1), (0, .ref tk)]) hx hb dX9_readNumber_117 hl (by decide) rfl (fun ls hl => ?_)
          refine lv_iload hx hb dX9_readNumber_119 (lv_at hl 0 rfl) ?_
          refine lv_iconst (v := 1) hx hb dX9_readNumber_121 (by decide) ?_
          refine lv_icmp_lt (tgt := 152) hx hb dX9_readNumber_122 (by decide) (fun c122_70 => ?_) (fun c122_70 => ?_)
          · have D122_70 := iLt c122_70 rfl t_1
            refine lv_iconst (v := 0) hx hb dX9_readNumber_152 (by decide) ?_
            refine lv_istore (lv' := [(5, .int 0), (4, .int v116_69), (3, .int z), (2, .int v31_64), (1, .int 1), (0, .ref tk)]) hx hb dX9_readNumber_153 hl (by decide) rfl (fun ls hl => ?_)
            refine lv_aload_n hx hb dX9_readNumber_155 rfl (lv_at hl 5 rfl) ?_
            refine lv_iload hx hb dX9_readNumber_156 (lv_at hl 0 rfl) ?_
            refine lv_if_eq (tgt := 165) hx hb dX9_readNumber_158 (by decide) (fun c158_71 => ?_) (fun c158_71 => absurd c158_71 (by decide))
            refine lv_iconst (v := 0) hx hb dX9_readNumber_165 (by decide) ?_
            refine pf_X9_13 X hw hK.1 dX9_readNumber_166 (fun H locs hw => ?_)
            have hw : PX G A s.heap (ch S (up2 I47 66 tk 0) (pJ S) (qI S) (qJ S)) H locs := hw
            refine lv_aload_n hx hb dX9_readNumber_169 rfl (lv_at hl 5 rfl) ?_
            refine lv_iload_n hx hb dX9_readNumber_170 rfl (lv_at hl 4 rfl) ?_
            refine lv_if_eq (tgt := 179) hx hb dX9_readNumber_171 (by decide) (fun c171_72 => absurd c171_72 (by decide)) (fun c171_72 => ?_)
            refine lv_iload_n hx hb dX9_readNumber_174 rfl (lv_at hl 2 rfl) ?_
            refine lv_ineg hx hb dX9_readNumber_175 ?_
            refine lv_topi (fun v175_73 e175_73 => ?_)
            refine lv_goto (tgt := 180) hx hb dX9_readNumber_176 (by decide) ?_
            refine pf_X9_20 X hw hK.1 dX9_readNumber_180 (fun H locs hw => ?_)
            have hw : PX G A s.heap (ch S (up2 (up2 I47 66 tk 0) 69 tk v175_73) (pJ S) (qI S) (qJ S)) H locs := hw
            exact hret _ _ _ _ _ ⟨_, rfl, (Fr.up (f := 69) (by decide) (Fr.up (f := 66) (by decide) hF))⟩ hw dX9_readNumber_183
          · have D122_70 := iNlt c122_70 rfl t_1
            refine lv_iload hx hb dX9_readNumber_125 (lv_at hl 0 rfl) ?_
            refine lv_iconst (v := 3) hx hb dX9_readNumber_127 (by decide) ?_
            refine lv_icmp_gt (tgt := 152) hx hb dX9_readNumber_128 (by decide) (fun c128_74 => ?_) (fun c128_74 => ?_)
            · have D128_74 := iLt c128_74 t_3 rfl
              refine lv_iconst (v := 0) hx hb dX9_readNumber_152 (by decide) ?_
              refine lv_istore (lv' := [(5, .int 0), (4, .int v116_69), (3, .int z), (2, .int v31_64), (1, .int 1), (0, .ref tk)]) hx hb dX9_readNumber_153 hl (by decide) rfl (fun ls hl => ?_)
              refine lv_aload_n hx hb dX9_readNumber_155 rfl (lv_at hl 5 rfl) ?_
              refine lv_iload hx hb dX9_readNumber_156 (lv_at hl 0 rfl) ?_
              refine lv_if_eq (tgt := 165) hx hb dX9_readNumber_158 (by decide) (fun c158_75 => ?_) (fun c158_75 => absurd c158_75 (by decide))
              refine lv_iconst (v := 0) hx hb dX9_readNumber_165 (by decide) ?_
              refine pf_X9_13 X hw hK.1 dX9_readNumber_166 (fun H locs hw => ?_)
              have hw : PX G A s.heap (ch S (up2 I47 66 tk 0) (pJ S) (qI S) (qJ S)) H locs := hw
              refine lv_aload_n hx hb dX9_readNumber_169 rfl (lv_at hl 5 rfl) ?_
              refine lv_iload_n hx hb dX9_readNumber_170 rfl (lv_at hl 4 rfl) ?_
              refine lv_if_eq (tgt := 179) hx hb dX9_readNumber_171 (by decide) (fun c171_76 => absurd c171_76 (by decide)) (fun c171_76 => ?_)
              refine lv_iload_n hx hb dX9_readNumber_174 rfl (lv_at hl 2 rfl) ?_
              refine lv_ineg hx hb dX9_readNumber_175 ?_
              refine lv_topi (fun v175_77 e175_77 => ?_)
              refine lv_goto (tgt := 180) hx hb dX9_readNumber_176 (by decide) ?_
              refine pf_X9_20 X hw hK.1 dX9_readNumber_180 (fun H locs hw => ?_)
              have hw : PX G A s.heap (ch S (up2 (up2 I47 66 tk 0) 69 tk v175_77) (pJ S) (qI S) (qJ S)) H locs := hw
              exact hret _ _ _ _ _ ⟨_, rfl, (Fr.up (f := 69) (by decide) (Fr.up (f := 66) (by decide) hF))⟩ hw dX9_readNumber_183
            · have D128_74 := iNlt c128_74 t_3 rfl
              refine lv_aload_n hx hb dX9_readNumber_131 rfl (lv_at hl 4 rfl) ?_
              refine gf_X9_7 (b := tp) X hw hK.1 hK.2.1 dX9_readNumber_132 ?_
              refine lv_aload_n hx hb dX9_readNumber_135 rfl (lv_at hl 4 rfl) ?_
              refine gf_X9_23 (v := I47 68 tk) X hw hK.1 rfl dX9_readNumber_136 ?_
              refine k_Vi (n := 1) X hw (rcvk (ci := 8) X hw hK.2.2.1 (fun _ _ _ _ _ _ _ => ⟨_, rfl⟩) rfl) (c_X8_byteAt l G _ tp tb (I47 68 tk) hK.2.2 (Fr.sz hF hz)) wd_r9_15 wd_r9_16 wd_r9_17 wd_r1_14 wd_r9_18 ⟨by decide, by decide, by decide +kernel⟩ rfl rfl ⟨Nat.le_of_ble_eq_true rfl, Nat.le_of_ble_eq_true rfl⟩ rfl rfl hl.1 (Nat.le_of_ble_eq_true rfl) dX9_readNumber_139 ⟨Nat.le_of_ble_eq_true rfl, Nat.le_of_ble_eq_true rfl⟩ (fun r139_78 S139_80 H locs h139_79 hw => ?_)
              obtain ⟨rfl, h139_79⟩ := h139_79
              refine k_Si (n := 1) X hw (c_X9_isLetter l G _ r139_78) wd_r9_22 wd_r9_23 wd_r3_2 wd_r10_0 ⟨by decide, by decide, by decide +kernel⟩ rfl rfl ⟨Nat.le_of_ble_eq_true rfl, Nat.le_of_ble_eq_true rfl⟩ rfl rfl hl.1 (Nat.le_of_ble_eq_true rfl) dX9_readNumber_142 ⟨Nat.le_of_ble_eq_true rfl, Nat.le_of_ble_eq_true rfl⟩ (fun r142_81 S142_83 H locs h142_82 hw => ?_)
              rcases h142_82 with ⟨rfl, rfl, h142_82⟩ | ⟨rfl, rfl, h142_82⟩
              · have h142_82 := h142_82
                refine lv_if_ne (tgt := 152) hx hb dX9_readNumber_145 (by decide) (fun c145_84 => ?_) (fun c145_84 => absurd c145_84 (by decide))
                refine lv_iconst (v := 0) hx hb dX9_readNumber_152 (by decide) ?_
                refine lv_istore (lv' := [(5, .int 0), (4, .int v116_69), (3, .int z), (2, .int v31_64), (1, .int 1), (0, .ref tk)]) hx hb dX9_readNumber_153 hl (by decide) rfl (fun ls hl => ?_)
                refine lv_aload_n hx hb dX9_readNumber_155 rfl (lv_at hl 5 rfl) ?_
                refine lv_iload hx hb dX9_readNumber_156 (lv_at hl 0 rfl) ?_
                refine lv_if_eq (tgt := 165) hx hb dX9_readNumber_158 (by decide) (fun c158_85 => ?_) (fun c158_85 => absurd c158_85 (by decide))
                refine lv_iconst (v := 0) hx hb dX9_readNumber_165 (by decide) ?_
                refine pf_X9_13 X hw hK.1 dX9_readNumber_166 (fun H locs hw => ?_)
                have hw : PX G A s.heap (ch S (up2 I47 66 tk 0) (pJ S) (qI S) (qJ S)) H locs := hw
                refine lv_aload_n hx hb dX9_readNumber_169 rfl (lv_at hl 5 rfl) ?_
                refine lv_iload_n hx hb dX9_readNumber_170 rfl (lv_at hl 4 rfl) ?_
                refine lv_if_eq (tgt := 179) hx hb dX9_readNumber_171 (by decide) (fun c171_86 => absurd c171_86 (by decide)) (fun c171_86 => ?_)
                refine lv_iload_n hx hb dX9_readNumber_174 rfl (lv_at hl 2 rfl) ?_
                refine lv_ineg hx hb dX9_readNumber_175 ?_
                refine lv_topi (fun v175_87 e175_87 => ?_)
                refine lv_goto (tgt := 180) hx hb dX9_readNumber_176 (by decide) ?_
                refine pf_X9_20 X hw hK.1 dX9_readNumber_180 (fun H locs hw => ?_)
                have hw : PX G A s.heap (ch S (up2 (up2 I47 66 tk 0) 69 tk v175_87) (pJ S) (qI S) (qJ S)) H locs := hw
                exact hret _ _ _ _ _ ⟨_, rfl, (Fr.up (f := 69) (by decide) (Fr.up (f := 66) (by decide) hF))⟩ hw dX9_readNumber_183
              · have h142_82 := h142_82
                refine lv_if_ne (tgt := 152) hx hb dX9_readNumber_145 (by decide) (fun c145_88 => absurd c145_88 (by decide)) (fun c145_88 => ?_)
                refine lv_iconst (v := 1) hx hb dX9_readNumber_148 (by decide) ?_
                refine lv_goto (tgt := 153) hx hb dX9_readNumber_149 (by decide) ?_
                refine lv_istore (lv' := [(5, .int 1), (4, .int v116_69), (3, .int z), (2, .int v31_64), (1, .int 1), (0, .ref tk)]) hx hb dX9_readNumber_153 hl (by decide) rfl (fun ls hl => ?_)
                refine lv_aload_n hx hb dX9_readNumber_155 rfl (lv_at hl 5 rfl) ?_
                refine lv_iload hx hb dX9_readNumber_156 (lv_at hl 0 rfl) ?_
                refine lv_if_eq (tgt := 165) hx hb dX9_readNumber_158 (by decide) (fun c158_89 => absurd c158_89 (by decide)) (fun c158_89 => ?_)
                refine lv_iconst (v := 3) hx hb dX9_readNumber_161 (by decide) ?_
                refine lv_goto (tgt := 166) hx hb dX9_readNumber_162 (by decide) ?_
                refine pf_X9_13 X hw hK.1 dX9_readNumber_166 (fun H locs hw => ?_)
                have hw : PX G A s.heap (ch S (up2 I47 66 tk 3) (pJ S) (qI S) (qJ S)) H locs := hw
                refine lv_aload_n hx hb dX9_readNumber_169 rfl (lv_at hl 5 rfl) ?_
                refine lv_iload_n hx hb dX9_readNumber_170 rfl (lv_at hl 4 rfl) ?_
                refine lv_if_eq (tgt := 179) hx hb dX9_readNumber_171 (by decide) (fun c171_90 => absurd c171_90 (by decide)) (fun c171_90 => ?_)
                refine lv_iload_n hx hb dX9_readNumber_174 rfl (lv_at hl 2 rfl) ?_
                refine lv_ineg hx hb dX9_readNumber_175 ?_
                refine lv_topi (fun v175_91 e175_91 => ?_)
                refine lv_goto (tgt := 180) hx hb dX9_readNumber_176 (by decide) ?_
                refine pf_X9_20 X hw hK.1 dX9_readNumber_180 (fun H locs hw => ?_)
                have hw : PX G A s.heap (ch S (up2 (up2 I47 66 tk 3) 69 tk v175_91) (pJ S) (qI S) (qJ S)) H locs := hw
                exact hret _ _ _ _ _ ⟨_, rfl, (Fr.up (f := 69) (by decide) (Fr.up (f := 66) (by decide) hF))⟩ hw dX9_readNumber_183
        · have D58_68 := iNle c58_68 rfl rfl
          refine lv_aload_n hx hb dX9_readNumber_61 rfl (lv_at hl 3 rfl) ?_
          refine gf_X9_7 (b := tp) X hw hK.1 hK.2.1 dX9_readNumber_62 ?_
          refine lv_aload_n hx hb dX9_readNumber_65 rfl (lv_at hl 3 rfl) ?_
          refine gf_X9_23 (v := I47 68 tk) X hw hK.1 rfl dX9_readNumber_66 ?_
          refine k_Vi (n := 1) X hw (rcvk (ci := 8) X hw hK.2.2.1 (fun _ _ _ _ _ _ _ => ⟨_, rfl⟩) rfl) (c_X8_byteAt l G _ tp tb (I47 68 tk) hK.2.2 (Fr.sz hF hz)) wd_r9_15 wd_r9_16 wd_r9_17 wd_r1_14 wd_r9_18 ⟨by decide, by decide, by decide +kernel⟩ rfl rfl ⟨Nat.le_of_ble_eq_true rfl, Nat.le_of_ble_eq_true rfl⟩ rfl rfl hl.1 (Nat.le_of_ble_eq_true rfl) dX9_readNumber_69 ⟨Nat.le_of_ble_eq_true rfl, Nat.le_of_ble_eq_true rfl⟩ (fun r69_92 S69_94 H locs h69_93 hw => ?_)
          obtain ⟨rfl, h69_93⟩ := h69_93
          refine k_Si (n := 1) X hw (c_X9_isDigit l G _ r69_92) wd_r10_5 wd_r10_6 wd_r3_2 wd_r10_7 ⟨by decide, by decide, by decide +kernel⟩ rfl rfl ⟨Nat.le_of_ble_eq_true rfl, Nat.le_of_ble_eq_true rfl⟩ rfl rfl hl.1 (Nat.le_of_ble_eq_true rfl) dX9_readNumber_72 ⟨Nat.le_of_ble_eq_true rfl, Nat.le_of_ble_eq_true rfl⟩ (fun r72_95 S72_97 H locs h72_96 hw => ?_)
          rcases h72_96 with ⟨rfl, rfl, h72_96⟩ | ⟨rfl, rfl, h72_96⟩
          · have h72_96 := h72_96
            refine lv_if_eq (tgt := 111) hx hb dX9_readNumber_75 (by decide) (fun c75_98 => absurd c75_98 (by decide)) (fun c75_98 => ?_)
            refine lv_iload_n hx hb dX9_readNumber_78 rfl (lv_at hl 0 rfl) ?_
            refine lv_bipush (v := 10) hx hb dX9_readNumber_79 (by decide) ?_
            refine lv_imul hx hb dX9_readNumber_81 ?_
            refine lv_topi (fun v81_99 e81_99 => ?_)
            refine lv_aload_n hx hb dX9_readNumber_82 rfl (lv_at hl 3 rfl) ?_
            refine gf_X9_7 (b := tp) X hw hK.1 hK.2.1 dX9_readNumber_83 ?_
            refine lv_aload_n hx hb dX9_readNumber_86 rfl (lv_at hl 3 rfl) ?_
            refine gf_X9_23 (v := I47 68 tk) X hw hK.1 rfl dX9_readNumber_87 ?_
            refine k_Vi (n := 1) X hw (rcvk (ci := 8) X hw hK.2.2.1 (fun _ _ _ _ _ _ _ => ⟨_, rfl⟩) rfl) (c_X8_byteAt l G _ tp tb (I47 68 tk) hK.2.2 (Fr.sz hF hz)) wd_r9_15 wd_r9_16 wd_r9_17 wd_r1_14 wd_r9_18 ⟨by decide, by decide, by decide +kernel⟩ rfl rfl ⟨Nat.le_of_ble_eq_true rfl, Nat.le_of_ble_eq_true rfl⟩ rfl rfl hl.1 (Nat.le_of_ble_eq_true rfl) dX9_readNumber_90 ⟨Nat.le_of_ble_eq_true rfl, Nat.le_of_ble_eq_true rfl⟩ (fun r90_100 S90_102 H locs h90_101 hw => ?_)
            obtain ⟨rfl, h90_101⟩ := h90_101
            refine lv_iadd hx hb dX9_readNumber_93 ?_
            refine lv_topi (fun v93_103 e93_103 => ?_)
            refine lv_bipush (v := 48) hx hb dX9_readNumber_94 (by decide) ?_
            refine lv_isub hx hb dX9_readNumber_96 ?_
            refine lv_topi (fun v96_104 e96_104 => ?_)
            refine lv_istore_n (lv' := [(3, .int v96_104), (2, .int v31_64), (1, .int 1), (0, .ref tk)]) hx hb dX9_readNumber_97 rfl hl (by decide) rfl (fun ls hl => ?_)
            refine lv_aload_n hx hb dX9_readNumber_98 rfl (lv_at hl 3 rfl) ?_
            refine lv_dup hx hb dX9_readNumber_99 rfl ?_
            refine gf_X9_23 (v := I47 68 tk) X hw hK.1 rfl dX9_readNumber_100 ?_
            refine lv_iconst (v := 1) hx hb dX9_readNumber_103 (by decide) ?_
            refine lv_iadd hx hb dX9_readNumber_104 ?_
            refine lv_topi (fun v104_105 e104_105 => ?_)
            have t104_105 := iAdd e104_105 rfl t_1 (by omega) (by omega)
            have t104 := t104_105
            refine pf_X9_23 X hw hK.1 dX9_readNumber_105 (fun H locs hw => ?_)
            have hw : PX G A s.heap (ch S (up2 I47 68 tk v104_105) (pJ S) (qI S) (qJ S)) H locs := hw
            refine lv_goto (tgt := 47) hx hb dX9_readNumber_108 (by decide) ?_
            exact ih47 (up2 I47 68 tk v104_105) v96_104 (Fr.up (f := 68) (by decide) hF) (by simp only [up2_s, up2_f (show (61:Nat) ≠ 68 by decide)]; omega) _ _ _ hw (lv_sub hl [0, 1, 2, 3] rfl)
          · have h72_96 := h72_96
            refine lv_if_eq (tgt := 111) hx hb dX9_readNumber_75 (by decide) (fun c75_106 => ?_) (fun c75_106 => absurd c75_106 (by decide))
            refine lv_aload_n hx hb dX9_readNumber_111 rfl (lv_at hl 3 rfl) ?_
            refine gf_X9_23 (v := I47 68 tk) X hw hK.1 rfl dX9_readNumber_112 ?_
            refine lv_iload_n hx hb dX9_readNumber_115 rfl (lv_at hl 1 rfl) ?_
            refine lv_isub hx hb dX9_readNumber_116 ?_
            refine lv_topi (fun v116_107 e116_107 => ?_)
            refine lv_istore (lv' := [(4, .int v116_107), (3, .int z), (2, .int v31_64), (1, .int 1), (0, .ref tk)]) hx hb dX9_readNumber_117 hl (by decide) rfl (fun ls hl => ?_)
            refine lv_iload hx hb dX9_readNumber_119 (lv_at hl 0 rfl) ?_
            refine lv_iconst (v := 1) hx hb dX9_readNumber_121 (by decide) ?_
            refine lv_icmp_lt (tgt := 152) hx hb dX9_readNumber_122 (by decide) (fun c122_108 => ?_) (fun c122_108 => ?_)
            · have D122_108 := iLt c122_108 rfl t_1
              refine lv_iconst (v := 0) hx hb dX9_readNumber_152 (by decide) ?_
              refine lv_istore (lv' := [(5, .int 0), (4, .int v116_107), (3, .int z), (2, .int v31_64), (1, .int 1), (0, .ref tk)]) hx hb dX9_readNumber_153 hl (by decide) rfl (fun ls hl => ?_)
              refine lv_aload_n hx hb dX9_readNumber_155 rfl (lv_at hl 5 rfl) ?_
              refine lv_iload hx hb dX9_readNumber_156 (lv_at hl 0 rfl) ?_
              refine lv_if_eq (tgt := 165) hx hb dX9_readNumber_158 (by decide) (fun c158_109 => ?_) (fun c158_109 => absurd c158_109 (by decide))
              refine lv_iconst (v := 0) hx hb dX9_readNumber_165 (by decide) ?_
              refine pf_X9_13 X hw hK.1 dX9_readNumber_166 (fun H locs hw => ?_)
              have hw : PX G A s.heap (ch S (up2 I47 66 tk 0) (pJ S) (qI S) (qJ S)) H locs := hw
              refine lv_aload_n hx hb dX9_readNumber_169 rfl (lv_at hl 5 rfl) ?_
              refine lv_iload_n hx hb dX9_readNumber_170 rfl (lv_at hl 4 rfl) ?_
              refine lv_if_eq (tgt := 179) hx hb dX9_readNumber_171 (by decide) (fun c171_110 => absurd c171_110 (by decide)) (fun c171_110 => ?_)
              refine lv_iload_n hx hb dX9_readNumber_174 rfl (lv_at hl 2 rfl) ?_
              refine lv_ineg hx hb dX9_readNumber_175 ?_
              refine lv_topi (fun v175_111 e175_111 => ?_)
              refine lv_goto (tgt := 180) hx hb dX9_readNumber_176 (by decide) ?_
              refine pf_X9_20 X hw hK.1 dX9_readNumber_180 (fun H locs hw => ?_)
              have hw : PX G A s.heap (ch S (up2 (up2 I47 66 tk 0) 69 tk v175_111) (pJ S) (qI S) (qJ S)) H locs := hw
              exact hret _ _ _ _ _ ⟨_, rfl, (Fr.up (f := 69) (by decide) (Fr.up (f := 66) (by decide) hF))⟩ hw dX9_readNumber_183
            · have D122_108 := iNlt c122_108 rfl t_1
              refine lv_iload hx hb dX9_readNumber_125 (lv_at hl 0 rfl) ?_
              refine lv_iconst (v := 3) hx hb dX9_readNumber_127 (by decide) ?_
              refine lv_icmp_gt (tgt := 152) hx hb dX9_readNumber_128 (by decide) (fun c128_112 => ?_) (fun c128_112 => ?_)
              · have D128_112 := iLt c128_112 t_3 rfl
                refine lv_iconst (v := 0) hx hb dX9_readNumber_152 (by decide) ?_
                refine lv_istore (lv' := [(5, .int 0), (4, .int v116_107), (3, .int z), (2, .int v31_64), (1, .int 1), (0, .ref tk)]) hx hb dX9_readNumber_153 hl (by decide) rfl (fun ls hl => ?_)
                refine lv_aload_n hx hb dX9_readNumber_155 rfl (lv_at hl 5 rfl) ?_
                refine lv_iload hx hb dX9_readNumber_156 (lv_at hl 0 rfl) ?_
                refine lv_if_eq (tgt := 165) hx hb dX9_readNumber_158 (by decide) (fun c158_113 => ?_) (fun c158_113 => absurd c158_113 (by decide))
                refine lv_iconst (v := 0) hx hb dX9_readNumber_165 (by decide) ?_
                refine pf_X9_13 X hw hK.1 dX9_readNumber_166 (fun H locs hw => ?_)
                have hw : PX G A s.heap (ch S (up2 I47 66 tk 0) (pJ S) (qI S) (qJ S)) H locs := hw
                refine lv_aload_n hx hb dX9_readNumber_169 rfl (lv_at hl 5 rfl) ?_
                refine lv_iload_n hx hb dX9_readNumber_170 rfl (lv_at hl 4 rfl) ?_
                refine lv_if_eq (tgt := 179) hx hb dX9_readNumber_171 (by decide) (fun c171_114 => absurd c171_114 (by decide)) (fun c171_114 => ?_)
                refine lv_iload_n hx hb dX9_readNumber_174 rfl (lv_at hl 2 rfl) ?_
                refine lv_ineg hx hb dX9_readNumber_175 ?_
                refine lv_topi (fun v175_115 e175_115 => ?_)
                refine lv_goto (tgt := 180) hx hb dX9_readNumber_176 (by decide) ?_
                refine pf_X9_20 X hw hK.1 dX9_readNumber_180 (fun H locs hw => ?_)
                have hw : PX G A s.heap (ch S (up2 (up2 I47 66 tk 0) 69 tk v175_115) (pJ S) (qI S) (qJ S)) H locs := hw
                exact hret _ _ _ _ _ ⟨_, rfl, (Fr.up (f := 69) (by decide) (Fr.up (f := 66) (by decide) hF))⟩ hw dX9_readNumber_183
              · have D128_112 := iNlt c128_112 t_3 rfl
                refine lv_aload_n hx hb dX9_readNumber_131 rfl (lv_at hl 4 rfl) ?_
                refine gf_X9_7 (b := tp) X hw hK.1 hK.2.1 dX9_readNumber_132 ?_
                refine lv_aload_n hx hb dX9_readNumber_135 rfl (lv_at hl 4 rfl) ?_
                refine gf_X9_23 (v := I47 68 tk) X hw hK.1 rfl dX9_readNumber_136 ?_
                refine k_Vi (n := 1) X hw (rcvk (ci := 8) X hw hK.2.2.1 (fun _ _ _ _ _ _ _ => ⟨_, rfl⟩) rfl) (c_X8_byteAt l G _ tp tb (I47 68 tk) hK.2.2 (Fr.sz hF hz)) wd_r9_15 wd_r9_16 wd_r9_17 wd_r1_14 wd_r9_18 ⟨by decide, by decide, by decide +kernel⟩ rfl rfl ⟨Nat.le_of_ble_eq_true rfl, Nat.le_of_ble_eq_true rfl⟩ rfl rfl hl.1 (Nat.le_of_ble_eq_true rfl) dX9_readNumber_139 ⟨Nat.le_of_ble_eq_true rfl, Nat.le_of_ble_eq_true rfl⟩ (fun r139_116 S139_118 H locs h139_117 hw => ?_)
                obtain ⟨rfl, h139_117⟩ := h139_117
                refine k_Si (n := 1) X hw (c_X9_isLetter l G _ r139_116) wd_r9_22 wd_r9_23 wd_r3_2 wd_r10_0 ⟨by decide, by decide, by decide +kernel⟩ rfl rfl ⟨Nat.le_of_ble_eq_true rfl, Nat.le_of_ble_eq_true rfl⟩ rfl rfl hl.1 (Nat.le_of_ble_eq_true rfl) dX9_readNumber_142 ⟨Nat.le_of_ble_eq_true rfl, Nat.le_of_ble_eq_true rfl⟩ (fun r142_119 S142_121 H locs h142_120 hw => ?_)
                rcases h142_120 with ⟨rfl, rfl, h142_120⟩ | ⟨rfl, rfl, h142_120⟩
                · have h142_120 := h142_120
                  refine lv_if_ne (tgt := 152) hx hb dX9_readNumber_145 (by decide) (fun c145_122 => ?_) (fun c145_122 => absurd c145_122 (by decide))
                  refine lv_iconst (v := 0) hx hb dX9_readNumber_152 (by decide) ?_
                  refine lv_istore (lv' := [(5, .int 0), (4, .int v116_107), (3, .int z), (2, .int v31_64), (1, .int 1), (0, .ref tk)]) hx hb dX9_readNumber_153 hl (by decide) rfl (fun ls hl => ?_)
                  refine lv_aload_n hx hb dX9_readNumber_155 rfl (lv_at hl 5 rfl) ?_
                  refine lv_iload hx hb dX9_readNumber_156 (lv_at hl 0 rfl) ?_
                  refine lv_if_eq (tgt := 165) hx hb dX9_readNumber_158 (by decide) (fun c158_123 => ?_) (fun c158_123 => absurd c158_123 (by decide))
                  refine lv_iconst (v := 0) hx hb dX9_readNumber_165 (by decide) ?_
                  refine pf_X9_13 X hw hK.1 dX9_readNumber_166 (fun H locs hw => ?_)
                  have hw : PX G A s.heap (ch S (up2 I47 66 tk 0) (pJ S) (qI S) (qJ S)) H locs := hw
                  refine lv_aload_n hx hb dX9_readNumber_169 rfl (lv_at hl 5 rfl) ?_
                  refine lv_iload_n hx hb dX9_readNumber_170 rfl (lv_at hl 4 rfl) ?_
                  refine lv_if_eq (tgt := 179) hx hb dX9_readNumber_171 (by decide) (fun c171_124 => absurd c171_124 (by decide)) (fun c171_124 => ?_)
                  refine lv_iload_n hx hb dX9_readNumber_174 rfl (lv_at hl 2 rfl) ?_
                  refine lv_ineg hx hb dX9_readNumber_175 ?_
                  refine lv_topi (fun v175_125 e175_125 => ?_)
                  refine lv_goto (tgt := 180) hx hb dX9_readNumber_176 (by decide) ?_
                  refine pf_X9_20 X hw hK.1 dX9_readNumber_180 (fun H locs hw => ?_)
                  have hw : PX G A s.heap (ch S (up2 (up2 I47 66 tk 0) 69 tk v175_125) (pJ S) (qI S) (qJ S)) H locs := hw
                  exact hret _ _ _ _ _ ⟨_, rfl, (Fr.up (f := 69) (by decide) (Fr.up (f := 66) (by decide) hF))⟩ hw dX9_readNumber_183
                · have h142_120 := h142_120
                  refine lv_if_ne (tgt := 152) hx hb dX9_readNumber_145 (by decide) (fun c145_126 => absurd c145_126 (by decide)) (fun c145_126 => ?_)
                  refine lv_iconst (v := 1) hx hb dX9_readNumber_148 (by decide) ?_
                  refine lv_goto (tgt := 153) hx hb dX9_readNumber_149 (by decide) ?_
                  refine lv_istore (lv' := [(5, .int 1), (4, .int v116_107), (3, .int z), (2, .int v31_64), (1, .int 1), (0, .ref tk)]) hx hb dX9_readNumber_153 hl (by decide) rfl (fun ls hl => ?_)
                  refine lv_aload_n hx hb dX9_readNumber_155 rfl (lv_at hl 5 rfl) ?_
                  refine lv_iload hx hb dX9_readNumber_156 (lv_at hl 0 rfl) ?_
                  refine lv_if_eq (tgt := 165) hx hb dX9_readNumber_158 (by decide) (fun c158_127 => absurd c158_127 (by decide)) (fun c158_127 => ?_)
                  refine lv_iconst (v := 3) hx hb dX9_readNumber_161 (by decide) ?_
                  refine lv_goto (tgt := 166) hx hb dX9_readNumber_162 (by decide) ?_
                  refine pf_X9_13 X hw hK.1 dX9_readNumber_166 (fun H locs hw => ?_)
                  have hw : PX G A s.heap (ch S (up2 I47 66 tk 3) (pJ S) (qI S) (qJ S)) H locs := hw
                  refine lv_aload_n hx hb dX9_readNumber_169 rfl (lv_at hl 5 rfl) ?_
                  refine lv_iload_n hx hb dX9_readNumber_170 rfl (lv_at hl 4 rfl) ?_
                  refine lv_if_eq (tgt := 179) hx hb dX9_readNumber_171 (by decide) (fun c171_128 => absurd c171_128 (by decide)) (fun c171_128 => ?_)
                  refine lv_iload_n hx hb dX9_readNumber_174 rfl (lv_at hl 2 rfl) ?_
                  refine lv_ineg hx hb dX9_readNumber_175 ?_
                  refine lv_topi (fun v175_129 e175_129 => ?_)
                  refine lv_goto (tgt := 180) hx hb dX9_readNumber_176 (by decide) ?_
                  refine pf_X9_20 X hw hK.1 dX9_readNumber_180 (fun H locs hw => ?_)
                  have hw : PX G A s.heap (ch S (up2 (up2 I47 66 tk 3) 69 tk v175_129) (pJ S) (qI S) (qJ S)) H locs := hw
                  exact hret _ _ _ _ _ ⟨_, rfl, (Fr.up (f := 69) (by decide) (Fr.up (f := 66) (by decide) hF))⟩ hw dX9_readNumber_183
    exact lp47 _ (up2 (pI S) 68 tk v31_64) 0 (Fr.up (f := 68) (by decide) Fr.rf) (Nat.lt_succ_self _) _ _ _ hw (lv_sub hl [0, 1, 2, 3] rfl)
set_option maxHeartbeats 4000000 in
set_option maxRecDepth 100000 in
theorem c_X9_readNext (l : Launch) (G : Gh) (S : Pl) (tk tp tb : Nat) (hK : shTok S tk tp tb) (hz : (pI S 61 tp).toInt ≤ 1000) : MtV l yX9_readNext cX9_readNext 2 none (Rm 2 0 0) G [.ref tk] S (fun (S' : Pl) => ∃ I', ch S I' (pJ S) (qI S) (qJ S) = S' ∧ Fr (pI S) I') 0 0 := by
  refine MtV.of (by decide) (Nat.le_of_ble_eq_true rfl) ?_
  intro p e s m args below meth c Q A X hw hin hret ls hl
  have hx := X.1.1
  have hb := X.1.2.1
  have hl : lv_has ls 2 [(0, .ref tk)] := hl
  refine lv_aload_n hx hb dX9_readNext_0 rfl (lv_at hl 0 rfl) ?_
  refine k_Vv (n := 0) X hw (rcvk (ci := 9) X hw hK.1 (fun _ _ _ _ _ _ _ => ⟨_, rfl⟩) rfl) (c_X9_skipBlanks l G _ tk tp tb hK (Fr.sz Fr.rf hz)) wd_r9_10 wd_r9_11 wd_r9_12 wd_r3_2 wd_r9_13 ⟨by decide, by decide, by decide +kernel⟩ rfl rfl ⟨Nat.le_of_ble_eq_true rfl, Nat.le_of_ble_eq_true rfl⟩ rfl rfl hl.1 (Nat.le_of_ble_eq_true rfl) dX9_readNext_1 ⟨Nat.le_of_ble_eq_true rfl, Nat.le_of_ble_eq_true rfl⟩ (fun S1_2 H locs h1_1 hw => ?_)
  obtain ⟨I1_3, rfl, h1_1⟩ := h1_1
  have hw : PX G A s.heap (ch S I1_3 (pJ S) (qI S) (qJ S)) H locs := hw
  refine lv_aload_n hx hb dX9_readNext_4 rfl (lv_at hl 0 rfl) ?_
  refine lv_aload_n hx hb dX9_readNext_5 rfl (lv_at hl 0 rfl) ?_
  refine gf_X9_23 (v := I1_3 68 tk) X hw hK.1 rfl dX9_readNext_6 ?_
  refine pf_X9_17 X hw hK.1 dX9_readNext_9 (fun H locs hw => ?_)
  have hw : PX G A s.heap (ch S (up2 I1_3 67 tk (I1_3 68 tk)) (pJ S) (qI S) (qJ S)) H locs := hw
  refine lv_aload_n hx hb dX9_readNext_12 rfl (lv_at hl 0 rfl) ?_
  refine gf_X9_7 (b := tp) X hw hK.1 hK.2.1 dX9_readNext_13 ?_
  refine lv_aload_n hx hb dX9_readNext_16 rfl (lv_at hl 0 rfl) ?_
  refine gf_X9_17 (v := I1_3 68 tk) X hw hK.1 (show up2 I1_3 67 tk (I1_3 68 tk) 67 tk = (I1_3 68 tk) from up2_s) dX9_readNext_17 ?_
  refine k_Vi (n := 1) X hw (rcvk (ci := 8) X hw hK.2.2.1 (fun _ _ _ _ _ _ _ => ⟨_, rfl⟩) rfl) (c_X8_byteAt l G _ tp tb (I1_3 68 tk) hK.2.2 (Fr.sz (Fr.up (f := 67) (by decide) (Fr.tr Fr.rf h1_1)) hz)) wd_r9_15 wd_r9_16 wd_r9_17 wd_r1_14 wd_r9_18 ⟨by decide, by decide, by decide +kernel⟩ rfl rfl ⟨Nat.le_of_ble_eq_true rfl, Nat.le_of_ble_eq_true rfl⟩ rfl rfl hl.1 (Nat.le_of_ble_eq_true rfl) dX9_readNext_20 ⟨Nat.le_of_ble_eq_true rfl, Nat.le_of_ble_eq_true rfl⟩ (fun r20_4 S20_6 H locs h20_5 hw => ?_)
  obtain ⟨rfl, h20_5⟩ := h20_5
  refine lv_istore_n (lv' := [(1, .int r20_4), (0, .ref tk)]) hx hb dX9_readNext_23 rfl hl (by decide) rfl (fun ls hl => ?_)
  refine lv_iload_n hx hb dX9_readNext_24 rfl (lv_at hl 0 rfl) ?_
  refine lv_iconst (v := -1) hx hb dX9_readNext_25 (by decide) ?_
  refine lv_icmp_ne (tgt := 37) hx hb dX9_readNext_26 (by decide) (fun c26_7 => ?_) (fun c26_7 => ?_)
  · have D26_7 := iNe c26_7 rfl t_m1
    refine lv_iload_n hx hb dX9_readNext_37 rfl (lv_at hl 0 rfl) ?_
    refine k_Si (n := 1) X hw (c_X9_isLetter l G _ r20_4) wd_r9_22 wd_r9_23 wd_r3_2 wd_r10_0 ⟨by decide, by decide, by decide +kernel⟩ rfl rfl ⟨Nat.le_of_ble_eq_true rfl, Nat.le_of_ble_eq_true rfl⟩ rfl rfl hl.1 (Nat.le_of_ble_eq_true rfl) dX9_readNext_38 ⟨Nat.le_of_ble_eq_true rfl, Nat.le_of_ble_eq_true rfl⟩ (fun r38_8 S38_10 H locs h38_9 hw => ?_)
    rcases h38_9 with ⟨rfl, rfl, h38_9⟩ | ⟨rfl, rfl, h38_9⟩
    · have h38_9 := h38_9
      refine lv_if_eq (tgt := 51) hx hb dX9_readNext_41 (by decide) (fun c41_11 => absurd c41_11 (by decide)) (fun c41_11 => ?_)
      refine lv_aload_n hx hb dX9_readNext_44 rfl (lv_at hl 1 rfl) ?_
      refine k_Vv (n := 0) X hw (rcvk (ci := 9) X hw hK.1 (fun _ _ _ _ _ _ _ => ⟨_, rfl⟩) rfl) (c_X9_readWord l G _ tk tp tb hK (Fr.sz (Fr.up (f := 67) (by decide) (Fr.tr Fr.rf h1_1)) hz)) wd_r10_1 wd_r10_2 wd_r10_3 wd_r3_2 wd_r10_4 ⟨by decide, by decide, by decide +kernel⟩ rfl rfl ⟨Nat.le_of_ble_eq_true rfl, Nat.le_of_ble_eq_true rfl⟩ rfl rfl hl.1 (Nat.le_of_ble_eq_true rfl) dX9_readNext_45 ⟨Nat.le_of_ble_eq_true rfl, Nat.le_of_ble_eq_true rfl⟩ (fun S45_13 H locs h45_12 hw => ?_)
      obtain ⟨I45_14, rfl, h45_12⟩ := h45_12
      have hw : PX G A s.heap (ch S I45_14 (pJ S) (qI S) (qJ S)) H locs := hw
      refine lv_goto (tgt := 96) hx hb dX9_readNext_48 (by decide) ?_
      exact hret _ _ _ _ _ ⟨_, rfl, (Fr.tr (Fr.up (f := 67) (by decide) (Fr.tr Fr.rf h1_1)) h45_12)⟩ hw dX9_readNext_96
    · have h38_9 := h38_9
      refine lv_if_eq (tgt := 51) hx hb dX9_readNext_41 (by decide) (fun c41_15 => ?_) (fun c41_15 => absurd c41_15 (by decide))
      refine lv_iload_n hx hb dX9_readNext_51 rfl (lv_at hl 0 rfl) ?_
      refine k_Si (n := 1) X hw (c_X9_isDigit l G _ r20_4) wd_r10_5 wd_r10_6 wd_r3_2 wd_r10_7 ⟨by decide, by decide, by decide +kernel⟩ rfl rfl ⟨Nat.le_of_ble_eq_true rfl, Nat.le_of_ble_eq_true rfl⟩ rfl rfl hl.1 (Nat.le_of_ble_eq_true rfl) dX9_readNext_52 ⟨Nat.le_of_ble_eq_true rfl, Nat.le_of_ble_eq_true rfl⟩ (fun r52_16 S52_18 H locs h52_17 hw => ?_)
      rcases h52_17 with ⟨rfl, rfl, h52_17⟩ | ⟨rfl, rfl, h52_17⟩
      · have h52_17 := h52_17
        refine lv_if_ne (tgt := 64) hx hb dX9_readNext_55 (by decide) (fun c55_19 => ?_) (fun c55_19 => absurd c55_19 (by decide))
        refine lv_aload_n hx hb dX9_readNext_64 rfl (lv_at hl 1 rfl) ?_
        refine k_Vv (n := 0) X hw (rcvk (ci := 9) X hw hK.1 (fun _ _ _ _ _ _ _ => ⟨_, rfl⟩) rfl) (c_X9_readNumber l G _ tk tp tb hK (Fr.sz (Fr.up (f := 67) (by decide) (Fr.tr Fr.rf h1_1)) hz)) wd_r10_8 wd_r10_9 wd_r10_10 wd_r3_2 wd_r10_11 ⟨by decide, by decide, by decide +kernel⟩ rfl rfl ⟨Nat.le_of_ble_eq_true rfl, Nat.le_of_ble_eq_true rfl⟩ rfl rfl hl.1 (Nat.le_of_ble_eq_true rfl) dX9_readNext_65 ⟨Nat.le_of_ble_eq_true rfl, Nat.le_of_ble_eq_true rfl⟩ (fun S65_21 H locs h65_20 hw => ?_)
        obtain ⟨I65_22, rfl, h65_20⟩ := h65_20
        have hw : PX G A s.heap (ch S I65_22 (pJ S) (qI S) (qJ S)) H locs := hw
        refine lv_goto (tgt := 96) hx hb dX9_readNext_68 (by decide) ?_
        exact hret _ _ _ _ _ ⟨_, rfl, (Fr.tr (Fr.up (f := 67) (by decide) (Fr.tr Fr.rf h1_1)) h65_20)⟩ hw dX9_readNext_96
      · have h52_17 := h52_17
        refine lv_if_ne (tgt := 64) hx hb dX9_readNext_55 (by decide) (fun c55_23 => absurd c55_23 (by decide)) (fun c55_23 => ?_)
        refine lv_iload_n hx hb dX9_readNext_58 rfl (lv_at hl 0 rfl) ?_
        refine lv_bipush (v := 45) hx hb dX9_readNext_59 (by decide) ?_
        refine lv_icmp_ne (tgt := 71) hx hb dX9_readNext_61 (by decide) (fun c61_24 => ?_) (fun c61_24 => ?_)
        · have D61_24 := iNe c61_24 rfl t_45
          refine lv_aload_n hx hb dX9_readNext_71 rfl (lv_at hl 1 rfl) ?_
          refine lv_iload_n hx hb dX9_readNext_72 rfl (lv_at hl 0 rfl) ?_
          refine lv_bipush (v := 59) hx hb dX9_readNext_73 (by decide) ?_
          refine lv_icmp_ne (tgt := 82) hx hb dX9_readNext_75 (by decide) (fun c75_25 => ?_) (fun c75_25 => ?_)
          · have D75_25 := iNe c75_25 rfl t_59
            refine lv_iconst (v := 0) hx hb dX9_readNext_82 (by decide) ?_
            refine pf_X9_13 X hw hK.1 dX9_readNext_83 (fun H locs hw => ?_)
            have hw : PX G A s.heap (ch S (up2 (up2 I1_3 67 tk (I1_3 68 tk)) 66 tk 0) (pJ S) (qI S) (qJ S)) H locs := hw
            refine lv_aload_n hx hb dX9_readNext_86 rfl (lv_at hl 1 rfl) ?_
            refine lv_dup hx hb dX9_readNext_87 rfl ?_
            refine gf_X9_23 (v := I1_3 68 tk) X hw hK.1 rfl dX9_readNext_88 ?_
            refine lv_iconst (v := 1) hx hb dX9_readNext_91 (by decide) ?_
            refine lv_iadd hx hb dX9_readNext_92 ?_
            refine lv_topi (fun v92_26 e92_26 => ?_)
            refine pf_X9_23 X hw hK.1 dX9_readNext_93 (fun H locs hw => ?_)
            have hw : PX G A s.heap (ch S (up2 (up2 (up2 I1_3 67 tk (I1_3 68 tk)) 66 tk 0) 68 tk v92_26) (pJ S) (qI S) (qJ S)) H locs := hw
            exact hret _ _ _ _ _ ⟨_, rfl, (Fr.up (f := 68) (by decide) (Fr.up (f := 66) (by decide) (Fr.up (f := 67) (by decide) (Fr.tr Fr.rf h1_1))))⟩ hw dX9_readNext_96
          · have D75_25 := iEq c75_25 rfl t_59
            refine lv_iconst (v := 4) hx hb dX9_readNext_78 (by decide) ?_
            refine lv_goto (tgt := 83) hx hb dX9_readNext_79 (by decide) ?_
            refine pf_X9_13 X hw hK.1 dX9_readNext_83 (fun H locs hw => ?_)
            have hw : PX G A s.heap (ch S (up2 (up2 I1_3 67 tk (I1_3 68 tk)) 66 tk 4) (pJ S) (qI S) (qJ S)) H locs := hw
            refine lv_aload_n hx hb dX9_readNext_86 rfl (lv_at hl 1 rfl) ?_
            refine lv_dup hx hb dX9_readNext_87 rfl ?_
            refine gf_X9_23 (v := I1_3 68 tk) X hw hK.1 rfl dX9_readNext_88 ?_
            refine lv_iconst (v := 1) hx hb dX9_readNext_91 (by decide) ?_
            refine lv_iadd hx hb dX9_readNext_92 ?_
            refine lv_topi (fun v92_27 e92_27 => ?_)
            refine pf_X9_23 X hw hK.1 dX9_readNext_93 (fun H locs hw => ?_)
            have hw : PX G A s.heap (ch S (up2 (up2 (up2 I1_3 67 tk (I1_3 68 tk)) 66 tk 4) 68 tk v92_27) (pJ S) (qI S) (qJ S)) H locs := hw
            exact hret _ _ _ _ _ ⟨_, rfl, (Fr.up (f := 68) (by decide) (Fr.up (f := 66) (by decide) (Fr.up (f := 67) (by decide) (Fr.tr Fr.rf h1_1))))⟩ hw dX9_readNext_96
        · have D61_24 := iEq c61_24 rfl t_45
          refine lv_aload_n hx hb dX9_readNext_64 rfl (lv_at hl 1 rfl) ?_
          refine k_Vv (n := 0) X hw (rcvk (ci := 9) X hw hK.1 (fun _ _ _ _ _ _ _ => ⟨_, rfl⟩) rfl) (c_X9_readNumber l G _ tk tp tb hK (Fr.sz (Fr.up (f := 67) (by decide) (Fr.tr Fr.rf h1_1)) hz)) wd_r10_8 wd_r10_9 wd_r10_10 wd_r3_2 wd_r10_11 ⟨by decide, by decide, by decide +kernel⟩ rfl rfl ⟨Nat.le_of_ble_eq_true rfl, Nat.le_of_ble_eq_true rfl⟩ rfl rfl hl.1 (Nat.le_of_ble_eq_true rfl) dX9_readNext_65 ⟨Nat.le_of_ble_eq_true rfl, Nat.le_of_ble_eq_true rfl⟩ (fun S65_29 H locs h65_28 hw => ?_)
          obtain ⟨I65_30, rfl, h65_28⟩ := h65_28
          have hw : PX G A s.heap (ch S I65_30 (pJ S) (qI S) (qJ S)) H locs := hw
          refine lv_goto (tgt := 96) hx hb dX9_readNext_68 (by decide) ?_
          exact hret _ _ _ _ _ ⟨_, rfl, (Fr.tr (Fr.up (f := 67) (by decide) (Fr.tr Fr.rf h1_1)) h65_28)⟩ hw dX9_readNext_96
  · have D26_7 := iEq c26_7 rfl t_m1
    refine lv_aload_n hx hb dX9_readNext_29 rfl (lv_at hl 1 rfl) ?_
    refine lv_iconst (v := 1) hx hb dX9_readNext_30 (by decide) ?_
    refine pf_X9_13 X hw hK.1 dX9_readNext_31 (fun H locs hw => ?_)
    have hw : PX G A s.heap (ch S (up2 (up2 I1_3 67 tk (I1_3 68 tk)) 66 tk 1) (pJ S) (qI S) (qJ S)) H locs := hw
    refine lv_goto (tgt := 96) hx hb dX9_readNext_34 (by decide) ?_
    exact hret _ _ _ _ _ ⟨_, rfl, (Fr.up (f := 66) (by decide) (Fr.up (f := 67) (by decide) (Fr.tr Fr.rf h1_1)))⟩ hw dX9_readNext_96
