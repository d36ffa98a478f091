set_option maxHeartbeats 4000000 in
set_option maxRecDepth 100000 in
theorem c_X11_isLetter (l : Launch) (G : Gh) (S : Pl) (x : Int32)  : MtI l yX11_isLetter cX11_isLetter 1 (some .boolean) (Rm 0 0 0) G [.int x] S (fun (r : Int32) (S' : Pl) => (S = S' ∧ r = 1 ∧ (97 ≤ x.toInt ∧ x.toInt ≤ 122)) ∨ (S = S' ∧ r = 0 ∧ ¬ (97 ≤ x.toInt ∧ x.toInt ≤ 122))) 0 0 := by
  refine MtI.of (by decide) (Nat.le_of_ble_eq_true rfl) ?_
  intro p e s m args below meth c Q A X hw hin hret ls hl
  have hx := X.1.1
  have hb := X.1.2.1
  have hl : lv_has ls 1 [(0, .int x)] := hl
  refine lv_iload_n hx hb dX11_isLetter_0 rfl (lv_at hl 0 rfl) ?_
  refine lv_bipush (v := 97) hx hb dX11_isLetter_1 (by decide) ?_
  refine lv_icmp_lt (tgt := 16) hx hb dX11_isLetter_3 (by decide) (fun c3_1 => ?_) (fun c3_1 => ?_)
  · have D3_1 := iLt c3_1 rfl t_97
    refine lv_iconst (v := 0) hx hb dX11_isLetter_16 (by decide) ?_
    exact hret 0 _ _ _ _ _ (Or.inr ⟨rfl, rfl, by omega⟩) hw rfl dX11_isLetter_17
  · have D3_1 := iNlt c3_1 rfl t_97
    refine lv_iload_n hx hb dX11_isLetter_6 rfl (lv_at hl 0 rfl) ?_
    refine lv_bipush (v := 122) hx hb dX11_isLetter_7 (by decide) ?_
    refine lv_icmp_gt (tgt := 16) hx hb dX11_isLetter_9 (by decide) (fun c9_2 => ?_) (fun c9_2 => ?_)
    · have D9_2 := iLt c9_2 t_122 rfl
      refine lv_iconst (v := 0) hx hb dX11_isLetter_16 (by decide) ?_
      exact hret 0 _ _ _ _ _ (Or.inr ⟨rfl, rfl, by omega⟩) hw rfl dX11_isLetter_17
    · have D9_2 := iNlt c9_2 t_122 rfl
      refine lv_iconst (v := 1) hx hb dX11_isLetter_12 (by decide) ?_
      refine lv_goto (tgt := 17) hx hb dX11_isLetter_13 (by decide) ?_
      exact hret 1 _ _ _ _ _ (Or.inl ⟨rfl, rfl, by omega⟩) hw rfl dX11_isLetter_17
set_option maxHeartbeats 4000000 in
set_option maxRecDepth 100000 in
theorem c_X11_isDigit (l : Launch) (G : Gh) (S : Pl) (x : Int32)  : MtI l yX11_isDigit cX11_isDigit 1 (some .boolean) (Rm 0 0 0) G [.int x] S (fun (r : Int32) (S' : Pl) => (S = S' ∧ r = 1 ∧ (48 ≤ x.toInt ∧ x.toInt ≤ 57)) ∨ (S = S' ∧ r = 0 ∧ ¬ (48 ≤ x.toInt ∧ x.toInt ≤ 57))) 0 0 := by
  refine MtI.of (by decide) (Nat.le_of_ble_eq_true rfl) ?_
  intro p e s m args below meth c Q A X hw hin hret ls hl
  have hx := X.1.1
  have hb := X.1.2.1
  have hl : lv_has ls 1 [(0, .int x)] := hl
  refine lv_iload_n hx hb dX11_isDigit_0 rfl (lv_at hl 0 rfl) ?_
  refine lv_bipush (v := 48) hx hb dX11_isDigit_1 (by decide) ?_
  refine lv_icmp_lt (tgt := 16) hx hb dX11_isDigit_3 (by decide) (fun c3_1 => ?_) (fun c3_1 => ?_)
  · have D3_1 := iLt c3_1 rfl t_48
    refine lv_iconst (v := 0) hx hb dX11_isDigit_16 (by decide) ?_
    exact hret 0 _ _ _ _ _ (Or.inr ⟨rfl, rfl, by omega⟩) hw rfl dX11_isDigit_17
  · have D3_1 := iNlt c3_1 rfl t_48
    refine lv_iload_n hx hb dX11_isDigit_6 rfl (lv_at hl 0 rfl) ?_
    refine lv_bipush (v := 57) hx hb dX11_isDigit_7 (by decide) ?_
    refine lv_icmp_gt (tgt := 16) hx hb dX11_isDigit_9 (by decide) (fun c9_2 => ?_) (fun c9_2 => ?_)
    · have D9_2 := iLt c9_2 t_57 rfl
      refine lv_iconst (v := 0) hx hb dX11_isDigit_16 (by decide) ?_
      exact hret 0 _ _ _ _ _ (Or.inr ⟨rfl, rfl, by omega⟩) hw rfl dX11_isDigit_17
    · have D9_2 := iNlt c9_2 t_57 rfl
      refine lv_iconst (v := 1) hx hb dX11_isDigit_12 (by decide) ?_
      refine lv_goto (tgt := 17) hx hb dX11_isDigit_13 (by decide) ?_
      exact hret 1 _ _ _ _ _ (Or.inl ⟨rfl, rfl, by omega⟩) hw rfl dX11_isDigit_17
set_option maxHeartbeats 4000000 in
set_option maxRecDepth 100000 in
theorem c_X11_isHour (l : Launch) (G : Gh) (S : Pl) (x : Int32)  : MtI l yX11_isHour cX11_isHour 1 (some .boolean) (Rm 0 0 0) G [.int x] S (fun (r : Int32) (S' : Pl) => (S = S' ∧ r = 1 ∧ (0 ≤ x.toInt ∧ x.toInt < 72)) ∨ (S = S' ∧ r = 0 ∧ ¬ (0 ≤ x.toInt ∧ x.toInt < 72))) 0 0 := by
  refine MtI.of (by decide) (Nat.le_of_ble_eq_true rfl) ?_
  intro p e s m args below meth c Q A X hw hin hret ls hl
  have hx := X.1.1
  have hb := X.1.2.1
  have hl : lv_has ls 1 [(0, .int x)] := hl
  refine lv_iload_n hx hb dX11_isHour_0 rfl (lv_at hl 0 rfl) ?_
  refine lv_if_lt (tgt := 14) hx hb dX11_isHour_1 (by decide) (fun c1_1 => ?_) (fun c1_1 => ?_)
  · have D1_1 := iLt c1_1 rfl t_0
    refine lv_iconst (v := 0) hx hb dX11_isHour_14 (by decide) ?_
    exact hret 0 _ _ _ _ _ (Or.inr ⟨rfl, rfl, by omega⟩) hw rfl dX11_isHour_15
  · have D1_1 := iNlt c1_1 rfl t_0
    refine lv_iload_n hx hb dX11_isHour_4 rfl (lv_at hl 0 rfl) ?_
    refine lv_bipush (v := 72) hx hb dX11_isHour_5 (by decide) ?_
    refine lv_icmp_ge (tgt := 14) hx hb dX11_isHour_7 (by decide) (fun c7_2 => ?_) (fun c7_2 => ?_)
    · have D7_2 := iLe c7_2 t_72 rfl
      refine lv_iconst (v := 0) hx hb dX11_isHour_14 (by decide) ?_
      exact hret 0 _ _ _ _ _ (Or.inr ⟨rfl, rfl, by omega⟩) hw rfl dX11_isHour_15
    · have D7_2 := iNle c7_2 t_72 rfl
      refine lv_iconst (v := 1) hx hb dX11_isHour_10 (by decide) ?_
      refine lv_goto (tgt := 15) hx hb dX11_isHour_11 (by decide) ?_
      exact hret 1 _ _ _ _ _ (Or.inl ⟨rfl, rfl, by omega⟩) hw rfl dX11_isHour_15
set_option maxHeartbeats 4000000 in
set_option maxRecDepth 100000 in
theorem c_X11_isSort (l : Launch) (G : Gh) (S : Pl) (x : Int32)  : MtI l yX11_isSort cX11_isSort 1 (some .boolean) (Rm 0 0 0) G [.int x] S (fun (r : Int32) (S' : Pl) => (S = S' ∧ r = 1 ∧ (0 ≤ x.toInt ∧ x.toInt < 2)) ∨ (S = S' ∧ r = 0 ∧ ¬ (0 ≤ x.toInt ∧ x.toInt < 2))) 0 0 := by
  refine MtI.of (by decide) (Nat.le_of_ble_eq_true rfl) ?_
  intro p e s m args below meth c Q A X hw hin hret ls hl
  have hx := X.1.1
  have hb := X.1.2.1
  have hl : lv_has ls 1 [(0, .int x)] := hl
  refine lv_iload_n hx hb dX11_isSort_0 rfl (lv_at hl 0 rfl) ?_
  refine lv_if_lt (tgt := 13) hx hb dX11_isSort_1 (by decide) (fun c1_1 => ?_) (fun c1_1 => ?_)
  · have D1_1 := iLt c1_1 rfl t_0
    refine lv_iconst (v := 0) hx hb dX11_isSort_13 (by decide) ?_
    exact hret 0 _ _ _ _ _ (Or.inr ⟨rfl, rfl, by omega⟩) hw rfl dX11_isSort_14
  · have D1_1 := iNlt c1_1 rfl t_0
    refine lv_iload_n hx hb dX11_isSort_4 rfl (lv_at hl 0 rfl) ?_
    refine lv_iconst (v := 2) hx hb dX11_isSort_5 (by decide) ?_
    refine lv_icmp_ge (tgt := 13) hx hb dX11_isSort_6 (by decide) (fun c6_2 => ?_) (fun c6_2 => ?_)
    · have D6_2 := iLe c6_2 t_2 rfl
      refine lv_iconst (v := 0) hx hb dX11_isSort_13 (by decide) ?_
      exact hret 0 _ _ _ _ _ (Or.inr ⟨rfl, rfl, by omega⟩) hw rfl dX11_isSort_14
    · have D6_2 := iNle c6_2 t_2 rfl
      refine lv_iconst (v := 1) hx hb dX11_isSort_9 (by decide) ?_
      refine lv_goto (tgt := 14) hx hb dX11_isSort_10 (by decide) ?_
      exact hret 1 _ _ _ _ _ (Or.inl ⟨rfl, rfl, by omega⟩) hw rfl dX11_isSort_14
set_option maxHeartbeats 4000000 in
set_option maxRecDepth 100000 in
theorem c_X11_isPoint (l : Launch) (G : Gh) (S : Pl) (x : Int32)  : MtI l yX11_isPoint cX11_isPoint 1 (some .boolean) (Rm 0 0 0) G [.int x] S (fun (r : Int32) (S' : Pl) => (S = S' ∧ r = 1 ∧ (0 ≤ x.toInt ∧ x.toInt < 80)) ∨ (S = S' ∧ r = 0 ∧ ¬ (0 ≤ x.toInt ∧ x.toInt < 80))) 0 0 := by
  refine MtI.of (by decide) (Nat.le_of_ble_eq_true rfl) ?_
  intro p e s m args below meth c Q A X hw hin hret ls hl
  have hx := X.1.1
  have hb := X.1.2.1
  have hl : lv_has ls 1 [(0, .int x)] := hl
  refine lv_iload_n hx hb dX11_isPoint_0 rfl (lv_at hl 0 rfl) ?_
  refine lv_if_lt (tgt := 14) hx hb dX11_isPoint_1 (by decide) (fun c1_1 => ?_) (fun c1_1 => ?_)
  · have D1_1 := iLt c1_1 rfl t_0
    refine lv_iconst (v := 0) hx hb dX11_isPoint_14 (by decide) ?_
    exact hret 0 _ _ _ _ _ (Or.inr ⟨rfl, rfl, by omega⟩) hw rfl dX11_isPoint_15
  · have D1_1 := iNlt c1_1 rfl t_0
    refine lv_iload_n hx hb dX11_isPoint_4 rfl (lv_at hl 0 rfl) ?_
    refine lv_bipush (v := 80) hx hb dX11_isPoint_5 (by decide) ?_
    refine lv_icmp_ge (tgt := 14) hx hb dX11_isPoint_7 (by decide) (fun c7_2 => ?_) (fun c7_2 => ?_)
    · have D7_2 := iLe c7_2 t_80 rfl
      refine lv_iconst (v := 0) hx hb dX11_isPoint_14 (by decide) ?_
      exact hret 0 _ _ _ _ _ (Or.inr ⟨rfl, rfl, by omega⟩) hw rfl dX11_isPoint_15
    · have D7_2 := iNle c7_2 t_80 rfl
      refine lv_iconst (v := 1) hx hb dX11_isPoint_10 (by decide) ?_
      refine lv_goto (tgt := 15) hx hb dX11_isPoint_11 (by decide) ?_
      exact hret 1 _ _ _ _ _ (Or.inl ⟨rfl, rfl, by omega⟩) hw rfl dX11_isPoint_15
set_option maxHeartbeats 4000000 in
set_option maxRecDepth 100000 in
theorem c_X11_isMoment (l : Launch) (G : Gh) (S : Pl) (x : Int32)  : MtI l yX11_isMoment cX11_isMoment 1 (some .boolean) (Rm 0 0 0) G [.int x] S (fun (r : Int32) (S' : Pl) => (S = S' ∧ r = 1 ∧ (0 ≤ x.toInt ∧ x.toInt ≤ 72)) ∨ (S = S' ∧ r = 0 ∧ ¬ (0 ≤ x.toInt ∧ x.toInt ≤ 72))) 0 0 := by
  refine MtI.of (by decide) (Nat.le_of_ble_eq_true rfl) ?_
  intro p e s m args below meth c Q A X hw hin hret ls hl
  have hx := X.1.1
  have hb := X.1.2.1
  have hl : lv_has ls 1 [(0, .int x)] := hl
  refine lv_iload_n hx hb dX11_isMoment_0 rfl (lv_at hl 0 rfl) ?_
  refine lv_if_lt (tgt := 14) hx hb dX11_isMoment_1 (by decide) (fun c1_1 => ?_) (fun c1_1 => ?_)
  · have D1_1 := iLt c1_1 rfl t_0
    refine lv_iconst (v := 0) hx hb dX11_isMoment_14 (by decide) ?_
    exact hret 0 _ _ _ _ _ (Or.inr ⟨rfl, rfl, by omega⟩) hw rfl dX11_isMoment_15
  · have D1_1 := iNlt c1_1 rfl t_0
    refine lv_iload_n hx hb dX11_isMoment_4 rfl (lv_at hl 0 rfl) ?_
    refine lv_bipush (v := 72) hx hb dX11_isMoment_5 (by decide) ?_
    refine lv_icmp_gt (tgt := 14) hx hb dX11_isMoment_7 (by decide) (fun c7_2 => ?_) (fun c7_2 => ?_)
    · have D7_2 := iLt c7_2 t_72 rfl
      refine lv_iconst (v := 0) hx hb dX11_isMoment_14 (by decide) ?_
      exact hret 0 _ _ _ _ _ (Or.inr ⟨rfl, rfl, by omega⟩) hw rfl dX11_isMoment_15
    · have D7_2 := iNlt c7_2 t_72 rfl
      refine lv_iconst (v := 1) hx hb dX11_isMoment_10 (by decide) ?_
      refine lv_goto (tgt := 15) hx hb dX11_isMoment_11 (by decide) ?_
      exact hret 1 _ _ _ _ _ (Or.inl ⟨rfl, rfl, by omega⟩) hw rfl dX11_isMoment_15
set_option maxHeartbeats 4000000 in
set_option maxRecDepth 100000 in
theorem c_X11_sign (l : Launch) (G : Gh) (S : Pl) (ma : Nat → Nat) (k : Int32) (hM : shMod S ma) (h0 : 0 ≤ k.toInt) (h1 : (pI S 103 (ma 0)).toInt ≤ 1000) : MtI l yX11_sign cX11_sign 2 (some .int) (Rm 0 0 0) G [.ref (ma 0), .int k] S (fun (r : Int32) (S' : Pl) => S = S' ∧ ((pI S 103 (ma 0)).toInt ≤ k.toInt → r.toInt = 0)) 0 0 := by
  refine MtI.of (by decide) (Nat.le_of_ble_eq_true rfl) ?_
  intro p e s m args below meth c Q A X hw hin hret ls hl
  have hx := X.1.1
  have hb := X.1.2.1
  have hl : lv_has ls 2 [(0, .ref (ma 0)), (1, .int k)] := hl
  refine lv_iload_n hx hb dX11_sign_0 rfl (lv_at hl 1 rfl) ?_
  refine lv_aload_n hx hb dX11_sign_1 rfl (lv_at hl 0 rfl) ?_
  refine gf_X11_1 (v := (pI S) 103 (ma 0)) X hw hM.1 rfl dX11_sign_2 ?_
  refine lv_icmp_ge (tgt := 21) hx hb dX11_sign_5 (by decide) (fun c5_1 => ?_) (fun c5_1 => ?_)
  · have D5_1 := iLe c5_1 rfl rfl
    refine lv_iconst (v := 0) hx hb dX11_sign_21 (by decide) ?_
    exact hret 0 _ _ _ _ _ ⟨rfl, fun _ => t_0⟩ hw rfl dX11_sign_22
  · have D5_1 := iNle c5_1 rfl rfl
    refine lv_aload_n hx hb dX11_sign_8 rfl (lv_at hl 0 rfl) ?_
    refine gf_X11_7 (b := (ma 2)) X hw hM.1 (mr_2 hM) dX11_sign_9 ?_
    refine lv_iload_n hx hb dX11_sign_12 rfl (lv_at hl 1 rfl) ?_
    refine q_ldB X hw (mk_2 hM) (vin (mn_2 hM) (by omega) (by omega)) dX11_sign_13 ?_
    refine lv_topi (fun v13_2 e13_2 => ?_)
    have e13_2 : v13_2 = (qI S) (ma 2) k.toNatClampNeg := e13_2
    refine lv_sipush (v := 255) hx hb dX11_sign_14 (by decide) ?_
    refine lv_iand hx hb dX11_sign_17 ?_
    refine lv_topi (fun v17_3 e17_3 => ?_)
    refine lv_goto (tgt := 22) hx hb dX11_sign_18 (by decide) ?_
    exact hret v17_3 _ _ _ _ _ ⟨rfl, fun h => absurd h (by omega)⟩ hw rfl dX11_sign_22
set_option maxHeartbeats 4000000 in
set_option maxRecDepth 100000 in
theorem c_X11_isGood (l : Launch) (G : Gh) (S : Pl) (ma : Nat → Nat)  (hM : shMod S ma) : MtI l yX11_isGood cX11_isGood 1 (some .boolean) (Rm 0 0 0) G [.ref (ma 0)] S (fun (r : Int32) (S' : Pl) => (S = S' ∧ r = 1 ∧ ((pI S 104 (ma 0)).toInt = 0)) ∨ (S = S' ∧ r = 0 ∧ ¬ ((pI S 104 (ma 0)).toInt = 0))) 0 0 := by
  refine MtI.of (by decide) (Nat.le_of_ble_eq_true rfl) ?_
  intro p e s m args below meth c Q A X hw hin hret ls hl
  have hx := X.1.1
  have hb := X.1.2.1
  have hl : lv_has ls 1 [(0, .ref (ma 0))] := hl
  refine lv_aload_n hx hb dX11_isGood_0 rfl (lv_at hl 0 rfl) ?_
  refine gf_X11_11 (v := (pI S) 104 (ma 0)) X hw hM.1 rfl dX11_isGood_1 ?_
  refine lv_if_ne (tgt := 11) hx hb dX11_isGood_4 (by decide) (fun c4_1 => ?_) (fun c4_1 => ?_)
  · have D4_1 := iNe c4_1 rfl t_0
    refine lv_iconst (v := 0) hx hb dX11_isGood_11 (by decide) ?_
    exact hret 0 _ _ _ _ _ (Or.inr ⟨rfl, rfl, by omega⟩) hw rfl dX11_isGood_12
  · have D4_1 := iEq c4_1 rfl t_0
    refine lv_iconst (v := 1) hx hb dX11_isGood_7 (by decide) ?_
    refine lv_goto (tgt := 12) hx hb dX11_isGood_8 (by decide) ?_
    exact hret 1 _ _ _ _ _ (Or.inl ⟨rfl, rfl, by omega⟩) hw rfl dX11_isGood_12
set_option maxHeartbeats 4000000 in
set_option maxRecDepth 100000 in
theorem c_X11_fails (l : Launch) (G : Gh) (S : Pl) (ma : Nat → Nat) (k x : Int32) (hM : shMod S ma) (hk : 0 < k.toInt) : MtV l yX11_fails cX11_fails 3 none (Rm 0 0 0) G [.ref (ma 0), .int k, .int x] S (fun (S' : Pl) => ∃ I', ch S I' (pJ S) (qI S) (qJ S) = S' ∧ FrF (pI S) I' ∧ (I' 104 (ma 0)).toInt ≠ 0) 0 0 := by
  refine MtV.of (by decide) (Nat.le_of_ble_eq_true rfl) ?_
  intro p e s m args below meth c Q A X hw hin hret ls hl
  have hx := X.1.1
  have hb := X.1.2.1
  have hl : lv_has ls 3 [(0, .ref (ma 0)), (1, .int k), (2, .int x)] := hl
  refine lv_aload_n hx hb dX11_fails_0 rfl (lv_at hl 0 rfl) ?_
  refine gf_X11_11 (v := (pI S) 104 (ma 0)) X hw hM.1 rfl dX11_fails_1 ?_
  refine lv_if_le (tgt := 8) hx hb dX11_fails_4 (by decide) (fun c4_1 => ?_) (fun c4_1 => ?_)
  · have D4_1 := iLe c4_1 rfl t_0
    refine lv_aload_n hx hb dX11_fails_8 rfl (lv_at hl 0 rfl) ?_
    refine lv_iload_n hx hb dX11_fails_9 rfl (lv_at hl 1 rfl) ?_
    refine pf_X11_11 X hw hM.1 dX11_fails_10 (fun H locs hw => ?_)
    have hw : PX G A s.heap (ch S (up2 (pI S) 104 (ma 0) k) (pJ S) (qI S) (qJ S)) H locs := hw
    refine lv_aload_n hx hb dX11_fails_13 rfl (lv_at hl 0 rfl) ?_
    refine lv_iload_n hx hb dX11_fails_14 rfl (lv_at hl 2 rfl) ?_
    refine pf_X11_14 X hw hM.1 dX11_fails_15 (fun H locs hw => ?_)
    have hw : PX G A s.heap (ch S (up2 (up2 (pI S) 104 (ma 0) k) 105 (ma 0) x) (pJ S) (qI S) (qJ S)) H locs := hw
    exact hret _ _ _ _ _ ⟨_, rfl, (FrF.up (f := 105) (by decide) (FrF.up (f := 104) (by decide) FrF.rf)), by first | omega | (rw [show (up2 (up2 (pI S) 104 (ma 0) k) 105 (ma 0) x) 104 (ma 0) = (k : Int32) from (show up2 (pI S) 104 (ma 0) k 104 (ma 0) = k from up2_s)]; omega)⟩ hw dX11_fails_18
  · have D4_1 := iNle c4_1 rfl t_0
    exact hret _ _ _ _ _ ⟨_, rfl, FrF.rf, by first | omega | (rw [show (pI S) 104 (ma 0) = ((pI S) 104 (ma 0) : Int32) from rfl]; omega)⟩ hw dX11_fails_7
set_option maxHeartbeats 4000000 in
set_option maxRecDepth 100000 in
theorem c_X11_wrong (l : Launch) (G : Gh) (S : Pl) (ma : Nat → Nat) (hM : shMod S ma) : MtV l yX11_wrong cX11_wrong 1 none (Rm 1 0 0) G [.ref (ma 0)] S (fun (S' : Pl) => ∃ I', ch S I' (pJ S) (qI S) (qJ S) = S' ∧ FrF (pI S) I' ∧ (I' 104 (ma 0)).toInt ≠ 0) 0 0 := by
  refine MtV.of (by decide) (Nat.le_of_ble_eq_true rfl) ?_
  intro p e s m args below meth c Q A X hw hin hret ls hl
  have hx := X.1.1
  have hb := X.1.2.1
  have hl : lv_has ls 1 [(0, .ref (ma 0))] := hl
  refine lv_aload_n hx hb dX11_wrong_0 rfl (lv_at hl 0 rfl) ?_
  refine lv_aload_n hx hb dX11_wrong_1 rfl (lv_at hl 0 rfl) ?_
  refine gf_X11_27 (v := (pI S) 108 (ma 0)) X hw hM.1 rfl dX11_wrong_2 ?_
  refine lv_iconst (v := 1) hx hb dX11_wrong_5 (by decide) ?_
  refine lv_icmp_ne (tgt := 13) hx hb dX11_wrong_6 (by decide) (fun c6_1 => ?_) (fun c6_1 => ?_)
  · have D6_1 := iNe c6_1 rfl t_1
    refine lv_iconst (v := 2) hx hb dX11_wrong_13 (by decide) ?_
    refine lv_aload_n hx hb dX11_wrong_14 rfl (lv_at hl 0 rfl) ?_
    refine gf_X11_20 (v := (pI S) 106 (ma 0)) X hw hM.1 rfl dX11_wrong_15 ?_
    refine k_Vv (n := 2) X hw (rcvk (ci := 11) X hw hM.1 (fun _ _ _ _ _ _ _ => ⟨_, rfl⟩) rfl) (c_X11_fails l G _ ma 2 ((pI S) 106 (ma 0)) hM (by decide)) wd_r22_9 wd_r22_10 wd_r22_11 wd_r1_5 wd_r22_12 ⟨by decide, by decide, by decide +kernel⟩ rfl rfl ⟨Nat.le_of_ble_eq_true rfl, Nat.le_of_ble_eq_true rfl⟩ rfl rfl hl.1 (Nat.le_of_ble_eq_true rfl) dX11_wrong_18 ⟨Nat.le_of_ble_eq_true rfl, Nat.le_of_ble_eq_true rfl⟩ (fun S18_3 H locs h18_2 hw => ?_)
    have := t_2
    obtain ⟨I18_4, rfl, h18_2⟩ := h18_2
    have hw : PX G A s.heap (ch S I18_4 (pJ S) (qI S) (qJ S)) H locs := hw
    have HC := h18_2.2
    exact hret _ _ _ _ _ ⟨_, rfl, (FrF.tr FrF.rf h18_2.1), HC⟩ hw dX11_wrong_21
  · have D6_1 := iEq c6_1 rfl t_1
    refine lv_iconst (v := 1) hx hb dX11_wrong_9 (by decide) ?_
    refine lv_goto (tgt := 14) hx hb dX11_wrong_10 (by decide) ?_
    refine lv_aload_n hx hb dX11_wrong_14 rfl (lv_at hl 0 rfl) ?_
    refine gf_X11_20 (v := (pI S) 106 (ma 0)) X hw hM.1 rfl dX11_wrong_15 ?_
    refine k_Vv (n := 2) X hw (rcvk (ci := 11) X hw hM.1 (fun _ _ _ _ _ _ _ => ⟨_, rfl⟩) rfl) (c_X11_fails l G _ ma 1 ((pI S) 106 (ma 0)) hM (by decide)) wd_r22_9 wd_r22_10 wd_r22_11 wd_r1_5 wd_r22_12 ⟨by decide, by decide, by decide +kernel⟩ rfl rfl ⟨Nat.le_of_ble_eq_true rfl, Nat.le_of_ble_eq_true rfl⟩ rfl rfl hl.1 (Nat.le_of_ble_eq_true rfl) dX11_wrong_18 ⟨Nat.le_of_ble_eq_true rfl, Nat.le_of_ble_eq_true rfl⟩ (fun S18_6 H locs h18_5 hw => ?_)
    have := t_1
    obtain ⟨I18_7, rfl, h18_5⟩ := h18_5
    have hw : PX G A s.heap (ch S I18_7 (pJ S) (qI S) (qJ S)) H locs := hw
    have HC := h18_5.2
    exact hret _ _ _ _ _ ⟨_, rfl, (FrF.tr FrF.rf h18_5.1), HC⟩ hw dX11_wrong_21
set_option maxHeartbeats 4000000 in
set_option maxRecDepth 100000 in
theorem c_X11_twice (l : Launch) (G : Gh) (S : Pl) (ma : Nat → Nat) (k : Int32) (hM : shMod S ma) : MtV l yX11_twice cX11_twice 2 none (Rm 1 0 0) G [.ref (ma 0), .int k] S (fun (S' : Pl) => ∃ I', ch S I' (pJ S) (qI S) (qJ S) = S' ∧ FrF (pI S) I') 0 0 := by
  refine MtV.of (by decide) (Nat.le_of_ble_eq_true rfl) ?_
  intro p e s m args below meth c Q A X hw hin hret ls hl
  have hx := X.1.1
  have hb := X.1.2.1
  have hl : lv_has ls 2 [(0, .ref (ma 0)), (1, .int k)] := hl
  refine lv_aload_n hx hb dX11_twice_0 rfl (lv_at hl 0 rfl) ?_
  refine k_Vi (n := 0) X hw (rcvk (ci := 11) X hw hM.1 (fun _ _ _ _ _ _ _ => ⟨_, rfl⟩) rfl) (c_X11_isGood l G _ ma hM) wd_r21_12 wd_r21_13 wd_r21_14 wd_r1_5 wd_r21_15 ⟨by decide, by decide, by decide +kernel⟩ rfl rfl ⟨Nat.le_of_ble_eq_true rfl, Nat.le_of_ble_eq_true rfl⟩ rfl rfl hl.1 (Nat.le_of_ble_eq_true rfl) dX11_twice_1 ⟨Nat.le_of_ble_eq_true rfl, Nat.le_of_ble_eq_true rfl⟩ (fun r1_1 S1_3 H locs h1_2 hw => ?_)
  rcases h1_2 with ⟨rfl, rfl, h1_2⟩ | ⟨rfl, rfl, h1_2⟩
  · have h1_2 : ((pI S) 104 (ma 0) : Int32).toInt = 0 := h1_2
    refine lv_if_eq (tgt := 20) hx hb dX11_twice_4 (by decide) (fun c4_4 => absurd c4_4 (by decide)) (fun c4_4 => ?_)
    refine lv_iload_n hx hb dX11_twice_7 rfl (lv_at hl 1 rfl) ?_
    refine lv_if_eq (tgt := 20) hx hb dX11_twice_8 (by decide) (fun c8_5 => ?_) (fun c8_5 => ?_)
    · have D8_5 := iEq c8_5 rfl t_0
      exact hret _ _ _ _ _ ⟨_, rfl, FrF.rf⟩ hw dX11_twice_20
    · have D8_5 := iNe c8_5 rfl t_0
      refine lv_aload_n hx hb dX11_twice_11 rfl (lv_at hl 0 rfl) ?_
      refine lv_iconst (v := 4) hx hb dX11_twice_12 (by decide) ?_
      refine lv_aload_n hx hb dX11_twice_13 rfl (lv_at hl 0 rfl) ?_
      refine gf_X11_162 (v := (pI S) 122 (ma 0)) X hw hM.1 rfl dX11_twice_14 ?_
      refine k_Vv (n := 2) X hw (rcvk (ci := 11) X hw hM.1 (fun _ _ _ _ _ _ _ => ⟨_, rfl⟩) rfl) (c_X11_fails l G _ ma 4 ((pI S) 122 (ma 0)) hM (by decide)) wd_r22_9 wd_r22_10 wd_r22_11 wd_r1_5 wd_r22_12 ⟨by decide, by decide, by decide +kernel⟩ rfl rfl ⟨Nat.le_of_ble_eq_true rfl, Nat.le_of_ble_eq_true rfl⟩ rfl rfl hl.1 (Nat.le_of_ble_eq_true rfl) dX11_twice_17 ⟨Nat.le_of_ble_eq_true rfl, Nat.le_of_ble_eq_true rfl⟩ (fun S17_7 H locs h17_6 hw => ?_)
      have := t_4
      obtain ⟨I17_8, rfl, h17_6⟩ := h17_6
      have hw : PX G A s.heap (ch S I17_8 (pJ S) (qI S) (qJ S)) H locs := hw
      exact hret _ _ _ _ _ ⟨_, rfl, (FrF.tr FrF.rf h17_6.1)⟩ hw dX11_twice_20
  · have h1_2 : ¬ (((pI S) 104 (ma 0) : Int32).toInt = 0) := h1_2
    refine lv_if_eq (tgt := 20) hx hb dX11_twice_4 (by decide) (fun c4_9 => ?_) (fun c4_9 => absurd c4_9 (by decide))
    exact hret _ _ _ _ _ ⟨_, rfl, FrF.rf⟩ hw dX11_twice_20
set_option maxHeartbeats 4000000 in
set_option maxRecDepth 100000 in
theorem c_X11_isWord (l : Launch) (G : Gh) (S : Pl) (ma : Nat → Nat) (w : Int64) (hM : shMod S ma) : MtI l yX11_isWord cX11_isWord 3 (some .boolean) (Rm 0 0 0) G [.ref (ma 0), .long w] S (fun (r : Int32) (S' : Pl) => (S = S' ∧ r = 1 ∧ True) ∨ (S = S' ∧ r = 0 ∧ True)) 0 0 := by
  refine MtI.of (by decide) (Nat.le_of_ble_eq_true rfl) ?_
  intro p e s m args below meth c Q A X hw hin hret ls hl
  have hx := X.1.1
  have hb := X.1.2.1
  have hl : lv_has ls 3 [(0, .ref (ma 0)), (1, .long w)] := hl
  refine lv_aload_n hx hb dX11_isWord_0 rfl (lv_at hl 0 rfl) ?_
  refine gf_X11_27 (v := (pI S) 108 (ma 0)) X hw hM.1 rfl dX11_isWord_1 ?_
  refine lv_iconst (v := 2) hx hb dX11_isWord_4 (by decide) ?_
  refine lv_icmp_ne (tgt := 21) hx hb dX11_isWord_5 (by decide) (fun c5_1 => ?_) (fun c5_1 => ?_)
  · have D5_1 := iNe c5_1 rfl t_2
    refine lv_iconst (v := 0) hx hb dX11_isWord_21 (by decide) ?_
    exact hret 0 _ _ _ _ _ (Or.inr ⟨rfl, rfl, trivial⟩) hw rfl dX11_isWord_22
  · have D5_1 := iEq c5_1 rfl t_2
    refine lv_aload_n hx hb dX11_isWord_8 rfl (lv_at hl 0 rfl) ?_
    refine gf_X11_34 (v := (pJ S) 110 (ma 0)) X hw hM.1 rfl dX11_isWord_9 ?_
    refine lv_lload_n hx hb dX11_isWord_12 rfl (lv_at hl 1 rfl) ?_
    refine W.lcmp hx hb dX11_isWord_13 ?_
    refine lv_topi (fun v13_2 e13_2 => ?_)
    refine lv_if_ne (tgt := 21) hx hb dX11_isWord_14 (by decide) (fun c14_3 => ?_) (fun c14_3 => ?_)
    · have D14_3 := lc_ne e13_2 c14_3
      refine lv_iconst (v := 0) hx hb dX11_isWord_21 (by decide) ?_
      exact hret 0 _ _ _ _ _ (Or.inr ⟨rfl, rfl, trivial⟩) hw rfl dX11_isWord_22
    · have D14_3 := lcn_ne e13_2 c14_3
      refine lv_iconst (v := 1) hx hb dX11_isWord_17 (by decide) ?_
      refine lv_goto (tgt := 22) hx hb dX11_isWord_18 (by decide) ?_
      exact hret 1 _ _ _ _ _ (Or.inl ⟨rfl, rfl, trivial⟩) hw rfl dX11_isWord_22
set_option maxHeartbeats 4000000 in
set_option maxRecDepth 100000 in
theorem c_X11_readNumber (l : Launch) (G : Gh) (S : Pl) (ma : Nat → Nat) (z : Int32) (hM : shMod S ma) (hz : (pI S 103 (ma 0)).toInt ≤ 1000) (ha : 0 ≤ (pI S 106 (ma 0)).toInt ∧ (pI S 106 (ma 0)).toInt < (pI S 103 (ma 0)).toInt) : MtV l yX11_readNumber cX11_readNumber 3 none (Rm 1 0 0) G [.ref (ma 0), .int z] S (fun (S' : Pl) => ∃ I', ch S I' (pJ S) (qI S) (qJ S) = S' ∧ FrN (pI S) I' ∧ eM I' (ma 0)) 0 0 := by
  refine MtV.of (by decide) (Nat.le_of_ble_eq_true rfl) ?_
  intro p e s m args below meth c Q A X hw hin hret ls hl
  have hx := X.1.1
  have hb := X.1.2.1
  have hl : lv_has ls 3 [(0, .ref (ma 0)), (1, .int z)] := hl
  refine lv_iload_n hx hb dX11_readNumber_0 rfl (lv_at hl 1 rfl) ?_
  refine lv_if_eq (tgt := 13) hx hb dX11_readNumber_1 (by decide) (fun c1_1 => ?_) (fun c1_1 => ?_)
  · have D1_1 := iEq c1_1 rfl t_0
    refine lv_aload_n hx hb dX11_readNumber_13 rfl (lv_at hl 0 rfl) ?_
    refine gf_X11_20 (v := (pI S) 106 (ma 0)) X hw hM.1 rfl dX11_readNumber_14 ?_
    refine lv_istore_n (lv' := [(2, .int ((pI S) 106 (ma 0))), (0, .ref (ma 0)), (1, .int z)]) hx hb dX11_readNumber_17 rfl hl (by decide) rfl (fun ls hl => ?_)
    refine lv_aload_n hx hb dX11_readNumber_18 rfl (lv_at hl 1 rfl) ?_
    refine lv_iconst (v := 0) hx hb dX11_readNumber_19 (by decide) ?_
    refine pf_X11_45 X hw hM.1 dX11_readNumber_20 (fun H locs hw => ?_)
    have hw : PX G A s.heap (ch S (up2 (pI S) 109 (ma 0) 0) (pJ S) (qI S) (qJ S)) H locs := hw
    refine lv_aload_n hx hb dX11_readNumber_23 rfl (lv_at hl 1 rfl) ?_
    refine lv_iload_n hx hb dX11_readNumber_24 rfl (lv_at hl 0 rfl) ?_
    refine pf_X11_17 X hw hM.1 dX11_readNumber_25 (fun H locs hw => ?_)
    have hw : PX G A s.heap (ch S (up2 (up2 (pI S) 109 (ma 0) 0) 107 (ma 0) ((pI S) 106 (ma 0))) (pJ S) (qI S) (qJ S)) H locs := hw
    have lp28 : ∀ (N9 : Nat) (I28 : Nat → Nat → Int32), (FrN (pI S) I28) → (0 ≤ (I28 107 (ma 0)).toInt ∧ (I28 107 (ma 0)).toInt ≤ (I28 103 (ma 0)).toInt) → ((I28 103 (ma 0)).toInt - (I28 107 (ma 0)).toInt).toNat < N9 → ∀ (H : Heap) (locs : List Loc) (ls : Array Slot), PX G A s.heap (ch S I28 (pJ S) (qI S) (qJ S)) H locs → lv_has ls 3 [(2, .int ((pI S) 106 (ma 0))), (0, .ref (ma 0)), (1, .int z)] → W p l e (Rm 1 0 0) s m args below meth c H locs 0 0 Q (F0 m 28 ls []) := by
      intro N9
      induction N9 with
      | zero => intro I28 hF he hm; exact absurd hm (Nat.not_lt_zero _)
      | succ N9 ih28 =>
        intro I28 hF he hm H locs ls hw hl
        have hsz := congrArg Int32.toInt (FrN.sz hF (ma 0))
        refine lv_aload_n hx hb dX11_readNumber_28 rfl (lv_at hl 1 rfl) ?_
        refine lv_aload_n hx hb dX11_readNumber_29 rfl (lv_at hl 1 rfl) ?_
        refine gf_X11_17 (v := I28 107 (ma 0)) X hw hM.1 rfl dX11_readNumber_30 ?_
        refine k_Vi (n := 1) X hw (rcvk (ci := 11) X hw hM.1 (fun _ _ _ _ _ _ _ => ⟨_, rfl⟩) rfl) (c_X11_sign l G _ ma (I28 107 (ma 0)) hM (by omega) (show (I28 103 (ma 0) : Int32).toInt ≤ 1000 by omega)) wd_r20_21 wd_r20_22 wd_r20_23 wd_r1_5 wd_r21_0 ⟨by decide, by decide, by decide +kernel⟩ rfl rfl ⟨Nat.le_of_ble_eq_true rfl, Nat.le_of_ble_eq_true rfl⟩ rfl rfl hl.1 (Nat.le_of_ble_eq_true rfl) dX11_readNumber_33 ⟨Nat.le_of_ble_eq_true rfl, Nat.le_of_ble_eq_true rfl⟩ (fun r33_2 S33_4 H locs h33_3 hw => ?_)
        obtain ⟨rfl, h33_3⟩ := h33_3
        have h33_3 : (I28 103 (ma 0) : Int32).toInt ≤ (I28 107 (ma 0)).toInt → r33_2.toInt = 0 := h33_3
        refine k_Si (n := 1) X hw (c_X11_isDigit l G _ r33_2) wd_r21_4 wd_r21_5 wd_r1_5 wd_r21_6 ⟨by decide, by decide, by decide +kernel⟩ rfl rfl ⟨Nat.le_of_ble_eq_true rfl, Nat.le_of_ble_eq_true rfl⟩ rfl rfl hl.1 (Nat.le_of_ble_eq_true rfl) dX11_readNumber_36 ⟨Nat.le_of_ble_eq_true rfl, Nat.le_of_ble_eq_true rfl⟩ (fun r36_5 S36_7 H locs h36_6 hw => ?_)
        rcases h36_6 with ⟨rfl, rfl, h36_6⟩ | ⟨rfl, rfl, h36_6⟩
        · have h36_6 := h36_6
          refine lv_if_eq (tgt := 88) hx hb dX11_readNumber_39 (by decide) (fun c39_8 => absurd c39_8 (by decide)) (fun c39_8 => ?_)
          refine lv_aload_n hx hb dX11_readNumber_42 rfl (lv_at hl 1 rfl) ?_
          refine gf_X11_17 (v := I28 107 (ma 0)) X hw hM.1 rfl dX11_readNumber_43 ?_
          refine lv_iload_n hx hb dX11_readNumber_46 rfl (lv_at hl 0 rfl) ?_
          refine lv_isub hx hb dX11_readNumber_47 ?_
          refine lv_topi (fun v47_9 e47_9 => ?_)
          refine lv_iconst (v := 3) hx hb dX11_readNumber_48 (by decide) ?_
          refine lv_icmp_ge (tgt := 75) hx hb dX11_readNumber_49 (by decide) (fun c49_10 => ?_) (fun c49_10 => ?_)
          · have D49_10 := iLe c49_10 t_3 rfl
            refine lv_aload_n hx hb dX11_readNumber_75 rfl (lv_at hl 1 rfl) ?_
            refine lv_dup hx hb dX11_readNumber_76 rfl ?_
            refine gf_X11_17 (v := I28 107 (ma 0)) X hw hM.1 rfl dX11_readNumber_77 ?_
            refine lv_iconst (v := 1) hx hb dX11_readNumber_80 (by decide) ?_
            refine lv_iadd hx hb dX11_readNumber_81 ?_
            refine lv_topi (fun v81_11 e81_11 => ?_)
            have t81_11 := iAdd e81_11 rfl t_1 (by omega) (by omega)
            have t81 := t81_11
            refine pf_X11_17 X hw hM.1 dX11_readNumber_82 (fun H locs hw => ?_)
            have hw : PX G A s.heap (ch S (up2 I28 107 (ma 0) v81_11) (pJ S) (qI S) (qJ S)) H locs := hw
            refine lv_goto (tgt := 28) hx hb dX11_readNumber_85 (by decide) ?_
            exact ih28 (up2 I28 107 (ma 0) v81_11)  (FrN.up (f := 107) (by decide) hF) (by rw [show (up2 I28 107 (ma 0) v81_11) 107 (ma 0) = (v81_11 : Int32) from (show up2 I28 107 (ma 0) v81_11 107 (ma 0) = v81_11 from up2_s), show (up2 I28 107 (ma 0) v81_11) 103 (ma 0) = (I28 103 (ma 0) : Int32) from rfl]; omega) (by rw [show (up2 I28 107 (ma 0) v81_11) 107 (ma 0) = (v81_11 : Int32) from (show up2 I28 107 (ma 0) v81_11 107 (ma 0) = v81_11 from up2_s), show (up2 I28 107 (ma 0) v81_11) 103 (ma 0) = (I28 103 (ma 0) : Int32) from rfl]; omega) _ _ _ hw (lv_sub hl [0, 1, 2] rfl)
          · have D49_10 := iNle c49_10 t_3 rfl
            refine lv_aload_n hx hb dX11_readNumber_52 rfl (lv_at hl 1 rfl) ?_
            refine lv_bipush (v := 10) hx hb dX11_readNumber_53 (by decide) ?_
            refine lv_aload_n hx hb dX11_readNumber_55 rfl (lv_at hl 1 rfl) ?_
            refine gf_X11_45 (v := I28 109 (ma 0)) X hw hM.1 rfl dX11_readNumber_56 ?_
            refine lv_imul hx hb dX11_readNumber_59 ?_
            refine lv_topi (fun v59_12 e59_12 => ?_)
            refine lv_aload_n hx hb dX11_readNumber_60 rfl (lv_at hl 1 rfl) ?_
            refine lv_aload_n hx hb dX11_readNumber_61 rfl (lv_at hl 1 rfl) ?_
            refine gf_X11_17 (v := I28 107 (ma 0)) X hw hM.1 rfl dX11_readNumber_62 ?_
            refine k_Vi (n := 1) X hw (rcvk (ci := 11) X hw hM.1 (fun _ _ _ _ _ _ _ => ⟨_, rfl⟩) rfl) (c_X11_sign l G _ ma (I28 107 (ma 0)) hM (by omega) (show (I28 103 (ma 0) : Int32).toInt ≤ 1000 by omega)) wd_r20_21 wd_r20_22 wd_r20_23 wd_r1_5 wd_r21_0 ⟨by decide, by decide, by decide +kernel⟩ rfl rfl ⟨Nat.le_of_ble_eq_true rfl, Nat.le_of_ble_eq_true rfl⟩ rfl rfl hl.1 (Nat.le_of_ble_eq_true rfl) dX11_readNumber_65 ⟨Nat.le_of_ble_eq_true rfl, Nat.le_of_ble_eq_true rfl⟩ (fun r65_13 S65_15 H locs h65_14 hw => ?_)
            obtain ⟨rfl, h65_14⟩ := h65_14
            have h65_14 : (I28 103 (ma 0) : Int32).toInt ≤ (I28 107 (ma 0)).toInt → r65_13.toInt = 0 := h65_14
            refine lv_iadd hx hb dX11_readNumber_68 ?_
            refine lv_topi (fun v68_16 e68_16 => ?_)
            refine lv_bipush (v := 48) hx hb dX11_readNumber_69 (by decide) ?_
            refine lv_isub hx hb dX11_readNumber_71 ?_
            refine lv_topi (fun v71_17 e71_17 => ?_)
            refine pf_X11_45 X hw hM.1 dX11_readNumber_72 (fun H locs hw => ?_)
            have hw : PX G A s.heap (ch S (up2 I28 109 (ma 0) v71_17) (pJ S) (qI S) (qJ S)) H locs := hw
            refine lv_aload_n hx hb dX11_readNumber_75 rfl (lv_at hl 1 rfl) ?_
            refine lv_dup hx hb dX11_readNumber_76 rfl ?_
            refine gf_X11_17 (v := I28 107 (ma 0)) X hw hM.1 rfl dX11_readNumber_77 ?_
            refine lv_iconst (v := 1) hx hb dX11_readNumber_80 (by decide) ?_
            refine lv_iadd hx hb dX11_readNumber_81 ?_
            refine lv_topi (fun v81_18 e81_18 => ?_)
            have t81_18 := iAdd e81_18 rfl t_1 (by omega) (by omega)
            have t81 := t81_18
            refine pf_X11_17 X hw hM.1 dX11_readNumber_82 (fun H locs hw => ?_)
            have hw : PX G A s.heap (ch S (up2 (up2 I28 109 (ma 0) v71_17) 107 (ma 0) v81_18) (pJ S) (qI S) (qJ S)) H locs := hw
            refine lv_goto (tgt := 28) hx hb dX11_readNumber_85 (by decide) ?_
            exact ih28 (up2 (up2 I28 109 (ma 0) v71_17) 107 (ma 0) v81_18)  (FrN.up (f := 107) (by decide) (FrN.up (f := 109) (by decide) hF)) (by rw [show (up2 (up2 I28 109 (ma 0) v71_17) 107 (ma 0) v81_18) 107 (ma 0) = (v81_18 : Int32) from (show up2 (up2 I28 109 (ma 0) v71_17) 107 (ma 0) v81_18 107 (ma 0) = v81_18 from up2_s), show (up2 (up2 I28 109 (ma 0) v71_17) 107 (ma 0) v81_18) 103 (ma 0) = (I28 103 (ma 0) : Int32) from rfl]; omega) (by rw [show (up2 (up2 I28 109 (ma 0) v71_17) 107 (ma 0) v81_18) 107 (ma 0) = (v81_18 : Int32) from (show up2 (up2 I28 109 (ma 0) v71_17) 107 (ma 0) v81_18 107 (ma 0) = v81_18 from up2_s), show (up2 (up2 I28 109 (ma 0) v71_17) 107 (ma 0) v81_18) 103 (ma 0) = (I28 103 (ma 0) : Int32) from rfl]; omega) _ _ _ hw (lv_sub hl [0, 1, 2] rfl)
        · have h36_6 := h36_6
          refine lv_if_eq (tgt := 88) hx hb dX11_readNumber_39 (by decide) (fun c39_19 => ?_) (fun c39_19 => absurd c39_19 (by decide))
          refine lv_iload_n hx hb dX11_readNumber_88 rfl (lv_at hl 2 rfl) ?_
          refine lv_if_eq (tgt := 101) hx hb dX11_readNumber_89 (by decide) (fun c89_20 => ?_) (fun c89_20 => ?_)
          · have D89_20 := iEq c89_20 rfl t_0
            refine lv_aload_n hx hb dX11_readNumber_101 rfl (lv_at hl 1 rfl) ?_
            refine lv_aload_n hx hb dX11_readNumber_102 rfl (lv_at hl 1 rfl) ?_
            refine gf_X11_17 (v := I28 107 (ma 0)) X hw hM.1 rfl dX11_readNumber_103 ?_
            refine lv_iload_n hx hb dX11_readNumber_106 rfl (lv_at hl 0 rfl) ?_
            refine lv_isub hx hb dX11_readNumber_107 ?_
            refine lv_topi (fun v107_21 e107_21 => ?_)
            refine lv_iconst (v := 3) hx hb dX11_readNumber_108 (by decide) ?_
            refine lv_icmp_gt (tgt := 126) hx hb dX11_readNumber_109 (by decide) (fun c109_22 => ?_) (fun c109_22 => ?_)
            · have D109_22 := iLt c109_22 t_3 rfl
              refine lv_iconst (v := 1) hx hb dX11_readNumber_126 (by decide) ?_
              refine lv_goto (tgt := 131) hx hb dX11_readNumber_127 (by decide) ?_
              refine pf_X11_27 X hw hM.1 dX11_readNumber_131 (fun H locs hw => ?_)
              have hw : PX G A s.heap (ch S (up2 I28 108 (ma 0) 1) (pJ S) (qI S) (qJ S)) H locs := hw
              exact hret _ _ _ _ _ ⟨_, rfl, (FrN.up (f := 108) (by decide) hF), (eM_of (a := (I28 103 (ma 0) : Int32)) (b := (I28 107 (ma 0) : Int32)) rfl rfl (by omega))⟩ hw dX11_readNumber_134
            · have D109_22 := iNlt c109_22 t_3 rfl
              refine lv_aload_n hx hb dX11_readNumber_112 rfl (lv_at hl 1 rfl) ?_
              refine lv_aload_n hx hb dX11_readNumber_113 rfl (lv_at hl 1 rfl) ?_
              refine gf_X11_17 (v := I28 107 (ma 0)) X hw hM.1 rfl dX11_readNumber_114 ?_
              refine k_Vi (n := 1) X hw (rcvk (ci := 11) X hw hM.1 (fun _ _ _ _ _ _ _ => ⟨_, rfl⟩) rfl) (c_X11_sign l G _ ma (I28 107 (ma 0)) hM (by omega) (show (I28 103 (ma 0) : Int32).toInt ≤ 1000 by omega)) wd_r20_21 wd_r20_22 wd_r20_23 wd_r1_5 wd_r21_0 ⟨by decide, by decide, by decide +kernel⟩ rfl rfl ⟨Nat.le_of_ble_eq_true rfl, Nat.le_of_ble_eq_true rfl⟩ rfl rfl hl.1 (Nat.le_of_ble_eq_true rfl) dX11_readNumber_117 ⟨Nat.le_of_ble_eq_true rfl, Nat.le_of_ble_eq_true rfl⟩ (fun r117_23 S117_25 H locs h117_24 hw => ?_)
              obtain ⟨rfl, h117_24⟩ := h117_24
              have h117_24 : (I28 103 (ma 0) : Int32).toInt ≤ (I28 107 (ma 0)).toInt → r117_23.toInt = 0 := h117_24
              refine k_Si (n := 1) X hw (c_X11_isLetter l G _ r117_23) wd_r21_1 wd_r21_2 wd_r1_5 wd_r21_3 ⟨by decide, by decide, by decide +kernel⟩ rfl rfl ⟨Nat.le_of_ble_eq_true rfl, Nat.le_of_ble_eq_true rfl⟩ rfl rfl hl.1 (Nat.le_of_ble_eq_true rfl) dX11_readNumber_120 ⟨Nat.le_of_ble_eq_true rfl, Nat.le_of_ble_eq_true rfl⟩ (fun r120_26 S120_28 H locs h120_27 hw => ?_)
              rcases h120_27 with ⟨rfl, rfl, h120_27⟩ | ⟨rfl, rfl, h120_27⟩
              · have h120_27 := h120_27
                refine lv_if_eq (tgt := 130) hx hb dX11_readNumber_123 (by decide) (fun c123_29 => absurd c123_29 (by decide)) (fun c123_29 => ?_)
                refine lv_iconst (v := 1) hx hb dX11_readNumber_126 (by decide) ?_
                refine lv_goto (tgt := 131) hx hb dX11_readNumber_127 (by decide) ?_
                refine pf_X11_27 X hw hM.1 dX11_readNumber_131 (fun H locs hw => ?_)
                have hw : PX G A s.heap (ch S (up2 I28 108 (ma 0) 1) (pJ S) (qI S) (qJ S)) H locs := hw
                exact hret _ _ _ _ _ ⟨_, rfl, (FrN.up (f := 108) (by decide) hF), (eM_of (a := (I28 103 (ma 0) : Int32)) (b := (I28 107 (ma 0) : Int32)) rfl rfl (by omega))⟩ hw dX11_readNumber_134
              · have h120_27 := h120_27
                refine lv_if_eq (tgt := 130) hx hb dX11_readNumber_123 (by decide) (fun c123_30 => ?_) (fun c123_30 => absurd c123_30 (by decide))
                refine lv_iconst (v := 3) hx hb dX11_readNumber_130 (by decide) ?_
                refine pf_X11_27 X hw hM.1 dX11_readNumber_131 (fun H locs hw => ?_)
                have hw : PX G A s.heap (ch S (up2 I28 108 (ma 0) 3) (pJ S) (qI S) (qJ S)) H locs := hw
                exact hret _ _ _ _ _ ⟨_, rfl, (FrN.up (f := 108) (by decide) hF), (eM_of (a := (I28 103 (ma 0) : Int32)) (b := (I28 107 (ma 0) : Int32)) rfl rfl (by omega))⟩ hw dX11_readNumber_134
          · have D89_20 := iNe c89_20 rfl t_0
            refine lv_aload_n hx hb dX11_readNumber_92 rfl (lv_at hl 1 rfl) ?_
            refine lv_aload_n hx hb dX11_readNumber_93 rfl (lv_at hl 1 rfl) ?_
            refine gf_X11_45 (v := I28 109 (ma 0)) X hw hM.1 rfl dX11_readNumber_94 ?_
            refine lv_ineg hx hb dX11_readNumber_97 ?_
            refine lv_topi (fun v97_31 e97_31 => ?_)
            refine pf_X11_45 X hw hM.1 dX11_readNumber_98 (fun H locs hw => ?_)
            have hw : PX G A s.heap (ch S (up2 I28 109 (ma 0) v97_31) (pJ S) (qI S) (qJ S)) H locs := hw
            refine lv_aload_n hx hb dX11_readNumber_101 rfl (lv_at hl 1 rfl) ?_
            refine lv_aload_n hx hb dX11_readNumber_102 rfl (lv_at hl 1 rfl) ?_
            refine gf_X11_17 (v := I28 107 (ma 0)) X hw hM.1 rfl dX11_readNumber_103 ?_
            refine lv_iload_n hx hb dX11_readNumber_106 rfl (lv_at hl 0 rfl) ?_
            refine lv_isub hx hb dX11_readNumber_107 ?_
            refine lv_topi (fun v107_32 e107_32 => ?_)
            refine lv_iconst (v := 3) hx hb dX11_readNumber_108 (by decide) ?_
            refine lv_icmp_gt (tgt := 126) hx hb dX11_readNumber_109 (by decide) (fun c109_33 => ?_) (fun c109_33 => ?_)
            · have D109_33 := iLt c109_33 t_3 rfl
              refine lv_iconst (v := 1) hx hb dX11_readNumber_126 (by decide) ?_
              refine lv_goto (tgt := 131) hx hb dX11_readNumber_127 (by decide) ?_
              refine pf_X11_27 X hw hM.1 dX11_readNumber_131 (fun H locs hw => ?_)
              have hw : PX G A s.heap (ch S (up2 (up2 I28 109 (ma 0) v97_31) 108 (ma 0) 1) (pJ S) (qI S) (qJ S)) H locs := hw
              exact hret _ _ _ _ _ ⟨_, rfl, (FrN.up (f := 108) (by decide) (FrN.up (f := 109) (by decide) hF)), (eM_of (a := (I28 103 (ma 0) : Int32)) (b := (I28 107 (ma 0) : Int32)) rfl rfl (by omega))⟩ hw dX11_readNumber_134
            · have D109_33 := iNlt c109_33 t_3 rfl
              refine lv_aload_n hx hb dX11_readNumber_112 rfl (lv_at hl 1 rfl) ?_
              refine lv_aload_n hx hb dX11_readNumber_113 rfl (lv_at hl 1 rfl) ?_
              refine gf_X11_17 (v := I28 107 (ma 0)) X hw hM.1 rfl dX11_readNumber_114 ?_
              refine k_Vi (n := 1) X hw (rcvk (ci := 11) X hw hM.1 (fun _ _ _ _ _ _ _ => ⟨_, rfl⟩) rfl) (c_X11_sign l G _ ma (I28 107 (ma 0)) hM (by omega) (show (I28 103 (ma 0) : Int32).toInt ≤ 1000 by omega)) wd_r20_21 wd_r20_22 wd_r20_23 wd_r1_5 wd_r21_0 ⟨by decide, by decide, by decide +kernel⟩ rfl rfl ⟨Nat.le_of_ble_eq_true rfl, Nat.le_of_ble_eq_true rfl⟩ rfl rfl hl.1 (Nat.le_of_ble_eq_true rfl) dX11_readNumber_117 ⟨Nat.le_of_ble_eq_true rfl, Nat.le_of_ble_eq_true rfl⟩ (fun r117_34 S117_36 H locs h117_35 hw => ?_)
              obtain ⟨rfl, h117_35⟩ := h117_35
              have h117_35 : (I28 103 (ma 0) : Int32).toInt ≤ (I28 107 (ma 0)).toInt → r117_34.toInt = 0 := h117_35
              refine k_Si (n := 1) X hw (c_X11_isLetter l G _ r117_34) wd_r21_1 wd_r21_2 wd_r1_5 wd_r21_3 ⟨by decide, by decide, by decide +kernel⟩ rfl rfl ⟨Nat.le_of_ble_eq_true rfl, Nat.le_of_ble_eq_true rfl⟩ rfl rfl hl.1 (Nat.le_of_ble_eq_true rfl) dX11_readNumber_120 ⟨Nat.le_of_ble_eq_true rfl, Nat.le_of_ble_eq_true rfl⟩ (fun r120_37 S120_39 H locs h120_38 hw => ?_)
              rcases h120_38 with ⟨rfl, rfl, h120_38⟩ | ⟨rfl, rfl, h120_38⟩
              · have h120_38 := h120_38
                refine lv_if_eq (tgt := 130) hx hb dX11_readNumber_123 (by decide) (fun c123_40 => absurd c123_40 (by decide)) (fun c123_40 => ?_)
                refine lv_iconst (v := 1) hx hb dX11_readNumber_126 (by decide) ?_
                refine lv_goto (tgt := 131) hx hb dX11_readNumber_127 (by decide) ?_
                refine pf_X11_27 X hw hM.1 dX11_readNumber_131 (fun H locs hw => ?_)
                have hw : PX G A s.heap (ch S (up2 (up2 I28 109 (ma 0) v97_31) 108 (ma 0) 1) (pJ S) (qI S) (qJ S)) H locs := hw
                exact hret _ _ _ _ _ ⟨_, rfl, (FrN.up (f := 108) (by decide) (FrN.up (f := 109) (by decide) hF)), (eM_of (a := (I28 103 (ma 0) : Int32)) (b := (I28 107 (ma 0) : Int32)) rfl rfl (by omega))⟩ hw dX11_readNumber_134
              · have h120_38 := h120_38
                refine lv_if_eq (tgt := 130) hx hb dX11_readNumber_123 (by decide) (fun c123_41 => ?_) (fun c123_41 => absurd c123_41 (by decide))
                refine lv_iconst (v := 3) hx hb dX11_readNumber_130 (by decide) ?_
                refine pf_X11_27 X hw hM.1 dX11_readNumber_131 (fun H locs hw => ?_)
                have hw : PX G A s.heap (ch S (up2 (up2 I28 109 (ma 0) v97_31) 108 (ma 0) 3) (pJ S) (qI S) (qJ S)) H locs := hw
                exact hret _ _ _ _ _ ⟨_, rfl, (FrN.up (f := 108) (by decide) (FrN.up (f := 109) (by decide) hF)), (eM_of (a := (I28 103 (ma 0) : Int32)) (b := (I28 107 (ma 0) : Int32)) rfl rfl (by omega))⟩ hw dX11_readNumber_134
    exact lp28 _ (up2 (up2 (pI S) 109 (ma 0) 0) 107 (ma 0) ((pI S) 106 (ma 0)))  (FrN.up (f := 107) (by decide) (FrN.up (f := 109) (by decide) FrN.rf)) (by rw [show (up2 (up2 (pI S) 109 (ma 0) 0) 107 (ma 0) ((pI S) 106 (ma 0))) 107 (ma 0) = ((pI S) 106 (ma 0) : Int32) from (show up2 (up2 (pI S) 109 (ma 0) 0) 107 (ma 0) ((pI S) 106 (ma 0)) 107 (ma 0) = ((pI S) 106 (ma 0)) from up2_s), show (up2 (up2 (pI S) 109 (ma 0) 0) 107 (ma 0) ((pI S) 106 (ma 0))) 103 (ma 0) = ((pI S) 103 (ma 0) : Int32) from rfl]; omega) (Nat.lt_succ_self _) _ _ _ hw (lv_sub hl [0, 1, 2] rfl)
  · have D1_1 := iNe c1_1 rfl t_0
    refine lv_aload_n hx hb dX11_readNumber_4 rfl (lv_at hl 0 rfl) ?_
    refine gf_X11_20 (v := (pI S) 106 (ma 0)) X hw hM.1 rfl dX11_readNumber_5 ?_
    refine lv_iconst (v := 1) hx hb dX11_readNumber_8 (by decide) ?_
    refine lv_iadd hx hb dX11_readNumber_9 ?_
    refine lv_topi (fun v9_42 e9_42 => ?_)
    have t9_42 := iAdd e9_42 rfl t_1 (by omega) (by omega)
    have t9 := t9_42
    refine lv_goto (tgt := 17) hx hb dX11_readNumber_10 (by decide) ?_
    refine lv_istore_n (lv' := [(2, .int v9_42), (0, .ref (ma 0)), (1, .int z)]) hx hb dX11_readNumber_17 rfl hl (by decide) rfl (fun ls hl => ?_)
    refine lv_aload_n hx hb dX11_readNumber_18 rfl (lv_at hl 1 rfl) ?_
    refine lv_iconst (v := 0) hx hb dX11_readNumber_19 (by decide) ?_
    refine pf_X11_45 X hw hM.1 dX11_readNumber_20 (fun H locs hw => ?_)
    have hw : PX G A s.heap (ch S (up2 (pI S) 109 (ma 0) 0) (pJ S) (qI S) (qJ S)) H locs := hw
    refine lv_aload_n hx hb dX11_readNumber_23 rfl (lv_at hl 1 rfl) ?_
    refine lv_iload_n hx hb dX11_readNumber_24 rfl (lv_at hl 0 rfl) ?_
    refine pf_X11_17 X hw hM.1 dX11_readNumber_25 (fun H locs hw => ?_)
    have hw : PX G A s.heap (ch S (up2 (up2 (pI S) 109 (ma 0) 0) 107 (ma 0) v9_42) (pJ S) (qI S) (qJ S)) H locs := hw
    have lp28 : ∀ (N9 : Nat) (I28 : Nat → Nat → Int32), (FrN (pI S) I28) → (0 ≤ (I28 107 (ma 0)).toInt ∧ (I28 107 (ma 0)).toInt ≤ (I28 103 (ma 0)).toInt) → ((I28 103 (ma 0)).toInt - (I28 107 (ma 0)).toInt).toNat < N9 → ∀ (H : Heap) (locs : List Loc) (ls : Array Slot), PX G A s.heap (ch S I28 (pJ S) (qI S) (qJ S)) H locs → lv_has ls 3 [(2, .int v9_42), (0, .ref (ma 0)), (1, .int z)] → W p l e (Rm 1 0 0) s m args below meth c H locs 0 0 Q (F0 m 28 ls []) := by
      intro N9
      induction N9 with
      | zero => intro I28 hF he hm; exact absurd hm (Nat.not_lt_zero _)
      | succ N9 ih28 =>
        intro I28 hF he hm H locs ls hw hl
        have hsz := congrArg Int32.toInt (FrN.sz hF (ma 0))
        refine lv_aload_n hx hb dX11_readNumber_28 rfl (lv_at hl 1 rfl) ?_
        refine lv_aload_n hx hb dX11_readNumber_29 rfl (lv_at hl 1 rfl) ?_
        refine gf_X11_17 (v := I28 107 (ma 0)) X hw hM.1 rfl dX11_readNumber_30 ?_
        refine k_Vi (n := 1) X hw (rcvk (ci := 11) X hw hM.1 (fun _ _ _ _ _ _ _ => ⟨_, rfl⟩) rfl) (c_X11_sign l G _ ma (I28 107 (ma 0)) hM (by omega) (show (I28 103 (ma 0) : Int32).toInt ≤ 1000 by omega)) wd_r20_21 wd_r20_22 wd_r20_23 wd_r1_5 wd_r21_0 ⟨by decide, by decide, by decide +kernel⟩ rfl rfl ⟨Nat.le_of_ble_eq_true rfl, Nat.le_of_ble_eq_true rfl⟩ rfl rfl hl.1 (Nat.le_of_ble_eq_true rfl) dX11_readNumber_33 ⟨Nat.le_of_ble_eq_true rfl, Nat.le_of_ble_eq_true rfl⟩ (fun r33_43 S33_45 H locs h33_44 hw => ?_)
        obtain ⟨rfl, h33_44⟩ := h33_44
        have h33_44 : (I28 103 (ma 0) : Int32).toInt ≤ (I28 107 (ma 0)).toInt → r33_43.toInt = 0 := h33_44
        refine k_Si (n := 1) X hw (c_X11_isDigit l G _ r33_43) wd_r21_4 wd_r21_5 wd_r1_5 wd_r21_6 ⟨by decide, by decide, by decide +kernel⟩ rfl rfl ⟨Nat.le_of_ble_eq_true rfl, Nat.le_of_ble_eq_true rfl⟩ rfl rfl hl.1 (Nat.le_of_ble_eq_true rfl) dX11_readNumber_36 ⟨Nat.le_of_ble_eq_true rfl, Nat.le_of_ble_eq_true rfl⟩ (fun r36_46 S36_48 H locs h36_47 hw => ?_)
        rcases h36_47 with ⟨rfl, rfl, h36_47⟩ | ⟨rfl, rfl, h36_47⟩
        · have h36_47 := h36_47
          refine lv_if_eq (tgt := 88) hx hb dX11_readNumber_39 (by decide) (fun c39_49 => absurd c39_49 (by decide)) (fun c39_49 => ?_)
          refine lv_aload_n hx hb dX11_readNumber_42 rfl (lv_at hl 1 rfl) ?_
          refine gf_X11_17 (v := I28 107 (ma 0)) X hw hM.1 rfl dX11_readNumber_43 ?_
          refine lv_iload_n hx hb dX11_readNumber_46 rfl (lv_at hl 0 rfl) ?_
          refine lv_isub hx hb dX11_readNumber_47 ?_
          refine lv_topi (fun v47_50 e47_50 => ?_)
          refine lv_iconst (v := 3) hx hb dX11_readNumber_48 (by decide) ?_
          refine lv_icmp_ge (tgt := 75) hx hb dX11_readNumber_49 (by decide) (fun c49_51 => ?_) (fun c49_51 => ?_)
          · have D49_51 := iLe c49_51 t_3 rfl
            refine lv_aload_n hx hb dX11_readNumber_75 rfl (lv_at hl 1 rfl) ?_
            refine lv_dup hx hb dX11_readNumber_76 rfl ?_
            refine gf_X11_17 (v := I28 107 (ma 0)) X hw hM.1 rfl dX11_readNumber_77 ?_
            refine lv_iconst (v := 1) hx hb dX11_readNumber_80 (by decide) ?_
            refine lv_iadd hx hb dX11_readNumber_81 ?_
            refine lv_topi (fun v81_52 e81_52 => ?_)
            have t81_52 := iAdd e81_52 rfl t_1 (by omega) (by omega)
            have t81 := t81_52
            refine pf_X11_17 X hw hM.1 dX11_readNumber_82 (fun H locs hw => ?_)
            have hw : PX G A s.heap (ch S (up2 I28 107 (ma 0) v81_52) (pJ S) (qI S) (qJ S)) H locs := hw
            refine lv_goto (tgt := 28) hx hb dX11_readNumber_85 (by decide) ?_
            exact ih28 (up2 I28 107 (ma 0) v81_52)  (FrN.up (f := 107) (by decide) hF) (by rw [show (up2 I28 107 (ma 0) v81_52) 107 (ma 0) = (v81_52 : Int32) from (show up2 I28 107 (ma 0) v81_52 107 (ma 0) = v81_52 from up2_s), show (up2 I28 107 (ma 0) v81_52) 103 (ma 0) = (I28 103 (ma 0) : Int32) from rfl]; omega) (by rw [show (up2 I28 107 (ma 0) v81_52) 107 (ma 0) = (v81_52 : Int32) from (show up2 I28 107 (ma 0) v81_52 107 (ma 0) = v81_52 from up2_s), show (up2 I28 107 (ma 0) v81_52) 103 (ma 0) = (I28 103 (ma 0) : Int32) from rfl]; omega) _ _ _ hw (lv_sub hl [0, 1, 2] rfl)
          · have D49_51 := iNle c49_51 t_3 rfl
            refine lv_aload_n hx hb dX11_readNumber_52 rfl (lv_at hl 1 rfl) ?_
            refine lv_bipush (v := 10) hx hb dX11_readNumber_53 (by decide) ?_
            refine lv_aload_n hx hb dX11_readNumber_55 rfl (lv_at hl 1 rfl) ?_
            refine gf_X11_45 (v := I28 109 (ma 0)) X hw hM.1 rfl dX11_readNumber_56 ?_
            refine lv_imul hx hb dX11_readNumber_59 ?_
            refine lv_topi (fun v59_53 e59_53 => ?_)
            refine lv_aload_n hx hb dX11_readNumber_60 rfl (lv_at hl 1 rfl) ?_
            refine lv_aload_n hx hb dX11_readNumber_61 rfl (lv_at hl 1 rfl) ?_
            refine gf_X11_17 (v := I28 107 (ma 0)) X hw hM.1 rfl dX11_readNumber_62 ?_
            refine k_Vi (n := 1) X hw (rcvk (ci := 11) X hw hM.1 (fun _ _ _ _ _ _ _ => ⟨_, rfl⟩) rfl) (c_X11_sign l G _ ma (I28 107 (ma 0)) hM (by omega) (show (I28 103 (ma 0) : Int32).toInt ≤ 1000 by omega)) wd_r20_21 wd_r20_22 wd_r20_23 wd_r1_5 wd_r21_0 ⟨by decide, by decide, by decide +kernel⟩ rfl rfl ⟨Nat.le_of_ble_eq_true rfl, Nat.le_of_ble_eq_true rfl⟩ rfl rfl hl.1 (Nat.le_of_ble_eq_true rfl) dX11_readNumber_65 ⟨Nat.le_of_ble_eq_true rfl, Nat.le_of_ble_eq_true rfl⟩ (fun r65_54 S65_56 H locs h65_55 hw => ?_)
            obtain ⟨rfl, h65_55⟩ := h65_55
            have h65_55 : (I28 103 (ma 0) : Int32).toInt ≤ (I28 107 (ma 0)).toInt → r65_54.toInt = 0 := h65_55
            refine lv_iadd hx hb dX11_readNumber_68 ?_
            refine lv_topi (fun v68_57 e68_57 => ?_)
            refine lv_bipush (v := 48) hx hb dX11_readNumber_69 (by decide) ?_
            refine lv_isub hx hb dX11_readNumber_71 ?_
            refine lv_topi (fun v71_58 e71_58 => ?_)
            refine pf_X11_45 X hw hM.1 dX11_readNumber_72 (fun H locs hw => ?_)
            have hw : PX G A s.heap (ch S (up2 I28 109 (ma 0) v71_58) (pJ S) (qI S) (qJ S)) H locs := hw
            refine lv_aload_n hx hb dX11_readNumber_75 rfl (lv_at hl 1 rfl) ?_
            refine lv_dup hx hb dX11_readNumber_76 rfl ?_
            refine gf_X11_17 (v := I28 107 (ma 0)) X hw hM.1 rfl dX11_readNumber_77 ?_
            refine lv_iconst (v := 1) hx hb dX11_readNumber_80 (by decide) ?_
            refine lv_iadd hx hb dX11_readNumber_81 ?_
            refine lv_topi (fun v81_59 e81_59 => ?_)
            have t81_59 := iAdd e81_59 rfl t_1 (by omega) (by omega)
            have t81 := t81_59
            refine pf_X11_17 X hw hM.1 dX11_readNumber_82 (fun H locs hw => ?_)
            have hw : PX G A s.heap (ch S (up2 (up2 I28 109 (ma 0) v71_58) 107 (ma 0) v81_59) (pJ S) (qI S) (qJ S)) H locs := hw
            refine lv_goto (tgt := 28) hx hb dX11_readNumber_85 (by decide) ?_
            exact ih28 (up2 (up2 I28 109 (ma 0) v71_58) 107 (ma 0) v81_59)  (FrN.up (f := 107) (by decide) (FrN.up (f := 109) (by decide) hF)) (by rw [show (up2 (up2 I28 109 (ma 0) v71_58) 107 (ma 0) v81_59) 107 (ma 0) = (v81_59 : Int32) from (show up2 (up2 I28 109 (ma 0) v71_58) 107 (ma 0) v81_59 107 (ma 0) = v81_59 from up2_s), show (up2 (up2 I28 109 (ma 0) v71_58) 107 (ma 0) v81_59) 103 (ma 0) = (I28 103 (ma 0) : Int32) from rfl]; omega) (by rw [show (up2 (up2 I28 109 (ma 0) v71_58) 107 (ma 0) v81_59) 107 (ma 0) = (v81_59 : Int32) from (show up2 (up2 I28 109 (ma 0) v71_58) 107 (ma 0) v81_59 107 (ma 0) = v81_59 from up2_s), show (up2 (up2 I28 109 (ma 0) v71_58) 107 (ma 0) v81_59) 103 (ma 0) = (I28 103 (ma 0) : Int32) from rfl]; omega) _ _ _ hw (lv_sub hl [0, 1, 2] rfl)
        · have h36_47 := h36_47
          refine lv_if_eq (tgt := 88) hx hb dX11_readNumber_39 (by decide) (fun c39_60 => ?_) (fun c39_60 => absurd c39_60 (by decide))
          refine lv_iload_n hx hb dX11_readNumber_88 rfl (lv_at hl 2 rfl) ?_
          refine lv_if_eq (tgt := 101) hx hb dX11_readNumber_89 (by decide) (fun c89_61 => ?_) (fun c89_61 => ?_)
          · have D89_61 := iEq c89_61 rfl t_0
            refine lv_aload_n hx hb dX11_readNumber_101 rfl (lv_at hl 1 rfl) ?_
            refine lv_aload_n hx hb dX11_readNumber_102 rfl (lv_at hl 1 rfl) ?_
            refine gf_X11_17 (v := I28 107 (ma 0)) X hw hM.1 rfl dX11_readNumber_103 ?_
            refine lv_iload_n hx hb dX11_readNumber_106 rfl (lv_at hl 0 rfl) ?_
            refine lv_isub hx hb dX11_readNumber_107 ?_
            refine lv_topi (fun v107_62 e107_62 => ?_)
            refine lv_iconst (v := 3) hx hb dX11_readNumber_108 (by decide) ?_
            refine lv_icmp_gt (tgt := 126) hx hb dX11_readNumber_109 (by decide) (fun c109_63 => ?_) (fun c109_63 => ?_)
            · have D109_63 := iLt c109_63 t_3 rfl
              refine lv_iconst (v := 1) hx hb dX11_readNumber_126 (by decide) ?_
              refine lv_goto (tgt := 131) hx hb dX11_readNumber_127 (by decide) ?_
              refine pf_X11_27 X hw hM.1 dX11_readNumber_131 (fun H locs hw => ?_)
              have hw : PX G A s.heap (ch S (up2 I28 108 (ma 0) 1) (pJ S) (qI S) (qJ S)) H locs := hw
              exact hret _ _ _ _ _ ⟨_, rfl, (FrN.up (f := 108) (by decide) hF), (eM_of (a := (I28 103 (ma 0) : Int32)) (b := (I28 107 (ma 0) : Int32)) rfl rfl (by omega))⟩ hw dX11_readNumber_134
            · have D109_63 := iNlt c109_63 t_3 rfl
              refine lv_aload_n hx hb dX11_readNumber_112 rfl (lv_at hl 1 rfl) ?_
              refine lv_aload_n hx hb dX11_readNumber_113 rfl (lv_at hl 1 rfl) ?_
              refine gf_X11_17 (v := I28 107 (ma 0)) X hw hM.1 rfl dX11_readNumber_114 ?_
              refine k_Vi (n := 1) X hw (rcvk (ci := 11) X hw hM.1 (fun _ _ _ _ _ _ _ => ⟨_, rfl⟩) rfl) (c_X11_sign l G _ ma (I28 107 (ma 0)) hM (by omega) (show (I28 103 (ma 0) : Int32).toInt ≤ 1000 by omega)) wd_r20_21 wd_r20_22 wd_r20_23 wd_r1_5 wd_r21_0 ⟨by decide, by decide, by decide +kernel⟩ rfl rfl ⟨Nat.le_of_ble_eq_true rfl, Nat.le_of_ble_eq_true rfl⟩ rfl rfl hl.1 (Nat.le_of_ble_eq_true rfl) dX11_readNumber_117 ⟨Nat.le_of_ble_eq_true rfl, Nat.le_of_ble_eq_true rfl⟩ (fun r117_64 S117_66 H locs h117_65 hw => ?_)
              obtain ⟨rfl, h117_65⟩ := h117_65
              have h117_65 : (I28 103 (ma 0) : Int32).toInt ≤ (I28 107 (ma 0)).toInt → r117_64.toInt = 0 := h117_65
              refine k_Si (n := 1) X hw (c_X11_isLetter l G _ r117_64) wd_r21_1 wd_r21_2 wd_r1_5 wd_r21_3 ⟨by decide, by decide, by decide +kernel⟩ rfl rfl ⟨Nat.le_of_ble_eq_true rfl, Nat.le_of_ble_eq_true rfl⟩ rfl rfl hl.1 (Nat.le_of_ble_eq_true rfl) dX11_readNumber_120 ⟨Nat.le_of_ble_eq_true rfl, Nat.le_of_ble_eq_true rfl⟩ (fun r120_67 S120_69 H locs h120_68 hw => ?_)
              rcases h120_68 with ⟨rfl, rfl, h120_68⟩ | ⟨rfl, rfl, h120_68⟩
              · have h120_68 := h120_68
                refine lv_if_eq (tgt := 130) hx hb dX11_readNumber_123 (by decide) (fun c123_70 => absurd c123_70 (by decide)) (fun c123_70 => ?_)
                refine lv_iconst (v := 1) hx hb dX11_readNumber_126 (by decide) ?_
                refine lv_goto (tgt := 131) hx hb dX11_readNumber_127 (by decide) ?_
                refine pf_X11_27 X hw hM.1 dX11_readNumber_131 (fun H locs hw => ?_)
                have hw : PX G A s.heap (ch S (up2 I28 108 (ma 0) 1) (pJ S) (qI S) (qJ S)) H locs := hw
                exact hret _ _ _ _ _ ⟨_, rfl, (FrN.up (f := 108) (by decide) hF), (eM_of (a := (I28 103 (ma 0) : Int32)) (b := (I28 107 (ma 0) : Int32)) rfl rfl (by omega))⟩ hw dX11_readNumber_134
              · have h120_68 := h120_68
                refine lv_if_eq (tgt := 130) hx hb dX11_readNumber_123 (by decide) (fun c123_71 => ?_) (fun c123_71 => absurd c123_71 (by decide))
                refine lv_iconst (v := 3) hx hb dX11_readNumber_130 (by decide) ?_
                refine pf_X11_27 X hw hM.1 dX11_readNumber_131 (fun H locs hw => ?_)
                have hw : PX G A s.heap (ch S (up2 I28 108 (ma 0) 3) (pJ S) (qI S) (qJ S)) H locs := hw
                exact hret _ _ _ _ _ ⟨_, rfl, (FrN.up (f := 108) (by decide) hF), (eM_of (a := (I28 103 (ma 0) : Int32)) (b := (I28 107 (ma 0) : Int32)) rfl rfl (by omega))⟩ hw dX11_readNumber_134
          · have D89_61 := iNe c89_61 rfl t_0
            refine lv_aload_n hx hb dX11_readNumber_92 rfl (lv_at hl 1 rfl) ?_
            refine lv_aload_n hx hb dX11_readNumber_93 rfl (lv_at hl 1 rfl) ?_
            refine gf_X11_45 (v := I28 109 (ma 0)) X hw hM.1 rfl dX11_readNumber_94 ?_
            refine lv_ineg hx hb dX11_readNumber_97 ?_
            refine lv_topi (fun v97_72 e97_72 => ?_)
            refine pf_X11_45 X hw hM.1 dX11_readNumber_98 (fun H locs hw => ?_)
            have hw : PX G A s.heap (ch S (up2 I28 109 (ma 0) v97_72) (pJ S) (qI S) (qJ S)) H locs := hw
            refine lv_aload_n hx hb dX11_readNumber_101 rfl (lv_at hl 1 rfl) ?_
            refine lv_aload_n hx hb dX11_readNumber_102 rfl (lv_at hl 1 rfl) ?_
            refine gf_X11_17 (v := I28 107 (ma 0)) X hw hM.1 rfl dX11_readNumber_103 ?_
            refine lv_iload_n hx hb dX11_readNumber_106 rfl (lv_at hl 0 rfl) ?_
            refine lv_isub hx hb dX11_readNumber_107 ?_
            refine lv_topi (fun v107_73 e107_73 => ?_)
            refine lv_iconst (v := 3) hx hb dX11_readNumber_108 (by decide) ?_
            refine lv_icmp_gt (tgt := 126) hx hb dX11_readNumber_109 (by decide) (fun c109_74 => ?_) (fun c109_74 => ?_)
            · have D109_74 := iLt c109_74 t_3 rfl
              refine lv_iconst (v := 1) hx hb dX11_readNumber_126 (by decide) ?_
              refine lv_goto (tgt := 131) hx hb dX11_readNumber_127 (by decide) ?_
              refine pf_X11_27 X hw hM.1 dX11_readNumber_131 (fun H locs hw => ?_)
              have hw : PX G A s.heap (ch S (up2 (up2 I28 109 (ma 0) v97_72) 108 (ma 0) 1) (pJ S) (qI S) (qJ S)) H locs := hw
              exact hret _ _ _ _ _ ⟨_, rfl, (FrN.up (f := 108) (by decide) (FrN.up (f := 109) (by decide) hF)), (eM_of (a := (I28 103 (ma 0) : Int32)) (b := (I28 107 (ma 0) : Int32)) rfl rfl (by omega))⟩ hw dX11_readNumber_134
            · have D109_74 := iNlt c109_74 t_3 rfl
              refine lv_aload_n hx hb dX11_readNumber_112 rfl (lv_at hl 1 rfl) ?_
              refine lv_aload_n hx hb dX11_readNumber_113 rfl (lv_at hl 1 rfl) ?_
              refine gf_X11_17 (v := I28 107 (ma 0)) X hw hM.1 rfl dX11_readNumber_114 ?_
              refine k_Vi (n := 1) X hw (rcvk (ci := 11) X hw hM.1 (fun _ _ _ _ _ _ _ => ⟨_, rfl⟩) rfl) (c_X11_sign l G _ ma (I28 107 (ma 0)) hM (by omega) (show (I28 103 (ma 0) : Int32).toInt ≤ 1000 by omega)) wd_r20_21 wd_r20_22 wd_r20_23 wd_r1_5 wd_r21_0 ⟨by decide, by decide, by decide +kernel⟩ rfl rfl ⟨Nat.le_of_ble_eq_true rfl, Nat.le_of_ble_eq_true rfl⟩ rfl rfl hl.1 (Nat.le_of_ble_eq_true rfl) dX11_readNumber_117 ⟨Nat.le_of_ble_eq_true rfl, Nat.le_of_ble_eq_true rfl⟩ (fun r117_75 S117_77 H locs h117_76 hw => ?_)
              obtain ⟨rfl, h117_76⟩ := h117_76
              have h117_76 : (I28 103 (ma 0) : Int32).toInt ≤ (I28 107 (ma 0)).toInt → r117_75.toInt = 0 := h117_76
              refine k_Si (n := 1) X hw (c_X11_isLetter l G _ r117_75) wd_r21_1 wd_r21_2 wd_r1_5 wd_r21_3 ⟨by decide, by decide, by decide +kernel⟩ rfl rfl ⟨Nat.le_of_ble_eq_true rfl, Nat.le_of_ble_eq_true rfl⟩ rfl rfl hl.1 (Nat.le_of_ble_eq_true rfl) dX11_readNumber_120 ⟨Nat.le_of_ble_eq_true rfl, Nat.le_of_ble_eq_true rfl⟩ (fun r120_78 S120_80 H locs h120_79 hw => ?_)
              rcases h120_79 with ⟨rfl, rfl, h120_79⟩ | ⟨rfl, rfl, h120_79⟩
              · have h120_79 := h120_79
                refine lv_if_eq (tgt := 130) hx hb dX11_readNumber_123 (by decide) (fun c123_81 => absurd c123_81 (by decide)) (fun c123_81 => ?_)
                refine lv_iconst (v := 1) hx hb dX11_readNumber_126 (by decide) ?_
                refine lv_goto (tgt := 131) hx hb dX11_readNumber_127 (by decide) ?_
                refine pf_X11_27 X hw hM.1 dX11_readNumber_131 (fun H locs hw => ?_)
                have hw : PX G A s.heap (ch S (up2 (up2 I28 109 (ma 0) v97_72) 108 (ma 0) 1) (pJ S) (qI S) (qJ S)) H locs := hw
                exact hret _ _ _ _ _ ⟨_, rfl, (FrN.up (f := 108) (by decide) (FrN.up (f := 109) (by decide) hF)), (eM_of (a := (I28 103 (ma 0) : Int32)) (b := (I28 107 (ma 0) : Int32)) rfl rfl (by omega))⟩ hw dX11_readNumber_134
              · have h120_79 := h120_79
                refine lv_if_eq (tgt := 130) hx hb dX11_readNumber_123 (by decide) (fun c123_82 => ?_) (fun c123_82 => absurd c123_82 (by decide))
                refine lv_iconst (v := 3) hx hb dX11_readNumber_130 (by decide) ?_
                refine pf_X11_27 X hw hM.1 dX11_readNumber_131 (fun H locs hw => ?_)
                have hw : PX G A s.heap (ch S (up2 (up2 I28 109 (ma 0) v97_72) 108 (ma 0) 3) (pJ S) (qI S) (qJ S)) H locs := hw
                exact hret _ _ _ _ _ ⟨_, rfl, (FrN.up (f := 108) (by decide) (FrN.up (f := 109) (by decide) hF)), (eM_of (a := (I28 103 (ma 0) : Int32)) (b := (I28 107 (ma 0) : Int32)) rfl rfl (by omega))⟩ hw dX11_readNumber_134
    exact lp28 _ (up2 (up2 (pI S) 109 (ma 0) 0) 107 (ma 0) v9_42)  (FrN.up (f := 107) (by decide) (FrN.up (f := 109) (by decide) FrN.rf)) (by rw [show (up2 (up2 (pI S) 109 (ma 0) 0) 107 (ma 0) v9_42) 107 (ma 0) = (v9_42 : Int32) from (show up2 (up2 (pI S) 109 (ma 0) 0) 107 (ma 0) v9_42 107 (ma 0) = v9_42 from up2_s), show (up2 (up2 (pI S) 109 (ma 0) 0) 107 (ma 0) v9_42) 103 (ma 0) = ((pI S) 103 (ma 0) : Int32) from rfl]; omega) (Nat.lt_succ_self _) _ _ _ hw (lv_sub hl [0, 1, 2] rfl)
set_option maxHeartbeats 4000000 in
set_option maxRecDepth 100000 in
theorem c_X11_next (l : Launch) (G : Gh) (S : Pl) (ma : Nat → Nat) (hM : shMod S ma) (hE : eM (pI S) (ma 0)) : MtV l yX11_next cX11_next 3 none (Rm 2 0 0) G [.ref (ma 0)] S (fun (S' : Pl) => ∃ I' J', ch S I' J' (qI S) (qJ S) = S' ∧ FrN (pI S) I' ∧ eM I' (ma 0)) 0 0 := by
  refine MtV.of (by decide) (Nat.le_of_ble_eq_true rfl) ?_
  intro p e s m args below meth c Q A X hw hin hret ls hl
  have hx := X.1.1
  have hb := X.1.2.1
  have hl : lv_has ls 3 [(0, .ref (ma 0))] := hl
  unfold eM at hE
  refine lv_aload_n hx hb dX11_next_0 rfl (lv_at hl 0 rfl) ?_
  refine lv_aload_n hx hb dX11_next_1 rfl (lv_at hl 0 rfl) ?_
  refine gf_X11_17 (v := (pI S) 107 (ma 0)) X hw hM.1 rfl dX11_next_2 ?_
  refine pf_X11_20 X hw hM.1 dX11_next_5 (fun H locs hw => ?_)
  have hw : PX G A s.heap (ch S (up2 (pI S) 106 (ma 0) ((pI S) 107 (ma 0))) (pJ S) (qI S) (qJ S)) H locs := hw
  have lp8 : ∀ (N9 : Nat) (I8 : Nat → Nat → Int32), (FrN (pI S) I8) → (0 ≤ (I8 106 (ma 0)).toInt ∧ (I8 106 (ma 0)).toInt ≤ (I8 103 (ma 0)).toInt) → ((I8 103 (ma 0)).toInt - (I8 106 (ma 0)).toInt).toNat < N9 → ∀ (H : Heap) (locs : List Loc) (ls : Array Slot), PX G A s.heap (ch S I8 (pJ S) (qI S) (qJ S)) H locs → lv_has ls 3 [(0, .ref (ma 0))] → W p l e (Rm 2 0 0) s m args below meth c H locs 0 0 Q (F0 m 8 ls []) := by
    intro N9
    induction N9 with
    | zero => intro I8 hF he hm; exact absurd hm (Nat.not_lt_zero _)
    | succ N9 ih8 =>
      intro I8 hF he hm H locs ls hw hl
      have hsz := congrArg Int32.toInt (FrN.sz hF (ma 0))
      refine lv_aload_n hx hb dX11_next_8 rfl (lv_at hl 0 rfl) ?_
      refine gf_X11_20 (v := I8 106 (ma 0)) X hw hM.1 rfl dX11_next_9 ?_
      refine lv_aload_n hx hb dX11_next_12 rfl (lv_at hl 0 rfl) ?_
      refine gf_X11_1 (v := I8 103 (ma 0)) X hw hM.1 rfl dX11_next_13 ?_
      refine lv_icmp_ge (tgt := 58) hx hb dX11_next_16 (by decide) (fun c16_1 => ?_) (fun c16_1 => ?_)
      · have D16_1 := iLe c16_1 rfl rfl
        refine lv_aload_n hx hb dX11_next_58 rfl (lv_at hl 0 rfl) ?_
        refine lv_aload_n hx hb dX11_next_59 rfl (lv_at hl 0 rfl) ?_
        refine gf_X11_20 (v := I8 106 (ma 0)) X hw hM.1 rfl dX11_next_60 ?_
        refine k_Vi (n := 1) X hw (rcvk (ci := 11) X hw hM.1 (fun _ _ _ _ _ _ _ => ⟨_, rfl⟩) rfl) (c_X11_sign l G _ ma (I8 106 (ma 0)) hM (by omega) (show (I8 103 (ma 0) : Int32).toInt ≤ 1000 by omega)) wd_r20_21 wd_r20_22 wd_r20_23 wd_r1_5 wd_r21_0 ⟨by decide, by decide, by decide +kernel⟩ rfl rfl ⟨Nat.le_of_ble_eq_true rfl, Nat.le_of_ble_eq_true rfl⟩ rfl rfl hl.1 (Nat.le_of_ble_eq_true rfl) dX11_next_63 ⟨Nat.le_of_ble_eq_true rfl, Nat.le_of_ble_eq_true rfl⟩ (fun r63_2 S63_4 H locs h63_3 hw => ?_)
        obtain ⟨rfl, h63_3⟩ := h63_3
        have h63_3 : (I8 103 (ma 0) : Int32).toInt ≤ (I8 106 (ma 0)).toInt → r63_2.toInt = 0 := h63_3
        refine lv_istore_n (lv' := [(1, .int r63_2), (0, .ref (ma 0))]) hx hb dX11_next_66 rfl hl (by decide) rfl (fun ls hl => ?_)
        refine lv_aload_n hx hb dX11_next_67 rfl (lv_at hl 1 rfl) ?_
        refine lv_aload_n hx hb dX11_next_68 rfl (lv_at hl 1 rfl) ?_
        refine gf_X11_20 (v := I8 106 (ma 0)) X hw hM.1 rfl dX11_next_69 ?_
        refine lv_iconst (v := 1) hx hb dX11_next_72 (by decide) ?_
        refine lv_iadd hx hb dX11_next_73 ?_
        refine lv_topi (fun v73_5 e73_5 => ?_)
        have t73_5 := iAdd e73_5 rfl t_1 (by omega) (by omega)
        have t73 := t73_5
        refine pf_X11_17 X hw hM.1 dX11_next_74 (fun H locs hw => ?_)
        have hw : PX G A s.heap (ch S (up2 I8 107 (ma 0) v73_5) (pJ S) (qI S) (qJ S)) H locs := hw
        refine lv_aload_n hx hb dX11_next_77 rfl (lv_at hl 1 rfl) ?_
        refine gf_X11_20 (v := I8 106 (ma 0)) X hw hM.1 rfl dX11_next_78 ?_
        refine lv_aload_n hx hb dX11_next_81 rfl (lv_at hl 1 rfl) ?_
        refine gf_X11_1 (v := I8 103 (ma 0)) X hw hM.1 rfl dX11_next_82 ?_
        refine lv_icmp_lt (tgt := 112) hx hb dX11_next_85 (by decide) (fun c85_6 => ?_) (fun c85_6 => ?_)
        · have D85_6 := iLt c85_6 rfl rfl
          refine lv_iload_n hx hb dX11_next_112 rfl (lv_at hl 0 rfl) ?_
          refine k_Si (n := 1) X hw (c_X11_isLetter l G _ r63_2) wd_r21_1 wd_r21_2 wd_r1_5 wd_r21_3 ⟨by decide, by decide, by decide +kernel⟩ rfl rfl ⟨Nat.le_of_ble_eq_true rfl, Nat.le_of_ble_eq_true rfl⟩ rfl rfl hl.1 (Nat.le_of_ble_eq_true rfl) dX11_next_113 ⟨Nat.le_of_ble_eq_true rfl, Nat.le_of_ble_eq_true rfl⟩ (fun r113_7 S113_9 H locs h113_8 hw => ?_)
          rcases h113_8 with ⟨rfl, rfl, h113_8⟩ | ⟨rfl, rfl, h113_8⟩
          · have h113_8 := h113_8
            refine lv_if_eq (tgt := 225) hx hb dX11_next_116 (by decide) (fun c116_10 => absurd c116_10 (by decide)) (fun c116_10 => ?_)
            have lp119 : ∀ (N9 : Nat) (I119 : Nat → Nat → Int32), (FrN (pI S) I119) → (0 ≤ (I119 107 (ma 0)).toInt ∧ (I119 107 (ma 0)).toInt ≤ (I119 103 (ma 0)).toInt) → (0 ≤ (I119 106 (ma 0)).toInt ∧ (I119 106 (ma 0)).toInt < (I119 103 (ma 0)).toInt) → ((I119 103 (ma 0)).toInt - (I119 107 (ma 0)).toInt).toNat < N9 → ∀ (H : Heap) (locs : List Loc) (ls : Array Slot), PX G A s.heap (ch S I119 (pJ S) (qI S) (qJ S)) H locs → lv_has ls 3 [(1, .int r63_2), (0, .ref (ma 0))] → W p l e (Rm 2 0 0) s m args below meth c H locs 0 0 Q (F0 m 119 ls []) := by
              intro N9
              induction N9 with
              | zero => intro I119 hF he ha hm; exact absurd hm (Nat.not_lt_zero _)
              | succ N9 ih119 =>
                intro I119 hF he ha hm H locs ls hw hl
                have hsz := congrArg Int32.toInt (FrN.sz hF (ma 0))
                refine lv_aload_n hx hb dX11_next_119 rfl (lv_at hl 1 rfl) ?_
                refine lv_aload_n hx hb dX11_next_120 rfl (lv_at hl 1 rfl) ?_
                refine gf_X11_17 (v := I119 107 (ma 0)) X hw hM.1 rfl dX11_next_121 ?_
                refine k_Vi (n := 1) X hw (rcvk (ci := 11) X hw hM.1 (fun _ _ _ _ _ _ _ => ⟨_, rfl⟩) rfl) (c_X11_sign l G _ ma (I119 107 (ma 0)) hM (by omega) (show (I119 103 (ma 0) : Int32).toInt ≤ 1000 by omega)) wd_r20_21 wd_r20_22 wd_r20_23 wd_r1_5 wd_r21_0 ⟨by decide, by decide, by decide +kernel⟩ rfl rfl ⟨Nat.le_of_ble_eq_true rfl, Nat.le_of_ble_eq_true rfl⟩ rfl rfl hl.1 (Nat.le_of_ble_eq_true rfl) dX11_next_124 ⟨Nat.le_of_ble_eq_true rfl, Nat.le_of_ble_eq_true rfl⟩ (fun r124_11 S124_13 H locs h124_12 hw => ?_)
                obtain ⟨rfl, h124_12⟩ := h124_12
                have h124_12 : (I119 103 (ma 0) : Int32).toInt ≤ (I119 107 (ma 0)).toInt → r124_11.toInt = 0 := h124_12
                refine k_Si (n := 1) X hw (c_X11_isLetter l G _ r124_11) wd_r21_1 wd_r21_2 wd_r1_5 wd_r21_3 ⟨by decide, by decide, by decide +kernel⟩ rfl rfl ⟨Nat.le_of_ble_eq_true rfl, Nat.le_of_ble_eq_true rfl⟩ rfl rfl hl.1 (Nat.le_of_ble_eq_true rfl) dX11_next_127 ⟨Nat.le_of_ble_eq_true rfl, Nat.le_of_ble_eq_true rfl⟩ (fun r127_14 S127_16 H locs h127_15 hw => ?_)
                rcases h127_15 with ⟨rfl, rfl, h127_15⟩ | ⟨rfl, rfl, h127_15⟩
                · have h127_15 := h127_15
                  refine lv_if_eq (tgt := 146) hx hb dX11_next_130 (by decide) (fun c130_17 => absurd c130_17 (by decide)) (fun c130_17 => ?_)
                  refine lv_aload_n hx hb dX11_next_133 rfl (lv_at hl 1 rfl) ?_
                  refine lv_dup hx hb dX11_next_134 rfl ?_
                  refine gf_X11_17 (v := I119 107 (ma 0)) X hw hM.1 rfl dX11_next_135 ?_
                  refine lv_iconst (v := 1) hx hb dX11_next_138 (by decide) ?_
                  refine lv_iadd hx hb dX11_next_139 ?_
                  refine lv_topi (fun v139_18 e139_18 => ?_)
                  have t139_18 := iAdd e139_18 rfl t_1 (by omega) (by omega)
                  have t139 := t139_18
                  refine pf_X11_17 X hw hM.1 dX11_next_140 (fun H locs hw => ?_)
                  have hw : PX G A s.heap (ch S (up2 I119 107 (ma 0) v139_18) (pJ S) (qI S) (qJ S)) H locs := hw
                  refine lv_goto (tgt := 119) hx hb dX11_next_143 (by decide) ?_
                  exact ih119 (up2 I119 107 (ma 0) v139_18)  (FrN.up (f := 107) (by decide) hF) (by rw [show (up2 I119 107 (ma 0) v139_18) 107 (ma 0) = (v139_18 : Int32) from (show up2 I119 107 (ma 0) v139_18 107 (ma 0) = v139_18 from up2_s), show (up2 I119 107 (ma 0) v139_18) 103 (ma 0) = (I119 103 (ma 0) : Int32) from rfl]; omega) (by rw [show (up2 I119 107 (ma 0) v139_18) 106 (ma 0) = (I119 106 (ma 0) : Int32) from rfl, show (up2 I119 107 (ma 0) v139_18) 103 (ma 0) = (I119 103 (ma 0) : Int32) from rfl]; omega) (by rw [show (up2 I119 107 (ma 0) v139_18) 107 (ma 0) = (v139_18 : Int32) from (show up2 I119 107 (ma 0) v139_18 107 (ma 0) = v139_18 from up2_s), show (up2 I119 107 (ma 0) v139_18) 103 (ma 0) = (I119 103 (ma 0) : Int32) from rfl]; omega) _ _ _ hw (lv_sub hl [0, 1] rfl)
                · have h127_15 := h127_15
                  refine lv_if_eq (tgt := 146) hx hb dX11_next_130 (by decide) (fun c130_19 => ?_) (fun c130_19 => absurd c130_19 (by decide))
                  refine lv_aload_n hx hb dX11_next_146 rfl (lv_at hl 1 rfl) ?_
                  refine lv_lconst (v := 0) hx hb dX11_next_147 (by decide) ?_
                  refine pf_X11_34 X hw hM.1 dX11_next_148 (fun H locs hw => ?_)
                  have hw : PX G A s.heap (ch S I119 (up2 (pJ S) 110 (ma 0) 0) (qI S) (qJ S)) H locs := hw
                  refine lv_aload_n hx hb dX11_next_151 rfl (lv_at hl 1 rfl) ?_
                  refine gf_X11_20 (v := I119 106 (ma 0)) X hw hM.1 rfl dX11_next_152 ?_
                  refine lv_istore_n (lv' := [(2, .int (I119 106 (ma 0))), (1, .int r63_2), (0, .ref (ma 0))]) hx hb dX11_next_155 rfl hl (by decide) rfl (fun ls hl => ?_)
                  have lp156 : ∀ (N9 : Nat) (J156 : Nat → Nat → Int64) (k : Int32), (0 ≤ k.toInt) → ((I119 107 (ma 0)).toInt - k.toInt).toNat < N9 → ∀ (H : Heap) (locs : List Loc) (ls : Array Slot), PX G A s.heap (ch S I119 J156 (qI S) (qJ S)) H locs → lv_has ls 3 [(2, .int k), (1, .int r63_2), (0, .ref (ma 0))] → W p l e (Rm 2 0 0) s m args below meth c H locs 0 0 Q (F0 m 156 ls []) := by
                    intro N9
                    induction N9 with
                    | zero => intro J156 k hk hm; exact absurd hm (Nat.not_lt_zero _)
                    | succ N9 ih156 =>
                      intro J156 k hk hm H locs ls hw hl
                      refine lv_iload_n hx hb dX11_next_156 rfl (lv_at hl 0 rfl) ?_
                      refine lv_aload_n hx hb dX11_next_157 rfl (lv_at hl 2 rfl) ?_
                      refine gf_X11_17 (v := I119 107 (ma 0)) X hw hM.1 rfl dX11_next_158 ?_
                      refine lv_icmp_ge (tgt := 199) hx hb dX11_next_161 (by decide) (fun c161_20 => ?_) (fun c161_20 => ?_)
                      · have D161_20 := iLe c161_20 rfl rfl
                        refine lv_aload_n hx hb dX11_next_199 rfl (lv_at hl 2 rfl) ?_
                        refine lv_aload_n hx hb dX11_next_200 rfl (lv_at hl 2 rfl) ?_
                        refine gf_X11_17 (v := I119 107 (ma 0)) X hw hM.1 rfl dX11_next_201 ?_
                        refine lv_aload_n hx hb dX11_next_204 rfl (lv_at hl 2 rfl) ?_
                        refine gf_X11_20 (v := I119 106 (ma 0)) X hw hM.1 rfl dX11_next_205 ?_
                        refine lv_isub hx hb dX11_next_208 ?_
                        refine lv_topi (fun v208_21 e208_21 => ?_)
                        refine lv_bipush (v := 8) hx hb dX11_next_209 (by decide) ?_
                        refine lv_icmp_le (tgt := 218) hx hb dX11_next_211 (by decide) (fun c211_22 => ?_) (fun c211_22 => ?_)
                        · have D211_22 := iLe c211_22 rfl t_8
                          refine lv_iconst (v := 2) hx hb dX11_next_218 (by decide) ?_
                          refine pf_X11_27 X hw hM.1 dX11_next_219 (fun H locs hw => ?_)
                          have hw : PX G A s.heap (ch S (up2 I119 108 (ma 0) 2) J156 (qI S) (qJ S)) H locs := hw
                          refine lv_goto (tgt := 287) hx hb dX11_next_222 (by decide) ?_
                          exact hret _ _ _ _ _ ⟨_, _, rfl, (FrN.up (f := 108) (by decide) hF), (eM_of (a := (I119 103 (ma 0) : Int32)) (b := (I119 107 (ma 0) : Int32)) rfl rfl (by omega))⟩ hw dX11_next_287
                        · have D211_22 := iNle c211_22 rfl t_8
                          refine lv_iconst (v := 1) hx hb dX11_next_214 (by decide) ?_
                          refine lv_goto (tgt := 219) hx hb dX11_next_215 (by decide) ?_
                          refine pf_X11_27 X hw hM.1 dX11_next_219 (fun H locs hw => ?_)
                          have hw : PX G A s.heap (ch S (up2 I119 108 (ma 0) 1) J156 (qI S) (qJ S)) H locs := hw
                          refine lv_goto (tgt := 287) hx hb dX11_next_222 (by decide) ?_
                          exact hret _ _ _ _ _ ⟨_, _, rfl, (FrN.up (f := 108) (by decide) hF), (eM_of (a := (I119 103 (ma 0) : Int32)) (b := (I119 107 (ma 0) : Int32)) rfl rfl (by omega))⟩ hw dX11_next_287
                      · have D161_20 := iNle c161_20 rfl rfl
                        refine lv_iload_n hx hb dX11_next_164 rfl (lv_at hl 0 rfl) ?_
                        refine lv_aload_n hx hb dX11_next_165 rfl (lv_at hl 2 rfl) ?_
                        refine gf_X11_20 (v := I119 106 (ma 0)) X hw hM.1 rfl dX11_next_166 ?_
                        refine lv_bipush (v := 8) hx hb dX11_next_169 (by decide) ?_
                        refine lv_iadd hx hb dX11_next_171 ?_
                        refine lv_topi (fun v171_23 e171_23 => ?_)
                        refine lv_icmp_ge (tgt := 199) hx hb dX11_next_172 (by decide) (fun c172_24 => ?_) (fun c172_24 => ?_)
                        · have D172_24 := iLe c172_24 rfl rfl
                          refine lv_aload_n hx hb dX11_next_199 rfl (lv_at hl 2 rfl) ?_
                          refine lv_aload_n hx hb dX11_next_200 rfl (lv_at hl 2 rfl) ?_
                          refine gf_X11_17 (v := I119 107 (ma 0)) X hw hM.1 rfl dX11_next_201 ?_
                          refine lv_aload_n hx hb dX11_next_204 rfl (lv_at hl 2 rfl) ?_
                          refine gf_X11_20 (v := I119 106 (ma 0)) X hw hM.1 rfl dX11_next_205 ?_
                          refine lv_isub hx hb dX11_next_208 ?_
                          refine lv_topi (fun v208_25 e208_25 => ?_)
                          refine lv_bipush (v := 8) hx hb dX11_next_209 (by decide) ?_
                          refine lv_icmp_le (tgt := 218) hx hb dX11_next_211 (by decide) (fun c211_26 => ?_) (fun c211_26 => ?_)
                          · have D211_26 := iLe c211_26 rfl t_8
                            refine lv_iconst (v := 2) hx hb dX11_next_218 (by decide) ?_
                            refine pf_X11_27 X hw hM.1 dX11_next_219 (fun H locs hw => ?_)
                            have hw : PX G A s.heap (ch S (up2 I119 108 (ma 0) 2) J156 (qI S) (qJ S)) H locs := hw
                            refine lv_goto (tgt := 287) hx hb dX11_next_222 (by decide) ?_
                            exact hret _ _ _ _ _ ⟨_, _, rfl, (FrN.up (f := 108) (by decide) hF), (eM_of (a := (I119 103 (ma 0) : Int32)) (b := (I119 107 (ma 0) : Int32)) rfl rfl (by omega))⟩ hw dX11_next_287
                          · have D211_26 := iNle c211_26 rfl t_8
                            refine lv_iconst (v := 1) hx hb dX11_next_214 (by decide) ?_
                            refine lv_goto (tgt := 219) hx hb dX11_next_215 (by decide) ?_
                            refine pf_X11_27 X hw hM.1 dX11_next_219 (fun H locs hw => ?_)
                            have hw : PX G A s.heap (ch S (up2 I119 108 (ma 0) 1) J156 (qI S) (qJ S)) H locs := hw
                            refine lv_goto (tgt := 287) hx hb dX11_next_222 (by decide) ?_
                            exact hret _ _ _ _ _ ⟨_, _, rfl, (FrN.up (f := 108) (by decide) hF), (eM_of (a := (I119 103 (ma 0) : Int32)) (b := (I119 107 (ma 0) : Int32)) rfl rfl (by omega))⟩ hw dX11_next_287
                        · have D172_24 := iNle c172_24 rfl rfl
                          refine lv_aload_n hx hb dX11_next_175 rfl (lv_at hl 2 rfl) ?_
                          refine lv_aload_n hx hb dX11_next_176 rfl (lv_at hl 2 rfl) ?_
                          refine gf_X11_34 (v := J156 110 (ma 0)) X hw hM.1 rfl dX11_next_177 ?_
                          refine lv_bipush (v := 8) hx hb dX11_next_180 (by decide) ?_
                          refine lv_lshl hx hb dX11_next_182 rfl ?_
                          refine lv_topl (fun v182_27 e182_27 => ?_)
                          refine lv_aload_n hx hb dX11_next_183 rfl (lv_at hl 2 rfl) ?_
                          refine lv_iload_n hx hb dX11_next_184 rfl (lv_at hl 0 rfl) ?_
                          refine k_Vi (n := 1) X hw (rcvk (ci := 11) X hw hM.1 (fun _ _ _ _ _ _ _ => ⟨_, rfl⟩) rfl) (c_X11_sign l G _ ma k hM (by omega) (show (I119 103 (ma 0) : Int32).toInt ≤ 1000 by omega)) wd_r20_21 wd_r20_22 wd_r20_23 wd_r1_5 wd_r21_0 ⟨by decide, by decide, by decide +kernel⟩ rfl rfl ⟨Nat.le_of_ble_eq_true rfl, Nat.le_of_ble_eq_true rfl⟩ rfl rfl hl.1 (Nat.le_of_ble_eq_true rfl) dX11_next_185 ⟨Nat.le_of_ble_eq_true rfl, Nat.le_of_ble_eq_true rfl⟩ (fun r185_28 S185_30 H locs h185_29 hw => ?_)
                          obtain ⟨rfl, h185_29⟩ := h185_29
                          have h185_29 : (I119 103 (ma 0) : Int32).toInt ≤ k.toInt → r185_28.toInt = 0 := h185_29
                          refine lv_i2l hx hb dX11_next_188 rfl ?_
                          refine lv_topl (fun v188_31 e188_31 => ?_)
                          refine lv_lor hx hb dX11_next_189 ?_
                          refine lv_topl (fun v189_32 e189_32 => ?_)
                          refine pf_X11_34 X hw hM.1 dX11_next_190 (fun H locs hw => ?_)
                          have hw : PX G A s.heap (ch S I119 (up2 J156 110 (ma 0) v189_32) (qI S) (qJ S)) H locs := hw
                          obtain ⟨v193_33, e193_33⟩ : ∃ y : Int32, y = k + 1 := ⟨_, rfl⟩
                          have t193_33 := iAdd e193_33 rfl t_1 (by omega) (by omega)
                          have t193 := t193_33
                          refine lv_iinc (v := v193_33) (lv' := [(2, .int v193_33), (1, .int r63_2), (0, .ref (ma 0))]) hx hb dX11_next_193 hl (k := 0) rfl (by rw [e193_33]; rfl) (by decide) rfl (fun ls hl => ?_)
                          refine lv_goto (tgt := 156) hx hb dX11_next_196 (by decide) ?_
                          exact ih156 (up2 J156 110 (ma 0) v189_32) v193_33 (by omega) (by omega) _ _ _ hw (lv_sub hl [0, 1, 2] rfl)
                  exact lp156 _ (up2 (pJ S) 110 (ma 0) 0) (I119 106 (ma 0)) (by omega) (Nat.lt_succ_self _) _ _ _ hw (lv_sub hl [0, 1, 2] rfl)
            exact lp119 _ (up2 I8 107 (ma 0) v73_5)  (FrN.up (f := 107) (by decide) hF) (by rw [show (up2 I8 107 (ma 0) v73_5) 107 (ma 0) = (v73_5 : Int32) from (show up2 I8 107 (ma 0) v73_5 107 (ma 0) = v73_5 from up2_s), show (up2 I8 107 (ma 0) v73_5) 103 (ma 0) = (I8 103 (ma 0) : Int32) from rfl]; omega) (by rw [show (up2 I8 107 (ma 0) v73_5) 106 (ma 0) = (I8 106 (ma 0) : Int32) from rfl, show (up2 I8 107 (ma 0) v73_5) 103 (ma 0) = (I8 103 (ma 0) : Int32) from rfl]; omega) (Nat.lt_succ_self _) _ _ _ hw (lv_sub hl [0, 1] rfl)
          · have h113_8 := h113_8
            refine lv_if_eq (tgt := 225) hx hb dX11_next_116 (by decide) (fun c116_34 => ?_) (fun c116_34 => absurd c116_34 (by decide))
            refine lv_iload_n hx hb dX11_next_225 rfl (lv_at hl 0 rfl) ?_
            refine k_Si (n := 1) X hw (c_X11_isDigit l G _ r63_2) wd_r21_4 wd_r21_5 wd_r1_5 wd_r21_6 ⟨by decide, by decide, by decide +kernel⟩ rfl rfl ⟨Nat.le_of_ble_eq_true rfl, Nat.le_of_ble_eq_true rfl⟩ rfl rfl hl.1 (Nat.le_of_ble_eq_true rfl) dX11_next_226 ⟨Nat.le_of_ble_eq_true rfl, Nat.le_of_ble_eq_true rfl⟩ (fun r226_35 S226_37 H locs h226_36 hw => ?_)
            rcases h226_36 with ⟨rfl, rfl, h226_36⟩ | ⟨rfl, rfl, h226_36⟩
            · have h226_36 := h226_36
              refine lv_if_ne (tgt := 254) hx hb dX11_next_229 (by decide) (fun c229_38 => ?_) (fun c229_38 => absurd c229_38 (by decide))
              refine lv_aload_n hx hb dX11_next_254 rfl (lv_at hl 1 rfl) ?_
              refine lv_iload_n hx hb dX11_next_255 rfl (lv_at hl 0 rfl) ?_
              refine lv_bipush (v := 45) hx hb dX11_next_256 (by decide) ?_
              refine lv_icmp_ne (tgt := 265) hx hb dX11_next_258 (by decide) (fun c258_39 => ?_) (fun c258_39 => ?_)
              · have D258_39 := iNe c258_39 rfl t_45
                refine lv_iconst (v := 0) hx hb dX11_next_265 (by decide) ?_
                refine k_Vv (n := 1) X hw (rcvk (ci := 11) X hw hM.1 (fun _ _ _ _ _ _ _ => ⟨_, rfl⟩) rfl) (c_X11_readNumber l G _ ma 0 hM (show (I8 103 (ma 0) : Int32).toInt ≤ 1000 by omega) (show 0 ≤ (I8 106 (ma 0) : Int32).toInt ∧ (I8 106 (ma 0) : Int32).toInt < (I8 103 (ma 0) : Int32).toInt by omega)) wd_r21_7 wd_r21_8 wd_r21_9 wd_r1_5 wd_r21_10 ⟨by decide, by decide, by decide +kernel⟩ rfl rfl ⟨Nat.le_of_ble_eq_true rfl, Nat.le_of_ble_eq_true rfl⟩ rfl rfl hl.1 (Nat.le_of_ble_eq_true rfl) dX11_next_266 ⟨Nat.le_of_ble_eq_true rfl, Nat.le_of_ble_eq_true rfl⟩ (fun S266_41 H locs h266_40 hw => ?_)
                have := t_0
                obtain ⟨I266_42, rfl, h266_40⟩ := h266_40
                have hw : PX G A s.heap (ch S I266_42 (pJ S) (qI S) (qJ S)) H locs := hw
                have HQ := h266_40.2
                unfold eM at HQ
                refine lv_goto (tgt := 287) hx hb dX11_next_269 (by decide) ?_
                exact hret _ _ _ _ _ ⟨_, _, rfl, (FrN.tr (FrN.up (f := 107) (by decide) hF) h266_40.1), (eM_of (a := (I266_42 103 (ma 0) : Int32)) (b := (I266_42 107 (ma 0) : Int32)) rfl rfl (by omega))⟩ hw dX11_next_287
              · have D258_39 := iEq c258_39 rfl t_45
                refine lv_iconst (v := 1) hx hb dX11_next_261 (by decide) ?_
                refine lv_goto (tgt := 266) hx hb dX11_next_262 (by decide) ?_
                refine k_Vv (n := 1) X hw (rcvk (ci := 11) X hw hM.1 (fun _ _ _ _ _ _ _ => ⟨_, rfl⟩) rfl) (c_X11_readNumber l G _ ma 1 hM (show (I8 103 (ma 0) : Int32).toInt ≤ 1000 by omega) (show 0 ≤ (I8 106 (ma 0) : Int32).toInt ∧ (I8 106 (ma 0) : Int32).toInt < (I8 103 (ma 0) : Int32).toInt by omega)) wd_r21_7 wd_r21_8 wd_r21_9 wd_r1_5 wd_r21_10 ⟨by decide, by decide, by decide +kernel⟩ rfl rfl ⟨Nat.le_of_ble_eq_true rfl, Nat.le_of_ble_eq_true rfl⟩ rfl rfl hl.1 (Nat.le_of_ble_eq_true rfl) dX11_next_266 ⟨Nat.le_of_ble_eq_true rfl, Nat.le_of_ble_eq_true rfl⟩ (fun S266_44 H locs h266_43 hw => ?_)
                have := t_1
                obtain ⟨I266_45, rfl, h266_43⟩ := h266_43
                have hw : PX G A s.heap (ch S I266_45 (pJ S) (qI S) (qJ S)) H locs := hw
                have HQ := h266_43.2
                unfold eM at HQ
                refine lv_goto (tgt := 287) hx hb dX11_next_269 (by decide) ?_
                exact hret _ _ _ _ _ ⟨_, _, rfl, (FrN.tr (FrN.up (f := 107) (by decide) hF) h266_43.1), (eM_of (a := (I266_45 103 (ma 0) : Int32)) (b := (I266_45 107 (ma 0) : Int32)) rfl rfl (by omega))⟩ hw dX11_next_287
            · have h226_36 := h226_36
              refine lv_if_ne (tgt := 254) hx hb dX11_next_229 (by decide) (fun c229_46 => absurd c229_46 (by decide)) (fun c229_46 => ?_)
              refine lv_iload_n hx hb dX11_next_232 rfl (lv_at hl 0 rfl) ?_
              refine lv_bipush (v := 45) hx hb dX11_next_233 (by decide) ?_
              refine lv_icmp_ne (tgt := 272) hx hb dX11_next_235 (by decide) (fun c235_47 => ?_) (fun c235_47 => ?_)
              · have D235_47 := iNe c235_47 rfl t_45
                refine lv_aload_n hx hb dX11_next_272 rfl (lv_at hl 1 rfl) ?_
                refine lv_iload_n hx hb dX11_next_273 rfl (lv_at hl 0 rfl) ?_
                refine lv_bipush (v := 59) hx hb dX11_next_274 (by decide) ?_
                refine lv_icmp_ne (tgt := 283) hx hb dX11_next_276 (by decide) (fun c276_48 => ?_) (fun c276_48 => ?_)
                · have D276_48 := iNe c276_48 rfl t_59
                  refine lv_iconst (v := 1) hx hb dX11_next_283 (by decide) ?_
                  refine pf_X11_27 X hw hM.1 dX11_next_284 (fun H locs hw => ?_)
                  have hw : PX G A s.heap (ch S (up2 (up2 I8 107 (ma 0) v73_5) 108 (ma 0) 1) (pJ S) (qI S) (qJ S)) H locs := hw
                  exact hret _ _ _ _ _ ⟨_, _, rfl, (FrN.up (f := 108) (by decide) (FrN.up (f := 107) (by decide) hF)), (eM_of (a := (I8 103 (ma 0) : Int32)) (b := (v73_5 : Int32)) rfl (show up2 I8 107 (ma 0) v73_5 107 (ma 0) = v73_5 from up2_s) (by omega))⟩ hw dX11_next_287
                · have D276_48 := iEq c276_48 rfl t_59
                  refine lv_iconst (v := 4) hx hb dX11_next_279 (by decide) ?_
                  refine lv_goto (tgt := 284) hx hb dX11_next_280 (by decide) ?_
                  refine pf_X11_27 X hw hM.1 dX11_next_284 (fun H locs hw => ?_)
                  have hw : PX G A s.heap (ch S (up2 (up2 I8 107 (ma 0) v73_5) 108 (ma 0) 4) (pJ S) (qI S) (qJ S)) H locs := hw
                  exact hret _ _ _ _ _ ⟨_, _, rfl, (FrN.up (f := 108) (by decide) (FrN.up (f := 107) (by decide) hF)), (eM_of (a := (I8 103 (ma 0) : Int32)) (b := (v73_5 : Int32)) rfl (show up2 I8 107 (ma 0) v73_5 107 (ma 0) = v73_5 from up2_s) (by omega))⟩ hw dX11_next_287
              · have D235_47 := iEq c235_47 rfl t_45
                refine lv_aload_n hx hb dX11_next_238 rfl (lv_at hl 1 rfl) ?_
                refine lv_aload_n hx hb dX11_next_239 rfl (lv_at hl 1 rfl) ?_
                refine gf_X11_20 (v := I8 106 (ma 0)) X hw hM.1 rfl dX11_next_240 ?_
                refine lv_iconst (v := 1) hx hb dX11_next_243 (by decide) ?_
                refine lv_iadd hx hb dX11_next_244 ?_
                refine lv_topi (fun v244_49 e244_49 => ?_)
                have t244_49 := iAdd e244_49 rfl t_1 (by omega) (by omega)
                have t244 := t244_49
                refine k_Vi (n := 1) X hw (rcvk (ci := 11) X hw hM.1 (fun _ _ _ _ _ _ _ => ⟨_, rfl⟩) rfl) (c_X11_sign l G _ ma v244_49 hM (by omega) (show (I8 103 (ma 0) : Int32).toInt ≤ 1000 by omega)) wd_r20_21 wd_r20_22 wd_r20_23 wd_r1_5 wd_r21_0 ⟨by decide, by decide, by decide +kernel⟩ rfl rfl ⟨Nat.le_of_ble_eq_true rfl, Nat.le_of_ble_eq_true rfl⟩ rfl rfl hl.1 (Nat.le_of_ble_eq_true rfl) dX11_next_245 ⟨Nat.le_of_ble_eq_true rfl, Nat.le_of_ble_eq_true rfl⟩ (fun r245_50 S245_52 H locs h245_51 hw => ?_)
                obtain ⟨rfl, h245_51⟩ := h245_51
                have h245_51 : (I8 103 (ma 0) : Int32).toInt ≤ v244_49.toInt → r245_50.toInt = 0 := h245_51
                refine k_Si (n := 1) X hw (c_X11_isDigit l G _ r245_50) wd_r21_4 wd_r21_5 wd_r1_5 wd_r21_6 ⟨by decide, by decide, by decide +kernel⟩ rfl rfl ⟨Nat.le_of_ble_eq_true rfl, Nat.le_of_ble_eq_true rfl⟩ rfl rfl hl.1 (Nat.le_of_ble_eq_true rfl) dX11_next_248 ⟨Nat.le_of_ble_eq_true rfl, Nat.le_of_ble_eq_true rfl⟩ (fun r248_53 S248_55 H locs h248_54 hw => ?_)
                rcases h248_54 with ⟨rfl, rfl, h248_54⟩ | ⟨rfl, rfl, h248_54⟩
                · have h248_54 := h248_54
                  refine lv_if_eq (tgt := 272) hx hb dX11_next_251 (by decide) (fun c251_56 => absurd c251_56 (by decide)) (fun c251_56 => ?_)
                  refine lv_aload_n hx hb dX11_next_254 rfl (lv_at hl 1 rfl) ?_
                  refine lv_iload_n hx hb dX11_next_255 rfl (lv_at hl 0 rfl) ?_
                  refine lv_bipush (v := 45) hx hb dX11_next_256 (by decide) ?_
                  refine lv_icmp_ne (tgt := 265) hx hb dX11_next_258 (by decide) (fun c258_57 => ?_) (fun c258_57 => ?_)
                  · have D258_57 := iNe c258_57 rfl t_45
                    refine lv_iconst (v := 0) hx hb dX11_next_265 (by decide) ?_
                    refine k_Vv (n := 1) X hw (rcvk (ci := 11) X hw hM.1 (fun _ _ _ _ _ _ _ => ⟨_, rfl⟩) rfl) (c_X11_readNumber l G _ ma 0 hM (show (I8 103 (ma 0) : Int32).toInt ≤ 1000 by omega) (show 0 ≤ (I8 106 (ma 0) : Int32).toInt ∧ (I8 106 (ma 0) : Int32).toInt < (I8 103 (ma 0) : Int32).toInt by omega)) wd_r21_7 wd_r21_8 wd_r21_9 wd_r1_5 wd_r21_10 ⟨by decide, by decide, by decide +kernel⟩ rfl rfl ⟨Nat.le_of_ble_eq_true rfl, Nat.le_of_ble_eq_true rfl⟩ rfl rfl hl.1 (Nat.le_of_ble_eq_true rfl) dX11_next_266 ⟨Nat.le_of_ble_eq_true rfl, Nat.le_of_ble_eq_true rfl⟩ (fun S266_59 H locs h266_58 hw => ?_)
                    have := t_0
                    obtain ⟨I266_60, rfl, h266_58⟩ := h266_58
                    have hw : PX G A s.heap (ch S I266_60 (pJ S) (qI S) (qJ S)) H locs := hw
                    have HQ := h266_58.2
                    unfold eM at HQ
                    refine lv_goto (tgt := 287) hx hb dX11_next_269 (by decide) ?_
                    exact hret _ _ _ _ _ ⟨_, _, rfl, (FrN.tr (FrN.up (f := 107) (by decide) hF) h266_58.1), (eM_of (a := (I266_60 103 (ma 0) : Int32)) (b := (I266_60 107 (ma 0) : Int32)) rfl rfl (by omega))⟩ hw dX11_next_287
                  · have D258_57 := iEq c258_57 rfl t_45
                    refine lv_iconst (v := 1) hx hb dX11_next_261 (by decide) ?_
                    refine lv_goto (tgt := 266) hx hb dX11_next_262 (by decide) ?_
                    refine k_Vv (n := 1) X hw (rcvk (ci := 11) X hw hM.1 (fun _ _ _ _ _ _ _ => ⟨_, rfl⟩) rfl) (c_X11_readNumber l G _ ma 1 hM (show (I8 103 (ma 0) : Int32).toInt ≤ 1000 by omega) (show 0 ≤ (I8 106 (ma 0) : Int32).toInt ∧ (I8 106 (ma 0) : Int32).toInt < (I8 103 (ma 0) : Int32).toInt by omega)) wd_r21_7 wd_r21_8 wd_r21_9 wd_r1_5 wd_r21_10 ⟨by decide, by decide, by decide +kernel⟩ rfl rfl ⟨Nat.le_of_ble_eq_true rfl, Nat.le_of_ble_eq_true rfl⟩ rfl rfl hl.1 (Nat.le_of_ble_eq_true rfl) dX11_next_266 ⟨Nat.le_of_ble_eq_true rfl, Nat.le_of_ble_eq_true rfl⟩ (fun S266_62 H locs h266_61 hw => ?_)
                    have := t_1
                    obtain ⟨I266_63, rfl, h266_61⟩ := h266_61
                    have hw : PX G A s.heap (ch S I266_63 (pJ S) (qI S) (qJ S)) H locs := hw
                    have HQ := h266_61.2
                    unfold eM at HQ
                    refine lv_goto (tgt := 287) hx hb dX11_next_269 (by decide) ?_
                    exact hret _ _ _ _ _ ⟨_, _, rfl, (FrN.tr (FrN.up (f := 107) (by decide) hF) h266_61.1), (eM_of (a := (I266_63 103 (ma 0) : Int32)) (b := (I266_63 107 (ma 0) : Int32)) rfl rfl (by omega))⟩ hw dX11_next_287
                · have h248_54 := h248_54
                  refine lv_if_eq (tgt := 272) hx hb dX11_next_251 (by decide) (fun c251_64 => ?_) (fun c251_64 => absurd c251_64 (by decide))
                  refine lv_aload_n hx hb dX11_next_272 rfl (lv_at hl 1 rfl) ?_
                  refine lv_iload_n hx hb dX11_next_273 rfl (lv_at hl 0 rfl) ?_
                  refine lv_bipush (v := 59) hx hb dX11_next_274 (by decide) ?_
                  refine lv_icmp_ne (tgt := 283) hx hb dX11_next_276 (by decide) (fun c276_65 => ?_) (fun c276_65 => ?_)
                  · have D276_65 := iNe c276_65 rfl t_59
                    refine lv_iconst (v := 1) hx hb dX11_next_283 (by decide) ?_
                    refine pf_X11_27 X hw hM.1 dX11_next_284 (fun H locs hw => ?_)
                    have hw : PX G A s.heap (ch S (up2 (up2 I8 107 (ma 0) v73_5) 108 (ma 0) 1) (pJ S) (qI S) (qJ S)) H locs := hw
                    exact hret _ _ _ _ _ ⟨_, _, rfl, (FrN.up (f := 108) (by decide) (FrN.up (f := 107) (by decide) hF)), (eM_of (a := (I8 103 (ma 0) : Int32)) (b := (v73_5 : Int32)) rfl (show up2 I8 107 (ma 0) v73_5 107 (ma 0) = v73_5 from up2_s) (by omega))⟩ hw dX11_next_287
                  · have D276_65 := iEq c276_65 rfl t_59
                    refine lv_iconst (v := 4) hx hb dX11_next_279 (by decide) ?_
                    refine lv_goto (tgt := 284) hx hb dX11_next_280 (by decide) ?_
                    refine pf_X11_27 X hw hM.1 dX11_next_284 (fun H locs hw => ?_)
                    have hw : PX G A s.heap (ch S (up2 (up2 I8 107 (ma 0) v73_5) 108 (ma 0) 4) (pJ S) (qI S) (qJ S)) H locs := hw
                    exact hret _ _ _ _ _ ⟨_, _, rfl, (FrN.up (f := 108) (by decide) (FrN.up (f := 107) (by decide) hF)), (eM_of (a := (I8 103 (ma 0) : Int32)) (b := (v73_5 : Int32)) rfl (show up2 I8 107 (ma 0) v73_5 107 (ma 0) = v73_5 from up2_s) (by omega))⟩ hw dX11_next_287
        · have D85_6 := iNlt c85_6 rfl rfl
          refine lv_aload_n hx hb dX11_next_88 rfl (lv_at hl 1 rfl) ?_
          refine lv_iconst (v := 0) hx hb dX11_next_89 (by decide) ?_
          refine pf_X11_27 X hw hM.1 dX11_next_90 (fun H locs hw => ?_)
          have hw : PX G A s.heap (ch S (up2 (up2 I8 107 (ma 0) v73_5) 108 (ma 0) 0) (pJ S) (qI S) (qJ S)) H locs := hw
          refine lv_aload_n hx hb dX11_next_93 rfl (lv_at hl 1 rfl) ?_
          refine lv_aload_n hx hb dX11_next_94 rfl (lv_at hl 1 rfl) ?_
          refine gf_X11_1 (v := I8 103 (ma 0)) X hw hM.1 rfl dX11_next_95 ?_
          refine pf_X11_20 X hw hM.1 dX11_next_98 (fun H locs hw => ?_)
          have hw : PX G A s.heap (ch S (up2 (up2 (up2 I8 107 (ma 0) v73_5) 108 (ma 0) 0) 106 (ma 0) (I8 103 (ma 0))) (pJ S) (qI S) (qJ S)) H locs := hw
          refine lv_aload_n hx hb dX11_next_101 rfl (lv_at hl 1 rfl) ?_
          refine lv_aload_n hx hb dX11_next_102 rfl (lv_at hl 1 rfl) ?_
          refine gf_X11_1 (v := I8 103 (ma 0)) X hw hM.1 rfl dX11_next_103 ?_
          refine pf_X11_17 X hw hM.1 dX11_next_106 (fun H locs hw => ?_)
          have hw : PX G A s.heap (ch S (up2 (up2 (up2 (up2 I8 107 (ma 0) v73_5) 108 (ma 0) 0) 106 (ma 0) (I8 103 (ma 0))) 107 (ma 0) (I8 103 (ma 0))) (pJ S) (qI S) (qJ S)) H locs := hw
          refine lv_goto (tgt := 287) hx hb dX11_next_109 (by decide) ?_
          exact hret _ _ _ _ _ ⟨_, _, rfl, (FrN.up (f := 107) (by decide) (FrN.up (f := 106) (by decide) (FrN.up (f := 108) (by decide) (FrN.up (f := 107) (by decide) hF)))), (eM_of (a := (I8 103 (ma 0) : Int32)) (b := (I8 103 (ma 0) : Int32)) rfl (show up2 (up2 (up2 (up2 I8 107 (ma 0) v73_5) 108 (ma 0) 0) 106 (ma 0) (I8 103 (ma 0))) 107 (ma 0) (I8 103 (ma 0)) 107 (ma 0) = (I8 103 (ma 0)) from up2_s) (by omega))⟩ hw dX11_next_287
      · have D16_1 := iNle c16_1 rfl rfl
        refine lv_aload_n hx hb dX11_next_19 rfl (lv_at hl 0 rfl) ?_
        refine lv_aload_n hx hb dX11_next_20 rfl (lv_at hl 0 rfl) ?_
        refine gf_X11_20 (v := I8 106 (ma 0)) X hw hM.1 rfl dX11_next_21 ?_
        refine k_Vi (n := 1) X hw (rcvk (ci := 11) X hw hM.1 (fun _ _ _ _ _ _ _ => ⟨_, rfl⟩) rfl) (c_X11_sign l G _ ma (I8 106 (ma 0)) hM (by omega) (show (I8 103 (ma 0) : Int32).toInt ≤ 1000 by omega)) wd_r20_21 wd_r20_22 wd_r20_23 wd_r1_5 wd_r21_0 ⟨by decide, by decide, by decide +kernel⟩ rfl rfl ⟨Nat.le_of_ble_eq_true rfl, Nat.le_of_ble_eq_true rfl⟩ rfl rfl hl.1 (Nat.le_of_ble_eq_true rfl) dX11_next_24 ⟨Nat.le_of_ble_eq_true rfl, Nat.le_of_ble_eq_true rfl⟩ (fun r24_66 S24_68 H locs h24_67 hw => ?_)
        obtain ⟨rfl, h24_67⟩ := h24_67
        have h24_67 : (I8 103 (ma 0) : Int32).toInt ≤ (I8 106 (ma 0)).toInt → r24_66.toInt = 0 := h24_67
        refine lv_bipush (v := 32) hx hb dX11_next_27 (by decide) ?_
        refine lv_icmp_eq (tgt := 45) hx hb dX11_next_29 (by decide) (fun c29_69 => ?_) (fun c29_69 => ?_)
        · have D29_69 := iEq c29_69 rfl t_32
          refine lv_aload_n hx hb dX11_next_45 rfl (lv_at hl 0 rfl) ?_
          refine lv_dup hx hb dX11_next_46 rfl ?_
          refine gf_X11_20 (v := I8 106 (ma 0)) X hw hM.1 rfl dX11_next_47 ?_
          refine lv_iconst (v := 1) hx hb dX11_next_50 (by decide) ?_
          refine lv_iadd hx hb dX11_next_51 ?_
          refine lv_topi (fun v51_70 e51_70 => ?_)
          have t51_70 := iAdd e51_70 rfl t_1 (by omega) (by omega)
          have t51 := t51_70
          refine pf_X11_20 X hw hM.1 dX11_next_52 (fun H locs hw => ?_)
          have hw : PX G A s.heap (ch S (up2 I8 106 (ma 0) v51_70) (pJ S) (qI S) (qJ S)) H locs := hw
          refine lv_goto (tgt := 8) hx hb dX11_next_55 (by decide) ?_
          exact ih8 (up2 I8 106 (ma 0) v51_70)  (FrN.up (f := 106) (by decide) hF) (by rw [show (up2 I8 106 (ma 0) v51_70) 106 (ma 0) = (v51_70 : Int32) from (show up2 I8 106 (ma 0) v51_70 106 (ma 0) = v51_70 from up2_s), show (up2 I8 106 (ma 0) v51_70) 103 (ma 0) = (I8 103 (ma 0) : Int32) from rfl]; omega) (by rw [show (up2 I8 106 (ma 0) v51_70) 106 (ma 0) = (v51_70 : Int32) from (show up2 I8 106 (ma 0) v51_70 106 (ma 0) = v51_70 from up2_s), show (up2 I8 106 (ma 0) v51_70) 103 (ma 0) = (I8 103 (ma 0) : Int32) from rfl]; omega) _ _ _ hw (lv_sub hl [0] rfl)
        · have D29_69 := iNe c29_69 rfl t_32
          refine lv_aload_n hx hb dX11_next_32 rfl (lv_at hl 0 rfl) ?_
          refine lv_aload_n hx hb dX11_next_33 rfl (lv_at hl 0 rfl) ?_
          refine gf_X11_20 (v := I8 106 (ma 0)) X hw hM.1 rfl dX11_next_34 ?_
          refine k_Vi (n := 1) X hw (rcvk (ci := 11) X hw hM.1 (fun _ _ _ _ _ _ _ => ⟨_, rfl⟩) rfl) (c_X11_sign l G _ ma (I8 106 (ma 0)) hM (by omega) (show (I8 103 (ma 0) : Int32).toInt ≤ 1000 by omega)) wd_r20_21 wd_r20_22 wd_r20_23 wd_r1_5 wd_r21_0 ⟨by decide, by decide, by decide +kernel⟩ rfl rfl ⟨Nat.le_of_ble_eq_true rfl, Nat.le_of_ble_eq_true rfl⟩ rfl rfl hl.1 (Nat.le_of_ble_eq_true rfl) dX11_next_37 ⟨Nat.le_of_ble_eq_true rfl, Nat.le_of_ble_eq_true rfl⟩ (fun r37_71 S37_73 H locs h37_72 hw => ?_)
          obtain ⟨rfl, h37_72⟩ := h37_72
          have h37_72 : (I8 103 (ma 0) : Int32).toInt ≤ (I8 106 (ma 0)).toInt → r37_71.toInt = 0 := h37_72
          refine lv_bipush (v := 10) hx hb dX11_next_40 (by decide) ?_
          refine lv_icmp_ne (tgt := 58) hx hb dX11_next_42 (by decide) (fun c42_74 => ?_) (fun c42_74 => ?_)
          · have D42_74 := iNe c42_74 rfl t_10
            refine lv_aload_n hx hb dX11_next_58 rfl (lv_at hl 0 rfl) ?_
            refine lv_aload_n hx hb dX11_next_59 rfl (lv_at hl 0 rfl) ?_
            refine gf_X11_20 (v := I8 106 (ma 0)) X hw hM.1 rfl dX11_next_60 ?_
            refine k_Vi (n := 1) X hw (rcvk (ci := 11) X hw hM.1 (fun _ _ _ _ _ _ _ => ⟨_, rfl⟩) rfl) (c_X11_sign l G _ ma (I8 106 (ma 0)) hM (by omega) (show (I8 103 (ma 0) : Int32).toInt ≤ 1000 by omega)) wd_r20_21 wd_r20_22 wd_r20_23 wd_r1_5 wd_r21_0 ⟨by decide, by decide, by decide +kernel⟩ rfl rfl ⟨Nat.le_of_ble_eq_true rfl, Nat.le_of_ble_eq_true rfl⟩ rfl rfl hl.1 (Nat.le_of_ble_eq_true rfl) dX11_next_63 ⟨Nat.le_of_ble_eq_true rfl, Nat.le_of_ble_eq_true rfl⟩ (fun r63_75 S63_77 H locs h63_76 hw => ?_)
            obtain ⟨rfl, h63_76⟩ := h63_76
            have h63_76 : (I8 103 (ma 0) : Int32).toInt ≤ (I8 106 (ma 0)).toInt → r63_75.toInt = 0 := h63_76
            refine lv_istore_n (lv' := [(1, .int r63_75), (0, .ref (ma 0))]) hx hb dX11_next_66 rfl hl (by decide) rfl (fun ls hl => ?_)
            refine lv_aload_n hx hb dX11_next_67 rfl (lv_at hl 1 rfl) ?_
            refine lv_aload_n hx hb dX11_next_68 rfl (lv_at hl 1 rfl) ?_
            refine gf_X11_20 (v := I8 106 (ma 0)) X hw hM.1 rfl dX11_next_69 ?_
            refine lv_iconst (v := 1) hx hb dX11_next_72 (by decide) ?_
            refine lv_iadd hx hb dX11_next_73 ?_
            refine lv_topi (fun v73_78 e73_78 => ?_)
            have t73_78 := iAdd e73_78 rfl t_1 (by omega) (by omega)
            have t73 := t73_78
            refine pf_X11_17 X hw hM.1 dX11_next_74 (fun H locs hw => ?_)
            have hw : PX G A s.heap (ch S (up2 I8 107 (ma 0) v73_78) (pJ S) (qI S) (qJ S)) H locs := hw
            refine lv_aload_n hx hb dX11_next_77 rfl (lv_at hl 1 rfl) ?_
            refine gf_X11_20 (v := I8 106 (ma 0)) X hw hM.1 rfl dX11_next_78 ?_
            refine lv_aload_n hx hb dX11_next_81 rfl (lv_at hl 1 rfl) ?_
            refine gf_X11_1 (v := I8 103 (ma 0)) X hw hM.1 rfl dX11_next_82 ?_
            refine lv_icmp_lt (tgt := 112) hx hb dX11_next_85 (by decide) (fun c85_79 => ?_) (fun c85_79 => ?_)
            · have D85_79 := iLt c85_79 rfl rfl
              refine lv_iload_n hx hb dX11_next_112 rfl (lv_at hl 0 rfl) ?_
              refine k_Si (n := 1) X hw (c_X11_isLetter l G _ r63_75) wd_r21_1 wd_r21_2 wd_r1_5 wd_r21_3 ⟨by decide, by decide, by decide +kernel⟩ rfl rfl ⟨Nat.le_of_ble_eq_true rfl, Nat.le_of_ble_eq_true rfl⟩ rfl rfl hl.1 (Nat.le_of_ble_eq_true rfl) dX11_next_113 ⟨Nat.le_of_ble_eq_true rfl, Nat.le_of_ble_eq_true rfl⟩ (fun r113_80 S113_82 H locs h113_81 hw => ?_)
              rcases h113_81 with ⟨rfl, rfl, h113_81⟩ | ⟨rfl, rfl, h113_81⟩
              · have h113_81 := h113_81
                refine lv_if_eq (tgt := 225) hx hb dX11_next_116 (by decide) (fun c116_83 => absurd c116_83 (by decide)) (fun c116_83 => ?_)
                have lp119 : ∀ (N9 : Nat) (I119 : Nat → Nat → Int32), (FrN (pI S) I119) → (0 ≤ (I119 107 (ma 0)).toInt ∧ (I119 107 (ma 0)).toInt ≤ (I119 103 (ma 0)).toInt) → (0 ≤ (I119 106 (ma 0)).toInt ∧ (I119 106 (ma 0)).toInt < (I119 103 (ma 0)).toInt) → ((I119 103 (ma 0)).toInt - (I119 107 (ma 0)).toInt).toNat < N9 → ∀ (H : Heap) (locs : List Loc) (ls : Array Slot), PX G A s.heap (ch S I119 (pJ S) (qI S) (qJ S)) H locs → lv_has ls 3 [(1, .int r63_75), (0, .ref (ma 0))] → W p l e (Rm 2 0 0) s m args below meth c H locs 0 0 Q (F0 m 119 ls []) := by
                  intro N9
                  induction N9 with
                  | zero => intro I119 hF he ha hm; exact absurd hm (Nat.not_lt_zero _)
                  | succ N9 ih119 =>
                    intro I119 hF he ha hm H locs ls hw hl
                    have hsz := congrArg Int32.toInt (FrN.sz hF (ma 0))
                    refine lv_aload_n hx hb dX11_next_119 rfl (lv_at hl 1 rfl) ?_
                    refine lv_aload_n hx hb dX11_next_120 rfl (lv_at hl 1 rfl) ?_
                    refine gf_X11_17 (v := I119 107 (ma 0)) X hw hM.1 rfl dX11_next_121 ?_
                    refine k_Vi (n := 1) X hw (rcvk (ci := 11) X hw hM.1 (fun _ _ _ _ _ _ _ => ⟨_, rfl⟩) rfl) (c_X11_sign l G _ ma (I119 107 (ma 0)) hM (by omega) (show (I119 103 (ma 0) : Int32).toInt ≤ 1000 by omega)) wd_r20_21 wd_r20_22 wd_r20_23 wd_r1_5 wd_r21_0 ⟨by decide, by decide, by decide +kernel⟩ rfl rfl ⟨Nat.le_of_ble_eq_true rfl, Nat.le_of_ble_eq_true rfl⟩ rfl rfl hl.1 (Nat.le_of_ble_eq_true rfl) dX11_next_124 ⟨Nat.le_of_ble_eq_true rfl, Nat.le_of_ble_eq_true rfl⟩ (fun r124_84 S124_86 H locs h124_85 hw => ?_)
                    obtain ⟨rfl, h124_85⟩ := h124_85
                    have h124_85 : (I119 103 (ma 0) : Int32).toInt ≤ (I119 107 (ma 0)).toInt → r124_84.toInt = 0 := h124_85
                    refine k_Si (n := 1) X hw (c_X11_isLetter l G _ r124_84) wd_r21_1 wd_r21_2 wd_r1_5 wd_r21_3 ⟨by decide, by decide, by decide +kernel⟩ rfl rfl ⟨Nat.le_of_ble_eq_true rfl, Nat.le_of_ble_eq_true rfl⟩ rfl rfl hl.1 (Nat.le_of_ble_eq_true rfl) dX11_next_127 ⟨Nat.le_of_ble_eq_true rfl, Nat.le_of_ble_eq_true rfl⟩ (fun r127_87 S127_89 H locs h127_88 hw => ?_)
                    rcases h127_88 with ⟨rfl, rfl, h127_88⟩ | ⟨rfl, rfl, h127_88⟩
                    · have h127_88 := h127_88
                      refine lv_if_eq (tgt := 146) hx hb dX11_next_130 (by decide) (fun c130_90 => absurd c130_90 (by decide)) (fun c130_90 => ?_)
                      refine lv_aload_n hx hb dX11_next_133 rfl (lv_at hl 1 rfl) ?_
                      refine lv_dup hx hb dX11_next_134 rfl ?_
                      refine gf_X11_17 (v := I119 107 (ma 0)) X hw hM.1 rfl dX11_next_135 ?_
                      refine lv_iconst (v := 1) hx hb dX11_next_138 (by decide) ?_
                      refine lv_iadd hx hb dX11_next_139 ?_
                      refine lv_topi (fun v139_91 e139_91 => ?_)
                      have t139_91 := iAdd e139_91 rfl t_1 (by omega) (by omega)
                      have t139 := t139_91
                      refine pf_X11_17 X hw hM.1 dX11_next_140 (fun H locs hw => ?_)
                      have hw : PX G A s.heap (ch S (up2 I119 107 (ma 0) v139_91) (pJ S) (qI S) (qJ S)) H locs := hw
                      refine lv_goto (tgt := 119) hx hb dX11_next_143 (by decide) ?_
                      exact ih119 (up2 I119 107 (ma 0) v139_91)  (FrN.up (f := 107) (by decide) hF) (by rw [show (up2 I119 107 (ma 0) v139_91) 107 (ma 0) = (v139_91 : Int32) from (show up2 I119 107 (ma 0) v139_91 107 (ma 0) = v139_91 from up2_s), show (up2 I119 107 (ma 0) v139_91) 103 (ma 0) = (I119 103 (ma 0) : Int32) from rfl]; omega) (by rw [show (up2 I119 107 (ma 0) v139_91) 106 (ma 0) = (I119 106 (ma 0) : Int32) from rfl, show (up2 I119 107 (ma 0) v139_91) 103 (ma 0) = (I119 103 (ma 0) : Int32) from rfl]; omega) (by rw [show (up2 I119 107 (ma 0) v139_91) 107 (ma 0) = (v139_91 : Int32) from (show up2 I119 107 (ma 0) v139_91 107 (ma 0) = v139_91 from up2_s), show (up2 I119 107 (ma 0) v139_91) 103 (ma 0) = (I119 103 (ma 0) : Int32) from rfl]; omega) _ _ _ hw (lv_sub hl [0, 1] rfl)
                    · have h127_88 := h127_88
                      refine lv_if_eq (tgt := 146) hx hb dX11_next_130 (by decide) (fun c130_92 => ?_) (fun c130_92 => absurd c130_92 (by decide))
                      refine lv_aload_n hx hb dX11_next_146 rfl (lv_at hl 1 rfl) ?_
                      refine lv_lconst (v := 0) hx hb dX11_next_147 (by decide) ?_
                      refine pf_X11_34 X hw hM.1 dX11_next_148 (fun H locs hw => ?_)
                      have hw : PX G A s.heap (ch S I119 (up2 (pJ S) 110 (ma 0) 0) (qI S) (qJ S)) H locs := hw
                      refine lv_aload_n hx hb dX11_next_151 rfl (lv_at hl 1 rfl) ?_
                      refine gf_X11_20 (v := I119 106 (ma 0)) X hw hM.1 rfl dX11_next_152 ?_
                      refine lv_istore_n (lv' := [(2, .int (I119 106 (ma 0))), (1, .int r63_75), (0, .ref (ma 0))]) hx hb dX11_next_155 rfl hl (by decide) rfl (fun ls hl => ?_)
                      have lp156 : ∀ (N9 : Nat) (J156 : Nat → Nat → Int64) (k : Int32), (0 ≤ k.toInt) → ((I119 107 (ma 0)).toInt - k.toInt).toNat < N9 → ∀ (H : Heap) (locs : List Loc) (ls : Array Slot), PX G A s.heap (ch S I119 J156 (qI S) (qJ S)) H locs → lv_has ls 3 [(2, .int k), (1, .int r63_75), (0, .ref (ma 0))] → W p l e (Rm 2 0 0) s m args below meth c H locs 0 0 Q (F0 m 156 ls []) := by
                        intro N9
                        induction N9 with
                        | zero => intro J156 k hk hm; exact absurd hm (Nat.not_lt_zero _)
                        | succ N9 ih156 =>
                          intro J156 k hk hm H locs ls hw hl
                          refine lv_iload_n hx hb dX11_next_156 rfl (lv_at hl 0 rfl) ?_
                          refine lv_aload_n hx hb dX11_next_157 rfl (lv_at hl 2 rfl) ?_
                          refine gf_X11_17 (v := I119 107 (ma 0)) X hw hM.1 rfl dX11_next_158 ?_
                          refine lv_icmp_ge (tgt := 199) hx hb dX11_next_161 (by decide) (fun c161_93 => ?_) (fun c161_93 => ?_)
                          · have D161_93 := iLe c161_93 rfl rfl
                            refine lv_aload_n hx hb dX11_next_199 rfl (lv_at hl 2 rfl) ?_
                            refine lv_aload_n hx hb dX11_next_200 rfl (lv_at hl 2 rfl) ?_
                            refine gf_X11_17 (v := I119 107 (ma 0)) X hw hM.1 rfl dX11_next_201 ?_
                            refine lv_aload_n hx hb dX11_next_204 rfl (lv_at hl 2 rfl) ?_
                            refine gf_X11_20 (v := I119 106 (ma 0)) X hw hM.1 rfl dX11_next_205 ?_
                            refine lv_isub hx hb dX11_next_208 ?_
                            refine lv_topi (fun v208_94 e208_94 => ?_)
                            refine lv_bipush (v := 8) hx hb dX11_next_209 (by decide) ?_
                            refine lv_icmp_le (tgt := 218) hx hb dX11_next_211 (by decide) (fun c211_95 => ?_) (fun c211_95 => ?_)
                            · have D211_95 := iLe c211_95 rfl t_8
                              refine lv_iconst (v := 2) hx hb dX11_next_218 (by decide) ?_
                              refine pf_X11_27 X hw hM.1 dX11_next_219 (fun H locs hw => ?_)
                              have hw : PX G A s.heap (ch S (up2 I119 108 (ma 0) 2) J156 (qI S) (qJ S)) H locs := hw
                              refine lv_goto (tgt := 287) hx hb dX11_next_222 (by decide) ?_
                              exact hret _ _ _ _ _ ⟨_, _, rfl, (FrN.up (f := 108) (by decide) hF), (eM_of (a := (I119 103 (ma 0) : Int32)) (b := (I119 107 (ma 0) : Int32)) rfl rfl (by omega))⟩ hw dX11_next_287
                            · have D211_95 := iNle c211_95 rfl t_8
                              refine lv_iconst (v := 1) hx hb dX11_next_214 (by decide) ?_
                              refine lv_goto (tgt := 219) hx hb dX11_next_215 (by decide) ?_
                              refine pf_X11_27 X hw hM.1 dX11_next_219 (fun H locs hw => ?_)
                              have hw : PX G A s.heap (ch S (up2 I119 108 (ma 0) 1) J156 (qI S) (qJ S)) H locs := hw
                              refine lv_goto (tgt := 287) hx hb dX11_next_222 (by decide) ?_
                              exact hret _ _ _ _ _ ⟨_, _, rfl, (FrN.up (f := 108) (by decide) hF), (eM_of (a := (I119 103 (ma 0) : Int32)) (b := (I119 107 (ma 0) : Int32)) rfl rfl (by omega))⟩ hw dX11_next_287
                          · have D161_93 := iNle c161_93 rfl rfl
                            refine lv_iload_n hx hb dX11_next_164 rfl (lv_at hl 0 rfl) ?_
                            refine lv_aload_n hx hb dX11_next_165 rfl (lv_at hl 2 rfl) ?_
                            refine gf_X11_20 (v := I119 106 (ma 0)) X hw hM.1 rfl dX11_next_166 ?_
                            refine lv_bipush (v := 8) hx hb dX11_next_169 (by decide) ?_
                            refine lv_iadd hx hb dX11_next_171 ?_
                            refine lv_topi (fun v171_96 e171_96 => ?_)
                            refine lv_icmp_ge (tgt := 199) hx hb dX11_next_172 (by decide) (fun c172_97 => ?_) (fun c172_97 => ?_)
                            · have D172_97 := iLe c172_97 rfl rfl
                              refine lv_aload_n hx hb dX11_next_199 rfl (lv_at hl 2 rfl) ?_
                              refine lv_aload_n hx hb dX11_next_200 rfl (lv_at hl 2 rfl) ?_
                              refine gf_X11_17 (v := I119 107 (ma 0)) X hw hM.1 rfl dX11_next_201 ?_
                              refine lv_aload_n hx hb dX11_next_204 rfl (lv_at hl 2 rfl) ?_
                              refine gf_X11_20 (v := I119 106 (ma 0)) X hw hM.1 rfl dX11_next_205 ?_
                              refine lv_isub hx hb dX11_next_208 ?_
                              refine lv_topi (fun v208_98 e208_98 => ?_)
                              refine lv_bipush (v := 8) hx hb dX11_next_209 (by decide) ?_
                              refine lv_icmp_le (tgt := 218) hx hb dX11_next_211 (by decide) (fun c211_99 => ?_) (fun c211_99 => ?_)
                              · have D211_99 := iLe c211_99 rfl t_8
                                refine lv_iconst (v := 2) hx hb dX11_next_218 (by decide) ?_
                                refine pf_X11_27 X hw hM.1 dX11_next_219 (fun H locs hw => ?_)
                                have hw : PX G A s.heap (ch S (up2 I119 108 (ma 0) 2) J156 (qI S) (qJ S)) H locs := hw
                                refine lv_goto (tgt := 287) hx hb dX11_next_222 (by decide) ?_
                                exact hret _ _ _ _ _ ⟨_, _, rfl, (FrN.up (f := 108) (by decide) hF), (eM_of (a := (I119 103 (ma 0) : Int32)) (b := (I119 107 (ma 0) : Int32)) rfl rfl (by omega))⟩ hw dX11_next_287
                              · have D211_99 := iNle c211_99 rfl t_8
                                refine lv_iconst (v := 1) hx hb dX11_next_214 (by decide) ?_
                                refine lv_goto (tgt := 219) hx hb dX11_next_215 (by decide) ?_
                                refine pf_X11_27 X hw hM.1 dX11_next_219 (fun H locs hw => ?_)
                                have hw : PX G A s.heap (ch S (up2 I119 108 (ma 0) 1) J156 (qI S) (qJ S)) H locs := hw
                                refine lv_goto (tgt := 287) hx hb dX11_next_222 (by decide) ?_
                                exact hret _ _ _ _ _ ⟨_, _, rfl, (FrN.up (f := 108) (by decide) hF), (eM_of (a := (I119 103 (ma 0) : Int32)) (b := (I119 107 (ma 0) : Int32)) rfl rfl (by omega))⟩ hw dX11_next_287
                            · have D172_97 := iNle c172_97 rfl rfl
                              refine lv_aload_n hx hb dX11_next_175 rfl (lv_at hl 2 rfl) ?_
                              refine lv_aload_n hx hb dX11_next_176 rfl (lv_at hl 2 rfl) ?_
                              refine gf_X11_34 (v := J156 110 (ma 0)) X hw hM.1 rfl dX11_next_177 ?_
                              refine lv_bipush (v := 8) hx hb dX11_next_180 (by decide) ?_
                              refine lv_lshl hx hb dX11_next_182 rfl ?_
                              refine lv_topl (fun v182_100 e182_100 => ?_)
                              refine lv_aload_n hx hb dX11_next_183 rfl (lv_at hl 2 rfl) ?_
                              refine lv_iload_n hx hb dX11_next_184 rfl (lv_at hl 0 rfl) ?_
                              refine k_Vi (n := 1) X hw (rcvk (ci := 11) X hw hM.1 (fun _ _ _ _ _ _ _ => ⟨_, rfl⟩) rfl) (c_X11_sign l G _ ma k hM (by omega) (show (I119 103 (ma 0) : Int32).toInt ≤ 1000 by omega)) wd_r20_21 wd_r20_22 wd_r20_23 wd_r1_5 wd_r21_0 ⟨by decide, by decide, by decide +kernel⟩ rfl rfl ⟨Nat.le_of_ble_eq_true rfl, Nat.le_of_ble_eq_true rfl⟩ rfl rfl hl.1 (Nat.le_of_ble_eq_true rfl) dX11_next_185 ⟨Nat.le_of_ble_eq_true rfl, Nat.le_of_ble_eq_true rfl⟩ (fun r185_101 S185_103 H locs h185_102 hw => ?_)
                              obtain ⟨rfl, h185_102⟩ := h185_102
                              have h185_102 : (I119 103 (ma 0) : Int32).toInt ≤ k.toInt → r185_101.toInt = 0 := h185_102
                              refine lv_i2l hx hb dX11_next_188 rfl ?_
                              refine lv_topl (fun v188_104 e188_104 => ?_)
                              refine lv_lor hx hb dX11_next_189 ?_
                              refine lv_topl (fun v189_105 e189_105 => ?_)
                              refine pf_X11_34 X hw hM.1 dX11_next_190 (fun H locs hw => ?_)
                              have hw : PX G A s.heap (ch S I119 (up2 J156 110 (ma 0) v189_105) (qI S) (qJ S)) H locs := hw
                              obtain ⟨v193_106, e193_106⟩ : ∃ y : Int32, y = k + 1 := ⟨_, rfl⟩
                              have t193_106 := iAdd e193_106 rfl t_1 (by omega) (by omega)
                              have t193 := t193_106
                              refine lv_iinc (v := v193_106) (lv' := [(2, .int v193_106), (1, .int r63_75), (0, .ref (ma 0))]) hx hb dX11_next_193 hl (k := 0) rfl (by rw [e193_106]; rfl) (by decide) rfl (fun ls hl => ?_)
                              refine lv_goto (tgt := 156) hx hb dX11_next_196 (by decide) ?_
                              exact ih156 (up2 J156 110 (ma 0) v189_105) v193_106 (by omega) (by omega) _ _ _ hw (lv_sub hl [0, 1, 2] rfl)
                      exact lp156 _ (up2 (pJ S) 110 (ma 0) 0) (I119 106 (ma 0)) (by omega) (Nat.lt_succ_self _) _ _ _ hw (lv_sub hl [0, 1, 2] rfl)
                exact lp119 _ (up2 I8 107 (ma 0) v73_78)  (FrN.up (f := 107) (by decide) hF) (by rw [show (up2 I8 107 (ma 0) v73_78) 107 (ma 0) = (v73_78 : Int32) from (show up2 I8 107 (ma 0) v73_78 107 (ma 0) = v73_78 from up2_s), show (up2 I8 107 (ma 0) v73_78) 103 (ma 0) = (I8 103 (ma 0) : Int32) from rfl]; omega) (by rw [show (up2 I8 107 (ma 0) v73_78) 106 (ma 0) = (I8 106 (ma 0) : Int32) from rfl, show (up2 I8 107 (ma 0) v73_78) 103 (ma 0) = (I8 103 (ma 0) : Int32) from rfl]; omega) (Nat.lt_succ_self _) _ _ _ hw (lv_sub hl [0, 1] rfl)
              · have h113_81 := h113_81
                refine lv_if_eq (tgt := 225) hx hb dX11_next_116 (by decide) (fun c116_107 => ?_) (fun c116_107 => absurd c116_107 (by decide))
                refine lv_iload_n hx hb dX11_next_225 rfl (lv_at hl 0 rfl) ?_
                refine k_Si (n := 1) X hw (c_X11_isDigit l G _ r63_75) wd_r21_4 wd_r21_5 wd_r1_5 wd_r21_6 ⟨by decide, by decide, by decide +kernel⟩ rfl rfl ⟨Nat.le_of_ble_eq_true rfl, Nat.le_of_ble_eq_true rfl⟩ rfl rfl hl.1 (Nat.le_of_ble_eq_true rfl) dX11_next_226 ⟨Nat.le_of_ble_eq_true rfl, Nat.le_of_ble_eq_true rfl⟩ (fun r226_108 S226_110 H locs h226_109 hw => ?_)
                rcases h226_109 with ⟨rfl, rfl, h226_109⟩ | ⟨rfl, rfl, h226_109⟩
                · have h226_109 := h226_109
                  refine lv_if_ne (tgt := 254) hx hb dX11_next_229 (by decide) (fun c229_111 => ?_) (fun c229_111 => absurd c229_111 (by decide))
                  refine lv_aload_n hx hb dX11_next_254 rfl (lv_at hl 1 rfl) ?_
                  refine lv_iload_n hx hb dX11_next_255 rfl (lv_at hl 0 rfl) ?_
                  refine lv_bipush (v := 45) hx hb dX11_next_256 (by decide) ?_
                  refine lv_icmp_ne (tgt := 265) hx hb dX11_next_258 (by decide) (fun c258_112 => ?_) (fun c258_112 => ?_)
                  · have D258_112 := iNe c258_112 rfl t_45
                    refine lv_iconst (v := 0) hx hb dX11_next_265 (by decide) ?_
                    refine k_Vv (n := 1) X hw (rcvk (ci := 11) X hw hM.1 (fun _ _ _ _ _ _ _ => ⟨_, rfl⟩) rfl) (c_X11_readNumber l G _ ma 0 hM (show (I8 103 (ma 0) : Int32).toInt ≤ 1000 by omega) (show 0 ≤ (I8 106 (ma 0) : Int32).toInt ∧ (I8 106 (ma 0) : Int32).toInt < (I8 103 (ma 0) : Int32).toInt by omega)) wd_r21_7 wd_r21_8 wd_r21_9 wd_r1_5 wd_r21_10 ⟨by decide, by decide, by decide +kernel⟩ rfl rfl ⟨Nat.le_of_ble_eq_true rfl, Nat.le_of_ble_eq_true rfl⟩ rfl rfl hl.1 (Nat.le_of_ble_eq_true rfl) dX11_next_266 ⟨Nat.le_of_ble_eq_true rfl, Nat.le_of_ble_eq_true rfl⟩ (fun S266_114 H locs h266_113 hw => ?_)
                    have := t_0
                    obtain ⟨I266_115, rfl, h266_113⟩ := h266_113
                    have hw : PX G A s.heap (ch S I266_115 (pJ S) (qI S) (qJ S)) H locs := hw
                    have HQ := h266_113.2
                    unfold eM at HQ
                    refine lv_goto (tgt := 287) hx hb dX11_next_269 (by decide) ?_
                    exact hret _ _ _ _ _ ⟨_, _, rfl, (FrN.tr (FrN.up (f := 107) (by decide) hF) h266_113.1), (eM_of (a := (I266_115 103 (ma 0) : Int32)) (b := (I266_115 107 (ma 0) : Int32)) rfl rfl (by omega))⟩ hw dX11_next_287
                  · have D258_112 := iEq c258_112 rfl t_45
                    refine lv_iconst (v := 1) hx hb dX11_next_261 (by decide) ?_
                    refine lv_goto (tgt := 266) hx hb dX11_next_262 (by decide) ?_
                    refine k_Vv (n := 1) X hw (rcvk (ci := 11) X hw hM.1 (fun _ _ _ _ _ _ _ => ⟨_, rfl⟩) rfl) (c_X11_readNumber l G _ ma 1 hM (show (I8 103 (ma 0) : Int32).toInt ≤ 1000 by omega) (show 0 ≤ (I8 106 (ma 0) : Int32).toInt ∧ (I8 106 (ma 0) : Int32).toInt < (I8 103 (ma 0) : Int32).toInt by omega)) wd_r21_7 wd_r21_8 wd_r21_9 wd_r1_5 wd_r21_10 ⟨by decide, by decide, by decide +kernel⟩ rfl rfl ⟨Nat.le_of_ble_eq_true rfl, Nat.le_of_ble_eq_true rfl⟩ rfl rfl hl.1 (Nat.le_of_ble_eq_true rfl) dX11_next_266 ⟨Nat.le_of_ble_eq_true rfl, Nat.le_of_ble_eq_true rfl⟩ (fun S266_117 H locs h266_116 hw => ?_)
                    have := t_1
                    obtain ⟨I266_118, rfl, h266_116⟩ := h266_116
                    have hw : PX G A s.heap (ch S I266_118 (pJ S) (qI S) (qJ S)) H locs := hw
                    have HQ := h266_116.2
                    unfold eM at HQ
                    refine lv_goto (tgt := 287) hx hb dX11_next_269 (by decide) ?_
                    exact hret _ _ _ _ _ ⟨_, _, rfl, (FrN.tr (FrN.up (f := 107) (by decide) hF) h266_116.1), (eM_of (a := (I266_118 103 (ma 0) : Int32)) (b := (I266_118 107 (ma 0) : Int32)) rfl rfl (by omega))⟩ hw dX11_next_287
                · have h226_109 := h226_109
                  refine lv_if_ne (tgt := 254) hx hb dX11_next_229 (by decide) (fun c229_119 => absurd c229_119 (by decide)) (fun c229_119 => ?_)
                  refine lv_iload_n hx hb dX11_next_232 rfl (lv_at hl 0 rfl) ?_
                  refine lv_bipush (v := 45) hx hb dX11_next_233 (by decide) ?_
                  refine lv_icmp_ne (tgt := 272) hx hb dX11_next_235 (by decide) (fun c235_120 => ?_) (fun c235_120 => ?_)
                  · have D235_120 := iNe c235_120 rfl t_45
                    refine lv_aload_n hx hb dX11_next_272 rfl (lv_at hl 1 rfl) ?_
                    refine lv_iload_n hx hb dX11_next_273 rfl (lv_at hl 0 rfl) ?_
                    refine lv_bipush (v := 59) hx hb dX11_next_274 (by decide) ?_
                    refine lv_icmp_ne (tgt := 283) hx hb dX11_next_276 (by decide) (fun c276_121 => ?_) (fun c276_121 => ?_)
                    · have D276_121 := iNe c276_121 rfl t_59
                      refine lv_iconst (v := 1) hx hb dX11_next_283 (by decide) ?_
                      refine pf_X11_27 X hw hM.1 dX11_next_284 (fun H locs hw => ?_)
                      have hw : PX G A s.heap (ch S (up2 (up2 I8 107 (ma 0) v73_78) 108 (ma 0) 1) (pJ S) (qI S) (qJ S)) H locs := hw
                      exact hret _ _ _ _ _ ⟨_, _, rfl, (FrN.up (f := 108) (by decide) (FrN.up (f := 107) (by decide) hF)), (eM_of (a := (I8 103 (ma 0) : Int32)) (b := (v73_78 : Int32)) rfl (show up2 I8 107 (ma 0) v73_78 107 (ma 0) = v73_78 from up2_s) (by omega))⟩ hw dX11_next_287
                    · have D276_121 := iEq c276_121 rfl t_59
                      refine lv_iconst (v := 4) hx hb dX11_next_279 (by decide) ?_
                      refine lv_goto (tgt := 284) hx hb dX11_next_280 (by decide) ?_
                      refine pf_X11_27 X hw hM.1 dX11_next_284 (fun H locs hw => ?_)
                      have hw : PX G A s.heap (ch S (up2 (up2 I8 107 (ma 0) v73_78) 108 (ma 0) 4) (pJ S) (qI S) (qJ S)) H locs := hw
                      exact hret _ _ _ _ _ ⟨_, _, rfl, (FrN.up (f := 108) (by decide) (FrN.up (f := 107) (by decide) hF)), (eM_of (a := (I8 103 (ma 0) : Int32)) (b := (v73_78 : Int32)) rfl (show up2 I8 107 (ma 0) v73_78 107 (ma 0) = v73_78 from up2_s) (by omega))⟩ hw dX11_next_287
                  · have D235_120 := iEq c235_120 rfl t_45
                    refine lv_aload_n hx hb dX11_next_238 rfl (lv_at hl 1 rfl) ?_
                    refine lv_aload_n hx hb dX11_next_239 rfl (lv_at hl 1 rfl) ?_
                    refine gf_X11_20 (v := I8 106 (ma 0)) X hw hM.1 rfl dX11_next_240 ?_
                    refine lv_iconst (v := 1) hx hb dX11_next_243 (by decide) ?_
                    refine lv_iadd hx hb dX11_next_244 ?_
                    refine lv_topi (fun v244_122 e244_122 => ?_)
                    have t244_122 := iAdd e244_122 rfl t_1 (by omega) (by omega)
                    have t244 := t244_122
                    refine k_Vi (n := 1) X hw (rcvk (ci := 11) X hw hM.1 (fun _ _ _ _ _ _ _ => ⟨_, rfl⟩) rfl) (c_X11_sign l G _ ma v244_122 hM (by omega) (show (I8 103 (ma 0) : Int32).toInt ≤ 1000 by omega)) wd_r20_21 wd_r20_22 wd_r20_23 wd_r1_5 wd_r21_0 ⟨by decide, by decide, by decide +kernel⟩ rfl rfl ⟨Nat.le_of_ble_eq_true rfl, Nat.le_of_ble_eq_true rfl⟩ rfl rfl hl.1 (Nat.le_of_ble_eq_true rfl) dX11_next_245 ⟨Nat.le_of_ble_eq_true rfl, Nat.le_of_ble_eq_true rfl⟩ (fun r245_123 S245_125 H locs h245_124 hw => ?_)
                    obtain ⟨rfl, h245_124⟩ := h245_124
                    have h245_124 : (I8 103 (ma 0) : Int32).toInt ≤ v244_122.toInt → r245_123.toInt = 0 := h245_124
                    refine k_Si (n := 1) X hw (c_X11_isDigit l G _ r245_123) wd_r21_4 wd_r21_5 wd_r1_5 wd_r21_6 ⟨by decide, by decide, by decide +kernel⟩ rfl rfl ⟨Nat.le_of_ble_eq_true rfl, Nat.le_of_ble_eq_true rfl⟩ rfl rfl hl.1 (Nat.le_of_ble_eq_true rfl) dX11_next_248 ⟨Nat.le_of_ble_eq_true rfl, Nat.le_of_ble_eq_true rfl⟩ (fun r248_126 S248_128 H locs h248_127 hw => ?_)
                    rcases h248_127 with ⟨rfl, rfl, h248_127⟩ | ⟨rfl, rfl, h248_127⟩
                    · have h248_127 := h248_127
                      refine lv_if_eq (tgt := 272) hx hb dX11_next_251 (by decide) (fun c251_129 => absurd c251_129 (by decide)) (fun c251_129 => ?_)
                      refine lv_aload_n hx hb dX11_next_254 rfl (lv_at hl 1 rfl) ?_
                      refine lv_iload_n hx hb dX11_next_255 rfl (lv_at hl 0 rfl) ?_
                      refine lv_bipush (v := 45) hx hb dX11_next_256 (by decide) ?_
                      refine lv_icmp_ne (tgt := 265) hx hb dX11_next_258 (by decide) (fun c258_130 => ?_) (fun c258_130 => ?_)
                      · have D258_130 := iNe c258_130 rfl t_45
                        refine lv_iconst (v := 0) hx hb dX11_next_265 (by decide) ?_
                        refine k_Vv (n := 1) X hw (rcvk (ci := 11) X hw hM.1 (fun _ _ _ _ _ _ _ => ⟨_, rfl⟩) rfl) (c_X11_readNumber l G _ ma 0 hM (show (I8 103 (ma 0) : Int32).toInt ≤ 1000 by omega) (show 0 ≤ (I8 106 (ma 0) : Int32).toInt ∧ (I8 106 (ma 0) : Int32).toInt < (I8 103 (ma 0) : Int32).toInt by omega)) wd_r21_7 wd_r21_8 wd_r21_9 wd_r1_5 wd_r21_10 ⟨by decide, by decide, by decide +kernel⟩ rfl rfl ⟨Nat.le_of_ble_eq_true rfl, Nat.le_of_ble_eq_true rfl⟩ rfl rfl hl.1 (Nat.le_of_ble_eq_true rfl) dX11_next_266 ⟨Nat.le_of_ble_eq_true rfl, Nat.le_of_ble_eq_true rfl⟩ (fun S266_132 H locs h266_131 hw => ?_)
                        have := t_0
                        obtain ⟨I266_133, rfl, h266_131⟩ := h266_131
                        have hw : PX G A s.heap (ch S I266_133 (pJ S) (qI S) (qJ S)) H locs := hw
                        have HQ := h266_131.2
                        unfold eM at HQ
                        refine lv_goto (tgt := 287) hx hb dX11_next_269 (by decide) ?_
                        exact hret _ _ _ _ _ ⟨_, _, rfl, (FrN.tr (FrN.up (f := 107) (by decide) hF) h266_131.1), (eM_of (a := (I266_133 103 (ma 0) : Int32)) (b := (I266_133 107 (ma 0) : Int32)) rfl rfl (by omega))⟩ hw dX11_next_287
                      · have D258_130 := iEq c258_130 rfl t_45
                        refine lv_iconst (v := 1) hx hb dX11_next_261 (by decide) ?_
                        refine lv_goto (tgt := 266) hx hb dX11_next_262 (by decide) ?_
                        refine k_Vv (n := 1) X hw (rcvk (ci := 11) X hw hM.1 (fun _ _ _ _ _ _ _ => ⟨_, rfl⟩) rfl) (c_X11_readNumber l G _ ma 1 hM (show (I8 103 (ma 0) : Int32).toInt ≤ 1000 by omega) (show 0 ≤ (I8 106 (ma 0) : Int32).toInt ∧ (I8 106 (ma 0) : Int32).toInt < (I8 103 (ma 0) : Int32).toInt by omega)) wd_r21_7 wd_r21_8 wd_r21_9 wd_r1_5 wd_r21_10 ⟨by decide, by decide, by decide +kernel⟩ rfl rfl ⟨Nat.le_of_ble_eq_true rfl, Nat.le_of_ble_eq_true rfl⟩ rfl rfl hl.1 (Nat.le_of_ble_eq_true rfl) dX11_next_266 ⟨Nat.le_of_ble_eq_true rfl, Nat.le_of_ble_eq_true rfl⟩ (fun S266_135 H locs h266_134 hw => ?_)
                        have := t_1
                        obtain ⟨I266_136, rfl, h266_134⟩ := h266_134
                        have hw : PX G A s.heap (ch S I266_136 (pJ S) (qI S) (qJ S)) H locs := hw
                        have HQ := h266_134.2
                        unfold eM at HQ
                        refine lv_goto (tgt := 287) hx hb dX11_next_269 (by decide) ?_
                        exact hret _ _ _ _ _ ⟨_, _, rfl, (FrN.tr (FrN.up (f := 107) (by decide) hF) h266_134.1), (eM_of (a := (I266_136 103 (ma 0) : Int32)) (b := (I266_136 107 (ma 0) : Int32)) rfl rfl (by omega))⟩ hw dX11_next_287
                    · have h248_127 := h248_127
                      refine lv_if_eq (tgt := 272) hx hb dX11_next_251 (by decide) (fun c251_137 => ?_) (fun c251_137 => absurd c251_137 (by decide))
                      refine lv_aload_n hx hb dX11_next_272 rfl (lv_at hl 1 rfl) ?_
                      refine lv_iload_n hx hb dX11_next_273 rfl (lv_at hl 0 rfl) ?_
                      refine lv_bipush (v := 59) hx hb dX11_next_274 (by decide) ?_
                      refine lv_icmp_ne (tgt := 283) hx hb dX11_next_276 (by decide) (fun c276_138 => ?_) (fun c276_138 => ?_)
                      · have D276_138 := iNe c276_138 rfl t_59
                        refine lv_iconst (v := 1) hx hb dX11_next_283 (by decide) ?_
                        refine pf_X11_27 X hw hM.1 dX11_next_284 (fun H locs hw => ?_)
                        have hw : PX G A s.heap (ch S (up2 (up2 I8 107 (ma 0) v73_78) 108 (ma 0) 1) (pJ S) (qI S) (qJ S)) H locs := hw
                        exact hret _ _ _ _ _ ⟨_, _, rfl, (FrN.up (f := 108) (by decide) (FrN.up (f := 107) (by decide) hF)), (eM_of (a := (I8 103 (ma 0) : Int32)) (b := (v73_78 : Int32)) rfl (show up2 I8 107 (ma 0) v73_78 107 (ma 0) = v73_78 from up2_s) (by omega))⟩ hw dX11_next_287
                      · have D276_138 := iEq c276_138 rfl t_59
                        refine lv_iconst (v := 4) hx hb dX11_next_279 (by decide) ?_
                        refine lv_goto (tgt := 284) hx hb dX11_next_280 (by decide) ?_
                        refine pf_X11_27 X hw hM.1 dX11_next_284 (fun H locs hw => ?_)
                        have hw : PX G A s.heap (ch S (up2 (up2 I8 107 (ma 0) v73_78) 108 (ma 0) 4) (pJ S) (qI S) (qJ S)) H locs := hw
                        exact hret _ _ _ _ _ ⟨_, _, rfl, (FrN.up (f := 108) (by decide) (FrN.up (f := 107) (by decide) hF)), (eM_of (a := (I8 103 (ma 0) : Int32)) (b := (v73_78 : Int32)) rfl (show up2 I8 107 (ma 0) v73_78 107 (ma 0) = v73_78 from up2_s) (by omega))⟩ hw dX11_next_287
            · have D85_79 := iNlt c85_79 rfl rfl
              refine lv_aload_n hx hb dX11_next_88 rfl (lv_at hl 1 rfl) ?_
              refine lv_iconst (v := 0) hx hb dX11_next_89 (by decide) ?_
              refine pf_X11_27 X hw hM.1 dX11_next_90 (fun H locs hw => ?_)
              have hw : PX G A s.heap (ch S (up2 (up2 I8 107 (ma 0) v73_78) 108 (ma 0) 0) (pJ S) (qI S) (qJ S)) H locs := hw
              refine lv_aload_n hx hb dX11_next_93 rfl (lv_at hl 1 rfl) ?_
              refine lv_aload_n hx hb dX11_next_94 rfl (lv_at hl 1 rfl) ?_
              refine gf_X11_1 (v := I8 103 (ma 0)) X hw hM.1 rfl dX11_next_95 ?_
              refine pf_X11_20 X hw hM.1 dX11_next_98 (fun H locs hw => ?_)
              have hw : PX G A s.heap (ch S (up2 (up2 (up2 I8 107 (ma 0) v73_78) 108 (ma 0) 0) 106 (ma 0) (I8 103 (ma 0))) (pJ S) (qI S) (qJ S)) H locs := hw
              refine lv_aload_n hx hb dX11_next_101 rfl (lv_at hl 1 rfl) ?_
              refine lv_aload_n hx hb dX11_next_102 rfl (lv_at hl 1 rfl) ?_
              refine gf_X11_1 (v := I8 103 (ma 0)) X hw hM.1 rfl dX11_next_103 ?_
              refine pf_X11_17 X hw hM.1 dX11_next_106 (fun H locs hw => ?_)
              have hw : PX G A s.heap (ch S (up2 (up2 (up2 (up2 I8 107 (ma 0) v73_78) 108 (ma 0) 0) 106 (ma 0) (I8 103 (ma 0))) 107 (ma 0) (I8 103 (ma 0))) (pJ S) (qI S) (qJ S)) H locs := hw
              refine lv_goto (tgt := 287) hx hb dX11_next_109 (by decide) ?_
              exact hret _ _ _ _ _ ⟨_, _, rfl, (FrN.up (f := 107) (by decide) (FrN.up (f := 106) (by decide) (FrN.up (f := 108) (by decide) (FrN.up (f := 107) (by decide) hF)))), (eM_of (a := (I8 103 (ma 0) : Int32)) (b := (I8 103 (ma 0) : Int32)) rfl (show up2 (up2 (up2 (up2 I8 107 (ma 0) v73_78) 108 (ma 0) 0) 106 (ma 0) (I8 103 (ma 0))) 107 (ma 0) (I8 103 (ma 0)) 107 (ma 0) = (I8 103 (ma 0)) from up2_s) (by omega))⟩ hw dX11_next_287
          · have D42_74 := iEq c42_74 rfl t_10
            refine lv_aload_n hx hb dX11_next_45 rfl (lv_at hl 0 rfl) ?_
            refine lv_dup hx hb dX11_next_46 rfl ?_
            refine gf_X11_20 (v := I8 106 (ma 0)) X hw hM.1 rfl dX11_next_47 ?_
            refine lv_iconst (v := 1) hx hb dX11_next_50 (by decide) ?_
            refine lv_iadd hx hb dX11_next_51 ?_
            refine lv_topi (fun v51_139 e51_139 => ?_)
            have t51_139 := iAdd e51_139 rfl t_1 (by omega) (by omega)
            have t51 := t51_139
            refine pf_X11_20 X hw hM.1 dX11_next_52 (fun H locs hw => ?_)
            have hw : PX G A s.heap (ch S (up2 I8 106 (ma 0) v51_139) (pJ S) (qI S) (qJ S)) H locs := hw
            refine lv_goto (tgt := 8) hx hb dX11_next_55 (by decide) ?_
            exact ih8 (up2 I8 106 (ma 0) v51_139)  (FrN.up (f := 106) (by decide) hF) (by rw [show (up2 I8 106 (ma 0) v51_139) 106 (ma 0) = (v51_139 : Int32) from (show up2 I8 106 (ma 0) v51_139 106 (ma 0) = v51_139 from up2_s), show (up2 I8 106 (ma 0) v51_139) 103 (ma 0) = (I8 103 (ma 0) : Int32) from rfl]; omega) (by rw [show (up2 I8 106 (ma 0) v51_139) 106 (ma 0) = (v51_139 : Int32) from (show up2 I8 106 (ma 0) v51_139 106 (ma 0) = v51_139 from up2_s), show (up2 I8 106 (ma 0) v51_139) 103 (ma 0) = (I8 103 (ma 0) : Int32) from rfl]; omega) _ _ _ hw (lv_sub hl [0] rfl)
  exact lp8 _ (up2 (pI S) 106 (ma 0) ((pI S) 107 (ma 0)))  (FrN.up (f := 106) (by decide) FrN.rf) (by rw [show (up2 (pI S) 106 (ma 0) ((pI S) 107 (ma 0))) 106 (ma 0) = ((pI S) 107 (ma 0) : Int32) from (show up2 (pI S) 106 (ma 0) ((pI S) 107 (ma 0)) 106 (ma 0) = ((pI S) 107 (ma 0)) from up2_s), show (up2 (pI S) 106 (ma 0) ((pI S) 107 (ma 0))) 103 (ma 0) = ((pI S) 103 (ma 0) : Int32) from rfl]; omega) (Nat.lt_succ_self _) _ _ _ hw (lv_sub hl [0] rfl)
