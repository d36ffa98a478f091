set_option maxHeartbeats 4000000 in
set_option maxRecDepth 100000 in
theorem c_X10_within (l : Launch) (G : Gh) (S : Pl) (x y z : Int32)  : MtI l yX10_within cX10_within 3 (some .boolean) (Rm 0 0 0) G [.int x, .int y, .int z] S (fun (r : Int32) (S' : Pl) => (S = S' ∧ r = 1 ∧ (y.toInt ≤ x.toInt ∧ x.toInt ≤ z.toInt)) ∨ (S = S' ∧ r = 0 ∧ ¬ (y.toInt ≤ x.toInt ∧ x.toInt ≤ z.toInt))) 0 0 := by
  refine MtI.of (by decide) (Nat.le_of_ble_eq_true rfl) ?_
  intro p e s m args below meth c Q A X hw hin hret ls hl
  have hx := X.1.1
  have hb := X.1.2.1
  have hl : lv_has ls 3 [(0, .int x), (1, .int y), (2, .int z)] := hl
  refine lv_iload_n hx hb dX10_within_0 rfl (lv_at hl 0 rfl) ?_
  refine lv_iload_n hx hb dX10_within_1 rfl (lv_at hl 1 rfl) ?_
  refine lv_icmp_lt (tgt := 14) hx hb dX10_within_2 (by decide) (fun c2_1 => ?_) (fun c2_1 => ?_)
  · have D2_1 := iLt c2_1 rfl rfl
    refine lv_iconst (v := 0) hx hb dX10_within_14 (by decide) ?_
    exact hret 0 _ _ _ _ _ (Or.inr ⟨rfl, rfl, by omega⟩) hw rfl dX10_within_15
  · have D2_1 := iNlt c2_1 rfl rfl
    refine lv_iload_n hx hb dX10_within_5 rfl (lv_at hl 0 rfl) ?_
    refine lv_iload_n hx hb dX10_within_6 rfl (lv_at hl 2 rfl) ?_
    refine lv_icmp_gt (tgt := 14) hx hb dX10_within_7 (by decide) (fun c7_2 => ?_) (fun c7_2 => ?_)
    · have D7_2 := iLt c7_2 rfl rfl
      refine lv_iconst (v := 0) hx hb dX10_within_14 (by decide) ?_
      exact hret 0 _ _ _ _ _ (Or.inr ⟨rfl, rfl, by omega⟩) hw rfl dX10_within_15
    · have D7_2 := iNlt c7_2 rfl rfl
      refine lv_iconst (v := 1) hx hb dX10_within_10 (by decide) ?_
      refine lv_goto (tgt := 15) hx hb dX10_within_11 (by decide) ?_
      exact hret 1 _ _ _ _ _ (Or.inl ⟨rfl, rfl, by omega⟩) hw rfl dX10_within_15
set_option maxHeartbeats 4000000 in
set_option maxRecDepth 100000 in
theorem c_X10_isHour (l : Launch) (G : Gh) (S : Pl) (x : Int32)  : MtI l yX10_isHour cX10_isHour 1 (some .boolean) (Rm 0 0 0) G [.int x] S (fun (r : Int32) (S' : Pl) => (S = S' ∧ r = 1 ∧ (0 ≤ x.toInt ∧ x.toInt < 72)) ∨ (S = S' ∧ r = 0 ∧ ¬ (0 ≤ x.toInt ∧ x.toInt < 72))) 0 0 := by
  refine MtI.of (by decide) (Nat.le_of_ble_eq_true rfl) ?_
  intro p e s m args below meth c Q A X hw hin hret ls hl
  have hx := X.1.1
  have hb := X.1.2.1
  have hl : lv_has ls 1 [(0, .int x)] := hl
  refine lv_iload_n hx hb dX10_isHour_0 rfl (lv_at hl 0 rfl) ?_
  refine lv_if_lt (tgt := 14) hx hb dX10_isHour_1 (by decide) (fun c1_1 => ?_) (fun c1_1 => ?_)
  · have D1_1 := iLt c1_1 rfl t_0
    refine lv_iconst (v := 0) hx hb dX10_isHour_14 (by decide) ?_
    exact hret 0 _ _ _ _ _ (Or.inr ⟨rfl, rfl, by omega⟩) hw rfl dX10_isHour_15
  · have D1_1 := iNlt c1_1 rfl t_0
    refine lv_iload_n hx hb dX10_isHour_4 rfl (lv_at hl 0 rfl) ?_
    refine lv_bipush (v := 72) hx hb dX10_isHour_5 (by decide) ?_
    refine lv_icmp_ge (tgt := 14) hx hb dX10_isHour_7 (by decide) (fun c7_2 => ?_) (fun c7_2 => ?_)
    · have D7_2 := iLe c7_2 t_72 rfl
      refine lv_iconst (v := 0) hx hb dX10_isHour_14 (by decide) ?_
      exact hret 0 _ _ _ _ _ (Or.inr ⟨rfl, rfl, by omega⟩) hw rfl dX10_isHour_15
    · have D7_2 := iNle c7_2 t_72 rfl
      refine lv_iconst (v := 1) hx hb dX10_isHour_10 (by decide) ?_
      refine lv_goto (tgt := 15) hx hb dX10_isHour_11 (by decide) ?_
      exact hret 1 _ _ _ _ _ (Or.inl ⟨rfl, rfl, by omega⟩) hw rfl dX10_isHour_15
set_option maxHeartbeats 4000000 in
set_option maxRecDepth 100000 in
theorem c_X10_isMoment (l : Launch) (G : Gh) (S : Pl) (x : Int32)  : MtI l yX10_isMoment cX10_isMoment 1 (some .boolean) (Rm 0 0 0) G [.int x] S (fun (r : Int32) (S' : Pl) => (S = S' ∧ r = 1 ∧ (0 ≤ x.toInt ∧ x.toInt ≤ 72)) ∨ (S = S' ∧ r = 0 ∧ ¬ (0 ≤ x.toInt ∧ x.toInt ≤ 72))) 0 0 := by
  refine MtI.of (by decide) (Nat.le_of_ble_eq_true rfl) ?_
  intro p e s m args below meth c Q A X hw hin hret ls hl
  have hx := X.1.1
  have hb := X.1.2.1
  have hl : lv_has ls 1 [(0, .int x)] := hl
  refine lv_iload_n hx hb dX10_isMoment_0 rfl (lv_at hl 0 rfl) ?_
  refine lv_if_lt (tgt := 14) hx hb dX10_isMoment_1 (by decide) (fun c1_1 => ?_) (fun c1_1 => ?_)
  · have D1_1 := iLt c1_1 rfl t_0
    refine lv_iconst (v := 0) hx hb dX10_isMoment_14 (by decide) ?_
    exact hret 0 _ _ _ _ _ (Or.inr ⟨rfl, rfl, by omega⟩) hw rfl dX10_isMoment_15
  · have D1_1 := iNlt c1_1 rfl t_0
    refine lv_iload_n hx hb dX10_isMoment_4 rfl (lv_at hl 0 rfl) ?_
    refine lv_bipush (v := 72) hx hb dX10_isMoment_5 (by decide) ?_
    refine lv_icmp_gt (tgt := 14) hx hb dX10_isMoment_7 (by decide) (fun c7_2 => ?_) (fun c7_2 => ?_)
    · have D7_2 := iLt c7_2 t_72 rfl
      refine lv_iconst (v := 0) hx hb dX10_isMoment_14 (by decide) ?_
      exact hret 0 _ _ _ _ _ (Or.inr ⟨rfl, rfl, by omega⟩) hw rfl dX10_isMoment_15
    · have D7_2 := iNlt c7_2 t_72 rfl
      refine lv_iconst (v := 1) hx hb dX10_isMoment_10 (by decide) ?_
      refine lv_goto (tgt := 15) hx hb dX10_isMoment_11 (by decide) ?_
      exact hret 1 _ _ _ _ _ (Or.inl ⟨rfl, rfl, by omega⟩) hw rfl dX10_isMoment_15
set_option maxHeartbeats 4000000 in
set_option maxRecDepth 100000 in
theorem c_X10_isPoint (l : Launch) (G : Gh) (S : Pl) (x y : Int32)  : MtI l yX10_isPoint cX10_isPoint 2 (some .boolean) (Rm 0 0 0) G [.int x, .int y] S (fun (r : Int32) (S' : Pl) => (S = S' ∧ r = 1 ∧ (0 ≤ x.toInt ∧ x.toInt < 80 ∧ 0 ≤ y.toInt ∧ y.toInt < 80)) ∨ (S = S' ∧ r = 0 ∧ ¬ (0 ≤ x.toInt ∧ x.toInt < 80 ∧ 0 ≤ y.toInt ∧ y.toInt < 80))) 0 0 := by
  refine MtI.of (by decide) (Nat.le_of_ble_eq_true rfl) ?_
  intro p e s m args below meth c Q A X hw hin hret ls hl
  have hx := X.1.1
  have hb := X.1.2.1
  have hl : lv_has ls 2 [(0, .int x), (1, .int y)] := hl
  refine lv_iload_n hx hb dX10_isPoint_0 rfl (lv_at hl 0 rfl) ?_
  refine lv_if_lt (tgt := 24) hx hb dX10_isPoint_1 (by decide) (fun c1_1 => ?_) (fun c1_1 => ?_)
  · have D1_1 := iLt c1_1 rfl t_0
    refine lv_iconst (v := 0) hx hb dX10_isPoint_24 (by decide) ?_
    exact hret 0 _ _ _ _ _ (Or.inr ⟨rfl, rfl, by omega⟩) hw rfl dX10_isPoint_25
  · have D1_1 := iNlt c1_1 rfl t_0
    refine lv_iload_n hx hb dX10_isPoint_4 rfl (lv_at hl 0 rfl) ?_
    refine lv_bipush (v := 80) hx hb dX10_isPoint_5 (by decide) ?_
    refine lv_icmp_ge (tgt := 24) hx hb dX10_isPoint_7 (by decide) (fun c7_2 => ?_) (fun c7_2 => ?_)
    · have D7_2 := iLe c7_2 t_80 rfl
      refine lv_iconst (v := 0) hx hb dX10_isPoint_24 (by decide) ?_
      exact hret 0 _ _ _ _ _ (Or.inr ⟨rfl, rfl, by omega⟩) hw rfl dX10_isPoint_25
    · have D7_2 := iNle c7_2 t_80 rfl
      refine lv_iload_n hx hb dX10_isPoint_10 rfl (lv_at hl 1 rfl) ?_
      refine lv_if_lt (tgt := 24) hx hb dX10_isPoint_11 (by decide) (fun c11_3 => ?_) (fun c11_3 => ?_)
      · have D11_3 := iLt c11_3 rfl t_0
        refine lv_iconst (v := 0) hx hb dX10_isPoint_24 (by decide) ?_
        exact hret 0 _ _ _ _ _ (Or.inr ⟨rfl, rfl, by omega⟩) hw rfl dX10_isPoint_25
      · have D11_3 := iNlt c11_3 rfl t_0
        refine lv_iload_n hx hb dX10_isPoint_14 rfl (lv_at hl 1 rfl) ?_
        refine lv_bipush (v := 80) hx hb dX10_isPoint_15 (by decide) ?_
        refine lv_icmp_ge (tgt := 24) hx hb dX10_isPoint_17 (by decide) (fun c17_4 => ?_) (fun c17_4 => ?_)
        · have D17_4 := iLe c17_4 t_80 rfl
          refine lv_iconst (v := 0) hx hb dX10_isPoint_24 (by decide) ?_
          exact hret 0 _ _ _ _ _ (Or.inr ⟨rfl, rfl, by omega⟩) hw rfl dX10_isPoint_25
        · have D17_4 := iNle c17_4 t_80 rfl
          refine lv_iconst (v := 1) hx hb dX10_isPoint_20 (by decide) ?_
          refine lv_goto (tgt := 25) hx hb dX10_isPoint_21 (by decide) ?_
          exact hret 1 _ _ _ _ _ (Or.inl ⟨rfl, rfl, by omega⟩) hw rfl dX10_isPoint_25
set_option maxHeartbeats 4000000 in
set_option maxRecDepth 100000 in
theorem c_X10_isCell (l : Launch) (G : Gh) (S : Pl) (x : Int32)  : MtI l yX10_isCell cX10_isCell 1 (some .boolean) (Rm 0 0 0) G [.int x] S (fun (r : Int32) (S' : Pl) => (S = S' ∧ r = 1 ∧ (0 ≤ x.toInt ∧ x.toInt < 64)) ∨ (S = S' ∧ r = 0 ∧ ¬ (0 ≤ x.toInt ∧ x.toInt < 64))) 0 0 := by
  refine MtI.of (by decide) (Nat.le_of_ble_eq_true rfl) ?_
  intro p e s m args below meth c Q A X hw hin hret ls hl
  have hx := X.1.1
  have hb := X.1.2.1
  have hl : lv_has ls 1 [(0, .int x)] := hl
  refine lv_iload_n hx hb dX10_isCell_0 rfl (lv_at hl 0 rfl) ?_
  refine lv_if_lt (tgt := 14) hx hb dX10_isCell_1 (by decide) (fun c1_1 => ?_) (fun c1_1 => ?_)
  · have D1_1 := iLt c1_1 rfl t_0
    refine lv_iconst (v := 0) hx hb dX10_isCell_14 (by decide) ?_
    exact hret 0 _ _ _ _ _ (Or.inr ⟨rfl, rfl, by omega⟩) hw rfl dX10_isCell_15
  · have D1_1 := iNlt c1_1 rfl t_0
    refine lv_iload_n hx hb dX10_isCell_4 rfl (lv_at hl 0 rfl) ?_
    refine lv_bipush (v := 64) hx hb dX10_isCell_5 (by decide) ?_
    refine lv_icmp_ge (tgt := 14) hx hb dX10_isCell_7 (by decide) (fun c7_2 => ?_) (fun c7_2 => ?_)
    · have D7_2 := iLe c7_2 t_64 rfl
      refine lv_iconst (v := 0) hx hb dX10_isCell_14 (by decide) ?_
      exact hret 0 _ _ _ _ _ (Or.inr ⟨rfl, rfl, by omega⟩) hw rfl dX10_isCell_15
    · have D7_2 := iNle c7_2 t_64 rfl
      refine lv_iconst (v := 1) hx hb dX10_isCell_10 (by decide) ?_
      refine lv_goto (tgt := 15) hx hb dX10_isCell_11 (by decide) ?_
      exact hret 1 _ _ _ _ _ (Or.inl ⟨rfl, rfl, by omega⟩) hw rfl dX10_isCell_15
set_option maxHeartbeats 4000000 in
set_option maxRecDepth 100000 in
theorem c_X10_isKind (l : Launch) (G : Gh) (S : Pl) (x : Int32)  : MtI l yX10_isKind cX10_isKind 1 (some .boolean) (Rm 0 0 0) G [.int x] S (fun (r : Int32) (S' : Pl) => (S = S' ∧ r = 1 ∧ (0 ≤ x.toInt ∧ x.toInt < 4)) ∨ (S = S' ∧ r = 0 ∧ ¬ (0 ≤ x.toInt ∧ x.toInt < 4))) 0 0 := by
  refine MtI.of (by decide) (Nat.le_of_ble_eq_true rfl) ?_
  intro p e s m args below meth c Q A X hw hin hret ls hl
  have hx := X.1.1
  have hb := X.1.2.1
  have hl : lv_has ls 1 [(0, .int x)] := hl
  refine lv_iload_n hx hb dX10_isKind_0 rfl (lv_at hl 0 rfl) ?_
  refine lv_if_lt (tgt := 13) hx hb dX10_isKind_1 (by decide) (fun c1_1 => ?_) (fun c1_1 => ?_)
  · have D1_1 := iLt c1_1 rfl t_0
    refine lv_iconst (v := 0) hx hb dX10_isKind_13 (by decide) ?_
    exact hret 0 _ _ _ _ _ (Or.inr ⟨rfl, rfl, by omega⟩) hw rfl dX10_isKind_14
  · have D1_1 := iNlt c1_1 rfl t_0
    refine lv_iload_n hx hb dX10_isKind_4 rfl (lv_at hl 0 rfl) ?_
    refine lv_iconst (v := 4) hx hb dX10_isKind_5 (by decide) ?_
    refine lv_icmp_ge (tgt := 13) hx hb dX10_isKind_6 (by decide) (fun c6_2 => ?_) (fun c6_2 => ?_)
    · have D6_2 := iLe c6_2 t_4 rfl
      refine lv_iconst (v := 0) hx hb dX10_isKind_13 (by decide) ?_
      exact hret 0 _ _ _ _ _ (Or.inr ⟨rfl, rfl, by omega⟩) hw rfl dX10_isKind_14
    · have D6_2 := iNle c6_2 t_4 rfl
      refine lv_iconst (v := 1) hx hb dX10_isKind_9 (by decide) ?_
      refine lv_goto (tgt := 14) hx hb dX10_isKind_10 (by decide) ?_
      exact hret 1 _ _ _ _ _ (Or.inl ⟨rfl, rfl, by omega⟩) hw rfl dX10_isKind_14
set_option maxHeartbeats 4000000 in
set_option maxRecDepth 100000 in
theorem c_X10_isQuarter (l : Launch) (G : Gh) (S : Pl) (x : Int32)  : MtI l yX10_isQuarter cX10_isQuarter 1 (some .boolean) (Rm 0 0 0) G [.int x] S (fun (r : Int32) (S' : Pl) => (S = S' ∧ r = 1 ∧ (0 ≤ x.toInt ∧ x.toInt < 4)) ∨ (S = S' ∧ r = 0 ∧ ¬ (0 ≤ x.toInt ∧ x.toInt < 4))) 0 0 := by
  refine MtI.of (by decide) (Nat.le_of_ble_eq_true rfl) ?_
  intro p e s m args below meth c Q A X hw hin hret ls hl
  have hx := X.1.1
  have hb := X.1.2.1
  have hl : lv_has ls 1 [(0, .int x)] := hl
  refine lv_iload_n hx hb dX10_isQuarter_0 rfl (lv_at hl 0 rfl) ?_
  refine lv_if_lt (tgt := 13) hx hb dX10_isQuarter_1 (by decide) (fun c1_1 => ?_) (fun c1_1 => ?_)
  · have D1_1 := iLt c1_1 rfl t_0
    refine lv_iconst (v := 0) hx hb dX10_isQuarter_13 (by decide) ?_
    exact hret 0 _ _ _ _ _ (Or.inr ⟨rfl, rfl, by omega⟩) hw rfl dX10_isQuarter_14
  · have D1_1 := iNlt c1_1 rfl t_0
    refine lv_iload_n hx hb dX10_isQuarter_4 rfl (lv_at hl 0 rfl) ?_
    refine lv_iconst (v := 4) hx hb dX10_isQuarter_5 (by decide) ?_
    refine lv_icmp_ge (tgt := 13) hx hb dX10_isQuarter_6 (by decide) (fun c6_2 => ?_) (fun c6_2 => ?_)
    · have D6_2 := iLe c6_2 t_4 rfl
      refine lv_iconst (v := 0) hx hb dX10_isQuarter_13 (by decide) ?_
      exact hret 0 _ _ _ _ _ (Or.inr ⟨rfl, rfl, by omega⟩) hw rfl dX10_isQuarter_14
    · have D6_2 := iNle c6_2 t_4 rfl
      refine lv_iconst (v := 1) hx hb dX10_isQuarter_9 (by decide) ?_
      refine lv_goto (tgt := 14) hx hb dX10_isQuarter_10 (by decide) ?_
      exact hret 1 _ _ _ _ _ (Or.inl ⟨rfl, rfl, by omega⟩) hw rfl dX10_isQuarter_14
set_option maxHeartbeats 4000000 in
set_option maxRecDepth 100000 in
theorem c_X10_isSpan (l : Launch) (G : Gh) (S : Pl) (x y : Int32)  : MtI l yX10_isSpan cX10_isSpan 2 (some .boolean) (Rm 0 0 0) G [.int x, .int y] S (fun (r : Int32) (S' : Pl) => (S = S' ∧ r = 1 ∧ (0 ≤ x.toInt ∧ x.toInt ≤ y.toInt ∧ y.toInt < 8)) ∨ (S = S' ∧ r = 0 ∧ ¬ (0 ≤ x.toInt ∧ x.toInt ≤ y.toInt ∧ y.toInt < 8))) 0 0 := by
  refine MtI.of (by decide) (Nat.le_of_ble_eq_true rfl) ?_
  intro p e s m args below meth c Q A X hw hin hret ls hl
  have hx := X.1.1
  have hb := X.1.2.1
  have hl : lv_has ls 2 [(0, .int x), (1, .int y)] := hl
  refine lv_iload_n hx hb dX10_isSpan_0 rfl (lv_at hl 0 rfl) ?_
  refine lv_if_lt (tgt := 19) hx hb dX10_isSpan_1 (by decide) (fun c1_1 => ?_) (fun c1_1 => ?_)
  · have D1_1 := iLt c1_1 rfl t_0
    refine lv_iconst (v := 0) hx hb dX10_isSpan_19 (by decide) ?_
    exact hret 0 _ _ _ _ _ (Or.inr ⟨rfl, rfl, by omega⟩) hw rfl dX10_isSpan_20
  · have D1_1 := iNlt c1_1 rfl t_0
    refine lv_iload_n hx hb dX10_isSpan_4 rfl (lv_at hl 0 rfl) ?_
    refine lv_iload_n hx hb dX10_isSpan_5 rfl (lv_at hl 1 rfl) ?_
    refine lv_icmp_gt (tgt := 19) hx hb dX10_isSpan_6 (by decide) (fun c6_2 => ?_) (fun c6_2 => ?_)
    · have D6_2 := iLt c6_2 rfl rfl
      refine lv_iconst (v := 0) hx hb dX10_isSpan_19 (by decide) ?_
      exact hret 0 _ _ _ _ _ (Or.inr ⟨rfl, rfl, by omega⟩) hw rfl dX10_isSpan_20
    · have D6_2 := iNlt c6_2 rfl rfl
      refine lv_iload_n hx hb dX10_isSpan_9 rfl (lv_at hl 1 rfl) ?_
      refine lv_bipush (v := 8) hx hb dX10_isSpan_10 (by decide) ?_
      refine lv_icmp_ge (tgt := 19) hx hb dX10_isSpan_12 (by decide) (fun c12_3 => ?_) (fun c12_3 => ?_)
      · have D12_3 := iLe c12_3 t_8 rfl
        refine lv_iconst (v := 0) hx hb dX10_isSpan_19 (by decide) ?_
        exact hret 0 _ _ _ _ _ (Or.inr ⟨rfl, rfl, by omega⟩) hw rfl dX10_isSpan_20
      · have D12_3 := iNle c12_3 t_8 rfl
        refine lv_iconst (v := 1) hx hb dX10_isSpan_15 (by decide) ?_
        refine lv_goto (tgt := 20) hx hb dX10_isSpan_16 (by decide) ?_
        exact hret 1 _ _ _ _ _ (Or.inl ⟨rfl, rfl, by omega⟩) hw rfl dX10_isSpan_20
set_option maxHeartbeats 4000000 in
set_option maxRecDepth 100000 in
theorem c_X10_isMeans (l : Launch) (G : Gh) (S : Pl) (x y z : Int32)  : MtI l yX10_isMeans cX10_isMeans 3 (some .boolean) (Rm 0 0 0) G [.int x, .int y, .int z] S (fun (r : Int32) (S' : Pl) => (S = S' ∧ r = 1 ∧ (0 ≤ x.toInt ∧ x.toInt < 2 ∧ 0 ≤ y.toInt ∧ y.toInt ≤ z.toInt)) ∨ (S = S' ∧ r = 0 ∧ ¬ (0 ≤ x.toInt ∧ x.toInt < 2 ∧ 0 ≤ y.toInt ∧ y.toInt ≤ z.toInt))) 0 0 := by
  refine MtI.of (by decide) (Nat.le_of_ble_eq_true rfl) ?_
  intro p e s m args below meth c Q A X hw hin hret ls hl
  have hx := X.1.1
  have hb := X.1.2.1
  have hl : lv_has ls 3 [(0, .int x), (1, .int y), (2, .int z)] := hl
  refine lv_iload_n hx hb dX10_isMeans_0 rfl (lv_at hl 0 rfl) ?_
  refine lv_if_lt (tgt := 22) hx hb dX10_isMeans_1 (by decide) (fun c1_1 => ?_) (fun c1_1 => ?_)
  · have D1_1 := iLt c1_1 rfl t_0
    refine lv_iconst (v := 0) hx hb dX10_isMeans_22 (by decide) ?_
    exact hret 0 _ _ _ _ _ (Or.inr ⟨rfl, rfl, by omega⟩) hw rfl dX10_isMeans_23
  · have D1_1 := iNlt c1_1 rfl t_0
    refine lv_iload_n hx hb dX10_isMeans_4 rfl (lv_at hl 0 rfl) ?_
    refine lv_iconst (v := 2) hx hb dX10_isMeans_5 (by decide) ?_
    refine lv_icmp_ge (tgt := 22) hx hb dX10_isMeans_6 (by decide) (fun c6_2 => ?_) (fun c6_2 => ?_)
    · have D6_2 := iLe c6_2 t_2 rfl
      refine lv_iconst (v := 0) hx hb dX10_isMeans_22 (by decide) ?_
      exact hret 0 _ _ _ _ _ (Or.inr ⟨rfl, rfl, by omega⟩) hw rfl dX10_isMeans_23
    · have D6_2 := iNle c6_2 t_2 rfl
      refine lv_iload_n hx hb dX10_isMeans_9 rfl (lv_at hl 1 rfl) ?_
      refine lv_if_lt (tgt := 22) hx hb dX10_isMeans_10 (by decide) (fun c10_3 => ?_) (fun c10_3 => ?_)
      · have D10_3 := iLt c10_3 rfl t_0
        refine lv_iconst (v := 0) hx hb dX10_isMeans_22 (by decide) ?_
        exact hret 0 _ _ _ _ _ (Or.inr ⟨rfl, rfl, by omega⟩) hw rfl dX10_isMeans_23
      · have D10_3 := iNlt c10_3 rfl t_0
        refine lv_iload_n hx hb dX10_isMeans_13 rfl (lv_at hl 1 rfl) ?_
        refine lv_iload_n hx hb dX10_isMeans_14 rfl (lv_at hl 2 rfl) ?_
        refine lv_icmp_gt (tgt := 22) hx hb dX10_isMeans_15 (by decide) (fun c15_4 => ?_) (fun c15_4 => ?_)
        · have D15_4 := iLt c15_4 rfl rfl
          refine lv_iconst (v := 0) hx hb dX10_isMeans_22 (by decide) ?_
          exact hret 0 _ _ _ _ _ (Or.inr ⟨rfl, rfl, by omega⟩) hw rfl dX10_isMeans_23
        · have D15_4 := iNlt c15_4 rfl rfl
          refine lv_iconst (v := 1) hx hb dX10_isMeans_18 (by decide) ?_
          refine lv_goto (tgt := 23) hx hb dX10_isMeans_19 (by decide) ?_
          exact hret 1 _ _ _ _ _ (Or.inl ⟨rfl, rfl, by omega⟩) hw rfl dX10_isMeans_23
set_option maxHeartbeats 4000000 in
set_option maxRecDepth 100000 in
theorem c_X8_size (l : Launch) (G : Gh) (S : Pl) (tp tb : Nat) (hT : shTape S tp tb) : MtI l yX8_size cX8_size 1 (some .int) (Rm 0 0 0) G [.ref tp] S (fun (r : Int32) (S' : Pl) => S = S' ∧ r = pI S 61 tp) 0 0 := by
  refine MtI.of (by decide) (Nat.le_of_ble_eq_true rfl) ?_
  intro p e s m args below meth c Q A X hw hin hret ls hl
  have hx := X.1.1
  have hb := X.1.2.1
  have hl : lv_has ls 1 [(0, .ref tp)] := hl
  refine lv_aload_n hx hb dX8_size_0 rfl (lv_at hl 0 rfl) ?_
  refine gf_X8_13 (v := (pI S) 61 tp) X hw hT.1 rfl dX8_size_1 ?_
  exact hret ((pI S) 61 tp) _ _ _ _ _ ⟨rfl, rfl⟩ hw rfl dX8_size_4
set_option maxHeartbeats 4000000 in
set_option maxRecDepth 100000 in
theorem c_X8_hasRoom (l : Launch) (G : Gh) (S : Pl) (tp tb : Nat) (n : Int32) (hT : shTape S tp tb) (h0 : 0 ≤ (pI S 61 tp).toInt ∧ (pI S 61 tp).toInt ≤ 1000) (h1 : 0 ≤ n.toInt ∧ n.toInt ≤ 1000) : MtI l yX8_hasRoom cX8_hasRoom 2 (some .boolean) (Rm 0 0 0) G [.ref tp, .int n] S (fun (r : Int32) (S' : Pl) => (S = S' ∧ r = 1 ∧ ((pI S 61 tp).toInt + n.toInt ≤ 1000)) ∨ (S = S' ∧ r = 0 ∧ ¬ ((pI S 61 tp).toInt + n.toInt ≤ 1000))) 0 0 := by
  refine MtI.of (by decide) (Nat.le_of_ble_eq_true rfl) ?_
  intro p e s m args below meth c Q A X hw hin hret ls hl
  have hx := X.1.1
  have hb := X.1.2.1
  have hl : lv_has ls 2 [(0, .ref tp), (1, .int n)] := hl
  refine lv_aload_n hx hb dX8_hasRoom_0 rfl (lv_at hl 0 rfl) ?_
  refine gf_X8_13 (v := (pI S) 61 tp) X hw hT.1 rfl dX8_hasRoom_1 ?_
  refine lv_iload_n hx hb dX8_hasRoom_4 rfl (lv_at hl 1 rfl) ?_
  refine lv_iadd hx hb dX8_hasRoom_5 ?_
  refine lv_topi (fun v5_1 e5_1 => ?_)
  have t5_1 := iAdd e5_1 rfl rfl (by omega) (by omega)
  have t5 := t5_1
  refine lv_sipush (v := 1000) hx hb dX8_hasRoom_6 (by decide) ?_
  refine lv_icmp_gt (tgt := 16) hx hb dX8_hasRoom_9 (by decide) (fun c9_2 => ?_) (fun c9_2 => ?_)
  · have D9_2 := iLt c9_2 t_1000 rfl
    refine lv_iconst (v := 0) hx hb dX8_hasRoom_16 (by decide) ?_
    exact hret 0 _ _ _ _ _ (Or.inr ⟨rfl, rfl, by omega⟩) hw rfl dX8_hasRoom_17
  · have D9_2 := iNlt c9_2 t_1000 rfl
    refine lv_iconst (v := 1) hx hb dX8_hasRoom_12 (by decide) ?_
    refine lv_goto (tgt := 17) hx hb dX8_hasRoom_13 (by decide) ?_
    exact hret 1 _ _ _ _ _ (Or.inl ⟨rfl, rfl, by omega⟩) hw rfl dX8_hasRoom_17
set_option maxHeartbeats 4000000 in
set_option maxRecDepth 100000 in
theorem c_X8_cut (l : Launch) (G : Gh) (S : Pl) (tp tb : Nat) (n : Int32) (hT : shTape S tp tb) : MtV l yX8_cut cX8_cut 2 none (Rm 0 0 0) G [.ref tp, .int n] S (fun (S' : Pl) => ∃ I', ch S I' (pJ S) (qI S) (qJ S) = S' ∧ (∀ f, f ≠ 61 → I' f = pI S f) ∧ (0 ≤ n.toInt ∧ n.toInt ≤ (pI S 61 tp).toInt → I' 61 tp = n) ∧ (¬ (0 ≤ n.toInt ∧ n.toInt ≤ (pI S 61 tp).toInt) → I' = pI S)) 0 0 := by
  refine MtV.of (by decide) (Nat.le_of_ble_eq_true rfl) ?_
  intro p e s m args below meth c Q A X hw hin hret ls hl
  have hx := X.1.1
  have hb := X.1.2.1
  have hl : lv_has ls 2 [(0, .ref tp), (1, .int n)] := hl
  refine lv_iload_n hx hb dX8_cut_0 rfl (lv_at hl 1 rfl) ?_
  refine lv_if_lt (tgt := 17) hx hb dX8_cut_1 (by decide) (fun c1_1 => ?_) (fun c1_1 => ?_)
  · have D1_1 := iLt c1_1 rfl t_0
    exact hret _ _ _ _ _ ⟨_, rfl, by first | exact fun f hf => rfl | exact fun f hf => up2_f hf, by first | exact fun _ => up2_s | exact fun h => absurd h (by omega), by first | exact fun _ => rfl | exact fun h => absurd (by omega) h⟩ hw dX8_cut_17
  · have D1_1 := iNlt c1_1 rfl t_0
    refine lv_iload_n hx hb dX8_cut_4 rfl (lv_at hl 1 rfl) ?_
    refine lv_aload_n hx hb dX8_cut_5 rfl (lv_at hl 0 rfl) ?_
    refine gf_X8_13 (v := (pI S) 61 tp) X hw hT.1 rfl dX8_cut_6 ?_
    refine lv_icmp_gt (tgt := 17) hx hb dX8_cut_9 (by decide) (fun c9_2 => ?_) (fun c9_2 => ?_)
    · have D9_2 := iLt c9_2 rfl rfl
      exact hret _ _ _ _ _ ⟨_, rfl, by first | exact fun f hf => rfl | exact fun f hf => up2_f hf, by first | exact fun _ => up2_s | exact fun h => absurd h (by omega), by first | exact fun _ => rfl | exact fun h => absurd (by omega) h⟩ hw dX8_cut_17
    · have D9_2 := iNlt c9_2 rfl rfl
      refine lv_aload_n hx hb dX8_cut_12 rfl (lv_at hl 0 rfl) ?_
      refine lv_iload_n hx hb dX8_cut_13 rfl (lv_at hl 1 rfl) ?_
      refine pf_X8_13 X hw hT.1 dX8_cut_14 (fun H locs hw => ?_)
      have hw : PX G A s.heap (ch S (up2 (pI S) 61 tp n) (pJ S) (qI S) (qJ S)) H locs := hw
      exact hret _ _ _ _ _ ⟨_, rfl, by first | exact fun f hf => rfl | exact fun f hf => up2_f hf, by first | exact fun _ => up2_s | exact fun h => absurd h (by omega), by first | exact fun _ => rfl | exact fun h => absurd (by omega) h⟩ hw dX8_cut_17
set_option maxHeartbeats 4000000 in
set_option maxRecDepth 100000 in
theorem c_X8_byteAt (l : Launch) (G : Gh) (S : Pl) (tp tb : Nat) (i : Int32) (hT : shTape S tp tb) (h0 : (pI S 61 tp).toInt ≤ 1000) : MtI l yX8_byteAt cX8_byteAt 2 (some .int) (Rm 0 0 0) G [.ref tp, .int i] S (fun (r : Int32) (S' : Pl) => S = S' ∧ (r = -1 ↔ ¬ (0 ≤ i.toInt ∧ i.toInt < (pI S 61 tp).toInt))) 0 0 := by
  refine MtI.of (by decide) (Nat.le_of_ble_eq_true rfl) ?_
  intro p e s m args below meth c Q A X hw hin hret ls hl
  have hx := X.1.1
  have hb := X.1.2.1
  have hl : lv_has ls 2 [(0, .ref tp), (1, .int i)] := hl
  refine lv_iload_n hx hb dX8_byteAt_0 rfl (lv_at hl 1 rfl) ?_
  refine lv_if_lt (tgt := 25) hx hb dX8_byteAt_1 (by decide) (fun c1_1 => ?_) (fun c1_1 => ?_)
  · have D1_1 := iLt c1_1 rfl t_0
    refine lv_iconst (v := -1) hx hb dX8_byteAt_25 (by decide) ?_
    exact hret (-1) _ _ _ _ _ ⟨rfl, fun _ => by omega, fun _ => rfl⟩ hw rfl dX8_byteAt_26
  · have D1_1 := iNlt c1_1 rfl t_0
    refine lv_iload_n hx hb dX8_byteAt_4 rfl (lv_at hl 1 rfl) ?_
    refine lv_aload_n hx hb dX8_byteAt_5 rfl (lv_at hl 0 rfl) ?_
    refine gf_X8_13 (v := (pI S) 61 tp) X hw hT.1 rfl dX8_byteAt_6 ?_
    refine lv_icmp_ge (tgt := 25) hx hb dX8_byteAt_9 (by decide) (fun c9_2 => ?_) (fun c9_2 => ?_)
    · have D9_2 := iLe c9_2 rfl rfl
      refine lv_iconst (v := -1) hx hb dX8_byteAt_25 (by decide) ?_
      exact hret (-1) _ _ _ _ _ ⟨rfl, fun _ => by omega, fun _ => rfl⟩ hw rfl dX8_byteAt_26
    · have D9_2 := iNle c9_2 rfl rfl
      refine lv_aload_n hx hb dX8_byteAt_12 rfl (lv_at hl 0 rfl) ?_
      refine gf_X8_9 (b := tb) X hw hT.1 hT.2.1 dX8_byteAt_13 ?_
      refine lv_iload_n hx hb dX8_byteAt_16 rfl (lv_at hl 1 rfl) ?_
      refine q_ldB X hw hT.2.2.1 (vin hT.2.2.2 (by omega) (by omega)) dX8_byteAt_17 ?_
      refine lv_topi (fun v17_3 e17_3 => ?_)
      have e17_3 : v17_3 = (qI S) tb i.toNatClampNeg := e17_3
      refine lv_sipush (v := 255) hx hb dX8_byteAt_18 (by decide) ?_
      refine lv_iand hx hb dX8_byteAt_21 ?_
      refine lv_topi (fun v21_4 e21_4 => ?_)
      refine lv_goto (tgt := 26) hx hb dX8_byteAt_22 (by decide) ?_
      exact hret v21_4 _ _ _ _ _ ⟨rfl, fun h => absurd h (byte_ne e21_4), fun h => absurd (by omega) h⟩ hw rfl dX8_byteAt_26
set_option maxHeartbeats 4000000 in
set_option maxRecDepth 100000 in
theorem c_X8_add (l : Launch) (G : Gh) (S : Pl) (tp tb : Nat) (n : Int32) (hT : shTape S tp tb) (h0 : 0 ≤ (pI S 61 tp).toInt ∧ (pI S 61 tp).toInt ≤ 996) : MtV l yX8_add cX8_add 3 none (Rm 0 0 0) G [.ref tp, .int n] S (fun (S' : Pl) => ∃ I' q', ch S I' (pJ S) q' (qJ S) = S' ∧ (∀ f, f ≠ 61 → I' f = pI S f) ∧ (I' 61 tp).toInt = (pI S 61 tp).toInt + 4) 0 0 := by
  refine MtV.of (by decide) (Nat.le_of_ble_eq_true rfl) ?_
  intro p e s m args below meth c Q A X hw hin hret ls hl
  have hx := X.1.1
  have hb := X.1.2.1
  have hl : lv_has ls 3 [(0, .ref tp), (1, .int n)] := hl
  refine lv_bipush (v := 24) hx hb dX8_add_0 (by decide) ?_
  refine lv_istore_n (lv' := [(2, .int 24), (0, .ref tp), (1, .int n)]) hx hb dX8_add_2 rfl hl (by decide) rfl (fun ls hl => ?_)
  refine lv_iload_n hx hb dX8_add_3 rfl (lv_at hl 0 rfl) ?_
  refine lv_if_lt (tgt := 46) hx hb dX8_add_4 (by decide) (fun c4_1 => absurd c4_1 (by decide)) (fun c4_1 => ?_)
  refine lv_aload_n hx hb dX8_add_7 rfl (lv_at hl 1 rfl) ?_
  refine gf_X8_13 (v := (pI S) 61 tp) X hw hT.1 rfl dX8_add_8 ?_
  refine lv_sipush (v := 1000) hx hb dX8_add_11 (by decide) ?_
  refine lv_icmp_ge (tgt := 46) hx hb dX8_add_14 (by decide) (fun c14_2 => absurd c14_2 (fun h => absurd (iLe h t_1000 rfl) (by omega))) (fun c14_2 => ?_)
  have D14_2 := iNle c14_2 t_1000 rfl
  refine lv_aload_n hx hb dX8_add_17 rfl (lv_at hl 1 rfl) ?_
  refine gf_X8_9 (b := tb) X hw hT.1 hT.2.1 dX8_add_18 ?_
  refine lv_aload_n hx hb dX8_add_21 rfl (lv_at hl 1 rfl) ?_
  refine gf_X8_13 (v := (pI S) 61 tp) X hw hT.1 rfl dX8_add_22 ?_
  refine lv_iload_n hx hb dX8_add_25 rfl (lv_at hl 2 rfl) ?_
  refine lv_iload_n hx hb dX8_add_26 rfl (lv_at hl 0 rfl) ?_
  refine lv_ishr hx hb dX8_add_27 ?_
  refine lv_topi (fun v27_3 e27_3 => ?_)
  refine lv_i2b hx hb dX8_add_28 rfl ?_
  refine lv_topi (fun v28_4 e28_4 => ?_)
  refine q_stB X hw hT.2.2.1 (vin hT.2.2.2 (by omega) (by omega)) dX8_add_29 (fun H locs hw => ?_)
  obtain ⟨q29_5, hw⟩ : ∃ zz9, PX G A s.heap (ch S (pI S) (pJ S) zz9 (qJ S)) H locs := ⟨_, hw⟩
  refine lv_aload_n hx hb dX8_add_30 rfl (lv_at hl 1 rfl) ?_
  refine lv_dup hx hb dX8_add_31 rfl ?_
  refine gf_X8_13 (v := (pI S) 61 tp) X hw hT.1 rfl dX8_add_32 ?_
  refine lv_iconst (v := 1) hx hb dX8_add_35 (by decide) ?_
  refine lv_iadd hx hb dX8_add_36 ?_
  refine lv_topi (fun v36_6 e36_6 => ?_)
  have t36_6 := iAdd e36_6 rfl t_1 (by omega) (by omega)
  have t36 := t36_6
  refine pf_X8_13 X hw hT.1 dX8_add_37 (fun H locs hw => ?_)
  have hw : PX G A s.heap (ch S (up2 (pI S) 61 tp v36_6) (pJ S) q29_5 (qJ S)) H locs := hw
  refine lv_iinc (v := 16) (lv' := [(2, .int 16), (0, .ref tp), (1, .int n)]) hx hb dX8_add_40 hl (k := 0) rfl (by decide) (by decide) rfl (fun ls hl => ?_)
  refine lv_goto (tgt := 3) hx hb dX8_add_43 (by decide) ?_
  refine lv_iload_n hx hb dX8_add_3 rfl (lv_at hl 0 rfl) ?_
  refine lv_if_lt (tgt := 46) hx hb dX8_add_4 (by decide) (fun c4_7 => absurd c4_7 (by decide)) (fun c4_7 => ?_)
  refine lv_aload_n hx hb dX8_add_7 rfl (lv_at hl 1 rfl) ?_
  refine gf_X8_13 (v := v36_6) X hw hT.1 (show up2 (pI S) 61 tp v36_6 61 tp = v36_6 from up2_s) dX8_add_8 ?_
  refine lv_sipush (v := 1000) hx hb dX8_add_11 (by decide) ?_
  refine lv_icmp_ge (tgt := 46) hx hb dX8_add_14 (by decide) (fun c14_8 => absurd c14_8 (fun h => absurd (iLe h t_1000 rfl) (by omega))) (fun c14_8 => ?_)
  have D14_8 := iNle c14_8 t_1000 rfl
  refine lv_aload_n hx hb dX8_add_17 rfl (lv_at hl 1 rfl) ?_
  refine gf_X8_9 (b := tb) X hw hT.1 hT.2.1 dX8_add_18 ?_
  refine lv_aload_n hx hb dX8_add_21 rfl (lv_at hl 1 rfl) ?_
  refine gf_X8_13 (v := v36_6) X hw hT.1 (show up2 (pI S) 61 tp v36_6 61 tp = v36_6 from up2_s) dX8_add_22 ?_
  refine lv_iload_n hx hb dX8_add_25 rfl (lv_at hl 2 rfl) ?_
  refine lv_iload_n hx hb dX8_add_26 rfl (lv_at hl 0 rfl) ?_
  refine lv_ishr hx hb dX8_add_27 ?_
  refine lv_topi (fun v27_9 e27_9 => ?_)
  refine lv_i2b hx hb dX8_add_28 rfl ?_
  refine lv_topi (fun v28_10 e28_10 => ?_)
  refine q_stB X hw hT.2.2.1 (vin hT.2.2.2 (by omega) (by omega)) dX8_add_29 (fun H locs hw => ?_)
  obtain ⟨q29_11, hw⟩ : ∃ zz9, PX G A s.heap (ch S (up2 (pI S) 61 tp v36_6) (pJ S) zz9 (qJ S)) H locs := ⟨_, hw⟩
  refine lv_aload_n hx hb dX8_add_30 rfl (lv_at hl 1 rfl) ?_
  refine lv_dup hx hb dX8_add_31 rfl ?_
  refine gf_X8_13 (v := v36_6) X hw hT.1 (show up2 (pI S) 61 tp v36_6 61 tp = v36_6 from up2_s) dX8_add_32 ?_
  refine lv_iconst (v := 1) hx hb dX8_add_35 (by decide) ?_
  refine lv_iadd hx hb dX8_add_36 ?_
  refine lv_topi (fun v36_12 e36_12 => ?_)
  have t36_12 := iAdd e36_12 rfl t_1 (by omega) (by omega)
  have t36 := t36_12
  refine pf_X8_13 X hw hT.1 dX8_add_37 (fun H locs hw => ?_)
  have hw : PX G A s.heap (ch S (up2 (up2 (pI S) 61 tp v36_6) 61 tp v36_12) (pJ S) q29_11 (qJ S)) H locs := hw
  refine lv_iinc (v := 8) (lv' := [(2, .int 8), (0, .ref tp), (1, .int n)]) hx hb dX8_add_40 hl (k := 0) rfl (by decide) (by decide) rfl (fun ls hl => ?_)
  refine lv_goto (tgt := 3) hx hb dX8_add_43 (by decide) ?_
  refine lv_iload_n hx hb dX8_add_3 rfl (lv_at hl 0 rfl) ?_
  refine lv_if_lt (tgt := 46) hx hb dX8_add_4 (by decide) (fun c4_13 => absurd c4_13 (by decide)) (fun c4_13 => ?_)
  refine lv_aload_n hx hb dX8_add_7 rfl (lv_at hl 1 rfl) ?_
  refine gf_X8_13 (v := v36_12) X hw hT.1 (show up2 (up2 (pI S) 61 tp v36_6) 61 tp v36_12 61 tp = v36_12 from up2_s) dX8_add_8 ?_
  refine lv_sipush (v := 1000) hx hb dX8_add_11 (by decide) ?_
  refine lv_icmp_ge (tgt := 46) hx hb dX8_add_14 (by decide) (fun c14_14 => absurd c14_14 (fun h => absurd (iLe h t_1000 rfl) (by omega))) (fun c14_14 => ?_)
  have D14_14 := iNle c14_14 t_1000 rfl
  refine lv_aload_n hx hb dX8_add_17 rfl (lv_at hl 1 rfl) ?_
  refine gf_X8_9 (b := tb) X hw hT.1 hT.2.1 dX8_add_18 ?_
  refine lv_aload_n hx hb dX8_add_21 rfl (lv_at hl 1 rfl) ?_
  refine gf_X8_13 (v := v36_12) X hw hT.1 (show up2 (up2 (pI S) 61 tp v36_6) 61 tp v36_12 61 tp = v36_12 from up2_s) dX8_add_22 ?_
  refine lv_iload_n hx hb dX8_add_25 rfl (lv_at hl 2 rfl) ?_
  refine lv_iload_n hx hb dX8_add_26 rfl (lv_at hl 0 rfl) ?_
  refine lv_ishr hx hb dX8_add_27 ?_
  refine lv_topi (fun v27_15 e27_15 => ?_)
  refine lv_i2b hx hb dX8_add_28 rfl ?_
  refine lv_topi (fun v28_16 e28_16 => ?_)
  refine q_stB X hw hT.2.2.1 (vin hT.2.2.2 (by omega) (by omega)) dX8_add_29 (fun H locs hw => ?_)
  obtain ⟨q29_17, hw⟩ : ∃ zz9, PX G A s.heap (ch S (up2 (up2 (pI S) 61 tp v36_6) 61 tp v36_12) (pJ S) zz9 (qJ S)) H locs := ⟨_, hw⟩
  refine lv_aload_n hx hb dX8_add_30 rfl (lv_at hl 1 rfl) ?_
  refine lv_dup hx hb dX8_add_31 rfl ?_
  refine gf_X8_13 (v := v36_12) X hw hT.1 (show up2 (up2 (pI S) 61 tp v36_6) 61 tp v36_12 61 tp = v36_12 from up2_s) dX8_add_32 ?_
  refine lv_iconst (v := 1) hx hb dX8_add_35 (by decide) ?_
  refine lv_iadd hx hb dX8_add_36 ?_
  refine lv_topi (fun v36_18 e36_18 => ?_)
  have t36_18 := iAdd e36_18 rfl t_1 (by omega) (by omega)
  have t36 := t36_18
  refine pf_X8_13 X hw hT.1 dX8_add_37 (fun H locs hw => ?_)
  have hw : PX G A s.heap (ch S (up2 (up2 (up2 (pI S) 61 tp v36_6) 61 tp v36_12) 61 tp v36_18) (pJ S) q29_17 (qJ S)) H locs := hw
  refine lv_iinc (v := 0) (lv' := [(2, .int 0), (0, .ref tp), (1, .int n)]) hx hb dX8_add_40 hl (k := 0) rfl (by decide) (by decide) rfl (fun ls hl => ?_)
  refine lv_goto (tgt := 3) hx hb dX8_add_43 (by decide) ?_
  refine lv_iload_n hx hb dX8_add_3 rfl (lv_at hl 0 rfl) ?_
  refine lv_if_lt (tgt := 46) hx hb dX8_add_4 (by decide) (fun c4_19 => absurd c4_19 (by decide)) (fun c4_19 => ?_)
  refine lv_aload_n hx hb dX8_add_7 rfl (lv_at hl 1 rfl) ?_
  refine gf_X8_13 (v := v36_18) X hw hT.1 (show up2 (up2 (up2 (pI S) 61 tp v36_6) 61 tp v36_12) 61 tp v36_18 61 tp = v36_18 from up2_s) dX8_add_8 ?_
  refine lv_sipush (v := 1000) hx hb dX8_add_11 (by decide) ?_
  refine lv_icmp_ge (tgt := 46) hx hb dX8_add_14 (by decide) (fun c14_20 => absurd c14_20 (fun h => absurd (iLe h t_1000 rfl) (by omega))) (fun c14_20 => ?_)
  have D14_20 := iNle c14_20 t_1000 rfl
  refine lv_aload_n hx hb dX8_add_17 rfl (lv_at hl 1 rfl) ?_
  refine gf_X8_9 (b := tb) X hw hT.1 hT.2.1 dX8_add_18 ?_
  refine lv_aload_n hx hb dX8_add_21 rfl (lv_at hl 1 rfl) ?_
  refine gf_X8_13 (v := v36_18) X hw hT.1 (show up2 (up2 (up2 (pI S) 61 tp v36_6) 61 tp v36_12) 61 tp v36_18 61 tp = v36_18 from up2_s) dX8_add_22 ?_
  refine lv_iload_n hx hb dX8_add_25 rfl (lv_at hl 2 rfl) ?_
  refine lv_iload_n hx hb dX8_add_26 rfl (lv_at hl 0 rfl) ?_
  refine lv_ishr hx hb dX8_add_27 ?_
  refine lv_topi (fun v27_21 e27_21 => ?_)
  refine lv_i2b hx hb dX8_add_28 rfl ?_
  refine lv_topi (fun v28_22 e28_22 => ?_)
  refine q_stB X hw hT.2.2.1 (vin hT.2.2.2 (by omega) (by omega)) dX8_add_29 (fun H locs hw => ?_)
  obtain ⟨q29_23, hw⟩ : ∃ zz9, PX G A s.heap (ch S (up2 (up2 (up2 (pI S) 61 tp v36_6) 61 tp v36_12) 61 tp v36_18) (pJ S) zz9 (qJ S)) H locs := ⟨_, hw⟩
  refine lv_aload_n hx hb dX8_add_30 rfl (lv_at hl 1 rfl) ?_
  refine lv_dup hx hb dX8_add_31 rfl ?_
  refine gf_X8_13 (v := v36_18) X hw hT.1 (show up2 (up2 (up2 (pI S) 61 tp v36_6) 61 tp v36_12) 61 tp v36_18 61 tp = v36_18 from up2_s) dX8_add_32 ?_
  refine lv_iconst (v := 1) hx hb dX8_add_35 (by decide) ?_
  refine lv_iadd hx hb dX8_add_36 ?_
  refine lv_topi (fun v36_24 e36_24 => ?_)
  have t36_24 := iAdd e36_24 rfl t_1 (by omega) (by omega)
  have t36 := t36_24
  refine pf_X8_13 X hw hT.1 dX8_add_37 (fun H locs hw => ?_)
  have hw : PX G A s.heap (ch S (up2 (up2 (up2 (up2 (pI S) 61 tp v36_6) 61 tp v36_12) 61 tp v36_18) 61 tp v36_24) (pJ S) q29_23 (qJ S)) H locs := hw
  refine lv_iinc (v := (-8)) (lv' := [(2, .int (-8)), (0, .ref tp), (1, .int n)]) hx hb dX8_add_40 hl (k := 0) rfl (by decide) (by decide) rfl (fun ls hl => ?_)
  refine lv_goto (tgt := 3) hx hb dX8_add_43 (by decide) ?_
  refine lv_iload_n hx hb dX8_add_3 rfl (lv_at hl 0 rfl) ?_
  refine lv_if_lt (tgt := 46) hx hb dX8_add_4 (by decide) (fun c4_25 => ?_) (fun c4_25 => absurd c4_25 (by decide))
  exact hret _ _ _ _ _ ⟨_, _, rfl, fun f hf => by simp only [up2_f hf], by simp only [up2_s]; omega⟩ hw dX8_add_46
