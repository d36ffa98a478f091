
/-! ===== the split's methods write into the split's rows alone ===== -/
def KP (sp : Nat → Nat) (q q' : Nat → Nat → Int32) : Prop := ∀ a, (∀ k, 1 ≤ k → k ≤ 5 → a ≠ sp k) → q' a = q a
theorem KP.rf {sp : Nat → Nat} {q : Nat → Nat → Int32} : KP sp q q := fun _ _ => rfl
theorem KP.tr {sp : Nat → Nat} {q q1 q2 : Nat → Nat → Int32} (h : KP sp q q1) (g : KP sp q1 q2) : KP sp q q2 := fun a ha => (g a ha).trans (h a ha)
theorem KP.up {sp : Nat → Nat} {q q1 q2 : Nat → Nat → Int32} (k : Nat) {r : Nat → Int32} (h : KP sp q q1) (h1 : 1 ≤ k) (h5 : k ≤ 5) (e : q2 = va_up q1 (sp k) r) : KP sp q q2 := fun a ha => (up_n e (ha k h1 h5)).trans (h a ha)
set_option maxHeartbeats 4000000 in
set_option maxRecDepth 100000 in
theorem c_v_X6_listCells (l : Launch) (G : Gh) (S : Pl) (sp : Nat → Nat) (co : Nat) (hP : shSpl S sp) (hc : is S 14 co ∧ pN S co = 64) : MtV l yX6_listCells cX6_listCells 3 none (Rm 0 0 0) G [.ref (sp 0), .ref co] S (fun (S' : Pl) => ∃ I' q' y', ch S I' (pJ S) q' y' = S' ∧ (∀ f, f ≠ 45 → I' f = pI S f) ∧ 0 ≤ (I' 45 (sp 0)).toInt ∧ (I' 45 (sp 0)).toInt ≤ 40 ∧ KP sp (qI S) q') 0 0 := by
  refine MtV.of (by decide) (Nat.le_of_ble_eq_true rfl) ?_
  intro p e s m args below meth c Q A X hw hin hret ls hl
  have hx := X.1.1
  have hb := X.1.2.1
  have hl : lv_has ls 3 [(0, .ref (sp 0)), (1, .ref co)] := hl
  obtain ⟨k0, r40, r41, r42, r43, r44, k1, n1, k2, n2, k3, n3, k4, n4, k5, n5, ne⟩ := id hP
  refine lv_aload_n hx hb dX6_listCells_0 rfl (lv_at hl 0 rfl) ?_
  refine lv_iconst (v := 0) hx hb dX6_listCells_1 (by decide) ?_
  refine pf_X6_49 X hw k0 dX6_listCells_2 (fun H locs hw => ?_)
  have hw : PX G A s.heap (ch S (up2 (pI S) 45 (sp 0) 0) (pJ S) (qI S) (qJ S)) H locs := hw
  refine lv_iconst (v := 0) hx hb dX6_listCells_5 (by decide) ?_
  refine lv_istore_n (lv' := [(2, .int 0), (0, .ref (sp 0)), (1, .ref co)]) hx hb dX6_listCells_6 rfl hl (by decide) rfl (fun ls hl => ?_)
  have lp7 : ∀ (N9 : Nat) (I7 : Nat → Nat → Int32) (q7 : Nat → Nat → Int32) (y7 : Nat → Nat → Int64) (j : Int32), (∀ f, f ≠ 45 → I7 f = pI S f) → (0 ≤ j.toInt ∧ j.toInt ≤ 64) → (0 ≤ (I7 45 (sp 0)).toInt ∧ (I7 45 (sp 0)).toInt ≤ 40) → (KP sp (qI S) q7) → (64 - j.toInt).toNat < N9 → ∀ (H : Heap) (locs : List Loc) (ls : Array Slot), PX G A s.heap (ch S I7 (pJ S) q7 y7) H locs → lv_has ls 3 [(2, .int j), (0, .ref (sp 0)), (1, .ref co)] → W p l e (Rm 0 0 0) s m args below meth c H locs 0 0 Q (F0 m 7 ls []) := by
    intro N9
    induction N9 with
    | zero => intro I7 q7 y7 j hI hj hk h13 hm; exact absurd hm (Nat.not_lt_zero _)
    | succ N9 ih7 =>
      intro I7 q7 y7 j hI hj hk h13 hm H locs ls hw hl
      refine lv_iload_n hx hb dX6_listCells_7 rfl (lv_at hl 0 rfl) ?_
      refine lv_aload_n hx hb dX6_listCells_8 rfl (lv_at hl 2 rfl) ?_
      refine q_lenJ (v := 64) X hw hc.1 (by rw [show _ = 64 from hc.2]; decide) dX6_listCells_9 ?_
      refine lv_icmp_ge (tgt := 68) hx hb dX6_listCells_10 (by decide) (fun c10_1 => ?_) (fun c10_1 => ?_)
      · have D10_1 := iLe c10_1 t_64 rfl
        exact hret _ _ _ _ _ ⟨_, _, _, rfl, hI, by omega, by omega, h13⟩ hw dX6_listCells_68
      · have D10_1 := iNle c10_1 t_64 rfl
        refine lv_aload_n hx hb dX6_listCells_13 rfl (lv_at hl 1 rfl) ?_
        refine gf_X6_49 (v := I7 45 (sp 0)) X hw k0 rfl dX6_listCells_14 ?_
        refine lv_bipush (v := 40) hx hb dX6_listCells_17 (by decide) ?_
        refine lv_icmp_ge (tgt := 68) hx hb dX6_listCells_19 (by decide) (fun c19_2 => ?_) (fun c19_2 => ?_)
        · have D19_2 := iLe c19_2 t_40 rfl
          exact hret _ _ _ _ _ ⟨_, _, _, rfl, hI, by omega, by omega, h13⟩ hw dX6_listCells_68
        · have D19_2 := iNle c19_2 t_40 rfl
          refine lv_aload_n hx hb dX6_listCells_22 rfl (lv_at hl 2 rfl) ?_
          refine lv_iload_n hx hb dX6_listCells_23 rfl (lv_at hl 0 rfl) ?_
          refine q_ldJ X hw hc.1 (vin hc.2 (by omega) (by omega)) dX6_listCells_24 ?_
          refine lv_topl (fun v24_3 e24_3 => ?_)
          have e24_3 : v24_3 = y7 co j.toNatClampNeg := e24_3
          refine lv_lconst (v := 0) hx hb dX6_listCells_25 (by decide) ?_
          refine W.lcmp hx hb dX6_listCells_26 ?_
          refine lv_topi (fun v26_4 e26_4 => ?_)
          refine lv_if_le (tgt := 62) hx hb dX6_listCells_27 (by decide) (fun c27_5 => ?_) (fun c27_5 => ?_)
          · have D27_5 := lc_le e26_4 c27_5
            obtain ⟨v62_6, e62_6⟩ : ∃ y : Int32, y = j + 1 := ⟨_, rfl⟩
            have t62_6 := iAdd e62_6 rfl t_1 (by omega) (by omega)
            have t62 := t62_6
            refine lv_iinc (v := v62_6) (lv' := [(2, .int v62_6), (0, .ref (sp 0)), (1, .ref co)]) hx hb dX6_listCells_62 hl (k := 0) rfl (by rw [e62_6]; rfl) (by decide) rfl (fun ls hl => ?_)
            refine lv_goto (tgt := 7) hx hb dX6_listCells_65 (by decide) ?_
            exact ih7 I7 q7 y7 v62_6 (by first | exact hI | exact fun f hf => (up2_f hf).trans (hI f hf)) (by omega) (by first | exact hk | (simp only [up2_s]; omega)) (by first | exact h13 | exact h13.up 1 (by decide) (by decide) c39) (by omega) _ _ _ hw (lv_sub hl [0, 1, 2] rfl)
          · have D27_5 := lcn_le e26_4 c27_5
            refine lv_aload_n hx hb dX6_listCells_30 rfl (lv_at hl 1 rfl) ?_
            refine gf_X6_9 (b := (sp 1)) X hw k0 r40 dX6_listCells_31 ?_
            refine lv_aload_n hx hb dX6_listCells_34 rfl (lv_at hl 1 rfl) ?_
            refine gf_X6_49 (v := I7 45 (sp 0)) X hw k0 rfl dX6_listCells_35 ?_
            refine lv_iload_n hx hb dX6_listCells_38 rfl (lv_at hl 0 rfl) ?_
            refine q_stI X hw k1 (vin n1 (by omega) (by omega)) dX6_listCells_39 (fun H locs hw => ?_)
            obtain ⟨q39_7, eq39_7, hw⟩ : ∃ zz9, zz9 = va_up q7 (sp 1) (upd (q7 (sp 1)) (I7 45 (sp 0)).toNatClampNeg j) ∧ PX G A s.heap (ch S I7 (pJ S) zz9 y7) H locs := ⟨_, rfl, hw⟩
            have c39 := eq39_7
            refine lv_aload_n hx hb dX6_listCells_40 rfl (lv_at hl 1 rfl) ?_
            refine gf_X6_15 (b := (sp 2)) X hw k0 r41 dX6_listCells_41 ?_
            refine lv_aload_n hx hb dX6_listCells_44 rfl (lv_at hl 1 rfl) ?_
            refine gf_X6_49 (v := I7 45 (sp 0)) X hw k0 rfl dX6_listCells_45 ?_
            refine lv_aload_n hx hb dX6_listCells_48 rfl (lv_at hl 2 rfl) ?_
            refine lv_iload_n hx hb dX6_listCells_49 rfl (lv_at hl 0 rfl) ?_
            refine q_ldJ X hw hc.1 (vin hc.2 (by omega) (by omega)) dX6_listCells_50 ?_
            refine lv_topl (fun v50_8 e50_8 => ?_)
            have e50_8 : v50_8 = y7 co j.toNatClampNeg := e50_8
            refine q_stJ X hw k2 (vin n2 (by omega) (by omega)) dX6_listCells_51 (fun H locs hw => ?_)
            obtain ⟨y51_9, hw⟩ : ∃ zz9, PX G A s.heap (ch S I7 (pJ S) q39_7 zz9) H locs := ⟨_, hw⟩
            refine lv_aload_n hx hb dX6_listCells_52 rfl (lv_at hl 1 rfl) ?_
            refine lv_dup hx hb dX6_listCells_53 rfl ?_
            refine gf_X6_49 (v := I7 45 (sp 0)) X hw k0 rfl dX6_listCells_54 ?_
            refine lv_iconst (v := 1) hx hb dX6_listCells_57 (by decide) ?_
            refine lv_iadd hx hb dX6_listCells_58 ?_
            refine lv_topi (fun v58_10 e58_10 => ?_)
            have t58_10 := iAdd e58_10 rfl t_1 (by omega) (by omega)
            have t58 := t58_10
            refine pf_X6_49 X hw k0 dX6_listCells_59 (fun H locs hw => ?_)
            have hw : PX G A s.heap (ch S (up2 I7 45 (sp 0) v58_10) (pJ S) q39_7 y51_9) H locs := hw
            obtain ⟨v62_11, e62_11⟩ : ∃ y : Int32, y = j + 1 := ⟨_, rfl⟩
            have t62_11 := iAdd e62_11 rfl t_1 (by omega) (by omega)
            have t62 := t62_11
            refine lv_iinc (v := v62_11) (lv' := [(2, .int v62_11), (0, .ref (sp 0)), (1, .ref co)]) hx hb dX6_listCells_62 hl (k := 0) rfl (by rw [e62_11]; rfl) (by decide) rfl (fun ls hl => ?_)
            refine lv_goto (tgt := 7) hx hb dX6_listCells_65 (by decide) ?_
            exact ih7 (up2 I7 45 (sp 0) v58_10) q39_7 y51_9 v62_11 (by first | exact hI | exact fun f hf => (up2_f hf).trans (hI f hf)) (by omega) (by first | exact hk | (simp only [up2_s]; omega)) (by first | exact h13 | exact h13.up 1 (by decide) (by decide) c39) (by omega) _ _ _ hw (lv_sub hl [0, 1, 2] rfl)
  exact lp7 _ (up2 (pI S) 45 (sp 0) 0) (qI S) (qJ S) 0 (fun f hf => up2_f hf) (by have := t_0; omega) (by simp only [up2_s]; decide) KP.rf (Nat.lt_succ_self _) _ _ _ hw (lv_sub hl [0, 1, 2] rfl)
set_option maxHeartbeats 4000000 in
set_option maxRecDepth 100000 in
theorem c_v_X6_listSteps (l : Launch) (G : Gh) (S : Pl) (sp : Nat → Nat) (sa : Nat → Nat) (w : Int32) (hP : shSpl S sp) (hS : shSea S sa) : MtV l yX6_listSteps cX6_listSteps 5 none (Rm 2 0 0) G [.ref (sp 0), .ref (sa 0), .int w] S (fun (S' : Pl) => ∃ I' q', ch S I' (pJ S) q' (qJ S) = S' ∧ (∀ f, f ≠ 46 → I' f = pI S f) ∧ 1 ≤ (I' 46 (sp 0)).toInt ∧ (I' 46 (sp 0)).toInt ≤ 21 ∧ spS I' q' sp ∧ KP sp (qI S) q') 0 0 := by
  refine MtV.of (by decide) (Nat.le_of_ble_eq_true rfl) ?_
  intro p e s m args below meth c Q A X hw hin hret ls hl
  have hx := X.1.1
  have hb := X.1.2.1
  have hl : lv_has ls 5 [(0, .ref (sp 0)), (1, .ref (sa 0)), (2, .int w)] := hl
  obtain ⟨k0, r40, r41, r42, r43, r44, k1, n1, k2, n2, k3, n3, k4, n4, k5, n5, ne⟩ := id hP
  refine lv_aload_n hx hb dX6_listSteps_0 rfl (lv_at hl 0 rfl) ?_
  refine gf_X6_19 (b := (sp 3)) X hw k0 r42 dX6_listSteps_1 ?_
  refine lv_iconst (v := 0) hx hb dX6_listSteps_4 (by decide) ?_
  refine lv_iconst (v := 0) hx hb dX6_listSteps_5 (by decide) ?_
  refine q_stI X hw k3 (vinl n3 (by decide) t_0 (by decide)) dX6_listSteps_6 (fun H locs hw => ?_)
  obtain ⟨q6_1, eq6_1, hw⟩ : ∃ zz9, zz9 = va_up (qI S) (sp 3) (upd ((qI S) (sp 3)) (0 : Int32).toNatClampNeg 0) ∧ PX G A s.heap (ch S (pI S) (pJ S) zz9 (qJ S)) H locs := ⟨_, rfl, hw⟩
  have c6 := eq6_1
  refine lv_aload_n hx hb dX6_listSteps_7 rfl (lv_at hl 0 rfl) ?_
  refine gf_X6_22 (b := (sp 4)) X hw k0 r43 dX6_listSteps_8 ?_
  refine lv_iconst (v := 0) hx hb dX6_listSteps_11 (by decide) ?_
  refine lv_bipush (v := 100) hx hb dX6_listSteps_12 (by decide) ?_
  refine lv_aload_n hx hb dX6_listSteps_14 rfl (lv_at hl 1 rfl) ?_
  refine lv_iload_n hx hb dX6_listSteps_15 rfl (lv_at hl 2 rfl) ?_
  refine lv_iconst (v := 0) hx hb dX6_listSteps_16 (by decide) ?_
  refine k_Vi (n := 2) X hw (rcvk (ci := 3) X hw hS.1 (fun _ _ _ _ _ _ _ => ⟨_, rfl⟩) rfl) (c_v_X3_missOf l G _ sa w 0 hS) wd_r40_11 wd_r16_12 wd_r16_13 wd_r2_9 wd_r16_14 ⟨by decide, by decide, by decide +kernel⟩ rfl rfl ⟨Nat.le_of_ble_eq_true rfl, Nat.le_of_ble_eq_true rfl⟩ rfl rfl hl.1 (Nat.le_of_ble_eq_true rfl) dX6_listSteps_17 ⟨Nat.le_of_ble_eq_true rfl, Nat.le_of_ble_eq_true rfl⟩ (fun r17_2 S17_4 H locs h17_3 hw => ?_)
  have := t_0
  obtain ⟨rfl, h17_3⟩ := h17_3
  refine lv_isub hx hb dX6_listSteps_20 ?_
  refine lv_topi (fun v20_5 e20_5 => ?_)
  refine q_stI X hw k4 (vinl n4 (by decide) t_0 (by decide)) dX6_listSteps_21 (fun H locs hw => ?_)
  obtain ⟨q21_6, eq21_6, hw⟩ : ∃ zz9, zz9 = va_up q6_1 (sp 4) (upd (q6_1 (sp 4)) (0 : Int32).toNatClampNeg v20_5) ∧ PX G A s.heap (ch S (pI S) (pJ S) zz9 (qJ S)) H locs := ⟨_, rfl, hw⟩
  have c21 := eq21_6
  refine lv_aload_n hx hb dX6_listSteps_22 rfl (lv_at hl 0 rfl) ?_
  refine lv_iconst (v := 1) hx hb dX6_listSteps_23 (by decide) ?_
  refine pf_X6_68 X hw k0 dX6_listSteps_24 (fun H locs hw => ?_)
  have hw : PX G A s.heap (ch S (up2 (pI S) 46 (sp 0) 1) (pJ S) q21_6 (qJ S)) H locs := hw
  refine lv_iconst (v := 1) hx hb dX6_listSteps_27 (by decide) ?_
  refine lv_istore_n (lv' := [(3, .int 1), (0, .ref (sp 0)), (1, .ref (sa 0)), (2, .int w)]) hx hb dX6_listSteps_28 rfl hl (by decide) rfl (fun ls hl => ?_)
  have lp29 : ∀ (N9 : Nat) (I29 : Nat → Nat → Int32) (q29 : Nat → Nat → Int32) (v : Int32), (∀ f, f ≠ 46 → I29 f = pI S f) → (1 ≤ v.toInt ∧ v.toInt ≤ 21) → (1 ≤ (I29 46 (sp 0)).toInt ∧ (I29 46 (sp 0)).toInt ≤ v.toInt) → (spS I29 q29 sp) → (KP sp (qI S) q29) → (21 - v.toInt).toNat < N9 → ∀ (H : Heap) (locs : List Loc) (ls : Array Slot), PX G A s.heap (ch S I29 (pJ S) q29 (qJ S)) H locs → lv_has ls 5 [(3, .int v), (0, .ref (sp 0)), (1, .ref (sa 0)), (2, .int w)] → W p l e (Rm 2 0 0) s m args below meth c H locs 0 0 Q (F0 m 29 ls []) := by
    intro N9
    induction N9 with
    | zero => intro I29 q29 v hI hj hk hs h13 hm; exact absurd hm (Nat.not_lt_zero _)
    | succ N9 ih29 =>
      intro I29 q29 v hI hj hk hs h13 hm H locs ls hw hl
      refine lv_iload_n hx hb dX6_listSteps_29 rfl (lv_at hl 0 rfl) ?_
      refine lv_bipush (v := 20) hx hb dX6_listSteps_30 (by decide) ?_
      refine lv_icmp_gt (tgt := 99) hx hb dX6_listSteps_32 (by decide) (fun c32_7 => ?_) (fun c32_7 => ?_)
      · have D32_7 := iLt c32_7 t_20 rfl
        exact hret _ _ _ _ _ ⟨_, _, rfl, hI, by omega, by omega, hs, h13⟩ hw dX6_listSteps_99
      · have D32_7 := iNlt c32_7 t_20 rfl
        refine lv_bipush (v := 100) hx hb dX6_listSteps_35 (by decide) ?_
        refine lv_aload_n hx hb dX6_listSteps_37 rfl (lv_at hl 2 rfl) ?_
        refine lv_iload_n hx hb dX6_listSteps_38 rfl (lv_at hl 3 rfl) ?_
        refine lv_iload_n hx hb dX6_listSteps_39 rfl (lv_at hl 0 rfl) ?_
        refine k_Vi (n := 2) X hw (rcvk (ci := 3) X hw hS.1 (fun _ _ _ _ _ _ _ => ⟨_, rfl⟩) rfl) (c_v_X3_missOf l G _ sa w v hS) wd_r40_11 wd_r16_12 wd_r16_13 wd_r2_9 wd_r16_14 ⟨by decide, by decide, by decide +kernel⟩ rfl rfl ⟨Nat.le_of_ble_eq_true rfl, Nat.le_of_ble_eq_true rfl⟩ rfl rfl hl.1 (Nat.le_of_ble_eq_true rfl) dX6_listSteps_40 ⟨Nat.le_of_ble_eq_true rfl, Nat.le_of_ble_eq_true rfl⟩ (fun r40_8 S40_10 H locs h40_9 hw => ?_)
        obtain ⟨rfl, h40_9⟩ := h40_9
        refine lv_isub hx hb dX6_listSteps_43 ?_
        refine lv_topi (fun v43_11 e43_11 => ?_)
        refine lv_istore (lv' := [(4, .int v43_11), (3, .int v), (0, .ref (sp 0)), (1, .ref (sa 0)), (2, .int w)]) hx hb dX6_listSteps_44 hl (by decide) rfl (fun ls hl => ?_)
        refine lv_iload hx hb dX6_listSteps_46 (lv_at hl 0 rfl) ?_
        refine lv_aload_n hx hb dX6_listSteps_48 rfl (lv_at hl 2 rfl) ?_
        refine gf_X6_22 (b := (sp 4)) X hw k0 r43 dX6_listSteps_49 ?_
        refine lv_aload_n hx hb dX6_listSteps_52 rfl (lv_at hl 2 rfl) ?_
        refine gf_X6_68 (v := I29 46 (sp 0)) X hw k0 rfl dX6_listSteps_53 ?_
        refine lv_iconst (v := 1) hx hb dX6_listSteps_56 (by decide) ?_
        refine lv_isub hx hb dX6_listSteps_57 ?_
        refine lv_topi (fun v57_12 e57_12 => ?_)
        have t57_12 := iSub e57_12 rfl t_1 (by omega) (by omega)
        have t57 := t57_12
        refine q_ldI X hw k4 (vin n4 (by omega) (by omega)) dX6_listSteps_58 ?_
        refine lv_topi (fun v58_13 e58_13 => ?_)
        have e58_13 : v58_13 = q29 (sp 4) v57_12.toNatClampNeg := e58_13
        refine lv_icmp_le (tgt := 93) hx hb dX6_listSteps_59 (by decide) (fun c59_14 => ?_) (fun c59_14 => ?_)
        · have D59_14 := iLe c59_14 rfl rfl
          obtain ⟨v93_15, e93_15⟩ : ∃ y : Int32, y = v + 1 := ⟨_, rfl⟩
          have t93_15 := iAdd e93_15 rfl t_1 (by omega) (by omega)
          have t93 := t93_15
          refine lv_iinc (v := v93_15) (lv' := [(3, .int v93_15), (4, .int v43_11), (0, .ref (sp 0)), (1, .ref (sa 0)), (2, .int w)]) hx hb dX6_listSteps_93 hl (k := 1) rfl (by rw [e93_15]; rfl) (by decide) rfl (fun ls hl => ?_)
          refine lv_goto (tgt := 29) hx hb dX6_listSteps_96 (by decide) ?_
          exact ih29 I29 q29 v93_15 (by first | exact hI | exact fun f hf => (up2_f hf).trans (hI f hf)) (by omega) (by first | omega | (simp only [up2_s]; omega)) (by first | exact hs | exact spS_push hs (by omega) (by assumption) (by rw [c82, vu_n ne, c71, vu_s]) (by omega)) (by first | exact h13 | exact (h13.up 3 (by decide) (by decide) c71).up 4 (by decide) (by decide) c82) (by omega) _ _ _ hw (lv_sub hl [0, 2, 3, 4] rfl)
        · have D59_14 := iNle c59_14 rfl rfl
          refine lv_aload_n hx hb dX6_listSteps_62 rfl (lv_at hl 2 rfl) ?_
          refine gf_X6_19 (b := (sp 3)) X hw k0 r42 dX6_listSteps_63 ?_
          refine lv_aload_n hx hb dX6_listSteps_66 rfl (lv_at hl 2 rfl) ?_
          refine gf_X6_68 (v := I29 46 (sp 0)) X hw k0 rfl dX6_listSteps_67 ?_
          refine lv_iload_n hx hb dX6_listSteps_70 rfl (lv_at hl 1 rfl) ?_
          refine q_stI X hw k3 (vin n3 (by omega) (by omega)) dX6_listSteps_71 (fun H locs hw => ?_)
          obtain ⟨q71_16, eq71_16, hw⟩ : ∃ zz9, zz9 = va_up q29 (sp 3) (upd (q29 (sp 3)) (I29 46 (sp 0)).toNatClampNeg v) ∧ PX G A s.heap (ch S I29 (pJ S) zz9 (qJ S)) H locs := ⟨_, rfl, hw⟩
          have c71 := eq71_16
          refine lv_aload_n hx hb dX6_listSteps_72 rfl (lv_at hl 2 rfl) ?_
          refine gf_X6_22 (b := (sp 4)) X hw k0 r43 dX6_listSteps_73 ?_
          refine lv_aload_n hx hb dX6_listSteps_76 rfl (lv_at hl 2 rfl) ?_
          refine gf_X6_68 (v := I29 46 (sp 0)) X hw k0 rfl dX6_listSteps_77 ?_
          refine lv_iload hx hb dX6_listSteps_80 (lv_at hl 0 rfl) ?_
          refine q_stI X hw k4 (vin n4 (by omega) (by omega)) dX6_listSteps_82 (fun H locs hw => ?_)
          obtain ⟨q82_17, eq82_17, hw⟩ : ∃ zz9, zz9 = va_up q71_16 (sp 4) (upd (q71_16 (sp 4)) (I29 46 (sp 0)).toNatClampNeg v43_11) ∧ PX G A s.heap (ch S I29 (pJ S) zz9 (qJ S)) H locs := ⟨_, rfl, hw⟩
          have c82 := eq82_17
          refine lv_aload_n hx hb dX6_listSteps_83 rfl (lv_at hl 2 rfl) ?_
          refine lv_dup hx hb dX6_listSteps_84 rfl ?_
          refine gf_X6_68 (v := I29 46 (sp 0)) X hw k0 rfl dX6_listSteps_85 ?_
          refine lv_iconst (v := 1) hx hb dX6_listSteps_88 (by decide) ?_
          refine lv_iadd hx hb dX6_listSteps_89 ?_
          refine lv_topi (fun v89_18 e89_18 => ?_)
          have t89_18 := iAdd e89_18 rfl t_1 (by omega) (by omega)
          have t89 := t89_18
          refine pf_X6_68 X hw k0 dX6_listSteps_90 (fun H locs hw => ?_)
          have hw : PX G A s.heap (ch S (up2 I29 46 (sp 0) v89_18) (pJ S) q82_17 (qJ S)) H locs := hw
          obtain ⟨v93_19, e93_19⟩ : ∃ y : Int32, y = v + 1 := ⟨_, rfl⟩
          have t93_19 := iAdd e93_19 rfl t_1 (by omega) (by omega)
          have t93 := t93_19
          refine lv_iinc (v := v93_19) (lv' := [(3, .int v93_19), (4, .int v43_11), (0, .ref (sp 0)), (1, .ref (sa 0)), (2, .int w)]) hx hb dX6_listSteps_93 hl (k := 1) rfl (by rw [e93_19]; rfl) (by decide) rfl (fun ls hl => ?_)
          refine lv_goto (tgt := 29) hx hb dX6_listSteps_96 (by decide) ?_
          exact ih29 (up2 I29 46 (sp 0) v89_18) q82_17 v93_19 (by first | exact hI | exact fun f hf => (up2_f hf).trans (hI f hf)) (by omega) (by first | omega | (simp only [up2_s]; omega)) (by first | exact hs | exact spS_push hs (by omega) (by assumption) (by rw [c82, vu_n ne, c71, vu_s]) (by omega)) (by first | exact h13 | exact (h13.up 3 (by decide) (by decide) c71).up 4 (by decide) (by decide) c82) (by omega) _ _ _ hw (lv_sub hl [0, 2, 3, 4] rfl)
  exact lp29 _ (up2 (pI S) 46 (sp 0) 1) q21_6 1 (fun f hf => up2_f hf) (by have := t_1; omega) (by simp only [up2_s]; decide) (spS_one c6 c21 ne) ((KP.rf.up 3 (by decide) (by decide) c6).up 4 (by decide) (by decide) c21) (Nat.lt_succ_self _) _ _ _ hw (lv_sub hl [0, 1, 2, 3] rfl)
set_option maxHeartbeats 4000000 in
set_option maxRecDepth 100000 in
theorem c_v_X6_weigh (l : Launch) (G : Gh) (S : Pl) (sp : Nat → Nat) (co : Nat) (sa : Nat → Nat) (w n : Int32) (hP : shSpl S sp) (hc : is S 14 co ∧ pN S co = 64) (hS : shSea S sa) : MtV l yX6_weigh cX6_weigh 7 none (Rm 3 0 0) G [.ref (sp 0), .ref co, .ref (sa 0), .int w, .int n] S (fun (S' : Pl) => ∃ I' q' y', ch S I' (pJ S) q' y' = S' ∧ (∀ f, f ∉ [45, 46, 47] → I' f = pI S f) ∧ spN I' sp ∧ spS I' q' sp ∧ KP sp (qI S) q') 0 0 := by
  refine MtV.of (by decide) (Nat.le_of_ble_eq_true rfl) ?_
  intro p e s m args below meth c Q A X hw hin hret ls hl
  have hx := X.1.1
  have hb := X.1.2.1
  have hl : lv_has ls 7 [(0, .ref (sp 0)), (1, .ref co), (2, .ref (sa 0)), (3, .int w), (4, .int n)] := hl
  obtain ⟨k0, r40, r41, r42, r43, r44, k1, n1, k2, n2, k3, n3, k4, n4, k5, n5, ne⟩ := id hP
  refine lv_aload_n hx hb dX6_weigh_0 rfl (lv_at hl 0 rfl) ?_
  refine lv_iconst (v := 0) hx hb dX6_weigh_1 (by decide) ?_
  refine lv_iload hx hb dX6_weigh_2 (lv_at hl 4 rfl) ?_
  refine lv_bipush (v := 40) hx hb dX6_weigh_4 (by decide) ?_
  refine va_mmin hx hb (by rw [X.1.2.2.1]; exact hl.1.symm) X.1.2.2.2.1 (X.1.2.2.2.2 _ wd_r39_22) (X.1.2.2.2.2 _ wd_r29_8) (X.1.2.2.2.2 _ wd_r28_6) (X.1.2.2.2.2 _ wd_r29_9) (Nat.le_of_ble_eq_true rfl) (Nat.le_of_ble_eq_true rfl) (Nat.zero_le _) (Nat.zero_le _) dX6_weigh_6 ?_
  refine lv_topi (fun v6_1 e6_1 => ?_)
  refine va_mmax hx hb (by rw [X.1.2.2.1]; exact hl.1.symm) X.1.2.2.2.1 (X.1.2.2.2.2 _ wd_r39_23) (X.1.2.2.2.2 _ wd_r28_5) (X.1.2.2.2.2 _ wd_r28_6) (X.1.2.2.2.2 _ wd_r28_7) (Nat.le_of_ble_eq_true rfl) (Nat.le_of_ble_eq_true rfl) (Nat.zero_le _) (Nat.zero_le _) dX6_weigh_9 ?_
  refine lv_topi (fun v9_2 e9_2 => ?_)
  have hef := effb (by assumption) (by assumption)
  refine pf_X6_37 X hw k0 dX6_weigh_12 (fun H locs hw => ?_)
  have hw : PX G A s.heap (ch S (up2 (pI S) 47 (sp 0) v9_2) (pJ S) (qI S) (qJ S)) H locs := hw
  refine lv_aload_n hx hb dX6_weigh_15 rfl (lv_at hl 0 rfl) ?_
  refine lv_aload_n hx hb dX6_weigh_16 rfl (lv_at hl 1 rfl) ?_
  refine k_Vv (n := 1) X hw (rcvk (ci := 6) X hw k0 (fun _ _ _ _ _ _ _ => ⟨_, rfl⟩) rfl) (c_v_X6_listCells l G _ sp co hP hc) wd_r40_2 wd_r40_3 wd_r40_4 wd_r2_3 wd_r40_5 ⟨by decide, by decide, by decide +kernel⟩ rfl rfl ⟨Nat.le_of_ble_eq_true rfl, Nat.le_of_ble_eq_true rfl⟩ rfl rfl hl.1 (Nat.le_of_ble_eq_true rfl) dX6_weigh_17 ⟨Nat.le_of_ble_eq_true rfl, Nat.le_of_ble_eq_true rfl⟩ (fun S17_4 H locs h17_3 hw => ?_)
  obtain ⟨I17_5, q17_6, y17_7, rfl, h17_3⟩ := h17_3
  have hw : PX G A s.heap (ch S I17_5 (pJ S) q17_6 y17_7) H locs := hw
  have hCo := And.intro h17_3.1 (And.intro h17_3.2.1 h17_3.2.2.1)
  have HC13 : KP sp (qI S) q17_6 := h17_3.2.2.2
  refine lv_aload_n hx hb dX6_weigh_20 rfl (lv_at hl 0 rfl) ?_
  refine lv_aload_n hx hb dX6_weigh_21 rfl (lv_at hl 2 rfl) ?_
  refine lv_iload_n hx hb dX6_weigh_22 rfl (lv_at hl 3 rfl) ?_
  refine k_Vv (n := 2) X hw (rcvk (ci := 6) X hw k0 (fun _ _ _ _ _ _ _ => ⟨_, rfl⟩) rfl) (c_v_X6_listSteps l G _ sp sa w hP hS) wd_r40_6 wd_r40_7 wd_r40_8 wd_r2_3 wd_r40_9 ⟨by decide, by decide, by decide +kernel⟩ rfl rfl ⟨Nat.le_of_ble_eq_true rfl, Nat.le_of_ble_eq_true rfl⟩ rfl rfl hl.1 (Nat.le_of_ble_eq_true rfl) dX6_weigh_23 ⟨Nat.le_of_ble_eq_true rfl, Nat.le_of_ble_eq_true rfl⟩ (fun S23_9 H locs h23_8 hw => ?_)
  obtain ⟨I23_10, q23_11, rfl, h23_8⟩ := h23_8
  have hw : PX G A s.heap (ch S I23_10 (pJ S) q23_11 y17_7) H locs := hw
  have hSo := And.intro h23_8.1 (And.intro h23_8.2.1 (And.intro h23_8.2.2.1 h23_8.2.2.2.1))
  have HS13 := HC13.tr h23_8.2.2.2.2
  have hN : spN I23_10 sp := wg_N hef hCo hSo
  have hs : spS I23_10 q23_11 sp := wg_S hSo
  have hI : ∀ f, f ∉ [45, 46, 47] → I23_10 f = pI S f := wg_I hCo hSo
  obtain ⟨u1, u2, u3, u4, u5, u6⟩ := id hN
  refine lv_iconst (v := 0) hx hb dX6_weigh_26 (by decide) ?_
  refine lv_istore (lv' := [(5, .int 0), (0, .ref (sp 0)), (1, .ref co), (2, .ref (sa 0)), (3, .int w), (4, .int n)]) hx hb dX6_weigh_27 hl (by decide) rfl (fun ls hl => ?_)
  have lp29 : ∀ (N9 : Nat) (y29 : Nat → Nat → Int64) (a : Int32), (0 ≤ a.toInt ∧ a.toInt ≤ 41) → (41 - a.toInt).toNat < N9 → ∀ (H : Heap) (locs : List Loc) (ls : Array Slot), PX G A s.heap (ch S I23_10 (pJ S) q23_11 y29) H locs → lv_has ls 7 [(5, .int a), (0, .ref (sp 0)), (1, .ref co), (2, .ref (sa 0)), (3, .int w), (4, .int n)] → W p l e (Rm 3 0 0) s m args below meth c H locs 0 0 Q (F0 m 29 ls []) := by
    intro N9
    induction N9 with
    | zero => intro y29 a ha hm; exact absurd hm (Nat.not_lt_zero _)
    | succ N9 ih29 =>
      intro y29 a ha hm H locs ls hw hl
      refine lv_iload hx hb dX6_weigh_29 (lv_at hl 0 rfl) ?_
      refine lv_aload_n hx hb dX6_weigh_31 rfl (lv_at hl 1 rfl) ?_
      refine gf_X6_37 (v := I23_10 47 (sp 0)) X hw k0 rfl dX6_weigh_32 ?_
      refine lv_icmp_gt (tgt := 60) hx hb dX6_weigh_35 (by decide) (fun c35_12 => ?_) (fun c35_12 => ?_)
      · have D35_12 := iLt c35_12 rfl rfl
        refine lv_aload_n hx hb dX6_weigh_60 rfl (lv_at hl 1 rfl) ?_
        refine gf_X6_49 (v := I23_10 45 (sp 0)) X hw k0 rfl dX6_weigh_61 ?_
        refine lv_iconst (v := 1) hx hb dX6_weigh_64 (by decide) ?_
        refine lv_isub hx hb dX6_weigh_65 ?_
        refine lv_topi (fun v65_13 e65_13 => ?_)
        have t65_13 := iSub e65_13 rfl t_1 (by omega) (by omega)
        have t65 := t65_13
        refine lv_istore (lv' := [(5, .int v65_13), (0, .ref (sp 0)), (1, .ref co), (2, .ref (sa 0)), (3, .int w), (4, .int n)]) hx hb dX6_weigh_66 hl (by decide) rfl (fun ls hl => ?_)
        have lp68 : ∀ (N9 : Nat) (y68 : Nat → Nat → Int64) (b : Int32), (-1 ≤ b.toInt ∧ b.toInt ≤ 39) → (b.toInt + 1).toNat < N9 → ∀ (H : Heap) (locs : List Loc) (ls : Array Slot), PX G A s.heap (ch S I23_10 (pJ S) q23_11 y68) H locs → lv_has ls 7 [(5, .int b), (0, .ref (sp 0)), (1, .ref co), (2, .ref (sa 0)), (3, .int w), (4, .int n)] → W p l e (Rm 3 0 0) s m args below meth c H locs 0 0 Q (F0 m 68 ls []) := by
          intro N9
          induction N9 with
          | zero => intro y68 b hb0 hm; exact absurd hm (Nat.not_lt_zero _)
          | succ N9 ih68 =>
            intro y68 b hb0 hm H locs ls hw hl
            refine lv_iload hx hb dX6_weigh_68 (lv_at hl 0 rfl) ?_
            refine lv_if_lt (tgt := 118) hx hb dX6_weigh_70 (by decide) (fun c70_14 => ?_) (fun c70_14 => ?_)
            · have D70_14 := iLt c70_14 rfl t_0
              exact hret _ _ _ _ _ ⟨_, _, _, rfl, hI, hN, hs, HS13⟩ hw dX6_weigh_118
            · have D70_14 := iNlt c70_14 rfl t_0
              refine lv_iconst (v := 0) hx hb dX6_weigh_73 (by decide) ?_
              refine lv_istore (lv' := [(6, .int 0), (5, .int b), (0, .ref (sp 0)), (1, .ref co), (2, .ref (sa 0)), (3, .int w), (4, .int n)]) hx hb dX6_weigh_74 hl (by decide) rfl (fun ls hl => ?_)
              have lp76 : ∀ (N9 : Nat) (y76 : Nat → Nat → Int64) (d : Int32), (0 ≤ d.toInt ∧ d.toInt ≤ 41) → (41 - d.toInt).toNat < N9 → ∀ (H : Heap) (locs : List Loc) (ls : Array Slot), PX G A s.heap (ch S I23_10 (pJ S) q23_11 y76) H locs → lv_has ls 7 [(6, .int d), (5, .int b), (0, .ref (sp 0)), (1, .ref co), (2, .ref (sa 0)), (3, .int w), (4, .int n)] → W p l e (Rm 3 0 0) s m args below meth c H locs 0 0 Q (F0 m 76 ls []) := by
                intro N9
                induction N9 with
                | zero => intro y76 d hd hm; exact absurd hm (Nat.not_lt_zero _)
                | succ N9 ih76 =>
                  intro y76 d hd hm H locs ls hw hl
                  refine lv_iload hx hb dX6_weigh_76 (lv_at hl 0 rfl) ?_
                  refine lv_aload_n hx hb dX6_weigh_78 rfl (lv_at hl 2 rfl) ?_
                  refine gf_X6_37 (v := I23_10 47 (sp 0)) X hw k0 rfl dX6_weigh_79 ?_
                  refine lv_icmp_gt (tgt := 112) hx hb dX6_weigh_82 (by decide) (fun c82_15 => ?_) (fun c82_15 => ?_)
                  · have D82_15 := iLt c82_15 rfl rfl
                    obtain ⟨v112_16, e112_16⟩ : ∃ y : Int32, y = b + (-1) := ⟨_, rfl⟩
                    have t112_16 := iAdd e112_16 rfl t_m1 (by omega) (by omega)
                    have t112 := t112_16
                    refine lv_iinc (v := v112_16) (lv' := [(5, .int v112_16), (6, .int d), (0, .ref (sp 0)), (1, .ref co), (2, .ref (sa 0)), (3, .int w), (4, .int n)]) hx hb dX6_weigh_112 hl (k := 1) rfl (by rw [e112_16]; rfl) (by decide) rfl (fun ls hl => ?_)
                    refine lv_goto (tgt := 68) hx hb dX6_weigh_115 (by decide) ?_
                    exact ih68 y76 v112_16 (by omega) (by omega) _ _ _ hw (lv_sub hl [0, 2, 3, 4, 5, 6] rfl)
                  · have D82_15 := iNlt c82_15 rfl rfl
                    refine lv_aload_n hx hb dX6_weigh_85 rfl (lv_at hl 2 rfl) ?_
                    refine gf_X6_25 (b := (sp 5)) X hw k0 r44 dX6_weigh_86 ?_
                    refine lv_iload hx hb dX6_weigh_89 (lv_at hl 1 rfl) ?_
                    refine lv_bipush (v := 41) hx hb dX6_weigh_91 (by decide) ?_
                    refine lv_imul hx hb dX6_weigh_93 ?_
                    refine lv_topi (fun v93_17 e93_17 => ?_)
                    have t93_17 := iMul e93_17 rfl t_41 (by omega) (by omega)
                    have t93 := t93_17
                    refine lv_iload hx hb dX6_weigh_94 (lv_at hl 0 rfl) ?_
                    refine lv_iadd hx hb dX6_weigh_96 ?_
                    refine lv_topi (fun v96_18 e96_18 => ?_)
                    have t96_18 := iAdd e96_18 rfl rfl (by omega) (by omega)
                    have t96 := t96_18
                    refine lv_aload_n hx hb dX6_weigh_97 rfl (lv_at hl 2 rfl) ?_
                    refine lv_iload hx hb dX6_weigh_98 (lv_at hl 1 rfl) ?_
                    refine lv_iload hx hb dX6_weigh_100 (lv_at hl 0 rfl) ?_
                    refine k_Vl (n := 2) X hw (rcvk (ci := 6) X hw k0 (fun _ _ _ _ _ _ _ => ⟨_, rfl⟩) rfl) (c_X6_mostFrom l G _ sp b d hP hN hs (by omega) (by omega)) wd_r40_12 wd_r40_13 wd_r40_14 wd_r2_3 wd_r40_15 ⟨by decide, by decide, by decide +kernel⟩ rfl rfl ⟨Nat.le_of_ble_eq_true rfl, Nat.le_of_ble_eq_true rfl⟩ rfl rfl hl.1 (Nat.le_of_ble_eq_true rfl) dX6_weigh_102 ⟨Nat.le_of_ble_eq_true rfl, Nat.le_of_ble_eq_true rfl⟩ (fun r102_19 S102_21 H locs h102_20 hw => ?_)
                    obtain ⟨rfl, h102_20⟩ := h102_20
                    refine q_stJ X hw k5 (vin n5 (by omega) (by omega)) dX6_weigh_105 (fun H locs hw => ?_)
                    obtain ⟨y105_22, hw⟩ : ∃ zz9, PX G A s.heap (ch S I23_10 (pJ S) q23_11 zz9) H locs := ⟨_, hw⟩
                    obtain ⟨v106_23, e106_23⟩ : ∃ y : Int32, y = d + 1 := ⟨_, rfl⟩
                    have t106_23 := iAdd e106_23 rfl t_1 (by omega) (by omega)
                    have t106 := t106_23
                    refine lv_iinc (v := v106_23) (lv' := [(6, .int v106_23), (5, .int b), (0, .ref (sp 0)), (1, .ref co), (2, .ref (sa 0)), (3, .int w), (4, .int n)]) hx hb dX6_weigh_106 hl (k := 0) rfl (by rw [e106_23]; rfl) (by decide) rfl (fun ls hl => ?_)
                    refine lv_goto (tgt := 76) hx hb dX6_weigh_109 (by decide) ?_
                    exact ih76 y105_22 v106_23 (by omega) (by omega) _ _ _ hw (lv_sub hl [0, 1, 2, 3, 4, 5, 6] rfl)
              exact lp76 _ y68 0 (by have := t_0; omega) (Nat.lt_succ_self _) _ _ _ hw (lv_sub hl [0, 1, 2, 3, 4, 5, 6] rfl)
        exact lp68 _ y29 v65_13 (by omega) (Nat.lt_succ_self _) _ _ _ hw (lv_sub hl [0, 1, 2, 3, 4, 5] rfl)
      · have D35_12 := iNlt c35_12 rfl rfl
        refine lv_aload_n hx hb dX6_weigh_38 rfl (lv_at hl 1 rfl) ?_
        refine gf_X6_25 (b := (sp 5)) X hw k0 r44 dX6_weigh_39 ?_
        refine lv_aload_n hx hb dX6_weigh_42 rfl (lv_at hl 1 rfl) ?_
        refine gf_X6_49 (v := I23_10 45 (sp 0)) X hw k0 rfl dX6_weigh_43 ?_
        refine lv_bipush (v := 41) hx hb dX6_weigh_46 (by decide) ?_
        refine lv_imul hx hb dX6_weigh_48 ?_
        refine lv_topi (fun v48_24 e48_24 => ?_)
        have t48_24 := iMul e48_24 rfl t_41 (by omega) (by omega)
        have t48 := t48_24
        refine lv_iload hx hb dX6_weigh_49 (lv_at hl 0 rfl) ?_
        refine lv_iadd hx hb dX6_weigh_51 ?_
        refine lv_topi (fun v51_25 e51_25 => ?_)
        have t51_25 := iAdd e51_25 rfl rfl (by omega) (by omega)
        have t51 := t51_25
        refine lv_lconst (v := 0) hx hb dX6_weigh_52 (by decide) ?_
        refine q_stJ X hw k5 (vin n5 (by omega) (by omega)) dX6_weigh_53 (fun H locs hw => ?_)
        obtain ⟨y53_26, hw⟩ : ∃ zz9, PX G A s.heap (ch S I23_10 (pJ S) q23_11 zz9) H locs := ⟨_, hw⟩
        obtain ⟨v54_27, e54_27⟩ : ∃ y : Int32, y = a + 1 := ⟨_, rfl⟩
        have t54_27 := iAdd e54_27 rfl t_1 (by omega) (by omega)
        have t54 := t54_27
        refine lv_iinc (v := v54_27) (lv' := [(5, .int v54_27), (0, .ref (sp 0)), (1, .ref co), (2, .ref (sa 0)), (3, .int w), (4, .int n)]) hx hb dX6_weigh_54 hl (k := 0) rfl (by rw [e54_27]; rfl) (by decide) rfl (fun ls hl => ?_)
        refine lv_goto (tgt := 29) hx hb dX6_weigh_57 (by decide) ?_
        exact ih29 y53_26 v54_27 (by omega) (by omega) _ _ _ hw (lv_sub hl [0, 1, 2, 3, 4, 5] rfl)
  exact lp29 _ y17_7 0 (by have := t_0; omega) (Nat.lt_succ_self _) _ _ _ hw (lv_sub hl [0, 1, 2, 3, 4, 5] rfl)
