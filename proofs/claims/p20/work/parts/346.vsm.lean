
/-! ===== misses ===== -/
def mix (x y : Int32) : Nat := 21 * x.toNatClampNeg + y.toNatClampNeg
theorem mix_at {x y v w : Int32} (h : 0 ≤ x.toInt ∧ x.toInt < 2) (h2 : 0 ≤ y.toInt ∧ y.toInt ≤ 20) (t1 : v.toInt = x.toInt * 21) (t2 : w.toInt = v.toInt + y.toInt) : w.toNatClampNeg = mix x y := by
  have e1 := cl_toInt (x := x) (by omega)
  have e2 := cl_toInt (x := y) (by omega)
  have e3 := cl_toInt (x := w) (by omega)
  unfold mix; omega
/-- more effort misses no more, by a row of misses -/
def fitL (r : Nat → Int32) (a b : Nat) (v : Int) (k : Nat) : Prop := ∀ j, 1 ≤ j → j < k → j < b → ¬ r (21 * a + j) = -1 → v ≤ (r (21 * a + j)).toInt
def fitG (r : Nat → Int32) (a b : Nat) (v : Int) (k : Nat) : Prop := ∀ j, b < j → j < k → j ≤ 20 → ¬ r (21 * a + j) = -1 → (r (21 * a + j)).toInt ≤ v
def fits (r : Nat → Int32) (a b : Nat) (v : Int) : Prop := fitL r a b v b ∧ fitG r a b v 21
theorem fitL_s {r : Nat → Int32} {a b : Nat} {v : Int} {k k' : Int32} (h : fitL r a b v k.toNatClampNeg) (h0 : 1 ≤ k.toInt) (tk : k'.toInt = k.toInt + 1) (hk : ¬ r (21 * a + k.toNatClampNeg) = -1 → v ≤ (r (21 * a + k.toNatClampNeg)).toInt) : fitL r a b v k'.toNatClampNeg := by
  have e1 := cl_toInt (x := k) (by omega)
  have e2 := cl_toInt (x := k') (by omega)
  intro j j1 j2 j3 j4
  by_cases e : j = k.toNatClampNeg
  · rw [e] at j4 ⊢; exact hk j4
  · exact h j j1 (by omega) j3 j4
theorem fitG_s {r : Nat → Int32} {a b : Nat} {v : Int} {k k' : Int32} (h : fitG r a b v k.toNatClampNeg) (h0 : 0 ≤ k.toInt) (tk : k'.toInt = k.toInt + 1) (hk : ¬ r (21 * a + k.toNatClampNeg) = -1 → (r (21 * a + k.toNatClampNeg)).toInt ≤ v) : fitG r a b v k'.toNatClampNeg := by
  have e1 := cl_toInt (x := k) (by omega)
  have e2 := cl_toInt (x := k') (by omega)
  intro j j1 j2 j3 j4
  by_cases e : j = k.toNatClampNeg
  · rw [e] at j4 ⊢; exact hk j4
  · exact h j j1 (by omega) j3 j4
set_option maxHeartbeats 4000000 in
set_option maxRecDepth 100000 in
theorem c_v_X3_countLine (l : Launch) (G : Gh) (S : Pl) (sa : Nat → Nat) (hS : shSea S sa) (hln : 0 ≤ (pI S 15 (sa 0)).toInt ∧ (pI S 15 (sa 0)).toInt < 60) : MtV l yX3_countLine cX3_countLine 1 none (Rm 0 0 0) G [.ref (sa 0)] S (fun (S' : Pl) => ∃ I', ch S I' (pJ S) (qI S) (qJ S) = S' ∧ Fr (pI S) I' ∧ (∀ f, f ≠ 15 → I' f = pI S f) ∧ (∀ a, a ≠ sa 0 → I' 15 a = pI S 15 a) ∧ (I' 15 (sa 0)).toInt = (pI S 15 (sa 0)).toInt + 1) 0 0 := by
  refine MtV.of (by decide) (Nat.le_of_ble_eq_true rfl) ?_
  intro p e s m args below meth c Q A X hw hin hret ls hl
  have hx := X.1.1
  have hb := X.1.2.1
  have hl : lv_has ls 1 [(0, .ref (sa 0))] := hl
  obtain ⟨k0, r10, r11, r12, r13, r14, k1, n1, g1, k2, n2, k3, n3, k4, n4, fz⟩ := id hS
  refine lv_aload_n hx hb dX3_countLine_0 rfl (lv_at hl 0 rfl) ?_
  refine lv_dup hx hb dX3_countLine_1 rfl ?_
  refine gf_X3_33 (v := (pI S) 15 (sa 0)) X hw k0 rfl dX3_countLine_2 ?_
  refine lv_iconst (v := 1) hx hb dX3_countLine_5 (by decide) ?_
  refine lv_iadd hx hb dX3_countLine_6 ?_
  refine lv_topi (fun v6_1 e6_1 => ?_)
  have t6_1 := iAdd e6_1 rfl t_1 (by omega) (by omega)
  have t6 := t6_1
  refine pf_X3_33 X hw k0 dX3_countLine_7 (fun H locs hw => ?_)
  have hw : PX G A s.heap (ch S (up2 (pI S) 15 (sa 0) v6_1) (pJ S) (qI S) (qJ S)) H locs := hw
  exact hret _ _ _ _ _ ⟨_, rfl, (Fr.up (f := 15) (by decide) Fr.rf), fun f hf => up2_f hf, fun a ha => up2_n ha, by rw [show (up2 (pI S) 15 (sa 0) v6_1) 15 (sa 0) = (v6_1 : Int32) from (show up2 (pI S) 15 (sa 0) v6_1 15 (sa 0) = v6_1 from up2_s)]; omega⟩ hw dX3_countLine_10
set_option maxHeartbeats 4000000 in
set_option maxRecDepth 100000 in
theorem c_v_X3_isWindTold (l : Launch) (G : Gh) (S : Pl) (sa : Nat → Nat) (h : Int32) (hS : shSea S sa) : MtI l yX3_isWindTold cX3_isWindTold 2 (some .boolean) (Rm 1 0 0) G [.ref (sa 0), .int h] S (fun (r : Int32) (S' : Pl) => (S = S' ∧ r = 1 ∧ (0 ≤ h.toInt ∧ h.toInt < 72 ∧ ¬ qI S (fl sa 0 3) h.toNatClampNeg = 0)) ∨ (S = S' ∧ r = 0 ∧ ¬ (0 ≤ h.toInt ∧ h.toInt < 72 ∧ ¬ qI S (fl sa 0 3) h.toNatClampNeg = 0))) 0 0 := by
  refine MtI.of (by decide) (Nat.le_of_ble_eq_true rfl) ?_
  intro p e s m args below meth c Q A X hw hin hret ls hl
  have hx := X.1.1
  have hb := X.1.2.1
  have hl : lv_has ls 2 [(0, .ref (sa 0)), (1, .int h)] := hl
  obtain ⟨k0, r10, r11, r12, r13, r14, k1, n1, g1, k2, n2, k3, n3, k4, n4, fz⟩ := id hS
  refine lv_aload_n hx hb dX3_isWindTold_0 rfl (lv_at hl 0 rfl) ?_
  refine gf_X3_12 (b := (fl sa 0 0)) X hw k0 r10 dX3_isWindTold_1 ?_
  refine lv_iload_n hx hb dX3_isWindTold_4 rfl (lv_at hl 1 rfl) ?_
  refine k_Vi (n := 1) X hw (rcvk (ci := 2) X hw (fz 0 (by decide)).1 (fun _ _ _ _ _ _ _ => ⟨_, rfl⟩) rfl) (c_v_X1_isTold l G _ (fl sa 0) h (fz 0 (by decide))) wd_r15_2 wd_r15_3 wd_r15_4 wd_r4_14 wd_r15_5 ⟨by decide, by decide, by decide +kernel⟩ rfl rfl ⟨Nat.le_of_ble_eq_true rfl, Nat.le_of_ble_eq_true rfl⟩ rfl rfl hl.1 (Nat.le_of_ble_eq_true rfl) dX3_isWindTold_5 ⟨Nat.le_of_ble_eq_true rfl, Nat.le_of_ble_eq_true rfl⟩ (fun r5_1 S5_3 H locs h5_2 hw => ?_)
  rcases h5_2 with ⟨rfl, rfl, h5_2⟩ | ⟨rfl, rfl, h5_2⟩
  · have h5_2 := h5_2
    exact hret 1 _ _ _ _ _ (Or.inl ⟨rfl, rfl, (by assumption)⟩) hw rfl dX3_isWindTold_8
  · have h5_2 := h5_2
    exact hret 0 _ _ _ _ _ (Or.inr ⟨rfl, rfl, (by assumption)⟩) hw rfl dX3_isWindTold_8
set_option maxHeartbeats 4000000 in
set_option maxRecDepth 100000 in
theorem c_v_X3_tellWind (l : Launch) (G : Gh) (S : Pl) (sa : Nat → Nat) (h x y : Int32) (hS : shSea S sa) (hd : sdj sa) (hh : 0 ≤ h.toInt ∧ h.toInt < 72) (hx0 : -30 ≤ x.toInt ∧ x.toInt ≤ 30) (hy0 : -30 ≤ y.toInt ∧ y.toInt ≤ 30) : MtV l yX3_tellWind cX3_tellWind 4 none (Rm 2 0 0) G [.ref (sa 0), .int h, .int x, .int y] S (fun (S' : Pl) => ∃ q', ch S (pI S) (pJ S) q' (qJ S) = S' ∧ tfl (qI S) q' (fl sa 0) h.toNatClampNeg x y) 0 0 := by
  refine MtV.of (by decide) (Nat.le_of_ble_eq_true rfl) ?_
  intro p e s m args below meth c Q A X hw hin hret ls hl
  have hx := X.1.1
  have hb := X.1.2.1
  have hl : lv_has ls 4 [(0, .ref (sa 0)), (1, .int h), (2, .int x), (3, .int y)] := hl
  obtain ⟨k0, r10, r11, r12, r13, r14, k1, n1, g1, k2, n2, k3, n3, k4, n4, fz⟩ := id hS
  refine lv_aload_n hx hb dX3_tellWind_0 rfl (lv_at hl 0 rfl) ?_
  refine gf_X3_12 (b := (fl sa 0 0)) X hw k0 r10 dX3_tellWind_1 ?_
  refine lv_iload_n hx hb dX3_tellWind_4 rfl (lv_at hl 1 rfl) ?_
  refine lv_iload_n hx hb dX3_tellWind_5 rfl (lv_at hl 2 rfl) ?_
  refine lv_iload_n hx hb dX3_tellWind_6 rfl (lv_at hl 3 rfl) ?_
  refine k_Vv (n := 3) X hw (rcvk (ci := 2) X hw (fz 0 (by decide)).1 (fun _ _ _ _ _ _ _ => ⟨_, rfl⟩) rfl) (c_v_X1_tell l G _ (fl sa 0) h x y (fz 0 (by decide)) (fl_12 hd (by decide)) hh hx0 hy0) wd_r16_23 wd_r17_0 wd_r17_1 wd_r4_14 wd_r17_2 ⟨by decide, by decide, by decide +kernel⟩ rfl rfl ⟨Nat.le_of_ble_eq_true rfl, Nat.le_of_ble_eq_true rfl⟩ rfl rfl hl.1 (Nat.le_of_ble_eq_true rfl) dX3_tellWind_7 ⟨Nat.le_of_ble_eq_true rfl, Nat.le_of_ble_eq_true rfl⟩ (fun S7_2 H locs h7_1 hw => ?_)
  obtain ⟨q7_3, rfl, h7_1⟩ := h7_1
  have hw : PX G A s.heap (ch S (pI S) (pJ S) q7_3 (qJ S)) H locs := hw
  have HT := h7_1
  exact hret _ _ _ _ _ ⟨_, rfl, HT⟩ hw dX3_tellWind_10
set_option maxHeartbeats 4000000 in
set_option maxRecDepth 100000 in
theorem c_v_X3_windOf (l : Launch) (G : Gh) (S : Pl) (sa : Nat → Nat) (h y : Int32) (hS : shSea S sa) : MtI l yX3_windOf cX3_windOf 3 (some .int) (Rm 2 0 0) G [.ref (sa 0), .int h, .int y] S (fun (r : Int32) (S' : Pl) => S = S' ∧ r = (if 0 ≤ h.toInt ∧ h.toInt < 72 then (if y = 0 then qI S (fl sa 0 1) h.toNatClampNeg else qI S (fl sa 0 2) h.toNatClampNeg) else 0)) 0 0 := by
  refine MtI.of (by decide) (Nat.le_of_ble_eq_true rfl) ?_
  intro p e s m args below meth c Q A X hw hin hret ls hl
  have hx := X.1.1
  have hb := X.1.2.1
  have hl : lv_has ls 3 [(0, .ref (sa 0)), (1, .int h), (2, .int y)] := hl
  obtain ⟨k0, r10, r11, r12, r13, r14, k1, n1, g1, k2, n2, k3, n3, k4, n4, fz⟩ := id hS
  refine lv_aload_n hx hb dX3_windOf_0 rfl (lv_at hl 0 rfl) ?_
  refine gf_X3_12 (b := (fl sa 0 0)) X hw k0 r10 dX3_windOf_1 ?_
  refine lv_iload_n hx hb dX3_windOf_4 rfl (lv_at hl 1 rfl) ?_
  refine lv_iload_n hx hb dX3_windOf_5 rfl (lv_at hl 2 rfl) ?_
  refine k_Vi (n := 2) X hw (rcvk (ci := 2) X hw (fz 0 (by decide)).1 (fun _ _ _ _ _ _ _ => ⟨_, rfl⟩) rfl) (c_v_X1_stepIn l G _ (fl sa 0) h y (fz 0 (by decide))) wd_r19_15 wd_r19_16 wd_r19_17 wd_r4_14 wd_r19_18 ⟨by decide, by decide, by decide +kernel⟩ rfl rfl ⟨Nat.le_of_ble_eq_true rfl, Nat.le_of_ble_eq_true rfl⟩ rfl rfl hl.1 (Nat.le_of_ble_eq_true rfl) dX3_windOf_6 ⟨Nat.le_of_ble_eq_true rfl, Nat.le_of_ble_eq_true rfl⟩ (fun r6_1 S6_3 H locs h6_2 hw => ?_)
  obtain ⟨rfl, h6_2⟩ := h6_2
  have HT := h6_2
  exact hret r6_1 _ _ _ _ _ ⟨rfl, HT⟩ hw rfl dX3_windOf_9
set_option maxHeartbeats 4000000 in
set_option maxRecDepth 100000 in
theorem c_v_X3_isStreamTold (l : Launch) (G : Gh) (S : Pl) (sa : Nat → Nat) (q h : Int32) (hS : shSea S sa) : MtI l yX3_isStreamTold cX3_isStreamTold 3 (some .boolean) (Rm 1 0 0) G [.ref (sa 0), .int q, .int h] S (fun (r : Int32) (S' : Pl) => (S = S' ∧ r = 1 ∧ (0 ≤ q.toInt ∧ q.toInt < 4 ∧ 0 ≤ h.toInt ∧ h.toInt < 72 ∧ ¬ qI S (fl sa (q.toNatClampNeg + 1) 3) h.toNatClampNeg = 0)) ∨ (S = S' ∧ r = 0 ∧ ¬ (0 ≤ q.toInt ∧ q.toInt < 4 ∧ 0 ≤ h.toInt ∧ h.toInt < 72 ∧ ¬ qI S (fl sa (q.toNatClampNeg + 1) 3) h.toNatClampNeg = 0))) 0 0 := by
  refine MtI.of (by decide) (Nat.le_of_ble_eq_true rfl) ?_
  intro p e s m args below meth c Q A X hw hin hret ls hl
  have hx := X.1.1
  have hb := X.1.2.1
  have hl : lv_has ls 3 [(0, .ref (sa 0)), (1, .int q), (2, .int h)] := hl
  obtain ⟨k0, r10, r11, r12, r13, r14, k1, n1, g1, k2, n2, k3, n3, k4, n4, fz⟩ := id hS
  refine lv_iload_n hx hb dX3_isStreamTold_0 rfl (lv_at hl 1 rfl) ?_
  refine k_SNi (n := 1) (host := RX10) X hw (c_X10_isQuarter l G _ q) (List.mem_of_getElem? (i := 4) rfl) wd_r15_10 wd_r1_2 wd_r15_11 ⟨by decide, by decide, by decide +kernel⟩ rfl rfl ⟨Nat.le_of_ble_eq_true rfl, Nat.le_of_ble_eq_true rfl⟩ rfl rfl hl.1 (Nat.le_of_ble_eq_true rfl) dX3_isStreamTold_1 ⟨Nat.le_of_ble_eq_true rfl, Nat.le_of_ble_eq_true rfl⟩ (fun r1_1 S1_3 H locs h1_2 hw => ?_)
  rcases h1_2 with ⟨rfl, rfl, h1_2⟩ | ⟨rfl, rfl, h1_2⟩
  · have h1_2 := h1_2
    refine lv_if_eq (tgt := 24) hx hb dX3_isStreamTold_4 (by decide) (fun c4_4 => absurd c4_4 (by decide)) (fun c4_4 => ?_)
    refine lv_aload_n hx hb dX3_isStreamTold_7 rfl (lv_at hl 0 rfl) ?_
    refine gf_X3_18 (b := (sa 1)) X hw k0 r11 dX3_isStreamTold_8 ?_
    refine lv_iload_n hx hb dX3_isStreamTold_11 rfl (lv_at hl 1 rfl) ?_
    refine q_ldFlow (v := .ref (fl sa (q.toNatClampNeg + 1) 0)) X hw k1 (vin n1 (by omega) (by omega)) (congrArg va_rf (g1 q.toNatClampNeg (clt (by omega) (by omega)))) dX3_isStreamTold_12 ?_
    refine lv_iload_n hx hb dX3_isStreamTold_13 rfl (lv_at hl 2 rfl) ?_
    refine k_Vi (n := 1) X hw (rcvk (ci := 2) X hw (fz (q.toNatClampNeg + 1) (Nat.succ_lt_succ (clt (by omega) (by omega)))).1 (fun _ _ _ _ _ _ _ => ⟨_, rfl⟩) rfl) (c_v_X1_isTold l G _ (fl sa (q.toNatClampNeg + 1)) h (fz (q.toNatClampNeg + 1) (Nat.succ_lt_succ (clt (by omega) (by omega))))) wd_r15_2 wd_r15_3 wd_r15_4 wd_r4_14 wd_r15_5 ⟨by decide, by decide, by decide +kernel⟩ rfl rfl ⟨Nat.le_of_ble_eq_true rfl, Nat.le_of_ble_eq_true rfl⟩ rfl rfl hl.1 (Nat.le_of_ble_eq_true rfl) dX3_isStreamTold_14 ⟨Nat.le_of_ble_eq_true rfl, Nat.le_of_ble_eq_true rfl⟩ (fun r14_5 S14_7 H locs h14_6 hw => ?_)
    rcases h14_6 with ⟨rfl, rfl, h14_6⟩ | ⟨rfl, rfl, h14_6⟩
    · have h14_6 := h14_6
      refine lv_if_eq (tgt := 24) hx hb dX3_isStreamTold_17 (by decide) (fun c17_8 => absurd c17_8 (by decide)) (fun c17_8 => ?_)
      refine lv_iconst (v := 1) hx hb dX3_isStreamTold_20 (by decide) ?_
      refine lv_goto (tgt := 25) hx hb dX3_isStreamTold_21 (by decide) ?_
      exact hret 1 _ _ _ _ _ (Or.inl ⟨rfl, rfl, by omega, by omega, (by assumption)⟩) hw rfl dX3_isStreamTold_25
    · have h14_6 := h14_6
      refine lv_if_eq (tgt := 24) hx hb dX3_isStreamTold_17 (by decide) (fun c17_9 => ?_) (fun c17_9 => absurd c17_9 (by decide))
      refine lv_iconst (v := 0) hx hb dX3_isStreamTold_24 (by decide) ?_
      exact hret 0 _ _ _ _ _ (Or.inr ⟨rfl, rfl, fun z => by first | (exact absurd z.1 (by omega)) | (exact absurd z.2.1 (by omega)) | (have nz : ¬ (0 ≤ h.toInt ∧ h.toInt < 72 ∧ ¬ qI S (fl sa (q.toNatClampNeg + 1) 3) h.toNatClampNeg = 0) := (by assumption); exact nz z.2.2)⟩) hw rfl dX3_isStreamTold_25
  · have h1_2 := h1_2
    refine lv_if_eq (tgt := 24) hx hb dX3_isStreamTold_4 (by decide) (fun c4_10 => ?_) (fun c4_10 => absurd c4_10 (by decide))
    refine lv_iconst (v := 0) hx hb dX3_isStreamTold_24 (by decide) ?_
    exact hret 0 _ _ _ _ _ (Or.inr ⟨rfl, rfl, fun z => by first | (exact absurd z.1 (by omega)) | (exact absurd z.2.1 (by omega)) | (have nz : ¬ (0 ≤ h.toInt ∧ h.toInt < 72 ∧ ¬ qI S (fl sa (q.toNatClampNeg + 1) 3) h.toNatClampNeg = 0) := (by assumption); exact nz z.2.2)⟩) hw rfl dX3_isStreamTold_25
set_option maxHeartbeats 4000000 in
set_option maxRecDepth 100000 in
theorem c_v_X3_tellStream (l : Launch) (G : Gh) (S : Pl) (sa : Nat → Nat) (q h x y : Int32) (hS : shSea S sa) (hd : sdj sa) (hq : 0 ≤ q.toInt ∧ q.toInt < 4) (hh : 0 ≤ h.toInt ∧ h.toInt < 72) (hx0 : -30 ≤ x.toInt ∧ x.toInt ≤ 30) (hy0 : -30 ≤ y.toInt ∧ y.toInt ≤ 30) : MtV l yX3_tellStream cX3_tellStream 5 none (Rm 2 0 0) G [.ref (sa 0), .int q, .int h, .int x, .int y] S (fun (S' : Pl) => ∃ q', ch S (pI S) (pJ S) q' (qJ S) = S' ∧ tfl (qI S) q' (fl sa (q.toNatClampNeg + 1)) h.toNatClampNeg x y) 0 0 := by
  refine MtV.of (by decide) (Nat.le_of_ble_eq_true rfl) ?_
  intro p e s m args below meth c Q A X hw hin hret ls hl
  have hx := X.1.1
  have hb := X.1.2.1
  have hl : lv_has ls 5 [(0, .ref (sa 0)), (1, .int q), (2, .int h), (3, .int x), (4, .int y)] := hl
  obtain ⟨k0, r10, r11, r12, r13, r14, k1, n1, g1, k2, n2, k3, n3, k4, n4, fz⟩ := id hS
  refine lv_iload_n hx hb dX3_tellStream_0 rfl (lv_at hl 1 rfl) ?_
  refine k_SNi (n := 1) (host := RX10) X hw (c_X10_isQuarter l G _ q) (List.mem_of_getElem? (i := 4) rfl) wd_r15_10 wd_r1_2 wd_r15_11 ⟨by decide, by decide, by decide +kernel⟩ rfl rfl ⟨Nat.le_of_ble_eq_true rfl, Nat.le_of_ble_eq_true rfl⟩ rfl rfl hl.1 (Nat.le_of_ble_eq_true rfl) dX3_tellStream_1 ⟨Nat.le_of_ble_eq_true rfl, Nat.le_of_ble_eq_true rfl⟩ (fun r1_1 S1_3 H locs h1_2 hw => ?_)
  rcases h1_2 with ⟨rfl, rfl, h1_2⟩ | ⟨rfl, rfl, h1_2⟩
  · have h1_2 := h1_2
    refine lv_if_eq (tgt := 20) hx hb dX3_tellStream_4 (by decide) (fun c4_4 => absurd c4_4 (by decide)) (fun c4_4 => ?_)
    refine lv_aload_n hx hb dX3_tellStream_7 rfl (lv_at hl 0 rfl) ?_
    refine gf_X3_18 (b := (sa 1)) X hw k0 r11 dX3_tellStream_8 ?_
    refine lv_iload_n hx hb dX3_tellStream_11 rfl (lv_at hl 1 rfl) ?_
    refine q_ldFlow (v := .ref (fl sa (q.toNatClampNeg + 1) 0)) X hw k1 (vin n1 (by omega) (by omega)) (congrArg va_rf (g1 q.toNatClampNeg (clt (by omega) (by omega)))) dX3_tellStream_12 ?_
    refine lv_iload_n hx hb dX3_tellStream_13 rfl (lv_at hl 2 rfl) ?_
    refine lv_iload_n hx hb dX3_tellStream_14 rfl (lv_at hl 3 rfl) ?_
    refine lv_iload hx hb dX3_tellStream_15 (lv_at hl 4 rfl) ?_
    refine k_Vv (n := 3) X hw (rcvk (ci := 2) X hw (fz (q.toNatClampNeg + 1) (Nat.succ_lt_succ (clt (by omega) (by omega)))).1 (fun _ _ _ _ _ _ _ => ⟨_, rfl⟩) rfl) (c_v_X1_tell l G _ (fl sa (q.toNatClampNeg + 1)) h x y (fz (q.toNatClampNeg + 1) (Nat.succ_lt_succ (clt (by omega) (by omega)))) (fl_12 hd (Nat.succ_lt_succ (clt (by omega) (by omega)))) hh hx0 hy0) wd_r16_23 wd_r17_0 wd_r17_1 wd_r4_14 wd_r17_2 ⟨by decide, by decide, by decide +kernel⟩ rfl rfl ⟨Nat.le_of_ble_eq_true rfl, Nat.le_of_ble_eq_true rfl⟩ rfl rfl hl.1 (Nat.le_of_ble_eq_true rfl) dX3_tellStream_17 ⟨Nat.le_of_ble_eq_true rfl, Nat.le_of_ble_eq_true rfl⟩ (fun S17_6 H locs h17_5 hw => ?_)
    obtain ⟨q17_7, rfl, h17_5⟩ := h17_5
    have hw : PX G A s.heap (ch S (pI S) (pJ S) q17_7 (qJ S)) H locs := hw
    have HT := h17_5
    exact hret _ _ _ _ _ ⟨_, rfl, by first | exact HT | (exfalso; omega)⟩ hw dX3_tellStream_20
  · have h1_2 := h1_2
    refine lv_if_eq (tgt := 20) hx hb dX3_tellStream_4 (by decide) (fun c4_8 => ?_) (fun c4_8 => absurd c4_8 (by decide))
    exact hret _ _ _ _ _ ⟨_, rfl, by first | exact HT | (exfalso; omega)⟩ hw dX3_tellStream_20
set_option maxHeartbeats 4000000 in
set_option maxRecDepth 100000 in
theorem c_v_X3_streamOf (l : Launch) (G : Gh) (S : Pl) (sa : Nat → Nat) (q h y : Int32) (hS : shSea S sa) : MtI l yX3_streamOf cX3_streamOf 4 (some .int) (Rm 2 0 0) G [.ref (sa 0), .int q, .int h, .int y] S (fun (r : Int32) (S' : Pl) => S = S' ∧ r = (if 0 ≤ q.toInt ∧ q.toInt < 4 then (if 0 ≤ h.toInt ∧ h.toInt < 72 then (if y = 0 then qI S (fl sa (q.toNatClampNeg + 1) 1) h.toNatClampNeg else qI S (fl sa (q.toNatClampNeg + 1) 2) h.toNatClampNeg) else 0) else 0)) 0 0 := by
  refine MtI.of (by decide) (Nat.le_of_ble_eq_true rfl) ?_
  intro p e s m args below meth c Q A X hw hin hret ls hl
  have hx := X.1.1
  have hb := X.1.2.1
  have hl : lv_has ls 4 [(0, .ref (sa 0)), (1, .int q), (2, .int h), (3, .int y)] := hl
  obtain ⟨k0, r10, r11, r12, r13, r14, k1, n1, g1, k2, n2, k3, n3, k4, n4, fz⟩ := id hS
  refine lv_iload_n hx hb dX3_streamOf_0 rfl (lv_at hl 1 rfl) ?_
  refine k_SNi (n := 1) (host := RX10) X hw (c_X10_isQuarter l G _ q) (List.mem_of_getElem? (i := 4) rfl) wd_r15_10 wd_r1_2 wd_r15_11 ⟨by decide, by decide, by decide +kernel⟩ rfl rfl ⟨Nat.le_of_ble_eq_true rfl, Nat.le_of_ble_eq_true rfl⟩ rfl rfl hl.1 (Nat.le_of_ble_eq_true rfl) dX3_streamOf_1 ⟨Nat.le_of_ble_eq_true rfl, Nat.le_of_ble_eq_true rfl⟩ (fun r1_1 S1_3 H locs h1_2 hw => ?_)
  rcases h1_2 with ⟨rfl, rfl, h1_2⟩ | ⟨rfl, rfl, h1_2⟩
  · have h1_2 := h1_2
    refine lv_if_eq (tgt := 21) hx hb dX3_streamOf_4 (by decide) (fun c4_4 => absurd c4_4 (by decide)) (fun c4_4 => ?_)
    refine lv_aload_n hx hb dX3_streamOf_7 rfl (lv_at hl 0 rfl) ?_
    refine gf_X3_18 (b := (sa 1)) X hw k0 r11 dX3_streamOf_8 ?_
    refine lv_iload_n hx hb dX3_streamOf_11 rfl (lv_at hl 1 rfl) ?_
    refine q_ldFlow (v := .ref (fl sa (q.toNatClampNeg + 1) 0)) X hw k1 (vin n1 (by omega) (by omega)) (congrArg va_rf (g1 q.toNatClampNeg (clt (by omega) (by omega)))) dX3_streamOf_12 ?_
    refine lv_iload_n hx hb dX3_streamOf_13 rfl (lv_at hl 2 rfl) ?_
    refine lv_iload_n hx hb dX3_streamOf_14 rfl (lv_at hl 3 rfl) ?_
    refine k_Vi (n := 2) X hw (rcvk (ci := 2) X hw (fz (q.toNatClampNeg + 1) (Nat.succ_lt_succ (clt (by omega) (by omega)))).1 (fun _ _ _ _ _ _ _ => ⟨_, rfl⟩) rfl) (c_v_X1_stepIn l G _ (fl sa (q.toNatClampNeg + 1)) h y (fz (q.toNatClampNeg + 1) (Nat.succ_lt_succ (clt (by omega) (by omega))))) wd_r19_15 wd_r19_16 wd_r19_17 wd_r4_14 wd_r19_18 ⟨by decide, by decide, by decide +kernel⟩ rfl rfl ⟨Nat.le_of_ble_eq_true rfl, Nat.le_of_ble_eq_true rfl⟩ rfl rfl hl.1 (Nat.le_of_ble_eq_true rfl) dX3_streamOf_15 ⟨Nat.le_of_ble_eq_true rfl, Nat.le_of_ble_eq_true rfl⟩ (fun r15_5 S15_7 H locs h15_6 hw => ?_)
    obtain ⟨rfl, h15_6⟩ := h15_6
    have HT := h15_6
    refine lv_goto (tgt := 22) hx hb dX3_streamOf_18 (by decide) ?_
    exact hret r15_5 _ _ _ _ _ ⟨rfl, by rw [if_pos (by omega)]; exact HT⟩ hw rfl dX3_streamOf_22
  · have h1_2 := h1_2
    refine lv_if_eq (tgt := 21) hx hb dX3_streamOf_4 (by decide) (fun c4_8 => ?_) (fun c4_8 => absurd c4_8 (by decide))
    refine lv_iconst (v := 0) hx hb dX3_streamOf_21 (by decide) ?_
    exact hret 0 _ _ _ _ _ ⟨rfl, by rw [if_neg (by omega)]⟩ hw rfl dX3_streamOf_22
set_option maxHeartbeats 4000000 in
set_option maxRecDepth 100000 in
theorem c_v_X3_isLeeTold (l : Launch) (G : Gh) (S : Pl) (sa : Nat → Nat) (k : Int32) (hS : shSea S sa) : MtI l yX3_isLeeTold cX3_isLeeTold 2 (some .boolean) (Rm 1 0 0) G [.ref (sa 0), .int k] S (fun (r : Int32) (S' : Pl) => (S = S' ∧ r = 1 ∧ (0 ≤ k.toInt ∧ k.toInt < 4 ∧ ¬ qI S (sa 2) k.toNatClampNeg = -1)) ∨ (S = S' ∧ r = 0 ∧ ¬ (0 ≤ k.toInt ∧ k.toInt < 4 ∧ ¬ qI S (sa 2) k.toNatClampNeg = -1))) 0 0 := by
  refine MtI.of (by decide) (Nat.le_of_ble_eq_true rfl) ?_
  intro p e s m args below meth c Q A X hw hin hret ls hl
  have hx := X.1.1
  have hb := X.1.2.1
  have hl : lv_has ls 2 [(0, .ref (sa 0)), (1, .int k)] := hl
  obtain ⟨k0, r10, r11, r12, r13, r14, k1, n1, g1, k2, n2, k3, n3, k4, n4, fz⟩ := id hS
  refine lv_iload_n hx hb dX3_isLeeTold_0 rfl (lv_at hl 1 rfl) ?_
  refine k_SNi (n := 1) (host := RX10) X hw (c_X10_isKind l G _ k) (List.mem_of_getElem? (i := 5) rfl) wd_r15_16 wd_r1_2 wd_r15_17 ⟨by decide, by decide, by decide +kernel⟩ rfl rfl ⟨Nat.le_of_ble_eq_true rfl, Nat.le_of_ble_eq_true rfl⟩ rfl rfl hl.1 (Nat.le_of_ble_eq_true rfl) dX3_isLeeTold_1 ⟨Nat.le_of_ble_eq_true rfl, Nat.le_of_ble_eq_true rfl⟩ (fun r1_1 S1_3 H locs h1_2 hw => ?_)
  rcases h1_2 with ⟨rfl, rfl, h1_2⟩ | ⟨rfl, rfl, h1_2⟩
  · have h1_2 := h1_2
    refine lv_if_eq (tgt := 21) hx hb dX3_isLeeTold_4 (by decide) (fun c4_4 => absurd c4_4 (by decide)) (fun c4_4 => ?_)
    refine lv_aload_n hx hb dX3_isLeeTold_7 rfl (lv_at hl 0 rfl) ?_
    refine gf_X3_22 (b := (sa 2)) X hw k0 r12 dX3_isLeeTold_8 ?_
    refine lv_iload_n hx hb dX3_isLeeTold_11 rfl (lv_at hl 1 rfl) ?_
    refine q_ldI X hw k2 (vin n2 (by omega) (by omega)) dX3_isLeeTold_12 ?_
    refine lv_topi (fun v12_5 e12_5 => ?_)
    have e12_5 : v12_5 = (qI S) (sa 2) k.toNatClampNeg := e12_5
    have e12n := e12_5
    refine lv_iconst (v := -1) hx hb dX3_isLeeTold_13 (by decide) ?_
    refine lv_icmp_eq (tgt := 21) hx hb dX3_isLeeTold_14 (by decide) (fun c14_6 => ?_) (fun c14_6 => ?_)
    · have D14_6 := iEq c14_6 rfl t_m1
      refine lv_iconst (v := 0) hx hb dX3_isLeeTold_21 (by decide) ?_
      exact hret 0 _ _ _ _ _ (Or.inr ⟨rfl, rfl, fun z => by first | (exact absurd z.1 (by omega)) | (exact absurd z.2.1 (by omega)) | (exact z.2.2 (by rw [← e12n]; assumption))⟩) hw rfl dX3_isLeeTold_22
    · have D14_6 := iNe c14_6 rfl t_m1
      refine lv_iconst (v := 1) hx hb dX3_isLeeTold_17 (by decide) ?_
      refine lv_goto (tgt := 22) hx hb dX3_isLeeTold_18 (by decide) ?_
      exact hret 1 _ _ _ _ _ (Or.inl ⟨rfl, rfl, by omega, by omega, by rw [← e12n]; assumption⟩) hw rfl dX3_isLeeTold_22
  · have h1_2 := h1_2
    refine lv_if_eq (tgt := 21) hx hb dX3_isLeeTold_4 (by decide) (fun c4_7 => ?_) (fun c4_7 => absurd c4_7 (by decide))
    refine lv_iconst (v := 0) hx hb dX3_isLeeTold_21 (by decide) ?_
    exact hret 0 _ _ _ _ _ (Or.inr ⟨rfl, rfl, fun z => by first | (exact absurd z.1 (by omega)) | (exact absurd z.2.1 (by omega)) | (exact z.2.2 (by rw [← e12n]; assumption))⟩) hw rfl dX3_isLeeTold_22
set_option maxHeartbeats 4000000 in
set_option maxRecDepth 100000 in
theorem c_v_X3_tellLee (l : Launch) (G : Gh) (S : Pl) (sa : Nat → Nat) (k v : Int32) (hS : shSea S sa) (hk : 0 ≤ k.toInt ∧ k.toInt < 4) : MtV l yX3_tellLee cX3_tellLee 3 none (Rm 1 0 0) G [.ref (sa 0), .int k, .int v] S (fun (S' : Pl) => ∃ q', ch S (pI S) (pJ S) q' (qJ S) = S' ∧ q' = va_up (qI S) (sa 2) (upd (qI S (sa 2)) k.toNatClampNeg v)) 0 0 := by
  refine MtV.of (by decide) (Nat.le_of_ble_eq_true rfl) ?_
  intro p e s m args below meth c Q A X hw hin hret ls hl
  have hx := X.1.1
  have hb := X.1.2.1
  have hl : lv_has ls 3 [(0, .ref (sa 0)), (1, .int k), (2, .int v)] := hl
  obtain ⟨k0, r10, r11, r12, r13, r14, k1, n1, g1, k2, n2, k3, n3, k4, n4, fz⟩ := id hS
  refine lv_iload_n hx hb dX3_tellLee_0 rfl (lv_at hl 1 rfl) ?_
  refine k_SNi (n := 1) (host := RX10) X hw (c_X10_isKind l G _ k) (List.mem_of_getElem? (i := 5) rfl) wd_r15_16 wd_r1_2 wd_r15_17 ⟨by decide, by decide, by decide +kernel⟩ rfl rfl ⟨Nat.le_of_ble_eq_true rfl, Nat.le_of_ble_eq_true rfl⟩ rfl rfl hl.1 (Nat.le_of_ble_eq_true rfl) dX3_tellLee_1 ⟨Nat.le_of_ble_eq_true rfl, Nat.le_of_ble_eq_true rfl⟩ (fun r1_1 S1_3 H locs h1_2 hw => ?_)
  rcases h1_2 with ⟨rfl, rfl, h1_2⟩ | ⟨rfl, rfl, h1_2⟩
  · have h1_2 := h1_2
    refine lv_if_eq (tgt := 14) hx hb dX3_tellLee_4 (by decide) (fun c4_4 => absurd c4_4 (by decide)) (fun c4_4 => ?_)
    refine lv_aload_n hx hb dX3_tellLee_7 rfl (lv_at hl 0 rfl) ?_
    refine gf_X3_22 (b := (sa 2)) X hw k0 r12 dX3_tellLee_8 ?_
    refine lv_iload_n hx hb dX3_tellLee_11 rfl (lv_at hl 1 rfl) ?_
    refine lv_iload_n hx hb dX3_tellLee_12 rfl (lv_at hl 2 rfl) ?_
    refine q_stI X hw k2 (vin n2 (by omega) (by omega)) dX3_tellLee_13 (fun H locs hw => ?_)
    obtain ⟨q13_5, eq13_5, hw⟩ : ∃ zz9, zz9 = va_up (qI S) (sa 2) (upd ((qI S) (sa 2)) k.toNatClampNeg v) ∧ PX G A s.heap (ch S (pI S) (pJ S) zz9 (qJ S)) H locs := ⟨_, rfl, hw⟩
    have c13 := eq13_5
    exact hret _ _ _ _ _ ⟨_, rfl, by first | exact c13 | (exfalso; omega)⟩ hw dX3_tellLee_14
  · have h1_2 := h1_2
    refine lv_if_eq (tgt := 14) hx hb dX3_tellLee_4 (by decide) (fun c4_6 => ?_) (fun c4_6 => absurd c4_6 (by decide))
    exact hret _ _ _ _ _ ⟨_, rfl, by first | exact c13 | (exfalso; omega)⟩ hw dX3_tellLee_14
set_option maxHeartbeats 4000000 in
set_option maxRecDepth 100000 in
theorem c_v_X3_hasLand (l : Launch) (G : Gh) (S : Pl) (sa : Nat → Nat) (c0 : Int32) (hS : shSea S sa) : MtI l yX3_hasLand cX3_hasLand 2 (some .boolean) (Rm 1 0 0) G [.ref (sa 0), .int c0] S (fun (r : Int32) (S' : Pl) => (S = S' ∧ r = 1 ∧ (0 ≤ c0.toInt ∧ c0.toInt < 64 ∧ ¬ qI S (sa 3) c0.toNatClampNeg = 0)) ∨ (S = S' ∧ r = 0 ∧ ¬ (0 ≤ c0.toInt ∧ c0.toInt < 64 ∧ ¬ qI S (sa 3) c0.toNatClampNeg = 0))) 0 0 := by
  refine MtI.of (by decide) (Nat.le_of_ble_eq_true rfl) ?_
  intro p e s m args below meth c Q A X hw hin hret ls hl
  have hx := X.1.1
  have hb := X.1.2.1
  have hl : lv_has ls 2 [(0, .ref (sa 0)), (1, .int c0)] := hl
  obtain ⟨k0, r10, r11, r12, r13, r14, k1, n1, g1, k2, n2, k3, n3, k4, n4, fz⟩ := id hS
  refine lv_iload_n hx hb dX3_hasLand_0 rfl (lv_at hl 1 rfl) ?_
  refine k_SNi (n := 1) (host := RX10) X hw (c_X10_isCell l G _ c0) (List.mem_of_getElem? (i := 6) rfl) wd_r15_22 wd_r1_2 wd_r15_23 ⟨by decide, by decide, by decide +kernel⟩ rfl rfl ⟨Nat.le_of_ble_eq_true rfl, Nat.le_of_ble_eq_true rfl⟩ rfl rfl hl.1 (Nat.le_of_ble_eq_true rfl) dX3_hasLand_1 ⟨Nat.le_of_ble_eq_true rfl, Nat.le_of_ble_eq_true rfl⟩ (fun r1_1 S1_3 H locs h1_2 hw => ?_)
  rcases h1_2 with ⟨rfl, rfl, h1_2⟩ | ⟨rfl, rfl, h1_2⟩
  · have h1_2 := h1_2
    refine lv_if_eq (tgt := 20) hx hb dX3_hasLand_4 (by decide) (fun c4_4 => absurd c4_4 (by decide)) (fun c4_4 => ?_)
    refine lv_aload_n hx hb dX3_hasLand_7 rfl (lv_at hl 0 rfl) ?_
    refine gf_X3_26 (b := (sa 3)) X hw k0 r13 dX3_hasLand_8 ?_
    refine lv_iload_n hx hb dX3_hasLand_11 rfl (lv_at hl 1 rfl) ?_
    refine q_ldZ X hw k3 (vin n3 (by omega) (by omega)) dX3_hasLand_12 ?_
    refine lv_topi (fun v12_5 e12_5 => ?_)
    have e12_5 : v12_5 = (qI S) (sa 3) c0.toNatClampNeg := e12_5
    have e12n := e12_5
    refine lv_if_eq (tgt := 20) hx hb dX3_hasLand_13 (by decide) (fun c13_6 => ?_) (fun c13_6 => ?_)
    · have D13_6 := iEq c13_6 rfl t_0
      refine lv_iconst (v := 0) hx hb dX3_hasLand_20 (by decide) ?_
      exact hret 0 _ _ _ _ _ (Or.inr ⟨rfl, rfl, fun z => by first | (exact absurd z.1 (by omega)) | (exact absurd z.2.1 (by omega)) | (exact z.2.2 (by rw [← e12n]; assumption))⟩) hw rfl dX3_hasLand_21
    · have D13_6 := iNe c13_6 rfl t_0
      refine lv_iconst (v := 1) hx hb dX3_hasLand_16 (by decide) ?_
      refine lv_goto (tgt := 21) hx hb dX3_hasLand_17 (by decide) ?_
      exact hret 1 _ _ _ _ _ (Or.inl ⟨rfl, rfl, by omega, by omega, by rw [← e12n]; assumption⟩) hw rfl dX3_hasLand_21
  · have h1_2 := h1_2
    refine lv_if_eq (tgt := 20) hx hb dX3_hasLand_4 (by decide) (fun c4_7 => ?_) (fun c4_7 => absurd c4_7 (by decide))
    refine lv_iconst (v := 0) hx hb dX3_hasLand_20 (by decide) ?_
    exact hret 0 _ _ _ _ _ (Or.inr ⟨rfl, rfl, fun z => by first | (exact absurd z.1 (by omega)) | (exact absurd z.2.1 (by omega)) | (exact z.2.2 (by rw [← e12n]; assumption))⟩) hw rfl dX3_hasLand_21
set_option maxHeartbeats 4000000 in
set_option maxRecDepth 100000 in
theorem c_v_X3_tellLand (l : Launch) (G : Gh) (S : Pl) (sa : Nat → Nat) (c0 : Int32) (hS : shSea S sa) (hk : 0 ≤ c0.toInt ∧ c0.toInt < 64) : MtV l yX3_tellLand cX3_tellLand 2 none (Rm 1 0 0) G [.ref (sa 0), .int c0] S (fun (S' : Pl) => ∃ q', ch S (pI S) (pJ S) q' (qJ S) = S' ∧ q' = va_up (qI S) (sa 3) (upd (qI S (sa 3)) c0.toNatClampNeg 1)) 0 0 := by
  refine MtV.of (by decide) (Nat.le_of_ble_eq_true rfl) ?_
  intro p e s m args below meth c Q A X hw hin hret ls hl
  have hx := X.1.1
  have hb := X.1.2.1
  have hl : lv_has ls 2 [(0, .ref (sa 0)), (1, .int c0)] := hl
  obtain ⟨k0, r10, r11, r12, r13, r14, k1, n1, g1, k2, n2, k3, n3, k4, n4, fz⟩ := id hS
  refine lv_iload_n hx hb dX3_tellLand_0 rfl (lv_at hl 1 rfl) ?_
  refine k_SNi (n := 1) (host := RX10) X hw (c_X10_isCell l G _ c0) (List.mem_of_getElem? (i := 6) rfl) wd_r15_22 wd_r1_2 wd_r15_23 ⟨by decide, by decide, by decide +kernel⟩ rfl rfl ⟨Nat.le_of_ble_eq_true rfl, Nat.le_of_ble_eq_true rfl⟩ rfl rfl hl.1 (Nat.le_of_ble_eq_true rfl) dX3_tellLand_1 ⟨Nat.le_of_ble_eq_true rfl, Nat.le_of_ble_eq_true rfl⟩ (fun r1_1 S1_3 H locs h1_2 hw => ?_)
  rcases h1_2 with ⟨rfl, rfl, h1_2⟩ | ⟨rfl, rfl, h1_2⟩
  · have h1_2 := h1_2
    refine lv_if_eq (tgt := 14) hx hb dX3_tellLand_4 (by decide) (fun c4_4 => absurd c4_4 (by decide)) (fun c4_4 => ?_)
    refine lv_aload_n hx hb dX3_tellLand_7 rfl (lv_at hl 0 rfl) ?_
    refine gf_X3_26 (b := (sa 3)) X hw k0 r13 dX3_tellLand_8 ?_
    refine lv_iload_n hx hb dX3_tellLand_11 rfl (lv_at hl 1 rfl) ?_
    refine lv_iconst (v := 1) hx hb dX3_tellLand_12 (by decide) ?_
    refine q_stZ X hw k3 (vin n3 (by omega) (by omega)) dX3_tellLand_13 (fun H locs hw => ?_)
    obtain ⟨q13_5, eq13_5, hw⟩ : ∃ zz9, zz9 = va_up (qI S) (sa 3) (upd ((qI S) (sa 3)) c0.toNatClampNeg (vp_nar .boolean 1)) ∧ PX G A s.heap (ch S (pI S) (pJ S) zz9 (qJ S)) H locs := ⟨_, rfl, hw⟩
    have c13 := eq13_5
    exact hret _ _ _ _ _ ⟨_, rfl, by first | exact c13 | (exfalso; omega)⟩ hw dX3_tellLand_14
  · have h1_2 := h1_2
    refine lv_if_eq (tgt := 14) hx hb dX3_tellLand_4 (by decide) (fun c4_6 => ?_) (fun c4_6 => absurd c4_6 (by decide))
    exact hret _ _ _ _ _ ⟨_, rfl, by first | exact c13 | (exfalso; omega)⟩ hw dX3_tellLand_14
set_option maxHeartbeats 4000000 in
set_option maxRecDepth 100000 in
theorem c_v_X3_isMissTold (l : Launch) (G : Gh) (S : Pl) (sa : Nat → Nat) (x y : Int32) (hS : shSea S sa) : MtI l yX3_isMissTold cX3_isMissTold 3 (some .boolean) (Rm 1 0 0) G [.ref (sa 0), .int x, .int y] S (fun (r : Int32) (S' : Pl) => (S = S' ∧ r = 1 ∧ (0 ≤ x.toInt ∧ x.toInt < 2 ∧ 0 ≤ y.toInt ∧ y.toInt ≤ 20 ∧ ¬ qI S (sa 4) (mix x y) = -1)) ∨ (S = S' ∧ r = 0 ∧ ¬ (0 ≤ x.toInt ∧ x.toInt < 2 ∧ 0 ≤ y.toInt ∧ y.toInt ≤ 20 ∧ ¬ qI S (sa 4) (mix x y) = -1))) 0 0 := by
  refine MtI.of (by decide) (Nat.le_of_ble_eq_true rfl) ?_
  intro p e s m args below meth c Q A X hw hin hret ls hl
  have hx := X.1.1
  have hb := X.1.2.1
  have hl : lv_has ls 3 [(0, .ref (sa 0)), (1, .int x), (2, .int y)] := hl
  obtain ⟨k0, r10, r11, r12, r13, r14, k1, n1, g1, k2, n2, k3, n3, k4, n4, fz⟩ := id hS
  refine lv_iload_n hx hb dX3_isMissTold_0 rfl (lv_at hl 1 rfl) ?_
  refine lv_iload_n hx hb dX3_isMissTold_1 rfl (lv_at hl 2 rfl) ?_
  refine lv_bipush (v := 20) hx hb dX3_isMissTold_2 (by decide) ?_
  refine k_SNi (n := 3) (host := RX10) X hw (c_X10_isMeans l G _ x y 20) (List.mem_of_getElem? (i := 7) rfl) wd_r16_4 wd_r1_2 wd_r16_5 ⟨by decide, by decide, by decide +kernel⟩ rfl rfl ⟨Nat.le_of_ble_eq_true rfl, Nat.le_of_ble_eq_true rfl⟩ rfl rfl hl.1 (Nat.le_of_ble_eq_true rfl) dX3_isMissTold_4 ⟨Nat.le_of_ble_eq_true rfl, Nat.le_of_ble_eq_true rfl⟩ (fun r4_1 S4_3 H locs h4_2 hw => ?_)
  have := t_20
  rcases h4_2 with ⟨rfl, rfl, h4_2⟩ | ⟨rfl, rfl, h4_2⟩
  · have h4_2 := h4_2
    refine lv_if_eq (tgt := 29) hx hb dX3_isMissTold_7 (by decide) (fun c7_4 => absurd c7_4 (by decide)) (fun c7_4 => ?_)
    refine lv_aload_n hx hb dX3_isMissTold_10 rfl (lv_at hl 0 rfl) ?_
    refine gf_X3_30 (b := (sa 4)) X hw k0 r14 dX3_isMissTold_11 ?_
    refine lv_iload_n hx hb dX3_isMissTold_14 rfl (lv_at hl 1 rfl) ?_
    refine lv_bipush (v := 21) hx hb dX3_isMissTold_15 (by decide) ?_
    refine lv_imul hx hb dX3_isMissTold_17 ?_
    refine lv_topi (fun v17_5 e17_5 => ?_)
    have t17_5 := iMul e17_5 rfl t_21 (by omega) (by omega)
    have t17 := t17_5
    refine lv_iload_n hx hb dX3_isMissTold_18 rfl (lv_at hl 2 rfl) ?_
    refine lv_iadd hx hb dX3_isMissTold_19 ?_
    refine lv_topi (fun v19_6 e19_6 => ?_)
    have t19_6 := iAdd e19_6 rfl rfl (by omega) (by omega)
    have t19 := t19_6
    refine q_ldI X hw k4 (vin n4 (by omega) (by omega)) dX3_isMissTold_20 ?_
    refine lv_topi (fun v20_7 e20_7 => ?_)
    have e20_7 : v20_7 = (qI S) (sa 4) v19_6.toNatClampNeg := e20_7
    have e20n := e20_7
    rw [mix_at (by omega) (by omega) t17 t19] at e20n
    refine lv_iconst (v := -1) hx hb dX3_isMissTold_21 (by decide) ?_
    refine lv_icmp_eq (tgt := 29) hx hb dX3_isMissTold_22 (by decide) (fun c22_8 => ?_) (fun c22_8 => ?_)
    · have D22_8 := iEq c22_8 rfl t_m1
      refine lv_iconst (v := 0) hx hb dX3_isMissTold_29 (by decide) ?_
      exact hret 0 _ _ _ _ _ (Or.inr ⟨rfl, rfl, fun z => by first | (exact absurd z.1 (by omega)) | (exact absurd z.2.1 (by omega)) | (exact absurd z.2.2.1 (by omega)) | (exact absurd z.2.2.2.1 (by omega)) | (exact z.2.2.2.2 (by rw [← e20n]; assumption))⟩) hw rfl dX3_isMissTold_30
    · have D22_8 := iNe c22_8 rfl t_m1
      refine lv_iconst (v := 1) hx hb dX3_isMissTold_25 (by decide) ?_
      refine lv_goto (tgt := 30) hx hb dX3_isMissTold_26 (by decide) ?_
      exact hret 1 _ _ _ _ _ (Or.inl ⟨rfl, rfl, by omega, by omega, by omega, by omega, by rw [← e20n]; assumption⟩) hw rfl dX3_isMissTold_30
  · have h4_2 := h4_2
    refine lv_if_eq (tgt := 29) hx hb dX3_isMissTold_7 (by decide) (fun c7_9 => ?_) (fun c7_9 => absurd c7_9 (by decide))
    refine lv_iconst (v := 0) hx hb dX3_isMissTold_29 (by decide) ?_
    exact hret 0 _ _ _ _ _ (Or.inr ⟨rfl, rfl, fun z => by first | (exact absurd z.1 (by omega)) | (exact absurd z.2.1 (by omega)) | (exact absurd z.2.2.1 (by omega)) | (exact absurd z.2.2.2.1 (by omega)) | (exact z.2.2.2.2 (by rw [← e20n]; assumption))⟩) hw rfl dX3_isMissTold_30
set_option maxHeartbeats 4000000 in
set_option maxRecDepth 100000 in
theorem c_v_X3_tellMiss (l : Launch) (G : Gh) (S : Pl) (sa : Nat → Nat) (x y v : Int32) (hS : shSea S sa) (hx0 : 0 ≤ x.toInt ∧ x.toInt < 2) (hy0 : 0 ≤ y.toInt ∧ y.toInt ≤ 20) : MtV l yX3_tellMiss cX3_tellMiss 4 none (Rm 1 0 0) G [.ref (sa 0), .int x, .int y, .int v] S (fun (S' : Pl) => ∃ q', ch S (pI S) (pJ S) q' (qJ S) = S' ∧ q' = va_up (qI S) (sa 4) (upd (qI S (sa 4)) (mix x y) v)) 0 0 := by
  refine MtV.of (by decide) (Nat.le_of_ble_eq_true rfl) ?_
  intro p e s m args below meth c Q A X hw hin hret ls hl
  have hx := X.1.1
  have hb := X.1.2.1
  have hl : lv_has ls 4 [(0, .ref (sa 0)), (1, .int x), (2, .int y), (3, .int v)] := hl
  obtain ⟨k0, r10, r11, r12, r13, r14, k1, n1, g1, k2, n2, k3, n3, k4, n4, fz⟩ := id hS
  refine lv_iload_n hx hb dX3_tellMiss_0 rfl (lv_at hl 1 rfl) ?_
  refine lv_iload_n hx hb dX3_tellMiss_1 rfl (lv_at hl 2 rfl) ?_
  refine lv_bipush (v := 20) hx hb dX3_tellMiss_2 (by decide) ?_
  refine k_SNi (n := 3) (host := RX10) X hw (c_X10_isMeans l G _ x y 20) (List.mem_of_getElem? (i := 7) rfl) wd_r16_4 wd_r1_2 wd_r16_5 ⟨by decide, by decide, by decide +kernel⟩ rfl rfl ⟨Nat.le_of_ble_eq_true rfl, Nat.le_of_ble_eq_true rfl⟩ rfl rfl hl.1 (Nat.le_of_ble_eq_true rfl) dX3_tellMiss_4 ⟨Nat.le_of_ble_eq_true rfl, Nat.le_of_ble_eq_true rfl⟩ (fun r4_1 S4_3 H locs h4_2 hw => ?_)
  have := t_20
  rcases h4_2 with ⟨rfl, rfl, h4_2⟩ | ⟨rfl, rfl, h4_2⟩
  · have h4_2 := h4_2
    refine lv_if_eq (tgt := 22) hx hb dX3_tellMiss_7 (by decide) (fun c7_4 => absurd c7_4 (by decide)) (fun c7_4 => ?_)
    refine lv_aload_n hx hb dX3_tellMiss_10 rfl (lv_at hl 0 rfl) ?_
    refine gf_X3_30 (b := (sa 4)) X hw k0 r14 dX3_tellMiss_11 ?_
    refine lv_iload_n hx hb dX3_tellMiss_14 rfl (lv_at hl 1 rfl) ?_
    refine lv_bipush (v := 21) hx hb dX3_tellMiss_15 (by decide) ?_
    refine lv_imul hx hb dX3_tellMiss_17 ?_
    refine lv_topi (fun v17_5 e17_5 => ?_)
    have t17_5 := iMul e17_5 rfl t_21 (by omega) (by omega)
    have t17 := t17_5
    refine lv_iload_n hx hb dX3_tellMiss_18 rfl (lv_at hl 2 rfl) ?_
    refine lv_iadd hx hb dX3_tellMiss_19 ?_
    refine lv_topi (fun v19_6 e19_6 => ?_)
    have t19_6 := iAdd e19_6 rfl rfl (by omega) (by omega)
    have t19 := t19_6
    refine lv_iload_n hx hb dX3_tellMiss_20 rfl (lv_at hl 3 rfl) ?_
    refine q_stI X hw k4 (vin n4 (by omega) (by omega)) dX3_tellMiss_21 (fun H locs hw => ?_)
    obtain ⟨q21_7, eq21_7, hw⟩ : ∃ zz9, zz9 = va_up (qI S) (sa 4) (upd ((qI S) (sa 4)) v19_6.toNatClampNeg v) ∧ PX G A s.heap (ch S (pI S) (pJ S) zz9 (qJ S)) H locs := ⟨_, rfl, hw⟩
    have c21 := eq21_7
    rw [mix_at hx0 hy0 t17 t19] at c21
    exact hret _ _ _ _ _ ⟨_, rfl, by first | exact c21 | (exfalso; omega)⟩ hw dX3_tellMiss_22
  · have h4_2 := h4_2
    refine lv_if_eq (tgt := 22) hx hb dX3_tellMiss_7 (by decide) (fun c7_8 => ?_) (fun c7_8 => absurd c7_8 (by decide))
    exact hret _ _ _ _ _ ⟨_, rfl, by first | exact c21 | (exfalso; omega)⟩ hw dX3_tellMiss_22
set_option maxHeartbeats 4000000 in
set_option maxRecDepth 100000 in
theorem c_v_X3_missOf (l : Launch) (G : Gh) (S : Pl) (sa : Nat → Nat) (x y : Int32) (hS : shSea S sa) : MtI l yX3_missOf cX3_missOf 3 (some .int) (Rm 1 0 0) G [.ref (sa 0), .int x, .int y] S (fun (r : Int32) (S' : Pl) => S = S' ∧ r = (if 0 ≤ x.toInt ∧ x.toInt < 2 ∧ 0 ≤ y.toInt ∧ y.toInt ≤ 20 then qI S (sa 4) (mix x y) else 100)) 0 0 := by
  refine MtI.of (by decide) (Nat.le_of_ble_eq_true rfl) ?_
  intro p e s m args below meth c Q A X hw hin hret ls hl
  have hx := X.1.1
  have hb := X.1.2.1
  have hl : lv_has ls 3 [(0, .ref (sa 0)), (1, .int x), (2, .int y)] := hl
  obtain ⟨k0, r10, r11, r12, r13, r14, k1, n1, g1, k2, n2, k3, n3, k4, n4, fz⟩ := id hS
  refine lv_iload_n hx hb dX3_missOf_0 rfl (lv_at hl 1 rfl) ?_
  refine lv_iload_n hx hb dX3_missOf_1 rfl (lv_at hl 2 rfl) ?_
  refine lv_bipush (v := 20) hx hb dX3_missOf_2 (by decide) ?_
  refine k_SNi (n := 3) (host := RX10) X hw (c_X10_isMeans l G _ x y 20) (List.mem_of_getElem? (i := 7) rfl) wd_r16_4 wd_r1_2 wd_r16_5 ⟨by decide, by decide, by decide +kernel⟩ rfl rfl ⟨Nat.le_of_ble_eq_true rfl, Nat.le_of_ble_eq_true rfl⟩ rfl rfl hl.1 (Nat.le_of_ble_eq_true rfl) dX3_missOf_4 ⟨Nat.le_of_ble_eq_true rfl, Nat.le_of_ble_eq_true rfl⟩ (fun r4_1 S4_3 H locs h4_2 hw => ?_)
  have := t_20
  rcases h4_2 with ⟨rfl, rfl, h4_2⟩ | ⟨rfl, rfl, h4_2⟩
  · have h4_2 := h4_2
    refine lv_if_eq (tgt := 24) hx hb dX3_missOf_7 (by decide) (fun c7_4 => absurd c7_4 (by decide)) (fun c7_4 => ?_)
    refine lv_aload_n hx hb dX3_missOf_10 rfl (lv_at hl 0 rfl) ?_
    refine gf_X3_30 (b := (sa 4)) X hw k0 r14 dX3_missOf_11 ?_
    refine lv_iload_n hx hb dX3_missOf_14 rfl (lv_at hl 1 rfl) ?_
    refine lv_bipush (v := 21) hx hb dX3_missOf_15 (by decide) ?_
    refine lv_imul hx hb dX3_missOf_17 ?_
    refine lv_topi (fun v17_5 e17_5 => ?_)
    have t17_5 := iMul e17_5 rfl t_21 (by omega) (by omega)
    have t17 := t17_5
    refine lv_iload_n hx hb dX3_missOf_18 rfl (lv_at hl 2 rfl) ?_
    refine lv_iadd hx hb dX3_missOf_19 ?_
    refine lv_topi (fun v19_6 e19_6 => ?_)
    have t19_6 := iAdd e19_6 rfl rfl (by omega) (by omega)
    have t19 := t19_6
    refine q_ldI X hw k4 (vin n4 (by omega) (by omega)) dX3_missOf_20 ?_
    refine lv_topi (fun v20_7 e20_7 => ?_)
    have e20_7 : v20_7 = (qI S) (sa 4) v19_6.toNatClampNeg := e20_7
    have e20n := e20_7
    rw [mix_at (by omega) (by omega) t17 t19] at e20n
    refine lv_goto (tgt := 26) hx hb dX3_missOf_21 (by decide) ?_
    exact hret v20_7 _ _ _ _ _ ⟨rfl, by rw [if_pos (by omega)]; exact e20n⟩ hw rfl dX3_missOf_26
  · have h4_2 := h4_2
    refine lv_if_eq (tgt := 24) hx hb dX3_missOf_7 (by decide) (fun c7_8 => ?_) (fun c7_8 => absurd c7_8 (by decide))
    refine lv_bipush (v := 100) hx hb dX3_missOf_24 (by decide) ?_
    exact hret 100 _ _ _ _ _ ⟨rfl, by rw [if_neg (by omega)]⟩ hw rfl dX3_missOf_26
set_option maxHeartbeats 4000000 in
set_option maxRecDepth 100000 in
theorem c_v_X3_missFits (l : Launch) (G : Gh) (S : Pl) (sa : Nat → Nat) (x y z : Int32) (hS : shSea S sa) (hx0 : 0 ≤ x.toInt ∧ x.toInt < 2) (hy0 : 1 ≤ y.toInt ∧ y.toInt ≤ 20) : MtI l yX3_missFits cX3_missFits 5 (some .boolean) (Rm 2 0 0) G [.ref (sa 0), .int x, .int y, .int z] S (fun (r : Int32) (S' : Pl) => (S = S' ∧ r = 1 ∧ fits (qI S (sa 4)) x.toNatClampNeg y.toNatClampNeg z.toInt) ∨ (S = S' ∧ r = 0 ∧ ¬ fits (qI S (sa 4)) x.toNatClampNeg y.toNatClampNeg z.toInt)) 0 0 := by
  refine MtI.of (by decide) (Nat.le_of_ble_eq_true rfl) ?_
  intro p e s m args below meth c Q A X hw hin hret ls hl
  have hx := X.1.1
  have hb := X.1.2.1
  have hl : lv_has ls 5 [(0, .ref (sa 0)), (1, .int x), (2, .int y), (3, .int z)] := hl
  obtain ⟨k0, r10, r11, r12, r13, r14, k1, n1, g1, k2, n2, k3, n3, k4, n4, fz⟩ := id hS
  have cy := cl_toInt (x := y) (by omega)
  refine lv_iconst (v := 1) hx hb dX3_missFits_0 (by decide) ?_
  refine lv_istore (lv' := [(4, .int 1), (0, .ref (sa 0)), (1, .int x), (2, .int y), (3, .int z)]) hx hb dX3_missFits_1 hl (by decide) rfl (fun ls hl => ?_)
  have lp3 : ∀ (N9 : Nat) (u : Int32), (1 ≤ u.toInt ∧ u.toInt ≤ 20) → (fitL (qI S (sa 4)) x.toNatClampNeg y.toNatClampNeg z.toInt u.toNatClampNeg) → (y.toInt - u.toInt).toNat < N9 → ∀ (H : Heap) (locs : List Loc) (ls : Array Slot), PX G A s.heap S H locs → lv_has ls 5 [(4, .int u), (0, .ref (sa 0)), (1, .int x), (2, .int y), (3, .int z)] → W p l e (Rm 2 0 0) s m args below meth c H locs 0 0 Q (F0 m 3 ls []) := by
    intro N9
    induction N9 with
    | zero => intro u hu hL hm; exact absurd hm (Nat.not_lt_zero _)
    | succ N9 ih3 =>
      intro u hu hL hm H locs ls hw hl
      refine lv_iload hx hb dX3_missFits_3 (lv_at hl 0 rfl) ?_
      refine lv_iload_n hx hb dX3_missFits_5 rfl (lv_at hl 3 rfl) ?_
      refine lv_icmp_ge (tgt := 38) hx hb dX3_missFits_6 (by decide) (fun c6_1 => ?_) (fun c6_1 => ?_)
      · have D6_1 := iLe c6_1 rfl rfl
        refine lv_iload_n hx hb dX3_missFits_38 rfl (lv_at hl 3 rfl) ?_
        refine lv_iconst (v := 1) hx hb dX3_missFits_39 (by decide) ?_
        refine lv_iadd hx hb dX3_missFits_40 ?_
        refine lv_topi (fun v40_2 e40_2 => ?_)
        have t40_2 := iAdd e40_2 rfl t_1 (by omega) (by omega)
        have t40 := t40_2
        refine lv_istore (lv' := [(4, .int v40_2), (0, .ref (sa 0)), (1, .int x), (2, .int y), (3, .int z)]) hx hb dX3_missFits_41 hl (by decide) rfl (fun ls hl => ?_)
        have lp43 : ∀ (N9 : Nat) (v : Int32), (y.toInt < v.toInt ∧ v.toInt ≤ 21) → (fitG (qI S (sa 4)) x.toNatClampNeg y.toNatClampNeg z.toInt v.toNatClampNeg) → (fitL (qI S (sa 4)) x.toNatClampNeg y.toNatClampNeg z.toInt y.toNatClampNeg) → (21 - v.toInt).toNat < N9 → ∀ (H : Heap) (locs : List Loc) (ls : Array Slot), PX G A s.heap S H locs → lv_has ls 5 [(4, .int v), (0, .ref (sa 0)), (1, .int x), (2, .int y), (3, .int z)] → W p l e (Rm 2 0 0) s m args below meth c H locs 0 0 Q (F0 m 43 ls []) := by
          intro N9
          induction N9 with
          | zero => intro v hv hG hL9 hm; exact absurd hm (Nat.not_lt_zero _)
          | succ N9 ih43 =>
            intro v hv hG hL9 hm H locs ls hw hl
            refine lv_iload hx hb dX3_missFits_43 (lv_at hl 0 rfl) ?_
            refine lv_bipush (v := 20) hx hb dX3_missFits_45 (by decide) ?_
            refine lv_icmp_gt (tgt := 79) hx hb dX3_missFits_47 (by decide) (fun c47_3 => ?_) (fun c47_3 => ?_)
            · have D47_3 := iLt c47_3 t_20 rfl
              refine lv_iconst (v := 1) hx hb dX3_missFits_79 (by decide) ?_
              exact hret 1 _ _ _ _ _ (Or.inl ⟨rfl, rfl, hL9, by have e := cl_toInt (x := v) (by omega); exact fun j j1 j2 j3 j4 => hG j j1 (by omega) j3 j4⟩) hw rfl dX3_missFits_80
            · have D47_3 := iNlt c47_3 t_20 rfl
              refine lv_aload_n hx hb dX3_missFits_50 rfl (lv_at hl 1 rfl) ?_
              refine lv_iload_n hx hb dX3_missFits_51 rfl (lv_at hl 2 rfl) ?_
              refine lv_iload hx hb dX3_missFits_52 (lv_at hl 0 rfl) ?_
              refine k_Vi (n := 2) X hw (rcvk (ci := 3) X hw k0 (fun _ _ _ _ _ _ _ => ⟨_, rfl⟩) rfl) (c_v_X3_isMissTold l G _ sa x v hS) wd_r16_10 wd_r16_1 wd_r16_2 wd_r2_9 wd_r16_3 ⟨by decide, by decide, by decide +kernel⟩ rfl rfl ⟨Nat.le_of_ble_eq_true rfl, Nat.le_of_ble_eq_true rfl⟩ rfl rfl hl.1 (Nat.le_of_ble_eq_true rfl) dX3_missFits_54 ⟨Nat.le_of_ble_eq_true rfl, Nat.le_of_ble_eq_true rfl⟩ (fun r54_4 S54_6 H locs h54_5 hw => ?_)
              rcases h54_5 with ⟨rfl, rfl, h54_5⟩ | ⟨rfl, rfl, h54_5⟩
              · have h54_5 := h54_5
                refine lv_if_eq (tgt := 73) hx hb dX3_missFits_57 (by decide) (fun c57_7 => absurd c57_7 (by decide)) (fun c57_7 => ?_)
                refine lv_iload_n hx hb dX3_missFits_60 rfl (lv_at hl 4 rfl) ?_
                refine lv_aload_n hx hb dX3_missFits_61 rfl (lv_at hl 1 rfl) ?_
                refine lv_iload_n hx hb dX3_missFits_62 rfl (lv_at hl 2 rfl) ?_
                refine lv_iload hx hb dX3_missFits_63 (lv_at hl 0 rfl) ?_
                refine k_Vi (n := 2) X hw (rcvk (ci := 3) X hw k0 (fun _ _ _ _ _ _ _ => ⟨_, rfl⟩) rfl) (c_v_X3_missOf l G _ sa x v hS) wd_r16_11 wd_r16_12 wd_r16_13 wd_r2_9 wd_r16_14 ⟨by decide, by decide, by decide +kernel⟩ rfl rfl ⟨Nat.le_of_ble_eq_true rfl, Nat.le_of_ble_eq_true rfl⟩ rfl rfl hl.1 (Nat.le_of_ble_eq_true rfl) dX3_missFits_65 ⟨Nat.le_of_ble_eq_true rfl, Nat.le_of_ble_eq_true rfl⟩ (fun r65_8 S65_10 H locs h65_9 hw => ?_)
                obtain ⟨rfl, h65_9⟩ := h65_9
                have hmo := h65_9
                rw [if_pos (by omega)] at hmo
                have hmt := congrArg Int32.toInt hmo
                refine lv_icmp_ge (tgt := 73) hx hb dX3_missFits_68 (by decide) (fun c68_11 => ?_) (fun c68_11 => ?_)
                · have D68_11 := iLe c68_11 rfl rfl
                  obtain ⟨v73_12, e73_12⟩ : ∃ y : Int32, y = v + 1 := ⟨_, rfl⟩
                  have t73_12 := iAdd e73_12 rfl t_1 (by omega) (by omega)
                  have t73 := t73_12
                  refine lv_iinc (v := v73_12) (lv' := [(4, .int v73_12), (0, .ref (sa 0)), (1, .int x), (2, .int y), (3, .int z)]) hx hb dX3_missFits_73 hl (k := 0) rfl (by rw [e73_12]; rfl) (by decide) rfl (fun ls hl => ?_)
                  refine lv_goto (tgt := 43) hx hb dX3_missFits_76 (by decide) ?_
                  exact ih43  v73_12 (by omega) (fitG_s hG (by omega) t73 (fun q => by first | (rw [show qI S (sa 4) (21 * x.toNatClampNeg + v.toNatClampNeg) = _ from hmo.symm]; omega) | (have nz : ¬ (0 ≤ x.toInt ∧ x.toInt < 2 ∧ 0 ≤ v.toInt ∧ v.toInt ≤ 20 ∧ ¬ qI S (sa 4) (mix x v) = -1) := (by assumption); exact absurd ⟨by omega, by omega, by omega, by omega, q⟩ nz))) hL9 (by omega) _ _ _ hw (lv_sub hl [0, 1, 2, 3, 4] rfl)
                · have D68_11 := iNle c68_11 rfl rfl
                  refine lv_iconst (v := 0) hx hb dX3_missFits_71 (by decide) ?_
                  exact hret 0 _ _ _ _ _ (Or.inr ⟨rfl, rfl, fun q => by first | (have cu := cl_toInt (x := u) (by omega); have w9 := q.1 u.toNatClampNeg (by omega) (by omega) (by omega) (by have tz : (0 ≤ x.toInt ∧ x.toInt < 2 ∧ 0 ≤ u.toInt ∧ u.toInt ≤ 20 ∧ ¬ qI S (sa 4) (mix x u) = -1) := (by assumption); exact tz.2.2.2.2); rw [show qI S (sa 4) (21 * x.toNatClampNeg + u.toNatClampNeg) = _ from hmo.symm] at w9; omega) | (have cu := cl_toInt (x := v) (by omega); have w9 := q.2 v.toNatClampNeg (by omega) (by omega) (by omega) (by have tz : (0 ≤ x.toInt ∧ x.toInt < 2 ∧ 0 ≤ v.toInt ∧ v.toInt ≤ 20 ∧ ¬ qI S (sa 4) (mix x v) = -1) := (by assumption); exact tz.2.2.2.2); rw [show qI S (sa 4) (21 * x.toNatClampNeg + v.toNatClampNeg) = _ from hmo.symm] at w9; omega)⟩) hw rfl dX3_missFits_72
              · have h54_5 := h54_5
                refine lv_if_eq (tgt := 73) hx hb dX3_missFits_57 (by decide) (fun c57_13 => ?_) (fun c57_13 => absurd c57_13 (by decide))
                obtain ⟨v73_14, e73_14⟩ : ∃ y : Int32, y = v + 1 := ⟨_, rfl⟩
                have t73_14 := iAdd e73_14 rfl t_1 (by omega) (by omega)
                have t73 := t73_14
                refine lv_iinc (v := v73_14) (lv' := [(4, .int v73_14), (0, .ref (sa 0)), (1, .int x), (2, .int y), (3, .int z)]) hx hb dX3_missFits_73 hl (k := 0) rfl (by rw [e73_14]; rfl) (by decide) rfl (fun ls hl => ?_)
                refine lv_goto (tgt := 43) hx hb dX3_missFits_76 (by decide) ?_
                exact ih43  v73_14 (by omega) (fitG_s hG (by omega) t73 (fun q => by first | (rw [show qI S (sa 4) (21 * x.toNatClampNeg + v.toNatClampNeg) = _ from hmo.symm]; omega) | (have nz : ¬ (0 ≤ x.toInt ∧ x.toInt < 2 ∧ 0 ≤ v.toInt ∧ v.toInt ≤ 20 ∧ ¬ qI S (sa 4) (mix x v) = -1) := (by assumption); exact absurd ⟨by omega, by omega, by omega, by omega, q⟩ nz))) hL9 (by omega) _ _ _ hw (lv_sub hl [0, 1, 2, 3, 4] rfl)
        exact lp43 _  v40_2 (by omega) (fun j j1 j2 => absurd j2 (by have := cl_toInt (x := v40_2) (by omega); omega)) (by have e := cl_toInt (x := u) (by omega); exact fun j j1 j2 j3 j4 => hL j j1 (by omega) j3 j4) (Nat.lt_succ_self _) _ _ _ hw (lv_sub hl [0, 1, 2, 3, 4] rfl)
      · have D6_1 := iNle c6_1 rfl rfl
        refine lv_aload_n hx hb dX3_missFits_9 rfl (lv_at hl 1 rfl) ?_
        refine lv_iload_n hx hb dX3_missFits_10 rfl (lv_at hl 2 rfl) ?_
        refine lv_iload hx hb dX3_missFits_11 (lv_at hl 0 rfl) ?_
        refine k_Vi (n := 2) X hw (rcvk (ci := 3) X hw k0 (fun _ _ _ _ _ _ _ => ⟨_, rfl⟩) rfl) (c_v_X3_isMissTold l G _ sa x u hS) wd_r16_10 wd_r16_1 wd_r16_2 wd_r2_9 wd_r16_3 ⟨by decide, by decide, by decide +kernel⟩ rfl rfl ⟨Nat.le_of_ble_eq_true rfl, Nat.le_of_ble_eq_true rfl⟩ rfl rfl hl.1 (Nat.le_of_ble_eq_true rfl) dX3_missFits_13 ⟨Nat.le_of_ble_eq_true rfl, Nat.le_of_ble_eq_true rfl⟩ (fun r13_15 S13_17 H locs h13_16 hw => ?_)
        rcases h13_16 with ⟨rfl, rfl, h13_16⟩ | ⟨rfl, rfl, h13_16⟩
        · have h13_16 := h13_16
          refine lv_if_eq (tgt := 32) hx hb dX3_missFits_16 (by decide) (fun c16_18 => absurd c16_18 (by decide)) (fun c16_18 => ?_)
          refine lv_iload_n hx hb dX3_missFits_19 rfl (lv_at hl 4 rfl) ?_
          refine lv_aload_n hx hb dX3_missFits_20 rfl (lv_at hl 1 rfl) ?_
          refine lv_iload_n hx hb dX3_missFits_21 rfl (lv_at hl 2 rfl) ?_
          refine lv_iload hx hb dX3_missFits_22 (lv_at hl 0 rfl) ?_
          refine k_Vi (n := 2) X hw (rcvk (ci := 3) X hw k0 (fun _ _ _ _ _ _ _ => ⟨_, rfl⟩) rfl) (c_v_X3_missOf l G _ sa x u hS) wd_r16_11 wd_r16_12 wd_r16_13 wd_r2_9 wd_r16_14 ⟨by decide, by decide, by decide +kernel⟩ rfl rfl ⟨Nat.le_of_ble_eq_true rfl, Nat.le_of_ble_eq_true rfl⟩ rfl rfl hl.1 (Nat.le_of_ble_eq_true rfl) dX3_missFits_24 ⟨Nat.le_of_ble_eq_true rfl, Nat.le_of_ble_eq_true rfl⟩ (fun r24_19 S24_21 H locs h24_20 hw => ?_)
          obtain ⟨rfl, h24_20⟩ := h24_20
          have hmo := h24_20
          rw [if_pos (by omega)] at hmo
          have hmt := congrArg Int32.toInt hmo
          refine lv_icmp_le (tgt := 32) hx hb dX3_missFits_27 (by decide) (fun c27_22 => ?_) (fun c27_22 => ?_)
          · have D27_22 := iLe c27_22 rfl rfl
            obtain ⟨v32_23, e32_23⟩ : ∃ y : Int32, y = u + 1 := ⟨_, rfl⟩
            have t32_23 := iAdd e32_23 rfl t_1 (by omega) (by omega)
            have t32 := t32_23
            refine lv_iinc (v := v32_23) (lv' := [(4, .int v32_23), (0, .ref (sa 0)), (1, .int x), (2, .int y), (3, .int z)]) hx hb dX3_missFits_32 hl (k := 0) rfl (by rw [e32_23]; rfl) (by decide) rfl (fun ls hl => ?_)
            refine lv_goto (tgt := 3) hx hb dX3_missFits_35 (by decide) ?_
            exact ih3  v32_23 (by omega) (fitL_s hL hu.1 t32 (fun q => by first | (rw [show qI S (sa 4) (21 * x.toNatClampNeg + u.toNatClampNeg) = _ from hmo.symm]; omega) | (have nz : ¬ (0 ≤ x.toInt ∧ x.toInt < 2 ∧ 0 ≤ u.toInt ∧ u.toInt ≤ 20 ∧ ¬ qI S (sa 4) (mix x u) = -1) := (by assumption); exact absurd ⟨by omega, by omega, by omega, by omega, q⟩ nz))) (by omega) _ _ _ hw (lv_sub hl [0, 1, 2, 3, 4] rfl)
          · have D27_22 := iNle c27_22 rfl rfl
            refine lv_iconst (v := 0) hx hb dX3_missFits_30 (by decide) ?_
            exact hret 0 _ _ _ _ _ (Or.inr ⟨rfl, rfl, fun q => by first | (have cu := cl_toInt (x := u) (by omega); have w9 := q.1 u.toNatClampNeg (by omega) (by omega) (by omega) (by have tz : (0 ≤ x.toInt ∧ x.toInt < 2 ∧ 0 ≤ u.toInt ∧ u.toInt ≤ 20 ∧ ¬ qI S (sa 4) (mix x u) = -1) := (by assumption); exact tz.2.2.2.2); rw [show qI S (sa 4) (21 * x.toNatClampNeg + u.toNatClampNeg) = _ from hmo.symm] at w9; omega) | (have cu := cl_toInt (x := v) (by omega); have w9 := q.2 v.toNatClampNeg (by omega) (by omega) (by omega) (by have tz : (0 ≤ x.toInt ∧ x.toInt < 2 ∧ 0 ≤ v.toInt ∧ v.toInt ≤ 20 ∧ ¬ qI S (sa 4) (mix x v) = -1) := (by assumption); exact tz.2.2.2.2); rw [show qI S (sa 4) (21 * x.toNatClampNeg + v.toNatClampNeg) = _ from hmo.symm] at w9; omega)⟩) hw rfl dX3_missFits_31
        · have h13_16 := h13_16
          refine lv_if_eq (tgt := 32) hx hb dX3_missFits_16 (by decide) (fun c16_24 => ?_) (fun c16_24 => absurd c16_24 (by decide))
          obtain ⟨v32_25, e32_25⟩ : ∃ y : Int32, y = u + 1 := ⟨_, rfl⟩
          have t32_25 := iAdd e32_25 rfl t_1 (by omega) (by omega)
          have t32 := t32_25
          refine lv_iinc (v := v32_25) (lv' := [(4, .int v32_25), (0, .ref (sa 0)), (1, .int x), (2, .int y), (3, .int z)]) hx hb dX3_missFits_32 hl (k := 0) rfl (by rw [e32_25]; rfl) (by decide) rfl (fun ls hl => ?_)
          refine lv_goto (tgt := 3) hx hb dX3_missFits_35 (by decide) ?_
          exact ih3  v32_25 (by omega) (fitL_s hL hu.1 t32 (fun q => by first | (rw [show qI S (sa 4) (21 * x.toNatClampNeg + u.toNatClampNeg) = _ from hmo.symm]; omega) | (have nz : ¬ (0 ≤ x.toInt ∧ x.toInt < 2 ∧ 0 ≤ u.toInt ∧ u.toInt ≤ 20 ∧ ¬ qI S (sa 4) (mix x u) = -1) := (by assumption); exact absurd ⟨by omega, by omega, by omega, by omega, q⟩ nz))) (by omega) _ _ _ hw (lv_sub hl [0, 1, 2, 3, 4] rfl)
  exact lp3 _  1 (by have := t_1; omega) (fun j j1 j2 => absurd j2 (by rw [show (1 : Int32).toNatClampNeg = 1 by decide]; omega)) (Nat.lt_succ_self _) _ _ _ hw (lv_sub hl [0, 1, 2, 3, 4] rfl)
