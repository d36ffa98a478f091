
/-! ===== the reader: a number ===== -/
theorem numS_4 {s : Nat} (hs : s < 5) : 1 ≤ numS s ∧ numS s ≤ 4 := (by decide : ∀ s, s < 5 → 1 ≤ numS s ∧ numS s ≤ 4) s hs
theorem telS_2 {s : Nat} (hs : s < 5) : 1 ≤ telS s ∧ telS s ≤ numS s := (by decide : ∀ s, s < 5 → 1 ≤ telS s ∧ telS s ≤ numS s) s hs
theorem num_t {s : Nat} (hs : s < 5) : (skNUMBERS.getD s 0).toInt = (numS s : Nat) := (by decide : ∀ s, s < 5 → (skNUMBERS.getD s 0).toInt = (numS s : Nat)) s hs
theorem tel_t {s : Nat} (hs : s < 5) : (skTELLING.getD s 0).toInt = (telS s : Nat) := (by decide : ∀ s, s < 5 → (skTELLING.getD s 0).toInt = (telS s : Nat)) s hs
/-- the i-th number is right, and what is asked behind it -/
def gdN (C : Nat → Nat → Int32) (c : Nat → Int32) (n p s i : Nat) : Prop := okN c n p s i ∧ (i + 1 = telS s → ¬ told C s (nv c n p 0).toNatClampNeg (nv c n p 1).toNatClampNeg) ∧ (s = 4 → i = 2 → fits (C 4) (nv c n p 0).toNatClampNeg (nv c n p 1).toNatClampNeg (nv c n p 2).toInt)
theorem rg_of {r : Nat → Int32} {c : Nat → Int32} {n p s : Nat} (hs : s < 5) (h : ∀ j, j < telS s → r j = nv c n p j ∧ okN c n p s j) : rgN s (r 0) (r 1) := by
  rcases (show s = 0 ∨ s = 1 ∨ s = 2 ∨ s = 3 ∨ s = 4 by omega) with rfl | rfl | rfl | rfl | rfl
  · obtain ⟨e0, o0⟩ := h 0 (by decide)
    have a := o0.2
    have l0 : (skLEAST.getD (4 * 0 + 0) 0).toInt = 0 := by decide
    have m0 : (skMOST.getD (4 * 0 + 0) 0).toInt = 71 := by decide
    unfold rgN; rw [e0]; omega
  · obtain ⟨e0, o0⟩ := h 0 (by decide)
    obtain ⟨e1, o1⟩ := h 1 (by decide)
    have a := o0.2
    have b := o1.2
    have l0 : (skLEAST.getD (4 * 1 + 0) 0).toInt = 0 := by decide
    have m0 : (skMOST.getD (4 * 1 + 0) 0).toInt = 3 := by decide
    have l1 : (skLEAST.getD (4 * 1 + 1) 0).toInt = 0 := by decide
    have m1 : (skMOST.getD (4 * 1 + 1) 0).toInt = 71 := by decide
    unfold rgN; rw [e0, e1]; omega
  · obtain ⟨e0, o0⟩ := h 0 (by decide)
    have a := o0.2
    have l0 : (skLEAST.getD (4 * 2 + 0) 0).toInt = 0 := by decide
    have m0 : (skMOST.getD (4 * 2 + 0) 0).toInt = 3 := by decide
    unfold rgN; rw [e0]; omega
  · obtain ⟨e0, o0⟩ := h 0 (by decide)
    obtain ⟨e1, o1⟩ := h 1 (by decide)
    have a := o0.2
    have b := o1.2
    have l0 : (skLEAST.getD (4 * 3 + 0) 0).toInt = 0 := by decide
    have m0 : (skMOST.getD (4 * 3 + 0) 0).toInt = 7 := by decide
    have l1 : (skLEAST.getD (4 * 3 + 1) 0).toInt = 0 := by decide
    have m1 : (skMOST.getD (4 * 3 + 1) 0).toInt = 7 := by decide
    unfold rgN; rw [e0, e1]; omega
  · obtain ⟨e0, o0⟩ := h 0 (by decide)
    obtain ⟨e1, o1⟩ := h 1 (by decide)
    have a := o0.2
    have b := o1.2
    have l0 : (skLEAST.getD (4 * 4 + 0) 0).toInt = 0 := by decide
    have m0 : (skMOST.getD (4 * 4 + 0) 0).toInt = 1 := by decide
    have l1 : (skLEAST.getD (4 * 4 + 1) 0).toInt = 1 := by decide
    have m1 : (skMOST.getD (4 * 4 + 1) 0).toInt = 20 := by decide
    unfold rgN; rw [e0, e1]; omega
theorem rgA_of {r : Nat → Int32} {c : Nat → Int32} {n p s : Nat} (hs : s < 5) (h : ∀ j, j < numS s → r j = nv c n p j ∧ okN c n p s j) : rgA s (r 0) (r 1) (r 2) (r 3) := by
  have ht := telS_2 hs
  refine ⟨rg_of hs (fun j hj => h j (by omega)), fun e => ?_, fun e => ?_⟩
  · subst e
    obtain ⟨e1, o1⟩ := h 1 (by decide)
    obtain ⟨e2, o2⟩ := h 2 (by decide)
    have a := o1.2
    have b := o2.2
    have l1 : (skLEAST.getD (4 * 0 + 1) 0).toInt = -30 := by decide
    have m1 : (skMOST.getD (4 * 0 + 1) 0).toInt = 30 := by decide
    have l2 : (skLEAST.getD (4 * 0 + 2) 0).toInt = -30 := by decide
    have m2 : (skMOST.getD (4 * 0 + 2) 0).toInt = 30 := by decide
    rw [e1, e2]; omega
  · subst e
    obtain ⟨e2, o2⟩ := h 2 (by decide)
    obtain ⟨e3, o3⟩ := h 3 (by decide)
    have a := o2.2
    have b := o3.2
    have l1 : (skLEAST.getD (4 * 1 + 2) 0).toInt = -30 := by decide
    have m1 : (skMOST.getD (4 * 1 + 2) 0).toInt = 30 := by decide
    have l2 : (skLEAST.getD (4 * 1 + 3) 0).toInt = -30 := by decide
    have m2 : (skMOST.getD (4 * 1 + 3) 0).toInt = 30 := by decide
    rw [e2, e3]; omega
theorem told_z0 {C : Nat → Nat → Int32} {a b : Nat} : told C 0 a b ↔ ¬ C 13 a = 0 := Iff.rfl
theorem told_z2 {C : Nat → Nat → Int32} {a b : Nat} : told C 2 a b ↔ ¬ C 2 a = -1 := Iff.rfl
theorem tl_nv {r : Nat → Int32} {C : Nat → Nat → Int32} {c : Nat → Int32} {n p s : Nat} (hs : s < 5) (h : ∀ j, j < telS s → r j = nv c n p j) : told C s (r 0).toNatClampNeg (r 1).toNatClampNeg ↔ told C s (nv c n p 0).toNatClampNeg (nv c n p 1).toNatClampNeg := by
  have h0 := h 0 (telS_2 hs).1
  by_cases e : 1 < telS s
  · rw [h0, h 1 e]
  · have L : ∀ s, s < 5 → ¬ 1 < telS s → s = 0 ∨ s = 2 := by decide
    generalize nv c n p 1 = y
    rw [h0]
    generalize nv c n p 0 = z
    rcases L s hs e with rfl | rfl
    · rw [told_z0, told_z0]
    · rw [told_z2, told_z2]
/-- the numbers up to the i-th, once it is stored -/
theorem hall_of {q q1 : Nat → Nat → Int32} {nb p n s : Nat} {c : Nat → Int32} {i v : Int32} (hnv : ∀ j, j < i.toNatClampNeg → q nb j = nv c n p j ∧ okN c n p s j) (c1 : q1 = va_up q nb (upd (q nb) i.toNatClampNeg v)) (hv : v = nv c n p i.toNatClampNeg) (hok : okN c n p s i.toNatClampNeg) : ∀ j, j < i.toNatClampNeg + 1 → q1 nb j = nv c n p j ∧ okN c n p s j := fun j hj => by
  rw [up_s c1]
  by_cases e : j = i.toNatClampNeg
  · rw [e, pk_us]; exact ⟨hv, hok⟩
  · rw [pk_un e]; exact hnv j (by omega)
set_option maxHeartbeats 4000000 in
set_option maxRecDepth 100000 in
theorem c_v_X4_readNumber (l : Launch) (G : Gh) (S : Pl) (rd nb tk tp tb : Nat) (tc : Nat → Int32) (tn : Nat) (sa : Nat → Nat) (C : Nat → Nat → Int32) (pp : Nat) (w i : Int32) (hR : shRd S rd nb tk tp tb) (hS : shSea S sa) (htc : tc = tx (qI S tb) tn) (hn : (pI S 61 tp).toInt = (tn : Int)) (hz : tn ≤ 1000) (hct : Ct (qI S) sa C) (hwr : 0 ≤ w.toInt ∧ w.toInt ≤ 4) (hnb : ∀ j ∈ sidR, sa j ≠ nb) (hi : 0 ≤ i.toInt ∧ i.toInt < (numS w.toNatClampNeg : Nat)) (hpp : pp ≤ tn) (hbh : (pI S 68 tk).toInt = ((pz tc tn pp i.toNatClampNeg) : Nat)) (hf0 : (pI S 22 rd).toInt = 0) (hnv : ∀ j, j < i.toNatClampNeg → qI S nb j = nv tc tn pp j ∧ okN tc tn pp w.toNatClampNeg j) : MtV l yX4_readNumber cX4_readNumber 5 none (Rm 3 0 0) G [.ref rd, .ref (sa 0), .int w, .int i] S (fun (S' : Pl) => ∃ I' q', ch S I' (pJ S) q' (qJ S) = S' ∧ FrU (pI S) I' ∧ (∀ a, a ≠ nb → q' a = qI S a) ∧ (0 ≤ (I' 68 tk).toInt ∧ (I' 68 tk).toInt ≤ (tn : Int)) ∧ (((I' 22 rd).toInt = 0 ∧ gdN C tc tn pp w.toNatClampNeg i.toNatClampNeg ∧ (∀ j, j < i.toNatClampNeg + 1 → q' nb j = nv tc tn pp j ∧ okN tc tn pp w.toNatClampNeg j) ∧ (I' 68 tk).toInt = (pz tc tn pp (i.toNatClampNeg + 1) : Nat)) ∨ ((I' 22 rd).toInt ≠ 0 ∧ ¬ gdN C tc tn pp w.toNatClampNeg i.toNatClampNeg))) 0 0 := by
  refine MtV.of (by decide) (Nat.le_of_ble_eq_true rfl) ?_
  intro p e s m args below meth c Q A X hw hin hret ls hl
  have hx := X.1.1
  have hb := X.1.2.1
  have hl : lv_has ls 5 [(0, .ref rd), (1, .ref (sa 0)), (2, .int w), (3, .int i)] := hl
  have hpz := pz_le (c := tc) (n := tn) hpp i.toNatClampNeg
  have hpe := tE_le (c := tc) hpz
  have hwn := clt (x := w) (n := 5) hwr.1 (by omega)
  have hnu := numS_4 hwn
  have hts := telS_2 hwn
  have hin := cl_toInt (x := i) hi.1
  have hwi := cl_toInt (x := w) hwr.1
  refine lv_aload_n hx hb dX4_readNumber_0 rfl (lv_at hl 0 rfl) ?_
  refine gf_X4_24 (b := tk) X hw hR.1 hR.2.1 dX4_readNumber_1 ?_
  refine k_Vv (n := 0) X hw (rcvk (ci := 9) X hw hR.2.2.2.2.2.1 (fun _ _ _ _ _ _ _ => ⟨_, rfl⟩) rfl) (c_v_X9_readNext l G _ tk tp tb tc tn hR.2.2.2.2.2 htc hn hz ⟨by omega, by omega⟩) wd_r9_4 wd_r9_5 wd_r9_6 wd_r3_2 wd_r9_7 ⟨by decide, by decide, by decide +kernel⟩ rfl rfl ⟨Nat.le_of_ble_eq_true rfl, Nat.le_of_ble_eq_true rfl⟩ rfl rfl hl.1 (Nat.le_of_ble_eq_true rfl) dX4_readNumber_4 ⟨Nat.le_of_ble_eq_true rfl, Nat.le_of_ble_eq_true rfl⟩ (fun S4_2 H locs h4_1 hw => ?_)
  obtain ⟨I4_3, rfl, h4_1⟩ := h4_1
  have hw : PX G A s.heap (ch S I4_3 (pJ S) (qI S) (qJ S)) H locs := hw
  have hTK : tokAt I4_3 tk tc tn (pz tc tn pp i.toNatClampNeg) := by have e : (pI S 68 tk).toNatClampNeg = (pz tc tn pp i.toNatClampNeg) := (by have := cl_toInt (x := pI S 68 tk) (by omega); omega); rw [← e]; exact h4_1.2
  have h66t : (I4_3 66 tk).toInt = tK tc tn (pz tc tn pp i.toNatClampNeg) := hTK.2.2.1
  have h68t : (I4_3 68 tk).toInt = (tE tc tn (pz tc tn pp i.toNatClampNeg) : Nat) := hTK.2.1
  have h22 : (I4_3 22 rd).toInt = 0 := (congrArg Int32.toInt (congrFun (h4_1.1 22 (by decide)) rd)).trans hf0
  have hK3 := hTK.2.2.2
  refine lv_aload_n hx hb dX4_readNumber_7 rfl (lv_at hl 0 rfl) ?_
  refine lv_iconst (v := 3) hx hb dX4_readNumber_8 (by decide) ?_
  refine k_Vi (n := 1) X hw (rcvk (ci := 4) X hw hR.1 (fun _ _ _ _ _ _ _ => ⟨_, rfl⟩) rfl) (c_v_X4_isThere l G _ rd nb tk tp tb 3 hR (by decide)) wd_r11_6 wd_r11_7 wd_r11_8 wd_r1_18 wd_r11_9 ⟨by decide, by decide, by decide +kernel⟩ rfl rfl ⟨Nat.le_of_ble_eq_true rfl, Nat.le_of_ble_eq_true rfl⟩ rfl rfl hl.1 (Nat.le_of_ble_eq_true rfl) dX4_readNumber_9 ⟨Nat.le_of_ble_eq_true rfl, Nat.le_of_ble_eq_true rfl⟩ (fun r9_4 S9_6 H locs h9_5 hw => ?_)
  have := t_3
  obtain ⟨I9_7, rfl, h9_5⟩ := h9_5
  have hw : PX G A s.heap (ch S I9_7 (pJ S) (qI S) (qJ S)) H locs := hw
  have hTH : (r9_4.toInt = 1 ∧ (I4_3 66 tk).toInt = (3 : Int32).toInt ∧ (I9_7 22 rd).toInt = (I4_3 22 rd).toInt) ∨ (r9_4.toInt = 0 ∧ (I4_3 66 tk).toInt ≠ (3 : Int32).toInt ∧ (I9_7 22 rd).toInt ≠ 0) := h9_5.2
  have g69 : I9_7 69 tk = I4_3 69 tk := congrFun (h9_5.1 69 (by decide)) tk
  have g68 : (I9_7 68 tk).toInt = (I4_3 68 tk).toInt := congrArg Int32.toInt (congrFun (h9_5.1 68 (by decide)) tk)
  refine lv_if_ne (tgt := 16) hx hb dX4_readNumber_12 (by decide) (fun c12_8 => ?_) (fun c12_8 => ?_)
  · have D12_8 := iNe c12_8 rfl t_0
    refine lv_iload_n hx hb dX4_readNumber_16 rfl (lv_at hl 2 rfl) ?_
    refine lv_iconst (v := 4) hx hb dX4_readNumber_17 (by decide) ?_
    refine lv_imul hx hb dX4_readNumber_18 ?_
    refine lv_topi (fun v18_9 e18_9 => ?_)
    have t18_9 := iMul e18_9 rfl t_4 (by omega) (by omega)
    have t18 := t18_9
    refine lv_iload_n hx hb dX4_readNumber_19 rfl (lv_at hl 3 rfl) ?_
    refine lv_iadd hx hb dX4_readNumber_20 ?_
    refine lv_topi (fun v20_10 e20_10 => ?_)
    have t20_10 := iAdd e20_10 rfl rfl (by omega) (by omega)
    have t20 := t20_10
    refine lv_istore (lv' := [(4, .int v20_10), (0, .ref rd), (1, .ref (sa 0)), (2, .int w), (3, .int i)]) hx hb dX4_readNumber_21 hl (by decide) rfl (fun ls hl => ?_)
    have hix : v20_10.toNatClampNeg = 4 * w.toNatClampNeg + i.toNatClampNeg := by have := cl_toInt (x := v20_10) (by omega); omega
    refine lv_aload_n hx hb dX4_readNumber_23 rfl (lv_at hl 1 rfl) ?_
    refine gf_X4_11 (b := nb) X hw hR.1 hR.2.2.1 dX4_readNumber_24 ?_
    refine lv_iload_n hx hb dX4_readNumber_27 rfl (lv_at hl 4 rfl) ?_
    refine lv_aload_n hx hb dX4_readNumber_28 rfl (lv_at hl 1 rfl) ?_
    refine gf_X4_24 (b := tk) X hw hR.1 hR.2.1 dX4_readNumber_29 ?_
    refine k_Vi (n := 0) X hw (rcvk (ci := 9) X hw hR.2.2.2.2.2.1 (fun _ _ _ _ _ _ _ => ⟨_, rfl⟩) rfl) (c_X9_value l G _ tk tp tb hR.2.2.2.2.2) wd_r14_14 wd_r14_15 wd_r14_16 wd_r3_2 wd_r14_17 ⟨by decide, by decide, by decide +kernel⟩ rfl rfl ⟨Nat.le_of_ble_eq_true rfl, Nat.le_of_ble_eq_true rfl⟩ rfl rfl hl.1 (Nat.le_of_ble_eq_true rfl) dX4_readNumber_32 ⟨Nat.le_of_ble_eq_true rfl, Nat.le_of_ble_eq_true rfl⟩ (fun r32_11 S32_13 H locs h32_12 hw => ?_)
    obtain ⟨rfl, h32_12⟩ := h32_12
    have hval : r32_11 = (nv tc tn pp i.toNatClampNeg) := (h32_12.trans g69).trans (hK3 (by omega))
    refine q_stI X hw hR.2.2.2.1 (vin hR.2.2.2.2.1 (by omega) (by omega)) dX4_readNumber_35 (fun H locs hw => ?_)
    obtain ⟨q35_14, eq35_14, hw⟩ : ∃ zz9, zz9 = va_up (qI S) nb (upd ((qI S) nb) i.toNatClampNeg r32_11) ∧ PX G A s.heap (ch S I9_7 (pJ S) zz9 (qJ S)) H locs := ⟨_, rfl, hw⟩
    have c35 := eq35_14
    refine lv_aload_n hx hb dX4_readNumber_36 rfl (lv_at hl 1 rfl) ?_
    refine gf_X4_11 (b := nb) X hw hR.1 hR.2.2.1 dX4_readNumber_37 ?_
    refine lv_iload_n hx hb dX4_readNumber_40 rfl (lv_at hl 4 rfl) ?_
    refine q_ldI X hw hR.2.2.2.1 (vin hR.2.2.2.2.1 (by omega) (by omega)) dX4_readNumber_41 ?_
    refine lv_topi (fun v41_15 e41_15 => ?_)
    have e41_15 : v41_15 = q35_14 nb i.toNatClampNeg := e41_15
    have e41n : v41_15 = (nv tc tn pp i.toNatClampNeg) := by rw [e41_15, up_s c35, pk_us]; exact hval
    have t41n := congrArg Int32.toInt e41n
    refine va_gets hx hb X.2.2.2.2.1.2.2.2.2.2.2.1.1 hw.2.2 X.1.2.2.2.1 (X.1.2.2.2.2 _ wd_r14_11) (fun _ h => h) dX4_readNumber_42 ?_
    refine lv_iload hx hb dX4_readNumber_45 (lv_at hl 0 rfl) ?_
    refine va_ti hx hb X.2.2.2.2.1.2.2.2.2.2.2.1.2 hw.2.2 (vp_in_iff.mpr ⟨by omega, by omega⟩) (v := .int (skLEAST.getD v20_10.toNatClampNeg 0)) rfl dX4_readNumber_47 ?_
    refine lv_topi (fun v47_16 e47_16 => ?_)
    have e47n : v47_16.toInt = (skLEAST.getD (4 * w.toNatClampNeg + i.toNatClampNeg) 0).toInt := by rw [e47_16, hix]
    refine va_gets hx hb X.2.2.2.2.1.2.2.2.2.2.2.2.1.1 hw.2.2 X.1.2.2.2.1 (X.1.2.2.2.2 _ wd_r14_12) (fun _ h => h) dX4_readNumber_48 ?_
    refine lv_iload hx hb dX4_readNumber_51 (lv_at hl 0 rfl) ?_
    refine va_ti hx hb X.2.2.2.2.1.2.2.2.2.2.2.2.1.2 hw.2.2 (vp_in_iff.mpr ⟨by omega, by omega⟩) (v := .int (skMOST.getD v20_10.toNatClampNeg 0)) rfl dX4_readNumber_53 ?_
    refine lv_topi (fun v53_17 e53_17 => ?_)
    have e53n : v53_17.toInt = (skMOST.getD (4 * w.toNatClampNeg + i.toNatClampNeg) 0).toInt := by rw [e53_17, hix]
    refine k_SNi (n := 3) (host := RX10) X hw (c_X10_within l G _ v41_15 v47_16 v53_17) (List.mem_of_getElem? (i := 3) rfl) wd_r7_18 wd_r1_2 wd_r7_19 ⟨by decide, by decide, by decide +kernel⟩ rfl rfl ⟨Nat.le_of_ble_eq_true rfl, Nat.le_of_ble_eq_true rfl⟩ rfl rfl hl.1 (Nat.le_of_ble_eq_true rfl) dX4_readNumber_54 ⟨Nat.le_of_ble_eq_true rfl, Nat.le_of_ble_eq_true rfl⟩ (fun r54_18 S54_20 H locs h54_19 hw => ?_)
    rcases h54_19 with ⟨rfl, rfl, h54_19⟩ | ⟨rfl, rfl, h54_19⟩
    · have h54_19 := h54_19
      refine lv_if_ne (tgt := 68) hx hb dX4_readNumber_57 (by decide) (fun c57_21 => ?_) (fun c57_21 => absurd c57_21 (by decide))
      have hok : okN tc tn pp w.toNatClampNeg i.toNatClampNeg := ⟨by omega, by omega, by omega⟩
      have hall := hall_of hnv c35 hval hok
      refine lv_iload_n hx hb dX4_readNumber_68 rfl (lv_at hl 4 rfl) ?_
      refine va_gets hx hb X.2.2.2.2.1.2.2.2.2.2.1.1 hw.2.2 X.1.2.2.2.1 (X.1.2.2.2.2 _ wd_r14_13) (fun _ h => h) dX4_readNumber_69 ?_
      refine lv_iload_n hx hb dX4_readNumber_72 rfl (lv_at hl 3 rfl) ?_
      refine va_ti hx hb X.2.2.2.2.1.2.2.2.2.2.1.2 hw.2.2 (vp_in_iff.mpr ⟨by omega, by omega⟩) (v := .int (skTELLING.getD w.toNatClampNeg 0)) rfl dX4_readNumber_73 ?_
      refine lv_topi (fun v73_22 e73_22 => ?_)
      have e73n : v73_22.toInt = (telS w.toNatClampNeg : Nat) := by rw [e73_22]; exact tel_t hwn
      refine lv_iconst (v := 1) hx hb dX4_readNumber_74 (by decide) ?_
      refine lv_isub hx hb dX4_readNumber_75 ?_
      refine lv_topi (fun v75_23 e75_23 => ?_)
      have t75_23 := iSub e75_23 rfl t_1 (by omega) (by omega)
      have t75 := t75_23
      refine lv_icmp_ne (tgt := 96) hx hb dX4_readNumber_76 (by decide) (fun c76_24 => ?_) (fun c76_24 => ?_)
      · have D76_24 := iNe c76_24 rfl rfl
        have hNT : i.toNatClampNeg + 1 = telS w.toNatClampNeg → ¬ told C w.toNatClampNeg (nv tc tn pp 0).toNatClampNeg (nv tc tn pp 1).toNatClampNeg := by first | (intro z1; exfalso; omega) | exact fun _ z2 => absurd ((tl_nv hwn (fun j hj => (hall j (by omega)).1)).mpr z2) (by assumption)
        refine lv_iload_n hx hb dX4_readNumber_96 rfl (lv_at hl 3 rfl) ?_
        refine lv_iconst (v := 4) hx hb dX4_readNumber_97 (by decide) ?_
        refine lv_icmp_ne (tgt := 136) hx hb dX4_readNumber_98 (by decide) (fun c98_25 => ?_) (fun c98_25 => ?_)
        · have D98_25 := iNe c98_25 rfl t_4
          have HR9 : (((I9_7 22 rd).toInt = 0 ∧ gdN C tc tn pp w.toNatClampNeg i.toNatClampNeg ∧ (∀ j, j < i.toNatClampNeg + 1 → q35_14 nb j = nv tc tn pp j ∧ okN tc tn pp w.toNatClampNeg j) ∧ (I9_7 68 tk).toInt = (pz tc tn pp (i.toNatClampNeg + 1) : Nat)) ∨ ((I9_7 22 rd).toInt ≠ 0 ∧ ¬ gdN C tc tn pp w.toNatClampNeg i.toNatClampNeg)) := by first | exact Or.inr ⟨by omega, NG⟩ | exact Or.inl ⟨by omega, ⟨hok, hNT, by first | (intro z1 z2; exfalso; omega) | exact fun _ _ => q4.mpr (by assumption)⟩, hall, by show _ = ((tE tc tn (pz tc tn pp i.toNatClampNeg) : Nat) : Int); omega⟩
          exact hret _ _ _ _ _ ⟨_, _, rfl, (FrU.tr (FrU.tr FrU.rf (h4_1.1.u)) (h9_5.1.u)), fun a ha => up_n c35 ha, by omega, HR9⟩ hw dX4_readNumber_136
        · have D98_25 := iEq c98_25 rfl t_4
          refine lv_iload_n hx hb dX4_readNumber_101 rfl (lv_at hl 4 rfl) ?_
          refine lv_iconst (v := 2) hx hb dX4_readNumber_102 (by decide) ?_
          refine lv_icmp_ne (tgt := 136) hx hb dX4_readNumber_103 (by decide) (fun c103_26 => ?_) (fun c103_26 => ?_)
          · have D103_26 := iNe c103_26 rfl t_2
            have HR9 : (((I9_7 22 rd).toInt = 0 ∧ gdN C tc tn pp w.toNatClampNeg i.toNatClampNeg ∧ (∀ j, j < i.toNatClampNeg + 1 → q35_14 nb j = nv tc tn pp j ∧ okN tc tn pp w.toNatClampNeg j) ∧ (I9_7 68 tk).toInt = (pz tc tn pp (i.toNatClampNeg + 1) : Nat)) ∨ ((I9_7 22 rd).toInt ≠ 0 ∧ ¬ gdN C tc tn pp w.toNatClampNeg i.toNatClampNeg)) := by first | exact Or.inr ⟨by omega, NG⟩ | exact Or.inl ⟨by omega, ⟨hok, hNT, by first | (intro z1 z2; exfalso; omega) | exact fun _ _ => q4.mpr (by assumption)⟩, hall, by show _ = ((tE tc tn (pz tc tn pp i.toNatClampNeg) : Nat) : Int); omega⟩
            exact hret _ _ _ _ _ ⟨_, _, rfl, (FrU.tr (FrU.tr FrU.rf (h4_1.1.u)) (h9_5.1.u)), fun a ha => up_n c35 ha, by omega, HR9⟩ hw dX4_readNumber_136
          · have D103_26 := iEq c103_26 rfl t_2
            have hr4 := (rg_of (s := 4) (p := pp) (n := tn) (c := tc) (r := nv tc tn pp) (by decide) (fun j hj => ⟨rfl, by have z := (hall j (by have : telS 4 = 2 := (by decide); omega)).2; rw [show w.toNatClampNeg = 4 by omega] at z; exact z⟩)).2.2.2.2 rfl
            refine lv_aload_n hx hb dX4_readNumber_106 rfl (lv_at hl 2 rfl) ?_
            refine lv_aload_n hx hb dX4_readNumber_107 rfl (lv_at hl 1 rfl) ?_
            refine gf_X4_11 (b := nb) X hw hR.1 hR.2.2.1 dX4_readNumber_108 ?_
            refine lv_iconst (v := 0) hx hb dX4_readNumber_111 (by decide) ?_
            refine q_ldI X hw hR.2.2.2.1 (vinl hR.2.2.2.2.1 (by decide) t_0 (by decide)) dX4_readNumber_112 ?_
            refine lv_topi (fun v112_27 e112_27 => ?_)
            have e112_27 : v112_27 = q35_14 nb ((0 : Int32).toNatClampNeg) := e112_27
            have e112n : v112_27 = nv tc tn pp 0 := (e112_27.trans (by rw [show (0 : Int32).toNatClampNeg = 0 by decide])).trans (hall 0 (by omega)).1
            refine lv_aload_n hx hb dX4_readNumber_113 rfl (lv_at hl 1 rfl) ?_
            refine gf_X4_11 (b := nb) X hw hR.1 hR.2.2.1 dX4_readNumber_114 ?_
            refine lv_iconst (v := 1) hx hb dX4_readNumber_117 (by decide) ?_
            refine q_ldI X hw hR.2.2.2.1 (vinl hR.2.2.2.2.1 (by decide) t_1 (by decide)) dX4_readNumber_118 ?_
            refine lv_topi (fun v118_28 e118_28 => ?_)
            have e118_28 : v118_28 = q35_14 nb ((1 : Int32).toNatClampNeg) := e118_28
            have e118n : v118_28 = nv tc tn pp 1 := (e118_28.trans (by rw [show (1 : Int32).toNatClampNeg = 1 by decide])).trans (hall 1 (by omega)).1
            refine lv_aload_n hx hb dX4_readNumber_119 rfl (lv_at hl 1 rfl) ?_
            refine gf_X4_11 (b := nb) X hw hR.1 hR.2.2.1 dX4_readNumber_120 ?_
            refine lv_iconst (v := 2) hx hb dX4_readNumber_123 (by decide) ?_
            refine q_ldI X hw hR.2.2.2.1 (vinl hR.2.2.2.2.1 (by decide) t_2 (by decide)) dX4_readNumber_124 ?_
            refine lv_topi (fun v124_29 e124_29 => ?_)
            have e124_29 : v124_29 = q35_14 nb ((2 : Int32).toNatClampNeg) := e124_29
            have e124n : v124_29 = nv tc tn pp 2 := (e124_29.trans (by rw [show (2 : Int32).toNatClampNeg = 2 by decide])).trans (hall 2 (by omega)).1
            have q4 : fits (C 4) (nv tc tn pp 0).toNatClampNeg (nv tc tn pp 1).toNatClampNeg (nv tc tn pp 2).toInt ↔ fits (q35_14 (sa 4)) v112_27.toNatClampNeg v118_28.toNatClampNeg v124_29.toInt := by rw [e112n, e118n, e124n]; exact (fits_C (hct.kept (fun j hj => up_n c35 (hnb j hj))) hr4.1 hr4.2.2).symm
            rw [← e112n, ← e118n] at hr4
            refine k_Vi (n := 3) X hw (rcvk (ci := 3) X hw hS.1 (fun _ _ _ _ _ _ _ => ⟨_, rfl⟩) rfl) (c_v_X3_missFits l G _ sa v112_27 v118_28 v124_29 hS (by omega) (by omega)) wd_r16_6 wd_r16_7 wd_r16_8 wd_r2_9 wd_r16_9 ⟨by decide, by decide, by decide +kernel⟩ rfl rfl ⟨Nat.le_of_ble_eq_true rfl, Nat.le_of_ble_eq_true rfl⟩ rfl rfl hl.1 (Nat.le_of_ble_eq_true rfl) dX4_readNumber_125 ⟨Nat.le_of_ble_eq_true rfl, Nat.le_of_ble_eq_true rfl⟩ (fun r125_30 S125_32 H locs h125_31 hw => ?_)
            rcases h125_31 with ⟨rfl, rfl, h125_31⟩ | ⟨rfl, rfl, h125_31⟩
            · have h125_31 := h125_31
              refine lv_if_ne (tgt := 136) hx hb dX4_readNumber_128 (by decide) (fun c128_33 => ?_) (fun c128_33 => absurd c128_33 (by decide))
              have HR9 : (((I9_7 22 rd).toInt = 0 ∧ gdN C tc tn pp w.toNatClampNeg i.toNatClampNeg ∧ (∀ j, j < i.toNatClampNeg + 1 → q35_14 nb j = nv tc tn pp j ∧ okN tc tn pp w.toNatClampNeg j) ∧ (I9_7 68 tk).toInt = (pz tc tn pp (i.toNatClampNeg + 1) : Nat)) ∨ ((I9_7 22 rd).toInt ≠ 0 ∧ ¬ gdN C tc tn pp w.toNatClampNeg i.toNatClampNeg)) := by first | exact Or.inr ⟨by omega, NG⟩ | exact Or.inl ⟨by omega, ⟨hok, hNT, by first | (intro z1 z2; exfalso; omega) | exact fun _ _ => q4.mpr (by assumption)⟩, hall, by show _ = ((tE tc tn (pz tc tn pp i.toNatClampNeg) : Nat) : Int); omega⟩
              exact hret _ _ _ _ _ ⟨_, _, rfl, (FrU.tr (FrU.tr FrU.rf (h4_1.1.u)) (h9_5.1.u)), fun a ha => up_n c35 ha, by omega, HR9⟩ hw dX4_readNumber_136
            · have h125_31 := h125_31
              refine lv_if_ne (tgt := 136) hx hb dX4_readNumber_128 (by decide) (fun c128_34 => absurd c128_34 (by decide)) (fun c128_34 => ?_)
              have NG : ¬ gdN C tc tn pp w.toNatClampNeg i.toNatClampNeg := fun q => absurd (q4.mp (q.2.2 (by omega) (by omega))) (by assumption)
              refine lv_aload_n hx hb dX4_readNumber_131 rfl (lv_at hl 1 rfl) ?_
              refine lv_iconst (v := 5) hx hb dX4_readNumber_132 (by decide) ?_
              refine k_Vv (n := 1) X hw (rcvk (ci := 4) X hw hR.1 (fun _ _ _ _ _ _ _ => ⟨_, rfl⟩) rfl) (c_v_X4_note l G _ rd nb tk tp tb 5 hR) wd_r11_10 wd_r11_11 wd_r11_12 wd_r1_18 wd_r11_13 ⟨by decide, by decide, by decide +kernel⟩ rfl rfl ⟨Nat.le_of_ble_eq_true rfl, Nat.le_of_ble_eq_true rfl⟩ rfl rfl hl.1 (Nat.le_of_ble_eq_true rfl) dX4_readNumber_133 ⟨Nat.le_of_ble_eq_true rfl, Nat.le_of_ble_eq_true rfl⟩ (fun S133_36 H locs h133_35 hw => ?_)
              have := t_5
              obtain ⟨I133_37, rfl, h133_35⟩ := h133_35
              have hw : PX G A s.heap (ch S I133_37 (pJ S) q35_14 (qJ S)) H locs := hw
              have HN : (I133_37 22 rd).toInt = (5 : Int32).toInt := congrArg Int32.toInt h133_35.2
              have g68b : (I133_37 68 tk).toInt = (I9_7 68 tk).toInt := congrArg Int32.toInt (congrFun (h133_35.1 68 (by decide)) tk)
              have HR9 : (((I133_37 22 rd).toInt = 0 ∧ gdN C tc tn pp w.toNatClampNeg i.toNatClampNeg ∧ (∀ j, j < i.toNatClampNeg + 1 → q35_14 nb j = nv tc tn pp j ∧ okN tc tn pp w.toNatClampNeg j) ∧ (I133_37 68 tk).toInt = (pz tc tn pp (i.toNatClampNeg + 1) : Nat)) ∨ ((I133_37 22 rd).toInt ≠ 0 ∧ ¬ gdN C tc tn pp w.toNatClampNeg i.toNatClampNeg)) := by first | exact Or.inr ⟨by omega, NG⟩ | exact Or.inl ⟨by omega, ⟨hok, hNT, by first | (intro z1 z2; exfalso; omega) | exact fun _ _ => q4.mpr (by assumption)⟩, hall, by show _ = ((tE tc tn (pz tc tn pp i.toNatClampNeg) : Nat) : Int); omega⟩
              exact hret _ _ _ _ _ ⟨_, _, rfl, (FrU.tr (FrU.tr (FrU.tr FrU.rf (h4_1.1.u)) (h9_5.1.u)) (h133_35.1.u)), fun a ha => up_n c35 ha, by omega, HR9⟩ hw dX4_readNumber_136
      · have D76_24 := iEq c76_24 rfl rfl
        refine lv_aload_n hx hb dX4_readNumber_79 rfl (lv_at hl 1 rfl) ?_
        refine lv_aload_n hx hb dX4_readNumber_80 rfl (lv_at hl 2 rfl) ?_
        refine lv_iload_n hx hb dX4_readNumber_81 rfl (lv_at hl 3 rfl) ?_
        refine k_Vi (n := 2) X hw (rcvk (ci := 4) X hw hR.1 (fun _ _ _ _ _ _ _ => ⟨_, rfl⟩) rfl) (c_v_X4_isTold l G _ rd nb tk tp tb sa C w hR hS (hct.kept (fun j hj => up_n c35 (hnb j hj))) hwr (rg_of (r := q35_14 nb) hwn (fun j hj => hall j (by omega)))) wd_r14_18 wd_r14_19 wd_r14_20 wd_r1_18 wd_r14_21 ⟨by decide, by decide, by decide +kernel⟩ rfl rfl ⟨Nat.le_of_ble_eq_true rfl, Nat.le_of_ble_eq_true rfl⟩ rfl rfl hl.1 (Nat.le_of_ble_eq_true rfl) dX4_readNumber_82 ⟨Nat.le_of_ble_eq_true rfl, Nat.le_of_ble_eq_true rfl⟩ (fun r82_38 S82_40 H locs h82_39 hw => ?_)
        rcases h82_39 with ⟨rfl, rfl, h82_39⟩ | ⟨rfl, rfl, h82_39⟩
        · have h82_39 := h82_39
          refine lv_if_eq (tgt := 96) hx hb dX4_readNumber_85 (by decide) (fun c85_41 => absurd c85_41 (by decide)) (fun c85_41 => ?_)
          have NG : ¬ gdN C tc tn pp w.toNatClampNeg i.toNatClampNeg := fun q => q.2.1 (by omega) ((tl_nv hwn (fun j hj => (hall j (by omega)).1)).mp (by assumption))
          refine lv_aload_n hx hb dX4_readNumber_88 rfl (lv_at hl 1 rfl) ?_
          refine lv_iconst (v := 4) hx hb dX4_readNumber_89 (by decide) ?_
          refine k_Vv (n := 1) X hw (rcvk (ci := 4) X hw hR.1 (fun _ _ _ _ _ _ _ => ⟨_, rfl⟩) rfl) (c_v_X4_note l G _ rd nb tk tp tb 4 hR) wd_r11_10 wd_r11_11 wd_r11_12 wd_r1_18 wd_r11_13 ⟨by decide, by decide, by decide +kernel⟩ rfl rfl ⟨Nat.le_of_ble_eq_true rfl, Nat.le_of_ble_eq_true rfl⟩ rfl rfl hl.1 (Nat.le_of_ble_eq_true rfl) dX4_readNumber_90 ⟨Nat.le_of_ble_eq_true rfl, Nat.le_of_ble_eq_true rfl⟩ (fun S90_43 H locs h90_42 hw => ?_)
          have := t_4
          obtain ⟨I90_44, rfl, h90_42⟩ := h90_42
          have hw : PX G A s.heap (ch S I90_44 (pJ S) q35_14 (qJ S)) H locs := hw
          have HN : (I90_44 22 rd).toInt = (4 : Int32).toInt := congrArg Int32.toInt h90_42.2
          have g68b : (I90_44 68 tk).toInt = (I9_7 68 tk).toInt := congrArg Int32.toInt (congrFun (h90_42.1 68 (by decide)) tk)
          refine lv_goto (tgt := 136) hx hb dX4_readNumber_93 (by decide) ?_
          have HR9 : (((I90_44 22 rd).toInt = 0 ∧ gdN C tc tn pp w.toNatClampNeg i.toNatClampNeg ∧ (∀ j, j < i.toNatClampNeg + 1 → q35_14 nb j = nv tc tn pp j ∧ okN tc tn pp w.toNatClampNeg j) ∧ (I90_44 68 tk).toInt = (pz tc tn pp (i.toNatClampNeg + 1) : Nat)) ∨ ((I90_44 22 rd).toInt ≠ 0 ∧ ¬ gdN C tc tn pp w.toNatClampNeg i.toNatClampNeg)) := by first | exact Or.inr ⟨by omega, NG⟩ | exact Or.inl ⟨by omega, ⟨hok, hNT, by first | (intro z1 z2; exfalso; omega) | exact fun _ _ => q4.mpr (by assumption)⟩, hall, by show _ = ((tE tc tn (pz tc tn pp i.toNatClampNeg) : Nat) : Int); omega⟩
          exact hret _ _ _ _ _ ⟨_, _, rfl, (FrU.tr (FrU.tr (FrU.tr FrU.rf (h4_1.1.u)) (h9_5.1.u)) (h90_42.1.u)), fun a ha => up_n c35 ha, by omega, HR9⟩ hw dX4_readNumber_136
        · have h82_39 := h82_39
          refine lv_if_eq (tgt := 96) hx hb dX4_readNumber_85 (by decide) (fun c85_45 => ?_) (fun c85_45 => absurd c85_45 (by decide))
          have hNT : i.toNatClampNeg + 1 = telS w.toNatClampNeg → ¬ told C w.toNatClampNeg (nv tc tn pp 0).toNatClampNeg (nv tc tn pp 1).toNatClampNeg := by first | (intro z1; exfalso; omega) | exact fun _ z2 => absurd ((tl_nv hwn (fun j hj => (hall j (by omega)).1)).mpr z2) (by assumption)
          refine lv_iload_n hx hb dX4_readNumber_96 rfl (lv_at hl 3 rfl) ?_
          refine lv_iconst (v := 4) hx hb dX4_readNumber_97 (by decide) ?_
          refine lv_icmp_ne (tgt := 136) hx hb dX4_readNumber_98 (by decide) (fun c98_46 => ?_) (fun c98_46 => ?_)
          · have D98_46 := iNe c98_46 rfl t_4
            have HR9 : (((I9_7 22 rd).toInt = 0 ∧ gdN C tc tn pp w.toNatClampNeg i.toNatClampNeg ∧ (∀ j, j < i.toNatClampNeg + 1 → q35_14 nb j = nv tc tn pp j ∧ okN tc tn pp w.toNatClampNeg j) ∧ (I9_7 68 tk).toInt = (pz tc tn pp (i.toNatClampNeg + 1) : Nat)) ∨ ((I9_7 22 rd).toInt ≠ 0 ∧ ¬ gdN C tc tn pp w.toNatClampNeg i.toNatClampNeg)) := by first | exact Or.inr ⟨by omega, NG⟩ | exact Or.inl ⟨by omega, ⟨hok, hNT, by first | (intro z1 z2; exfalso; omega) | exact fun _ _ => q4.mpr (by assumption)⟩, hall, by show _ = ((tE tc tn (pz tc tn pp i.toNatClampNeg) : Nat) : Int); omega⟩
            exact hret _ _ _ _ _ ⟨_, _, rfl, (FrU.tr (FrU.tr FrU.rf (h4_1.1.u)) (h9_5.1.u)), fun a ha => up_n c35 ha, by omega, HR9⟩ hw dX4_readNumber_136
          · have D98_46 := iEq c98_46 rfl t_4
            refine lv_iload_n hx hb dX4_readNumber_101 rfl (lv_at hl 4 rfl) ?_
            refine lv_iconst (v := 2) hx hb dX4_readNumber_102 (by decide) ?_
            refine lv_icmp_ne (tgt := 136) hx hb dX4_readNumber_103 (by decide) (fun c103_47 => ?_) (fun c103_47 => ?_)
            · have D103_47 := iNe c103_47 rfl t_2
              have HR9 : (((I9_7 22 rd).toInt = 0 ∧ gdN C tc tn pp w.toNatClampNeg i.toNatClampNeg ∧ (∀ j, j < i.toNatClampNeg + 1 → q35_14 nb j = nv tc tn pp j ∧ okN tc tn pp w.toNatClampNeg j) ∧ (I9_7 68 tk).toInt = (pz tc tn pp (i.toNatClampNeg + 1) : Nat)) ∨ ((I9_7 22 rd).toInt ≠ 0 ∧ ¬ gdN C tc tn pp w.toNatClampNeg i.toNatClampNeg)) := by first | exact Or.inr ⟨by omega, NG⟩ | exact Or.inl ⟨by omega, ⟨hok, hNT, by first | (intro z1 z2; exfalso; omega) | exact fun _ _ => q4.mpr (by assumption)⟩, hall, by show _ = ((tE tc tn (pz tc tn pp i.toNatClampNeg) : Nat) : Int); omega⟩
              exact hret _ _ _ _ _ ⟨_, _, rfl, (FrU.tr (FrU.tr FrU.rf (h4_1.1.u)) (h9_5.1.u)), fun a ha => up_n c35 ha, by omega, HR9⟩ hw dX4_readNumber_136
            · have D103_47 := iEq c103_47 rfl t_2
              have hr4 := (rg_of (s := 4) (p := pp) (n := tn) (c := tc) (r := nv tc tn pp) (by decide) (fun j hj => ⟨rfl, by have z := (hall j (by have : telS 4 = 2 := (by decide); omega)).2; rw [show w.toNatClampNeg = 4 by omega] at z; exact z⟩)).2.2.2.2 rfl
              refine lv_aload_n hx hb dX4_readNumber_106 rfl (lv_at hl 2 rfl) ?_
              refine lv_aload_n hx hb dX4_readNumber_107 rfl (lv_at hl 1 rfl) ?_
              refine gf_X4_11 (b := nb) X hw hR.1 hR.2.2.1 dX4_readNumber_108 ?_
              refine lv_iconst (v := 0) hx hb dX4_readNumber_111 (by decide) ?_
              refine q_ldI X hw hR.2.2.2.1 (vinl hR.2.2.2.2.1 (by decide) t_0 (by decide)) dX4_readNumber_112 ?_
              refine lv_topi (fun v112_48 e112_48 => ?_)
              have e112_48 : v112_48 = q35_14 nb ((0 : Int32).toNatClampNeg) := e112_48
              have e112n : v112_48 = nv tc tn pp 0 := (e112_48.trans (by rw [show (0 : Int32).toNatClampNeg = 0 by decide])).trans (hall 0 (by omega)).1
              refine lv_aload_n hx hb dX4_readNumber_113 rfl (lv_at hl 1 rfl) ?_
              refine gf_X4_11 (b := nb) X hw hR.1 hR.2.2.1 dX4_readNumber_114 ?_
              refine lv_iconst (v := 1) hx hb dX4_readNumber_117 (by decide) ?_
              refine q_ldI X hw hR.2.2.2.1 (vinl hR.2.2.2.2.1 (by decide) t_1 (by decide)) dX4_readNumber_118 ?_
              refine lv_topi (fun v118_49 e118_49 => ?_)
              have e118_49 : v118_49 = q35_14 nb ((1 : Int32).toNatClampNeg) := e118_49
              have e118n : v118_49 = nv tc tn pp 1 := (e118_49.trans (by rw [show (1 : Int32).toNatClampNeg = 1 by decide])).trans (hall 1 (by omega)).1
              refine lv_aload_n hx hb dX4_readNumber_119 rfl (lv_at hl 1 rfl) ?_
              refine gf_X4_11 (b := nb) X hw hR.1 hR.2.2.1 dX4_readNumber_120 ?_
              refine lv_iconst (v := 2) hx hb dX4_readNumber_123 (by decide) ?_
              refine q_ldI X hw hR.2.2.2.1 (vinl hR.2.2.2.2.1 (by decide) t_2 (by decide)) dX4_readNumber_124 ?_
              refine lv_topi (fun v124_50 e124_50 => ?_)
              have e124_50 : v124_50 = q35_14 nb ((2 : Int32).toNatClampNeg) := e124_50
              have e124n : v124_50 = nv tc tn pp 2 := (e124_50.trans (by rw [show (2 : Int32).toNatClampNeg = 2 by decide])).trans (hall 2 (by omega)).1
              have q4 : fits (C 4) (nv tc tn pp 0).toNatClampNeg (nv tc tn pp 1).toNatClampNeg (nv tc tn pp 2).toInt ↔ fits (q35_14 (sa 4)) v112_48.toNatClampNeg v118_49.toNatClampNeg v124_50.toInt := by rw [e112n, e118n, e124n]; exact (fits_C (hct.kept (fun j hj => up_n c35 (hnb j hj))) hr4.1 hr4.2.2).symm
              rw [← e112n, ← e118n] at hr4
              refine k_Vi (n := 3) X hw (rcvk (ci := 3) X hw hS.1 (fun _ _ _ _ _ _ _ => ⟨_, rfl⟩) rfl) (c_v_X3_missFits l G _ sa v112_48 v118_49 v124_50 hS (by omega) (by omega)) wd_r16_6 wd_r16_7 wd_r16_8 wd_r2_9 wd_r16_9 ⟨by decide, by decide, by decide +kernel⟩ rfl rfl ⟨Nat.le_of_ble_eq_true rfl, Nat.le_of_ble_eq_true rfl⟩ rfl rfl hl.1 (Nat.le_of_ble_eq_true rfl) dX4_readNumber_125 ⟨Nat.le_of_ble_eq_true rfl, Nat.le_of_ble_eq_true rfl⟩ (fun r125_51 S125_53 H locs h125_52 hw => ?_)
              rcases h125_52 with ⟨rfl, rfl, h125_52⟩ | ⟨rfl, rfl, h125_52⟩
              · have h125_52 := h125_52
                refine lv_if_ne (tgt := 136) hx hb dX4_readNumber_128 (by decide) (fun c128_54 => ?_) (fun c128_54 => absurd c128_54 (by decide))
                have HR9 : (((I9_7 22 rd).toInt = 0 ∧ gdN C tc tn pp w.toNatClampNeg i.toNatClampNeg ∧ (∀ j, j < i.toNatClampNeg + 1 → q35_14 nb j = nv tc tn pp j ∧ okN tc tn pp w.toNatClampNeg j) ∧ (I9_7 68 tk).toInt = (pz tc tn pp (i.toNatClampNeg + 1) : Nat)) ∨ ((I9_7 22 rd).toInt ≠ 0 ∧ ¬ gdN C tc tn pp w.toNatClampNeg i.toNatClampNeg)) := by first | exact Or.inr ⟨by omega, NG⟩ | exact Or.inl ⟨by omega, ⟨hok, hNT, by first | (intro z1 z2; exfalso; omega) | exact fun _ _ => q4.mpr (by assumption)⟩, hall, by show _ = ((tE tc tn (pz tc tn pp i.toNatClampNeg) : Nat) : Int); omega⟩
                exact hret _ _ _ _ _ ⟨_, _, rfl, (FrU.tr (FrU.tr FrU.rf (h4_1.1.u)) (h9_5.1.u)), fun a ha => up_n c35 ha, by omega, HR9⟩ hw dX4_readNumber_136
              · have h125_52 := h125_52
                refine lv_if_ne (tgt := 136) hx hb dX4_readNumber_128 (by decide) (fun c128_55 => absurd c128_55 (by decide)) (fun c128_55 => ?_)
                have NG : ¬ gdN C tc tn pp w.toNatClampNeg i.toNatClampNeg := fun q => absurd (q4.mp (q.2.2 (by omega) (by omega))) (by assumption)
                refine lv_aload_n hx hb dX4_readNumber_131 rfl (lv_at hl 1 rfl) ?_
                refine lv_iconst (v := 5) hx hb dX4_readNumber_132 (by decide) ?_
                refine k_Vv (n := 1) X hw (rcvk (ci := 4) X hw hR.1 (fun _ _ _ _ _ _ _ => ⟨_, rfl⟩) rfl) (c_v_X4_note l G _ rd nb tk tp tb 5 hR) wd_r11_10 wd_r11_11 wd_r11_12 wd_r1_18 wd_r11_13 ⟨by decide, by decide, by decide +kernel⟩ rfl rfl ⟨Nat.le_of_ble_eq_true rfl, Nat.le_of_ble_eq_true rfl⟩ rfl rfl hl.1 (Nat.le_of_ble_eq_true rfl) dX4_readNumber_133 ⟨Nat.le_of_ble_eq_true rfl, Nat.le_of_ble_eq_true rfl⟩ (fun S133_57 H locs h133_56 hw => ?_)
                have := t_5
                obtain ⟨I133_58, rfl, h133_56⟩ := h133_56
                have hw : PX G A s.heap (ch S I133_58 (pJ S) q35_14 (qJ S)) H locs := hw
                have HN : (I133_58 22 rd).toInt = (5 : Int32).toInt := congrArg Int32.toInt h133_56.2
                have g68b : (I133_58 68 tk).toInt = (I9_7 68 tk).toInt := congrArg Int32.toInt (congrFun (h133_56.1 68 (by decide)) tk)
                have HR9 : (((I133_58 22 rd).toInt = 0 ∧ gdN C tc tn pp w.toNatClampNeg i.toNatClampNeg ∧ (∀ j, j < i.toNatClampNeg + 1 → q35_14 nb j = nv tc tn pp j ∧ okN tc tn pp w.toNatClampNeg j) ∧ (I133_58 68 tk).toInt = (pz tc tn pp (i.toNatClampNeg + 1) : Nat)) ∨ ((I133_58 22 rd).toInt ≠ 0 ∧ ¬ gdN C tc tn pp w.toNatClampNeg i.toNatClampNeg)) := by first | exact Or.inr ⟨by omega, NG⟩ | exact Or.inl ⟨by omega, ⟨hok, hNT, by first | (intro z1 z2; exfalso; omega) | exact fun _ _ => q4.mpr (by assumption)⟩, hall, by show _ = ((tE tc tn (pz tc tn pp i.toNatClampNeg) : Nat) : Int); omega⟩
                exact hret _ _ _ _ _ ⟨_, _, rfl, (FrU.tr (FrU.tr (FrU.tr FrU.rf (h4_1.1.u)) (h9_5.1.u)) (h133_56.1.u)), fun a ha => up_n c35 ha, by omega, HR9⟩ hw dX4_readNumber_136
    · have h54_19 := h54_19
      refine lv_if_ne (tgt := 68) hx hb dX4_readNumber_57 (by decide) (fun c57_59 => absurd c57_59 (by decide)) (fun c57_59 => ?_)
      have NG : ¬ gdN C tc tn pp w.toNatClampNeg i.toNatClampNeg := fun q => by have q1 := q.1.2; omega
      refine lv_aload_n hx hb dX4_readNumber_60 rfl (lv_at hl 1 rfl) ?_
      refine lv_iconst (v := 3) hx hb dX4_readNumber_61 (by decide) ?_
      refine k_Vv (n := 1) X hw (rcvk (ci := 4) X hw hR.1 (fun _ _ _ _ _ _ _ => ⟨_, rfl⟩) rfl) (c_v_X4_note l G _ rd nb tk tp tb 3 hR) wd_r11_10 wd_r11_11 wd_r11_12 wd_r1_18 wd_r11_13 ⟨by decide, by decide, by decide +kernel⟩ rfl rfl ⟨Nat.le_of_ble_eq_true rfl, Nat.le_of_ble_eq_true rfl⟩ rfl rfl hl.1 (Nat.le_of_ble_eq_true rfl) dX4_readNumber_62 ⟨Nat.le_of_ble_eq_true rfl, Nat.le_of_ble_eq_true rfl⟩ (fun S62_61 H locs h62_60 hw => ?_)
      have := t_3
      obtain ⟨I62_62, rfl, h62_60⟩ := h62_60
      have hw : PX G A s.heap (ch S I62_62 (pJ S) q35_14 (qJ S)) H locs := hw
      have HN : (I62_62 22 rd).toInt = (3 : Int32).toInt := congrArg Int32.toInt h62_60.2
      have g68b : (I62_62 68 tk).toInt = (I9_7 68 tk).toInt := congrArg Int32.toInt (congrFun (h62_60.1 68 (by decide)) tk)
      refine lv_goto (tgt := 136) hx hb dX4_readNumber_65 (by decide) ?_
      have HR9 : (((I62_62 22 rd).toInt = 0 ∧ gdN C tc tn pp w.toNatClampNeg i.toNatClampNeg ∧ (∀ j, j < i.toNatClampNeg + 1 → q35_14 nb j = nv tc tn pp j ∧ okN tc tn pp w.toNatClampNeg j) ∧ (I62_62 68 tk).toInt = (pz tc tn pp (i.toNatClampNeg + 1) : Nat)) ∨ ((I62_62 22 rd).toInt ≠ 0 ∧ ¬ gdN C tc tn pp w.toNatClampNeg i.toNatClampNeg)) := by first | exact Or.inr ⟨by omega, NG⟩ | exact Or.inl ⟨by omega, ⟨hok, hNT, by first | (intro z1 z2; exfalso; omega) | exact fun _ _ => q4.mpr (by assumption)⟩, hall, by show _ = ((tE tc tn (pz tc tn pp i.toNatClampNeg) : Nat) : Int); omega⟩
      exact hret _ _ _ _ _ ⟨_, _, rfl, (FrU.tr (FrU.tr (FrU.tr FrU.rf (h4_1.1.u)) (h9_5.1.u)) (h62_60.1.u)), fun a ha => up_n c35 ha, by omega, HR9⟩ hw dX4_readNumber_136
  · have D12_8 := iEq c12_8 rfl t_0
    exact hret _ _ _ _ _ ⟨_, _, rfl, (FrU.tr (FrU.tr FrU.rf (h4_1.1.u)) (h9_5.1.u)), fun _ _ => rfl, by omega, Or.inr ⟨by omega, fun q => absurd q.1.1 (by omega)⟩⟩ hw dX4_readNumber_15
