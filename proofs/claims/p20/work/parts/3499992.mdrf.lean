
set_option maxHeartbeats 4000000 in
set_option maxRecDepth 100000 in
theorem c_v_X11_cellHere (l : Launch) (G : Gh) (S : Pl) (ma : Nat → Nat) (hM : shMod S ma) (hp : 0 ≤ (pI S 129 (ma 0)).toInt ∧ (pI S 129 (ma 0)).toInt < 80 ∧ 0 ≤ (pI S 130 (ma 0)).toInt ∧ (pI S 130 (ma 0)).toInt < 80) : MtI l yX11_cellHere cX11_cellHere 1 (some .int) (Rm 0 0 0) G [.ref (ma 0)] S (fun (r : Int32) (S' : Pl) => S = S' ∧ r = cellZ (pI S 129 (ma 0)) (pI S 130 (ma 0)) ∧ 0 ≤ r.toInt ∧ r.toInt ≤ 63) 0 0 := by
  refine MtI.of (by decide) (Nat.le_of_ble_eq_true rfl) ?_
  intro p e s m args below meth c Q A X hw hin hret ls hl
  have hx := X.1.1
  have hb := X.1.2.1
  have hl : lv_has ls 1 [(0, .ref (ma 0))] := hl
  refine lv_aload_n hx hb dX11_cellHere_0 rfl (lv_at hl 0 rfl) ?_
  refine gf_X11_231 (v := (pI S) 130 (ma 0)) X hw hM.1 rfl dX11_cellHere_1 ?_
  refine lv_bipush (v := 10) hx hb dX11_cellHere_4 (by decide) ?_
  refine lv_idiv hx hb dX11_cellHere_6 (by decide) ?_
  refine lv_topi (fun v6_1 e6_1 => ?_)
  have d6 := iDiv10 e6_1 (by omega)
  have e6n := e6_1
  refine lv_bipush (v := 8) hx hb dX11_cellHere_7 (by decide) ?_
  refine lv_imul hx hb dX11_cellHere_9 ?_
  refine lv_topi (fun v9_2 e9_2 => ?_)
  have t9_2 := iMul e9_2 rfl t_8 (by omega) (by omega)
  have t9 := t9_2
  have e9n := e9_2
  refine lv_aload_n hx hb dX11_cellHere_10 rfl (lv_at hl 0 rfl) ?_
  refine gf_X11_234 (v := (pI S) 129 (ma 0)) X hw hM.1 rfl dX11_cellHere_11 ?_
  refine lv_bipush (v := 10) hx hb dX11_cellHere_14 (by decide) ?_
  refine lv_idiv hx hb dX11_cellHere_16 (by decide) ?_
  refine lv_topi (fun v16_3 e16_3 => ?_)
  have d16 := iDiv10 e16_3 (by omega)
  have e16n := e16_3
  refine lv_iadd hx hb dX11_cellHere_17 ?_
  refine lv_topi (fun v17_4 e17_4 => ?_)
  have t17_4 := iAdd e17_4 rfl rfl (by omega) (by omega)
  have t17 := t17_4
  have e17n := e17_4
  exact hret v17_4 _ _ _ _ _ ⟨rfl, by unfold cellZ; rw [e17n, e9n, e6n, e16n], by omega, by omega⟩ hw rfl dX11_cellHere_18
set_option maxHeartbeats 4000000 in
set_option maxRecDepth 100000 in
theorem c_v_X11_isOnLand (l : Launch) (G : Gh) (S : Pl) (ma : Nat → Nat) (bk : Nat) (V : SV) (hM : shMod S ma) (hbk : (pI S 120 (ma 0)).toInt = (bk : Int)) (hbk1 : bk ≤ 1) (hMB : MBk (qI S) ma bk V.2) (hvk : vok V) (hp : 0 ≤ (pI S 129 (ma 0)).toInt ∧ (pI S 129 (ma 0)).toInt < 80 ∧ 0 ≤ (pI S 130 (ma 0)).toInt ∧ (pI S 130 (ma 0)).toInt < 80) : MtI l yX11_isOnLand cX11_isOnLand 1 (some .boolean) (Rm 1 0 0) G [.ref (ma 0)] S (fun (r : Int32) (S' : Pl) => S = S' ∧ r = lnd V.2 (pI S 129 (ma 0)) (pI S 130 (ma 0))) 0 0 := by
  refine MtI.ofN (by decide) (Nat.le_of_ble_eq_true rfl) ?_
  intro p e s m args below meth c Q A X hw hin hret ls hl
  have hx := X.1.1
  have hb := X.1.2.1
  have hl : lv_has ls 1 [(0, .ref (ma 0))] := hl
  refine lv_aload_n hx hb dX11_isOnLand_0 rfl (lv_at hl 0 rfl) ?_
  refine gf_X11_83 (b := (ma 19)) X hw hM.1 (mr_19 hM) dX11_isOnLand_1 ?_
  refine lv_bipush (v := 64) hx hb dX11_isOnLand_4 (by decide) ?_
  refine lv_aload_n hx hb dX11_isOnLand_6 rfl (lv_at hl 0 rfl) ?_
  refine gf_X11_146 (v := (pI S) 120 (ma 0)) X hw hM.1 rfl dX11_isOnLand_7 ?_
  refine lv_imul hx hb dX11_isOnLand_10 ?_
  refine lv_topi (fun v10_1 e10_1 => ?_)
  have t10_1 := iMul e10_1 t_64 rfl (by omega) (by omega)
  have t10 := t10_1
  refine lv_aload_n hx hb dX11_isOnLand_11 rfl (lv_at hl 0 rfl) ?_
  refine k_Vi (n := 0) X hw (rcvk (ci := 11) X hw hM.1 (fun _ _ _ _ _ _ _ => ⟨_, rfl⟩) rfl) (c_v_X11_cellHere l G _ ma hM (px_of (a := ((pI S) 129 (ma 0) : Int32)) (b := ((pI S) 130 (ma 0) : Int32)) rfl rfl (by omega))) wd_r31_11 wd_r31_12 wd_r31_13 wd_r1_5 wd_r31_14 ⟨by decide, by decide, by decide +kernel⟩ rfl rfl ⟨Nat.le_of_ble_eq_true rfl, Nat.le_of_ble_eq_true rfl⟩ rfl rfl hl.1 (Nat.le_of_ble_eq_true rfl) dX11_isOnLand_12 ⟨Nat.le_of_ble_eq_true rfl, Nat.le_of_ble_eq_true rfl⟩ (fun r12_2 S12_4 H locs h12_3 hw => ?_)
  obtain ⟨rfl, h12_3⟩ := h12_3
  have hcz := h12_3.1
  have hcb := h12_3.2
  have hcr := cl_toInt (x := r12_2) (by omega)
  have hcl64 : (cellZ (pI S 129 (ma 0)) (pI S 130 (ma 0))).toNatClampNeg < 64 := by rw [← show r12_2 = cellZ (pI S 129 (ma 0)) (pI S 130 (ma 0)) from hcz]; omega
  have hrz : (r12_2).toNatClampNeg = (cellZ (pI S 129 (ma 0)) (pI S 130 (ma 0))).toNatClampNeg := congrArg Int32.toNatClampNeg hcz
  refine lv_iadd hx hb dX11_isOnLand_15 ?_
  refine lv_topi (fun v15_5 e15_5 => ?_)
  have t15_5 := iAdd e15_5 rfl rfl (by omega) (by omega)
  have t15 := t15_5
  refine q_ldZ X hw (mk_19 hM) (vin (mn_19 hM) (by omega) (by omega)) dX11_isOnLand_16 ?_
  refine lv_topi (fun v16_6 e16_6 => ?_)
  have e16_6 : v16_6 = (qI S) (ma 19) v15_5.toNatClampNeg := e16_6
  have hcc := cl_toInt (x := v15_5) (by omega)
  have hci : (v15_5).toNatClampNeg = 64 * bk + (cellZ (pI S 129 (ma 0)) (pI S 130 (ma 0))).toNatClampNeg := by rw [← hrz]; omega
  have hld : v16_6 = V.2 3 (cellZ (pI S 129 (ma 0)) (pI S 130 (ma 0))).toNatClampNeg := by rw [e16_6, hci]; exact hMB.2.2.2.1 _ hcl64
  exact hret v16_6 (v16_6 &&& 1) _ _ _ _ _ ⟨rfl, lnd_m (by rw [hld]; exact hvk.2.2.2.2.1 _ hcl64) hld⟩ hw rfl dX11_isOnLand_17
set_option maxHeartbeats 4000000 in
set_option maxRecDepth 100000 in
theorem c_v_X11_drift (l : Launch) (G : Gh) (S : Pl) (ma : Nat → Nat) (t n : Int32) (bk : Nat) (V : SV) (P : TP) (hM : shMod S ma) (hI : mInv (pI S) (qI S) ma) (ht : 0 ≤ t.toInt ∧ t.toInt < (pI S 128 (ma 0)).toInt) (hn : 0 ≤ n.toInt ∧ n.toInt ≤ 72) (hbk : (pI S 120 (ma 0)).toInt = (bk : Int)) (hbk1 : bk ≤ 1) (hMB : MBk (qI S) ma bk V.2) (hvk : vok V) (hTP : mTP (qI S) ma t.toNatClampNeg P) : MtV l yX11_drift cX11_drift 6 none (Rm 2 0 0) G [.ref (ma 0), .int t, .int n] S (fun (S' : Pl) => ∃ I', ch S I' (pJ S) (qI S) (qJ S) = S' ∧ FrD (pI S) I' ∧ ((I' 131 (ma 0)).toInt ≠ 2 → 0 ≤ (I' 129 (ma 0)).toInt ∧ (I' 129 (ma 0)).toInt < 80 ∧ 0 ≤ (I' 130 (ma 0)).toInt ∧ (I' 130 (ma 0)).toInt < 80) ∧ mdR I' (ma 0) (drA V.2 P n.toNatClampNeg)) 0 0 := by
  refine MtV.of (by decide) (Nat.le_of_ble_eq_true rfl) ?_
  intro p e s m args below meth c Q A X hw hin hret ls hl
  have hx := X.1.1
  have hb := X.1.2.1
  have hl : lv_has ls 6 [(0, .ref (ma 0)), (1, .int t), (2, .int n)] := hl
  obtain ⟨⟨b1, b2, b3, b4, b5, b6⟩, hT, hP, hC⟩ := id hI
  have tz := mT_at hT (x := t) ht.1 ht.2
  have hr := hTP.r hT ht.1 ht.2
  obtain ⟨hr1, hr2, hr3, hr4⟩ := id hr
  have hch := cl_toInt (x := P.2.2.2.1) hr4.1
  have hck1 := cl_toInt (x := P.1) hr1.1
  have hcn := cl_toInt (x := n) hn.1
  have lp46 : ∀ (Ic46 : Nat → Nat → Int32), (FrD (pI S) Ic46) → ((Ic46 131 (ma 0)).toInt ≠ 2 → 0 ≤ (Ic46 129 (ma 0)).toInt ∧ (Ic46 129 (ma 0)).toInt < 80 ∧ 0 ≤ (Ic46 130 (ma 0)).toInt ∧ (Ic46 130 (ma 0)).toInt < 80) → (Ic46 129 (ma 0) = P.2.1) → (Ic46 130 (ma 0) = P.2.2.1) → ((n.toNatClampNeg < P.2.2.2.1.toNatClampNeg ∧ Ic46 131 (ma 0) = 0) ∨ (P.2.2.2.1.toNatClampNeg ≤ n.toNatClampNeg ∧ Ic46 131 (ma 0) = lnd V.2 P.2.1 P.2.2.1)) → ∀ (H : Heap) (locs : List Loc) (ls : Array Slot), PX G A s.heap (ch S Ic46 (pJ S) (qI S) (qJ S)) H locs → lv_has ls 6 [(0, .ref (ma 0)), (1, .int t), (2, .int n)] → W p l e (Rm 2 0 0) s m args below meth c H locs 0 0 Q (F0 m 46 ls []) := by
    intro Ic46 hF0 hpt0 h29 h30 h31 H locs ls hw hl
    have hbF := FrD.at hF0 (f := 120) (by decide) (ma 0)
    refine lv_aload_n hx hb dX11_drift_46 rfl (lv_at hl 0 rfl) ?_
    refine gf_X11_77 (b := (ma 17)) X hw hM.1 (mr_17 hM) dX11_drift_47 ?_
    refine lv_iconst (v := 4) hx hb dX11_drift_50 (by decide) ?_
    refine lv_aload_n hx hb dX11_drift_51 rfl (lv_at hl 0 rfl) ?_
    refine gf_X11_146 (v := Ic46 120 (ma 0)) X hw hM.1 rfl dX11_drift_52 ?_
    refine lv_imul hx hb dX11_drift_55 ?_
    refine lv_topi (fun v55_1 e55_1 => ?_)
    have t55_1 := iMul e55_1 t_4 rfl (by omega) (by omega)
    have t55 := t55_1
    refine lv_aload_n hx hb dX11_drift_56 rfl (lv_at hl 0 rfl) ?_
    refine gf_X11_90 (b := (ma 24)) X hw hM.1 (mr_24 hM) dX11_drift_57 ?_
    refine lv_iload_n hx hb dX11_drift_60 rfl (lv_at hl 1 rfl) ?_
    refine q_ldI X hw (mk_24 hM) (vin (mn_24 hM) (by omega) (by omega)) dX11_drift_61 ?_
    refine lv_topi (fun v61_2 e61_2 => ?_)
    have e61_2 : v61_2 = (qI S) (ma 24) t.toNatClampNeg := e61_2
    have g61e : v61_2 = P.1 := e61_2.trans hTP.1
    have g61 := congrArg Int32.toInt g61e
    refine lv_iadd hx hb dX11_drift_62 ?_
    refine lv_topi (fun v62_3 e62_3 => ?_)
    have t62_3 := iAdd e62_3 rfl rfl (by omega) (by omega)
    have t62 := t62_3
    refine q_ldI X hw (mk_17 hM) (vin (mn_17 hM) (by omega) (by omega)) dX11_drift_63 ?_
    refine lv_topi (fun v63_4 e63_4 => ?_)
    have e63_4 : v63_4 = (qI S) (ma 17) v62_3.toNatClampNeg := e63_4
    have g63 : v63_4 = stl V.2 2 P.1.toNatClampNeg := by have e9 : (v62_3).toNatClampNeg = 4 * bk + P.1.toNatClampNeg := (by have := cl_toInt (x := v62_3) (by omega); omega); rw [e63_4, e9]; have z9 := hMB.2.2.1 P.1.toNatClampNeg (by omega); unfold stl; rw [if_pos rfl]; by_cases y9 : V.2 2 P.1.toNatClampNeg = -1; (rw [if_pos y9]; exact (z9.1 y9).1); (rw [if_neg y9]; exact (z9.2 y9).1)
    refine lv_istore_n (lv' := [(3, .int v63_4), (0, .ref (ma 0)), (1, .int t), (2, .int n)]) hx hb dX11_drift_64 rfl hl (by decide) rfl (fun ls hl => ?_)
    refine lv_aload_n hx hb dX11_drift_65 rfl (lv_at hl 1 rfl) ?_
    refine gf_X11_99 (b := (ma 27)) X hw hM.1 (mr_27 hM) dX11_drift_66 ?_
    refine lv_iload_n hx hb dX11_drift_69 rfl (lv_at hl 2 rfl) ?_
    refine q_ldI X hw (mk_27 hM) (vin (mn_27 hM) (by omega) (by omega)) dX11_drift_70 ?_
    refine lv_topi (fun v70_5 e70_5 => ?_)
    have e70_5 : v70_5 = (qI S) (ma 27) t.toNatClampNeg := e70_5
    have g70e : v70_5 = P.2.2.2.1 := e70_5.trans hTP.2.2.2.1
    have g70 := congrArg Int32.toInt g70e
    refine lv_istore (lv' := [(4, .int v70_5), (3, .int v63_4), (0, .ref (ma 0)), (1, .int t), (2, .int n)]) hx hb dX11_drift_71 hl (by decide) rfl (fun ls hl => ?_)
    have lp73 : ∀ (N9 : Nat) (I73 : Nat → Nat → Int32) (k : Int32), (FrD (pI S) I73) → ((I73 131 (ma 0)).toInt ≠ 2 → 0 ≤ (I73 129 (ma 0)).toInt ∧ (I73 129 (ma 0)).toInt < 80 ∧ 0 ≤ (I73 130 (ma 0)).toInt ∧ (I73 130 (ma 0)).toInt < 80) → (P.2.2.2.1.toInt ≤ k.toInt ∧ k.toInt ≤ 72) → (mdR I73 (ma 0) (drA V.2 P (if k.toNatClampNeg ≤ n.toNatClampNeg then k.toNatClampNeg else n.toNatClampNeg))) → (72 - k.toInt).toNat < N9 → ∀ (H : Heap) (locs : List Loc) (ls : Array Slot), PX G A s.heap (ch S I73 (pJ S) (qI S) (qJ S)) H locs → lv_has ls 6 [(4, .int k), (3, .int v63_4), (0, .ref (ma 0)), (1, .int t), (2, .int n)] → W p l e (Rm 2 0 0) s m args below meth c H locs 0 0 Q (F0 m 73 ls []) := by
      intro N9
      induction N9 with
      | zero => intro I73 k hF hpt hk hR hm; exact absurd hm (Nat.not_lt_zero _)
      | succ N9 ih73 =>
        intro I73 k hF hpt hk hR hm H locs ls hw hl
        have hbF := FrD.at hF (f := 120) (by decide) (ma 0)
        have hck := cl_toInt (x := k) (by omega)
        refine lv_iload hx hb dX11_drift_73 (lv_at hl 0 rfl) ?_
        refine lv_iload_n hx hb dX11_drift_75 rfl (lv_at hl 4 rfl) ?_
        refine lv_icmp_ge (tgt := 225) hx hb dX11_drift_76 (by decide) (fun c76_6 => ?_) (fun c76_6 => ?_)
        · have D76_6 := iLe c76_6 rfl rfl
          have HFIN : mdR I73 (ma 0) (drA V.2 P n.toNatClampNeg) := by first | exact md_e hR (by omega) | exact md_st hR (by omega) (by omega) (fun q9 => by have := congrArg Int32.toInt q9; have := t_0; omega)
          exact hret _ _ _ _ _ ⟨_, rfl, hF, hpt, HFIN⟩ hw dX11_drift_225
        · have D76_6 := iNle c76_6 rfl rfl
          refine lv_aload_n hx hb dX11_drift_79 rfl (lv_at hl 2 rfl) ?_
          refine gf_X11_240 (v := I73 131 (ma 0)) X hw hM.1 rfl dX11_drift_80 ?_
          refine lv_if_ne (tgt := 225) hx hb dX11_drift_83 (by decide) (fun c83_7 => ?_) (fun c83_7 => ?_)
          · have D83_7 := iNe c83_7 rfl t_0
            have HFIN : mdR I73 (ma 0) (drA V.2 P n.toNatClampNeg) := by first | exact md_e hR (by omega) | exact md_st hR (by omega) (by omega) (fun q9 => by have := congrArg Int32.toInt q9; have := t_0; omega)
            exact hret _ _ _ _ _ ⟨_, rfl, hF, hpt, HFIN⟩ hw dX11_drift_225
          · have D83_7 := iEq c83_7 rfl t_0
            have hS9 := md_get hR (by omega) (Int32.toInt_inj.mp (by have := t_0; omega))
            have lp117 : ∀ (w : Int32), (0 ≤ w.toInt ∧ w.toInt ≤ 3) → (w.toNatClampNeg = (qtr (I73 129 (ma 0)) (I73 130 (ma 0)))) → ∀ (H : Heap) (locs : List Loc) (ls : Array Slot), PX G A s.heap (ch S I73 (pJ S) (qI S) (qJ S)) H locs → lv_has ls 6 [(0, .ref (ma 0)), (1, .int t), (2, .int n), (3, .int v63_4), (4, .int k), (5, .int w)] → W p l e (Rm 2 0 0) s m args below meth c H locs 0 0 Q (F0 m 117 ls []) := by
              intro w hwb hq9 H locs ls hw hl
              refine lv_aload_n hx hb dX11_drift_117 rfl (lv_at hl 0 rfl) ?_
              refine lv_dup hx hb dX11_drift_118 rfl ?_
              refine gf_X11_234 (v := I73 129 (ma 0)) X hw hM.1 rfl dX11_drift_119 ?_
              refine lv_aload_n hx hb dX11_drift_122 rfl (lv_at hl 0 rfl) ?_
              refine lv_iload hx hb dX11_drift_123 (lv_at hl 5 rfl) ?_
              refine lv_iload hx hb dX11_drift_125 (lv_at hl 4 rfl) ?_
              refine lv_iconst (v := 0) hx hb dX11_drift_127 (by decide) ?_
              refine k_Vi (n := 3) X hw (rcvk (ci := 11) X hw hM.1 (fun _ _ _ _ _ _ _ => ⟨_, rfl⟩) rfl) (c_v_X11_streamOf l G _ ma w k 0 bk V hM (show (I73 120 (ma 0) : Int32).toInt = (bk : Int) by omega) hbk1 hMB hvk (by omega) (by omega)) wd_r25_13 wd_r25_14 wd_r25_15 wd_r1_5 wd_r25_16 ⟨by decide, by decide, by decide +kernel⟩ rfl rfl ⟨Nat.le_of_ble_eq_true rfl, Nat.le_of_ble_eq_true rfl⟩ rfl rfl hl.1 (Nat.le_of_ble_eq_true rfl) dX11_drift_128 ⟨Nat.le_of_ble_eq_true rfl, Nat.le_of_ble_eq_true rfl⟩ (fun r128_8 S128_10 H locs h128_9 hw => ?_)
              have := t_0
              obtain ⟨rfl, h128_9⟩ := h128_9
              have hs128 : r128_8 = sr (V.2 (10 + 4 * ((qtr (I73 129 (ma 0)) (I73 130 (ma 0))) + 1) + 3)) (V.2 (10 + 4 * ((qtr (I73 129 (ma 0)) (I73 130 (ma 0))) + 1) + 1)) k.toNatClampNeg := h128_9.trans (by rw [if_pos rfl, hq9])
              refine lv_aload_n hx hb dX11_drift_131 rfl (lv_at hl 0 rfl) ?_
              refine lv_iload hx hb dX11_drift_132 (lv_at hl 4 rfl) ?_
              refine lv_iconst (v := 0) hx hb dX11_drift_134 (by decide) ?_
              refine k_Vi (n := 2) X hw (rcvk (ci := 11) X hw hM.1 (fun _ _ _ _ _ _ _ => ⟨_, rfl⟩) rfl) (c_v_X11_windOf l G _ ma k 0 bk V hM (show (I73 120 (ma 0) : Int32).toInt = (bk : Int) by omega) hbk1 hMB hvk (by omega)) wd_r24_23 wd_r25_0 wd_r25_1 wd_r1_5 wd_r25_2 ⟨by decide, by decide, by decide +kernel⟩ rfl rfl ⟨Nat.le_of_ble_eq_true rfl, Nat.le_of_ble_eq_true rfl⟩ rfl rfl hl.1 (Nat.le_of_ble_eq_true rfl) dX11_drift_135 ⟨Nat.le_of_ble_eq_true rfl, Nat.le_of_ble_eq_true rfl⟩ (fun r135_11 S135_13 H locs h135_12 hw => ?_)
              have := t_0
              obtain ⟨rfl, h135_12⟩ := h135_12
              have hw135 : r135_11 = sr (V.2 13) (V.2 11) k.toNatClampNeg := h135_12.trans (if_pos rfl)
              refine lv_iload_n hx hb dX11_drift_138 rfl (lv_at hl 3 rfl) ?_
              refine lv_imul hx hb dX11_drift_139 ?_
              refine lv_topi (fun v139_14 e139_14 => ?_)
              have e139n := e139_14
              refine lv_bipush (v := 100) hx hb dX11_drift_140 (by decide) ?_
              refine lv_idiv hx hb dX11_drift_142 (by decide) ?_
              refine lv_topi (fun v142_15 e142_15 => ?_)
              have e142n := e142_15
              refine lv_iadd hx hb dX11_drift_143 ?_
              refine lv_topi (fun v143_16 e143_16 => ?_)
              have e143n := e143_16
              refine lv_iadd hx hb dX11_drift_144 ?_
              refine lv_topi (fun v144_17 e144_17 => ?_)
              have hx144 : v144_17 = nxW V.2 P k.toNatClampNeg (I73 129 (ma 0)) (I73 130 (ma 0)) := by unfold nxW stW; rw [e144_17, e143n, e142n, e139n, hs128, hw135, g63]
              refine pf_X11_234 X hw hM.1 dX11_drift_145 (fun H locs hw => ?_)
              have hw : PX G A s.heap (ch S (up2 I73 129 (ma 0) v144_17) (pJ S) (qI S) (qJ S)) H locs := hw
              refine lv_aload_n hx hb dX11_drift_148 rfl (lv_at hl 0 rfl) ?_
              refine lv_dup hx hb dX11_drift_149 rfl ?_
              refine gf_X11_231 (v := I73 130 (ma 0)) X hw hM.1 rfl dX11_drift_150 ?_
              refine lv_aload_n hx hb dX11_drift_153 rfl (lv_at hl 0 rfl) ?_
              refine lv_iload hx hb dX11_drift_154 (lv_at hl 5 rfl) ?_
              refine lv_iload hx hb dX11_drift_156 (lv_at hl 4 rfl) ?_
              refine lv_iconst (v := 1) hx hb dX11_drift_158 (by decide) ?_
              refine k_Vi (n := 3) X hw (rcvk (ci := 11) X hw hM.1 (fun _ _ _ _ _ _ _ => ⟨_, rfl⟩) rfl) (c_v_X11_streamOf l G _ ma w k 1 bk V hM (show (I73 120 (ma 0) : Int32).toInt = (bk : Int) by omega) hbk1 hMB hvk (by omega) (by omega)) wd_r25_13 wd_r25_14 wd_r25_15 wd_r1_5 wd_r25_16 ⟨by decide, by decide, by decide +kernel⟩ rfl rfl ⟨Nat.le_of_ble_eq_true rfl, Nat.le_of_ble_eq_true rfl⟩ rfl rfl hl.1 (Nat.le_of_ble_eq_true rfl) dX11_drift_159 ⟨Nat.le_of_ble_eq_true rfl, Nat.le_of_ble_eq_true rfl⟩ (fun r159_18 S159_20 H locs h159_19 hw => ?_)
              have := t_1
              obtain ⟨rfl, h159_19⟩ := h159_19
              have hs159 : r159_18 = sr (V.2 (10 + 4 * ((qtr (I73 129 (ma 0)) (I73 130 (ma 0))) + 1) + 3)) (V.2 (10 + 4 * ((qtr (I73 129 (ma 0)) (I73 130 (ma 0))) + 1) + 2)) k.toNatClampNeg := h159_19.trans (by rw [if_neg (by decide), hq9])
              refine lv_aload_n hx hb dX11_drift_162 rfl (lv_at hl 0 rfl) ?_
              refine lv_iload hx hb dX11_drift_163 (lv_at hl 4 rfl) ?_
              refine lv_iconst (v := 1) hx hb dX11_drift_165 (by decide) ?_
              refine k_Vi (n := 2) X hw (rcvk (ci := 11) X hw hM.1 (fun _ _ _ _ _ _ _ => ⟨_, rfl⟩) rfl) (c_v_X11_windOf l G _ ma k 1 bk V hM (show (I73 120 (ma 0) : Int32).toInt = (bk : Int) by omega) hbk1 hMB hvk (by omega)) wd_r24_23 wd_r25_0 wd_r25_1 wd_r1_5 wd_r25_2 ⟨by decide, by decide, by decide +kernel⟩ rfl rfl ⟨Nat.le_of_ble_eq_true rfl, Nat.le_of_ble_eq_true rfl⟩ rfl rfl hl.1 (Nat.le_of_ble_eq_true rfl) dX11_drift_166 ⟨Nat.le_of_ble_eq_true rfl, Nat.le_of_ble_eq_true rfl⟩ (fun r166_21 S166_23 H locs h166_22 hw => ?_)
              have := t_1
              obtain ⟨rfl, h166_22⟩ := h166_22
              have hw166 : r166_21 = sr (V.2 13) (V.2 12) k.toNatClampNeg := h166_22.trans (if_neg (by decide))
              refine lv_iload_n hx hb dX11_drift_169 rfl (lv_at hl 3 rfl) ?_
              refine lv_imul hx hb dX11_drift_170 ?_
              refine lv_topi (fun v170_24 e170_24 => ?_)
              have e170n := e170_24
              refine lv_bipush (v := 100) hx hb dX11_drift_171 (by decide) ?_
              refine lv_idiv hx hb dX11_drift_173 (by decide) ?_
              refine lv_topi (fun v173_25 e173_25 => ?_)
              have e173n := e173_25
              refine lv_iadd hx hb dX11_drift_174 ?_
              refine lv_topi (fun v174_26 e174_26 => ?_)
              have e174n := e174_26
              refine lv_iadd hx hb dX11_drift_175 ?_
              refine lv_topi (fun v175_27 e175_27 => ?_)
              have hy175 : v175_27 = nyW V.2 P k.toNatClampNeg (I73 129 (ma 0)) (I73 130 (ma 0)) := by unfold nyW stW; rw [e175_27, e174n, e173n, e170n, hs159, hw166, g63]
              refine pf_X11_231 X hw hM.1 dX11_drift_176 (fun H locs hw => ?_)
              have hw : PX G A s.heap (ch S (up2 (up2 I73 129 (ma 0) v144_17) 130 (ma 0) v175_27) (pJ S) (qI S) (qJ S)) H locs := hw
              refine lv_aload_n hx hb dX11_drift_179 rfl (lv_at hl 0 rfl) ?_
              refine lv_aload_n hx hb dX11_drift_180 rfl (lv_at hl 0 rfl) ?_
              refine gf_X11_234 (v := v144_17) X hw hM.1 (show up2 I73 129 (ma 0) v144_17 129 (ma 0) = v144_17 from up2_s) dX11_drift_181 ?_
              refine k_Si (n := 1) X hw (c_X11_isPoint l G _ v144_17) wd_r29_19 wd_r29_20 wd_r1_5 wd_r29_21 ⟨by decide, by decide, by decide +kernel⟩ rfl rfl ⟨Nat.le_of_ble_eq_true rfl, Nat.le_of_ble_eq_true rfl⟩ rfl rfl hl.1 (Nat.le_of_ble_eq_true rfl) dX11_drift_184 ⟨Nat.le_of_ble_eq_true rfl, Nat.le_of_ble_eq_true rfl⟩ (fun r184_28 S184_30 H locs h184_29 hw => ?_)
              rcases h184_29 with ⟨rfl, rfl, h184_29⟩ | ⟨rfl, rfl, h184_29⟩
              · have h184_29 := h184_29
                refine lv_if_eq (tgt := 200) hx hb dX11_drift_187 (by decide) (fun c187_31 => absurd c187_31 (by decide)) (fun c187_31 => ?_)
                refine lv_aload_n hx hb dX11_drift_190 rfl (lv_at hl 0 rfl) ?_
                refine gf_X11_231 (v := v175_27) X hw hM.1 (show up2 (up2 I73 129 (ma 0) v144_17) 130 (ma 0) v175_27 130 (ma 0) = v175_27 from up2_s) dX11_drift_191 ?_
                refine k_Si (n := 1) X hw (c_X11_isPoint l G _ v175_27) wd_r29_19 wd_r29_20 wd_r1_5 wd_r29_21 ⟨by decide, by decide, by decide +kernel⟩ rfl rfl ⟨Nat.le_of_ble_eq_true rfl, Nat.le_of_ble_eq_true rfl⟩ rfl rfl hl.1 (Nat.le_of_ble_eq_true rfl) dX11_drift_194 ⟨Nat.le_of_ble_eq_true rfl, Nat.le_of_ble_eq_true rfl⟩ (fun r194_32 S194_34 H locs h194_33 hw => ?_)
                rcases h194_33 with ⟨rfl, rfl, h194_33⟩ | ⟨rfl, rfl, h194_33⟩
                · have h194_33 := h194_33
                  refine lv_if_ne (tgt := 204) hx hb dX11_drift_197 (by decide) (fun c197_35 => ?_) (fun c197_35 => absurd c197_35 (by decide))
                  refine lv_aload_n hx hb dX11_drift_204 rfl (lv_at hl 0 rfl) ?_
                  refine k_Vi (n := 0) X hw (rcvk (ci := 11) X hw hM.1 (fun _ _ _ _ _ _ _ => ⟨_, rfl⟩) rfl) (c_v_X11_isOnLand l G _ ma bk V hM (show (I73 120 (ma 0) : Int32).toInt = (bk : Int) by omega) hbk1 hMB hvk (px_of (a := (v144_17 : Int32)) (b := (v175_27 : Int32)) (show up2 I73 129 (ma 0) v144_17 129 (ma 0) = v144_17 from up2_s) (show up2 (up2 I73 129 (ma 0) v144_17) 130 (ma 0) v175_27 130 (ma 0) = v175_27 from up2_s) (by omega))) wd_r31_7 wd_r31_8 wd_r31_9 wd_r1_5 wd_r31_10 ⟨by decide, by decide, by decide +kernel⟩ rfl rfl ⟨Nat.le_of_ble_eq_true rfl, Nat.le_of_ble_eq_true rfl⟩ rfl rfl hl.1 (Nat.le_of_ble_eq_true rfl) dX11_drift_205 ⟨Nat.le_of_ble_eq_true rfl, Nat.le_of_ble_eq_true rfl⟩ (fun r205_36 S205_38 H locs h205_37 hw => ?_)
                  obtain ⟨rfl, h205_37⟩ := h205_37
                  have hL205 : r205_36 = lnd V.2 ((v144_17 : Int32)) ((v175_27 : Int32)) := h205_37.trans (lnd_cg (show up2 I73 129 (ma 0) v144_17 129 (ma 0) = v144_17 from up2_s) (show up2 (up2 I73 129 (ma 0) v144_17) 130 (ma 0) v175_27 130 (ma 0) = v175_27 from up2_s))
                  refine lv_if_eq (tgt := 215) hx hb dX11_drift_208 (by decide) (fun c208_39 => ?_) (fun c208_39 => ?_)
                  · have D208_39 := iEq c208_39 rfl t_0
                    refine lv_iconst (v := 0) hx hb dX11_drift_215 (by decide) ?_
                    refine pf_X11_240 X hw hM.1 dX11_drift_216 (fun H locs hw => ?_)
                    have hw : PX G A s.heap (ch S (up2 (up2 (up2 I73 129 (ma 0) v144_17) 130 (ma 0) v175_27) 131 (ma 0) 0) (pJ S) (qI S) (qJ S)) H locs := hw
                    obtain ⟨v219_40, e219_40⟩ : ∃ y : Int32, y = k + 1 := ⟨_, rfl⟩
                    have t219_40 := iAdd e219_40 rfl t_1 (by omega) (by omega)
                    have t219 := t219_40
                    refine lv_iinc (v := v219_40) (lv' := [(4, .int v219_40), (0, .ref (ma 0)), (1, .int t), (2, .int n), (3, .int v63_4), (5, .int w)]) hx hb dX11_drift_219 hl (k := 4) rfl (by rw [e219_40]; rfl) (by decide) rfl (fun ls hl => ?_)
                    refine lv_goto (tgt := 73) hx hb dX11_drift_222 (by decide) ?_
                    exact ih73 (up2 (up2 (up2 I73 129 (ma 0) v144_17) 130 (ma 0) v175_27) 131 (ma 0) 0) v219_40 (FrD.up (f := 131) (by decide) (FrD.up (f := 130) (by decide) (FrD.up (f := 129) (by decide) hF))) (by rw [show (up2 (up2 (up2 I73 129 (ma 0) v144_17) 130 (ma 0) v175_27) 131 (ma 0) 0) 129 (ma 0) = (v144_17 : Int32) from (show up2 I73 129 (ma 0) v144_17 129 (ma 0) = v144_17 from up2_s), show (up2 (up2 (up2 I73 129 (ma 0) v144_17) 130 (ma 0) v175_27) 131 (ma 0) 0) 130 (ma 0) = (v175_27 : Int32) from (show up2 (up2 I73 129 (ma 0) v144_17) 130 (ma 0) v175_27 130 (ma 0) = v175_27 from up2_s), show (up2 (up2 (up2 I73 129 (ma 0) v144_17) 130 (ma 0) v175_27) 131 (ma 0) 0) 131 (ma 0) = (0 : Int32) from (show up2 (up2 (up2 I73 129 (ma 0) v144_17) 130 (ma 0) v175_27) 131 (ma 0) 0 131 (ma 0) = 0 from up2_s)]; have := t_0; have := t_1; have := t_2; omega) (by omega) (by rw [show (if (v219_40).toNatClampNeg ≤ n.toNatClampNeg then (v219_40).toNatClampNeg else n.toNatClampNeg) = k.toNatClampNeg + 1 from (by have := cl_toInt (x := v219_40) (by omega); split <;> omega)]; first | exact md_off (by omega) hS9 hx144 hy175 (by omega) (show (up2 (up2 (up2 I73 129 (ma 0) v144_17) 130 (ma 0) v175_27) 131 (ma 0) 0) 131 (ma 0) = (0 : Int32) from (show up2 (up2 (up2 I73 129 (ma 0) v144_17) 130 (ma 0) v175_27) 131 (ma 0) 0 131 (ma 0) = 0 from up2_s)) rfl | exact md_on (by omega) hS9 hx144 hy175 (by omega) (show (up2 (up2 (up2 I73 129 (ma 0) v144_17) 130 (ma 0) v175_27) 131 (ma 0) 0) 129 (ma 0) = (v144_17 : Int32) from (show up2 I73 129 (ma 0) v144_17 129 (ma 0) = v144_17 from up2_s)) (show (up2 (up2 (up2 I73 129 (ma 0) v144_17) 130 (ma 0) v175_27) 131 (ma 0) 0) 130 (ma 0) = (v175_27 : Int32) from (show up2 (up2 I73 129 (ma 0) v144_17) 130 (ma 0) v175_27 130 (ma 0) = v175_27 from up2_s)) (show (up2 (up2 (up2 I73 129 (ma 0) v144_17) 130 (ma 0) v175_27) 131 (ma 0) 0) 131 (ma 0) = (0 : Int32) from (show up2 (up2 (up2 I73 129 (ma 0) v144_17) 130 (ma 0) v175_27) 131 (ma 0) 0 131 (ma 0) = 0 from up2_s)) (lnd_1 hL205 (by omega)).symm | exact md_on (by omega) hS9 hx144 hy175 (by omega) (show (up2 (up2 (up2 I73 129 (ma 0) v144_17) 130 (ma 0) v175_27) 131 (ma 0) 0) 129 (ma 0) = (v144_17 : Int32) from (show up2 I73 129 (ma 0) v144_17 129 (ma 0) = v144_17 from up2_s)) (show (up2 (up2 (up2 I73 129 (ma 0) v144_17) 130 (ma 0) v175_27) 131 (ma 0) 0) 130 (ma 0) = (v175_27 : Int32) from (show up2 (up2 I73 129 (ma 0) v144_17) 130 (ma 0) v175_27 130 (ma 0) = v175_27 from up2_s)) (show (up2 (up2 (up2 I73 129 (ma 0) v144_17) 130 (ma 0) v175_27) 131 (ma 0) 0) 131 (ma 0) = (0 : Int32) from (show up2 (up2 (up2 I73 129 (ma 0) v144_17) 130 (ma 0) v175_27) 131 (ma 0) 0 131 (ma 0) = 0 from up2_s)) (lnd_0 hL205 (by omega)).symm) (by omega) _ _ _ hw (lv_sub hl [0, 4, 1, 2, 3] rfl)
                  · have D208_39 := iNe c208_39 rfl t_0
                    refine lv_iconst (v := 1) hx hb dX11_drift_211 (by decide) ?_
                    refine lv_goto (tgt := 216) hx hb dX11_drift_212 (by decide) ?_
                    refine pf_X11_240 X hw hM.1 dX11_drift_216 (fun H locs hw => ?_)
                    have hw : PX G A s.heap (ch S (up2 (up2 (up2 I73 129 (ma 0) v144_17) 130 (ma 0) v175_27) 131 (ma 0) 1) (pJ S) (qI S) (qJ S)) H locs := hw
                    obtain ⟨v219_41, e219_41⟩ : ∃ y : Int32, y = k + 1 := ⟨_, rfl⟩
                    have t219_41 := iAdd e219_41 rfl t_1 (by omega) (by omega)
                    have t219 := t219_41
                    refine lv_iinc (v := v219_41) (lv' := [(4, .int v219_41), (0, .ref (ma 0)), (1, .int t), (2, .int n), (3, .int v63_4), (5, .int w)]) hx hb dX11_drift_219 hl (k := 4) rfl (by rw [e219_41]; rfl) (by decide) rfl (fun ls hl => ?_)
                    refine lv_goto (tgt := 73) hx hb dX11_drift_222 (by decide) ?_
                    exact ih73 (up2 (up2 (up2 I73 129 (ma 0) v144_17) 130 (ma 0) v175_27) 131 (ma 0) 1) v219_41 (FrD.up (f := 131) (by decide) (FrD.up (f := 130) (by decide) (FrD.up (f := 129) (by decide) hF))) (by rw [show (up2 (up2 (up2 I73 129 (ma 0) v144_17) 130 (ma 0) v175_27) 131 (ma 0) 1) 129 (ma 0) = (v144_17 : Int32) from (show up2 I73 129 (ma 0) v144_17 129 (ma 0) = v144_17 from up2_s), show (up2 (up2 (up2 I73 129 (ma 0) v144_17) 130 (ma 0) v175_27) 131 (ma 0) 1) 130 (ma 0) = (v175_27 : Int32) from (show up2 (up2 I73 129 (ma 0) v144_17) 130 (ma 0) v175_27 130 (ma 0) = v175_27 from up2_s), show (up2 (up2 (up2 I73 129 (ma 0) v144_17) 130 (ma 0) v175_27) 131 (ma 0) 1) 131 (ma 0) = (1 : Int32) from (show up2 (up2 (up2 I73 129 (ma 0) v144_17) 130 (ma 0) v175_27) 131 (ma 0) 1 131 (ma 0) = 1 from up2_s)]; have := t_0; have := t_1; have := t_2; omega) (by omega) (by rw [show (if (v219_41).toNatClampNeg ≤ n.toNatClampNeg then (v219_41).toNatClampNeg else n.toNatClampNeg) = k.toNatClampNeg + 1 from (by have := cl_toInt (x := v219_41) (by omega); split <;> omega)]; first | exact md_off (by omega) hS9 hx144 hy175 (by omega) (show (up2 (up2 (up2 I73 129 (ma 0) v144_17) 130 (ma 0) v175_27) 131 (ma 0) 1) 131 (ma 0) = (1 : Int32) from (show up2 (up2 (up2 I73 129 (ma 0) v144_17) 130 (ma 0) v175_27) 131 (ma 0) 1 131 (ma 0) = 1 from up2_s)) rfl | exact md_on (by omega) hS9 hx144 hy175 (by omega) (show (up2 (up2 (up2 I73 129 (ma 0) v144_17) 130 (ma 0) v175_27) 131 (ma 0) 1) 129 (ma 0) = (v144_17 : Int32) from (show up2 I73 129 (ma 0) v144_17 129 (ma 0) = v144_17 from up2_s)) (show (up2 (up2 (up2 I73 129 (ma 0) v144_17) 130 (ma 0) v175_27) 131 (ma 0) 1) 130 (ma 0) = (v175_27 : Int32) from (show up2 (up2 I73 129 (ma 0) v144_17) 130 (ma 0) v175_27 130 (ma 0) = v175_27 from up2_s)) (show (up2 (up2 (up2 I73 129 (ma 0) v144_17) 130 (ma 0) v175_27) 131 (ma 0) 1) 131 (ma 0) = (1 : Int32) from (show up2 (up2 (up2 I73 129 (ma 0) v144_17) 130 (ma 0) v175_27) 131 (ma 0) 1 131 (ma 0) = 1 from up2_s)) (lnd_1 hL205 (by omega)).symm | exact md_on (by omega) hS9 hx144 hy175 (by omega) (show (up2 (up2 (up2 I73 129 (ma 0) v144_17) 130 (ma 0) v175_27) 131 (ma 0) 1) 129 (ma 0) = (v144_17 : Int32) from (show up2 I73 129 (ma 0) v144_17 129 (ma 0) = v144_17 from up2_s)) (show (up2 (up2 (up2 I73 129 (ma 0) v144_17) 130 (ma 0) v175_27) 131 (ma 0) 1) 130 (ma 0) = (v175_27 : Int32) from (show up2 (up2 I73 129 (ma 0) v144_17) 130 (ma 0) v175_27 130 (ma 0) = v175_27 from up2_s)) (show (up2 (up2 (up2 I73 129 (ma 0) v144_17) 130 (ma 0) v175_27) 131 (ma 0) 1) 131 (ma 0) = (1 : Int32) from (show up2 (up2 (up2 I73 129 (ma 0) v144_17) 130 (ma 0) v175_27) 131 (ma 0) 1 131 (ma 0) = 1 from up2_s)) (lnd_0 hL205 (by omega)).symm) (by omega) _ _ _ hw (lv_sub hl [0, 4, 1, 2, 3] rfl)
                · have h194_33 := h194_33
                  refine lv_if_ne (tgt := 204) hx hb dX11_drift_197 (by decide) (fun c197_42 => absurd c197_42 (by decide)) (fun c197_42 => ?_)
                  refine lv_iconst (v := 2) hx hb dX11_drift_200 (by decide) ?_
                  refine lv_goto (tgt := 216) hx hb dX11_drift_201 (by decide) ?_
                  refine pf_X11_240 X hw hM.1 dX11_drift_216 (fun H locs hw => ?_)
                  have hw : PX G A s.heap (ch S (up2 (up2 (up2 I73 129 (ma 0) v144_17) 130 (ma 0) v175_27) 131 (ma 0) 2) (pJ S) (qI S) (qJ S)) H locs := hw
                  obtain ⟨v219_43, e219_43⟩ : ∃ y : Int32, y = k + 1 := ⟨_, rfl⟩
                  have t219_43 := iAdd e219_43 rfl t_1 (by omega) (by omega)
                  have t219 := t219_43
                  refine lv_iinc (v := v219_43) (lv' := [(4, .int v219_43), (0, .ref (ma 0)), (1, .int t), (2, .int n), (3, .int v63_4), (5, .int w)]) hx hb dX11_drift_219 hl (k := 4) rfl (by rw [e219_43]; rfl) (by decide) rfl (fun ls hl => ?_)
                  refine lv_goto (tgt := 73) hx hb dX11_drift_222 (by decide) ?_
                  exact ih73 (up2 (up2 (up2 I73 129 (ma 0) v144_17) 130 (ma 0) v175_27) 131 (ma 0) 2) v219_43 (FrD.up (f := 131) (by decide) (FrD.up (f := 130) (by decide) (FrD.up (f := 129) (by decide) hF))) (by rw [show (up2 (up2 (up2 I73 129 (ma 0) v144_17) 130 (ma 0) v175_27) 131 (ma 0) 2) 129 (ma 0) = (v144_17 : Int32) from (show up2 I73 129 (ma 0) v144_17 129 (ma 0) = v144_17 from up2_s), show (up2 (up2 (up2 I73 129 (ma 0) v144_17) 130 (ma 0) v175_27) 131 (ma 0) 2) 130 (ma 0) = (v175_27 : Int32) from (show up2 (up2 I73 129 (ma 0) v144_17) 130 (ma 0) v175_27 130 (ma 0) = v175_27 from up2_s), show (up2 (up2 (up2 I73 129 (ma 0) v144_17) 130 (ma 0) v175_27) 131 (ma 0) 2) 131 (ma 0) = (2 : Int32) from (show up2 (up2 (up2 I73 129 (ma 0) v144_17) 130 (ma 0) v175_27) 131 (ma 0) 2 131 (ma 0) = 2 from up2_s)]; have := t_0; have := t_1; have := t_2; omega) (by omega) (by rw [show (if (v219_43).toNatClampNeg ≤ n.toNatClampNeg then (v219_43).toNatClampNeg else n.toNatClampNeg) = k.toNatClampNeg + 1 from (by have := cl_toInt (x := v219_43) (by omega); split <;> omega)]; first | exact md_off (by omega) hS9 hx144 hy175 (by omega) (show (up2 (up2 (up2 I73 129 (ma 0) v144_17) 130 (ma 0) v175_27) 131 (ma 0) 2) 131 (ma 0) = (2 : Int32) from (show up2 (up2 (up2 I73 129 (ma 0) v144_17) 130 (ma 0) v175_27) 131 (ma 0) 2 131 (ma 0) = 2 from up2_s)) rfl | exact md_on (by omega) hS9 hx144 hy175 (by omega) (show (up2 (up2 (up2 I73 129 (ma 0) v144_17) 130 (ma 0) v175_27) 131 (ma 0) 2) 129 (ma 0) = (v144_17 : Int32) from (show up2 I73 129 (ma 0) v144_17 129 (ma 0) = v144_17 from up2_s)) (show (up2 (up2 (up2 I73 129 (ma 0) v144_17) 130 (ma 0) v175_27) 131 (ma 0) 2) 130 (ma 0) = (v175_27 : Int32) from (show up2 (up2 I73 129 (ma 0) v144_17) 130 (ma 0) v175_27 130 (ma 0) = v175_27 from up2_s)) (show (up2 (up2 (up2 I73 129 (ma 0) v144_17) 130 (ma 0) v175_27) 131 (ma 0) 2) 131 (ma 0) = (2 : Int32) from (show up2 (up2 (up2 I73 129 (ma 0) v144_17) 130 (ma 0) v175_27) 131 (ma 0) 2 131 (ma 0) = 2 from up2_s)) (lnd_1 hL205 (by omega)).symm | exact md_on (by omega) hS9 hx144 hy175 (by omega) (show (up2 (up2 (up2 I73 129 (ma 0) v144_17) 130 (ma 0) v175_27) 131 (ma 0) 2) 129 (ma 0) = (v144_17 : Int32) from (show up2 I73 129 (ma 0) v144_17 129 (ma 0) = v144_17 from up2_s)) (show (up2 (up2 (up2 I73 129 (ma 0) v144_17) 130 (ma 0) v175_27) 131 (ma 0) 2) 130 (ma 0) = (v175_27 : Int32) from (show up2 (up2 I73 129 (ma 0) v144_17) 130 (ma 0) v175_27 130 (ma 0) = v175_27 from up2_s)) (show (up2 (up2 (up2 I73 129 (ma 0) v144_17) 130 (ma 0) v175_27) 131 (ma 0) 2) 131 (ma 0) = (2 : Int32) from (show up2 (up2 (up2 I73 129 (ma 0) v144_17) 130 (ma 0) v175_27) 131 (ma 0) 2 131 (ma 0) = 2 from up2_s)) (lnd_0 hL205 (by omega)).symm) (by omega) _ _ _ hw (lv_sub hl [0, 4, 1, 2, 3] rfl)
              · have h184_29 := h184_29
                refine lv_if_eq (tgt := 200) hx hb dX11_drift_187 (by decide) (fun c187_44 => ?_) (fun c187_44 => absurd c187_44 (by decide))
                refine lv_iconst (v := 2) hx hb dX11_drift_200 (by decide) ?_
                refine lv_goto (tgt := 216) hx hb dX11_drift_201 (by decide) ?_
                refine pf_X11_240 X hw hM.1 dX11_drift_216 (fun H locs hw => ?_)
                have hw : PX G A s.heap (ch S (up2 (up2 (up2 I73 129 (ma 0) v144_17) 130 (ma 0) v175_27) 131 (ma 0) 2) (pJ S) (qI S) (qJ S)) H locs := hw
                obtain ⟨v219_45, e219_45⟩ : ∃ y : Int32, y = k + 1 := ⟨_, rfl⟩
                have t219_45 := iAdd e219_45 rfl t_1 (by omega) (by omega)
                have t219 := t219_45
                refine lv_iinc (v := v219_45) (lv' := [(4, .int v219_45), (0, .ref (ma 0)), (1, .int t), (2, .int n), (3, .int v63_4), (5, .int w)]) hx hb dX11_drift_219 hl (k := 4) rfl (by rw [e219_45]; rfl) (by decide) rfl (fun ls hl => ?_)
                refine lv_goto (tgt := 73) hx hb dX11_drift_222 (by decide) ?_
                exact ih73 (up2 (up2 (up2 I73 129 (ma 0) v144_17) 130 (ma 0) v175_27) 131 (ma 0) 2) v219_45 (FrD.up (f := 131) (by decide) (FrD.up (f := 130) (by decide) (FrD.up (f := 129) (by decide) hF))) (by rw [show (up2 (up2 (up2 I73 129 (ma 0) v144_17) 130 (ma 0) v175_27) 131 (ma 0) 2) 129 (ma 0) = (v144_17 : Int32) from (show up2 I73 129 (ma 0) v144_17 129 (ma 0) = v144_17 from up2_s), show (up2 (up2 (up2 I73 129 (ma 0) v144_17) 130 (ma 0) v175_27) 131 (ma 0) 2) 130 (ma 0) = (v175_27 : Int32) from (show up2 (up2 I73 129 (ma 0) v144_17) 130 (ma 0) v175_27 130 (ma 0) = v175_27 from up2_s), show (up2 (up2 (up2 I73 129 (ma 0) v144_17) 130 (ma 0) v175_27) 131 (ma 0) 2) 131 (ma 0) = (2 : Int32) from (show up2 (up2 (up2 I73 129 (ma 0) v144_17) 130 (ma 0) v175_27) 131 (ma 0) 2 131 (ma 0) = 2 from up2_s)]; have := t_0; have := t_1; have := t_2; omega) (by omega) (by rw [show (if (v219_45).toNatClampNeg ≤ n.toNatClampNeg then (v219_45).toNatClampNeg else n.toNatClampNeg) = k.toNatClampNeg + 1 from (by have := cl_toInt (x := v219_45) (by omega); split <;> omega)]; first | exact md_off (by omega) hS9 hx144 hy175 (by omega) (show (up2 (up2 (up2 I73 129 (ma 0) v144_17) 130 (ma 0) v175_27) 131 (ma 0) 2) 131 (ma 0) = (2 : Int32) from (show up2 (up2 (up2 I73 129 (ma 0) v144_17) 130 (ma 0) v175_27) 131 (ma 0) 2 131 (ma 0) = 2 from up2_s)) rfl | exact md_on (by omega) hS9 hx144 hy175 (by omega) (show (up2 (up2 (up2 I73 129 (ma 0) v144_17) 130 (ma 0) v175_27) 131 (ma 0) 2) 129 (ma 0) = (v144_17 : Int32) from (show up2 I73 129 (ma 0) v144_17 129 (ma 0) = v144_17 from up2_s)) (show (up2 (up2 (up2 I73 129 (ma 0) v144_17) 130 (ma 0) v175_27) 131 (ma 0) 2) 130 (ma 0) = (v175_27 : Int32) from (show up2 (up2 I73 129 (ma 0) v144_17) 130 (ma 0) v175_27 130 (ma 0) = v175_27 from up2_s)) (show (up2 (up2 (up2 I73 129 (ma 0) v144_17) 130 (ma 0) v175_27) 131 (ma 0) 2) 131 (ma 0) = (2 : Int32) from (show up2 (up2 (up2 I73 129 (ma 0) v144_17) 130 (ma 0) v175_27) 131 (ma 0) 2 131 (ma 0) = 2 from up2_s)) (lnd_1 hL205 (by omega)).symm | exact md_on (by omega) hS9 hx144 hy175 (by omega) (show (up2 (up2 (up2 I73 129 (ma 0) v144_17) 130 (ma 0) v175_27) 131 (ma 0) 2) 129 (ma 0) = (v144_17 : Int32) from (show up2 I73 129 (ma 0) v144_17 129 (ma 0) = v144_17 from up2_s)) (show (up2 (up2 (up2 I73 129 (ma 0) v144_17) 130 (ma 0) v175_27) 131 (ma 0) 2) 130 (ma 0) = (v175_27 : Int32) from (show up2 (up2 I73 129 (ma 0) v144_17) 130 (ma 0) v175_27 130 (ma 0) = v175_27 from up2_s)) (show (up2 (up2 (up2 I73 129 (ma 0) v144_17) 130 (ma 0) v175_27) 131 (ma 0) 2) 131 (ma 0) = (2 : Int32) from (show up2 (up2 (up2 I73 129 (ma 0) v144_17) 130 (ma 0) v175_27) 131 (ma 0) 2 131 (ma 0) = 2 from up2_s)) (lnd_0 hL205 (by omega)).symm) (by omega) _ _ _ hw (lv_sub hl [0, 4, 1, 2, 3] rfl)
            refine lv_aload_n hx hb dX11_drift_86 rfl (lv_at hl 2 rfl) ?_
            refine gf_X11_234 (v := I73 129 (ma 0)) X hw hM.1 rfl dX11_drift_87 ?_
            refine lv_bipush (v := 40) hx hb dX11_drift_90 (by decide) ?_
            refine lv_icmp_ge (tgt := 99) hx hb dX11_drift_92 (by decide) (fun c92_46 => ?_) (fun c92_46 => ?_)
            · have D92_46 := iLe c92_46 t_40 rfl
              refine lv_iconst (v := 1) hx hb dX11_drift_99 (by decide) ?_
              refine lv_aload_n hx hb dX11_drift_100 rfl (lv_at hl 2 rfl) ?_
              refine gf_X11_231 (v := I73 130 (ma 0)) X hw hM.1 rfl dX11_drift_101 ?_
              refine lv_bipush (v := 40) hx hb dX11_drift_104 (by decide) ?_
              refine lv_icmp_ge (tgt := 113) hx hb dX11_drift_106 (by decide) (fun c106_47 => ?_) (fun c106_47 => ?_)
              · have D106_47 := iLe c106_47 t_40 rfl
                refine lv_iconst (v := 2) hx hb dX11_drift_113 (by decide) ?_
                refine lv_iadd hx hb dX11_drift_114 ?_
                refine lv_topi (fun v114_48 e114_48 => ?_)
                have t114_48 := iAdd e114_48 t_1 t_2 (by omega) (by omega)
                have t114 := t114_48
                refine lv_istore (lv' := [(5, .int v114_48), (4, .int k), (3, .int v63_4), (0, .ref (ma 0)), (1, .int t), (2, .int n)]) hx hb dX11_drift_115 hl (by decide) rfl (fun ls hl => ?_)
                exact lp117  v114_48 (by omega) (by have e9 := cl_toInt (x := v114_48) (by omega); unfold qtr; (repeat' split) <;> omega) _ _ _ hw (lv_sub hl [3, 4, 5, 2, 1, 0] rfl)
              · have D106_47 := iNle c106_47 t_40 rfl
                refine lv_iconst (v := 0) hx hb dX11_drift_109 (by decide) ?_
                refine lv_goto (tgt := 114) hx hb dX11_drift_110 (by decide) ?_
                refine lv_iadd hx hb dX11_drift_114 ?_
                refine lv_topi (fun v114_49 e114_49 => ?_)
                have t114_49 := iAdd e114_49 t_1 t_0 (by omega) (by omega)
                have t114 := t114_49
                refine lv_istore (lv' := [(5, .int v114_49), (4, .int k), (3, .int v63_4), (0, .ref (ma 0)), (1, .int t), (2, .int n)]) hx hb dX11_drift_115 hl (by decide) rfl (fun ls hl => ?_)
                exact lp117  v114_49 (by omega) (by have e9 := cl_toInt (x := v114_49) (by omega); unfold qtr; (repeat' split) <;> omega) _ _ _ hw (lv_sub hl [3, 4, 5, 2, 1, 0] rfl)
            · have D92_46 := iNle c92_46 t_40 rfl
              refine lv_iconst (v := 0) hx hb dX11_drift_95 (by decide) ?_
              refine lv_goto (tgt := 100) hx hb dX11_drift_96 (by decide) ?_
              refine lv_aload_n hx hb dX11_drift_100 rfl (lv_at hl 2 rfl) ?_
              refine gf_X11_231 (v := I73 130 (ma 0)) X hw hM.1 rfl dX11_drift_101 ?_
              refine lv_bipush (v := 40) hx hb dX11_drift_104 (by decide) ?_
              refine lv_icmp_ge (tgt := 113) hx hb dX11_drift_106 (by decide) (fun c106_50 => ?_) (fun c106_50 => ?_)
              · have D106_50 := iLe c106_50 t_40 rfl
                refine lv_iconst (v := 2) hx hb dX11_drift_113 (by decide) ?_
                refine lv_iadd hx hb dX11_drift_114 ?_
                refine lv_topi (fun v114_51 e114_51 => ?_)
                have t114_51 := iAdd e114_51 t_0 t_2 (by omega) (by omega)
                have t114 := t114_51
                refine lv_istore (lv' := [(5, .int v114_51), (4, .int k), (3, .int v63_4), (0, .ref (ma 0)), (1, .int t), (2, .int n)]) hx hb dX11_drift_115 hl (by decide) rfl (fun ls hl => ?_)
                exact lp117  v114_51 (by omega) (by have e9 := cl_toInt (x := v114_51) (by omega); unfold qtr; (repeat' split) <;> omega) _ _ _ hw (lv_sub hl [3, 4, 5, 2, 1, 0] rfl)
              · have D106_50 := iNle c106_50 t_40 rfl
                refine lv_iconst (v := 0) hx hb dX11_drift_109 (by decide) ?_
                refine lv_goto (tgt := 114) hx hb dX11_drift_110 (by decide) ?_
                refine lv_iadd hx hb dX11_drift_114 ?_
                refine lv_topi (fun v114_52 e114_52 => ?_)
                have t114_52 := iAdd e114_52 t_0 t_0 (by omega) (by omega)
                have t114 := t114_52
                refine lv_istore (lv' := [(5, .int v114_52), (4, .int k), (3, .int v63_4), (0, .ref (ma 0)), (1, .int t), (2, .int n)]) hx hb dX11_drift_115 hl (by decide) rfl (fun ls hl => ?_)
                exact lp117  v114_52 (by omega) (by have e9 := cl_toInt (x := v114_52) (by omega); unfold qtr; (repeat' split) <;> omega) _ _ _ hw (lv_sub hl [3, 4, 5, 2, 1, 0] rfl)
    exact lp73 _ Ic46 v70_5 hF0 hpt0 (by omega) (md_i h29 h30 rfl (congrArg Int32.toNatClampNeg g70e) h31) (Nat.lt_succ_self _) _ _ _ hw (lv_sub hl [0, 1, 2, 3, 4] rfl)
  refine lv_aload_n hx hb dX11_drift_0 rfl (lv_at hl 0 rfl) ?_
  refine lv_aload_n hx hb dX11_drift_1 rfl (lv_at hl 0 rfl) ?_
  refine gf_X11_93 (b := (ma 25)) X hw hM.1 (mr_25 hM) dX11_drift_2 ?_
  refine lv_iload_n hx hb dX11_drift_5 rfl (lv_at hl 1 rfl) ?_
  refine q_ldI X hw (mk_25 hM) (vin (mn_25 hM) (by omega) (by omega)) dX11_drift_6 ?_
  refine lv_topi (fun v6_53 e6_53 => ?_)
  have e6_53 : v6_53 = (qI S) (ma 25) t.toNatClampNeg := e6_53
  have g6e : v6_53 = P.2.1 := e6_53.trans hTP.2.1
  have g6 := congrArg Int32.toInt g6e
  refine pf_X11_234 X hw hM.1 dX11_drift_7 (fun H locs hw => ?_)
  have hw : PX G A s.heap (ch S (up2 (pI S) 129 (ma 0) v6_53) (pJ S) (qI S) (qJ S)) H locs := hw
  refine lv_aload_n hx hb dX11_drift_10 rfl (lv_at hl 0 rfl) ?_
  refine lv_aload_n hx hb dX11_drift_11 rfl (lv_at hl 0 rfl) ?_
  refine gf_X11_96 (b := (ma 26)) X hw hM.1 (mr_26 hM) dX11_drift_12 ?_
  refine lv_iload_n hx hb dX11_drift_15 rfl (lv_at hl 1 rfl) ?_
  refine q_ldI X hw (mk_26 hM) (vin (mn_26 hM) (by omega) (by omega)) dX11_drift_16 ?_
  refine lv_topi (fun v16_54 e16_54 => ?_)
  have e16_54 : v16_54 = (qI S) (ma 26) t.toNatClampNeg := e16_54
  have g16e : v16_54 = P.2.2.1 := e16_54.trans hTP.2.2.1
  have g16 := congrArg Int32.toInt g16e
  refine pf_X11_231 X hw hM.1 dX11_drift_17 (fun H locs hw => ?_)
  have hw : PX G A s.heap (ch S (up2 (up2 (pI S) 129 (ma 0) v6_53) 130 (ma 0) v16_54) (pJ S) (qI S) (qJ S)) H locs := hw
  refine lv_aload_n hx hb dX11_drift_20 rfl (lv_at hl 0 rfl) ?_
  refine lv_iload_n hx hb dX11_drift_21 rfl (lv_at hl 2 rfl) ?_
  refine lv_aload_n hx hb dX11_drift_22 rfl (lv_at hl 0 rfl) ?_
  refine gf_X11_99 (b := (ma 27)) X hw hM.1 (mr_27 hM) dX11_drift_23 ?_
  refine lv_iload_n hx hb dX11_drift_26 rfl (lv_at hl 1 rfl) ?_
  refine q_ldI X hw (mk_27 hM) (vin (mn_27 hM) (by omega) (by omega)) dX11_drift_27 ?_
  refine lv_topi (fun v27_55 e27_55 => ?_)
  have e27_55 : v27_55 = (qI S) (ma 27) t.toNatClampNeg := e27_55
  have g27e : v27_55 = P.2.2.2.1 := e27_55.trans hTP.2.2.2.1
  have g27 := congrArg Int32.toInt g27e
  refine lv_icmp_lt (tgt := 42) hx hb dX11_drift_28 (by decide) (fun c28_56 => ?_) (fun c28_56 => ?_)
  · have D28_56 := iLt c28_56 rfl rfl
    refine lv_iconst (v := 0) hx hb dX11_drift_42 (by decide) ?_
    refine pf_X11_240 X hw hM.1 dX11_drift_43 (fun H locs hw => ?_)
    have hw : PX G A s.heap (ch S (up2 (up2 (up2 (pI S) 129 (ma 0) v6_53) 130 (ma 0) v16_54) 131 (ma 0) 0) (pJ S) (qI S) (qJ S)) H locs := hw
    exact lp46 (up2 (up2 (up2 (pI S) 129 (ma 0) v6_53) 130 (ma 0) v16_54) 131 (ma 0) 0)  (FrD.up (f := 131) (by decide) (FrD.up (f := 130) (by decide) (FrD.up (f := 129) (by decide) FrD.rf))) (by rw [show (up2 (up2 (up2 (pI S) 129 (ma 0) v6_53) 130 (ma 0) v16_54) 131 (ma 0) 0) 129 (ma 0) = (v6_53 : Int32) from (show up2 (pI S) 129 (ma 0) v6_53 129 (ma 0) = v6_53 from up2_s), show (up2 (up2 (up2 (pI S) 129 (ma 0) v6_53) 130 (ma 0) v16_54) 131 (ma 0) 0) 130 (ma 0) = (v16_54 : Int32) from (show up2 (up2 (pI S) 129 (ma 0) v6_53) 130 (ma 0) v16_54 130 (ma 0) = v16_54 from up2_s), show (up2 (up2 (up2 (pI S) 129 (ma 0) v6_53) 130 (ma 0) v16_54) 131 (ma 0) 0) 131 (ma 0) = (0 : Int32) from (show up2 (up2 (up2 (pI S) 129 (ma 0) v6_53) 130 (ma 0) v16_54) 131 (ma 0) 0 131 (ma 0) = 0 from up2_s)]; have := t_0; have := t_1; have := t_2; omega) ((show (up2 (up2 (up2 (pI S) 129 (ma 0) v6_53) 130 (ma 0) v16_54) 131 (ma 0) 0) 129 (ma 0) = (v6_53 : Int32) from (show up2 (pI S) 129 (ma 0) v6_53 129 (ma 0) = v6_53 from up2_s)).trans g6e) ((show (up2 (up2 (up2 (pI S) 129 (ma 0) v6_53) 130 (ma 0) v16_54) 131 (ma 0) 0) 130 (ma 0) = (v16_54 : Int32) from (show up2 (up2 (pI S) 129 (ma 0) v6_53) 130 (ma 0) v16_54 130 (ma 0) = v16_54 from up2_s)).trans g16e) (by first | exact Or.inl ⟨by omega, (show (up2 (up2 (up2 (pI S) 129 (ma 0) v6_53) 130 (ma 0) v16_54) 131 (ma 0) 0) 131 (ma 0) = (0 : Int32) from (show up2 (up2 (up2 (pI S) 129 (ma 0) v6_53) 130 (ma 0) v16_54) 131 (ma 0) 0 131 (ma 0) = 0 from up2_s))⟩ | exact Or.inr ⟨by omega, (show (up2 (up2 (up2 (pI S) 129 (ma 0) v6_53) 130 (ma 0) v16_54) 131 (ma 0) 0) 131 (ma 0) = (0 : Int32) from (show up2 (up2 (up2 (pI S) 129 (ma 0) v6_53) 130 (ma 0) v16_54) 131 (ma 0) 0 131 (ma 0) = 0 from up2_s)).trans (lnd_1 hL32 (by omega)).symm⟩ | exact Or.inr ⟨by omega, (show (up2 (up2 (up2 (pI S) 129 (ma 0) v6_53) 130 (ma 0) v16_54) 131 (ma 0) 0) 131 (ma 0) = (0 : Int32) from (show up2 (up2 (up2 (pI S) 129 (ma 0) v6_53) 130 (ma 0) v16_54) 131 (ma 0) 0 131 (ma 0) = 0 from up2_s)).trans (lnd_0 hL32 (by omega)).symm⟩) _ _ _ hw (lv_sub hl [0, 1, 2] rfl)
  · have D28_56 := iNlt c28_56 rfl rfl
    refine lv_aload_n hx hb dX11_drift_31 rfl (lv_at hl 0 rfl) ?_
    refine k_Vi (n := 0) X hw (rcvk (ci := 11) X hw hM.1 (fun _ _ _ _ _ _ _ => ⟨_, rfl⟩) rfl) (c_v_X11_isOnLand l G _ ma bk V hM (show ((pI S) 120 (ma 0) : Int32).toInt = (bk : Int) by omega) hbk1 hMB hvk (px_of (a := (v6_53 : Int32)) (b := (v16_54 : Int32)) (show up2 (pI S) 129 (ma 0) v6_53 129 (ma 0) = v6_53 from up2_s) (show up2 (up2 (pI S) 129 (ma 0) v6_53) 130 (ma 0) v16_54 130 (ma 0) = v16_54 from up2_s) (by omega))) wd_r31_7 wd_r31_8 wd_r31_9 wd_r1_5 wd_r31_10 ⟨by decide, by decide, by decide +kernel⟩ rfl rfl ⟨Nat.le_of_ble_eq_true rfl, Nat.le_of_ble_eq_true rfl⟩ rfl rfl hl.1 (Nat.le_of_ble_eq_true rfl) dX11_drift_32 ⟨Nat.le_of_ble_eq_true rfl, Nat.le_of_ble_eq_true rfl⟩ (fun r32_57 S32_59 H locs h32_58 hw => ?_)
    obtain ⟨rfl, h32_58⟩ := h32_58
    have hL32 : r32_57 = lnd V.2 P.2.1 P.2.2.1 := h32_58.trans (lnd_cg ((show (up2 (up2 (pI S) 129 (ma 0) v6_53) 130 (ma 0) v16_54) 129 (ma 0) = (v6_53 : Int32) from (show up2 (pI S) 129 (ma 0) v6_53 129 (ma 0) = v6_53 from up2_s)).trans g6e) ((show (up2 (up2 (pI S) 129 (ma 0) v6_53) 130 (ma 0) v16_54) 130 (ma 0) = (v16_54 : Int32) from (show up2 (up2 (pI S) 129 (ma 0) v6_53) 130 (ma 0) v16_54 130 (ma 0) = v16_54 from up2_s)).trans g16e))
    refine lv_if_eq (tgt := 42) hx hb dX11_drift_35 (by decide) (fun c35_60 => ?_) (fun c35_60 => ?_)
    · have D35_60 := iEq c35_60 rfl t_0
      refine lv_iconst (v := 0) hx hb dX11_drift_42 (by decide) ?_
      refine pf_X11_240 X hw hM.1 dX11_drift_43 (fun H locs hw => ?_)
      have hw : PX G A s.heap (ch S (up2 (up2 (up2 (pI S) 129 (ma 0) v6_53) 130 (ma 0) v16_54) 131 (ma 0) 0) (pJ S) (qI S) (qJ S)) H locs := hw
      exact lp46 (up2 (up2 (up2 (pI S) 129 (ma 0) v6_53) 130 (ma 0) v16_54) 131 (ma 0) 0)  (FrD.up (f := 131) (by decide) (FrD.up (f := 130) (by decide) (FrD.up (f := 129) (by decide) FrD.rf))) (by rw [show (up2 (up2 (up2 (pI S) 129 (ma 0) v6_53) 130 (ma 0) v16_54) 131 (ma 0) 0) 129 (ma 0) = (v6_53 : Int32) from (show up2 (pI S) 129 (ma 0) v6_53 129 (ma 0) = v6_53 from up2_s), show (up2 (up2 (up2 (pI S) 129 (ma 0) v6_53) 130 (ma 0) v16_54) 131 (ma 0) 0) 130 (ma 0) = (v16_54 : Int32) from (show up2 (up2 (pI S) 129 (ma 0) v6_53) 130 (ma 0) v16_54 130 (ma 0) = v16_54 from up2_s), show (up2 (up2 (up2 (pI S) 129 (ma 0) v6_53) 130 (ma 0) v16_54) 131 (ma 0) 0) 131 (ma 0) = (0 : Int32) from (show up2 (up2 (up2 (pI S) 129 (ma 0) v6_53) 130 (ma 0) v16_54) 131 (ma 0) 0 131 (ma 0) = 0 from up2_s)]; have := t_0; have := t_1; have := t_2; omega) ((show (up2 (up2 (up2 (pI S) 129 (ma 0) v6_53) 130 (ma 0) v16_54) 131 (ma 0) 0) 129 (ma 0) = (v6_53 : Int32) from (show up2 (pI S) 129 (ma 0) v6_53 129 (ma 0) = v6_53 from up2_s)).trans g6e) ((show (up2 (up2 (up2 (pI S) 129 (ma 0) v6_53) 130 (ma 0) v16_54) 131 (ma 0) 0) 130 (ma 0) = (v16_54 : Int32) from (show up2 (up2 (pI S) 129 (ma 0) v6_53) 130 (ma 0) v16_54 130 (ma 0) = v16_54 from up2_s)).trans g16e) (by first | exact Or.inl ⟨by omega, (show (up2 (up2 (up2 (pI S) 129 (ma 0) v6_53) 130 (ma 0) v16_54) 131 (ma 0) 0) 131 (ma 0) = (0 : Int32) from (show up2 (up2 (up2 (pI S) 129 (ma 0) v6_53) 130 (ma 0) v16_54) 131 (ma 0) 0 131 (ma 0) = 0 from up2_s))⟩ | exact Or.inr ⟨by omega, (show (up2 (up2 (up2 (pI S) 129 (ma 0) v6_53) 130 (ma 0) v16_54) 131 (ma 0) 0) 131 (ma 0) = (0 : Int32) from (show up2 (up2 (up2 (pI S) 129 (ma 0) v6_53) 130 (ma 0) v16_54) 131 (ma 0) 0 131 (ma 0) = 0 from up2_s)).trans (lnd_1 hL32 (by omega)).symm⟩ | exact Or.inr ⟨by omega, (show (up2 (up2 (up2 (pI S) 129 (ma 0) v6_53) 130 (ma 0) v16_54) 131 (ma 0) 0) 131 (ma 0) = (0 : Int32) from (show up2 (up2 (up2 (pI S) 129 (ma 0) v6_53) 130 (ma 0) v16_54) 131 (ma 0) 0 131 (ma 0) = 0 from up2_s)).trans (lnd_0 hL32 (by omega)).symm⟩) _ _ _ hw (lv_sub hl [0, 1, 2] rfl)
    · have D35_60 := iNe c35_60 rfl t_0
      refine lv_iconst (v := 1) hx hb dX11_drift_38 (by decide) ?_
      refine lv_goto (tgt := 43) hx hb dX11_drift_39 (by decide) ?_
      refine pf_X11_240 X hw hM.1 dX11_drift_43 (fun H locs hw => ?_)
      have hw : PX G A s.heap (ch S (up2 (up2 (up2 (pI S) 129 (ma 0) v6_53) 130 (ma 0) v16_54) 131 (ma 0) 1) (pJ S) (qI S) (qJ S)) H locs := hw
      exact lp46 (up2 (up2 (up2 (pI S) 129 (ma 0) v6_53) 130 (ma 0) v16_54) 131 (ma 0) 1)  (FrD.up (f := 131) (by decide) (FrD.up (f := 130) (by decide) (FrD.up (f := 129) (by decide) FrD.rf))) (by rw [show (up2 (up2 (up2 (pI S) 129 (ma 0) v6_53) 130 (ma 0) v16_54) 131 (ma 0) 1) 129 (ma 0) = (v6_53 : Int32) from (show up2 (pI S) 129 (ma 0) v6_53 129 (ma 0) = v6_53 from up2_s), show (up2 (up2 (up2 (pI S) 129 (ma 0) v6_53) 130 (ma 0) v16_54) 131 (ma 0) 1) 130 (ma 0) = (v16_54 : Int32) from (show up2 (up2 (pI S) 129 (ma 0) v6_53) 130 (ma 0) v16_54 130 (ma 0) = v16_54 from up2_s), show (up2 (up2 (up2 (pI S) 129 (ma 0) v6_53) 130 (ma 0) v16_54) 131 (ma 0) 1) 131 (ma 0) = (1 : Int32) from (show up2 (up2 (up2 (pI S) 129 (ma 0) v6_53) 130 (ma 0) v16_54) 131 (ma 0) 1 131 (ma 0) = 1 from up2_s)]; have := t_0; have := t_1; have := t_2; omega) ((show (up2 (up2 (up2 (pI S) 129 (ma 0) v6_53) 130 (ma 0) v16_54) 131 (ma 0) 1) 129 (ma 0) = (v6_53 : Int32) from (show up2 (pI S) 129 (ma 0) v6_53 129 (ma 0) = v6_53 from up2_s)).trans g6e) ((show (up2 (up2 (up2 (pI S) 129 (ma 0) v6_53) 130 (ma 0) v16_54) 131 (ma 0) 1) 130 (ma 0) = (v16_54 : Int32) from (show up2 (up2 (pI S) 129 (ma 0) v6_53) 130 (ma 0) v16_54 130 (ma 0) = v16_54 from up2_s)).trans g16e) (by first | exact Or.inl ⟨by omega, (show (up2 (up2 (up2 (pI S) 129 (ma 0) v6_53) 130 (ma 0) v16_54) 131 (ma 0) 1) 131 (ma 0) = (1 : Int32) from (show up2 (up2 (up2 (pI S) 129 (ma 0) v6_53) 130 (ma 0) v16_54) 131 (ma 0) 1 131 (ma 0) = 1 from up2_s))⟩ | exact Or.inr ⟨by omega, (show (up2 (up2 (up2 (pI S) 129 (ma 0) v6_53) 130 (ma 0) v16_54) 131 (ma 0) 1) 131 (ma 0) = (1 : Int32) from (show up2 (up2 (up2 (pI S) 129 (ma 0) v6_53) 130 (ma 0) v16_54) 131 (ma 0) 1 131 (ma 0) = 1 from up2_s)).trans (lnd_1 hL32 (by omega)).symm⟩ | exact Or.inr ⟨by omega, (show (up2 (up2 (up2 (pI S) 129 (ma 0) v6_53) 130 (ma 0) v16_54) 131 (ma 0) 1) 131 (ma 0) = (1 : Int32) from (show up2 (up2 (up2 (pI S) 129 (ma 0) v6_53) 130 (ma 0) v16_54) 131 (ma 0) 1 131 (ma 0) = 1 from up2_s)).trans (lnd_0 hL32 (by omega)).symm⟩) _ _ _ hw (lv_sub hl [0, 1, 2] rfl)
set_option maxHeartbeats 4000000 in
set_option maxRecDepth 100000 in
theorem c_v_X11_place (l : Launch) (G : Gh) (S : Pl) (ma : Nat → Nat) (t n : Int32) (bk : Nat) (V : SV) (tl : Nat → TP) (hM : shMod S ma) (hI : mInv (pI S) (qI S) ma) (hbk : (pI S 120 (ma 0)).toInt = (bk : Int)) (hbk1 : bk ≤ 1) (hMB : MBk (qI S) ma bk V.2) (hvk : vok V) (hTl : ∀ k : Nat, (k : Int) < (pI S 128 (ma 0)).toInt → mTP (qI S) ma k (tl k)) : MtI l yX11_place cX11_place 3 (some .int) (Rm 3 0 0) G [.ref (ma 0), .int t, .int n] S (fun (r : Int32) (S' : Pl) => ∃ I', ch S I' (pJ S) (qI S) (qJ S) = S' ∧ FrD (pI S) I' ∧ r = (if (0 ≤ t.toInt ∧ t.toInt < (pI S 128 (ma 0)).toInt) ∧ 0 ≤ n.toInt ∧ n.toInt ≤ 72 then plc (drA V.2 (tl t.toNatClampNeg) n.toNatClampNeg) else -1)) 0 0 := by
  refine MtI.of (by decide) (Nat.le_of_ble_eq_true rfl) ?_
  intro p e s m args below meth c Q A X hw hin hret ls hl
  have hx := X.1.1
  have hb := X.1.2.1
  have hl : lv_has ls 3 [(0, .ref (ma 0)), (1, .int t), (2, .int n)] := hl
  refine lv_aload_n hx hb dX11_place_0 rfl (lv_at hl 0 rfl) ?_
  refine lv_iload_n hx hb dX11_place_1 rfl (lv_at hl 1 rfl) ?_
  refine k_Vi (n := 1) X hw (rcvk (ci := 11) X hw hM.1 (fun _ _ _ _ _ _ _ => ⟨_, rfl⟩) rfl) (c_X11_isTale l G _ ma t hM) wd_r30_20 wd_r30_21 wd_r30_22 wd_r1_5 wd_r30_23 ⟨by decide, by decide, by decide +kernel⟩ rfl rfl ⟨Nat.le_of_ble_eq_true rfl, Nat.le_of_ble_eq_true rfl⟩ rfl rfl hl.1 (Nat.le_of_ble_eq_true rfl) dX11_place_2 ⟨Nat.le_of_ble_eq_true rfl, Nat.le_of_ble_eq_true rfl⟩ (fun r2_1 S2_3 H locs h2_2 hw => ?_)
  rcases h2_2 with ⟨rfl, rfl, h2_2⟩ | ⟨rfl, rfl, h2_2⟩
  · have h2_2 := h2_2
    refine lv_if_eq (tgt := 15) hx hb dX11_place_5 (by decide) (fun c5_4 => absurd c5_4 (by decide)) (fun c5_4 => ?_)
    refine lv_iload_n hx hb dX11_place_8 rfl (lv_at hl 2 rfl) ?_
    refine k_Si (n := 1) X hw (c_X11_isMoment l G _ n) wd_r31_0 wd_r31_1 wd_r1_5 wd_r31_2 ⟨by decide, by decide, by decide +kernel⟩ rfl rfl ⟨Nat.le_of_ble_eq_true rfl, Nat.le_of_ble_eq_true rfl⟩ rfl rfl hl.1 (Nat.le_of_ble_eq_true rfl) dX11_place_9 ⟨Nat.le_of_ble_eq_true rfl, Nat.le_of_ble_eq_true rfl⟩ (fun r9_5 S9_7 H locs h9_6 hw => ?_)
    rcases h9_6 with ⟨rfl, rfl, h9_6⟩ | ⟨rfl, rfl, h9_6⟩
    · have h9_6 := h9_6
      refine lv_if_ne (tgt := 17) hx hb dX11_place_12 (by decide) (fun c12_8 => ?_) (fun c12_8 => absurd c12_8 (by decide))
      refine lv_aload_n hx hb dX11_place_17 rfl (lv_at hl 0 rfl) ?_
      refine lv_iload_n hx hb dX11_place_18 rfl (lv_at hl 1 rfl) ?_
      refine lv_iload_n hx hb dX11_place_19 rfl (lv_at hl 2 rfl) ?_
      refine k_Vv (n := 2) X hw (rcvk (ci := 11) X hw hM.1 (fun _ _ _ _ _ _ _ => ⟨_, rfl⟩) rfl) (c_v_X11_drift l G _ ma t n bk V (tl t.toNatClampNeg) hM (hI.d FrD.rf) (show 0 ≤ t.toInt ∧ t.toInt < ((pI S) 128 (ma 0) : Int32).toInt by omega) (by omega) (show ((pI S) 120 (ma 0) : Int32).toInt = (bk : Int) by omega) hbk1 hMB hvk (hTl _ (by have := cl_toInt (x := t) (by omega); omega))) wd_r31_3 wd_r31_4 wd_r31_5 wd_r1_5 wd_r31_6 ⟨by decide, by decide, by decide +kernel⟩ rfl rfl ⟨Nat.le_of_ble_eq_true rfl, Nat.le_of_ble_eq_true rfl⟩ rfl rfl hl.1 (Nat.le_of_ble_eq_true rfl) dX11_place_20 ⟨Nat.le_of_ble_eq_true rfl, Nat.le_of_ble_eq_true rfl⟩ (fun S20_10 H locs h20_9 hw => ?_)
      obtain ⟨I20_11, rfl, h20_9⟩ := h20_9
      have hw : PX G A s.heap (ch S I20_11 (pJ S) (qI S) (qJ S)) H locs := hw
      have HD := h20_9.2.2
      have HDt := congrArg Int32.toInt HD.1
      refine lv_aload_n hx hb dX11_place_23 rfl (lv_at hl 0 rfl) ?_
      refine gf_X11_240 (v := I20_11 131 (ma 0)) X hw hM.1 rfl dX11_place_24 ?_
      refine lv_iconst (v := 2) hx hb dX11_place_27 (by decide) ?_
      refine lv_icmp_ne (tgt := 35) hx hb dX11_place_28 (by decide) (fun c28_12 => ?_) (fun c28_12 => ?_)
      · have D28_12 := iNe c28_12 rfl t_2
        refine lv_bipush (v := 100) hx hb dX11_place_35 (by decide) ?_
        refine lv_aload_n hx hb dX11_place_37 rfl (lv_at hl 0 rfl) ?_
        refine gf_X11_231 (v := I20_11 130 (ma 0)) X hw hM.1 rfl dX11_place_38 ?_
        refine lv_imul hx hb dX11_place_41 ?_
        refine lv_topi (fun v41_13 e41_13 => ?_)
        have e41n := e41_13
        refine lv_aload_n hx hb dX11_place_42 rfl (lv_at hl 0 rfl) ?_
        refine gf_X11_234 (v := I20_11 129 (ma 0)) X hw hM.1 rfl dX11_place_43 ?_
        refine lv_iadd hx hb dX11_place_46 ?_
        refine lv_topi (fun v46_14 e46_14 => ?_)
        have e46n := e46_14
        exact hret v46_14 _ _ _ _ _ ⟨_, rfl, (FrD.tr FrD.rf h20_9.1), by have n9 : (drA V.2 (tl t.toNatClampNeg) n.toNatClampNeg).2.2.toInt ≠ 2 := (by omega); have z9 := HD.2 (fun q9 => n9 (by rw [q9]; decide)); rw [if_pos (by omega), plc_n n9, e46n, e41n, ← z9.1, ← z9.2, Int32.mul_comm]⟩ hw rfl dX11_place_47
      · have D28_12 := iEq c28_12 rfl t_2
        refine lv_iconst (v := -1) hx hb dX11_place_31 (by decide) ?_
        refine lv_goto (tgt := 47) hx hb dX11_place_32 (by decide) ?_
        exact hret (-1) _ _ _ _ _ ⟨_, rfl, (FrD.tr FrD.rf h20_9.1), by rw [if_pos (by omega)]; exact (plc_2 (by omega)).symm⟩ hw rfl dX11_place_47
    · have h9_6 := h9_6
      refine lv_if_ne (tgt := 17) hx hb dX11_place_12 (by decide) (fun c12_15 => absurd c12_15 (by decide)) (fun c12_15 => ?_)
      refine lv_iconst (v := -1) hx hb dX11_place_15 (by decide) ?_
      exact hret (-1) _ _ _ _ _ ⟨_, rfl, FrD.rf, by rw [if_neg (by omega)]⟩ hw rfl dX11_place_16
  · have h2_2 := h2_2
    refine lv_if_eq (tgt := 15) hx hb dX11_place_5 (by decide) (fun c5_16 => ?_) (fun c5_16 => absurd c5_16 (by decide))
    refine lv_iconst (v := -1) hx hb dX11_place_15 (by decide) ?_
    exact hret (-1) _ _ _ _ _ ⟨_, rfl, FrD.rf, by rw [if_neg (by omega)]⟩ hw rfl dX11_place_16
set_option maxHeartbeats 4000000 in
set_option maxRecDepth 100000 in
theorem c_v_X11_state (l : Launch) (G : Gh) (S : Pl) (ma : Nat → Nat) (t n : Int32) (bk : Nat) (V : SV) (tl : Nat → TP) (hM : shMod S ma) (hI : mInv (pI S) (qI S) ma) (hbk : (pI S 120 (ma 0)).toInt = (bk : Int)) (hbk1 : bk ≤ 1) (hMB : MBk (qI S) ma bk V.2) (hvk : vok V) (hTl : ∀ k : Nat, (k : Int) < (pI S 128 (ma 0)).toInt → mTP (qI S) ma k (tl k)) : MtI l yX11_state cX11_state 3 (some .int) (Rm 3 0 0) G [.ref (ma 0), .int t, .int n] S (fun (r : Int32) (S' : Pl) => ∃ I', ch S I' (pJ S) (qI S) (qJ S) = S' ∧ FrD (pI S) I' ∧ r = (if (0 ≤ t.toInt ∧ t.toInt < (pI S 128 (ma 0)).toInt) ∧ 0 ≤ n.toInt ∧ n.toInt ≤ 72 then (drA V.2 (tl t.toNatClampNeg) n.toNatClampNeg).2.2 else -1)) 0 0 := by
  refine MtI.of (by decide) (Nat.le_of_ble_eq_true rfl) ?_
  intro p e s m args below meth c Q A X hw hin hret ls hl
  have hx := X.1.1
  have hb := X.1.2.1
  have hl : lv_has ls 3 [(0, .ref (ma 0)), (1, .int t), (2, .int n)] := hl
  refine lv_aload_n hx hb dX11_state_0 rfl (lv_at hl 0 rfl) ?_
  refine lv_iload_n hx hb dX11_state_1 rfl (lv_at hl 1 rfl) ?_
  refine k_Vi (n := 1) X hw (rcvk (ci := 11) X hw hM.1 (fun _ _ _ _ _ _ _ => ⟨_, rfl⟩) rfl) (c_X11_isTale l G _ ma t hM) wd_r30_20 wd_r30_21 wd_r30_22 wd_r1_5 wd_r30_23 ⟨by decide, by decide, by decide +kernel⟩ rfl rfl ⟨Nat.le_of_ble_eq_true rfl, Nat.le_of_ble_eq_true rfl⟩ rfl rfl hl.1 (Nat.le_of_ble_eq_true rfl) dX11_state_2 ⟨Nat.le_of_ble_eq_true rfl, Nat.le_of_ble_eq_true rfl⟩ (fun r2_1 S2_3 H locs h2_2 hw => ?_)
  rcases h2_2 with ⟨rfl, rfl, h2_2⟩ | ⟨rfl, rfl, h2_2⟩
  · have h2_2 := h2_2
    refine lv_if_eq (tgt := 15) hx hb dX11_state_5 (by decide) (fun c5_4 => absurd c5_4 (by decide)) (fun c5_4 => ?_)
    refine lv_iload_n hx hb dX11_state_8 rfl (lv_at hl 2 rfl) ?_
    refine k_Si (n := 1) X hw (c_X11_isMoment l G _ n) wd_r31_0 wd_r31_1 wd_r1_5 wd_r31_2 ⟨by decide, by decide, by decide +kernel⟩ rfl rfl ⟨Nat.le_of_ble_eq_true rfl, Nat.le_of_ble_eq_true rfl⟩ rfl rfl hl.1 (Nat.le_of_ble_eq_true rfl) dX11_state_9 ⟨Nat.le_of_ble_eq_true rfl, Nat.le_of_ble_eq_true rfl⟩ (fun r9_5 S9_7 H locs h9_6 hw => ?_)
    rcases h9_6 with ⟨rfl, rfl, h9_6⟩ | ⟨rfl, rfl, h9_6⟩
    · have h9_6 := h9_6
      refine lv_if_ne (tgt := 17) hx hb dX11_state_12 (by decide) (fun c12_8 => ?_) (fun c12_8 => absurd c12_8 (by decide))
      refine lv_aload_n hx hb dX11_state_17 rfl (lv_at hl 0 rfl) ?_
      refine lv_iload_n hx hb dX11_state_18 rfl (lv_at hl 1 rfl) ?_
      refine lv_iload_n hx hb dX11_state_19 rfl (lv_at hl 2 rfl) ?_
      refine k_Vv (n := 2) X hw (rcvk (ci := 11) X hw hM.1 (fun _ _ _ _ _ _ _ => ⟨_, rfl⟩) rfl) (c_v_X11_drift l G _ ma t n bk V (tl t.toNatClampNeg) hM (hI.d FrD.rf) (show 0 ≤ t.toInt ∧ t.toInt < ((pI S) 128 (ma 0) : Int32).toInt by omega) (by omega) (show ((pI S) 120 (ma 0) : Int32).toInt = (bk : Int) by omega) hbk1 hMB hvk (hTl _ (by have := cl_toInt (x := t) (by omega); omega))) wd_r31_3 wd_r31_4 wd_r31_5 wd_r1_5 wd_r31_6 ⟨by decide, by decide, by decide +kernel⟩ rfl rfl ⟨Nat.le_of_ble_eq_true rfl, Nat.le_of_ble_eq_true rfl⟩ rfl rfl hl.1 (Nat.le_of_ble_eq_true rfl) dX11_state_20 ⟨Nat.le_of_ble_eq_true rfl, Nat.le_of_ble_eq_true rfl⟩ (fun S20_10 H locs h20_9 hw => ?_)
      obtain ⟨I20_11, rfl, h20_9⟩ := h20_9
      have hw : PX G A s.heap (ch S I20_11 (pJ S) (qI S) (qJ S)) H locs := hw
      have HD := h20_9.2.2
      have HDt := congrArg Int32.toInt HD.1
      refine lv_aload_n hx hb dX11_state_23 rfl (lv_at hl 0 rfl) ?_
      refine gf_X11_240 (v := I20_11 131 (ma 0)) X hw hM.1 rfl dX11_state_24 ?_
      exact hret (I20_11 131 (ma 0)) _ _ _ _ _ ⟨_, rfl, (FrD.tr FrD.rf h20_9.1), by rw [if_pos (by omega)]; exact HD.1⟩ hw rfl dX11_state_27
    · have h9_6 := h9_6
      refine lv_if_ne (tgt := 17) hx hb dX11_state_12 (by decide) (fun c12_12 => absurd c12_12 (by decide)) (fun c12_12 => ?_)
      refine lv_iconst (v := -1) hx hb dX11_state_15 (by decide) ?_
      exact hret (-1) _ _ _ _ _ ⟨_, rfl, FrD.rf, by rw [if_neg (by omega)]⟩ hw rfl dX11_state_16
  · have h2_2 := h2_2
    refine lv_if_eq (tgt := 15) hx hb dX11_state_5 (by decide) (fun c5_13 => ?_) (fun c5_13 => absurd c5_13 (by decide))
    refine lv_iconst (v := -1) hx hb dX11_state_15 (by decide) ?_
    exact hret (-1) _ _ _ _ _ ⟨_, rfl, FrD.rf, by rw [if_neg (by omega)]⟩ hw rfl dX11_state_16
