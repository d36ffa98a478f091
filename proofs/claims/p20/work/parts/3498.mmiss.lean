
set_option maxHeartbeats 4000000 in
set_option maxRecDepth 100000 in
theorem c_v_X11_readMiss (l : Launch) (G : Gh) (S : Pl) (ma : Nat → Nat) (tc : Nat → Int32) (tn : Nat) (pp bb : Nat) (V : SV) (hM : shMod S ma) (htc : tc = tx (qI S (ma 2)) tn) (hn : (pI S 103 (ma 0)).toInt = (tn : Int)) (hz : tn ≤ 1000) (hpp : pp ≤ tn) (hst : Mst (pI S) (pJ S) (ma 0) tc tn pp True) (hrb : (pI S 121 (ma 0)).toInt = (bb : Int)) (hb1 : bb ≤ 1) (hMB : MBk (qI S) ma bb V.2) (hvk : vok V) (hms : MsOK (qI S (ma 18))) (hE : eM (pI S) (ma 0)) : MtV l yX11_readMiss cX11_readMiss 7 none (Rm 4 0 0) G [.ref (ma 0)] S (fun (S' : Pl) => ∃ I' J' q', ch S I' J' q' (qJ S) = S' ∧ FrM (pI S) I' ∧ FrQ 13 ma (qI S) q' ∧ KeepB (qI S) q' ma bb ∧ MsOK (q' (ma 18)) ∧ Mst I' J' (ma 0) tc tn (pz tc tn pp 3) (GL V.2 tc tn pp 4) ∧ (GL V.2 tc tn pp 4 → MBk q' ma bb (TC V.2 tc tn pp 4)) ∧ eM I' (ma 0)) 0 0 := by
  refine MtV.of (by decide) (Nat.le_of_ble_eq_true rfl) ?_
  intro p e s m args below meth c Q A X hw hin hret ls hl
  have hx := X.1.1
  have hb := X.1.2.1
  have hl : lv_has ls 7 [(0, .ref (ma 0))] := hl
  have hp1 : tE tc tn pp ≤ tn := (tE_le hpp).2
  have hp2 : tE tc tn (tE tc tn pp) ≤ tn := (tE_le hp1).2
  have hp3 : tE tc tn (tE tc tn (tE tc tn pp)) ≤ tn := (tE_le hp2).2
  refine lv_bipush (v := 42) hx hb dX11_readMiss_0 (by decide) ?_
  refine lv_aload_n hx hb dX11_readMiss_2 rfl (lv_at hl 0 rfl) ?_
  refine gf_X11_149 (v := (pI S) 121 (ma 0)) X hw hM.1 rfl dX11_readMiss_3 ?_
  refine lv_imul hx hb dX11_readMiss_6 ?_
  refine lv_topi (fun v6_1 e6_1 => ?_)
  have t6_1 := iMul e6_1 t_42 rfl (by omega) (by omega)
  have t6 := t6_1
  refine lv_bipush (v := 21) hx hb dX11_readMiss_7 (by decide) ?_
  refine lv_aload_n hx hb dX11_readMiss_9 rfl (lv_at hl 0 rfl) ?_
  refine lv_iconst (v := 0) hx hb dX11_readMiss_10 (by decide) ?_
  refine lv_iconst (v := 1) hx hb dX11_readMiss_11 (by decide) ?_
  refine k_Vi (n := 2) X hw (rcvk (ci := 11) X hw hM.1 (fun _ _ _ _ _ _ _ => ⟨_, rfl⟩) rfl) (c_v_X11_numeral l G _ ma tc tn pp _ 0 1 (0) hM htc (FrM.n FrM.rf hn) hz hpp hst (by decide) hE) wd_r22_17 wd_r22_18 wd_r22_19 wd_r1_5 wd_r22_20 ⟨by decide, by decide, by decide +kernel⟩ rfl rfl ⟨Nat.le_of_ble_eq_true rfl, Nat.le_of_ble_eq_true rfl⟩ rfl rfl hl.1 (Nat.le_of_ble_eq_true rfl) dX11_readMiss_12 ⟨Nat.le_of_ble_eq_true rfl, Nat.le_of_ble_eq_true rfl⟩ (fun r12_2 S12_4 H locs h12_3 hw => ?_)
  have := t_0
  have := t_1
  obtain ⟨I12_5, J12_6, rfl, h12_3⟩ := h12_3
  have hw : PX G A s.heap (ch S I12_5 J12_6 (qI S) (qJ S)) H locs := hw
  have hst1 := h12_3.2.1
  have hr1 := h12_3.2.2.1
  have hbd1 := h12_3.2.2.2
  obtain ⟨N1, hN1⟩ : ∃ z : Int32, r12_2 = z := ⟨_, rfl⟩
  have hNt1 := congrArg Int32.toInt hN1
  have h12_3b := congrArg Int32.toInt (FrM.rb (FrM.tr FrM.rf h12_3.1) (ma 0))
  refine lv_imul hx hb dX11_readMiss_15 ?_
  refine lv_topi (fun v15_7 e15_7 => ?_)
  have t15_7 := iMul e15_7 t_21 rfl (by omega) (by omega)
  have t15 := t15_7
  refine lv_iadd hx hb dX11_readMiss_16 ?_
  refine lv_topi (fun v16_8 e16_8 => ?_)
  have t16_8 := iAdd e16_8 rfl rfl (by omega) (by omega)
  have t16 := t16_8
  refine lv_istore_n (lv' := [(1, .int v16_8), (0, .ref (ma 0))]) hx hb dX11_readMiss_17 rfl hl (by decide) rfl (fun ls hl => ?_)
  refine lv_aload_n hx hb dX11_readMiss_18 rfl (lv_at hl 1 rfl) ?_
  refine lv_iconst (v := 1) hx hb dX11_readMiss_19 (by decide) ?_
  refine lv_bipush (v := 20) hx hb dX11_readMiss_20 (by decide) ?_
  refine k_Vi (n := 2) X hw (rcvk (ci := 11) X hw hM.1 (fun _ _ _ _ _ _ _ => ⟨_, rfl⟩) rfl) (c_v_X11_numeral l G _ ma tc tn (tE tc tn pp) _ 1 20 (0) hM htc (FrM.n (FrM.tr FrM.rf h12_3.1) hn) hz hp1 hst1 (by decide) h12_3.2.2.2.2.2) wd_r22_17 wd_r22_18 wd_r22_19 wd_r1_5 wd_r22_20 ⟨by decide, by decide, by decide +kernel⟩ rfl rfl ⟨Nat.le_of_ble_eq_true rfl, Nat.le_of_ble_eq_true rfl⟩ rfl rfl hl.1 (Nat.le_of_ble_eq_true rfl) dX11_readMiss_22 ⟨Nat.le_of_ble_eq_true rfl, Nat.le_of_ble_eq_true rfl⟩ (fun r22_9 S22_11 H locs h22_10 hw => ?_)
  have := t_1
  have := t_20
  obtain ⟨I22_12, J22_13, rfl, h22_10⟩ := h22_10
  have hw : PX G A s.heap (ch S I22_12 J22_13 (qI S) (qJ S)) H locs := hw
  have hst2 := h22_10.2.1
  have hr2 := h22_10.2.2.1
  have hbd2 := h22_10.2.2.2
  obtain ⟨N2, hN2⟩ : ∃ z : Int32, r22_9 = z := ⟨_, rfl⟩
  have hNt2 := congrArg Int32.toInt hN2
  have h22_10b := congrArg Int32.toInt (FrM.rb (FrM.tr (FrM.tr FrM.rf h12_3.1) h22_10.1) (ma 0))
  refine lv_istore_n (lv' := [(2, .int r22_9), (1, .int v16_8), (0, .ref (ma 0))]) hx hb dX11_readMiss_25 rfl hl (by decide) rfl (fun ls hl => ?_)
  have hcl1 := cl_toInt (x := N1) (by omega)
  have hcl2 := cl_toInt (x := N2) (by omega)
  have hlt : 21 * N1.toNatClampNeg + N2.toNatClampNeg < 42 := by omega
  have lp48 : ∀ (Ic48 : Nat → Nat → Int32), (FrM (pI S) Ic48) → (eM Ic48 (ma 0)) → (Mst Ic48 J22_13 (ma 0) tc tn (tE tc tn (tE tc tn pp)) (((True ∧ gN tc tn pp 0 1) ∧ gN tc tn (tE tc tn pp) 1 20) ∧ ¬ told V.2 4 (nv tc tn pp 0).toNatClampNeg (nv tc tn pp 1).toNatClampNeg)) → ∀ (H : Heap) (locs : List Loc) (ls : Array Slot), PX G A s.heap (ch S Ic48 J22_13 (qI S) (qJ S)) H locs → lv_has ls 7 [(0, .ref (ma 0)), (1, .int v16_8), (2, .int r22_9)] → W p l e (Rm 4 0 0) s m args below meth c H locs 0 0 Q (F0 m 48 ls []) := by
    intro Ic48 hF hE1 hst3 H locs ls hw hl
    have hbb9 := congrArg Int32.toInt (FrM.rb hF (ma 0))
    refine lv_aload_n hx hb dX11_readMiss_48 rfl (lv_at hl 0 rfl) ?_
    refine lv_iconst (v := 0) hx hb dX11_readMiss_49 (by decide) ?_
    refine lv_bipush (v := 100) hx hb dX11_readMiss_50 (by decide) ?_
    refine k_Vi (n := 2) X hw (rcvk (ci := 11) X hw hM.1 (fun _ _ _ _ _ _ _ => ⟨_, rfl⟩) rfl) (c_v_X11_numeral l G _ ma tc tn (tE tc tn (tE tc tn pp)) _ 0 100 (0) hM htc (FrM.n hF hn) hz hp2 hst3 (by decide) hE1) wd_r22_17 wd_r22_18 wd_r22_19 wd_r1_5 wd_r22_20 ⟨by decide, by decide, by decide +kernel⟩ rfl rfl ⟨Nat.le_of_ble_eq_true rfl, Nat.le_of_ble_eq_true rfl⟩ rfl rfl hl.1 (Nat.le_of_ble_eq_true rfl) dX11_readMiss_52 ⟨Nat.le_of_ble_eq_true rfl, Nat.le_of_ble_eq_true rfl⟩ (fun r52_14 S52_16 H locs h52_15 hw => ?_)
    have := t_0
    have := t_100
    obtain ⟨I52_17, J52_18, rfl, h52_15⟩ := h52_15
    have hw : PX G A s.heap (ch S I52_17 J52_18 (qI S) (qJ S)) H locs := hw
    have hst4 := h52_15.2.1
    have hr4 := h52_15.2.2.1
    have hbd4 := h52_15.2.2.2
    obtain ⟨N4, hN4⟩ : ∃ z : Int32, r52_14 = z := ⟨_, rfl⟩
    have hNt4 := congrArg Int32.toInt hN4
    have h52_15b := congrArg Int32.toInt (FrM.rb (FrM.tr hF h52_15.1) (ma 0))
    refine lv_istore_n (lv' := [(3, .int r52_14), (0, .ref (ma 0)), (1, .int v16_8), (2, .int r22_9)]) hx hb dX11_readMiss_55 rfl hl (by decide) rfl (fun ls hl => ?_)
    refine lv_aload_n hx hb dX11_readMiss_56 rfl (lv_at hl 1 rfl) ?_
    refine k_Vi (n := 0) X hw (rcvk (ci := 11) X hw hM.1 (fun _ _ _ _ _ _ _ => ⟨_, rfl⟩) rfl) (c_X11_isGood l G _ ma hM) wd_r21_12 wd_r21_13 wd_r21_14 wd_r1_5 wd_r21_15 ⟨by decide, by decide, by decide +kernel⟩ rfl rfl ⟨Nat.le_of_ble_eq_true rfl, Nat.le_of_ble_eq_true rfl⟩ rfl rfl hl.1 (Nat.le_of_ble_eq_true rfl) dX11_readMiss_57 ⟨Nat.le_of_ble_eq_true rfl, Nat.le_of_ble_eq_true rfl⟩ (fun r57_19 S57_21 H locs h57_20 hw => ?_)
    rcases h57_20 with ⟨rfl, rfl, h57_20⟩ | ⟨rfl, rfl, h57_20⟩
    · have h57_20 : (I52_17 104 (ma 0) : Int32).toInt = 0 := h57_20
      refine lv_if_ne (tgt := 64) hx hb dX11_readMiss_60 (by decide) (fun c60_22 => ?_) (fun c60_22 => absurd c60_22 (by decide))
      have hg4 := (hst4.ok (by omega)).1
      have hq1 : N1 = nv tc tn pp 0 := hN1.symm.trans (hr1 (hst1.i.mpr hg4.1.1.1))
      have hq2 : N2 = nv tc tn pp 1 := hN2.symm.trans (hr2 (hst2.i.mpr hg4.1.1))
      have hq4 : N4 = nv tc tn pp 2 := hN4.symm.trans (hr4 (hst4.i.mpr hg4))
      have hq4t : r52_14.toInt = (nv tc tn pp 2).toInt := congrArg Int32.toInt (hN4.trans hq4)
      have hq2t := congrArg Int32.toInt hq2
      have hge2 : (1 : Int32).toInt ≤ (tV tc tn (tE tc tn pp)).toInt := hg4.1.1.2.2.1
      have hge3 : 1 ≤ N2.toInt := by have z9 : (nv tc tn pp 1).toInt = (tV tc tn (tE tc tn pp)).toInt := rfl; have := t_1; omega
      have lp183 : ∀ (Ic183 : Nat → Nat → Int32), (FrM (pI S) Ic183) → (eM Ic183 (ma 0)) → (Mst Ic183 J52_18 (ma 0) tc tn (tE tc tn (tE tc tn (tE tc tn pp))) (GL V.2 tc tn pp 4)) → ∀ (H : Heap) (locs : List Loc) (ls : Array Slot), PX G A s.heap (ch S Ic183 J52_18 (qI S) (qJ S)) H locs → lv_has ls 7 [(0, .ref (ma 0)), (1, .int v16_8), (2, .int r22_9), (3, .int r52_14)] → W p l e (Rm 4 0 0) s m args below meth c H locs 0 0 Q (F0 m 183 ls []) := by
        intro Ic183 hF hE1 hst5 H locs ls hw hl
        refine lv_aload_n hx hb dX11_readMiss_183 rfl (lv_at hl 0 rfl) ?_
        refine gf_X11_80 (b := (ma 18)) X hw hM.1 (mr_18 hM) dX11_readMiss_184 ?_
        refine lv_iload_n hx hb dX11_readMiss_187 rfl (lv_at hl 1 rfl) ?_
        refine lv_iload_n hx hb dX11_readMiss_188 rfl (lv_at hl 2 rfl) ?_
        refine lv_iadd hx hb dX11_readMiss_189 ?_
        refine lv_topi (fun v189_23 e189_23 => ?_)
        have t189_23 := iAdd e189_23 rfl rfl (by omega) (by omega)
        have t189 := t189_23
        have hcl9 := cl_toInt (x := v189_23) (by omega)
        have hix9 : v189_23.toNatClampNeg = 42 * bb + (21 * N1.toNatClampNeg + N2.toNatClampNeg) := by omega
        refine lv_iload_n hx hb dX11_readMiss_190 rfl (lv_at hl 3 rfl) ?_
        refine q_stI X hw (mk_18 hM) (vin (mn_18 hM) (by omega) (by omega)) dX11_readMiss_191 (fun H locs hw => ?_)
        obtain ⟨q191_24, eq191_24, hw⟩ : ∃ zz9, zz9 = va_up (qI S) (ma 18) (upd ((qI S) (ma 18)) v189_23.toNatClampNeg r52_14) ∧ PX G A s.heap (ch S Ic183 J52_18 zz9 (qJ S)) H locs := ⟨_, rfl, hw⟩
        have c191 := eq191_24
        have HMB : GL V.2 tc tn pp 4 → MBk q191_24 ma bb (TC V.2 tc tn pp 4) := fun _ => by have z := MBk.m hMB hM (nn1 (by omega)) hix9 c191; rw [hq1, hq2, hN4.trans hq4] at z; exact z
        exact hret _ _ _ _ _ ⟨_, _, _, rfl, hF, (FrQ.ez eq191_24 (FrQ.up (j := 18) (by decide) (by decide) FrQ.rf)), (KeepB.up (j := 18) hM (by decide) c191 (by show 42 * bb ≤ _ ∧ _ < 42 * (bb + 1); rw [hix9]; omega)), (by rw [c191, vu_s]; exact MsOK_upd hms (Or.inr (by omega))), hst5, HMB, hE1⟩ hw dX11_readMiss_192
      refine lv_bipush (v := 100) hx hb dX11_readMiss_64 (by decide) ?_
      refine lv_istore (lv' := [(4, .int 100), (3, .int r52_14), (0, .ref (ma 0)), (1, .int v16_8), (2, .int r22_9)]) hx hb dX11_readMiss_66 hl (by decide) rfl (fun ls hl => ?_)
      refine lv_iconst (v := 1) hx hb dX11_readMiss_68 (by decide) ?_
      refine lv_istore (lv' := [(5, .int 1), (4, .int 100), (3, .int r52_14), (0, .ref (ma 0)), (1, .int v16_8), (2, .int r22_9)]) hx hb dX11_readMiss_69 hl (by decide) rfl (fun ls hl => ?_)
      have lp71 : ∀ (N9 : Nat) (mo : Int32) (k : Int32), (1 ≤ k.toInt ∧ k.toInt ≤ N2.toInt) → (mwL (fun j => V.2 4 (21 * N1.toNatClampNeg + j)) k.toNatClampNeg mo.toInt) → (21 - k.toInt).toNat < N9 → ∀ (H : Heap) (locs : List Loc) (ls : Array Slot), PX G A s.heap (ch S I52_17 J52_18 (qI S) (qJ S)) H locs → lv_has ls 7 [(5, .int k), (4, .int mo), (3, .int r52_14), (0, .ref (ma 0)), (1, .int v16_8), (2, .int r22_9)] → W p l e (Rm 4 0 0) s m args below meth c H locs 0 0 Q (F0 m 71 ls []) := by
        intro N9
        induction N9 with
        | zero => intro mo k hk hmo hm; exact absurd hm (Nat.not_lt_zero _)
        | succ N9 ih71 =>
          intro mo k hk hmo hm H locs ls hw hl
          refine lv_iload hx hb dX11_readMiss_71 (lv_at hl 0 rfl) ?_
          refine lv_iload_n hx hb dX11_readMiss_73 rfl (lv_at hl 5 rfl) ?_
          refine lv_icmp_ge (tgt := 113) hx hb dX11_readMiss_74 (by decide) (fun c74_25 => ?_) (fun c74_25 => ?_)
          · have D74_25 := iLe c74_25 rfl rfl
            have HL9 : mwL (fun j => V.2 4 (21 * N1.toNatClampNeg + j)) N2.toNatClampNeg mo.toInt := by have e9 : k.toNatClampNeg = N2.toNatClampNeg := (by have := cl_toInt (x := k) (by omega); omega); rw [← e9]; exact hmo
            refine lv_iconst (v := 0) hx hb dX11_readMiss_113 (by decide) ?_
            refine lv_istore (lv' := [(5, .int 0), (4, .int mo), (3, .int r52_14), (0, .ref (ma 0)), (1, .int v16_8), (2, .int r22_9)]) hx hb dX11_readMiss_114 hl (by decide) rfl (fun ls hl => ?_)
            refine lv_bipush (v := 20) hx hb dX11_readMiss_116 (by decide) ?_
            refine lv_istore (lv' := [(6, .int 20), (5, .int 0), (4, .int mo), (3, .int r52_14), (0, .ref (ma 0)), (1, .int v16_8), (2, .int r22_9)]) hx hb dX11_readMiss_118 hl (by decide) rfl (fun ls hl => ?_)
            have lp120 : ∀ (N9 : Nat) (le : Int32) (k : Int32), (0 ≤ k.toInt ∧ k.toInt ≤ 20 ∧ N2.toInt ≤ k.toInt) → (mwG (fun j => V.2 4 (21 * N1.toNatClampNeg + j)) k.toNatClampNeg le.toInt) → k.toInt.toNat < N9 → ∀ (H : Heap) (locs : List Loc) (ls : Array Slot), PX G A s.heap (ch S I52_17 J52_18 (qI S) (qJ S)) H locs → lv_has ls 7 [(6, .int k), (5, .int le), (4, .int mo), (3, .int r52_14), (0, .ref (ma 0)), (1, .int v16_8), (2, .int r22_9)] → W p l e (Rm 4 0 0) s m args below meth c H locs 0 0 Q (F0 m 120 ls []) := by
              intro N9
              induction N9 with
              | zero => intro le k hk hle hm; exact absurd hm (Nat.not_lt_zero _)
              | succ N9 ih120 =>
                intro le k hk hle hm H locs ls hw hl
                refine lv_iload hx hb dX11_readMiss_120 (lv_at hl 0 rfl) ?_
                refine lv_iload_n hx hb dX11_readMiss_122 rfl (lv_at hl 6 rfl) ?_
                refine lv_icmp_le (tgt := 162) hx hb dX11_readMiss_123 (by decide) (fun c123_26 => ?_) (fun c123_26 => ?_)
                · have D123_26 := iLe c123_26 rfl rfl
                  have HG9 : mwG (fun j => V.2 4 (21 * N1.toNatClampNeg + j)) N2.toNatClampNeg le.toInt := by have e9 : k.toNatClampNeg = N2.toNatClampNeg := (by have := cl_toInt (x := k) (by omega); omega); rw [← e9]; exact hle
                  have hfit : (r52_14.toInt ≤ mo.toInt ∧ le.toInt ≤ r52_14.toInt) ↔ fits (V.2 4) (nv tc tn pp 0).toNatClampNeg (nv tc tn pp 1).toNatClampNeg (nv tc tn pp 2).toInt := by rw [← hq1, ← hq2, ← hq4t]; exact mw_fits hvk (by omega) (by omega) (by omega) HL9 HG9
                  refine lv_iload_n hx hb dX11_readMiss_162 rfl (lv_at hl 3 rfl) ?_
                  refine lv_iload hx hb dX11_readMiss_163 (lv_at hl 2 rfl) ?_
                  refine lv_icmp_gt (tgt := 174) hx hb dX11_readMiss_165 (by decide) (fun c165_27 => ?_) (fun c165_27 => ?_)
                  · have D165_27 := iLt c165_27 rfl rfl
                    refine lv_aload_n hx hb dX11_readMiss_174 rfl (lv_at hl 4 rfl) ?_
                    refine lv_iconst (v := 5) hx hb dX11_readMiss_175 (by decide) ?_
                    refine lv_aload_n hx hb dX11_readMiss_176 rfl (lv_at hl 4 rfl) ?_
                    refine gf_X11_162 (v := I52_17 122 (ma 0)) X hw hM.1 rfl dX11_readMiss_177 ?_
                    refine k_Vv (n := 2) X hw (rcvk (ci := 11) X hw hM.1 (fun _ _ _ _ _ _ _ => ⟨_, rfl⟩) rfl) (c_X11_fails l G _ ma 5 (I52_17 122 (ma 0)) hM (by decide)) wd_r22_9 wd_r22_10 wd_r22_11 wd_r1_5 wd_r22_12 ⟨by decide, by decide, by decide +kernel⟩ rfl rfl ⟨Nat.le_of_ble_eq_true rfl, Nat.le_of_ble_eq_true rfl⟩ rfl rfl hl.1 (Nat.le_of_ble_eq_true rfl) dX11_readMiss_180 ⟨Nat.le_of_ble_eq_true rfl, Nat.le_of_ble_eq_true rfl⟩ (fun S180_29 H locs h180_28 hw => ?_)
                    have := t_5
                    obtain ⟨I180_30, rfl, h180_28⟩ := h180_28
                    have hw : PX G A s.heap (ch S I180_30 J52_18 (qI S) (qJ S)) H locs := hw
                    have HFL : (I180_30 104 (ma 0)).toInt ≠ 0 := h180_28.2
                    exact lp183 I180_30  (FrM.tr (FrM.tr hF h52_15.1) (h180_28.1.m)) (FrF.e h180_28.1 h52_15.2.2.2.2.2) (by first | exact Or.inl ⟨(by omega), GL_4.mp ⟨hg4, hfit.mp (by omega)⟩, (hst4.ok (by omega)).2⟩ | exact Or.inr ⟨HFL, fun q => by have z9 := hfit.mpr (GL_4.mpr q).2; omega⟩) _ _ _ hw (lv_sub hl [4, 5, 6, 3] rfl)
                  · have D165_27 := iNlt c165_27 rfl rfl
                    refine lv_iload_n hx hb dX11_readMiss_168 rfl (lv_at hl 3 rfl) ?_
                    refine lv_iload hx hb dX11_readMiss_169 (lv_at hl 1 rfl) ?_
                    refine lv_icmp_ge (tgt := 183) hx hb dX11_readMiss_171 (by decide) (fun c171_31 => ?_) (fun c171_31 => ?_)
                    · have D171_31 := iLe c171_31 rfl rfl
                      exact lp183 I52_17  (FrM.tr hF h52_15.1) h52_15.2.2.2.2.2 (by first | exact Or.inl ⟨(by omega), GL_4.mp ⟨hg4, hfit.mp (by omega)⟩, (hst4.ok (by omega)).2⟩ | exact Or.inr ⟨HFL, fun q => by have z9 := hfit.mpr (GL_4.mpr q).2; omega⟩) _ _ _ hw (lv_sub hl [4, 5, 6, 3] rfl)
                    · have D171_31 := iNle c171_31 rfl rfl
                      refine lv_aload_n hx hb dX11_readMiss_174 rfl (lv_at hl 4 rfl) ?_
                      refine lv_iconst (v := 5) hx hb dX11_readMiss_175 (by decide) ?_
                      refine lv_aload_n hx hb dX11_readMiss_176 rfl (lv_at hl 4 rfl) ?_
                      refine gf_X11_162 (v := I52_17 122 (ma 0)) X hw hM.1 rfl dX11_readMiss_177 ?_
                      refine k_Vv (n := 2) X hw (rcvk (ci := 11) X hw hM.1 (fun _ _ _ _ _ _ _ => ⟨_, rfl⟩) rfl) (c_X11_fails l G _ ma 5 (I52_17 122 (ma 0)) hM (by decide)) wd_r22_9 wd_r22_10 wd_r22_11 wd_r1_5 wd_r22_12 ⟨by decide, by decide, by decide +kernel⟩ rfl rfl ⟨Nat.le_of_ble_eq_true rfl, Nat.le_of_ble_eq_true rfl⟩ rfl rfl hl.1 (Nat.le_of_ble_eq_true rfl) dX11_readMiss_180 ⟨Nat.le_of_ble_eq_true rfl, Nat.le_of_ble_eq_true rfl⟩ (fun S180_33 H locs h180_32 hw => ?_)
                      have := t_5
                      obtain ⟨I180_34, rfl, h180_32⟩ := h180_32
                      have hw : PX G A s.heap (ch S I180_34 J52_18 (qI S) (qJ S)) H locs := hw
                      have HFL : (I180_34 104 (ma 0)).toInt ≠ 0 := h180_32.2
                      exact lp183 I180_34  (FrM.tr (FrM.tr hF h52_15.1) (h180_32.1.m)) (FrF.e h180_32.1 h52_15.2.2.2.2.2) (by first | exact Or.inl ⟨(by omega), GL_4.mp ⟨hg4, hfit.mp (by omega)⟩, (hst4.ok (by omega)).2⟩ | exact Or.inr ⟨HFL, fun q => by have z9 := hfit.mpr (GL_4.mpr q).2; omega⟩) _ _ _ hw (lv_sub hl [4, 5, 6, 3] rfl)
                · have D123_26 := iNle c123_26 rfl rfl
                  refine lv_aload_n hx hb dX11_readMiss_126 rfl (lv_at hl 4 rfl) ?_
                  refine gf_X11_80 (b := (ma 18)) X hw hM.1 (mr_18 hM) dX11_readMiss_127 ?_
                  refine lv_iload_n hx hb dX11_readMiss_130 rfl (lv_at hl 5 rfl) ?_
                  refine lv_iload hx hb dX11_readMiss_131 (lv_at hl 0 rfl) ?_
                  refine lv_iadd hx hb dX11_readMiss_133 ?_
                  refine lv_topi (fun v133_35 e133_35 => ?_)
                  have t133_35 := iAdd e133_35 rfl rfl (by omega) (by omega)
                  have t133 := t133_35
                  refine q_ldI X hw (mk_18 hM) (vin (mn_18 hM) (by omega) (by omega)) dX11_readMiss_134 ?_
                  refine lv_topi (fun v134_36 e134_36 => ?_)
                  have e134_36 : v134_36 = (qI S) (ma 18) v133_35.toNatClampNeg := e134_36
                  have hV134 := ms_at hMB hvk (x := N1.toNatClampNeg) (k := k.toNatClampNeg) (by have := cl_toInt (x := k) (by omega); omega) (by have := cl_toInt (x := k) (by omega); omega) e134_36
                  refine lv_bipush (v := -100) hx hb dX11_readMiss_135 (by decide) ?_
                  refine lv_icmp_ne (tgt := 145) hx hb dX11_readMiss_137 (by decide) (fun c137_37 => ?_) (fun c137_37 => ?_)
                  · have D137_37 := iNe c137_37 rfl t_m100
                    refine lv_aload_n hx hb dX11_readMiss_145 rfl (lv_at hl 4 rfl) ?_
                    refine gf_X11_80 (b := (ma 18)) X hw hM.1 (mr_18 hM) dX11_readMiss_146 ?_
                    refine lv_iload_n hx hb dX11_readMiss_149 rfl (lv_at hl 5 rfl) ?_
                    refine lv_iload hx hb dX11_readMiss_150 (lv_at hl 0 rfl) ?_
                    refine lv_iadd hx hb dX11_readMiss_152 ?_
                    refine lv_topi (fun v152_38 e152_38 => ?_)
                    have t152_38 := iAdd e152_38 rfl rfl (by omega) (by omega)
                    have t152 := t152_38
                    refine q_ldI X hw (mk_18 hM) (vin (mn_18 hM) (by omega) (by omega)) dX11_readMiss_153 ?_
                    refine lv_topi (fun v153_39 e153_39 => ?_)
                    have e153_39 : v153_39 = (qI S) (ma 18) v152_38.toNatClampNeg := e153_39
                    have hV153 := ms_at hMB hvk (x := N1.toNatClampNeg) (k := k.toNatClampNeg) (by have := cl_toInt (x := k) (by omega); omega) (by have := cl_toInt (x := k) (by omega); omega) e153_39
                    refine lv_istore (lv' := [(5, .int v153_39), (6, .int k), (4, .int mo), (3, .int r52_14), (0, .ref (ma 0)), (1, .int v16_8), (2, .int r22_9)]) hx hb dX11_readMiss_154 hl (by decide) rfl (fun ls hl => ?_)
                    obtain ⟨v156_40, e156_40⟩ : ∃ y : Int32, y = k + (-1) := ⟨_, rfl⟩
                    have t156_40 := iAdd e156_40 rfl t_m1 (by omega) (by omega)
                    have t156 := t156_40
                    refine lv_iinc (v := v156_40) (lv' := [(6, .int v156_40), (5, .int v153_39), (4, .int mo), (3, .int r52_14), (0, .ref (ma 0)), (1, .int v16_8), (2, .int r22_9)]) hx hb dX11_readMiss_156 hl (k := 1) rfl (by rw [e156_40]; rfl) (by decide) rfl (fun ls hl => ?_)
                    refine lv_goto (tgt := 120) hx hb dX11_readMiss_159 (by decide) ?_
                    exact ih120  v153_39 v156_40 (by omega) (mwG_s hle (by omega) (by omega) t156 (by rcases hV134 with z9 | z9 <;> first | exact Or.inl ⟨z9.1, rfl⟩ | (exfalso; omega) | exact (hV153.elim (fun y9 => absurd y9.1 z9.1) (fun y9 => Or.inr ⟨z9.1, congrArg Int32.toInt y9.2.1⟩)))) (by omega) _ _ _ hw (lv_sub hl [0, 1, 2, 3, 4, 5, 6] rfl)
                  · have D137_37 := iEq c137_37 rfl t_m100
                    refine lv_iload hx hb dX11_readMiss_140 (lv_at hl 1 rfl) ?_
                    refine lv_goto (tgt := 154) hx hb dX11_readMiss_142 (by decide) ?_
                    refine lv_istore (lv' := [(5, .int le), (6, .int k), (4, .int mo), (3, .int r52_14), (0, .ref (ma 0)), (1, .int v16_8), (2, .int r22_9)]) hx hb dX11_readMiss_154 hl (by decide) rfl (fun ls hl => ?_)
                    obtain ⟨v156_41, e156_41⟩ : ∃ y : Int32, y = k + (-1) := ⟨_, rfl⟩
                    have t156_41 := iAdd e156_41 rfl t_m1 (by omega) (by omega)
                    have t156 := t156_41
                    refine lv_iinc (v := v156_41) (lv' := [(6, .int v156_41), (5, .int le), (4, .int mo), (3, .int r52_14), (0, .ref (ma 0)), (1, .int v16_8), (2, .int r22_9)]) hx hb dX11_readMiss_156 hl (k := 1) rfl (by rw [e156_41]; rfl) (by decide) rfl (fun ls hl => ?_)
                    refine lv_goto (tgt := 120) hx hb dX11_readMiss_159 (by decide) ?_
                    exact ih120  le v156_41 (by omega) (mwG_s hle (by omega) (by omega) t156 (by rcases hV134 with z9 | z9 <;> first | exact Or.inl ⟨z9.1, rfl⟩ | (exfalso; omega) | exact (hV153.elim (fun y9 => absurd y9.1 z9.1) (fun y9 => Or.inr ⟨z9.1, congrArg Int32.toInt y9.2.1⟩)))) (by omega) _ _ _ hw (lv_sub hl [0, 1, 2, 3, 4, 5, 6] rfl)
            exact lp120 _  0 20 (by have := t_20; omega) (mwG_20 (by decide)) (Nat.lt_succ_self _) _ _ _ hw (lv_sub hl [0, 1, 2, 3, 4, 5, 6] rfl)
          · have D74_25 := iNle c74_25 rfl rfl
            refine lv_aload_n hx hb dX11_readMiss_77 rfl (lv_at hl 3 rfl) ?_
            refine gf_X11_80 (b := (ma 18)) X hw hM.1 (mr_18 hM) dX11_readMiss_78 ?_
            refine lv_iload_n hx hb dX11_readMiss_81 rfl (lv_at hl 4 rfl) ?_
            refine lv_iload hx hb dX11_readMiss_82 (lv_at hl 0 rfl) ?_
            refine lv_iadd hx hb dX11_readMiss_84 ?_
            refine lv_topi (fun v84_42 e84_42 => ?_)
            have t84_42 := iAdd e84_42 rfl rfl (by omega) (by omega)
            have t84 := t84_42
            refine q_ldI X hw (mk_18 hM) (vin (mn_18 hM) (by omega) (by omega)) dX11_readMiss_85 ?_
            refine lv_topi (fun v85_43 e85_43 => ?_)
            have e85_43 : v85_43 = (qI S) (ma 18) v84_42.toNatClampNeg := e85_43
            have hV85 := ms_at hMB hvk (x := N1.toNatClampNeg) (k := k.toNatClampNeg) (by have := cl_toInt (x := k) (by omega); omega) (by have := cl_toInt (x := k) (by omega); omega) e85_43
            refine lv_bipush (v := -100) hx hb dX11_readMiss_86 (by decide) ?_
            refine lv_icmp_ne (tgt := 96) hx hb dX11_readMiss_88 (by decide) (fun c88_44 => ?_) (fun c88_44 => ?_)
            · have D88_44 := iNe c88_44 rfl t_m100
              refine lv_aload_n hx hb dX11_readMiss_96 rfl (lv_at hl 3 rfl) ?_
              refine gf_X11_80 (b := (ma 18)) X hw hM.1 (mr_18 hM) dX11_readMiss_97 ?_
              refine lv_iload_n hx hb dX11_readMiss_100 rfl (lv_at hl 4 rfl) ?_
              refine lv_iload hx hb dX11_readMiss_101 (lv_at hl 0 rfl) ?_
              refine lv_iadd hx hb dX11_readMiss_103 ?_
              refine lv_topi (fun v103_45 e103_45 => ?_)
              have t103_45 := iAdd e103_45 rfl rfl (by omega) (by omega)
              have t103 := t103_45
              refine q_ldI X hw (mk_18 hM) (vin (mn_18 hM) (by omega) (by omega)) dX11_readMiss_104 ?_
              refine lv_topi (fun v104_46 e104_46 => ?_)
              have e104_46 : v104_46 = (qI S) (ma 18) v103_45.toNatClampNeg := e104_46
              have hV104 := ms_at hMB hvk (x := N1.toNatClampNeg) (k := k.toNatClampNeg) (by have := cl_toInt (x := k) (by omega); omega) (by have := cl_toInt (x := k) (by omega); omega) e104_46
              refine lv_istore (lv' := [(4, .int v104_46), (5, .int k), (3, .int r52_14), (0, .ref (ma 0)), (1, .int v16_8), (2, .int r22_9)]) hx hb dX11_readMiss_105 hl (by decide) rfl (fun ls hl => ?_)
              obtain ⟨v107_47, e107_47⟩ : ∃ y : Int32, y = k + 1 := ⟨_, rfl⟩
              have t107_47 := iAdd e107_47 rfl t_1 (by omega) (by omega)
              have t107 := t107_47
              refine lv_iinc (v := v107_47) (lv' := [(5, .int v107_47), (4, .int v104_46), (3, .int r52_14), (0, .ref (ma 0)), (1, .int v16_8), (2, .int r22_9)]) hx hb dX11_readMiss_107 hl (k := 1) rfl (by rw [e107_47]; rfl) (by decide) rfl (fun ls hl => ?_)
              refine lv_goto (tgt := 71) hx hb dX11_readMiss_110 (by decide) ?_
              exact ih71  v104_46 v107_47 (by omega) (mwL_s hmo (by omega) t107 (by rcases hV85 with z9 | z9 <;> first | exact Or.inl ⟨z9.1, rfl⟩ | (exfalso; omega) | exact (hV104.elim (fun y9 => absurd y9.1 z9.1) (fun y9 => Or.inr ⟨z9.1, congrArg Int32.toInt y9.2.1⟩)))) (by omega) _ _ _ hw (lv_sub hl [0, 1, 2, 3, 4, 5] rfl)
            · have D88_44 := iEq c88_44 rfl t_m100
              refine lv_iload hx hb dX11_readMiss_91 (lv_at hl 1 rfl) ?_
              refine lv_goto (tgt := 105) hx hb dX11_readMiss_93 (by decide) ?_
              refine lv_istore (lv' := [(4, .int mo), (5, .int k), (3, .int r52_14), (0, .ref (ma 0)), (1, .int v16_8), (2, .int r22_9)]) hx hb dX11_readMiss_105 hl (by decide) rfl (fun ls hl => ?_)
              obtain ⟨v107_48, e107_48⟩ : ∃ y : Int32, y = k + 1 := ⟨_, rfl⟩
              have t107_48 := iAdd e107_48 rfl t_1 (by omega) (by omega)
              have t107 := t107_48
              refine lv_iinc (v := v107_48) (lv' := [(5, .int v107_48), (4, .int mo), (3, .int r52_14), (0, .ref (ma 0)), (1, .int v16_8), (2, .int r22_9)]) hx hb dX11_readMiss_107 hl (k := 1) rfl (by rw [e107_48]; rfl) (by decide) rfl (fun ls hl => ?_)
              refine lv_goto (tgt := 71) hx hb dX11_readMiss_110 (by decide) ?_
              exact ih71  mo v107_48 (by omega) (mwL_s hmo (by omega) t107 (by rcases hV85 with z9 | z9 <;> first | exact Or.inl ⟨z9.1, rfl⟩ | (exfalso; omega) | exact (hV104.elim (fun y9 => absurd y9.1 z9.1) (fun y9 => Or.inr ⟨z9.1, congrArg Int32.toInt y9.2.1⟩)))) (by omega) _ _ _ hw (lv_sub hl [0, 1, 2, 3, 4, 5] rfl)
      exact lp71 _  100 1 (by have := t_1; omega) (mwL_1 (by decide)) (Nat.lt_succ_self _) _ _ _ hw (lv_sub hl [0, 1, 2, 3, 4, 5] rfl)
    · have h57_20 : ¬ ((I52_17 104 (ma 0) : Int32).toInt = 0) := h57_20
      refine lv_if_ne (tgt := 64) hx hb dX11_readMiss_60 (by decide) (fun c60_49 => absurd c60_49 (by decide)) (fun c60_49 => ?_)
      exact hret _ _ _ _ _ ⟨_, _, _, rfl, (FrM.tr hF h52_15.1), FrQ.rf, KeepB.rf, hms, (Or.inr ⟨(by omega), fun q => hst4.no (by omega) (GL_4.mpr q).1⟩), (fun q => absurd (GL_4.mpr q).1 (hst4.no (by omega))), h52_15.2.2.2.2.2⟩ hw dX11_readMiss_63
  refine lv_aload_n hx hb dX11_readMiss_26 rfl (lv_at hl 2 rfl) ?_
  refine lv_aload_n hx hb dX11_readMiss_27 rfl (lv_at hl 2 rfl) ?_
  refine gf_X11_80 (b := (ma 18)) X hw hM.1 (mr_18 hM) dX11_readMiss_28 ?_
  refine lv_iload_n hx hb dX11_readMiss_31 rfl (lv_at hl 1 rfl) ?_
  refine lv_iload_n hx hb dX11_readMiss_32 rfl (lv_at hl 0 rfl) ?_
  refine lv_iadd hx hb dX11_readMiss_33 ?_
  refine lv_topi (fun v33_50 e33_50 => ?_)
  have t33_50 := iAdd e33_50 rfl rfl (by omega) (by omega)
  have t33 := t33_50
  have hcl3 := cl_toInt (x := v33_50) (by omega)
  have hix : v33_50.toNatClampNeg = 42 * bb + (21 * N1.toNatClampNeg + N2.toNatClampNeg) := by omega
  refine q_ldI X hw (mk_18 hM) (vin (mn_18 hM) (by omega) (by omega)) dX11_readMiss_34 ?_
  refine lv_topi (fun v34_51 e34_51 => ?_)
  have e34_51 : v34_51 = (qI S) (ma 18) v33_50.toNatClampNeg := e34_51
  have hW : ((True ∧ gN tc tn pp 0 1) ∧ gN tc tn (tE tc tn pp) 1 20) → (v34_51.toInt = -100 ↔ ¬ told V.2 4 (nv tc tn pp 0).toNatClampNeg (nv tc tn pp 1).toNatClampNeg) := fun q9 => by have e9 := hN1.symm.trans (hr1 (hst1.i.mpr q9.1)); have e8 := hN2.symm.trans (hr2 (hst2.i.mpr q9)); have z9 := hix; rw [e9, e8] at z9; have y9 := hlt; rw [e9, e8] at y9; exact tw_m hMB hvk y9 z9 e34_51
  refine lv_bipush (v := -100) hx hb dX11_readMiss_35 (by decide) ?_
  refine lv_icmp_eq (tgt := 44) hx hb dX11_readMiss_37 (by decide) (fun c37_52 => ?_) (fun c37_52 => ?_)
  · have D37_52 := iEq c37_52 rfl t_m100
    refine lv_iconst (v := 0) hx hb dX11_readMiss_44 (by decide) ?_
    refine k_Vv (n := 1) X hw (rcvk (ci := 11) X hw hM.1 (fun _ _ _ _ _ _ _ => ⟨_, rfl⟩) rfl) (c_v_X11_twice l G _ ma 0 hM) wd_r22_22 wd_r22_23 wd_r23_0 wd_r1_5 wd_r23_1 ⟨by decide, by decide, by decide +kernel⟩ rfl rfl ⟨Nat.le_of_ble_eq_true rfl, Nat.le_of_ble_eq_true rfl⟩ rfl rfl hl.1 (Nat.le_of_ble_eq_true rfl) dX11_readMiss_45 ⟨Nat.le_of_ble_eq_true rfl, Nat.le_of_ble_eq_true rfl⟩ (fun S45_54 H locs h45_53 hw => ?_)
    have := t_0
    obtain ⟨I45_55, rfl, h45_53⟩ := h45_53
    have hw : PX G A s.heap (ch S I45_55 J22_13 (qI S) (qJ S)) H locs := hw
    have HTW := h45_53
    exact lp48 I45_55  (FrM.tr (FrM.tr (FrM.tr FrM.rf h12_3.1) h22_10.1) (h45_53.1.m)) (FrF.e h45_53.1 h22_10.2.2.2.2.2) ((hst2.tw HTW.1 HTW.2).cg (and_congr_right (fun q9 => by have z9 := hW q9; have := t_0; have := t_1; constructor; (intro _; exact z9.mp (by omega)); (intro z8; have := z9.mpr z8; omega)))) _ _ _ hw (lv_sub hl [2, 1, 0] rfl)
  · have D37_52 := iNe c37_52 rfl t_m100
    refine lv_iconst (v := 1) hx hb dX11_readMiss_40 (by decide) ?_
    refine lv_goto (tgt := 45) hx hb dX11_readMiss_41 (by decide) ?_
    refine k_Vv (n := 1) X hw (rcvk (ci := 11) X hw hM.1 (fun _ _ _ _ _ _ _ => ⟨_, rfl⟩) rfl) (c_v_X11_twice l G _ ma 1 hM) wd_r22_22 wd_r22_23 wd_r23_0 wd_r1_5 wd_r23_1 ⟨by decide, by decide, by decide +kernel⟩ rfl rfl ⟨Nat.le_of_ble_eq_true rfl, Nat.le_of_ble_eq_true rfl⟩ rfl rfl hl.1 (Nat.le_of_ble_eq_true rfl) dX11_readMiss_45 ⟨Nat.le_of_ble_eq_true rfl, Nat.le_of_ble_eq_true rfl⟩ (fun S45_57 H locs h45_56 hw => ?_)
    have := t_1
    obtain ⟨I45_58, rfl, h45_56⟩ := h45_56
    have hw : PX G A s.heap (ch S I45_58 J22_13 (qI S) (qJ S)) H locs := hw
    have HTW := h45_56
    exact lp48 I45_58  (FrM.tr (FrM.tr (FrM.tr FrM.rf h12_3.1) h22_10.1) (h45_56.1.m)) (FrF.e h45_56.1 h22_10.2.2.2.2.2) ((hst2.tw HTW.1 HTW.2).cg (and_congr_right (fun q9 => by have z9 := hW q9; have := t_0; have := t_1; constructor; (intro _; exact z9.mp (by omega)); (intro z8; have := z9.mpr z8; omega)))) _ _ _ hw (lv_sub hl [2, 1, 0] rfl)
