set_option maxHeartbeats 4000000 in
set_option maxRecDepth 100000 in
theorem c_X11_sea (l : Launch) (G : Gh) (S : Pl) (ma : Nat → Nat) (hM : shMod S ma) (hI : mInv (pI S) (qI S) ma) : MtI l yX11_sea cX11_sea 2 (some .int) (Rm 6 0 0) G [.ref (ma 0)] S (fun (r : Int32) (S' : Pl) => ∃ I' J' q', ch S I' J' q' (qJ S) = S' ∧ mInv I' q' ma ∧ I' 102 (ma 0) = 0 ∧ I' 128 (ma 0) = pI S 128 (ma 0) ∧ I' 140 (ma 0) = pI S 140 (ma 0) ∧ q' (ma 40) = qI S (ma 40)) 0 0 := by
  refine MtI.of (by decide) (Nat.le_of_ble_eq_true rfl) ?_
  intro p e s m args below meth c Q A X hw hin hret ls hl
  have hx := X.1.1
  have hb := X.1.2.1
  have hl : lv_has ls 2 [(0, .ref (ma 0))] := hl
  obtain ⟨⟨b1, b2, b3, b4, b5, b6⟩, hT, hP, hC⟩ := id hI
  refine lv_aload_n hx hb dX11_sea_0 rfl (lv_at hl 0 rfl) ?_
  refine lv_iconst (v := 0) hx hb dX11_sea_1 (by decide) ?_
  refine pf_X11_11 X hw hM.1 dX11_sea_2 (fun H locs hw => ?_)
  have hw : PX G A s.heap (ch S (up2 (pI S) 104 (ma 0) 0) (pJ S) (qI S) (qJ S)) H locs := hw
  refine lv_aload_n hx hb dX11_sea_5 rfl (lv_at hl 0 rfl) ?_
  refine lv_iconst (v := -1) hx hb dX11_sea_6 (by decide) ?_
  refine pf_X11_14 X hw hM.1 dX11_sea_7 (fun H locs hw => ?_)
  have hw : PX G A s.heap (ch S (up2 (up2 (pI S) 104 (ma 0) 0) 105 (ma 0) (-1)) (pJ S) (qI S) (qJ S)) H locs := hw
  refine lv_aload_n hx hb dX11_sea_10 rfl (lv_at hl 0 rfl) ?_
  refine lv_aload_n hx hb dX11_sea_11 rfl (lv_at hl 0 rfl) ?_
  refine gf_X11_143 (v := (pI S) 102 (ma 0)) X hw hM.1 rfl dX11_sea_12 ?_
  refine pf_X11_1 X hw hM.1 dX11_sea_15 (fun H locs hw => ?_)
  have hw : PX G A s.heap (ch S (up2 (up2 (up2 (pI S) 104 (ma 0) 0) 105 (ma 0) (-1)) 103 (ma 0) ((pI S) 102 (ma 0))) (pJ S) (qI S) (qJ S)) H locs := hw
  refine lv_iconst (v := 0) hx hb dX11_sea_18 (by decide) ?_
  refine lv_istore_n (lv' := [(1, .int 0), (0, .ref (ma 0))]) hx hb dX11_sea_19 rfl hl (by decide) rfl (fun ls hl => ?_)
  have lp20 : ∀ (N9 : Nat) (q20 : Nat → Nat → Int32) (k : Int32), (FrQ 1 ma (qI S) q20) → (0 ≤ k.toInt ∧ k.toInt ≤ 1000) → (q20 (ma 18) = qI S (ma 18)) → (1000 - k.toInt).toNat < N9 → ∀ (H : Heap) (locs : List Loc) (ls : Array Slot), PX G A s.heap (ch S (up2 (up2 (up2 (pI S) 104 (ma 0) 0) 105 (ma 0) (-1)) 103 (ma 0) ((pI S) 102 (ma 0))) (pJ S) q20 (qJ S)) H locs → lv_has ls 2 [(1, .int k), (0, .ref (ma 0))] → W p l e (Rm 6 0 0) s m args below meth c H locs 0 0 Q (F0 m 20 ls []) := by
    intro N9
    induction N9 with
    | zero => intro q20 k hY hk h18 hm; exact absurd hm (Nat.not_lt_zero _)
    | succ N9 ih20 =>
      intro q20 k hY hk h18 hm H locs ls hw hl
      refine lv_iload_n hx hb dX11_sea_20 rfl (lv_at hl 0 rfl) ?_
      refine lv_aload_n hx hb dX11_sea_21 rfl (lv_at hl 1 rfl) ?_
      refine gf_X11_1 (v := (pI S) 102 (ma 0)) X hw hM.1 (show up2 (up2 (up2 (pI S) 104 (ma 0) 0) 105 (ma 0) (-1)) 103 (ma 0) ((pI S) 102 (ma 0)) 103 (ma 0) = ((pI S) 102 (ma 0)) from up2_s) dX11_sea_22 ?_
      refine lv_icmp_ge (tgt := 46) hx hb dX11_sea_25 (by decide) (fun c25_1 => ?_) (fun c25_1 => ?_)
      · have D25_1 := iLe c25_1 rfl rfl
        refine lv_aload_n hx hb dX11_sea_46 rfl (lv_at hl 1 rfl) ?_
        refine lv_iconst (v := 0) hx hb dX11_sea_47 (by decide) ?_
        refine pf_X11_143 X hw hM.1 dX11_sea_48 (fun H locs hw => ?_)
        have hw : PX G A s.heap (ch S (up2 (up2 (up2 (up2 (pI S) 104 (ma 0) 0) 105 (ma 0) (-1)) 103 (ma 0) ((pI S) 102 (ma 0))) 102 (ma 0) 0) (pJ S) q20 (qJ S)) H locs := hw
        refine lv_aload_n hx hb dX11_sea_51 rfl (lv_at hl 1 rfl) ?_
        refine lv_iconst (v := 0) hx hb dX11_sea_52 (by decide) ?_
        refine pf_X11_17 X hw hM.1 dX11_sea_53 (fun H locs hw => ?_)
        have hw : PX G A s.heap (ch S (up2 (up2 (up2 (up2 (up2 (pI S) 104 (ma 0) 0) 105 (ma 0) (-1)) 103 (ma 0) ((pI S) 102 (ma 0))) 102 (ma 0) 0) 107 (ma 0) 0) (pJ S) q20 (qJ S)) H locs := hw
        refine lv_aload_n hx hb dX11_sea_56 rfl (lv_at hl 1 rfl) ?_
        refine lv_iconst (v := 1) hx hb dX11_sea_57 (by decide) ?_
        refine lv_aload_n hx hb dX11_sea_58 rfl (lv_at hl 1 rfl) ?_
        refine gf_X11_146 (v := (pI S) 120 (ma 0)) X hw hM.1 rfl dX11_sea_59 ?_
        refine lv_isub hx hb dX11_sea_62 ?_
        refine lv_topi (fun v62_2 e62_2 => ?_)
        have t62_2 := iSub e62_2 t_1 rfl (by omega) (by omega)
        have t62 := t62_2
        refine pf_X11_149 X hw hM.1 dX11_sea_63 (fun H locs hw => ?_)
        have hw : PX G A s.heap (ch S (up2 (up2 (up2 (up2 (up2 (up2 (pI S) 104 (ma 0) 0) 105 (ma 0) (-1)) 103 (ma 0) ((pI S) 102 (ma 0))) 102 (ma 0) 0) 107 (ma 0) 0) 121 (ma 0) v62_2) (pJ S) q20 (qJ S)) H locs := hw
        obtain ⟨RB, hRB⟩ : ∃ z, z = (v62_2 : Int32) := ⟨_, rfl⟩
        have hRBt := congrArg Int32.toInt hRB
        have hRBr : 0 ≤ RB.toInt ∧ RB.toInt ≤ 1 := by omega
        refine lv_aload_n hx hb dX11_sea_66 rfl (lv_at hl 1 rfl) ?_
        refine lv_aload_n hx hb dX11_sea_67 rfl (lv_at hl 1 rfl) ?_
        refine gf_X11_149 (v := v62_2) X hw hM.1 (show up2 (up2 (up2 (up2 (up2 (up2 (pI S) 104 (ma 0) 0) 105 (ma 0) (-1)) 103 (ma 0) ((pI S) 102 (ma 0))) 102 (ma 0) 0) 107 (ma 0) 0) 121 (ma 0) v62_2 121 (ma 0) = v62_2 from up2_s) dX11_sea_68 ?_
        refine k_Vv (n := 1) X hw (rcvk (ci := 11) X hw hM.1 (fun _ _ _ _ _ _ _ => ⟨_, rfl⟩) rfl) (c_X11_clear l G _ ma v62_2 hM (by omega) (show MsOK (q20 (ma 18)) by rw [h18]; exact hC.2)) wd_r6_11 wd_r6_12 wd_r6_13 wd_r1_5 wd_r6_14 ⟨by decide, by decide, by decide +kernel⟩ rfl rfl ⟨Nat.le_of_ble_eq_true rfl, Nat.le_of_ble_eq_true rfl⟩ rfl rfl hl.1 (Nat.le_of_ble_eq_true rfl) dX11_sea_71 ⟨Nat.le_of_ble_eq_true rfl, Nat.le_of_ble_eq_true rfl⟩ (fun S71_4 H locs h71_3 hw => ?_)
        obtain ⟨q71_5, rfl, h71_3⟩ := h71_3
        have hw : PX G A s.heap (ch S (up2 (up2 (up2 (up2 (up2 (up2 (pI S) 104 (ma 0) 0) 105 (ma 0) (-1)) 103 (ma 0) ((pI S) 102 (ma 0))) 102 (ma 0) 0) 107 (ma 0) 0) 121 (ma 0) v62_2) (pJ S) q71_5 (qJ S)) H locs := hw
        have hcl2 : (q71_5 (ma 12) RB.toNatClampNeg).toInt = 0 := by rw [hRB]; exact h71_3.2.1
        have hms2 := h71_3.2.2
        have hE3 : eM (up2 (up2 (up2 (up2 (up2 (up2 (pI S) 104 (ma 0) 0) 105 (ma 0) (-1)) 103 (ma 0) ((pI S) 102 (ma 0))) 102 (ma 0) 0) 107 (ma 0) 0) 121 (ma 0) v62_2) (ma 0) := eM_of (a := ((pI S) 102 (ma 0) : Int32)) (b := (0 : Int32)) (show up2 (up2 (up2 (pI S) 104 (ma 0) 0) 105 (ma 0) (-1)) 103 (ma 0) ((pI S) 102 (ma 0)) 103 (ma 0) = ((pI S) 102 (ma 0)) from up2_s) (show up2 (up2 (up2 (up2 (up2 (pI S) 104 (ma 0) 0) 105 (ma 0) (-1)) 103 (ma 0) ((pI S) 102 (ma 0))) 102 (ma 0) 0) 107 (ma 0) 0 107 (ma 0) = 0 from up2_s) (by have := t_0; omega)
        have P121 : (up2 (up2 (up2 (up2 (up2 (up2 (pI S) 104 (ma 0) 0) 105 (ma 0) (-1)) 103 (ma 0) ((pI S) 102 (ma 0))) 102 (ma 0) 0) 107 (ma 0) 0) 121 (ma 0) v62_2) 121 (ma 0) = RB := ((show up2 (up2 (up2 (up2 (up2 (up2 (pI S) 104 (ma 0) 0) 105 (ma 0) (-1)) 103 (ma 0) ((pI S) 102 (ma 0))) 102 (ma 0) 0) 107 (ma 0) 0) 121 (ma 0) v62_2 121 (ma 0) = v62_2 from up2_s)).trans hRB.symm
        have P120 : (up2 (up2 (up2 (up2 (up2 (up2 (pI S) 104 (ma 0) 0) 105 (ma 0) (-1)) 103 (ma 0) ((pI S) 102 (ma 0))) 102 (ma 0) 0) 107 (ma 0) 0) 121 (ma 0) v62_2) 120 (ma 0) = pI S 120 (ma 0) := rfl
        have P102 : (up2 (up2 (up2 (up2 (up2 (up2 (pI S) 104 (ma 0) 0) 105 (ma 0) (-1)) 103 (ma 0) ((pI S) 102 (ma 0))) 102 (ma 0) 0) 107 (ma 0) 0) 121 (ma 0) v62_2) 102 (ma 0) = 0 := (show up2 (up2 (up2 (up2 (pI S) 104 (ma 0) 0) 105 (ma 0) (-1)) 103 (ma 0) ((pI S) 102 (ma 0))) 102 (ma 0) 0 102 (ma 0) = 0 from up2_s)
        refine lv_aload_n hx hb dX11_sea_74 rfl (lv_at hl 1 rfl) ?_
        refine k_Vv (n := 0) X hw (rcvk (ci := 11) X hw hM.1 (fun _ _ _ _ _ _ _ => ⟨_, rfl⟩) rfl) (c_X11_next l G _ ma hM hE3) wd_r20_15 wd_r20_16 wd_r20_17 wd_r1_5 wd_r20_18 ⟨by decide, by decide, by decide +kernel⟩ rfl rfl ⟨Nat.le_of_ble_eq_true rfl, Nat.le_of_ble_eq_true rfl⟩ rfl rfl hl.1 (Nat.le_of_ble_eq_true rfl) dX11_sea_75 ⟨Nat.le_of_ble_eq_true rfl, Nat.le_of_ble_eq_true rfl⟩ (fun S75_7 H locs h75_6 hw => ?_)
        obtain ⟨I75_8, J75_9, rfl, h75_6⟩ := h75_6
        have hw : PX G A s.heap (ch S I75_8 J75_9 q71_5 (qJ S)) H locs := hw
        have N1 := h75_6.1
        have lp78 : ∀ (N9 : Nat) (I78 : Nat → Nat → Int32) (J78 : Nat → Nat → Int64) (q78 : Nat → Nat → Int32), (FrW (pI S) I78) → (FrQ 1 ma (qI S) q78) → (eM I78 (ma 0)) → (I78 121 (ma 0) = RB) → (I78 120 (ma 0) = pI S 120 (ma 0)) → (I78 102 (ma 0) = 0) → ((I78 104 (ma 0)).toInt = 0 → 0 ≤ (q78 (ma 12) RB.toNatClampNeg).toInt ∧ (q78 (ma 12) RB.toNatClampNeg).toInt ≤ 60) → (MsOK (q78 (ma 18))) → msz (I78 104 (ma 0)).toInt (q78 (ma 12) RB.toNatClampNeg).toInt < N9 → ∀ (H : Heap) (locs : List Loc) (ls : Array Slot), PX G A s.heap (ch S I78 J78 q78 (qJ S)) H locs → lv_has ls 2 [(0, .ref (ma 0))] → W p l e (Rm 6 0 0) s m args below meth c H locs 0 0 Q (F0 m 78 ls []) := by
          intro N9
          induction N9 with
          | zero => intro I78 J78 q78 hF hY2 hE4 hR hK h102 hln hms3 hm; exact absurd hm (Nat.not_lt_zero _)
          | succ N9 ih78 =>
            intro I78 J78 q78 hF hY2 hE4 hR hK h102 hln hms3 hm H locs ls hw hl
            have hRt := congrArg Int32.toInt hR
            refine lv_aload_n hx hb dX11_sea_78 rfl (lv_at hl 0 rfl) ?_
            refine k_Vi (n := 0) X hw (rcvk (ci := 11) X hw hM.1 (fun _ _ _ _ _ _ _ => ⟨_, rfl⟩) rfl) (c_X11_isGood l G _ ma hM) wd_r21_12 wd_r21_13 wd_r21_14 wd_r1_5 wd_r21_15 ⟨by decide, by decide, by decide +kernel⟩ rfl rfl ⟨Nat.le_of_ble_eq_true rfl, Nat.le_of_ble_eq_true rfl⟩ rfl rfl hl.1 (Nat.le_of_ble_eq_true rfl) dX11_sea_79 ⟨Nat.le_of_ble_eq_true rfl, Nat.le_of_ble_eq_true rfl⟩ (fun r79_10 S79_12 H locs h79_11 hw => ?_)
            rcases h79_11 with ⟨rfl, rfl, h79_11⟩ | ⟨rfl, rfl, h79_11⟩
            · have h79_11 : (I78 104 (ma 0) : Int32).toInt = 0 := h79_11
              refine lv_if_eq (tgt := 99) hx hb dX11_sea_82 (by decide) (fun c82_13 => absurd c82_13 (by decide)) (fun c82_13 => ?_)
              refine lv_aload_n hx hb dX11_sea_85 rfl (lv_at hl 0 rfl) ?_
              refine gf_X11_27 (v := I78 108 (ma 0)) X hw hM.1 rfl dX11_sea_86 ?_
              refine lv_if_eq (tgt := 99) hx hb dX11_sea_89 (by decide) (fun c89_14 => ?_) (fun c89_14 => ?_)
              · have D89_14 := iEq c89_14 rfl t_0
                refine lv_aload_n hx hb dX11_sea_99 rfl (lv_at hl 0 rfl) ?_
                refine k_Vi (n := 0) X hw (rcvk (ci := 11) X hw hM.1 (fun _ _ _ _ _ _ _ => ⟨_, rfl⟩) rfl) (c_X11_isGood l G _ ma hM) wd_r21_12 wd_r21_13 wd_r21_14 wd_r1_5 wd_r21_15 ⟨by decide, by decide, by decide +kernel⟩ rfl rfl ⟨Nat.le_of_ble_eq_true rfl, Nat.le_of_ble_eq_true rfl⟩ rfl rfl hl.1 (Nat.le_of_ble_eq_true rfl) dX11_sea_100 ⟨Nat.le_of_ble_eq_true rfl, Nat.le_of_ble_eq_true rfl⟩ (fun r100_15 S100_17 H locs h100_16 hw => ?_)
                rcases h100_16 with ⟨rfl, rfl, h100_16⟩ | ⟨rfl, rfl, h100_16⟩
                · have h100_16 : (I78 104 (ma 0) : Int32).toInt = 0 := h100_16
                  refine lv_if_ne (tgt := 108) hx hb dX11_sea_103 (by decide) (fun c103_18 => ?_) (fun c103_18 => absurd c103_18 (by decide))
                  refine lv_aload_n hx hb dX11_sea_108 rfl (lv_at hl 0 rfl) ?_
                  refine lv_aload_n hx hb dX11_sea_109 rfl (lv_at hl 0 rfl) ?_
                  refine gf_X11_149 (v := I78 121 (ma 0)) X hw hM.1 rfl dX11_sea_110 ?_
                  refine pf_X11_146 X hw hM.1 dX11_sea_113 (fun H locs hw => ?_)
                  have hw : PX G A s.heap (ch S (up2 I78 120 (ma 0) (I78 121 (ma 0))) J78 q78 (qJ S)) H locs := hw
                  refine lv_aload_n hx hb dX11_sea_116 rfl (lv_at hl 0 rfl) ?_
                  refine gf_X11_61 (b := (ma 12)) X hw hM.1 (mr_12 hM) dX11_sea_117 ?_
                  refine lv_aload_n hx hb dX11_sea_120 rfl (lv_at hl 0 rfl) ?_
                  refine gf_X11_146 (v := I78 121 (ma 0)) X hw hM.1 (show up2 I78 120 (ma 0) (I78 121 (ma 0)) 120 (ma 0) = (I78 121 (ma 0)) from up2_s) dX11_sea_121 ?_
                  refine q_ldI X hw (mk_12 hM) (vin (mn_12 hM) (by omega) (by omega)) dX11_sea_124 ?_
                  refine lv_topi (fun v124_19 e124_19 => ?_)
                  have e124_19 : v124_19 = q78 (ma 12) ((I78 121 (ma 0)).toNatClampNeg) := e124_19
                  exact hret v124_19 _ _ _ _ _ ⟨_, _, _, rfl, mInv_w hM hI (FrW.up (f := 120) (by decide) hF) hY2 (show 0 ≤ (I78 102 (ma 0)).toInt ∧ (I78 102 (ma 0)).toInt ≤ 1000 by rw [h102]; have := t_0; omega) hE4 (by rw [show (up2 I78 120 (ma 0) (I78 121 (ma 0))) 120 (ma 0) = (I78 121 (ma 0) : Int32) from (show up2 I78 120 (ma 0) (I78 121 (ma 0)) 120 (ma 0) = (I78 121 (ma 0)) from up2_s), hR]; omega) (show 0 ≤ (I78 121 (ma 0)).toInt ∧ (I78 121 (ma 0)).toInt ≤ 1 by rw [hR]; omega) hms3, (show I78 102 (ma 0) = 0 from h102), congrFun ((FrW.up (f := 120) (by decide) hF) 128 (by decide)) (ma 0), congrFun ((FrW.up (f := 120) (by decide) hF) 140 (by decide)) (ma 0), FrQ.at hM hY2 (by decide) (by decide)⟩ hw rfl dX11_sea_125
                · have h100_16 : ¬ ((I78 104 (ma 0) : Int32).toInt = 0) := h100_16
                  refine lv_if_ne (tgt := 108) hx hb dX11_sea_103 (by decide) (fun c103_20 => absurd c103_20 (by decide)) (fun c103_20 => ?_)
                  refine lv_iconst (v := -1) hx hb dX11_sea_106 (by decide) ?_
                  exact hret (-1) _ _ _ _ _ ⟨_, _, _, rfl, mInv_w hM hI hF hY2 (by rw [h102]; have := t_0; omega) hE4 (by rw [hK]; exact b3) (by rw [hR]; omega) hms3, h102, congrFun (hF 128 (by decide)) (ma 0), congrFun (hF 140 (by decide)) (ma 0), FrQ.at hM hY2 (by decide) (by decide)⟩ hw rfl dX11_sea_107
              · skip
                refine lv_aload_n hx hb dX11_sea_92 rfl (lv_at hl 0 rfl) ?_
                refine k_Vv (n := 0) X hw (rcvk (ci := 11) X hw hM.1 (fun _ _ _ _ _ _ _ => ⟨_, rfl⟩) rfl) (c_X11_readLine l G _ ma hM hE4 (show 0 ≤ (I78 121 (ma 0)).toInt ∧ (I78 121 (ma 0)).toInt ≤ 1 by rw [hR]; omega) hms3 (show 0 ≤ (q78 (ma 12) (I78 121 (ma 0)).toNatClampNeg).toInt ∧ (q78 (ma 12) (I78 121 (ma 0)).toNatClampNeg).toInt ≤ 60 by rw [hR]; exact hln (by assumption))) wd_r21_16 wd_r21_17 wd_r21_18 wd_r1_5 wd_r21_19 ⟨by decide, by decide, by decide +kernel⟩ rfl rfl ⟨Nat.le_of_ble_eq_true rfl, Nat.le_of_ble_eq_true rfl⟩ rfl rfl hl.1 (Nat.le_of_ble_eq_true rfl) dX11_sea_93 ⟨Nat.le_of_ble_eq_true rfl, Nat.le_of_ble_eq_true rfl⟩ (fun S93_22 H locs h93_21 hw => ?_)
                obtain ⟨I93_23, J93_24, q93_25, rfl, h93_21⟩ := h93_21
                have hw : PX G A s.heap (ch S I93_23 J93_24 q93_25 (qJ S)) H locs := hw
                have M1 := h93_21.1
                have Z : (I93_23 104 (ma 0)).toInt ≠ 0 ∨ ((q93_25 (ma 12) RB.toNatClampNeg).toInt = (q78 (ma 12) RB.toNatClampNeg).toInt + 1 ∧ (q78 (ma 12) RB.toNatClampNeg).toInt < 60) := by have z : (I93_23 104 (ma 0)).toInt ≠ 0 ∨ ((q93_25 (ma 12) (I78 121 (ma 0)).toNatClampNeg).toInt = (q78 (ma 12) (I78 121 (ma 0)).toNatClampNeg).toInt + 1 ∧ (q78 (ma 12) (I78 121 (ma 0)).toNatClampNeg).toInt < 60) := h93_21.2.2.2.1; rw [hR] at z; exact z
                have hms4 := h93_21.2.2.2.2
                refine lv_goto (tgt := 78) hx hb dX11_sea_96 (by decide) ?_
                exact ih78 I93_23 J93_24 q93_25  (FrW.tr hF (h93_21.1.w)) (FrQ.tr hY2 (FrQ.lo (by decide) h93_21.2.2.1)) h93_21.2.1 ((congrFun (M1 121 (by decide)) (ma 0)).trans hR) ((congrFun (M1 120 (by decide)) (ma 0)).trans hK) ((congrFun (M1 102 (by decide)) (ma 0)).trans h102) (fun h0 => by have hl0 := hln (by assumption); rcases Z with z | z <;> omega) hms4 (msz_dec (by assumption) Z hm) _ _ _ hw (lv_sub hl [0] rfl)
            · have h79_11 : ¬ ((I78 104 (ma 0) : Int32).toInt = 0) := h79_11
              refine lv_if_eq (tgt := 99) hx hb dX11_sea_82 (by decide) (fun c82_26 => ?_) (fun c82_26 => absurd c82_26 (by decide))
              refine lv_aload_n hx hb dX11_sea_99 rfl (lv_at hl 0 rfl) ?_
              refine k_Vi (n := 0) X hw (rcvk (ci := 11) X hw hM.1 (fun _ _ _ _ _ _ _ => ⟨_, rfl⟩) rfl) (c_X11_isGood l G _ ma hM) wd_r21_12 wd_r21_13 wd_r21_14 wd_r1_5 wd_r21_15 ⟨by decide, by decide, by decide +kernel⟩ rfl rfl ⟨Nat.le_of_ble_eq_true rfl, Nat.le_of_ble_eq_true rfl⟩ rfl rfl hl.1 (Nat.le_of_ble_eq_true rfl) dX11_sea_100 ⟨Nat.le_of_ble_eq_true rfl, Nat.le_of_ble_eq_true rfl⟩ (fun r100_27 S100_29 H locs h100_28 hw => ?_)
              rcases h100_28 with ⟨rfl, rfl, h100_28⟩ | ⟨rfl, rfl, h100_28⟩
              · have h100_28 : (I78 104 (ma 0) : Int32).toInt = 0 := h100_28
                refine lv_if_ne (tgt := 108) hx hb dX11_sea_103 (by decide) (fun c103_30 => ?_) (fun c103_30 => absurd c103_30 (by decide))
                refine lv_aload_n hx hb dX11_sea_108 rfl (lv_at hl 0 rfl) ?_
                refine lv_aload_n hx hb dX11_sea_109 rfl (lv_at hl 0 rfl) ?_
                refine gf_X11_149 (v := I78 121 (ma 0)) X hw hM.1 rfl dX11_sea_110 ?_
                refine pf_X11_146 X hw hM.1 dX11_sea_113 (fun H locs hw => ?_)
                have hw : PX G A s.heap (ch S (up2 I78 120 (ma 0) (I78 121 (ma 0))) J78 q78 (qJ S)) H locs := hw
                refine lv_aload_n hx hb dX11_sea_116 rfl (lv_at hl 0 rfl) ?_
                refine gf_X11_61 (b := (ma 12)) X hw hM.1 (mr_12 hM) dX11_sea_117 ?_
                refine lv_aload_n hx hb dX11_sea_120 rfl (lv_at hl 0 rfl) ?_
                refine gf_X11_146 (v := I78 121 (ma 0)) X hw hM.1 (show up2 I78 120 (ma 0) (I78 121 (ma 0)) 120 (ma 0) = (I78 121 (ma 0)) from up2_s) dX11_sea_121 ?_
                refine q_ldI X hw (mk_12 hM) (vin (mn_12 hM) (by omega) (by omega)) dX11_sea_124 ?_
                refine lv_topi (fun v124_31 e124_31 => ?_)
                have e124_31 : v124_31 = q78 (ma 12) ((I78 121 (ma 0)).toNatClampNeg) := e124_31
                exact hret v124_31 _ _ _ _ _ ⟨_, _, _, rfl, mInv_w hM hI (FrW.up (f := 120) (by decide) hF) hY2 (show 0 ≤ (I78 102 (ma 0)).toInt ∧ (I78 102 (ma 0)).toInt ≤ 1000 by rw [h102]; have := t_0; omega) hE4 (by rw [show (up2 I78 120 (ma 0) (I78 121 (ma 0))) 120 (ma 0) = (I78 121 (ma 0) : Int32) from (show up2 I78 120 (ma 0) (I78 121 (ma 0)) 120 (ma 0) = (I78 121 (ma 0)) from up2_s), hR]; omega) (show 0 ≤ (I78 121 (ma 0)).toInt ∧ (I78 121 (ma 0)).toInt ≤ 1 by rw [hR]; omega) hms3, (show I78 102 (ma 0) = 0 from h102), congrFun ((FrW.up (f := 120) (by decide) hF) 128 (by decide)) (ma 0), congrFun ((FrW.up (f := 120) (by decide) hF) 140 (by decide)) (ma 0), FrQ.at hM hY2 (by decide) (by decide)⟩ hw rfl dX11_sea_125
              · have h100_28 : ¬ ((I78 104 (ma 0) : Int32).toInt = 0) := h100_28
                refine lv_if_ne (tgt := 108) hx hb dX11_sea_103 (by decide) (fun c103_32 => absurd c103_32 (by decide)) (fun c103_32 => ?_)
                refine lv_iconst (v := -1) hx hb dX11_sea_106 (by decide) ?_
                exact hret (-1) _ _ _ _ _ ⟨_, _, _, rfl, mInv_w hM hI hF hY2 (by rw [h102]; have := t_0; omega) hE4 (by rw [hK]; exact b3) (by rw [hR]; omega) hms3, h102, congrFun (hF 128 (by decide)) (ma 0), congrFun (hF 140 (by decide)) (ma 0), FrQ.at hM hY2 (by decide) (by decide)⟩ hw rfl dX11_sea_107
        exact lp78 _ I75_8 J75_9 q71_5  (FrW.tr (FrW.up (f := 121) (by decide) (FrW.up (f := 107) (by decide) (FrW.up (f := 102) (by decide) (FrW.up (f := 103) (by decide) (FrW.up (f := 105) (by decide) (FrW.up (f := 104) (by decide) FrW.rf)))))) (h75_6.1.m.w)) (FrQ.tr hY (FrQ.lo (by decide) h71_3.1)) h75_6.2 ((congrFun (N1 121 (by decide)) (ma 0)).trans P121) ((congrFun (N1 120 (by decide)) (ma 0)).trans P120) ((congrFun (N1 102 (by decide)) (ma 0)).trans P102) (fun _ => by omega) hms2 (Nat.lt_succ_self _) _ _ _ hw (lv_sub hl [1] rfl)
      · have D25_1 := iNle c25_1 rfl rfl
        refine lv_aload_n hx hb dX11_sea_28 rfl (lv_at hl 1 rfl) ?_
        refine gf_X11_7 (b := (ma 2)) X hw hM.1 (mr_2 hM) dX11_sea_29 ?_
        refine lv_iload_n hx hb dX11_sea_32 rfl (lv_at hl 0 rfl) ?_
        refine lv_aload_n hx hb dX11_sea_33 rfl (lv_at hl 1 rfl) ?_
        refine gf_X11_58 (b := (ma 1)) X hw hM.1 (mr_1 hM) dX11_sea_34 ?_
        refine lv_iload_n hx hb dX11_sea_37 rfl (lv_at hl 0 rfl) ?_
        refine q_ldB X hw (mk_1 hM) (vin (mn_1 hM) (by omega) (by omega)) dX11_sea_38 ?_
        refine lv_topi (fun v38_33 e38_33 => ?_)
        have e38_33 : v38_33 = q20 (ma 1) k.toNatClampNeg := e38_33
        refine q_stB X hw (mk_2 hM) (vin (mn_2 hM) (by omega) (by omega)) dX11_sea_39 (fun H locs hw => ?_)
        obtain ⟨q39_34, eq39_34, hw⟩ : ∃ zz9, zz9 = va_up q20 (ma 2) (upd (q20 (ma 2)) k.toNatClampNeg (vp_nar .byte v38_33)) ∧ PX G A s.heap (ch S (up2 (up2 (up2 (pI S) 104 (ma 0) 0) 105 (ma 0) (-1)) 103 (ma 0) ((pI S) 102 (ma 0))) (pJ S) zz9 (qJ S)) H locs := ⟨_, rfl, hw⟩
        have c39 := eq39_34
        obtain ⟨v40_35, e40_35⟩ : ∃ y : Int32, y = k + 1 := ⟨_, rfl⟩
        have t40_35 := iAdd e40_35 rfl t_1 (by omega) (by omega)
        have t40 := t40_35
        refine lv_iinc (v := v40_35) (lv' := [(1, .int v40_35), (0, .ref (ma 0))]) hx hb dX11_sea_40 hl (k := 0) rfl (by rw [e40_35]; rfl) (by decide) rfl (fun ls hl => ?_)
        refine lv_goto (tgt := 20) hx hb dX11_sea_43 (by decide) ?_
        exact ih20 q39_34 v40_35 (FrQ.ez eq39_34 (FrQ.up (j := 2) (by decide) (by decide) hY)) (by omega) (by rw [row_keep hM c39 (i := 18) (by decide) (by decide) (by decide)]; exact h18) (by omega) _ _ _ hw (lv_sub hl [0, 1] rfl)
  exact lp20 _ (qI S) 0 FrQ.rf (by have := t_0; omega) rfl (Nat.lt_succ_self _) _ _ _ hw (lv_sub hl [0, 1] rfl)
set_option maxHeartbeats 4000000 in
set_option maxRecDepth 100000 in
theorem c_X11_left (l : Launch) (G : Gh) (S : Pl) (ma : Nat → Nat) (hM : shMod S ma) (hI : mInv (pI S) (qI S) ma) : MtI l yX11_left cX11_left 9 (some .int) (Rm 5 0 0) G [.ref (ma 0)] S (fun (r : Int32) (S' : Pl) => ∃ I', ch S I' (pJ S) (qI S) (qJ S) = S' ∧ FrD (pI S) I') 0 0 := by
  refine MtI.of (by decide) (Nat.le_of_ble_eq_true rfl) ?_
  intro p e s m args below meth c Q A X hw hin hret ls hl
  have hx := X.1.1
  have hb := X.1.2.1
  have hl : lv_has ls 9 [(0, .ref (ma 0))] := hl
  obtain ⟨⟨b1, b2, b3, b4, b5, b6⟩, hT, hP, hC⟩ := id hI
  refine lv_aload_n hx hb dX11_left_0 rfl (lv_at hl 0 rfl) ?_
  refine gf_X11_224 (v := (pI S) 128 (ma 0)) X hw hM.1 rfl dX11_left_1 ?_
  refine lv_if_ne (tgt := 11) hx hb dX11_left_4 (by decide) (fun c4_1 => ?_) (fun c4_1 => ?_)
  · have D4_1 := iNe c4_1 rfl t_0
    refine lv_lconst (v := 0) hx hb dX11_left_11 (by decide) ?_
    refine lv_lstore_n (lv' := [(1, .long 0), (0, .ref (ma 0))]) hx hb dX11_left_12 rfl hl (by decide) rfl (fun ls hl => ?_)
    refine lv_lconst (v := 0) hx hb dX11_left_13 (by decide) ?_
    refine lv_lstore_n (lv' := [(3, .long 0), (1, .long 0), (0, .ref (ma 0))]) hx hb dX11_left_14 rfl hl (by decide) rfl (fun ls hl => ?_)
    refine lv_iconst (v := 0) hx hb dX11_left_15 (by decide) ?_
    refine lv_istore (lv' := [(5, .int 0), (3, .long 0), (1, .long 0), (0, .ref (ma 0))]) hx hb dX11_left_16 hl (by decide) rfl (fun ls hl => ?_)
    have lp18 : ∀ (N9 : Nat) (I18 : Nat → Nat → Int32) (u : Int64) (w : Int64) (i : Int32), (FrD (pI S) I18) → (0 ≤ i.toInt ∧ i.toInt ≤ (pI S 128 (ma 0)).toInt) → (i.toInt ≤ w.toInt ∧ w.toInt ≤ 1000 * i.toInt) → (40 - i.toInt).toNat < N9 → ∀ (H : Heap) (locs : List Loc) (ls : Array Slot), PX G A s.heap (ch S I18 (pJ S) (qI S) (qJ S)) H locs → lv_has ls 9 [(5, .int i), (3, .long w), (1, .long u), (0, .ref (ma 0))] → W p l e (Rm 5 0 0) s m args below meth c H locs 0 0 Q (F0 m 18 ls []) := by
      intro N9
      induction N9 with
      | zero => intro I18 u w i hF hi hw1 hm; exact absurd hm (Nat.not_lt_zero _)
      | succ N9 ih18 =>
        intro I18 u w i hF hi hw1 hm H locs ls hw hl
        have h28 := FrD.at hF (f := 128) (by decide) (ma 0)
        have h40 := FrD.at hF (f := 140) (by decide) (ma 0)
        refine lv_iload hx hb dX11_left_18 (lv_at hl 0 rfl) ?_
        refine lv_aload_n hx hb dX11_left_20 rfl (lv_at hl 3 rfl) ?_
        refine gf_X11_224 (v := I18 128 (ma 0)) X hw hM.1 rfl dX11_left_21 ?_
        refine lv_icmp_ge (tgt := 53) hx hb dX11_left_24 (by decide) (fun c24_2 => ?_) (fun c24_2 => ?_)
        · have D24_2 := iLe c24_2 rfl rfl
          refine lv_iconst (v := 0) hx hb dX11_left_53 (by decide) ?_
          refine lv_istore (lv' := [(5, .int 0), (3, .long w), (1, .long u), (0, .ref (ma 0))]) hx hb dX11_left_54 hl (by decide) rfl (fun ls hl => ?_)
          have lp56 : ∀ (N9 : Nat) (v : Int64) (j : Int32), (0 ≤ j.toInt ∧ j.toInt ≤ (pI S 140 (ma 0)).toInt) → (1 ≤ v.toInt ∧ v.toInt ≤ 40000 * pw100 (cntB (qI S (ma 40)) j.toNatClampNeg)) → (60 - j.toInt).toNat < N9 → ∀ (H : Heap) (locs : List Loc) (ls : Array Slot), PX G A s.heap (ch S I18 (pJ S) (qI S) (qJ S)) H locs → lv_has ls 9 [(5, .int j), (3, .long v), (1, .long u), (0, .ref (ma 0))] → W p l e (Rm 5 0 0) s m args below meth c H locs 0 0 Q (F0 m 56 ls []) := by
            intro N9
            induction N9 with
            | zero => intro v j hj hv hm; exact absurd hm (Nat.not_lt_zero _)
            | succ N9 ih56 =>
              intro v j hj hv hm H locs ls hw hl
              refine lv_iload hx hb dX11_left_56 (lv_at hl 0 rfl) ?_
              refine lv_aload_n hx hb dX11_left_58 rfl (lv_at hl 3 rfl) ?_
              refine gf_X11_252 (v := I18 140 (ma 0)) X hw hM.1 rfl dX11_left_59 ?_
              refine lv_icmp_ge (tgt := 91) hx hb dX11_left_62 (by decide) (fun c62_3 => ?_) (fun c62_3 => ?_)
              · have D62_3 := iLe c62_3 rfl rfl
                refine lv_lload_n hx hb dX11_left_91 rfl (lv_at hl 2 rfl) ?_
                refine lv_lload_n hx hb dX11_left_92 rfl (lv_at hl 1 rfl) ?_
                refine lv_ldiv hx hb dX11_left_93 (lne0 (by omega)) ?_
                refine lv_topl (fun v93_4 e93_4 => ?_)
                refine lv_l2i hx hb dX11_left_94 rfl ?_
                refine lv_topi (fun v94_5 e94_5 => ?_)
                refine lv_istore (lv' := [(5, .int v94_5), (3, .long v), (1, .long u), (0, .ref (ma 0))]) hx hb dX11_left_95 hl (by decide) rfl (fun ls hl => ?_)
                refine lv_lload_n hx hb dX11_left_97 rfl (lv_at hl 2 rfl) ?_
                refine lv_lload_n hx hb dX11_left_98 rfl (lv_at hl 1 rfl) ?_
                refine lv_lrem hx hb dX11_left_99 (lne0 (by omega)) ?_
                refine lv_topl (fun v99_6 e99_6 => ?_)
                refine lv_lstore (lv' := [(6, .long v99_6), (5, .int v94_5), (3, .long v), (1, .long u), (0, .ref (ma 0))]) hx hb dX11_left_100 hl (by decide) rfl (fun ls hl => ?_)
                refine lv_iconst (v := 0) hx hb dX11_left_102 (by decide) ?_
                refine lv_istore (lv' := [(8, .int 0), (6, .long v99_6), (5, .int v94_5), (3, .long v), (1, .long u), (0, .ref (ma 0))]) hx hb dX11_left_103 hl (by decide) rfl (fun ls hl => ?_)
                have lp105 : ∀ (N9 : Nat) (x5 : Int32) (x6 : Int64) (k : Int32), (0 ≤ k.toInt ∧ k.toInt ≤ 4) → (4 - k.toInt).toNat < N9 → ∀ (H : Heap) (locs : List Loc) (ls : Array Slot), PX G A s.heap (ch S I18 (pJ S) (qI S) (qJ S)) H locs → lv_has ls 9 [(8, .int k), (6, .long x6), (5, .int x5), (3, .long v), (1, .long u), (0, .ref (ma 0))] → W p l e (Rm 5 0 0) s m args below meth c H locs 0 0 Q (F0 m 105 ls []) := by
                  intro N9
                  induction N9 with
                  | zero => intro x5 x6 k hk hm; exact absurd hm (Nat.not_lt_zero _)
                  | succ N9 ih105 =>
                    intro x5 x6 k hk hm H locs ls hw hl
                    refine lv_iload hx hb dX11_left_105 (lv_at hl 0 rfl) ?_
                    refine lv_iconst (v := 4) hx hb dX11_left_107 (by decide) ?_
                    refine lv_icmp_ge (tgt := 144) hx hb dX11_left_108 (by decide) (fun c108_7 => ?_) (fun c108_7 => ?_)
                    · have D108_7 := iLe c108_7 t_4 rfl
                      refine lv_iload hx hb dX11_left_144 (lv_at hl 2 rfl) ?_
                      exact hret x5 _ _ _ _ _ ⟨_, rfl, hF⟩ hw rfl dX11_left_146
                    · have D108_7 := iNle c108_7 t_4 rfl
                      refine lv_bipush (v := 10) hx hb dX11_left_111 (by decide) ?_
                      refine lv_iload hx hb dX11_left_113 (lv_at hl 2 rfl) ?_
                      refine lv_imul hx hb dX11_left_115 ?_
                      refine lv_topi (fun v115_8 e115_8 => ?_)
                      refine lv_lload hx hb dX11_left_116 (lv_at hl 1 rfl) ?_
                      refine lv_ldc2 hx hb X.1.2.2.2.1 (X.1.2.2.2.2 _ wd_r43_5) dX11_left_118 ?_
                      refine lv_lmul hx hb dX11_left_121 ?_
                      refine lv_topl (fun v121_9 e121_9 => ?_)
                      refine lv_lload_n hx hb dX11_left_122 rfl (lv_at hl 3 rfl) ?_
                      refine lv_ldiv hx hb dX11_left_123 (lne0 (by omega)) ?_
                      refine lv_topl (fun v123_10 e123_10 => ?_)
                      refine lv_l2i hx hb dX11_left_124 rfl ?_
                      refine lv_topi (fun v124_11 e124_11 => ?_)
                      refine lv_iadd hx hb dX11_left_125 ?_
                      refine lv_topi (fun v125_12 e125_12 => ?_)
                      refine lv_istore (lv' := [(5, .int v125_12), (8, .int k), (6, .long x6), (3, .long v), (1, .long u), (0, .ref (ma 0))]) hx hb dX11_left_126 hl (by decide) rfl (fun ls hl => ?_)
                      refine lv_lload hx hb dX11_left_128 (lv_at hl 2 rfl) ?_
                      refine lv_ldc2 hx hb X.1.2.2.2.1 (X.1.2.2.2.2 _ wd_r43_5) dX11_left_130 ?_
                      refine lv_lmul hx hb dX11_left_133 ?_
                      refine lv_topl (fun v133_13 e133_13 => ?_)
                      refine lv_lload_n hx hb dX11_left_134 rfl (lv_at hl 3 rfl) ?_
                      refine lv_lrem hx hb dX11_left_135 (lne0 (by omega)) ?_
                      refine lv_topl (fun v135_14 e135_14 => ?_)
                      refine lv_lstore (lv' := [(6, .long v135_14), (5, .int v125_12), (8, .int k), (3, .long v), (1, .long u), (0, .ref (ma 0))]) hx hb dX11_left_136 hl (by decide) rfl (fun ls hl => ?_)
                      obtain ⟨v138_15, e138_15⟩ : ∃ y : Int32, y = k + 1 := ⟨_, rfl⟩
                      have t138_15 := iAdd e138_15 rfl t_1 (by omega) (by omega)
                      have t138 := t138_15
                      refine lv_iinc (v := v138_15) (lv' := [(8, .int v138_15), (6, .long v135_14), (5, .int v125_12), (3, .long v), (1, .long u), (0, .ref (ma 0))]) hx hb dX11_left_138 hl (k := 2) rfl (by rw [e138_15]; rfl) (by decide) rfl (fun ls hl => ?_)
                      refine lv_goto (tgt := 105) hx hb dX11_left_141 (by decide) ?_
                      exact ih105  v125_12 v135_14 v138_15 (by omega) (by omega) _ _ _ hw (lv_sub hl [0, 1, 2, 3, 4, 5] rfl)
                exact lp105 _  v94_5 v99_6 0 (by have := t_0; omega) (Nat.lt_succ_self _) _ _ _ hw (lv_sub hl [0, 1, 2, 3, 4, 5] rfl)
              · have D62_3 := iNle c62_3 rfl rfl
                refine lv_lload_n hx hb dX11_left_65 rfl (lv_at hl 1 rfl) ?_
                refine lv_aload_n hx hb dX11_left_66 rfl (lv_at hl 3 rfl) ?_
                refine gf_X11_126 (b := (ma 40)) X hw hM.1 (mr_40 hM) dX11_left_67 ?_
                refine lv_iload hx hb dX11_left_70 (lv_at hl 0 rfl) ?_
                refine q_ldZ X hw (mk_40 hM) (vin (mn_40 hM) (by omega) (by omega)) dX11_left_72 ?_
                refine lv_topi (fun v72_16 e72_16 => ?_)
                have e72_16 : v72_16 = (qI S) (ma 40) j.toNatClampNeg := e72_16
                have e72n := e72_16
                refine lv_if_eq (tgt := 80) hx hb dX11_left_73 (by decide) (fun c73_17 => ?_) (fun c73_17 => ?_)
                · have D73_17 := iEq c73_17 rfl t_0
                  refine lv_ldc2 hx hb X.1.2.2.2.1 (X.1.2.2.2.2 _ wd_r43_4) dX11_left_80 ?_
                  refine lv_lmul hx hb dX11_left_83 ?_
                  refine lv_topl (fun v83_18 e83_18 => ?_)
                  have e83n := e83_18
                  refine lv_lstore_n (lv' := [(3, .long v83_18), (5, .int j), (1, .long u), (0, .ref (ma 0))]) hx hb dX11_left_84 rfl hl (by decide) rfl (fun ls hl => ?_)
                  obtain ⟨v85_19, e85_19⟩ : ∃ y : Int32, y = j + 1 := ⟨_, rfl⟩
                  have t85_19 := iAdd e85_19 rfl t_1 (by omega) (by omega)
                  have t85 := t85_19
                  refine lv_iinc (v := v85_19) (lv' := [(5, .int v85_19), (3, .long v83_18), (1, .long u), (0, .ref (ma 0))]) hx hb dX11_left_85 hl (k := 1) rfl (by rw [e85_19]; rfl) (by decide) rfl (fun ls hl => ?_)
                  refine lv_goto (tgt := 56) hx hb dX11_left_88 (by decide) ?_
                  exact ih56  v83_18 v85_19 (by omega) (by first | exact left_n hv e83n e72n (by assumption) t85 (by omega) | exact left_y hv e83n e72n (by assumption) t85 (by omega) (cnt6 (by omega) (by omega) hC.1)) (by omega) _ _ _ hw (lv_sub hl [0, 1, 2, 3] rfl)
                · skip
                  refine lv_lconst (v := 1) hx hb dX11_left_76 (by decide) ?_
                  refine lv_goto (tgt := 83) hx hb dX11_left_77 (by decide) ?_
                  refine lv_lmul hx hb dX11_left_83 ?_
                  refine lv_topl (fun v83_20 e83_20 => ?_)
                  have e83n := e83_20
                  refine lv_lstore_n (lv' := [(3, .long v83_20), (5, .int j), (1, .long u), (0, .ref (ma 0))]) hx hb dX11_left_84 rfl hl (by decide) rfl (fun ls hl => ?_)
                  obtain ⟨v85_21, e85_21⟩ : ∃ y : Int32, y = j + 1 := ⟨_, rfl⟩
                  have t85_21 := iAdd e85_21 rfl t_1 (by omega) (by omega)
                  have t85 := t85_21
                  refine lv_iinc (v := v85_21) (lv' := [(5, .int v85_21), (3, .long v83_20), (1, .long u), (0, .ref (ma 0))]) hx hb dX11_left_85 hl (k := 1) rfl (by rw [e85_21]; rfl) (by decide) rfl (fun ls hl => ?_)
                  refine lv_goto (tgt := 56) hx hb dX11_left_88 (by decide) ?_
                  exact ih56  v83_20 v85_21 (by omega) (by first | exact left_n hv e83n e72n (by assumption) t85 (by omega) | exact left_y hv e83n e72n (by assumption) t85 (by omega) (cnt6 (by omega) (by omega) hC.1)) (by omega) _ _ _ hw (lv_sub hl [0, 1, 2, 3] rfl)
          exact lp56 _  w 0 (by have := t_0; omega) (left_0 (by omega)) (Nat.lt_succ_self _) _ _ _ hw (lv_sub hl [0, 1, 2, 3] rfl)
        · have D24_2 := iNle c24_2 rfl rfl
          refine lv_lload_n hx hb dX11_left_27 rfl (lv_at hl 2 rfl) ?_
          refine lv_aload_n hx hb dX11_left_28 rfl (lv_at hl 3 rfl) ?_
          refine lv_iload hx hb dX11_left_29 (lv_at hl 0 rfl) ?_
          refine k_Vl (n := 1) X hw (rcvk (ci := 11) X hw hM.1 (fun _ _ _ _ _ _ _ => ⟨_, rfl⟩) rfl) (c_X11_oddsOf l G _ ma i hM (hI.d hF) (show 0 ≤ i.toInt ∧ i.toInt < (I18 128 (ma 0) : Int32).toInt by omega)) wd_r37_15 wd_r37_16 wd_r37_17 wd_r1_5 wd_r37_18 ⟨by decide, by decide, by decide +kernel⟩ rfl rfl ⟨Nat.le_of_ble_eq_true rfl, Nat.le_of_ble_eq_true rfl⟩ rfl rfl hl.1 (Nat.le_of_ble_eq_true rfl) dX11_left_31 ⟨Nat.le_of_ble_eq_true rfl, Nat.le_of_ble_eq_true rfl⟩ (fun r31_22 S31_24 H locs h31_23 hw => ?_)
          obtain ⟨I31_25, rfl, h31_23⟩ := h31_23
          have hw : PX G A s.heap (ch S I31_25 (pJ S) (qI S) (qJ S)) H locs := hw
          refine lv_ladd hx hb dX11_left_34 ?_
          refine lv_topl (fun v34_26 e34_26 => ?_)
          refine lv_lstore_n (lv' := [(1, .long v34_26), (5, .int i), (3, .long w), (0, .ref (ma 0))]) hx hb dX11_left_35 rfl hl (by decide) rfl (fun ls hl => ?_)
          refine lv_lload_n hx hb dX11_left_36 rfl (lv_at hl 2 rfl) ?_
          refine lv_aload_n hx hb dX11_left_37 rfl (lv_at hl 3 rfl) ?_
          refine gf_X11_102 (b := (ma 28)) X hw hM.1 (mr_28 hM) dX11_left_38 ?_
          refine lv_iload hx hb dX11_left_41 (lv_at hl 1 rfl) ?_
          refine q_ldI X hw (mk_28 hM) (vin (mn_28 hM) (by omega) (by omega)) dX11_left_43 ?_
          refine lv_topi (fun v43_27 e43_27 => ?_)
          have e43_27 : v43_27 = (qI S) (ma 28) i.toNatClampNeg := e43_27
          have g43 := congrArg Int32.toInt e43_27
          have tz := mT_at hT (x := i) (by omega) (by omega)
          refine lv_i2l hx hb dX11_left_44 rfl ?_
          refine lv_topl (fun v44_28 e44_28 => ?_)
          have k44 : v44_28.toInt = v43_27.toInt := by rw [e44_28]; exact i2l_t _
          refine lv_ladd hx hb dX11_left_45 ?_
          refine lv_topl (fun v45_29 e45_29 => ?_)
          have t45_29 := lAdd e45_29 rfl rfl (by omega) (by omega)
          have t45 := t45_29
          refine lv_lstore_n (lv' := [(3, .long v45_29), (1, .long v34_26), (5, .int i), (0, .ref (ma 0))]) hx hb dX11_left_46 rfl hl (by decide) rfl (fun ls hl => ?_)
          obtain ⟨v47_30, e47_30⟩ : ∃ y : Int32, y = i + 1 := ⟨_, rfl⟩
          have t47_30 := iAdd e47_30 rfl t_1 (by omega) (by omega)
          have t47 := t47_30
          refine lv_iinc (v := v47_30) (lv' := [(5, .int v47_30), (3, .long v45_29), (1, .long v34_26), (0, .ref (ma 0))]) hx hb dX11_left_47 hl (k := 2) rfl (by rw [e47_30]; rfl) (by decide) rfl (fun ls hl => ?_)
          refine lv_goto (tgt := 18) hx hb dX11_left_50 (by decide) ?_
          exact ih18 I31_25 v34_26 v45_29 v47_30 (FrD.tr hF h31_23.1) (by omega) (by omega) (by omega) _ _ _ hw (lv_sub hl [0, 1, 2, 3] rfl)
    exact lp18 _ (pI S) 0 0 0 FrD.rf (by have := t_0; omega) (by have := t_0; have := (by decide : (0:Int64).toInt = 0); omega) (Nat.lt_succ_self _) _ _ _ hw (lv_sub hl [0, 1, 2, 3] rfl)
  · have D4_1 := iEq c4_1 rfl t_0
    refine lv_sipush (v := 10000) hx hb dX11_left_7 (by decide) ?_
    exact hret 10000 _ _ _ _ _ ⟨_, rfl, FrD.rf⟩ hw rfl dX11_left_10
set_option maxHeartbeats 4000000 in
set_option maxRecDepth 100000 in
theorem c_X11_spot (l : Launch) (G : Gh) (S : Pl) (x y : Int32) (hx0 : 0 ≤ x.toInt ∧ x.toInt ≤ 64 ∧ 0 ≤ y.toInt ∧ y.toInt ≤ 40) : MtI l yX11_spot cX11_spot 2 (some .int) (Rm 0 0 0) G [.int x, .int y] S (fun (r : Int32) (S' : Pl) => S = S' ∧ r.toInt = 41 * x.toInt + y.toInt) 0 0 := by
  refine MtI.of (by decide) (Nat.le_of_ble_eq_true rfl) ?_
  intro p e s m args below meth c Q A X hw hin hret ls hl
  have hx := X.1.1
  have hb := X.1.2.1
  have hl : lv_has ls 2 [(0, .int x), (1, .int y)] := hl
  refine lv_bipush (v := 41) hx hb dX11_spot_0 (by decide) ?_
  refine lv_iload_n hx hb dX11_spot_2 rfl (lv_at hl 0 rfl) ?_
  refine lv_imul hx hb dX11_spot_3 ?_
  refine lv_topi (fun v3_1 e3_1 => ?_)
  have t3_1 := iMul e3_1 t_41 rfl (by omega) (by omega)
  have t3 := t3_1
  refine lv_iload_n hx hb dX11_spot_4 rfl (lv_at hl 1 rfl) ?_
  refine lv_iadd hx hb dX11_spot_5 ?_
  refine lv_topi (fun v5_2 e5_2 => ?_)
  have t5_2 := iAdd e5_2 rfl rfl (by omega) (by omega)
  have t5 := t5_2
  exact hret v5_2 _ _ _ _ _ ⟨rfl, by omega⟩ hw rfl dX11_spot_6
set_option maxHeartbeats 4000000 in
set_option maxRecDepth 100000 in
theorem c_X11_gain (l : Launch) (G : Gh) (S : Pl) (ma : Nat → Nat) (x y z : Int32) (hM : shMod S ma) (hbk : 0 ≤ (pI S 120 (ma 0)).toInt ∧ (pI S 120 (ma 0)).toInt ≤ 1) (hx0 : 0 ≤ x.toInt ∧ x.toInt < 64) (hy0 : 0 ≤ y.toInt ∧ y.toInt ≤ 1) (hz0 : 0 ≤ z.toInt ∧ z.toInt ≤ 20) : MtL l yX11_gain cX11_gain 4 (some .long) (Rm 1 0 0) G [.ref (ma 0), .int x, .int y, .int z] S (fun (r : Int64) (S' : Pl) => S = S' ∧ r = gv (qJ S (ma 42)) (qI S (ma 18)) (pI S 120 (ma 0)) y x.toNatClampNeg z.toNatClampNeg) 0 0 := by
  refine MtL.of (by decide) (Nat.le_of_ble_eq_true rfl) ?_
  intro p e s m args below meth c Q A X hw hin hret ls hl
  have hx := X.1.1
  have hb := X.1.2.1
  have hl : lv_has ls 4 [(0, .ref (ma 0)), (1, .int x), (2, .int y), (3, .int z)] := hl
  refine lv_aload_n hx hb dX11_gain_0 rfl (lv_at hl 0 rfl) ?_
  refine gf_X11_129 (b := (ma 42)) X hw hM.1 (mr_42 hM) dX11_gain_1 ?_
  refine lv_iload_n hx hb dX11_gain_4 rfl (lv_at hl 1 rfl) ?_
  refine q_ldJ X hw (mk_42 hM) (vin (mn_42 hM) (by omega) (by omega)) dX11_gain_5 ?_
  refine lv_topl (fun v5_1 e5_1 => ?_)
  have e5_1 : v5_1 = (qJ S) (ma 42) x.toNatClampNeg := e5_1
  have e5n := e5_1
  refine lv_bipush (v := 100) hx hb dX11_gain_6 (by decide) ?_
  refine lv_aload_n hx hb dX11_gain_8 rfl (lv_at hl 0 rfl) ?_
  refine lv_iload_n hx hb dX11_gain_9 rfl (lv_at hl 2 rfl) ?_
  refine lv_iload_n hx hb dX11_gain_10 rfl (lv_at hl 3 rfl) ?_
  refine k_Vi (n := 2) X hw (rcvk (ci := 11) X hw hM.1 (fun _ _ _ _ _ _ _ => ⟨_, rfl⟩) rfl) (c_X11_missOf l G _ ma y z hM hbk (by omega) (by omega)) wd_r26_6 wd_r26_7 wd_r26_8 wd_r1_5 wd_r26_9 ⟨by decide, by decide, by decide +kernel⟩ rfl rfl ⟨Nat.le_of_ble_eq_true rfl, Nat.le_of_ble_eq_true rfl⟩ rfl rfl hl.1 (Nat.le_of_ble_eq_true rfl) dX11_gain_11 ⟨Nat.le_of_ble_eq_true rfl, Nat.le_of_ble_eq_true rfl⟩ (fun r11_2 S11_4 H locs h11_3 hw => ?_)
  obtain ⟨rfl, h11_3⟩ := h11_3
  have hmo := h11_3
  refine lv_isub hx hb dX11_gain_14 ?_
  refine lv_topi (fun v14_5 e14_5 => ?_)
  have e14n := e14_5
  refine lv_i2l hx hb dX11_gain_15 rfl ?_
  refine lv_topl (fun v15_6 e15_6 => ?_)
  have e15n := e15_6
  refine lv_lmul hx hb dX11_gain_16 ?_
  refine lv_topl (fun v16_7 e16_7 => ?_)
  have e16n := e16_7
  exact hret v16_7 _ _ _ _ _ ⟨rfl, by rw [e16n, e5n, e15n, e14n, hmo]; rfl⟩ hw dX11_gain_17
set_option maxHeartbeats 4000000 in
set_option maxRecDepth 100000 in
theorem c_X11_canSplit (l : Launch) (G : Gh) (S : Pl) (ma : Nat → Nat) (x y z : Int32) (hM : shMod S ma) : MtI l yX11_canSplit cX11_canSplit 4 (some .boolean) (Rm 1 0 0) G [.ref (ma 0), .int x, .int y, .int z] S (fun (r : Int32) (S' : Pl) => (S = S' ∧ r = 1 ∧ ((0 ≤ x.toInt ∧ x.toInt ≤ 72) ∧ (0 ≤ y.toInt ∧ y.toInt < 2) ∧ (0 ≤ z.toInt ∧ z.toInt ≤ 40))) ∨ (S = S' ∧ r = 0 ∧ ¬ ((0 ≤ x.toInt ∧ x.toInt ≤ 72) ∧ (0 ≤ y.toInt ∧ y.toInt < 2) ∧ (0 ≤ z.toInt ∧ z.toInt ≤ 40)))) 0 0 := by
  refine MtI.of (by decide) (Nat.le_of_ble_eq_true rfl) ?_
  intro p e s m args below meth c Q A X hw hin hret ls hl
  have hx := X.1.1
  have hb := X.1.2.1
  have hl : lv_has ls 4 [(0, .ref (ma 0)), (1, .int x), (2, .int y), (3, .int z)] := hl
  refine lv_iload_n hx hb dX11_canSplit_0 rfl (lv_at hl 1 rfl) ?_
  refine k_Si (n := 1) X hw (c_X11_isMoment l G _ x) wd_r31_0 wd_r31_1 wd_r1_5 wd_r31_2 ⟨by decide, by decide, by decide +kernel⟩ rfl rfl ⟨Nat.le_of_ble_eq_true rfl, Nat.le_of_ble_eq_true rfl⟩ rfl rfl hl.1 (Nat.le_of_ble_eq_true rfl) dX11_canSplit_1 ⟨Nat.le_of_ble_eq_true rfl, Nat.le_of_ble_eq_true rfl⟩ (fun r1_1 S1_3 H locs h1_2 hw => ?_)
  rcases h1_2 with ⟨rfl, rfl, h1_2⟩ | ⟨rfl, rfl, h1_2⟩
  · have h1_2 := h1_2
    refine lv_if_eq (tgt := 28) hx hb dX11_canSplit_4 (by decide) (fun c4_4 => absurd c4_4 (by decide)) (fun c4_4 => ?_)
    refine lv_iload_n hx hb dX11_canSplit_7 rfl (lv_at hl 2 rfl) ?_
    refine k_Si (n := 1) X hw (c_X11_isSort l G _ y) wd_r26_3 wd_r26_4 wd_r1_5 wd_r26_5 ⟨by decide, by decide, by decide +kernel⟩ rfl rfl ⟨Nat.le_of_ble_eq_true rfl, Nat.le_of_ble_eq_true rfl⟩ rfl rfl hl.1 (Nat.le_of_ble_eq_true rfl) dX11_canSplit_8 ⟨Nat.le_of_ble_eq_true rfl, Nat.le_of_ble_eq_true rfl⟩ (fun r8_5 S8_7 H locs h8_6 hw => ?_)
    rcases h8_6 with ⟨rfl, rfl, h8_6⟩ | ⟨rfl, rfl, h8_6⟩
    · have h8_6 := h8_6
      refine lv_if_eq (tgt := 28) hx hb dX11_canSplit_11 (by decide) (fun c11_8 => absurd c11_8 (by decide)) (fun c11_8 => ?_)
      refine lv_iload_n hx hb dX11_canSplit_14 rfl (lv_at hl 3 rfl) ?_
      refine lv_if_lt (tgt := 28) hx hb dX11_canSplit_15 (by decide) (fun c15_9 => ?_) (fun c15_9 => ?_)
      · have D15_9 := iLt c15_9 rfl t_0
        refine lv_iconst (v := 0) hx hb dX11_canSplit_28 (by decide) ?_
        exact hret 0 _ _ _ _ _ (Or.inr ⟨rfl, rfl, by omega⟩) hw rfl dX11_canSplit_29
      · have D15_9 := iNlt c15_9 rfl t_0
        refine lv_iload_n hx hb dX11_canSplit_18 rfl (lv_at hl 3 rfl) ?_
        refine lv_bipush (v := 40) hx hb dX11_canSplit_19 (by decide) ?_
        refine lv_icmp_gt (tgt := 28) hx hb dX11_canSplit_21 (by decide) (fun c21_10 => ?_) (fun c21_10 => ?_)
        · have D21_10 := iLt c21_10 t_40 rfl
          refine lv_iconst (v := 0) hx hb dX11_canSplit_28 (by decide) ?_
          exact hret 0 _ _ _ _ _ (Or.inr ⟨rfl, rfl, by omega⟩) hw rfl dX11_canSplit_29
        · have D21_10 := iNlt c21_10 t_40 rfl
          refine lv_iconst (v := 1) hx hb dX11_canSplit_24 (by decide) ?_
          refine lv_goto (tgt := 29) hx hb dX11_canSplit_25 (by decide) ?_
          exact hret 1 _ _ _ _ _ (Or.inl ⟨rfl, rfl, by omega⟩) hw rfl dX11_canSplit_29
    · have h8_6 := h8_6
      refine lv_if_eq (tgt := 28) hx hb dX11_canSplit_11 (by decide) (fun c11_11 => ?_) (fun c11_11 => absurd c11_11 (by decide))
      refine lv_iconst (v := 0) hx hb dX11_canSplit_28 (by decide) ?_
      exact hret 0 _ _ _ _ _ (Or.inr ⟨rfl, rfl, by omega⟩) hw rfl dX11_canSplit_29
  · have h1_2 := h1_2
    refine lv_if_eq (tgt := 28) hx hb dX11_canSplit_4 (by decide) (fun c4_12 => ?_) (fun c4_12 => absurd c4_12 (by decide))
    refine lv_iconst (v := 0) hx hb dX11_canSplit_28 (by decide) ?_
    exact hret 0 _ _ _ _ _ (Or.inr ⟨rfl, rfl, by omega⟩) hw rfl dX11_canSplit_29
