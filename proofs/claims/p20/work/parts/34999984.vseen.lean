
set_option maxHeartbeats 4000000 in
set_option maxRecDepth 100000 in
theorem c_w_X10_seen (l : Launch) (G : Gh) (S : Pl) (d sa sb sp te tm pe : Nat → Nat) (tf pf nt np : Nat) (t x n : Int32) (V : SV) (tl : Nat → TP) (pl : Nat → PP) (hC : CIs G S d sa sb sp te tm pe tf pf nt np) (hN : CIn (pI S) d te pe nt np) (hct : Ct (qI S) sa (stl V.2)) (hTV : TV S te tm nt tl V) (hPV : PV S pe np pl) (hvk : vok V) (hpv : ∀ k, k < np → ppV (pl k)) (hAp : Apt d sa sb sp) : MtL l yX10_seen cX10_seen 4 (some .long) (Rm 6 0 0) G [.ref (d 0), .int t, .int x, .int n] S (fun (r : Int64) (S' : Pl) => ∃ I' q' y', ch S I' (pJ S) q' y' = S' ∧ (∀ f, f ∉ [45, 46, 47] → I' f = pI S f) ∧ KP sp (qI S) q' ∧ r.toInt = (if (0 ≤ t.toInt ∧ t.toInt ≤ 72) ∧ (0 ≤ x.toInt ∧ x.toInt < 2) ∧ (0 ≤ n.toInt ∧ n.toInt ≤ 40) then val (oOf (sbF V.2 tl (fun k => odF V.2 (tl k) pl (fun k => pI S 0 (pe k)) np) t.toNatClampNeg 1 nt)) (gsm V.2 x.toNatClampNeg) 64 n.toNatClampNeg else -1)) 0 0 := by
  refine MtL.of (by decide) (Nat.le_of_ble_eq_true rfl) ?_
  intro p e s m args below meth c Q A X hw hin hret ls hl
  have hx := X.1.1
  have hb := X.1.2.1
  have hl : lv_has ls 4 [(0, .ref (d 0)), (1, .int t), (2, .int x), (3, .int n)] := hl
  obtain ⟨k0, r70, r71, r72, r73, r74, r75, r76, r77, hR, hS, hB, hSp, ⟨kco, nco⟩, lT, lP, n68, n79, hTl, hPk, hPi, n40⟩ := id hC
  obtain ⟨z92, z93, zw, zz, zst, zs6⟩ := id hN
  have hTp := hR.2.2.2.2.2.2.2
  have n60 := lP.2.2.1
  have oS := hS
  have oTp := hTp
  have oPk := hPk
  have oTl := hTl
  have oC := hC
  have hOB : ∀ k, k < nt → 0 ≤ ((fun k => odF V.2 (tl k) pl (fun k => pI S 0 (pe k)) np) k).toInt ∧ ((fun k => odF V.2 (tl k) pl (fun k => pI S 0 (pe k)) np) k).toInt ≤ 1000000000000000 := od_all hvk (fun k9 h9 => by have z9 := zw k9 h9; rw [(hTV.1 k9 h9).1.2.2.2.2] at z9; exact z9) hpv zs6
  have hodE : cOK (sbF V.2 tl (fun k => odF V.2 (tl k) pl (fun k => pI S 0 (pe k)) np) t.toNatClampNeg 1 nt) 40000000000000000 := cOK_le (sb_ok n40 hOB nt (Nat.le_refl _)) (by omega)
  have h40E : ctP (sbF V.2 tl (fun k => odF V.2 (tl k) pl (fun k => pI S 0 (pe k)) np) t.toNatClampNeg 1 nt) 64 ≤ 40 := Nat.le_trans (ct_sb nt) n40
  refine lv_iload_n hx hb dX10_seen_0 rfl (lv_at hl 1 rfl) ?_
  refine k_Si (n := 1) X hw (c_X10_isMoment l G _ t) wd_r30_6 wd_r30_7 wd_r1_2 wd_r30_8 ⟨by decide, by decide, by decide +kernel⟩ rfl rfl ⟨Nat.le_of_ble_eq_true rfl, Nat.le_of_ble_eq_true rfl⟩ rfl rfl hl.1 (Nat.le_of_ble_eq_true rfl) dX10_seen_1 ⟨Nat.le_of_ble_eq_true rfl, Nat.le_of_ble_eq_true rfl⟩ (fun r1_1 S1_3 H locs h1_2 hw => ?_)
  rcases h1_2 with ⟨rfl, rfl, h1_2⟩ | ⟨rfl, rfl, h1_2⟩
  · have h1_2 := h1_2
    refine lv_if_eq (tgt := 17) hx hb dX10_seen_4 (by decide) (fun c4_4 => absurd c4_4 (by decide)) (fun c4_4 => ?_)
    refine lv_iload_n hx hb dX10_seen_7 rfl (lv_at hl 2 rfl) ?_
    refine lv_iload_n hx hb dX10_seen_8 rfl (lv_at hl 3 rfl) ?_
    refine lv_bipush (v := 40) hx hb dX10_seen_9 (by decide) ?_
    refine k_Si (n := 3) X hw (c_X10_isMeans l G _ x n 40) wd_r25_21 wd_r16_4 wd_r1_2 wd_r16_5 ⟨by decide, by decide, by decide +kernel⟩ rfl rfl ⟨Nat.le_of_ble_eq_true rfl, Nat.le_of_ble_eq_true rfl⟩ rfl rfl hl.1 (Nat.le_of_ble_eq_true rfl) dX10_seen_11 ⟨Nat.le_of_ble_eq_true rfl, Nat.le_of_ble_eq_true rfl⟩ (fun r11_5 S11_7 H locs h11_6 hw => ?_)
    have := t_40
    rcases h11_6 with ⟨rfl, rfl, h11_6⟩ | ⟨rfl, rfl, h11_6⟩
    · have h11_6 := h11_6
      refine lv_if_ne (tgt := 21) hx hb dX10_seen_14 (by decide) (fun c14_8 => ?_) (fun c14_8 => absurd c14_8 (by decide))
      refine lv_aload_n hx hb dX10_seen_21 rfl (lv_at hl 0 rfl) ?_
      refine lv_iload_n hx hb dX10_seen_22 rfl (lv_at hl 1 rfl) ?_
      refine lv_iconst (v := 1) hx hb dX10_seen_23 (by decide) ?_
      refine k_Vv (n := 2) X hw (rcvk (ci := 10) X hw k0 (fun _ _ _ _ _ _ _ => ⟨_, rfl⟩) rfl) (c_v_X10_sumByCell l G _ d sa sb sp te tm pe tf pf nt np t 1 V tl pl hC hN hct hTV hPV (by omega)) wd_r38_6 wd_r38_7 wd_r38_8 wd_r1_2 wd_r38_9 ⟨by decide, by decide, by decide +kernel⟩ rfl rfl ⟨Nat.le_of_ble_eq_true rfl, Nat.le_of_ble_eq_true rfl⟩ rfl rfl hl.1 (Nat.le_of_ble_eq_true rfl) dX10_seen_24 ⟨Nat.le_of_ble_eq_true rfl, Nat.le_of_ble_eq_true rfl⟩ (fun S24_10 H locs h24_9 hw => ?_)
      have := t_1
      obtain ⟨y24_11, rfl, h24_9⟩ := h24_9
      have hw : PX G A s.heap (ch S (pI S) (pJ S) (qI S) y24_11) H locs := hw
      have hSB := h24_9
      refine lv_aload_n hx hb dX10_seen_27 rfl (lv_at hl 0 rfl) ?_
      refine gf_X10_38 (b := (sp 0)) X hw k0 r74 dX10_seen_28 ?_
      refine lv_aload_n hx hb dX10_seen_31 rfl (lv_at hl 0 rfl) ?_
      refine gf_X10_42 (b := (d 16)) X hw k0 r75 dX10_seen_32 ?_
      refine lv_aload_n hx hb dX10_seen_35 rfl (lv_at hl 0 rfl) ?_
      refine gf_X10_49 (b := (sa 0)) X hw k0 r76 dX10_seen_36 ?_
      refine lv_iload_n hx hb dX10_seen_39 rfl (lv_at hl 2 rfl) ?_
      refine lv_iload_n hx hb dX10_seen_40 rfl (lv_at hl 3 rfl) ?_
      refine k_Vv (n := 4) X hw (rcvk (ci := 6) X hw hSp.1 (fun _ _ _ _ _ _ _ => ⟨_, rfl⟩) rfl) (c_w_X6_weigh l G _ sp (d 16) sa x n (sbF V.2 tl (fun k => odF V.2 (tl k) pl (fun k => pI S 0 (pe k)) np) t.toNatClampNeg 1 nt) V hSp ⟨kco, nco⟩ hS hSB h40E hodE hvk (by omega) hct (fun j9 h9 => (hAp.2.2.2.1 j9 h9).1.2.2) (by omega)) wd_r39_18 wd_r39_19 wd_r39_20 wd_r2_3 wd_r39_21 ⟨by decide, by decide, by decide +kernel⟩ rfl rfl ⟨Nat.le_of_ble_eq_true rfl, Nat.le_of_ble_eq_true rfl⟩ rfl rfl hl.1 (Nat.le_of_ble_eq_true rfl) dX10_seen_41 ⟨Nat.le_of_ble_eq_true rfl, Nat.le_of_ble_eq_true rfl⟩ (fun S41_13 H locs h41_12 hw => ?_)
      obtain ⟨I41_14, q41_15, y41_16, rfl, h41_12⟩ := h41_12
      have hw : PX G A s.heap (ch S I41_14 (pJ S) q41_15 y41_16) H locs := hw
      have hWG := h41_12
      have hgE := gsm_ok hvk (w := x.toNatClampNeg) (by have := cl_toInt (x := x) (by omega); omega)
      refine lv_aload_n hx hb dX10_seen_44 rfl (lv_at hl 0 rfl) ?_
      refine gf_X10_38 (b := (sp 0)) X hw k0 r74 dX10_seen_45 ?_
      refine k_Vl (n := 0) X hw (rcvk (ci := 6) X hw hSp.1 (fun _ _ _ _ _ _ _ => ⟨_, rfl⟩) rfl) (c_v_X6_mostSeen l G _ sp (sbF V.2 tl (fun k => odF V.2 (tl k) pl (fun k => pI S 0 (pe k)) np) t.toNatClampNeg 1 nt) (gsm V.2 x.toNatClampNeg) n.toNatClampNeg hSp hWG.2.1 hWG.2.2.1 hodE hgE hWG.2.2.2.2) wd_r40_23 wd_r41_0 wd_r41_1 wd_r2_3 wd_r41_2 ⟨by decide, by decide, by decide +kernel⟩ rfl rfl ⟨Nat.le_of_ble_eq_true rfl, Nat.le_of_ble_eq_true rfl⟩ rfl rfl hl.1 (Nat.le_of_ble_eq_true rfl) dX10_seen_48 ⟨Nat.le_of_ble_eq_true rfl, Nat.le_of_ble_eq_true rfl⟩ (fun r48_17 S48_19 H locs h48_18 hw => ?_)
      obtain ⟨rfl, h48_18⟩ := h48_18
      have hms := h48_18
      exact hret r48_17 _ _ _ _ _ ⟨_, _, _, rfl, hWG.1, hWG.2.2.2.1, by rw [if_pos (by omega)]; exact hms⟩ hw dX10_seen_51
    · have h11_6 := h11_6
      refine lv_if_ne (tgt := 21) hx hb dX10_seen_14 (by decide) (fun c14_20 => absurd c14_20 (by decide)) (fun c14_20 => ?_)
      refine lv_ldc2 hx hb X.1.2.2.2.1 (X.1.2.2.2.2 _ wd_r36_2) dX10_seen_17 ?_
      exact hret (-1) _ _ _ _ _ ⟨_, _, _, rfl, fun _ _ => rfl, KP.rf, by rw [if_neg (by omega)]; decide⟩ hw dX10_seen_20
  · have h1_2 := h1_2
    refine lv_if_eq (tgt := 17) hx hb dX10_seen_4 (by decide) (fun c4_21 => ?_) (fun c4_21 => absurd c4_21 (by decide))
    refine lv_ldc2 hx hb X.1.2.2.2.1 (X.1.2.2.2.2 _ wd_r36_2) dX10_seen_17 ?_
    exact hret (-1) _ _ _ _ _ ⟨_, _, _, rfl, fun _ _ => rfl, KP.rf, by rw [if_neg (by omega)]; decide⟩ hw dX10_seen_20
set_option maxHeartbeats 4000000 in
set_option maxRecDepth 100000 in
theorem c_w_X10_split (l : Launch) (G : Gh) (S : Pl) (d sa sb sp te tm pe : Nat → Nat) (tf pf nt np : Nat) (t x n z : Int32) (V : SV) (tl : Nat → TP) (pl : Nat → PP) (hC : CIs G S d sa sb sp te tm pe tf pf nt np) (hN : CIn (pI S) d te pe nt np) (hct : Ct (qI S) sa (stl V.2)) (hTV : TV S te tm nt tl V) (hPV : PV S pe np pl) (hvk : vok V) (hpv : ∀ k, k < np → ppV (pl k)) (hAp : Apt d sa sb sp) : MtI l yX10_split cX10_split 5 (some .int) (Rm 6 0 0) G [.ref (d 0), .int t, .int x, .int n, .int z] S (fun (r : Int32) (S' : Pl) => ∃ I' q' y', ch S I' (pJ S) q' y' = S' ∧ (∀ f, f ∉ [45, 46, 47] → I' f = pI S f) ∧ KP sp (qI S) q' ∧ (((((0 ≤ t.toInt ∧ t.toInt ≤ 72) ∧ (0 ≤ x.toInt ∧ x.toInt < 2) ∧ (0 ≤ n.toInt ∧ n.toInt ≤ 40)) ∧ (0 ≤ z.toInt ∧ z.toInt < 64)) ∧ 0 ≤ r.toInt ∧ gets (oOf (sbF V.2 tl (fun k => odF V.2 (tl k) pl (fun k => pI S 0 (pe k)) np) t.toNatClampNeg 1 nt)) (gsm V.2 x.toNatClampNeg) n.toNatClampNeg z.toNatClampNeg r.toNatClampNeg) ∨ (¬ (((0 ≤ t.toInt ∧ t.toInt ≤ 72) ∧ (0 ≤ x.toInt ∧ x.toInt < 2) ∧ (0 ≤ n.toInt ∧ n.toInt ≤ 40)) ∧ (0 ≤ z.toInt ∧ z.toInt < 64)) ∧ r = -1))) 0 0 := by
  refine MtI.of (by decide) (Nat.le_of_ble_eq_true rfl) ?_
  intro p e s m args below meth c Q A X hw hin hret ls hl
  have hx := X.1.1
  have hb := X.1.2.1
  have hl : lv_has ls 5 [(0, .ref (d 0)), (1, .int t), (2, .int x), (3, .int n), (4, .int z)] := hl
  obtain ⟨k0, r70, r71, r72, r73, r74, r75, r76, r77, hR, hS, hB, hSp, ⟨kco, nco⟩, lT, lP, n68, n79, hTl, hPk, hPi, n40⟩ := id hC
  obtain ⟨z92, z93, zw, zz, zst, zs6⟩ := id hN
  have hTp := hR.2.2.2.2.2.2.2
  have n60 := lP.2.2.1
  have oS := hS
  have oTp := hTp
  have oPk := hPk
  have oTl := hTl
  have oC := hC
  have hOB : ∀ k, k < nt → 0 ≤ ((fun k => odF V.2 (tl k) pl (fun k => pI S 0 (pe k)) np) k).toInt ∧ ((fun k => odF V.2 (tl k) pl (fun k => pI S 0 (pe k)) np) k).toInt ≤ 1000000000000000 := od_all hvk (fun k9 h9 => by have z9 := zw k9 h9; rw [(hTV.1 k9 h9).1.2.2.2.2] at z9; exact z9) hpv zs6
  have hodE : cOK (sbF V.2 tl (fun k => odF V.2 (tl k) pl (fun k => pI S 0 (pe k)) np) t.toNatClampNeg 1 nt) 40000000000000000 := cOK_le (sb_ok n40 hOB nt (Nat.le_refl _)) (by omega)
  have h40E : ctP (sbF V.2 tl (fun k => odF V.2 (tl k) pl (fun k => pI S 0 (pe k)) np) t.toNatClampNeg 1 nt) 64 ≤ 40 := Nat.le_trans (ct_sb nt) n40
  refine lv_iload_n hx hb dX10_split_0 rfl (lv_at hl 1 rfl) ?_
  refine k_Si (n := 1) X hw (c_X10_isMoment l G _ t) wd_r30_6 wd_r30_7 wd_r1_2 wd_r30_8 ⟨by decide, by decide, by decide +kernel⟩ rfl rfl ⟨Nat.le_of_ble_eq_true rfl, Nat.le_of_ble_eq_true rfl⟩ rfl rfl hl.1 (Nat.le_of_ble_eq_true rfl) dX10_split_1 ⟨Nat.le_of_ble_eq_true rfl, Nat.le_of_ble_eq_true rfl⟩ (fun r1_1 S1_3 H locs h1_2 hw => ?_)
  rcases h1_2 with ⟨rfl, rfl, h1_2⟩ | ⟨rfl, rfl, h1_2⟩
  · have h1_2 := h1_2
    refine lv_if_eq (tgt := 25) hx hb dX10_split_4 (by decide) (fun c4_4 => absurd c4_4 (by decide)) (fun c4_4 => ?_)
    refine lv_iload_n hx hb dX10_split_7 rfl (lv_at hl 2 rfl) ?_
    refine lv_iload_n hx hb dX10_split_8 rfl (lv_at hl 3 rfl) ?_
    refine lv_bipush (v := 40) hx hb dX10_split_9 (by decide) ?_
    refine k_Si (n := 3) X hw (c_X10_isMeans l G _ x n 40) wd_r25_21 wd_r16_4 wd_r1_2 wd_r16_5 ⟨by decide, by decide, by decide +kernel⟩ rfl rfl ⟨Nat.le_of_ble_eq_true rfl, Nat.le_of_ble_eq_true rfl⟩ rfl rfl hl.1 (Nat.le_of_ble_eq_true rfl) dX10_split_11 ⟨Nat.le_of_ble_eq_true rfl, Nat.le_of_ble_eq_true rfl⟩ (fun r11_5 S11_7 H locs h11_6 hw => ?_)
    have := t_40
    rcases h11_6 with ⟨rfl, rfl, h11_6⟩ | ⟨rfl, rfl, h11_6⟩
    · have h11_6 := h11_6
      refine lv_if_eq (tgt := 25) hx hb dX10_split_14 (by decide) (fun c14_8 => absurd c14_8 (by decide)) (fun c14_8 => ?_)
      refine lv_iload hx hb dX10_split_17 (lv_at hl 4 rfl) ?_
      refine k_Si (n := 1) X hw (c_X10_isCell l G _ z) wd_r26_14 wd_r15_22 wd_r1_2 wd_r15_23 ⟨by decide, by decide, by decide +kernel⟩ rfl rfl ⟨Nat.le_of_ble_eq_true rfl, Nat.le_of_ble_eq_true rfl⟩ rfl rfl hl.1 (Nat.le_of_ble_eq_true rfl) dX10_split_19 ⟨Nat.le_of_ble_eq_true rfl, Nat.le_of_ble_eq_true rfl⟩ (fun r19_9 S19_11 H locs h19_10 hw => ?_)
      rcases h19_10 with ⟨rfl, rfl, h19_10⟩ | ⟨rfl, rfl, h19_10⟩
      · have h19_10 := h19_10
        refine lv_if_ne (tgt := 27) hx hb dX10_split_22 (by decide) (fun c22_12 => ?_) (fun c22_12 => absurd c22_12 (by decide))
        refine lv_aload_n hx hb dX10_split_27 rfl (lv_at hl 0 rfl) ?_
        refine lv_iload_n hx hb dX10_split_28 rfl (lv_at hl 1 rfl) ?_
        refine lv_iconst (v := 1) hx hb dX10_split_29 (by decide) ?_
        refine k_Vv (n := 2) X hw (rcvk (ci := 10) X hw k0 (fun _ _ _ _ _ _ _ => ⟨_, rfl⟩) rfl) (c_v_X10_sumByCell l G _ d sa sb sp te tm pe tf pf nt np t 1 V tl pl hC hN hct hTV hPV (by omega)) wd_r38_6 wd_r38_7 wd_r38_8 wd_r1_2 wd_r38_9 ⟨by decide, by decide, by decide +kernel⟩ rfl rfl ⟨Nat.le_of_ble_eq_true rfl, Nat.le_of_ble_eq_true rfl⟩ rfl rfl hl.1 (Nat.le_of_ble_eq_true rfl) dX10_split_30 ⟨Nat.le_of_ble_eq_true rfl, Nat.le_of_ble_eq_true rfl⟩ (fun S30_14 H locs h30_13 hw => ?_)
        have := t_1
        obtain ⟨y30_15, rfl, h30_13⟩ := h30_13
        have hw : PX G A s.heap (ch S (pI S) (pJ S) (qI S) y30_15) H locs := hw
        have hSB := h30_13
        refine lv_aload_n hx hb dX10_split_33 rfl (lv_at hl 0 rfl) ?_
        refine gf_X10_38 (b := (sp 0)) X hw k0 r74 dX10_split_34 ?_
        refine lv_aload_n hx hb dX10_split_37 rfl (lv_at hl 0 rfl) ?_
        refine gf_X10_42 (b := (d 16)) X hw k0 r75 dX10_split_38 ?_
        refine lv_aload_n hx hb dX10_split_41 rfl (lv_at hl 0 rfl) ?_
        refine gf_X10_49 (b := (sa 0)) X hw k0 r76 dX10_split_42 ?_
        refine lv_iload_n hx hb dX10_split_45 rfl (lv_at hl 2 rfl) ?_
        refine lv_iload_n hx hb dX10_split_46 rfl (lv_at hl 3 rfl) ?_
        refine k_Vv (n := 4) X hw (rcvk (ci := 6) X hw hSp.1 (fun _ _ _ _ _ _ _ => ⟨_, rfl⟩) rfl) (c_w_X6_weigh l G _ sp (d 16) sa x n (sbF V.2 tl (fun k => odF V.2 (tl k) pl (fun k => pI S 0 (pe k)) np) t.toNatClampNeg 1 nt) V hSp ⟨kco, nco⟩ hS hSB h40E hodE hvk (by omega) hct (fun j9 h9 => (hAp.2.2.2.1 j9 h9).1.2.2) (by omega)) wd_r39_18 wd_r39_19 wd_r39_20 wd_r2_3 wd_r39_21 ⟨by decide, by decide, by decide +kernel⟩ rfl rfl ⟨Nat.le_of_ble_eq_true rfl, Nat.le_of_ble_eq_true rfl⟩ rfl rfl hl.1 (Nat.le_of_ble_eq_true rfl) dX10_split_47 ⟨Nat.le_of_ble_eq_true rfl, Nat.le_of_ble_eq_true rfl⟩ (fun S47_17 H locs h47_16 hw => ?_)
        obtain ⟨I47_18, q47_19, y47_20, rfl, h47_16⟩ := h47_16
        have hw : PX G A s.heap (ch S I47_18 (pJ S) q47_19 y47_20) H locs := hw
        have hWG := h47_16
        have hgE := gsm_ok hvk (w := x.toNatClampNeg) (by have := cl_toInt (x := x) (by omega); omega)
        refine lv_aload_n hx hb dX10_split_50 rfl (lv_at hl 0 rfl) ?_
        refine gf_X10_38 (b := (sp 0)) X hw k0 r74 dX10_split_51 ?_
        refine lv_iload hx hb dX10_split_54 (lv_at hl 4 rfl) ?_
        refine k_Vi (n := 1) X hw (rcvk (ci := 6) X hw hSp.1 (fun _ _ _ _ _ _ _ => ⟨_, rfl⟩) rfl) (c_v_X6_givenTo l G _ sp z (sbF V.2 tl (fun k => odF V.2 (tl k) pl (fun k => pI S 0 (pe k)) np) t.toNatClampNeg 1 nt) (gsm V.2 x.toNatClampNeg) n.toNatClampNeg hSp hWG.2.1 hWG.2.2.1 hodE hgE hWG.2.2.2.2 (by omega)) wd_r42_2 wd_r42_3 wd_r42_4 wd_r2_3 wd_r42_5 ⟨by decide, by decide, by decide +kernel⟩ rfl rfl ⟨Nat.le_of_ble_eq_true rfl, Nat.le_of_ble_eq_true rfl⟩ rfl rfl hl.1 (Nat.le_of_ble_eq_true rfl) dX10_split_56 ⟨Nat.le_of_ble_eq_true rfl, Nat.le_of_ble_eq_true rfl⟩ (fun r56_21 S56_23 H locs h56_22 hw => ?_)
        obtain ⟨rfl, h56_22⟩ := h56_22
        have hgt := h56_22
        exact hret r56_21 _ _ _ _ _ ⟨_, _, _, rfl, hWG.1, hWG.2.2.2.1, Or.inl ⟨by omega, hgt⟩⟩ hw rfl dX10_split_59
      · have h19_10 := h19_10
        refine lv_if_ne (tgt := 27) hx hb dX10_split_22 (by decide) (fun c22_24 => absurd c22_24 (by decide)) (fun c22_24 => ?_)
        refine lv_iconst (v := -1) hx hb dX10_split_25 (by decide) ?_
        exact hret (-1) _ _ _ _ _ ⟨_, _, _, rfl, fun _ _ => rfl, KP.rf, Or.inr ⟨by omega, rfl⟩⟩ hw rfl dX10_split_26
    · have h11_6 := h11_6
      refine lv_if_eq (tgt := 25) hx hb dX10_split_14 (by decide) (fun c14_25 => ?_) (fun c14_25 => absurd c14_25 (by decide))
      refine lv_iconst (v := -1) hx hb dX10_split_25 (by decide) ?_
      exact hret (-1) _ _ _ _ _ ⟨_, _, _, rfl, fun _ _ => rfl, KP.rf, Or.inr ⟨by omega, rfl⟩⟩ hw rfl dX10_split_26
  · have h1_2 := h1_2
    refine lv_if_eq (tgt := 25) hx hb dX10_split_4 (by decide) (fun c4_26 => ?_) (fun c4_26 => absurd c4_26 (by decide))
    refine lv_iconst (v := -1) hx hb dX10_split_25 (by decide) ?_
    exact hret (-1) _ _ _ _ _ ⟨_, _, _, rfl, fun _ _ => rfl, KP.rf, Or.inr ⟨by omega, rfl⟩⟩ hw rfl dX10_split_26
