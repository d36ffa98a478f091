
set_option maxHeartbeats 4000000 in
set_option maxRecDepth 100000 in
theorem c_v_X11_sumUp (l : Launch) (G : Gh) (S : Pl) (ma : Nat → Nat) (n z : Int32) (bk : Nat) (V : SV) (tl : Nat → TP) (pl : Nat → PP) (hM : shMod S ma) (hI : mInv (pI S) (qI S) ma) (hn : 0 ≤ n.toInt ∧ n.toInt ≤ 72) (hbk : (pI S 120 (ma 0)).toInt = (bk : Int)) (hbk1 : bk ≤ 1) (hMB : MBk (qI S) ma bk V.2) (hvk : vok V) (hTl : ∀ k : Nat, (k : Int) < (pI S 128 (ma 0)).toInt → mTP (qI S) ma k (tl k)) (hPl : ∀ k : Nat, (k : Int) < (pI S 140 (ma 0)).toInt → mPP (qI S) ma k (pl k) ∧ ppO (pl k)) : MtV l yX11_sumUp cX11_sumUp 6 none (Rm 5 0 0) G [.ref (ma 0), .int n, .int z] S (fun (S' : Pl) => ∃ I' J' y', ch S I' J' (qI S) y' = S' ∧ FrD (pI S) I' ∧ cOK (y' (ma 42)) 40000000000000000 ∧ (∀ a, a ≠ ma 42 → y' a = qJ S a) ∧ sbR y' (ma 42) V.2 tl (fun k => odF V.2 (tl k) pl (qI S (ma 40)) (pI S 140 (ma 0)).toInt.toNat) n.toNatClampNeg z (pI S 128 (ma 0)).toInt.toNat ∧ J' 142 (ma 0) = alF (fun k => odF V.2 (tl k) pl (qI S (ma 40)) (pI S 140 (ma 0)).toInt.toNat) (pI S 128 (ma 0)).toInt.toNat) 0 0 := by
  refine MtV.of (by decide) (Nat.le_of_ble_eq_true rfl) ?_
  intro p e s m args below meth c Q A X hw hin hret ls hl
  have hx := X.1.1
  have hb := X.1.2.1
  have hl : lv_has ls 6 [(0, .ref (ma 0)), (1, .int n), (2, .int z)] := hl
  obtain ⟨⟨b1, b2, b3, b4, b5, b6⟩, hT, hP, hC⟩ := id hI
  refine lv_iconst (v := 0) hx hb dX11_sumUp_0 (by decide) ?_
  refine lv_istore_n (lv' := [(3, .int 0), (0, .ref (ma 0)), (1, .int n), (2, .int z)]) hx hb dX11_sumUp_1 rfl hl (by decide) rfl (fun ls hl => ?_)
  have lp2 : ∀ (N9 : Nat) (y2 : Nat → Nat → Int64) (k : Int32), (0 ≤ k.toInt ∧ k.toInt ≤ 64) → (∀ a : Nat, (a : Int) < k.toInt → y2 (ma 42) a = 0) → (∀ a, a ≠ ma 42 → y2 a = qJ S a) → (64 - k.toInt).toNat < N9 → ∀ (H : Heap) (locs : List Loc) (ls : Array Slot), PX G A s.heap (ch S (pI S) (pJ S) (qI S) y2) H locs → lv_has ls 6 [(3, .int k), (0, .ref (ma 0)), (1, .int n), (2, .int z)] → W p l e (Rm 5 0 0) s m args below meth c H locs 0 0 Q (F0 m 2 ls []) := by
    intro N9
    induction N9 with
    | zero => intro y2 k hk h0 hya hm; exact absurd hm (Nat.not_lt_zero _)
    | succ N9 ih2 =>
      intro y2 k hk h0 hya hm H locs ls hw hl
      refine lv_iload_n hx hb dX11_sumUp_2 rfl (lv_at hl 0 rfl) ?_
      refine lv_bipush (v := 64) hx hb dX11_sumUp_3 (by decide) ?_
      refine lv_icmp_ge (tgt := 21) hx hb dX11_sumUp_5 (by decide) (fun c5_1 => ?_) (fun c5_1 => ?_)
      · have D5_1 := iLe c5_1 t_64 rfl
        refine lv_aload_n hx hb dX11_sumUp_21 rfl (lv_at hl 1 rfl) ?_
        refine lv_lconst (v := 0) hx hb dX11_sumUp_22 (by decide) ?_
        refine pf_X11_277 X hw hM.1 dX11_sumUp_23 (fun H locs hw => ?_)
        have hw : PX G A s.heap (ch S (pI S) (up2 (pJ S) 142 (ma 0) 0) (qI S) y2) H locs := hw
        refine lv_iconst (v := 0) hx hb dX11_sumUp_26 (by decide) ?_
        refine lv_istore_n (lv' := [(3, .int 0), (0, .ref (ma 0)), (1, .int n), (2, .int z)]) hx hb dX11_sumUp_27 rfl hl (by decide) rfl (fun ls hl => ?_)
        have lp28 : ∀ (N9 : Nat) (I28 : Nat → Nat → Int32) (J28 : Nat → Nat → Int64) (y28 : Nat → Nat → Int64) (i : Int32), (FrD (pI S) I28) → (0 ≤ i.toInt ∧ i.toInt ≤ (pI S 128 (ma 0)).toInt) → (cOK (y28 (ma 42)) (1000000000000000 * i.toInt)) → (∀ a, a ≠ ma 42 → y28 a = qJ S a) → (sbR y28 (ma 42) V.2 tl (fun k => odF V.2 (tl k) pl (qI S (ma 40)) (pI S 140 (ma 0)).toInt.toNat) n.toNatClampNeg z i.toNatClampNeg) → (J28 142 (ma 0) = alF (fun k => odF V.2 (tl k) pl (qI S (ma 40)) (pI S 140 (ma 0)).toInt.toNat) i.toNatClampNeg) → (40 - i.toInt).toNat < N9 → ∀ (H : Heap) (locs : List Loc) (ls : Array Slot), PX G A s.heap (ch S I28 J28 (qI S) y28) H locs → lv_has ls 6 [(3, .int i), (0, .ref (ma 0)), (1, .int n), (2, .int z)] → W p l e (Rm 5 0 0) s m args below meth c H locs 0 0 Q (F0 m 28 ls []) := by
          intro N9
          induction N9 with
          | zero => intro I28 J28 y28 i hF hi hc hya hsb hal hm; exact absurd hm (Nat.not_lt_zero _)
          | succ N9 ih28 =>
            intro I28 J28 y28 i hF hi hc hya hsb hal hm H locs ls hw hl
            have h28 := FrD.at hF (f := 128) (by decide) (ma 0)
            have h40 := FrD.at hF (f := 140) (by decide) (ma 0)
            have hbF := FrD.at hF (f := 120) (by decide) (ma 0)
            refine lv_iload_n hx hb dX11_sumUp_28 rfl (lv_at hl 0 rfl) ?_
            refine lv_aload_n hx hb dX11_sumUp_29 rfl (lv_at hl 1 rfl) ?_
            refine gf_X11_224 (v := I28 128 (ma 0)) X hw hM.1 rfl dX11_sumUp_30 ?_
            refine lv_icmp_ge (tgt := 99) hx hb dX11_sumUp_33 (by decide) (fun c33_2 => ?_) (fun c33_2 => ?_)
            · have D33_2 := iLe c33_2 rfl rfl
              exact hret _ _ _ _ _ ⟨_, _, _, rfl, hF, cOK_le hc (by omega), hya, (by rw [show (pI S 128 (ma 0)).toInt.toNat = i.toNatClampNeg by have := cl_toInt (x := i) hi.1; omega]; exact hsb), (by rw [show (pI S 128 (ma 0)).toInt.toNat = i.toNatClampNeg by have := cl_toInt (x := i) hi.1; omega]; exact hal)⟩ hw dX11_sumUp_99
            · have D33_2 := iNle c33_2 rfl rfl
              refine lv_aload_n hx hb dX11_sumUp_36 rfl (lv_at hl 1 rfl) ?_
              refine lv_iload_n hx hb dX11_sumUp_37 rfl (lv_at hl 0 rfl) ?_
              refine k_Vl (n := 1) X hw (rcvk (ci := 11) X hw hM.1 (fun _ _ _ _ _ _ _ => ⟨_, rfl⟩) rfl) (c_v_X11_oddsOf l G _ ma i bk V tl pl hM (hI.d hF) (show 0 ≤ i.toInt ∧ i.toInt < (I28 128 (ma 0) : Int32).toInt by omega) (show (I28 120 (ma 0) : Int32).toInt = (bk : Int) by omega) hbk1 hMB hvk (fun k9 h9 => hTl k9 (by have h8 : (k9 : Int) < (I28 128 (ma 0)).toInt := h9; omega)) (fun k9 h9 => hPl k9 (by have h8 : (k9 : Int) < (I28 140 (ma 0)).toInt := h9; omega))) wd_r37_15 wd_r37_16 wd_r37_17 wd_r1_5 wd_r37_18 ⟨by decide, by decide, by decide +kernel⟩ rfl rfl ⟨Nat.le_of_ble_eq_true rfl, Nat.le_of_ble_eq_true rfl⟩ rfl rfl hl.1 (Nat.le_of_ble_eq_true rfl) dX11_sumUp_38 ⟨Nat.le_of_ble_eq_true rfl, Nat.le_of_ble_eq_true rfl⟩ (fun r38_3 S38_5 H locs h38_4 hw => ?_)
              obtain ⟨I38_6, rfl, h38_4⟩ := h38_4
              have hw : PX G A s.heap (ch S I38_6 J28 (qI S) y28) H locs := hw
              have h28b := FrD.at (FrD.tr hF h38_4.1) (f := 128) (by decide) (ma 0)
              have hbFb := FrD.at (FrD.tr hF h38_4.1) (f := 120) (by decide) (ma 0)
              have hod := And.intro h38_4.2.1 h38_4.2.2.1
              have hod9 : r38_3 = (fun k => odF V.2 (tl k) pl (qI S (ma 40)) (pI S 140 (ma 0)).toInt.toNat) i.toNatClampNeg := by have z9 : r38_3 = odF V.2 (tl i.toNatClampNeg) pl (qI S (ma 40)) (I28 140 (ma 0)).toInt.toNat := h38_4.2.2.2; rw [hF 140 (by decide)] at z9; exact z9
              refine lv_lstore (lv' := [(4, .long r38_3), (3, .int i), (0, .ref (ma 0)), (1, .int n), (2, .int z)]) hx hb dX11_sumUp_41 hl (by decide) rfl (fun ls hl => ?_)
              refine lv_aload_n hx hb dX11_sumUp_43 rfl (lv_at hl 2 rfl) ?_
              refine lv_dup hx hb dX11_sumUp_44 rfl ?_
              refine gf_X11_277 (v := J28 142 (ma 0)) X hw hM.1 rfl dX11_sumUp_45 ?_
              refine lv_lload hx hb dX11_sumUp_48 (lv_at hl 0 rfl) ?_
              refine lv_ladd hx hb dX11_sumUp_50 ?_
              refine lv_topl (fun v50_7 e50_7 => ?_)
              have e50n := e50_7
              refine pf_X11_277 X hw hM.1 dX11_sumUp_51 (fun H locs hw => ?_)
              have hw : PX G A s.heap (ch S I38_6 (up2 J28 142 (ma 0) v50_7) (qI S) y28) H locs := hw
              refine lv_aload_n hx hb dX11_sumUp_54 rfl (lv_at hl 2 rfl) ?_
              refine lv_iload_n hx hb dX11_sumUp_55 rfl (lv_at hl 1 rfl) ?_
              refine lv_iload_n hx hb dX11_sumUp_56 rfl (lv_at hl 3 rfl) ?_
              refine k_Vv (n := 2) X hw (rcvk (ci := 11) X hw hM.1 (fun _ _ _ _ _ _ _ => ⟨_, rfl⟩) rfl) (c_v_X11_drift l G _ ma i n bk V (tl i.toNatClampNeg) hM (hI.d (FrD.tr hF h38_4.1)) (show 0 ≤ i.toInt ∧ i.toInt < (I38_6 128 (ma 0) : Int32).toInt by omega) (by omega) (show (I38_6 120 (ma 0) : Int32).toInt = (bk : Int) by omega) hbk1 hMB hvk (hTl _ (by have := cl_toInt (x := i) (by omega); omega))) wd_r31_3 wd_r31_4 wd_r31_5 wd_r1_5 wd_r31_6 ⟨by decide, by decide, by decide +kernel⟩ rfl rfl ⟨Nat.le_of_ble_eq_true rfl, Nat.le_of_ble_eq_true rfl⟩ rfl rfl hl.1 (Nat.le_of_ble_eq_true rfl) dX11_sumUp_57 ⟨Nat.le_of_ble_eq_true rfl, Nat.le_of_ble_eq_true rfl⟩ (fun S57_9 H locs h57_8 hw => ?_)
              obtain ⟨I57_10, rfl, h57_8⟩ := h57_8
              have hw : PX G A s.heap (ch S I57_10 (up2 J28 142 (ma 0) v50_7) (qI S) y28) H locs := hw
              have HD : (I57_10 131 (ma 0)).toInt ≠ 2 → 0 ≤ (I57_10 129 (ma 0)).toInt ∧ (I57_10 129 (ma 0)).toInt < 80 ∧ 0 ≤ (I57_10 130 (ma 0)).toInt ∧ (I57_10 130 (ma 0)).toInt < 80 := h57_8.2.1
              have HDR := h57_8.2.2
              have HDt := congrArg Int32.toInt HDR.1
              have hokm := i012 (drA_ok (C := V.2) ((hTl i.toNatClampNeg (by have := cl_toInt (x := i) hi.1; omega)).r hT hi.1 (by omega)) n.toNatClampNeg).2
              refine lv_aload_n hx hb dX11_sumUp_60 rfl (lv_at hl 2 rfl) ?_
              refine gf_X11_240 (v := I57_10 131 (ma 0)) X hw hM.1 rfl dX11_sumUp_61 ?_
              refine lv_if_eq (tgt := 79) hx hb dX11_sumUp_64 (by decide) (fun c64_11 => ?_) (fun c64_11 => ?_)
              · have D64_11 := iEq c64_11 rfl t_0
                refine lv_aload_n hx hb dX11_sumUp_79 rfl (lv_at hl 2 rfl) ?_
                refine gf_X11_129 (b := (ma 42)) X hw hM.1 (mr_42 hM) dX11_sumUp_80 ?_
                refine lv_aload_n hx hb dX11_sumUp_83 rfl (lv_at hl 2 rfl) ?_
                refine k_Vi (n := 0) X hw (rcvk (ci := 11) X hw hM.1 (fun _ _ _ _ _ _ _ => ⟨_, rfl⟩) rfl) (c_v_X11_cellHere l G _ ma hM (px_of (a := (I57_10 129 (ma 0) : Int32)) (b := (I57_10 130 (ma 0) : Int32)) rfl rfl (by omega))) wd_r31_11 wd_r31_12 wd_r31_13 wd_r1_5 wd_r31_14 ⟨by decide, by decide, by decide +kernel⟩ rfl rfl ⟨Nat.le_of_ble_eq_true rfl, Nat.le_of_ble_eq_true rfl⟩ rfl rfl hl.1 (Nat.le_of_ble_eq_true rfl) dX11_sumUp_84 ⟨Nat.le_of_ble_eq_true rfl, Nat.le_of_ble_eq_true rfl⟩ (fun r84_12 S84_14 H locs h84_13 hw => ?_)
                obtain ⟨rfl, h84_13⟩ := h84_13
                have hch := h84_13.2
                have hcz9 : r84_12 = cellZ (drA V.2 (tl i.toNatClampNeg) n.toNatClampNeg).1 (drA V.2 (tl i.toNatClampNeg) n.toNatClampNeg).2.1 := by have z9 := HDR.2 (fun q9 => absurd (congrArg Int32.toInt q9) (by have := t_2; have := t_1; have := t_0; omega)); rw [← z9.1, ← z9.2]; exact h84_13.1
                refine lv_dup2_11 hx hb dX11_sumUp_87 rfl rfl ?_
                refine q_ldJ X hw (mk_42 hM) (vin (mn_42 hM) (by omega) (by omega)) dX11_sumUp_88 ?_
                refine lv_topl (fun v88_15 e88_15 => ?_)
                have e88_15 : v88_15 = y28 (ma 42) r84_12.toNatClampNeg := e88_15
                have e88n := e88_15
                refine lv_lload hx hb dX11_sumUp_89 (lv_at hl 0 rfl) ?_
                refine lv_ladd hx hb dX11_sumUp_91 ?_
                refine lv_topl (fun v91_16 e91_16 => ?_)
                have e91n := e91_16
                refine q_stJ X hw (mk_42 hM) (vin (mn_42 hM) (by omega) (by omega)) dX11_sumUp_92 (fun H locs hw => ?_)
                obtain ⟨y92_17, ey92_17, hw⟩ : ∃ zz9, zz9 = va_up y28 (ma 42) (vp_updL (y28 (ma 42)) r84_12.toNatClampNeg v91_16) ∧ PX G A s.heap (ch S I57_10 (up2 J28 142 (ma 0) v50_7) (qI S) zz9) H locs := ⟨_, rfl, hw⟩
                have c92 := ey92_17
                obtain ⟨v93_18, e93_18⟩ : ∃ y : Int32, y = i + 1 := ⟨_, rfl⟩
                have t93_18 := iAdd e93_18 rfl t_1 (by omega) (by omega)
                have t93 := t93_18
                refine lv_iinc (v := v93_18) (lv' := [(3, .int v93_18), (4, .long r38_3), (0, .ref (ma 0)), (1, .int n), (2, .int z)]) hx hb dX11_sumUp_93 hl (k := 1) rfl (by rw [e93_18]; rfl) (by decide) rfl (fun ls hl => ?_)
                refine lv_goto (tgt := 28) hx hb dX11_sumUp_96 (by decide) ?_
                exact ih28 I57_10 (up2 J28 142 (ma 0) v50_7) y92_17 v93_18 (FrD.tr (FrD.tr hF h38_4.1) h57_8.1) (by omega) (by first | exact cOK_le hc (by omega) | exact cOK_le (cOK_add hc (by omega) e88n e91n hod (by rw [c92, vu_s]) (by omega)) (by omega)) (by first | exact hya | exact fun a h => by rw [c92, vu_n h]; exact hya a h) (by first | exact sb_y (O := (fun k => odF V.2 (tl k) pl (qI S (ma 40)) (pI S 140 (ma 0)).toInt.toNat)) hsb hi.1 t93 ⟨(by have := t_1; omega), (by first | exact Or.inl (by assumption) | exact Or.inr (by omega))⟩ hcz9 (by omega) e88n hod9 e91n c92 | exact sb_n hsb hi.1 t93 (fun q9 => by have := t_1; have := t_0; have z9 := q9.1; first | omega | exact q9.2.elim (fun e9 => absurd e9 (by assumption)) (fun e9 => absurd e9 (by omega)))) (up2_s.trans (alf_s (O := (fun k => odF V.2 (tl k) pl (qI S (ma 40)) (pI S 140 (ma 0)).toInt.toNat)) hal hi.1 t93 hod9 e50n)) (by omega) _ _ _ hw (lv_sub hl [0, 2, 3, 4] rfl)
              · have D64_11 := iNe c64_11 rfl t_0
                refine lv_aload_n hx hb dX11_sumUp_67 rfl (lv_at hl 2 rfl) ?_
                refine gf_X11_240 (v := I57_10 131 (ma 0)) X hw hM.1 rfl dX11_sumUp_68 ?_
                refine lv_iconst (v := 1) hx hb dX11_sumUp_71 (by decide) ?_
                refine lv_icmp_ne (tgt := 93) hx hb dX11_sumUp_72 (by decide) (fun c72_19 => ?_) (fun c72_19 => ?_)
                · have D72_19 := iNe c72_19 rfl t_1
                  obtain ⟨v93_20, e93_20⟩ : ∃ y : Int32, y = i + 1 := ⟨_, rfl⟩
                  have t93_20 := iAdd e93_20 rfl t_1 (by omega) (by omega)
                  have t93 := t93_20
                  refine lv_iinc (v := v93_20) (lv' := [(3, .int v93_20), (4, .long r38_3), (0, .ref (ma 0)), (1, .int n), (2, .int z)]) hx hb dX11_sumUp_93 hl (k := 1) rfl (by rw [e93_20]; rfl) (by decide) rfl (fun ls hl => ?_)
                  refine lv_goto (tgt := 28) hx hb dX11_sumUp_96 (by decide) ?_
                  exact ih28 I57_10 (up2 J28 142 (ma 0) v50_7) y28 v93_20 (FrD.tr (FrD.tr hF h38_4.1) h57_8.1) (by omega) (by first | exact cOK_le hc (by omega) | exact cOK_le (cOK_add hc (by omega) e88n e91n hod (by rw [c92, vu_s]) (by omega)) (by omega)) (by first | exact hya | exact fun a h => by rw [c92, vu_n h]; exact hya a h) (by first | exact sb_y (O := (fun k => odF V.2 (tl k) pl (qI S (ma 40)) (pI S 140 (ma 0)).toInt.toNat)) hsb hi.1 t93 ⟨(by have := t_1; omega), (by first | exact Or.inl (by assumption) | exact Or.inr (by omega))⟩ hcz9 (by omega) e88n hod9 e91n c92 | exact sb_n hsb hi.1 t93 (fun q9 => by have := t_1; have := t_0; have z9 := q9.1; first | omega | exact q9.2.elim (fun e9 => absurd e9 (by assumption)) (fun e9 => absurd e9 (by omega)))) (up2_s.trans (alf_s (O := (fun k => odF V.2 (tl k) pl (qI S (ma 40)) (pI S 140 (ma 0)).toInt.toNat)) hal hi.1 t93 hod9 e50n)) (by omega) _ _ _ hw (lv_sub hl [0, 2, 3, 4] rfl)
                · have D72_19 := iEq c72_19 rfl t_1
                  refine lv_iload_n hx hb dX11_sumUp_75 rfl (lv_at hl 4 rfl) ?_
                  refine lv_if_ne (tgt := 93) hx hb dX11_sumUp_76 (by decide) (fun c76_21 => ?_) (fun c76_21 => ?_)
                  · have D76_21 := iNe c76_21 rfl t_0
                    obtain ⟨v93_22, e93_22⟩ : ∃ y : Int32, y = i + 1 := ⟨_, rfl⟩
                    have t93_22 := iAdd e93_22 rfl t_1 (by omega) (by omega)
                    have t93 := t93_22
                    refine lv_iinc (v := v93_22) (lv' := [(3, .int v93_22), (4, .long r38_3), (0, .ref (ma 0)), (1, .int n), (2, .int z)]) hx hb dX11_sumUp_93 hl (k := 1) rfl (by rw [e93_22]; rfl) (by decide) rfl (fun ls hl => ?_)
                    refine lv_goto (tgt := 28) hx hb dX11_sumUp_96 (by decide) ?_
                    exact ih28 I57_10 (up2 J28 142 (ma 0) v50_7) y28 v93_22 (FrD.tr (FrD.tr hF h38_4.1) h57_8.1) (by omega) (by first | exact cOK_le hc (by omega) | exact cOK_le (cOK_add hc (by omega) e88n e91n hod (by rw [c92, vu_s]) (by omega)) (by omega)) (by first | exact hya | exact fun a h => by rw [c92, vu_n h]; exact hya a h) (by first | exact sb_y (O := (fun k => odF V.2 (tl k) pl (qI S (ma 40)) (pI S 140 (ma 0)).toInt.toNat)) hsb hi.1 t93 ⟨(by have := t_1; omega), (by first | exact Or.inl (by assumption) | exact Or.inr (by omega))⟩ hcz9 (by omega) e88n hod9 e91n c92 | exact sb_n hsb hi.1 t93 (fun q9 => by have := t_1; have := t_0; have z9 := q9.1; first | omega | exact q9.2.elim (fun e9 => absurd e9 (by assumption)) (fun e9 => absurd e9 (by omega)))) (up2_s.trans (alf_s (O := (fun k => odF V.2 (tl k) pl (qI S (ma 40)) (pI S 140 (ma 0)).toInt.toNat)) hal hi.1 t93 hod9 e50n)) (by omega) _ _ _ hw (lv_sub hl [0, 2, 3, 4] rfl)
                  · have D76_21 := iEq c76_21 rfl t_0
                    refine lv_aload_n hx hb dX11_sumUp_79 rfl (lv_at hl 2 rfl) ?_
                    refine gf_X11_129 (b := (ma 42)) X hw hM.1 (mr_42 hM) dX11_sumUp_80 ?_
                    refine lv_aload_n hx hb dX11_sumUp_83 rfl (lv_at hl 2 rfl) ?_
                    refine k_Vi (n := 0) X hw (rcvk (ci := 11) X hw hM.1 (fun _ _ _ _ _ _ _ => ⟨_, rfl⟩) rfl) (c_v_X11_cellHere l G _ ma hM (px_of (a := (I57_10 129 (ma 0) : Int32)) (b := (I57_10 130 (ma 0) : Int32)) rfl rfl (by omega))) wd_r31_11 wd_r31_12 wd_r31_13 wd_r1_5 wd_r31_14 ⟨by decide, by decide, by decide +kernel⟩ rfl rfl ⟨Nat.le_of_ble_eq_true rfl, Nat.le_of_ble_eq_true rfl⟩ rfl rfl hl.1 (Nat.le_of_ble_eq_true rfl) dX11_sumUp_84 ⟨Nat.le_of_ble_eq_true rfl, Nat.le_of_ble_eq_true rfl⟩ (fun r84_23 S84_25 H locs h84_24 hw => ?_)
                    obtain ⟨rfl, h84_24⟩ := h84_24
                    have hch := h84_24.2
                    have hcz9 : r84_23 = cellZ (drA V.2 (tl i.toNatClampNeg) n.toNatClampNeg).1 (drA V.2 (tl i.toNatClampNeg) n.toNatClampNeg).2.1 := by have z9 := HDR.2 (fun q9 => absurd (congrArg Int32.toInt q9) (by have := t_2; have := t_1; have := t_0; omega)); rw [← z9.1, ← z9.2]; exact h84_24.1
                    refine lv_dup2_11 hx hb dX11_sumUp_87 rfl rfl ?_
                    refine q_ldJ X hw (mk_42 hM) (vin (mn_42 hM) (by omega) (by omega)) dX11_sumUp_88 ?_
                    refine lv_topl (fun v88_26 e88_26 => ?_)
                    have e88_26 : v88_26 = y28 (ma 42) r84_23.toNatClampNeg := e88_26
                    have e88n := e88_26
                    refine lv_lload hx hb dX11_sumUp_89 (lv_at hl 0 rfl) ?_
                    refine lv_ladd hx hb dX11_sumUp_91 ?_
                    refine lv_topl (fun v91_27 e91_27 => ?_)
                    have e91n := e91_27
                    refine q_stJ X hw (mk_42 hM) (vin (mn_42 hM) (by omega) (by omega)) dX11_sumUp_92 (fun H locs hw => ?_)
                    obtain ⟨y92_28, ey92_28, hw⟩ : ∃ zz9, zz9 = va_up y28 (ma 42) (vp_updL (y28 (ma 42)) r84_23.toNatClampNeg v91_27) ∧ PX G A s.heap (ch S I57_10 (up2 J28 142 (ma 0) v50_7) (qI S) zz9) H locs := ⟨_, rfl, hw⟩
                    have c92 := ey92_28
                    obtain ⟨v93_29, e93_29⟩ : ∃ y : Int32, y = i + 1 := ⟨_, rfl⟩
                    have t93_29 := iAdd e93_29 rfl t_1 (by omega) (by omega)
                    have t93 := t93_29
                    refine lv_iinc (v := v93_29) (lv' := [(3, .int v93_29), (4, .long r38_3), (0, .ref (ma 0)), (1, .int n), (2, .int z)]) hx hb dX11_sumUp_93 hl (k := 1) rfl (by rw [e93_29]; rfl) (by decide) rfl (fun ls hl => ?_)
                    refine lv_goto (tgt := 28) hx hb dX11_sumUp_96 (by decide) ?_
                    exact ih28 I57_10 (up2 J28 142 (ma 0) v50_7) y92_28 v93_29 (FrD.tr (FrD.tr hF h38_4.1) h57_8.1) (by omega) (by first | exact cOK_le hc (by omega) | exact cOK_le (cOK_add hc (by omega) e88n e91n hod (by rw [c92, vu_s]) (by omega)) (by omega)) (by first | exact hya | exact fun a h => by rw [c92, vu_n h]; exact hya a h) (by first | exact sb_y (O := (fun k => odF V.2 (tl k) pl (qI S (ma 40)) (pI S 140 (ma 0)).toInt.toNat)) hsb hi.1 t93 ⟨(by have := t_1; omega), (by first | exact Or.inl (by assumption) | exact Or.inr (by omega))⟩ hcz9 (by omega) e88n hod9 e91n c92 | exact sb_n hsb hi.1 t93 (fun q9 => by have := t_1; have := t_0; have z9 := q9.1; first | omega | exact q9.2.elim (fun e9 => absurd e9 (by assumption)) (fun e9 => absurd e9 (by omega)))) (up2_s.trans (alf_s (O := (fun k => odF V.2 (tl k) pl (qI S (ma 40)) (pI S 140 (ma 0)).toInt.toNat)) hal hi.1 t93 hod9 e50n)) (by omega) _ _ _ hw (lv_sub hl [0, 2, 3, 4] rfl)
        exact lp28 _ (pI S) (up2 (pJ S) 142 (ma 0) 0) y2 0 FrD.rf (by have := t_0; omega) (cOK_le (cOK_0 (fun a h => h0 a (by omega))) (by have := t_0; omega)) hya (sb_0 (fun k9 h9 => h0 k9 (by omega))) (up2_s.trans alf_0) (Nat.lt_succ_self _) _ _ _ hw (lv_sub hl [0, 1, 2, 3] rfl)
      · have D5_1 := iNle c5_1 t_64 rfl
        refine lv_aload_n hx hb dX11_sumUp_8 rfl (lv_at hl 1 rfl) ?_
        refine gf_X11_129 (b := (ma 42)) X hw hM.1 (mr_42 hM) dX11_sumUp_9 ?_
        refine lv_iload_n hx hb dX11_sumUp_12 rfl (lv_at hl 0 rfl) ?_
        refine lv_lconst (v := 0) hx hb dX11_sumUp_13 (by decide) ?_
        refine q_stJ X hw (mk_42 hM) (vin (mn_42 hM) (by omega) (by omega)) dX11_sumUp_14 (fun H locs hw => ?_)
        obtain ⟨y14_30, ey14_30, hw⟩ : ∃ zz9, zz9 = va_up y2 (ma 42) (vp_updL (y2 (ma 42)) k.toNatClampNeg 0) ∧ PX G A s.heap (ch S (pI S) (pJ S) (qI S) zz9) H locs := ⟨_, rfl, hw⟩
        have c14 := ey14_30
        obtain ⟨v15_31, e15_31⟩ : ∃ y : Int32, y = k + 1 := ⟨_, rfl⟩
        have t15_31 := iAdd e15_31 rfl t_1 (by omega) (by omega)
        have t15 := t15_31
        refine lv_iinc (v := v15_31) (lv' := [(3, .int v15_31), (0, .ref (ma 0)), (1, .int n), (2, .int z)]) hx hb dX11_sumUp_15 hl (k := 0) rfl (by rw [e15_31]; rfl) (by decide) rfl (fun ls hl => ?_)
        refine lv_goto (tgt := 2) hx hb dX11_sumUp_18 (by decide) ?_
        exact ih2 y14_30 v15_31 (by omega) (zero_s h0 c14 (by omega) t15) (fun a h => by rw [c14, vu_n h]; exact hya a h) (by omega) _ _ _ hw (lv_sub hl [0, 1, 2, 3] rfl)
  exact lp2 _ (qJ S) 0 (by have := t_0; omega) (fun a h => by have := t_0; omega) (fun _ _ => rfl) (Nat.lt_succ_self _) _ _ _ hw (lv_sub hl [0, 1, 2, 3] rfl)
set_option maxHeartbeats 4000000 in
set_option maxRecDepth 100000 in
theorem c_v_X11_divisor (l : Launch) (G : Gh) (S : Pl) (u w : Int64) (hu : u.toInt ≠ 0) (huw : 0 ≤ u.toInt ∧ 0 ≤ w.toInt) : MtL l yX11_divisor cX11_divisor 10 (some .long) (Rm 0 0 0) G [.long u, .long w] S (fun (r : Int64) (S' : Pl) => S = S' ∧ r.toInt = (gcI u.toInt w.toInt : Nat)) 0 0 := by
  refine MtL.of (by decide) (Nat.le_of_ble_eq_true rfl) ?_
  intro p e s m args below meth c Q A X hw hin hret ls hl
  have hx := X.1.1
  have hb := X.1.2.1
  have hl : lv_has ls 10 [(0, .long u), (2, .long w)] := hl
  refine lv_lload_n hx hb dX11_divisor_0 rfl (lv_at hl 0 rfl) ?_
  refine lv_lstore (lv' := [(4, .long u), (0, .long u), (2, .long w)]) hx hb dX11_divisor_1 hl (by decide) rfl (fun ls hl => ?_)
  refine lv_lload_n hx hb dX11_divisor_3 rfl (lv_at hl 2 rfl) ?_
  refine lv_lstore (lv' := [(6, .long w), (4, .long u), (0, .long u), (2, .long w)]) hx hb dX11_divisor_4 hl (by decide) rfl (fun ls hl => ?_)
  have lp6 : ∀ (N9 : Nat) (x : Int64) (y : Int64), (0 ≤ x.toInt ∧ 0 ≤ y.toInt) → (gcI x.toInt y.toInt = gcI u.toInt w.toInt) → y.toInt.natAbs < N9 → ∀ (H : Heap) (locs : List Loc) (ls : Array Slot), PX G A s.heap S H locs → lv_has ls 10 [(6, .long y), (4, .long x), (0, .long u), (2, .long w)] → W p l e (Rm 0 0 0) s m args below meth c H locs 0 0 Q (F0 m 6 ls []) := by
    intro N9
    induction N9 with
    | zero => intro x y hxy hg hm; exact absurd hm (Nat.not_lt_zero _)
    | succ N9 ih6 =>
      intro x y hxy hg hm H locs ls hw hl
      refine lv_lload hx hb dX11_divisor_6 (lv_at hl 0 rfl) ?_
      refine lv_lconst (v := 0) hx hb dX11_divisor_8 (by decide) ?_
      refine W.lcmp hx hb dX11_divisor_9 ?_
      refine lv_topi (fun v9_1 e9_1 => ?_)
      refine lv_if_eq (tgt := 31) hx hb dX11_divisor_10 (by decide) (fun c10_2 => ?_) (fun c10_2 => ?_)
      · have D10_2 := lc_eq e9_1 c10_2
        refine lv_lload hx hb dX11_divisor_31 (lv_at hl 1 rfl) ?_
        exact hret x _ _ _ _ _ ⟨rfl, by have e9 : y.toInt = 0 := (by have := (by decide : (0:Int64).toInt = 0); omega); rw [← hg, e9, gcI_0]; omega⟩ hw dX11_divisor_33
      · have D10_2 := lcn_eq e9_1 c10_2
        refine lv_lload hx hb dX11_divisor_13 (lv_at hl 1 rfl) ?_
        refine lv_lload hx hb dX11_divisor_15 (lv_at hl 0 rfl) ?_
        refine lv_lrem hx hb dX11_divisor_17 (lne0 (by have := (by decide : (0:Int64).toInt = 0); omega)) ?_
        refine lv_topl (fun v17_3 e17_3 => ?_)
        have r17 := lremA e17_3 (by have := (by decide : (0:Int64).toInt = 0); omega)
        have r17p := lremP e17_3 (by omega) (by have := (by decide : (0:Int64).toInt = 0); omega)
        have r17n := Int.emod_nonneg x.toInt (show y.toInt ≠ 0 by have := (by decide : (0:Int64).toInt = 0); omega)
        refine lv_lstore (lv' := [(8, .long v17_3), (6, .long y), (4, .long x), (0, .long u), (2, .long w)]) hx hb dX11_divisor_18 hl (by decide) rfl (fun ls hl => ?_)
        refine lv_lload hx hb dX11_divisor_20 (lv_at hl 1 rfl) ?_
        refine lv_lstore (lv' := [(4, .long y), (8, .long v17_3), (6, .long y), (0, .long u), (2, .long w)]) hx hb dX11_divisor_22 hl (by decide) rfl (fun ls hl => ?_)
        refine lv_lload hx hb dX11_divisor_24 (lv_at hl 1 rfl) ?_
        refine lv_lstore (lv' := [(6, .long v17_3), (4, .long y), (8, .long v17_3), (0, .long u), (2, .long w)]) hx hb dX11_divisor_26 hl (by decide) rfl (fun ls hl => ?_)
        refine lv_goto (tgt := 6) hx hb dX11_divisor_28 (by decide) ?_
        exact ih6  y v17_3 (by have := (by decide : (0:Int64).toInt = 0); omega) (by have := (by decide : (0:Int64).toInt = 0); exact (gcI_s (by omega) (by omega) r17p).trans hg) (by omega) _ _ _ hw (lv_sub hl [0, 1, 3, 4] rfl)
  exact lp6 _  u w huw rfl (Nat.lt_succ_self _) _ _ _ hw (lv_sub hl [0, 1, 2, 3] rfl)
set_option maxHeartbeats 4000000 in
set_option maxRecDepth 100000 in
theorem c_v_X11_share (l : Launch) (G : Gh) (S : Pl) (ma : Nat → Nat) (x n z : Int32) (bk : Nat) (V : SV) (tl : Nat → TP) (pl : Nat → PP) (hM : shMod S ma) (hI : mInv (pI S) (qI S) ma) (hbk : (pI S 120 (ma 0)).toInt = (bk : Int)) (hbk1 : bk ≤ 1) (hMB : MBk (qI S) ma bk V.2) (hvk : vok V) (hTl : ∀ k : Nat, (k : Int) < (pI S 128 (ma 0)).toInt → mTP (qI S) ma k (tl k)) (hPl : ∀ k : Nat, (k : Int) < (pI S 140 (ma 0)).toInt → mPP (qI S) ma k (pl k) ∧ ppO (pl k)) (hOB : ∀ k, k < (pI S 128 (ma 0)).toInt.toNat → 0 ≤ ((fun k => odF V.2 (tl k) pl (qI S (ma 40)) (pI S 140 (ma 0)).toInt.toNat) k).toInt ∧ ((fun k => odF V.2 (tl k) pl (qI S (ma 40)) (pI S 140 (ma 0)).toInt.toNat) k).toInt ≤ 1000000000000000) : MtL l yX11_share cX11_share 6 (some .long) (Rm 6 0 0) G [.ref (ma 0), .int x, .int n, .int z] S (fun (r : Int64) (S' : Pl) => ∃ I' J' y', ch S I' J' (qI S) y' = S' ∧ FrD (pI S) I' ∧ r.toInt = (if (0 ≤ x.toInt ∧ x.toInt < 64) ∧ 0 ≤ n.toInt ∧ n.toInt ≤ 72 then shI (sbF V.2 tl (fun k => odF V.2 (tl k) pl (qI S (ma 40)) (pI S 140 (ma 0)).toInt.toNat) n.toNatClampNeg 0 (pI S 128 (ma 0)).toInt.toNat x.toNatClampNeg).toInt (alF (fun k => odF V.2 (tl k) pl (qI S (ma 40)) (pI S 140 (ma 0)).toInt.toNat) (pI S 128 (ma 0)).toInt.toNat).toInt z else -1)) 0 0 := by
  refine MtL.of (by decide) (Nat.le_of_ble_eq_true rfl) ?_
  intro p e s m args below meth c Q A X hw hin hret ls hl
  have hx := X.1.1
  have hb := X.1.2.1
  have hl : lv_has ls 6 [(0, .ref (ma 0)), (1, .int x), (2, .int n), (3, .int z)] := hl
  obtain ⟨⟨b1, b2, b3, b4, b5, b6⟩, hT, hP, hC⟩ := id hI
  have hcb9 := sbb_b (C := V.2) (tl := tl) (t := n.toNatClampNeg) (z := 0) (N := (pI S 128 (ma 0)).toInt.toNat) (by omega) hOB x.toNatClampNeg _ (Nat.le_refl _)
  have hab9 := alf_b (N := (pI S 128 (ma 0)).toInt.toNat) (by omega) hOB _ (Nat.le_refl _)
  refine lv_iload_n hx hb dX11_share_0 rfl (lv_at hl 1 rfl) ?_
  refine lv_if_lt (tgt := 17) hx hb dX11_share_1 (by decide) (fun c1_1 => ?_) (fun c1_1 => ?_)
  · have D1_1 := iLt c1_1 rfl t_0
    refine lv_ldc2 hx hb X.1.2.2.2.1 (X.1.2.2.2.2 _ wd_r37_14) dX11_share_17 ?_
    exact hret (-1) _ _ _ _ _ ⟨_, _, _, rfl, FrD.rf, by rw [if_neg (by omega)]; decide⟩ hw dX11_share_20
  · have D1_1 := iNlt c1_1 rfl t_0
    refine lv_iload_n hx hb dX11_share_4 rfl (lv_at hl 1 rfl) ?_
    refine lv_bipush (v := 64) hx hb dX11_share_5 (by decide) ?_
    refine lv_icmp_ge (tgt := 17) hx hb dX11_share_7 (by decide) (fun c7_2 => ?_) (fun c7_2 => ?_)
    · have D7_2 := iLe c7_2 t_64 rfl
      refine lv_ldc2 hx hb X.1.2.2.2.1 (X.1.2.2.2.2 _ wd_r37_14) dX11_share_17 ?_
      exact hret (-1) _ _ _ _ _ ⟨_, _, _, rfl, FrD.rf, by rw [if_neg (by omega)]; decide⟩ hw dX11_share_20
    · have D7_2 := iNle c7_2 t_64 rfl
      refine lv_iload_n hx hb dX11_share_10 rfl (lv_at hl 2 rfl) ?_
      refine k_Si (n := 1) X hw (c_X11_isMoment l G _ n) wd_r31_0 wd_r31_1 wd_r1_5 wd_r31_2 ⟨by decide, by decide, by decide +kernel⟩ rfl rfl ⟨Nat.le_of_ble_eq_true rfl, Nat.le_of_ble_eq_true rfl⟩ rfl rfl hl.1 (Nat.le_of_ble_eq_true rfl) dX11_share_11 ⟨Nat.le_of_ble_eq_true rfl, Nat.le_of_ble_eq_true rfl⟩ (fun r11_3 S11_5 H locs h11_4 hw => ?_)
      rcases h11_4 with ⟨rfl, rfl, h11_4⟩ | ⟨rfl, rfl, h11_4⟩
      · have h11_4 := h11_4
        refine lv_if_ne (tgt := 21) hx hb dX11_share_14 (by decide) (fun c14_6 => ?_) (fun c14_6 => absurd c14_6 (by decide))
        refine lv_aload_n hx hb dX11_share_21 rfl (lv_at hl 0 rfl) ?_
        refine lv_iload_n hx hb dX11_share_22 rfl (lv_at hl 2 rfl) ?_
        refine lv_iconst (v := 0) hx hb dX11_share_23 (by decide) ?_
        refine k_Vv (n := 2) X hw (rcvk (ci := 11) X hw hM.1 (fun _ _ _ _ _ _ _ => ⟨_, rfl⟩) rfl) (c_v_X11_sumUp l G _ ma n 0 bk V tl pl hM hI (by omega) hbk hbk1 hMB hvk hTl hPl) wd_r38_23 wd_r39_0 wd_r39_1 wd_r1_5 wd_r39_2 ⟨by decide, by decide, by decide +kernel⟩ rfl rfl ⟨Nat.le_of_ble_eq_true rfl, Nat.le_of_ble_eq_true rfl⟩ rfl rfl hl.1 (Nat.le_of_ble_eq_true rfl) dX11_share_24 ⟨Nat.le_of_ble_eq_true rfl, Nat.le_of_ble_eq_true rfl⟩ (fun S24_8 H locs h24_7 hw => ?_)
        have := t_0
        obtain ⟨I24_9, J24_10, y24_11, rfl, h24_7⟩ := h24_7
        have hw : PX G A s.heap (ch S I24_9 J24_10 (qI S) y24_11) H locs := hw
        have hSB := h24_7.2.2.2.1
        have hAL := congrArg Int64.toInt h24_7.2.2.2.2
        refine lv_aload_n hx hb dX11_share_27 rfl (lv_at hl 0 rfl) ?_
        refine gf_X11_129 (b := (ma 42)) X hw hM.1 (mr_42 hM) dX11_share_28 ?_
        refine lv_iload_n hx hb dX11_share_31 rfl (lv_at hl 1 rfl) ?_
        refine q_ldJ X hw (mk_42 hM) (vin (mn_42 hM) (by omega) (by omega)) dX11_share_32 ?_
        refine lv_topl (fun v32_12 e32_12 => ?_)
        have e32_12 : v32_12 = y24_11 (ma 42) x.toNatClampNeg := e32_12
        have hc32 := congrArg Int64.toInt (e32_12.trans (hSB x.toNatClampNeg (by have := cl_toInt (x := x) (by omega); omega)))
        refine lv_lconst (v := 0) hx hb dX11_share_33 (by decide) ?_
        refine W.lcmp hx hb dX11_share_34 ?_
        refine lv_topi (fun v34_13 e34_13 => ?_)
        refine lv_if_ne (tgt := 48) hx hb dX11_share_35 (by decide) (fun c35_14 => ?_) (fun c35_14 => ?_)
        · have D35_14 := lc_ne e34_13 c35_14
          refine lv_aload_n hx hb dX11_share_48 rfl (lv_at hl 0 rfl) ?_
          refine gf_X11_129 (b := (ma 42)) X hw hM.1 (mr_42 hM) dX11_share_49 ?_
          refine lv_iload_n hx hb dX11_share_52 rfl (lv_at hl 1 rfl) ?_
          refine q_ldJ X hw (mk_42 hM) (vin (mn_42 hM) (by omega) (by omega)) dX11_share_53 ?_
          refine lv_topl (fun v53_15 e53_15 => ?_)
          have e53_15 : v53_15 = y24_11 (ma 42) x.toNatClampNeg := e53_15
          have hc53 := congrArg Int64.toInt (e53_15.trans (hSB x.toNatClampNeg (by have := cl_toInt (x := x) (by omega); omega)))
          refine lv_aload_n hx hb dX11_share_54 rfl (lv_at hl 0 rfl) ?_
          refine gf_X11_277 (v := J24_10 142 (ma 0)) X hw hM.1 rfl dX11_share_55 ?_
          refine k_Sl (n := 2) X hw (c_v_X11_divisor l G _ v53_15 (J24_10 142 (ma 0)) (by have := (by decide : (0:Int64).toInt = 0); omega) (by omega)) wd_r39_3 wd_r39_4 wd_r1_5 wd_r39_5 ⟨by decide, by decide, by decide +kernel⟩ rfl rfl ⟨Nat.le_of_ble_eq_true rfl, Nat.le_of_ble_eq_true rfl⟩ rfl rfl hl.1 (Nat.le_of_ble_eq_true rfl) dX11_share_58 ⟨Nat.le_of_ble_eq_true rfl, Nat.le_of_ble_eq_true rfl⟩ (fun r58_16 S58_18 H locs h58_17 hw => ?_)
          obtain ⟨rfl, h58_17⟩ := h58_17
          have hg58 : r58_16.toInt = (gcI (sbF V.2 tl (fun k => odF V.2 (tl k) pl (qI S (ma 40)) (pI S 140 (ma 0)).toInt.toNat) n.toNatClampNeg 0 (pI S 128 (ma 0)).toInt.toNat x.toNatClampNeg).toInt (alF (fun k => odF V.2 (tl k) pl (qI S (ma 40)) (pI S 140 (ma 0)).toInt.toNat) (pI S 128 (ma 0)).toInt.toNat).toInt : Nat) := by rw [h58_17, hc53, hAL]
          have hgp := gc_pos (a := (alF (fun k => odF V.2 (tl k) pl (qI S (ma 40)) (pI S 140 (ma 0)).toInt.toNat) (pI S 128 (ma 0)).toInt.toNat).toInt) (c := (sbF V.2 tl (fun k => odF V.2 (tl k) pl (qI S (ma 40)) (pI S 140 (ma 0)).toInt.toNat) n.toNatClampNeg 0 (pI S 128 (ma 0)).toInt.toNat x.toNatClampNeg).toInt) (by have := (by decide : (0:Int64).toInt = 0); omega)
          refine lv_lstore (lv' := [(4, .long r58_16), (0, .ref (ma 0)), (1, .int x), (2, .int n), (3, .int z)]) hx hb dX11_share_61 hl (by decide) rfl (fun ls hl => ?_)
          refine lv_iload_n hx hb dX11_share_63 rfl (lv_at hl 4 rfl) ?_
          refine lv_if_eq (tgt := 74) hx hb dX11_share_64 (by decide) (fun c64_19 => ?_) (fun c64_19 => ?_)
          · have D64_19 := iEq c64_19 rfl t_0
            refine lv_aload_n hx hb dX11_share_74 rfl (lv_at hl 1 rfl) ?_
            refine gf_X11_129 (b := (ma 42)) X hw hM.1 (mr_42 hM) dX11_share_75 ?_
            refine lv_iload_n hx hb dX11_share_78 rfl (lv_at hl 2 rfl) ?_
            refine q_ldJ X hw (mk_42 hM) (vin (mn_42 hM) (by omega) (by omega)) dX11_share_79 ?_
            refine lv_topl (fun v79_20 e79_20 => ?_)
            have e79_20 : v79_20 = y24_11 (ma 42) x.toNatClampNeg := e79_20
            have hc79 := congrArg Int64.toInt (e79_20.trans (hSB x.toNatClampNeg (by have := cl_toInt (x := x) (by omega); omega)))
            refine lv_lload hx hb dX11_share_80 (lv_at hl 0 rfl) ?_
            refine lv_ldiv hx hb dX11_share_82 (lne0 (by have := (by decide : (0:Int64).toInt = 0); rw [hg58, gcI_c]; omega)) ?_
            refine lv_topl (fun v82_21 e82_21 => ?_)
            have e82n := e82_21
            exact hret v82_21 _ _ _ _ _ ⟨_, _, _, rfl, (FrD.tr FrD.rf h24_7.1), by rw [if_pos (by omega)]; refine sh_m (by have := (by decide : (0:Int64).toInt = 0); omega) hg58 ?_; first | exact Or.inr ⟨by assumption, by rw [lDivP e82n (by omega) (by rw [hg58, gcI_c]; omega), hAL]⟩ | exact Or.inl ⟨by assumption, by rw [lDivP e82n (by omega) (by rw [hg58, gcI_c]; omega), hc79]⟩⟩ hw dX11_share_83
          · skip
            refine lv_aload_n hx hb dX11_share_67 rfl (lv_at hl 1 rfl) ?_
            refine gf_X11_277 (v := J24_10 142 (ma 0)) X hw hM.1 rfl dX11_share_68 ?_
            refine lv_goto (tgt := 80) hx hb dX11_share_71 (by decide) ?_
            refine lv_lload hx hb dX11_share_80 (lv_at hl 0 rfl) ?_
            refine lv_ldiv hx hb dX11_share_82 (lne0 (by have := (by decide : (0:Int64).toInt = 0); rw [hg58, gcI_c]; omega)) ?_
            refine lv_topl (fun v82_22 e82_22 => ?_)
            have e82n := e82_22
            exact hret v82_22 _ _ _ _ _ ⟨_, _, _, rfl, (FrD.tr FrD.rf h24_7.1), by rw [if_pos (by omega)]; refine sh_m (by have := (by decide : (0:Int64).toInt = 0); omega) hg58 ?_; first | exact Or.inr ⟨by assumption, by rw [lDivP e82n (by omega) (by rw [hg58, gcI_c]; omega), hAL]⟩ | exact Or.inl ⟨by assumption, by rw [lDivP e82n (by omega) (by rw [hg58, gcI_c]; omega), hc79]⟩⟩ hw dX11_share_83
        · have D35_14 := lcn_ne e34_13 c35_14
          refine lv_iload_n hx hb dX11_share_38 rfl (lv_at hl 3 rfl) ?_
          refine lv_if_eq (tgt := 46) hx hb dX11_share_39 (by decide) (fun c39_23 => ?_) (fun c39_23 => ?_)
          · have D39_23 := iEq c39_23 rfl t_0
            refine lv_lconst (v := 0) hx hb dX11_share_46 (by decide) ?_
            exact hret 0 _ _ _ _ _ ⟨_, _, _, rfl, (FrD.tr FrD.rf h24_7.1), by rw [if_pos (by omega)]; refine sh_0 (by have := (by decide : (0:Int64).toInt = 0); omega) ?_; rw [if_pos (by assumption)]; decide⟩ hw dX11_share_47
          · skip
            refine lv_lconst (v := 1) hx hb dX11_share_42 (by decide) ?_
            refine lv_goto (tgt := 47) hx hb dX11_share_43 (by decide) ?_
            exact hret 1 _ _ _ _ _ ⟨_, _, _, rfl, (FrD.tr FrD.rf h24_7.1), by rw [if_pos (by omega)]; refine sh_0 (by have := (by decide : (0:Int64).toInt = 0); omega) ?_; rw [if_neg (by assumption)]; decide⟩ hw dX11_share_47
      · have h11_4 := h11_4
        refine lv_if_ne (tgt := 21) hx hb dX11_share_14 (by decide) (fun c14_24 => absurd c14_24 (by decide)) (fun c14_24 => ?_)
        refine lv_ldc2 hx hb X.1.2.2.2.1 (X.1.2.2.2.2 _ wd_r37_14) dX11_share_17 ?_
        exact hret (-1) _ _ _ _ _ ⟨_, _, _, rfl, FrD.rf, by rw [if_neg (by omega)]; decide⟩ hw dX11_share_20
set_option maxHeartbeats 4000000 in
set_option maxRecDepth 100000 in
theorem c_v_X11_likeliest (l : Launch) (G : Gh) (S : Pl) (ma : Nat → Nat) (n : Int32) (bk : Nat) (V : SV) (tl : Nat → TP) (pl : Nat → PP) (hM : shMod S ma) (hI : mInv (pI S) (qI S) ma) (hbk : (pI S 120 (ma 0)).toInt = (bk : Int)) (hbk1 : bk ≤ 1) (hMB : MBk (qI S) ma bk V.2) (hvk : vok V) (hTl : ∀ k : Nat, (k : Int) < (pI S 128 (ma 0)).toInt → mTP (qI S) ma k (tl k)) (hPl : ∀ k : Nat, (k : Int) < (pI S 140 (ma 0)).toInt → mPP (qI S) ma k (pl k) ∧ ppO (pl k)) (hOB : ∀ k, k < (pI S 128 (ma 0)).toInt.toNat → 0 ≤ ((fun k => odF V.2 (tl k) pl (qI S (ma 40)) (pI S 140 (ma 0)).toInt.toNat) k).toInt ∧ ((fun k => odF V.2 (tl k) pl (qI S (ma 40)) (pI S 140 (ma 0)).toInt.toNat) k).toInt ≤ 1000000000000000) : MtI l yX11_likeliest cX11_likeliest 4 (some .int) (Rm 6 0 0) G [.ref (ma 0), .int n] S (fun (r : Int32) (S' : Pl) => ∃ I' J' y', ch S I' J' (qI S) y' = S' ∧ FrD (pI S) I' ∧ r.toInt = (if 0 ≤ n.toInt ∧ n.toInt ≤ 72 then lkF (sbF V.2 tl (fun k => odF V.2 (tl k) pl (qI S (ma 40)) (pI S 140 (ma 0)).toInt.toNat) n.toNatClampNeg 0 (pI S 128 (ma 0)).toInt.toNat) 64 else -1)) 0 0 := by
  refine MtI.of (by decide) (Nat.le_of_ble_eq_true rfl) ?_
  intro p e s m args below meth c Q A X hw hin hret ls hl
  have hx := X.1.1
  have hb := X.1.2.1
  have hl : lv_has ls 4 [(0, .ref (ma 0)), (1, .int n)] := hl
  obtain ⟨⟨b1, b2, b3, b4, b5, b6⟩, hT, hP, hC⟩ := id hI
  refine lv_iload_n hx hb dX11_likeliest_0 rfl (lv_at hl 1 rfl) ?_
  refine k_Si (n := 1) X hw (c_X11_isMoment l G _ n) wd_r31_0 wd_r31_1 wd_r1_5 wd_r31_2 ⟨by decide, by decide, by decide +kernel⟩ rfl rfl ⟨Nat.le_of_ble_eq_true rfl, Nat.le_of_ble_eq_true rfl⟩ rfl rfl hl.1 (Nat.le_of_ble_eq_true rfl) dX11_likeliest_1 ⟨Nat.le_of_ble_eq_true rfl, Nat.le_of_ble_eq_true rfl⟩ (fun r1_1 S1_3 H locs h1_2 hw => ?_)
  rcases h1_2 with ⟨rfl, rfl, h1_2⟩ | ⟨rfl, rfl, h1_2⟩
  · have h1_2 := h1_2
    refine lv_if_ne (tgt := 9) hx hb dX11_likeliest_4 (by decide) (fun c4_4 => ?_) (fun c4_4 => absurd c4_4 (by decide))
    refine lv_aload_n hx hb dX11_likeliest_9 rfl (lv_at hl 0 rfl) ?_
    refine lv_iload_n hx hb dX11_likeliest_10 rfl (lv_at hl 1 rfl) ?_
    refine lv_iconst (v := 0) hx hb dX11_likeliest_11 (by decide) ?_
    refine k_Vv (n := 2) X hw (rcvk (ci := 11) X hw hM.1 (fun _ _ _ _ _ _ _ => ⟨_, rfl⟩) rfl) (c_v_X11_sumUp l G _ ma n 0 bk V tl pl hM hI (by omega) hbk hbk1 hMB hvk hTl hPl) wd_r38_23 wd_r39_0 wd_r39_1 wd_r1_5 wd_r39_2 ⟨by decide, by decide, by decide +kernel⟩ rfl rfl ⟨Nat.le_of_ble_eq_true rfl, Nat.le_of_ble_eq_true rfl⟩ rfl rfl hl.1 (Nat.le_of_ble_eq_true rfl) dX11_likeliest_12 ⟨Nat.le_of_ble_eq_true rfl, Nat.le_of_ble_eq_true rfl⟩ (fun S12_6 H locs h12_5 hw => ?_)
    have := t_0
    obtain ⟨I12_7, J12_8, y12_9, rfl, h12_5⟩ := h12_5
    have hw : PX G A s.heap (ch S I12_7 J12_8 (qI S) y12_9) H locs := hw
    have hSB := h12_5.2.2.2.1
    refine lv_iconst (v := -1) hx hb dX11_likeliest_15 (by decide) ?_
    refine lv_istore_n (lv' := [(2, .int (-1)), (0, .ref (ma 0)), (1, .int n)]) hx hb dX11_likeliest_16 rfl hl (by decide) rfl (fun ls hl => ?_)
    refine lv_iconst (v := 0) hx hb dX11_likeliest_17 (by decide) ?_
    refine lv_istore_n (lv' := [(3, .int 0), (2, .int (-1)), (0, .ref (ma 0)), (1, .int n)]) hx hb dX11_likeliest_18 rfl hl (by decide) rfl (fun ls hl => ?_)
    have lp19 : ∀ (N9 : Nat) (b : Int32) (k : Int32), (-1 ≤ b.toInt ∧ b.toInt ≤ 63) → (0 ≤ k.toInt ∧ k.toInt ≤ 64) → (b.toInt = lkF (sbF V.2 tl (fun k => odF V.2 (tl k) pl (qI S (ma 40)) (pI S 140 (ma 0)).toInt.toNat) n.toNatClampNeg 0 (pI S 128 (ma 0)).toInt.toNat) k.toNatClampNeg) → (64 - k.toInt).toNat < N9 → ∀ (H : Heap) (locs : List Loc) (ls : Array Slot), PX G A s.heap (ch S I12_7 J12_8 (qI S) y12_9) H locs → lv_has ls 4 [(3, .int k), (2, .int b), (0, .ref (ma 0)), (1, .int n)] → W p l e (Rm 6 0 0) s m args below meth c H locs 0 0 Q (F0 m 19 ls []) := by
      intro N9
      induction N9 with
      | zero => intro b k hb0 hk hlk hm; exact absurd hm (Nat.not_lt_zero _)
      | succ N9 ih19 =>
        intro b k hb0 hk hlk hm H locs ls hw hl
        refine lv_iload_n hx hb dX11_likeliest_19 rfl (lv_at hl 0 rfl) ?_
        refine lv_bipush (v := 64) hx hb dX11_likeliest_20 (by decide) ?_
        refine lv_icmp_ge (tgt := 64) hx hb dX11_likeliest_22 (by decide) (fun c22_10 => ?_) (fun c22_10 => ?_)
        · have D22_10 := iLe c22_10 t_64 rfl
          refine lv_iload_n hx hb dX11_likeliest_64 rfl (lv_at hl 1 rfl) ?_
          exact hret b _ _ _ _ _ ⟨_, _, _, rfl, (FrD.tr FrD.rf h12_5.1), by rw [if_pos (by omega)]; have e9 : k.toNatClampNeg = 64 := (by have := cl_toInt (x := k) hk.1; omega); rw [e9] at hlk; exact hlk⟩ hw rfl dX11_likeliest_65
        · have D22_10 := iNle c22_10 t_64 rfl
          refine lv_aload_n hx hb dX11_likeliest_25 rfl (lv_at hl 2 rfl) ?_
          refine gf_X11_129 (b := (ma 42)) X hw hM.1 (mr_42 hM) dX11_likeliest_26 ?_
          refine lv_iload_n hx hb dX11_likeliest_29 rfl (lv_at hl 0 rfl) ?_
          refine q_ldJ X hw (mk_42 hM) (vin (mn_42 hM) (by omega) (by omega)) dX11_likeliest_30 ?_
          refine lv_topl (fun v30_11 e30_11 => ?_)
          have e30_11 : v30_11 = y12_9 (ma 42) k.toNatClampNeg := e30_11
          have h30 : v30_11 = (sbF V.2 tl (fun k => odF V.2 (tl k) pl (qI S (ma 40)) (pI S 140 (ma 0)).toInt.toNat) n.toNatClampNeg 0 (pI S 128 (ma 0)).toInt.toNat) k.toNatClampNeg := e30_11.trans (hSB _ (by have := cl_toInt (x := k) (by omega); omega))
          refine lv_lconst (v := 0) hx hb dX11_likeliest_31 (by decide) ?_
          refine W.lcmp hx hb dX11_likeliest_32 ?_
          refine lv_topi (fun v32_12 e32_12 => ?_)
          refine lv_if_le (tgt := 58) hx hb dX11_likeliest_33 (by decide) (fun c33_13 => ?_) (fun c33_13 => ?_)
          · have D33_13 := lc_le e32_12 c33_13
            obtain ⟨v58_14, e58_14⟩ : ∃ y : Int32, y = k + 1 := ⟨_, rfl⟩
            have t58_14 := iAdd e58_14 rfl t_1 (by omega) (by omega)
            have t58 := t58_14
            refine lv_iinc (v := v58_14) (lv' := [(3, .int v58_14), (2, .int b), (0, .ref (ma 0)), (1, .int n)]) hx hb dX11_likeliest_58 hl (k := 0) rfl (by rw [e58_14]; rfl) (by decide) rfl (fun ls hl => ?_)
            refine lv_goto (tgt := 19) hx hb dX11_likeliest_61 (by decide) ?_
            exact ih19  b v58_14 (by omega) (by omega) (by have := (by decide : (0:Int64).toInt = 0); first | exact lm_y (w := 0) hlk hk.1 t58 h30 (Or.inl ⟨by omega, by omega⟩) | exact lm_y hlk hk.1 t58 h30 (Or.inr ⟨by omega, h51, by rw [h30, ← h45]; omega⟩) | exact lm_n hlk hk.1 t58 h30 (by first | exact Or.inl ⟨by omega, by omega⟩ | exact Or.inr ⟨by omega, by rw [← h51, h30, ← h45]; omega⟩ | (have y9 := (sbb_b (C := V.2) (tl := tl) (t := n.toNatClampNeg) (z := 0) (N := (pI S 128 (ma 0)).toInt.toNat) (by omega) hOB b.toNatClampNeg _ (Nat.le_refl _)).1; by_cases q9 : b.toInt < 0; (exact Or.inl ⟨q9, by omega⟩); (exact Or.inr ⟨by omega, by omega⟩)))) (by omega) _ _ _ hw (lv_sub hl [0, 1, 2, 3] rfl)
          · have D33_13 := lcn_le e32_12 c33_13
            refine lv_iload_n hx hb dX11_likeliest_36 rfl (lv_at hl 1 rfl) ?_
            refine lv_if_lt (tgt := 56) hx hb dX11_likeliest_37 (by decide) (fun c37_15 => ?_) (fun c37_15 => ?_)
            · have D37_15 := iLt c37_15 rfl t_0
              refine lv_iload_n hx hb dX11_likeliest_56 rfl (lv_at hl 0 rfl) ?_
              refine lv_istore_n (lv' := [(2, .int k), (3, .int k), (0, .ref (ma 0)), (1, .int n)]) hx hb dX11_likeliest_57 rfl hl (by decide) rfl (fun ls hl => ?_)
              obtain ⟨v58_16, e58_16⟩ : ∃ y : Int32, y = k + 1 := ⟨_, rfl⟩
              have t58_16 := iAdd e58_16 rfl t_1 (by omega) (by omega)
              have t58 := t58_16
              refine lv_iinc (v := v58_16) (lv' := [(3, .int v58_16), (2, .int k), (0, .ref (ma 0)), (1, .int n)]) hx hb dX11_likeliest_58 hl (k := 1) rfl (by rw [e58_16]; rfl) (by decide) rfl (fun ls hl => ?_)
              refine lv_goto (tgt := 19) hx hb dX11_likeliest_61 (by decide) ?_
              exact ih19  k v58_16 (by omega) (by omega) (by have := (by decide : (0:Int64).toInt = 0); first | exact lm_y (w := 0) hlk hk.1 t58 h30 (Or.inl ⟨by omega, by omega⟩) | exact lm_y hlk hk.1 t58 h30 (Or.inr ⟨by omega, h51, by rw [h30, ← h45]; omega⟩) | exact lm_n hlk hk.1 t58 h30 (by first | exact Or.inl ⟨by omega, by omega⟩ | exact Or.inr ⟨by omega, by rw [← h51, h30, ← h45]; omega⟩ | (have y9 := (sbb_b (C := V.2) (tl := tl) (t := n.toNatClampNeg) (z := 0) (N := (pI S 128 (ma 0)).toInt.toNat) (by omega) hOB b.toNatClampNeg _ (Nat.le_refl _)).1; by_cases q9 : b.toInt < 0; (exact Or.inl ⟨q9, by omega⟩); (exact Or.inr ⟨by omega, by omega⟩)))) (by omega) _ _ _ hw (lv_sub hl [0, 1, 2, 3] rfl)
            · have D37_15 := iNlt c37_15 rfl t_0
              refine lv_aload_n hx hb dX11_likeliest_40 rfl (lv_at hl 2 rfl) ?_
              refine gf_X11_129 (b := (ma 42)) X hw hM.1 (mr_42 hM) dX11_likeliest_41 ?_
              refine lv_iload_n hx hb dX11_likeliest_44 rfl (lv_at hl 0 rfl) ?_
              refine q_ldJ X hw (mk_42 hM) (vin (mn_42 hM) (by omega) (by omega)) dX11_likeliest_45 ?_
              refine lv_topl (fun v45_17 e45_17 => ?_)
              have e45_17 : v45_17 = y12_9 (ma 42) k.toNatClampNeg := e45_17
              have h45 : v45_17 = (sbF V.2 tl (fun k => odF V.2 (tl k) pl (qI S (ma 40)) (pI S 140 (ma 0)).toInt.toNat) n.toNatClampNeg 0 (pI S 128 (ma 0)).toInt.toNat) k.toNatClampNeg := e45_17.trans (hSB _ (by have := cl_toInt (x := k) (by omega); omega))
              refine lv_aload_n hx hb dX11_likeliest_46 rfl (lv_at hl 2 rfl) ?_
              refine gf_X11_129 (b := (ma 42)) X hw hM.1 (mr_42 hM) dX11_likeliest_47 ?_
              refine lv_iload_n hx hb dX11_likeliest_50 rfl (lv_at hl 1 rfl) ?_
              refine q_ldJ X hw (mk_42 hM) (vin (mn_42 hM) (by omega) (by omega)) dX11_likeliest_51 ?_
              refine lv_topl (fun v51_18 e51_18 => ?_)
              have e51_18 : v51_18 = y12_9 (ma 42) b.toNatClampNeg := e51_18
              have h51 : v51_18 = (sbF V.2 tl (fun k => odF V.2 (tl k) pl (qI S (ma 40)) (pI S 140 (ma 0)).toInt.toNat) n.toNatClampNeg 0 (pI S 128 (ma 0)).toInt.toNat) b.toNatClampNeg := e51_18.trans (hSB _ (by have := cl_toInt (x := b) (by omega); omega))
              refine W.lcmp hx hb dX11_likeliest_52 ?_
              refine lv_topi (fun v52_19 e52_19 => ?_)
              refine lv_if_le (tgt := 58) hx hb dX11_likeliest_53 (by decide) (fun c53_20 => ?_) (fun c53_20 => ?_)
              · have D53_20 := lc_le e52_19 c53_20
                obtain ⟨v58_21, e58_21⟩ : ∃ y : Int32, y = k + 1 := ⟨_, rfl⟩
                have t58_21 := iAdd e58_21 rfl t_1 (by omega) (by omega)
                have t58 := t58_21
                refine lv_iinc (v := v58_21) (lv' := [(3, .int v58_21), (2, .int b), (0, .ref (ma 0)), (1, .int n)]) hx hb dX11_likeliest_58 hl (k := 0) rfl (by rw [e58_21]; rfl) (by decide) rfl (fun ls hl => ?_)
                refine lv_goto (tgt := 19) hx hb dX11_likeliest_61 (by decide) ?_
                exact ih19  b v58_21 (by omega) (by omega) (by have := (by decide : (0:Int64).toInt = 0); first | exact lm_y (w := 0) hlk hk.1 t58 h30 (Or.inl ⟨by omega, by omega⟩) | exact lm_y hlk hk.1 t58 h30 (Or.inr ⟨by omega, h51, by rw [h30, ← h45]; omega⟩) | exact lm_n hlk hk.1 t58 h30 (by first | exact Or.inl ⟨by omega, by omega⟩ | exact Or.inr ⟨by omega, by rw [← h51, h30, ← h45]; omega⟩ | (have y9 := (sbb_b (C := V.2) (tl := tl) (t := n.toNatClampNeg) (z := 0) (N := (pI S 128 (ma 0)).toInt.toNat) (by omega) hOB b.toNatClampNeg _ (Nat.le_refl _)).1; by_cases q9 : b.toInt < 0; (exact Or.inl ⟨q9, by omega⟩); (exact Or.inr ⟨by omega, by omega⟩)))) (by omega) _ _ _ hw (lv_sub hl [0, 1, 2, 3] rfl)
              · have D53_20 := lcn_le e52_19 c53_20
                refine lv_iload_n hx hb dX11_likeliest_56 rfl (lv_at hl 0 rfl) ?_
                refine lv_istore_n (lv' := [(2, .int k), (3, .int k), (0, .ref (ma 0)), (1, .int n)]) hx hb dX11_likeliest_57 rfl hl (by decide) rfl (fun ls hl => ?_)
                obtain ⟨v58_22, e58_22⟩ : ∃ y : Int32, y = k + 1 := ⟨_, rfl⟩
                have t58_22 := iAdd e58_22 rfl t_1 (by omega) (by omega)
                have t58 := t58_22
                refine lv_iinc (v := v58_22) (lv' := [(3, .int v58_22), (2, .int k), (0, .ref (ma 0)), (1, .int n)]) hx hb dX11_likeliest_58 hl (k := 1) rfl (by rw [e58_22]; rfl) (by decide) rfl (fun ls hl => ?_)
                refine lv_goto (tgt := 19) hx hb dX11_likeliest_61 (by decide) ?_
                exact ih19  k v58_22 (by omega) (by omega) (by have := (by decide : (0:Int64).toInt = 0); first | exact lm_y (w := 0) hlk hk.1 t58 h30 (Or.inl ⟨by omega, by omega⟩) | exact lm_y hlk hk.1 t58 h30 (Or.inr ⟨by omega, h51, by rw [h30, ← h45]; omega⟩) | exact lm_n hlk hk.1 t58 h30 (by first | exact Or.inl ⟨by omega, by omega⟩ | exact Or.inr ⟨by omega, by rw [← h51, h30, ← h45]; omega⟩ | (have y9 := (sbb_b (C := V.2) (tl := tl) (t := n.toNatClampNeg) (z := 0) (N := (pI S 128 (ma 0)).toInt.toNat) (by omega) hOB b.toNatClampNeg _ (Nat.le_refl _)).1; by_cases q9 : b.toInt < 0; (exact Or.inl ⟨q9, by omega⟩); (exact Or.inr ⟨by omega, by omega⟩)))) (by omega) _ _ _ hw (lv_sub hl [0, 1, 2, 3] rfl)
    exact lp19 _  (-1) 0 (by have := t_m1; omega) (by have := t_m1; have := t_0; omega) (by rw [show (0 : Int32).toNatClampNeg = 0 by decide]; exact (show (-1 : Int32).toInt = (-1 : Int) by decide)) (Nat.lt_succ_self _) _ _ _ hw (lv_sub hl [0, 1, 2, 3] rfl)
  · have h1_2 := h1_2
    refine lv_if_ne (tgt := 9) hx hb dX11_likeliest_4 (by decide) (fun c4_23 => absurd c4_23 (by decide)) (fun c4_23 => ?_)
    refine lv_iconst (v := -1) hx hb dX11_likeliest_7 (by decide) ?_
    exact hret (-1) _ _ _ _ _ ⟨_, _, _, rfl, FrD.rf, by rw [if_neg (by omega)]; decide⟩ hw rfl dX11_likeliest_8
