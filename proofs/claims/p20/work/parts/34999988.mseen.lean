
set_option maxHeartbeats 4000000 in
set_option maxRecDepth 100000 in
theorem c_v_X11_seen (l : Launch) (G : Gh) (S : Pl) (ma : Nat → Nat) (n w x : Int32) (bk : Nat) (V : SV) (tl : Nat → TP) (pl : Nat → PP) (hM : shMod S ma) (hI : mInv (pI S) (qI S) ma) (hbk : (pI S 120 (ma 0)).toInt = (bk : Int)) (hbk1 : bk ≤ 1) (hMB : MBk (qI S) ma bk V.2) (hvk : vok V) (hTl : ∀ k : Nat, (k : Int) < (pI S 128 (ma 0)).toInt → mTP (qI S) ma k (tl k)) (hPl : ∀ k : Nat, (k : Int) < (pI S 140 (ma 0)).toInt → mPP (qI S) ma k (pl k) ∧ ppO (pl k)) (hOB : ∀ k, k < (pI S 128 (ma 0)).toInt.toNat → 0 ≤ ((fun k => odF V.2 (tl k) pl (qI S (ma 40)) (pI S 140 (ma 0)).toInt.toNat) k).toInt ∧ ((fun k => odF V.2 (tl k) pl (qI S (ma 40)) (pI S 140 (ma 0)).toInt.toNat) k).toInt ≤ 1000000000000000) : MtL l yX11_seen cX11_seen 4 (some .long) (Rm 7 0 0) G [.ref (ma 0), .int n, .int w, .int x] S (fun (r : Int64) (S' : Pl) => ∃ I' J' q' y', ch S I' J' q' y' = S' ∧ mInv I' q' ma ∧ FrD (pI S) I' ∧ (∀ i, i ≤ 45 → i ≠ 45 → q' (ma i) = qI S (ma i)) ∧ r.toInt = (if (0 ≤ n.toInt ∧ n.toInt ≤ 72) ∧ (0 ≤ w.toInt ∧ w.toInt < 2) ∧ (0 ≤ x.toInt ∧ x.toInt ≤ 40) then val (oOf (sbF V.2 tl (fun k => odF V.2 (tl k) pl (qI S (ma 40)) (pI S 140 (ma 0)).toInt.toNat) n.toNatClampNeg 1 (pI S 128 (ma 0)).toInt.toNat)) (gsm V.2 w.toNatClampNeg) 64 x.toNatClampNeg else -1)) 0 0 := by
  refine MtL.of (by decide) (Nat.le_of_ble_eq_true rfl) ?_
  intro p e s m args below meth c Q A X hw hin hret ls hl
  have hx := X.1.1
  have hb := X.1.2.1
  have hl : lv_has ls 4 [(0, .ref (ma 0)), (1, .int n), (2, .int w), (3, .int x)] := hl
  refine lv_aload_n hx hb dX11_seen_0 rfl (lv_at hl 0 rfl) ?_
  refine lv_iload_n hx hb dX11_seen_1 rfl (lv_at hl 1 rfl) ?_
  refine lv_iload_n hx hb dX11_seen_2 rfl (lv_at hl 2 rfl) ?_
  refine lv_iload_n hx hb dX11_seen_3 rfl (lv_at hl 3 rfl) ?_
  refine k_Vi (n := 3) X hw (rcvk (ci := 11) X hw hM.1 (fun _ _ _ _ _ _ _ => ⟨_, rfl⟩) rfl) (c_X11_canSplit l G _ ma n w x hM) wd_r41_7 wd_r41_8 wd_r41_9 wd_r1_5 wd_r41_10 ⟨by decide, by decide, by decide +kernel⟩ rfl rfl ⟨Nat.le_of_ble_eq_true rfl, Nat.le_of_ble_eq_true rfl⟩ rfl rfl hl.1 (Nat.le_of_ble_eq_true rfl) dX11_seen_4 ⟨Nat.le_of_ble_eq_true rfl, Nat.le_of_ble_eq_true rfl⟩ (fun r4_1 S4_3 H locs h4_2 hw => ?_)
  rcases h4_2 with ⟨rfl, rfl, h4_2⟩ | ⟨rfl, rfl, h4_2⟩
  · have h4_2 := h4_2
    refine lv_if_ne (tgt := 14) hx hb dX11_seen_7 (by decide) (fun c7_4 => ?_) (fun c7_4 => absurd c7_4 (by decide))
    refine lv_aload_n hx hb dX11_seen_14 rfl (lv_at hl 0 rfl) ?_
    refine lv_iload_n hx hb dX11_seen_15 rfl (lv_at hl 1 rfl) ?_
    refine lv_iload_n hx hb dX11_seen_16 rfl (lv_at hl 2 rfl) ?_
    refine k_Vv (n := 2) X hw (rcvk (ci := 11) X hw hM.1 (fun _ _ _ _ _ _ _ => ⟨_, rfl⟩) rfl) (c_v_X11_give l G _ ma n w bk V tl pl hM hI (by omega) (by omega) hbk hbk1 hMB hvk hTl hPl hOB) wd_r41_11 wd_r41_12 wd_r41_13 wd_r1_5 wd_r41_14 ⟨by decide, by decide, by decide +kernel⟩ rfl rfl ⟨Nat.le_of_ble_eq_true rfl, Nat.le_of_ble_eq_true rfl⟩ rfl rfl hl.1 (Nat.le_of_ble_eq_true rfl) dX11_seen_17 ⟨Nat.le_of_ble_eq_true rfl, Nat.le_of_ble_eq_true rfl⟩ (fun S17_6 H locs h17_5 hw => ?_)
    obtain ⟨I17_7, J17_8, q17_9, y17_10, rfl, h17_5⟩ := h17_5
    have hw : PX G A s.heap (ch S I17_7 J17_8 q17_9 y17_10) H locs := hw
    have hgv := h17_5
    refine lv_aload_n hx hb dX11_seen_20 rfl (lv_at hl 0 rfl) ?_
    refine gf_X11_133 (b := (ma 44)) X hw hM.1 (mr_44 hM) dX11_seen_21 ?_
    refine lv_iconst (v := 0) hx hb dX11_seen_24 (by decide) ?_
    refine lv_iload_n hx hb dX11_seen_25 rfl (lv_at hl 3 rfl) ?_
    refine k_Si (n := 2) X hw (c_X11_spot l G _ 0 x (by have := t_0; omega)) wd_r41_15 wd_r41_16 wd_r1_5 wd_r41_17 ⟨by decide, by decide, by decide +kernel⟩ rfl rfl ⟨Nat.le_of_ble_eq_true rfl, Nat.le_of_ble_eq_true rfl⟩ rfl rfl hl.1 (Nat.le_of_ble_eq_true rfl) dX11_seen_26 ⟨Nat.le_of_ble_eq_true rfl, Nat.le_of_ble_eq_true rfl⟩ (fun r26_11 S26_13 H locs h26_12 hw => ?_)
    have := t_0
    obtain ⟨rfl, h26_12⟩ := h26_12
    have := t_0
    have s26 : r26_11.toNatClampNeg = 41 * 0 + x.toNatClampNeg := spot_n (by have := cl_toInt (x := x) (by omega); omega)
    refine q_ldJ X hw (mk_44 hM) (vin (mn_44 hM) (by omega) (by omega)) dX11_seen_29 ?_
    refine lv_topl (fun v29_14 e29_14 => ?_)
    have e29_14 : v29_14 = y17_10 (ma 44) r26_11.toNatClampNeg := e29_14
    have h29 : v29_14.toInt = val (oOf (sbF V.2 tl (fun k => odF V.2 (tl k) pl (qI S (ma 40)) (pI S 140 (ma 0)).toInt.toNat) n.toNatClampNeg 1 (pI S 128 (ma 0)).toInt.toNat)) (gsm V.2 w.toNatClampNeg) 64 x.toNatClampNeg := by rw [e29_14, s26]; exact (hgv.2.2.1 0 x.toNatClampNeg (by decide) (by decide) (by have := cl_toInt (x := x) (by omega); omega)).1
    exact hret v29_14 _ _ _ _ _ ⟨_, _, _, _, rfl, mInv_u (hI.d hgv.1) hgv.2.1, hgv.1, hgv.2.1, by rw [if_pos (by omega)]; exact h29⟩ hw dX11_seen_30
  · have h4_2 := h4_2
    refine lv_if_ne (tgt := 14) hx hb dX11_seen_7 (by decide) (fun c7_15 => absurd c7_15 (by decide)) (fun c7_15 => ?_)
    refine lv_ldc2 hx hb X.1.2.2.2.1 (X.1.2.2.2.2 _ wd_r37_14) dX11_seen_10 ?_
    exact hret (-1) _ _ _ _ _ ⟨_, _, _, _, rfl, hI, FrD.rf, fun _ _ _ => rfl, by rw [if_neg (by omega)]; decide⟩ hw dX11_seen_13
set_option maxHeartbeats 4000000 in
set_option maxRecDepth 100000 in
theorem c_v_X11_split (l : Launch) (G : Gh) (S : Pl) (ma : Nat → Nat) (n w x y : Int32) (bk : Nat) (V : SV) (tl : Nat → TP) (pl : Nat → PP) (hM : shMod S ma) (hI : mInv (pI S) (qI S) ma) (hbk : (pI S 120 (ma 0)).toInt = (bk : Int)) (hbk1 : bk ≤ 1) (hMB : MBk (qI S) ma bk V.2) (hvk : vok V) (hTl : ∀ k : Nat, (k : Int) < (pI S 128 (ma 0)).toInt → mTP (qI S) ma k (tl k)) (hPl : ∀ k : Nat, (k : Int) < (pI S 140 (ma 0)).toInt → mPP (qI S) ma k (pl k) ∧ ppO (pl k)) (hOB : ∀ k, k < (pI S 128 (ma 0)).toInt.toNat → 0 ≤ ((fun k => odF V.2 (tl k) pl (qI S (ma 40)) (pI S 140 (ma 0)).toInt.toNat) k).toInt ∧ ((fun k => odF V.2 (tl k) pl (qI S (ma 40)) (pI S 140 (ma 0)).toInt.toNat) k).toInt ≤ 1000000000000000) : MtI l yX11_split cX11_split 8 (some .int) (Rm 7 0 0) G [.ref (ma 0), .int n, .int w, .int x, .int y] S (fun (r : Int32) (S' : Pl) => ∃ I' J' q' y', ch S I' J' q' y' = S' ∧ mInv I' q' ma ∧ FrD (pI S) I' ∧ (∀ i, i ≤ 45 → i ≠ 45 → q' (ma i) = qI S (ma i)) ∧ (((((0 ≤ n.toInt ∧ n.toInt ≤ 72) ∧ (0 ≤ w.toInt ∧ w.toInt < 2) ∧ (0 ≤ x.toInt ∧ x.toInt ≤ 40)) ∧ (0 ≤ y.toInt ∧ y.toInt < 64)) ∧ 0 ≤ r.toInt ∧ gets (oOf (sbF V.2 tl (fun k => odF V.2 (tl k) pl (qI S (ma 40)) (pI S 140 (ma 0)).toInt.toNat) n.toNatClampNeg 1 (pI S 128 (ma 0)).toInt.toNat)) (gsm V.2 w.toNatClampNeg) x.toNatClampNeg y.toNatClampNeg r.toNatClampNeg) ∨ (¬ (((0 ≤ n.toInt ∧ n.toInt ≤ 72) ∧ (0 ≤ w.toInt ∧ w.toInt < 2) ∧ (0 ≤ x.toInt ∧ x.toInt ≤ 40)) ∧ (0 ≤ y.toInt ∧ y.toInt < 64)) ∧ r = -1))) 0 0 := by
  refine MtI.of (by decide) (Nat.le_of_ble_eq_true rfl) ?_
  intro p e s m args below meth c Q A X hw hin hret ls hl
  have hx := X.1.1
  have hb := X.1.2.1
  have hl : lv_has ls 8 [(0, .ref (ma 0)), (1, .int n), (2, .int w), (3, .int x), (4, .int y)] := hl
  obtain ⟨⟨b1, b2, b3, b4, b5, b6⟩, hT, hP, hC⟩ := id hI
  have hodM : cOK (sbF V.2 tl (fun k => odF V.2 (tl k) pl (qI S (ma 40)) (pI S 140 (ma 0)).toInt.toNat) n.toNatClampNeg 1 (pI S 128 (ma 0)).toInt.toNat) 40000000000000000 := cOK_le (sb_ok (N := (pI S 128 (ma 0)).toInt.toNat) (by omega) hOB _ (Nat.le_refl _)) (by omega)
  refine lv_aload_n hx hb dX11_split_0 rfl (lv_at hl 0 rfl) ?_
  refine lv_iload_n hx hb dX11_split_1 rfl (lv_at hl 1 rfl) ?_
  refine lv_iload_n hx hb dX11_split_2 rfl (lv_at hl 2 rfl) ?_
  refine lv_iload_n hx hb dX11_split_3 rfl (lv_at hl 3 rfl) ?_
  refine k_Vi (n := 3) X hw (rcvk (ci := 11) X hw hM.1 (fun _ _ _ _ _ _ _ => ⟨_, rfl⟩) rfl) (c_X11_canSplit l G _ ma n w x hM) wd_r41_7 wd_r41_8 wd_r41_9 wd_r1_5 wd_r41_10 ⟨by decide, by decide, by decide +kernel⟩ rfl rfl ⟨Nat.le_of_ble_eq_true rfl, Nat.le_of_ble_eq_true rfl⟩ rfl rfl hl.1 (Nat.le_of_ble_eq_true rfl) dX11_split_4 ⟨Nat.le_of_ble_eq_true rfl, Nat.le_of_ble_eq_true rfl⟩ (fun r4_1 S4_3 H locs h4_2 hw => ?_)
  rcases h4_2 with ⟨rfl, rfl, h4_2⟩ | ⟨rfl, rfl, h4_2⟩
  · have h4_2 := h4_2
    refine lv_if_eq (tgt := 22) hx hb dX11_split_7 (by decide) (fun c7_4 => absurd c7_4 (by decide)) (fun c7_4 => ?_)
    refine lv_iload hx hb dX11_split_10 (lv_at hl 4 rfl) ?_
    refine lv_if_lt (tgt := 22) hx hb dX11_split_12 (by decide) (fun c12_5 => ?_) (fun c12_5 => ?_)
    · have D12_5 := iLt c12_5 rfl t_0
      refine lv_iconst (v := -1) hx hb dX11_split_22 (by decide) ?_
      exact hret (-1) _ _ _ _ _ ⟨_, _, _, _, rfl, hI, FrD.rf, fun _ _ _ => rfl, Or.inr ⟨by omega, rfl⟩⟩ hw rfl dX11_split_23
    · have D12_5 := iNlt c12_5 rfl t_0
      refine lv_iload hx hb dX11_split_15 (lv_at hl 4 rfl) ?_
      refine lv_bipush (v := 64) hx hb dX11_split_17 (by decide) ?_
      refine lv_icmp_lt (tgt := 24) hx hb dX11_split_19 (by decide) (fun c19_6 => ?_) (fun c19_6 => ?_)
      · have D19_6 := iLt c19_6 rfl t_64
        refine lv_aload_n hx hb dX11_split_24 rfl (lv_at hl 0 rfl) ?_
        refine lv_iload_n hx hb dX11_split_25 rfl (lv_at hl 1 rfl) ?_
        refine lv_iload_n hx hb dX11_split_26 rfl (lv_at hl 2 rfl) ?_
        refine k_Vv (n := 2) X hw (rcvk (ci := 11) X hw hM.1 (fun _ _ _ _ _ _ _ => ⟨_, rfl⟩) rfl) (c_v_X11_give l G _ ma n w bk V tl pl hM hI (by omega) (by omega) hbk hbk1 hMB hvk hTl hPl hOB) wd_r41_11 wd_r41_12 wd_r41_13 wd_r1_5 wd_r41_14 ⟨by decide, by decide, by decide +kernel⟩ rfl rfl ⟨Nat.le_of_ble_eq_true rfl, Nat.le_of_ble_eq_true rfl⟩ rfl rfl hl.1 (Nat.le_of_ble_eq_true rfl) dX11_split_27 ⟨Nat.le_of_ble_eq_true rfl, Nat.le_of_ble_eq_true rfl⟩ (fun S27_8 H locs h27_7 hw => ?_)
        obtain ⟨I27_9, J27_10, q27_11, y27_12, rfl, h27_7⟩ := h27_7
        have hw : PX G A s.heap (ch S I27_9 J27_10 q27_11 y27_12) H locs := hw
        have hgv := h27_7
        obtain ⟨YY, hYY⟩ : ∃ z, z = y27_12 := ⟨_, rfl⟩
        obtain ⟨QQ, hQQ⟩ : ∃ z, z = q27_11 := ⟨_, rfl⟩
        have hT0 : vTA (oOf (sbF V.2 tl (fun k => odF V.2 (tl k) pl (qI S (ma 40)) (pI S 140 (ma 0)).toInt.toNat) n.toNatClampNeg 1 (pI S 128 (ma 0)).toInt.toNat)) (gsm V.2 w.toNatClampNeg) (YY (ma 44)) (QQ (ma 45)) (-1) := by rw [hYY, hQQ]; exact hgv.2.2.1
        have hYr : ∀ k, k < 64 → YY (ma 42) k = (sbF V.2 tl (fun k => odF V.2 (tl k) pl (qI S (ma 40)) (pI S 140 (ma 0)).toInt.toNat) n.toNatClampNeg 1 (pI S 128 (ma 0)).toInt.toNat) k := by rw [hYY]; exact hgv.2.2.2
        have hbkF := FrD.at hgv.1 (f := 120) (by decide) (ma 0)
        have hb1 : (I27_9 120 (ma 0) : Int32) = pI S 120 (ma 0) := congrFun (hgv.1 120 (by decide)) (ma 0)
        have hq18 : q27_11 (ma 18) = qI S (ma 18) := hgv.2.1 18 (by decide) (by decide)
        have hgM := gsm_ok hvk (w := w.toNatClampNeg) (by have := cl_toInt (x := w) (by omega); omega)
        have hmo : ∀ e, e ≤ 20 → mOr (qI S (ma 18)) (pI S 120 (ma 0)) w e = sm (V.2 4) (21 * w.toNatClampNeg + e) := mOr_sm hMB hvk hbk hbk1 (by omega)
        refine lv_iload_n hx hb dX11_split_30 rfl (lv_at hl 3 rfl) ?_
        refine lv_istore (lv' := [(5, .int x), (0, .ref (ma 0)), (1, .int n), (2, .int w), (3, .int x), (4, .int y)]) hx hb dX11_split_31 hl (by decide) rfl (fun ls hl => ?_)
        refine lv_iconst (v := 0) hx hb dX11_split_33 (by decide) ?_
        refine lv_istore (lv' := [(6, .int 0), (5, .int x), (0, .ref (ma 0)), (1, .int n), (2, .int w), (3, .int x), (4, .int y)]) hx hb dX11_split_34 hl (by decide) rfl (fun ls hl => ?_)
        refine lv_iconst (v := 0) hx hb dX11_split_36 (by decide) ?_
        refine lv_istore (lv' := [(7, .int 0), (6, .int 0), (5, .int x), (0, .ref (ma 0)), (1, .int n), (2, .int w), (3, .int x), (4, .int y)]) hx hb dX11_split_37 hl (by decide) rfl (fun ls hl => ?_)
        have lp39 : ∀ (N9 : Nat) (kl : Int32) (e6 : Int32) (kc : Int32), (0 ≤ kl.toInt ∧ kl.toInt ≤ 40) → (0 ≤ kc.toInt ∧ kc.toInt ≤ 64 ∧ kc.toInt ≤ y.toInt + 1) → (pth (oOf (sbF V.2 tl (fun k => odF V.2 (tl k) pl (qI S (ma 40)) (pI S 140 (ma 0)).toInt.toNat) n.toNatClampNeg 1 (pI S 128 (ma 0)).toInt.toNat)) (gsm V.2 w.toNatClampNeg) x.toNatClampNeg kc.toNatClampNeg kl.toNatClampNeg) → (gtE (oOf (sbF V.2 tl (fun k => odF V.2 (tl k) pl (qI S (ma 40)) (pI S 140 (ma 0)).toInt.toNat) n.toNatClampNeg 1 (pI S 128 (ma 0)).toInt.toNat)) (gsm V.2 w.toNatClampNeg) x.toNatClampNeg kc e6) → (64 - kc.toInt).toNat < N9 → ∀ (H : Heap) (locs : List Loc) (ls : Array Slot), PX G A s.heap (ch S I27_9 J27_10 q27_11 y27_12) H locs → lv_has ls 8 [(7, .int kc), (6, .int e6), (5, .int kl), (0, .ref (ma 0)), (1, .int n), (2, .int w), (3, .int x), (4, .int y)] → W p l e (Rm 7 0 0) s m args below meth c H locs 0 0 Q (F0 m 39 ls []) := by
          intro N9
          induction N9 with
          | zero => intro kl e6 kc hkl hkc hpt hge hm; exact absurd hm (Nat.not_lt_zero _)
          | succ N9 ih39 =>
            intro kl e6 kc hkl hkc hpt hge hm H locs ls hw hl
            refine lv_iload hx hb dX11_split_39 (lv_at hl 0 rfl) ?_
            refine lv_iload hx hb dX11_split_41 (lv_at hl 7 rfl) ?_
            refine lv_icmp_gt (tgt := 146) hx hb dX11_split_43 (by decide) (fun c43_13 => ?_) (fun c43_13 => ?_)
            · have D43_13 := iLt c43_13 rfl rfl
              refine lv_iload hx hb dX11_split_146 (lv_at hl 1 rfl) ?_
              exact hret e6 _ _ _ _ _ ⟨_, _, _, _, rfl, mInv_u (hI.d hgv.1) hgv.2.1, hgv.1, hgv.2.1, Or.inl ⟨by omega, (by have z9 := hge.resolve_left (by omega); rw [show kc.toNatClampNeg - 1 = y.toNatClampNeg by have := cl_toInt (x := kc) (by omega); have := cl_toInt (x := y) (by omega); omega] at z9; exact z9)⟩⟩ hw rfl dX11_split_148
            · have D43_13 := iNlt c43_13 rfl rfl
              refine lv_iconst (v := 0) hx hb dX11_split_46 (by decide) ?_
              refine lv_istore (lv' := [(6, .int 0), (7, .int kc), (5, .int kl), (0, .ref (ma 0)), (1, .int n), (2, .int w), (3, .int x), (4, .int y)]) hx hb dX11_split_47 hl (by decide) rfl (fun ls hl => ?_)
              have lp49 : ∀ (N9 : Nat) (ke : Int32), (0 ≤ ke.toInt) → (fdM (oOf (sbF V.2 tl (fun k => odF V.2 (tl k) pl (qI S (ma 40)) (pI S 140 (ma 0)).toInt.toNat) n.toNatClampNeg 1 (pI S 128 (ma 0)).toInt.toNat)) (gsm V.2 w.toNatClampNeg) (63 - kc.toNatClampNeg) kl.toNatClampNeg ke.toInt) → (21 - ke.toInt).toNat < N9 → ∀ (H : Heap) (locs : List Loc) (ls : Array Slot), PX G A s.heap (ch S I27_9 J27_10 q27_11 y27_12) H locs → lv_has ls 8 [(6, .int ke), (7, .int kc), (5, .int kl), (0, .ref (ma 0)), (1, .int n), (2, .int w), (3, .int x), (4, .int y)] → W p l e (Rm 7 0 0) s m args below meth c H locs 0 0 Q (F0 m 49 ls []) := by
                intro N9
                induction N9 with
                | zero => intro ke hke hf hm; exact absurd hm (Nat.not_lt_zero _)
                | succ N9 ih49 =>
                  intro ke hke hf hm H locs ls hw hl
                  have hfl := fdM_le hf
                  have hcl1 := cl_toInt (x := kc) (by omega)
                  have hcl2 := cl_toInt (x := kl) (by omega)
                  have hcl3 := cl_toInt (x := ke) (by omega)
                  refine lv_aload_n hx hb dX11_split_49 rfl (lv_at hl 3 rfl) ?_
                  refine lv_iload hx hb dX11_split_50 (lv_at hl 1 rfl) ?_
                  refine lv_iload_n hx hb dX11_split_52 rfl (lv_at hl 5 rfl) ?_
                  refine lv_iload hx hb dX11_split_53 (lv_at hl 0 rfl) ?_
                  refine k_Vl (n := 3) X hw (rcvk (ci := 11) X hw hM.1 (fun _ _ _ _ _ _ _ => ⟨_, rfl⟩) rfl) (c_X11_gain l G _ ma kc w ke hM (show 0 ≤ (I27_9 120 (ma 0) : Int32).toInt ∧ (I27_9 120 (ma 0) : Int32).toInt ≤ 1 by omega) (by omega) (by omega) (by omega)) wd_r41_18 wd_r41_19 wd_r41_20 wd_r1_5 wd_r41_21 ⟨by decide, by decide, by decide +kernel⟩ rfl rfl ⟨Nat.le_of_ble_eq_true rfl, Nat.le_of_ble_eq_true rfl⟩ rfl rfl hl.1 (Nat.le_of_ble_eq_true rfl) dX11_split_55 ⟨Nat.le_of_ble_eq_true rfl, Nat.le_of_ble_eq_true rfl⟩ (fun r55_14 S55_16 H locs h55_15 hw => ?_)
                  obtain ⟨rfl, h55_15⟩ := h55_15
                  have hg : r55_14 = gv (YY (ma 42)) (qI S (ma 18)) (pI S 120 (ma 0)) w kc.toNatClampNeg ke.toNatClampNeg := by have z : r55_14 = gv (y27_12 (ma 42)) (q27_11 (ma 18)) ((I27_9 120 (ma 0) : Int32)) w kc.toNatClampNeg ke.toNatClampNeg := h55_15; rw [← hYY, hq18, hb1] at z; exact z
                  have hgt : r55_14.toInt = oOf (sbF V.2 tl (fun k => odF V.2 (tl k) pl (qI S (ma 40)) (pI S 140 (ma 0)).toInt.toNat) n.toNatClampNeg 1 (pI S 128 (ma 0)).toInt.toNat) (63 - kc.toNatClampNeg) * (gsm V.2 w.toNatClampNeg) ke.toNatClampNeg := by rw [hg]; exact gv_t (hYr _ (by omega)) hodM (by omega) (hmo _ (by omega)) (gsm_r hvk (by have := cl_toInt (x := w) (by omega); omega) (by omega))
                  refine lv_aload_n hx hb dX11_split_58 rfl (lv_at hl 3 rfl) ?_
                  refine gf_X11_133 (b := (ma 44)) X hw hM.1 (mr_44 hM) dX11_split_59 ?_
                  refine lv_iload hx hb dX11_split_62 (lv_at hl 1 rfl) ?_
                  refine lv_iconst (v := 1) hx hb dX11_split_64 (by decide) ?_
                  refine lv_iadd hx hb dX11_split_65 ?_
                  refine lv_topi (fun v65_17 e65_17 => ?_)
                  have t65_17 := iAdd e65_17 rfl t_1 (by omega) (by omega)
                  have t65 := t65_17
                  refine lv_iload hx hb dX11_split_66 (lv_at hl 2 rfl) ?_
                  refine lv_iload hx hb dX11_split_68 (lv_at hl 0 rfl) ?_
                  refine lv_isub hx hb dX11_split_70 ?_
                  refine lv_topi (fun v70_18 e70_18 => ?_)
                  have t70_18 := iSub e70_18 rfl rfl (by omega) (by omega)
                  have t70 := t70_18
                  refine k_Si (n := 2) X hw (c_X11_spot l G _ v65_17 v70_18 (by omega)) wd_r41_15 wd_r41_16 wd_r1_5 wd_r41_17 ⟨by decide, by decide, by decide +kernel⟩ rfl rfl ⟨Nat.le_of_ble_eq_true rfl, Nat.le_of_ble_eq_true rfl⟩ rfl rfl hl.1 (Nat.le_of_ble_eq_true rfl) dX11_split_71 ⟨Nat.le_of_ble_eq_true rfl, Nat.le_of_ble_eq_true rfl⟩ (fun r71_19 S71_21 H locs h71_20 hw => ?_)
                  obtain ⟨rfl, h71_20⟩ := h71_20
                  have s71 : r71_19.toNatClampNeg = 41 * (kc.toNatClampNeg + 1) + (kl.toNatClampNeg - ke.toNatClampNeg) := spot_n (by omega)
                  refine q_ldJ X hw (mk_44 hM) (vin (mn_44 hM) (by omega) (by omega)) dX11_split_74 ?_
                  refine lv_topl (fun v74_22 e74_22 => ?_)
                  have e74_22 : v74_22 = y27_12 (ma 44) r71_19.toNatClampNeg := e74_22
                  have e74n := e74_22
                  rw [s71, ← hYY] at e74n
                  refine lv_ladd hx hb dX11_split_75 ?_
                  refine lv_topl (fun v75_23 e75_23 => ?_)
                  have hv9 : v75_23.toInt = chV (oOf (sbF V.2 tl (fun k => odF V.2 (tl k) pl (qI S (ma 40)) (pI S 140 (ma 0)).toInt.toNat) n.toNatClampNeg 1 (pI S 128 (ma 0)).toInt.toNat)) (gsm V.2 w.toNatClampNeg) (63 - kc.toNatClampNeg) kl.toNatClampNeg ke.toNatClampNeg := ch_v hodM hgM (by omega) hgt (by rw [e74n]; exact (hT0 (kc.toNatClampNeg + 1) (kl.toNatClampNeg - ke.toNatClampNeg) (by omega) (by omega) (by omega)).1) e75_23 (by omega) (by omega)
                  refine lv_aload_n hx hb dX11_split_76 rfl (lv_at hl 3 rfl) ?_
                  refine gf_X11_133 (b := (ma 44)) X hw hM.1 (mr_44 hM) dX11_split_77 ?_
                  refine lv_iload hx hb dX11_split_80 (lv_at hl 1 rfl) ?_
                  refine lv_iload hx hb dX11_split_82 (lv_at hl 2 rfl) ?_
                  refine k_Si (n := 2) X hw (c_X11_spot l G _ kc kl (by omega)) wd_r41_15 wd_r41_16 wd_r1_5 wd_r41_17 ⟨by decide, by decide, by decide +kernel⟩ rfl rfl ⟨Nat.le_of_ble_eq_true rfl, Nat.le_of_ble_eq_true rfl⟩ rfl rfl hl.1 (Nat.le_of_ble_eq_true rfl) dX11_split_84 ⟨Nat.le_of_ble_eq_true rfl, Nat.le_of_ble_eq_true rfl⟩ (fun r84_24 S84_26 H locs h84_25 hw => ?_)
                  obtain ⟨rfl, h84_25⟩ := h84_25
                  have s84 : r84_24.toNatClampNeg = 41 * kc.toNatClampNeg + kl.toNatClampNeg := spot_n (by omega)
                  refine q_ldJ X hw (mk_44 hM) (vin (mn_44 hM) (by omega) (by omega)) dX11_split_87 ?_
                  refine lv_topl (fun v87_27 e87_27 => ?_)
                  have e87_27 : v87_27 = y27_12 (ma 44) r84_24.toNatClampNeg := e87_27
                  have e87n := e87_27
                  rw [s84, ← hYY] at e87n
                  have h87 : v87_27.toInt = val (oOf (sbF V.2 tl (fun k => odF V.2 (tl k) pl (qI S (ma 40)) (pI S 140 (ma 0)).toInt.toNat) n.toNatClampNeg 1 (pI S 128 (ma 0)).toInt.toNat)) (gsm V.2 w.toNatClampNeg) (64 - kc.toNatClampNeg) kl.toNatClampNeg := by rw [e87n]; exact (hT0 kc.toNatClampNeg kl.toNatClampNeg (by omega) (by omega) (by omega)).1
                  refine W.lcmp hx hb dX11_split_88 ?_
                  refine lv_topi (fun v88_28 e88_28 => ?_)
                  refine lv_if_ne (tgt := 127) hx hb dX11_split_89 (by decide) (fun c89_29 => ?_) (fun c89_29 => ?_)
                  · have D89_29 := lc_ne e88_28 c89_29
                    obtain ⟨v127_30, e127_30⟩ : ∃ y : Int32, y = ke + 1 := ⟨_, rfl⟩
                    have t127_30 := iAdd e127_30 rfl t_1 (by omega) (by omega)
                    have t127 := t127_30
                    refine lv_iinc (v := v127_30) (lv' := [(6, .int v127_30), (7, .int kc), (5, .int kl), (0, .ref (ma 0)), (1, .int n), (2, .int w), (3, .int x), (4, .int y)]) hx hb dX11_split_127 hl (k := 0) rfl (by rw [e127_30]; rfl) (by decide) rfl (fun ls hl => ?_)
                    refine lv_goto (tgt := 49) hx hb dX11_split_130 (by decide) ?_
                    exact ih49  v127_30 (by omega) (fdM_s hf hke t127 (by first | exact gM_n1 (by omega) hv9 h87 (by assumption) | exact gM_n2 (by omega) hu9 h123 (by assumption))) (by omega) _ _ _ hw (lv_sub hl [0, 1, 2, 3, 4, 5, 6, 7] rfl)
                  · have D89_29 := lcn_ne e88_28 c89_29
                    refine lv_iload hx hb dX11_split_92 (lv_at hl 0 rfl) ?_
                    refine lv_aload_n hx hb dX11_split_94 rfl (lv_at hl 3 rfl) ?_
                    refine gf_X11_136 (b := (ma 45)) X hw hM.1 (mr_45 hM) dX11_split_95 ?_
                    refine lv_iload hx hb dX11_split_98 (lv_at hl 1 rfl) ?_
                    refine lv_iconst (v := 1) hx hb dX11_split_100 (by decide) ?_
                    refine lv_iadd hx hb dX11_split_101 ?_
                    refine lv_topi (fun v101_31 e101_31 => ?_)
                    have t101_31 := iAdd e101_31 rfl t_1 (by omega) (by omega)
                    have t101 := t101_31
                    refine lv_iload hx hb dX11_split_102 (lv_at hl 2 rfl) ?_
                    refine lv_iload hx hb dX11_split_104 (lv_at hl 0 rfl) ?_
                    refine lv_isub hx hb dX11_split_106 ?_
                    refine lv_topi (fun v106_32 e106_32 => ?_)
                    have t106_32 := iSub e106_32 rfl rfl (by omega) (by omega)
                    have t106 := t106_32
                    refine k_Si (n := 2) X hw (c_X11_spot l G _ v101_31 v106_32 (by omega)) wd_r41_15 wd_r41_16 wd_r1_5 wd_r41_17 ⟨by decide, by decide, by decide +kernel⟩ rfl rfl ⟨Nat.le_of_ble_eq_true rfl, Nat.le_of_ble_eq_true rfl⟩ rfl rfl hl.1 (Nat.le_of_ble_eq_true rfl) dX11_split_107 ⟨Nat.le_of_ble_eq_true rfl, Nat.le_of_ble_eq_true rfl⟩ (fun r107_33 S107_35 H locs h107_34 hw => ?_)
                    obtain ⟨rfl, h107_34⟩ := h107_34
                    have s107 : r107_33.toNatClampNeg = 41 * (kc.toNatClampNeg + 1) + (kl.toNatClampNeg - ke.toNatClampNeg) := spot_n (by omega)
                    refine q_ldI X hw (mk_45 hM) (vin (mn_45 hM) (by omega) (by omega)) dX11_split_110 ?_
                    refine lv_topi (fun v110_36 e110_36 => ?_)
                    have e110_36 : v110_36 = q27_11 (ma 45) r107_33.toNatClampNeg := e110_36
                    have e110n := e110_36
                    rw [s107, ← hQQ] at e110n
                    refine lv_iadd hx hb dX11_split_111 ?_
                    refine lv_topi (fun v111_37 e111_37 => ?_)
                    have hu9 : v111_37.toInt = (chU (oOf (sbF V.2 tl (fun k => odF V.2 (tl k) pl (qI S (ma 40)) (pI S 140 (ma 0)).toInt.toNat) n.toNatClampNeg 1 (pI S 128 (ma 0)).toInt.toNat)) (gsm V.2 w.toNatClampNeg) (63 - kc.toNatClampNeg) kl.toNatClampNeg ke.toNatClampNeg : Int) := ch_u (x := ke) (by omega) hcl3.symm (by rw [e110n]; exact (hT0 (kc.toNatClampNeg + 1) (kl.toNatClampNeg - ke.toNatClampNeg) (by omega) (by omega) (by omega)).2) e111_37 (by omega) (by omega)
                    refine lv_aload_n hx hb dX11_split_112 rfl (lv_at hl 3 rfl) ?_
                    refine gf_X11_136 (b := (ma 45)) X hw hM.1 (mr_45 hM) dX11_split_113 ?_
                    refine lv_iload hx hb dX11_split_116 (lv_at hl 1 rfl) ?_
                    refine lv_iload hx hb dX11_split_118 (lv_at hl 2 rfl) ?_
                    refine k_Si (n := 2) X hw (c_X11_spot l G _ kc kl (by omega)) wd_r41_15 wd_r41_16 wd_r1_5 wd_r41_17 ⟨by decide, by decide, by decide +kernel⟩ rfl rfl ⟨Nat.le_of_ble_eq_true rfl, Nat.le_of_ble_eq_true rfl⟩ rfl rfl hl.1 (Nat.le_of_ble_eq_true rfl) dX11_split_120 ⟨Nat.le_of_ble_eq_true rfl, Nat.le_of_ble_eq_true rfl⟩ (fun r120_38 S120_40 H locs h120_39 hw => ?_)
                    obtain ⟨rfl, h120_39⟩ := h120_39
                    have s120 : r120_38.toNatClampNeg = 41 * kc.toNatClampNeg + kl.toNatClampNeg := spot_n (by omega)
                    refine q_ldI X hw (mk_45 hM) (vin (mn_45 hM) (by omega) (by omega)) dX11_split_123 ?_
                    refine lv_topi (fun v123_41 e123_41 => ?_)
                    have e123_41 : v123_41 = q27_11 (ma 45) r120_38.toNatClampNeg := e123_41
                    have e123n := e123_41
                    rw [s120, ← hQQ] at e123n
                    have h123 : v123_41.toInt = (lsF (val (oOf (sbF V.2 tl (fun k => odF V.2 (tl k) pl (qI S (ma 40)) (pI S 140 (ma 0)).toInt.toNat) n.toNatClampNeg 1 (pI S 128 (ma 0)).toInt.toNat)) (gsm V.2 w.toNatClampNeg) (64 - kc.toNatClampNeg)) kl.toNatClampNeg : Int) := by rw [e123n]; exact (hT0 kc.toNatClampNeg kl.toNatClampNeg (by omega) (by omega) (by omega)).2
                    refine lv_icmp_eq (tgt := 133) hx hb dX11_split_124 (by decide) (fun c124_42 => ?_) (fun c124_42 => ?_)
                    · have D124_42 := iEq c124_42 rfl rfl
                      have hlm := fdM_e hf hke (gM_y (by omega) hv9 h87 (by omega) hu9 h123 (by assumption))
                      refine lv_iload hx hb dX11_split_133 (lv_at hl 2 rfl) ?_
                      refine lv_iload hx hb dX11_split_135 (lv_at hl 0 rfl) ?_
                      refine lv_isub hx hb dX11_split_137 ?_
                      refine lv_topi (fun v137_43 e137_43 => ?_)
                      have t137_43 := iSub e137_43 rfl rfl (by omega) (by omega)
                      have t137 := t137_43
                      refine lv_istore (lv' := [(5, .int v137_43), (6, .int ke), (7, .int kc), (0, .ref (ma 0)), (1, .int n), (2, .int w), (3, .int x), (4, .int y)]) hx hb dX11_split_138 hl (by decide) rfl (fun ls hl => ?_)
                      obtain ⟨v140_44, e140_44⟩ : ∃ y : Int32, y = kc + 1 := ⟨_, rfl⟩
                      have t140_44 := iAdd e140_44 rfl t_1 (by omega) (by omega)
                      have t140 := t140_44
                      refine lv_iinc (v := v140_44) (lv' := [(7, .int v140_44), (5, .int v137_43), (6, .int ke), (0, .ref (ma 0)), (1, .int n), (2, .int w), (3, .int x), (4, .int y)]) hx hb dX11_split_140 hl (k := 2) rfl (by rw [e140_44]; rfl) (by decide) rfl (fun ls hl => ?_)
                      refine lv_goto (tgt := 39) hx hb dX11_split_143 (by decide) ?_
                      exact ih39  v137_43 ke v140_44 (by omega) (by omega) (pth_s hpt hlm hkc.1 hkl.1 hke t140 t137).1 (pth_s hpt hlm hkc.1 hkl.1 hke t140 t137).2 (by omega) _ _ _ hw (lv_sub hl [0, 2, 1, 3, 4, 5, 6, 7] rfl)
                    · skip
                      obtain ⟨v127_45, e127_45⟩ : ∃ y : Int32, y = ke + 1 := ⟨_, rfl⟩
                      have t127_45 := iAdd e127_45 rfl t_1 (by omega) (by omega)
                      have t127 := t127_45
                      refine lv_iinc (v := v127_45) (lv' := [(6, .int v127_45), (7, .int kc), (5, .int kl), (0, .ref (ma 0)), (1, .int n), (2, .int w), (3, .int x), (4, .int y)]) hx hb dX11_split_127 hl (k := 0) rfl (by rw [e127_45]; rfl) (by decide) rfl (fun ls hl => ?_)
                      refine lv_goto (tgt := 49) hx hb dX11_split_130 (by decide) ?_
                      exact ih49  v127_45 (by omega) (fdM_s hf hke t127 (by first | exact gM_n1 (by omega) hv9 h87 (by assumption) | exact gM_n2 (by omega) hu9 h123 (by assumption))) (by omega) _ _ _ hw (lv_sub hl [0, 1, 2, 3, 4, 5, 6, 7] rfl)
              exact lp49 _  0 (by have := t_0; omega) (fdM_0 (oOf_nn hodM) hgM) (Nat.lt_succ_self _) _ _ _ hw (lv_sub hl [0, 1, 2, 3, 4, 5, 6, 7] rfl)
        exact lp39 _  x 0 0 (by have := t_0; have := t_0; omega) (by have := t_0; have := t_0; omega) (pth_1 rfl) (Or.inl (by decide)) (Nat.lt_succ_self _) _ _ _ hw (lv_sub hl [0, 1, 2, 3, 4, 5, 6, 7] rfl)
      · have D19_6 := iNlt c19_6 rfl t_64
        refine lv_iconst (v := -1) hx hb dX11_split_22 (by decide) ?_
        exact hret (-1) _ _ _ _ _ ⟨_, _, _, _, rfl, hI, FrD.rf, fun _ _ _ => rfl, Or.inr ⟨by omega, rfl⟩⟩ hw rfl dX11_split_23
  · have h4_2 := h4_2
    refine lv_if_eq (tgt := 22) hx hb dX11_split_7 (by decide) (fun c7_46 => ?_) (fun c7_46 => absurd c7_46 (by decide))
    refine lv_iconst (v := -1) hx hb dX11_split_22 (by decide) ?_
    exact hret (-1) _ _ _ _ _ ⟨_, _, _, _, rfl, hI, FrD.rf, fun _ _ _ => rfl, Or.inr ⟨by omega, rfl⟩⟩ hw rfl dX11_split_23
