set_option maxHeartbeats 4000000 in
set_option maxRecDepth 100000 in
theorem c_X11_give (l : Launch) (G : Gh) (S : Pl) (ma : Nat → Nat) (n w : Int32) (hM : shMod S ma) (hI : mInv (pI S) (qI S) ma) (hn : 0 ≤ n.toInt ∧ n.toInt ≤ 72) (hw9 : 0 ≤ w.toInt ∧ w.toInt ≤ 1) : MtV l yX11_give cX11_give 12 none (Rm 6 0 0) G [.ref (ma 0), .int n, .int w] S (fun (S' : Pl) => ∃ I' J' q' y', ch S I' J' q' y' = S' ∧ FrD (pI S) I' ∧ (∀ i, i ≤ 45 → i ≠ 45 → q' (ma i) = qI S (ma i)) ∧ (∀ a l : Nat, a < 64 → l ≤ 40 → tbl (y' (ma 42)) (qI S (ma 18)) (pI S 120 (ma 0)) w (y' (ma 44)) (q' (ma 45)) a l)) 0 0 := by
  refine MtV.of (by decide) (Nat.le_of_ble_eq_true rfl) ?_
  intro p e s m args below meth c Q A X hw hin hret ls hl
  have hx := X.1.1
  have hb := X.1.2.1
  have hl : lv_has ls 12 [(0, .ref (ma 0)), (1, .int n), (2, .int w)] := hl
  obtain ⟨⟨b1, b2, b3, b4, b5, b6⟩, hT, hP, hC⟩ := id hI
  refine lv_aload_n hx hb dX11_give_0 rfl (lv_at hl 0 rfl) ?_
  refine lv_iload_n hx hb dX11_give_1 rfl (lv_at hl 1 rfl) ?_
  refine lv_iconst (v := 1) hx hb dX11_give_2 (by decide) ?_
  refine k_Vv (n := 2) X hw (rcvk (ci := 11) X hw hM.1 (fun _ _ _ _ _ _ _ => ⟨_, rfl⟩) rfl) (c_X11_sumUp l G _ ma n 1 hM (hI.d FrD.rf) (by omega)) wd_r38_23 wd_r39_0 wd_r39_1 wd_r1_5 wd_r39_2 ⟨by decide, by decide, by decide +kernel⟩ rfl rfl ⟨Nat.le_of_ble_eq_true rfl, Nat.le_of_ble_eq_true rfl⟩ rfl rfl hl.1 (Nat.le_of_ble_eq_true rfl) dX11_give_3 ⟨Nat.le_of_ble_eq_true rfl, Nat.le_of_ble_eq_true rfl⟩ (fun S3_2 H locs h3_1 hw => ?_)
  have := t_1
  obtain ⟨I3_3, J3_4, y3_5, rfl, h3_1⟩ := h3_1
  have hw : PX G A s.heap (ch S I3_3 J3_4 (qI S) y3_5) H locs := hw
  have hsu := h3_1
  obtain ⟨RC, hRC⟩ : ∃ z, z = y3_5 (ma 42) := ⟨_, rfl⟩
  have hR0 : cOK RC 40000000000000000 := by rw [hRC]; exact hsu.2.1
  obtain ⟨BK, hBK⟩ : ∃ z, z = (I3_3 120 (ma 0) : Int32) := ⟨_, rfl⟩
  have hBK2 : BK = pI S 120 (ma 0) := by rw [hBK]; exact congrFun (hsu.1 120 (by decide)) (ma 0)
  have hbk := FrD.at hsu.1 (f := 120) (by decide) (ma 0)
  refine lv_iconst (v := 0) hx hb dX11_give_6 (by decide) ?_
  refine lv_istore_n (lv' := [(3, .int 0), (0, .ref (ma 0)), (1, .int n), (2, .int w)]) hx hb dX11_give_7 rfl hl (by decide) rfl (fun ls hl => ?_)
  have lp8 : ∀ (N9 : Nat) (q8 : Nat → Nat → Int32) (y8 : Nat → Nat → Int64) (k : Int32), (0 ≤ k.toInt ∧ k.toInt ≤ 41) → (∀ i : Nat, (i : Int) < k.toInt → y8 (ma 44) (2624 + i) = 0) → (y8 (ma 42) = RC) → (∀ i, i ≤ 45 → i ≠ 45 → q8 (ma i) = qI S (ma i)) → (41 - k.toInt).toNat < N9 → ∀ (H : Heap) (locs : List Loc) (ls : Array Slot), PX G A s.heap (ch S I3_3 J3_4 q8 y8) H locs → lv_has ls 12 [(3, .int k), (0, .ref (ma 0)), (1, .int n), (2, .int w)] → W p l e (Rm 6 0 0) s m args below meth c H locs 0 0 Q (F0 m 8 ls []) := by
    intro N9
    induction N9 with
    | zero => intro q8 y8 k hk h0 hy42 hq hm; exact absurd hm (Nat.not_lt_zero _)
    | succ N9 ih8 =>
      intro q8 y8 k hk h0 hy42 hq hm H locs ls hw hl
      refine lv_iload_n hx hb dX11_give_8 rfl (lv_at hl 0 rfl) ?_
      refine lv_bipush (v := 40) hx hb dX11_give_9 (by decide) ?_
      refine lv_icmp_gt (tgt := 44) hx hb dX11_give_11 (by decide) (fun c11_6 => ?_) (fun c11_6 => ?_)
      · have D11_6 := iLt c11_6 t_40 rfl
        refine lv_bipush (v := 63) hx hb dX11_give_44 (by decide) ?_
        refine lv_istore_n (lv' := [(3, .int 63), (0, .ref (ma 0)), (1, .int n), (2, .int w)]) hx hb dX11_give_46 rfl hl (by decide) rfl (fun ls hl => ?_)
        have lp47 : ∀ (N9 : Nat) (q47 : Nat → Nat → Int32) (y47 : Nat → Nat → Int64) (kc : Int32), (-1 ≤ kc.toInt ∧ kc.toInt ≤ 63) → (y47 (ma 42) = RC) → (∀ i, i ≤ 45 → i ≠ 45 → q47 (ma i) = qI S (ma i)) → (tblA RC (qI S (ma 18)) BK w (y47 (ma 44)) (q47 (ma 45)) kc.toInt) → (kc.toInt + 1).toNat < N9 → ∀ (H : Heap) (locs : List Loc) (ls : Array Slot), PX G A s.heap (ch S I3_3 J3_4 q47 y47) H locs → lv_has ls 12 [(3, .int kc), (0, .ref (ma 0)), (1, .int n), (2, .int w)] → W p l e (Rm 6 0 0) s m args below meth c H locs 0 0 Q (F0 m 47 ls []) := by
          intro N9
          induction N9 with
          | zero => intro q47 y47 kc hk hy42 hq hA1 hm; exact absurd hm (Nat.not_lt_zero _)
          | succ N9 ih47 =>
            intro q47 y47 kc hk hy42 hq hA1 hm H locs ls hw hl
            refine lv_iload_n hx hb dX11_give_47 rfl (lv_at hl 0 rfl) ?_
            refine lv_if_lt (tgt := 212) hx hb dX11_give_48 (by decide) (fun c48_7 => ?_) (fun c48_7 => ?_)
            · have D48_7 := iLt c48_7 rfl t_0
              exact hret _ _ _ _ _ ⟨_, _, _, _, rfl, (FrD.tr FrD.rf h3_1.1), hq, fun a l h1 h2 => by rw [hy42, ← hBK2]; exact (hA1 a l (by omega) (by omega) h2).2 h1⟩ hw dX11_give_212
            · have D48_7 := iNlt c48_7 rfl t_0
              refine lv_iconst (v := 0) hx hb dX11_give_51 (by decide) ?_
              refine lv_istore (lv' := [(4, .int 0), (3, .int kc), (0, .ref (ma 0)), (1, .int n), (2, .int w)]) hx hb dX11_give_52 hl (by decide) rfl (fun ls hl => ?_)
              have lp54 : ∀ (N9 : Nat) (q54 : Nat → Nat → Int32) (y54 : Nat → Nat → Int64) (kl : Int32), (0 ≤ kl.toInt ∧ kl.toInt ≤ 41) → (y54 (ma 42) = RC) → (∀ i, i ≤ 45 → i ≠ 45 → q54 (ma i) = qI S (ma i)) → (tblA RC (qI S (ma 18)) BK w (y54 (ma 44)) (q54 (ma 45)) kc.toNatClampNeg) → (tblL RC (qI S (ma 18)) BK w (y54 (ma 44)) (q54 (ma 45)) kc.toNatClampNeg kl.toInt) → (41 - kl.toInt).toNat < N9 → ∀ (H : Heap) (locs : List Loc) (ls : Array Slot), PX G A s.heap (ch S I3_3 J3_4 q54 y54) H locs → lv_has ls 12 [(4, .int kl), (3, .int kc), (0, .ref (ma 0)), (1, .int n), (2, .int w)] → W p l e (Rm 6 0 0) s m args below meth c H locs 0 0 Q (F0 m 54 ls []) := by
                intro N9
                induction N9 with
                | zero => intro q54 y54 kl hkl hy42 hq hA0 hL0 hm; exact absurd hm (Nat.not_lt_zero _)
                | succ N9 ih54 =>
                  intro q54 y54 kl hkl hy42 hq hA0 hL0 hm H locs ls hw hl
                  refine lv_iload hx hb dX11_give_54 (lv_at hl 0 rfl) ?_
                  refine lv_bipush (v := 40) hx hb dX11_give_56 (by decide) ?_
                  refine lv_icmp_gt (tgt := 206) hx hb dX11_give_58 (by decide) (fun c58_8 => ?_) (fun c58_8 => ?_)
                  · have D58_8 := iLt c58_8 t_40 rfl
                    obtain ⟨v206_9, e206_9⟩ : ∃ y : Int32, y = kc + (-1) := ⟨_, rfl⟩
                    have t206_9 := iAdd e206_9 rfl t_m1 (by omega) (by omega)
                    have t206 := t206_9
                    refine lv_iinc (v := v206_9) (lv' := [(3, .int v206_9), (4, .int kl), (0, .ref (ma 0)), (1, .int n), (2, .int w)]) hx hb dX11_give_206 hl (k := 1) rfl (by rw [e206_9]; rfl) (by decide) rfl (fun ls hl => ?_)
                    refine lv_goto (tgt := 47) hx hb dX11_give_209 (by decide) ?_
                    exact ih47 q54 y54 v206_9 (by omega) hy42 hq (tblA_step hA0 hL0 (by omega) (by omega) t206) (by omega) _ _ _ hw (lv_sub hl [0, 2, 3, 4] rfl)
                  · have D58_8 := iNlt c58_8 t_40 rfl
                    refine lv_ldc2 hx hb X.1.2.2.2.1 (X.1.2.2.2.2 _ wd_r37_14) dX11_give_61 ?_
                    refine lv_lstore (lv' := [(5, .long (-1)), (4, .int kl), (3, .int kc), (0, .ref (ma 0)), (1, .int n), (2, .int w)]) hx hb dX11_give_64 hl (by decide) rfl (fun ls hl => ?_)
                    refine lv_iconst (v := 0) hx hb dX11_give_66 (by decide) ?_
                    refine lv_istore (lv' := [(7, .int 0), (5, .long (-1)), (4, .int kl), (3, .int kc), (0, .ref (ma 0)), (1, .int n), (2, .int w)]) hx hb dX11_give_67 hl (by decide) rfl (fun ls hl => ?_)
                    refine lv_iconst (v := 0) hx hb dX11_give_69 (by decide) ?_
                    refine lv_istore (lv' := [(8, .int 0), (7, .int 0), (5, .long (-1)), (4, .int kl), (3, .int kc), (0, .ref (ma 0)), (1, .int n), (2, .int w)]) hx hb dX11_give_70 hl (by decide) rfl (fun ls hl => ?_)
                    have lp72 : ∀ (N9 : Nat) (bs : Int64) (lt : Int32) (ke : Int32), (0 ≤ ke.toInt ∧ ke.toInt ≤ 21) → (bst RC (qI S (ma 18)) BK w (y54 (ma 44)) (q54 (ma 45)) kc.toNatClampNeg kl.toNatClampNeg ke.toInt bs lt) → (21 - ke.toInt).toNat < N9 → ∀ (H : Heap) (locs : List Loc) (ls : Array Slot), PX G A s.heap (ch S I3_3 J3_4 q54 y54) H locs → lv_has ls 12 [(8, .int ke), (7, .int lt), (5, .long bs), (4, .int kl), (3, .int kc), (0, .ref (ma 0)), (1, .int n), (2, .int w)] → W p l e (Rm 6 0 0) s m args below meth c H locs 0 0 Q (F0 m 72 ls []) := by
                      intro N9
                      induction N9 with
                      | zero => intro bs lt ke hke hbs hm; exact absurd hm (Nat.not_lt_zero _)
                      | succ N9 ih72 =>
                        intro bs lt ke hke hbs hm H locs ls hw hl
                        refine lv_iload hx hb dX11_give_72 (lv_at hl 0 rfl) ?_
                        refine lv_bipush (v := 20) hx hb dX11_give_74 (by decide) ?_
                        refine lv_icmp_gt (tgt := 174) hx hb dX11_give_76 (by decide) (fun c76_10 => ?_) (fun c76_10 => ?_)
                        · have D76_10 := iLt c76_10 t_20 rfl
                          refine lv_aload_n hx hb dX11_give_174 rfl (lv_at hl 5 rfl) ?_
                          refine gf_X11_133 (b := (ma 44)) X hw hM.1 (mr_44 hM) dX11_give_175 ?_
                          refine lv_iload_n hx hb dX11_give_178 rfl (lv_at hl 4 rfl) ?_
                          refine lv_iload hx hb dX11_give_179 (lv_at hl 3 rfl) ?_
                          refine k_Si (n := 2) X hw (c_X11_spot l G _ kc kl (by have := t_64; omega)) wd_r41_15 wd_r41_16 wd_r1_5 wd_r41_17 ⟨by decide, by decide, by decide +kernel⟩ rfl rfl ⟨Nat.le_of_ble_eq_true rfl, Nat.le_of_ble_eq_true rfl⟩ rfl rfl hl.1 (Nat.le_of_ble_eq_true rfl) dX11_give_181 ⟨Nat.le_of_ble_eq_true rfl, Nat.le_of_ble_eq_true rfl⟩ (fun r181_11 S181_13 H locs h181_12 hw => ?_)
                          obtain ⟨rfl, h181_12⟩ := h181_12
                          have hcl1 := cl_toInt (x := kc) (by omega)
                          have hcl2 := cl_toInt (x := kl) (by omega)
                          have s181 : r181_11.toNatClampNeg = 41 * kc.toNatClampNeg + kl.toNatClampNeg := spot_n (by omega)
                          refine lv_lload hx hb dX11_give_184 (lv_at hl 2 rfl) ?_
                          refine q_stJ X hw (mk_44 hM) (vin (mn_44 hM) (by omega) (by omega)) dX11_give_186 (fun H locs hw => ?_)
                          obtain ⟨y186_14, ey186_14, hw⟩ : ∃ zz9, zz9 = va_up y54 (ma 44) (vp_updL (y54 (ma 44)) r181_11.toNatClampNeg bs) ∧ PX G A s.heap (ch S I3_3 J3_4 q54 zz9) H locs := ⟨_, rfl, hw⟩
                          have c186 := ey186_14
                          refine lv_aload_n hx hb dX11_give_187 rfl (lv_at hl 5 rfl) ?_
                          refine gf_X11_136 (b := (ma 45)) X hw hM.1 (mr_45 hM) dX11_give_188 ?_
                          refine lv_iload_n hx hb dX11_give_191 rfl (lv_at hl 4 rfl) ?_
                          refine lv_iload hx hb dX11_give_192 (lv_at hl 3 rfl) ?_
                          refine k_Si (n := 2) X hw (c_X11_spot l G _ kc kl (by have := t_64; omega)) wd_r41_15 wd_r41_16 wd_r1_5 wd_r41_17 ⟨by decide, by decide, by decide +kernel⟩ rfl rfl ⟨Nat.le_of_ble_eq_true rfl, Nat.le_of_ble_eq_true rfl⟩ rfl rfl hl.1 (Nat.le_of_ble_eq_true rfl) dX11_give_194 ⟨Nat.le_of_ble_eq_true rfl, Nat.le_of_ble_eq_true rfl⟩ (fun r194_15 S194_17 H locs h194_16 hw => ?_)
                          obtain ⟨rfl, h194_16⟩ := h194_16
                          have s194 : r194_15.toNatClampNeg = 41 * kc.toNatClampNeg + kl.toNatClampNeg := spot_n (by omega)
                          refine lv_iload hx hb dX11_give_197 (lv_at hl 1 rfl) ?_
                          refine q_stI X hw (mk_45 hM) (vin (mn_45 hM) (by omega) (by omega)) dX11_give_199 (fun H locs hw => ?_)
                          obtain ⟨q199_18, eq199_18, hw⟩ : ∃ zz9, zz9 = va_up q54 (ma 45) (upd (q54 (ma 45)) r194_15.toNatClampNeg lt) ∧ PX G A s.heap (ch S I3_3 J3_4 zz9 y186_14) H locs := ⟨_, rfl, hw⟩
                          have c199 := eq199_18
                          obtain ⟨v200_19, e200_19⟩ : ∃ y : Int32, y = kl + 1 := ⟨_, rfl⟩
                          have t200_19 := iAdd e200_19 rfl t_1 (by omega) (by omega)
                          have t200 := t200_19
                          refine lv_iinc (v := v200_19) (lv' := [(4, .int v200_19), (8, .int ke), (7, .int lt), (5, .long bs), (3, .int kc), (0, .ref (ma 0)), (1, .int n), (2, .int w)]) hx hb dX11_give_200 hl (k := 3) rfl (by rw [e200_19]; rfl) (by decide) rfl (fun ls hl => ?_)
                          refine lv_goto (tgt := 54) hx hb dX11_give_203 (by decide) ?_
                          exact ih54 q199_18 y186_14 v200_19 (by omega) (by rw [c186, vu_n (fun e => absurd (hM.2.2 42 44 (by decide) (by decide) e) (by decide))]; exact hy42) (fun i hi hn => by rw [c199, vu_n (fun e => hn (hM.2.2 i 45 hi (by decide) e))]; exact hq i hi hn) (tblA_upd (l := kl.toNatClampNeg) hA0 (by omega) (by rw [c186, vu_s, s181]) (by rw [c199, vu_s, s194])) (tblL_upd hR0 hC.2 (by omega) hL0 hA0 (by omega) t200 (by rw [c186, vu_s, s181]) (by rw [c199, vu_s, s194]) (bst_end hbs (by omega))) (by omega) _ _ _ hw (lv_sub hl [0, 4, 5, 6, 7] rfl)
                        · have D76_10 := iNlt c76_10 t_20 rfl
                          refine lv_iload hx hb dX11_give_79 (lv_at hl 0 rfl) ?_
                          refine lv_iload hx hb dX11_give_81 (lv_at hl 3 rfl) ?_
                          refine lv_icmp_gt (tgt := 174) hx hb dX11_give_83 (by decide) (fun c83_20 => ?_) (fun c83_20 => ?_)
                          · have D83_20 := iLt c83_20 rfl rfl
                            refine lv_aload_n hx hb dX11_give_174 rfl (lv_at hl 5 rfl) ?_
                            refine gf_X11_133 (b := (ma 44)) X hw hM.1 (mr_44 hM) dX11_give_175 ?_
                            refine lv_iload_n hx hb dX11_give_178 rfl (lv_at hl 4 rfl) ?_
                            refine lv_iload hx hb dX11_give_179 (lv_at hl 3 rfl) ?_
                            refine k_Si (n := 2) X hw (c_X11_spot l G _ kc kl (by have := t_64; omega)) wd_r41_15 wd_r41_16 wd_r1_5 wd_r41_17 ⟨by decide, by decide, by decide +kernel⟩ rfl rfl ⟨Nat.le_of_ble_eq_true rfl, Nat.le_of_ble_eq_true rfl⟩ rfl rfl hl.1 (Nat.le_of_ble_eq_true rfl) dX11_give_181 ⟨Nat.le_of_ble_eq_true rfl, Nat.le_of_ble_eq_true rfl⟩ (fun r181_21 S181_23 H locs h181_22 hw => ?_)
                            obtain ⟨rfl, h181_22⟩ := h181_22
                            have hcl1 := cl_toInt (x := kc) (by omega)
                            have hcl2 := cl_toInt (x := kl) (by omega)
                            have s181 : r181_21.toNatClampNeg = 41 * kc.toNatClampNeg + kl.toNatClampNeg := spot_n (by omega)
                            refine lv_lload hx hb dX11_give_184 (lv_at hl 2 rfl) ?_
                            refine q_stJ X hw (mk_44 hM) (vin (mn_44 hM) (by omega) (by omega)) dX11_give_186 (fun H locs hw => ?_)
                            obtain ⟨y186_24, ey186_24, hw⟩ : ∃ zz9, zz9 = va_up y54 (ma 44) (vp_updL (y54 (ma 44)) r181_21.toNatClampNeg bs) ∧ PX G A s.heap (ch S I3_3 J3_4 q54 zz9) H locs := ⟨_, rfl, hw⟩
                            have c186 := ey186_24
                            refine lv_aload_n hx hb dX11_give_187 rfl (lv_at hl 5 rfl) ?_
                            refine gf_X11_136 (b := (ma 45)) X hw hM.1 (mr_45 hM) dX11_give_188 ?_
                            refine lv_iload_n hx hb dX11_give_191 rfl (lv_at hl 4 rfl) ?_
                            refine lv_iload hx hb dX11_give_192 (lv_at hl 3 rfl) ?_
                            refine k_Si (n := 2) X hw (c_X11_spot l G _ kc kl (by have := t_64; omega)) wd_r41_15 wd_r41_16 wd_r1_5 wd_r41_17 ⟨by decide, by decide, by decide +kernel⟩ rfl rfl ⟨Nat.le_of_ble_eq_true rfl, Nat.le_of_ble_eq_true rfl⟩ rfl rfl hl.1 (Nat.le_of_ble_eq_true rfl) dX11_give_194 ⟨Nat.le_of_ble_eq_true rfl, Nat.le_of_ble_eq_true rfl⟩ (fun r194_25 S194_27 H locs h194_26 hw => ?_)
                            obtain ⟨rfl, h194_26⟩ := h194_26
                            have s194 : r194_25.toNatClampNeg = 41 * kc.toNatClampNeg + kl.toNatClampNeg := spot_n (by omega)
                            refine lv_iload hx hb dX11_give_197 (lv_at hl 1 rfl) ?_
                            refine q_stI X hw (mk_45 hM) (vin (mn_45 hM) (by omega) (by omega)) dX11_give_199 (fun H locs hw => ?_)
                            obtain ⟨q199_28, eq199_28, hw⟩ : ∃ zz9, zz9 = va_up q54 (ma 45) (upd (q54 (ma 45)) r194_25.toNatClampNeg lt) ∧ PX G A s.heap (ch S I3_3 J3_4 zz9 y186_24) H locs := ⟨_, rfl, hw⟩
                            have c199 := eq199_28
                            obtain ⟨v200_29, e200_29⟩ : ∃ y : Int32, y = kl + 1 := ⟨_, rfl⟩
                            have t200_29 := iAdd e200_29 rfl t_1 (by omega) (by omega)
                            have t200 := t200_29
                            refine lv_iinc (v := v200_29) (lv' := [(4, .int v200_29), (8, .int ke), (7, .int lt), (5, .long bs), (3, .int kc), (0, .ref (ma 0)), (1, .int n), (2, .int w)]) hx hb dX11_give_200 hl (k := 3) rfl (by rw [e200_29]; rfl) (by decide) rfl (fun ls hl => ?_)
                            refine lv_goto (tgt := 54) hx hb dX11_give_203 (by decide) ?_
                            exact ih54 q199_28 y186_24 v200_29 (by omega) (by rw [c186, vu_n (fun e => absurd (hM.2.2 42 44 (by decide) (by decide) e) (by decide))]; exact hy42) (fun i hi hn => by rw [c199, vu_n (fun e => hn (hM.2.2 i 45 hi (by decide) e))]; exact hq i hi hn) (tblA_upd (l := kl.toNatClampNeg) hA0 (by omega) (by rw [c186, vu_s, s181]) (by rw [c199, vu_s, s194])) (tblL_upd hR0 hC.2 (by omega) hL0 hA0 (by omega) t200 (by rw [c186, vu_s, s181]) (by rw [c199, vu_s, s194]) (bst_end hbs (by omega))) (by omega) _ _ _ hw (lv_sub hl [0, 4, 5, 6, 7] rfl)
                          · have D83_20 := iNlt c83_20 rfl rfl
                            refine lv_aload_n hx hb dX11_give_86 rfl (lv_at hl 5 rfl) ?_
                            refine lv_iload_n hx hb dX11_give_87 rfl (lv_at hl 4 rfl) ?_
                            refine lv_iload_n hx hb dX11_give_88 rfl (lv_at hl 7 rfl) ?_
                            refine lv_iload hx hb dX11_give_89 (lv_at hl 0 rfl) ?_
                            refine k_Vl (n := 3) X hw (rcvk (ci := 11) X hw hM.1 (fun _ _ _ _ _ _ _ => ⟨_, rfl⟩) rfl) (c_X11_gain l G _ ma kc w ke hM (show 0 ≤ (I3_3 120 (ma 0) : Int32).toInt ∧ (I3_3 120 (ma 0) : Int32).toInt ≤ 1 by omega) (by omega) (by omega) (by omega)) wd_r41_18 wd_r41_19 wd_r41_20 wd_r1_5 wd_r41_21 ⟨by decide, by decide, by decide +kernel⟩ rfl rfl ⟨Nat.le_of_ble_eq_true rfl, Nat.le_of_ble_eq_true rfl⟩ rfl rfl hl.1 (Nat.le_of_ble_eq_true rfl) dX11_give_91 ⟨Nat.le_of_ble_eq_true rfl, Nat.le_of_ble_eq_true rfl⟩ (fun r91_30 S91_32 H locs h91_31 hw => ?_)
                            obtain ⟨rfl, h91_31⟩ := h91_31
                            have hg : r91_30 = gv RC (qI S (ma 18)) BK w kc.toNatClampNeg ke.toNatClampNeg := by have z : r91_30 = gv (y54 (ma 42)) (q54 (ma 18)) ((I3_3 120 (ma 0) : Int32)) w kc.toNatClampNeg ke.toNatClampNeg := h91_31; rw [hy42, hq 18 (by decide) (by decide), ← hBK] at z; exact z
                            have hcl1 := cl_toInt (x := kc) (by omega)
                            have hcl2 := cl_toInt (x := kl) (by omega)
                            have hcl3 := cl_toInt (x := ke) (by omega)
                            refine lv_aload_n hx hb dX11_give_94 rfl (lv_at hl 5 rfl) ?_
                            refine gf_X11_133 (b := (ma 44)) X hw hM.1 (mr_44 hM) dX11_give_95 ?_
                            refine lv_iload_n hx hb dX11_give_98 rfl (lv_at hl 4 rfl) ?_
                            refine lv_iconst (v := 1) hx hb dX11_give_99 (by decide) ?_
                            refine lv_iadd hx hb dX11_give_100 ?_
                            refine lv_topi (fun v100_33 e100_33 => ?_)
                            have t100_33 := iAdd e100_33 rfl t_1 (by omega) (by omega)
                            have t100 := t100_33
                            refine lv_iload hx hb dX11_give_101 (lv_at hl 3 rfl) ?_
                            refine lv_iload hx hb dX11_give_103 (lv_at hl 0 rfl) ?_
                            refine lv_isub hx hb dX11_give_105 ?_
                            refine lv_topi (fun v105_34 e105_34 => ?_)
                            have t105_34 := iSub e105_34 rfl rfl (by omega) (by omega)
                            have t105 := t105_34
                            refine k_Si (n := 2) X hw (c_X11_spot l G _ v100_33 v105_34 (by have := t_64; omega)) wd_r41_15 wd_r41_16 wd_r1_5 wd_r41_17 ⟨by decide, by decide, by decide +kernel⟩ rfl rfl ⟨Nat.le_of_ble_eq_true rfl, Nat.le_of_ble_eq_true rfl⟩ rfl rfl hl.1 (Nat.le_of_ble_eq_true rfl) dX11_give_106 ⟨Nat.le_of_ble_eq_true rfl, Nat.le_of_ble_eq_true rfl⟩ (fun r106_35 S106_37 H locs h106_36 hw => ?_)
                            obtain ⟨rfl, h106_36⟩ := h106_36
                            have s106 : r106_35.toNatClampNeg = 41 * (kc.toNatClampNeg + 1) + (kl.toNatClampNeg - ke.toNatClampNeg) := spot_n (by omega)
                            refine q_ldJ X hw (mk_44 hM) (vin (mn_44 hM) (by omega) (by omega)) dX11_give_109 ?_
                            refine lv_topl (fun v109_38 e109_38 => ?_)
                            have e109_38 : v109_38 = y54 (ma 44) r106_35.toNatClampNeg := e109_38
                            have e109n := e109_38
                            rw [s106] at e109n
                            refine lv_ladd hx hb dX11_give_110 ?_
                            refine lv_topl (fun v110_39 e110_39 => ?_)
                            have e110n : v110_39 = gv RC (qI S (ma 18)) BK w kc.toNatClampNeg ke.toNatClampNeg + y54 (ma 44) (41 * (kc.toNatClampNeg + 1) + (kl.toNatClampNeg - ke.toNatClampNeg)) := by rw [e110_39, hg, e109n]
                            have hv110 := sum_rng hR0 hC.2 (show kc.toNatClampNeg < 64 by omega) (show ke.toNatClampNeg ≤ kl.toNatClampNeg by omega) ((hA0 (kc.toNatClampNeg + 1) (kl.toNatClampNeg - ke.toNatClampNeg) (by omega) (by omega) (by omega)).1) e110n
                            refine lv_lstore (lv' := [(9, .long v110_39), (8, .int ke), (7, .int lt), (5, .long bs), (4, .int kl), (3, .int kc), (0, .ref (ma 0)), (1, .int n), (2, .int w)]) hx hb dX11_give_111 hl (by decide) rfl (fun ls hl => ?_)
                            refine lv_iload hx hb dX11_give_113 (lv_at hl 1 rfl) ?_
                            refine lv_aload_n hx hb dX11_give_115 rfl (lv_at hl 6 rfl) ?_
                            refine gf_X11_136 (b := (ma 45)) X hw hM.1 (mr_45 hM) dX11_give_116 ?_
                            refine lv_iload_n hx hb dX11_give_119 rfl (lv_at hl 5 rfl) ?_
                            refine lv_iconst (v := 1) hx hb dX11_give_120 (by decide) ?_
                            refine lv_iadd hx hb dX11_give_121 ?_
                            refine lv_topi (fun v121_40 e121_40 => ?_)
                            have t121_40 := iAdd e121_40 rfl t_1 (by omega) (by omega)
                            have t121 := t121_40
                            refine lv_iload hx hb dX11_give_122 (lv_at hl 4 rfl) ?_
                            refine lv_iload hx hb dX11_give_124 (lv_at hl 1 rfl) ?_
                            refine lv_isub hx hb dX11_give_126 ?_
                            refine lv_topi (fun v126_41 e126_41 => ?_)
                            have t126_41 := iSub e126_41 rfl rfl (by omega) (by omega)
                            have t126 := t126_41
                            refine k_Si (n := 2) X hw (c_X11_spot l G _ v121_40 v126_41 (by have := t_64; omega)) wd_r41_15 wd_r41_16 wd_r1_5 wd_r41_17 ⟨by decide, by decide, by decide +kernel⟩ rfl rfl ⟨Nat.le_of_ble_eq_true rfl, Nat.le_of_ble_eq_true rfl⟩ rfl rfl hl.1 (Nat.le_of_ble_eq_true rfl) dX11_give_127 ⟨Nat.le_of_ble_eq_true rfl, Nat.le_of_ble_eq_true rfl⟩ (fun r127_42 S127_44 H locs h127_43 hw => ?_)
                            obtain ⟨rfl, h127_43⟩ := h127_43
                            have s127 : r127_42.toNatClampNeg = 41 * (kc.toNatClampNeg + 1) + (kl.toNatClampNeg - ke.toNatClampNeg) := spot_n (by omega)
                            refine q_ldI X hw (mk_45 hM) (vin (mn_45 hM) (by omega) (by omega)) dX11_give_130 ?_
                            refine lv_topi (fun v130_45 e130_45 => ?_)
                            have e130_45 : v130_45 = q54 (ma 45) r127_42.toNatClampNeg := e130_45
                            have e130n := e130_45
                            rw [s127] at e130n
                            refine lv_iadd hx hb dX11_give_131 ?_
                            refine lv_topi (fun v131_46 e131_46 => ?_)
                            have e131n : v131_46 = ke + q54 (ma 45) (41 * (kc.toNatClampNeg + 1) + (kl.toNatClampNeg - ke.toNatClampNeg)) := by rw [e131_46, e130n]
                            refine lv_istore (lv' := [(11, .int v131_46), (9, .long v110_39), (8, .int ke), (7, .int lt), (5, .long bs), (4, .int kl), (3, .int kc), (0, .ref (ma 0)), (1, .int n), (2, .int w)]) hx hb dX11_give_132 hl (by decide) rfl (fun ls hl => ?_)
                            refine lv_lload hx hb dX11_give_134 (lv_at hl 1 rfl) ?_
                            refine lv_lload hx hb dX11_give_136 (lv_at hl 4 rfl) ?_
                            refine W.lcmp hx hb dX11_give_138 ?_
                            refine lv_topi (fun v138_47 e138_47 => ?_)
                            refine lv_if_lt (tgt := 168) hx hb dX11_give_139 (by decide) (fun c139_48 => ?_) (fun c139_48 => ?_)
                            · have D139_48 := lc_lt e138_47 c139_48
                              obtain ⟨v168_49, e168_49⟩ : ∃ y : Int32, y = ke + 1 := ⟨_, rfl⟩
                              have t168_49 := iAdd e168_49 rfl t_1 (by omega) (by omega)
                              have t168 := t168_49
                              refine lv_iinc (v := v168_49) (lv' := [(8, .int v168_49), (11, .int v131_46), (9, .long v110_39), (7, .int lt), (5, .long bs), (4, .int kl), (3, .int kc), (0, .ref (ma 0)), (1, .int n), (2, .int w)]) hx hb dX11_give_168 hl (k := 2) rfl (by rw [e168_49]; rfl) (by decide) rfl (fun ls hl => ?_)
                              refine lv_goto (tgt := 72) hx hb dX11_give_171 (by decide) ?_
                              exact ih72  bs lt v168_49 (by omega) (by first | exact bst_keep hbs t168 (by omega) | exact bst_new (by omega) t168 e110n e131n) (by omega) _ _ _ hw (lv_sub hl [0, 3, 4, 5, 6, 7, 8, 9] rfl)
                            · have D139_48 := lcn_lt e138_47 c139_48
                              refine lv_lload hx hb dX11_give_142 (lv_at hl 1 rfl) ?_
                              refine lv_lload hx hb dX11_give_144 (lv_at hl 4 rfl) ?_
                              refine W.lcmp hx hb dX11_give_146 ?_
                              refine lv_topi (fun v146_50 e146_50 => ?_)
                              refine lv_if_ne (tgt := 160) hx hb dX11_give_147 (by decide) (fun c147_51 => ?_) (fun c147_51 => ?_)
                              · skip
                                refine lv_lload hx hb dX11_give_160 (lv_at hl 1 rfl) ?_
                                refine lv_lstore (lv' := [(5, .long v110_39), (11, .int v131_46), (9, .long v110_39), (8, .int ke), (7, .int lt), (4, .int kl), (3, .int kc), (0, .ref (ma 0)), (1, .int n), (2, .int w)]) hx hb dX11_give_162 hl (by decide) rfl (fun ls hl => ?_)
                                refine lv_iload hx hb dX11_give_164 (lv_at hl 1 rfl) ?_
                                refine lv_istore (lv' := [(7, .int v131_46), (5, .long v110_39), (11, .int v131_46), (9, .long v110_39), (8, .int ke), (4, .int kl), (3, .int kc), (0, .ref (ma 0)), (1, .int n), (2, .int w)]) hx hb dX11_give_166 hl (by decide) rfl (fun ls hl => ?_)
                                obtain ⟨v168_52, e168_52⟩ : ∃ y : Int32, y = ke + 1 := ⟨_, rfl⟩
                                have t168_52 := iAdd e168_52 rfl t_1 (by omega) (by omega)
                                have t168 := t168_52
                                refine lv_iinc (v := v168_52) (lv' := [(8, .int v168_52), (7, .int v131_46), (5, .long v110_39), (11, .int v131_46), (9, .long v110_39), (4, .int kl), (3, .int kc), (0, .ref (ma 0)), (1, .int n), (2, .int w)]) hx hb dX11_give_168 hl (k := 4) rfl (by rw [e168_52]; rfl) (by decide) rfl (fun ls hl => ?_)
                                refine lv_goto (tgt := 72) hx hb dX11_give_171 (by decide) ?_
                                exact ih72  v110_39 v131_46 v168_52 (by omega) (by first | exact bst_keep hbs t168 (by omega) | exact bst_new (by omega) t168 e110n e131n) (by omega) _ _ _ hw (lv_sub hl [0, 1, 2, 5, 6, 7, 8, 9] rfl)
                              · have D147_51 := lcn_ne e146_50 c147_51
                                refine lv_iload hx hb dX11_give_150 (lv_at hl 0 rfl) ?_
                                refine lv_iload hx hb dX11_give_152 (lv_at hl 3 rfl) ?_
                                refine lv_icmp_lt (tgt := 160) hx hb dX11_give_154 (by decide) (fun c154_53 => ?_) (fun c154_53 => ?_)
                                · have D154_53 := iLt c154_53 rfl rfl
                                  refine lv_lload hx hb dX11_give_160 (lv_at hl 1 rfl) ?_
                                  refine lv_lstore (lv' := [(5, .long v110_39), (11, .int v131_46), (9, .long v110_39), (8, .int ke), (7, .int lt), (4, .int kl), (3, .int kc), (0, .ref (ma 0)), (1, .int n), (2, .int w)]) hx hb dX11_give_162 hl (by decide) rfl (fun ls hl => ?_)
                                  refine lv_iload hx hb dX11_give_164 (lv_at hl 1 rfl) ?_
                                  refine lv_istore (lv' := [(7, .int v131_46), (5, .long v110_39), (11, .int v131_46), (9, .long v110_39), (8, .int ke), (4, .int kl), (3, .int kc), (0, .ref (ma 0)), (1, .int n), (2, .int w)]) hx hb dX11_give_166 hl (by decide) rfl (fun ls hl => ?_)
                                  obtain ⟨v168_54, e168_54⟩ : ∃ y : Int32, y = ke + 1 := ⟨_, rfl⟩
                                  have t168_54 := iAdd e168_54 rfl t_1 (by omega) (by omega)
                                  have t168 := t168_54
                                  refine lv_iinc (v := v168_54) (lv' := [(8, .int v168_54), (7, .int v131_46), (5, .long v110_39), (11, .int v131_46), (9, .long v110_39), (4, .int kl), (3, .int kc), (0, .ref (ma 0)), (1, .int n), (2, .int w)]) hx hb dX11_give_168 hl (k := 4) rfl (by rw [e168_54]; rfl) (by decide) rfl (fun ls hl => ?_)
                                  refine lv_goto (tgt := 72) hx hb dX11_give_171 (by decide) ?_
                                  exact ih72  v110_39 v131_46 v168_54 (by omega) (by first | exact bst_keep hbs t168 (by omega) | exact bst_new (by omega) t168 e110n e131n) (by omega) _ _ _ hw (lv_sub hl [0, 1, 2, 5, 6, 7, 8, 9] rfl)
                                · have D154_53 := iNlt c154_53 rfl rfl
                                  refine lv_goto (tgt := 168) hx hb dX11_give_157 (by decide) ?_
                                  obtain ⟨v168_55, e168_55⟩ : ∃ y : Int32, y = ke + 1 := ⟨_, rfl⟩
                                  have t168_55 := iAdd e168_55 rfl t_1 (by omega) (by omega)
                                  have t168 := t168_55
                                  refine lv_iinc (v := v168_55) (lv' := [(8, .int v168_55), (11, .int v131_46), (9, .long v110_39), (7, .int lt), (5, .long bs), (4, .int kl), (3, .int kc), (0, .ref (ma 0)), (1, .int n), (2, .int w)]) hx hb dX11_give_168 hl (k := 2) rfl (by rw [e168_55]; rfl) (by decide) rfl (fun ls hl => ?_)
                                  refine lv_goto (tgt := 72) hx hb dX11_give_171 (by decide) ?_
                                  exact ih72  bs lt v168_55 (by omega) (by first | exact bst_keep hbs t168 (by omega) | exact bst_new (by omega) t168 e110n e131n) (by omega) _ _ _ hw (lv_sub hl [0, 3, 4, 5, 6, 7, 8, 9] rfl)
                    exact lp72 _  (-1) 0 0 (by have := t_0; have := t_0; omega) (Or.inl ⟨t_0, by decide⟩) (Nat.lt_succ_self _) _ _ _ hw (lv_sub hl [0, 1, 2, 3, 4, 5, 6, 7] rfl)
              exact lp54 _ q47 y47 0 (by have := t_0; omega) hy42 hq (by have z := hA1; rw [← cl_toInt (x := kc) (by omega)] at z; exact z) (fun x h => absurd h (by have := t_0; omega)) (Nat.lt_succ_self _) _ _ _ hw (lv_sub hl [0, 1, 2, 3, 4] rfl)
        exact lp47 _ q8 y8 63 (by have := t_63; omega) hy42 hq (by rw [t_63]; exact tblA_0 (fun i h => h0 i (by omega))) (Nat.lt_succ_self _) _ _ _ hw (lv_sub hl [0, 1, 2, 3] rfl)
      · have D11_6 := iNlt c11_6 t_40 rfl
        refine lv_aload_n hx hb dX11_give_14 rfl (lv_at hl 1 rfl) ?_
        refine gf_X11_133 (b := (ma 44)) X hw hM.1 (mr_44 hM) dX11_give_15 ?_
        refine lv_bipush (v := 64) hx hb dX11_give_18 (by decide) ?_
        refine lv_iload_n hx hb dX11_give_20 rfl (lv_at hl 0 rfl) ?_
        refine k_Si (n := 2) X hw (c_X11_spot l G _ 64 k (by have := t_64; omega)) wd_r41_15 wd_r41_16 wd_r1_5 wd_r41_17 ⟨by decide, by decide, by decide +kernel⟩ rfl rfl ⟨Nat.le_of_ble_eq_true rfl, Nat.le_of_ble_eq_true rfl⟩ rfl rfl hl.1 (Nat.le_of_ble_eq_true rfl) dX11_give_21 ⟨Nat.le_of_ble_eq_true rfl, Nat.le_of_ble_eq_true rfl⟩ (fun r21_56 S21_58 H locs h21_57 hw => ?_)
        have := t_64
        obtain ⟨rfl, h21_57⟩ := h21_57
        have s21 := h21_57
        have := t_64
        refine lv_lconst (v := 0) hx hb dX11_give_24 (by decide) ?_
        refine q_stJ X hw (mk_44 hM) (vin (mn_44 hM) (by omega) (by omega)) dX11_give_25 (fun H locs hw => ?_)
        obtain ⟨y25_59, ey25_59, hw⟩ : ∃ zz9, zz9 = va_up y8 (ma 44) (vp_updL (y8 (ma 44)) r21_56.toNatClampNeg 0) ∧ PX G A s.heap (ch S I3_3 J3_4 q8 zz9) H locs := ⟨_, rfl, hw⟩
        have c25 := ey25_59
        refine lv_aload_n hx hb dX11_give_26 rfl (lv_at hl 1 rfl) ?_
        refine gf_X11_136 (b := (ma 45)) X hw hM.1 (mr_45 hM) dX11_give_27 ?_
        refine lv_bipush (v := 64) hx hb dX11_give_30 (by decide) ?_
        refine lv_iload_n hx hb dX11_give_32 rfl (lv_at hl 0 rfl) ?_
        refine k_Si (n := 2) X hw (c_X11_spot l G _ 64 k (by have := t_64; omega)) wd_r41_15 wd_r41_16 wd_r1_5 wd_r41_17 ⟨by decide, by decide, by decide +kernel⟩ rfl rfl ⟨Nat.le_of_ble_eq_true rfl, Nat.le_of_ble_eq_true rfl⟩ rfl rfl hl.1 (Nat.le_of_ble_eq_true rfl) dX11_give_33 ⟨Nat.le_of_ble_eq_true rfl, Nat.le_of_ble_eq_true rfl⟩ (fun r33_60 S33_62 H locs h33_61 hw => ?_)
        have := t_64
        obtain ⟨rfl, h33_61⟩ := h33_61
        have := t_64
        refine lv_iconst (v := 0) hx hb dX11_give_36 (by decide) ?_
        refine q_stI X hw (mk_45 hM) (vin (mn_45 hM) (by omega) (by omega)) dX11_give_37 (fun H locs hw => ?_)
        obtain ⟨q37_63, eq37_63, hw⟩ : ∃ zz9, zz9 = va_up q8 (ma 45) (upd (q8 (ma 45)) r33_60.toNatClampNeg 0) ∧ PX G A s.heap (ch S I3_3 J3_4 zz9 y25_59) H locs := ⟨_, rfl, hw⟩
        have c37 := eq37_63
        obtain ⟨v38_64, e38_64⟩ : ∃ y : Int32, y = k + 1 := ⟨_, rfl⟩
        have t38_64 := iAdd e38_64 rfl t_1 (by omega) (by omega)
        have t38 := t38_64
        refine lv_iinc (v := v38_64) (lv' := [(3, .int v38_64), (0, .ref (ma 0)), (1, .int n), (2, .int w)]) hx hb dX11_give_38 hl (k := 0) rfl (by rw [e38_64]; rfl) (by decide) rfl (fun ls hl => ?_)
        refine lv_goto (tgt := 8) hx hb dX11_give_41 (by decide) ?_
        exact ih8 q37_63 y25_59 v38_64 (by omega) (zero_u h0 c25 (by omega) (by omega) t38) (by rw [c25, vu_n (fun e => absurd (hM.2.2 42 44 (by decide) (by decide) e) (by decide))]; exact hy42) (fun i hi hn => by rw [c37, vu_n (fun e => hn (hM.2.2 i 45 hi (by decide) e))]; exact hq i hi hn) (by omega) _ _ _ hw (lv_sub hl [0, 1, 2, 3] rfl)
  exact lp8 _ (qI S) y3_5 0 (by have := t_0; omega) (fun i h => absurd h (by have := t_0; omega)) hRC.symm (fun _ _ _ => rfl) (Nat.lt_succ_self _) _ _ _ hw (lv_sub hl [0, 1, 2, 3] rfl)
set_option maxHeartbeats 4000000 in
set_option maxRecDepth 100000 in
theorem c_X11_seen (l : Launch) (G : Gh) (S : Pl) (ma : Nat → Nat) (n w x : Int32) (hM : shMod S ma) (hI : mInv (pI S) (qI S) ma) : MtL l yX11_seen cX11_seen 4 (some .long) (Rm 7 0 0) G [.ref (ma 0), .int n, .int w, .int x] S (fun (r : Int64) (S' : Pl) => ∃ I' J' q' y', ch S I' J' q' y' = S' ∧ mInv I' q' ma ∧ FrD (pI S) I' ∧ ∀ i, i ≤ 45 → i ≠ 45 → q' (ma i) = qI S (ma i)) 0 0 := by
  refine MtL.of (by decide) (Nat.le_of_ble_eq_true rfl) ?_
  intro p e s m args below meth c Q A X hw hin hret ls hl
  have hx := X.1.1
  have hb := X.1.2.1
  have hl : lv_has ls 4 [(0, .ref (ma 0)), (1, .int n), (2, .int w), (3, .int x)] := hl
  refine lv_aload_n hx hb dX11_seen_0 rfl (lv_at hl 0 rfl) ?_
  refine lv_iload_n hx hb dX11_seen_1 rfl (lv_at hl 1 rfl) ?_
  refine lv_iload_n hx hb dX11_seen_2 rfl (lv_at hl 2 rfl) ?_
  refine lv_iload_n hx hb dX11_seen_3 rfl (lv_at hl 3 rfl) ?_
  refine k_Vi (n := 3) X hw (rcvk (ci := 11) X hw hM.1 (fun _ _ _ _ _ _ _ => ⟨_, rfl⟩) rfl) (c_X11_canSplit l G _ ma n w x hM) wd_r41_7 wd_r41_8 wd_r41_9 wd_r1_5 wd_r41_10 ⟨by decide, by decide, by decide +kernel⟩ rfl rfl ⟨Nat.le_of_ble_eq_true rfl, Nat.le_of_ble_eq_true rfl⟩ rfl rfl hl.1 (Nat.le_of_ble_eq_true rfl) dX11_seen_4 ⟨Nat.le_of_ble_eq_true rfl, Nat.le_of_ble_eq_true rfl⟩ (fun r4_1 S4_3 H locs h4_2 hw => ?_)
  rcases h4_2 with ⟨rfl, rfl, h4_2⟩ | ⟨rfl, rfl, h4_2⟩
  · have h4_2 := h4_2
    refine lv_if_ne (tgt := 14) hx hb dX11_seen_7 (by decide) (fun c7_4 => ?_) (fun c7_4 => absurd c7_4 (by decide))
    refine lv_aload_n hx hb dX11_seen_14 rfl (lv_at hl 0 rfl) ?_
    refine lv_iload_n hx hb dX11_seen_15 rfl (lv_at hl 1 rfl) ?_
    refine lv_iload_n hx hb dX11_seen_16 rfl (lv_at hl 2 rfl) ?_
    refine k_Vv (n := 2) X hw (rcvk (ci := 11) X hw hM.1 (fun _ _ _ _ _ _ _ => ⟨_, rfl⟩) rfl) (c_X11_give l G _ ma n w hM hI (by omega) (by omega)) wd_r41_11 wd_r41_12 wd_r41_13 wd_r1_5 wd_r41_14 ⟨by decide, by decide, by decide +kernel⟩ rfl rfl ⟨Nat.le_of_ble_eq_true rfl, Nat.le_of_ble_eq_true rfl⟩ rfl rfl hl.1 (Nat.le_of_ble_eq_true rfl) dX11_seen_17 ⟨Nat.le_of_ble_eq_true rfl, Nat.le_of_ble_eq_true rfl⟩ (fun S17_6 H locs h17_5 hw => ?_)
    obtain ⟨I17_7, J17_8, q17_9, y17_10, rfl, h17_5⟩ := h17_5
    have hw : PX G A s.heap (ch S I17_7 J17_8 q17_9 y17_10) H locs := hw
    have hgv := h17_5
    refine lv_aload_n hx hb dX11_seen_20 rfl (lv_at hl 0 rfl) ?_
    refine gf_X11_133 (b := (ma 44)) X hw hM.1 (mr_44 hM) dX11_seen_21 ?_
    refine lv_iconst (v := 0) hx hb dX11_seen_24 (by decide) ?_
    refine lv_iload_n hx hb dX11_seen_25 rfl (lv_at hl 3 rfl) ?_
    refine k_Si (n := 2) X hw (c_X11_spot l G _ 0 x (by have := t_0; omega)) wd_r41_15 wd_r41_16 wd_r1_5 wd_r41_17 ⟨by decide, by decide, by decide +kernel⟩ rfl rfl ⟨Nat.le_of_ble_eq_true rfl, Nat.le_of_ble_eq_true rfl⟩ rfl rfl hl.1 (Nat.le_of_ble_eq_true rfl) dX11_seen_26 ⟨Nat.le_of_ble_eq_true rfl, Nat.le_of_ble_eq_true rfl⟩ (fun r26_11 S26_13 H locs h26_12 hw => ?_)
    have := t_0
    obtain ⟨rfl, h26_12⟩ := h26_12
    have := t_0
    refine q_ldJ X hw (mk_44 hM) (vin (mn_44 hM) (by omega) (by omega)) dX11_seen_29 ?_
    refine lv_topl (fun v29_14 e29_14 => ?_)
    have e29_14 : v29_14 = y17_10 (ma 44) r26_11.toNatClampNeg := e29_14
    exact hret v29_14 _ _ _ _ _ ⟨_, _, _, _, rfl, mInv_u (hI.d hgv.1) hgv.2.1, hgv.1, hgv.2.1⟩ hw dX11_seen_30
  · have h4_2 := h4_2
    refine lv_if_ne (tgt := 14) hx hb dX11_seen_7 (by decide) (fun c7_15 => absurd c7_15 (by decide)) (fun c7_15 => ?_)
    refine lv_ldc2 hx hb X.1.2.2.2.1 (X.1.2.2.2.2 _ wd_r37_14) dX11_seen_10 ?_
    exact hret (-1) _ _ _ _ _ ⟨_, _, _, _, rfl, hI, FrD.rf, fun _ _ _ => rfl⟩ hw dX11_seen_13
set_option maxHeartbeats 4000000 in
set_option maxRecDepth 100000 in
theorem c_X11_split (l : Launch) (G : Gh) (S : Pl) (ma : Nat → Nat) (n w x y : Int32) (hM : shMod S ma) (hI : mInv (pI S) (qI S) ma) : MtI l yX11_split cX11_split 8 (some .int) (Rm 7 0 0) G [.ref (ma 0), .int n, .int w, .int x, .int y] S (fun (r : Int32) (S' : Pl) => ∃ I' J' q' y', ch S I' J' q' y' = S' ∧ mInv I' q' ma ∧ FrD (pI S) I' ∧ ∀ i, i ≤ 45 → i ≠ 45 → q' (ma i) = qI S (ma i)) 0 0 := by
  refine MtI.of (by decide) (Nat.le_of_ble_eq_true rfl) ?_
  intro p e s m args below meth c Q A X hw hin hret ls hl
  have hx := X.1.1
  have hb := X.1.2.1
  have hl : lv_has ls 8 [(0, .ref (ma 0)), (1, .int n), (2, .int w), (3, .int x), (4, .int y)] := hl
  obtain ⟨⟨b1, b2, b3, b4, b5, b6⟩, hT, hP, hC⟩ := id hI
  refine lv_aload_n hx hb dX11_split_0 rfl (lv_at hl 0 rfl) ?_
  refine lv_iload_n hx hb dX11_split_1 rfl (lv_at hl 1 rfl) ?_
  refine lv_iload_n hx hb dX11_split_2 rfl (lv_at hl 2 rfl) ?_
  refine lv_iload_n hx hb dX11_split_3 rfl (lv_at hl 3 rfl) ?_
  refine k_Vi (n := 3) X hw (rcvk (ci := 11) X hw hM.1 (fun _ _ _ _ _ _ _ => ⟨_, rfl⟩) rfl) (c_X11_canSplit l G _ ma n w x hM) wd_r41_7 wd_r41_8 wd_r41_9 wd_r1_5 wd_r41_10 ⟨by decide, by decide, by decide +kernel⟩ rfl rfl ⟨Nat.le_of_ble_eq_true rfl, Nat.le_of_ble_eq_true rfl⟩ rfl rfl hl.1 (Nat.le_of_ble_eq_true rfl) dX11_split_4 ⟨Nat.le_of_ble_eq_true rfl, Nat.le_of_ble_eq_true rfl⟩ (fun r4_1 S4_3 H locs h4_2 hw => ?_)
  rcases h4_2 with ⟨rfl, rfl, h4_2⟩ | ⟨rfl, rfl, h4_2⟩
  · have h4_2 := h4_2
    refine lv_if_eq (tgt := 22) hx hb dX11_split_7 (by decide) (fun c7_4 => absurd c7_4 (by decide)) (fun c7_4 => ?_)
    refine lv_iload hx hb dX11_split_10 (lv_at hl 4 rfl) ?_
    refine lv_if_lt (tgt := 22) hx hb dX11_split_12 (by decide) (fun c12_5 => ?_) (fun c12_5 => ?_)
    · have D12_5 := iLt c12_5 rfl t_0
      refine lv_iconst (v := -1) hx hb dX11_split_22 (by decide) ?_
      exact hret (-1) _ _ _ _ _ ⟨_, _, _, _, rfl, hI, FrD.rf, fun _ _ _ => rfl⟩ hw rfl dX11_split_23
    · have D12_5 := iNlt c12_5 rfl t_0
      refine lv_iload hx hb dX11_split_15 (lv_at hl 4 rfl) ?_
      refine lv_bipush (v := 64) hx hb dX11_split_17 (by decide) ?_
      refine lv_icmp_lt (tgt := 24) hx hb dX11_split_19 (by decide) (fun c19_6 => ?_) (fun c19_6 => ?_)
      · have D19_6 := iLt c19_6 rfl t_64
        refine lv_aload_n hx hb dX11_split_24 rfl (lv_at hl 0 rfl) ?_
        refine lv_iload_n hx hb dX11_split_25 rfl (lv_at hl 1 rfl) ?_
        refine lv_iload_n hx hb dX11_split_26 rfl (lv_at hl 2 rfl) ?_
        refine k_Vv (n := 2) X hw (rcvk (ci := 11) X hw hM.1 (fun _ _ _ _ _ _ _ => ⟨_, rfl⟩) rfl) (c_X11_give l G _ ma n w hM hI (by omega) (by omega)) wd_r41_11 wd_r41_12 wd_r41_13 wd_r1_5 wd_r41_14 ⟨by decide, by decide, by decide +kernel⟩ rfl rfl ⟨Nat.le_of_ble_eq_true rfl, Nat.le_of_ble_eq_true rfl⟩ rfl rfl hl.1 (Nat.le_of_ble_eq_true rfl) dX11_split_27 ⟨Nat.le_of_ble_eq_true rfl, Nat.le_of_ble_eq_true rfl⟩ (fun S27_8 H locs h27_7 hw => ?_)
        obtain ⟨I27_9, J27_10, q27_11, y27_12, rfl, h27_7⟩ := h27_7
        have hw : PX G A s.heap (ch S I27_9 J27_10 q27_11 y27_12) H locs := hw
        have hgv := h27_7
        obtain ⟨YY, hYY⟩ : ∃ z, z = y27_12 := ⟨_, rfl⟩
        obtain ⟨QQ, hQQ⟩ : ∃ z, z = q27_11 := ⟨_, rfl⟩
        have hT0 : ∀ a l : Nat, a < 64 → l ≤ 40 → tbl (YY (ma 42)) (qI S (ma 18)) (pI S 120 (ma 0)) w (YY (ma 44)) (QQ (ma 45)) a l := by rw [hYY, hQQ]; exact hgv.2.2
        have hbk := FrD.at hgv.1 (f := 120) (by decide) (ma 0)
        have hb1 : (I27_9 120 (ma 0) : Int32) = pI S 120 (ma 0) := congrFun (hgv.1 120 (by decide)) (ma 0)
        have hq18 : q27_11 (ma 18) = qI S (ma 18) := hgv.2.1 18 (by decide) (by decide)
        refine lv_iload_n hx hb dX11_split_30 rfl (lv_at hl 3 rfl) ?_
        refine lv_istore (lv' := [(5, .int x), (0, .ref (ma 0)), (1, .int n), (2, .int w), (3, .int x), (4, .int y)]) hx hb dX11_split_31 hl (by decide) rfl (fun ls hl => ?_)
        refine lv_iconst (v := 0) hx hb dX11_split_33 (by decide) ?_
        refine lv_istore (lv' := [(6, .int 0), (5, .int x), (0, .ref (ma 0)), (1, .int n), (2, .int w), (3, .int x), (4, .int y)]) hx hb dX11_split_34 hl (by decide) rfl (fun ls hl => ?_)
        refine lv_iconst (v := 0) hx hb dX11_split_36 (by decide) ?_
        refine lv_istore (lv' := [(7, .int 0), (6, .int 0), (5, .int x), (0, .ref (ma 0)), (1, .int n), (2, .int w), (3, .int x), (4, .int y)]) hx hb dX11_split_37 hl (by decide) rfl (fun ls hl => ?_)
        have lp39 : ∀ (N9 : Nat) (kl : Int32) (e6 : Int32) (kc : Int32), (0 ≤ kl.toInt ∧ kl.toInt ≤ 40) → (0 ≤ kc.toInt ∧ kc.toInt ≤ 64) → (64 - kc.toInt).toNat < N9 → ∀ (H : Heap) (locs : List Loc) (ls : Array Slot), PX G A s.heap (ch S I27_9 J27_10 q27_11 y27_12) H locs → lv_has ls 8 [(7, .int kc), (6, .int e6), (5, .int kl), (0, .ref (ma 0)), (1, .int n), (2, .int w), (3, .int x), (4, .int y)] → W p l e (Rm 7 0 0) s m args below meth c H locs 0 0 Q (F0 m 39 ls []) := by
          intro N9
          induction N9 with
          | zero => intro kl e6 kc hkl hkc hm; exact absurd hm (Nat.not_lt_zero _)
          | succ N9 ih39 =>
            intro kl e6 kc hkl hkc hm H locs ls hw hl
            refine lv_iload hx hb dX11_split_39 (lv_at hl 0 rfl) ?_
            refine lv_iload hx hb dX11_split_41 (lv_at hl 7 rfl) ?_
            refine lv_icmp_gt (tgt := 146) hx hb dX11_split_43 (by decide) (fun c43_13 => ?_) (fun c43_13 => ?_)
            · have D43_13 := iLt c43_13 rfl rfl
              refine lv_iload hx hb dX11_split_146 (lv_at hl 1 rfl) ?_
              exact hret e6 _ _ _ _ _ ⟨_, _, _, _, rfl, mInv_u (hI.d hgv.1) hgv.2.1, hgv.1, hgv.2.1⟩ hw rfl dX11_split_148
            · have D43_13 := iNlt c43_13 rfl rfl
              refine lv_iconst (v := 0) hx hb dX11_split_46 (by decide) ?_
              refine lv_istore (lv' := [(6, .int 0), (7, .int kc), (5, .int kl), (0, .ref (ma 0)), (1, .int n), (2, .int w), (3, .int x), (4, .int y)]) hx hb dX11_split_47 hl (by decide) rfl (fun ls hl => ?_)
              have lp49 : ∀ (N9 : Nat) (ke : Int32), (0 ≤ ke.toInt) → (fnd (YY (ma 42)) (qI S (ma 18)) (pI S 120 (ma 0)) w (YY (ma 44)) (QQ (ma 45)) kc.toNatClampNeg kl.toNatClampNeg ke.toInt) → (21 - ke.toInt).toNat < N9 → ∀ (H : Heap) (locs : List Loc) (ls : Array Slot), PX G A s.heap (ch S I27_9 J27_10 q27_11 y27_12) H locs → lv_has ls 8 [(6, .int ke), (7, .int kc), (5, .int kl), (0, .ref (ma 0)), (1, .int n), (2, .int w), (3, .int x), (4, .int y)] → W p l e (Rm 7 0 0) s m args below meth c H locs 0 0 Q (F0 m 49 ls []) := by
                intro N9
                induction N9 with
                | zero => intro ke hke hf hm; exact absurd hm (Nat.not_lt_zero _)
                | succ N9 ih49 =>
                  intro ke hke hf hm H locs ls hw hl
                  have hfl := fnd_le hf
                  have hcl1 := cl_toInt (x := kc) (by omega)
                  have hcl2 := cl_toInt (x := kl) (by omega)
                  have hcl3 := cl_toInt (x := ke) (by omega)
                  refine lv_aload_n hx hb dX11_split_49 rfl (lv_at hl 3 rfl) ?_
                  refine lv_iload hx hb dX11_split_50 (lv_at hl 1 rfl) ?_
                  refine lv_iload_n hx hb dX11_split_52 rfl (lv_at hl 5 rfl) ?_
                  refine lv_iload hx hb dX11_split_53 (lv_at hl 0 rfl) ?_
                  refine k_Vl (n := 3) X hw (rcvk (ci := 11) X hw hM.1 (fun _ _ _ _ _ _ _ => ⟨_, rfl⟩) rfl) (c_X11_gain l G _ ma kc w ke hM (show 0 ≤ (I27_9 120 (ma 0) : Int32).toInt ∧ (I27_9 120 (ma 0) : Int32).toInt ≤ 1 by omega) (by omega) (by omega) (by omega)) wd_r41_18 wd_r41_19 wd_r41_20 wd_r1_5 wd_r41_21 ⟨by decide, by decide, by decide +kernel⟩ rfl rfl ⟨Nat.le_of_ble_eq_true rfl, Nat.le_of_ble_eq_true rfl⟩ rfl rfl hl.1 (Nat.le_of_ble_eq_true rfl) dX11_split_55 ⟨Nat.le_of_ble_eq_true rfl, Nat.le_of_ble_eq_true rfl⟩ (fun r55_14 S55_16 H locs h55_15 hw => ?_)
                  obtain ⟨rfl, h55_15⟩ := h55_15
                  have hg : r55_14 = gv (YY (ma 42)) (qI S (ma 18)) (pI S 120 (ma 0)) w kc.toNatClampNeg ke.toNatClampNeg := by have z : r55_14 = gv (y27_12 (ma 42)) (q27_11 (ma 18)) ((I27_9 120 (ma 0) : Int32)) w kc.toNatClampNeg ke.toNatClampNeg := h55_15; rw [← hYY, hq18, hb1] at z; exact z
                  refine lv_aload_n hx hb dX11_split_58 rfl (lv_at hl 3 rfl) ?_
                  refine gf_X11_133 (b := (ma 44)) X hw hM.1 (mr_44 hM) dX11_split_59 ?_
                  refine lv_iload hx hb dX11_split_62 (lv_at hl 1 rfl) ?_
                  refine lv_iconst (v := 1) hx hb dX11_split_64 (by decide) ?_
                  refine lv_iadd hx hb dX11_split_65 ?_
                  refine lv_topi (fun v65_17 e65_17 => ?_)
                  have t65_17 := iAdd e65_17 rfl t_1 (by omega) (by omega)
                  have t65 := t65_17
                  refine lv_iload hx hb dX11_split_66 (lv_at hl 2 rfl) ?_
                  refine lv_iload hx hb dX11_split_68 (lv_at hl 0 rfl) ?_
                  refine lv_isub hx hb dX11_split_70 ?_
                  refine lv_topi (fun v70_18 e70_18 => ?_)
                  have t70_18 := iSub e70_18 rfl rfl (by omega) (by omega)
                  have t70 := t70_18
                  refine k_Si (n := 2) X hw (c_X11_spot l G _ v65_17 v70_18 (by omega)) wd_r41_15 wd_r41_16 wd_r1_5 wd_r41_17 ⟨by decide, by decide, by decide +kernel⟩ rfl rfl ⟨Nat.le_of_ble_eq_true rfl, Nat.le_of_ble_eq_true rfl⟩ rfl rfl hl.1 (Nat.le_of_ble_eq_true rfl) dX11_split_71 ⟨Nat.le_of_ble_eq_true rfl, Nat.le_of_ble_eq_true rfl⟩ (fun r71_19 S71_21 H locs h71_20 hw => ?_)
                  obtain ⟨rfl, h71_20⟩ := h71_20
                  have s71 : r71_19.toNatClampNeg = 41 * (kc.toNatClampNeg + 1) + (kl.toNatClampNeg - ke.toNatClampNeg) := spot_n (by omega)
                  refine q_ldJ X hw (mk_44 hM) (vin (mn_44 hM) (by omega) (by omega)) dX11_split_74 ?_
                  refine lv_topl (fun v74_22 e74_22 => ?_)
                  have e74_22 : v74_22 = y27_12 (ma 44) r71_19.toNatClampNeg := e74_22
                  have e74n := e74_22
                  rw [s71, ← hYY] at e74n
                  refine lv_ladd hx hb dX11_split_75 ?_
                  refine lv_topl (fun v75_23 e75_23 => ?_)
                  have e75n := e75_23
                  rw [hg, e74n] at e75n
                  refine lv_aload_n hx hb dX11_split_76 rfl (lv_at hl 3 rfl) ?_
                  refine gf_X11_133 (b := (ma 44)) X hw hM.1 (mr_44 hM) dX11_split_77 ?_
                  refine lv_iload hx hb dX11_split_80 (lv_at hl 1 rfl) ?_
                  refine lv_iload hx hb dX11_split_82 (lv_at hl 2 rfl) ?_
                  refine k_Si (n := 2) X hw (c_X11_spot l G _ kc kl (by omega)) wd_r41_15 wd_r41_16 wd_r1_5 wd_r41_17 ⟨by decide, by decide, by decide +kernel⟩ rfl rfl ⟨Nat.le_of_ble_eq_true rfl, Nat.le_of_ble_eq_true rfl⟩ rfl rfl hl.1 (Nat.le_of_ble_eq_true rfl) dX11_split_84 ⟨Nat.le_of_ble_eq_true rfl, Nat.le_of_ble_eq_true rfl⟩ (fun r84_24 S84_26 H locs h84_25 hw => ?_)
                  obtain ⟨rfl, h84_25⟩ := h84_25
                  have s84 : r84_24.toNatClampNeg = 41 * kc.toNatClampNeg + kl.toNatClampNeg := spot_n (by omega)
                  refine q_ldJ X hw (mk_44 hM) (vin (mn_44 hM) (by omega) (by omega)) dX11_split_87 ?_
                  refine lv_topl (fun v87_27 e87_27 => ?_)
                  have e87_27 : v87_27 = y27_12 (ma 44) r84_24.toNatClampNeg := e87_27
                  have e87n := e87_27
                  rw [s84, ← hYY] at e87n
                  refine W.lcmp hx hb dX11_split_88 ?_
                  refine lv_topi (fun v88_28 e88_28 => ?_)
                  refine lv_if_ne (tgt := 127) hx hb dX11_split_89 (by decide) (fun c89_29 => ?_) (fun c89_29 => ?_)
                  · have D89_29 := lc_ne e88_28 c89_29
                    obtain ⟨v127_30, e127_30⟩ : ∃ y : Int32, y = ke + 1 := ⟨_, rfl⟩
                    have t127_30 := iAdd e127_30 rfl t_1 (by omega) (by omega)
                    have t127 := t127_30
                    refine lv_iinc (v := v127_30) (lv' := [(6, .int v127_30), (7, .int kc), (5, .int kl), (0, .ref (ma 0)), (1, .int n), (2, .int w), (3, .int x), (4, .int y)]) hx hb dX11_split_127 hl (k := 0) rfl (by rw [e127_30]; rfl) (by decide) rfl (fun ls hl => ?_)
                    refine lv_goto (tgt := 49) hx hb dX11_split_130 (by decide) ?_
                    exact ih49  v127_30 (by omega) (fnd_s hf (by omega) t127 (by first | exact nq1 e75n e87n (by assumption) | exact nq2 e111n e123n (by assumption))) (by omega) _ _ _ hw (lv_sub hl [0, 1, 2, 3, 4, 5, 6, 7] rfl)
                  · have D89_29 := lcn_ne e88_28 c89_29
                    refine lv_iload hx hb dX11_split_92 (lv_at hl 0 rfl) ?_
                    refine lv_aload_n hx hb dX11_split_94 rfl (lv_at hl 3 rfl) ?_
                    refine gf_X11_136 (b := (ma 45)) X hw hM.1 (mr_45 hM) dX11_split_95 ?_
                    refine lv_iload hx hb dX11_split_98 (lv_at hl 1 rfl) ?_
                    refine lv_iconst (v := 1) hx hb dX11_split_100 (by decide) ?_
                    refine lv_iadd hx hb dX11_split_101 ?_
                    refine lv_topi (fun v101_31 e101_31 => ?_)
                    have t101_31 := iAdd e101_31 rfl t_1 (by omega) (by omega)
                    have t101 := t101_31
                    refine lv_iload hx hb dX11_split_102 (lv_at hl 2 rfl) ?_
                    refine lv_iload hx hb dX11_split_104 (lv_at hl 0 rfl) ?_
                    refine lv_isub hx hb dX11_split_106 ?_
                    refine lv_topi (fun v106_32 e106_32 => ?_)
                    have t106_32 := iSub e106_32 rfl rfl (by omega) (by omega)
                    have t106 := t106_32
                    refine k_Si (n := 2) X hw (c_X11_spot l G _ v101_31 v106_32 (by omega)) wd_r41_15 wd_r41_16 wd_r1_5 wd_r41_17 ⟨by decide, by decide, by decide +kernel⟩ rfl rfl ⟨Nat.le_of_ble_eq_true rfl, Nat.le_of_ble_eq_true rfl⟩ rfl rfl hl.1 (Nat.le_of_ble_eq_true rfl) dX11_split_107 ⟨Nat.le_of_ble_eq_true rfl, Nat.le_of_ble_eq_true rfl⟩ (fun r107_33 S107_35 H locs h107_34 hw => ?_)
                    obtain ⟨rfl, h107_34⟩ := h107_34
                    have s107 : r107_33.toNatClampNeg = 41 * (kc.toNatClampNeg + 1) + (kl.toNatClampNeg - ke.toNatClampNeg) := spot_n (by omega)
                    refine q_ldI X hw (mk_45 hM) (vin (mn_45 hM) (by omega) (by omega)) dX11_split_110 ?_
                    refine lv_topi (fun v110_36 e110_36 => ?_)
                    have e110_36 : v110_36 = q27_11 (ma 45) r107_33.toNatClampNeg := e110_36
                    have e110n := e110_36
                    rw [s107, ← hQQ] at e110n
                    refine lv_iadd hx hb dX11_split_111 ?_
                    refine lv_topi (fun v111_37 e111_37 => ?_)
                    have e111n := e111_37
                    rw [e110n] at e111n
                    refine lv_aload_n hx hb dX11_split_112 rfl (lv_at hl 3 rfl) ?_
                    refine gf_X11_136 (b := (ma 45)) X hw hM.1 (mr_45 hM) dX11_split_113 ?_
                    refine lv_iload hx hb dX11_split_116 (lv_at hl 1 rfl) ?_
                    refine lv_iload hx hb dX11_split_118 (lv_at hl 2 rfl) ?_
                    refine k_Si (n := 2) X hw (c_X11_spot l G _ kc kl (by omega)) wd_r41_15 wd_r41_16 wd_r1_5 wd_r41_17 ⟨by decide, by decide, by decide +kernel⟩ rfl rfl ⟨Nat.le_of_ble_eq_true rfl, Nat.le_of_ble_eq_true rfl⟩ rfl rfl hl.1 (Nat.le_of_ble_eq_true rfl) dX11_split_120 ⟨Nat.le_of_ble_eq_true rfl, Nat.le_of_ble_eq_true rfl⟩ (fun r120_38 S120_40 H locs h120_39 hw => ?_)
                    obtain ⟨rfl, h120_39⟩ := h120_39
                    have s120 : r120_38.toNatClampNeg = 41 * kc.toNatClampNeg + kl.toNatClampNeg := spot_n (by omega)
                    refine q_ldI X hw (mk_45 hM) (vin (mn_45 hM) (by omega) (by omega)) dX11_split_123 ?_
                    refine lv_topi (fun v123_41 e123_41 => ?_)
                    have e123_41 : v123_41 = q27_11 (ma 45) r120_38.toNatClampNeg := e123_41
                    have e123n := e123_41
                    rw [s120, ← hQQ] at e123n
                    refine lv_icmp_eq (tgt := 133) hx hb dX11_split_124 (by decide) (fun c124_42 => ?_) (fun c124_42 => ?_)
                    · have D124_42 := iEq c124_42 rfl rfl
                      refine lv_iload hx hb dX11_split_133 (lv_at hl 2 rfl) ?_
                      refine lv_iload hx hb dX11_split_135 (lv_at hl 0 rfl) ?_
                      refine lv_isub hx hb dX11_split_137 ?_
                      refine lv_topi (fun v137_43 e137_43 => ?_)
                      have t137_43 := iSub e137_43 rfl rfl (by omega) (by omega)
                      have t137 := t137_43
                      refine lv_istore (lv' := [(5, .int v137_43), (6, .int ke), (7, .int kc), (0, .ref (ma 0)), (1, .int n), (2, .int w), (3, .int x), (4, .int y)]) hx hb dX11_split_138 hl (by decide) rfl (fun ls hl => ?_)
                      obtain ⟨v140_44, e140_44⟩ : ∃ y : Int32, y = kc + 1 := ⟨_, rfl⟩
                      have t140_44 := iAdd e140_44 rfl t_1 (by omega) (by omega)
                      have t140 := t140_44
                      refine lv_iinc (v := v140_44) (lv' := [(7, .int v140_44), (5, .int v137_43), (6, .int ke), (0, .ref (ma 0)), (1, .int n), (2, .int w), (3, .int x), (4, .int y)]) hx hb dX11_split_140 hl (k := 2) rfl (by rw [e140_44]; rfl) (by decide) rfl (fun ls hl => ?_)
                      refine lv_goto (tgt := 39) hx hb dX11_split_143 (by decide) ?_
                      exact ih39  v137_43 ke v140_44 (by omega) (by omega) (by omega) _ _ _ hw (lv_sub hl [0, 2, 1, 3, 4, 5, 6, 7] rfl)
                    · skip
                      obtain ⟨v127_45, e127_45⟩ : ∃ y : Int32, y = ke + 1 := ⟨_, rfl⟩
                      have t127_45 := iAdd e127_45 rfl t_1 (by omega) (by omega)
                      have t127 := t127_45
                      refine lv_iinc (v := v127_45) (lv' := [(6, .int v127_45), (7, .int kc), (5, .int kl), (0, .ref (ma 0)), (1, .int n), (2, .int w), (3, .int x), (4, .int y)]) hx hb dX11_split_127 hl (k := 0) rfl (by rw [e127_45]; rfl) (by decide) rfl (fun ls hl => ?_)
                      refine lv_goto (tgt := 49) hx hb dX11_split_130 (by decide) ?_
                      exact ih49  v127_45 (by omega) (fnd_s hf (by omega) t127 (by first | exact nq1 e75n e87n (by assumption) | exact nq2 e111n e123n (by assumption))) (by omega) _ _ _ hw (lv_sub hl [0, 1, 2, 3, 4, 5, 6, 7] rfl)
              exact lp49 _  0 (by have := t_0; omega) (fnd_0 (hT0 kc.toNatClampNeg kl.toNatClampNeg (by have := cl_toInt (x := kc) (by omega); omega) (by have := cl_toInt (x := kl) (by omega); omega)) t_0) (Nat.lt_succ_self _) _ _ _ hw (lv_sub hl [0, 1, 2, 3, 4, 5, 6, 7] rfl)
        exact lp39 _  x 0 0 (by have := t_0; have := t_0; omega) (by have := t_0; have := t_0; omega) (Nat.lt_succ_self _) _ _ _ hw (lv_sub hl [0, 1, 2, 3, 4, 5, 6, 7] rfl)
      · have D19_6 := iNlt c19_6 rfl t_64
        refine lv_iconst (v := -1) hx hb dX11_split_22 (by decide) ?_
        exact hret (-1) _ _ _ _ _ ⟨_, _, _, _, rfl, hI, FrD.rf, fun _ _ _ => rfl⟩ hw rfl dX11_split_23
  · have h4_2 := h4_2
    refine lv_if_eq (tgt := 22) hx hb dX11_split_7 (by decide) (fun c7_46 => ?_) (fun c7_46 => absurd c7_46 (by decide))
    refine lv_iconst (v := -1) hx hb dX11_split_22 (by decide) ?_
    exact hret (-1) _ _ _ _ _ ⟨_, _, _, _, rfl, hI, FrD.rf, fun _ _ _ => rfl⟩ hw rfl dX11_split_23
