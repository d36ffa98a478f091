
set_option maxHeartbeats 4000000 in
set_option maxRecDepth 100000 in
theorem c_w_X6_weigh (l : Launch) (G : Gh) (S : Pl) (sp : Nat → Nat) (co : Nat) (sa : Nat → Nat) (w n : Int32) (od : Nat → Int64) (V : SV) (hP : shSpl S sp) (hc : is S 14 co ∧ pN S co = 64) (hS : shSea S sa) (hrow : ∀ k, k < 64 → qJ S co k = od k) (h40 : ctP od 64 ≤ 40) (hod : cOK od 40000000000000000) (hvk : vok V) (hw2 : 0 ≤ w.toInt ∧ w.toInt < 2) (hct : Ct (qI S) sa (stl V.2)) (hsp : ∀ j ∈ sidR, ∀ k, 1 ≤ k → k ≤ 5 → sa j ≠ sp k) (hn9 : 0 ≤ n.toInt ∧ n.toInt ≤ 40) : MtV l yX6_weigh cX6_weigh 7 none (Rm 3 0 0) G [.ref (sp 0), .ref co, .ref (sa 0), .int w, .int n] S (fun (S' : Pl) => ∃ I' q' y', ch S I' (pJ S) q' y' = S' ∧ (∀ f, f ∉ [45, 46, 47] → I' f = pI S f) ∧ spN I' sp ∧ spS I' q' sp ∧ KP sp (qI S) q' ∧ wgT od (gsm V.2 w.toNatClampNeg) sp n.toNatClampNeg I' q' y') 0 0 := by
  refine MtV.of (by decide) (Nat.le_of_ble_eq_true rfl) ?_
  intro p e s m args below meth c Q A X hw hin hret ls hl
  have hx := X.1.1
  have hb := X.1.2.1
  have hl : lv_has ls 7 [(0, .ref (sp 0)), (1, .ref co), (2, .ref (sa 0)), (3, .int w), (4, .int n)] := hl
  obtain ⟨k0, r40, r41, r42, r43, r44, k1, n1, k2, n2, k3, n3, k4, n4, k5, n5, ne⟩ := id hP
  have n25 : sp 2 ≠ sp 5 := ne_len n2 n5 (by decide)
  have hcw := cl_toInt (x := w) hw2.1
  have hcn := cl_toInt (x := n) hn9.1
  have hgg := gsm_ok hvk (w := w.toNatClampNeg) (by omega)
  refine lv_aload_n hx hb dX6_weigh_0 rfl (lv_at hl 0 rfl) ?_
  refine lv_iconst (v := 0) hx hb dX6_weigh_1 (by decide) ?_
  refine lv_iload hx hb dX6_weigh_2 (lv_at hl 4 rfl) ?_
  refine lv_bipush (v := 40) hx hb dX6_weigh_4 (by decide) ?_
  refine va_mmin hx hb (by rw [X.1.2.2.1]; exact hl.1.symm) X.1.2.2.2.1 (X.1.2.2.2.2 _ wd_r39_22) (X.1.2.2.2.2 _ wd_r29_8) (X.1.2.2.2.2 _ wd_r28_6) (X.1.2.2.2.2 _ wd_r29_9) (Nat.le_of_ble_eq_true rfl) (Nat.le_of_ble_eq_true rfl) (Nat.zero_le _) (Nat.zero_le _) dX6_weigh_6 ?_
  refine lv_topi (fun v6_1 e6_1 => ?_)
  have e6n := e6_1
  refine va_mmax hx hb (by rw [X.1.2.2.1]; exact hl.1.symm) X.1.2.2.2.1 (X.1.2.2.2.2 _ wd_r39_23) (X.1.2.2.2.2 _ wd_r28_5) (X.1.2.2.2.2 _ wd_r28_6) (X.1.2.2.2.2 _ wd_r28_7) (Nat.le_of_ble_eq_true rfl) (Nat.le_of_ble_eq_true rfl) (Nat.zero_le _) (Nat.zero_le _) dX6_weigh_9 ?_
  refine lv_topi (fun v9_2 e9_2 => ?_)
  have e9n := e9_2
  have hef := effb e6n e9n
  refine pf_X6_37 X hw k0 dX6_weigh_12 (fun H locs hw => ?_)
  have hw : PX G A s.heap (ch S (up2 (pI S) 47 (sp 0) v9_2) (pJ S) (qI S) (qJ S)) H locs := hw
  refine lv_aload_n hx hb dX6_weigh_15 rfl (lv_at hl 0 rfl) ?_
  refine lv_aload_n hx hb dX6_weigh_16 rfl (lv_at hl 1 rfl) ?_
  refine k_Vv (n := 1) X hw (rcvk (ci := 6) X hw k0 (fun _ _ _ _ _ _ _ => ⟨_, rfl⟩) rfl) (c_w_X6_listCells l G _ sp co od hP hc hrow h40) wd_r40_2 wd_r40_3 wd_r40_4 wd_r2_3 wd_r40_5 ⟨by decide, by decide, by decide +kernel⟩ rfl rfl ⟨Nat.le_of_ble_eq_true rfl, Nat.le_of_ble_eq_true rfl⟩ rfl rfl hl.1 (Nat.le_of_ble_eq_true rfl) dX6_weigh_17 ⟨Nat.le_of_ble_eq_true rfl, Nat.le_of_ble_eq_true rfl⟩ (fun S17_4 H locs h17_3 hw => ?_)
  obtain ⟨I17_5, q17_6, y17_7, rfl, h17_3⟩ := h17_3
  have hw : PX G A s.heap (ch S I17_5 (pJ S) q17_6 y17_7) H locs := hw
  have hCo := And.intro h17_3.1 (And.intro h17_3.2.1 h17_3.2.2.1)
  have HC13 : KP sp (qI S) q17_6 := h17_3.2.2.2.1
  have HLC := h17_3.2.2.2.2
  refine lv_aload_n hx hb dX6_weigh_20 rfl (lv_at hl 0 rfl) ?_
  refine lv_aload_n hx hb dX6_weigh_21 rfl (lv_at hl 2 rfl) ?_
  refine lv_iload_n hx hb dX6_weigh_22 rfl (lv_at hl 3 rfl) ?_
  refine k_Vv (n := 2) X hw (rcvk (ci := 6) X hw k0 (fun _ _ _ _ _ _ _ => ⟨_, rfl⟩) rfl) (c_w_X6_listSteps l G _ sp sa w V hP hS hvk hw2 (hct.kept (fun j9 h9 => HC13 _ (fun k9 h1 h5 => hsp j9 h9 k9 h1 h5))) hsp) wd_r40_6 wd_r40_7 wd_r40_8 wd_r2_3 wd_r40_9 ⟨by decide, by decide, by decide +kernel⟩ rfl rfl ⟨Nat.le_of_ble_eq_true rfl, Nat.le_of_ble_eq_true rfl⟩ rfl rfl hl.1 (Nat.le_of_ble_eq_true rfl) dX6_weigh_23 ⟨Nat.le_of_ble_eq_true rfl, Nat.le_of_ble_eq_true rfl⟩ (fun S23_9 H locs h23_8 hw => ?_)
  obtain ⟨I23_10, q23_11, rfl, h23_8⟩ := h23_8
  have hw : PX G A s.heap (ch S I23_10 (pJ S) q23_11 y17_7) H locs := hw
  have hSo := And.intro h23_8.1 (And.intro h23_8.2.1 (And.intro h23_8.2.2.1 h23_8.2.2.2.1))
  have HS13 := HC13.tr h23_8.2.2.2.2.1
  have HS1 := h23_8.2.2.2.2.2.1
  have HST := h23_8.2.2.2.2.2.2
  have hN : spN I23_10 sp := wg_N hef hCo hSo
  have hs : spS I23_10 q23_11 sp := wg_S hSo
  have hI : ∀ f, f ∉ [45, 46, 47] → I23_10 f = pI S f := wg_I hCo hSo
  obtain ⟨u1, u2, u3, u4, u5, u6⟩ := id hN
  obtain ⟨Y2, hY2⟩ : ∃ z, z = y17_7 (sp 2) := ⟨_, rfl⟩
  have hlc : lcT od 64 (I23_10 45 (sp 0)).toInt (q23_11 (sp 1)) Y2 := by rw [hY2, hSo.1 45 (by decide), HS1]; exact HLC
  have hst : stT (gsm V.2 w.toNatClampNeg) (q23_11 (sp 3)) (q23_11 (sp 4)) (I23_10 46 (sp 0)).toNatClampNeg 21 := HST
  have h47 : (I23_10 47 (sp 0)).toInt = n.toInt := (congrArg Int32.toInt (congrFun (hSo.1 47 (by decide)) (sp 0))).trans ((congrArg Int32.toInt (congrFun (hCo.1 47 (by decide)) (sp 0))).trans ((congrArg Int32.toInt up2_s).trans (effn e6n e9n hn9)))
  have h45 := hlc.1
  refine lv_iconst (v := 0) hx hb dX6_weigh_26 (by decide) ?_
  refine lv_istore (lv' := [(5, .int 0), (0, .ref (sp 0)), (1, .ref co), (2, .ref (sa 0)), (3, .int w), (4, .int n)]) hx hb dX6_weigh_27 hl (by decide) rfl (fun ls hl => ?_)
  have lp29 : ∀ (N9 : Nat) (y29 : Nat → Nat → Int64) (a : Int32), (0 ≤ a.toInt ∧ a.toInt ≤ 41) → (y29 (sp 2) = Y2) → (∀ m : Nat, (m : Int) < a.toInt → y29 (sp 5) (41 * ctP od 64 + m) = 0) → (41 - a.toInt).toNat < N9 → ∀ (H : Heap) (locs : List Loc) (ls : Array Slot), PX G A s.heap (ch S I23_10 (pJ S) q23_11 y29) H locs → lv_has ls 7 [(5, .int a), (0, .ref (sp 0)), (1, .ref co), (2, .ref (sa 0)), (3, .int w), (4, .int n)] → W p l e (Rm 3 0 0) s m args below meth c H locs 0 0 Q (F0 m 29 ls []) := by
    intro N9
    induction N9 with
    | zero => intro y29 a ha hy2 hz0 hm; exact absurd hm (Nat.not_lt_zero _)
    | succ N9 ih29 =>
      intro y29 a ha hy2 hz0 hm H locs ls hw hl
      refine lv_iload hx hb dX6_weigh_29 (lv_at hl 0 rfl) ?_
      refine lv_aload_n hx hb dX6_weigh_31 rfl (lv_at hl 1 rfl) ?_
      refine gf_X6_37 (v := I23_10 47 (sp 0)) X hw k0 rfl dX6_weigh_32 ?_
      refine lv_icmp_gt (tgt := 60) hx hb dX6_weigh_35 (by decide) (fun c35_12 => ?_) (fun c35_12 => ?_)
      · have D35_12 := iLt c35_12 rfl rfl
        have hmo : moT od (gsm V.2 w.toNatClampNeg) n.toNatClampNeg (y29 (sp 5)) (ctP od 64) := moT_z (oOf_nn hod) hgg (fun m9 h9 => hz0 m9 (by omega))
        refine lv_aload_n hx hb dX6_weigh_60 rfl (lv_at hl 1 rfl) ?_
        refine gf_X6_49 (v := I23_10 45 (sp 0)) X hw k0 rfl dX6_weigh_61 ?_
        refine lv_iconst (v := 1) hx hb dX6_weigh_64 (by decide) ?_
        refine lv_isub hx hb dX6_weigh_65 ?_
        refine lv_topi (fun v65_13 e65_13 => ?_)
        have t65_13 := iSub e65_13 rfl t_1 (by omega) (by omega)
        have t65 := t65_13
        refine lv_istore (lv' := [(5, .int v65_13), (0, .ref (sp 0)), (1, .ref co), (2, .ref (sa 0)), (3, .int w), (4, .int n)]) hx hb dX6_weigh_66 hl (by decide) rfl (fun ls hl => ?_)
        have lp68 : ∀ (N9 : Nat) (y68 : Nat → Nat → Int64) (b : Int32), (-1 ≤ b.toInt ∧ b.toInt ≤ 39 ∧ b.toInt < (ctP od 64 : Int)) → (y68 (sp 2) = Y2) → (moT od (gsm V.2 w.toNatClampNeg) n.toNatClampNeg (y68 (sp 5)) (b.toInt + 1).toNat) → (b.toInt + 1).toNat < N9 → ∀ (H : Heap) (locs : List Loc) (ls : Array Slot), PX G A s.heap (ch S I23_10 (pJ S) q23_11 y68) H locs → lv_has ls 7 [(5, .int b), (0, .ref (sp 0)), (1, .ref co), (2, .ref (sa 0)), (3, .int w), (4, .int n)] → W p l e (Rm 3 0 0) s m args below meth c H locs 0 0 Q (F0 m 68 ls []) := by
          intro N9
          induction N9 with
          | zero => intro y68 b hb0 hy2 hmo hm; exact absurd hm (Nat.not_lt_zero _)
          | succ N9 ih68 =>
            intro y68 b hb0 hy2 hmo hm H locs ls hw hl
            refine lv_iload hx hb dX6_weigh_68 (lv_at hl 0 rfl) ?_
            refine lv_if_lt (tgt := 118) hx hb dX6_weigh_70 (by decide) (fun c70_14 => ?_) (fun c70_14 => ?_)
            · have D70_14 := iLt c70_14 rfl t_0
              exact hret _ _ _ _ _ ⟨_, _, _, rfl, hI, hN, hs, HS13, ⟨by omega, by rw [hy2]; exact hlc, hst, (by rw [show (b.toInt + 1).toNat = 0 by omega] at hmo; exact hmo)⟩⟩ hw dX6_weigh_118
            · have D70_14 := iNlt c70_14 rfl t_0
              obtain ⟨c9, hc9, hcb, hcp⟩ := ct_at (r := od) 64 b.toNatClampNeg (by have := cl_toInt (x := b) (by omega); omega)
              rw [show (b.toInt + 1).toNat = b.toNatClampNeg + 1 by have := cl_toInt (x := b) (by omega); omega] at hmo
              refine lv_iconst (v := 0) hx hb dX6_weigh_73 (by decide) ?_
              refine lv_istore (lv' := [(6, .int 0), (5, .int b), (0, .ref (sp 0)), (1, .ref co), (2, .ref (sa 0)), (3, .int w), (4, .int n)]) hx hb dX6_weigh_74 hl (by decide) rfl (fun ls hl => ?_)
              have lp76 : ∀ (N9 : Nat) (y76 : Nat → Nat → Int64) (d : Int32), (0 ≤ d.toInt ∧ d.toInt ≤ 41) → (y76 (sp 2) = Y2) → (moT od (gsm V.2 w.toNatClampNeg) n.toNatClampNeg (y76 (sp 5)) (b.toNatClampNeg + 1)) → (∀ m : Nat, (m : Int) < d.toInt → (y76 (sp 5) (41 * b.toNatClampNeg + m)).toInt = val (oOf od) (gsm V.2 w.toNatClampNeg) (63 - c9 + 1) m) → (41 - d.toInt).toNat < N9 → ∀ (H : Heap) (locs : List Loc) (ls : Array Slot), PX G A s.heap (ch S I23_10 (pJ S) q23_11 y76) H locs → lv_has ls 7 [(6, .int d), (5, .int b), (0, .ref (sp 0)), (1, .ref co), (2, .ref (sa 0)), (3, .int w), (4, .int n)] → W p l e (Rm 3 0 0) s m args below meth c H locs 0 0 Q (F0 m 76 ls []) := by
                intro N9
                induction N9 with
                | zero => intro y76 d hd hy2 hm1 hr hm; exact absurd hm (Nat.not_lt_zero _)
                | succ N9 ih76 =>
                  intro y76 d hd hy2 hm1 hr hm H locs ls hw hl
                  refine lv_iload hx hb dX6_weigh_76 (lv_at hl 0 rfl) ?_
                  refine lv_aload_n hx hb dX6_weigh_78 rfl (lv_at hl 2 rfl) ?_
                  refine gf_X6_37 (v := I23_10 47 (sp 0)) X hw k0 rfl dX6_weigh_79 ?_
                  refine lv_icmp_gt (tgt := 112) hx hb dX6_weigh_82 (by decide) (fun c82_15 => ?_) (fun c82_15 => ?_)
                  · have D82_15 := iLt c82_15 rfl rfl
                    have hm2 := moT_s (oOf_nn hod) hgg hm1 hc9 hcb hcp (fun m9 h9 => hr m9 (by omega))
                    obtain ⟨v112_16, e112_16⟩ : ∃ y : Int32, y = b + (-1) := ⟨_, rfl⟩
                    have t112_16 := iAdd e112_16 rfl t_m1 (by omega) (by omega)
                    have t112 := t112_16
                    refine lv_iinc (v := v112_16) (lv' := [(5, .int v112_16), (6, .int d), (0, .ref (sp 0)), (1, .ref co), (2, .ref (sa 0)), (3, .int w), (4, .int n)]) hx hb dX6_weigh_112 hl (k := 1) rfl (by rw [e112_16]; rfl) (by decide) rfl (fun ls hl => ?_)
                    refine lv_goto (tgt := 68) hx hb dX6_weigh_115 (by decide) ?_
                    exact ih68 y76 v112_16 (by omega) hy2 (by rw [show (v112_16.toInt + 1).toNat = b.toNatClampNeg by have := cl_toInt (x := b) (by omega); omega]; exact hm2) (by omega) _ _ _ hw (lv_sub hl [0, 2, 3, 4, 5, 6] rfl)
                  · have D82_15 := iNlt c82_15 rfl rfl
                    refine lv_aload_n hx hb dX6_weigh_85 rfl (lv_at hl 2 rfl) ?_
                    refine gf_X6_25 (b := (sp 5)) X hw k0 r44 dX6_weigh_86 ?_
                    refine lv_iload hx hb dX6_weigh_89 (lv_at hl 1 rfl) ?_
                    refine lv_bipush (v := 41) hx hb dX6_weigh_91 (by decide) ?_
                    refine lv_imul hx hb dX6_weigh_93 ?_
                    refine lv_topi (fun v93_17 e93_17 => ?_)
                    have t93_17 := iMul e93_17 rfl t_41 (by omega) (by omega)
                    have t93 := t93_17
                    refine lv_iload hx hb dX6_weigh_94 (lv_at hl 0 rfl) ?_
                    refine lv_iadd hx hb dX6_weigh_96 ?_
                    refine lv_topi (fun v96_18 e96_18 => ?_)
                    have t96_18 := iAdd e96_18 rfl rfl (by omega) (by omega)
                    have t96 := t96_18
                    have h96 := cl_toInt (x := v96_18) (by omega)
                    refine lv_aload_n hx hb dX6_weigh_97 rfl (lv_at hl 2 rfl) ?_
                    refine lv_iload hx hb dX6_weigh_98 (lv_at hl 1 rfl) ?_
                    refine lv_iload hx hb dX6_weigh_100 (lv_at hl 0 rfl) ?_
                    refine k_Vl (n := 2) X hw (rcvk (ci := 6) X hw k0 (fun _ _ _ _ _ _ _ => ⟨_, rfl⟩) rfl) (c_v_X6_mostFrom l G _ sp b d od (gsm V.2 w.toNatClampNeg) c9 hP hN hs (by omega) (by omega) hod hgg hc9 (by show y76 (sp 2) _ = _; rw [hy2, ← hcb]; exact (hlc.2 c9 hc9 hcp).2) (fun m9 h9 => moT_nx hm1 hc9 hcb hcp (by have := cl_toInt (x := d) (by omega); omega)) hst) wd_r40_12 wd_r40_13 wd_r40_14 wd_r2_3 wd_r40_15 ⟨by decide, by decide, by decide +kernel⟩ rfl rfl ⟨Nat.le_of_ble_eq_true rfl, Nat.le_of_ble_eq_true rfl⟩ rfl rfl hl.1 (Nat.le_of_ble_eq_true rfl) dX6_weigh_102 ⟨Nat.le_of_ble_eq_true rfl, Nat.le_of_ble_eq_true rfl⟩ (fun r102_19 S102_21 H locs h102_20 hw => ?_)
                    obtain ⟨rfl, h102_20⟩ := h102_20
                    have hmf := h102_20
                    refine q_stJ X hw k5 (vin n5 (by omega) (by omega)) dX6_weigh_105 (fun H locs hw => ?_)
                    obtain ⟨y105_22, ey105_22, hw⟩ : ∃ zz9, zz9 = va_up y76 (sp 5) (vp_updL (y76 (sp 5)) v96_18.toNatClampNeg r102_19) ∧ PX G A s.heap (ch S I23_10 (pJ S) q23_11 zz9) H locs := ⟨_, rfl, hw⟩
                    have c105 := ey105_22
                    obtain ⟨v106_23, e106_23⟩ : ∃ y : Int32, y = d + 1 := ⟨_, rfl⟩
                    have t106_23 := iAdd e106_23 rfl t_1 (by omega) (by omega)
                    have t106 := t106_23
                    refine lv_iinc (v := v106_23) (lv' := [(6, .int v106_23), (5, .int b), (0, .ref (sp 0)), (1, .ref co), (2, .ref (sa 0)), (3, .int w), (4, .int n)]) hx hb dX6_weigh_106 hl (k := 0) rfl (by rw [e106_23]; rfl) (by decide) rfl (fun ls hl => ?_)
                    refine lv_goto (tgt := 76) hx hb dX6_weigh_109 (by decide) ?_
                    exact ih76 y105_22 v106_23 (by omega) (by rw [c105, vu_n n25]; exact hy2) (moT_up hm1 (by omega) (by rw [c105, vu_s]) (by have := cl_toInt (x := b) (by omega); omega)) (mor_s hr c105 hd.1 (by have := cl_toInt (x := b) (by omega); omega) t106 hmf) (by omega) _ _ _ hw (lv_sub hl [0, 1, 2, 3, 4, 5, 6] rfl)
              exact lp76 _ y68 0 (by have := t_0; omega) hy2 hmo (fun m h => absurd h (by have := t_0; omega)) (Nat.lt_succ_self _) _ _ _ hw (lv_sub hl [0, 1, 2, 3, 4, 5, 6] rfl)
        exact lp68 _ y29 v65_13 (by omega) hy2 (by rw [show (v65_13.toInt + 1).toNat = ctP od 64 by omega]; exact hmo) (Nat.lt_succ_self _) _ _ _ hw (lv_sub hl [0, 1, 2, 3, 4, 5] rfl)
      · have D35_12 := iNlt c35_12 rfl rfl
        refine lv_aload_n hx hb dX6_weigh_38 rfl (lv_at hl 1 rfl) ?_
        refine gf_X6_25 (b := (sp 5)) X hw k0 r44 dX6_weigh_39 ?_
        refine lv_aload_n hx hb dX6_weigh_42 rfl (lv_at hl 1 rfl) ?_
        refine gf_X6_49 (v := I23_10 45 (sp 0)) X hw k0 rfl dX6_weigh_43 ?_
        refine lv_bipush (v := 41) hx hb dX6_weigh_46 (by decide) ?_
        refine lv_imul hx hb dX6_weigh_48 ?_
        refine lv_topi (fun v48_24 e48_24 => ?_)
        have t48_24 := iMul e48_24 rfl t_41 (by omega) (by omega)
        have t48 := t48_24
        refine lv_iload hx hb dX6_weigh_49 (lv_at hl 0 rfl) ?_
        refine lv_iadd hx hb dX6_weigh_51 ?_
        refine lv_topi (fun v51_25 e51_25 => ?_)
        have t51_25 := iAdd e51_25 rfl rfl (by omega) (by omega)
        have t51 := t51_25
        refine lv_lconst (v := 0) hx hb dX6_weigh_52 (by decide) ?_
        refine q_stJ X hw k5 (vin n5 (by omega) (by omega)) dX6_weigh_53 (fun H locs hw => ?_)
        obtain ⟨y53_26, ey53_26, hw⟩ : ∃ zz9, zz9 = va_up y29 (sp 5) (vp_updL (y29 (sp 5)) v51_25.toNatClampNeg 0) ∧ PX G A s.heap (ch S I23_10 (pJ S) q23_11 zz9) H locs := ⟨_, rfl, hw⟩
        have c53 := ey53_26
        obtain ⟨v54_27, e54_27⟩ : ∃ y : Int32, y = a + 1 := ⟨_, rfl⟩
        have t54_27 := iAdd e54_27 rfl t_1 (by omega) (by omega)
        have t54 := t54_27
        refine lv_iinc (v := v54_27) (lv' := [(5, .int v54_27), (0, .ref (sp 0)), (1, .ref co), (2, .ref (sa 0)), (3, .int w), (4, .int n)]) hx hb dX6_weigh_54 hl (k := 0) rfl (by rw [e54_27]; rfl) (by decide) rfl (fun ls hl => ?_)
        refine lv_goto (tgt := 29) hx hb dX6_weigh_57 (by decide) ?_
        exact ih29 y53_26 v54_27 (by omega) (by rw [c53, vu_n n25]; exact hy2) (moz_s hz0 c53 ha.1 (by omega) t54) (by omega) _ _ _ hw (lv_sub hl [0, 1, 2, 3, 4, 5] rfl)
  exact lp29 _ y17_7 0 (by have := t_0; omega) hY2.symm (fun m h => absurd h (by have := t_0; omega)) (Nat.lt_succ_self _) _ _ _ hw (lv_sub hl [0, 1, 2, 3, 4, 5] rfl)
set_option maxHeartbeats 4000000 in
set_option maxRecDepth 100000 in
theorem c_v_X6_mostSeen (l : Launch) (G : Gh) (S : Pl) (sp : Nat → Nat) (od : Nat → Int64) (gg : Nat → Int) (nn : Nat) (hP : shSpl S sp) (hN : spN (pI S) sp) (hs : spS (pI S) (qI S) sp) (hod : cOK od 40000000000000000) (hgg : gOK gg) (hW : wgT od gg sp nn (pI S) (qI S) (qJ S)) : MtL l yX6_mostSeen cX6_mostSeen 1 (some .long) (Rm 0 0 0) G [.ref (sp 0)] S (fun (r : Int64) (S' : Pl) => S = S' ∧ r.toInt = val (oOf od) gg 64 nn) 0 0 := by
  refine MtL.of (by decide) (Nat.le_of_ble_eq_true rfl) ?_
  intro p e s m args below meth c Q A X hw hin hret ls hl
  have hx := X.1.1
  have hb := X.1.2.1
  have hl : lv_has ls 1 [(0, .ref (sp 0))] := hl
  obtain ⟨k0, r40, r41, r42, r43, r44, k1, n1, k2, n2, k3, n3, k4, n4, k5, n5, ne⟩ := id hP
  obtain ⟨u1, u2, u3, u4, u5, u6⟩ := id hN
  have h47 := hW.1
  have h45 := hW.2.1.1
  refine lv_aload_n hx hb dX6_mostSeen_0 rfl (lv_at hl 0 rfl) ?_
  refine gf_X6_25 (b := (sp 5)) X hw k0 r44 dX6_mostSeen_1 ?_
  refine lv_aload_n hx hb dX6_mostSeen_4 rfl (lv_at hl 0 rfl) ?_
  refine gf_X6_37 (v := (pI S) 47 (sp 0)) X hw k0 rfl dX6_mostSeen_5 ?_
  refine q_ldJ X hw k5 (vin n5 (by omega) (by omega)) dX6_mostSeen_8 ?_
  refine lv_topl (fun v8_1 e8_1 => ?_)
  have e8_1 : v8_1 = (qJ S) (sp 5) (((pI S) 47 (sp 0)).toNatClampNeg) := e8_1
  have e8n := e8_1
  exact hret v8_1 _ _ _ _ _ ⟨rfl, by rw [e8n, show (pI S 47 (sp 0)).toNatClampNeg = nn by have := cl_toInt (x := pI S 47 (sp 0)) (by omega); omega]; exact moT_0 hW.2.2.2 (Nat.le_refl _)⟩ hw dX6_mostSeen_9
set_option maxHeartbeats 4000000 in
set_option maxRecDepth 100000 in
theorem c_v_X6_leastForMost (l : Launch) (G : Gh) (S : Pl) (sp : Nat → Nat) (od : Nat → Int64) (gg : Nat → Int) (nn : Nat) (hP : shSpl S sp) (hN : spN (pI S) sp) (hs : spS (pI S) (qI S) sp) (hod : cOK od 40000000000000000) (hgg : gOK gg) (hW : wgT od gg sp nn (pI S) (qI S) (qJ S)) : MtI l yX6_leastForMost cX6_leastForMost 2 (some .int) (Rm 0 0 0) G [.ref (sp 0)] S (fun (r : Int32) (S' : Pl) => S = S' ∧ r.toInt = (lsF (val (oOf od) gg 64) nn : Int)) 0 0 := by
  refine MtI.of (by decide) (Nat.le_of_ble_eq_true rfl) ?_
  intro p e s m args below meth c Q A X hw hin hret ls hl
  have hx := X.1.1
  have hb := X.1.2.1
  have hl : lv_has ls 2 [(0, .ref (sp 0))] := hl
  obtain ⟨k0, r40, r41, r42, r43, r44, k1, n1, k2, n2, k3, n3, k4, n4, k5, n5, ne⟩ := id hP
  obtain ⟨u1, u2, u3, u4, u5, u6⟩ := id hN
  have h47 := hW.1
  have h45 := hW.2.1.1
  refine lv_iconst (v := 0) hx hb dX6_leastForMost_0 (by decide) ?_
  refine lv_istore_n (lv' := [(1, .int 0), (0, .ref (sp 0))]) hx hb dX6_leastForMost_1 rfl hl (by decide) rfl (fun ls hl => ?_)
  have lp2 : ∀ (N9 : Nat) (n : Int32), (0 ≤ n.toInt ∧ n.toInt ≤ (pI S 47 (sp 0)).toInt) → (lfB (val (oOf od) gg 64) nn n.toNatClampNeg) → (40 - n.toInt).toNat < N9 → ∀ (H : Heap) (locs : List Loc) (ls : Array Slot), PX G A s.heap S H locs → lv_has ls 2 [(1, .int n), (0, .ref (sp 0))] → W p l e (Rm 0 0 0) s m args below meth c H locs 0 0 Q (F0 m 2 ls []) := by
    intro N9
    induction N9 with
    | zero => intro n hn hlf hm; exact absurd hm (Nat.not_lt_zero _)
    | succ N9 ih2 =>
      intro n hn hlf hm H locs ls hw hl
      refine lv_iload_n hx hb dX6_leastForMost_2 rfl (lv_at hl 0 rfl) ?_
      refine lv_aload_n hx hb dX6_leastForMost_3 rfl (lv_at hl 1 rfl) ?_
      refine gf_X6_37 (v := (pI S) 47 (sp 0)) X hw k0 rfl dX6_leastForMost_4 ?_
      refine lv_icmp_ge (tgt := 35) hx hb dX6_leastForMost_7 (by decide) (fun c7_1 => ?_) (fun c7_1 => ?_)
      · have D7_1 := iLe c7_1 rfl rfl
        refine lv_iload_n hx hb dX6_leastForMost_35 rfl (lv_at hl 0 rfl) ?_
        exact hret n _ _ _ _ _ ⟨rfl, by have := cl_toInt (x := n) hn.1; have e9 := lfB_e (val_mo (oOf_nn hod) hgg 64) hlf (by omega) (by first | (rw [← h15, ← h24]; omega) | exact congrArg _ (by omega)); omega⟩ hw rfl dX6_leastForMost_36
      · have D7_1 := iNle c7_1 rfl rfl
        refine lv_aload_n hx hb dX6_leastForMost_10 rfl (lv_at hl 1 rfl) ?_
        refine gf_X6_25 (b := (sp 5)) X hw k0 r44 dX6_leastForMost_11 ?_
        refine lv_iload_n hx hb dX6_leastForMost_14 rfl (lv_at hl 0 rfl) ?_
        refine q_ldJ X hw k5 (vin n5 (by omega) (by omega)) dX6_leastForMost_15 ?_
        refine lv_topl (fun v15_2 e15_2 => ?_)
        have e15_2 : v15_2 = (qJ S) (sp 5) n.toNatClampNeg := e15_2
        have h15 : v15_2.toInt = (val (oOf od) gg 64) n.toNatClampNeg := by rw [e15_2]; exact moT_0 hW.2.2.2 (by have := cl_toInt (x := n) hn.1; omega)
        refine lv_aload_n hx hb dX6_leastForMost_16 rfl (lv_at hl 1 rfl) ?_
        refine gf_X6_25 (b := (sp 5)) X hw k0 r44 dX6_leastForMost_17 ?_
        refine lv_aload_n hx hb dX6_leastForMost_20 rfl (lv_at hl 1 rfl) ?_
        refine gf_X6_37 (v := (pI S) 47 (sp 0)) X hw k0 rfl dX6_leastForMost_21 ?_
        refine q_ldJ X hw k5 (vin n5 (by omega) (by omega)) dX6_leastForMost_24 ?_
        refine lv_topl (fun v24_3 e24_3 => ?_)
        have e24_3 : v24_3 = (qJ S) (sp 5) (((pI S) 47 (sp 0)).toNatClampNeg) := e24_3
        have h24 : v24_3.toInt = (val (oOf od) gg 64) nn := by rw [e24_3, show (pI S 47 (sp 0)).toNatClampNeg = nn by have := cl_toInt (x := pI S 47 (sp 0)) (by omega); omega]; exact moT_0 hW.2.2.2 (Nat.le_refl _)
        refine W.lcmp hx hb dX6_leastForMost_25 ?_
        refine lv_topi (fun v25_4 e25_4 => ?_)
        refine lv_if_eq (tgt := 35) hx hb dX6_leastForMost_26 (by decide) (fun c26_5 => ?_) (fun c26_5 => ?_)
        · have D26_5 := lc_eq e25_4 c26_5
          refine lv_iload_n hx hb dX6_leastForMost_35 rfl (lv_at hl 0 rfl) ?_
          exact hret n _ _ _ _ _ ⟨rfl, by have := cl_toInt (x := n) hn.1; have e9 := lfB_e (val_mo (oOf_nn hod) hgg 64) hlf (by omega) (by first | (rw [← h15, ← h24]; omega) | exact congrArg _ (by omega)); omega⟩ hw rfl dX6_leastForMost_36
        · have D26_5 := lcn_eq e25_4 c26_5
          obtain ⟨v29_6, e29_6⟩ : ∃ y : Int32, y = n + 1 := ⟨_, rfl⟩
          have t29_6 := iAdd e29_6 rfl t_1 (by omega) (by omega)
          have t29 := t29_6
          refine lv_iinc (v := v29_6) (lv' := [(1, .int v29_6), (0, .ref (sp 0))]) hx hb dX6_leastForMost_29 hl (k := 0) rfl (by rw [e29_6]; rfl) (by decide) rfl (fun ls hl => ?_)
          refine lv_goto (tgt := 2) hx hb dX6_leastForMost_32 (by decide) ?_
          exact ih2  v29_6 (by omega) (lfB_s hlf hn.1 t29 h15 h24 (by omega)) (by omega) _ _ _ hw (lv_sub hl [0, 1] rfl)
  exact lp2 _  0 (by have := t_0; omega) lfB_0 (Nat.lt_succ_self _) _ _ _ hw (lv_sub hl [0, 1] rfl)
set_option maxHeartbeats 4000000 in
set_option maxRecDepth 100000 in
theorem c_v_X6_leastGift (l : Launch) (G : Gh) (S : Pl) (sp : Nat → Nat) (i n : Int32) (od : Nat → Int64) (gg : Nat → Int) (nn : Nat) (ce : Nat) (hP : shSpl S sp) (hN : spN (pI S) sp) (hs : spS (pI S) (qI S) sp) (hi : 0 ≤ i.toInt ∧ i.toInt < 40) (hn : 0 ≤ n.toInt ∧ n.toInt ≤ 40) (hod : cOK od 40000000000000000) (hgg : gOK gg) (hW : wgT od gg sp nn (pI S) (qI S) (qJ S)) (hcc : ce < 64) (hci : ctP od ce = i.toNatClampNeg) (hcp : 0 < (od ce).toInt) (hnn : n.toInt ≤ (nn : Int)) : MtI l yX6_leastGift cX6_leastGift 4 (some .int) (Rm 1 0 0) G [.ref (sp 0), .int i, .int n] S (fun (r : Int32) (S' : Pl) => S = S' ∧ 0 ≤ r.toInt ∧ r.toInt ≤ n.toInt ∧ lsC (oOf od) gg (63 - ce) n.toNatClampNeg r.toNatClampNeg) 0 0 := by
  refine MtI.of (by decide) (Nat.le_of_ble_eq_true rfl) ?_
  intro p e s m args below meth c Q A X hw hin hret ls hl
  have hx := X.1.1
  have hb := X.1.2.1
  have hl : lv_has ls 4 [(0, .ref (sp 0)), (1, .int i), (2, .int n)] := hl
  obtain ⟨k0, r40, r41, r42, r43, r44, k1, n1, k2, n2, k3, n3, k4, n4, k5, n5, ne⟩ := id hP
  obtain ⟨u1, u2, u3, u4, u5, u6⟩ := id hN
  have h47 := hW.1
  have h45 := hW.2.1.1
  have hoc : qJ S (sp 2) i.toNatClampNeg = od ce := by rw [← hci]; exact (hW.2.1.2 ce hcc hcp).2
  have hnx : ∀ m : Nat, m ≤ n.toNatClampNeg → (qJ S (sp 5) (41 * (i.toNatClampNeg + 1) + m)).toInt = val (oOf od) gg (63 - ce) m := fun m9 h9 => by rw [← hci]; exact moT_n0 hW.2.2.2 hcc hcp (by have := cl_toInt (x := n) hn.1; omega)
  refine lv_iconst (v := 0) hx hb dX6_leastGift_0 (by decide) ?_
  refine lv_istore_n (lv' := [(3, .int 0), (0, .ref (sp 0)), (1, .int i), (2, .int n)]) hx hb dX6_leastGift_1 rfl hl (by decide) rfl (fun ls hl => ?_)
  have lp2 : ∀ (N9 : Nat) (x : Int32), (0 ≤ x.toInt ∧ x.toInt ≤ 21 ∧ x.toInt ≤ (pI S 46 (sp 0)).toInt) → (ngB (oOf od) gg (63 - ce) n.toNatClampNeg (qI S (sp 3)) x.toNatClampNeg) → (21 - x.toInt).toNat < N9 → ∀ (H : Heap) (locs : List Loc) (ls : Array Slot), PX G A s.heap S H locs → lv_has ls 4 [(3, .int x), (0, .ref (sp 0)), (1, .int i), (2, .int n)] → W p l e (Rm 1 0 0) s m args below meth c H locs 0 0 Q (F0 m 2 ls []) := by
    intro N9
    induction N9 with
    | zero => intro x hx0 hng hm; exact absurd hm (Nat.not_lt_zero _)
    | succ N9 ih2 =>
      intro x hx0 hng hm H locs ls hw hl
      refine lv_iload_n hx hb dX6_leastGift_2 rfl (lv_at hl 0 rfl) ?_
      refine lv_aload_n hx hb dX6_leastGift_3 rfl (lv_at hl 1 rfl) ?_
      refine gf_X6_68 (v := (pI S) 46 (sp 0)) X hw k0 rfl dX6_leastGift_4 ?_
      refine lv_icmp_ge (tgt := 55) hx hb dX6_leastGift_7 (by decide) (fun c7_1 => ?_) (fun c7_1 => ?_)
      · have D7_1 := iLe c7_1 rfl rfl
        refine lv_iconst (v := 0) hx hb dX6_leastGift_55 (by decide) ?_
        exact hret 0 _ _ _ _ _ (ng_no (oOf_nn hod) hgg hW.2.2.1 hng (by have := cl_toInt (x := x) hx0.1; have := cl_toInt (x := n) hn.1; have := cl_toInt (x := pI S 46 (sp 0)) (by omega); omega) (by have := cl_toInt (x := x) hx0.1; have := cl_toInt (x := n) hn.1; have := cl_toInt (x := pI S 46 (sp 0)) (by omega); omega)).elim hw rfl dX6_leastGift_56
      · have D7_1 := iNle c7_1 rfl rfl
        refine lv_aload_n hx hb dX6_leastGift_10 rfl (lv_at hl 1 rfl) ?_
        refine gf_X6_19 (b := (sp 3)) X hw k0 r42 dX6_leastGift_11 ?_
        refine lv_iload_n hx hb dX6_leastGift_14 rfl (lv_at hl 0 rfl) ?_
        refine q_ldI X hw k3 (vin n3 (by omega) (by omega)) dX6_leastGift_15 ?_
        refine lv_topi (fun v15_2 e15_2 => ?_)
        have e15_2 : v15_2 = (qI S) (sp 3) x.toNatClampNeg := e15_2
        have gv15_2 := congrArg Int32.toInt e15_2
        have zv15_2 := spS_at hs (x := x) (by omega) (by omega)
        have hx9 := (hW.2.2.1.2.2.1 x.toNatClampNeg (by have := cl_toInt (x := x) hx0.1; have := cl_toInt (x := pI S 46 (sp 0)) (by omega); omega)).2
        refine lv_iload_n hx hb dX6_leastGift_16 rfl (lv_at hl 3 rfl) ?_
        refine lv_icmp_gt (tgt := 55) hx hb dX6_leastGift_17 (by decide) (fun c17_3 => ?_) (fun c17_3 => ?_)
        · have D17_3 := iLt c17_3 rfl rfl
          refine lv_iconst (v := 0) hx hb dX6_leastGift_55 (by decide) ?_
          exact hret 0 _ _ _ _ _ (ng_no (oOf_nn hod) hgg hW.2.2.1 hng (by have := cl_toInt (x := x) hx0.1; have := cl_toInt (x := n) hn.1; have := cl_toInt (x := pI S 46 (sp 0)) (by omega); omega) (by have := cl_toInt (x := x) hx0.1; have := cl_toInt (x := n) hn.1; have := cl_toInt (x := pI S 46 (sp 0)) (by omega); omega)).elim hw rfl dX6_leastGift_56
        · have D17_3 := iNlt c17_3 rfl rfl
          refine lv_aload_n hx hb dX6_leastGift_20 rfl (lv_at hl 1 rfl) ?_
          refine lv_iload_n hx hb dX6_leastGift_21 rfl (lv_at hl 2 rfl) ?_
          refine lv_iload_n hx hb dX6_leastGift_22 rfl (lv_at hl 3 rfl) ?_
          refine lv_iload_n hx hb dX6_leastGift_23 rfl (lv_at hl 0 rfl) ?_
          refine k_Vl (n := 3) X hw (rcvk (ci := 6) X hw k0 (fun _ _ _ _ _ _ _ => ⟨_, rfl⟩) rfl) (c_v_X6_shownBy l G _ sp i n x od gg ce hP (by omega) (by omega) (by omega) (by omega) hod hgg hcc hoc hnx hx9) wd_r40_19 wd_r40_20 wd_r40_21 wd_r2_3 wd_r40_22 ⟨by decide, by decide, by decide +kernel⟩ rfl rfl ⟨Nat.le_of_ble_eq_true rfl, Nat.le_of_ble_eq_true rfl⟩ rfl rfl hl.1 (Nat.le_of_ble_eq_true rfl) dX6_leastGift_24 ⟨Nat.le_of_ble_eq_true rfl, Nat.le_of_ble_eq_true rfl⟩ (fun r24_4 S24_6 H locs h24_5 hw => ?_)
          obtain ⟨rfl, h24_5⟩ := h24_5
          have hw9 := h24_5
          refine lv_aload_n hx hb dX6_leastGift_27 rfl (lv_at hl 1 rfl) ?_
          refine gf_X6_25 (b := (sp 5)) X hw k0 r44 dX6_leastGift_28 ?_
          refine lv_iload_n hx hb dX6_leastGift_31 rfl (lv_at hl 2 rfl) ?_
          refine lv_bipush (v := 41) hx hb dX6_leastGift_32 (by decide) ?_
          refine lv_imul hx hb dX6_leastGift_34 ?_
          refine lv_topi (fun v34_7 e34_7 => ?_)
          have t34_7 := iMul e34_7 rfl t_41 (by omega) (by omega)
          have t34 := t34_7
          refine lv_iload_n hx hb dX6_leastGift_35 rfl (lv_at hl 3 rfl) ?_
          refine lv_iadd hx hb dX6_leastGift_36 ?_
          refine lv_topi (fun v36_8 e36_8 => ?_)
          have t36_8 := iAdd e36_8 rfl rfl (by omega) (by omega)
          have t36 := t36_8
          refine q_ldJ X hw k5 (vin n5 (by omega) (by omega)) dX6_leastGift_37 ?_
          refine lv_topl (fun v37_9 e37_9 => ?_)
          have e37_9 : v37_9 = (qJ S) (sp 5) v36_8.toNatClampNeg := e37_9
          have h37 : v37_9.toInt = val (oOf od) gg (63 - ce + 1) n.toNatClampNeg := by rw [e37_9, show v36_8.toNatClampNeg = 41 * ctP od ce + n.toNatClampNeg by have := cl_toInt (x := v36_8) (by omega); have := cl_toInt (x := i) hi.1; have := cl_toInt (x := n) hn.1; omega]; exact moT_at hW.2.2.2 hcc (Nat.zero_le _) (by have := cl_toInt (x := n) hn.1; omega)
          refine W.lcmp hx hb dX6_leastGift_38 ?_
          refine lv_topi (fun v38_10 e38_10 => ?_)
          refine lv_if_ne (tgt := 49) hx hb dX6_leastGift_39 (by decide) (fun c39_11 => ?_) (fun c39_11 => ?_)
          · have D39_11 := lc_ne e38_10 c39_11
            obtain ⟨v49_12, e49_12⟩ : ∃ y : Int32, y = x + 1 := ⟨_, rfl⟩
            have t49_12 := iAdd e49_12 rfl t_1 (by omega) (by omega)
            have t49 := t49_12
            refine lv_iinc (v := v49_12) (lv' := [(3, .int v49_12), (0, .ref (sp 0)), (1, .int i), (2, .int n)]) hx hb dX6_leastGift_49 hl (k := 0) rfl (by rw [e49_12]; rfl) (by decide) rfl (fun ls hl => ?_)
            refine lv_goto (tgt := 2) hx hb dX6_leastGift_52 (by decide) ?_
            exact ih2  v49_12 (by omega) (ngB_s hng hx0.1 t49 hw9 h37 (by omega)) (by omega) _ _ _ hw (lv_sub hl [0, 1, 2, 3] rfl)
          · have D39_11 := lcn_ne e38_10 c39_11
            refine lv_aload_n hx hb dX6_leastGift_42 rfl (lv_at hl 1 rfl) ?_
            refine gf_X6_19 (b := (sp 3)) X hw k0 r42 dX6_leastGift_43 ?_
            refine lv_iload_n hx hb dX6_leastGift_46 rfl (lv_at hl 0 rfl) ?_
            refine q_ldI X hw k3 (vin n3 (by omega) (by omega)) dX6_leastGift_47 ?_
            refine lv_topi (fun v47_13 e47_13 => ?_)
            have e47_13 : v47_13 = (qI S) (sp 3) x.toNatClampNeg := e47_13
            have gv47_13 := congrArg Int32.toInt e47_13
            have e47n := e47_13
            exact hret v47_13 _ _ _ _ _ ⟨rfl, by omega, by omega, by rw [e47n]; exact ng_y (oOf_nn hod) hgg hW.2.2.1 hng (by have := cl_toInt (x := x) hx0.1; have := cl_toInt (x := n) hn.1; have := cl_toInt (x := pI S 46 (sp 0)) (by omega); omega) (by have := cl_toInt (x := x) hx0.1; have := cl_toInt (x := n) hn.1; have := cl_toInt (x := pI S 46 (sp 0)) (by omega); omega) (by rw [← hw9, ← h37]; omega)⟩ hw rfl dX6_leastGift_48
  exact lp2 _  0 (by have := t_0; omega) ngB_0 (Nat.lt_succ_self _) _ _ _ hw (lv_sub hl [0, 1, 2, 3] rfl)
set_option maxHeartbeats 4000000 in
set_option maxRecDepth 100000 in
theorem c_v_X6_givenTo (l : Launch) (G : Gh) (S : Pl) (sp : Nat → Nat) (w : Int32) (od : Nat → Int64) (gg : Nat → Int) (nn : Nat) (hP : shSpl S sp) (hN : spN (pI S) sp) (hs : spS (pI S) (qI S) sp) (hod : cOK od 40000000000000000) (hgg : gOK gg) (hW : wgT od gg sp nn (pI S) (qI S) (qJ S)) (hw9 : 0 ≤ w.toInt ∧ w.toInt < 64) : MtI l yX6_givenTo cX6_givenTo 5 (some .int) (Rm 2 0 0) G [.ref (sp 0), .int w] S (fun (r : Int32) (S' : Pl) => S = S' ∧ 0 ≤ r.toInt ∧ gets (oOf od) gg nn w.toNatClampNeg r.toNatClampNeg) 0 0 := by
  refine MtI.of (by decide) (Nat.le_of_ble_eq_true rfl) ?_
  intro p e s m args below meth c Q A X hw hin hret ls hl
  have hx := X.1.1
  have hb := X.1.2.1
  have hl : lv_has ls 5 [(0, .ref (sp 0)), (1, .int w)] := hl
  obtain ⟨k0, r40, r41, r42, r43, r44, k1, n1, k2, n2, k3, n3, k4, n4, k5, n5, ne⟩ := id hP
  obtain ⟨u1, u2, u3, u4, u5, u6⟩ := id hN
  have h47 := hW.1
  have h45 := hW.2.1.1
  refine lv_aload_n hx hb dX6_givenTo_0 rfl (lv_at hl 0 rfl) ?_
  refine k_Vi (n := 0) X hw (rcvk (ci := 6) X hw k0 (fun _ _ _ _ _ _ _ => ⟨_, rfl⟩) rfl) (c_v_X6_leastForMost l G _ sp od gg nn hP hN hs hod hgg hW) wd_r42_6 wd_r42_7 wd_r42_8 wd_r2_3 wd_r42_9 ⟨by decide, by decide, by decide +kernel⟩ rfl rfl ⟨Nat.le_of_ble_eq_true rfl, Nat.le_of_ble_eq_true rfl⟩ rfl rfl hl.1 (Nat.le_of_ble_eq_true rfl) dX6_givenTo_1 ⟨Nat.le_of_ble_eq_true rfl, Nat.le_of_ble_eq_true rfl⟩ (fun r1_1 S1_3 H locs h1_2 hw => ?_)
  obtain ⟨rfl, h1_2⟩ := h1_2
  have hlf9 := h1_2
  have hlf8 := ls_le (F := (val (oOf od) gg 64)) nn
  refine lv_istore_n (lv' := [(2, .int r1_1), (0, .ref (sp 0)), (1, .int w)]) hx hb dX6_givenTo_4 rfl hl (by decide) rfl (fun ls hl => ?_)
  refine lv_iconst (v := 0) hx hb dX6_givenTo_5 (by decide) ?_
  refine lv_istore_n (lv' := [(3, .int 0), (2, .int r1_1), (0, .ref (sp 0)), (1, .int w)]) hx hb dX6_givenTo_6 rfl hl (by decide) rfl (fun ls hl => ?_)
  have lp7 : ∀ (N9 : Nat) (z : Int32) (i : Int32), (0 ≤ z.toInt ∧ z.toInt ≤ (nn : Int)) → (0 ≤ i.toInt ∧ i.toInt ≤ (pI S 45 (sp 0)).toInt) → (gvI od gg nn i.toNatClampNeg z.toInt) → (∀ k : Nat, (k : Int) < i.toInt → (qI S (sp 1) k).toInt ≠ w.toInt) → (40 - i.toInt).toNat < N9 → ∀ (H : Heap) (locs : List Loc) (ls : Array Slot), PX G A s.heap S H locs → lv_has ls 5 [(3, .int i), (2, .int z), (0, .ref (sp 0)), (1, .int w)] → W p l e (Rm 2 0 0) s m args below meth c H locs 0 0 Q (F0 m 7 ls []) := by
    intro N9
    induction N9 with
    | zero => intro z i hz hi hgi hne hm; exact absurd hm (Nat.not_lt_zero _)
    | succ N9 ih7 =>
      intro z i hz hi hgi hne hm H locs ls hw hl
      refine lv_iload_n hx hb dX6_givenTo_7 rfl (lv_at hl 0 rfl) ?_
      refine lv_aload_n hx hb dX6_givenTo_8 rfl (lv_at hl 2 rfl) ?_
      refine gf_X6_49 (v := (pI S) 45 (sp 0)) X hw k0 rfl dX6_givenTo_9 ?_
      refine lv_icmp_ge (tgt := 47) hx hb dX6_givenTo_12 (by decide) (fun c12_4 => ?_) (fun c12_4 => ?_)
      · have D12_4 := iLe c12_4 rfl rfl
        refine lv_iconst (v := 0) hx hb dX6_givenTo_47 (by decide) ?_
        exact hret 0 _ _ _ _ _ ⟨rfl, by decide, by have := cl_toInt (x := w) hw9.1; rw [show (0 : Int32).toNatClampNeg = 0 by decide]; exact gets_0 (oOf_nn hod) hgg (by omega) (gv_none hW.2.1 (by omega) (fun j9 h9 => by rw [this]; exact hne j9 (by omega)))⟩ hw rfl dX6_givenTo_48
      · have D12_4 := iNle c12_4 rfl rfl
        obtain ⟨ce, hce, hci, hcp⟩ := ct_at (r := od) 64 i.toNatClampNeg (by have := cl_toInt (x := i) hi.1; omega)
        refine lv_aload_n hx hb dX6_givenTo_15 rfl (lv_at hl 2 rfl) ?_
        refine lv_iload_n hx hb dX6_givenTo_16 rfl (lv_at hl 0 rfl) ?_
        refine lv_iload_n hx hb dX6_givenTo_17 rfl (lv_at hl 1 rfl) ?_
        refine k_Vi (n := 2) X hw (rcvk (ci := 6) X hw k0 (fun _ _ _ _ _ _ _ => ⟨_, rfl⟩) rfl) (c_v_X6_leastGift l G _ sp i z od gg nn ce hP hN hs (by omega) (by omega) hod hgg hW hce hci hcp (by omega)) wd_r42_10 wd_r42_11 wd_r42_12 wd_r2_3 wd_r42_13 ⟨by decide, by decide, by decide +kernel⟩ rfl rfl ⟨Nat.le_of_ble_eq_true rfl, Nat.le_of_ble_eq_true rfl⟩ rfl rfl hl.1 (Nat.le_of_ble_eq_true rfl) dX6_givenTo_18 ⟨Nat.le_of_ble_eq_true rfl, Nat.le_of_ble_eq_true rfl⟩ (fun r18_5 S18_7 H locs h18_6 hw => ?_)
        obtain ⟨rfl, h18_6⟩ := h18_6
        have hlg := h18_6
        refine lv_istore (lv' := [(4, .int r18_5), (3, .int i), (2, .int z), (0, .ref (sp 0)), (1, .int w)]) hx hb dX6_givenTo_21 hl (by decide) rfl (fun ls hl => ?_)
        refine lv_aload_n hx hb dX6_givenTo_23 rfl (lv_at hl 3 rfl) ?_
        refine gf_X6_9 (b := (sp 1)) X hw k0 r40 dX6_givenTo_24 ?_
        refine lv_iload_n hx hb dX6_givenTo_27 rfl (lv_at hl 1 rfl) ?_
        refine q_ldI X hw k1 (vin n1 (by omega) (by omega)) dX6_givenTo_28 ?_
        refine lv_topi (fun v28_8 e28_8 => ?_)
        have e28_8 : v28_8 = (qI S) (sp 1) i.toNatClampNeg := e28_8
        have e28n := e28_8
        have h28 : v28_8.toInt = (ce : Int) := by rw [e28_8, ← hci]; exact (hW.2.1.2 ce hce hcp).1
        refine lv_iload_n hx hb dX6_givenTo_29 rfl (lv_at hl 4 rfl) ?_
        refine lv_icmp_ne (tgt := 36) hx hb dX6_givenTo_30 (by decide) (fun c30_9 => ?_) (fun c30_9 => ?_)
        · have D30_9 := iNe c30_9 rfl rfl
          refine lv_iload_n hx hb dX6_givenTo_36 rfl (lv_at hl 2 rfl) ?_
          refine lv_iload hx hb dX6_givenTo_37 (lv_at hl 0 rfl) ?_
          refine lv_isub hx hb dX6_givenTo_39 ?_
          refine lv_topi (fun v39_10 e39_10 => ?_)
          have t39_10 := iSub e39_10 rfl rfl (by omega) (by omega)
          have t39 := t39_10
          refine lv_istore_n (lv' := [(2, .int v39_10), (4, .int r18_5), (3, .int i), (0, .ref (sp 0)), (1, .int w)]) hx hb dX6_givenTo_40 rfl hl (by decide) rfl (fun ls hl => ?_)
          obtain ⟨v41_11, e41_11⟩ : ∃ y : Int32, y = i + 1 := ⟨_, rfl⟩
          have t41_11 := iAdd e41_11 rfl t_1 (by omega) (by omega)
          have t41 := t41_11
          refine lv_iinc (v := v41_11) (lv' := [(3, .int v41_11), (2, .int v39_10), (4, .int r18_5), (0, .ref (sp 0)), (1, .int w)]) hx hb dX6_givenTo_41 hl (k := 2) rfl (by rw [e41_11]; rfl) (by decide) rfl (fun ls hl => ?_)
          refine lv_goto (tgt := 7) hx hb dX6_givenTo_44 (by decide) ?_
          exact ih7  v39_10 v41_11 (by omega) (by omega) (gvI_s (oOf_nn hod) hgg hgi hi.1 t41 hz.1 hce hci hcp hlg.2.2 hlg.1 t39) (neC_s hne hi.1 t41 e28n (by first | omega | exact fun q9 => absurd (Int32.toInt_inj.mp q9) (by assumption))) (by omega) _ _ _ hw (lv_sub hl [0, 1, 3, 4] rfl)
        · have D30_9 := iEq c30_9 rfl rfl
          have hcw : (ce : Int) = w.toInt := by rw [← h28]; first | omega | exact congrArg Int32.toInt (by assumption)
          refine lv_iload hx hb dX6_givenTo_33 (lv_at hl 0 rfl) ?_
          exact hret r18_5 _ _ _ _ _ ⟨rfl, hlg.1, by have := cl_toInt (x := w) hw9.1; rw [show w.toNatClampNeg = ce by omega]; exact gvI_g (oOf_nn hod) hgg hgi hz.1 hce hci hlg.2.2⟩ hw rfl dX6_givenTo_35
  exact lp7 _  r1_1 0 (by omega) (by have := t_0; omega) (gvI_0 (oOf_nn hod) hgg hlf9) (fun k9 h9 => absurd h9 (by have := t_0; omega)) (Nat.lt_succ_self _) _ _ _ hw (lv_sub hl [0, 1, 2, 3] rfl)
