
set_option maxHeartbeats 4000000 in
set_option maxRecDepth 100000 in
theorem c_v_X11_left (l : Launch) (G : Gh) (S : Pl) (ma : Nat → Nat) (bk : Nat) (V : SV) (tl : Nat → TP) (pl : Nat → PP) (hM : shMod S ma) (hI : mInv (pI S) (qI S) ma) (hbk : (pI S 120 (ma 0)).toInt = (bk : Int)) (hbk1 : bk ≤ 1) (hMB : MBk (qI S) ma bk V.2) (hvk : vok V) (hTl : ∀ k : Nat, (k : Int) < (pI S 128 (ma 0)).toInt → mTP (qI S) ma k (tl k)) (hPl : ∀ k : Nat, (k : Int) < (pI S 140 (ma 0)).toInt → mPP (qI S) ma k (pl k) ∧ ppO (pl k)) (hOB : ∀ k, k < (pI S 128 (ma 0)).toInt.toNat → 0 ≤ ((fun k => odF V.2 (tl k) pl (qI S (ma 40)) (pI S 140 (ma 0)).toInt.toNat) k).toInt ∧ ((fun k => odF V.2 (tl k) pl (qI S (ma 40)) (pI S 140 (ma 0)).toInt.toNat) k).toInt ≤ 1000000000000000) (hOW : ∀ k, k < (pI S 128 (ma 0)).toInt.toNat → ((fun k => odF V.2 (tl k) pl (qI S (ma 40)) (pI S 140 (ma 0)).toInt.toNat) k).toInt ≤ (tl k).2.2.2.2.toInt * pw100 (cntB (qI S (ma 40)) (pI S 140 (ma 0)).toInt.toNat)) (hww : ∀ k, k < (pI S 128 (ma 0)).toInt.toNat → 1 ≤ (tl k).2.2.2.2.toInt ∧ (tl k).2.2.2.2.toInt ≤ 1000) : MtI l yX11_left cX11_left 9 (some .int) (Rm 5 0 0) G [.ref (ma 0)] S (fun (r : Int32) (S' : Pl) => ∃ I', ch S I' (pJ S) (qI S) (qJ S) = S' ∧ FrD (pI S) I' ∧ r.toInt = lfI (pI S 128 (ma 0)).toInt.toNat (wsF tl (pI S 128 (ma 0)).toInt.toNat) (alF (fun k => odF V.2 (tl k) pl (qI S (ma 40)) (pI S 140 (ma 0)).toInt.toNat) (pI S 128 (ma 0)).toInt.toNat).toInt (cntB (qI S (ma 40)) (pI S 140 (ma 0)).toInt.toNat)) 0 0 := by
  refine MtI.of (by decide) (Nat.le_of_ble_eq_true rfl) ?_
  intro p e s m args below meth c Q A X hw hin hret ls hl
  have hx := X.1.1
  have hb := X.1.2.1
  have hl : lv_has ls 9 [(0, .ref (ma 0))] := hl
  obtain ⟨⟨b1, b2, b3, b4, b5, b6⟩, hT, hP, hC⟩ := id hI
  have hAW : (alF (fun k => odF V.2 (tl k) pl (qI S (ma 40)) (pI S 140 (ma 0)).toInt.toNat) (pI S 128 (ma 0)).toInt.toNat).toInt ≤ (wsF tl (pI S 128 (ma 0)).toInt.toNat) * pw100 (cntB (qI S (ma 40)) (pI S 140 (ma 0)).toInt.toNat) := alw_b (N := (pI S 128 (ma 0)).toInt.toNat) (by omega) hOB hOW _ (Nat.le_refl _)
  have hAB := alf_b (N := (pI S 128 (ma 0)).toInt.toNat) (by omega) hOB _ (Nat.le_refl _)
  have hWB := ws_b hww (pI S 128 (ma 0)).toInt.toNat (Nat.le_refl _)
  have hp6 := pw100_6 hC.1
  refine lv_aload_n hx hb dX11_left_0 rfl (lv_at hl 0 rfl) ?_
  refine gf_X11_224 (v := (pI S) 128 (ma 0)) X hw hM.1 rfl dX11_left_1 ?_
  refine lv_if_ne (tgt := 11) hx hb dX11_left_4 (by decide) (fun c4_1 => ?_) (fun c4_1 => ?_)
  · have D4_1 := iNe c4_1 rfl t_0
    refine lv_lconst (v := 0) hx hb dX11_left_11 (by decide) ?_
    refine lv_lstore_n (lv' := [(1, .long 0), (0, .ref (ma 0))]) hx hb dX11_left_12 rfl hl (by decide) rfl (fun ls hl => ?_)
    refine lv_lconst (v := 0) hx hb dX11_left_13 (by decide) ?_
    refine lv_lstore_n (lv' := [(3, .long 0), (1, .long 0), (0, .ref (ma 0))]) hx hb dX11_left_14 rfl hl (by decide) rfl (fun ls hl => ?_)
    refine lv_iconst (v := 0) hx hb dX11_left_15 (by decide) ?_
    refine lv_istore (lv' := [(5, .int 0), (3, .long 0), (1, .long 0), (0, .ref (ma 0))]) hx hb dX11_left_16 hl (by decide) rfl (fun ls hl => ?_)
    have lp18 : ∀ (N9 : Nat) (I18 : Nat → Nat → Int32) (u : Int64) (w : Int64) (i : Int32), (FrD (pI S) I18) → (0 ≤ i.toInt ∧ i.toInt ≤ (pI S 128 (ma 0)).toInt) → (i.toInt ≤ w.toInt ∧ w.toInt ≤ 1000 * i.toInt) → (u = alF (fun k => odF V.2 (tl k) pl (qI S (ma 40)) (pI S 140 (ma 0)).toInt.toNat) i.toNatClampNeg) → (w.toInt = wsF tl i.toNatClampNeg) → (40 - i.toInt).toNat < N9 → ∀ (H : Heap) (locs : List Loc) (ls : Array Slot), PX G A s.heap (ch S I18 (pJ S) (qI S) (qJ S)) H locs → lv_has ls 9 [(5, .int i), (3, .long w), (1, .long u), (0, .ref (ma 0))] → W p l e (Rm 5 0 0) s m args below meth c H locs 0 0 Q (F0 m 18 ls []) := by
      intro N9
      induction N9 with
      | zero => intro I18 u w i hF hi hw1 hal hws hm; exact absurd hm (Nat.not_lt_zero _)
      | succ N9 ih18 =>
        intro I18 u w i hF hi hw1 hal hws hm H locs ls hw hl
        have h28 := FrD.at hF (f := 128) (by decide) (ma 0)
        have h40 := FrD.at hF (f := 140) (by decide) (ma 0)
        have hbF := FrD.at hF (f := 120) (by decide) (ma 0)
        refine lv_iload hx hb dX11_left_18 (lv_at hl 0 rfl) ?_
        refine lv_aload_n hx hb dX11_left_20 rfl (lv_at hl 3 rfl) ?_
        refine gf_X11_224 (v := I18 128 (ma 0)) X hw hM.1 rfl dX11_left_21 ?_
        refine lv_icmp_ge (tgt := 53) hx hb dX11_left_24 (by decide) (fun c24_2 => ?_) (fun c24_2 => ?_)
        · have D24_2 := iLe c24_2 rfl rfl
          have hiE : i.toNatClampNeg = (pI S 128 (ma 0)).toInt.toNat := by have := cl_toInt (x := i) hi.1; omega
          have hwsE : w.toInt = (wsF tl (pI S 128 (ma 0)).toInt.toNat) := by rw [hws, hiE]
          have halE : u = alF (fun k => odF V.2 (tl k) pl (qI S (ma 40)) (pI S 140 (ma 0)).toInt.toNat) (pI S 128 (ma 0)).toInt.toNat := by rw [hal, hiE]
          have halT := congrArg Int64.toInt halE
          refine lv_iconst (v := 0) hx hb dX11_left_53 (by decide) ?_
          refine lv_istore (lv' := [(5, .int 0), (3, .long w), (1, .long u), (0, .ref (ma 0))]) hx hb dX11_left_54 hl (by decide) rfl (fun ls hl => ?_)
          have lp56 : ∀ (N9 : Nat) (v : Int64) (j : Int32), (0 ≤ j.toInt ∧ j.toInt ≤ (pI S 140 (ma 0)).toInt) → (1 ≤ v.toInt ∧ v.toInt ≤ 40000 * pw100 (cntB (qI S (ma 40)) j.toNatClampNeg)) → (v.toInt = (wsF tl (pI S 128 (ma 0)).toInt.toNat) * pw100 (cntB (qI S (ma 40)) j.toNatClampNeg)) → (60 - j.toInt).toNat < N9 → ∀ (H : Heap) (locs : List Loc) (ls : Array Slot), PX G A s.heap (ch S I18 (pJ S) (qI S) (qJ S)) H locs → lv_has ls 9 [(5, .int j), (3, .long v), (1, .long u), (0, .ref (ma 0))] → W p l e (Rm 5 0 0) s m args below meth c H locs 0 0 Q (F0 m 56 ls []) := by
            intro N9
            induction N9 with
            | zero => intro v j hj hv hwl hm; exact absurd hm (Nat.not_lt_zero _)
            | succ N9 ih56 =>
              intro v j hj hv hwl hm H locs ls hw hl
              refine lv_iload hx hb dX11_left_56 (lv_at hl 0 rfl) ?_
              refine lv_aload_n hx hb dX11_left_58 rfl (lv_at hl 3 rfl) ?_
              refine gf_X11_252 (v := I18 140 (ma 0)) X hw hM.1 rfl dX11_left_59 ?_
              refine lv_icmp_ge (tgt := 91) hx hb dX11_left_62 (by decide) (fun c62_3 => ?_) (fun c62_3 => ?_)
              · have D62_3 := iLe c62_3 rfl rfl
                have hjE : j.toNatClampNeg = (pI S 140 (ma 0)).toInt.toNat := by have := cl_toInt (x := j) hj.1; omega
                have hvE : v.toInt = (wsF tl (pI S 128 (ma 0)).toInt.toNat) * pw100 (cntB (qI S (ma 40)) (pI S 140 (ma 0)).toInt.toNat) := by rw [hwl, hjE]
                rw [hjE] at hv
                have hx9 := p10b
                refine lv_lload_n hx hb dX11_left_91 rfl (lv_at hl 2 rfl) ?_
                refine lv_lload_n hx hb dX11_left_92 rfl (lv_at hl 1 rfl) ?_
                refine lv_ldiv hx hb dX11_left_93 (lne0 (by omega)) ?_
                refine lv_topl (fun v93_4 e93_4 => ?_)
                have d93 := lDivP e93_4 (by omega) (by omega)
                refine lv_l2i hx hb dX11_left_94 rfl ?_
                refine lv_topi (fun v94_5 e94_5 => ?_)
                have c94 := l2i_s e94_5 (by have z9 := lf_1 (u := u.toInt) (v := v.toInt) (by omega) (by omega); omega)
                refine lv_istore (lv' := [(5, .int v94_5), (3, .long v), (1, .long u), (0, .ref (ma 0))]) hx hb dX11_left_95 hl (by decide) rfl (fun ls hl => ?_)
                refine lv_lload_n hx hb dX11_left_97 rfl (lv_at hl 2 rfl) ?_
                refine lv_lload_n hx hb dX11_left_98 rfl (lv_at hl 1 rfl) ?_
                refine lv_lrem hx hb dX11_left_99 (lne0 (by omega)) ?_
                refine lv_topl (fun v99_6 e99_6 => ?_)
                have d99 := lremP e99_6 (by omega) (by omega)
                refine lv_lstore (lv' := [(6, .long v99_6), (5, .int v94_5), (3, .long v), (1, .long u), (0, .ref (ma 0))]) hx hb dX11_left_100 hl (by decide) rfl (fun ls hl => ?_)
                refine lv_iconst (v := 0) hx hb dX11_left_102 (by decide) ?_
                refine lv_istore (lv' := [(8, .int 0), (6, .long v99_6), (5, .int v94_5), (3, .long v), (1, .long u), (0, .ref (ma 0))]) hx hb dX11_left_103 hl (by decide) rfl (fun ls hl => ?_)
                have lp105 : ∀ (N9 : Nat) (x5 : Int32) (x6 : Int64) (k : Int32), (0 ≤ k.toInt ∧ k.toInt ≤ 4) → (lfD u.toInt x5.toInt v.toInt x6.toInt k.toNatClampNeg) → (4 - k.toInt).toNat < N9 → ∀ (H : Heap) (locs : List Loc) (ls : Array Slot), PX G A s.heap (ch S I18 (pJ S) (qI S) (qJ S)) H locs → lv_has ls 9 [(8, .int k), (6, .long x6), (5, .int x5), (3, .long v), (1, .long u), (0, .ref (ma 0))] → W p l e (Rm 5 0 0) s m args below meth c H locs 0 0 Q (F0 m 105 ls []) := by
                  intro N9
                  induction N9 with
                  | zero => intro x5 x6 k hk hlf hm; exact absurd hm (Nat.not_lt_zero _)
                  | succ N9 ih105 =>
                    intro x5 x6 k hk hlf hm H locs ls hw hl
                    have hx6 := hlf.2.1
                    have hx5 := hlf.2.2
                    have hp4 := p10_4 (n := k.toNatClampNeg) (by have := cl_toInt (x := k) hk.1; omega)
                    refine lv_iload hx hb dX11_left_105 (lv_at hl 0 rfl) ?_
                    refine lv_iconst (v := 4) hx hb dX11_left_107 (by decide) ?_
                    refine lv_icmp_ge (tgt := 144) hx hb dX11_left_108 (by decide) (fun c108_7 => ?_) (fun c108_7 => ?_)
                    · have D108_7 := iLe c108_7 t_4 rfl
                      refine lv_iload hx hb dX11_left_144 (lv_at hl 2 rfl) ?_
                      exact hret x5 _ _ _ _ _ ⟨_, rfl, hF, by have e9 : k.toNatClampNeg = 4 := (by have := cl_toInt (x := k) hk.1; omega); rw [e9] at hlf; unfold lfI; rw [if_neg (by have := t_0; omega), lfD_e hlf, halT, hvE]⟩ hw rfl dX11_left_146
                    · have D108_7 := iNle c108_7 t_4 rfl
                      refine lv_bipush (v := 10) hx hb dX11_left_111 (by decide) ?_
                      refine lv_iload hx hb dX11_left_113 (lv_at hl 2 rfl) ?_
                      refine lv_imul hx hb dX11_left_115 ?_
                      refine lv_topi (fun v115_8 e115_8 => ?_)
                      have t115_8 := iMul e115_8 t_10 rfl (by omega) (by omega)
                      have t115 := t115_8
                      refine lv_lload hx hb dX11_left_116 (lv_at hl 1 rfl) ?_
                      refine lv_ldc2 hx hb X.1.2.2.2.1 (X.1.2.2.2.2 _ wd_r43_5) dX11_left_118 ?_
                      refine lv_lmul hx hb dX11_left_121 ?_
                      refine lv_topl (fun v121_9 e121_9 => ?_)
                      have m121 := lMul e121_9 rfl (by decide : (10 : Int64).toInt = 10) (by omega) (by omega)
                      refine lv_lload_n hx hb dX11_left_122 rfl (lv_at hl 3 rfl) ?_
                      refine lv_ldiv hx hb dX11_left_123 (lne0 (by omega)) ?_
                      refine lv_topl (fun v123_10 e123_10 => ?_)
                      have d123 := lDivP e123_10 (by omega) (by omega)
                      have z123 := lf_10 (x := x6.toInt) (v := v.toInt) (by omega)
                      refine lv_l2i hx hb dX11_left_124 rfl ?_
                      refine lv_topi (fun v124_11 e124_11 => ?_)
                      have c124 := l2i_s e124_11 (by rw [d123, m121]; omega)
                      have c124b : 0 ≤ v124_11.toInt ∧ v124_11.toInt < 10 := by rw [c124, d123, m121]; exact z123
                      refine lv_iadd hx hb dX11_left_125 ?_
                      refine lv_topi (fun v125_12 e125_12 => ?_)
                      have t125_12 := iAdd e125_12 rfl rfl (by omega) (by omega)
                      have t125 := t125_12
                      refine lv_istore (lv' := [(5, .int v125_12), (8, .int k), (6, .long x6), (3, .long v), (1, .long u), (0, .ref (ma 0))]) hx hb dX11_left_126 hl (by decide) rfl (fun ls hl => ?_)
                      refine lv_lload hx hb dX11_left_128 (lv_at hl 2 rfl) ?_
                      refine lv_ldc2 hx hb X.1.2.2.2.1 (X.1.2.2.2.2 _ wd_r43_5) dX11_left_130 ?_
                      refine lv_lmul hx hb dX11_left_133 ?_
                      refine lv_topl (fun v133_13 e133_13 => ?_)
                      have m133 := lMul e133_13 rfl (by decide : (10 : Int64).toInt = 10) (by omega) (by omega)
                      refine lv_lload_n hx hb dX11_left_134 rfl (lv_at hl 3 rfl) ?_
                      refine lv_lrem hx hb dX11_left_135 (lne0 (by omega)) ?_
                      refine lv_topl (fun v135_14 e135_14 => ?_)
                      have d135 := lremP e135_14 (by omega) (by omega)
                      refine lv_lstore (lv' := [(6, .long v135_14), (5, .int v125_12), (8, .int k), (3, .long v), (1, .long u), (0, .ref (ma 0))]) hx hb dX11_left_136 hl (by decide) rfl (fun ls hl => ?_)
                      obtain ⟨v138_15, e138_15⟩ : ∃ y : Int32, y = k + 1 := ⟨_, rfl⟩
                      have t138_15 := iAdd e138_15 rfl t_1 (by omega) (by omega)
                      have t138 := t138_15
                      refine lv_iinc (v := v138_15) (lv' := [(8, .int v138_15), (6, .long v135_14), (5, .int v125_12), (3, .long v), (1, .long u), (0, .ref (ma 0))]) hx hb dX11_left_138 hl (k := 2) rfl (by rw [e138_15]; rfl) (by decide) rfl (fun ls hl => ?_)
                      refine lv_goto (tgt := 105) hx hb dX11_left_141 (by decide) ?_
                      exact ih105  v125_12 v135_14 v138_15 (by omega) (by rw [show (v138_15).toNatClampNeg = k.toNatClampNeg + 1 by have := cl_toInt (x := k) hk.1; have := cl_toInt (x := v138_15) (by omega); omega]; exact lfD_s hlf (by omega) (by rw [t125, t115, c124, d123, m121]) (by rw [d135, m133])) (by omega) _ _ _ hw (lv_sub hl [0, 1, 2, 3, 4, 5] rfl)
                exact lp105 _  v94_5 v99_6 0 (by have := t_0; omega) (by rw [show (0 : Int32).toNatClampNeg = 0 by decide]; exact lfD_0 (by omega) (by omega) (c94.trans d93) d99) (Nat.lt_succ_self _) _ _ _ hw (lv_sub hl [0, 1, 2, 3, 4, 5] rfl)
              · have D62_3 := iNle c62_3 rfl rfl
                refine lv_lload_n hx hb dX11_left_65 rfl (lv_at hl 1 rfl) ?_
                refine lv_aload_n hx hb dX11_left_66 rfl (lv_at hl 3 rfl) ?_
                refine gf_X11_126 (b := (ma 40)) X hw hM.1 (mr_40 hM) dX11_left_67 ?_
                refine lv_iload hx hb dX11_left_70 (lv_at hl 0 rfl) ?_
                refine q_ldZ X hw (mk_40 hM) (vin (mn_40 hM) (by omega) (by omega)) dX11_left_72 ?_
                refine lv_topi (fun v72_16 e72_16 => ?_)
                have e72_16 : v72_16 = (qI S) (ma 40) j.toNatClampNeg := e72_16
                have e72n := e72_16
                refine lv_if_eq (tgt := 80) hx hb dX11_left_73 (by decide) (fun c73_17 => ?_) (fun c73_17 => ?_)
                · have D73_17 := iEq c73_17 rfl t_0
                  refine lv_ldc2 hx hb X.1.2.2.2.1 (X.1.2.2.2.2 _ wd_r43_4) dX11_left_80 ?_
                  refine lv_lmul hx hb dX11_left_83 ?_
                  refine lv_topl (fun v83_18 e83_18 => ?_)
                  have e83n := e83_18
                  refine lv_lstore_n (lv' := [(3, .long v83_18), (5, .int j), (1, .long u), (0, .ref (ma 0))]) hx hb dX11_left_84 rfl hl (by decide) rfl (fun ls hl => ?_)
                  obtain ⟨v85_19, e85_19⟩ : ∃ y : Int32, y = j + 1 := ⟨_, rfl⟩
                  have t85_19 := iAdd e85_19 rfl t_1 (by omega) (by omega)
                  have t85 := t85_19
                  refine lv_iinc (v := v85_19) (lv' := [(5, .int v85_19), (3, .long v83_18), (1, .long u), (0, .ref (ma 0))]) hx hb dX11_left_85 hl (k := 1) rfl (by rw [e85_19]; rfl) (by decide) rfl (fun ls hl => ?_)
                  refine lv_goto (tgt := 56) hx hb dX11_left_88 (by decide) ?_
                  exact ih56  v83_18 v85_19 (by omega) (by first | exact left_n hv e83n e72n (by assumption) t85 (by omega) | exact left_y hv e83n e72n (by assumption) t85 (by omega) (cnt6 (by omega) (by omega) hC.1)) (by have c9 := pw100_6 (cnt6 (r := qI S (ma 40)) (i := j) hj.1 hj.2 hC.1); first | exact wl_n hwl hj.1 t85 e72n (by assumption) (lMul e83n rfl (by decide : (1 : Int64).toInt = 1) (by omega) (by omega)) | exact wl_y hwl hj.1 t85 e72n (by assumption) (lMul e83n rfl (by decide : (100 : Int64).toInt = 100) (by omega) (by omega))) (by omega) _ _ _ hw (lv_sub hl [0, 1, 2, 3] rfl)
                · skip
                  refine lv_lconst (v := 1) hx hb dX11_left_76 (by decide) ?_
                  refine lv_goto (tgt := 83) hx hb dX11_left_77 (by decide) ?_
                  refine lv_lmul hx hb dX11_left_83 ?_
                  refine lv_topl (fun v83_20 e83_20 => ?_)
                  have e83n := e83_20
                  refine lv_lstore_n (lv' := [(3, .long v83_20), (5, .int j), (1, .long u), (0, .ref (ma 0))]) hx hb dX11_left_84 rfl hl (by decide) rfl (fun ls hl => ?_)
                  obtain ⟨v85_21, e85_21⟩ : ∃ y : Int32, y = j + 1 := ⟨_, rfl⟩
                  have t85_21 := iAdd e85_21 rfl t_1 (by omega) (by omega)
                  have t85 := t85_21
                  refine lv_iinc (v := v85_21) (lv' := [(5, .int v85_21), (3, .long v83_20), (1, .long u), (0, .ref (ma 0))]) hx hb dX11_left_85 hl (k := 1) rfl (by rw [e85_21]; rfl) (by decide) rfl (fun ls hl => ?_)
                  refine lv_goto (tgt := 56) hx hb dX11_left_88 (by decide) ?_
                  exact ih56  v83_20 v85_21 (by omega) (by first | exact left_n hv e83n e72n (by assumption) t85 (by omega) | exact left_y hv e83n e72n (by assumption) t85 (by omega) (cnt6 (by omega) (by omega) hC.1)) (by have c9 := pw100_6 (cnt6 (r := qI S (ma 40)) (i := j) hj.1 hj.2 hC.1); first | exact wl_n hwl hj.1 t85 e72n (by assumption) (lMul e83n rfl (by decide : (1 : Int64).toInt = 1) (by omega) (by omega)) | exact wl_y hwl hj.1 t85 e72n (by assumption) (lMul e83n rfl (by decide : (100 : Int64).toInt = 100) (by omega) (by omega))) (by omega) _ _ _ hw (lv_sub hl [0, 1, 2, 3] rfl)
          exact lp56 _  w 0 (by have := t_0; omega) (left_0 (by omega)) (by rw [show (0 : Int32).toNatClampNeg = 0 by decide, hwsE]; simp only [cntB, pw100]; rw [Int.mul_one]) (Nat.lt_succ_self _) _ _ _ hw (lv_sub hl [0, 1, 2, 3] rfl)
        · have D24_2 := iNle c24_2 rfl rfl
          refine lv_lload_n hx hb dX11_left_27 rfl (lv_at hl 2 rfl) ?_
          refine lv_aload_n hx hb dX11_left_28 rfl (lv_at hl 3 rfl) ?_
          refine lv_iload hx hb dX11_left_29 (lv_at hl 0 rfl) ?_
          refine k_Vl (n := 1) X hw (rcvk (ci := 11) X hw hM.1 (fun _ _ _ _ _ _ _ => ⟨_, rfl⟩) rfl) (c_v_X11_oddsOf l G _ ma i bk V tl pl hM (hI.d hF) (show 0 ≤ i.toInt ∧ i.toInt < (I18 128 (ma 0) : Int32).toInt by omega) (show (I18 120 (ma 0) : Int32).toInt = (bk : Int) by omega) hbk1 hMB hvk (fun k9 h9 => hTl k9 (by have h8 : (k9 : Int) < (I18 128 (ma 0)).toInt := h9; omega)) (fun k9 h9 => hPl k9 (by have h8 : (k9 : Int) < (I18 140 (ma 0)).toInt := h9; omega))) wd_r37_15 wd_r37_16 wd_r37_17 wd_r1_5 wd_r37_18 ⟨by decide, by decide, by decide +kernel⟩ rfl rfl ⟨Nat.le_of_ble_eq_true rfl, Nat.le_of_ble_eq_true rfl⟩ rfl rfl hl.1 (Nat.le_of_ble_eq_true rfl) dX11_left_31 ⟨Nat.le_of_ble_eq_true rfl, Nat.le_of_ble_eq_true rfl⟩ (fun r31_22 S31_24 H locs h31_23 hw => ?_)
          obtain ⟨I31_25, rfl, h31_23⟩ := h31_23
          have hw : PX G A s.heap (ch S I31_25 (pJ S) (qI S) (qJ S)) H locs := hw
          have hod9 : r31_22 = (fun k => odF V.2 (tl k) pl (qI S (ma 40)) (pI S 140 (ma 0)).toInt.toNat) i.toNatClampNeg := by have z9 : r31_22 = odF V.2 (tl i.toNatClampNeg) pl (qI S (ma 40)) (I18 140 (ma 0)).toInt.toNat := h31_23.2.2.2; rw [hF 140 (by decide)] at z9; exact z9
          have h28b := FrD.at (FrD.tr hF h31_23.1) (f := 128) (by decide) (ma 0)
          refine lv_ladd hx hb dX11_left_34 ?_
          refine lv_topl (fun v34_26 e34_26 => ?_)
          have e34n := e34_26
          refine lv_lstore_n (lv' := [(1, .long v34_26), (5, .int i), (3, .long w), (0, .ref (ma 0))]) hx hb dX11_left_35 rfl hl (by decide) rfl (fun ls hl => ?_)
          refine lv_lload_n hx hb dX11_left_36 rfl (lv_at hl 2 rfl) ?_
          refine lv_aload_n hx hb dX11_left_37 rfl (lv_at hl 3 rfl) ?_
          refine gf_X11_102 (b := (ma 28)) X hw hM.1 (mr_28 hM) dX11_left_38 ?_
          refine lv_iload hx hb dX11_left_41 (lv_at hl 1 rfl) ?_
          refine q_ldI X hw (mk_28 hM) (vin (mn_28 hM) (by omega) (by omega)) dX11_left_43 ?_
          refine lv_topi (fun v43_27 e43_27 => ?_)
          have e43_27 : v43_27 = (qI S) (ma 28) i.toNatClampNeg := e43_27
          have g43 := congrArg Int32.toInt e43_27
          have tz := mT_at hT (x := i) (by omega) (by omega)
          have l43 : v43_27 = (tl i.toNatClampNeg).2.2.2.2 := e43_27.trans (hTl i.toNatClampNeg (by have := cl_toInt (x := i) hi.1; omega)).2.2.2.2
          refine lv_i2l hx hb dX11_left_44 rfl ?_
          refine lv_topl (fun v44_28 e44_28 => ?_)
          have k44 : v44_28.toInt = v43_27.toInt := by rw [e44_28]; exact i2l_t _
          refine lv_ladd hx hb dX11_left_45 ?_
          refine lv_topl (fun v45_29 e45_29 => ?_)
          have t45_29 := lAdd e45_29 rfl rfl (by omega) (by omega)
          have t45 := t45_29
          refine lv_lstore_n (lv' := [(3, .long v45_29), (1, .long v34_26), (5, .int i), (0, .ref (ma 0))]) hx hb dX11_left_46 rfl hl (by decide) rfl (fun ls hl => ?_)
          obtain ⟨v47_30, e47_30⟩ : ∃ y : Int32, y = i + 1 := ⟨_, rfl⟩
          have t47_30 := iAdd e47_30 rfl t_1 (by omega) (by omega)
          have t47 := t47_30
          refine lv_iinc (v := v47_30) (lv' := [(5, .int v47_30), (3, .long v45_29), (1, .long v34_26), (0, .ref (ma 0))]) hx hb dX11_left_47 hl (k := 2) rfl (by rw [e47_30]; rfl) (by decide) rfl (fun ls hl => ?_)
          refine lv_goto (tgt := 18) hx hb dX11_left_50 (by decide) ?_
          exact ih18 I31_25 v34_26 v45_29 v47_30 (FrD.tr hF h31_23.1) (by omega) (by omega) (alf_s (O := (fun k => odF V.2 (tl k) pl (qI S (ma 40)) (pI S 140 (ma 0)).toInt.toNat)) hal hi.1 t47 hod9 e34n) (ws_s hws hi.1 t47 l43 k44 t45) (by omega) _ _ _ hw (lv_sub hl [0, 1, 2, 3] rfl)
    exact lp18 _ (pI S) 0 0 0 FrD.rf (by have := t_0; omega) (by have := t_0; have := (by decide : (0:Int64).toInt = 0); omega) alf_0 (by rw [show (0 : Int32).toNatClampNeg = 0 by decide]; exact (show (0 : Int64).toInt = (0 : Int) by decide)) (Nat.lt_succ_self _) _ _ _ hw (lv_sub hl [0, 1, 2, 3] rfl)
  · have D4_1 := iEq c4_1 rfl t_0
    refine lv_sipush (v := 10000) hx hb dX11_left_7 (by decide) ?_
    exact hret 10000 _ _ _ _ _ ⟨_, rfl, FrD.rf, by unfold lfI; rw [if_pos (by have := t_0; omega)]; decide⟩ hw rfl dX11_left_10
