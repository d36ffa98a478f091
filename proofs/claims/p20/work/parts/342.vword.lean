
set_option maxHeartbeats 4000000 in
set_option maxRecDepth 100000 in
theorem c_v_J1_charAt_3b067 (l : Launch) (G : Gh) (S : Pl) (k : Nat) (i : Int32) (hk : k < 5) (hi : 0 ≤ i.toInt ∧ i.toInt < (skL.getD k 0 : Nat)) : MtI l yJ1_charAt_3b067 cJ1_charAt_3b067 2 (some .char) (Rm 2 0 0) G [.ref (G.2.2.2.1 k), .int i] S (fun (r : Int32) (S' : Pl) => S = S' ∧ narrow .char (.int r) = .int r ∧ r = (skB.getD k []).getD i.toNatClampNeg 0) 0 0 := by
  refine MtI.of (by decide) (Nat.le_of_ble_eq_true rfl) ?_
  intro p e s m args below meth c Q A X hw hin hret ls hl
  have hx := X.1.1
  have hb := X.1.2.1
  have hl : lv_has ls 2 [(0, .ref (G.2.2.2.1 k)), (1, .int i)] := hl
  have hkb := skLb hk
  refine lv_iload_n hx hb dJ1_charAt_3b067_0 rfl (lv_at hl 1 rfl) ?_
  refine lv_aload_n hx hb dJ1_charAt_3b067_1 rfl (lv_at hl 0 rfl) ?_
  refine va_tlen hx hb (X.2.2.2.2.1.2.2.2.1.1.1 k hk).2.2.2 hw.2.2 (v := Int32.ofNat (skL.getD k 0)) rfl dJ1_charAt_3b067_2 ?_
  refine k_Sv (n := 2) X hw (c_J0_checkIndex_df160 l G _ i (Int32.ofNat (skL.getD k 0)) (by omega)) wd_r13_2 wd_r13_3 wd_r12_5 wd_r13_4 ⟨by decide, by decide, by decide +kernel⟩ rfl rfl ⟨Nat.le_of_ble_eq_true rfl, Nat.le_of_ble_eq_true rfl⟩ rfl rfl hl.1 (Nat.le_of_ble_eq_true rfl) dJ1_charAt_3b067_3 ⟨Nat.le_of_ble_eq_true rfl, Nat.le_of_ble_eq_true rfl⟩ (fun S3_2 H locs h3_1 hw => ?_)
  obtain ⟨rfl, h3_1⟩ := h3_1
  refine lv_aload_n hx hb dJ1_charAt_3b067_6 rfl (lv_at hl 0 rfl) ?_
  refine lv_iload_n hx hb dJ1_charAt_3b067_7 rfl (lv_at hl 1 rfl) ?_
  refine va_tb hx hb (X.2.2.2.2.1.2.2.2.1.1.1 k hk).2.2.2 hw.2.2 (vp_in_iff.mpr ⟨by omega, by omega⟩) (v := .int ((skB.getD k []).getD i.toNatClampNeg 0)) rfl dJ1_charAt_3b067_8 ?_
  refine lv_topi (fun v8_3 e8_3 => ?_)
  have e8n := e8_3
  refine lv_sipush (v := 255) hx hb dJ1_charAt_3b067_9 (by decide) ?_
  refine lv_iand hx hb dJ1_charAt_3b067_12 ?_
  refine lv_topi (fun v12_4 e12_4 => ?_)
  have e12n := e12_4
  refine lv_i2c hx hb dJ1_charAt_3b067_13 rfl ?_
  refine lv_topi (fun v13_5 e13_5 => ?_)
  have RE := e13_5
  exact hret v13_5 _ _ _ _ _ ⟨rfl, by rw [e13_5]; exact pk_nc _, by rw [e13_5, e12n, e8n]; exact chr_sk k hk _ (clt hi.1 hi.2)⟩ hw (by rw [RE]; exact pk_nc _) dJ1_charAt_3b067_14
set_option maxHeartbeats 4000000 in
set_option maxRecDepth 100000 in
theorem c_v_J0_charAt_5068e (l : Launch) (G : Gh) (S : Pl) (k : Nat) (i : Int32) (hk : k < 5) (hi : 0 ≤ i.toInt ∧ i.toInt < (skL.getD k 0 : Nat)) : MtI l yJ0_charAt_5068e cJ0_charAt_5068e 2 (some .char) (Rm 3 0 0) G [.ref (G.2.2.1 k), .int i] S (fun (r : Int32) (S' : Pl) => S = S' ∧ narrow .char (.int r) = .int r ∧ r = (skB.getD k []).getD i.toNatClampNeg 0) 0 0 := by
  refine MtI.of (by decide) (Nat.le_of_ble_eq_true rfl) ?_
  intro p e s m args below meth c Q A X hw hin hret ls hl
  have hx := X.1.1
  have hb := X.1.2.1
  have hl : lv_has ls 2 [(0, .ref (G.2.2.1 k)), (1, .int i)] := hl
  refine lv_aload_n hx hb dJ0_charAt_5068e_0 rfl (lv_at hl 0 rfl) ?_
  refine k_Vi (n := 0) X hw (vk_recv X.2.2.2.2.1.2.2.2.1.1 hk hw.2.2) (c_J0_isLatin1_aae02 l G _ k hk) wd_r12_18 wd_r12_19 wd_r12_20 wd_r12_5 wd_r12_21 ⟨by decide, by decide, by decide +kernel⟩ rfl rfl ⟨Nat.le_of_ble_eq_true rfl, Nat.le_of_ble_eq_true rfl⟩ rfl rfl hl.1 (Nat.le_of_ble_eq_true rfl) dJ0_charAt_5068e_1 ⟨Nat.le_of_ble_eq_true rfl, Nat.le_of_ble_eq_true rfl⟩ (fun r1_1 S1_3 H locs h1_2 hw => ?_)
  rcases h1_2 with ⟨rfl, rfl, h1_2⟩ | ⟨rfl, rfl, h1_2⟩
  · have h1_2 := h1_2
    refine lv_if_eq (tgt := 16) hx hb dJ0_charAt_5068e_4 (by decide) (fun c4_4 => absurd c4_4 (by decide)) (fun c4_4 => ?_)
    refine lv_aload_n hx hb dJ0_charAt_5068e_7 rfl (lv_at hl 0 rfl) ?_
    refine vk_getf hx hb (X.2.2.2.2.1.2.2.2.1.1.1 k hk).2.2.1 hw.2.2 X.1.2.2.2.1 (X.1.2.2.2.2 _ wd_r12_7) (fun _ h => h) dJ0_charAt_5068e_8 ?_
    refine lv_iload_n hx hb dJ0_charAt_5068e_11 rfl (lv_at hl 1 rfl) ?_
    refine k_Si (n := 2) X hw (c_v_J1_charAt_3b067 l G _ k i hk hi) wd_r12_22 wd_r12_23 wd_r13_0 wd_r13_1 ⟨by decide, by decide, by decide +kernel⟩ rfl rfl ⟨Nat.le_of_ble_eq_true rfl, Nat.le_of_ble_eq_true rfl⟩ rfl rfl hl.1 (Nat.le_of_ble_eq_true rfl) dJ0_charAt_5068e_12 ⟨Nat.le_of_ble_eq_true rfl, Nat.le_of_ble_eq_true rfl⟩ (fun r12_5 S12_7 H locs h12_6 hw => ?_)
    obtain ⟨rfl, h12_6⟩ := h12_6
    have HC := h12_6
    exact hret r12_5 _ _ _ _ _ ⟨rfl, HC⟩ hw HC.1 dJ0_charAt_5068e_15
  · have h1_2 := h1_2
    exact h1_2.elim
set_option maxHeartbeats 4000000 in
set_option maxRecDepth 100000 in
theorem c_v_X9_spells (l : Launch) (G : Gh) (S : Pl) (tk tp tb k : Nat) (tc : Nat → Int32) (tn : Nat) (hK : shTok S tk tp tb) (htc : tc = tx (qI S tb) tn) (hn : (pI S 61 tp).toInt = (tn : Int)) (hz : tn ≤ 1000) (hk : k < 5) (hse : 0 ≤ (pI S 67 tk).toInt ∧ (pI S 67 tk).toInt ≤ (pI S 68 tk).toInt ∧ (pI S 68 tk).toInt ≤ (tn : Int)) : MtI l yX9_spells cX9_spells 4 (some .boolean) (Rm 4 0 0) G [.ref tk, .ref (G.2.2.1 k)] S (fun (r : Int32) (S' : Pl) => (S = S' ∧ r = 1 ∧ spl tc (pI S 67 tk).toNatClampNeg (pI S 68 tk).toNatClampNeg k) ∨ (S = S' ∧ r = 0 ∧ ¬ spl tc (pI S 67 tk).toNatClampNeg (pI S 68 tk).toNatClampNeg k)) 0 0 := by
  refine MtI.of (by decide) (Nat.le_of_ble_eq_true rfl) ?_
  intro p e s m args below meth c Q A X hw hin hret ls hl
  have hx := X.1.1
  have hb := X.1.2.1
  have hl : lv_has ls 4 [(0, .ref tk), (1, .ref (G.2.2.1 k))] := hl
  have hc7 := cl_toInt (x := pI S 67 tk) hse.1
  have hc8 := cl_toInt (x := pI S 68 tk) (by omega)
  refine lv_aload_n hx hb dX9_spells_0 rfl (lv_at hl 0 rfl) ?_
  refine gf_X9_23 (v := (pI S) 68 tk) X hw hK.1 rfl dX9_spells_1 ?_
  refine lv_aload_n hx hb dX9_spells_4 rfl (lv_at hl 0 rfl) ?_
  refine gf_X9_17 (v := (pI S) 67 tk) X hw hK.1 rfl dX9_spells_5 ?_
  refine lv_isub hx hb dX9_spells_8 ?_
  refine lv_topi (fun v8_1 e8_1 => ?_)
  have t8_1 := iSub e8_1 rfl rfl (by omega) (by omega)
  have t8 := t8_1
  refine lv_aload_n hx hb dX9_spells_9 rfl (lv_at hl 1 rfl) ?_
  refine k_Vi (n := 0) X hw (vk_recv X.2.2.2.2.1.2.2.2.1.1 hk hw.2.2) (c_J0_length_8abf5 l G _ k hk) wd_r12_2 wd_r12_3 wd_r12_4 wd_r12_5 wd_r12_6 ⟨by decide, by decide, by decide +kernel⟩ rfl rfl ⟨Nat.le_of_ble_eq_true rfl, Nat.le_of_ble_eq_true rfl⟩ rfl rfl hl.1 (Nat.le_of_ble_eq_true rfl) dX9_spells_10 ⟨Nat.le_of_ble_eq_true rfl, Nat.le_of_ble_eq_true rfl⟩ (fun r10_2 S10_4 H locs h10_3 hw => ?_)
  obtain ⟨rfl, h10_3⟩ := h10_3
  have h10b := skLc hk h10_3
  refine lv_icmp_ne (tgt := 20) hx hb dX9_spells_13 (by decide) (fun c13_5 => ?_) (fun c13_5 => ?_)
  · have D13_5 := iNe c13_5 rfl rfl
    refine lv_iconst (v := 0) hx hb dX9_spells_20 (by decide) ?_
    refine lv_istore_n (lv' := [(2, .int 0), (0, .ref tk), (1, .ref (G.2.2.1 k))]) hx hb dX9_spells_21 rfl hl (by decide) rfl (fun ls hl => ?_)
    refine lv_iconst (v := 0) hx hb dX9_spells_22 (by decide) ?_
    refine lv_istore_n (lv' := [(3, .int 0), (2, .int 0), (0, .ref tk), (1, .ref (G.2.2.1 k))]) hx hb dX9_spells_23 rfl hl (by decide) rfl (fun ls hl => ?_)
    have lp24 : ∀ (N9 : Nat) (z : Int32) (i : Int32), (spI tc (pI S 67 tk).toNatClampNeg (pI S 68 tk).toNatClampNeg k z i.toNatClampNeg) → (0 ≤ i.toInt ∧ i.toInt ≤ 6) → (6 - i.toInt).toNat < N9 → ∀ (H : Heap) (locs : List Loc) (ls : Array Slot), PX G A s.heap S H locs → lv_has ls 4 [(3, .int i), (2, .int z), (0, .ref tk), (1, .ref (G.2.2.1 k))] → W p l e (Rm 4 0 0) s m args below meth c H locs 0 0 Q (F0 m 24 ls []) := by
      intro N9
      induction N9 with
      | zero => intro z i hI9 hi hm; exact absurd hm (Nat.not_lt_zero _)
      | succ N9 ih24 =>
        intro z i hI9 hi hm H locs ls hw hl
        refine lv_iload_n hx hb dX9_spells_24 rfl (lv_at hl 1 rfl) ?_
        refine lv_if_eq (tgt := 69) hx hb dX9_spells_25 (by decide) (fun c25_6 => ?_) (fun c25_6 => ?_)
        · have D25_6 := iEq c25_6 rfl t_0
          refine lv_iload_n hx hb dX9_spells_69 rfl (lv_at hl 1 rfl) ?_
          exact hret z _ _ _ _ _ ((spI_end hI9 (by first | (right; assumption) | (left; have := cl_toInt (x := i) (by omega); omega))).elim (fun h => Or.inl ⟨rfl, h⟩) (fun h => Or.inr ⟨rfl, h⟩)) hw (nbool (by first | exact Or.inl rfl | exact Or.inr rfl | (rcases hI9 with q | q; exact Or.inr q.1; exact Or.inl q.1))) dX9_spells_70
        · have D25_6 := iNe c25_6 rfl t_0
          have hZ9 : spI tc (pI S 67 tk).toNatClampNeg (pI S 68 tk).toNatClampNeg k 1 i.toNatClampNeg := by rcases hI9 with q | q; exact Or.inl ⟨rfl, q.2⟩; exact absurd (congrArg Int32.toInt q.1) (by have := t_0; omega)
          have hlen : (pI S 68 tk).toNatClampNeg - (pI S 67 tk).toNatClampNeg = skL.getD k 0 := by rcases hZ9 with q | q; exact q.2.1; exact absurd q.1 (by decide)
          refine lv_iload_n hx hb dX9_spells_28 rfl (lv_at hl 0 rfl) ?_
          refine lv_aload_n hx hb dX9_spells_29 rfl (lv_at hl 3 rfl) ?_
          refine k_Vi (n := 0) X hw (vk_recv X.2.2.2.2.1.2.2.2.1.1 hk hw.2.2) (c_J0_length_8abf5 l G _ k hk) wd_r12_2 wd_r12_3 wd_r12_4 wd_r12_5 wd_r12_6 ⟨by decide, by decide, by decide +kernel⟩ rfl rfl ⟨Nat.le_of_ble_eq_true rfl, Nat.le_of_ble_eq_true rfl⟩ rfl rfl hl.1 (Nat.le_of_ble_eq_true rfl) dX9_spells_30 ⟨Nat.le_of_ble_eq_true rfl, Nat.le_of_ble_eq_true rfl⟩ (fun r30_7 S30_9 H locs h30_8 hw => ?_)
          obtain ⟨rfl, h30_8⟩ := h30_8
          have h30b := skLc hk h30_8
          refine lv_icmp_ge (tgt := 69) hx hb dX9_spells_33 (by decide) (fun c33_10 => ?_) (fun c33_10 => ?_)
          · have D33_10 := iLe c33_10 rfl rfl
            refine lv_iload_n hx hb dX9_spells_69 rfl (lv_at hl 1 rfl) ?_
            exact hret z _ _ _ _ _ ((spI_end hI9 (by first | (right; assumption) | (left; have := cl_toInt (x := i) (by omega); omega))).elim (fun h => Or.inl ⟨rfl, h⟩) (fun h => Or.inr ⟨rfl, h⟩)) hw (nbool (by first | exact Or.inl rfl | exact Or.inr rfl | (rcases hI9 with q | q; exact Or.inr q.1; exact Or.inl q.1))) dX9_spells_70
          · have D33_10 := iNle c33_10 rfl rfl
            refine lv_aload_n hx hb dX9_spells_36 rfl (lv_at hl 2 rfl) ?_
            refine gf_X9_7 (b := tp) X hw hK.1 hK.2.1 dX9_spells_37 ?_
            refine lv_aload_n hx hb dX9_spells_40 rfl (lv_at hl 2 rfl) ?_
            refine gf_X9_17 (v := (pI S) 67 tk) X hw hK.1 rfl dX9_spells_41 ?_
            refine lv_iload_n hx hb dX9_spells_44 rfl (lv_at hl 0 rfl) ?_
            refine lv_iadd hx hb dX9_spells_45 ?_
            refine lv_topi (fun v45_11 e45_11 => ?_)
            have t45_11 := iAdd e45_11 rfl rfl (by omega) (by omega)
            have t45 := t45_11
            refine k_Vi (n := 1) X hw (rcvk (ci := 8) X hw hK.2.2.1 (fun _ _ _ _ _ _ _ => ⟨_, rfl⟩) rfl) (c_v_X8_byteAt l G _ tp tb tc tn v45_11 hK.2.2 htc (Fr.n Fr.rf hn) hz) wd_r9_15 wd_r9_16 wd_r9_17 wd_r1_14 wd_r9_18 ⟨by decide, by decide, by decide +kernel⟩ rfl rfl ⟨Nat.le_of_ble_eq_true rfl, Nat.le_of_ble_eq_true rfl⟩ rfl rfl hl.1 (Nat.le_of_ble_eq_true rfl) dX9_spells_46 ⟨Nat.le_of_ble_eq_true rfl, Nat.le_of_ble_eq_true rfl⟩ (fun r46_12 S46_14 H locs h46_13 hw => ?_)
            obtain ⟨rfl, h46_13⟩ := h46_13
            have hcj := cl_toInt (x := i) (by omega)
            have h46n := byA.at h46_13 (e := (pI S 67 tk).toNatClampNeg + i.toNatClampNeg) (by omega)
            refine lv_aload_n hx hb dX9_spells_49 rfl (lv_at hl 3 rfl) ?_
            refine lv_iload_n hx hb dX9_spells_50 rfl (lv_at hl 0 rfl) ?_
            refine k_Vi (n := 1) X hw (vk_recv X.2.2.2.2.1.2.2.2.1.1 hk hw.2.2) (c_v_J0_charAt_5068e l G _ k i hk (by omega)) wd_r12_14 wd_r12_15 wd_r12_16 wd_r12_5 wd_r12_17 ⟨by decide, by decide, by decide +kernel⟩ rfl rfl ⟨Nat.le_of_ble_eq_true rfl, Nat.le_of_ble_eq_true rfl⟩ rfl rfl hl.1 (Nat.le_of_ble_eq_true rfl) dX9_spells_51 ⟨Nat.le_of_ble_eq_true rfl, Nat.le_of_ble_eq_true rfl⟩ (fun r51_15 S51_17 H locs h51_16 hw => ?_)
            obtain ⟨rfl, h51_16⟩ := h51_16
            have h51n := h51_16.2
            have h51t := congrArg Int32.toInt h51n
            have hch := chr_pos k hk i.toNatClampNeg (by omega)
            refine lv_icmp_ne (tgt := 61) hx hb dX9_spells_54 (by decide) (fun c54_18 => ?_) (fun c54_18 => ?_)
            · have D54_18 := iNe c54_18 rfl rfl
              refine lv_iconst (v := 0) hx hb dX9_spells_61 (by decide) ?_
              refine lv_istore_n (lv' := [(2, .int 0), (3, .int i), (0, .ref tk), (1, .ref (G.2.2.1 k))]) hx hb dX9_spells_62 rfl hl (by decide) rfl (fun ls hl => ?_)
              obtain ⟨v63_19, e63_19⟩ : ∃ y : Int32, y = i + 1 := ⟨_, rfl⟩
              have t63_19 := iAdd e63_19 rfl t_1 (by omega) (by omega)
              have t63 := t63_19
              refine lv_iinc (v := v63_19) (lv' := [(3, .int v63_19), (2, .int 0), (0, .ref tk), (1, .ref (G.2.2.1 k))]) hx hb dX9_spells_63 hl (k := 1) rfl (by rw [e63_19]; rfl) (by decide) rfl (fun ls hl => ?_)
              refine lv_goto (tgt := 24) hx hb dX9_spells_66 (by decide) ?_
              exact ih24  0 v63_19 (by first | exact spI_y (r := 0) hZ9 (by omega) (Int32.toInt_inj.mp (by omega)) (by have := cl_toInt (x := v63_19) (by omega); omega) | exact spI_n (i := i.toNatClampNeg) (by omega) (fun q => by have q := congrArg Int32.toInt q; omega)) (by have := t_0; omega) (by omega) _ _ _ hw (lv_sub hl [0, 1, 2, 3] rfl)
            · have D54_18 := iEq c54_18 rfl rfl
              refine lv_iconst (v := 1) hx hb dX9_spells_57 (by decide) ?_
              refine lv_goto (tgt := 62) hx hb dX9_spells_58 (by decide) ?_
              refine lv_istore_n (lv' := [(2, .int 1), (3, .int i), (0, .ref tk), (1, .ref (G.2.2.1 k))]) hx hb dX9_spells_62 rfl hl (by decide) rfl (fun ls hl => ?_)
              obtain ⟨v63_20, e63_20⟩ : ∃ y : Int32, y = i + 1 := ⟨_, rfl⟩
              have t63_20 := iAdd e63_20 rfl t_1 (by omega) (by omega)
              have t63 := t63_20
              refine lv_iinc (v := v63_20) (lv' := [(3, .int v63_20), (2, .int 1), (0, .ref tk), (1, .ref (G.2.2.1 k))]) hx hb dX9_spells_63 hl (k := 1) rfl (by rw [e63_20]; rfl) (by decide) rfl (fun ls hl => ?_)
              refine lv_goto (tgt := 24) hx hb dX9_spells_66 (by decide) ?_
              exact ih24  1 v63_20 (by first | exact spI_y (r := 0) hZ9 (by omega) (Int32.toInt_inj.mp (by omega)) (by have := cl_toInt (x := v63_20) (by omega); omega) | exact spI_n (i := i.toNatClampNeg) (by omega) (fun q => by have q := congrArg Int32.toInt q; omega)) (by have := t_1; omega) (by omega) _ _ _ hw (lv_sub hl [0, 1, 2, 3] rfl)
    exact lp24 _  0 0 (by first | exact Or.inl ⟨rfl, by omega, fun j h => absurd h (by rw [show (0 : Int32).toNatClampNeg = 0 by decide]; omega)⟩ | exact Or.inr ⟨rfl, fun q => absurd q.1 (by omega)⟩) (by have := t_0; have := t_0; omega) (Nat.lt_succ_self _) _ _ _ hw (lv_sub hl [0, 1, 2, 3] rfl)
  · have D13_5 := iEq c13_5 rfl rfl
    refine lv_iconst (v := 1) hx hb dX9_spells_16 (by decide) ?_
    refine lv_goto (tgt := 21) hx hb dX9_spells_17 (by decide) ?_
    refine lv_istore_n (lv' := [(2, .int 1), (0, .ref tk), (1, .ref (G.2.2.1 k))]) hx hb dX9_spells_21 rfl hl (by decide) rfl (fun ls hl => ?_)
    refine lv_iconst (v := 0) hx hb dX9_spells_22 (by decide) ?_
    refine lv_istore_n (lv' := [(3, .int 0), (2, .int 1), (0, .ref tk), (1, .ref (G.2.2.1 k))]) hx hb dX9_spells_23 rfl hl (by decide) rfl (fun ls hl => ?_)
    have lp24 : ∀ (N9 : Nat) (z : Int32) (i : Int32), (spI tc (pI S 67 tk).toNatClampNeg (pI S 68 tk).toNatClampNeg k z i.toNatClampNeg) → (0 ≤ i.toInt ∧ i.toInt ≤ 6) → (6 - i.toInt).toNat < N9 → ∀ (H : Heap) (locs : List Loc) (ls : Array Slot), PX G A s.heap S H locs → lv_has ls 4 [(3, .int i), (2, .int z), (0, .ref tk), (1, .ref (G.2.2.1 k))] → W p l e (Rm 4 0 0) s m args below meth c H locs 0 0 Q (F0 m 24 ls []) := by
      intro N9
      induction N9 with
      | zero => intro z i hI9 hi hm; exact absurd hm (Nat.not_lt_zero _)
      | succ N9 ih24 =>
        intro z i hI9 hi hm H locs ls hw hl
        refine lv_iload_n hx hb dX9_spells_24 rfl (lv_at hl 1 rfl) ?_
        refine lv_if_eq (tgt := 69) hx hb dX9_spells_25 (by decide) (fun c25_21 => ?_) (fun c25_21 => ?_)
        · have D25_21 := iEq c25_21 rfl t_0
          refine lv_iload_n hx hb dX9_spells_69 rfl (lv_at hl 1 rfl) ?_
          exact hret z _ _ _ _ _ ((spI_end hI9 (by first | (right; assumption) | (left; have := cl_toInt (x := i) (by omega); omega))).elim (fun h => Or.inl ⟨rfl, h⟩) (fun h => Or.inr ⟨rfl, h⟩)) hw (nbool (by first | exact Or.inl rfl | exact Or.inr rfl | (rcases hI9 with q | q; exact Or.inr q.1; exact Or.inl q.1))) dX9_spells_70
        · have D25_21 := iNe c25_21 rfl t_0
          have hZ9 : spI tc (pI S 67 tk).toNatClampNeg (pI S 68 tk).toNatClampNeg k 1 i.toNatClampNeg := by rcases hI9 with q | q; exact Or.inl ⟨rfl, q.2⟩; exact absurd (congrArg Int32.toInt q.1) (by have := t_0; omega)
          have hlen : (pI S 68 tk).toNatClampNeg - (pI S 67 tk).toNatClampNeg = skL.getD k 0 := by rcases hZ9 with q | q; exact q.2.1; exact absurd q.1 (by decide)
          refine lv_iload_n hx hb dX9_spells_28 rfl (lv_at hl 0 rfl) ?_
          refine lv_aload_n hx hb dX9_spells_29 rfl (lv_at hl 3 rfl) ?_
          refine k_Vi (n := 0) X hw (vk_recv X.2.2.2.2.1.2.2.2.1.1 hk hw.2.2) (c_J0_length_8abf5 l G _ k hk) wd_r12_2 wd_r12_3 wd_r12_4 wd_r12_5 wd_r12_6 ⟨by decide, by decide, by decide +kernel⟩ rfl rfl ⟨Nat.le_of_ble_eq_true rfl, Nat.le_of_ble_eq_true rfl⟩ rfl rfl hl.1 (Nat.le_of_ble_eq_true rfl) dX9_spells_30 ⟨Nat.le_of_ble_eq_true rfl, Nat.le_of_ble_eq_true rfl⟩ (fun r30_22 S30_24 H locs h30_23 hw => ?_)
          obtain ⟨rfl, h30_23⟩ := h30_23
          have h30b := skLc hk h30_23
          refine lv_icmp_ge (tgt := 69) hx hb dX9_spells_33 (by decide) (fun c33_25 => ?_) (fun c33_25 => ?_)
          · have D33_25 := iLe c33_25 rfl rfl
            refine lv_iload_n hx hb dX9_spells_69 rfl (lv_at hl 1 rfl) ?_
            exact hret z _ _ _ _ _ ((spI_end hI9 (by first | (right; assumption) | (left; have := cl_toInt (x := i) (by omega); omega))).elim (fun h => Or.inl ⟨rfl, h⟩) (fun h => Or.inr ⟨rfl, h⟩)) hw (nbool (by first | exact Or.inl rfl | exact Or.inr rfl | (rcases hI9 with q | q; exact Or.inr q.1; exact Or.inl q.1))) dX9_spells_70
          · have D33_25 := iNle c33_25 rfl rfl
            refine lv_aload_n hx hb dX9_spells_36 rfl (lv_at hl 2 rfl) ?_
            refine gf_X9_7 (b := tp) X hw hK.1 hK.2.1 dX9_spells_37 ?_
            refine lv_aload_n hx hb dX9_spells_40 rfl (lv_at hl 2 rfl) ?_
            refine gf_X9_17 (v := (pI S) 67 tk) X hw hK.1 rfl dX9_spells_41 ?_
            refine lv_iload_n hx hb dX9_spells_44 rfl (lv_at hl 0 rfl) ?_
            refine lv_iadd hx hb dX9_spells_45 ?_
            refine lv_topi (fun v45_26 e45_26 => ?_)
            have t45_26 := iAdd e45_26 rfl rfl (by omega) (by omega)
            have t45 := t45_26
            refine k_Vi (n := 1) X hw (rcvk (ci := 8) X hw hK.2.2.1 (fun _ _ _ _ _ _ _ => ⟨_, rfl⟩) rfl) (c_v_X8_byteAt l G _ tp tb tc tn v45_26 hK.2.2 htc (Fr.n Fr.rf hn) hz) wd_r9_15 wd_r9_16 wd_r9_17 wd_r1_14 wd_r9_18 ⟨by decide, by decide, by decide +kernel⟩ rfl rfl ⟨Nat.le_of_ble_eq_true rfl, Nat.le_of_ble_eq_true rfl⟩ rfl rfl hl.1 (Nat.le_of_ble_eq_true rfl) dX9_spells_46 ⟨Nat.le_of_ble_eq_true rfl, Nat.le_of_ble_eq_true rfl⟩ (fun r46_27 S46_29 H locs h46_28 hw => ?_)
            obtain ⟨rfl, h46_28⟩ := h46_28
            have hcj := cl_toInt (x := i) (by omega)
            have h46n := byA.at h46_28 (e := (pI S 67 tk).toNatClampNeg + i.toNatClampNeg) (by omega)
            refine lv_aload_n hx hb dX9_spells_49 rfl (lv_at hl 3 rfl) ?_
            refine lv_iload_n hx hb dX9_spells_50 rfl (lv_at hl 0 rfl) ?_
            refine k_Vi (n := 1) X hw (vk_recv X.2.2.2.2.1.2.2.2.1.1 hk hw.2.2) (c_v_J0_charAt_5068e l G _ k i hk (by omega)) wd_r12_14 wd_r12_15 wd_r12_16 wd_r12_5 wd_r12_17 ⟨by decide, by decide, by decide +kernel⟩ rfl rfl ⟨Nat.le_of_ble_eq_true rfl, Nat.le_of_ble_eq_true rfl⟩ rfl rfl hl.1 (Nat.le_of_ble_eq_true rfl) dX9_spells_51 ⟨Nat.le_of_ble_eq_true rfl, Nat.le_of_ble_eq_true rfl⟩ (fun r51_30 S51_32 H locs h51_31 hw => ?_)
            obtain ⟨rfl, h51_31⟩ := h51_31
            have h51n := h51_31.2
            have h51t := congrArg Int32.toInt h51n
            have hch := chr_pos k hk i.toNatClampNeg (by omega)
            refine lv_icmp_ne (tgt := 61) hx hb dX9_spells_54 (by decide) (fun c54_33 => ?_) (fun c54_33 => ?_)
            · have D54_33 := iNe c54_33 rfl rfl
              refine lv_iconst (v := 0) hx hb dX9_spells_61 (by decide) ?_
              refine lv_istore_n (lv' := [(2, .int 0), (3, .int i), (0, .ref tk), (1, .ref (G.2.2.1 k))]) hx hb dX9_spells_62 rfl hl (by decide) rfl (fun ls hl => ?_)
              obtain ⟨v63_34, e63_34⟩ : ∃ y : Int32, y = i + 1 := ⟨_, rfl⟩
              have t63_34 := iAdd e63_34 rfl t_1 (by omega) (by omega)
              have t63 := t63_34
              refine lv_iinc (v := v63_34) (lv' := [(3, .int v63_34), (2, .int 0), (0, .ref tk), (1, .ref (G.2.2.1 k))]) hx hb dX9_spells_63 hl (k := 1) rfl (by rw [e63_34]; rfl) (by decide) rfl (fun ls hl => ?_)
              refine lv_goto (tgt := 24) hx hb dX9_spells_66 (by decide) ?_
              exact ih24  0 v63_34 (by first | exact spI_y (r := 0) hZ9 (by omega) (Int32.toInt_inj.mp (by omega)) (by have := cl_toInt (x := v63_34) (by omega); omega) | exact spI_n (i := i.toNatClampNeg) (by omega) (fun q => by have q := congrArg Int32.toInt q; omega)) (by have := t_0; omega) (by omega) _ _ _ hw (lv_sub hl [0, 1, 2, 3] rfl)
            · have D54_33 := iEq c54_33 rfl rfl
              refine lv_iconst (v := 1) hx hb dX9_spells_57 (by decide) ?_
              refine lv_goto (tgt := 62) hx hb dX9_spells_58 (by decide) ?_
              refine lv_istore_n (lv' := [(2, .int 1), (3, .int i), (0, .ref tk), (1, .ref (G.2.2.1 k))]) hx hb dX9_spells_62 rfl hl (by decide) rfl (fun ls hl => ?_)
              obtain ⟨v63_35, e63_35⟩ : ∃ y : Int32, y = i + 1 := ⟨_, rfl⟩
              have t63_35 := iAdd e63_35 rfl t_1 (by omega) (by omega)
              have t63 := t63_35
              refine lv_iinc (v := v63_35) (lv' := [(3, .int v63_35), (2, .int 1), (0, .ref tk), (1, .ref (G.2.2.1 k))]) hx hb dX9_spells_63 hl (k := 1) rfl (by rw [e63_35]; rfl) (by decide) rfl (fun ls hl => ?_)
              refine lv_goto (tgt := 24) hx hb dX9_spells_66 (by decide) ?_
              exact ih24  1 v63_35 (by first | exact spI_y (r := 0) hZ9 (by omega) (Int32.toInt_inj.mp (by omega)) (by have := cl_toInt (x := v63_35) (by omega); omega) | exact spI_n (i := i.toNatClampNeg) (by omega) (fun q => by have q := congrArg Int32.toInt q; omega)) (by have := t_1; omega) (by omega) _ _ _ hw (lv_sub hl [0, 1, 2, 3] rfl)
    exact lp24 _  1 0 (by first | exact Or.inl ⟨rfl, by omega, fun j h => absurd h (by rw [show (0 : Int32).toNatClampNeg = 0 by decide]; omega)⟩ | exact Or.inr ⟨rfl, fun q => absurd q.1 (by omega)⟩) (by have := t_1; have := t_0; omega) (Nat.lt_succ_self _) _ _ _ hw (lv_sub hl [0, 1, 2, 3] rfl)
set_option maxHeartbeats 4000000 in
set_option maxRecDepth 100000 in
theorem c_v_X4_sortOfWord (l : Launch) (G : Gh) (S : Pl) (rd nb tk tp tb : Nat) (tc : Nat → Int32) (tn : Nat) (hR : shRd S rd nb tk tp tb) (htc : tc = tx (qI S tb) tn) (hn : (pI S 61 tp).toInt = (tn : Int)) (hz : tn ≤ 1000) (hse : 0 ≤ (pI S 67 tk).toInt ∧ (pI S 67 tk).toInt ≤ (pI S 68 tk).toInt ∧ (pI S 68 tk).toInt ≤ (tn : Int)) : MtI l yX4_sortOfWord cX4_sortOfWord 1 (some .int) (Rm 5 0 0) G [.ref rd] S (fun (r : Int32) (S' : Pl) => S = S' ∧ srtA tc (pI S 67 tk).toNatClampNeg (pI S 68 tk).toNatClampNeg r.toInt) 0 0 := by
  refine MtI.of (by decide) (Nat.le_of_ble_eq_true rfl) ?_
  intro p e s m args below meth c Q A X hw hin hret ls hl
  have hx := X.1.1
  have hb := X.1.2.1
  have hl : lv_has ls 1 [(0, .ref rd)] := hl
  refine lv_aload_n hx hb dX4_sortOfWord_0 rfl (lv_at hl 0 rfl) ?_
  refine gf_X4_24 (b := tk) X hw hR.1 hR.2.1 dX4_sortOfWord_1 ?_
  refine va_ldcS (q := G.2.2.1 0) hx hb X.1.2.2.2.1 (X.2.2.2.2.1.2.2.2.1.2 0 (by decide)) dX4_sortOfWord_4 ?_
  refine k_Vi (n := 1) X hw (rcvk (ci := 9) X hw hR.2.2.2.2.2.1 (fun _ _ _ _ _ _ _ => ⟨_, rfl⟩) rfl) (c_v_X9_spells l G _ tk tp tb 0 tc tn hR.2.2.2.2.2 htc hn hz (by decide) hse) wd_r11_22 wd_r11_23 wd_r12_0 wd_r3_2 wd_r12_1 ⟨by decide, by decide, by decide +kernel⟩ rfl rfl ⟨Nat.le_of_ble_eq_true rfl, Nat.le_of_ble_eq_true rfl⟩ rfl rfl hl.1 (Nat.le_of_ble_eq_true rfl) dX4_sortOfWord_6 ⟨Nat.le_of_ble_eq_true rfl, Nat.le_of_ble_eq_true rfl⟩ (fun r6_1 S6_3 H locs h6_2 hw => ?_)
  rcases h6_2 with ⟨rfl, rfl, h6_2⟩ | ⟨rfl, rfl, h6_2⟩
  · have h6_2 := h6_2
    refine lv_if_eq (tgt := 16) hx hb dX4_sortOfWord_9 (by decide) (fun c9_4 => absurd c9_4 (by decide)) (fun c9_4 => ?_)
    refine lv_iconst (v := 0) hx hb dX4_sortOfWord_12 (by decide) ?_
    refine lv_goto (tgt := 81) hx hb dX4_sortOfWord_13 (by decide) ?_
    exact hret 0 _ _ _ _ _ ⟨rfl, Or.inr ⟨0, by decide, by decide, by assumption⟩⟩ hw rfl dX4_sortOfWord_81
  · have h6_2 := h6_2
    refine lv_if_eq (tgt := 16) hx hb dX4_sortOfWord_9 (by decide) (fun c9_5 => ?_) (fun c9_5 => absurd c9_5 (by decide))
    refine lv_aload_n hx hb dX4_sortOfWord_16 rfl (lv_at hl 0 rfl) ?_
    refine gf_X4_24 (b := tk) X hw hR.1 hR.2.1 dX4_sortOfWord_17 ?_
    refine va_ldcS (q := G.2.2.1 1) hx hb X.1.2.2.2.1 (X.2.2.2.2.1.2.2.2.1.2 1 (by decide)) dX4_sortOfWord_20 ?_
    refine k_Vi (n := 1) X hw (rcvk (ci := 9) X hw hR.2.2.2.2.2.1 (fun _ _ _ _ _ _ _ => ⟨_, rfl⟩) rfl) (c_v_X9_spells l G _ tk tp tb 1 tc tn hR.2.2.2.2.2 htc hn hz (by decide) hse) wd_r11_22 wd_r11_23 wd_r12_0 wd_r3_2 wd_r12_1 ⟨by decide, by decide, by decide +kernel⟩ rfl rfl ⟨Nat.le_of_ble_eq_true rfl, Nat.le_of_ble_eq_true rfl⟩ rfl rfl hl.1 (Nat.le_of_ble_eq_true rfl) dX4_sortOfWord_22 ⟨Nat.le_of_ble_eq_true rfl, Nat.le_of_ble_eq_true rfl⟩ (fun r22_6 S22_8 H locs h22_7 hw => ?_)
    rcases h22_7 with ⟨rfl, rfl, h22_7⟩ | ⟨rfl, rfl, h22_7⟩
    · have h22_7 := h22_7
      refine lv_if_eq (tgt := 32) hx hb dX4_sortOfWord_25 (by decide) (fun c25_9 => absurd c25_9 (by decide)) (fun c25_9 => ?_)
      refine lv_iconst (v := 1) hx hb dX4_sortOfWord_28 (by decide) ?_
      refine lv_goto (tgt := 81) hx hb dX4_sortOfWord_29 (by decide) ?_
      exact hret 1 _ _ _ _ _ ⟨rfl, Or.inr ⟨1, by decide, by decide, by assumption⟩⟩ hw rfl dX4_sortOfWord_81
    · have h22_7 := h22_7
      refine lv_if_eq (tgt := 32) hx hb dX4_sortOfWord_25 (by decide) (fun c25_10 => ?_) (fun c25_10 => absurd c25_10 (by decide))
      refine lv_aload_n hx hb dX4_sortOfWord_32 rfl (lv_at hl 0 rfl) ?_
      refine gf_X4_24 (b := tk) X hw hR.1 hR.2.1 dX4_sortOfWord_33 ?_
      refine va_ldcS (q := G.2.2.1 2) hx hb X.1.2.2.2.1 (X.2.2.2.2.1.2.2.2.1.2 2 (by decide)) dX4_sortOfWord_36 ?_
      refine k_Vi (n := 1) X hw (rcvk (ci := 9) X hw hR.2.2.2.2.2.1 (fun _ _ _ _ _ _ _ => ⟨_, rfl⟩) rfl) (c_v_X9_spells l G _ tk tp tb 2 tc tn hR.2.2.2.2.2 htc hn hz (by decide) hse) wd_r11_22 wd_r11_23 wd_r12_0 wd_r3_2 wd_r12_1 ⟨by decide, by decide, by decide +kernel⟩ rfl rfl ⟨Nat.le_of_ble_eq_true rfl, Nat.le_of_ble_eq_true rfl⟩ rfl rfl hl.1 (Nat.le_of_ble_eq_true rfl) dX4_sortOfWord_38 ⟨Nat.le_of_ble_eq_true rfl, Nat.le_of_ble_eq_true rfl⟩ (fun r38_11 S38_13 H locs h38_12 hw => ?_)
      rcases h38_12 with ⟨rfl, rfl, h38_12⟩ | ⟨rfl, rfl, h38_12⟩
      · have h38_12 := h38_12
        refine lv_if_eq (tgt := 48) hx hb dX4_sortOfWord_41 (by decide) (fun c41_14 => absurd c41_14 (by decide)) (fun c41_14 => ?_)
        refine lv_iconst (v := 2) hx hb dX4_sortOfWord_44 (by decide) ?_
        refine lv_goto (tgt := 81) hx hb dX4_sortOfWord_45 (by decide) ?_
        exact hret 2 _ _ _ _ _ ⟨rfl, Or.inr ⟨2, by decide, by decide, by assumption⟩⟩ hw rfl dX4_sortOfWord_81
      · have h38_12 := h38_12
        refine lv_if_eq (tgt := 48) hx hb dX4_sortOfWord_41 (by decide) (fun c41_15 => ?_) (fun c41_15 => absurd c41_15 (by decide))
        refine lv_aload_n hx hb dX4_sortOfWord_48 rfl (lv_at hl 0 rfl) ?_
        refine gf_X4_24 (b := tk) X hw hR.1 hR.2.1 dX4_sortOfWord_49 ?_
        refine va_ldcS (q := G.2.2.1 3) hx hb X.1.2.2.2.1 (X.2.2.2.2.1.2.2.2.1.2 3 (by decide)) dX4_sortOfWord_52 ?_
        refine k_Vi (n := 1) X hw (rcvk (ci := 9) X hw hR.2.2.2.2.2.1 (fun _ _ _ _ _ _ _ => ⟨_, rfl⟩) rfl) (c_v_X9_spells l G _ tk tp tb 3 tc tn hR.2.2.2.2.2 htc hn hz (by decide) hse) wd_r11_22 wd_r11_23 wd_r12_0 wd_r3_2 wd_r12_1 ⟨by decide, by decide, by decide +kernel⟩ rfl rfl ⟨Nat.le_of_ble_eq_true rfl, Nat.le_of_ble_eq_true rfl⟩ rfl rfl hl.1 (Nat.le_of_ble_eq_true rfl) dX4_sortOfWord_54 ⟨Nat.le_of_ble_eq_true rfl, Nat.le_of_ble_eq_true rfl⟩ (fun r54_16 S54_18 H locs h54_17 hw => ?_)
        rcases h54_17 with ⟨rfl, rfl, h54_17⟩ | ⟨rfl, rfl, h54_17⟩
        · have h54_17 := h54_17
          refine lv_if_eq (tgt := 64) hx hb dX4_sortOfWord_57 (by decide) (fun c57_19 => absurd c57_19 (by decide)) (fun c57_19 => ?_)
          refine lv_iconst (v := 3) hx hb dX4_sortOfWord_60 (by decide) ?_
          refine lv_goto (tgt := 81) hx hb dX4_sortOfWord_61 (by decide) ?_
          exact hret 3 _ _ _ _ _ ⟨rfl, Or.inr ⟨3, by decide, by decide, by assumption⟩⟩ hw rfl dX4_sortOfWord_81
        · have h54_17 := h54_17
          refine lv_if_eq (tgt := 64) hx hb dX4_sortOfWord_57 (by decide) (fun c57_20 => ?_) (fun c57_20 => absurd c57_20 (by decide))
          refine lv_aload_n hx hb dX4_sortOfWord_64 rfl (lv_at hl 0 rfl) ?_
          refine gf_X4_24 (b := tk) X hw hR.1 hR.2.1 dX4_sortOfWord_65 ?_
          refine va_ldcS (q := G.2.2.1 4) hx hb X.1.2.2.2.1 (X.2.2.2.2.1.2.2.2.1.2 4 (by decide)) dX4_sortOfWord_68 ?_
          refine k_Vi (n := 1) X hw (rcvk (ci := 9) X hw hR.2.2.2.2.2.1 (fun _ _ _ _ _ _ _ => ⟨_, rfl⟩) rfl) (c_v_X9_spells l G _ tk tp tb 4 tc tn hR.2.2.2.2.2 htc hn hz (by decide) hse) wd_r11_22 wd_r11_23 wd_r12_0 wd_r3_2 wd_r12_1 ⟨by decide, by decide, by decide +kernel⟩ rfl rfl ⟨Nat.le_of_ble_eq_true rfl, Nat.le_of_ble_eq_true rfl⟩ rfl rfl hl.1 (Nat.le_of_ble_eq_true rfl) dX4_sortOfWord_70 ⟨Nat.le_of_ble_eq_true rfl, Nat.le_of_ble_eq_true rfl⟩ (fun r70_21 S70_23 H locs h70_22 hw => ?_)
          rcases h70_22 with ⟨rfl, rfl, h70_22⟩ | ⟨rfl, rfl, h70_22⟩
          · have h70_22 := h70_22
            refine lv_if_eq (tgt := 80) hx hb dX4_sortOfWord_73 (by decide) (fun c73_24 => absurd c73_24 (by decide)) (fun c73_24 => ?_)
            refine lv_iconst (v := 4) hx hb dX4_sortOfWord_76 (by decide) ?_
            refine lv_goto (tgt := 81) hx hb dX4_sortOfWord_77 (by decide) ?_
            exact hret 4 _ _ _ _ _ ⟨rfl, Or.inr ⟨4, by decide, by decide, by assumption⟩⟩ hw rfl dX4_sortOfWord_81
          · have h70_22 := h70_22
            refine lv_if_eq (tgt := 80) hx hb dX4_sortOfWord_73 (by decide) (fun c73_25 => ?_) (fun c73_25 => absurd c73_25 (by decide))
            refine lv_iconst (v := -1) hx hb dX4_sortOfWord_80 (by decide) ?_
            exact hret (-1) _ _ _ _ _ ⟨rfl, Or.inl ⟨by decide, fun k hk => by rcases (show k = 0 ∨ k = 1 ∨ k = 2 ∨ k = 3 ∨ k = 4 by omega) with rfl | rfl | rfl | rfl | rfl <;> assumption⟩⟩ hw rfl dX4_sortOfWord_81
