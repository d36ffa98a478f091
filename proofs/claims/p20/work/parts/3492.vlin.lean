
/-! ===== the reader: a line ===== -/
theorem srt_conv {c : Nat → Int32} {a b : Int32} {x y : Nat} {r : Int} (h : srtA c a.toNatClampNeg b.toNatClampNeg r) (ha : a.toInt = (x : Int)) (hb : b.toInt = (y : Int)) : srtA c x y r := by
  have h1 := cl_toInt (x := a) (by omega)
  have h2 := cl_toInt (x := b) (by omega)
  rw [show a.toNatClampNeg = x by omega, show b.toNatClampNeg = y by omega] at h; exact h
theorem srt_no {c : Nat → Int32} {x y s : Nat} {r : Int} (h : srtA c x y r) (hr : r = -1) (hs : s < 5) : ¬ spl c x y s := by
  rcases h with ⟨_, h⟩ | ⟨k, h1, _, _⟩
  · exact h s hs
  · omega
theorem srt_y {c : Nat → Int32} {x y : Nat} {r : Int32} (h : srtA c x y r.toInt) (hr : r.toInt ≠ -1) : (0 ≤ r.toInt ∧ r.toInt ≤ 4) ∧ r.toNatClampNeg < 5 ∧ spl c x y r.toNatClampNeg := by
  rcases h with ⟨h, _⟩ | ⟨k, h1, h2, h3⟩
  · exact absurd h hr
  · have e := cl_toInt (x := r) (by omega)
    rw [show r.toNatClampNeg = k by omega]
    exact ⟨by omega, h2, h3⟩
theorem LnS_of {c : Nat → Int32} {n p s : Nat} {V : SV} (hs : s < 5) (h2 : tK c n p = 2) (hp : spl c (tS c n p) (tE c n p) s) (hl : V.1 < 60) (hg : ∀ j, j < numS s → gdN V.2 c n (tE c n p) s j) (h4 : tK c n (pz c n (tE c n p) (numS s)) = 4) : LnS c n V p s := by
  have ht := telS_2 hs
  refine ⟨h2, hp, hl, fun j hj => (hg j hj).1, (hg (telS s - 1) (by omega)).2.1 (by omega), fun e => ?_, h4⟩
  subst e
  exact (hg 2 (by decide)).2.2 rfl rfl
theorem LnS.g {c : Nat → Int32} {n p s : Nat} {V : SV} (h : LnS c n V p s) : ∀ j, j < numS s → gdN V.2 c n (tE c n p) s j := fun j hj => ⟨h.2.2.2.1 j hj, fun _ => h.2.2.2.2.1, fun e _ => h.2.2.2.2.2.1 e⟩
theorem Ln_no {c : Nat → Int32} {n p s : Nat} {V : SV} (hs : s < 5) (hp : spl c (tS c n p) (tE c n p) s) (hn : ¬ LnS c n V p s) : ∀ t, t < 5 → ¬ LnS c n V p t := fun t ht q => hn (spl_u ht hs q.2.1 hp ▸ q)
/-- how far a line's numbers are read -/
def RSt (f p68 : Int) (r : Nat → Int32) (C : Nat → Nat → Int32) (c : Nat → Int32) (n p s i : Nat) : Prop := (f = 0 ∧ (∀ j, j < i → r j = nv c n p j ∧ gdN C c n p s j) ∧ p68 = (pz c n p i : Nat)) ∨ (f ≠ 0 ∧ ¬ ∀ j, j < numS s → gdN C c n p s j)
theorem RSt.ok {f p68 : Int} {r : Nat → Int32} {C : Nat → Nat → Int32} {c : Nat → Int32} {n p s i : Nat} (h : RSt f p68 r C c n p s i) (hf : f = 0) : (∀ j, j < i → r j = nv c n p j ∧ gdN C c n p s j) ∧ p68 = (pz c n p i : Nat) := by
  rcases h with h | h
  · exact h.2
  · exact absurd hf h.1
theorem RSt.no {f p68 : Int} {r : Nat → Int32} {C : Nat → Nat → Int32} {c : Nat → Int32} {n p s i : Nat} (h : RSt f p68 r C c n p s i) (hf : f ≠ 0) : ¬ ∀ j, j < numS s → gdN C c n p s j := by
  rcases h with h | h
  · exact absurd h.1 hf
  · exact h.2
theorem RSt.s {f p68 f' p68' : Int} {r r' : Nat → Int32} {C : Nat → Nat → Int32} {c : Nat → Int32} {n p s : Nat} {i i' : Int32} (h : RSt f p68 r C c n p s i.toNatClampNeg) (hf : f = 0) (h0 : 0 ≤ i.toInt) (hi : i.toInt < (numS s : Nat)) (ti : i'.toInt = i.toInt + 1) (g : (f' = 0 ∧ gdN C c n p s i.toNatClampNeg ∧ (∀ j, j < i.toNatClampNeg + 1 → r' j = nv c n p j ∧ okN c n p s j) ∧ p68' = (pz c n p (i.toNatClampNeg + 1) : Nat)) ∨ (f' ≠ 0 ∧ ¬ gdN C c n p s i.toNatClampNeg)) : RSt f' p68' r' C c n p s i'.toNatClampNeg := by
  have e1 := cl_toInt h0
  have e2 := cl_toInt (x := i') (by omega)
  rw [show i'.toNatClampNeg = i.toNatClampNeg + 1 by omega]
  have h1 := (h.ok hf).1
  rcases g with ⟨g1, g2, g3, g4⟩ | ⟨g1, g2⟩
  · refine Or.inl ⟨g1, fun j hj => ⟨(g3 j hj).1, ?_⟩, g4⟩
    by_cases e : j = i.toNatClampNeg
    · rw [e]; exact g2
    · exact (h1 j (by omega)).2
  · exact Or.inr ⟨g1, fun q => g2 (q _ (by omega))⟩
section TLC
variable {C : Nat → Nat → Int32} {a b : Nat} {v : Nat → Int32}
theorem tC_0 : tellC C 0 a b v = up2 (up2 (up2 C 13 a 1) 11 a (v 1)) 12 a (v 2) := rfl
theorem tC_1 : tellC C 1 a b v = up2 (up2 (up2 C (10 + 4 * (a + 1) + 3) b 1) (10 + 4 * (a + 1) + 1) b (v 2)) (10 + 4 * (a + 1) + 2) b (v 3) := rfl
theorem tC_2 : tellC C 2 a b v = up2 C 2 a (v 1) := rfl
theorem tC_3 : tellC C 3 a b v = up2 C 3 (8 * b + a) 1 := rfl
theorem tC_4 : tellC C 4 a b v = up2 C 4 (21 * a + b) (v 2) := rfl
end TLC
theorem tellC_nv {r v : Nat → Int32} {C : Nat → Nat → Int32} {s : Nat} (hs : s < 5) (h : ∀ j, j < numS s → r j = v j) : tellC C s (r 0).toNatClampNeg (r 1).toNatClampNeg r = tellC C s (v 0).toNatClampNeg (v 1).toNatClampNeg v := by
  rcases (show s = 0 ∨ s = 1 ∨ s = 2 ∨ s = 3 ∨ s = 4 by omega) with rfl | rfl | rfl | rfl | rfl
  · rw [tC_0, tC_0, h 0 (by decide), h 1 (by decide), h 2 (by decide)]
  · rw [tC_1, tC_1, h 0 (by decide), h 1 (by decide), h 2 (by decide), h 3 (by decide)]
  · rw [tC_2, tC_2, h 0 (by decide), h 1 (by decide)]
  · rw [tC_3, tC_3, h 0 (by decide), h 1 (by decide)]
  · rw [tC_4, tC_4, h 0 (by decide), h 1 (by decide), h 2 (by decide)]
/-- what a line's reading leaves (kept shut, so that omega passes over it) -/
def RLd (f l15 p68 : Int) (q : Nat → Nat → Int32) (sa : Nat → Nat) (c : Nat → Int32) (n : Nat) (V : SV) (p : Nat) : Prop := (f = 0 ∧ ∃ z9, z9 < 5 ∧ LnS c n V p z9 ∧ l15 = V.1 + 1 ∧ Ct q sa (LnV c n V p z9).2 ∧ p68 = (LnP c n p z9 : Nat)) ∨ (f ≠ 0 ∧ ∀ z9, z9 < 5 → ¬ LnS c n V p z9)
set_option maxHeartbeats 4000000 in
set_option maxRecDepth 100000 in
theorem c_v_X4_readLine (l : Launch) (G : Gh) (S : Pl) (rd nb tk tp tb : Nat) (tc : Nat → Int32) (tn : Nat) (sa : Nat → Nat) (V : SV) (pp : Nat) (hR : shRd S rd nb tk tp tb) (hS : shSea S sa) (hd : sdj sa) (htc : tc = tx (qI S tb) tn) (hn : (pI S 61 tp).toInt = (tn : Int)) (hz : tn ≤ 1000) (hnb : ∀ j ∈ sidR, sa j ≠ nb) (hct : Ct (qI S) sa V.2) (hln : (pI S 15 (sa 0)).toInt = V.1) (hv0 : 0 ≤ V.1 ∧ V.1 ≤ 60) (hpp : pp ≤ tn) (hTK : tokAt (pI S) tk tc tn pp) (hf0 : (pI S 22 rd).toInt = 0) : MtV l yX4_readLine cX4_readLine 4 none (Rm 6 0 0) G [.ref rd, .ref (sa 0)] S (fun (S' : Pl) => ∃ I' q', ch S I' (pJ S) q' (qJ S) = S' ∧ Fr (pI S) I' ∧ (∀ a, a ≠ nb → (∀ j ∈ sidR, a ≠ sa j) → q' a = qI S a) ∧ (∀ a, a ≠ sa 0 → I' 15 a = pI S 15 a) ∧ (0 ≤ (I' 68 tk).toInt ∧ (I' 68 tk).toInt ≤ (tn : Int)) ∧ RLd (I' 22 rd).toInt (I' 15 (sa 0)).toInt (I' 68 tk).toInt q' sa tc tn V pp) 0 0 := by
  refine MtV.of (by decide) (Nat.le_of_ble_eq_true rfl) ?_
  intro p e s m args below meth c Q A X hw hin hret ls hl
  have hx := X.1.1
  have hb := X.1.2.1
  have hl : lv_has ls 4 [(0, .ref rd), (1, .ref (sa 0))] := hl
  have hS2 := tS_le (c := tc) (n := tn) hpp
  have hE3 : tS tc tn pp ≤ tE tc tn pp ∧ tE tc tn pp ≤ tn := uE_le hS2.2
  have ntb := (ne_kind hR.2.2.2.1 hR.2.2.2.2.2.2.2.2.2.1 (by decide)).symm
  have k66 := hTK.2.2.1
  have k67 := hTK.1
  have k68 := hTK.2.1
  refine lv_aload_n hx hb dX4_readLine_0 rfl (lv_at hl 0 rfl) ?_
  refine lv_iconst (v := 2) hx hb dX4_readLine_1 (by decide) ?_
  refine k_Vi (n := 1) X hw (rcvk (ci := 4) X hw hR.1 (fun _ _ _ _ _ _ _ => ⟨_, rfl⟩) rfl) (c_v_X4_isThere l G _ rd nb tk tp tb 2 hR (by decide)) wd_r11_6 wd_r11_7 wd_r11_8 wd_r1_18 wd_r11_9 ⟨by decide, by decide, by decide +kernel⟩ rfl rfl ⟨Nat.le_of_ble_eq_true rfl, Nat.le_of_ble_eq_true rfl⟩ rfl rfl hl.1 (Nat.le_of_ble_eq_true rfl) dX4_readLine_2 ⟨Nat.le_of_ble_eq_true rfl, Nat.le_of_ble_eq_true rfl⟩ (fun r2_1 S2_3 H locs h2_2 hw => ?_)
  have := t_2
  obtain ⟨I2_4, rfl, h2_2⟩ := h2_2
  have hw : PX G A s.heap (ch S I2_4 (pJ S) (qI S) (qJ S)) H locs := hw
  have hTH : (r2_1.toInt = 1 ∧ (pI S 66 tk).toInt = (2 : Int32).toInt ∧ (I2_4 22 rd).toInt = (pI S 22 rd).toInt) ∨ (r2_1.toInt = 0 ∧ (pI S 66 tk).toInt ≠ (2 : Int32).toInt ∧ (I2_4 22 rd).toInt ≠ 0) := h2_2.2
  have HZ0 : FrZ (pI S) I2_4 := h2_2.1
  have g67 : (I2_4 67 tk).toInt = (pI S 67 tk).toInt := congrArg Int32.toInt (congrFun (HZ0 67 (by decide)) tk)
  have g68 : (I2_4 68 tk).toInt = (pI S 68 tk).toInt := congrArg Int32.toInt (congrFun (HZ0 68 (by decide)) tk)
  have g15 : I2_4 15 = pI S 15 := HZ0 15 (by decide)
  have g15t : (I2_4 15 (sa 0)).toInt = V.1 := (congrArg Int32.toInt (congrFun g15 (sa 0))).trans hln
  refine lv_if_ne (tgt := 9) hx hb dX4_readLine_5 (by decide) (fun c5_5 => ?_) (fun c5_5 => ?_)
  · have D5_5 := iNe c5_5 rfl t_0
    refine lv_aload_n hx hb dX4_readLine_9 rfl (lv_at hl 0 rfl) ?_
    refine k_Vi (n := 0) X hw (rcvk (ci := 4) X hw hR.1 (fun _ _ _ _ _ _ _ => ⟨_, rfl⟩) rfl) (c_v_X4_sortOfWord l G _ rd nb tk tp tb tc tn hR htc (FrZ.n HZ0 hn) hz (show 0 ≤ (I2_4 67 tk).toInt ∧ (I2_4 67 tk).toInt ≤ (I2_4 68 tk).toInt ∧ (I2_4 68 tk).toInt ≤ (tn : Int) by omega)) wd_r11_18 wd_r11_19 wd_r11_20 wd_r1_18 wd_r11_21 ⟨by decide, by decide, by decide +kernel⟩ rfl rfl ⟨Nat.le_of_ble_eq_true rfl, Nat.le_of_ble_eq_true rfl⟩ rfl rfl hl.1 (Nat.le_of_ble_eq_true rfl) dX4_readLine_10 ⟨Nat.le_of_ble_eq_true rfl, Nat.le_of_ble_eq_true rfl⟩ (fun r10_6 S10_8 H locs h10_7 hw => ?_)
    obtain ⟨rfl, h10_7⟩ := h10_7
    have hSR : srtA tc (tS tc tn pp) (tE tc tn pp) r10_6.toInt := srt_conv h10_7 (g67.trans k67) (g68.trans k68)
    refine lv_istore_n (lv' := [(2, .int r10_6), (0, .ref rd), (1, .ref (sa 0))]) hx hb dX4_readLine_13 rfl hl (by decide) rfl (fun ls hl => ?_)
    refine lv_iload_n hx hb dX4_readLine_14 rfl (lv_at hl 0 rfl) ?_
    refine lv_iconst (v := -1) hx hb dX4_readLine_15 (by decide) ?_
    refine lv_icmp_eq (tgt := 28) hx hb dX4_readLine_16 (by decide) (fun c16_9 => ?_) (fun c16_9 => ?_)
    · have D16_9 := iEq c16_9 rfl t_m1
      have NG : ∀ z9, z9 < 5 → ¬ LnS tc tn V pp z9 := fun z9 hs q => by first | exact absurd q.2.2.1 (by omega) | exact srt_no hSR (by omega) hs q.2.1
      refine lv_aload_n hx hb dX4_readLine_28 rfl (lv_at hl 1 rfl) ?_
      refine lv_iconst (v := 2) hx hb dX4_readLine_29 (by decide) ?_
      refine k_Vv (n := 1) X hw (rcvk (ci := 4) X hw hR.1 (fun _ _ _ _ _ _ _ => ⟨_, rfl⟩) rfl) (c_v_X4_note l G _ rd nb tk tp tb 2 hR) wd_r11_10 wd_r11_11 wd_r11_12 wd_r1_18 wd_r11_13 ⟨by decide, by decide, by decide +kernel⟩ rfl rfl ⟨Nat.le_of_ble_eq_true rfl, Nat.le_of_ble_eq_true rfl⟩ rfl rfl hl.1 (Nat.le_of_ble_eq_true rfl) dX4_readLine_30 ⟨Nat.le_of_ble_eq_true rfl, Nat.le_of_ble_eq_true rfl⟩ (fun S30_11 H locs h30_10 hw => ?_)
      have := t_2
      obtain ⟨I30_12, rfl, h30_10⟩ := h30_10
      have hw : PX G A s.heap (ch S I30_12 (pJ S) (qI S) (qJ S)) H locs := hw
      have HN : (I30_12 22 rd).toInt = (2 : Int32).toInt := congrArg Int32.toInt h30_10.2
      have n68 : (I30_12 68 tk).toInt = (I2_4 68 tk).toInt := congrArg Int32.toInt (congrFun (h30_10.1 68 (by decide)) tk)
      have n15 : I30_12 15 = pI S 15 := (h30_10.1 15 (by decide)).trans g15
      exact hret _ _ _ _ _ ⟨_, _, rfl, (Fr.tr (Fr.tr Fr.rf (h2_2.1.u.r)) (h30_10.1.u.r)), fun _ _ _ => rfl, fun a _ => congrFun n15 a, by omega, Or.inr ⟨by omega, NG⟩⟩ hw dX4_readLine_33
    · have D16_9 := iNe c16_9 rfl t_m1
      refine lv_aload_n hx hb dX4_readLine_19 rfl (lv_at hl 2 rfl) ?_
      refine k_Vi (n := 0) X hw (rcvk (ci := 3) X hw hS.1 (fun _ _ _ _ _ _ _ => ⟨_, rfl⟩) rfl) (c_X3_lines l G _ sa hS) wd_r14_3 wd_r14_4 wd_r14_5 wd_r2_9 wd_r14_6 ⟨by decide, by decide, by decide +kernel⟩ rfl rfl ⟨Nat.le_of_ble_eq_true rfl, Nat.le_of_ble_eq_true rfl⟩ rfl rfl hl.1 (Nat.le_of_ble_eq_true rfl) dX4_readLine_20 ⟨Nat.le_of_ble_eq_true rfl, Nat.le_of_ble_eq_true rfl⟩ (fun r20_13 S20_15 H locs h20_14 hw => ?_)
      obtain ⟨rfl, h20_14⟩ := h20_14
      have hlt : r20_13.toInt = (I2_4 15 (sa 0)).toInt := congrArg Int32.toInt h20_14
      refine lv_bipush (v := 60) hx hb dX4_readLine_23 (by decide) ?_
      refine lv_icmp_lt (tgt := 34) hx hb dX4_readLine_25 (by decide) (fun c25_16 => ?_) (fun c25_16 => ?_)
      · have D25_16 := iLt c25_16 rfl t_60
        have hsx := srt_y hSR (by omega)
        have hl60 : V.1 < 60 := by omega
        have hnu := numS_4 hsx.2.1
        refine lv_iconst (v := 0) hx hb dX4_readLine_34 (by decide) ?_
        refine lv_istore_n (lv' := [(3, .int 0), (2, .int r10_6), (0, .ref rd), (1, .ref (sa 0))]) hx hb dX4_readLine_35 rfl hl (by decide) rfl (fun ls hl => ?_)
        have lp36 : ∀ (N9 : Nat) (I36 : Nat → Nat → Int32) (q36 : Nat → Nat → Int32) (i : Int32), (Fr (pI S) I36) → (0 ≤ i.toInt ∧ i.toInt ≤ (numS r10_6.toNatClampNeg : Nat)) → (∀ a, a ≠ nb → q36 a = qI S a) → (FrU (pI S) I36) → (0 ≤ (I36 68 tk).toInt ∧ (I36 68 tk).toInt ≤ (tn : Int)) → (RSt (I36 22 rd).toInt (I36 68 tk).toInt (q36 nb) V.2 tc tn (tE tc tn pp) r10_6.toNatClampNeg i.toNatClampNeg) → (4 - i.toInt).toNat < N9 → ∀ (H : Heap) (locs : List Loc) (ls : Array Slot), PX G A s.heap (ch S I36 (pJ S) q36 (qJ S)) H locs → lv_has ls 4 [(3, .int i), (2, .int r10_6), (0, .ref rd), (1, .ref (sa 0))] → W p l e (Rm 6 0 0) s m args below meth c H locs 0 0 Q (F0 m 36 ls []) := by
          intro N9
          induction N9 with
          | zero => intro I36 q36 i hF hi hq hU hb9 hst hm; exact absurd hm (Nat.not_lt_zero _)
          | succ N9 ih36 =>
            intro I36 q36 i hF hi hq hU hb9 hst hm H locs ls hw hl
            refine lv_iload_n hx hb dX4_readLine_36 rfl (lv_at hl 0 rfl) ?_
            refine va_gets hx hb X.2.2.2.2.1.2.2.2.2.1.1 hw.2.2 X.1.2.2.2.1 (X.1.2.2.2.2 _ wd_r11_5) (fun _ h => h) dX4_readLine_37 ?_
            refine lv_iload_n hx hb dX4_readLine_40 rfl (lv_at hl 1 rfl) ?_
            refine va_ti hx hb X.2.2.2.2.1.2.2.2.2.1.2 hw.2.2 (vp_in_iff.mpr ⟨by omega, by omega⟩) (v := .int (skNUMBERS.getD r10_6.toNatClampNeg 0)) rfl dX4_readLine_41 ?_
            refine lv_topi (fun v41_17 e41_17 => ?_)
            have b41_17 := numb4 e41_17
            have e41n : v41_17.toInt = (numS r10_6.toNatClampNeg : Nat) := by rw [e41_17]; exact num_t hsx.2.1
            refine lv_icmp_ge (tgt := 65) hx hb dX4_readLine_42 (by decide) (fun c42_18 => ?_) (fun c42_18 => ?_)
            · have D42_18 := iLe c42_18 rfl rfl
              have g15u : I36 15 = pI S 15 := hU 15 (by decide)
              have hcli := cl_toInt (x := i) hi.1
              refine lv_aload_n hx hb dX4_readLine_65 rfl (lv_at hl 2 rfl) ?_
              refine gf_X4_28 (v := I36 22 rd) X hw hR.1 rfl dX4_readLine_66 ?_
              refine lv_if_ne (tgt := 79) hx hb dX4_readLine_69 (by decide) (fun c69_19 => ?_) (fun c69_19 => ?_)
              · have D69_19 := iNe c69_19 rfl t_0
                refine lv_aload_n hx hb dX4_readLine_79 rfl (lv_at hl 2 rfl) ?_
                refine gf_X4_28 (v := I36 22 rd) X hw hR.1 rfl dX4_readLine_80 ?_
                refine lv_if_ne (tgt := 100) hx hb dX4_readLine_83 (by decide) (fun c83_20 => ?_) (fun c83_20 => absurd c83_20 (fun h => absurd (iEq h rfl t_0) (by omega)))
                have D83_20 := iNe c83_20 rfl t_0
                have HFN : (∀ a, a ≠ nb → (∀ j ∈ sidR, a ≠ sa j) → q36 a = qI S a) ∧ (∀ a, a ≠ sa 0 → I36 15 a = pI S 15 a) ∧ (0 ≤ (I36 68 tk).toInt ∧ (I36 68 tk).toInt ≤ (tn : Int)) ∧ RLd (I36 22 rd).toInt (I36 15 (sa 0)).toInt (I36 68 tk).toInt q36 sa tc tn V pp := by first | exact ⟨fun a h1 h2 => (HTL.2.2.2.2 a h2).trans (hq a h1), fun a ha => (HTL.2.1 a ha).trans (congrFun d15 a), by omega, Or.inl ⟨by omega, r10_6.toNatClampNeg, hsx.2.1, TLS, by omega, TCt, TLP⟩⟩ | exact ⟨fun a h1 _ => hq a h1, fun a _ => congrFun d15 a, by omega, Or.inr ⟨by omega, Ln_no hsx.2.1 hsx.2.2 (fun q => absurd q.2.2.2.2.2.2 (by omega))⟩⟩ | exact ⟨fun a h1 _ => hq a h1, fun a _ => congrFun g15u a, hb9, Or.inr ⟨by omega, Ln_no hsx.2.1 hsx.2.2 (fun q => hst.no (by omega) q.g)⟩⟩ | (exfalso; omega)
                exact hret _ _ _ _ _ ⟨_, _, rfl, hF, HFN⟩ hw dX4_readLine_100
              · have D69_19 := iEq c69_19 rfl t_0
                have hs2 := hst.ok (by omega)
                have hie : i.toNatClampNeg = numS r10_6.toNatClampNeg := by omega
                rw [hie] at hs2
                refine lv_aload_n hx hb dX4_readLine_72 rfl (lv_at hl 2 rfl) ?_
                refine gf_X4_24 (b := tk) X hw hR.1 hR.2.1 dX4_readLine_73 ?_
                refine k_Vv (n := 0) X hw (rcvk (ci := 9) X hw hR.2.2.2.2.2.1 (fun _ _ _ _ _ _ _ => ⟨_, rfl⟩) rfl) (c_v_X9_readNext l G _ tk tp tb tc tn hR.2.2.2.2.2 (htc.trans (congrArg (fun r9 => tx r9 tn) (hq tb ntb).symm)) (FrU.n hU hn) hz hb9) wd_r9_4 wd_r9_5 wd_r9_6 wd_r3_2 wd_r9_7 ⟨by decide, by decide, by decide +kernel⟩ rfl rfl ⟨Nat.le_of_ble_eq_true rfl, Nat.le_of_ble_eq_true rfl⟩ rfl rfl hl.1 (Nat.le_of_ble_eq_true rfl) dX4_readLine_76 ⟨Nat.le_of_ble_eq_true rfl, Nat.le_of_ble_eq_true rfl⟩ (fun S76_22 H locs h76_21 hw => ?_)
                obtain ⟨I76_23, rfl, h76_21⟩ := h76_21
                have hw : PX G A s.heap (ch S I76_23 (pJ S) q36 (qJ S)) H locs := hw
                have hTK4 : tokAt I76_23 tk tc tn (pz tc tn (tE tc tn pp) (numS r10_6.toNatClampNeg)) := by have e : (I36 68 tk).toNatClampNeg = pz tc tn (tE tc tn pp) (numS r10_6.toNatClampNeg) := (by have := cl_toInt (x := I36 68 tk) (by omega); omega); rw [← e]; exact h76_21.2
                have k66b := hTK4.2.2.1
                have k68b := hTK4.2.1
                have hU4 := FrU.tr hU h76_21.1.u
                have b22 : (I76_23 22 rd).toInt = (I36 22 rd).toInt := congrArg Int32.toInt (congrFun (h76_21.1 22 (by decide)) rd)
                have hple := tE_le (c := tc) (pz_le (c := tc) hE3.2 (numS r10_6.toNatClampNeg))
                refine lv_aload_n hx hb dX4_readLine_79 rfl (lv_at hl 2 rfl) ?_
                refine gf_X4_28 (v := I76_23 22 rd) X hw hR.1 rfl dX4_readLine_80 ?_
                refine lv_if_ne (tgt := 100) hx hb dX4_readLine_83 (by decide) (fun c83_24 => ?_) (fun c83_24 => ?_)
                · have D83_24 := iNe c83_24 rfl t_0
                  have HFN : (∀ a, a ≠ nb → (∀ j ∈ sidR, a ≠ sa j) → q36 a = qI S a) ∧ (∀ a, a ≠ sa 0 → I76_23 15 a = pI S 15 a) ∧ (0 ≤ (I76_23 68 tk).toInt ∧ (I76_23 68 tk).toInt ≤ (tn : Int)) ∧ RLd (I76_23 22 rd).toInt (I76_23 15 (sa 0)).toInt (I76_23 68 tk).toInt q36 sa tc tn V pp := by first | exact ⟨fun a h1 h2 => (HTL.2.2.2.2 a h2).trans (hq a h1), fun a ha => (HTL.2.1 a ha).trans (congrFun d15 a), by omega, Or.inl ⟨by omega, r10_6.toNatClampNeg, hsx.2.1, TLS, by omega, TCt, TLP⟩⟩ | exact ⟨fun a h1 _ => hq a h1, fun a _ => congrFun d15 a, by omega, Or.inr ⟨by omega, Ln_no hsx.2.1 hsx.2.2 (fun q => absurd q.2.2.2.2.2.2 (by omega))⟩⟩ | exact ⟨fun a h1 _ => hq a h1, fun a _ => congrFun g15u a, hb9, Or.inr ⟨by omega, Ln_no hsx.2.1 hsx.2.2 (fun q => hst.no (by omega) q.g)⟩⟩ | (exfalso; omega)
                  exact hret _ _ _ _ _ ⟨_, _, rfl, (Fr.tr hF (h76_21.1.r)), HFN⟩ hw dX4_readLine_100
                · have D83_24 := iEq c83_24 rfl t_0
                  refine lv_aload_n hx hb dX4_readLine_86 rfl (lv_at hl 2 rfl) ?_
                  refine lv_iconst (v := 4) hx hb dX4_readLine_87 (by decide) ?_
                  refine k_Vi (n := 1) X hw (rcvk (ci := 4) X hw hR.1 (fun _ _ _ _ _ _ _ => ⟨_, rfl⟩) rfl) (c_v_X4_isThere l G _ rd nb tk tp tb 4 hR (by decide)) wd_r11_6 wd_r11_7 wd_r11_8 wd_r1_18 wd_r11_9 ⟨by decide, by decide, by decide +kernel⟩ rfl rfl ⟨Nat.le_of_ble_eq_true rfl, Nat.le_of_ble_eq_true rfl⟩ rfl rfl hl.1 (Nat.le_of_ble_eq_true rfl) dX4_readLine_88 ⟨Nat.le_of_ble_eq_true rfl, Nat.le_of_ble_eq_true rfl⟩ (fun r88_25 S88_27 H locs h88_26 hw => ?_)
                  have := t_4
                  obtain ⟨I88_28, rfl, h88_26⟩ := h88_26
                  have hw : PX G A s.heap (ch S I88_28 (pJ S) q36 (qJ S)) H locs := hw
                  have hTH4 : (r88_25.toInt = 1 ∧ (I76_23 66 tk).toInt = (4 : Int32).toInt ∧ (I88_28 22 rd).toInt = (I76_23 22 rd).toInt) ∨ (r88_25.toInt = 0 ∧ (I76_23 66 tk).toInt ≠ (4 : Int32).toInt ∧ (I88_28 22 rd).toInt ≠ 0) := h88_26.2
                  have hU5 := FrU.tr hU4 h88_26.1.u
                  have d68 : (I88_28 68 tk).toInt = (I76_23 68 tk).toInt := congrArg Int32.toInt (congrFun (h88_26.1 68 (by decide)) tk)
                  have d15 : I88_28 15 = pI S 15 := hU5 15 (by decide)
                  have d15t : (I88_28 15 (sa 0)).toInt = V.1 := (congrArg Int32.toInt (congrFun d15 (sa 0))).trans hln
                  refine lv_if_eq (tgt := 100) hx hb dX4_readLine_91 (by decide) (fun c91_29 => ?_) (fun c91_29 => ?_)
                  · have D91_29 := iEq c91_29 rfl t_0
                    have HFN : (∀ a, a ≠ nb → (∀ j ∈ sidR, a ≠ sa j) → q36 a = qI S a) ∧ (∀ a, a ≠ sa 0 → I88_28 15 a = pI S 15 a) ∧ (0 ≤ (I88_28 68 tk).toInt ∧ (I88_28 68 tk).toInt ≤ (tn : Int)) ∧ RLd (I88_28 22 rd).toInt (I88_28 15 (sa 0)).toInt (I88_28 68 tk).toInt q36 sa tc tn V pp := by first | exact ⟨fun a h1 h2 => (HTL.2.2.2.2 a h2).trans (hq a h1), fun a ha => (HTL.2.1 a ha).trans (congrFun d15 a), by omega, Or.inl ⟨by omega, r10_6.toNatClampNeg, hsx.2.1, TLS, by omega, TCt, TLP⟩⟩ | exact ⟨fun a h1 _ => hq a h1, fun a _ => congrFun d15 a, by omega, Or.inr ⟨by omega, Ln_no hsx.2.1 hsx.2.2 (fun q => absurd q.2.2.2.2.2.2 (by omega))⟩⟩ | exact ⟨fun a h1 _ => hq a h1, fun a _ => congrFun g15u a, hb9, Or.inr ⟨by omega, Ln_no hsx.2.1 hsx.2.2 (fun q => hst.no (by omega) q.g)⟩⟩ | (exfalso; omega)
                    exact hret _ _ _ _ _ ⟨_, _, rfl, (Fr.tr (Fr.tr hF (h76_21.1.r)) (h88_26.1.u.r)), HFN⟩ hw dX4_readLine_100
                  · have D91_29 := iNe c91_29 rfl t_0
                    refine lv_aload_n hx hb dX4_readLine_94 rfl (lv_at hl 2 rfl) ?_
                    refine lv_aload_n hx hb dX4_readLine_95 rfl (lv_at hl 3 rfl) ?_
                    refine lv_iload_n hx hb dX4_readLine_96 rfl (lv_at hl 1 rfl) ?_
                    refine k_Vv (n := 2) X hw (rcvk (ci := 4) X hw hR.1 (fun _ _ _ _ _ _ _ => ⟨_, rfl⟩) rfl) (c_v_X4_tell l G _ rd nb tk tp tb sa V.2 r10_6 hR hS hd (hct.kept (fun j hj => hq _ (hnb j hj))) hsx.1 (rgA_of (r := q36 nb) hsx.2.1 (fun j hj => ⟨(hs2.1 j (by omega)).1, (hs2.1 j (by omega)).2.1⟩)) (show 0 ≤ (I88_28 15 (sa 0)).toInt ∧ (I88_28 15 (sa 0)).toInt < 60 by omega)) wd_r16_15 wd_r16_16 wd_r16_17 wd_r1_18 wd_r16_18 ⟨by decide, by decide, by decide +kernel⟩ rfl rfl ⟨Nat.le_of_ble_eq_true rfl, Nat.le_of_ble_eq_true rfl⟩ rfl rfl hl.1 (Nat.le_of_ble_eq_true rfl) dX4_readLine_97 ⟨Nat.le_of_ble_eq_true rfl, Nat.le_of_ble_eq_true rfl⟩ (fun S97_31 H locs h97_30 hw => ?_)
                    obtain ⟨I97_32, q97_33, rfl, h97_30⟩ := h97_30
                    have hw : PX G A s.heap (ch S I97_32 (pJ S) q97_33 (qJ S)) H locs := hw
                    have HTL := h97_30.2
                    have T68 : (I97_32 68 tk).toInt = (I88_28 68 tk).toInt := congrArg Int32.toInt (congrFun (HTL.1 68 (by decide)) tk)
                    have T22 : (I97_32 22 rd).toInt = (I88_28 22 rd).toInt := congrArg Int32.toInt (congrFun (HTL.1 22 (by decide)) rd)
                    have T15 : (I97_32 15 (sa 0)).toInt = (I88_28 15 (sa 0)).toInt + 1 := HTL.2.2.1
                    have TCt : Ct q97_33 sa (LnV tc tn V pp r10_6.toNatClampNeg).2 := by have z := HTL.2.2.2.1; rw [tellC_nv (v := nv tc tn (tE tc tn pp)) hsx.2.1 (fun j hj => (hs2.1 j hj).1)] at z; exact z
                    have TLS : LnS tc tn V pp r10_6.toNatClampNeg := LnS_of hsx.2.1 (by omega) hsx.2.2 hl60 (fun j hj => (hs2.1 j hj).2) (by omega)
                    have TLP : (I97_32 68 tk).toInt = (LnP tc tn pp r10_6.toNatClampNeg : Nat) := by show _ = ((tE tc tn (pz tc tn (tE tc tn pp) (numS r10_6.toNatClampNeg)) : Nat) : Int); omega
                    have HFN : (∀ a, a ≠ nb → (∀ j ∈ sidR, a ≠ sa j) → q97_33 a = qI S a) ∧ (∀ a, a ≠ sa 0 → I97_32 15 a = pI S 15 a) ∧ (0 ≤ (I97_32 68 tk).toInt ∧ (I97_32 68 tk).toInt ≤ (tn : Int)) ∧ RLd (I97_32 22 rd).toInt (I97_32 15 (sa 0)).toInt (I97_32 68 tk).toInt q97_33 sa tc tn V pp := by first | exact ⟨fun a h1 h2 => (HTL.2.2.2.2 a h2).trans (hq a h1), fun a ha => (HTL.2.1 a ha).trans (congrFun d15 a), by omega, Or.inl ⟨by omega, r10_6.toNatClampNeg, hsx.2.1, TLS, by omega, TCt, TLP⟩⟩ | exact ⟨fun a h1 _ => hq a h1, fun a _ => congrFun d15 a, by omega, Or.inr ⟨by omega, Ln_no hsx.2.1 hsx.2.2 (fun q => absurd q.2.2.2.2.2.2 (by omega))⟩⟩ | exact ⟨fun a h1 _ => hq a h1, fun a _ => congrFun g15u a, hb9, Or.inr ⟨by omega, Ln_no hsx.2.1 hsx.2.2 (fun q => hst.no (by omega) q.g)⟩⟩ | (exfalso; omega)
                    exact hret _ _ _ _ _ ⟨_, _, rfl, (Fr.tr (Fr.tr (Fr.tr hF (h76_21.1.r)) (h88_26.1.u.r)) h97_30.1), HFN⟩ hw dX4_readLine_100
            · have D42_18 := iNle c42_18 rfl rfl
              refine lv_aload_n hx hb dX4_readLine_45 rfl (lv_at hl 2 rfl) ?_
              refine gf_X4_28 (v := I36 22 rd) X hw hR.1 rfl dX4_readLine_46 ?_
              refine lv_if_ne (tgt := 65) hx hb dX4_readLine_49 (by decide) (fun c49_34 => ?_) (fun c49_34 => ?_)
              · have D49_34 := iNe c49_34 rfl t_0
                have g15u : I36 15 = pI S 15 := hU 15 (by decide)
                have hcli := cl_toInt (x := i) hi.1
                refine lv_aload_n hx hb dX4_readLine_65 rfl (lv_at hl 2 rfl) ?_
                refine gf_X4_28 (v := I36 22 rd) X hw hR.1 rfl dX4_readLine_66 ?_
                refine lv_if_ne (tgt := 79) hx hb dX4_readLine_69 (by decide) (fun c69_35 => ?_) (fun c69_35 => ?_)
                · have D69_35 := iNe c69_35 rfl t_0
                  refine lv_aload_n hx hb dX4_readLine_79 rfl (lv_at hl 2 rfl) ?_
                  refine gf_X4_28 (v := I36 22 rd) X hw hR.1 rfl dX4_readLine_80 ?_
                  refine lv_if_ne (tgt := 100) hx hb dX4_readLine_83 (by decide) (fun c83_36 => ?_) (fun c83_36 => absurd c83_36 (fun h => absurd (iEq h rfl t_0) (by omega)))
                  have D83_36 := iNe c83_36 rfl t_0
                  have HFN : (∀ a, a ≠ nb → (∀ j ∈ sidR, a ≠ sa j) → q36 a = qI S a) ∧ (∀ a, a ≠ sa 0 → I36 15 a = pI S 15 a) ∧ (0 ≤ (I36 68 tk).toInt ∧ (I36 68 tk).toInt ≤ (tn : Int)) ∧ RLd (I36 22 rd).toInt (I36 15 (sa 0)).toInt (I36 68 tk).toInt q36 sa tc tn V pp := by first | exact ⟨fun a h1 h2 => (HTL.2.2.2.2 a h2).trans (hq a h1), fun a ha => (HTL.2.1 a ha).trans (congrFun d15 a), by omega, Or.inl ⟨by omega, r10_6.toNatClampNeg, hsx.2.1, TLS, by omega, TCt, TLP⟩⟩ | exact ⟨fun a h1 _ => hq a h1, fun a _ => congrFun d15 a, by omega, Or.inr ⟨by omega, Ln_no hsx.2.1 hsx.2.2 (fun q => absurd q.2.2.2.2.2.2 (by omega))⟩⟩ | exact ⟨fun a h1 _ => hq a h1, fun a _ => congrFun g15u a, hb9, Or.inr ⟨by omega, Ln_no hsx.2.1 hsx.2.2 (fun q => hst.no (by omega) q.g)⟩⟩ | (exfalso; omega)
                  exact hret _ _ _ _ _ ⟨_, _, rfl, hF, HFN⟩ hw dX4_readLine_100
                · have D69_35 := iEq c69_35 rfl t_0
                  have hs2 := hst.ok (by omega)
                  have hie : i.toNatClampNeg = numS r10_6.toNatClampNeg := by omega
                  rw [hie] at hs2
                  refine lv_aload_n hx hb dX4_readLine_72 rfl (lv_at hl 2 rfl) ?_
                  refine gf_X4_24 (b := tk) X hw hR.1 hR.2.1 dX4_readLine_73 ?_
                  refine k_Vv (n := 0) X hw (rcvk (ci := 9) X hw hR.2.2.2.2.2.1 (fun _ _ _ _ _ _ _ => ⟨_, rfl⟩) rfl) (c_v_X9_readNext l G _ tk tp tb tc tn hR.2.2.2.2.2 (htc.trans (congrArg (fun r9 => tx r9 tn) (hq tb ntb).symm)) (FrU.n hU hn) hz hb9) wd_r9_4 wd_r9_5 wd_r9_6 wd_r3_2 wd_r9_7 ⟨by decide, by decide, by decide +kernel⟩ rfl rfl ⟨Nat.le_of_ble_eq_true rfl, Nat.le_of_ble_eq_true rfl⟩ rfl rfl hl.1 (Nat.le_of_ble_eq_true rfl) dX4_readLine_76 ⟨Nat.le_of_ble_eq_true rfl, Nat.le_of_ble_eq_true rfl⟩ (fun S76_38 H locs h76_37 hw => ?_)
                  obtain ⟨I76_39, rfl, h76_37⟩ := h76_37
                  have hw : PX G A s.heap (ch S I76_39 (pJ S) q36 (qJ S)) H locs := hw
                  have hTK4 : tokAt I76_39 tk tc tn (pz tc tn (tE tc tn pp) (numS r10_6.toNatClampNeg)) := by have e : (I36 68 tk).toNatClampNeg = pz tc tn (tE tc tn pp) (numS r10_6.toNatClampNeg) := (by have := cl_toInt (x := I36 68 tk) (by omega); omega); rw [← e]; exact h76_37.2
                  have k66b := hTK4.2.2.1
                  have k68b := hTK4.2.1
                  have hU4 := FrU.tr hU h76_37.1.u
                  have b22 : (I76_39 22 rd).toInt = (I36 22 rd).toInt := congrArg Int32.toInt (congrFun (h76_37.1 22 (by decide)) rd)
                  have hple := tE_le (c := tc) (pz_le (c := tc) hE3.2 (numS r10_6.toNatClampNeg))
                  refine lv_aload_n hx hb dX4_readLine_79 rfl (lv_at hl 2 rfl) ?_
                  refine gf_X4_28 (v := I76_39 22 rd) X hw hR.1 rfl dX4_readLine_80 ?_
                  refine lv_if_ne (tgt := 100) hx hb dX4_readLine_83 (by decide) (fun c83_40 => ?_) (fun c83_40 => ?_)
                  · have D83_40 := iNe c83_40 rfl t_0
                    have HFN : (∀ a, a ≠ nb → (∀ j ∈ sidR, a ≠ sa j) → q36 a = qI S a) ∧ (∀ a, a ≠ sa 0 → I76_39 15 a = pI S 15 a) ∧ (0 ≤ (I76_39 68 tk).toInt ∧ (I76_39 68 tk).toInt ≤ (tn : Int)) ∧ RLd (I76_39 22 rd).toInt (I76_39 15 (sa 0)).toInt (I76_39 68 tk).toInt q36 sa tc tn V pp := by first | exact ⟨fun a h1 h2 => (HTL.2.2.2.2 a h2).trans (hq a h1), fun a ha => (HTL.2.1 a ha).trans (congrFun d15 a), by omega, Or.inl ⟨by omega, r10_6.toNatClampNeg, hsx.2.1, TLS, by omega, TCt, TLP⟩⟩ | exact ⟨fun a h1 _ => hq a h1, fun a _ => congrFun d15 a, by omega, Or.inr ⟨by omega, Ln_no hsx.2.1 hsx.2.2 (fun q => absurd q.2.2.2.2.2.2 (by omega))⟩⟩ | exact ⟨fun a h1 _ => hq a h1, fun a _ => congrFun g15u a, hb9, Or.inr ⟨by omega, Ln_no hsx.2.1 hsx.2.2 (fun q => hst.no (by omega) q.g)⟩⟩ | (exfalso; omega)
                    exact hret _ _ _ _ _ ⟨_, _, rfl, (Fr.tr hF (h76_37.1.r)), HFN⟩ hw dX4_readLine_100
                  · have D83_40 := iEq c83_40 rfl t_0
                    refine lv_aload_n hx hb dX4_readLine_86 rfl (lv_at hl 2 rfl) ?_
                    refine lv_iconst (v := 4) hx hb dX4_readLine_87 (by decide) ?_
                    refine k_Vi (n := 1) X hw (rcvk (ci := 4) X hw hR.1 (fun _ _ _ _ _ _ _ => ⟨_, rfl⟩) rfl) (c_v_X4_isThere l G _ rd nb tk tp tb 4 hR (by decide)) wd_r11_6 wd_r11_7 wd_r11_8 wd_r1_18 wd_r11_9 ⟨by decide, by decide, by decide +kernel⟩ rfl rfl ⟨Nat.le_of_ble_eq_true rfl, Nat.le_of_ble_eq_true rfl⟩ rfl rfl hl.1 (Nat.le_of_ble_eq_true rfl) dX4_readLine_88 ⟨Nat.le_of_ble_eq_true rfl, Nat.le_of_ble_eq_true rfl⟩ (fun r88_41 S88_43 H locs h88_42 hw => ?_)
                    have := t_4
                    obtain ⟨I88_44, rfl, h88_42⟩ := h88_42
                    have hw : PX G A s.heap (ch S I88_44 (pJ S) q36 (qJ S)) H locs := hw
                    have hTH4 : (r88_41.toInt = 1 ∧ (I76_39 66 tk).toInt = (4 : Int32).toInt ∧ (I88_44 22 rd).toInt = (I76_39 22 rd).toInt) ∨ (r88_41.toInt = 0 ∧ (I76_39 66 tk).toInt ≠ (4 : Int32).toInt ∧ (I88_44 22 rd).toInt ≠ 0) := h88_42.2
                    have hU5 := FrU.tr hU4 h88_42.1.u
                    have d68 : (I88_44 68 tk).toInt = (I76_39 68 tk).toInt := congrArg Int32.toInt (congrFun (h88_42.1 68 (by decide)) tk)
                    have d15 : I88_44 15 = pI S 15 := hU5 15 (by decide)
                    have d15t : (I88_44 15 (sa 0)).toInt = V.1 := (congrArg Int32.toInt (congrFun d15 (sa 0))).trans hln
                    refine lv_if_eq (tgt := 100) hx hb dX4_readLine_91 (by decide) (fun c91_45 => ?_) (fun c91_45 => ?_)
                    · have D91_45 := iEq c91_45 rfl t_0
                      have HFN : (∀ a, a ≠ nb → (∀ j ∈ sidR, a ≠ sa j) → q36 a = qI S a) ∧ (∀ a, a ≠ sa 0 → I88_44 15 a = pI S 15 a) ∧ (0 ≤ (I88_44 68 tk).toInt ∧ (I88_44 68 tk).toInt ≤ (tn : Int)) ∧ RLd (I88_44 22 rd).toInt (I88_44 15 (sa 0)).toInt (I88_44 68 tk).toInt q36 sa tc tn V pp := by first | exact ⟨fun a h1 h2 => (HTL.2.2.2.2 a h2).trans (hq a h1), fun a ha => (HTL.2.1 a ha).trans (congrFun d15 a), by omega, Or.inl ⟨by omega, r10_6.toNatClampNeg, hsx.2.1, TLS, by omega, TCt, TLP⟩⟩ | exact ⟨fun a h1 _ => hq a h1, fun a _ => congrFun d15 a, by omega, Or.inr ⟨by omega, Ln_no hsx.2.1 hsx.2.2 (fun q => absurd q.2.2.2.2.2.2 (by omega))⟩⟩ | exact ⟨fun a h1 _ => hq a h1, fun a _ => congrFun g15u a, hb9, Or.inr ⟨by omega, Ln_no hsx.2.1 hsx.2.2 (fun q => hst.no (by omega) q.g)⟩⟩ | (exfalso; omega)
                      exact hret _ _ _ _ _ ⟨_, _, rfl, (Fr.tr (Fr.tr hF (h76_37.1.r)) (h88_42.1.u.r)), HFN⟩ hw dX4_readLine_100
                    · have D91_45 := iNe c91_45 rfl t_0
                      refine lv_aload_n hx hb dX4_readLine_94 rfl (lv_at hl 2 rfl) ?_
                      refine lv_aload_n hx hb dX4_readLine_95 rfl (lv_at hl 3 rfl) ?_
                      refine lv_iload_n hx hb dX4_readLine_96 rfl (lv_at hl 1 rfl) ?_
                      refine k_Vv (n := 2) X hw (rcvk (ci := 4) X hw hR.1 (fun _ _ _ _ _ _ _ => ⟨_, rfl⟩) rfl) (c_v_X4_tell l G _ rd nb tk tp tb sa V.2 r10_6 hR hS hd (hct.kept (fun j hj => hq _ (hnb j hj))) hsx.1 (rgA_of (r := q36 nb) hsx.2.1 (fun j hj => ⟨(hs2.1 j (by omega)).1, (hs2.1 j (by omega)).2.1⟩)) (show 0 ≤ (I88_44 15 (sa 0)).toInt ∧ (I88_44 15 (sa 0)).toInt < 60 by omega)) wd_r16_15 wd_r16_16 wd_r16_17 wd_r1_18 wd_r16_18 ⟨by decide, by decide, by decide +kernel⟩ rfl rfl ⟨Nat.le_of_ble_eq_true rfl, Nat.le_of_ble_eq_true rfl⟩ rfl rfl hl.1 (Nat.le_of_ble_eq_true rfl) dX4_readLine_97 ⟨Nat.le_of_ble_eq_true rfl, Nat.le_of_ble_eq_true rfl⟩ (fun S97_47 H locs h97_46 hw => ?_)
                      obtain ⟨I97_48, q97_49, rfl, h97_46⟩ := h97_46
                      have hw : PX G A s.heap (ch S I97_48 (pJ S) q97_49 (qJ S)) H locs := hw
                      have HTL := h97_46.2
                      have T68 : (I97_48 68 tk).toInt = (I88_44 68 tk).toInt := congrArg Int32.toInt (congrFun (HTL.1 68 (by decide)) tk)
                      have T22 : (I97_48 22 rd).toInt = (I88_44 22 rd).toInt := congrArg Int32.toInt (congrFun (HTL.1 22 (by decide)) rd)
                      have T15 : (I97_48 15 (sa 0)).toInt = (I88_44 15 (sa 0)).toInt + 1 := HTL.2.2.1
                      have TCt : Ct q97_49 sa (LnV tc tn V pp r10_6.toNatClampNeg).2 := by have z := HTL.2.2.2.1; rw [tellC_nv (v := nv tc tn (tE tc tn pp)) hsx.2.1 (fun j hj => (hs2.1 j hj).1)] at z; exact z
                      have TLS : LnS tc tn V pp r10_6.toNatClampNeg := LnS_of hsx.2.1 (by omega) hsx.2.2 hl60 (fun j hj => (hs2.1 j hj).2) (by omega)
                      have TLP : (I97_48 68 tk).toInt = (LnP tc tn pp r10_6.toNatClampNeg : Nat) := by show _ = ((tE tc tn (pz tc tn (tE tc tn pp) (numS r10_6.toNatClampNeg)) : Nat) : Int); omega
                      have HFN : (∀ a, a ≠ nb → (∀ j ∈ sidR, a ≠ sa j) → q97_49 a = qI S a) ∧ (∀ a, a ≠ sa 0 → I97_48 15 a = pI S 15 a) ∧ (0 ≤ (I97_48 68 tk).toInt ∧ (I97_48 68 tk).toInt ≤ (tn : Int)) ∧ RLd (I97_48 22 rd).toInt (I97_48 15 (sa 0)).toInt (I97_48 68 tk).toInt q97_49 sa tc tn V pp := by first | exact ⟨fun a h1 h2 => (HTL.2.2.2.2 a h2).trans (hq a h1), fun a ha => (HTL.2.1 a ha).trans (congrFun d15 a), by omega, Or.inl ⟨by omega, r10_6.toNatClampNeg, hsx.2.1, TLS, by omega, TCt, TLP⟩⟩ | exact ⟨fun a h1 _ => hq a h1, fun a _ => congrFun d15 a, by omega, Or.inr ⟨by omega, Ln_no hsx.2.1 hsx.2.2 (fun q => absurd q.2.2.2.2.2.2 (by omega))⟩⟩ | exact ⟨fun a h1 _ => hq a h1, fun a _ => congrFun g15u a, hb9, Or.inr ⟨by omega, Ln_no hsx.2.1 hsx.2.2 (fun q => hst.no (by omega) q.g)⟩⟩ | (exfalso; omega)
                      exact hret _ _ _ _ _ ⟨_, _, rfl, (Fr.tr (Fr.tr (Fr.tr hF (h76_37.1.r)) (h88_42.1.u.r)) h97_46.1), HFN⟩ hw dX4_readLine_100
              · have D49_34 := iEq c49_34 rfl t_0
                have hs1 := hst.ok (by omega)
                refine lv_aload_n hx hb dX4_readLine_52 rfl (lv_at hl 2 rfl) ?_
                refine lv_aload_n hx hb dX4_readLine_53 rfl (lv_at hl 3 rfl) ?_
                refine lv_iload_n hx hb dX4_readLine_54 rfl (lv_at hl 1 rfl) ?_
                refine lv_iload_n hx hb dX4_readLine_55 rfl (lv_at hl 0 rfl) ?_
                refine k_Vv (n := 3) X hw (rcvk (ci := 4) X hw hR.1 (fun _ _ _ _ _ _ _ => ⟨_, rfl⟩) rfl) (c_v_X4_readNumber l G _ rd nb tk tp tb tc tn sa V.2 (tE tc tn pp) r10_6 i hR hS (htc.trans (congrArg (fun r9 => tx r9 tn) (hq tb ntb).symm)) (FrU.n hU hn) hz (hct.kept (fun j hj => hq _ (hnb j hj))) hsx.1 hnb ⟨hi.1, by omega⟩ hE3.2 hs1.2 (by omega) (fun j hj => ⟨(hs1.1 j hj).1, (hs1.1 j hj).2.1⟩)) wd_r14_7 wd_r14_8 wd_r14_9 wd_r1_18 wd_r14_10 ⟨by decide, by decide, by decide +kernel⟩ rfl rfl ⟨Nat.le_of_ble_eq_true rfl, Nat.le_of_ble_eq_true rfl⟩ rfl rfl hl.1 (Nat.le_of_ble_eq_true rfl) dX4_readLine_56 ⟨Nat.le_of_ble_eq_true rfl, Nat.le_of_ble_eq_true rfl⟩ (fun S56_51 H locs h56_50 hw => ?_)
                obtain ⟨I56_52, q56_53, rfl, h56_50⟩ := h56_50
                have hw : PX G A s.heap (ch S I56_52 (pJ S) q56_53 (qJ S)) H locs := hw
                have HNU := h56_50
                obtain ⟨v59_54, e59_54⟩ : ∃ y : Int32, y = i + 1 := ⟨_, rfl⟩
                have t59_54 := iAdd e59_54 rfl t_1 (by omega) (by omega)
                have t59 := t59_54
                refine lv_iinc (v := v59_54) (lv' := [(3, .int v59_54), (2, .int r10_6), (0, .ref rd), (1, .ref (sa 0))]) hx hb dX4_readLine_59 hl (k := 0) rfl (by rw [e59_54]; rfl) (by decide) rfl (fun ls hl => ?_)
                refine lv_goto (tgt := 36) hx hb dX4_readLine_62 (by decide) ?_
                exact ih36 I56_52 q56_53 v59_54 (Fr.tr hF (h56_50.1.r)) (by omega) (fun a ha => (HNU.2.1 a ha).trans (hq a ha)) (FrU.tr hU HNU.1) HNU.2.2.1 (hst.s (by omega) hi.1 (by omega) t59 HNU.2.2.2) (by omega) _ _ _ hw (lv_sub hl [0, 1, 2, 3] rfl)
        exact lp36 _ I2_4 (qI S) 0 (Fr.tr Fr.rf (h2_2.1.u.r)) (by have := t_0; omega) (fun _ _ => rfl) HZ0.u (by omega) (Or.inl ⟨by omega, fun j h => absurd h (by rw [show (0 : Int32).toNatClampNeg = 0 by decide]; omega), by rw [show (0 : Int32).toNatClampNeg = 0 by decide]; show _ = ((tE tc tn pp : Nat) : Int); omega⟩) (Nat.lt_succ_self _) _ _ _ hw (lv_sub hl [0, 1, 2, 3] rfl)
      · have D25_16 := iNlt c25_16 rfl t_60
        have NG : ∀ z9, z9 < 5 → ¬ LnS tc tn V pp z9 := fun z9 hs q => by first | exact absurd q.2.2.1 (by omega) | exact srt_no hSR (by omega) hs q.2.1
        refine lv_aload_n hx hb dX4_readLine_28 rfl (lv_at hl 1 rfl) ?_
        refine lv_iconst (v := 2) hx hb dX4_readLine_29 (by decide) ?_
        refine k_Vv (n := 1) X hw (rcvk (ci := 4) X hw hR.1 (fun _ _ _ _ _ _ _ => ⟨_, rfl⟩) rfl) (c_v_X4_note l G _ rd nb tk tp tb 2 hR) wd_r11_10 wd_r11_11 wd_r11_12 wd_r1_18 wd_r11_13 ⟨by decide, by decide, by decide +kernel⟩ rfl rfl ⟨Nat.le_of_ble_eq_true rfl, Nat.le_of_ble_eq_true rfl⟩ rfl rfl hl.1 (Nat.le_of_ble_eq_true rfl) dX4_readLine_30 ⟨Nat.le_of_ble_eq_true rfl, Nat.le_of_ble_eq_true rfl⟩ (fun S30_56 H locs h30_55 hw => ?_)
        have := t_2
        obtain ⟨I30_57, rfl, h30_55⟩ := h30_55
        have hw : PX G A s.heap (ch S I30_57 (pJ S) (qI S) (qJ S)) H locs := hw
        have HN : (I30_57 22 rd).toInt = (2 : Int32).toInt := congrArg Int32.toInt h30_55.2
        have n68 : (I30_57 68 tk).toInt = (I2_4 68 tk).toInt := congrArg Int32.toInt (congrFun (h30_55.1 68 (by decide)) tk)
        have n15 : I30_57 15 = pI S 15 := (h30_55.1 15 (by decide)).trans g15
        exact hret _ _ _ _ _ ⟨_, _, rfl, (Fr.tr (Fr.tr Fr.rf (h2_2.1.u.r)) (h30_55.1.u.r)), fun _ _ _ => rfl, fun a _ => congrFun n15 a, by omega, Or.inr ⟨by omega, NG⟩⟩ hw dX4_readLine_33
  · have D5_5 := iEq c5_5 rfl t_0
    exact hret _ _ _ _ _ ⟨_, _, rfl, (Fr.tr Fr.rf (h2_2.1.u.r)), fun _ _ _ => rfl, fun a _ => congrFun g15 a, by omega, Or.inr ⟨by omega, fun z9 _ q => absurd q.1 (by omega)⟩⟩ hw dX4_readLine_8
