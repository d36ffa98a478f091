
section PRWV
variable {p : Program} {l : Launch} {e : Env} {R : Room} {s : State} {m : MethodId} {args : Array Value} {below : List Frame} {meth : Method} {c : Code} {H : Heap} {locs : List Loc} {cells slots : Nat} {Q : State → Prop}
variable {cc : ByteArray} {nL : Nat} {ret : Option FieldType} {own : String} {G : Gh} {A : Nat → Prop} {S : Pl} {pc : Nat} {ls : Array Slot} {rest : List Value} {a : Nat}
theorem kp_wgV {b ta tm : Nat} {sa : Nat → Nat} {F : Nat → D3} {V : SV} {p7 : PP} (X : Cx p s m args meth c cc nL ret RX10 G A) (hw : PX G A s.heap S H locs) (hk : is S 0 b ∨ is S 4 b) (hA : shTale S ta tm) (hS : shSea S sa) (hmk : ∀ j, j ≤ 72 → qI S tm j = mrk (F j)) (hok : ∀ j, okD (F j)) (hct : Ct (qI S) sa (stl V.2)) (hpf : pfR S b p7) (hmm : 0 ≤ p7.1.toInt ∧ p7.1.toInt ≤ 72) (hR : 4 ≤ R.frames ∧ 144 ≤ R.locals) (hls : ls.size = nL) (hW : (rest.map fun v => v.category).sum ≤ 8) (hdg : decode cc pc = .ok (.invokevirtual 218, 3)) (hf : cells ≤ R.cells ∧ slots ≤ R.slots)
    (kk : ∀ (r : Int32) (H1 : Heap) (locs1 : List Loc), r = wgh V.2 (F p7.1.toNatClampNeg) p7 → PX G A s.heap S H1 locs1 → W p l e R s m args below meth c H1 locs1 cells slots Q (F0 m (pc + 3) ls (.int r :: rest))) : W p l e R s m args below meth c H locs cells slots Q (F0 m pc ls (.ref (sa 0) :: .ref ta :: .ref b :: rest)) := by
  have fin : ∀ (r : Int32) (S' : Pl) (H1 : Heap) (locs1 : List Loc), (S = S' ∧ r = wgh V.2 (F p7.1.toNatClampNeg) p7) → PX G A s.heap S' H1 locs1 → W p l e R s m args below meth c H1 locs1 (cells + 0) (slots + 0) Q (F0 m (pc + 3) ls (.int r :: rest)) := fun r S' H1 locs1 hp hw1 => by
    obtain ⟨rfl, hv⟩ := hp
    exact kk r H1 locs1 hv hw1
  have hE := X.2.2.2.2.1
  rcases hk with h | h
  · have hz := hpf.resolve_left (fun z => absurd (z.1.symm.trans h.2) (by decide))
    exact k_Ui (As := [.ref ta, .ref (sa 0)]) (n := 2) (x := ⟨"DriftDesk$Proof", "weighing", "(LDriftDesk$Tale;LDriftDesk$Sea;)I"⟩) (owner := "DriftDesk$Proof") X hw (rcP X hw h) (c_v_X0_weighing l G S b ta tm sa F V p7 h hA hS hmk hok hct hmm ⟨hz.2.1, hz.2.2.1, hz.2.2.2.1, hz.2.2.2.2.1, hz.2.2.2.2.2.2.1, hz.2.2.2.2.2.2.2.1⟩ hz.2.2.2.2.2.2.2.2) (gd_U wd_r36_11 wd_r36_12 wd_r36_13 wd_r36_14 wd_r34_11 wd_r36_15) (Or.inr hE.2.2.1.1) ⟨by decide, by decide, by decide +kernel⟩ rfl rfl ⟨Nat.le_trans (by decide) hR.1, Nat.le_trans (by decide) hR.2⟩ rfl rfl hls hW hdg hf fin
  · have hz := hpf.resolve_right (fun z => absurd (z.1.symm.trans h.2) (by decide))
    exact k_Ui (As := [.ref ta, .ref (sa 0)]) (n := 2) (x := ⟨"DriftDesk$Proof", "weighing", "(LDriftDesk$Tale;LDriftDesk$Sea;)I"⟩) (owner := "DriftDesk$Proof") X hw (rcQ X hw h) (c_v_X5_weighing l G S b ta tm sa F V p7 h hA hS hmk hok hct hmm ⟨hz.2.1, hz.2.2.1, hz.2.2.2.1, hz.2.2.2.2.1, hz.2.2.2.2.2.1, hz.2.2.2.2.2.2.1, hz.2.2.2.2.2.2.2.1⟩ hz.2.2.2.2.2.2.2.2) (gd_U wd_r36_11 wd_r36_12 wd_r36_20 wd_r36_21 wd_r32_9 wd_r36_22) (Or.inr hE.2.2.1.1) ⟨by decide, by decide, by decide +kernel⟩ rfl rfl ⟨Nat.le_trans (by decide) hR.1, Nat.le_trans (by decide) hR.2⟩ rfl rfl hls hW hdg hf fin
end PRWV
set_option maxHeartbeats 4000000 in
set_option maxRecDepth 100000 in
theorem c_v_X10_oddsOf (l : Launch) (G : Gh) (S : Pl) (d sa sb sp te tm pe : Nat → Nat) (tf pf nt np : Nat) (j : Nat) (V : SV) (tl : Nat → TP) (pl : Nat → PP) (hC : CIs G S d sa sb sp te tm pe tf pf nt np) (hN : CIn (pI S) d te pe nt np) (hj : j < nt) (hct : Ct (qI S) sa (stl V.2)) (hTV : TV S te tm nt tl V) (hPV : PV S pe np pl) : MtL l yX10_oddsOf cX10_oddsOf 6 (some .long) (Rm 4 0 0) G [.ref (d 0), .ref (te j)] S (fun (r : Int64) (S' : Pl) => S = S' ∧ r = odF V.2 (tl j) pl (fun k => pI S 0 (pe k)) np) 0 0 := by
  refine MtL.of (by decide) (Nat.le_of_ble_eq_true rfl) ?_
  intro p e s m args below meth c Q A X hw hin hret ls hl
  have hx := X.1.1
  have hb := X.1.2.1
  have hl : lv_has ls 6 [(0, .ref (d 0)), (1, .ref (te j))] := hl
  obtain ⟨k0, r70, r71, r72, r73, r74, r75, r76, r77, hR, hS, hB, hSp, ⟨kco, nco⟩, lT, lP, n68, n79, hTl, hPk, hPi, n40⟩ := id hC
  obtain ⟨z92, z93, zw, zz, zst, zs6⟩ := id hN
  have hTp := hR.2.2.2.2.2.2.2
  have n60 := lP.2.2.1
  have oS := hS
  have oTp := hTp
  have oPk := hPk
  refine lv_aload_n hx hb dX10_oddsOf_0 rfl (lv_at hl 1 rfl) ?_
  refine k_Vi (n := 0) X hw (rcvk (ci := 7) X hw (hTl _ hj).1 (fun _ _ _ _ _ _ _ => ⟨_, rfl⟩) rfl) (c_X7_weight l G _ (te j) (tm j) (hTl _ hj)) wd_r36_7 wd_r36_8 wd_r36_9 wd_r18_22 wd_r36_10 ⟨by decide, by decide, by decide +kernel⟩ rfl rfl ⟨Nat.le_of_ble_eq_true rfl, Nat.le_of_ble_eq_true rfl⟩ rfl rfl hl.1 (Nat.le_of_ble_eq_true rfl) dX10_oddsOf_1 ⟨Nat.le_of_ble_eq_true rfl, Nat.le_of_ble_eq_true rfl⟩ (fun r1_1 S1_3 H locs h1_2 hw => ?_)
  obtain ⟨rfl, h1_2⟩ := h1_2
  have hw1 := h1_2
  refine lv_i2l hx hb dX10_oddsOf_4 rfl ?_
  refine lv_topl (fun v4_4 e4_4 => ?_)
  have e4n := e4_4
  refine lv_lstore_n (lv' := [(2, .long v4_4), (0, .ref (d 0)), (1, .ref (te j))]) hx hb dX10_oddsOf_5 rfl hl (by decide) rfl (fun ls hl => ?_)
  refine lv_iconst (v := 0) hx hb dX10_oddsOf_6 (by decide) ?_
  refine lv_istore (lv' := [(4, .int 0), (2, .long v4_4), (0, .ref (d 0)), (1, .ref (te j))]) hx hb dX10_oddsOf_7 hl (by decide) rfl (fun ls hl => ?_)
  have lp9 : ∀ (N9 : Nat) (u : Int64) (i : Int32), (0 ≤ i.toInt ∧ i.toInt ≤ (np : Int)) → (u = odF V.2 (tl j) pl (fun k => pI S 0 (pe k)) i.toNatClampNeg) → (60 - i.toInt).toNat < N9 → ∀ (H : Heap) (locs : List Loc) (ls : Array Slot), PX G A s.heap S H locs → lv_has ls 6 [(4, .int i), (2, .long u), (0, .ref (d 0)), (1, .ref (te j))] → W p l e (Rm 4 0 0) s m args below meth c H locs 0 0 Q (F0 m 9 ls []) := by
    intro N9
    induction N9 with
    | zero => intro u i hi hod hm; exact absurd hm (Nat.not_lt_zero _)
    | succ N9 ih9 =>
      intro u i hi hod hm H locs ls hw hl
      refine lv_iload hx hb dX10_oddsOf_9 (lv_at hl 0 rfl) ?_
      refine lv_aload_n hx hb dX10_oddsOf_11 rfl (lv_at hl 2 rfl) ?_
      refine gf_X10_32 (b := (d 8)) X hw k0 r73 dX10_oddsOf_12 ?_
      refine k_Vi (n := 0) X hw (rcvk (ci := 0) X hw lP.1 (fun _ _ _ _ _ _ _ => ⟨_, rfl⟩) rfl) (c_Jx4a65c_size_8abf5 l G _ (d 8) lP.1) wd_r18_1 wd_r18_2 wd_r18_3 wd_r1_22 wd_r18_4 ⟨by decide, by decide, by decide +kernel⟩ rfl rfl ⟨Nat.le_of_ble_eq_true rfl, Nat.le_of_ble_eq_true rfl⟩ rfl rfl hl.1 (Nat.le_of_ble_eq_true rfl) dX10_oddsOf_15 ⟨Nat.le_of_ble_eq_true rfl, Nat.le_of_ble_eq_true rfl⟩ (fun r15_5 S15_7 H locs h15_6 hw => ?_)
      obtain ⟨rfl, h15_6⟩ := h15_6
      have h15_6t : r15_5.toInt = ((pI S) 92 (d 8)).toInt := congrArg Int32.toInt h15_6
      refine lv_icmp_ge (tgt := 63) hx hb dX10_oddsOf_18 (by decide) (fun c18_8 => ?_) (fun c18_8 => ?_)
      · have D18_8 := iLe c18_8 rfl rfl
        refine lv_lload_n hx hb dX10_oddsOf_63 rfl (lv_at hl 1 rfl) ?_
        exact hret u _ _ _ _ _ ⟨rfl, by rw [hod, show i.toNatClampNeg = np by have := cl_toInt (x := i) hi.1; omega]⟩ hw dX10_oddsOf_64
      · have D18_8 := iNle c18_8 rfl rfl
        refine lv_aload_n hx hb dX10_oddsOf_21 rfl (lv_at hl 2 rfl) ?_
        refine gf_X10_32 (b := (d 8)) X hw k0 r73 dX10_oddsOf_22 ?_
        refine lv_iload hx hb dX10_oddsOf_25 (lv_at hl 0 rfl) ?_
        refine k_Vq (n := 1) X hw (rcvk (ci := 0) X hw lP.1 (fun _ _ _ _ _ _ _ => ⟨_, rfl⟩) rfl) (c_Jx4a65c_get_915e3 l G _ (d 8) (d 9) pf np pe i (lP.sh z93) (by omega)) wd_r18_6 wd_r18_7 wd_r18_8 wd_r1_22 wd_r18_9 ⟨by decide, by decide, by decide +kernel⟩ rfl rfl ⟨Nat.le_of_ble_eq_true rfl, Nat.le_of_ble_eq_true rfl⟩ rfl rfl hl.1 (Nat.le_of_ble_eq_true rfl) dX10_oddsOf_27 ⟨Nat.le_of_ble_eq_true rfl, Nat.le_of_ble_eq_true rfl⟩ (fun r27_9 S27_11 H locs h27_10 hw => ?_)
        obtain ⟨rfl, rfl⟩ := h27_10
        have hik : i.toNatClampNeg < np := clt (by omega) (by omega)
        refine q_castP X hw (hPk _ hik) dX10_oddsOf_30 ?_
        refine lv_astore (lv' := [(5, .ref (pe i.toNatClampNeg)), (4, .int i), (2, .long u), (0, .ref (d 0)), (1, .ref (te j))]) hx hb dX10_oddsOf_33 hl (by decide) rfl (fun ls hl => ?_)
        refine lv_aload hx hb dX10_oddsOf_35 (lv_at hl 0 rfl) ?_
        refine kp_st X hw (hPk _ hik) ⟨Nat.le_of_ble_eq_true rfl, Nat.le_of_ble_eq_true rfl⟩ hl.1 (Nat.le_of_ble_eq_true rfl) dX10_oddsOf_37 ⟨Nat.le_of_ble_eq_true rfl, Nat.le_of_ble_eq_true rfl⟩ (fun r37 H locs h37 hw => ?_)
        rcases h37 with ⟨rfl, h37⟩ | ⟨rfl, h37⟩
        · have hBK : (fun k => pI S 0 (pe k)) i.toNatClampNeg = 0 := Int32.toInt_inj.mp (h37.trans (by decide))
          refine lv_if_eq (tgt := 57) hx hb dX10_oddsOf_40 (by decide) (fun c40_12 => absurd c40_12 (by decide)) (fun c40_12 => ?_)
          refine lv_lload_n hx hb dX10_oddsOf_43 rfl (lv_at hl 2 rfl) ?_
          refine lv_aload hx hb dX10_oddsOf_44 (lv_at hl 0 rfl) ?_
          refine lv_aload_n hx hb dX10_oddsOf_46 rfl (lv_at hl 4 rfl) ?_
          refine lv_aload_n hx hb dX10_oddsOf_47 rfl (lv_at hl 3 rfl) ?_
          refine gf_X10_49 (b := (sa 0)) X hw k0 r76 dX10_oddsOf_48 ?_
          refine kp_wgV X hw (hPk _ hik) (hTl _ hj) hS (hTV.1 _ hj).2.2 (drA_ok (hTV.1 _ hj).2.1) hct (hPV _ hik).1 (hPV _ hik).2 ⟨Nat.le_of_ble_eq_true rfl, Nat.le_of_ble_eq_true rfl⟩ hl.1 (Nat.le_of_ble_eq_true rfl) dX10_oddsOf_51 ⟨Nat.le_of_ble_eq_true rfl, Nat.le_of_ble_eq_true rfl⟩ (fun r51 H locs hWG9 hw => ?_)
          refine lv_i2l hx hb dX10_oddsOf_54 rfl ?_
          refine lv_topl (fun v54_13 e54_13 => ?_)
          have e54n := e54_13
          refine lv_lmul hx hb dX10_oddsOf_55 ?_
          refine lv_topl (fun v55_14 e55_14 => ?_)
          have e55n := e55_14
          refine lv_lstore_n (lv' := [(2, .long v55_14), (5, .ref (pe i.toNatClampNeg)), (4, .int i), (0, .ref (d 0)), (1, .ref (te j))]) hx hb dX10_oddsOf_56 rfl hl (by decide) rfl (fun ls hl => ?_)
          obtain ⟨v57_15, e57_15⟩ : ∃ y : Int32, y = i + 1 := ⟨_, rfl⟩
          have t57_15 := iAdd e57_15 rfl t_1 (by omega) (by omega)
          have t57 := t57_15
          refine lv_iinc (v := v57_15) (lv' := [(4, .int v57_15), (2, .long v55_14), (5, .ref (pe i.toNatClampNeg)), (0, .ref (d 0)), (1, .ref (te j))]) hx hb dX10_oddsOf_57 hl (k := 2) rfl (by rw [e57_15]; rfl) (by decide) rfl (fun ls hl => ?_)
          refine lv_goto (tgt := 9) hx hb dX10_oddsOf_60 (by decide) ?_
          exact ih9  v55_14 v57_15 (by omega) (by first | exact odF_y hod hi.1 t57 hBK hWG9 e54n e55n | exact odF_n hod hi.1 t57 hBK) (by omega) _ _ _ hw (lv_sub hl [0, 1, 3, 4] rfl)
        · have hBK : ¬ (fun k => pI S 0 (pe k)) i.toNatClampNeg = 0 := fun q9 => h37 ((congrArg Int32.toInt q9).trans (by decide))
          refine lv_if_eq (tgt := 57) hx hb dX10_oddsOf_40 (by decide) (fun c40_16 => ?_) (fun c40_16 => absurd c40_16 (by decide))
          obtain ⟨v57_17, e57_17⟩ : ∃ y : Int32, y = i + 1 := ⟨_, rfl⟩
          have t57_17 := iAdd e57_17 rfl t_1 (by omega) (by omega)
          have t57 := t57_17
          refine lv_iinc (v := v57_17) (lv' := [(4, .int v57_17), (5, .ref (pe i.toNatClampNeg)), (2, .long u), (0, .ref (d 0)), (1, .ref (te j))]) hx hb dX10_oddsOf_57 hl (k := 1) rfl (by rw [e57_17]; rfl) (by decide) rfl (fun ls hl => ?_)
          refine lv_goto (tgt := 9) hx hb dX10_oddsOf_60 (by decide) ?_
          exact ih9  u v57_17 (by omega) (by first | exact odF_y hod hi.1 t57 hBK hWG9 e54n e55n | exact odF_n hod hi.1 t57 hBK) (by omega) _ _ _ hw (lv_sub hl [0, 2, 3, 4] rfl)
  exact lp9 _  v4_4 0 (by have := t_0; omega) (odF_0 (hw1.trans (hTV.1 _ hj).1.2.2.2.2) e4n) (Nat.lt_succ_self _) _ _ _ hw (lv_sub hl [0, 1, 2, 3] rfl)
set_option maxHeartbeats 4000000 in
set_option maxRecDepth 100000 in
theorem c_v_X10_odds (l : Launch) (G : Gh) (S : Pl) (d sa sb sp te tm pe : Nat → Nat) (tf pf nt np : Nat) (i : Int32) (V : SV) (tl : Nat → TP) (pl : Nat → PP) (hC : CIs G S d sa sb sp te tm pe tf pf nt np) (hN : CIn (pI S) d te pe nt np) (hct : Ct (qI S) sa (stl V.2)) (hTV : TV S te tm nt tl V) (hPV : PV S pe np pl) : MtL l yX10_odds cX10_odds 2 (some .long) (Rm 5 0 0) G [.ref (d 0), .int i] S (fun (r : Int64) (S' : Pl) => S = S' ∧ r = (if 0 ≤ i.toInt ∧ i.toInt < (nt : Int) then odF V.2 (tl i.toNatClampNeg) pl (fun k => pI S 0 (pe k)) np else -1)) 0 0 := by
  refine MtL.of (by decide) (Nat.le_of_ble_eq_true rfl) ?_
  intro p e s m args below meth c Q A X hw hin hret ls hl
  have hx := X.1.1
  have hb := X.1.2.1
  have hl : lv_has ls 2 [(0, .ref (d 0)), (1, .int i)] := hl
  obtain ⟨k0, r70, r71, r72, r73, r74, r75, r76, r77, hR, hS, hB, hSp, ⟨kco, nco⟩, lT, lP, n68, n79, hTl, hPk, hPi, n40⟩ := id hC
  obtain ⟨z92, z93, zw, zz, zst, zs6⟩ := id hN
  have hTp := hR.2.2.2.2.2.2.2
  have n60 := lP.2.2.1
  have oS := hS
  have oTp := hTp
  have oPk := hPk
  refine lv_aload_n hx hb dX10_odds_0 rfl (lv_at hl 0 rfl) ?_
  refine lv_iload_n hx hb dX10_odds_1 rfl (lv_at hl 1 rfl) ?_
  refine k_Vi (n := 1) X hw (rcvk (ci := 10) X hw k0 (fun _ _ _ _ _ _ _ => ⟨_, rfl⟩) rfl) (c_X10_isTale l G _ d sa sb sp te tm pe tf pf nt np i hC hN) wd_r30_2 wd_r30_3 wd_r30_4 wd_r1_2 wd_r30_5 ⟨by decide, by decide, by decide +kernel⟩ rfl rfl ⟨Nat.le_of_ble_eq_true rfl, Nat.le_of_ble_eq_true rfl⟩ rfl rfl hl.1 (Nat.le_of_ble_eq_true rfl) dX10_odds_2 ⟨Nat.le_of_ble_eq_true rfl, Nat.le_of_ble_eq_true rfl⟩ (fun r2_1 S2_3 H locs h2_2 hw => ?_)
  rcases h2_2 with ⟨rfl, rfl, h2_2⟩ | ⟨rfl, rfl, h2_2⟩
  · have h2_2 := h2_2
    refine lv_if_eq (tgt := 26) hx hb dX10_odds_5 (by decide) (fun c5_4 => absurd c5_4 (by decide)) (fun c5_4 => ?_)
    refine lv_aload_n hx hb dX10_odds_8 rfl (lv_at hl 0 rfl) ?_
    refine lv_aload_n hx hb dX10_odds_9 rfl (lv_at hl 0 rfl) ?_
    refine gf_X10_28 (b := (d 6)) X hw k0 r72 dX10_odds_10 ?_
    refine lv_iload_n hx hb dX10_odds_13 rfl (lv_at hl 1 rfl) ?_
    refine k_Vq (n := 1) X hw (rcvk (ci := 0) X hw lT.1 (fun _ _ _ _ _ _ _ => ⟨_, rfl⟩) rfl) (c_Jx4a65c_get_915e3 l G _ (d 6) (d 7) tf nt te i (lT.sh z92) (by omega)) wd_r18_6 wd_r18_7 wd_r18_8 wd_r1_22 wd_r18_9 ⟨by decide, by decide, by decide +kernel⟩ rfl rfl ⟨Nat.le_of_ble_eq_true rfl, Nat.le_of_ble_eq_true rfl⟩ rfl rfl hl.1 (Nat.le_of_ble_eq_true rfl) dX10_odds_14 ⟨Nat.le_of_ble_eq_true rfl, Nat.le_of_ble_eq_true rfl⟩ (fun r14_5 S14_7 H locs h14_6 hw => ?_)
    obtain ⟨rfl, rfl⟩ := h14_6
    have hik : i.toNatClampNeg < nt := clt (by omega) (by omega)
    refine q_castT X hw (hTl _ hik).1 dX10_odds_17 ?_
    refine k_Vl (n := 1) X hw (rcvk (ci := 10) X hw k0 (fun _ _ _ _ _ _ _ => ⟨_, rfl⟩) rfl) (c_v_X10_oddsOf l G _ d sa sb sp te tm pe tf pf nt np i.toNatClampNeg V tl pl hC hN hik hct hTV hPV) wd_r36_3 wd_r36_4 wd_r36_5 wd_r1_2 wd_r36_6 ⟨by decide, by decide, by decide +kernel⟩ rfl rfl ⟨Nat.le_of_ble_eq_true rfl, Nat.le_of_ble_eq_true rfl⟩ rfl rfl hl.1 (Nat.le_of_ble_eq_true rfl) dX10_odds_20 ⟨Nat.le_of_ble_eq_true rfl, Nat.le_of_ble_eq_true rfl⟩ (fun r20_8 S20_10 H locs h20_9 hw => ?_)
    obtain ⟨rfl, h20_9⟩ := h20_9
    have HO9 := h20_9
    refine lv_goto (tgt := 29) hx hb dX10_odds_23 (by decide) ?_
    exact hret r20_8 _ _ _ _ _ ⟨rfl, by rw [if_pos (by omega)]; exact HO9⟩ hw dX10_odds_29
  · have h2_2 := h2_2
    refine lv_if_eq (tgt := 26) hx hb dX10_odds_5 (by decide) (fun c5_11 => ?_) (fun c5_11 => absurd c5_11 (by decide))
    refine lv_ldc2 hx hb X.1.2.2.2.1 (X.1.2.2.2.2 _ wd_r36_2) dX10_odds_26 ?_
    exact hret (-1) _ _ _ _ _ ⟨rfl, by rw [if_neg (by omega)]⟩ hw dX10_odds_29
