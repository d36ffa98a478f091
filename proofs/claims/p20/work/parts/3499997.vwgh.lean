
/-! ===== the odds, purely ===== -/
def mPP (q : Nat → Nat → Int32) (ma : Nat → Nat) (k : Nat) (p : PP) : Prop := q (ma 33) k = p.1 ∧ q (ma 34) k = p.2.1 ∧ q (ma 35) k = p.2.2.1 ∧ q (ma 36) k = p.2.2.2.1 ∧ q (ma 37) k = p.2.2.2.2.1 ∧ q (ma 38) k = p.2.2.2.2.2.1 ∧ q (ma 39) k = p.2.2.2.2.2.2
/-- what the model knows of a proof's numbers -/
def ppO (p : PP) : Prop := (p.2.2.2.2.2.1.toInt = 2 ∧ (0 ≤ p.2.1.toInt ∧ p.2.1.toInt < 80 ∧ 0 ≤ p.2.2.1.toInt ∧ p.2.2.1.toInt < 80)) ∨ (0 ≤ p.2.2.2.2.2.1.toInt ∧ p.2.2.2.2.2.1.toInt < 2)
def cluC (s : D3) (p : PP) : Prop := s.2.2.toInt ≠ 2 ∧ (- p.2.2.2.1.toInt ≤ s.1.toInt - p.2.1.toInt ∧ s.1.toInt - p.2.1.toInt ≤ p.2.2.2.1.toInt) ∧ (- p.2.2.2.1.toInt ≤ s.2.1.toInt - p.2.2.1.toInt ∧ s.2.1.toInt - p.2.2.1.toInt ≤ p.2.2.2.1.toInt)
def srhC (s : D3) (p : PP) : Prop := s.2.2.toInt = 0 ∧ (p.2.1.toInt ≤ s.1.toInt / 10 ∧ s.1.toInt / 10 ≤ p.2.2.1.toInt) ∧ (p.2.2.2.1.toInt ≤ s.2.1.toInt / 10 ∧ s.2.1.toInt / 10 ≤ p.2.2.2.2.1.toInt)
/-- what a proof weighs at a state -/
def wgh (C : Nat → Nat → Int32) (s : D3) (p : PP) : Int32 := if p.2.2.2.2.2.1.toInt = 2 then (if s.2.2.toInt ≠ 2 ∧ (- p.2.2.2.1.toInt ≤ s.1.toInt - p.2.1.toInt ∧ s.1.toInt - p.2.1.toInt ≤ p.2.2.2.1.toInt) ∧ (- p.2.2.2.1.toInt ≤ s.2.1.toInt - p.2.2.1.toInt ∧ s.2.1.toInt - p.2.2.1.toInt ≤ p.2.2.2.1.toInt) then 100 else p.2.2.2.2.2.2) else (if s.2.2.toInt = 0 ∧ (p.2.1.toInt ≤ s.1.toInt / 10 ∧ s.1.toInt / 10 ≤ p.2.2.1.toInt) ∧ (p.2.2.2.1.toInt ≤ s.2.1.toInt / 10 ∧ s.2.1.toInt / 10 ≤ p.2.2.2.2.1.toInt) then sm (C 4) (21 * p.2.2.2.2.2.1.toNatClampNeg + p.2.2.2.2.2.2.toNatClampNeg) else 100)
section WGH
variable {C : Nat → Nat → Int32} {s : D3} {p : PP} {x v r : Int32}
theorem wg_c1 (h : p.2.2.2.2.2.1.toInt = 2) (g : cluC s p) : wgh C s p = 100 := by unfold wgh; rw [if_pos h]; exact if_pos g
theorem wg_c0 (h : p.2.2.2.2.2.1.toInt = 2) (g : ¬ cluC s p) : wgh C s p = p.2.2.2.2.2.2 := by unfold wgh; rw [if_pos h]; exact if_neg g
theorem wg_s1 (h : p.2.2.2.2.2.1.toInt ≠ 2) (g : srhC s p) : wgh C s p = sm (C 4) (21 * p.2.2.2.2.2.1.toNatClampNeg + p.2.2.2.2.2.2.toNatClampNeg) := by unfold wgh; rw [if_neg h]; exact if_pos g
theorem wg_s0 (h : p.2.2.2.2.2.1.toInt ≠ 2) (g : ¬ srhC s p) : wgh C s p = 100 := by unfold wgh; rw [if_neg h]; exact if_neg g
theorem plc_d (h : okD s) (e : r = plc s) : (s.2.2.toInt = 2 ∧ r.toInt = -1) ∨ (s.2.2.toInt ≠ 2 ∧ r.toInt = s.2.1.toInt * 100 + s.1.toInt) := by
  have h2 := h.1
  by_cases q : s.2.2.toInt = 2
  · exact Or.inl ⟨q, by rw [e, plc_2 q]; decide⟩
  · refine Or.inr ⟨q, ?_⟩
    have t2 : (100 : Int32).toInt = 100 := by decide
    have f := iMul (v := s.2.1 * 100) rfl rfl t2 (by omega) (by omega)
    rw [e, plc_n q]
    exact iAdd rfl f rfl (by omega) (by omega)
theorem iRemP {d : Int32} {n : Int} (e : v = x - x / d * d) (hd : d.toInt = n) (hn : 0 < n) (h : 0 ≤ x.toInt) : v.toInt = x.toInt % n := by
  have a := iDivP (v := x / d) rfl hd hn h
  have h2 := iRng x
  have h4 : 0 ≤ x.toInt / n := Int.ediv_nonneg h (by omega)
  have h5 : x.toInt / n * n ≤ x.toInt := Int.ediv_mul_le _ (by omega)
  have h6 : 0 ≤ x.toInt / n * n := Int.mul_nonneg h4 (by omega)
  have b := iMul (v := x / d * d) rfl a hd (by omega) (by omega)
  have c := iSub e rfl b (by omega) (by omega)
  have d2 := Int.emod_def x.toInt n
  rw [c, d2, Int.mul_comm n]
theorem abs_t (e : v = if 0 ≤ x then x else 0 - x) (h : -1000 ≤ x.toInt ∧ x.toInt ≤ 1000) : (0 ≤ x.toInt ∧ v.toInt = x.toInt) ∨ (x.toInt < 0 ∧ v.toInt = - x.toInt) := by
  have t0 : (0 : Int32).toInt = 0 := by decide
  by_cases q : 0 ≤ x
  · rw [if_pos q] at e
    have := iLe q t0 rfl
    exact Or.inl ⟨by omega, by rw [e]⟩
  · rw [if_neg q] at e
    have := iNle q t0 rfl
    have z := iSub e t0 rfl (by omega) (by omega)
    exact Or.inr ⟨by omega, by omega⟩
theorem cell_t {y : Int32} (h : 0 ≤ x.toInt ∧ x.toInt < 80 ∧ 0 ≤ y.toInt ∧ y.toInt < 80) : (cellZ x y).toInt = y.toInt / 10 * 8 + x.toInt / 10 := by
  have a := iDiv10 (v := y / 10) rfl h.2.2.1
  have b := iDiv10 (v := x / 10) rfl h.1
  have t8 : (8 : Int32).toInt = 8 := by decide
  have c := iMul (v := y / 10 * 8) rfl a t8 (by omega) (by omega)
  exact iAdd (v := cellZ x y) rfl c b (by omega) (by omega)
end WGH
def odF (C : Nat → Nat → Int32) (P : TP) (pl : Nat → PP) (bk : Nat → Int32) : Nat → Int64
  | 0 => P.2.2.2.2.toInt64
  | n + 1 => if bk n = 0 then odF C P pl bk n * (wgh C (drA C P (pl n).1.toNatClampNeg) (pl n)).toInt64 else odF C P pl bk n
section ODF
variable {C : Nat → Nat → Int32} {P : TP} {pl : Nat → PP} {bk : Nat → Int32} {i i' w : Int32} {u v z : Int64}
theorem odF_0 (h : w = P.2.2.2.2) (e : u = w.toInt64) : u = odF C P pl bk (0 : Int32).toNatClampNeg := by
  rw [show (0 : Int32).toNatClampNeg = 0 by decide, e, h]; rfl
theorem odF_y (h : u = odF C P pl bk i.toNatClampNeg) (h0 : 0 ≤ i.toInt) (ti : i'.toInt = i.toInt + 1) (hb : bk i.toNatClampNeg = 0) (hw : w = wgh C (drA C P (pl i.toNatClampNeg).1.toNatClampNeg) (pl i.toNatClampNeg)) (e1 : v = w.toInt64) (e2 : z = u * v) : z = odF C P pl bk i'.toNatClampNeg := by
  have a := cl_toInt h0
  have b := cl_toInt (x := i') (by omega)
  rw [show i'.toNatClampNeg = i.toNatClampNeg + 1 by omega, odF, if_pos hb, e2, e1, hw, h]
theorem odF_n (h : u = odF C P pl bk i.toNatClampNeg) (h0 : 0 ≤ i.toInt) (ti : i'.toInt = i.toInt + 1) (hb : ¬ bk i.toNatClampNeg = 0) : u = odF C P pl bk i'.toNatClampNeg := by
  have a := cl_toInt h0
  have b := cl_toInt (x := i') (by omega)
  rw [show i'.toNatClampNeg = i.toNatClampNeg + 1 by omega, odF, if_neg hb, h]
theorem odF_cg {bk' : Nat → Int32} : ∀ {n : Nat}, (∀ k, k < n → bk k = bk' k) → odF C P pl bk n = odF C P pl bk' n
  | 0, _ => rfl
  | n + 1, h => by
    simp only [odF]
    rw [odF_cg (n := n) (fun k hk => h k (by omega)), h n (by omega)]
end ODF
set_option maxHeartbeats 4000000 in
set_option maxRecDepth 100000 in
theorem c_v_X0_weighing (l : Launch) (G : Gh) (S : Pl) (pr ta tm : Nat) (sa : Nat → Nat) (F : Nat → D3) (V : SV) (p7 : PP) (hp : is S 0 pr) (hA : shTale S ta tm) (hS : shSea S sa) (hmk : ∀ j, j ≤ 72 → qI S tm j = mrk (F j)) (hok : ∀ j, okD (F j)) (hct : Ct (qI S) sa (stl V.2)) (hmm : 0 ≤ p7.1.toInt ∧ p7.1.toInt ≤ 72) (hq : pI S 1 pr = p7.1 ∧ pI S 2 pr = p7.2.1 ∧ pI S 3 pr = p7.2.2.1 ∧ pI S 4 pr = p7.2.2.2.1 ∧ p7.2.2.2.2.2.1 = 2 ∧ pI S 5 pr = p7.2.2.2.2.2.2) (hxy : 0 ≤ p7.2.1.toInt ∧ p7.2.1.toInt < 80 ∧ 0 ≤ p7.2.2.1.toInt ∧ p7.2.2.1.toInt < 80) : MtI l yX0_weighing cX0_weighing 5 (some .int) (Rm 2 0 0) G [.ref pr, .ref ta, .ref (sa 0)] S (fun (r : Int32) (S' : Pl) => S = S' ∧ r = wgh V.2 (F p7.1.toNatClampNeg) p7) 0 0 := by
  refine MtI.of (by decide) (Nat.le_of_ble_eq_true rfl) ?_
  intro p e s m args below meth c Q A X hw hin hret ls hl
  have hx := X.1.1
  have hb := X.1.2.1
  have hl : lv_has ls 5 [(0, .ref pr), (1, .ref ta), (2, .ref (sa 0))] := hl
  have m1 := congrArg Int32.toInt hq.1
  have m2 := congrArg Int32.toInt hq.2.1
  have m3 := congrArg Int32.toInt hq.2.2.1
  have m4 := congrArg Int32.toInt hq.2.2.2.1
  have m5 := congrArg Int32.toInt hq.2.2.2.2.1
  have m6 := m5.trans (show (2 : Int32).toInt = 2 by decide)
  have hb9 := (hok p7.1.toNatClampNeg).1
  refine lv_aload_n hx hb dX0_weighing_0 rfl (lv_at hl 1 rfl) ?_
  refine lv_aload_n hx hb dX0_weighing_1 rfl (lv_at hl 0 rfl) ?_
  refine gf_X0_9 (v := (pI S) 1 pr) X hw hp rfl dX0_weighing_2 ?_
  refine k_Vi (n := 1) X hw (rcvk (ci := 7) X hw hA.1 (fun _ _ _ _ _ _ _ => ⟨_, rfl⟩) rfl) (c_v_X7_pointAt l G _ ta tm ((pI S) 1 pr) F hA hmk hok) wd_r36_19 wd_r30_10 wd_r30_11 wd_r18_22 wd_r30_12 ⟨by decide, by decide, by decide +kernel⟩ rfl rfl ⟨Nat.le_of_ble_eq_true rfl, Nat.le_of_ble_eq_true rfl⟩ rfl rfl hl.1 (Nat.le_of_ble_eq_true rfl) dX0_weighing_5 ⟨Nat.le_of_ble_eq_true rfl, Nat.le_of_ble_eq_true rfl⟩ (fun r5_1 S5_3 H locs h5_2 hw => ?_)
  obtain ⟨rfl, h5_2⟩ := h5_2
  have hp5 : r5_1 = plc (F p7.1.toNatClampNeg) := by rw [h5_2, if_pos (by omega), show pI S 1 pr = p7.1 from hq.1]
  have hd5 := plc_d (hok _) hp5
  refine lv_istore_n (lv' := [(3, .int r5_1), (0, .ref pr), (1, .ref ta), (2, .ref (sa 0))]) hx hb dX0_weighing_8 rfl hl (by decide) rfl (fun ls hl => ?_)
  refine lv_iload_n hx hb dX0_weighing_9 rfl (lv_at hl 0 rfl) ?_
  refine lv_iconst (v := -1) hx hb dX0_weighing_10 (by decide) ?_
  refine lv_icmp_eq (tgt := 56) hx hb dX0_weighing_11 (by decide) (fun c11_4 => ?_) (fun c11_4 => ?_)
  · have D11_4 := iEq c11_4 rfl t_m1
    refine lv_iconst (v := 0) hx hb dX0_weighing_56 (by decide) ?_
    refine lv_istore (lv' := [(4, .int 0), (3, .int r5_1), (0, .ref pr), (1, .ref ta), (2, .ref (sa 0))]) hx hb dX0_weighing_57 hl (by decide) rfl (fun ls hl => ?_)
    refine lv_iload hx hb dX0_weighing_59 (lv_at hl 0 rfl) ?_
    refine lv_if_eq (tgt := 69) hx hb dX0_weighing_61 (by decide) (fun c61_5 => ?_) (fun c61_5 => absurd c61_5 (by decide))
    refine lv_aload_n hx hb dX0_weighing_69 rfl (lv_at hl 2 rfl) ?_
    refine gf_X0_24 (v := (pI S) 5 pr) X hw hp rfl dX0_weighing_70 ?_
    exact hret ((pI S) 5 pr) _ _ _ _ _ ⟨rfl, by rw [wg_c0 m6 (by unfold cluC; have := t_m1; omega)]; exact hq.2.2.2.2.2⟩ hw rfl dX0_weighing_73
  · have D11_4 := iNe c11_4 rfl t_m1
    refine lv_iload_n hx hb dX0_weighing_14 rfl (lv_at hl 0 rfl) ?_
    refine lv_bipush (v := 100) hx hb dX0_weighing_15 (by decide) ?_
    refine lv_irem hx hb dX0_weighing_17 (by decide) ?_
    refine lv_topi (fun v17_6 e17_6 => ?_)
    have d17 := iRemP e17_6 (by decide : (100 : Int32).toInt = 100) (by omega) (by omega)
    refine lv_aload_n hx hb dX0_weighing_18 rfl (lv_at hl 1 rfl) ?_
    refine gf_X0_15 (v := (pI S) 2 pr) X hw hp rfl dX0_weighing_19 ?_
    refine lv_isub hx hb dX0_weighing_22 ?_
    refine lv_topi (fun v22_7 e22_7 => ?_)
    have t22_7 := iSub e22_7 rfl rfl (by omega) (by omega)
    have t22 := t22_7
    refine va_mabs hx hb (by rw [X.1.2.2.1]; exact hl.1.symm) X.1.2.2.2.1 (X.1.2.2.2.2 _ wd_r36_16) (X.1.2.2.2.2 _ wd_r36_17) (X.1.2.2.2.2 _ wd_r28_6) (X.1.2.2.2.2 _ wd_r36_18) (Nat.le_of_ble_eq_true rfl) (Nat.le_of_ble_eq_true rfl) (Nat.zero_le _) (Nat.zero_le _) dX0_weighing_23 ?_
    refine lv_topi (fun v23_8 e23_8 => ?_)
    have a23 := abs_t e23_8 (by omega)
    refine lv_aload_n hx hb dX0_weighing_26 rfl (lv_at hl 1 rfl) ?_
    refine gf_X0_21 (v := (pI S) 4 pr) X hw hp rfl dX0_weighing_27 ?_
    refine lv_icmp_gt (tgt := 56) hx hb dX0_weighing_30 (by decide) (fun c30_9 => ?_) (fun c30_9 => ?_)
    · have D30_9 := iLt c30_9 rfl rfl
      refine lv_iconst (v := 0) hx hb dX0_weighing_56 (by decide) ?_
      refine lv_istore (lv' := [(4, .int 0), (3, .int r5_1), (0, .ref pr), (1, .ref ta), (2, .ref (sa 0))]) hx hb dX0_weighing_57 hl (by decide) rfl (fun ls hl => ?_)
      refine lv_iload hx hb dX0_weighing_59 (lv_at hl 0 rfl) ?_
      refine lv_if_eq (tgt := 69) hx hb dX0_weighing_61 (by decide) (fun c61_10 => ?_) (fun c61_10 => absurd c61_10 (by decide))
      refine lv_aload_n hx hb dX0_weighing_69 rfl (lv_at hl 2 rfl) ?_
      refine gf_X0_24 (v := (pI S) 5 pr) X hw hp rfl dX0_weighing_70 ?_
      exact hret ((pI S) 5 pr) _ _ _ _ _ ⟨rfl, by rw [wg_c0 m6 (by unfold cluC; have := t_m1; omega)]; exact hq.2.2.2.2.2⟩ hw rfl dX0_weighing_73
    · have D30_9 := iNlt c30_9 rfl rfl
      refine lv_iload_n hx hb dX0_weighing_33 rfl (lv_at hl 0 rfl) ?_
      refine lv_bipush (v := 100) hx hb dX0_weighing_34 (by decide) ?_
      refine lv_idiv hx hb dX0_weighing_36 (by decide) ?_
      refine lv_topi (fun v36_11 e36_11 => ?_)
      have d36 := iDivP e36_11 (by decide : (100 : Int32).toInt = 100) (by omega) (by omega)
      refine lv_aload_n hx hb dX0_weighing_37 rfl (lv_at hl 1 rfl) ?_
      refine gf_X0_18 (v := (pI S) 3 pr) X hw hp rfl dX0_weighing_38 ?_
      refine lv_isub hx hb dX0_weighing_41 ?_
      refine lv_topi (fun v41_12 e41_12 => ?_)
      have t41_12 := iSub e41_12 rfl rfl (by omega) (by omega)
      have t41 := t41_12
      refine va_mabs hx hb (by rw [X.1.2.2.1]; exact hl.1.symm) X.1.2.2.2.1 (X.1.2.2.2.2 _ wd_r36_16) (X.1.2.2.2.2 _ wd_r36_17) (X.1.2.2.2.2 _ wd_r28_6) (X.1.2.2.2.2 _ wd_r36_18) (Nat.le_of_ble_eq_true rfl) (Nat.le_of_ble_eq_true rfl) (Nat.zero_le _) (Nat.zero_le _) dX0_weighing_42 ?_
      refine lv_topi (fun v42_13 e42_13 => ?_)
      have a42 := abs_t e42_13 (by omega)
      refine lv_aload_n hx hb dX0_weighing_45 rfl (lv_at hl 1 rfl) ?_
      refine gf_X0_21 (v := (pI S) 4 pr) X hw hp rfl dX0_weighing_46 ?_
      refine lv_icmp_gt (tgt := 56) hx hb dX0_weighing_49 (by decide) (fun c49_14 => ?_) (fun c49_14 => ?_)
      · have D49_14 := iLt c49_14 rfl rfl
        refine lv_iconst (v := 0) hx hb dX0_weighing_56 (by decide) ?_
        refine lv_istore (lv' := [(4, .int 0), (3, .int r5_1), (0, .ref pr), (1, .ref ta), (2, .ref (sa 0))]) hx hb dX0_weighing_57 hl (by decide) rfl (fun ls hl => ?_)
        refine lv_iload hx hb dX0_weighing_59 (lv_at hl 0 rfl) ?_
        refine lv_if_eq (tgt := 69) hx hb dX0_weighing_61 (by decide) (fun c61_15 => ?_) (fun c61_15 => absurd c61_15 (by decide))
        refine lv_aload_n hx hb dX0_weighing_69 rfl (lv_at hl 2 rfl) ?_
        refine gf_X0_24 (v := (pI S) 5 pr) X hw hp rfl dX0_weighing_70 ?_
        exact hret ((pI S) 5 pr) _ _ _ _ _ ⟨rfl, by rw [wg_c0 m6 (by unfold cluC; have := t_m1; omega)]; exact hq.2.2.2.2.2⟩ hw rfl dX0_weighing_73
      · have D49_14 := iNlt c49_14 rfl rfl
        refine lv_iconst (v := 1) hx hb dX0_weighing_52 (by decide) ?_
        refine lv_goto (tgt := 57) hx hb dX0_weighing_53 (by decide) ?_
        refine lv_istore (lv' := [(4, .int 1), (3, .int r5_1), (0, .ref pr), (1, .ref ta), (2, .ref (sa 0))]) hx hb dX0_weighing_57 hl (by decide) rfl (fun ls hl => ?_)
        refine lv_iload hx hb dX0_weighing_59 (lv_at hl 0 rfl) ?_
        refine lv_if_eq (tgt := 69) hx hb dX0_weighing_61 (by decide) (fun c61_16 => absurd c61_16 (by decide)) (fun c61_16 => ?_)
        refine lv_bipush (v := 100) hx hb dX0_weighing_64 (by decide) ?_
        refine lv_goto (tgt := 73) hx hb dX0_weighing_66 (by decide) ?_
        exact hret 100 _ _ _ _ _ ⟨rfl, (wg_c1 m6 (by unfold cluC; omega)).symm⟩ hw rfl dX0_weighing_73
set_option maxHeartbeats 4000000 in
set_option maxRecDepth 100000 in
theorem c_v_X5_hasCell (l : Launch) (G : Gh) (S : Pl) (pr : Nat) (c0 : Int32) (hp : is S 4 pr) : MtI l yX5_hasCell cX5_hasCell 2 (some .boolean) (Rm 1 0 0) G [.ref pr, .int c0] S (fun (r : Int32) (S' : Pl) => (S = S' ∧ r = 1 ∧ (0 ≤ c0.toInt ∧ c0.toInt < 64) ∧ ((pI S 32 pr).toInt ≤ c0.toInt % 8 ∧ c0.toInt % 8 ≤ (pI S 33 pr).toInt) ∧ ((pI S 34 pr).toInt ≤ c0.toInt / 8 ∧ c0.toInt / 8 ≤ (pI S 35 pr).toInt)) ∨ (S = S' ∧ r = 0 ∧ ¬ ((0 ≤ c0.toInt ∧ c0.toInt < 64) ∧ ((pI S 32 pr).toInt ≤ c0.toInt % 8 ∧ c0.toInt % 8 ≤ (pI S 33 pr).toInt) ∧ ((pI S 34 pr).toInt ≤ c0.toInt / 8 ∧ c0.toInt / 8 ≤ (pI S 35 pr).toInt)))) 0 0 := by
  refine MtI.of (by decide) (Nat.le_of_ble_eq_true rfl) ?_
  intro p e s m args below meth c Q A X hw hin hret ls hl
  have hx := X.1.1
  have hb := X.1.2.1
  have hl : lv_has ls 2 [(0, .ref pr), (1, .int c0)] := hl
  refine lv_iload_n hx hb dX5_hasCell_0 rfl (lv_at hl 1 rfl) ?_
  refine k_SNi (n := 1) (host := RX10) X hw (c_X10_isCell l G _ c0) (List.mem_of_getElem? (i := 15) rfl) wd_r15_22 wd_r1_2 wd_r15_23 ⟨by decide, by decide, by decide +kernel⟩ rfl rfl ⟨Nat.le_of_ble_eq_true rfl, Nat.le_of_ble_eq_true rfl⟩ rfl rfl hl.1 (Nat.le_of_ble_eq_true rfl) dX5_hasCell_1 ⟨Nat.le_of_ble_eq_true rfl, Nat.le_of_ble_eq_true rfl⟩ (fun r1_1 S1_3 H locs h1_2 hw => ?_)
  rcases h1_2 with ⟨rfl, rfl, h1_2⟩ | ⟨rfl, rfl, h1_2⟩
  · have h1_2 := h1_2
    refine lv_if_eq (tgt := 47) hx hb dX5_hasCell_4 (by decide) (fun c4_4 => absurd c4_4 (by decide)) (fun c4_4 => ?_)
    refine lv_iload_n hx hb dX5_hasCell_7 rfl (lv_at hl 1 rfl) ?_
    refine lv_bipush (v := 8) hx hb dX5_hasCell_8 (by decide) ?_
    refine lv_irem hx hb dX5_hasCell_10 (by decide) ?_
    refine lv_topi (fun v10_5 e10_5 => ?_)
    have d10 := iRemP e10_5 (by decide : (8 : Int32).toInt = 8) (by omega) (by omega)
    refine lv_aload_n hx hb dX5_hasCell_11 rfl (lv_at hl 0 rfl) ?_
    refine gf_X5_15 (v := (pI S) 32 pr) X hw hp rfl dX5_hasCell_12 ?_
    refine lv_aload_n hx hb dX5_hasCell_15 rfl (lv_at hl 0 rfl) ?_
    refine gf_X5_18 (v := (pI S) 33 pr) X hw hp rfl dX5_hasCell_16 ?_
    refine k_SNi (n := 3) (host := RX10) X hw (c_X10_within l G _ v10_5 ((pI S) 32 pr) ((pI S) 33 pr)) (List.mem_of_getElem? (i := 16) rfl) wd_r7_18 wd_r1_2 wd_r7_19 ⟨by decide, by decide, by decide +kernel⟩ rfl rfl ⟨Nat.le_of_ble_eq_true rfl, Nat.le_of_ble_eq_true rfl⟩ rfl rfl hl.1 (Nat.le_of_ble_eq_true rfl) dX5_hasCell_19 ⟨Nat.le_of_ble_eq_true rfl, Nat.le_of_ble_eq_true rfl⟩ (fun r19_6 S19_8 H locs h19_7 hw => ?_)
    rcases h19_7 with ⟨rfl, rfl, h19_7⟩ | ⟨rfl, rfl, h19_7⟩
    · have h19_7 := h19_7
      refine lv_if_eq (tgt := 47) hx hb dX5_hasCell_22 (by decide) (fun c22_9 => absurd c22_9 (by decide)) (fun c22_9 => ?_)
      refine lv_iload_n hx hb dX5_hasCell_25 rfl (lv_at hl 1 rfl) ?_
      refine lv_bipush (v := 8) hx hb dX5_hasCell_26 (by decide) ?_
      refine lv_idiv hx hb dX5_hasCell_28 (by decide) ?_
      refine lv_topi (fun v28_10 e28_10 => ?_)
      have d28 := iDivP e28_10 (by decide : (8 : Int32).toInt = 8) (by omega) (by omega)
      refine lv_aload_n hx hb dX5_hasCell_29 rfl (lv_at hl 0 rfl) ?_
      refine gf_X5_21 (v := (pI S) 34 pr) X hw hp rfl dX5_hasCell_30 ?_
      refine lv_aload_n hx hb dX5_hasCell_33 rfl (lv_at hl 0 rfl) ?_
      refine gf_X5_24 (v := (pI S) 35 pr) X hw hp rfl dX5_hasCell_34 ?_
      refine k_SNi (n := 3) (host := RX10) X hw (c_X10_within l G _ v28_10 ((pI S) 34 pr) ((pI S) 35 pr)) (List.mem_of_getElem? (i := 16) rfl) wd_r7_18 wd_r1_2 wd_r7_19 ⟨by decide, by decide, by decide +kernel⟩ rfl rfl ⟨Nat.le_of_ble_eq_true rfl, Nat.le_of_ble_eq_true rfl⟩ rfl rfl hl.1 (Nat.le_of_ble_eq_true rfl) dX5_hasCell_37 ⟨Nat.le_of_ble_eq_true rfl, Nat.le_of_ble_eq_true rfl⟩ (fun r37_11 S37_13 H locs h37_12 hw => ?_)
      rcases h37_12 with ⟨rfl, rfl, h37_12⟩ | ⟨rfl, rfl, h37_12⟩
      · have h37_12 := h37_12
        refine lv_if_eq (tgt := 47) hx hb dX5_hasCell_40 (by decide) (fun c40_14 => absurd c40_14 (by decide)) (fun c40_14 => ?_)
        refine lv_iconst (v := 1) hx hb dX5_hasCell_43 (by decide) ?_
        refine lv_goto (tgt := 48) hx hb dX5_hasCell_44 (by decide) ?_
        exact hret 1 _ _ _ _ _ (Or.inl ⟨rfl, rfl, by omega⟩) hw rfl dX5_hasCell_48
      · have h37_12 := h37_12
        refine lv_if_eq (tgt := 47) hx hb dX5_hasCell_40 (by decide) (fun c40_15 => ?_) (fun c40_15 => absurd c40_15 (by decide))
        refine lv_iconst (v := 0) hx hb dX5_hasCell_47 (by decide) ?_
        exact hret 0 _ _ _ _ _ (Or.inr ⟨rfl, rfl, by omega⟩) hw rfl dX5_hasCell_48
    · have h19_7 := h19_7
      refine lv_if_eq (tgt := 47) hx hb dX5_hasCell_22 (by decide) (fun c22_16 => ?_) (fun c22_16 => absurd c22_16 (by decide))
      refine lv_iconst (v := 0) hx hb dX5_hasCell_47 (by decide) ?_
      exact hret 0 _ _ _ _ _ (Or.inr ⟨rfl, rfl, by omega⟩) hw rfl dX5_hasCell_48
  · have h1_2 := h1_2
    refine lv_if_eq (tgt := 47) hx hb dX5_hasCell_4 (by decide) (fun c4_17 => ?_) (fun c4_17 => absurd c4_17 (by decide))
    refine lv_iconst (v := 0) hx hb dX5_hasCell_47 (by decide) ?_
    exact hret 0 _ _ _ _ _ (Or.inr ⟨rfl, rfl, by omega⟩) hw rfl dX5_hasCell_48
set_option maxHeartbeats 4000000 in
set_option maxRecDepth 100000 in
theorem c_v_X7_cellAt (l : Launch) (G : Gh) (S : Pl) (ta tm : Nat) (t : Int32) (F : Nat → D3) (hA : shTale S ta tm) (hmk : ∀ j, j ≤ 72 → qI S tm j = mrk (F j)) (hok : ∀ j, okD (F j)) : MtI l yX7_cellAt cX7_cellAt 3 (some .int) (Rm 2 0 0) G [.ref ta, .int t] S (fun (r : Int32) (S' : Pl) => S = S' ∧ r = (if 0 ≤ t.toInt ∧ t.toInt ≤ 72 then (if (F t.toNatClampNeg).2.2.toInt = 2 then -1 else cellZ (F t.toNatClampNeg).1 (F t.toNatClampNeg).2.1) else -1)) 0 0 := by
  refine MtI.of (by decide) (Nat.le_of_ble_eq_true rfl) ?_
  intro p e s m args below meth c Q A X hw hin hret ls hl
  have hx := X.1.1
  have hb := X.1.2.1
  have hl : lv_has ls 3 [(0, .ref ta), (1, .int t)] := hl
  refine lv_aload_n hx hb dX7_cellAt_0 rfl (lv_at hl 0 rfl) ?_
  refine lv_iload_n hx hb dX7_cellAt_1 rfl (lv_at hl 1 rfl) ?_
  refine k_Vi (n := 1) X hw (rcvk (ci := 7) X hw hA.1 (fun _ _ _ _ _ _ _ => ⟨_, rfl⟩) rfl) (c_v_X7_pointAt l G _ ta tm t F hA hmk hok) wd_r37_4 wd_r30_10 wd_r30_11 wd_r18_22 wd_r30_12 ⟨by decide, by decide, by decide +kernel⟩ rfl rfl ⟨Nat.le_of_ble_eq_true rfl, Nat.le_of_ble_eq_true rfl⟩ rfl rfl hl.1 (Nat.le_of_ble_eq_true rfl) dX7_cellAt_2 ⟨Nat.le_of_ble_eq_true rfl, Nat.le_of_ble_eq_true rfl⟩ (fun r2_1 S2_3 H locs h2_2 hw => ?_)
  obtain ⟨rfl, h2_2⟩ := h2_2
  have hr2 := h2_2
  have hb9 := (hok t.toNatClampNeg).1
  have hd5 : (¬ (0 ≤ t.toInt ∧ t.toInt ≤ 72) ∧ r2_1.toInt = -1) ∨ ((0 ≤ t.toInt ∧ t.toInt ≤ 72) ∧ (((F t.toNatClampNeg).2.2.toInt = 2 ∧ r2_1.toInt = -1) ∨ ((F t.toNatClampNeg).2.2.toInt ≠ 2 ∧ r2_1.toInt = (F t.toNatClampNeg).2.1.toInt * 100 + (F t.toNatClampNeg).1.toInt))) := by by_cases q9 : 0 ≤ t.toInt ∧ t.toInt ≤ 72; (rw [if_pos q9] at hr2; exact Or.inr ⟨q9, plc_d (hok _) hr2⟩); (rw [if_neg q9] at hr2; exact Or.inl ⟨q9, by rw [hr2]; decide⟩)
  refine lv_istore_n (lv' := [(2, .int r2_1), (0, .ref ta), (1, .int t)]) hx hb dX7_cellAt_5 rfl hl (by decide) rfl (fun ls hl => ?_)
  refine lv_iload_n hx hb dX7_cellAt_6 rfl (lv_at hl 0 rfl) ?_
  refine lv_iconst (v := -1) hx hb dX7_cellAt_7 (by decide) ?_
  refine lv_icmp_ne (tgt := 15) hx hb dX7_cellAt_8 (by decide) (fun c8_4 => ?_) (fun c8_4 => ?_)
  · have D8_4 := iNe c8_4 rfl t_m1
    refine lv_iload_n hx hb dX7_cellAt_15 rfl (lv_at hl 0 rfl) ?_
    refine lv_bipush (v := 100) hx hb dX7_cellAt_16 (by decide) ?_
    refine lv_irem hx hb dX7_cellAt_18 (by decide) ?_
    refine lv_topi (fun v18_5 e18_5 => ?_)
    have d18 := iRemP e18_5 (by decide : (100 : Int32).toInt = 100) (by omega) (by omega)
    refine lv_iload_n hx hb dX7_cellAt_19 rfl (lv_at hl 0 rfl) ?_
    refine lv_bipush (v := 100) hx hb dX7_cellAt_20 (by decide) ?_
    refine lv_idiv hx hb dX7_cellAt_22 (by decide) ?_
    refine lv_topi (fun v22_6 e22_6 => ?_)
    have d22 := iDivP e22_6 (by decide : (100 : Int32).toInt = 100) (by omega) (by omega)
    refine k_SNi (n := 2) (host := RX10) X hw (c_v_X10_cellOf l G _ v18_5 v22_6) (List.mem_of_getElem? (i := 11) rfl) wd_r20_1 wd_r1_2 wd_r20_2 ⟨by decide, by decide, by decide +kernel⟩ rfl rfl ⟨Nat.le_of_ble_eq_true rfl, Nat.le_of_ble_eq_true rfl⟩ rfl rfl hl.1 (Nat.le_of_ble_eq_true rfl) dX7_cellAt_23 ⟨Nat.le_of_ble_eq_true rfl, Nat.le_of_ble_eq_true rfl⟩ (fun r23_7 S23_9 H locs h23_8 hw => ?_)
    obtain ⟨rfl, h23_8⟩ := h23_8
    have hco := h23_8
    have hx18 : v18_5 = (F t.toNatClampNeg).1 := Int32.toInt_inj.mp (by omega)
    have hy22 : v22_6 = (F t.toNatClampNeg).2.1 := Int32.toInt_inj.mp (by omega)
    exact hret r23_7 _ _ _ _ _ ⟨rfl, by have := t_m1; rw [if_pos (by omega), if_neg (by omega), hco, hx18, hy22]⟩ hw rfl dX7_cellAt_26
  · have D8_4 := iEq c8_4 rfl t_m1
    refine lv_iconst (v := -1) hx hb dX7_cellAt_11 (by decide) ?_
    refine lv_goto (tgt := 26) hx hb dX7_cellAt_12 (by decide) ?_
    exact hret (-1) _ _ _ _ _ ⟨rfl, by have := t_m1; by_cases q9 : 0 ≤ t.toInt ∧ t.toInt ≤ 72; (rw [if_pos q9, if_pos (by omega)]); (rw [if_neg q9])⟩ hw rfl dX7_cellAt_26
set_option maxHeartbeats 4000000 in
set_option maxRecDepth 100000 in
theorem c_v_X5_weighing (l : Launch) (G : Gh) (S : Pl) (pr ta tm : Nat) (sa : Nat → Nat) (F : Nat → D3) (V : SV) (p7 : PP) (hp : is S 4 pr) (hA : shTale S ta tm) (hS : shSea S sa) (hmk : ∀ j, j ≤ 72 → qI S tm j = mrk (F j)) (hok : ∀ j, okD (F j)) (hct : Ct (qI S) sa (stl V.2)) (hmm : 0 ≤ p7.1.toInt ∧ p7.1.toInt ≤ 72) (hq : pI S 31 pr = p7.1 ∧ pI S 32 pr = p7.2.1 ∧ pI S 33 pr = p7.2.2.1 ∧ pI S 34 pr = p7.2.2.2.1 ∧ pI S 35 pr = p7.2.2.2.2.1 ∧ pI S 36 pr = p7.2.2.2.2.2.1 ∧ pI S 37 pr = p7.2.2.2.2.2.2) (hso : 0 ≤ p7.2.2.2.2.2.1.toInt ∧ p7.2.2.2.2.2.1.toInt < 2 ∧ 0 ≤ p7.2.2.2.2.2.2.toInt ∧ p7.2.2.2.2.2.2.toInt ≤ 20) : MtI l yX5_weighing cX5_weighing 4 (some .int) (Rm 3 0 0) G [.ref pr, .ref ta, .ref (sa 0)] S (fun (r : Int32) (S' : Pl) => S = S' ∧ r = wgh V.2 (F p7.1.toNatClampNeg) p7) 0 0 := by
  refine MtI.of (by decide) (Nat.le_of_ble_eq_true rfl) ?_
  intro p e s m args below meth c Q A X hw hin hret ls hl
  have hx := X.1.1
  have hb := X.1.2.1
  have hl : lv_has ls 4 [(0, .ref pr), (1, .ref ta), (2, .ref (sa 0))] := hl
  have m1 := congrArg Int32.toInt hq.1
  have m2 := congrArg Int32.toInt hq.2.1
  have m3 := congrArg Int32.toInt hq.2.2.1
  have m4 := congrArg Int32.toInt hq.2.2.2.1
  have m5 := congrArg Int32.toInt hq.2.2.2.2.1
  have m6 := congrArg Int32.toInt hq.2.2.2.2.2.1
  have m7 := congrArg Int32.toInt hq.2.2.2.2.2.2
  have hb9 := (hok p7.1.toNatClampNeg).1
  have n2 : p7.2.2.2.2.2.1.toInt ≠ 2 := by omega
  have hc6 := cl_toInt (x := p7.2.2.2.2.2.1) (by omega)
  have hc7 := cl_toInt (x := p7.2.2.2.2.2.2) (by omega)
  have hce := cell_t hb9
  refine lv_aload_n hx hb dX5_weighing_0 rfl (lv_at hl 1 rfl) ?_
  refine lv_aload_n hx hb dX5_weighing_1 rfl (lv_at hl 0 rfl) ?_
  refine gf_X5_9 (v := (pI S) 31 pr) X hw hp rfl dX5_weighing_2 ?_
  refine k_Vi (n := 1) X hw (rcvk (ci := 7) X hw hA.1 (fun _ _ _ _ _ _ _ => ⟨_, rfl⟩) rfl) (c_v_X7_stateAt l G _ ta tm ((pI S) 31 pr) F hA hmk hok) wd_r36_23 wd_r31_20 wd_r31_21 wd_r18_22 wd_r31_22 ⟨by decide, by decide, by decide +kernel⟩ rfl rfl ⟨Nat.le_of_ble_eq_true rfl, Nat.le_of_ble_eq_true rfl⟩ rfl rfl hl.1 (Nat.le_of_ble_eq_true rfl) dX5_weighing_5 ⟨Nat.le_of_ble_eq_true rfl, Nat.le_of_ble_eq_true rfl⟩ (fun r5_1 S5_3 H locs h5_2 hw => ?_)
  obtain ⟨rfl, h5_2⟩ := h5_2
  have hs5 : r5_1 = (F p7.1.toNatClampNeg).2.2 := by rw [h5_2, if_pos (by omega), show pI S 31 pr = p7.1 from hq.1]
  have hs5t := congrArg Int32.toInt hs5
  refine lv_if_ne (tgt := 30) hx hb dX5_weighing_8 (by decide) (fun c8_4 => ?_) (fun c8_4 => ?_)
  · have D8_4 := iNe c8_4 rfl t_0
    refine lv_iconst (v := 0) hx hb dX5_weighing_30 (by decide) ?_
    refine lv_istore_n (lv' := [(3, .int 0), (0, .ref pr), (1, .ref ta), (2, .ref (sa 0))]) hx hb dX5_weighing_31 rfl hl (by decide) rfl (fun ls hl => ?_)
    refine lv_iload_n hx hb dX5_weighing_32 rfl (lv_at hl 0 rfl) ?_
    refine lv_if_eq (tgt := 51) hx hb dX5_weighing_33 (by decide) (fun c33_5 => ?_) (fun c33_5 => absurd c33_5 (by decide))
    refine lv_bipush (v := 100) hx hb dX5_weighing_51 (by decide) ?_
    exact hret 100 _ _ _ _ _ ⟨rfl, (wg_s0 n2 (by unfold srhC; have := t_0; omega)).symm⟩ hw rfl dX5_weighing_53
  · have D8_4 := iEq c8_4 rfl t_0
    refine lv_aload_n hx hb dX5_weighing_11 rfl (lv_at hl 0 rfl) ?_
    refine lv_aload_n hx hb dX5_weighing_12 rfl (lv_at hl 1 rfl) ?_
    refine lv_aload_n hx hb dX5_weighing_13 rfl (lv_at hl 0 rfl) ?_
    refine gf_X5_9 (v := (pI S) 31 pr) X hw hp rfl dX5_weighing_14 ?_
    refine k_Vi (n := 1) X hw (rcvk (ci := 7) X hw hA.1 (fun _ _ _ _ _ _ _ => ⟨_, rfl⟩) rfl) (c_v_X7_cellAt l G _ ta tm ((pI S) 31 pr) F hA hmk hok) wd_r37_0 wd_r37_1 wd_r37_2 wd_r18_22 wd_r37_3 ⟨by decide, by decide, by decide +kernel⟩ rfl rfl ⟨Nat.le_of_ble_eq_true rfl, Nat.le_of_ble_eq_true rfl⟩ rfl rfl hl.1 (Nat.le_of_ble_eq_true rfl) dX5_weighing_17 ⟨Nat.le_of_ble_eq_true rfl, Nat.le_of_ble_eq_true rfl⟩ (fun r17_6 S17_8 H locs h17_7 hw => ?_)
    obtain ⟨rfl, h17_7⟩ := h17_7
    have hc17 : r17_6 = cellZ (F p7.1.toNatClampNeg).1 (F p7.1.toNatClampNeg).2.1 := by rw [h17_7, if_pos (by omega), show pI S 31 pr = p7.1 from hq.1, if_neg (by have := t_0; omega)]
    have hc17t := congrArg Int32.toInt hc17
    refine k_Vi (n := 1) X hw (rcvk (ci := 5) X hw hp (fun _ _ _ _ _ _ _ => ⟨_, rfl⟩) rfl) (c_v_X5_hasCell l G _ pr r17_6 hp) wd_r37_5 wd_r37_6 wd_r37_7 wd_r32_9 wd_r37_8 ⟨by decide, by decide, by decide +kernel⟩ rfl rfl ⟨Nat.le_of_ble_eq_true rfl, Nat.le_of_ble_eq_true rfl⟩ rfl rfl hl.1 (Nat.le_of_ble_eq_true rfl) dX5_weighing_20 ⟨Nat.le_of_ble_eq_true rfl, Nat.le_of_ble_eq_true rfl⟩ (fun r20_9 S20_11 H locs h20_10 hw => ?_)
    rcases h20_10 with ⟨rfl, rfl, h20_10⟩ | ⟨rfl, rfl, h20_10⟩
    · have h20_10 := h20_10
      refine lv_if_eq (tgt := 30) hx hb dX5_weighing_23 (by decide) (fun c23_12 => absurd c23_12 (by decide)) (fun c23_12 => ?_)
      refine lv_iconst (v := 1) hx hb dX5_weighing_26 (by decide) ?_
      refine lv_goto (tgt := 31) hx hb dX5_weighing_27 (by decide) ?_
      refine lv_istore_n (lv' := [(3, .int 1), (0, .ref pr), (1, .ref ta), (2, .ref (sa 0))]) hx hb dX5_weighing_31 rfl hl (by decide) rfl (fun ls hl => ?_)
      refine lv_iload_n hx hb dX5_weighing_32 rfl (lv_at hl 0 rfl) ?_
      refine lv_if_eq (tgt := 51) hx hb dX5_weighing_33 (by decide) (fun c33_13 => absurd c33_13 (by decide)) (fun c33_13 => ?_)
      refine lv_aload_n hx hb dX5_weighing_36 rfl (lv_at hl 3 rfl) ?_
      refine lv_aload_n hx hb dX5_weighing_37 rfl (lv_at hl 1 rfl) ?_
      refine gf_X5_27 (v := (pI S) 36 pr) X hw hp rfl dX5_weighing_38 ?_
      refine lv_aload_n hx hb dX5_weighing_41 rfl (lv_at hl 1 rfl) ?_
      refine gf_X5_30 (v := (pI S) 37 pr) X hw hp rfl dX5_weighing_42 ?_
      refine k_Vi (n := 2) X hw (rcvk (ci := 3) X hw hS.1 (fun _ _ _ _ _ _ _ => ⟨_, rfl⟩) rfl) (c_v_X3_missOf l G _ sa ((pI S) 36 pr) ((pI S) 37 pr) hS) wd_r37_9 wd_r16_12 wd_r16_13 wd_r2_9 wd_r16_14 ⟨by decide, by decide, by decide +kernel⟩ rfl rfl ⟨Nat.le_of_ble_eq_true rfl, Nat.le_of_ble_eq_true rfl⟩ rfl rfl hl.1 (Nat.le_of_ble_eq_true rfl) dX5_weighing_45 ⟨Nat.le_of_ble_eq_true rfl, Nat.le_of_ble_eq_true rfl⟩ (fun r45_14 S45_16 H locs h45_15 hw => ?_)
      obtain ⟨rfl, h45_15⟩ := h45_15
      have hm45 : r45_14 = sm (V.2 4) (21 * p7.2.2.2.2.2.1.toNatClampNeg + p7.2.2.2.2.2.2.toNatClampNeg) := by rw [h45_15, if_pos (by omega), show pI S 36 pr = p7.2.2.2.2.2.1 from hq.2.2.2.2.2.1, show pI S 37 pr = p7.2.2.2.2.2.2 from hq.2.2.2.2.2.2]; exact (hct 4 (by decide) _ (show 21 * p7.2.2.2.2.2.1.toNatClampNeg + p7.2.2.2.2.2.2.toNatClampNeg < 42 by omega)).trans stl_4
      refine lv_goto (tgt := 53) hx hb dX5_weighing_48 (by decide) ?_
      exact hret r45_14 _ _ _ _ _ ⟨rfl, by rw [wg_s1 n2 (by unfold srhC; have := t_0; omega)]; exact hm45⟩ hw rfl dX5_weighing_53
    · have h20_10 := h20_10
      refine lv_if_eq (tgt := 30) hx hb dX5_weighing_23 (by decide) (fun c23_17 => ?_) (fun c23_17 => absurd c23_17 (by decide))
      refine lv_iconst (v := 0) hx hb dX5_weighing_30 (by decide) ?_
      refine lv_istore_n (lv' := [(3, .int 0), (0, .ref pr), (1, .ref ta), (2, .ref (sa 0))]) hx hb dX5_weighing_31 rfl hl (by decide) rfl (fun ls hl => ?_)
      refine lv_iload_n hx hb dX5_weighing_32 rfl (lv_at hl 0 rfl) ?_
      refine lv_if_eq (tgt := 51) hx hb dX5_weighing_33 (by decide) (fun c33_18 => ?_) (fun c33_18 => absurd c33_18 (by decide))
      refine lv_bipush (v := 100) hx hb dX5_weighing_51 (by decide) ?_
      exact hret 100 _ _ _ _ _ ⟨rfl, (wg_s0 n2 (by unfold srhC; have := t_0; omega)).symm⟩ hw rfl dX5_weighing_53
