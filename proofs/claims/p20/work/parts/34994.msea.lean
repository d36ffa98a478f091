
/-! ===== the model's sea ===== -/
theorem sx255 (x : Int32) : x.toInt8.toInt32 &&& 255 = x &&& 255 := by
  have b : ∀ i, i < 32 → 8 ≤ i → (255 : Int32).toBitVec.getLsbD i = false := by decide
  apply Int32.toBitVec_inj.mp
  rw [Int32.toBitVec_and, Int32.toBitVec_and]
  apply BitVec.eq_of_getLsbD_eq
  intro i hi
  rw [BitVec.getLsbD_and, BitVec.getLsbD_and]
  by_cases h : i < 8
  · rw [Int8.toBitVec_toInt32, Int32.toBitVec_toInt8, BitVec.getLsbD_signExtend, BitVec.getLsbD_signExtend]
    rw [decide_eq_true hi, decide_eq_true h, if_pos h, if_pos hi, Bool.true_and, Bool.true_and]
  · rw [b i hi (by omega), Bool.and_false, Bool.and_false]
theorem nar255 (x : Int32) : vp_nar .byte x &&& 255 = x &&& 255 := sx255 x
theorem tx_c2 {row row' : Nat → Int32} {n : Nat} (h : ∀ i, i < n → row i &&& 255 = row' i &&& 255) : tx row n = tx row' n := by
  funext i; unfold tx
  by_cases hi : i < n
  · rw [if_pos hi, if_pos hi, h i hi]
  · rw [if_neg hi, if_neg hi]
def cpR (r r' : Nat → Int32) (k : Nat) : Prop := ∀ j, j < k → r j &&& 255 = r' j &&& 255
theorem cpR_s {q q1 : Nat → Nat → Int32} {a : Nat} {r : Nat → Int32} {k k' v : Int32} (h : cpR (q a) r k.toNatClampNeg) (h0 : 0 ≤ k.toInt) (tk : k'.toInt = k.toInt + 1) (hv : v = r k.toNatClampNeg) (c1 : q1 = va_up q a (upd (q a) k.toNatClampNeg (vp_nar .byte v))) : cpR (q1 a) r k'.toNatClampNeg := fun j hj => by
  have e1 := cl_toInt h0
  have e2 := cl_toInt (x := k') (by omega)
  rw [up_s c1]
  by_cases e : j = k.toNatClampNeg
  · rw [e, pk_us, nar255, hv]
  · rw [pk_un e]; exact h j (by omega)
def MIk (I : Nat → Nat → Int32) (J : Nat → Nat → Int64) (q : Nat → Nat → Int32) (ma : Nat → Nat) (b : Nat) (c : Nat → Int32) (n : Nat) : Prop := ∃ (V : SV) (p : Nat), p ≤ n ∧ mTok I J (ma 0) c n p ∧ MBk q ma b V.2 ∧ (q (ma 12) b).toInt = V.1 ∧ vok V ∧ ∀ o, Pars c n (61 - V.1.toNat) V p o → Pars c n 61 sv0 0 o
def MIt (f : Int) (I : Nat → Nat → Int32) (J : Nat → Nat → Int64) (q : Nat → Nat → Int32) (ma : Nat → Nat) (b : Nat) (c : Nat → Int32) (n : Nat) : Prop := (f = 0 ∧ MIk I J q ma b c n) ∨ (f ≠ 0 ∧ Pars c n 61 sv0 0 none)
section MIS
variable {f l12 : Int} {I I' : Nat → Nat → Int32} {J J' : Nat → Nat → Int64} {q q' : Nat → Nat → Int32} {ma : Nat → Nat} {b n p : Nat} {c : Nat → Int32} {V : SV}
theorem MIt.ok (h : MIt f I J q ma b c n) (hf : f = 0) : MIk I J q ma b c n := by
  rcases h with h | h
  · exact h.2
  · exact absurd hf h.1
theorem MIt.no (h : MIt f I J q ma b c n) (hf : f ≠ 0) : Pars c n 61 sv0 0 none := by
  rcases h with h | h
  · exact absurd h.1 hf
  · exact h.2
theorem LnP_le {s : Nat} (hp : p ≤ n) : LnP c n p s ≤ n := (tE_le (pz_le (tE_le hp).2 _)).2
theorem MI_s (hp : p ≤ n) (hv : vok V) (hP : ∀ o, Pars c n (61 - V.1.toNat) V p o → Pars c n 61 sv0 0 o) (hk : tK c n p ≠ 1) (g : MLd f l12 I' J' q' ma b c n V p) (h12 : (q' (ma 12) b).toInt = l12) : MIt f I' J' q' ma b c n := by
  have v1 := hv.1
  rcases g with ⟨g1, z, hz, g2, g3, g4, g5⟩ | ⟨g1, g2⟩
  · have h60 := g2.2.2.1
    refine Or.inl ⟨g1, LnV c n V p z, LnP c n p z, LnP_le hp, g5, g4, h12.trans g3, vok_s hv hz g2, fun o ho => hP o ?_⟩
    rw [show 61 - V.1.toNat = (60 - V.1.toNat) + 1 by omega]
    refine Or.inr (Or.inl ⟨hk, z, hz, g2, ?_⟩)
    have e : 61 - (LnV c n V p z).1.toNat = 60 - V.1.toNat := by
      show 61 - (V.1 + 1).toNat = 60 - V.1.toNat
      omega
    rw [e] at ho; exact ho
  · refine Or.inr ⟨g1, hP none ?_⟩
    rw [show 61 - V.1.toNat = (60 - V.1.toNat) + 1 by omega]
    exact Or.inr (Or.inr ⟨hk, g2, rfl⟩)
theorem MI_e (hv : vok V) (hP : ∀ o, Pars c n (61 - V.1.toNat) V p o → Pars c n 61 sv0 0 o) (hk : tK c n p = 1) : Pars c n 61 sv0 0 (some V) := by
  have v1 := hv.1
  refine hP _ ?_
  rw [show 61 - V.1.toNat = (60 - V.1.toNat) + 1 by omega]
  exact Or.inl ⟨hk, rfl⟩
/-- what the model's sea leaves: bank, rows, answer -/
def SEo (r : Int) (I' q q' : Nat → Nat → Int32) (ma : Nat → Nat) (bk : Nat) (c : Nat → Int32) (n : Nat) : Prop := (∃ V : SV, Pars c n 61 sv0 0 (some V) ∧ r = V.1 ∧ (I' 120 (ma 0)).toInt = ((1 - bk : Nat) : Int) ∧ MBk q' ma (1 - bk) V.2 ∧ (q' (ma 12) (1 - bk)).toInt = V.1 ∧ vok V) ∨ (Pars c n 61 sv0 0 none ∧ r = -1 ∧ (I' 120 (ma 0)).toInt = (bk : Int) ∧ KeepB q q' ma (1 - bk))
end MIS
theorem ML_m {f l12 l0 : Int} {I : Nat → Nat → Int32} {J : Nat → Nat → Int64} {q : Nat → Nat → Int32} {ma : Nat → Nat} {b n p : Nat} {c : Nat → Int32} {V : SV} (hl : l0 = V.1) (g : MLd f l12 I J q ma b c n V p) : f ≠ 0 ∨ (l12 = l0 + 1 ∧ l0 < 60) := by
  rcases g with ⟨g1, z, hz, g2, g3, g4, g5⟩ | ⟨g1, g2⟩
  · have h60 := g2.2.2.1
    exact Or.inr ⟨by omega, by omega⟩
  · exact Or.inl g1
set_option maxHeartbeats 4000000 in
set_option maxRecDepth 100000 in
theorem c_v_X11_sea (l : Launch) (G : Gh) (S : Pl) (ma : Nat → Nat) (tt : Nat → Int32) (tn bk : Nat) (hM : shMod S ma) (hI : mInv (pI S) (qI S) ma) (htt : tt = tx (qI S (ma 1)) tn) (hnt : (pI S 102 (ma 0)).toInt = (tn : Int)) (hbk : (pI S 120 (ma 0)).toInt = (bk : Int)) (hbk1 : bk ≤ 1) : MtI l yX11_sea cX11_sea 2 (some .int) (Rm 6 0 0) G [.ref (ma 0)] S (fun (r : Int32) (S' : Pl) => ∃ I' J' q', ch S I' J' q' (qJ S) = S' ∧ mInv I' q' ma ∧ I' 102 (ma 0) = 0 ∧ I' 128 (ma 0) = pI S 128 (ma 0) ∧ I' 140 (ma 0) = pI S 140 (ma 0) ∧ q' (ma 40) = qI S (ma 40) ∧ SEo r.toInt I' (qI S) q' ma bk tt tn) 0 0 := by
  refine MtI.of (by decide) (Nat.le_of_ble_eq_true rfl) ?_
  intro p e s m args below meth c Q A X hw hin hret ls hl
  have hx := X.1.1
  have hb := X.1.2.1
  have hl : lv_has ls 2 [(0, .ref (ma 0))] := hl
  obtain ⟨⟨b1, b2, b3, b4, b5, b6⟩, hT, hP, hC⟩ := id hI
  have hz : tn ≤ 1000 := by omega
  refine lv_aload_n hx hb dX11_sea_0 rfl (lv_at hl 0 rfl) ?_
  refine lv_iconst (v := 0) hx hb dX11_sea_1 (by decide) ?_
  refine pf_X11_11 X hw hM.1 dX11_sea_2 (fun H locs hw => ?_)
  have hw : PX G A s.heap (ch S (up2 (pI S) 104 (ma 0) 0) (pJ S) (qI S) (qJ S)) H locs := hw
  refine lv_aload_n hx hb dX11_sea_5 rfl (lv_at hl 0 rfl) ?_
  refine lv_iconst (v := -1) hx hb dX11_sea_6 (by decide) ?_
  refine pf_X11_14 X hw hM.1 dX11_sea_7 (fun H locs hw => ?_)
  have hw : PX G A s.heap (ch S (up2 (up2 (pI S) 104 (ma 0) 0) 105 (ma 0) (-1)) (pJ S) (qI S) (qJ S)) H locs := hw
  refine lv_aload_n hx hb dX11_sea_10 rfl (lv_at hl 0 rfl) ?_
  refine lv_aload_n hx hb dX11_sea_11 rfl (lv_at hl 0 rfl) ?_
  refine gf_X11_143 (v := (pI S) 102 (ma 0)) X hw hM.1 rfl dX11_sea_12 ?_
  refine pf_X11_1 X hw hM.1 dX11_sea_15 (fun H locs hw => ?_)
  have hw : PX G A s.heap (ch S (up2 (up2 (up2 (pI S) 104 (ma 0) 0) 105 (ma 0) (-1)) 103 (ma 0) ((pI S) 102 (ma 0))) (pJ S) (qI S) (qJ S)) H locs := hw
  refine lv_iconst (v := 0) hx hb dX11_sea_18 (by decide) ?_
  refine lv_istore_n (lv' := [(1, .int 0), (0, .ref (ma 0))]) hx hb dX11_sea_19 rfl hl (by decide) rfl (fun ls hl => ?_)
  have lp20 : ∀ (N9 : Nat) (q20 : Nat → Nat → Int32) (k : Int32), (FrQ 1 ma (qI S) q20) → (0 ≤ k.toInt ∧ k.toInt ≤ 1000) → (q20 (ma 18) = qI S (ma 18)) → (q20 (ma 1) = qI S (ma 1)) → (KeepB (qI S) q20 ma (1 - bk)) → (cpR (q20 (ma 2)) (qI S (ma 1)) k.toNatClampNeg) → (1000 - k.toInt).toNat < N9 → ∀ (H : Heap) (locs : List Loc) (ls : Array Slot), PX G A s.heap (ch S (up2 (up2 (up2 (pI S) 104 (ma 0) 0) 105 (ma 0) (-1)) 103 (ma 0) ((pI S) 102 (ma 0))) (pJ S) q20 (qJ S)) H locs → lv_has ls 2 [(1, .int k), (0, .ref (ma 0))] → W p l e (Rm 6 0 0) s m args below meth c H locs 0 0 Q (F0 m 20 ls []) := by
    intro N9
    induction N9 with
    | zero => intro q20 k hY hk h18 h1r hKB1 hcp hm; exact absurd hm (Nat.not_lt_zero _)
    | succ N9 ih20 =>
      intro q20 k hY hk h18 h1r hKB1 hcp hm H locs ls hw hl
      refine lv_iload_n hx hb dX11_sea_20 rfl (lv_at hl 0 rfl) ?_
      refine lv_aload_n hx hb dX11_sea_21 rfl (lv_at hl 1 rfl) ?_
      refine gf_X11_1 (v := (pI S) 102 (ma 0)) X hw hM.1 (show up2 (up2 (up2 (pI S) 104 (ma 0) 0) 105 (ma 0) (-1)) 103 (ma 0) ((pI S) 102 (ma 0)) 103 (ma 0) = ((pI S) 102 (ma 0)) from up2_s) dX11_sea_22 ?_
      refine lv_icmp_ge (tgt := 46) hx hb dX11_sea_25 (by decide) (fun c25_1 => ?_) (fun c25_1 => ?_)
      · have D25_1 := iLe c25_1 rfl rfl
        have hcpE : cpR (q20 (ma 2)) (qI S (ma 1)) tn := by have e9 := cl_toInt (x := k) hk.1; intro j9 hj9; exact hcp j9 (by omega)
        have htq : tt = tx (q20 (ma 2)) tn := by rw [htt]; exact (tx_c2 hcpE).symm
        refine lv_aload_n hx hb dX11_sea_46 rfl (lv_at hl 1 rfl) ?_
        refine lv_iconst (v := 0) hx hb dX11_sea_47 (by decide) ?_
        refine pf_X11_143 X hw hM.1 dX11_sea_48 (fun H locs hw => ?_)
        have hw : PX G A s.heap (ch S (up2 (up2 (up2 (up2 (pI S) 104 (ma 0) 0) 105 (ma 0) (-1)) 103 (ma 0) ((pI S) 102 (ma 0))) 102 (ma 0) 0) (pJ S) q20 (qJ S)) H locs := hw
        refine lv_aload_n hx hb dX11_sea_51 rfl (lv_at hl 1 rfl) ?_
        refine lv_iconst (v := 0) hx hb dX11_sea_52 (by decide) ?_
        refine pf_X11_17 X hw hM.1 dX11_sea_53 (fun H locs hw => ?_)
        have hw : PX G A s.heap (ch S (up2 (up2 (up2 (up2 (up2 (pI S) 104 (ma 0) 0) 105 (ma 0) (-1)) 103 (ma 0) ((pI S) 102 (ma 0))) 102 (ma 0) 0) 107 (ma 0) 0) (pJ S) q20 (qJ S)) H locs := hw
        refine lv_aload_n hx hb dX11_sea_56 rfl (lv_at hl 1 rfl) ?_
        refine lv_iconst (v := 1) hx hb dX11_sea_57 (by decide) ?_
        refine lv_aload_n hx hb dX11_sea_58 rfl (lv_at hl 1 rfl) ?_
        refine gf_X11_146 (v := (pI S) 120 (ma 0)) X hw hM.1 rfl dX11_sea_59 ?_
        refine lv_isub hx hb dX11_sea_62 ?_
        refine lv_topi (fun v62_2 e62_2 => ?_)
        have t62_2 := iSub e62_2 t_1 rfl (by omega) (by omega)
        have t62 := t62_2
        refine pf_X11_149 X hw hM.1 dX11_sea_63 (fun H locs hw => ?_)
        have hw : PX G A s.heap (ch S (up2 (up2 (up2 (up2 (up2 (up2 (pI S) 104 (ma 0) 0) 105 (ma 0) (-1)) 103 (ma 0) ((pI S) 102 (ma 0))) 102 (ma 0) 0) 107 (ma 0) 0) 121 (ma 0) v62_2) (pJ S) q20 (qJ S)) H locs := hw
        obtain ⟨RB, hRB⟩ : ∃ z, z = (v62_2 : Int32) := ⟨_, rfl⟩
        have hRBt := congrArg Int32.toInt hRB
        have hRBr : 0 ≤ RB.toInt ∧ RB.toInt ≤ 1 := by omega
        have hRBb : RB.toInt = (((1 - bk) : Nat) : Int) := by omega
        have hRBn : RB.toNatClampNeg = (1 - bk) := by have := cl_toInt (x := RB) (by omega); omega
        refine lv_aload_n hx hb dX11_sea_66 rfl (lv_at hl 1 rfl) ?_
        refine lv_aload_n hx hb dX11_sea_67 rfl (lv_at hl 1 rfl) ?_
        refine gf_X11_149 (v := v62_2) X hw hM.1 (show up2 (up2 (up2 (up2 (up2 (up2 (pI S) 104 (ma 0) 0) 105 (ma 0) (-1)) 103 (ma 0) ((pI S) 102 (ma 0))) 102 (ma 0) 0) 107 (ma 0) 0) 121 (ma 0) v62_2 121 (ma 0) = v62_2 from up2_s) dX11_sea_68 ?_
        refine k_Vv (n := 1) X hw (rcvk (ci := 11) X hw hM.1 (fun _ _ _ _ _ _ _ => ⟨_, rfl⟩) rfl) (c_v_X11_clear l G _ ma v62_2 (1 - bk) hM (show (v62_2).toInt = (((1 - bk) : Nat) : Int) by omega) (by omega) (show MsOK (q20 (ma 18)) by rw [h18]; exact hC.2)) wd_r6_11 wd_r6_12 wd_r6_13 wd_r1_5 wd_r6_14 ⟨by decide, by decide, by decide +kernel⟩ rfl rfl ⟨Nat.le_of_ble_eq_true rfl, Nat.le_of_ble_eq_true rfl⟩ rfl rfl hl.1 (Nat.le_of_ble_eq_true rfl) dX11_sea_71 ⟨Nat.le_of_ble_eq_true rfl, Nat.le_of_ble_eq_true rfl⟩ (fun S71_4 H locs h71_3 hw => ?_)
        obtain ⟨q71_5, rfl, h71_3⟩ := h71_3
        have hw : PX G A s.heap (ch S (up2 (up2 (up2 (up2 (up2 (up2 (pI S) 104 (ma 0) 0) 105 (ma 0) (-1)) 103 (ma 0) ((pI S) 102 (ma 0))) 102 (ma 0) 0) 107 (ma 0) 0) 121 (ma 0) v62_2) (pJ S) q71_5 (qJ S)) H locs := hw
        have hcl2 : (q71_5 (ma 12) (1 - bk)).toInt = 0 := h71_3.2.2.1
        have hms2 := h71_3.2.2.2.1
        have hMB0 := h71_3.2.2.2.2
        have hKB2 := hKB1.tr h71_3.2.1
        have htq2 : tt = tx (q71_5 (ma 2)) tn := htq.trans (congrArg (fun r9 => tx r9 tn) (FrQ.at hM h71_3.1 (by decide) (by decide)).symm)
        have hE3 : eM (up2 (up2 (up2 (up2 (up2 (up2 (pI S) 104 (ma 0) 0) 105 (ma 0) (-1)) 103 (ma 0) ((pI S) 102 (ma 0))) 102 (ma 0) 0) 107 (ma 0) 0) 121 (ma 0) v62_2) (ma 0) := eM_of (a := ((pI S) 102 (ma 0) : Int32)) (b := (0 : Int32)) (show up2 (up2 (up2 (pI S) 104 (ma 0) 0) 105 (ma 0) (-1)) 103 (ma 0) ((pI S) 102 (ma 0)) 103 (ma 0) = ((pI S) 102 (ma 0)) from up2_s) (show up2 (up2 (up2 (up2 (up2 (pI S) 104 (ma 0) 0) 105 (ma 0) (-1)) 103 (ma 0) ((pI S) 102 (ma 0))) 102 (ma 0) 0) 107 (ma 0) 0 107 (ma 0) = 0 from up2_s) (by have := t_0; omega)
        have P121 : (up2 (up2 (up2 (up2 (up2 (up2 (pI S) 104 (ma 0) 0) 105 (ma 0) (-1)) 103 (ma 0) ((pI S) 102 (ma 0))) 102 (ma 0) 0) 107 (ma 0) 0) 121 (ma 0) v62_2) 121 (ma 0) = RB := ((show up2 (up2 (up2 (up2 (up2 (up2 (pI S) 104 (ma 0) 0) 105 (ma 0) (-1)) 103 (ma 0) ((pI S) 102 (ma 0))) 102 (ma 0) 0) 107 (ma 0) 0) 121 (ma 0) v62_2 121 (ma 0) = v62_2 from up2_s)).trans hRB.symm
        have P120 : (up2 (up2 (up2 (up2 (up2 (up2 (pI S) 104 (ma 0) 0) 105 (ma 0) (-1)) 103 (ma 0) ((pI S) 102 (ma 0))) 102 (ma 0) 0) 107 (ma 0) 0) 121 (ma 0) v62_2) 120 (ma 0) = pI S 120 (ma 0) := rfl
        have P102 : (up2 (up2 (up2 (up2 (up2 (up2 (pI S) 104 (ma 0) 0) 105 (ma 0) (-1)) 103 (ma 0) ((pI S) 102 (ma 0))) 102 (ma 0) 0) 107 (ma 0) 0) 121 (ma 0) v62_2) 102 (ma 0) = 0 := (show up2 (up2 (up2 (up2 (pI S) 104 (ma 0) 0) 105 (ma 0) (-1)) 103 (ma 0) ((pI S) 102 (ma 0))) 102 (ma 0) 0 102 (ma 0) = 0 from up2_s)
        have P103 : ((up2 (up2 (up2 (up2 (up2 (up2 (pI S) 104 (ma 0) 0) 105 (ma 0) (-1)) 103 (ma 0) ((pI S) 102 (ma 0))) 102 (ma 0) 0) 107 (ma 0) 0) 121 (ma 0) v62_2) 103 (ma 0)).toInt = (tn : Int) := (congrArg Int32.toInt (show (up2 (up2 (up2 (up2 (up2 (up2 (pI S) 104 (ma 0) 0) 105 (ma 0) (-1)) 103 (ma 0) ((pI S) 102 (ma 0))) 102 (ma 0) 0) 107 (ma 0) 0) 121 (ma 0) v62_2) 103 (ma 0) = ((pI S) 102 (ma 0) : Int32) from (show up2 (up2 (up2 (pI S) 104 (ma 0) 0) 105 (ma 0) (-1)) 103 (ma 0) ((pI S) 102 (ma 0)) 103 (ma 0) = ((pI S) 102 (ma 0)) from up2_s))).trans (by omega)
        have P104 : ((up2 (up2 (up2 (up2 (up2 (up2 (pI S) 104 (ma 0) 0) 105 (ma 0) (-1)) 103 (ma 0) ((pI S) 102 (ma 0))) 102 (ma 0) 0) 107 (ma 0) 0) 121 (ma 0) v62_2) 104 (ma 0)).toInt = 0 := (congrArg Int32.toInt (show (up2 (up2 (up2 (up2 (up2 (up2 (pI S) 104 (ma 0) 0) 105 (ma 0) (-1)) 103 (ma 0) ((pI S) 102 (ma 0))) 102 (ma 0) 0) 107 (ma 0) 0) 121 (ma 0) v62_2) 104 (ma 0) = (0 : Int32) from (show up2 (pI S) 104 (ma 0) 0 104 (ma 0) = 0 from up2_s))).trans (by decide)
        have P107 : (up2 (up2 (up2 (up2 (up2 (up2 (pI S) 104 (ma 0) 0) 105 (ma 0) (-1)) 103 (ma 0) ((pI S) 102 (ma 0))) 102 (ma 0) 0) 107 (ma 0) 0) 121 (ma 0) v62_2) 107 (ma 0) = 0 := (show up2 (up2 (up2 (up2 (up2 (pI S) 104 (ma 0) 0) 105 (ma 0) (-1)) 103 (ma 0) ((pI S) 102 (ma 0))) 102 (ma 0) 0) 107 (ma 0) 0 107 (ma 0) = 0 from up2_s)
        have P107n : ((up2 (up2 (up2 (up2 (up2 (up2 (pI S) 104 (ma 0) 0) 105 (ma 0) (-1)) 103 (ma 0) ((pI S) 102 (ma 0))) 102 (ma 0) 0) 107 (ma 0) 0) 121 (ma 0) v62_2) 107 (ma 0)).toNatClampNeg = 0 := by rw [P107]; decide
        refine lv_aload_n hx hb dX11_sea_74 rfl (lv_at hl 1 rfl) ?_
        refine k_Vv (n := 0) X hw (rcvk (ci := 11) X hw hM.1 (fun _ _ _ _ _ _ _ => ⟨_, rfl⟩) rfl) (c_v_X11_next l G _ ma tt tn hM htq2 P103 hz (show 0 ≤ ((up2 (up2 (up2 (up2 (up2 (up2 (pI S) 104 (ma 0) 0) 105 (ma 0) (-1)) 103 (ma 0) ((pI S) 102 (ma 0))) 102 (ma 0) 0) 107 (ma 0) 0) 121 (ma 0) v62_2) 107 (ma 0)).toInt ∧ ((up2 (up2 (up2 (up2 (up2 (up2 (pI S) 104 (ma 0) 0) 105 (ma 0) (-1)) 103 (ma 0) ((pI S) 102 (ma 0))) 102 (ma 0) 0) 107 (ma 0) 0) 121 (ma 0) v62_2) 107 (ma 0)).toInt ≤ (tn : Int) by rw [P107]; have := t_0; omega)) wd_r20_15 wd_r20_16 wd_r20_17 wd_r1_5 wd_r20_18 ⟨by decide, by decide, by decide +kernel⟩ rfl rfl ⟨Nat.le_of_ble_eq_true rfl, Nat.le_of_ble_eq_true rfl⟩ rfl rfl hl.1 (Nat.le_of_ble_eq_true rfl) dX11_sea_75 ⟨Nat.le_of_ble_eq_true rfl, Nat.le_of_ble_eq_true rfl⟩ (fun S75_7 H locs h75_6 hw => ?_)
        obtain ⟨I75_8, J75_9, rfl, h75_6⟩ := h75_6
        have hw : PX G A s.heap (ch S I75_8 J75_9 q71_5 (qJ S)) H locs := hw
        have N1 := h75_6.1
        have hTK0 : mTok I75_8 J75_9 (ma 0) tt tn 0 := by have z9 : mTok I75_8 J75_9 (ma 0) tt tn ((up2 (up2 (up2 (up2 (up2 (up2 (pI S) 104 (ma 0) 0) 105 (ma 0) (-1)) 103 (ma 0) ((pI S) 102 (ma 0))) 102 (ma 0) 0) 107 (ma 0) 0) 121 (ma 0) v62_2) 107 (ma 0)).toNatClampNeg := h75_6.2.1; rw [P107n] at z9; exact z9
        have lp78 : ∀ (N9 : Nat) (I78 : Nat → Nat → Int32) (J78 : Nat → Nat → Int64) (q78 : Nat → Nat → Int32), (FrW (pI S) I78) → (FrQ 1 ma (qI S) q78) → (eM I78 (ma 0)) → (I78 121 (ma 0) = RB) → (I78 120 (ma 0) = pI S 120 (ma 0)) → (I78 102 (ma 0) = 0) → (MsOK (q78 (ma 18))) → (KeepB (qI S) q78 ma (1 - bk)) → (tt = tx (q78 (ma 2)) tn) → ((I78 103 (ma 0)).toInt = (tn : Int)) → (MIt (I78 104 (ma 0)).toInt I78 J78 q78 ma (1 - bk) tt tn) → msz (I78 104 (ma 0)).toInt (q78 (ma 12) (1 - bk)).toInt < N9 → ∀ (H : Heap) (locs : List Loc) (ls : Array Slot), PX G A s.heap (ch S I78 J78 q78 (qJ S)) H locs → lv_has ls 2 [(0, .ref (ma 0))] → W p l e (Rm 6 0 0) s m args below meth c H locs 0 0 Q (F0 m 78 ls []) := by
          intro N9
          induction N9 with
          | zero => intro I78 J78 q78 hF hY2 hE4 hR hK h102 hms3 hKB3 htq3 h103 hst hm; exact absurd hm (Nat.not_lt_zero _)
          | succ N9 ih78 =>
            intro I78 J78 q78 hF hY2 hE4 hR hK h102 hms3 hKB3 htq3 h103 hst hm H locs ls hw hl
            have hRt := congrArg Int32.toInt hR
            refine lv_aload_n hx hb dX11_sea_78 rfl (lv_at hl 0 rfl) ?_
            refine k_Vi (n := 0) X hw (rcvk (ci := 11) X hw hM.1 (fun _ _ _ _ _ _ _ => ⟨_, rfl⟩) rfl) (c_X11_isGood l G _ ma hM) wd_r21_12 wd_r21_13 wd_r21_14 wd_r1_5 wd_r21_15 ⟨by decide, by decide, by decide +kernel⟩ rfl rfl ⟨Nat.le_of_ble_eq_true rfl, Nat.le_of_ble_eq_true rfl⟩ rfl rfl hl.1 (Nat.le_of_ble_eq_true rfl) dX11_sea_79 ⟨Nat.le_of_ble_eq_true rfl, Nat.le_of_ble_eq_true rfl⟩ (fun r79_10 S79_12 H locs h79_11 hw => ?_)
            rcases h79_11 with ⟨rfl, rfl, h79_11⟩ | ⟨rfl, rfl, h79_11⟩
            · have h79_11 : (I78 104 (ma 0) : Int32).toInt = 0 := h79_11
              refine lv_if_eq (tgt := 99) hx hb dX11_sea_82 (by decide) (fun c82_13 => absurd c82_13 (by decide)) (fun c82_13 => ?_)
              refine lv_aload_n hx hb dX11_sea_85 rfl (lv_at hl 0 rfl) ?_
              refine gf_X11_27 (v := I78 108 (ma 0)) X hw hM.1 rfl dX11_sea_86 ?_
              refine lv_if_eq (tgt := 99) hx hb dX11_sea_89 (by decide) (fun c89_14 => ?_) (fun c89_14 => ?_)
              · have D89_14 := iEq c89_14 rfl t_0
                refine lv_aload_n hx hb dX11_sea_99 rfl (lv_at hl 0 rfl) ?_
                refine k_Vi (n := 0) X hw (rcvk (ci := 11) X hw hM.1 (fun _ _ _ _ _ _ _ => ⟨_, rfl⟩) rfl) (c_X11_isGood l G _ ma hM) wd_r21_12 wd_r21_13 wd_r21_14 wd_r1_5 wd_r21_15 ⟨by decide, by decide, by decide +kernel⟩ rfl rfl ⟨Nat.le_of_ble_eq_true rfl, Nat.le_of_ble_eq_true rfl⟩ rfl rfl hl.1 (Nat.le_of_ble_eq_true rfl) dX11_sea_100 ⟨Nat.le_of_ble_eq_true rfl, Nat.le_of_ble_eq_true rfl⟩ (fun r100_15 S100_17 H locs h100_16 hw => ?_)
                rcases h100_16 with ⟨rfl, rfl, h100_16⟩ | ⟨rfl, rfl, h100_16⟩
                · have h100_16 : (I78 104 (ma 0) : Int32).toInt = 0 := h100_16
                  refine lv_if_ne (tgt := 108) hx hb dX11_sea_103 (by decide) (fun c103_18 => ?_) (fun c103_18 => absurd c103_18 (by decide))
                  refine lv_aload_n hx hb dX11_sea_108 rfl (lv_at hl 0 rfl) ?_
                  refine lv_aload_n hx hb dX11_sea_109 rfl (lv_at hl 0 rfl) ?_
                  refine gf_X11_149 (v := I78 121 (ma 0)) X hw hM.1 rfl dX11_sea_110 ?_
                  refine pf_X11_146 X hw hM.1 dX11_sea_113 (fun H locs hw => ?_)
                  have hw : PX G A s.heap (ch S (up2 I78 120 (ma 0) (I78 121 (ma 0))) J78 q78 (qJ S)) H locs := hw
                  obtain ⟨V9, p9, hp9, hTK9, hMB9, hl9, hvk9, hP9⟩ := hst.ok (by omega)
                  have h8k := hTK9.2.2.1
                  have hk91 : tK tt tn p9 = 1 := mK0.mp (by omega)
                  refine lv_aload_n hx hb dX11_sea_116 rfl (lv_at hl 0 rfl) ?_
                  refine gf_X11_61 (b := (ma 12)) X hw hM.1 (mr_12 hM) dX11_sea_117 ?_
                  refine lv_aload_n hx hb dX11_sea_120 rfl (lv_at hl 0 rfl) ?_
                  refine gf_X11_146 (v := I78 121 (ma 0)) X hw hM.1 (show up2 I78 120 (ma 0) (I78 121 (ma 0)) 120 (ma 0) = (I78 121 (ma 0)) from up2_s) dX11_sea_121 ?_
                  refine q_ldI X hw (mk_12 hM) (vin (mn_12 hM) (by omega) (by omega)) dX11_sea_124 ?_
                  refine lv_topi (fun v124_19 e124_19 => ?_)
                  have e124_19 : v124_19 = q78 (ma 12) ((I78 121 (ma 0)).toNatClampNeg) := e124_19
                  have e124n := e124_19
                  exact hret v124_19 _ _ _ _ _ ⟨_, _, _, rfl, mInv_w hM hI (FrW.up (f := 120) (by decide) hF) hY2 (show 0 ≤ (I78 102 (ma 0)).toInt ∧ (I78 102 (ma 0)).toInt ≤ 1000 by rw [h102]; have := t_0; omega) hE4 (by rw [show (up2 I78 120 (ma 0) (I78 121 (ma 0))) 120 (ma 0) = (I78 121 (ma 0) : Int32) from (show up2 I78 120 (ma 0) (I78 121 (ma 0)) 120 (ma 0) = (I78 121 (ma 0)) from up2_s), hR]; omega) (show 0 ≤ (I78 121 (ma 0)).toInt ∧ (I78 121 (ma 0)).toInt ≤ 1 by rw [hR]; omega) hms3, (show I78 102 (ma 0) = 0 from h102), congrFun ((FrW.up (f := 120) (by decide) hF) 128 (by decide)) (ma 0), congrFun ((FrW.up (f := 120) (by decide) hF) 140 (by decide)) (ma 0), FrQ.at hM hY2 (by decide) (by decide), Or.inl ⟨V9, MI_e hvk9 hP9 hk91, (by rw [e124n, hR, hRBn]; exact hl9), (by rw [show (up2 I78 120 (ma 0) (I78 121 (ma 0))) 120 (ma 0) = (I78 121 (ma 0) : Int32) from (show up2 I78 120 (ma 0) (I78 121 (ma 0)) 120 (ma 0) = (I78 121 (ma 0)) from up2_s), hR]; exact hRBb), hMB9, hl9, hvk9⟩⟩ hw rfl dX11_sea_125
                · have h100_16 : ¬ ((I78 104 (ma 0) : Int32).toInt = 0) := h100_16
                  refine lv_if_ne (tgt := 108) hx hb dX11_sea_103 (by decide) (fun c103_20 => absurd c103_20 (by decide)) (fun c103_20 => ?_)
                  refine lv_iconst (v := -1) hx hb dX11_sea_106 (by decide) ?_
                  exact hret (-1) _ _ _ _ _ ⟨_, _, _, rfl, mInv_w hM hI hF hY2 (by rw [h102]; have := t_0; omega) hE4 (by rw [hK]; exact b3) (by rw [hR]; omega) hms3, h102, congrFun (hF 128 (by decide)) (ma 0), congrFun (hF 140 (by decide)) (ma 0), FrQ.at hM hY2 (by decide) (by decide), Or.inr ⟨hst.no (by omega), (by decide), (by rw [hK]; exact hbk), hKB3⟩⟩ hw rfl dX11_sea_107
              · have D89_14 := iNe c89_14 rfl t_0
                obtain ⟨V9, p9, hp9, hTK9, hMB9, hl9, hvk9, hP9⟩ := hst.ok (by omega)
                have h8k := hTK9.2.2.1
                have hk91 : tK tt tn p9 ≠ 1 := fun q9 => by rw [q9] at h8k; have e9 : mKd 1 = 0 := (by decide); have e8 := t_0; omega
                refine lv_aload_n hx hb dX11_sea_92 rfl (lv_at hl 0 rfl) ?_
                refine k_Vv (n := 0) X hw (rcvk (ci := 11) X hw hM.1 (fun _ _ _ _ _ _ _ => ⟨_, rfl⟩) rfl) (c_v_X11_readLine l G _ ma tt tn p9 (1 - bk) V9 hM htq3 h103 hz hp9 (Or.inl ⟨(by omega), trivial, hTK9⟩) (hRt.trans hRBb) (by omega) hMB9 hvk9 hms3 hE4 hl9) wd_r21_16 wd_r21_17 wd_r21_18 wd_r1_5 wd_r21_19 ⟨by decide, by decide, by decide +kernel⟩ rfl rfl ⟨Nat.le_of_ble_eq_true rfl, Nat.le_of_ble_eq_true rfl⟩ rfl rfl hl.1 (Nat.le_of_ble_eq_true rfl) dX11_sea_93 ⟨Nat.le_of_ble_eq_true rfl, Nat.le_of_ble_eq_true rfl⟩ (fun S93_22 H locs h93_21 hw => ?_)
                obtain ⟨I93_23, J93_24, q93_25, rfl, h93_21⟩ := h93_21
                have hw : PX G A s.heap (ch S I93_23 J93_24 q93_25 (qJ S)) H locs := hw
                have M1 := h93_21.1
                have hKB4 := hKB3.tr h93_21.2.2.1
                have hms4 := h93_21.2.2.2.1
                have HLD := h93_21.2.2.2.2.1
                have htq4 : tt = tx (q93_25 (ma 2)) tn := htq3.trans (congrArg (fun r9 => tx r9 tn) (FrQ.at hM h93_21.2.1 (by decide) (by decide)).symm)
                refine lv_goto (tgt := 78) hx hb dX11_sea_96 (by decide) ?_
                exact ih78 I93_23 J93_24 q93_25  (FrW.tr hF (h93_21.1.w)) (FrQ.tr hY2 (FrQ.lo (by decide) h93_21.2.1)) h93_21.2.2.2.2.2 ((congrFun (M1 121 (by decide)) (ma 0)).trans hR) ((congrFun (M1 120 (by decide)) (ma 0)).trans hK) ((congrFun (M1 102 (by decide)) (ma 0)).trans h102) hms4 hKB4 htq4 ((congrArg Int32.toInt (congrFun (M1 103 (by decide)) (ma 0))).trans h103) (MI_s hp9 hvk9 hP9 hk91 HLD rfl) (msz_dec (by assumption) (ML_m hl9 HLD) hm) _ _ _ hw (lv_sub hl [0] rfl)
            · have h79_11 : ¬ ((I78 104 (ma 0) : Int32).toInt = 0) := h79_11
              refine lv_if_eq (tgt := 99) hx hb dX11_sea_82 (by decide) (fun c82_26 => ?_) (fun c82_26 => absurd c82_26 (by decide))
              refine lv_aload_n hx hb dX11_sea_99 rfl (lv_at hl 0 rfl) ?_
              refine k_Vi (n := 0) X hw (rcvk (ci := 11) X hw hM.1 (fun _ _ _ _ _ _ _ => ⟨_, rfl⟩) rfl) (c_X11_isGood l G _ ma hM) wd_r21_12 wd_r21_13 wd_r21_14 wd_r1_5 wd_r21_15 ⟨by decide, by decide, by decide +kernel⟩ rfl rfl ⟨Nat.le_of_ble_eq_true rfl, Nat.le_of_ble_eq_true rfl⟩ rfl rfl hl.1 (Nat.le_of_ble_eq_true rfl) dX11_sea_100 ⟨Nat.le_of_ble_eq_true rfl, Nat.le_of_ble_eq_true rfl⟩ (fun r100_27 S100_29 H locs h100_28 hw => ?_)
              rcases h100_28 with ⟨rfl, rfl, h100_28⟩ | ⟨rfl, rfl, h100_28⟩
              · have h100_28 : (I78 104 (ma 0) : Int32).toInt = 0 := h100_28
                refine lv_if_ne (tgt := 108) hx hb dX11_sea_103 (by decide) (fun c103_30 => ?_) (fun c103_30 => absurd c103_30 (by decide))
                refine lv_aload_n hx hb dX11_sea_108 rfl (lv_at hl 0 rfl) ?_
                refine lv_aload_n hx hb dX11_sea_109 rfl (lv_at hl 0 rfl) ?_
                refine gf_X11_149 (v := I78 121 (ma 0)) X hw hM.1 rfl dX11_sea_110 ?_
                refine pf_X11_146 X hw hM.1 dX11_sea_113 (fun H locs hw => ?_)
                have hw : PX G A s.heap (ch S (up2 I78 120 (ma 0) (I78 121 (ma 0))) J78 q78 (qJ S)) H locs := hw
                obtain ⟨V9, p9, hp9, hTK9, hMB9, hl9, hvk9, hP9⟩ := hst.ok (by omega)
                have h8k := hTK9.2.2.1
                have hk91 : tK tt tn p9 = 1 := mK0.mp (by omega)
                refine lv_aload_n hx hb dX11_sea_116 rfl (lv_at hl 0 rfl) ?_
                refine gf_X11_61 (b := (ma 12)) X hw hM.1 (mr_12 hM) dX11_sea_117 ?_
                refine lv_aload_n hx hb dX11_sea_120 rfl (lv_at hl 0 rfl) ?_
                refine gf_X11_146 (v := I78 121 (ma 0)) X hw hM.1 (show up2 I78 120 (ma 0) (I78 121 (ma 0)) 120 (ma 0) = (I78 121 (ma 0)) from up2_s) dX11_sea_121 ?_
                refine q_ldI X hw (mk_12 hM) (vin (mn_12 hM) (by omega) (by omega)) dX11_sea_124 ?_
                refine lv_topi (fun v124_31 e124_31 => ?_)
                have e124_31 : v124_31 = q78 (ma 12) ((I78 121 (ma 0)).toNatClampNeg) := e124_31
                have e124n := e124_31
                exact hret v124_31 _ _ _ _ _ ⟨_, _, _, rfl, mInv_w hM hI (FrW.up (f := 120) (by decide) hF) hY2 (show 0 ≤ (I78 102 (ma 0)).toInt ∧ (I78 102 (ma 0)).toInt ≤ 1000 by rw [h102]; have := t_0; omega) hE4 (by rw [show (up2 I78 120 (ma 0) (I78 121 (ma 0))) 120 (ma 0) = (I78 121 (ma 0) : Int32) from (show up2 I78 120 (ma 0) (I78 121 (ma 0)) 120 (ma 0) = (I78 121 (ma 0)) from up2_s), hR]; omega) (show 0 ≤ (I78 121 (ma 0)).toInt ∧ (I78 121 (ma 0)).toInt ≤ 1 by rw [hR]; omega) hms3, (show I78 102 (ma 0) = 0 from h102), congrFun ((FrW.up (f := 120) (by decide) hF) 128 (by decide)) (ma 0), congrFun ((FrW.up (f := 120) (by decide) hF) 140 (by decide)) (ma 0), FrQ.at hM hY2 (by decide) (by decide), Or.inl ⟨V9, MI_e hvk9 hP9 hk91, (by rw [e124n, hR, hRBn]; exact hl9), (by rw [show (up2 I78 120 (ma 0) (I78 121 (ma 0))) 120 (ma 0) = (I78 121 (ma 0) : Int32) from (show up2 I78 120 (ma 0) (I78 121 (ma 0)) 120 (ma 0) = (I78 121 (ma 0)) from up2_s), hR]; exact hRBb), hMB9, hl9, hvk9⟩⟩ hw rfl dX11_sea_125
              · have h100_28 : ¬ ((I78 104 (ma 0) : Int32).toInt = 0) := h100_28
                refine lv_if_ne (tgt := 108) hx hb dX11_sea_103 (by decide) (fun c103_32 => absurd c103_32 (by decide)) (fun c103_32 => ?_)
                refine lv_iconst (v := -1) hx hb dX11_sea_106 (by decide) ?_
                exact hret (-1) _ _ _ _ _ ⟨_, _, _, rfl, mInv_w hM hI hF hY2 (by rw [h102]; have := t_0; omega) hE4 (by rw [hK]; exact b3) (by rw [hR]; omega) hms3, h102, congrFun (hF 128 (by decide)) (ma 0), congrFun (hF 140 (by decide)) (ma 0), FrQ.at hM hY2 (by decide) (by decide), Or.inr ⟨hst.no (by omega), (by decide), (by rw [hK]; exact hbk), hKB3⟩⟩ hw rfl dX11_sea_107
        exact lp78 _ I75_8 J75_9 q71_5  (FrW.tr (FrW.up (f := 121) (by decide) (FrW.up (f := 107) (by decide) (FrW.up (f := 102) (by decide) (FrW.up (f := 103) (by decide) (FrW.up (f := 105) (by decide) (FrW.up (f := 104) (by decide) FrW.rf)))))) (h75_6.1.m.w)) (FrQ.tr hY (FrQ.lo (by decide) h71_3.1)) h75_6.2.2 ((congrFun (N1 121 (by decide)) (ma 0)).trans P121) ((congrFun (N1 120 (by decide)) (ma 0)).trans P120) ((congrFun (N1 102 (by decide)) (ma 0)).trans P102) hms2 hKB2 htq2 ((congrArg Int32.toInt (congrFun (N1 103 (by decide)) (ma 0))).trans P103) (Or.inl ⟨(congrArg Int32.toInt (congrFun (N1 104 (by decide)) (ma 0))).trans P104, sv0, 0, Nat.zero_le _, hTK0, hMB0, hcl2, vok_0, fun o ho => ho⟩) (Nat.lt_succ_self _) _ _ _ hw (lv_sub hl [1] rfl)
      · have D25_1 := iNle c25_1 rfl rfl
        refine lv_aload_n hx hb dX11_sea_28 rfl (lv_at hl 1 rfl) ?_
        refine gf_X11_7 (b := (ma 2)) X hw hM.1 (mr_2 hM) dX11_sea_29 ?_
        refine lv_iload_n hx hb dX11_sea_32 rfl (lv_at hl 0 rfl) ?_
        refine lv_aload_n hx hb dX11_sea_33 rfl (lv_at hl 1 rfl) ?_
        refine gf_X11_58 (b := (ma 1)) X hw hM.1 (mr_1 hM) dX11_sea_34 ?_
        refine lv_iload_n hx hb dX11_sea_37 rfl (lv_at hl 0 rfl) ?_
        refine q_ldB X hw (mk_1 hM) (vin (mn_1 hM) (by omega) (by omega)) dX11_sea_38 ?_
        refine lv_topi (fun v38_33 e38_33 => ?_)
        have e38_33 : v38_33 = q20 (ma 1) k.toNatClampNeg := e38_33
        have e38n := e38_33
        refine q_stB X hw (mk_2 hM) (vin (mn_2 hM) (by omega) (by omega)) dX11_sea_39 (fun H locs hw => ?_)
        obtain ⟨q39_34, eq39_34, hw⟩ : ∃ zz9, zz9 = va_up q20 (ma 2) (upd (q20 (ma 2)) k.toNatClampNeg (vp_nar .byte v38_33)) ∧ PX G A s.heap (ch S (up2 (up2 (up2 (pI S) 104 (ma 0) 0) 105 (ma 0) (-1)) 103 (ma 0) ((pI S) 102 (ma 0))) (pJ S) zz9 (qJ S)) H locs := ⟨_, rfl, hw⟩
        have c39 := eq39_34
        obtain ⟨v40_35, e40_35⟩ : ∃ y : Int32, y = k + 1 := ⟨_, rfl⟩
        have t40_35 := iAdd e40_35 rfl t_1 (by omega) (by omega)
        have t40 := t40_35
        refine lv_iinc (v := v40_35) (lv' := [(1, .int v40_35), (0, .ref (ma 0))]) hx hb dX11_sea_40 hl (k := 0) rfl (by rw [e40_35]; rfl) (by decide) rfl (fun ls hl => ?_)
        refine lv_goto (tgt := 20) hx hb dX11_sea_43 (by decide) ?_
        exact ih20 q39_34 v40_35 (FrQ.ez eq39_34 (FrQ.up (j := 2) (by decide) (by decide) hY)) (by omega) (by rw [row_keep hM c39 (i := 18) (by decide) (by decide) (by decide)]; exact h18) (by rw [row_keep hM c39 (i := 1) (by decide) (by decide) (by decide)]; exact h1r) (hKB1.tr (fun j9 h9 h8 i9 _ => congrFun (row_keep hM c39 (i := j9) (by omega) (by decide) (by omega)) i9)) (cpR_s hcp hk.1 t40 (by rw [e38n, h1r]) c39) (by omega) _ _ _ hw (lv_sub hl [0, 1] rfl)
  exact lp20 _ (qI S) 0 FrQ.rf (by have := t_0; omega) rfl rfl KeepB.rf (fun j9 h9 => absurd h9 (by rw [show (0 : Int32).toNatClampNeg = 0 by decide]; omega)) (Nat.lt_succ_self _) _ _ _ hw (lv_sub hl [0, 1] rfl)
