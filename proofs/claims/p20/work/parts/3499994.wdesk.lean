
/-! ===== the desk's tales and proofs, with what they were told ===== -/
abbrev PP : Type := Int32 × Int32 × Int32 × Int32 × Int32 × Int32 × Int32
def pfR (S : Pl) (b : Nat) (p : PP) : Prop := (pK S b = 4 ∧ pI S 31 b = p.1 ∧ pI S 32 b = p.2.1 ∧ pI S 33 b = p.2.2.1 ∧ pI S 34 b = p.2.2.2.1 ∧ pI S 35 b = p.2.2.2.2.1 ∧ pI S 36 b = p.2.2.2.2.2.1 ∧ pI S 37 b = p.2.2.2.2.2.2 ∧ (0 ≤ p.2.2.2.2.2.1.toInt ∧ p.2.2.2.2.2.1.toInt < 2 ∧ 0 ≤ p.2.2.2.2.2.2.toInt ∧ p.2.2.2.2.2.2.toInt ≤ 20)) ∨ (pK S b = 0 ∧ pI S 1 b = p.1 ∧ pI S 2 b = p.2.1 ∧ pI S 3 b = p.2.2.1 ∧ pI S 4 b = p.2.2.2.1 ∧ p.2.2.2.2.1 = 0 ∧ p.2.2.2.2.2.1 = 2 ∧ pI S 5 b = p.2.2.2.2.2.2 ∧ (0 ≤ p.2.1.toInt ∧ p.2.1.toInt < 80 ∧ 0 ≤ p.2.2.1.toInt ∧ p.2.2.1.toInt < 80))
def PV (S : Pl) (pe : Nat → Nat) (np : Nat) (pl : Nat → PP) : Prop := ∀ k, k < np → pfR S (pe k) (pl k) ∧ 0 ≤ (pl k).1.toInt ∧ (pl k).1.toInt ≤ 72
def pfl (f : Nat) : Prop := (1 ≤ f ∧ f ≤ 5) ∨ (31 ≤ f ∧ f ≤ 37)
theorem pfR.fr {S T : Pl} {b : Nat} {p : PP} (h : pfR S b p) (hK : pK T b = pK S b) (hI : ∀ f, pfl f → pI T f b = pI S f b) : pfR T b p := by
  unfold pfR at *
  rw [hK, hI 31 (by unfold pfl; omega), hI 32 (by unfold pfl; omega), hI 33 (by unfold pfl; omega), hI 34 (by unfold pfl; omega), hI 35 (by unfold pfl; omega), hI 36 (by unfold pfl; omega), hI 37 (by unfold pfl; omega), hI 1 (by unfold pfl; omega), hI 2 (by unfold pfl; omega), hI 3 (by unfold pfl; omega), hI 4 (by unfold pfl; omega), hI 5 (by unfold pfl; omega)]
  exact h
theorem PV.fr {S T : Pl} {pe : Nat → Nat} {np : Nat} {pl : Nat → PP} (h : PV S pe np pl) (hK : ∀ k, k < np → pK T (pe k) = pK S (pe k)) (hI : ∀ k, k < np → ∀ f, pfl f → pI T f (pe k) = pI S f (pe k)) : PV T pe np pl := fun k hk => ⟨(h k hk).1.fr (hK k hk) (hI k hk), (h k hk).2⟩
theorem PV.ad {S U : Pl} {pe : Nat → Nat} {np b : Nat} {pl : Nat → PP} {p : PP} (h : PV S pe np pl) (hK : ∀ k, k < np → pK U (pe k) = pK S (pe k)) (hI : ∀ k, k < np → ∀ f, pfl f → pI U f (pe k) = pI S f (pe k)) (hb : pfR U b p) (hm : 0 ≤ p.1.toInt ∧ p.1.toInt ≤ 72) : PV U (va_up pe np b) (np + 1) (fun k => if k = np then p else pl k) := fun k hk => by
  by_cases e : k = np
  · subst e; rw [vu_s]; simp only [if_true]; exact ⟨hb, hm⟩
  · rw [vu_n e]; simp only [if_neg e]; exact ⟨(h k (by omega)).1.fr (hK k (by omega)) (hI k (by omega)), (h k (by omega)).2⟩
theorem TV.fr {S T : Pl} {te tm : Nat → Nat} {nt : Nat} {tl : Nat → TP} {V : SV} (h : TV S te tm nt tl V) (hI : ∀ k, k < nt → ∀ f, 50 ≤ f → f ≤ 54 → pI T f (te k) = pI S f (te k)) (hq : ∀ k, k < nt → qI T (tm k) = qI S (tm k)) : TV T te tm nt tl V := by
  refine ⟨fun k hk => ?_, h.2⟩
  have z := h.1 k hk
  refine ⟨?_, z.2.1, fun t ht => (congrFun (hq k hk) t).trans (z.2.2 t ht)⟩
  rw [hI k hk 50 (by decide) (by decide), hI k hk 51 (by decide) (by decide), hI k hk 52 (by decide) (by decide), hI k hk 53 (by decide) (by decide), hI k hk 54 (by decide) (by decide)]
  exact z.1
/-- drifted anew -/
theorem TV.dr {S T : Pl} {te tm : Nat → Nat} {nt : Nat} {tl : Nat → TP} {V W : SV} (h : TV S te tm nt tl V) (hI : ∀ k, k < nt → ∀ f, 50 ≤ f → f ≤ 54 → pI T f (te k) = pI S f (te k)) (hm : ∀ k, k < nt → ∀ t, t ≤ 72 → qI T (tm k) t = mrk (drA W.2 (tl k) t)) : TV T te tm nt tl W := by
  refine ⟨fun k hk => ?_, h.2⟩
  have z := h.1 k hk
  refine ⟨?_, z.2.1, hm k hk⟩
  rw [hI k hk 50 (by decide) (by decide), hI k hk 51 (by decide) (by decide), hI k hk 52 (by decide) (by decide), hI k hk 53 (by decide) (by decide), hI k hk 54 (by decide) (by decide)]
  exact z.1
theorem TV.ad {S U : Pl} {te tm : Nat → Nat} {nt b tb : Nat} {tl : Nat → TP} {V : SV} {P : TP} (h : TV S te tm nt tl V) (hI : ∀ k, k < nt → ∀ f, 50 ≤ f → f ≤ 54 → pI U f (te k) = pI S f (te k)) (hq : ∀ k, k < nt → qI U (tm k) = qI S (tm k)) (hne : ∀ k, k < nt → tm k ≠ tb) (hf : pI U 50 b = P.1 ∧ pI U 51 b = P.2.1 ∧ pI U 52 b = P.2.2.1 ∧ pI U 53 b = P.2.2.2.1 ∧ pI U 54 b = P.2.2.2.2) (hr : tpR P) (hm : ∀ t, t ≤ 72 → qI U tb t = mrk (drA V.2 P t)) : TV U (va_up te nt b) (va_up tm nt tb) (nt + 1) (fun k => if k = nt then P else tl k) V := by
  have g := h.fr hI hq
  refine ⟨fun k hk => ?_, fun j k hj hk => ?_⟩
  · by_cases e : k = nt
    · subst e; rw [vu_s, vu_s]; simp only [if_true]; exact ⟨hf, hr, hm⟩
    · rw [vu_n e, vu_n e]; simp only [if_neg e]; exact g.1 k (by omega)
  · by_cases e : j = nt
    · by_cases e2 : k = nt
      · intro _; omega
      · subst e; rw [vu_s, vu_n e2]; intro q; exact absurd q.symm (hne k (by omega))
    · by_cases e2 : k = nt
      · subst e2; rw [vu_s, vu_n e]; intro q; exact absurd q (hne j (by omega))
      · rw [vu_n e, vu_n e2]; exact h.2 j k (by omega) (by omega)
def DeskW (G : Gh) (S : Pl) (da : Nat) (z : Int) (nt np : Nat) (bk bt : Nat → Int32) (V : SV) (tl : Nat → TP) (pl : Nat → PP) : Prop := ∃ (d sa sb sp te tm pe : Nat → Nat) (tf pf : Nat), d 0 = da ∧ CIs G S d sa sb sp te tm pe tf pf nt np ∧ CIn (pI S) d te pe nt np ∧ (pI S 61 (d 1)).toInt = z ∧ (∀ k, k < np → pI S 0 (pe k) = bk k) ∧ Apt d sa sb sp ∧ CV S d sa z bt V ∧ TV S te tm nt tl V ∧ PV S pe np pl
theorem shSpl.k15 {S : Pl} {sp : Nat → Nat} (h : shSpl S sp) : ∀ k, 1 ≤ k → k ≤ 5 → pK S (sp k) ≠ 15 := by
  obtain ⟨h1, h2, h3, h4, h5, h6, h7, h8, h9, h10, h11, h12, h13, h14, h15, h16, h17⟩ := h
  have u : ∀ {k a : Nat}, is S k a → k ≠ 15 → pK S a ≠ 15 := fun z n e => n (z.2.symm.trans e)
  intro k k1 k5
  rcases (show k = 1 ∨ k = 2 ∨ k = 3 ∨ k = 4 ∨ k = 5 by omega) with rfl | rfl | rfl | rfl | rfl
  · exact u h7 (by decide)
  · exact u h9 (by decide)
  · exact u h11 (by decide)
  · exact u h13 (by decide)
  · exact u h15 (by decide)
theorem pfl_61 {f : Nat} (h : pfl f) : f ≠ 61 := by unfold pfl at h; omega
theorem pfl_78 {f : Nat} (h : pfl f) : f ≠ 78 := by unfold pfl at h; omega
theorem pfl_0 {f : Nat} (h : pfl f) : f ≠ 0 := by unfold pfl at h; omega
theorem rd_no {f : Nat} (h : 50 ≤ f ∧ f ≤ 54) : f ∉ rdF := by
  have L : ∀ f, f < 55 → 50 ≤ f → f ∉ rdF := by decide
  exact L f (by omega) h.1
theorem rd_np {f : Nat} (h : pfl f) : f ∉ rdF := by
  have L : ∀ f, f < 38 → ((1 ≤ f ∧ f ≤ 5) ∨ (31 ≤ f ∧ f ≤ 37)) → f ∉ rdF := by decide
  exact L f (by unfold pfl at h; omega) h
theorem isO_m {S T : Pl} {q k a : Nat} (e : T = nO S q k) (h : a ∈ pL S) : a ∈ pL T := by subst e; exact List.mem_append_left _ h
theorem ob_m {S : Pl} {a : Nat} (h : is S 0 a ∨ is S 4 a) : a ∈ pL S := h.elim (fun q => q.1) (fun q => q.1)
theorem dr_s {q q1 : Nat → Nat → Int32} {tm : Nat → Nat} {W : SV} {tl : Nat → TP} {i i' : Int32} (h : ∀ k, k < i.toNatClampNeg → ∀ t, t ≤ 72 → q (tm k) t = mrk (drA W.2 (tl k) t)) (h0 : 0 ≤ i.toInt) (ti : i'.toInt = i.toInt + 1) (ho : ∀ a, a ≠ tm i.toNatClampNeg → q1 a = q a) (hm : ∀ t, t ≤ 72 → q1 (tm i.toNatClampNeg) t = mrk (drA W.2 (tl i.toNatClampNeg) t)) (hn : ∀ k, k < i.toNatClampNeg → tm k ≠ tm i.toNatClampNeg) : ∀ k, k < i'.toNatClampNeg → ∀ t, t ≤ 72 → q1 (tm k) t = mrk (drA W.2 (tl k) t) := fun k hk t ht => by
  have e1 := cl_toInt h0
  have e2 := cl_toInt (x := i') (by omega)
  by_cases e : k = i.toNatClampNeg
  · rw [e]; exact hm t ht
  · rw [ho _ (hn k (by omega))]; exact h k (by omega) t ht
theorem DeskV.w0 {G : Gh} {S : Pl} {x : Nat} {z : Int} {bk bt : Nat → Int32} {V : SV} {tl : Nat → TP} {pl : Nat → PP} (h : DeskV G S x z 0 0 bk bt V) : DeskW G S x z 0 0 bk bt V tl pl := by
  obtain ⟨d, sa, sb, sp, te, tm, pe, tf, pf, h1, h2, h3, h4, h5, h6, h7⟩ := h
  exact ⟨d, sa, sb, sp, te, tm, pe, tf, pf, h1, h2, h3, h4, h5, h6, h7, ⟨fun k h => absurd h (Nat.not_lt_zero _), fun j k h => absurd h (Nat.not_lt_zero _)⟩, fun k h => absurd h (Nat.not_lt_zero _)⟩
set_option maxHeartbeats 4000000 in
set_option maxRecDepth 100000 in
theorem c_w_X10_sea (l : Launch) (G : Gh) (S : Pl) (d sa sb sp te tm pe : Nat → Nat) (tf pf nt np : Nat) (bt : Nat → Int32) (V : SV) (tl : Nat → TP) (pl : Nat → PP) (tn : Nat) (hC : CIs G S d sa sb sp te tm pe tf pf nt np) (hN : CIn (pI S) d te pe nt np) (hAp : Apt d sa sb sp) (hCV : CV S d sa (pI S 61 (d 1)).toInt bt V) (hTV : TV S te tm nt tl V) (hPV : PV S pe np pl) (hn : (pI S 61 (d 1)).toInt = (tn : Int)) : MtI l yX10_sea cX10_sea 4 (some .int) (Rm 8 0 0) G [.ref (d 0)] S (fun (r : Int32) (S' : Pl) => (∃ V9 : SV, Pars (tx bt tn) tn 61 sv0 0 (some V9) ∧ r.toInt = V9.1 ∧ DeskW G S' (d 0) 0 nt np (fun k => pI S 0 (pe k)) bt V9 tl pl) ∨ (Pars (tx bt tn) tn 61 sv0 0 none ∧ r = -1 ∧ DeskW G S' (d 0) 0 nt np (fun k => pI S 0 (pe k)) bt V tl pl)) 0 0 := by
  refine MtI.of (by decide) (Nat.le_of_ble_eq_true rfl) ?_
  intro p e s m args below meth c Q A X hw hin hret ls hl
  have hx := X.1.1
  have hb := X.1.2.1
  have hl : lv_has ls 4 [(0, .ref (d 0))] := hl
  obtain ⟨k0, r70, r71, r72, r73, r74, r75, r76, r77, hR, hS, hB, hSp, ⟨kco, nco⟩, lT, lP, n68, n79, hTl, hPk, hPi, n40⟩ := id hC
  obtain ⟨z92, z93, zw, zz, zst, zs6⟩ := id hN
  have hTp := hR.2.2.2.2.2.2.2
  have n60 := lP.2.2.1
  have oS := hS
  have oTp := hTp
  have oPk := hPk
  have oTl := hTl
  have oC := hC
  refine lv_aload_n hx hb dX10_sea_0 rfl (lv_at hl 0 rfl) ?_
  refine gf_X10_21 (b := (d 3)) X hw k0 r71 dX10_sea_1 ?_
  refine lv_aload_n hx hb dX10_sea_4 rfl (lv_at hl 0 rfl) ?_
  refine gf_X10_53 (b := (sb 0)) X hw k0 r77 dX10_sea_5 ?_
  refine k_Vi (n := 1) X hw (rcvk (ci := 4) X hw hR.1 (fun _ _ _ _ _ _ _ => ⟨_, rfl⟩) rfl) (c_v_X4_readInto l G _ (d 3) (d 4) (d 5) (d 1) (d 2) (tx bt tn) tn sb hR hB hAp.2.1 (tx_cong (fun i9 h9 => (hCV.1 i9 (by omega)).symm)) hn (by omega) (fun j9 h9 => (hAp.2.2.2.1 j9 h9).2.2.1) (fun j9 h9 => (hAp.2.2.2.1 j9 h9).2.1)) wd_r8_9 wd_r8_10 wd_r8_11 wd_r1_18 wd_r8_12 ⟨by decide, by decide, by decide +kernel⟩ rfl rfl ⟨Nat.le_of_ble_eq_true rfl, Nat.le_of_ble_eq_true rfl⟩ rfl rfl hl.1 (Nat.le_of_ble_eq_true rfl) dX10_sea_8 ⟨Nat.le_of_ble_eq_true rfl, Nat.le_of_ble_eq_true rfl⟩ (fun r8_1 S8_3 H locs h8_2 hw => ?_)
  obtain ⟨I8_4, q8_5, rfl, h8_2⟩ := h8_2
  have hw : PX G A s.heap (ch S I8_4 (pJ S) q8_5 (qJ S)) H locs := hw
  have HF := h8_2.1
  have HQ := h8_2.2.1
  have H15 := h8_2.2.2.1
  have HRo := h8_2.2.2.2
  have hN1 : CIn I8_4 d te pe nt np := hN.rd HF
  have zz1 := hN1.2.2.2.1
  have hks : ∀ j ∈ sidR, q8_5 (sa j) = qI S (sa j) := fun j9 h9 => HQ _ (hAp.2.2.2.1 j9 h9).1.2.1 (fun i9 h8 => hAp.2.2.1 j9 h9 i9 h8)
  have hi15 : I8_4 15 (sa 0) = pI S 15 (sa 0) := H15 _ hAp.2.2.2.2
  have hkt : ∀ k, k < nt → q8_5 (tm k) = qI S (tm k) := fun k9 h9 => HQ _ (ne_kind (hTl k9 h9).2.2.1 hR.2.2.2.1 (by decide)) (fun i9 h8 e9 => sea_tm hB (hTl k9 h9) i9 h8 e9.symm)
  refine lv_istore_n (lv' := [(1, .int r8_1), (0, .ref (d 0))]) hx hb dX10_sea_11 rfl hl (by decide) rfl (fun ls hl => ?_)
  refine lv_aload_n hx hb dX10_sea_12 rfl (lv_at hl 1 rfl) ?_
  refine gf_X10_10 (b := (d 1)) X hw k0 r70 dX10_sea_13 ?_
  refine lv_iconst (v := 0) hx hb dX10_sea_16 (by decide) ?_
  refine k_Vv (n := 1) X hw (rcvk (ci := 8) X hw hTp.1 (fun _ _ _ _ _ _ _ => ⟨_, rfl⟩) rfl) (c_X8_cut l G _ (d 1) (d 2) 0 hTp) wd_r7_20 wd_r7_21 wd_r7_22 wd_r1_14 wd_r7_23 ⟨by decide, by decide, by decide +kernel⟩ rfl rfl ⟨Nat.le_of_ble_eq_true rfl, Nat.le_of_ble_eq_true rfl⟩ rfl rfl hl.1 (Nat.le_of_ble_eq_true rfl) dX10_sea_17 ⟨Nat.le_of_ble_eq_true rfl, Nat.le_of_ble_eq_true rfl⟩ (fun S17_7 H locs h17_6 hw => ?_)
  have := t_0
  obtain ⟨I17_8, rfl, h17_6⟩ := h17_6
  have hw : PX G A s.heap (ch S I17_8 (pJ S) q8_5 (qJ S)) H locs := hw
  have HT := h17_6
  have hz1 : (I17_8 61 (d 1)).toInt = 0 := by rw [HT.2.1 ⟨by decide, by show (0 : Int32).toInt ≤ (I8_4 61 (d 1)).toInt; have := t_0; omega⟩]; decide
  have hN2 : CIn I17_8 d te pe nt np := hN1.sz HT.1 (by omega)
  have hb1 : ∀ k, I17_8 0 (pe k) = pI S 0 (pe k) := fun k => (congrFun (HT.1 0 (by decide)) _).trans (congrFun (HF 0 (by decide)) _)
  have hf15 := HT.1 15 (by decide)
  have hti : ∀ f, f ≠ 61 → f ∉ rdF → ∀ a, I17_8 f a = pI S f a := fun f9 h9 h8 a => (congrFun (HT.1 f9 h9) a).trans (congrFun (HF f9 h8) a)
  refine lv_iload_n hx hb dX10_sea_20 rfl (lv_at hl 0 rfl) ?_
  refine lv_if_ne (tgt := 26) hx hb dX10_sea_21 (by decide) (fun c21_9 => ?_) (fun c21_9 => ?_)
  · have D21_9 := iNe c21_9 rfl t_0
    obtain ⟨V9, hP9, h159, hct9, hvk9⟩ := (HRo.resolve_right (fun z9 => absurd z9.1 (by omega))).2
    have h15e : (I17_8 15 (sb 0)).toInt = V9.1 := by rw [hf15]; exact h159
    obtain ⟨Q0, hQ0⟩ : ∃ z : Nat → Nat → Int32, z = q8_5 := ⟨_, rfl⟩
    refine lv_aload_n hx hb dX10_sea_26 rfl (lv_at hl 1 rfl) ?_
    refine gf_X10_49 (b := (sa 0)) X hw k0 r76 dX10_sea_27 ?_
    refine lv_astore_n (lv' := [(2, .ref (sa 0)), (1, .int r8_1), (0, .ref (d 0))]) hx hb dX10_sea_30 rfl hl (by decide) rfl (fun ls hl => ?_)
    refine lv_aload_n hx hb dX10_sea_31 rfl (lv_at hl 2 rfl) ?_
    refine lv_aload_n hx hb dX10_sea_32 rfl (lv_at hl 2 rfl) ?_
    refine gf_X10_53 (b := (sb 0)) X hw k0 r77 dX10_sea_33 ?_
    refine pf_X10_49 X hw k0 dX10_sea_36 (fun H locs hw => ?_)
    obtain ⟨T36_10, eT36_10, hw⟩ : ∃ zz9 : Pl, zz9 = sR (ch S I17_8 (pJ S) q8_5 (qJ S)) 76 (d 0) (some (sb 0)) ∧ PX G A s.heap zz9 H locs := ⟨_, rfl, hw⟩
    have k0 := isR eT36_10 k0
    refine lv_aload_n hx hb dX10_sea_39 rfl (lv_at hl 2 rfl) ?_
    refine lv_aload_n hx hb dX10_sea_40 rfl (lv_at hl 0 rfl) ?_
    refine pf_X10_53 X hw k0 dX10_sea_41 (fun H locs hw => ?_)
    obtain ⟨T41_11, eT41_11, hw⟩ : ∃ zz9 : Pl, zz9 = sR T36_10 77 (d 0) (some (sa 0)) ∧ PX G A s.heap zz9 H locs := ⟨_, rfl, hw⟩
    have hC := CIs.sw (S := (ch S I17_8 (pJ S) q8_5 (qJ S))) hC eT36_10 eT41_11
    have hI : pI T41_11 = I17_8 := by rw [eT41_11, eT36_10]
    have hN : CIn (pI T41_11) d te pe nt np := by rw [hI]; exact hN2
    obtain ⟨k0, r70, r71, r72, r73, r74, r75, r76, r77, hR, hB, hS, hSp, ⟨kco, nco⟩, lT, lP, n68, n79, hTl, hPk, hPi, n40⟩ := id hC
    obtain ⟨z92, z93, zw, zz, zst, zs6⟩ := id hN
    have hTp := hR.2.2.2.2.2.2.2
    have hz0 : (pI T41_11 61 (d 1)).toInt = 0 := by rw [hI]; exact hz1
    have hbk : ∀ k, k < np → pI T41_11 0 (pe k) = pI S 0 (pe k) := fun k _ => by rw [hI]; exact hb1 k
    have hq46 : qI T41_11 = q8_5 := by rw [eT41_11, eT36_10]
    have hti46 : ∀ k, k < nt → ∀ f, 50 ≤ f → f ≤ 54 → pI T41_11 f (te k) = pI S f (te k) := fun k9 h9 f9 h1 h2 => (congrFun (congrFun hI f9) _).trans (hti f9 (by omega) (rd_no (by omega)) _)
    have hpk46 : ∀ a, pK T41_11 a = pK S a := fun a => by rw [eT41_11, eT36_10]
    refine lv_iconst (v := 0) hx hb dX10_sea_44 (by decide) ?_
    refine lv_istore_n (lv' := [(3, .int 0), (2, .ref (sa 0)), (1, .int r8_1), (0, .ref (d 0))]) hx hb dX10_sea_45 rfl hl (by decide) rfl (fun ls hl => ?_)
    have lp46 : ∀ (N9 : Nat) (q46 : Nat → Nat → Int32) (i : Int32), (0 ≤ i.toInt ∧ i.toInt ≤ (nt : Int)) → (∀ j ∈ sidR, q46 (sb j) = Q0 (sb j)) → (∀ k, k < i.toNatClampNeg → ∀ t, t ≤ 72 → q46 (tm k) t = mrk (drA V9.2 (tl k) t)) → (40 - i.toInt).toNat < N9 → ∀ (H : Heap) (locs : List Loc) (ls : Array Slot), PX G A s.heap (ch T41_11 (pI T41_11) (pJ T41_11) q46 (qJ T41_11)) H locs → lv_has ls 4 [(3, .int i), (0, .ref (d 0))] → W p l e (Rm 8 0 0) s m args below meth c H locs 0 0 Q (F0 m 46 ls []) := by
      intro N9
      induction N9 with
      | zero => intro q46 i hi hqk hdr hm; exact absurd hm (Nat.not_lt_zero _)
      | succ N9 ih46 =>
        intro q46 i hi hqk hdr hm H locs ls hw hl
        have hct46 : Ct q46 sb (stl V9.2) := hct9.kept (fun j9 h9 => (hqk j9 h9).trans (by rw [hQ0]))
        have hci46 := cl_toInt (x := i) hi.1
        refine lv_iload_n hx hb dX10_sea_46 rfl (lv_at hl 0 rfl) ?_
        refine lv_aload_n hx hb dX10_sea_47 rfl (lv_at hl 1 rfl) ?_
        refine gf_X10_28 (b := (d 6)) X hw k0 r72 dX10_sea_48 ?_
        refine k_Vi (n := 0) X hw (rcvk (ci := 0) X hw lT.1 (fun _ _ _ _ _ _ _ => ⟨_, rfl⟩) rfl) (c_Jx4a65c_size_8abf5 l G _ (d 6) lT.1) wd_r18_1 wd_r18_2 wd_r18_3 wd_r1_22 wd_r18_4 ⟨by decide, by decide, by decide +kernel⟩ rfl rfl ⟨Nat.le_of_ble_eq_true rfl, Nat.le_of_ble_eq_true rfl⟩ rfl rfl hl.1 (Nat.le_of_ble_eq_true rfl) dX10_sea_51 ⟨Nat.le_of_ble_eq_true rfl, Nat.le_of_ble_eq_true rfl⟩ (fun r51_12 S51_14 H locs h51_13 hw => ?_)
        obtain ⟨rfl, h51_13⟩ := h51_13
        have h51_13t : r51_12.toInt = ((pI T41_11) 92 (d 6)).toInt := congrArg Int32.toInt h51_13
        refine lv_icmp_ge (tgt := 81) hx hb dX10_sea_54 (by decide) (fun c54_15 => ?_) (fun c54_15 => ?_)
        · have D54_15 := iLe c54_15 rfl rfl
          refine lv_aload_n hx hb dX10_sea_81 rfl (lv_at hl 1 rfl) ?_
          refine gf_X10_49 (b := (sb 0)) X hw k0 r76 dX10_sea_82 ?_
          refine k_Vi (n := 0) X hw (rcvk (ci := 3) X hw hB.1 (fun _ _ _ _ _ _ _ => ⟨_, rfl⟩) rfl) (c_X3_lines l G _ sb hB) wd_r20_4 wd_r14_4 wd_r14_5 wd_r2_9 wd_r14_6 ⟨by decide, by decide, by decide +kernel⟩ rfl rfl ⟨Nat.le_of_ble_eq_true rfl, Nat.le_of_ble_eq_true rfl⟩ rfl rfl hl.1 (Nat.le_of_ble_eq_true rfl) dX10_sea_85 ⟨Nat.le_of_ble_eq_true rfl, Nat.le_of_ble_eq_true rfl⟩ (fun r85_16 S85_18 H locs h85_17 hw => ?_)
          obtain ⟨rfl, h85_17⟩ := h85_17
          have HL9 := congrArg Int32.toInt h85_17
          exact hret r85_16 (ch T41_11 (pI T41_11) (pJ T41_11) q46 (qJ T41_11)) _ _ _ _ (Or.inl ⟨V9, hP9, HL9.trans ((congrArg Int32.toInt (congrFun (congrFun hI 15) (sb 0))).trans h15e), d, sb, sa, sp, te, tm, pe, tf, pf, rfl, hC, hN, hz0, hbk, hAp.sw, ⟨fun j9 h9 => absurd h9 (by omega), hct9.kept (fun j9 h9 => (hqk j9 h9).trans (by rw [hQ0])), (congrArg Int32.toInt (congrFun (congrFun hI 15) (sb 0))).trans h15e, hvk9⟩, hTV.dr (T := (ch T41_11 (pI T41_11) (pJ T41_11) q46 (qJ T41_11))) hti46 (fun k9 h9 => hdr k9 (by omega)), hPV.fr (T := (ch T41_11 (pI T41_11) (pJ T41_11) q46 (qJ T41_11))) (fun k9 h9 => hpk46 _) (fun k9 h9 f9 h1 => (congrFun (congrFun hI f9) _).trans (hti f9 (pfl_61 h1) (rd_np h1) _))⟩) hw rfl dX10_sea_88
        · have D54_15 := iNle c54_15 rfl rfl
          refine lv_aload_n hx hb dX10_sea_57 rfl (lv_at hl 1 rfl) ?_
          refine gf_X10_28 (b := (d 6)) X hw k0 r72 dX10_sea_58 ?_
          refine lv_iload_n hx hb dX10_sea_61 rfl (lv_at hl 0 rfl) ?_
          refine k_Vq (n := 1) X hw (rcvk (ci := 0) X hw lT.1 (fun _ _ _ _ _ _ _ => ⟨_, rfl⟩) rfl) (c_Jx4a65c_get_915e3 l G _ (d 6) (d 7) tf nt te i (lT.sh z92) (by omega)) wd_r18_6 wd_r18_7 wd_r18_8 wd_r1_22 wd_r18_9 ⟨by decide, by decide, by decide +kernel⟩ rfl rfl ⟨Nat.le_of_ble_eq_true rfl, Nat.le_of_ble_eq_true rfl⟩ rfl rfl hl.1 (Nat.le_of_ble_eq_true rfl) dX10_sea_62 ⟨Nat.le_of_ble_eq_true rfl, Nat.le_of_ble_eq_true rfl⟩ (fun r62_19 S62_21 H locs h62_20 hw => ?_)
          obtain ⟨rfl, rfl⟩ := h62_20
          have hik : i.toNatClampNeg < nt := clt (by omega) (by omega)
          refine q_castT X hw (hTl _ hik).1 dX10_sea_65 ?_
          refine lv_aload_n hx hb dX10_sea_68 rfl (lv_at hl 1 rfl) ?_
          refine gf_X10_49 (b := (sb 0)) X hw k0 r76 dX10_sea_69 ?_
          refine k_Vv (n := 1) X hw (rcvk (ci := 7) X hw (hTl _ hik).1 (fun _ _ _ _ _ _ _ => ⟨_, rfl⟩) rfl) (c_w_X7_drift l G _ (te i.toNatClampNeg) (tm i.toNatClampNeg) sb V9 (tl i.toNatClampNeg) (hTl _ hik) hB hct46 (by have z9 := (hTV.1 _ hik).1; exact ⟨(hti46 _ hik 50 (by decide) (by decide)).trans z9.1, (hti46 _ hik 51 (by decide) (by decide)).trans z9.2.1, (hti46 _ hik 52 (by decide) (by decide)).trans z9.2.2.1, (hti46 _ hik 53 (by decide) (by decide)).trans z9.2.2.2.1⟩) (hTV.1 _ hik).2.1 (sea_tm hB (hTl _ hik))) wd_r18_19 wd_r18_20 wd_r18_21 wd_r18_22 wd_r18_23 ⟨by decide, by decide, by decide +kernel⟩ rfl rfl ⟨Nat.le_of_ble_eq_true rfl, Nat.le_of_ble_eq_true rfl⟩ rfl rfl hl.1 (Nat.le_of_ble_eq_true rfl) dX10_sea_72 ⟨Nat.le_of_ble_eq_true rfl, Nat.le_of_ble_eq_true rfl⟩ (fun S72_23 H locs h72_22 hw => ?_)
          obtain ⟨q72_24, rfl, h72_22⟩ := h72_22
          have hw : PX G A s.heap (ch T41_11 (pI T41_11) (pJ T41_11) q72_24 (qJ T41_11)) H locs := hw
          have HDR := h72_22.1
          have HDM := h72_22.2
          obtain ⟨v75_25, e75_25⟩ : ∃ y : Int32, y = i + 1 := ⟨_, rfl⟩
          have t75_25 := iAdd e75_25 rfl t_1 (by omega) (by omega)
          have t75 := t75_25
          refine lv_iinc (v := v75_25) (lv' := [(3, .int v75_25), (0, .ref (d 0))]) hx hb dX10_sea_75 hl (k := 0) rfl (by rw [e75_25]; rfl) (by decide) rfl (fun ls hl => ?_)
          refine lv_goto (tgt := 46) hx hb dX10_sea_78 (by decide) ?_
          exact ih46 q72_24 v75_25 (by omega) (fun j9 h9 => (HDR _ (sea_tm hB (hTl _ hik) j9 h9)).trans (hqk j9 h9)) (dr_s hdr hi.1 t75 HDR HDM (fun k9 h9 e9 => absurd (hTV.2 k9 _ (by omega) hik e9) (by omega))) (by omega) _ _ _ hw (lv_sub hl [0, 1] rfl)
    exact lp46 _ (qI T41_11) 0 (by have := t_0; omega) (fun _ _ => by rw [hQ0, hq46]) (fun k9 h9 => absurd h9 (by rw [show (0 : Int32).toNatClampNeg = 0 by decide]; omega)) (Nat.lt_succ_self _) _ _ _ hw (lv_sub hl [0, 3] rfl)
  · have D21_9 := iEq c21_9 rfl t_0
    have hPn := (HRo.resolve_left (fun z9 => absurd z9.1 (by omega))).2
    have hCV9 : CV (ch S I17_8 (pJ S) q8_5 (qJ S)) d sa 0 bt V := hCV.n (T := (ch S I17_8 (pJ S) q8_5 (qJ S))) hks ((congrFun hf15 _).trans hi15)
    have hTV9 : TV (ch S I17_8 (pJ S) q8_5 (qJ S)) te tm nt tl V := hTV.fr (T := (ch S I17_8 (pJ S) q8_5 (qJ S))) (fun k9 h9 f9 h1 h2 => hti f9 (by omega) (rd_no (by omega)) _) hkt
    have hPV9 : PV (ch S I17_8 (pJ S) q8_5 (qJ S)) pe np pl := hPV.fr (T := (ch S I17_8 (pJ S) q8_5 (qJ S))) (fun _ _ => rfl) (fun k9 h9 f9 h1 => hti f9 (pfl_61 h1) (rd_np h1) _)
    refine lv_iconst (v := -1) hx hb dX10_sea_24 (by decide) ?_
    exact hret (-1) (ch S I17_8 (pJ S) q8_5 (qJ S)) _ _ _ _ (Or.inr ⟨hPn, rfl, d, sa, sb, sp, te, tm, pe, tf, pf, rfl, hC, hN2, hz1, fun k _ => hb1 k, hAp, hCV9, hTV9, hPV9⟩) hw rfl dX10_sea_25
set_option maxHeartbeats 4000000 in
set_option maxRecDepth 100000 in
theorem c_w_X10_tale (l : Launch) (G : Gh) (S : Pl) (d sa sb sp te tm pe : Nat → Nat) (tf pf nt np : Nat) (a1 a2 a3 a4 a5 : Int32) (bt : Nat → Int32) (V : SV) (tl : Nat → TP) (pl : Nat → PP) (hC : CIs G S d sa sb sp te tm pe tf pf nt np) (hN : CIn (pI S) d te pe nt np) (hAp : Apt d sa sb sp) (hCV : CV S d sa (pI S 61 (d 1)).toInt bt V) (hTV : TV S te tm nt tl V) (hPV : PV S pe np pl) : MtI l yX10_tale cX10_tale 8 (some .int) (Rm 7 3 169) G [.ref (d 0), .int a1, .int a2, .int a3, .int a4, .int a5] S (fun (r : Int32) (S' : Pl) => (¬ tlC a1 a2 a3 a4 a5 nt ∧ r = -1 ∧ S = S') ∨ (tlC a1 a2 a3 a4 a5 nt ∧ r.toInt = (nt : Int) ∧ DeskW G S' (d 0) (pI S 61 (d 1)).toInt (nt + 1) np (fun k => pI S 0 (pe k)) bt V (fun k => if k = nt then (a1, a2, a3, a4, a5) else tl k) pl)) 3 169 := by
  refine MtI.of (by decide) (Nat.le_of_ble_eq_true rfl) ?_
  intro p e s m args below meth c Q A X hw hin hret ls hl
  have hx := X.1.1
  have hb := X.1.2.1
  have hl : lv_has ls 8 [(0, .ref (d 0)), (1, .int a1), (2, .int a2), (3, .int a3), (4, .int a4), (5, .int a5)] := hl
  obtain ⟨k0, r70, r71, r72, r73, r74, r75, r76, r77, hR, hS, hB, hSp, ⟨kco, nco⟩, lT, lP, n68, n79, hTl, hPk, hPi, n40⟩ := id hC
  obtain ⟨z92, z93, zw, zz, zst, zs6⟩ := id hN
  have hTp := hR.2.2.2.2.2.2.2
  have n60 := lP.2.2.1
  have oS := hS
  have oTp := hTp
  have oPk := hPk
  have oTl := hTl
  have oC := hC
  refine lv_iload_n hx hb dX10_tale_0 rfl (lv_at hl 1 rfl) ?_
  refine k_Si (n := 1) X hw (c_X10_isKind l G _ a1) wd_r27_2 wd_r15_16 wd_r1_2 wd_r15_17 ⟨by decide, by decide, by decide +kernel⟩ rfl rfl ⟨Nat.le_of_ble_eq_true rfl, Nat.le_of_ble_eq_true rfl⟩ rfl rfl hl.1 (Nat.le_of_ble_eq_true rfl) dX10_tale_1 ⟨Nat.le_of_ble_eq_true rfl, Nat.le_of_ble_eq_true rfl⟩ (fun r1_1 S1_3 H locs h1_2 hw => ?_)
  rcases h1_2 with ⟨rfl, rfl, h1_2⟩ | ⟨rfl, rfl, h1_2⟩
  · have h1_2 := h1_2
    refine lv_if_eq (tgt := 39) hx hb dX10_tale_4 (by decide) (fun c4_4 => absurd c4_4 (by decide)) (fun c4_4 => ?_)
    refine lv_iload_n hx hb dX10_tale_7 rfl (lv_at hl 2 rfl) ?_
    refine lv_iload_n hx hb dX10_tale_8 rfl (lv_at hl 3 rfl) ?_
    refine k_Si (n := 2) X hw (c_X10_isPoint l G _ a2 a3) wd_r27_3 wd_r19_23 wd_r1_2 wd_r20_0 ⟨by decide, by decide, by decide +kernel⟩ rfl rfl ⟨Nat.le_of_ble_eq_true rfl, Nat.le_of_ble_eq_true rfl⟩ rfl rfl hl.1 (Nat.le_of_ble_eq_true rfl) dX10_tale_9 ⟨Nat.le_of_ble_eq_true rfl, Nat.le_of_ble_eq_true rfl⟩ (fun r9_5 S9_7 H locs h9_6 hw => ?_)
    rcases h9_6 with ⟨rfl, rfl, h9_6⟩ | ⟨rfl, rfl, h9_6⟩
    · have h9_6 := h9_6
      refine lv_if_eq (tgt := 39) hx hb dX10_tale_12 (by decide) (fun c12_8 => absurd c12_8 (by decide)) (fun c12_8 => ?_)
      refine lv_iload hx hb dX10_tale_15 (lv_at hl 4 rfl) ?_
      refine k_Si (n := 1) X hw (c_X10_isHour l G _ a4) wd_r24_14 wd_r17_3 wd_r1_2 wd_r17_4 ⟨by decide, by decide, by decide +kernel⟩ rfl rfl ⟨Nat.le_of_ble_eq_true rfl, Nat.le_of_ble_eq_true rfl⟩ rfl rfl hl.1 (Nat.le_of_ble_eq_true rfl) dX10_tale_17 ⟨Nat.le_of_ble_eq_true rfl, Nat.le_of_ble_eq_true rfl⟩ (fun r17_9 S17_11 H locs h17_10 hw => ?_)
      rcases h17_10 with ⟨rfl, rfl, h17_10⟩ | ⟨rfl, rfl, h17_10⟩
      · have h17_10 := h17_10
        refine lv_if_eq (tgt := 39) hx hb dX10_tale_20 (by decide) (fun c20_12 => absurd c20_12 (by decide)) (fun c20_12 => ?_)
        refine lv_iload hx hb dX10_tale_23 (lv_at hl 5 rfl) ?_
        refine lv_iconst (v := 1) hx hb dX10_tale_25 (by decide) ?_
        refine lv_sipush (v := 1000) hx hb dX10_tale_26 (by decide) ?_
        refine k_Si (n := 3) X hw (c_X10_within l G _ a5 1 1000) wd_r7_17 wd_r7_18 wd_r1_2 wd_r7_19 ⟨by decide, by decide, by decide +kernel⟩ rfl rfl ⟨Nat.le_of_ble_eq_true rfl, Nat.le_of_ble_eq_true rfl⟩ rfl rfl hl.1 (Nat.le_of_ble_eq_true rfl) dX10_tale_29 ⟨Nat.le_of_ble_eq_true rfl, Nat.le_of_ble_eq_true rfl⟩ (fun r29_13 S29_15 H locs h29_14 hw => ?_)
        have := t_1
        have := t_1000
        rcases h29_14 with ⟨rfl, rfl, h29_14⟩ | ⟨rfl, rfl, h29_14⟩
        · have h29_14 := h29_14
          refine lv_if_eq (tgt := 39) hx hb dX10_tale_32 (by decide) (fun c32_16 => absurd c32_16 (by decide)) (fun c32_16 => ?_)
          refine lv_iconst (v := 1) hx hb dX10_tale_35 (by decide) ?_
          refine lv_goto (tgt := 40) hx hb dX10_tale_36 (by decide) ?_
          refine lv_istore (lv' := [(6, .int 1), (0, .ref (d 0)), (1, .int a1), (2, .int a2), (3, .int a3), (4, .int a4), (5, .int a5)]) hx hb dX10_tale_40 hl (by decide) rfl (fun ls hl => ?_)
          refine lv_iload hx hb dX10_tale_42 (lv_at hl 0 rfl) ?_
          refine lv_if_eq (tgt := 59) hx hb dX10_tale_44 (by decide) (fun c44_17 => absurd c44_17 (by decide)) (fun c44_17 => ?_)
          refine lv_aload_n hx hb dX10_tale_47 rfl (lv_at hl 1 rfl) ?_
          refine gf_X10_28 (b := (d 6)) X hw k0 r72 dX10_tale_48 ?_
          refine k_Vi (n := 0) X hw (rcvk (ci := 0) X hw lT.1 (fun _ _ _ _ _ _ _ => ⟨_, rfl⟩) rfl) (c_Jx4a65c_size_8abf5 l G _ (d 6) lT.1) wd_r18_1 wd_r18_2 wd_r18_3 wd_r1_22 wd_r18_4 ⟨by decide, by decide, by decide +kernel⟩ rfl rfl ⟨Nat.le_of_ble_eq_true rfl, Nat.le_of_ble_eq_true rfl⟩ rfl rfl hl.1 (Nat.le_of_ble_eq_true rfl) dX10_tale_51 ⟨Nat.le_of_ble_eq_true rfl, Nat.le_of_ble_eq_true rfl⟩ (fun r51_18 S51_20 H locs h51_19 hw => ?_)
          obtain ⟨rfl, h51_19⟩ := h51_19
          have h51_19t : r51_18.toInt = ((pI S) 92 (d 6)).toInt := congrArg Int32.toInt h51_19
          refine lv_bipush (v := 40) hx hb dX10_tale_54 (by decide) ?_
          refine lv_icmp_lt (tgt := 61) hx hb dX10_tale_56 (by decide) (fun c56_21 => ?_) (fun c56_21 => ?_)
          · have D56_21 := iLt c56_21 rfl t_40
            refine q_new (k := 6) (ci := 7) (fs := [.int 0, .int 0, .int 0, .int 0, .int 0, .null]) X hw rfl inlX7 tyX7_ok (by decide +kernel) wd_r27_0 wd_r27_1 wd_r18_22 (fun _ _ _ _ => rfl) (Nat.le_of_ble_eq_true rfl) (Nat.le_of_ble_eq_true rfl) dX10_tale_61 (fun a61_22 H f61_23 hw => ?_)
            obtain ⟨T61_24, eT61_24, hw⟩ : ∃ zz9 : Pl, zz9 = nO S a61_22 6 ∧ PX G A s.heap zz9 H locs := ⟨_, rfl, hw⟩
            have kb := isO_n eT61_24
            have k0 := isO eT61_24 f61_23 k0
            refine lv_dup hx hb dX10_tale_64 rfl ?_
            refine lv_iload_n hx hb dX10_tale_65 rfl (lv_at hl 2 rfl) ?_
            refine lv_iload_n hx hb dX10_tale_66 rfl (lv_at hl 3 rfl) ?_
            refine lv_iload_n hx hb dX10_tale_67 rfl (lv_at hl 4 rfl) ?_
            refine lv_iload hx hb dX10_tale_68 (lv_at hl 5 rfl) ?_
            refine lv_iload hx hb dX10_tale_70 (lv_at hl 6 rfl) ?_
            refine k_Iv (n := 5) (ret2 := none) X hw (c_v_X7_init l G _ a61_22 a1 a2 a3 a4 a5 kb) wd_r27_4 wd_r27_5 wd_r18_22 wd_r27_6 rfl ⟨by decide, by decide, by decide +kernel⟩ rfl rfl ⟨Nat.le_of_ble_eq_true rfl, Nat.le_of_ble_eq_true rfl⟩ rfl rfl hl.1 (Nat.le_of_ble_eq_true rfl) dX10_tale_72 ⟨Nat.le_of_ble_eq_true rfl, Nat.le_of_ble_eq_true rfl⟩ (fun S72_26 H locs h72_25 hw => ?_)
            obtain ⟨tmN, xT, hTN, wN, kqT, fT, f50, f51, f52, f53⟩ := h72_25
            have exT : Ex S S72_26 := Ex.new eT61_24 f61_23 xT
            have hN0 := hN
            have hC0 := hC
            have hN := CIn.e hN hC exT
            have hC := CIs.e hC exT
            obtain ⟨k0, r70, r71, r72, r73, r74, r75, r76, r77, hR, hS, hB, hSp, ⟨kco, nco⟩, lT, lP, n68, n79, hTl, hPk, hPi, n40⟩ := id hC
            obtain ⟨z92, z93, zw, zz, zst, zs6⟩ := id hN
            have hTp := hR.2.2.2.2.2.2.2
            have kqN : Kq S S72_26 := Kq.nw eT61_24 kqT
            have hCV : CV S72_26 d sa (pI S 61 (d 1)).toInt bt V := hCV.kq oTp.2.2.1.1 oS kqN ((exT _ oS.1.1).2.2.2.2.2 15)
            have kb := hTN.1
            have hrP : tpR (a1, a2, a3, a4, a5) := by unfold tpR; dsimp only; omega
            refine lv_astore (lv' := [(7, .ref a61_22), (6, .int 1), (0, .ref (d 0)), (1, .int a1), (2, .int a2), (3, .int a3), (4, .int a4), (5, .int a5)]) hx hb dX10_tale_75 hl (by decide) rfl (fun ls hl => ?_)
            refine lv_aload hx hb dX10_tale_77 (lv_at hl 0 rfl) ?_
            refine lv_aload_n hx hb dX10_tale_79 rfl (lv_at hl 2 rfl) ?_
            refine gf_X10_49 (b := (sa 0)) X hw k0 r76 dX10_tale_80 ?_
            refine k_Vv (n := 1) X hw (rcvk (ci := 7) X hw kb (fun _ _ _ _ _ _ _ => ⟨_, rfl⟩) rfl) (c_w_X7_drift l G _ a61_22 tmN sa V (a1, a2, a3, a4, a5) hTN hS hCV.2.1 ⟨f50, f51, f52, f53⟩ hrP (sea_tm hS hTN)) wd_r18_19 wd_r18_20 wd_r18_21 wd_r18_22 wd_r18_23 ⟨by decide, by decide, by decide +kernel⟩ rfl rfl ⟨Nat.le_of_ble_eq_true rfl, Nat.le_of_ble_eq_true rfl⟩ rfl rfl hl.1 (Nat.le_of_ble_eq_true rfl) dX10_tale_83 ⟨Nat.le_of_ble_eq_true rfl, Nat.le_of_ble_eq_true rfl⟩ (fun S83_28 H locs h83_27 hw => ?_)
            obtain ⟨q83_29, rfl, h83_27⟩ := h83_27
            have hw : PX G A s.heap (ch S72_26 (pI S72_26) (pJ S72_26) q83_29 (qJ S72_26)) H locs := hw
            have HDR := h83_27.1
            have HDM := h83_27.2
            have hCV : CV (ch S72_26 (pI S72_26) (pJ S72_26) q83_29 (qJ S72_26)) d sa (pI S 61 (d 1)).toInt bt V := CV.q (T := (ch S72_26 (pI S72_26) (pJ S72_26) q83_29 (qJ S72_26))) hCV (HDR _ (ne_kind hTp.2.2.1 hTN.2.2.1 (by decide))) (fun j9 h9 => HDR _ (sea_tm hS hTN j9 h9)) rfl
            refine lv_aload_n hx hb dX10_tale_86 rfl (lv_at hl 2 rfl) ?_
            refine gf_X10_28 (b := (d 6)) X hw k0 r72 dX10_tale_87 ?_
            refine lv_aload hx hb dX10_tale_90 (lv_at hl 0 rfl) ?_
            refine k_Vi (n := 1) X hw (rcvk (ci := 0) X hw lT.1 (fun _ _ _ _ _ _ _ => ⟨_, rfl⟩) rfl) (c_add l G _ (d 6) (d 7) tf nt te a61_22 (lT.sh z92) (by omega) (Or.inl hTN.1)) wd_r27_10 wd_r27_11 wd_r27_12 wd_r1_22 wd_r27_13 ⟨by decide, by decide, by decide +kernel⟩ rfl rfl ⟨Nat.le_of_ble_eq_true rfl, Nat.le_of_ble_eq_true rfl⟩ rfl rfl hl.1 (Nat.le_of_ble_eq_true rfl) dX10_tale_92 ⟨Nat.le_of_ble_eq_true rfl, Nat.le_of_ble_eq_true rfl⟩ (fun r92_30 S92_32 H locs h92_31 hw => ?_)
            obtain ⟨ar2, hAP⟩ := h92_31
            have ekA := hAP.k lT.1
            have n0l := ne_kind k0 lT.1 (by decide)
            have rA : pR S92_32 72 (d 0) = some (d 6) := hAP.rf k0.1 n0l r72
            have i78 : pI S92_32 78 (d 0) = pI S72_26 78 (d 0) := hAP.iv k0.1 n0l 78
            have k0A : is S92_32 9 (d 0) := k0.k ekA
            have kLA : is S92_32 11 (d 6) := lT.1.k ekA
            have hA2 := hAP.2.1
            have hCV : CV S92_32 d sa (pI S 61 (d 1)).toInt bt V := CV.kq (S := (ch S72_26 (pI S72_26) (pJ S72_26) q83_29 (qJ S72_26))) hCV hTp.2.2.1.1 hS hAP.kq (hAP.iv hS.1.1 (ne_kind hS.1 lT.1 (by decide)) 15)
            have kqA : Kq S S92_32 := fun a9 h9 => (hAP.kq a9 (exT a9 h9).1).trans ((HDR a9 (ne_of (isO_m eT61_24 h9) fT)).trans (kqN a9 h9))
            have hIA : ∀ a9, a9 ∈ pL S → (∀ k9, k9 = 11 → pK S a9 ≠ k9) → ∀ f9, pI S92_32 f9 a9 = pI S f9 a9 := fun a9 h9 h8 f9 => (hAP.iv (exT a9 h9).1 (fun e9 => h8 11 rfl (by rw [← (exT a9 h9).2.1, e9]; exact lT.1.2)) f9).trans ((exT a9 h9).2.2.2.2.2 f9)
            have hTVA := TV.ad (U := S92_32) (P := (a1, a2, a3, a4, a5)) hTV (fun k9 h9 f9 _ _ => hIA _ (oTl k9 h9).1.1 (fun k8 h8 => by rw [(oTl k9 h9).1.2, h8]; decide) f9) (fun k9 h9 => kqA _ (oTl k9 h9).2.2.1.1) (fun k9 h9 => ne_of (isO_m eT61_24 (oTl k9 h9).2.2.1.1) fT) ⟨(hAP.iv hTN.1.1 (ne_kind hTN.1 lT.1 (by decide)) 50).trans f50, (hAP.iv hTN.1.1 (ne_kind hTN.1 lT.1 (by decide)) 51).trans f51, (hAP.iv hTN.1.1 (ne_kind hTN.1 lT.1 (by decide)) 52).trans f52, (hAP.iv hTN.1.1 (ne_kind hTN.1 lT.1 (by decide)) 53).trans f53, (hAP.iv hTN.1.1 (ne_kind hTN.1 lT.1 (by decide)) 54).trans wN⟩ hrP (fun t9 h9 => (congrFun (hAP.kq _ hTN.2.2.1.1) t9).trans (HDM t9 h9))
            have hPVA : PV S92_32 pe np pl := hPV.fr (fun k9 h9 => (ekA _ (exT _ (ob_m (oPk k9 h9))).1).2.1.trans (exT _ (ob_m (oPk k9 h9))).2.1) (fun k9 h9 f9 _ => hIA _ (ob_m (oPk k9 h9)) (fun k8 h8 => by rcases oPk k9 h9 with q | q <;> (rw [q.2, h8]; decide)) f9)
            refine lv_pop hx hb dX10_tale_95 rfl ?_
            refine lv_aload_n hx hb dX10_tale_96 rfl (lv_at hl 2 rfl) ?_
            refine gf_X10_28 (b := (d 6)) X hw k0A rA dX10_tale_97 ?_
            refine k_Vi (n := 0) X hw (rcvk (ci := 0) X hw kLA (fun _ _ _ _ _ _ _ => ⟨_, rfl⟩) rfl) (c_Jx4a65c_size_8abf5 l G _ (d 6) kLA) wd_r18_1 wd_r18_2 wd_r18_3 wd_r1_22 wd_r18_4 ⟨by decide, by decide, by decide +kernel⟩ rfl rfl ⟨Nat.le_of_ble_eq_true rfl, Nat.le_of_ble_eq_true rfl⟩ rfl rfl hl.1 (Nat.le_of_ble_eq_true rfl) dX10_tale_100 ⟨Nat.le_of_ble_eq_true rfl, Nat.le_of_ble_eq_true rfl⟩ (fun r100_33 S100_35 H locs h100_34 hw => ?_)
            obtain ⟨rfl, h100_34⟩ := h100_34
            have h100_34t : r100_33.toInt = ((pI S92_32) 92 (d 6)).toInt := congrArg Int32.toInt h100_34
            refine lv_iconst (v := 1) hx hb dX10_tale_103 (by decide) ?_
            refine lv_isub hx hb dX10_tale_104 ?_
            refine lv_topi (fun v104_36 e104_36 => ?_)
            have t104_36 := iSub e104_36 rfl t_1 (by omega) (by omega)
            have t104 := t104_36
            exact hret v104_36 S92_32 _ _ _ _ (Or.inr ⟨by unfold tlC; omega, by omega, va_up d 7 ar2, sa, sb, sp, va_up te nt a61_22, va_up tm nt tmN, pe, 1, pf, rfl, CIs.aT (S := (ch S72_26 (pI S72_26) (pJ S72_26) q83_29 (qJ S72_26))) hC (by omega) hTN hAP, CIn.aT (S := (ch S72_26 (pI S72_26) (pJ S72_26) q83_29 (qJ S72_26))) hN hC hTN (by rw [wN]; omega) hAP, (by rw [show pI S92_32 61 (va_up d 7 ar2 1) = pI S72_26 61 (d 1) from hAP.iv hTp.1.1 (ne_kind hTp.1 lT.1 (by decide)) 61, (exT _ oTp.1.1).2.2.2.2.2 61]), fun k hk => by rw [show pI S92_32 0 (pe k) = pI S72_26 0 (pe k) from (by rcases hPk k hk with q | q <;> exact hAP.iv q.1 (ne_kind q lT.1 (by decide)) 0)]; rcases oPk k hk with q | q <;> exact (exT _ q.1).2.2.2.2.2 0, hAp, hCV, hTVA, hPVA⟩) hw rfl dX10_tale_105
          · have D56_21 := iNlt c56_21 rfl t_40
            refine lv_iconst (v := -1) hx hb dX10_tale_59 (by decide) ?_
            refine W.widen (k := 3) (n := 169) (Nat.le_of_ble_eq_true rfl) (Nat.le_of_ble_eq_true rfl) ?_
            exact hret (-1) S _ _ _ _ (Or.inl ⟨by unfold tlC; omega, rfl, rfl⟩) hw rfl dX10_tale_60
        · have h29_14 := h29_14
          refine lv_if_eq (tgt := 39) hx hb dX10_tale_32 (by decide) (fun c32_37 => ?_) (fun c32_37 => absurd c32_37 (by decide))
          refine lv_iconst (v := 0) hx hb dX10_tale_39 (by decide) ?_
          refine lv_istore (lv' := [(6, .int 0), (0, .ref (d 0)), (1, .int a1), (2, .int a2), (3, .int a3), (4, .int a4), (5, .int a5)]) hx hb dX10_tale_40 hl (by decide) rfl (fun ls hl => ?_)
          refine lv_iload hx hb dX10_tale_42 (lv_at hl 0 rfl) ?_
          refine lv_if_eq (tgt := 59) hx hb dX10_tale_44 (by decide) (fun c44_38 => ?_) (fun c44_38 => absurd c44_38 (by decide))
          refine lv_iconst (v := -1) hx hb dX10_tale_59 (by decide) ?_
          refine W.widen (k := 3) (n := 169) (Nat.le_of_ble_eq_true rfl) (Nat.le_of_ble_eq_true rfl) ?_
          exact hret (-1) S _ _ _ _ (Or.inl ⟨by unfold tlC; omega, rfl, rfl⟩) hw rfl dX10_tale_60
      · have h17_10 := h17_10
        refine lv_if_eq (tgt := 39) hx hb dX10_tale_20 (by decide) (fun c20_39 => ?_) (fun c20_39 => absurd c20_39 (by decide))
        refine lv_iconst (v := 0) hx hb dX10_tale_39 (by decide) ?_
        refine lv_istore (lv' := [(6, .int 0), (0, .ref (d 0)), (1, .int a1), (2, .int a2), (3, .int a3), (4, .int a4), (5, .int a5)]) hx hb dX10_tale_40 hl (by decide) rfl (fun ls hl => ?_)
        refine lv_iload hx hb dX10_tale_42 (lv_at hl 0 rfl) ?_
        refine lv_if_eq (tgt := 59) hx hb dX10_tale_44 (by decide) (fun c44_40 => ?_) (fun c44_40 => absurd c44_40 (by decide))
        refine lv_iconst (v := -1) hx hb dX10_tale_59 (by decide) ?_
        refine W.widen (k := 3) (n := 169) (Nat.le_of_ble_eq_true rfl) (Nat.le_of_ble_eq_true rfl) ?_
        exact hret (-1) S _ _ _ _ (Or.inl ⟨by unfold tlC; omega, rfl, rfl⟩) hw rfl dX10_tale_60
    · have h9_6 := h9_6
      refine lv_if_eq (tgt := 39) hx hb dX10_tale_12 (by decide) (fun c12_41 => ?_) (fun c12_41 => absurd c12_41 (by decide))
      refine lv_iconst (v := 0) hx hb dX10_tale_39 (by decide) ?_
      refine lv_istore (lv' := [(6, .int 0), (0, .ref (d 0)), (1, .int a1), (2, .int a2), (3, .int a3), (4, .int a4), (5, .int a5)]) hx hb dX10_tale_40 hl (by decide) rfl (fun ls hl => ?_)
      refine lv_iload hx hb dX10_tale_42 (lv_at hl 0 rfl) ?_
      refine lv_if_eq (tgt := 59) hx hb dX10_tale_44 (by decide) (fun c44_42 => ?_) (fun c44_42 => absurd c44_42 (by decide))
      refine lv_iconst (v := -1) hx hb dX10_tale_59 (by decide) ?_
      refine W.widen (k := 3) (n := 169) (Nat.le_of_ble_eq_true rfl) (Nat.le_of_ble_eq_true rfl) ?_
      exact hret (-1) S _ _ _ _ (Or.inl ⟨by unfold tlC; omega, rfl, rfl⟩) hw rfl dX10_tale_60
  · have h1_2 := h1_2
    refine lv_if_eq (tgt := 39) hx hb dX10_tale_4 (by decide) (fun c4_43 => ?_) (fun c4_43 => absurd c4_43 (by decide))
    refine lv_iconst (v := 0) hx hb dX10_tale_39 (by decide) ?_
    refine lv_istore (lv' := [(6, .int 0), (0, .ref (d 0)), (1, .int a1), (2, .int a2), (3, .int a3), (4, .int a4), (5, .int a5)]) hx hb dX10_tale_40 hl (by decide) rfl (fun ls hl => ?_)
    refine lv_iload hx hb dX10_tale_42 (lv_at hl 0 rfl) ?_
    refine lv_if_eq (tgt := 59) hx hb dX10_tale_44 (by decide) (fun c44_44 => ?_) (fun c44_44 => absurd c44_44 (by decide))
    refine lv_iconst (v := -1) hx hb dX10_tale_59 (by decide) ?_
    refine W.widen (k := 3) (n := 169) (Nat.le_of_ble_eq_true rfl) (Nat.le_of_ble_eq_true rfl) ?_
    exact hret (-1) S _ _ _ _ (Or.inl ⟨by unfold tlC; omega, rfl, rfl⟩) hw rfl dX10_tale_60
set_option maxHeartbeats 4000000 in
set_option maxRecDepth 100000 in
theorem c_w_X10_addProof (l : Launch) (G : Gh) (S : Pl) (d sa sb sp te tm pe : Nat → Nat) (tf pf nt np : Nat) (b : Nat) (bt : Nat → Int32) (V : SV) (tl : Nat → TP) (pl : Nat → PP) (p7 : PP) (hC : CIs G S d sa sb sp te tm pe tf pf nt np) (hN : CIn (pI S) d te pe nt np) (hpb : is S 0 b ∨ is S 4 b) (hb0 : pI S 0 b = 0) (hn60 : np < 60) (h5 : cntB (fun k => pI S 0 (pe k)) np < 6) (hf : ∀ k, k < np → pe k ≠ b) (hAp : Apt d sa sb sp) (hCV : CV S d sa (pI S 61 (d 1)).toInt bt V) (hTV : TV S te tm nt tl V) (hPV : PV S pe np pl) (hpf : pfR S b p7) (hpm : 0 ≤ p7.1.toInt ∧ p7.1.toInt ≤ 72) : MtI l yX10_addProof cX10_addProof 2 (some .int) (Rm 7 1 90) G [.ref (d 0), .ref b] S (fun (r : Int32) (S' : Pl) => r.toInt = (np : Int) ∧ DeskW G S' (d 0) (pI S 61 (d 1)).toInt nt (np + 1) (fun k => if k = np then 0 else pI S 0 (pe k)) bt V tl (fun k => if k = np then p7 else pl k)) 1 90 := by
  refine MtI.of (by decide) (Nat.le_of_ble_eq_true rfl) ?_
  intro p e s m args below meth c Q A X hw hin hret ls hl
  have hx := X.1.1
  have hb := X.1.2.1
  have hl : lv_has ls 2 [(0, .ref (d 0)), (1, .ref b)] := hl
  obtain ⟨k0, r70, r71, r72, r73, r74, r75, r76, r77, hR, hS, hB, hSp, ⟨kco, nco⟩, lT, lP, n68, n79, hTl, hPk, hPi, n40⟩ := id hC
  obtain ⟨z92, z93, zw, zz, zst, zs6⟩ := id hN
  have hTp := hR.2.2.2.2.2.2.2
  have n60 := lP.2.2.1
  have oS := hS
  have oTp := hTp
  have oPk := hPk
  have oTl := hTl
  have oC := hC
  refine lv_aload_n hx hb dX10_addProof_0 rfl (lv_at hl 0 rfl) ?_
  refine gf_X10_32 (b := (d 8)) X hw k0 r73 dX10_addProof_1 ?_
  refine lv_aload_n hx hb dX10_addProof_4 rfl (lv_at hl 1 rfl) ?_
  refine k_Vi (n := 1) X hw (rcvk (ci := 0) X hw lP.1 (fun _ _ _ _ _ _ _ => ⟨_, rfl⟩) rfl) (c_add l G _ (d 8) (d 9) pf np pe b (lP.sh z93) hn60 (Or.inr hpb)) wd_r27_10 wd_r27_11 wd_r27_12 wd_r1_22 wd_r27_13 ⟨by decide, by decide, by decide +kernel⟩ rfl rfl ⟨Nat.le_of_ble_eq_true rfl, Nat.le_of_ble_eq_true rfl⟩ rfl rfl hl.1 (Nat.le_of_ble_eq_true rfl) dX10_addProof_5 ⟨Nat.le_of_ble_eq_true rfl, Nat.le_of_ble_eq_true rfl⟩ (fun r5_1 S5_3 H locs h5_2 hw => ?_)
  obtain ⟨ar2, hAP⟩ := h5_2
  have ekA := hAP.k lP.1
  have n0l := ne_kind k0 lP.1 (by decide)
  have rA : pR S5_3 73 (d 0) = some (d 8) := hAP.rf k0.1 n0l r73
  have i78 : pI S5_3 78 (d 0) = pI S 78 (d 0) := hAP.iv k0.1 n0l 78
  have k0A : is S5_3 9 (d 0) := k0.k ekA
  have kLA : is S5_3 11 (d 8) := lP.1.k ekA
  have hA2 := hAP.2.1
  have hCV : CV S5_3 d sa (pI S 61 (d 1)).toInt bt V := CV.kq (S := S) hCV hTp.2.2.1.1 hS hAP.kq (hAP.iv hS.1.1 (ne_kind hS.1 lP.1 (by decide)) 15)
  have hIA : ∀ a9, a9 ∈ pL S → pK S a9 ≠ 11 → ∀ f9, pI S5_3 f9 a9 = pI S f9 a9 := fun a9 h9 h8 f9 => hAP.iv h9 (fun e9 => h8 (by rw [e9]; exact lP.1.2)) f9
  refine lv_pop hx hb dX10_addProof_8 rfl ?_
  refine lv_aload_n hx hb dX10_addProof_9 rfl (lv_at hl 0 rfl) ?_
  refine lv_dup hx hb dX10_addProof_10 rfl ?_
  refine gf_X10_179 (v := (pI S5_3) 78 (d 0)) X hw k0A rfl dX10_addProof_11 ?_
  refine lv_iconst (v := 1) hx hb dX10_addProof_14 (by decide) ?_
  have i78t := congrArg Int32.toInt i78
  refine lv_iadd hx hb dX10_addProof_15 ?_
  refine lv_topi (fun v15_4 e15_4 => ?_)
  have t15_4 := iAdd e15_4 rfl t_1 (by omega) (by omega)
  have t15 := t15_4
  refine pf_X10_179 X hw k0A dX10_addProof_16 (fun H locs hw => ?_)
  have hw : PX G A s.heap (ch S5_3 (up2 (pI S5_3) 78 (d 0) v15_4) (pJ S5_3) (qI S5_3) (qJ S5_3)) H locs := hw
  refine lv_aload_n hx hb dX10_addProof_19 rfl (lv_at hl 0 rfl) ?_
  refine gf_X10_32 (b := (d 8)) X hw k0A rA dX10_addProof_20 ?_
  refine k_Vi (n := 0) X hw (rcvk (ci := 0) X hw kLA (fun _ _ _ _ _ _ _ => ⟨_, rfl⟩) rfl) (c_Jx4a65c_size_8abf5 l G _ (d 8) kLA) wd_r18_1 wd_r18_2 wd_r18_3 wd_r1_22 wd_r18_4 ⟨by decide, by decide, by decide +kernel⟩ rfl rfl ⟨Nat.le_of_ble_eq_true rfl, Nat.le_of_ble_eq_true rfl⟩ rfl rfl hl.1 (Nat.le_of_ble_eq_true rfl) dX10_addProof_23 ⟨Nat.le_of_ble_eq_true rfl, Nat.le_of_ble_eq_true rfl⟩ (fun r23_5 S23_7 H locs h23_6 hw => ?_)
  obtain ⟨rfl, h23_6⟩ := h23_6
  have h23_6e : r23_5 = (up2 (pI S5_3) 78 (d 0) v15_4) 92 (d 8) := h23_6
  have h23_6t : r23_5.toInt = (pI S5_3 92 (d 8)).toInt := by rw [h23_6e, up2_f (show (92 : Nat) ≠ 78 by decide)]
  refine lv_iconst (v := 1) hx hb dX10_addProof_26 (by decide) ?_
  refine lv_isub hx hb dX10_addProof_27 ?_
  refine lv_topi (fun v27_8 e27_8 => ?_)
  have t27_8 := iSub e27_8 rfl t_1 (by omega) (by omega)
  have t27 := t27_8
  have hCA : CIs G S5_3 (va_up d 9 ar2) sa sb sp te tm (va_up pe np b) tf 1 nt (np + 1) := CIs.aP hC hn60 hpb hf hAP
  have hNA := CIn.aP (v := v15_4) hN hC hpb hb0 h5 hf hAP (by omega)
  have hZA : (up2 (pI S5_3) 78 (d 0) v15_4 61 (d 1)).toInt = (pI S 61 (d 1)).toInt := by rw [up2_f (show (61 : Nat) ≠ 78 by decide), hAP.iv hTp.1.1 (ne_kind hTp.1 lP.1 (by decide)) 61]
  have hCV9 : CV (ch S5_3 (up2 (pI S5_3) 78 (d 0) v15_4) (pJ S5_3) (qI S5_3) (qJ S5_3)) d sa (pI S 61 (d 1)).toInt bt V := CV.q (T := (ch S5_3 (up2 (pI S5_3) 78 (d 0) v15_4) (pJ S5_3) (qI S5_3) (qJ S5_3))) hCV rfl (fun _ _ => rfl) (by show ((up2 (pI S5_3) 78 (d 0) v15_4)) 15 (sa 0) = pI S5_3 15 (sa 0); rw [up2_f (show (15 : Nat) ≠ 78 by decide)])
  have hI9 : ∀ f9 a9, f9 ≠ 78 → pI (ch S5_3 (up2 (pI S5_3) 78 (d 0) v15_4) (pJ S5_3) (qI S5_3) (qJ S5_3)) f9 a9 = pI S5_3 f9 a9 := fun f9 a9 h9 => congrFun (show ((up2 (pI S5_3) 78 (d 0) v15_4)) f9 = pI S5_3 f9 from up2_f h9) a9
  have hTV9 : TV (ch S5_3 (up2 (pI S5_3) 78 (d 0) v15_4) (pJ S5_3) (qI S5_3) (qJ S5_3)) te tm nt tl V := hTV.fr (T := (ch S5_3 (up2 (pI S5_3) 78 (d 0) v15_4) (pJ S5_3) (qI S5_3) (qJ S5_3))) (fun k9 h9 f9 h1 h2 => (hI9 f9 _ (by omega)).trans (hIA _ (oTl k9 h9).1.1 (by rw [(oTl k9 h9).1.2]; decide) f9)) (fun k9 h9 => hAP.kq _ (oTl k9 h9).2.2.1.1)
  have hPV9 : PV (ch S5_3 (up2 (pI S5_3) 78 (d 0) v15_4) (pJ S5_3) (qI S5_3) (qJ S5_3)) (va_up pe np b) (np + 1) (fun k => if k = np then p7 else pl k) := hPV.ad (U := (ch S5_3 (up2 (pI S5_3) 78 (d 0) v15_4) (pJ S5_3) (qI S5_3) (qJ S5_3))) (fun k9 h9 => (ekA _ (ob_m (oPk k9 h9))).2.1) (fun k9 h9 f9 h1 => (hI9 f9 _ (pfl_78 h1)).trans (hIA _ (ob_m (oPk k9 h9)) (by rcases oPk k9 h9 with q | q <;> (rw [q.2]; decide)) f9)) (hpf.fr (T := (ch S5_3 (up2 (pI S5_3) 78 (d 0) v15_4) (pJ S5_3) (qI S5_3) (qJ S5_3))) (ekA _ (ob_m hpb)).2.1 (fun f9 h1 => (hI9 f9 _ (pfl_78 h1)).trans (hIA _ (ob_m hpb) (by rcases hpb with q | q <;> (rw [q.2]; decide)) f9))) hpm
  exact hret v27_8 (ch S5_3 (up2 (pI S5_3) 78 (d 0) v15_4) (pJ S5_3) (qI S5_3) (qJ S5_3)) _ _ _ _ ⟨by omega, va_up d 9 ar2, sa, sb, sp, te, tm, va_up pe np b, tf, 1, rfl, hCA, hNA.1, hZA, hNA.2, hAp, hCV9, hTV9, hPV9⟩ hw rfl dX10_addProof_28
set_option maxHeartbeats 4000000 in
set_option maxRecDepth 100000 in
theorem c_w_X10_search (l : Launch) (G : Gh) (S : Pl) (d sa sb sp te tm pe : Nat → Nat) (tf pf nt np : Nat) (a1 a2 a3 a4 a5 a6 a7 : Int32) (bt : Nat → Int32) (V : SV) (tl : Nat → TP) (pl : Nat → PP) (hC : CIs G S d sa sb sp te tm pe tf pf nt np) (hN : CIn (pI S) d te pe nt np) (hAp : Apt d sa sb sp) (hCV : CV S d sa (pI S 61 (d 1)).toInt bt V) (hTV : TV S te tm nt tl V) (hPV : PV S pe np pl) : MtI l yX10_search cX10_search 9 (some .int) (Rm 8 2 98) G [.ref (d 0), .int a1, .int a2, .int a3, .int a4, .int a5, .int a6, .int a7] S (fun (r : Int32) (S' : Pl) => (¬ srC a1 a2 a3 a4 a5 a6 a7 np (cntB (fun k => pI S 0 (pe k)) np) ∧ r = -1 ∧ S = S') ∨ (srC a1 a2 a3 a4 a5 a6 a7 np (cntB (fun k => pI S 0 (pe k)) np) ∧ r.toInt = (np : Int) ∧ DeskW G S' (d 0) (pI S 61 (d 1)).toInt nt (np + 1) (fun k => if k = np then 0 else pI S 0 (pe k)) bt V tl (fun k => if k = np then (a1, a2, a3, a4, a5, a6, a7) else pl k))) 2 98 := by
  refine MtI.of (by decide) (Nat.le_of_ble_eq_true rfl) ?_
  intro p e s m args below meth c Q A X hw hin hret ls hl
  have hx := X.1.1
  have hb := X.1.2.1
  have hl : lv_has ls 9 [(0, .ref (d 0)), (1, .int a1), (2, .int a2), (3, .int a3), (4, .int a4), (5, .int a5), (6, .int a6), (7, .int a7)] := hl
  obtain ⟨k0, r70, r71, r72, r73, r74, r75, r76, r77, hR, hS, hB, hSp, ⟨kco, nco⟩, lT, lP, n68, n79, hTl, hPk, hPi, n40⟩ := id hC
  obtain ⟨z92, z93, zw, zz, zst, zs6⟩ := id hN
  have hTp := hR.2.2.2.2.2.2.2
  have n60 := lP.2.2.1
  have oS := hS
  have oTp := hTp
  have oPk := hPk
  have oTl := hTl
  have oC := hC
  refine lv_iload_n hx hb dX10_search_0 rfl (lv_at hl 1 rfl) ?_
  refine k_Si (n := 1) X hw (c_X10_isMoment l G _ a1) wd_r30_6 wd_r30_7 wd_r1_2 wd_r30_8 ⟨by decide, by decide, by decide +kernel⟩ rfl rfl ⟨Nat.le_of_ble_eq_true rfl, Nat.le_of_ble_eq_true rfl⟩ rfl rfl hl.1 (Nat.le_of_ble_eq_true rfl) dX10_search_1 ⟨Nat.le_of_ble_eq_true rfl, Nat.le_of_ble_eq_true rfl⟩ (fun r1_1 S1_3 H locs h1_2 hw => ?_)
  rcases h1_2 with ⟨rfl, rfl, h1_2⟩ | ⟨rfl, rfl, h1_2⟩
  · have h1_2 := h1_2
    refine lv_if_eq (tgt := 41) hx hb dX10_search_4 (by decide) (fun c4_4 => absurd c4_4 (by decide)) (fun c4_4 => ?_)
    refine lv_iload_n hx hb dX10_search_7 rfl (lv_at hl 2 rfl) ?_
    refine lv_iload_n hx hb dX10_search_8 rfl (lv_at hl 3 rfl) ?_
    refine k_Si (n := 2) X hw (c_X10_isSpan l G _ a2 a3) wd_r32_10 wd_r32_11 wd_r1_2 wd_r32_12 ⟨by decide, by decide, by decide +kernel⟩ rfl rfl ⟨Nat.le_of_ble_eq_true rfl, Nat.le_of_ble_eq_true rfl⟩ rfl rfl hl.1 (Nat.le_of_ble_eq_true rfl) dX10_search_9 ⟨Nat.le_of_ble_eq_true rfl, Nat.le_of_ble_eq_true rfl⟩ (fun r9_5 S9_7 H locs h9_6 hw => ?_)
    rcases h9_6 with ⟨rfl, rfl, h9_6⟩ | ⟨rfl, rfl, h9_6⟩
    · have h9_6 := h9_6
      refine lv_if_eq (tgt := 41) hx hb dX10_search_12 (by decide) (fun c12_8 => absurd c12_8 (by decide)) (fun c12_8 => ?_)
      refine lv_iload hx hb dX10_search_15 (lv_at hl 4 rfl) ?_
      refine lv_iload hx hb dX10_search_17 (lv_at hl 5 rfl) ?_
      refine k_Si (n := 2) X hw (c_X10_isSpan l G _ a4 a5) wd_r32_10 wd_r32_11 wd_r1_2 wd_r32_12 ⟨by decide, by decide, by decide +kernel⟩ rfl rfl ⟨Nat.le_of_ble_eq_true rfl, Nat.le_of_ble_eq_true rfl⟩ rfl rfl hl.1 (Nat.le_of_ble_eq_true rfl) dX10_search_19 ⟨Nat.le_of_ble_eq_true rfl, Nat.le_of_ble_eq_true rfl⟩ (fun r19_9 S19_11 H locs h19_10 hw => ?_)
      rcases h19_10 with ⟨rfl, rfl, h19_10⟩ | ⟨rfl, rfl, h19_10⟩
      · have h19_10 := h19_10
        refine lv_if_eq (tgt := 41) hx hb dX10_search_22 (by decide) (fun c22_12 => absurd c22_12 (by decide)) (fun c22_12 => ?_)
        refine lv_iload hx hb dX10_search_25 (lv_at hl 6 rfl) ?_
        refine lv_iload hx hb dX10_search_27 (lv_at hl 7 rfl) ?_
        refine lv_bipush (v := 20) hx hb dX10_search_29 (by decide) ?_
        refine k_Si (n := 3) X hw (c_X10_isMeans l G _ a6 a7 20) wd_r25_21 wd_r16_4 wd_r1_2 wd_r16_5 ⟨by decide, by decide, by decide +kernel⟩ rfl rfl ⟨Nat.le_of_ble_eq_true rfl, Nat.le_of_ble_eq_true rfl⟩ rfl rfl hl.1 (Nat.le_of_ble_eq_true rfl) dX10_search_31 ⟨Nat.le_of_ble_eq_true rfl, Nat.le_of_ble_eq_true rfl⟩ (fun r31_13 S31_15 H locs h31_14 hw => ?_)
        have := t_20
        rcases h31_14 with ⟨rfl, rfl, h31_14⟩ | ⟨rfl, rfl, h31_14⟩
        · have h31_14 := h31_14
          refine lv_if_eq (tgt := 41) hx hb dX10_search_34 (by decide) (fun c34_16 => absurd c34_16 (by decide)) (fun c34_16 => ?_)
          refine lv_iconst (v := 1) hx hb dX10_search_37 (by decide) ?_
          refine lv_goto (tgt := 42) hx hb dX10_search_38 (by decide) ?_
          refine lv_istore (lv' := [(8, .int 1), (0, .ref (d 0)), (1, .int a1), (2, .int a2), (3, .int a3), (4, .int a4), (5, .int a5), (6, .int a6), (7, .int a7)]) hx hb dX10_search_42 hl (by decide) rfl (fun ls hl => ?_)
          refine lv_iload hx hb dX10_search_44 (lv_at hl 0 rfl) ?_
          refine lv_if_eq (tgt := 56) hx hb dX10_search_46 (by decide) (fun c46_17 => absurd c46_17 (by decide)) (fun c46_17 => ?_)
          refine lv_aload_n hx hb dX10_search_49 rfl (lv_at hl 1 rfl) ?_
          refine k_Vi (n := 0) X hw (rcvk (ci := 10) X hw k0 (fun _ _ _ _ _ _ _ => ⟨_, rfl⟩) rfl) (c_X10_hasRoomForProof l G _ d sa sb sp te tm pe tf pf nt np hC hN) wd_r32_13 wd_r32_14 wd_r32_15 wd_r1_2 wd_r32_16 ⟨by decide, by decide, by decide +kernel⟩ rfl rfl ⟨Nat.le_of_ble_eq_true rfl, Nat.le_of_ble_eq_true rfl⟩ rfl rfl hl.1 (Nat.le_of_ble_eq_true rfl) dX10_search_50 ⟨Nat.le_of_ble_eq_true rfl, Nat.le_of_ble_eq_true rfl⟩ (fun r50_18 S50_20 H locs h50_19 hw => ?_)
          rcases h50_19 with ⟨rfl, rfl, h50_19⟩ | ⟨rfl, rfl, h50_19⟩
          · have h50_19 := h50_19
            refine lv_if_ne (tgt := 58) hx hb dX10_search_53 (by decide) (fun c53_21 => ?_) (fun c53_21 => absurd c53_21 (by decide))
            refine lv_aload_n hx hb dX10_search_58 rfl (lv_at hl 1 rfl) ?_
            refine q_new (k := 4) (ci := 5) (fs := [.int 0, .int 0, .int 0, .int 0, .int 0, .int 0, .int 0, .int 0]) X hw rfl inlX5 tyX5_ok (by decide +kernel) wd_r32_7 wd_r32_8 wd_r32_9 (fun _ _ _ _ => rfl) (Nat.le_of_ble_eq_true rfl) (Nat.le_of_ble_eq_true rfl) dX10_search_59 (fun a59_22 H f59_23 hw => ?_)
            obtain ⟨T59_24, eT59_24, hw⟩ : ∃ zz9 : Pl, zz9 = nO S a59_22 4 ∧ PX G A s.heap zz9 H locs := ⟨_, rfl, hw⟩
            have kb := isO_n eT59_24
            have vb0 : pI T59_24 0 a59_22 = 0 := ivO_n eT59_24
            have k0 := isO eT59_24 f59_23 k0
            refine lv_dup hx hb dX10_search_62 rfl ?_
            refine lv_iload_n hx hb dX10_search_63 rfl (lv_at hl 2 rfl) ?_
            refine lv_iload_n hx hb dX10_search_64 rfl (lv_at hl 3 rfl) ?_
            refine lv_iload_n hx hb dX10_search_65 rfl (lv_at hl 4 rfl) ?_
            refine lv_iload hx hb dX10_search_66 (lv_at hl 5 rfl) ?_
            refine lv_iload hx hb dX10_search_68 (lv_at hl 6 rfl) ?_
            refine lv_iload hx hb dX10_search_70 (lv_at hl 7 rfl) ?_
            refine lv_iload hx hb dX10_search_72 (lv_at hl 8 rfl) ?_
            refine k_Iv (n := 7) (ret2 := none) X hw (c_v_X5_init l G _ a59_22 a1 a2 a3 a4 a5 a6 a7 kb vb0) wd_r32_18 wd_r32_19 wd_r32_9 wd_r32_20 rfl ⟨by decide, by decide, by decide +kernel⟩ rfl rfl ⟨Nat.le_of_ble_eq_true rfl, Nat.le_of_ble_eq_true rfl⟩ rfl rfl hl.1 (Nat.le_of_ble_eq_true rfl) dX10_search_74 ⟨Nat.le_of_ble_eq_true rfl, Nat.le_of_ble_eq_true rfl⟩ (fun S74_26 H locs h74_25 hw => ?_)
            obtain ⟨xT, vbN, kqT, fl0, fl1, fl2, fl3, fl4, fl5, fl6⟩ := h74_25
            have exT : Ex S S74_26 := Ex.new eT59_24 f59_23 xT
            have hN0 := hN
            have hC0 := hC
            have hN := CIn.e hN hC exT
            have hC := CIs.e hC exT
            obtain ⟨k0, r70, r71, r72, r73, r74, r75, r76, r77, hR, hS, hB, hSp, ⟨kco, nco⟩, lT, lP, n68, n79, hTl, hPk, hPi, n40⟩ := id hC
            obtain ⟨z92, z93, zw, zz, zst, zs6⟩ := id hN
            have hTp := hR.2.2.2.2.2.2.2
            have kb := isX xT kb
            have hfr : ∀ k, k < np → pe k ≠ a59_22 := fun k hk => by rcases oPk k hk with q | q <;> exact ne_of q.1 f59_23
            have hce : cntB (fun k => pI S74_26 0 (pe k)) np = cntB (fun k => pI S 0 (pe k)) np := cntB_cong (fun k hk => by rcases oPk k hk with q | q <;> exact (exT _ q.1).2.2.2.2.2 0)
            have kqN : Kq S S74_26 := Kq.nw eT59_24 kqT
            have hCV : CV S74_26 d sa (pI S 61 (d 1)).toInt bt V := hCV.kq oTp.2.2.1.1 oS kqN ((exT _ oS.1.1).2.2.2.2.2 15)
            have hCV1 : CV S74_26 d sa (pI S74_26 61 (d 1)).toInt bt V := by rw [(exT _ oTp.1.1).2.2.2.2.2 61]; exact hCV
            have hTV1 : TV S74_26 te tm nt tl V := hTV.fr (fun k9 h9 f9 _ _ => (exT _ (oTl k9 h9).1.1).2.2.2.2.2 f9) (fun k9 h9 => kqN _ (oTl k9 h9).2.2.1.1)
            have hPV1 : PV S74_26 pe np pl := hPV.fr (fun k9 h9 => (exT _ (ob_m (oPk k9 h9))).2.1) (fun k9 h9 f9 _ => (exT _ (ob_m (oPk k9 h9))).2.2.2.2.2 f9)
            have hpf : pfR S74_26 a59_22 (a1, a2, a3, a4, a5, a6, a7) := Or.inl ⟨kb.2, fl0, fl1, fl2, fl3, fl4, fl5, fl6, (by dsimp only; have := t_20; omega)⟩
            refine k_Vi (n := 1) X hw (rcvk (ci := 10) X hw k0 (fun _ _ _ _ _ _ _ => ⟨_, rfl⟩) rfl) (c_w_X10_addProof l G _ d sa sb sp te tm pe tf pf nt np a59_22 bt V tl pl (a1, a2, a3, a4, a5, a6, a7) hC hN (Or.inr kb) vbN (by omega) (by rw [hce]; omega) hfr hAp hCV1 hTV1 hPV1 hpf (by dsimp only; omega)) wd_r33_8 wd_r33_9 wd_r33_10 wd_r1_2 wd_r33_11 ⟨by decide, by decide, by decide +kernel⟩ rfl rfl ⟨Nat.le_of_ble_eq_true rfl, Nat.le_of_ble_eq_true rfl⟩ rfl rfl hl.1 (Nat.le_of_ble_eq_true rfl) dX10_search_77 ⟨Nat.le_of_ble_eq_true rfl, Nat.le_of_ble_eq_true rfl⟩ (fun r77_27 S77_29 H locs h77_28 hw => ?_)
            obtain ⟨hAR, hDK⟩ := h77_28
            have hDK : DeskW G S77_29 (d 0) (pI S 61 (d 1)).toInt nt (np + 1) (fun k => if k = np then 0 else pI S 0 (pe k)) bt V tl (fun k => if k = np then (a1, a2, a3, a4, a5, a6, a7) else pl k) := by obtain ⟨d9, sa9, sb9, sp9, te9, tm9, pe9, tf9, pf9, q1, q2, q3, q4, q5, q6, q7, q8⟩ := hDK; exact ⟨d9, sa9, sb9, sp9, te9, tm9, pe9, tf9, pf9, q1, q2, q3, q4.trans (by rw [(exT _ oTp.1.1).2.2.2.2.2 61]), fun k hk => (q5 k hk).trans (by by_cases e : k = np; (simp only [if_pos e]); (simp only [if_neg e]; rcases oPk k (by omega) with q | q <;> exact (exT _ q.1).2.2.2.2.2 0)), q6, (by rw [← (exT _ oTp.1.1).2.2.2.2.2 61]; exact q7), q8⟩
            exact hret r77_27 S77_29 _ _ _ _ (Or.inr ⟨by unfold srC; omega, hAR, hDK⟩) hw rfl dX10_search_80
          · have h50_19 := h50_19
            refine lv_if_ne (tgt := 58) hx hb dX10_search_53 (by decide) (fun c53_30 => absurd c53_30 (by decide)) (fun c53_30 => ?_)
            refine lv_iconst (v := -1) hx hb dX10_search_56 (by decide) ?_
            refine W.widen (k := 2) (n := 98) (Nat.le_of_ble_eq_true rfl) (Nat.le_of_ble_eq_true rfl) ?_
            exact hret (-1) S _ _ _ _ (Or.inl ⟨by unfold srC; omega, rfl, rfl⟩) hw rfl dX10_search_57
        · have h31_14 := h31_14
          refine lv_if_eq (tgt := 41) hx hb dX10_search_34 (by decide) (fun c34_31 => ?_) (fun c34_31 => absurd c34_31 (by decide))
          refine lv_iconst (v := 0) hx hb dX10_search_41 (by decide) ?_
          refine lv_istore (lv' := [(8, .int 0), (0, .ref (d 0)), (1, .int a1), (2, .int a2), (3, .int a3), (4, .int a4), (5, .int a5), (6, .int a6), (7, .int a7)]) hx hb dX10_search_42 hl (by decide) rfl (fun ls hl => ?_)
          refine lv_iload hx hb dX10_search_44 (lv_at hl 0 rfl) ?_
          refine lv_if_eq (tgt := 56) hx hb dX10_search_46 (by decide) (fun c46_32 => ?_) (fun c46_32 => absurd c46_32 (by decide))
          refine lv_iconst (v := -1) hx hb dX10_search_56 (by decide) ?_
          refine W.widen (k := 2) (n := 98) (Nat.le_of_ble_eq_true rfl) (Nat.le_of_ble_eq_true rfl) ?_
          exact hret (-1) S _ _ _ _ (Or.inl ⟨by unfold srC; omega, rfl, rfl⟩) hw rfl dX10_search_57
      · have h19_10 := h19_10
        refine lv_if_eq (tgt := 41) hx hb dX10_search_22 (by decide) (fun c22_33 => ?_) (fun c22_33 => absurd c22_33 (by decide))
        refine lv_iconst (v := 0) hx hb dX10_search_41 (by decide) ?_
        refine lv_istore (lv' := [(8, .int 0), (0, .ref (d 0)), (1, .int a1), (2, .int a2), (3, .int a3), (4, .int a4), (5, .int a5), (6, .int a6), (7, .int a7)]) hx hb dX10_search_42 hl (by decide) rfl (fun ls hl => ?_)
        refine lv_iload hx hb dX10_search_44 (lv_at hl 0 rfl) ?_
        refine lv_if_eq (tgt := 56) hx hb dX10_search_46 (by decide) (fun c46_34 => ?_) (fun c46_34 => absurd c46_34 (by decide))
        refine lv_iconst (v := -1) hx hb dX10_search_56 (by decide) ?_
        refine W.widen (k := 2) (n := 98) (Nat.le_of_ble_eq_true rfl) (Nat.le_of_ble_eq_true rfl) ?_
        exact hret (-1) S _ _ _ _ (Or.inl ⟨by unfold srC; omega, rfl, rfl⟩) hw rfl dX10_search_57
    · have h9_6 := h9_6
      refine lv_if_eq (tgt := 41) hx hb dX10_search_12 (by decide) (fun c12_35 => ?_) (fun c12_35 => absurd c12_35 (by decide))
      refine lv_iconst (v := 0) hx hb dX10_search_41 (by decide) ?_
      refine lv_istore (lv' := [(8, .int 0), (0, .ref (d 0)), (1, .int a1), (2, .int a2), (3, .int a3), (4, .int a4), (5, .int a5), (6, .int a6), (7, .int a7)]) hx hb dX10_search_42 hl (by decide) rfl (fun ls hl => ?_)
      refine lv_iload hx hb dX10_search_44 (lv_at hl 0 rfl) ?_
      refine lv_if_eq (tgt := 56) hx hb dX10_search_46 (by decide) (fun c46_36 => ?_) (fun c46_36 => absurd c46_36 (by decide))
      refine lv_iconst (v := -1) hx hb dX10_search_56 (by decide) ?_
      refine W.widen (k := 2) (n := 98) (Nat.le_of_ble_eq_true rfl) (Nat.le_of_ble_eq_true rfl) ?_
      exact hret (-1) S _ _ _ _ (Or.inl ⟨by unfold srC; omega, rfl, rfl⟩) hw rfl dX10_search_57
  · have h1_2 := h1_2
    refine lv_if_eq (tgt := 41) hx hb dX10_search_4 (by decide) (fun c4_37 => ?_) (fun c4_37 => absurd c4_37 (by decide))
    refine lv_iconst (v := 0) hx hb dX10_search_41 (by decide) ?_
    refine lv_istore (lv' := [(8, .int 0), (0, .ref (d 0)), (1, .int a1), (2, .int a2), (3, .int a3), (4, .int a4), (5, .int a5), (6, .int a6), (7, .int a7)]) hx hb dX10_search_42 hl (by decide) rfl (fun ls hl => ?_)
    refine lv_iload hx hb dX10_search_44 (lv_at hl 0 rfl) ?_
    refine lv_if_eq (tgt := 56) hx hb dX10_search_46 (by decide) (fun c46_38 => ?_) (fun c46_38 => absurd c46_38 (by decide))
    refine lv_iconst (v := -1) hx hb dX10_search_56 (by decide) ?_
    refine W.widen (k := 2) (n := 98) (Nat.le_of_ble_eq_true rfl) (Nat.le_of_ble_eq_true rfl) ?_
    exact hret (-1) S _ _ _ _ (Or.inl ⟨by unfold srC; omega, rfl, rfl⟩) hw rfl dX10_search_57
set_option maxHeartbeats 4000000 in
set_option maxRecDepth 100000 in
theorem c_w_X10_clue (l : Launch) (G : Gh) (S : Pl) (d sa sb sp te tm pe : Nat → Nat) (tf pf nt np : Nat) (a1 a2 a3 a4 a5 : Int32) (bt : Nat → Int32) (V : SV) (tl : Nat → TP) (pl : Nat → PP) (hC : CIs G S d sa sb sp te tm pe tf pf nt np) (hN : CIn (pI S) d te pe nt np) (hAp : Apt d sa sb sp) (hCV : CV S d sa (pI S 61 (d 1)).toInt bt V) (hTV : TV S te tm nt tl V) (hPV : PV S pe np pl) : MtI l yX10_clue cX10_clue 7 (some .int) (Rm 8 2 96) G [.ref (d 0), .int a1, .int a2, .int a3, .int a4, .int a5] S (fun (r : Int32) (S' : Pl) => (¬ clC a1 a2 a3 a4 a5 np (cntB (fun k => pI S 0 (pe k)) np) ∧ r = -1 ∧ S = S') ∨ (clC a1 a2 a3 a4 a5 np (cntB (fun k => pI S 0 (pe k)) np) ∧ r.toInt = (np : Int) ∧ DeskW G S' (d 0) (pI S 61 (d 1)).toInt nt (np + 1) (fun k => if k = np then 0 else pI S 0 (pe k)) bt V tl (fun k => if k = np then (a1, a2, a3, a4, 0, 2, a5) else pl k))) 2 96 := by
  refine MtI.of (by decide) (Nat.le_of_ble_eq_true rfl) ?_
  intro p e s m args below meth c Q A X hw hin hret ls hl
  have hx := X.1.1
  have hb := X.1.2.1
  have hl : lv_has ls 7 [(0, .ref (d 0)), (1, .int a1), (2, .int a2), (3, .int a3), (4, .int a4), (5, .int a5)] := hl
  obtain ⟨k0, r70, r71, r72, r73, r74, r75, r76, r77, hR, hS, hB, hSp, ⟨kco, nco⟩, lT, lP, n68, n79, hTl, hPk, hPi, n40⟩ := id hC
  obtain ⟨z92, z93, zw, zz, zst, zs6⟩ := id hN
  have hTp := hR.2.2.2.2.2.2.2
  have n60 := lP.2.2.1
  have oS := hS
  have oTp := hTp
  have oPk := hPk
  have oTl := hTl
  have oC := hC
  refine lv_iload_n hx hb dX10_clue_0 rfl (lv_at hl 1 rfl) ?_
  refine k_Si (n := 1) X hw (c_X10_isMoment l G _ a1) wd_r30_6 wd_r30_7 wd_r1_2 wd_r30_8 ⟨by decide, by decide, by decide +kernel⟩ rfl rfl ⟨Nat.le_of_ble_eq_true rfl, Nat.le_of_ble_eq_true rfl⟩ rfl rfl hl.1 (Nat.le_of_ble_eq_true rfl) dX10_clue_1 ⟨Nat.le_of_ble_eq_true rfl, Nat.le_of_ble_eq_true rfl⟩ (fun r1_1 S1_3 H locs h1_2 hw => ?_)
  rcases h1_2 with ⟨rfl, rfl, h1_2⟩ | ⟨rfl, rfl, h1_2⟩
  · have h1_2 := h1_2
    refine lv_if_eq (tgt := 41) hx hb dX10_clue_4 (by decide) (fun c4_4 => absurd c4_4 (by decide)) (fun c4_4 => ?_)
    refine lv_iload_n hx hb dX10_clue_7 rfl (lv_at hl 2 rfl) ?_
    refine lv_iload_n hx hb dX10_clue_8 rfl (lv_at hl 3 rfl) ?_
    refine k_Si (n := 2) X hw (c_X10_isPoint l G _ a2 a3) wd_r27_3 wd_r19_23 wd_r1_2 wd_r20_0 ⟨by decide, by decide, by decide +kernel⟩ rfl rfl ⟨Nat.le_of_ble_eq_true rfl, Nat.le_of_ble_eq_true rfl⟩ rfl rfl hl.1 (Nat.le_of_ble_eq_true rfl) dX10_clue_9 ⟨Nat.le_of_ble_eq_true rfl, Nat.le_of_ble_eq_true rfl⟩ (fun r9_5 S9_7 H locs h9_6 hw => ?_)
    rcases h9_6 with ⟨rfl, rfl, h9_6⟩ | ⟨rfl, rfl, h9_6⟩
    · have h9_6 := h9_6
      refine lv_if_eq (tgt := 41) hx hb dX10_clue_12 (by decide) (fun c12_8 => absurd c12_8 (by decide)) (fun c12_8 => ?_)
      refine lv_iload hx hb dX10_clue_15 (lv_at hl 4 rfl) ?_
      refine lv_iconst (v := 0) hx hb dX10_clue_17 (by decide) ?_
      refine lv_bipush (v := 80) hx hb dX10_clue_18 (by decide) ?_
      refine k_Si (n := 3) X hw (c_X10_within l G _ a4 0 80) wd_r7_17 wd_r7_18 wd_r1_2 wd_r7_19 ⟨by decide, by decide, by decide +kernel⟩ rfl rfl ⟨Nat.le_of_ble_eq_true rfl, Nat.le_of_ble_eq_true rfl⟩ rfl rfl hl.1 (Nat.le_of_ble_eq_true rfl) dX10_clue_20 ⟨Nat.le_of_ble_eq_true rfl, Nat.le_of_ble_eq_true rfl⟩ (fun r20_9 S20_11 H locs h20_10 hw => ?_)
      have := t_0
      have := t_80
      rcases h20_10 with ⟨rfl, rfl, h20_10⟩ | ⟨rfl, rfl, h20_10⟩
      · have h20_10 := h20_10
        refine lv_if_eq (tgt := 41) hx hb dX10_clue_23 (by decide) (fun c23_12 => absurd c23_12 (by decide)) (fun c23_12 => ?_)
        refine lv_iload hx hb dX10_clue_26 (lv_at hl 5 rfl) ?_
        refine lv_iconst (v := 0) hx hb dX10_clue_28 (by decide) ?_
        refine lv_bipush (v := 100) hx hb dX10_clue_29 (by decide) ?_
        refine k_Si (n := 3) X hw (c_X10_within l G _ a5 0 100) wd_r7_17 wd_r7_18 wd_r1_2 wd_r7_19 ⟨by decide, by decide, by decide +kernel⟩ rfl rfl ⟨Nat.le_of_ble_eq_true rfl, Nat.le_of_ble_eq_true rfl⟩ rfl rfl hl.1 (Nat.le_of_ble_eq_true rfl) dX10_clue_31 ⟨Nat.le_of_ble_eq_true rfl, Nat.le_of_ble_eq_true rfl⟩ (fun r31_13 S31_15 H locs h31_14 hw => ?_)
        have := t_0
        have := t_100
        rcases h31_14 with ⟨rfl, rfl, h31_14⟩ | ⟨rfl, rfl, h31_14⟩
        · have h31_14 := h31_14
          refine lv_if_eq (tgt := 41) hx hb dX10_clue_34 (by decide) (fun c34_16 => absurd c34_16 (by decide)) (fun c34_16 => ?_)
          refine lv_iconst (v := 1) hx hb dX10_clue_37 (by decide) ?_
          refine lv_goto (tgt := 42) hx hb dX10_clue_38 (by decide) ?_
          refine lv_istore (lv' := [(6, .int 1), (0, .ref (d 0)), (1, .int a1), (2, .int a2), (3, .int a3), (4, .int a4), (5, .int a5)]) hx hb dX10_clue_42 hl (by decide) rfl (fun ls hl => ?_)
          refine lv_iload hx hb dX10_clue_44 (lv_at hl 0 rfl) ?_
          refine lv_if_eq (tgt := 56) hx hb dX10_clue_46 (by decide) (fun c46_17 => absurd c46_17 (by decide)) (fun c46_17 => ?_)
          refine lv_aload_n hx hb dX10_clue_49 rfl (lv_at hl 1 rfl) ?_
          refine k_Vi (n := 0) X hw (rcvk (ci := 10) X hw k0 (fun _ _ _ _ _ _ _ => ⟨_, rfl⟩) rfl) (c_X10_hasRoomForProof l G _ d sa sb sp te tm pe tf pf nt np hC hN) wd_r32_13 wd_r32_14 wd_r32_15 wd_r1_2 wd_r32_16 ⟨by decide, by decide, by decide +kernel⟩ rfl rfl ⟨Nat.le_of_ble_eq_true rfl, Nat.le_of_ble_eq_true rfl⟩ rfl rfl hl.1 (Nat.le_of_ble_eq_true rfl) dX10_clue_50 ⟨Nat.le_of_ble_eq_true rfl, Nat.le_of_ble_eq_true rfl⟩ (fun r50_18 S50_20 H locs h50_19 hw => ?_)
          rcases h50_19 with ⟨rfl, rfl, h50_19⟩ | ⟨rfl, rfl, h50_19⟩
          · have h50_19 := h50_19
            refine lv_if_ne (tgt := 58) hx hb dX10_clue_53 (by decide) (fun c53_21 => ?_) (fun c53_21 => absurd c53_21 (by decide))
            refine lv_aload_n hx hb dX10_clue_58 rfl (lv_at hl 1 rfl) ?_
            refine q_new (k := 0) (ci := 1) (fs := [.int 0, .int 0, .int 0, .int 0, .int 0, .int 0]) X hw rfl inlX0 tyX0_ok (by decide +kernel) wd_r34_9 wd_r34_10 wd_r34_11 (fun _ _ _ _ => rfl) (Nat.le_of_ble_eq_true rfl) (Nat.le_of_ble_eq_true rfl) dX10_clue_59 (fun a59_22 H f59_23 hw => ?_)
            obtain ⟨T59_24, eT59_24, hw⟩ : ∃ zz9 : Pl, zz9 = nO S a59_22 0 ∧ PX G A s.heap zz9 H locs := ⟨_, rfl, hw⟩
            have kb := isO_n eT59_24
            have vb0 : pI T59_24 0 a59_22 = 0 := ivO_n eT59_24
            have k0 := isO eT59_24 f59_23 k0
            refine lv_dup hx hb dX10_clue_62 rfl ?_
            refine lv_iload_n hx hb dX10_clue_63 rfl (lv_at hl 2 rfl) ?_
            refine lv_iload_n hx hb dX10_clue_64 rfl (lv_at hl 3 rfl) ?_
            refine lv_iload_n hx hb dX10_clue_65 rfl (lv_at hl 4 rfl) ?_
            refine lv_iload hx hb dX10_clue_66 (lv_at hl 5 rfl) ?_
            refine lv_iload hx hb dX10_clue_68 (lv_at hl 6 rfl) ?_
            refine k_Iv (n := 5) (ret2 := none) X hw (c_v_X0_init l G _ a59_22 a1 a2 a3 a4 a5 kb vb0) wd_r34_12 wd_r34_13 wd_r34_11 wd_r34_14 rfl ⟨by decide, by decide, by decide +kernel⟩ rfl rfl ⟨Nat.le_of_ble_eq_true rfl, Nat.le_of_ble_eq_true rfl⟩ rfl rfl hl.1 (Nat.le_of_ble_eq_true rfl) dX10_clue_70 ⟨Nat.le_of_ble_eq_true rfl, Nat.le_of_ble_eq_true rfl⟩ (fun S70_26 H locs h70_25 hw => ?_)
            obtain ⟨xT, vbN, kqT, fl0, fl1, fl2, fl3, fl4⟩ := h70_25
            have exT : Ex S S70_26 := Ex.new eT59_24 f59_23 xT
            have hN0 := hN
            have hC0 := hC
            have hN := CIn.e hN hC exT
            have hC := CIs.e hC exT
            obtain ⟨k0, r70, r71, r72, r73, r74, r75, r76, r77, hR, hS, hB, hSp, ⟨kco, nco⟩, lT, lP, n68, n79, hTl, hPk, hPi, n40⟩ := id hC
            obtain ⟨z92, z93, zw, zz, zst, zs6⟩ := id hN
            have hTp := hR.2.2.2.2.2.2.2
            have kb := isX xT kb
            have hfr : ∀ k, k < np → pe k ≠ a59_22 := fun k hk => by rcases oPk k hk with q | q <;> exact ne_of q.1 f59_23
            have hce : cntB (fun k => pI S70_26 0 (pe k)) np = cntB (fun k => pI S 0 (pe k)) np := cntB_cong (fun k hk => by rcases oPk k hk with q | q <;> exact (exT _ q.1).2.2.2.2.2 0)
            have kqN : Kq S S70_26 := Kq.nw eT59_24 kqT
            have hCV : CV S70_26 d sa (pI S 61 (d 1)).toInt bt V := hCV.kq oTp.2.2.1.1 oS kqN ((exT _ oS.1.1).2.2.2.2.2 15)
            have hCV1 : CV S70_26 d sa (pI S70_26 61 (d 1)).toInt bt V := by rw [(exT _ oTp.1.1).2.2.2.2.2 61]; exact hCV
            have hTV1 : TV S70_26 te tm nt tl V := hTV.fr (fun k9 h9 f9 _ _ => (exT _ (oTl k9 h9).1.1).2.2.2.2.2 f9) (fun k9 h9 => kqN _ (oTl k9 h9).2.2.1.1)
            have hPV1 : PV S70_26 pe np pl := hPV.fr (fun k9 h9 => (exT _ (ob_m (oPk k9 h9))).2.1) (fun k9 h9 f9 _ => (exT _ (ob_m (oPk k9 h9))).2.2.2.2.2 f9)
            have hpf : pfR S70_26 a59_22 (a1, a2, a3, a4, 0, 2, a5) := Or.inr ⟨kb.2, fl0, fl1, fl2, fl3, rfl, rfl, fl4, (by dsimp only; omega)⟩
            refine k_Vi (n := 1) X hw (rcvk (ci := 10) X hw k0 (fun _ _ _ _ _ _ _ => ⟨_, rfl⟩) rfl) (c_w_X10_addProof l G _ d sa sb sp te tm pe tf pf nt np a59_22 bt V tl pl (a1, a2, a3, a4, 0, 2, a5) hC hN (Or.inl kb) vbN (by omega) (by rw [hce]; omega) hfr hAp hCV1 hTV1 hPV1 hpf (by dsimp only; omega)) wd_r33_8 wd_r33_9 wd_r33_10 wd_r1_2 wd_r33_11 ⟨by decide, by decide, by decide +kernel⟩ rfl rfl ⟨Nat.le_of_ble_eq_true rfl, Nat.le_of_ble_eq_true rfl⟩ rfl rfl hl.1 (Nat.le_of_ble_eq_true rfl) dX10_clue_73 ⟨Nat.le_of_ble_eq_true rfl, Nat.le_of_ble_eq_true rfl⟩ (fun r73_27 S73_29 H locs h73_28 hw => ?_)
            obtain ⟨hAR, hDK⟩ := h73_28
            have hDK : DeskW G S73_29 (d 0) (pI S 61 (d 1)).toInt nt (np + 1) (fun k => if k = np then 0 else pI S 0 (pe k)) bt V tl (fun k => if k = np then (a1, a2, a3, a4, 0, 2, a5) else pl k) := by obtain ⟨d9, sa9, sb9, sp9, te9, tm9, pe9, tf9, pf9, q1, q2, q3, q4, q5, q6, q7, q8⟩ := hDK; exact ⟨d9, sa9, sb9, sp9, te9, tm9, pe9, tf9, pf9, q1, q2, q3, q4.trans (by rw [(exT _ oTp.1.1).2.2.2.2.2 61]), fun k hk => (q5 k hk).trans (by by_cases e : k = np; (simp only [if_pos e]); (simp only [if_neg e]; rcases oPk k (by omega) with q | q <;> exact (exT _ q.1).2.2.2.2.2 0)), q6, (by rw [← (exT _ oTp.1.1).2.2.2.2.2 61]; exact q7), q8⟩
            exact hret r73_27 S73_29 _ _ _ _ (Or.inr ⟨by unfold clC; omega, hAR, hDK⟩) hw rfl dX10_clue_76
          · have h50_19 := h50_19
            refine lv_if_ne (tgt := 58) hx hb dX10_clue_53 (by decide) (fun c53_30 => absurd c53_30 (by decide)) (fun c53_30 => ?_)
            refine lv_iconst (v := -1) hx hb dX10_clue_56 (by decide) ?_
            refine W.widen (k := 2) (n := 96) (Nat.le_of_ble_eq_true rfl) (Nat.le_of_ble_eq_true rfl) ?_
            exact hret (-1) S _ _ _ _ (Or.inl ⟨by unfold clC; omega, rfl, rfl⟩) hw rfl dX10_clue_57
        · have h31_14 := h31_14
          refine lv_if_eq (tgt := 41) hx hb dX10_clue_34 (by decide) (fun c34_31 => ?_) (fun c34_31 => absurd c34_31 (by decide))
          refine lv_iconst (v := 0) hx hb dX10_clue_41 (by decide) ?_
          refine lv_istore (lv' := [(6, .int 0), (0, .ref (d 0)), (1, .int a1), (2, .int a2), (3, .int a3), (4, .int a4), (5, .int a5)]) hx hb dX10_clue_42 hl (by decide) rfl (fun ls hl => ?_)
          refine lv_iload hx hb dX10_clue_44 (lv_at hl 0 rfl) ?_
          refine lv_if_eq (tgt := 56) hx hb dX10_clue_46 (by decide) (fun c46_32 => ?_) (fun c46_32 => absurd c46_32 (by decide))
          refine lv_iconst (v := -1) hx hb dX10_clue_56 (by decide) ?_
          refine W.widen (k := 2) (n := 96) (Nat.le_of_ble_eq_true rfl) (Nat.le_of_ble_eq_true rfl) ?_
          exact hret (-1) S _ _ _ _ (Or.inl ⟨by unfold clC; omega, rfl, rfl⟩) hw rfl dX10_clue_57
      · have h20_10 := h20_10
        refine lv_if_eq (tgt := 41) hx hb dX10_clue_23 (by decide) (fun c23_33 => ?_) (fun c23_33 => absurd c23_33 (by decide))
        refine lv_iconst (v := 0) hx hb dX10_clue_41 (by decide) ?_
        refine lv_istore (lv' := [(6, .int 0), (0, .ref (d 0)), (1, .int a1), (2, .int a2), (3, .int a3), (4, .int a4), (5, .int a5)]) hx hb dX10_clue_42 hl (by decide) rfl (fun ls hl => ?_)
        refine lv_iload hx hb dX10_clue_44 (lv_at hl 0 rfl) ?_
        refine lv_if_eq (tgt := 56) hx hb dX10_clue_46 (by decide) (fun c46_34 => ?_) (fun c46_34 => absurd c46_34 (by decide))
        refine lv_iconst (v := -1) hx hb dX10_clue_56 (by decide) ?_
        refine W.widen (k := 2) (n := 96) (Nat.le_of_ble_eq_true rfl) (Nat.le_of_ble_eq_true rfl) ?_
        exact hret (-1) S _ _ _ _ (Or.inl ⟨by unfold clC; omega, rfl, rfl⟩) hw rfl dX10_clue_57
    · have h9_6 := h9_6
      refine lv_if_eq (tgt := 41) hx hb dX10_clue_12 (by decide) (fun c12_35 => ?_) (fun c12_35 => absurd c12_35 (by decide))
      refine lv_iconst (v := 0) hx hb dX10_clue_41 (by decide) ?_
      refine lv_istore (lv' := [(6, .int 0), (0, .ref (d 0)), (1, .int a1), (2, .int a2), (3, .int a3), (4, .int a4), (5, .int a5)]) hx hb dX10_clue_42 hl (by decide) rfl (fun ls hl => ?_)
      refine lv_iload hx hb dX10_clue_44 (lv_at hl 0 rfl) ?_
      refine lv_if_eq (tgt := 56) hx hb dX10_clue_46 (by decide) (fun c46_36 => ?_) (fun c46_36 => absurd c46_36 (by decide))
      refine lv_iconst (v := -1) hx hb dX10_clue_56 (by decide) ?_
      refine W.widen (k := 2) (n := 96) (Nat.le_of_ble_eq_true rfl) (Nat.le_of_ble_eq_true rfl) ?_
      exact hret (-1) S _ _ _ _ (Or.inl ⟨by unfold clC; omega, rfl, rfl⟩) hw rfl dX10_clue_57
  · have h1_2 := h1_2
    refine lv_if_eq (tgt := 41) hx hb dX10_clue_4 (by decide) (fun c4_37 => ?_) (fun c4_37 => absurd c4_37 (by decide))
    refine lv_iconst (v := 0) hx hb dX10_clue_41 (by decide) ?_
    refine lv_istore (lv' := [(6, .int 0), (0, .ref (d 0)), (1, .int a1), (2, .int a2), (3, .int a3), (4, .int a4), (5, .int a5)]) hx hb dX10_clue_42 hl (by decide) rfl (fun ls hl => ?_)
    refine lv_iload hx hb dX10_clue_44 (lv_at hl 0 rfl) ?_
    refine lv_if_eq (tgt := 56) hx hb dX10_clue_46 (by decide) (fun c46_38 => ?_) (fun c46_38 => absurd c46_38 (by decide))
    refine lv_iconst (v := -1) hx hb dX10_clue_56 (by decide) ?_
    refine W.widen (k := 2) (n := 96) (Nat.le_of_ble_eq_true rfl) (Nat.le_of_ble_eq_true rfl) ?_
    exact hret (-1) S _ _ _ _ (Or.inl ⟨by unfold clC; omega, rfl, rfl⟩) hw rfl dX10_clue_57
set_option maxHeartbeats 4000000 in
set_option maxRecDepth 100000 in
theorem c_w_X10_back (l : Launch) (G : Gh) (S : Pl) (d sa sb sp te tm pe : Nat → Nat) (tf pf nt np : Nat) (i : Int32) (bt : Nat → Int32) (V : SV) (tl : Nat → TP) (pl : Nat → PP) (hC : CIs G S d sa sb sp te tm pe tf pf nt np) (hN : CIn (pI S) d te pe nt np) (hAp : Apt d sa sb sp) (hCV : CV S d sa (pI S 61 (d 1)).toInt bt V) (hTV : TV S te tm nt tl V) (hPV : PV S pe np pl) : MtI l yX10_back cX10_back 2 (some .boolean) (Rm 3 0 0) G [.ref (d 0), .int i] S (fun (r : Int32) (S' : Pl) => (r = 1 ∧ (0 ≤ i.toInt ∧ i.toInt < (np : Int) ∧ (pI S 0 (pe i.toNatClampNeg)).toInt = 0) ∧ DeskW G S' (d 0) (pI S 61 (d 1)).toInt nt np (fun k => if k = i.toNatClampNeg then 1 else pI S 0 (pe k)) bt V tl pl) ∨ (r = 0 ∧ ¬ (0 ≤ i.toInt ∧ i.toInt < (np : Int) ∧ (pI S 0 (pe i.toNatClampNeg)).toInt = 0) ∧ S = S')) 0 0 := by
  refine MtI.of (by decide) (Nat.le_of_ble_eq_true rfl) ?_
  intro p e s m args below meth c Q A X hw hin hret ls hl
  have hx := X.1.1
  have hb := X.1.2.1
  have hl : lv_has ls 2 [(0, .ref (d 0)), (1, .int i)] := hl
  obtain ⟨k0, r70, r71, r72, r73, r74, r75, r76, r77, hR, hS, hB, hSp, ⟨kco, nco⟩, lT, lP, n68, n79, hTl, hPk, hPi, n40⟩ := id hC
  obtain ⟨z92, z93, zw, zz, zst, zs6⟩ := id hN
  have hTp := hR.2.2.2.2.2.2.2
  have n60 := lP.2.2.1
  have oS := hS
  have oTp := hTp
  have oPk := hPk
  have oTl := hTl
  have oC := hC
  refine lv_iload_n hx hb dX10_back_0 rfl (lv_at hl 1 rfl) ?_
  refine lv_iconst (v := 0) hx hb dX10_back_1 (by decide) ?_
  refine lv_aload_n hx hb dX10_back_2 rfl (lv_at hl 0 rfl) ?_
  refine gf_X10_32 (b := (d 8)) X hw k0 r73 dX10_back_3 ?_
  refine k_Vi (n := 0) X hw (rcvk (ci := 0) X hw lP.1 (fun _ _ _ _ _ _ _ => ⟨_, rfl⟩) rfl) (c_Jx4a65c_size_8abf5 l G _ (d 8) lP.1) wd_r18_1 wd_r18_2 wd_r18_3 wd_r1_22 wd_r18_4 ⟨by decide, by decide, by decide +kernel⟩ rfl rfl ⟨Nat.le_of_ble_eq_true rfl, Nat.le_of_ble_eq_true rfl⟩ rfl rfl hl.1 (Nat.le_of_ble_eq_true rfl) dX10_back_6 ⟨Nat.le_of_ble_eq_true rfl, Nat.le_of_ble_eq_true rfl⟩ (fun r6_1 S6_3 H locs h6_2 hw => ?_)
  obtain ⟨rfl, h6_2⟩ := h6_2
  have h6_2t : r6_1.toInt = ((pI S) 92 (d 8)).toInt := congrArg Int32.toInt h6_2
  refine lv_iconst (v := 1) hx hb dX10_back_9 (by decide) ?_
  refine lv_isub hx hb dX10_back_10 ?_
  refine lv_topi (fun v10_4 e10_4 => ?_)
  have t10_4 := iSub e10_4 rfl t_1 (by omega) (by omega)
  have t10 := t10_4
  refine k_Si (n := 3) X hw (c_X10_within l G _ i 0 v10_4) wd_r7_17 wd_r7_18 wd_r1_2 wd_r7_19 ⟨by decide, by decide, by decide +kernel⟩ rfl rfl ⟨Nat.le_of_ble_eq_true rfl, Nat.le_of_ble_eq_true rfl⟩ rfl rfl hl.1 (Nat.le_of_ble_eq_true rfl) dX10_back_11 ⟨Nat.le_of_ble_eq_true rfl, Nat.le_of_ble_eq_true rfl⟩ (fun r11_5 S11_7 H locs h11_6 hw => ?_)
  have := t_0
  rcases h11_6 with ⟨rfl, rfl, h11_6⟩ | ⟨rfl, rfl, h11_6⟩
  · have h11_6 := h11_6
    refine lv_if_eq (tgt := 34) hx hb dX10_back_14 (by decide) (fun c14_8 => absurd c14_8 (by decide)) (fun c14_8 => ?_)
    refine lv_aload_n hx hb dX10_back_17 rfl (lv_at hl 0 rfl) ?_
    refine gf_X10_32 (b := (d 8)) X hw k0 r73 dX10_back_18 ?_
    refine lv_iload_n hx hb dX10_back_21 rfl (lv_at hl 1 rfl) ?_
    refine k_Vq (n := 1) X hw (rcvk (ci := 0) X hw lP.1 (fun _ _ _ _ _ _ _ => ⟨_, rfl⟩) rfl) (c_Jx4a65c_get_915e3 l G _ (d 8) (d 9) pf np pe i (lP.sh z93) (by omega)) wd_r18_6 wd_r18_7 wd_r18_8 wd_r1_22 wd_r18_9 ⟨by decide, by decide, by decide +kernel⟩ rfl rfl ⟨Nat.le_of_ble_eq_true rfl, Nat.le_of_ble_eq_true rfl⟩ rfl rfl hl.1 (Nat.le_of_ble_eq_true rfl) dX10_back_22 ⟨Nat.le_of_ble_eq_true rfl, Nat.le_of_ble_eq_true rfl⟩ (fun r22_9 S22_11 H locs h22_10 hw => ?_)
    obtain ⟨rfl, rfl⟩ := h22_10
    have hik : i.toNatClampNeg < np := clt (by omega) (by omega)
    refine q_castP X hw (hPk _ hik) dX10_back_25 ?_
    refine kp_st X hw (hPk _ hik) ⟨Nat.le_of_ble_eq_true rfl, Nat.le_of_ble_eq_true rfl⟩ hl.1 (Nat.le_of_ble_eq_true rfl) dX10_back_28 ⟨Nat.le_of_ble_eq_true rfl, Nat.le_of_ble_eq_true rfl⟩ (fun r28 H locs h28 hw => ?_)
    rcases h28 with ⟨rfl, h28⟩ | ⟨rfl, h28⟩
    · skip
      refine lv_if_ne (tgt := 36) hx hb dX10_back_31 (by decide) (fun c31_12 => ?_) (fun c31_12 => absurd c31_12 (by decide))
      refine lv_aload_n hx hb dX10_back_36 rfl (lv_at hl 0 rfl) ?_
      refine gf_X10_32 (b := (d 8)) X hw k0 r73 dX10_back_37 ?_
      refine lv_iload_n hx hb dX10_back_40 rfl (lv_at hl 1 rfl) ?_
      refine k_Vq (n := 1) X hw (rcvk (ci := 0) X hw lP.1 (fun _ _ _ _ _ _ _ => ⟨_, rfl⟩) rfl) (c_Jx4a65c_get_915e3 l G _ (d 8) (d 9) pf np pe i (lP.sh z93) (by omega)) wd_r18_6 wd_r18_7 wd_r18_8 wd_r1_22 wd_r18_9 ⟨by decide, by decide, by decide +kernel⟩ rfl rfl ⟨Nat.le_of_ble_eq_true rfl, Nat.le_of_ble_eq_true rfl⟩ rfl rfl hl.1 (Nat.le_of_ble_eq_true rfl) dX10_back_41 ⟨Nat.le_of_ble_eq_true rfl, Nat.le_of_ble_eq_true rfl⟩ (fun r41_13 S41_15 H locs h41_14 hw => ?_)
      obtain ⟨rfl, rfl⟩ := h41_14
      have hik : i.toNatClampNeg < np := clt (by omega) (by omega)
      refine q_castP X hw (hPk _ hik) dX10_back_44 ?_
      refine kp_tb X hw (hPk _ hik) ⟨Nat.le_of_ble_eq_true rfl, Nat.le_of_ble_eq_true rfl⟩ hl.1 (Nat.le_of_ble_eq_true rfl) dX10_back_47 ⟨Nat.le_of_ble_eq_true rfl, Nat.le_of_ble_eq_true rfl⟩ (fun H locs hw => ?_)
      have hw : PX G A s.heap (ch S (up2 (pI S) 0 (pe i.toNatClampNeg) 1) (pJ S) (qI S) (qJ S)) H locs := hw
      refine lv_aload_n hx hb dX10_back_50 rfl (lv_at hl 0 rfl) ?_
      refine lv_dup hx hb dX10_back_51 rfl ?_
      refine gf_X10_179 (v := (pI S) 78 (d 0)) X hw k0 rfl dX10_back_52 ?_
      refine lv_iconst (v := 1) hx hb dX10_back_55 (by decide) ?_
      refine lv_isub hx hb dX10_back_56 ?_
      refine lv_topi (fun v56_16 e56_16 => ?_)
      have t56_16 := iSub e56_16 rfl t_1 (by omega) (by omega)
      have t56 := t56_16
      refine pf_X10_179 X hw k0 dX10_back_57 (fun H locs hw => ?_)
      have hw : PX G A s.heap (ch S (up2 (up2 (pI S) 0 (pe i.toNatClampNeg) 1) 78 (d 0) v56_16) (pJ S) (qI S) (qJ S)) H locs := hw
      refine lv_iconst (v := 1) hx hb dX10_back_60 (by decide) ?_
      have hCV9 : CV (ch S (up2 (up2 (pI S) 0 (pe i.toNatClampNeg) 1) 78 (d 0) v56_16) (pJ S) (qI S) (qJ S)) d sa (pI S 61 (d 1)).toInt bt V := CV.q (T := (ch S (up2 (up2 (pI S) 0 (pe i.toNatClampNeg) 1) 78 (d 0) v56_16) (pJ S) (qI S) (qJ S))) hCV rfl (fun _ _ => rfl) (by show ((up2 (up2 (pI S) 0 (pe i.toNatClampNeg) 1) 78 (d 0) v56_16)) 15 (sa 0) = pI S 15 (sa 0); rw [up2_f (show (15 : Nat) ≠ 78 by decide), up2_f (show (15 : Nat) ≠ 0 by decide)])
      have hI9 : ∀ f9 a9, f9 ≠ 78 → f9 ≠ 0 → pI (ch S (up2 (up2 (pI S) 0 (pe i.toNatClampNeg) 1) 78 (d 0) v56_16) (pJ S) (qI S) (qJ S)) f9 a9 = pI S f9 a9 := fun f9 a9 h9 h8 => congrFun (show ((up2 (up2 (pI S) 0 (pe i.toNatClampNeg) 1) 78 (d 0) v56_16)) f9 = pI S f9 from (up2_f h9).trans (up2_f h8)) a9
      have hTV9 : TV (ch S (up2 (up2 (pI S) 0 (pe i.toNatClampNeg) 1) 78 (d 0) v56_16) (pJ S) (qI S) (qJ S)) te tm nt tl V := hTV.fr (T := (ch S (up2 (up2 (pI S) 0 (pe i.toNatClampNeg) 1) 78 (d 0) v56_16) (pJ S) (qI S) (qJ S))) (fun k9 h9 f9 h1 h2 => hI9 f9 _ (by omega) (by omega)) (fun _ _ => rfl)
      have hPV9 : PV (ch S (up2 (up2 (pI S) 0 (pe i.toNatClampNeg) 1) 78 (d 0) v56_16) (pJ S) (qI S) (qJ S)) pe np pl := hPV.fr (T := (ch S (up2 (up2 (pI S) 0 (pe i.toNatClampNeg) 1) 78 (d 0) v56_16) (pJ S) (qI S) (qJ S))) (fun _ _ => rfl) (fun k9 h9 f9 h1 => hI9 f9 _ (pfl_78 h1) (pfl_0 h1))
      exact hret 1 (ch S (up2 (up2 (pI S) 0 (pe i.toNatClampNeg) 1) 78 (d 0) v56_16) (pJ S) (qI S) (qJ S)) _ _ _ _ (Or.inl ⟨rfl, by omega, d, sa, sb, sp, te, tm, pe, tf, pf, rfl, hC, (CIn.bk hN hC hik h28 (by omega)).1, rfl, (CIn.bk hN hC hik h28 (by omega)).2, hAp, hCV9, hTV9, hPV9⟩) hw rfl dX10_back_61
    · skip
      refine lv_if_ne (tgt := 36) hx hb dX10_back_31 (by decide) (fun c31_17 => absurd c31_17 (by decide)) (fun c31_17 => ?_)
      refine lv_iconst (v := 0) hx hb dX10_back_34 (by decide) ?_
      exact hret 0 S _ _ _ _ (Or.inr ⟨rfl, by omega, rfl⟩) hw rfl dX10_back_35
  · have h11_6 := h11_6
    refine lv_if_eq (tgt := 34) hx hb dX10_back_14 (by decide) (fun c14_18 => ?_) (fun c14_18 => absurd c14_18 (by decide))
    refine lv_iconst (v := 0) hx hb dX10_back_34 (by decide) ?_
    exact hret 0 S _ _ _ _ (Or.inr ⟨rfl, by omega, rfl⟩) hw rfl dX10_back_35
