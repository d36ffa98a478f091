
/-! ===== the reader: what it asks of a sea ===== -/
section RD
variable {q : Nat → Nat → Int32} {sa : Nat → Nat} {C : Nat → Nat → Int32} {nb : Nat} {w : Int32}
theorem told_0 {v : Int32} (hct : Ct q sa C) (hrg : rgN w.toNatClampNeg (q nb 0) (q nb 1)) (hw : w = 0) (ev : v = q nb 0) : told C w.toNatClampNeg (q nb 0).toNatClampNeg (q nb 1).toNatClampNeg ↔ (0 ≤ v.toInt ∧ v.toInt < 72 ∧ ¬ q (fl sa 0 3) v.toNatClampNeg = 0) := by
  subst hw; subst ev
  have hr := hrg.1 (by decide)
  have e := hct 13 (by decide) (q nb 0).toNatClampNeg (clt hr.1 hr.2)
  show ¬ C 13 _ = 0 ↔ _
  rw [← e]
  exact ⟨fun h => ⟨hr.1, hr.2, h⟩, fun h => h.2.2⟩
theorem told_1 {v u : Int32} (hct : Ct q sa C) (hrg : rgN w.toNatClampNeg (q nb 0) (q nb 1)) (hw : w = 1) (ev : v = q nb 0) (eu : u = q nb 1) : told C w.toNatClampNeg (q nb 0).toNatClampNeg (q nb 1).toNatClampNeg ↔ (0 ≤ v.toInt ∧ v.toInt < 4 ∧ 0 ≤ u.toInt ∧ u.toInt < 72 ∧ ¬ q (fl sa (v.toNatClampNeg + 1) 3) u.toNatClampNeg = 0) := by
  subst hw; subst ev; subst eu
  obtain ⟨h0, h1⟩ := hrg.2.1 (by decide)
  have l0 := clt (n := 4) h0.1 h0.2
  have e := hct (10 + 4 * ((q nb 0).toNatClampNeg + 1) + 3) (fl_in (by omega) (by omega)) (q nb 1).toNatClampNeg (by rw [lgR_fl]; exact clt h1.1 h1.2)
  show ¬ C (10 + 4 * ((q nb 0).toNatClampNeg + 1) + 3) _ = 0 ↔ _
  rw [← e]
  exact ⟨fun h => ⟨h0.1, h0.2, h1.1, h1.2, h⟩, fun h => h.2.2.2.2⟩
theorem told_2 {v : Int32} (hct : Ct q sa C) (hrg : rgN w.toNatClampNeg (q nb 0) (q nb 1)) (hw : w = 2) (ev : v = q nb 0) : told C w.toNatClampNeg (q nb 0).toNatClampNeg (q nb 1).toNatClampNeg ↔ (0 ≤ v.toInt ∧ v.toInt < 4 ∧ ¬ q (sa 2) v.toNatClampNeg = -1) := by
  subst hw; subst ev
  have hr := hrg.2.2.1 (by decide)
  have e := hct 2 (by decide) (q nb 0).toNatClampNeg (clt hr.1 hr.2)
  show ¬ C 2 _ = -1 ↔ _
  rw [← e]
  exact ⟨fun h => ⟨hr.1, hr.2, h⟩, fun h => h.2.2⟩
theorem told_3 {v u x y : Int32} (hct : Ct q sa C) (hrg : rgN w.toNatClampNeg (q nb 0) (q nb 1)) (hw : w = 3) (ev : v = q nb 0) (eu : u = q nb 1) (tx : x.toInt = u.toInt * 8) (ty : y.toInt = x.toInt + v.toInt) : told C w.toNatClampNeg (q nb 0).toNatClampNeg (q nb 1).toNatClampNeg ↔ (0 ≤ y.toInt ∧ y.toInt < 64 ∧ ¬ q (sa 3) y.toNatClampNeg = 0) := by
  subst hw; subst ev; subst eu
  obtain ⟨h0, h1⟩ := hrg.2.2.2.1 (by decide)
  have a0 := cl_toInt h0.1
  have a1 := cl_toInt h1.1
  have a2 := cl_toInt (x := y) (by omega)
  have ey : y.toNatClampNeg = 8 * (q nb 1).toNatClampNeg + (q nb 0).toNatClampNeg := by omega
  have e := hct 3 (by decide) y.toNatClampNeg (show y.toNatClampNeg < 64 by omega)
  show ¬ C 3 (8 * _ + _) = 0 ↔ _
  rw [← ey, ← e]
  exact ⟨fun h => ⟨by omega, by omega, h⟩, fun h => h.2.2⟩
theorem told_4 {v u : Int32} (hct : Ct q sa C) (hrg : rgN w.toNatClampNeg (q nb 0) (q nb 1)) (hw : w = 4) (ev : v = q nb 0) (eu : u = q nb 1) : told C w.toNatClampNeg (q nb 0).toNatClampNeg (q nb 1).toNatClampNeg ↔ (0 ≤ v.toInt ∧ v.toInt < 2 ∧ 0 ≤ u.toInt ∧ u.toInt ≤ 20 ∧ ¬ q (sa 4) (mix v u) = -1) := by
  subst hw; subst ev; subst eu
  obtain ⟨h0, h1⟩ := hrg.2.2.2.2 (by decide)
  have a0 := cl_toInt h0.1
  have a1 := cl_toInt (x := q nb 1) (by omega)
  have e := hct 4 (by decide) (mix (q nb 0) (q nb 1)) (show mix _ _ < 42 by unfold mix; omega)
  show ¬ C 4 (mix (q nb 0) (q nb 1)) = -1 ↔ _
  rw [← e]
  exact ⟨fun h => ⟨h0.1, h0.2, by omega, by omega, h⟩, fun h => h.2.2.2.2⟩
theorem fits_C {v u z : Int32} (hct : Ct q sa C) (hv : 0 ≤ v.toInt ∧ v.toInt < 2) (hu : u.toInt ≤ 20) : fits (q (sa 4)) v.toNatClampNeg u.toNatClampNeg z.toInt ↔ fits (C 4) v.toNatClampNeg u.toNatClampNeg z.toInt := by
  have hb := clt (n := 2) hv.1 hv.2
  have hu2 : u.toNatClampNeg ≤ 20 := by rw [Int32.toNatClampNeg]; omega
  have key : ∀ j, j ≤ 20 → q (sa 4) (21 * v.toNatClampNeg + j) = C 4 (21 * v.toNatClampNeg + j) := fun j hj => hct 4 (by decide) _ (show _ < 42 by omega)
  refine ⟨fun h => ⟨fun j a b d e => ?_, fun j a b d e => ?_⟩, fun h => ⟨fun j a b d e => ?_, fun j a b d e => ?_⟩⟩
  · rw [← key j (by omega)] at e ⊢; exact h.1 j a b d e
  · rw [← key j d] at e ⊢; exact h.2 j a b d e
  · rw [key j (by omega)] at e ⊢; exact h.1 j a b d e
  · rw [key j d] at e ⊢; exact h.2 j a b d e
/-! what a line's numbers may be -/
def rgA (s : Nat) (n0 n1 n2 n3 : Int32) : Prop := rgN s n0 n1 ∧ (s = 0 → (-30 ≤ n1.toInt ∧ n1.toInt ≤ 30) ∧ -30 ≤ n2.toInt ∧ n2.toInt ≤ 30) ∧ (s = 1 → (-30 ≤ n2.toInt ∧ n2.toInt ≤ 30) ∧ -30 ≤ n3.toInt ∧ n3.toInt ≤ 30)
theorem tell_0 {q1 : Nat → Nat → Int32} {h x y : Int32} (hct : Ct q sa C) (hd : sdj sa) (hw : w = 0) (eh : h = q nb 0) (ex : x = q nb 1) (ey : y = q nb 2) (t : tfl q q1 (fl sa 0) h.toNatClampNeg x y) : Ct q1 sa (tellC C w.toNatClampNeg (q nb 0).toNatClampNeg (q nb 1).toNatClampNeg (q nb)) ∧ seO q q1 sa := by
  subst hw; subst eh; subst ex; subst ey
  exact hct.tf hd (f := 0) (by decide) t
theorem tell_1 {q1 : Nat → Nat → Int32} {u h x y : Int32} (hct : Ct q sa C) (hd : sdj sa) (hw : w = 1) (hu : 0 ≤ u.toInt ∧ u.toInt < 4) (eu : u = q nb 0) (eh : h = q nb 1) (ex : x = q nb 2) (ey : y = q nb 3) (t : tfl q q1 (fl sa (u.toNatClampNeg + 1)) h.toNatClampNeg x y) : Ct q1 sa (tellC C w.toNatClampNeg (q nb 0).toNatClampNeg (q nb 1).toNatClampNeg (q nb)) ∧ seO q q1 sa := by
  subst hw; subst eu; subst eh; subst ex; subst ey
  have := clt (n := 4) hu.1 hu.2
  exact hct.tf hd (f := (q nb 0).toNatClampNeg + 1) (by omega) t
theorem tell_2 {q1 : Nat → Nat → Int32} {k v : Int32} (hct : Ct q sa C) (hd : sdj sa) (hw : w = 2) (ek : k = q nb 0) (ev : v = q nb 1) (c : q1 = va_up q (sa 2) (upd (q (sa 2)) k.toNatClampNeg v)) : Ct q1 sa (tellC C w.toNatClampNeg (q nb 0).toNatClampNeg (q nb 1).toNatClampNeg (q nb)) ∧ seO q q1 sa := by
  subst hw; subst ek; subst ev
  exact ⟨hct.up hd (j := 2) (by decide) c, seO.up (j := 2) (by decide) c⟩
theorem tell_3 {q1 : Nat → Nat → Int32} {v u x y : Int32} (hct : Ct q sa C) (hd : sdj sa) (hw : w = 3) (h0 : 0 ≤ v.toInt ∧ v.toInt < 8) (h1 : 0 ≤ u.toInt ∧ u.toInt < 8) (ev : v = q nb 0) (eu : u = q nb 1) (tx : x.toInt = u.toInt * 8) (ty : y.toInt = x.toInt + v.toInt) (c : q1 = va_up q (sa 3) (upd (q (sa 3)) y.toNatClampNeg 1)) : Ct q1 sa (tellC C w.toNatClampNeg (q nb 0).toNatClampNeg (q nb 1).toNatClampNeg (q nb)) ∧ seO q q1 sa := by
  subst hw; subst ev; subst eu
  have a0 := cl_toInt h0.1
  have a1 := cl_toInt h1.1
  have a2 := cl_toInt (x := y) (by omega)
  rw [show y.toNatClampNeg = 8 * (q nb 1).toNatClampNeg + (q nb 0).toNatClampNeg by omega] at c
  exact ⟨hct.up hd (j := 3) (by decide) c, seO.up (j := 3) (by decide) c⟩
theorem tell_4 {q1 : Nat → Nat → Int32} {x y v : Int32} (hct : Ct q sa C) (hd : sdj sa) (hw : w = 4) (ex : x = q nb 0) (ey : y = q nb 1) (ev : v = q nb 2) (c : q1 = va_up q (sa 4) (upd (q (sa 4)) (mix x y) v)) : Ct q1 sa (tellC C w.toNatClampNeg (q nb 0).toNatClampNeg (q nb 1).toNatClampNeg (q nb)) ∧ seO q q1 sa := by
  subst hw; subst ex; subst ey; subst ev
  exact ⟨hct.up hd (j := 4) (by decide) c, seO.up (j := 4) (by decide) c⟩
end RD
def FrZL : List Nat := [22, 23]
def FrZ (I I' : Nat → Nat → Int32) : Prop := ∀ f, f ∉ FrZL → I' f = I f
theorem FrZ.rf {I : Nat → Nat → Int32} : FrZ I I := fun _ _ => rfl
theorem FrZ.tr {I I' I'' : Nat → Nat → Int32} (h : FrZ I I') (h2 : FrZ I' I'') : FrZ I I'' := fun f hf => (h2 f hf).trans (h f hf)
theorem FrZ.up {I I' : Nat → Nat → Int32} {f a : Nat} {v : Int32} (hf : f ∈ FrZL) (h : FrZ I I') : FrZ I (up2 I' f a v) := fun g hg => by rw [up2_f (fun e => hg (by rw [e]; exact hf))]; exact h g hg
def FrUL : List Nat := [22, 23, 66, 67, 68, 69]
def FrU (I I' : Nat → Nat → Int32) : Prop := ∀ f, f ∉ FrUL → I' f = I f
theorem FrU.rf {I : Nat → Nat → Int32} : FrU I I := fun _ _ => rfl
theorem FrU.tr {I I' I'' : Nat → Nat → Int32} (h : FrU I I') (h2 : FrU I' I'') : FrU I I'' := fun f hf => (h2 f hf).trans (h f hf)
theorem FrU.up {I I' : Nat → Nat → Int32} {f a : Nat} {v : Int32} (hf : f ∈ FrUL) (h : FrU I I') : FrU I (up2 I' f a v) := fun g hg => by rw [up2_f (fun e => hg (by rw [e]; exact hf))]; exact h g hg
theorem FrZ.u {I I' : Nat → Nat → Int32} (h : FrZ I I') : FrU I I' := fun f hf => h f (fun q => hf ((by decide : ∀ x ∈ FrZL, x ∈ FrUL) f q))
theorem FrT.u {I I' : Nat → Nat → Int32} (h : FrT I I') : FrU I I' := fun f hf => h f (fun q => hf ((by decide : ∀ x ∈ FrTL, x ∈ FrUL) f q))
theorem FrU.r {I I' : Nat → Nat → Int32} (h : FrU I I') : Fr I I' := fun f hf => h f (fun q => hf ((by decide : ∀ x ∈ FrUL, x ∈ rdF) f q))
theorem FrU.n {I I' : Nat → Nat → Int32} {tp : Nat} {n : Int} (h : FrU I I') (hn : (I 61 tp).toInt = n) : (I' 61 tp).toInt = n := by rw [h 61 (by decide)]; exact hn
theorem FrZ.n {I I' : Nat → Nat → Int32} {tp : Nat} {n : Int} (h : FrZ I I') (hn : (I 61 tp).toInt = n) : (I' 61 tp).toInt = n := by rw [h 61 (by decide)]; exact hn
set_option maxHeartbeats 4000000 in
set_option maxRecDepth 100000 in
theorem c_v_X4_note (l : Launch) (G : Gh) (S : Pl) (rd nb tk tp tb : Nat) (w : Int32) (hR : shRd S rd nb tk tp tb) : MtV l yX4_note cX4_note 2 none (Rm 1 0 0) G [.ref rd, .int w] S (fun (S' : Pl) => ∃ I', ch S I' (pJ S) (qI S) (qJ S) = S' ∧ FrZ (pI S) I' ∧ I' 22 rd = w) 0 0 := by
  refine MtV.of (by decide) (Nat.le_of_ble_eq_true rfl) ?_
  intro p e s m args below meth c Q A X hw hin hret ls hl
  have hx := X.1.1
  have hb := X.1.2.1
  have hl : lv_has ls 2 [(0, .ref rd), (1, .int w)] := hl
  refine lv_aload_n hx hb dX4_note_0 rfl (lv_at hl 0 rfl) ?_
  refine lv_iload_n hx hb dX4_note_1 rfl (lv_at hl 1 rfl) ?_
  refine pf_X4_28 X hw hR.1 dX4_note_2 (fun H locs hw => ?_)
  have hw : PX G A s.heap (ch S (up2 (pI S) 22 rd w) (pJ S) (qI S) (qJ S)) H locs := hw
  refine lv_aload_n hx hb dX4_note_5 rfl (lv_at hl 0 rfl) ?_
  refine lv_aload_n hx hb dX4_note_6 rfl (lv_at hl 0 rfl) ?_
  refine gf_X4_24 (b := tk) X hw hR.1 hR.2.1 dX4_note_7 ?_
  refine k_Vi (n := 0) X hw (rcvk (ci := 9) X hw hR.2.2.2.2.2.1 (fun _ _ _ _ _ _ _ => ⟨_, rfl⟩) rfl) (c_X9_start l G _ tk tp tb hR.2.2.2.2.2) wd_r11_14 wd_r11_15 wd_r11_16 wd_r3_2 wd_r11_17 ⟨by decide, by decide, by decide +kernel⟩ rfl rfl ⟨Nat.le_of_ble_eq_true rfl, Nat.le_of_ble_eq_true rfl⟩ rfl rfl hl.1 (Nat.le_of_ble_eq_true rfl) dX4_note_10 ⟨Nat.le_of_ble_eq_true rfl, Nat.le_of_ble_eq_true rfl⟩ (fun r10_1 S10_3 H locs h10_2 hw => ?_)
  obtain ⟨rfl, h10_2⟩ := h10_2
  refine pf_X4_15 X hw hR.1 dX4_note_13 (fun H locs hw => ?_)
  have hw : PX G A s.heap (ch S (up2 (up2 (pI S) 22 rd w) 23 rd r10_1) (pJ S) (qI S) (qJ S)) H locs := hw
  exact hret _ _ _ _ _ ⟨_, rfl, (FrZ.up (f := 23) (by decide) (FrZ.up (f := 22) (by decide) FrZ.rf)), (show (up2 (up2 (pI S) 22 rd w) 23 rd r10_1) 22 rd = (w : Int32) from (show up2 (pI S) 22 rd w 22 rd = w from up2_s))⟩ hw dX4_note_16
set_option maxHeartbeats 4000000 in
set_option maxRecDepth 100000 in
theorem c_v_X4_isThere (l : Launch) (G : Gh) (S : Pl) (rd nb tk tp tb : Nat) (w : Int32) (hR : shRd S rd nb tk tp tb) (hw : 2 ≤ w.toInt ∧ w.toInt ≤ 4) : MtI l yX4_isThere cX4_isThere 3 (some .boolean) (Rm 2 0 0) G [.ref rd, .int w] S (fun (r : Int32) (S' : Pl) => ∃ I', ch S I' (pJ S) (qI S) (qJ S) = S' ∧ FrZ (pI S) I' ∧ ((r.toInt = 1 ∧ (pI S 66 tk).toInt = w.toInt ∧ (I' 22 rd).toInt = (pI S 22 rd).toInt) ∨ (r.toInt = 0 ∧ (pI S 66 tk).toInt ≠ w.toInt ∧ (I' 22 rd).toInt ≠ 0))) 0 0 := by
  refine MtI.of (by decide) (Nat.le_of_ble_eq_true rfl) ?_
  intro p e s m args below meth c Q A X hw hin hret ls hl
  have hx := X.1.1
  have hb := X.1.2.1
  have hl : lv_has ls 3 [(0, .ref rd), (1, .int w)] := hl
  refine lv_aload_n hx hb dX4_isThere_0 rfl (lv_at hl 0 rfl) ?_
  refine gf_X4_24 (b := tk) X hw hR.1 hR.2.1 dX4_isThere_1 ?_
  refine k_Vi (n := 0) X hw (rcvk (ci := 9) X hw hR.2.2.2.2.2.1 (fun _ _ _ _ _ _ _ => ⟨_, rfl⟩) rfl) (c_X9_kind l G _ tk tp tb hR.2.2.2.2.2) wd_r10_13 wd_r10_14 wd_r10_15 wd_r3_2 wd_r10_16 ⟨by decide, by decide, by decide +kernel⟩ rfl rfl ⟨Nat.le_of_ble_eq_true rfl, Nat.le_of_ble_eq_true rfl⟩ rfl rfl hl.1 (Nat.le_of_ble_eq_true rfl) dX4_isThere_4 ⟨Nat.le_of_ble_eq_true rfl, Nat.le_of_ble_eq_true rfl⟩ (fun r4_1 S4_3 H locs h4_2 hw => ?_)
  obtain ⟨rfl, h4_2⟩ := h4_2
  have hkd := congrArg Int32.toInt h4_2
  refine lv_istore_n (lv' := [(2, .int r4_1), (0, .ref rd), (1, .int w)]) hx hb dX4_isThere_7 rfl hl (by decide) rfl (fun ls hl => ?_)
  refine lv_iload_n hx hb dX4_isThere_8 rfl (lv_at hl 0 rfl) ?_
  refine lv_if_eq (tgt := 17) hx hb dX4_isThere_9 (by decide) (fun c9_4 => ?_) (fun c9_4 => ?_)
  · have D9_4 := iEq c9_4 rfl t_0
    refine lv_aload_n hx hb dX4_isThere_17 rfl (lv_at hl 1 rfl) ?_
    refine lv_iconst (v := 1) hx hb dX4_isThere_18 (by decide) ?_
    refine k_Vv (n := 1) X hw (rcvk (ci := 4) X hw hR.1 (fun _ _ _ _ _ _ _ => ⟨_, rfl⟩) rfl) (c_v_X4_note l G _ rd nb tk tp tb 1 hR) wd_r11_10 wd_r11_11 wd_r11_12 wd_r1_18 wd_r11_13 ⟨by decide, by decide, by decide +kernel⟩ rfl rfl ⟨Nat.le_of_ble_eq_true rfl, Nat.le_of_ble_eq_true rfl⟩ rfl rfl hl.1 (Nat.le_of_ble_eq_true rfl) dX4_isThere_19 ⟨Nat.le_of_ble_eq_true rfl, Nat.le_of_ble_eq_true rfl⟩ (fun S19_6 H locs h19_5 hw => ?_)
    have := t_1
    obtain ⟨I19_7, rfl, h19_5⟩ := h19_5
    have hw : PX G A s.heap (ch S I19_7 (pJ S) (qI S) (qJ S)) H locs := hw
    have HN := congrArg Int32.toInt h19_5.2
    refine lv_goto (tgt := 35) hx hb dX4_isThere_22 (by decide) ?_
    refine lv_iload_n hx hb dX4_isThere_35 rfl (lv_at hl 0 rfl) ?_
    refine lv_iload_n hx hb dX4_isThere_36 rfl (lv_at hl 2 rfl) ?_
    refine lv_icmp_ne (tgt := 44) hx hb dX4_isThere_37 (by decide) (fun c37_8 => ?_) (fun c37_8 => ?_)
    · have D37_8 := iNe c37_8 rfl rfl
      refine lv_iconst (v := 0) hx hb dX4_isThere_44 (by decide) ?_
      exact hret 0 _ _ _ _ _ ⟨_, rfl, (FrZ.tr FrZ.rf h19_5.1), Or.inr ⟨by decide, by omega, by omega⟩⟩ hw rfl dX4_isThere_45
    · have D37_8 := iEq c37_8 rfl rfl
      refine lv_iconst (v := 1) hx hb dX4_isThere_40 (by decide) ?_
      refine lv_goto (tgt := 45) hx hb dX4_isThere_41 (by decide) ?_
      exact hret 1 _ _ _ _ _ ⟨_, rfl, (FrZ.tr FrZ.rf h19_5.1), Or.inl ⟨by decide, by omega, by first | rfl | (exfalso; omega)⟩⟩ hw rfl dX4_isThere_45
  · have D9_4 := iNe c9_4 rfl t_0
    refine lv_iload_n hx hb dX4_isThere_12 rfl (lv_at hl 0 rfl) ?_
    refine lv_iconst (v := 1) hx hb dX4_isThere_13 (by decide) ?_
    refine lv_icmp_ne (tgt := 25) hx hb dX4_isThere_14 (by decide) (fun c14_9 => ?_) (fun c14_9 => ?_)
    · have D14_9 := iNe c14_9 rfl t_1
      refine lv_iload_n hx hb dX4_isThere_25 rfl (lv_at hl 0 rfl) ?_
      refine lv_iload_n hx hb dX4_isThere_26 rfl (lv_at hl 2 rfl) ?_
      refine lv_icmp_eq (tgt := 35) hx hb dX4_isThere_27 (by decide) (fun c27_10 => ?_) (fun c27_10 => ?_)
      · have D27_10 := iEq c27_10 rfl rfl
        refine lv_iload_n hx hb dX4_isThere_35 rfl (lv_at hl 0 rfl) ?_
        refine lv_iload_n hx hb dX4_isThere_36 rfl (lv_at hl 2 rfl) ?_
        refine lv_icmp_ne (tgt := 44) hx hb dX4_isThere_37 (by decide) (fun c37_11 => ?_) (fun c37_11 => ?_)
        · have D37_11 := iNe c37_11 rfl rfl
          refine lv_iconst (v := 0) hx hb dX4_isThere_44 (by decide) ?_
          exact hret 0 _ _ _ _ _ ⟨_, rfl, FrZ.rf, Or.inr ⟨by decide, by omega, by omega⟩⟩ hw rfl dX4_isThere_45
        · have D37_11 := iEq c37_11 rfl rfl
          refine lv_iconst (v := 1) hx hb dX4_isThere_40 (by decide) ?_
          refine lv_goto (tgt := 45) hx hb dX4_isThere_41 (by decide) ?_
          exact hret 1 _ _ _ _ _ ⟨_, rfl, FrZ.rf, Or.inl ⟨by decide, by omega, by first | rfl | (exfalso; omega)⟩⟩ hw rfl dX4_isThere_45
      · have D27_10 := iNe c27_10 rfl rfl
        refine lv_aload_n hx hb dX4_isThere_30 rfl (lv_at hl 1 rfl) ?_
        refine lv_iconst (v := 2) hx hb dX4_isThere_31 (by decide) ?_
        refine k_Vv (n := 1) X hw (rcvk (ci := 4) X hw hR.1 (fun _ _ _ _ _ _ _ => ⟨_, rfl⟩) rfl) (c_v_X4_note l G _ rd nb tk tp tb 2 hR) wd_r11_10 wd_r11_11 wd_r11_12 wd_r1_18 wd_r11_13 ⟨by decide, by decide, by decide +kernel⟩ rfl rfl ⟨Nat.le_of_ble_eq_true rfl, Nat.le_of_ble_eq_true rfl⟩ rfl rfl hl.1 (Nat.le_of_ble_eq_true rfl) dX4_isThere_32 ⟨Nat.le_of_ble_eq_true rfl, Nat.le_of_ble_eq_true rfl⟩ (fun S32_13 H locs h32_12 hw => ?_)
        have := t_2
        obtain ⟨I32_14, rfl, h32_12⟩ := h32_12
        have hw : PX G A s.heap (ch S I32_14 (pJ S) (qI S) (qJ S)) H locs := hw
        have HN := congrArg Int32.toInt h32_12.2
        refine lv_iload_n hx hb dX4_isThere_35 rfl (lv_at hl 0 rfl) ?_
        refine lv_iload_n hx hb dX4_isThere_36 rfl (lv_at hl 2 rfl) ?_
        refine lv_icmp_ne (tgt := 44) hx hb dX4_isThere_37 (by decide) (fun c37_15 => ?_) (fun c37_15 => ?_)
        · have D37_15 := iNe c37_15 rfl rfl
          refine lv_iconst (v := 0) hx hb dX4_isThere_44 (by decide) ?_
          exact hret 0 _ _ _ _ _ ⟨_, rfl, (FrZ.tr FrZ.rf h32_12.1), Or.inr ⟨by decide, by omega, by omega⟩⟩ hw rfl dX4_isThere_45
        · have D37_15 := iEq c37_15 rfl rfl
          refine lv_iconst (v := 1) hx hb dX4_isThere_40 (by decide) ?_
          refine lv_goto (tgt := 45) hx hb dX4_isThere_41 (by decide) ?_
          exact hret 1 _ _ _ _ _ ⟨_, rfl, (FrZ.tr FrZ.rf h32_12.1), Or.inl ⟨by decide, by omega, by first | rfl | (exfalso; omega)⟩⟩ hw rfl dX4_isThere_45
    · have D14_9 := iEq c14_9 rfl t_1
      refine lv_aload_n hx hb dX4_isThere_17 rfl (lv_at hl 1 rfl) ?_
      refine lv_iconst (v := 1) hx hb dX4_isThere_18 (by decide) ?_
      refine k_Vv (n := 1) X hw (rcvk (ci := 4) X hw hR.1 (fun _ _ _ _ _ _ _ => ⟨_, rfl⟩) rfl) (c_v_X4_note l G _ rd nb tk tp tb 1 hR) wd_r11_10 wd_r11_11 wd_r11_12 wd_r1_18 wd_r11_13 ⟨by decide, by decide, by decide +kernel⟩ rfl rfl ⟨Nat.le_of_ble_eq_true rfl, Nat.le_of_ble_eq_true rfl⟩ rfl rfl hl.1 (Nat.le_of_ble_eq_true rfl) dX4_isThere_19 ⟨Nat.le_of_ble_eq_true rfl, Nat.le_of_ble_eq_true rfl⟩ (fun S19_17 H locs h19_16 hw => ?_)
      have := t_1
      obtain ⟨I19_18, rfl, h19_16⟩ := h19_16
      have hw : PX G A s.heap (ch S I19_18 (pJ S) (qI S) (qJ S)) H locs := hw
      have HN := congrArg Int32.toInt h19_16.2
      refine lv_goto (tgt := 35) hx hb dX4_isThere_22 (by decide) ?_
      refine lv_iload_n hx hb dX4_isThere_35 rfl (lv_at hl 0 rfl) ?_
      refine lv_iload_n hx hb dX4_isThere_36 rfl (lv_at hl 2 rfl) ?_
      refine lv_icmp_ne (tgt := 44) hx hb dX4_isThere_37 (by decide) (fun c37_19 => ?_) (fun c37_19 => ?_)
      · have D37_19 := iNe c37_19 rfl rfl
        refine lv_iconst (v := 0) hx hb dX4_isThere_44 (by decide) ?_
        exact hret 0 _ _ _ _ _ ⟨_, rfl, (FrZ.tr FrZ.rf h19_16.1), Or.inr ⟨by decide, by omega, by omega⟩⟩ hw rfl dX4_isThere_45
      · have D37_19 := iEq c37_19 rfl rfl
        refine lv_iconst (v := 1) hx hb dX4_isThere_40 (by decide) ?_
        refine lv_goto (tgt := 45) hx hb dX4_isThere_41 (by decide) ?_
        exact hret 1 _ _ _ _ _ ⟨_, rfl, (FrZ.tr FrZ.rf h19_16.1), Or.inl ⟨by decide, by omega, by first | rfl | (exfalso; omega)⟩⟩ hw rfl dX4_isThere_45
set_option maxHeartbeats 4000000 in
set_option maxRecDepth 100000 in
theorem c_v_X4_isTold (l : Launch) (G : Gh) (S : Pl) (rd nb tk tp tb : Nat) (sa : Nat → Nat) (C : Nat → Nat → Int32) (w : Int32) (hR : shRd S rd nb tk tp tb) (hS : shSea S sa) (hct : Ct (qI S) sa C) (hw : 0 ≤ w.toInt ∧ w.toInt ≤ 4) (hrg : rgN w.toNatClampNeg (qI S nb 0) (qI S nb 1)) : MtI l yX4_isTold cX4_isTold 3 (some .boolean) (Rm 2 0 0) G [.ref rd, .ref (sa 0), .int w] S (fun (r : Int32) (S' : Pl) => (S = S' ∧ r = 1 ∧ told C w.toNatClampNeg (qI S nb 0).toNatClampNeg (qI S nb 1).toNatClampNeg) ∨ (S = S' ∧ r = 0 ∧ ¬ told C w.toNatClampNeg (qI S nb 0).toNatClampNeg (qI S nb 1).toNatClampNeg)) 0 0 := by
  refine MtI.of (by decide) (Nat.le_of_ble_eq_true rfl) ?_
  intro p e s m args below meth c Q A X hw hin hret ls hl
  have hx := X.1.1
  have hb := X.1.2.1
  have hl : lv_has ls 3 [(0, .ref rd), (1, .ref (sa 0)), (2, .int w)] := hl
  refine lv_iload_n hx hb dX4_isTold_0 rfl (lv_at hl 2 rfl) ?_
  by_cases k1_1 : w = 0
  · refine lv_tableIn (tgt := 32) hx hb dX4_isTold_1 (by rw [k1_1]; decide) (by rw [k1_1]; decide) (by rw [k1_1]; rfl) (by decide) ?_
    refine lv_aload_n hx hb dX4_isTold_32 rfl (lv_at hl 1 rfl) ?_
    refine lv_aload_n hx hb dX4_isTold_33 rfl (lv_at hl 0 rfl) ?_
    refine gf_X4_11 (b := nb) X hw hR.1 hR.2.2.1 dX4_isTold_34 ?_
    refine lv_iconst (v := 0) hx hb dX4_isTold_37 (by decide) ?_
    refine q_ldI X hw hR.2.2.2.1 (vinl hR.2.2.2.2.1 (by decide) t_0 (by decide)) dX4_isTold_38 ?_
    refine lv_topi (fun v38_2 e38_2 => ?_)
    have e38_2 : v38_2 = (qI S) nb ((0 : Int32).toNatClampNeg) := e38_2
    have e38n : v38_2 = qI S nb 0 := e38_2.trans (by rw [show (0 : Int32).toNatClampNeg = 0 by decide])
    have TW := told_0 hct hrg (by assumption) e38n
    refine k_Vi (n := 1) X hw (rcvk (ci := 3) X hw hS.1 (fun _ _ _ _ _ _ _ => ⟨_, rfl⟩) rfl) (c_v_X3_isWindTold l G _ sa v38_2 hS) wd_r14_22 wd_r14_23 wd_r15_0 wd_r2_9 wd_r15_1 ⟨by decide, by decide, by decide +kernel⟩ rfl rfl ⟨Nat.le_of_ble_eq_true rfl, Nat.le_of_ble_eq_true rfl⟩ rfl rfl hl.1 (Nat.le_of_ble_eq_true rfl) dX4_isTold_39 ⟨Nat.le_of_ble_eq_true rfl, Nat.le_of_ble_eq_true rfl⟩ (fun r39_3 S39_5 H locs h39_4 hw => ?_)
    rcases h39_4 with ⟨rfl, rfl, h39_4⟩ | ⟨rfl, rfl, h39_4⟩
    · have h39_4 := h39_4
      exact hret 1 _ _ _ _ _ (Or.inl ⟨rfl, rfl, TW.mpr (by assumption)⟩) hw rfl dX4_isTold_42
    · have h39_4 := h39_4
      exact hret 0 _ _ _ _ _ (Or.inr ⟨rfl, rfl, fun q => absurd (TW.mp q) (by assumption)⟩) hw rfl dX4_isTold_42
  have D1_1 := iNe k1_1 rfl t_0
  by_cases k1_6 : w = 1
  · refine lv_tableIn (tgt := 43) hx hb dX4_isTold_1 (by rw [k1_6]; decide) (by rw [k1_6]; decide) (by rw [k1_6]; rfl) (by decide) ?_
    refine lv_aload_n hx hb dX4_isTold_43 rfl (lv_at hl 1 rfl) ?_
    refine lv_aload_n hx hb dX4_isTold_44 rfl (lv_at hl 0 rfl) ?_
    refine gf_X4_11 (b := nb) X hw hR.1 hR.2.2.1 dX4_isTold_45 ?_
    refine lv_iconst (v := 0) hx hb dX4_isTold_48 (by decide) ?_
    refine q_ldI X hw hR.2.2.2.1 (vinl hR.2.2.2.2.1 (by decide) t_0 (by decide)) dX4_isTold_49 ?_
    refine lv_topi (fun v49_7 e49_7 => ?_)
    have e49_7 : v49_7 = (qI S) nb ((0 : Int32).toNatClampNeg) := e49_7
    have e49n : v49_7 = qI S nb 0 := e49_7.trans (by rw [show (0 : Int32).toNatClampNeg = 0 by decide])
    refine lv_aload_n hx hb dX4_isTold_50 rfl (lv_at hl 0 rfl) ?_
    refine gf_X4_11 (b := nb) X hw hR.1 hR.2.2.1 dX4_isTold_51 ?_
    refine lv_iconst (v := 1) hx hb dX4_isTold_54 (by decide) ?_
    refine q_ldI X hw hR.2.2.2.1 (vinl hR.2.2.2.2.1 (by decide) t_1 (by decide)) dX4_isTold_55 ?_
    refine lv_topi (fun v55_8 e55_8 => ?_)
    have e55_8 : v55_8 = (qI S) nb ((1 : Int32).toNatClampNeg) := e55_8
    have e55n : v55_8 = qI S nb 1 := e55_8.trans (by rw [show (1 : Int32).toNatClampNeg = 1 by decide])
    have TW := told_1 hct hrg (by assumption) e49n e55n
    refine k_Vi (n := 2) X hw (rcvk (ci := 3) X hw hS.1 (fun _ _ _ _ _ _ _ => ⟨_, rfl⟩) rfl) (c_v_X3_isStreamTold l G _ sa v49_7 v55_8 hS) wd_r15_6 wd_r15_7 wd_r15_8 wd_r2_9 wd_r15_9 ⟨by decide, by decide, by decide +kernel⟩ rfl rfl ⟨Nat.le_of_ble_eq_true rfl, Nat.le_of_ble_eq_true rfl⟩ rfl rfl hl.1 (Nat.le_of_ble_eq_true rfl) dX4_isTold_56 ⟨Nat.le_of_ble_eq_true rfl, Nat.le_of_ble_eq_true rfl⟩ (fun r56_9 S56_11 H locs h56_10 hw => ?_)
    rcases h56_10 with ⟨rfl, rfl, h56_10⟩ | ⟨rfl, rfl, h56_10⟩
    · have h56_10 := h56_10
      exact hret 1 _ _ _ _ _ (Or.inl ⟨rfl, rfl, TW.mpr (by assumption)⟩) hw rfl dX4_isTold_59
    · have h56_10 := h56_10
      exact hret 0 _ _ _ _ _ (Or.inr ⟨rfl, rfl, fun q => absurd (TW.mp q) (by assumption)⟩) hw rfl dX4_isTold_59
  have D1_6 := iNe k1_6 rfl t_1
  by_cases k1_12 : w = 2
  · refine lv_tableIn (tgt := 60) hx hb dX4_isTold_1 (by rw [k1_12]; decide) (by rw [k1_12]; decide) (by rw [k1_12]; rfl) (by decide) ?_
    refine lv_aload_n hx hb dX4_isTold_60 rfl (lv_at hl 1 rfl) ?_
    refine lv_aload_n hx hb dX4_isTold_61 rfl (lv_at hl 0 rfl) ?_
    refine gf_X4_11 (b := nb) X hw hR.1 hR.2.2.1 dX4_isTold_62 ?_
    refine lv_iconst (v := 0) hx hb dX4_isTold_65 (by decide) ?_
    refine q_ldI X hw hR.2.2.2.1 (vinl hR.2.2.2.2.1 (by decide) t_0 (by decide)) dX4_isTold_66 ?_
    refine lv_topi (fun v66_13 e66_13 => ?_)
    have e66_13 : v66_13 = (qI S) nb ((0 : Int32).toNatClampNeg) := e66_13
    have e66n : v66_13 = qI S nb 0 := e66_13.trans (by rw [show (0 : Int32).toNatClampNeg = 0 by decide])
    have TW := told_2 hct hrg (by assumption) e66n
    refine k_Vi (n := 1) X hw (rcvk (ci := 3) X hw hS.1 (fun _ _ _ _ _ _ _ => ⟨_, rfl⟩) rfl) (c_v_X3_isLeeTold l G _ sa v66_13 hS) wd_r15_12 wd_r15_13 wd_r15_14 wd_r2_9 wd_r15_15 ⟨by decide, by decide, by decide +kernel⟩ rfl rfl ⟨Nat.le_of_ble_eq_true rfl, Nat.le_of_ble_eq_true rfl⟩ rfl rfl hl.1 (Nat.le_of_ble_eq_true rfl) dX4_isTold_67 ⟨Nat.le_of_ble_eq_true rfl, Nat.le_of_ble_eq_true rfl⟩ (fun r67_14 S67_16 H locs h67_15 hw => ?_)
    rcases h67_15 with ⟨rfl, rfl, h67_15⟩ | ⟨rfl, rfl, h67_15⟩
    · have h67_15 := h67_15
      exact hret 1 _ _ _ _ _ (Or.inl ⟨rfl, rfl, TW.mpr (by assumption)⟩) hw rfl dX4_isTold_70
    · have h67_15 := h67_15
      exact hret 0 _ _ _ _ _ (Or.inr ⟨rfl, rfl, fun q => absurd (TW.mp q) (by assumption)⟩) hw rfl dX4_isTold_70
  have D1_12 := iNe k1_12 rfl t_2
  by_cases k1_17 : w = 3
  · refine lv_tableIn (tgt := 71) hx hb dX4_isTold_1 (by rw [k1_17]; decide) (by rw [k1_17]; decide) (by rw [k1_17]; rfl) (by decide) ?_
    refine lv_aload_n hx hb dX4_isTold_71 rfl (lv_at hl 1 rfl) ?_
    refine lv_aload_n hx hb dX4_isTold_72 rfl (lv_at hl 0 rfl) ?_
    refine gf_X4_11 (b := nb) X hw hR.1 hR.2.2.1 dX4_isTold_73 ?_
    refine lv_iconst (v := 1) hx hb dX4_isTold_76 (by decide) ?_
    refine q_ldI X hw hR.2.2.2.1 (vinl hR.2.2.2.2.1 (by decide) t_1 (by decide)) dX4_isTold_77 ?_
    refine lv_topi (fun v77_18 e77_18 => ?_)
    have e77_18 : v77_18 = (qI S) nb ((1 : Int32).toNatClampNeg) := e77_18
    have e77n : v77_18 = qI S nb 1 := e77_18.trans (by rw [show (1 : Int32).toNatClampNeg = 1 by decide])
    refine lv_bipush (v := 8) hx hb dX4_isTold_78 (by decide) ?_
    have h3r := hrg.2.2.2.1 (by rw [show w = 3 by assumption]; decide)
    rw [← e77n] at h3r
    refine lv_imul hx hb dX4_isTold_80 ?_
    refine lv_topi (fun v80_19 e80_19 => ?_)
    have t80_19 := iMul e80_19 rfl t_8 (by omega) (by omega)
    have t80 := t80_19
    refine lv_aload_n hx hb dX4_isTold_81 rfl (lv_at hl 0 rfl) ?_
    refine gf_X4_11 (b := nb) X hw hR.1 hR.2.2.1 dX4_isTold_82 ?_
    refine lv_iconst (v := 0) hx hb dX4_isTold_85 (by decide) ?_
    refine q_ldI X hw hR.2.2.2.1 (vinl hR.2.2.2.2.1 (by decide) t_0 (by decide)) dX4_isTold_86 ?_
    refine lv_topi (fun v86_20 e86_20 => ?_)
    have e86_20 : v86_20 = (qI S) nb ((0 : Int32).toNatClampNeg) := e86_20
    have e86n : v86_20 = qI S nb 0 := e86_20.trans (by rw [show (0 : Int32).toNatClampNeg = 0 by decide])
    rw [← e86n] at h3r
    refine lv_iadd hx hb dX4_isTold_87 ?_
    refine lv_topi (fun v87_21 e87_21 => ?_)
    have t87_21 := iAdd e87_21 rfl rfl (by omega) (by omega)
    have t87 := t87_21
    have TW := told_3 hct hrg (by assumption) e86n e77n t80 t87
    refine k_Vi (n := 1) X hw (rcvk (ci := 3) X hw hS.1 (fun _ _ _ _ _ _ _ => ⟨_, rfl⟩) rfl) (c_v_X3_hasLand l G _ sa v87_21 hS) wd_r15_18 wd_r15_19 wd_r15_20 wd_r2_9 wd_r15_21 ⟨by decide, by decide, by decide +kernel⟩ rfl rfl ⟨Nat.le_of_ble_eq_true rfl, Nat.le_of_ble_eq_true rfl⟩ rfl rfl hl.1 (Nat.le_of_ble_eq_true rfl) dX4_isTold_88 ⟨Nat.le_of_ble_eq_true rfl, Nat.le_of_ble_eq_true rfl⟩ (fun r88_22 S88_24 H locs h88_23 hw => ?_)
    rcases h88_23 with ⟨rfl, rfl, h88_23⟩ | ⟨rfl, rfl, h88_23⟩
    · have h88_23 := h88_23
      exact hret 1 _ _ _ _ _ (Or.inl ⟨rfl, rfl, TW.mpr (by assumption)⟩) hw rfl dX4_isTold_91
    · have h88_23 := h88_23
      exact hret 0 _ _ _ _ _ (Or.inr ⟨rfl, rfl, fun q => absurd (TW.mp q) (by assumption)⟩) hw rfl dX4_isTold_91
  have D1_17 := iNe k1_17 rfl t_3
  refine lv_tableOut (tgt := 92) hx hb dX4_isTold_1 (by omega) (by decide) ?_
  refine lv_aload_n hx hb dX4_isTold_92 rfl (lv_at hl 1 rfl) ?_
  refine lv_aload_n hx hb dX4_isTold_93 rfl (lv_at hl 0 rfl) ?_
  refine gf_X4_11 (b := nb) X hw hR.1 hR.2.2.1 dX4_isTold_94 ?_
  refine lv_iconst (v := 0) hx hb dX4_isTold_97 (by decide) ?_
  refine q_ldI X hw hR.2.2.2.1 (vinl hR.2.2.2.2.1 (by decide) t_0 (by decide)) dX4_isTold_98 ?_
  refine lv_topi (fun v98_25 e98_25 => ?_)
  have e98_25 : v98_25 = (qI S) nb ((0 : Int32).toNatClampNeg) := e98_25
  have e98n : v98_25 = qI S nb 0 := e98_25.trans (by rw [show (0 : Int32).toNatClampNeg = 0 by decide])
  refine lv_aload_n hx hb dX4_isTold_99 rfl (lv_at hl 0 rfl) ?_
  refine gf_X4_11 (b := nb) X hw hR.1 hR.2.2.1 dX4_isTold_100 ?_
  refine lv_iconst (v := 1) hx hb dX4_isTold_103 (by decide) ?_
  refine q_ldI X hw hR.2.2.2.1 (vinl hR.2.2.2.2.1 (by decide) t_1 (by decide)) dX4_isTold_104 ?_
  refine lv_topi (fun v104_26 e104_26 => ?_)
  have e104_26 : v104_26 = (qI S) nb ((1 : Int32).toNatClampNeg) := e104_26
  have e104n : v104_26 = qI S nb 1 := e104_26.trans (by rw [show (1 : Int32).toNatClampNeg = 1 by decide])
  have TW := told_4 hct hrg (Int32.toInt_inj.mp (by have := t_4; omega)) e98n e104n
  refine k_Vi (n := 2) X hw (rcvk (ci := 3) X hw hS.1 (fun _ _ _ _ _ _ _ => ⟨_, rfl⟩) rfl) (c_v_X3_isMissTold l G _ sa v98_25 v104_26 hS) wd_r16_0 wd_r16_1 wd_r16_2 wd_r2_9 wd_r16_3 ⟨by decide, by decide, by decide +kernel⟩ rfl rfl ⟨Nat.le_of_ble_eq_true rfl, Nat.le_of_ble_eq_true rfl⟩ rfl rfl hl.1 (Nat.le_of_ble_eq_true rfl) dX4_isTold_105 ⟨Nat.le_of_ble_eq_true rfl, Nat.le_of_ble_eq_true rfl⟩ (fun r105_27 S105_29 H locs h105_28 hw => ?_)
  rcases h105_28 with ⟨rfl, rfl, h105_28⟩ | ⟨rfl, rfl, h105_28⟩
  · have h105_28 := h105_28
    exact hret 1 _ _ _ _ _ (Or.inl ⟨rfl, rfl, TW.mpr (by assumption)⟩) hw rfl dX4_isTold_108
  · have h105_28 := h105_28
    exact hret 0 _ _ _ _ _ (Or.inr ⟨rfl, rfl, fun q => absurd (TW.mp q) (by assumption)⟩) hw rfl dX4_isTold_108
set_option maxHeartbeats 4000000 in
set_option maxRecDepth 100000 in
theorem c_v_X4_tell (l : Launch) (G : Gh) (S : Pl) (rd nb tk tp tb : Nat) (sa : Nat → Nat) (C : Nat → Nat → Int32) (w : Int32) (hR : shRd S rd nb tk tp tb) (hS : shSea S sa) (hd : sdj sa) (hct : Ct (qI S) sa C) (hw : 0 ≤ w.toInt ∧ w.toInt ≤ 4) (hrg : rgA w.toNatClampNeg (qI S nb 0) (qI S nb 1) (qI S nb 2) (qI S nb 3)) (hln : 0 ≤ (pI S 15 (sa 0)).toInt ∧ (pI S 15 (sa 0)).toInt < 60) : MtV l yX4_tell cX4_tell 3 none (Rm 3 0 0) G [.ref rd, .ref (sa 0), .int w] S (fun (S' : Pl) => ∃ I' q', ch S I' (pJ S) q' (qJ S) = S' ∧ Fr (pI S) I' ∧ (∀ f, f ≠ 15 → I' f = pI S f) ∧ (∀ a, a ≠ sa 0 → I' 15 a = pI S 15 a) ∧ (I' 15 (sa 0)).toInt = (pI S 15 (sa 0)).toInt + 1 ∧ Ct q' sa (tellC C w.toNatClampNeg (qI S nb 0).toNatClampNeg (qI S nb 1).toNatClampNeg (qI S nb)) ∧ seO (qI S) q' sa) 0 0 := by
  refine MtV.of (by decide) (Nat.le_of_ble_eq_true rfl) ?_
  intro p e s m args below meth c Q A X hw hin hret ls hl
  have hx := X.1.1
  have hb := X.1.2.1
  have hl : lv_has ls 3 [(0, .ref rd), (1, .ref (sa 0)), (2, .int w)] := hl
  refine lv_iload_n hx hb dX4_tell_0 rfl (lv_at hl 2 rfl) ?_
  by_cases k1_1 : w = 0
  · refine lv_tableIn (tgt := 32) hx hb dX4_tell_1 (by rw [k1_1]; decide) (by rw [k1_1]; decide) (by rw [k1_1]; rfl) (by decide) ?_
    refine lv_aload_n hx hb dX4_tell_32 rfl (lv_at hl 1 rfl) ?_
    refine lv_aload_n hx hb dX4_tell_33 rfl (lv_at hl 0 rfl) ?_
    refine gf_X4_11 (b := nb) X hw hR.1 hR.2.2.1 dX4_tell_34 ?_
    refine lv_iconst (v := 0) hx hb dX4_tell_37 (by decide) ?_
    refine q_ldI X hw hR.2.2.2.1 (vinl hR.2.2.2.2.1 (by decide) t_0 (by decide)) dX4_tell_38 ?_
    refine lv_topi (fun v38_2 e38_2 => ?_)
    have e38_2 : v38_2 = (qI S) nb ((0 : Int32).toNatClampNeg) := e38_2
    have e38n : v38_2 = qI S nb 0 := e38_2.trans (by rw [show (0 : Int32).toNatClampNeg = 0 by decide])
    refine lv_aload_n hx hb dX4_tell_39 rfl (lv_at hl 0 rfl) ?_
    refine gf_X4_11 (b := nb) X hw hR.1 hR.2.2.1 dX4_tell_40 ?_
    refine lv_iconst (v := 1) hx hb dX4_tell_43 (by decide) ?_
    refine q_ldI X hw hR.2.2.2.1 (vinl hR.2.2.2.2.1 (by decide) t_1 (by decide)) dX4_tell_44 ?_
    refine lv_topi (fun v44_3 e44_3 => ?_)
    have e44_3 : v44_3 = (qI S) nb ((1 : Int32).toNatClampNeg) := e44_3
    have e44n : v44_3 = qI S nb 1 := e44_3.trans (by rw [show (1 : Int32).toNatClampNeg = 1 by decide])
    refine lv_aload_n hx hb dX4_tell_45 rfl (lv_at hl 0 rfl) ?_
    refine gf_X4_11 (b := nb) X hw hR.1 hR.2.2.1 dX4_tell_46 ?_
    refine lv_iconst (v := 2) hx hb dX4_tell_49 (by decide) ?_
    refine q_ldI X hw hR.2.2.2.1 (vinl hR.2.2.2.2.1 (by decide) t_2 (by decide)) dX4_tell_50 ?_
    refine lv_topi (fun v50_4 e50_4 => ?_)
    have e50_4 : v50_4 = (qI S) nb ((2 : Int32).toNatClampNeg) := e50_4
    have e50n : v50_4 = qI S nb 2 := e50_4.trans (by rw [show (2 : Int32).toNatClampNeg = 2 by decide])
    refine k_Vv (n := 3) X hw (rcvk (ci := 3) X hw hS.1 (fun _ _ _ _ _ _ _ => ⟨_, rfl⟩) rfl) (c_v_X3_tellWind l G _ sa v38_2 v44_3 v50_4 hS hd (by rw [e38n]; exact hrg.1.1 (by rw [show w = 0 by assumption]; decide)) (by rw [e44n]; exact (hrg.2.1 (by rw [show w = 0 by assumption]; decide)).1) (by rw [e50n]; exact (hrg.2.1 (by rw [show w = 0 by assumption]; decide)).2)) wd_r16_19 wd_r16_20 wd_r16_21 wd_r2_9 wd_r16_22 ⟨by decide, by decide, by decide +kernel⟩ rfl rfl ⟨Nat.le_of_ble_eq_true rfl, Nat.le_of_ble_eq_true rfl⟩ rfl rfl hl.1 (Nat.le_of_ble_eq_true rfl) dX4_tell_51 ⟨Nat.le_of_ble_eq_true rfl, Nat.le_of_ble_eq_true rfl⟩ (fun S51_6 H locs h51_5 hw => ?_)
    obtain ⟨q51_7, rfl, h51_5⟩ := h51_5
    have hw : PX G A s.heap (ch S (pI S) (pJ S) q51_7 (qJ S)) H locs := hw
    have HCX : Ct q51_7 sa (tellC C w.toNatClampNeg (qI S nb 0).toNatClampNeg (qI S nb 1).toNatClampNeg (qI S nb)) ∧ seO (qI S) q51_7 sa := tell_0 hct hd (by assumption) e38n e44n e50n h51_5
    refine lv_goto (tgt := 152) hx hb dX4_tell_54 (by decide) ?_
    refine lv_aload_n hx hb dX4_tell_152 rfl (lv_at hl 1 rfl) ?_
    refine k_Vv (n := 0) X hw (rcvk (ci := 3) X hw hS.1 (fun _ _ _ _ _ _ _ => ⟨_, rfl⟩) rfl) (c_v_X3_countLine l G _ sa hS hln) wd_r17_21 wd_r17_22 wd_r17_23 wd_r2_9 wd_r18_0 ⟨by decide, by decide, by decide +kernel⟩ rfl rfl ⟨Nat.le_of_ble_eq_true rfl, Nat.le_of_ble_eq_true rfl⟩ rfl rfl hl.1 (Nat.le_of_ble_eq_true rfl) dX4_tell_153 ⟨Nat.le_of_ble_eq_true rfl, Nat.le_of_ble_eq_true rfl⟩ (fun S153_9 H locs h153_8 hw => ?_)
    obtain ⟨I153_10, rfl, h153_8⟩ := h153_8
    have hw : PX G A s.heap (ch S I153_10 (pJ S) q51_7 (qJ S)) H locs := hw
    have HL := h153_8.2
    exact hret _ _ _ _ _ ⟨_, _, rfl, (Fr.tr Fr.rf h153_8.1), HL.1, HL.2.1, HL.2.2, HCX.1, HCX.2⟩ hw dX4_tell_156
  have D1_1 := iNe k1_1 rfl t_0
  by_cases k1_11 : w = 1
  · refine lv_tableIn (tgt := 57) hx hb dX4_tell_1 (by rw [k1_11]; decide) (by rw [k1_11]; decide) (by rw [k1_11]; rfl) (by decide) ?_
    refine lv_aload_n hx hb dX4_tell_57 rfl (lv_at hl 1 rfl) ?_
    refine lv_aload_n hx hb dX4_tell_58 rfl (lv_at hl 0 rfl) ?_
    refine gf_X4_11 (b := nb) X hw hR.1 hR.2.2.1 dX4_tell_59 ?_
    refine lv_iconst (v := 0) hx hb dX4_tell_62 (by decide) ?_
    refine q_ldI X hw hR.2.2.2.1 (vinl hR.2.2.2.2.1 (by decide) t_0 (by decide)) dX4_tell_63 ?_
    refine lv_topi (fun v63_12 e63_12 => ?_)
    have e63_12 : v63_12 = (qI S) nb ((0 : Int32).toNatClampNeg) := e63_12
    have e63n : v63_12 = qI S nb 0 := e63_12.trans (by rw [show (0 : Int32).toNatClampNeg = 0 by decide])
    refine lv_aload_n hx hb dX4_tell_64 rfl (lv_at hl 0 rfl) ?_
    refine gf_X4_11 (b := nb) X hw hR.1 hR.2.2.1 dX4_tell_65 ?_
    refine lv_iconst (v := 1) hx hb dX4_tell_68 (by decide) ?_
    refine q_ldI X hw hR.2.2.2.1 (vinl hR.2.2.2.2.1 (by decide) t_1 (by decide)) dX4_tell_69 ?_
    refine lv_topi (fun v69_13 e69_13 => ?_)
    have e69_13 : v69_13 = (qI S) nb ((1 : Int32).toNatClampNeg) := e69_13
    have e69n : v69_13 = qI S nb 1 := e69_13.trans (by rw [show (1 : Int32).toNatClampNeg = 1 by decide])
    refine lv_aload_n hx hb dX4_tell_70 rfl (lv_at hl 0 rfl) ?_
    refine gf_X4_11 (b := nb) X hw hR.1 hR.2.2.1 dX4_tell_71 ?_
    refine lv_iconst (v := 2) hx hb dX4_tell_74 (by decide) ?_
    refine q_ldI X hw hR.2.2.2.1 (vinl hR.2.2.2.2.1 (by decide) t_2 (by decide)) dX4_tell_75 ?_
    refine lv_topi (fun v75_14 e75_14 => ?_)
    have e75_14 : v75_14 = (qI S) nb ((2 : Int32).toNatClampNeg) := e75_14
    have e75n : v75_14 = qI S nb 2 := e75_14.trans (by rw [show (2 : Int32).toNatClampNeg = 2 by decide])
    refine lv_aload_n hx hb dX4_tell_76 rfl (lv_at hl 0 rfl) ?_
    refine gf_X4_11 (b := nb) X hw hR.1 hR.2.2.1 dX4_tell_77 ?_
    refine lv_iconst (v := 3) hx hb dX4_tell_80 (by decide) ?_
    refine q_ldI X hw hR.2.2.2.1 (vinl hR.2.2.2.2.1 (by decide) t_3 (by decide)) dX4_tell_81 ?_
    refine lv_topi (fun v81_15 e81_15 => ?_)
    have e81_15 : v81_15 = (qI S) nb ((3 : Int32).toNatClampNeg) := e81_15
    have e81n : v81_15 = qI S nb 3 := e81_15.trans (by rw [show (3 : Int32).toNatClampNeg = 3 by decide])
    refine k_Vv (n := 4) X hw (rcvk (ci := 3) X hw hS.1 (fun _ _ _ _ _ _ _ => ⟨_, rfl⟩) rfl) (c_v_X3_tellStream l G _ sa v63_12 v69_13 v75_14 v81_15 hS hd (by rw [e63n]; exact (hrg.1.2.1 (by rw [show w = 1 by assumption]; decide)).1) (by rw [e69n]; exact (hrg.1.2.1 (by rw [show w = 1 by assumption]; decide)).2) (by rw [e75n]; exact (hrg.2.2 (by rw [show w = 1 by assumption]; decide)).1) (by rw [e81n]; exact (hrg.2.2 (by rw [show w = 1 by assumption]; decide)).2)) wd_r17_5 wd_r17_6 wd_r17_7 wd_r2_9 wd_r17_8 ⟨by decide, by decide, by decide +kernel⟩ rfl rfl ⟨Nat.le_of_ble_eq_true rfl, Nat.le_of_ble_eq_true rfl⟩ rfl rfl hl.1 (Nat.le_of_ble_eq_true rfl) dX4_tell_82 ⟨Nat.le_of_ble_eq_true rfl, Nat.le_of_ble_eq_true rfl⟩ (fun S82_17 H locs h82_16 hw => ?_)
    obtain ⟨q82_18, rfl, h82_16⟩ := h82_16
    have hw : PX G A s.heap (ch S (pI S) (pJ S) q82_18 (qJ S)) H locs := hw
    have HCX : Ct q82_18 sa (tellC C w.toNatClampNeg (qI S nb 0).toNatClampNeg (qI S nb 1).toNatClampNeg (qI S nb)) ∧ seO (qI S) q82_18 sa := tell_1 hct hd (by assumption) (by rw [e63n]; exact (hrg.1.2.1 (by rw [show w = 1 by assumption]; decide)).1) e63n e69n e75n e81n h82_16
    refine lv_goto (tgt := 152) hx hb dX4_tell_85 (by decide) ?_
    refine lv_aload_n hx hb dX4_tell_152 rfl (lv_at hl 1 rfl) ?_
    refine k_Vv (n := 0) X hw (rcvk (ci := 3) X hw hS.1 (fun _ _ _ _ _ _ _ => ⟨_, rfl⟩) rfl) (c_v_X3_countLine l G _ sa hS hln) wd_r17_21 wd_r17_22 wd_r17_23 wd_r2_9 wd_r18_0 ⟨by decide, by decide, by decide +kernel⟩ rfl rfl ⟨Nat.le_of_ble_eq_true rfl, Nat.le_of_ble_eq_true rfl⟩ rfl rfl hl.1 (Nat.le_of_ble_eq_true rfl) dX4_tell_153 ⟨Nat.le_of_ble_eq_true rfl, Nat.le_of_ble_eq_true rfl⟩ (fun S153_20 H locs h153_19 hw => ?_)
    obtain ⟨I153_21, rfl, h153_19⟩ := h153_19
    have hw : PX G A s.heap (ch S I153_21 (pJ S) q82_18 (qJ S)) H locs := hw
    have HL := h153_19.2
    exact hret _ _ _ _ _ ⟨_, _, rfl, (Fr.tr Fr.rf h153_19.1), HL.1, HL.2.1, HL.2.2, HCX.1, HCX.2⟩ hw dX4_tell_156
  have D1_11 := iNe k1_11 rfl t_1
  by_cases k1_22 : w = 2
  · refine lv_tableIn (tgt := 88) hx hb dX4_tell_1 (by rw [k1_22]; decide) (by rw [k1_22]; decide) (by rw [k1_22]; rfl) (by decide) ?_
    refine lv_aload_n hx hb dX4_tell_88 rfl (lv_at hl 1 rfl) ?_
    refine lv_aload_n hx hb dX4_tell_89 rfl (lv_at hl 0 rfl) ?_
    refine gf_X4_11 (b := nb) X hw hR.1 hR.2.2.1 dX4_tell_90 ?_
    refine lv_iconst (v := 0) hx hb dX4_tell_93 (by decide) ?_
    refine q_ldI X hw hR.2.2.2.1 (vinl hR.2.2.2.2.1 (by decide) t_0 (by decide)) dX4_tell_94 ?_
    refine lv_topi (fun v94_23 e94_23 => ?_)
    have e94_23 : v94_23 = (qI S) nb ((0 : Int32).toNatClampNeg) := e94_23
    have e94n : v94_23 = qI S nb 0 := e94_23.trans (by rw [show (0 : Int32).toNatClampNeg = 0 by decide])
    refine lv_aload_n hx hb dX4_tell_95 rfl (lv_at hl 0 rfl) ?_
    refine gf_X4_11 (b := nb) X hw hR.1 hR.2.2.1 dX4_tell_96 ?_
    refine lv_iconst (v := 1) hx hb dX4_tell_99 (by decide) ?_
    refine q_ldI X hw hR.2.2.2.1 (vinl hR.2.2.2.2.1 (by decide) t_1 (by decide)) dX4_tell_100 ?_
    refine lv_topi (fun v100_24 e100_24 => ?_)
    have e100_24 : v100_24 = (qI S) nb ((1 : Int32).toNatClampNeg) := e100_24
    have e100n : v100_24 = qI S nb 1 := e100_24.trans (by rw [show (1 : Int32).toNatClampNeg = 1 by decide])
    refine k_Vv (n := 2) X hw (rcvk (ci := 3) X hw hS.1 (fun _ _ _ _ _ _ _ => ⟨_, rfl⟩) rfl) (c_v_X3_tellLee l G _ sa v94_23 v100_24 hS (by rw [e94n]; exact hrg.1.2.2.1 (by rw [show w = 2 by assumption]; decide))) wd_r17_9 wd_r17_10 wd_r17_11 wd_r2_9 wd_r17_12 ⟨by decide, by decide, by decide +kernel⟩ rfl rfl ⟨Nat.le_of_ble_eq_true rfl, Nat.le_of_ble_eq_true rfl⟩ rfl rfl hl.1 (Nat.le_of_ble_eq_true rfl) dX4_tell_101 ⟨Nat.le_of_ble_eq_true rfl, Nat.le_of_ble_eq_true rfl⟩ (fun S101_26 H locs h101_25 hw => ?_)
    obtain ⟨q101_27, rfl, h101_25⟩ := h101_25
    have hw : PX G A s.heap (ch S (pI S) (pJ S) q101_27 (qJ S)) H locs := hw
    have HCX : Ct q101_27 sa (tellC C w.toNatClampNeg (qI S nb 0).toNatClampNeg (qI S nb 1).toNatClampNeg (qI S nb)) ∧ seO (qI S) q101_27 sa := tell_2 hct hd (by assumption) e94n e100n h101_25
    refine lv_goto (tgt := 152) hx hb dX4_tell_104 (by decide) ?_
    refine lv_aload_n hx hb dX4_tell_152 rfl (lv_at hl 1 rfl) ?_
    refine k_Vv (n := 0) X hw (rcvk (ci := 3) X hw hS.1 (fun _ _ _ _ _ _ _ => ⟨_, rfl⟩) rfl) (c_v_X3_countLine l G _ sa hS hln) wd_r17_21 wd_r17_22 wd_r17_23 wd_r2_9 wd_r18_0 ⟨by decide, by decide, by decide +kernel⟩ rfl rfl ⟨Nat.le_of_ble_eq_true rfl, Nat.le_of_ble_eq_true rfl⟩ rfl rfl hl.1 (Nat.le_of_ble_eq_true rfl) dX4_tell_153 ⟨Nat.le_of_ble_eq_true rfl, Nat.le_of_ble_eq_true rfl⟩ (fun S153_29 H locs h153_28 hw => ?_)
    obtain ⟨I153_30, rfl, h153_28⟩ := h153_28
    have hw : PX G A s.heap (ch S I153_30 (pJ S) q101_27 (qJ S)) H locs := hw
    have HL := h153_28.2
    exact hret _ _ _ _ _ ⟨_, _, rfl, (Fr.tr Fr.rf h153_28.1), HL.1, HL.2.1, HL.2.2, HCX.1, HCX.2⟩ hw dX4_tell_156
  have D1_22 := iNe k1_22 rfl t_2
  by_cases k1_31 : w = 3
  · refine lv_tableIn (tgt := 107) hx hb dX4_tell_1 (by rw [k1_31]; decide) (by rw [k1_31]; decide) (by rw [k1_31]; rfl) (by decide) ?_
    refine lv_aload_n hx hb dX4_tell_107 rfl (lv_at hl 1 rfl) ?_
    refine lv_aload_n hx hb dX4_tell_108 rfl (lv_at hl 0 rfl) ?_
    refine gf_X4_11 (b := nb) X hw hR.1 hR.2.2.1 dX4_tell_109 ?_
    refine lv_iconst (v := 1) hx hb dX4_tell_112 (by decide) ?_
    refine q_ldI X hw hR.2.2.2.1 (vinl hR.2.2.2.2.1 (by decide) t_1 (by decide)) dX4_tell_113 ?_
    refine lv_topi (fun v113_32 e113_32 => ?_)
    have e113_32 : v113_32 = (qI S) nb ((1 : Int32).toNatClampNeg) := e113_32
    have e113n : v113_32 = qI S nb 1 := e113_32.trans (by rw [show (1 : Int32).toNatClampNeg = 1 by decide])
    refine lv_bipush (v := 8) hx hb dX4_tell_114 (by decide) ?_
    have h3r := hrg.1.2.2.2.1 (by rw [show w = 3 by assumption]; decide)
    rw [← e113n] at h3r
    refine lv_imul hx hb dX4_tell_116 ?_
    refine lv_topi (fun v116_33 e116_33 => ?_)
    have t116_33 := iMul e116_33 rfl t_8 (by omega) (by omega)
    have t116 := t116_33
    refine lv_aload_n hx hb dX4_tell_117 rfl (lv_at hl 0 rfl) ?_
    refine gf_X4_11 (b := nb) X hw hR.1 hR.2.2.1 dX4_tell_118 ?_
    refine lv_iconst (v := 0) hx hb dX4_tell_121 (by decide) ?_
    refine q_ldI X hw hR.2.2.2.1 (vinl hR.2.2.2.2.1 (by decide) t_0 (by decide)) dX4_tell_122 ?_
    refine lv_topi (fun v122_34 e122_34 => ?_)
    have e122_34 : v122_34 = (qI S) nb ((0 : Int32).toNatClampNeg) := e122_34
    have e122n : v122_34 = qI S nb 0 := e122_34.trans (by rw [show (0 : Int32).toNatClampNeg = 0 by decide])
    rw [← e122n] at h3r
    refine lv_iadd hx hb dX4_tell_123 ?_
    refine lv_topi (fun v123_35 e123_35 => ?_)
    have t123_35 := iAdd e123_35 rfl rfl (by omega) (by omega)
    have t123 := t123_35
    refine k_Vv (n := 1) X hw (rcvk (ci := 3) X hw hS.1 (fun _ _ _ _ _ _ _ => ⟨_, rfl⟩) rfl) (c_v_X3_tellLand l G _ sa v123_35 hS (by omega)) wd_r17_13 wd_r17_14 wd_r17_15 wd_r2_9 wd_r17_16 ⟨by decide, by decide, by decide +kernel⟩ rfl rfl ⟨Nat.le_of_ble_eq_true rfl, Nat.le_of_ble_eq_true rfl⟩ rfl rfl hl.1 (Nat.le_of_ble_eq_true rfl) dX4_tell_124 ⟨Nat.le_of_ble_eq_true rfl, Nat.le_of_ble_eq_true rfl⟩ (fun S124_37 H locs h124_36 hw => ?_)
    obtain ⟨q124_38, rfl, h124_36⟩ := h124_36
    have hw : PX G A s.heap (ch S (pI S) (pJ S) q124_38 (qJ S)) H locs := hw
    have HCX : Ct q124_38 sa (tellC C w.toNatClampNeg (qI S nb 0).toNatClampNeg (qI S nb 1).toNatClampNeg (qI S nb)) ∧ seO (qI S) q124_38 sa := tell_3 hct hd (by assumption) h3r.1 h3r.2 e122n e113n t116 t123 h124_36
    refine lv_goto (tgt := 152) hx hb dX4_tell_127 (by decide) ?_
    refine lv_aload_n hx hb dX4_tell_152 rfl (lv_at hl 1 rfl) ?_
    refine k_Vv (n := 0) X hw (rcvk (ci := 3) X hw hS.1 (fun _ _ _ _ _ _ _ => ⟨_, rfl⟩) rfl) (c_v_X3_countLine l G _ sa hS hln) wd_r17_21 wd_r17_22 wd_r17_23 wd_r2_9 wd_r18_0 ⟨by decide, by decide, by decide +kernel⟩ rfl rfl ⟨Nat.le_of_ble_eq_true rfl, Nat.le_of_ble_eq_true rfl⟩ rfl rfl hl.1 (Nat.le_of_ble_eq_true rfl) dX4_tell_153 ⟨Nat.le_of_ble_eq_true rfl, Nat.le_of_ble_eq_true rfl⟩ (fun S153_40 H locs h153_39 hw => ?_)
    obtain ⟨I153_41, rfl, h153_39⟩ := h153_39
    have hw : PX G A s.heap (ch S I153_41 (pJ S) q124_38 (qJ S)) H locs := hw
    have HL := h153_39.2
    exact hret _ _ _ _ _ ⟨_, _, rfl, (Fr.tr Fr.rf h153_39.1), HL.1, HL.2.1, HL.2.2, HCX.1, HCX.2⟩ hw dX4_tell_156
  have D1_31 := iNe k1_31 rfl t_3
  refine lv_tableOut (tgt := 130) hx hb dX4_tell_1 (by omega) (by decide) ?_
  refine lv_aload_n hx hb dX4_tell_130 rfl (lv_at hl 1 rfl) ?_
  refine lv_aload_n hx hb dX4_tell_131 rfl (lv_at hl 0 rfl) ?_
  refine gf_X4_11 (b := nb) X hw hR.1 hR.2.2.1 dX4_tell_132 ?_
  refine lv_iconst (v := 0) hx hb dX4_tell_135 (by decide) ?_
  refine q_ldI X hw hR.2.2.2.1 (vinl hR.2.2.2.2.1 (by decide) t_0 (by decide)) dX4_tell_136 ?_
  refine lv_topi (fun v136_42 e136_42 => ?_)
  have e136_42 : v136_42 = (qI S) nb ((0 : Int32).toNatClampNeg) := e136_42
  have e136n : v136_42 = qI S nb 0 := e136_42.trans (by rw [show (0 : Int32).toNatClampNeg = 0 by decide])
  refine lv_aload_n hx hb dX4_tell_137 rfl (lv_at hl 0 rfl) ?_
  refine gf_X4_11 (b := nb) X hw hR.1 hR.2.2.1 dX4_tell_138 ?_
  refine lv_iconst (v := 1) hx hb dX4_tell_141 (by decide) ?_
  refine q_ldI X hw hR.2.2.2.1 (vinl hR.2.2.2.2.1 (by decide) t_1 (by decide)) dX4_tell_142 ?_
  refine lv_topi (fun v142_43 e142_43 => ?_)
  have e142_43 : v142_43 = (qI S) nb ((1 : Int32).toNatClampNeg) := e142_43
  have e142n : v142_43 = qI S nb 1 := e142_43.trans (by rw [show (1 : Int32).toNatClampNeg = 1 by decide])
  refine lv_aload_n hx hb dX4_tell_143 rfl (lv_at hl 0 rfl) ?_
  refine gf_X4_11 (b := nb) X hw hR.1 hR.2.2.1 dX4_tell_144 ?_
  refine lv_iconst (v := 2) hx hb dX4_tell_147 (by decide) ?_
  refine q_ldI X hw hR.2.2.2.1 (vinl hR.2.2.2.2.1 (by decide) t_2 (by decide)) dX4_tell_148 ?_
  refine lv_topi (fun v148_44 e148_44 => ?_)
  have e148_44 : v148_44 = (qI S) nb ((2 : Int32).toNatClampNeg) := e148_44
  have e148n : v148_44 = qI S nb 2 := e148_44.trans (by rw [show (2 : Int32).toNatClampNeg = 2 by decide])
  refine k_Vv (n := 3) X hw (rcvk (ci := 3) X hw hS.1 (fun _ _ _ _ _ _ _ => ⟨_, rfl⟩) rfl) (c_v_X3_tellMiss l G _ sa v136_42 v142_43 v148_44 hS (by rw [e136n]; exact (hrg.1.2.2.2.2 (by rw [show w = 4 from (Int32.toInt_inj.mp (by have := t_4; omega))]; decide)).1) (by rw [e142n]; have z := (hrg.1.2.2.2.2 (by rw [show w = 4 from (Int32.toInt_inj.mp (by have := t_4; omega))]; decide)).2; omega)) wd_r17_17 wd_r17_18 wd_r17_19 wd_r2_9 wd_r17_20 ⟨by decide, by decide, by decide +kernel⟩ rfl rfl ⟨Nat.le_of_ble_eq_true rfl, Nat.le_of_ble_eq_true rfl⟩ rfl rfl hl.1 (Nat.le_of_ble_eq_true rfl) dX4_tell_149 ⟨Nat.le_of_ble_eq_true rfl, Nat.le_of_ble_eq_true rfl⟩ (fun S149_46 H locs h149_45 hw => ?_)
  obtain ⟨q149_47, rfl, h149_45⟩ := h149_45
  have hw : PX G A s.heap (ch S (pI S) (pJ S) q149_47 (qJ S)) H locs := hw
  have HCX : Ct q149_47 sa (tellC C w.toNatClampNeg (qI S nb 0).toNatClampNeg (qI S nb 1).toNatClampNeg (qI S nb)) ∧ seO (qI S) q149_47 sa := tell_4 hct hd (Int32.toInt_inj.mp (by have := t_4; omega)) e136n e142n e148n h149_45
  refine lv_aload_n hx hb dX4_tell_152 rfl (lv_at hl 1 rfl) ?_
  refine k_Vv (n := 0) X hw (rcvk (ci := 3) X hw hS.1 (fun _ _ _ _ _ _ _ => ⟨_, rfl⟩) rfl) (c_v_X3_countLine l G _ sa hS hln) wd_r17_21 wd_r17_22 wd_r17_23 wd_r2_9 wd_r18_0 ⟨by decide, by decide, by decide +kernel⟩ rfl rfl ⟨Nat.le_of_ble_eq_true rfl, Nat.le_of_ble_eq_true rfl⟩ rfl rfl hl.1 (Nat.le_of_ble_eq_true rfl) dX4_tell_153 ⟨Nat.le_of_ble_eq_true rfl, Nat.le_of_ble_eq_true rfl⟩ (fun S153_49 H locs h153_48 hw => ?_)
  obtain ⟨I153_50, rfl, h153_48⟩ := h153_48
  have hw : PX G A s.heap (ch S I153_50 (pJ S) q149_47 (qJ S)) H locs := hw
  have HL := h153_48.2
  exact hret _ _ _ _ _ ⟨_, _, rfl, (Fr.tr Fr.rf h153_48.1), HL.1, HL.2.1, HL.2.2, HCX.1, HCX.2⟩ hw dX4_tell_156
