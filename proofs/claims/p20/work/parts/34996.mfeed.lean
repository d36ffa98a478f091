
/-! ===== what the tape takes ===== -/
def shf (i : Nat) : Int32 := [24, 16, 8, 0].getD (i % 4) 0
def byv (x : Int32) (i : Nat) : Int32 := vp_nar .byte ((x >>> (shf i &&& 31)).toInt8.toInt32)
theorem byv_m {x : Int32} {i j : Nat} (h : i % 4 = j % 4) : byv x i = byv x j := by unfold byv shf; rw [h]
def ad4 (r : Nat → Int32) (n : Nat) (x : Int32) : Nat → Int32 := fun j => if n ≤ j ∧ j < n + 4 then byv x (j - n) else r j
def adk (r r' : Nat → Int32) (n : Nat) (x : Int32) (k : Nat) : Prop := ∀ j, r' j = if n ≤ j ∧ j < n + k then byv x (j - n) else r j
theorem adk_0 {r : Nat → Int32} {n : Nat} {x : Int32} : adk r r n x 0 := fun j => by rw [if_neg (by omega)]
theorem adk_s {r : Nat → Int32} {q q1 : Nat → Nat → Int32} {a n k : Nat} {x i v : Int32} (h : adk r (q a) n x k) (c1 : q1 = va_up q a (upd (q a) i.toNatClampNeg v)) (hi : i.toInt = ((n + k : Nat) : Int)) (hv : v = byv x k) : adk r (q1 a) n x (k + 1) := fun j => by
  have e := cl_toInt (x := i) (by omega)
  rw [up_s c1]
  by_cases g : j = i.toNatClampNeg
  · rw [g, pk_us, if_pos (by omega), hv, show i.toNatClampNeg - n = k by omega]
  · rw [pk_un g, h j]
    by_cases z : n ≤ j ∧ j < n + k
    · rw [if_pos z, if_pos (by omega)]
    · rw [if_neg z, if_neg (by omega)]
theorem adk_4 {r r' : Nat → Int32} {n : Nat} {x : Int32} (h : adk r r' n x 4) : r' = ad4 r n x := by funext j; exact h j
def sl5 (a b c d e : Int32) (i : Nat) : Int32 := if i < 4 then a else if i < 8 then b else if i < 12 then c else if i < 16 then d else e
def fdk (r r' : Nat → Int32) (n : Nat) (a b c d e : Int32) (k : Nat) : Prop := ∀ j, r' j = if n ≤ j ∧ j < n + k then byv (sl5 a b c d e (j - n)) (j - n) else r j
def fd5 (r : Nat → Int32) (n : Nat) (a b c d e : Int32) : Nat → Int32 := ad4 (ad4 (ad4 (ad4 (ad4 r n a) (n + 4) b) (n + 8) c) (n + 12) d) (n + 16) e
section FDK
variable {r r' : Nat → Int32} {q q1 : Nat → Nat → Int32} {n : Nat} {a b c d e : Int32}
theorem fdk_0 : fdk r r n a b c d e 0 := fun j => by rw [if_neg (by omega)]
theorem fdk_s {t : Nat} {k k' i v : Int32} (h : fdk r (q t) n a b c d e k.toNatClampNeg) (h0 : 0 ≤ k.toInt) (tk : k'.toInt = k.toInt + 1) (c1 : q1 = va_up q t (upd (q t) i.toNatClampNeg v)) (hi : i.toInt = (n : Int) + k.toInt) (hv : v = byv (sl5 a b c d e k.toNatClampNeg) k.toNatClampNeg) : fdk r (q1 t) n a b c d e k'.toNatClampNeg := fun j => by
  have e1 := cl_toInt h0
  have e2 := cl_toInt (x := k') (by omega)
  have e3 := cl_toInt (x := i) (by omega)
  rw [up_s c1]
  by_cases g : j = i.toNatClampNeg
  · rw [g, pk_us, if_pos (by omega), hv, show i.toNatClampNeg - n = k.toNatClampNeg by omega]
  · rw [pk_un g, h j]
    by_cases z : n ≤ j ∧ j < n + k.toNatClampNeg
    · rw [if_pos z, if_pos (by omega)]
    · rw [if_neg z, if_neg (by omega)]
theorem fd_fin (h : fdk r r' n a b c d e 20) : r' = fd5 r n a b c d e := by
  funext j
  rw [h j]
  unfold fd5 ad4
  by_cases h0 : n ≤ j ∧ j < n + 20
  · rw [if_pos h0]
    rcases (show j - n < 4 ∨ (4 ≤ j - n ∧ j - n < 8) ∨ (8 ≤ j - n ∧ j - n < 12) ∨ (12 ≤ j - n ∧ j - n < 16) ∨ (16 ≤ j - n ∧ j - n < 20) by omega) with g | g | g | g | g
    · rw [if_neg (by omega), if_neg (by omega), if_neg (by omega), if_neg (by omega), if_pos (by omega)]
      unfold sl5; rw [if_pos g]
    · rw [if_neg (by omega), if_neg (by omega), if_neg (by omega), if_pos (by omega)]
      unfold sl5; rw [if_neg (by omega), if_pos g.2]; exact byv_m (by omega)
    · rw [if_neg (by omega), if_neg (by omega), if_pos (by omega)]
      unfold sl5; rw [if_neg (by omega), if_neg (by omega), if_pos g.2]; exact byv_m (by omega)
    · rw [if_neg (by omega), if_pos (by omega)]
      unfold sl5; rw [if_neg (by omega), if_neg (by omega), if_neg (by omega), if_pos g.2]; exact byv_m (by omega)
    · rw [if_pos (by omega)]
      unfold sl5; rw [if_neg (by omega), if_neg (by omega), if_neg (by omega), if_neg (by omega)]; exact byv_m (by omega)
  · rw [if_neg h0, if_neg (by omega), if_neg (by omega), if_neg (by omega), if_neg (by omega), if_neg (by omega)]
end FDK
theorem shf_k : ∀ j, j < 20 → 24 - 8 * (nI j &&& 3) = shf j := by decide +kernel
theorem shf_at {k a b v : Int32} (h : 0 ≤ k.toInt ∧ k.toInt < 20) (e1 : a = k &&& 3) (e2 : b = 8 * a) (e3 : v = 24 - b) : v = shf k.toNatClampNeg := by
  have e := cl_toInt h.1
  rw [e3, e2, e1, ← nI_cl h.1]
  rw [show (nI k.toNatClampNeg).toNatClampNeg = k.toNatClampNeg by rw [nI_cl h.1]]
  exact shf_k _ (by omega)
theorem sl5_at {a b c d e z : Int32} {i : Nat} (h : (i < 4 ∧ z = a) ∨ (4 ≤ i ∧ i < 8 ∧ z = b) ∨ (8 ≤ i ∧ i < 12 ∧ z = c) ∨ (12 ≤ i ∧ i < 16 ∧ z = d) ∨ (16 ≤ i ∧ z = e)) : z = sl5 a b c d e i := by
  unfold sl5
  rcases h with ⟨h, g⟩ | ⟨h, h2, g⟩ | ⟨h, h2, g⟩ | ⟨h, h2, g⟩ | ⟨h, g⟩
  · rw [if_pos h]; exact g
  · rw [if_neg (by omega), if_pos h2]; exact g
  · rw [if_neg (by omega), if_neg (by omega), if_pos h2]; exact g
  · rw [if_neg (by omega), if_neg (by omega), if_neg (by omega), if_pos h2]; exact g
  · rw [if_neg (by omega), if_neg (by omega), if_neg (by omega), if_neg (by omega)]; exact g
theorem by_fin {v7 v6 v5 z x : Int32} {k : Nat} (e7 : v7 = v6.toInt8.toInt32) (e6 : v6 = z >>> (v5 &&& 31)) (hz : z = x) (h5 : v5 = shf k) : vp_nar .byte v7 = byv x k := by
  unfold byv; rw [e7, e6, hz, h5]
set_option maxHeartbeats 4000000 in
set_option maxRecDepth 100000 in
theorem c_v_X8_add (l : Launch) (G : Gh) (S : Pl) (tp tb : Nat) (tn : Nat) (n : Int32) (hT : shTape S tp tb) (h0 : 0 ≤ (pI S 61 tp).toInt ∧ (pI S 61 tp).toInt ≤ 996) (hn : (pI S 61 tp).toInt = (tn : Int)) : MtV l yX8_add cX8_add 3 none (Rm 0 0 0) G [.ref tp, .int n] S (fun (S' : Pl) => ∃ I' q', ch S I' (pJ S) q' (qJ S) = S' ∧ (∀ f, f ≠ 61 → I' f = pI S f) ∧ (I' 61 tp).toInt = (pI S 61 tp).toInt + 4 ∧ q' tb = ad4 (qI S tb) tn n ∧ ∀ a, a ≠ tb → q' a = qI S a) 0 0 := by
  refine MtV.of (by decide) (Nat.le_of_ble_eq_true rfl) ?_
  intro p e s m args below meth c Q A X hw hin hret ls hl
  have hx := X.1.1
  have hb := X.1.2.1
  have hl : lv_has ls 3 [(0, .ref tp), (1, .int n)] := hl
  have HA : adk (qI S tb) (qI S tb) tn n 0 := adk_0
  have HO : ∀ a, a ≠ tb → qI S a = qI S a := fun _ _ => rfl
  refine lv_bipush (v := 24) hx hb dX8_add_0 (by decide) ?_
  refine lv_istore_n (lv' := [(2, .int 24), (0, .ref tp), (1, .int n)]) hx hb dX8_add_2 rfl hl (by decide) rfl (fun ls hl => ?_)
  refine lv_iload_n hx hb dX8_add_3 rfl (lv_at hl 0 rfl) ?_
  refine lv_if_lt (tgt := 46) hx hb dX8_add_4 (by decide) (fun c4_1 => absurd c4_1 (by decide)) (fun c4_1 => ?_)
  refine lv_aload_n hx hb dX8_add_7 rfl (lv_at hl 1 rfl) ?_
  refine gf_X8_13 (v := (pI S) 61 tp) X hw hT.1 rfl dX8_add_8 ?_
  refine lv_sipush (v := 1000) hx hb dX8_add_11 (by decide) ?_
  refine lv_icmp_ge (tgt := 46) hx hb dX8_add_14 (by decide) (fun c14_2 => absurd c14_2 (fun h => absurd (iLe h t_1000 rfl) (by omega))) (fun c14_2 => ?_)
  have D14_2 := iNle c14_2 t_1000 rfl
  refine lv_aload_n hx hb dX8_add_17 rfl (lv_at hl 1 rfl) ?_
  refine gf_X8_9 (b := tb) X hw hT.1 hT.2.1 dX8_add_18 ?_
  refine lv_aload_n hx hb dX8_add_21 rfl (lv_at hl 1 rfl) ?_
  refine gf_X8_13 (v := (pI S) 61 tp) X hw hT.1 rfl dX8_add_22 ?_
  refine lv_iload_n hx hb dX8_add_25 rfl (lv_at hl 2 rfl) ?_
  refine lv_iload_n hx hb dX8_add_26 rfl (lv_at hl 0 rfl) ?_
  refine lv_ishr hx hb dX8_add_27 ?_
  refine lv_topi (fun v27_3 e27_3 => ?_)
  have e27n := e27_3
  refine lv_i2b hx hb dX8_add_28 rfl ?_
  refine lv_topi (fun v28_4 e28_4 => ?_)
  have e28n := e28_4
  refine q_stB X hw hT.2.2.1 (vin hT.2.2.2 (by omega) (by omega)) dX8_add_29 (fun H locs hw => ?_)
  obtain ⟨q29_5, eq29_5, hw⟩ : ∃ zz9, zz9 = va_up (qI S) tb (upd ((qI S) tb) ((pI S) 61 tp).toNatClampNeg (vp_nar .byte v28_4)) ∧ PX G A s.heap (ch S (pI S) (pJ S) zz9 (qJ S)) H locs := ⟨_, rfl, hw⟩
  have HO : ∀ a, a ≠ tb → q29_5 a = qI S a := fun a ha => (up_n eq29_5 ha).trans (HO a ha)
  have HA := adk_s HA eq29_5 (by omega) (by rw [e28n, e27n]; rfl)
  refine lv_aload_n hx hb dX8_add_30 rfl (lv_at hl 1 rfl) ?_
  refine lv_dup hx hb dX8_add_31 rfl ?_
  refine gf_X8_13 (v := (pI S) 61 tp) X hw hT.1 rfl dX8_add_32 ?_
  refine lv_iconst (v := 1) hx hb dX8_add_35 (by decide) ?_
  refine lv_iadd hx hb dX8_add_36 ?_
  refine lv_topi (fun v36_6 e36_6 => ?_)
  have t36_6 := iAdd e36_6 rfl t_1 (by omega) (by omega)
  have t36 := t36_6
  refine pf_X8_13 X hw hT.1 dX8_add_37 (fun H locs hw => ?_)
  have hw : PX G A s.heap (ch S (up2 (pI S) 61 tp v36_6) (pJ S) q29_5 (qJ S)) H locs := hw
  refine lv_iinc (v := 16) (lv' := [(2, .int 16), (0, .ref tp), (1, .int n)]) hx hb dX8_add_40 hl (k := 0) rfl (by decide) (by decide) rfl (fun ls hl => ?_)
  refine lv_goto (tgt := 3) hx hb dX8_add_43 (by decide) ?_
  refine lv_iload_n hx hb dX8_add_3 rfl (lv_at hl 0 rfl) ?_
  refine lv_if_lt (tgt := 46) hx hb dX8_add_4 (by decide) (fun c4_7 => absurd c4_7 (by decide)) (fun c4_7 => ?_)
  refine lv_aload_n hx hb dX8_add_7 rfl (lv_at hl 1 rfl) ?_
  refine gf_X8_13 (v := v36_6) X hw hT.1 (show up2 (pI S) 61 tp v36_6 61 tp = v36_6 from up2_s) dX8_add_8 ?_
  refine lv_sipush (v := 1000) hx hb dX8_add_11 (by decide) ?_
  refine lv_icmp_ge (tgt := 46) hx hb dX8_add_14 (by decide) (fun c14_8 => absurd c14_8 (fun h => absurd (iLe h t_1000 rfl) (by omega))) (fun c14_8 => ?_)
  have D14_8 := iNle c14_8 t_1000 rfl
  refine lv_aload_n hx hb dX8_add_17 rfl (lv_at hl 1 rfl) ?_
  refine gf_X8_9 (b := tb) X hw hT.1 hT.2.1 dX8_add_18 ?_
  refine lv_aload_n hx hb dX8_add_21 rfl (lv_at hl 1 rfl) ?_
  refine gf_X8_13 (v := v36_6) X hw hT.1 (show up2 (pI S) 61 tp v36_6 61 tp = v36_6 from up2_s) dX8_add_22 ?_
  refine lv_iload_n hx hb dX8_add_25 rfl (lv_at hl 2 rfl) ?_
  refine lv_iload_n hx hb dX8_add_26 rfl (lv_at hl 0 rfl) ?_
  refine lv_ishr hx hb dX8_add_27 ?_
  refine lv_topi (fun v27_9 e27_9 => ?_)
  have e27n := e27_9
  refine lv_i2b hx hb dX8_add_28 rfl ?_
  refine lv_topi (fun v28_10 e28_10 => ?_)
  have e28n := e28_10
  refine q_stB X hw hT.2.2.1 (vin hT.2.2.2 (by omega) (by omega)) dX8_add_29 (fun H locs hw => ?_)
  obtain ⟨q29_11, eq29_11, hw⟩ : ∃ zz9, zz9 = va_up q29_5 tb (upd (q29_5 tb) v36_6.toNatClampNeg (vp_nar .byte v28_10)) ∧ PX G A s.heap (ch S (up2 (pI S) 61 tp v36_6) (pJ S) zz9 (qJ S)) H locs := ⟨_, rfl, hw⟩
  have HO : ∀ a, a ≠ tb → q29_11 a = qI S a := fun a ha => (up_n eq29_11 ha).trans (HO a ha)
  have HA := adk_s HA eq29_11 (by omega) (by rw [e28n, e27n]; rfl)
  refine lv_aload_n hx hb dX8_add_30 rfl (lv_at hl 1 rfl) ?_
  refine lv_dup hx hb dX8_add_31 rfl ?_
  refine gf_X8_13 (v := v36_6) X hw hT.1 (show up2 (pI S) 61 tp v36_6 61 tp = v36_6 from up2_s) dX8_add_32 ?_
  refine lv_iconst (v := 1) hx hb dX8_add_35 (by decide) ?_
  refine lv_iadd hx hb dX8_add_36 ?_
  refine lv_topi (fun v36_12 e36_12 => ?_)
  have t36_12 := iAdd e36_12 rfl t_1 (by omega) (by omega)
  have t36 := t36_12
  refine pf_X8_13 X hw hT.1 dX8_add_37 (fun H locs hw => ?_)
  have hw : PX G A s.heap (ch S (up2 (up2 (pI S) 61 tp v36_6) 61 tp v36_12) (pJ S) q29_11 (qJ S)) H locs := hw
  refine lv_iinc (v := 8) (lv' := [(2, .int 8), (0, .ref tp), (1, .int n)]) hx hb dX8_add_40 hl (k := 0) rfl (by decide) (by decide) rfl (fun ls hl => ?_)
  refine lv_goto (tgt := 3) hx hb dX8_add_43 (by decide) ?_
  refine lv_iload_n hx hb dX8_add_3 rfl (lv_at hl 0 rfl) ?_
  refine lv_if_lt (tgt := 46) hx hb dX8_add_4 (by decide) (fun c4_13 => absurd c4_13 (by decide)) (fun c4_13 => ?_)
  refine lv_aload_n hx hb dX8_add_7 rfl (lv_at hl 1 rfl) ?_
  refine gf_X8_13 (v := v36_12) X hw hT.1 (show up2 (up2 (pI S) 61 tp v36_6) 61 tp v36_12 61 tp = v36_12 from up2_s) dX8_add_8 ?_
  refine lv_sipush (v := 1000) hx hb dX8_add_11 (by decide) ?_
  refine lv_icmp_ge (tgt := 46) hx hb dX8_add_14 (by decide) (fun c14_14 => absurd c14_14 (fun h => absurd (iLe h t_1000 rfl) (by omega))) (fun c14_14 => ?_)
  have D14_14 := iNle c14_14 t_1000 rfl
  refine lv_aload_n hx hb dX8_add_17 rfl (lv_at hl 1 rfl) ?_
  refine gf_X8_9 (b := tb) X hw hT.1 hT.2.1 dX8_add_18 ?_
  refine lv_aload_n hx hb dX8_add_21 rfl (lv_at hl 1 rfl) ?_
  refine gf_X8_13 (v := v36_12) X hw hT.1 (show up2 (up2 (pI S) 61 tp v36_6) 61 tp v36_12 61 tp = v36_12 from up2_s) dX8_add_22 ?_
  refine lv_iload_n hx hb dX8_add_25 rfl (lv_at hl 2 rfl) ?_
  refine lv_iload_n hx hb dX8_add_26 rfl (lv_at hl 0 rfl) ?_
  refine lv_ishr hx hb dX8_add_27 ?_
  refine lv_topi (fun v27_15 e27_15 => ?_)
  have e27n := e27_15
  refine lv_i2b hx hb dX8_add_28 rfl ?_
  refine lv_topi (fun v28_16 e28_16 => ?_)
  have e28n := e28_16
  refine q_stB X hw hT.2.2.1 (vin hT.2.2.2 (by omega) (by omega)) dX8_add_29 (fun H locs hw => ?_)
  obtain ⟨q29_17, eq29_17, hw⟩ : ∃ zz9, zz9 = va_up q29_11 tb (upd (q29_11 tb) v36_12.toNatClampNeg (vp_nar .byte v28_16)) ∧ PX G A s.heap (ch S (up2 (up2 (pI S) 61 tp v36_6) 61 tp v36_12) (pJ S) zz9 (qJ S)) H locs := ⟨_, rfl, hw⟩
  have HO : ∀ a, a ≠ tb → q29_17 a = qI S a := fun a ha => (up_n eq29_17 ha).trans (HO a ha)
  have HA := adk_s HA eq29_17 (by omega) (by rw [e28n, e27n]; rfl)
  refine lv_aload_n hx hb dX8_add_30 rfl (lv_at hl 1 rfl) ?_
  refine lv_dup hx hb dX8_add_31 rfl ?_
  refine gf_X8_13 (v := v36_12) X hw hT.1 (show up2 (up2 (pI S) 61 tp v36_6) 61 tp v36_12 61 tp = v36_12 from up2_s) dX8_add_32 ?_
  refine lv_iconst (v := 1) hx hb dX8_add_35 (by decide) ?_
  refine lv_iadd hx hb dX8_add_36 ?_
  refine lv_topi (fun v36_18 e36_18 => ?_)
  have t36_18 := iAdd e36_18 rfl t_1 (by omega) (by omega)
  have t36 := t36_18
  refine pf_X8_13 X hw hT.1 dX8_add_37 (fun H locs hw => ?_)
  have hw : PX G A s.heap (ch S (up2 (up2 (up2 (pI S) 61 tp v36_6) 61 tp v36_12) 61 tp v36_18) (pJ S) q29_17 (qJ S)) H locs := hw
  refine lv_iinc (v := 0) (lv' := [(2, .int 0), (0, .ref tp), (1, .int n)]) hx hb dX8_add_40 hl (k := 0) rfl (by decide) (by decide) rfl (fun ls hl => ?_)
  refine lv_goto (tgt := 3) hx hb dX8_add_43 (by decide) ?_
  refine lv_iload_n hx hb dX8_add_3 rfl (lv_at hl 0 rfl) ?_
  refine lv_if_lt (tgt := 46) hx hb dX8_add_4 (by decide) (fun c4_19 => absurd c4_19 (by decide)) (fun c4_19 => ?_)
  refine lv_aload_n hx hb dX8_add_7 rfl (lv_at hl 1 rfl) ?_
  refine gf_X8_13 (v := v36_18) X hw hT.1 (show up2 (up2 (up2 (pI S) 61 tp v36_6) 61 tp v36_12) 61 tp v36_18 61 tp = v36_18 from up2_s) dX8_add_8 ?_
  refine lv_sipush (v := 1000) hx hb dX8_add_11 (by decide) ?_
  refine lv_icmp_ge (tgt := 46) hx hb dX8_add_14 (by decide) (fun c14_20 => absurd c14_20 (fun h => absurd (iLe h t_1000 rfl) (by omega))) (fun c14_20 => ?_)
  have D14_20 := iNle c14_20 t_1000 rfl
  refine lv_aload_n hx hb dX8_add_17 rfl (lv_at hl 1 rfl) ?_
  refine gf_X8_9 (b := tb) X hw hT.1 hT.2.1 dX8_add_18 ?_
  refine lv_aload_n hx hb dX8_add_21 rfl (lv_at hl 1 rfl) ?_
  refine gf_X8_13 (v := v36_18) X hw hT.1 (show up2 (up2 (up2 (pI S) 61 tp v36_6) 61 tp v36_12) 61 tp v36_18 61 tp = v36_18 from up2_s) dX8_add_22 ?_
  refine lv_iload_n hx hb dX8_add_25 rfl (lv_at hl 2 rfl) ?_
  refine lv_iload_n hx hb dX8_add_26 rfl (lv_at hl 0 rfl) ?_
  refine lv_ishr hx hb dX8_add_27 ?_
  refine lv_topi (fun v27_21 e27_21 => ?_)
  have e27n := e27_21
  refine lv_i2b hx hb dX8_add_28 rfl ?_
  refine lv_topi (fun v28_22 e28_22 => ?_)
  have e28n := e28_22
  refine q_stB X hw hT.2.2.1 (vin hT.2.2.2 (by omega) (by omega)) dX8_add_29 (fun H locs hw => ?_)
  obtain ⟨q29_23, eq29_23, hw⟩ : ∃ zz9, zz9 = va_up q29_17 tb (upd (q29_17 tb) v36_18.toNatClampNeg (vp_nar .byte v28_22)) ∧ PX G A s.heap (ch S (up2 (up2 (up2 (pI S) 61 tp v36_6) 61 tp v36_12) 61 tp v36_18) (pJ S) zz9 (qJ S)) H locs := ⟨_, rfl, hw⟩
  have HO : ∀ a, a ≠ tb → q29_23 a = qI S a := fun a ha => (up_n eq29_23 ha).trans (HO a ha)
  have HA := adk_s HA eq29_23 (by omega) (by rw [e28n, e27n]; rfl)
  refine lv_aload_n hx hb dX8_add_30 rfl (lv_at hl 1 rfl) ?_
  refine lv_dup hx hb dX8_add_31 rfl ?_
  refine gf_X8_13 (v := v36_18) X hw hT.1 (show up2 (up2 (up2 (pI S) 61 tp v36_6) 61 tp v36_12) 61 tp v36_18 61 tp = v36_18 from up2_s) dX8_add_32 ?_
  refine lv_iconst (v := 1) hx hb dX8_add_35 (by decide) ?_
  refine lv_iadd hx hb dX8_add_36 ?_
  refine lv_topi (fun v36_24 e36_24 => ?_)
  have t36_24 := iAdd e36_24 rfl t_1 (by omega) (by omega)
  have t36 := t36_24
  refine pf_X8_13 X hw hT.1 dX8_add_37 (fun H locs hw => ?_)
  have hw : PX G A s.heap (ch S (up2 (up2 (up2 (up2 (pI S) 61 tp v36_6) 61 tp v36_12) 61 tp v36_18) 61 tp v36_24) (pJ S) q29_23 (qJ S)) H locs := hw
  refine lv_iinc (v := (-8)) (lv' := [(2, .int (-8)), (0, .ref tp), (1, .int n)]) hx hb dX8_add_40 hl (k := 0) rfl (by decide) (by decide) rfl (fun ls hl => ?_)
  refine lv_goto (tgt := 3) hx hb dX8_add_43 (by decide) ?_
  refine lv_iload_n hx hb dX8_add_3 rfl (lv_at hl 0 rfl) ?_
  refine lv_if_lt (tgt := 46) hx hb dX8_add_4 (by decide) (fun c4_25 => ?_) (fun c4_25 => absurd c4_25 (by decide))
  exact hret _ _ _ _ _ ⟨_, _, rfl, fun f hf => by simp only [up2_f hf], by simp only [up2_s]; omega, adk_4 HA, HO⟩ hw dX8_add_46
set_option maxHeartbeats 4000000 in
set_option maxRecDepth 100000 in
theorem c_v_X11_feed (l : Launch) (G : Gh) (S : Pl) (ma : Nat → Nat) (tn : Nat) (a1 a2 a3 a4 a5 : Int32) (hM : shMod S ma) (hI : mInv (pI S) (qI S) ma) (hn : (pI S 102 (ma 0)).toInt = (tn : Int)) : MtI l yX11_feed cX11_feed 8 (some .int) (Rm 0 0 0) G [.ref (ma 0), .int a1, .int a2, .int a3, .int a4, .int a5] S (fun (r : Int32) (S' : Pl) => ∃ I' q', ch S I' (pJ S) q' (qJ S) = S' ∧ mInv I' q' ma ∧ (I' 102 (ma 0)).toInt = fdN (pI S 102 (ma 0)).toInt ∧ I' 128 (ma 0) = pI S 128 (ma 0) ∧ I' 140 (ma 0) = pI S 140 (ma 0) ∧ q' (ma 40) = qI S (ma 40) ∧ ((pI S 102 (ma 0)).toInt ≤ 980 → q' (ma 1) = fd5 (qI S (ma 1)) tn a1 a2 a3 a4 a5) ∧ (¬ (pI S 102 (ma 0)).toInt ≤ 980 → q' (ma 1) = qI S (ma 1)) ∧ (∀ j, 2 ≤ j → j ≤ 45 → q' (ma j) = qI S (ma j)) ∧ I' 120 (ma 0) = pI S 120 (ma 0) ∧ r.toInt = fdR (pI S 102 (ma 0)).toInt) 0 0 := by
  refine MtI.of (by decide) (Nat.le_of_ble_eq_true rfl) ?_
  intro p e s m args below meth c Q A X hw hin hret ls hl
  have hx := X.1.1
  have hb := X.1.2.1
  have hl : lv_has ls 8 [(0, .ref (ma 0)), (1, .int a1), (2, .int a2), (3, .int a3), (4, .int a4), (5, .int a5)] := hl
  obtain ⟨⟨b1, b2, b3, b4, b5, b6⟩, hT, hP, hC⟩ := id hI
  refine lv_aload_n hx hb dX11_feed_0 rfl (lv_at hl 0 rfl) ?_
  refine gf_X11_143 (v := (pI S) 102 (ma 0)) X hw hM.1 rfl dX11_feed_1 ?_
  refine lv_bipush (v := 20) hx hb dX11_feed_4 (by decide) ?_
  refine lv_iadd hx hb dX11_feed_6 ?_
  refine lv_topi (fun v6_1 e6_1 => ?_)
  have t6_1 := iAdd e6_1 rfl t_20 (by omega) (by omega)
  have t6 := t6_1
  refine lv_sipush (v := 1000) hx hb dX11_feed_7 (by decide) ?_
  refine lv_icmp_le (tgt := 15) hx hb dX11_feed_10 (by decide) (fun c10_2 => ?_) (fun c10_2 => ?_)
  · have D10_2 := iLe c10_2 rfl t_1000
    refine lv_iconst (v := 0) hx hb dX11_feed_15 (by decide) ?_
    refine lv_istore (lv' := [(6, .int 0), (0, .ref (ma 0)), (1, .int a1), (2, .int a2), (3, .int a3), (4, .int a4), (5, .int a5)]) hx hb dX11_feed_16 hl (by decide) rfl (fun ls hl => ?_)
    have lp18 : ∀ (N9 : Nat) (q18 : Nat → Nat → Int32) (k : Int32), (FrQ 1 ma (qI S) q18) → (0 ≤ k.toInt ∧ k.toInt ≤ 20) → (∀ j, 2 ≤ j → j ≤ 45 → q18 (ma j) = qI S (ma j)) → (fdk (qI S (ma 1)) (q18 (ma 1)) tn a1 a2 a3 a4 a5 k.toNatClampNeg) → (20 - k.toInt).toNat < N9 → ∀ (H : Heap) (locs : List Loc) (ls : Array Slot), PX G A s.heap (ch S (pI S) (pJ S) q18 (qJ S)) H locs → lv_has ls 8 [(6, .int k), (0, .ref (ma 0)), (1, .int a1), (2, .int a2), (3, .int a3), (4, .int a4), (5, .int a5)] → W p l e (Rm 0 0 0) s m args below meth c H locs 0 0 Q (F0 m 18 ls []) := by
      intro N9
      induction N9 with
      | zero => intro q18 k hY hk hrow hfd hm; exact absurd hm (Nat.not_lt_zero _)
      | succ N9 ih18 =>
        intro q18 k hY hk hrow hfd hm H locs ls hw hl
        refine lv_iload hx hb dX11_feed_18 (lv_at hl 0 rfl) ?_
        refine lv_bipush (v := 20) hx hb dX11_feed_20 (by decide) ?_
        refine lv_icmp_ge (tgt := 105) hx hb dX11_feed_22 (by decide) (fun c22_3 => ?_) (fun c22_3 => ?_)
        · have D22_3 := iLe c22_3 t_20 rfl
          refine lv_aload_n hx hb dX11_feed_105 rfl (lv_at hl 1 rfl) ?_
          refine lv_dup hx hb dX11_feed_106 rfl ?_
          refine gf_X11_143 (v := (pI S) 102 (ma 0)) X hw hM.1 rfl dX11_feed_107 ?_
          refine lv_bipush (v := 20) hx hb dX11_feed_110 (by decide) ?_
          refine lv_iadd hx hb dX11_feed_112 ?_
          refine lv_topi (fun v112_4 e112_4 => ?_)
          have t112_4 := iAdd e112_4 rfl t_20 (by omega) (by omega)
          have t112 := t112_4
          refine pf_X11_143 X hw hM.1 dX11_feed_113 (fun H locs hw => ?_)
          have hw : PX G A s.heap (ch S (up2 (pI S) 102 (ma 0) v112_4) (pJ S) q18 (qJ S)) H locs := hw
          refine lv_aload_n hx hb dX11_feed_116 rfl (lv_at hl 1 rfl) ?_
          refine gf_X11_143 (v := v112_4) X hw hM.1 (show up2 (pI S) 102 (ma 0) v112_4 102 (ma 0) = v112_4 from up2_s) dX11_feed_117 ?_
          exact hret v112_4 _ _ _ _ _ ⟨_, _, rfl, mInv_w hM hI (FrW.up (f := 102) (by decide) FrW.rf) hY (by rw [show (up2 (pI S) 102 (ma 0) v112_4) 102 (ma 0) = (v112_4 : Int32) from (show up2 (pI S) 102 (ma 0) v112_4 102 (ma 0) = v112_4 from up2_s)]; omega) b2 b3 b4 (by rw [hrow 18 (by decide) (by decide)]; exact hC.2), (by rw [show (up2 (pI S) 102 (ma 0) v112_4) 102 (ma 0) = (v112_4 : Int32) from (show up2 (pI S) 102 (ma 0) v112_4 102 (ma 0) = v112_4 from up2_s)]; unfold fdN; rw [if_pos (by omega)]; omega), congrFun ((FrW.up (f := 102) (by decide) FrW.rf) 128 (by decide)) (ma 0), congrFun ((FrW.up (f := 102) (by decide) FrW.rf) 140 (by decide)) (ma 0), FrQ.at hM hY (by decide) (by decide), (fun _ => fd_fin (by have z9 := hfd; rw [show k.toNatClampNeg = 20 by have := cl_toInt (x := k) (by omega); omega] at z9; exact z9)), (fun h9 => absurd (show (pI S 102 (ma 0)).toInt ≤ 980 by omega) h9), hrow, rfl, by unfold fdR; rw [if_pos (by omega)]; omega⟩ hw rfl dX11_feed_120
        · have D22_3 := iNle c22_3 t_20 rfl
          refine lv_iload hx hb dX11_feed_25 (lv_at hl 0 rfl) ?_
          refine lv_iconst (v := 4) hx hb dX11_feed_27 (by decide) ?_
          refine lv_icmp_ge (tgt := 35) hx hb dX11_feed_28 (by decide) (fun c28_5 => ?_) (fun c28_5 => ?_)
          · have D28_5 := iLe c28_5 t_4 rfl
            refine lv_iload hx hb dX11_feed_35 (lv_at hl 0 rfl) ?_
            refine lv_bipush (v := 8) hx hb dX11_feed_37 (by decide) ?_
            refine lv_icmp_ge (tgt := 46) hx hb dX11_feed_39 (by decide) (fun c39_6 => ?_) (fun c39_6 => ?_)
            · have D39_6 := iLe c39_6 t_8 rfl
              refine lv_iload hx hb dX11_feed_46 (lv_at hl 0 rfl) ?_
              refine lv_bipush (v := 12) hx hb dX11_feed_48 (by decide) ?_
              refine lv_icmp_ge (tgt := 57) hx hb dX11_feed_50 (by decide) (fun c50_7 => ?_) (fun c50_7 => ?_)
              · have D50_7 := iLe c50_7 t_12 rfl
                refine lv_iload hx hb dX11_feed_57 (lv_at hl 0 rfl) ?_
                refine lv_bipush (v := 16) hx hb dX11_feed_59 (by decide) ?_
                refine lv_icmp_ge (tgt := 69) hx hb dX11_feed_61 (by decide) (fun c61_8 => ?_) (fun c61_8 => ?_)
                · have D61_8 := iLe c61_8 t_16 rfl
                  refine lv_iload hx hb dX11_feed_69 (lv_at hl 6 rfl) ?_
                  refine lv_istore (lv' := [(7, .int a5), (6, .int k), (0, .ref (ma 0)), (1, .int a1), (2, .int a2), (3, .int a3), (4, .int a4), (5, .int a5)]) hx hb dX11_feed_71 hl (by decide) rfl (fun ls hl => ?_)
                  have hsl : a5 = sl5 a1 a2 a3 a4 a5 k.toNatClampNeg := (by have e9 := cl_toInt (x := k) (by omega); first | exact sl5_at (Or.inl ⟨by omega, rfl⟩) | exact sl5_at (Or.inr (Or.inl ⟨by omega, by omega, rfl⟩)) | exact sl5_at (Or.inr (Or.inr (Or.inl ⟨by omega, by omega, rfl⟩))) | exact sl5_at (Or.inr (Or.inr (Or.inr (Or.inl ⟨by omega, by omega, rfl⟩)))) | exact sl5_at (Or.inr (Or.inr (Or.inr (Or.inr ⟨by omega, rfl⟩)))))
                  refine lv_aload_n hx hb dX11_feed_73 rfl (lv_at hl 2 rfl) ?_
                  refine gf_X11_58 (b := (ma 1)) X hw hM.1 (mr_1 hM) dX11_feed_74 ?_
                  refine lv_aload_n hx hb dX11_feed_77 rfl (lv_at hl 2 rfl) ?_
                  refine gf_X11_143 (v := (pI S) 102 (ma 0)) X hw hM.1 rfl dX11_feed_78 ?_
                  refine lv_iload hx hb dX11_feed_81 (lv_at hl 1 rfl) ?_
                  refine lv_iadd hx hb dX11_feed_83 ?_
                  refine lv_topi (fun v83_9 e83_9 => ?_)
                  have t83_9 := iAdd e83_9 rfl rfl (by omega) (by omega)
                  have t83 := t83_9
                  refine lv_iload hx hb dX11_feed_84 (lv_at hl 0 rfl) ?_
                  refine lv_bipush (v := 24) hx hb dX11_feed_86 (by decide) ?_
                  refine lv_bipush (v := 8) hx hb dX11_feed_88 (by decide) ?_
                  refine lv_iload hx hb dX11_feed_90 (lv_at hl 1 rfl) ?_
                  refine lv_iconst (v := 3) hx hb dX11_feed_92 (by decide) ?_
                  refine lv_iand hx hb dX11_feed_93 ?_
                  refine lv_topi (fun v93_10 e93_10 => ?_)
                  have e93n := e93_10
                  refine lv_imul hx hb dX11_feed_94 ?_
                  refine lv_topi (fun v94_11 e94_11 => ?_)
                  have e94n := e94_11
                  refine lv_isub hx hb dX11_feed_95 ?_
                  refine lv_topi (fun v95_12 e95_12 => ?_)
                  have e95n := e95_12
                  refine lv_ishr hx hb dX11_feed_96 ?_
                  refine lv_topi (fun v96_13 e96_13 => ?_)
                  have e96n := e96_13
                  refine lv_i2b hx hb dX11_feed_97 rfl ?_
                  refine lv_topi (fun v97_14 e97_14 => ?_)
                  have e97n := e97_14
                  refine q_stB X hw (mk_1 hM) (vin (mn_1 hM) (by omega) (by omega)) dX11_feed_98 (fun H locs hw => ?_)
                  obtain ⟨q98_15, eq98_15, hw⟩ : ∃ zz9, zz9 = va_up q18 (ma 1) (upd (q18 (ma 1)) v83_9.toNatClampNeg (vp_nar .byte v97_14)) ∧ PX G A s.heap (ch S (pI S) (pJ S) zz9 (qJ S)) H locs := ⟨_, rfl, hw⟩
                  have c98 := eq98_15
                  obtain ⟨v99_16, e99_16⟩ : ∃ y : Int32, y = k + 1 := ⟨_, rfl⟩
                  have t99_16 := iAdd e99_16 rfl t_1 (by omega) (by omega)
                  have t99 := t99_16
                  refine lv_iinc (v := v99_16) (lv' := [(6, .int v99_16), (7, .int a5), (0, .ref (ma 0)), (1, .int a1), (2, .int a2), (3, .int a3), (4, .int a4), (5, .int a5)]) hx hb dX11_feed_99 hl (k := 1) rfl (by rw [e99_16]; rfl) (by decide) rfl (fun ls hl => ?_)
                  refine lv_goto (tgt := 18) hx hb dX11_feed_102 (by decide) ?_
                  exact ih18 q98_15 v99_16 (FrQ.ez eq98_15 (FrQ.up (j := 1) (by decide) (by decide) hY)) (by omega) (fun j9 h9 h8 => (row_keep hM c98 (i := j9) h8 (by decide) (by omega)).trans (hrow j9 h9 h8)) (fdk_s hfd hk.1 t99 c98 (by omega) (by_fin e97n e96n hsl (shf_at (by omega) e93n e94n e95n))) (by omega) _ _ _ hw (lv_sub hl [0, 2, 3, 4, 5, 6, 7] rfl)
                · have D61_8 := iNle c61_8 t_16 rfl
                  refine lv_iload hx hb dX11_feed_64 (lv_at hl 5 rfl) ?_
                  refine lv_goto (tgt := 71) hx hb dX11_feed_66 (by decide) ?_
                  refine lv_istore (lv' := [(7, .int a4), (6, .int k), (0, .ref (ma 0)), (1, .int a1), (2, .int a2), (3, .int a3), (4, .int a4), (5, .int a5)]) hx hb dX11_feed_71 hl (by decide) rfl (fun ls hl => ?_)
                  have hsl : a4 = sl5 a1 a2 a3 a4 a5 k.toNatClampNeg := (by have e9 := cl_toInt (x := k) (by omega); first | exact sl5_at (Or.inl ⟨by omega, rfl⟩) | exact sl5_at (Or.inr (Or.inl ⟨by omega, by omega, rfl⟩)) | exact sl5_at (Or.inr (Or.inr (Or.inl ⟨by omega, by omega, rfl⟩))) | exact sl5_at (Or.inr (Or.inr (Or.inr (Or.inl ⟨by omega, by omega, rfl⟩)))) | exact sl5_at (Or.inr (Or.inr (Or.inr (Or.inr ⟨by omega, rfl⟩)))))
                  refine lv_aload_n hx hb dX11_feed_73 rfl (lv_at hl 2 rfl) ?_
                  refine gf_X11_58 (b := (ma 1)) X hw hM.1 (mr_1 hM) dX11_feed_74 ?_
                  refine lv_aload_n hx hb dX11_feed_77 rfl (lv_at hl 2 rfl) ?_
                  refine gf_X11_143 (v := (pI S) 102 (ma 0)) X hw hM.1 rfl dX11_feed_78 ?_
                  refine lv_iload hx hb dX11_feed_81 (lv_at hl 1 rfl) ?_
                  refine lv_iadd hx hb dX11_feed_83 ?_
                  refine lv_topi (fun v83_17 e83_17 => ?_)
                  have t83_17 := iAdd e83_17 rfl rfl (by omega) (by omega)
                  have t83 := t83_17
                  refine lv_iload hx hb dX11_feed_84 (lv_at hl 0 rfl) ?_
                  refine lv_bipush (v := 24) hx hb dX11_feed_86 (by decide) ?_
                  refine lv_bipush (v := 8) hx hb dX11_feed_88 (by decide) ?_
                  refine lv_iload hx hb dX11_feed_90 (lv_at hl 1 rfl) ?_
                  refine lv_iconst (v := 3) hx hb dX11_feed_92 (by decide) ?_
                  refine lv_iand hx hb dX11_feed_93 ?_
                  refine lv_topi (fun v93_18 e93_18 => ?_)
                  have e93n := e93_18
                  refine lv_imul hx hb dX11_feed_94 ?_
                  refine lv_topi (fun v94_19 e94_19 => ?_)
                  have e94n := e94_19
                  refine lv_isub hx hb dX11_feed_95 ?_
                  refine lv_topi (fun v95_20 e95_20 => ?_)
                  have e95n := e95_20
                  refine lv_ishr hx hb dX11_feed_96 ?_
                  refine lv_topi (fun v96_21 e96_21 => ?_)
                  have e96n := e96_21
                  refine lv_i2b hx hb dX11_feed_97 rfl ?_
                  refine lv_topi (fun v97_22 e97_22 => ?_)
                  have e97n := e97_22
                  refine q_stB X hw (mk_1 hM) (vin (mn_1 hM) (by omega) (by omega)) dX11_feed_98 (fun H locs hw => ?_)
                  obtain ⟨q98_23, eq98_23, hw⟩ : ∃ zz9, zz9 = va_up q18 (ma 1) (upd (q18 (ma 1)) v83_17.toNatClampNeg (vp_nar .byte v97_22)) ∧ PX G A s.heap (ch S (pI S) (pJ S) zz9 (qJ S)) H locs := ⟨_, rfl, hw⟩
                  have c98 := eq98_23
                  obtain ⟨v99_24, e99_24⟩ : ∃ y : Int32, y = k + 1 := ⟨_, rfl⟩
                  have t99_24 := iAdd e99_24 rfl t_1 (by omega) (by omega)
                  have t99 := t99_24
                  refine lv_iinc (v := v99_24) (lv' := [(6, .int v99_24), (7, .int a4), (0, .ref (ma 0)), (1, .int a1), (2, .int a2), (3, .int a3), (4, .int a4), (5, .int a5)]) hx hb dX11_feed_99 hl (k := 1) rfl (by rw [e99_24]; rfl) (by decide) rfl (fun ls hl => ?_)
                  refine lv_goto (tgt := 18) hx hb dX11_feed_102 (by decide) ?_
                  exact ih18 q98_23 v99_24 (FrQ.ez eq98_23 (FrQ.up (j := 1) (by decide) (by decide) hY)) (by omega) (fun j9 h9 h8 => (row_keep hM c98 (i := j9) h8 (by decide) (by omega)).trans (hrow j9 h9 h8)) (fdk_s hfd hk.1 t99 c98 (by omega) (by_fin e97n e96n hsl (shf_at (by omega) e93n e94n e95n))) (by omega) _ _ _ hw (lv_sub hl [0, 2, 3, 4, 5, 6, 7] rfl)
              · have D50_7 := iNle c50_7 t_12 rfl
                refine lv_iload_n hx hb dX11_feed_53 rfl (lv_at hl 4 rfl) ?_
                refine lv_goto (tgt := 71) hx hb dX11_feed_54 (by decide) ?_
                refine lv_istore (lv' := [(7, .int a3), (6, .int k), (0, .ref (ma 0)), (1, .int a1), (2, .int a2), (3, .int a3), (4, .int a4), (5, .int a5)]) hx hb dX11_feed_71 hl (by decide) rfl (fun ls hl => ?_)
                have hsl : a3 = sl5 a1 a2 a3 a4 a5 k.toNatClampNeg := (by have e9 := cl_toInt (x := k) (by omega); first | exact sl5_at (Or.inl ⟨by omega, rfl⟩) | exact sl5_at (Or.inr (Or.inl ⟨by omega, by omega, rfl⟩)) | exact sl5_at (Or.inr (Or.inr (Or.inl ⟨by omega, by omega, rfl⟩))) | exact sl5_at (Or.inr (Or.inr (Or.inr (Or.inl ⟨by omega, by omega, rfl⟩)))) | exact sl5_at (Or.inr (Or.inr (Or.inr (Or.inr ⟨by omega, rfl⟩)))))
                refine lv_aload_n hx hb dX11_feed_73 rfl (lv_at hl 2 rfl) ?_
                refine gf_X11_58 (b := (ma 1)) X hw hM.1 (mr_1 hM) dX11_feed_74 ?_
                refine lv_aload_n hx hb dX11_feed_77 rfl (lv_at hl 2 rfl) ?_
                refine gf_X11_143 (v := (pI S) 102 (ma 0)) X hw hM.1 rfl dX11_feed_78 ?_
                refine lv_iload hx hb dX11_feed_81 (lv_at hl 1 rfl) ?_
                refine lv_iadd hx hb dX11_feed_83 ?_
                refine lv_topi (fun v83_25 e83_25 => ?_)
                have t83_25 := iAdd e83_25 rfl rfl (by omega) (by omega)
                have t83 := t83_25
                refine lv_iload hx hb dX11_feed_84 (lv_at hl 0 rfl) ?_
                refine lv_bipush (v := 24) hx hb dX11_feed_86 (by decide) ?_
                refine lv_bipush (v := 8) hx hb dX11_feed_88 (by decide) ?_
                refine lv_iload hx hb dX11_feed_90 (lv_at hl 1 rfl) ?_
                refine lv_iconst (v := 3) hx hb dX11_feed_92 (by decide) ?_
                refine lv_iand hx hb dX11_feed_93 ?_
                refine lv_topi (fun v93_26 e93_26 => ?_)
                have e93n := e93_26
                refine lv_imul hx hb dX11_feed_94 ?_
                refine lv_topi (fun v94_27 e94_27 => ?_)
                have e94n := e94_27
                refine lv_isub hx hb dX11_feed_95 ?_
                refine lv_topi (fun v95_28 e95_28 => ?_)
                have e95n := e95_28
                refine lv_ishr hx hb dX11_feed_96 ?_
                refine lv_topi (fun v96_29 e96_29 => ?_)
                have e96n := e96_29
                refine lv_i2b hx hb dX11_feed_97 rfl ?_
                refine lv_topi (fun v97_30 e97_30 => ?_)
                have e97n := e97_30
                refine q_stB X hw (mk_1 hM) (vin (mn_1 hM) (by omega) (by omega)) dX11_feed_98 (fun H locs hw => ?_)
                obtain ⟨q98_31, eq98_31, hw⟩ : ∃ zz9, zz9 = va_up q18 (ma 1) (upd (q18 (ma 1)) v83_25.toNatClampNeg (vp_nar .byte v97_30)) ∧ PX G A s.heap (ch S (pI S) (pJ S) zz9 (qJ S)) H locs := ⟨_, rfl, hw⟩
                have c98 := eq98_31
                obtain ⟨v99_32, e99_32⟩ : ∃ y : Int32, y = k + 1 := ⟨_, rfl⟩
                have t99_32 := iAdd e99_32 rfl t_1 (by omega) (by omega)
                have t99 := t99_32
                refine lv_iinc (v := v99_32) (lv' := [(6, .int v99_32), (7, .int a3), (0, .ref (ma 0)), (1, .int a1), (2, .int a2), (3, .int a3), (4, .int a4), (5, .int a5)]) hx hb dX11_feed_99 hl (k := 1) rfl (by rw [e99_32]; rfl) (by decide) rfl (fun ls hl => ?_)
                refine lv_goto (tgt := 18) hx hb dX11_feed_102 (by decide) ?_
                exact ih18 q98_31 v99_32 (FrQ.ez eq98_31 (FrQ.up (j := 1) (by decide) (by decide) hY)) (by omega) (fun j9 h9 h8 => (row_keep hM c98 (i := j9) h8 (by decide) (by omega)).trans (hrow j9 h9 h8)) (fdk_s hfd hk.1 t99 c98 (by omega) (by_fin e97n e96n hsl (shf_at (by omega) e93n e94n e95n))) (by omega) _ _ _ hw (lv_sub hl [0, 2, 3, 4, 5, 6, 7] rfl)
            · have D39_6 := iNle c39_6 t_8 rfl
              refine lv_iload_n hx hb dX11_feed_42 rfl (lv_at hl 3 rfl) ?_
              refine lv_goto (tgt := 71) hx hb dX11_feed_43 (by decide) ?_
              refine lv_istore (lv' := [(7, .int a2), (6, .int k), (0, .ref (ma 0)), (1, .int a1), (2, .int a2), (3, .int a3), (4, .int a4), (5, .int a5)]) hx hb dX11_feed_71 hl (by decide) rfl (fun ls hl => ?_)
              have hsl : a2 = sl5 a1 a2 a3 a4 a5 k.toNatClampNeg := (by have e9 := cl_toInt (x := k) (by omega); first | exact sl5_at (Or.inl ⟨by omega, rfl⟩) | exact sl5_at (Or.inr (Or.inl ⟨by omega, by omega, rfl⟩)) | exact sl5_at (Or.inr (Or.inr (Or.inl ⟨by omega, by omega, rfl⟩))) | exact sl5_at (Or.inr (Or.inr (Or.inr (Or.inl ⟨by omega, by omega, rfl⟩)))) | exact sl5_at (Or.inr (Or.inr (Or.inr (Or.inr ⟨by omega, rfl⟩)))))
              refine lv_aload_n hx hb dX11_feed_73 rfl (lv_at hl 2 rfl) ?_
              refine gf_X11_58 (b := (ma 1)) X hw hM.1 (mr_1 hM) dX11_feed_74 ?_
              refine lv_aload_n hx hb dX11_feed_77 rfl (lv_at hl 2 rfl) ?_
              refine gf_X11_143 (v := (pI S) 102 (ma 0)) X hw hM.1 rfl dX11_feed_78 ?_
              refine lv_iload hx hb dX11_feed_81 (lv_at hl 1 rfl) ?_
              refine lv_iadd hx hb dX11_feed_83 ?_
              refine lv_topi (fun v83_33 e83_33 => ?_)
              have t83_33 := iAdd e83_33 rfl rfl (by omega) (by omega)
              have t83 := t83_33
              refine lv_iload hx hb dX11_feed_84 (lv_at hl 0 rfl) ?_
              refine lv_bipush (v := 24) hx hb dX11_feed_86 (by decide) ?_
              refine lv_bipush (v := 8) hx hb dX11_feed_88 (by decide) ?_
              refine lv_iload hx hb dX11_feed_90 (lv_at hl 1 rfl) ?_
              refine lv_iconst (v := 3) hx hb dX11_feed_92 (by decide) ?_
              refine lv_iand hx hb dX11_feed_93 ?_
              refine lv_topi (fun v93_34 e93_34 => ?_)
              have e93n := e93_34
              refine lv_imul hx hb dX11_feed_94 ?_
              refine lv_topi (fun v94_35 e94_35 => ?_)
              have e94n := e94_35
              refine lv_isub hx hb dX11_feed_95 ?_
              refine lv_topi (fun v95_36 e95_36 => ?_)
              have e95n := e95_36
              refine lv_ishr hx hb dX11_feed_96 ?_
              refine lv_topi (fun v96_37 e96_37 => ?_)
              have e96n := e96_37
              refine lv_i2b hx hb dX11_feed_97 rfl ?_
              refine lv_topi (fun v97_38 e97_38 => ?_)
              have e97n := e97_38
              refine q_stB X hw (mk_1 hM) (vin (mn_1 hM) (by omega) (by omega)) dX11_feed_98 (fun H locs hw => ?_)
              obtain ⟨q98_39, eq98_39, hw⟩ : ∃ zz9, zz9 = va_up q18 (ma 1) (upd (q18 (ma 1)) v83_33.toNatClampNeg (vp_nar .byte v97_38)) ∧ PX G A s.heap (ch S (pI S) (pJ S) zz9 (qJ S)) H locs := ⟨_, rfl, hw⟩
              have c98 := eq98_39
              obtain ⟨v99_40, e99_40⟩ : ∃ y : Int32, y = k + 1 := ⟨_, rfl⟩
              have t99_40 := iAdd e99_40 rfl t_1 (by omega) (by omega)
              have t99 := t99_40
              refine lv_iinc (v := v99_40) (lv' := [(6, .int v99_40), (7, .int a2), (0, .ref (ma 0)), (1, .int a1), (2, .int a2), (3, .int a3), (4, .int a4), (5, .int a5)]) hx hb dX11_feed_99 hl (k := 1) rfl (by rw [e99_40]; rfl) (by decide) rfl (fun ls hl => ?_)
              refine lv_goto (tgt := 18) hx hb dX11_feed_102 (by decide) ?_
              exact ih18 q98_39 v99_40 (FrQ.ez eq98_39 (FrQ.up (j := 1) (by decide) (by decide) hY)) (by omega) (fun j9 h9 h8 => (row_keep hM c98 (i := j9) h8 (by decide) (by omega)).trans (hrow j9 h9 h8)) (fdk_s hfd hk.1 t99 c98 (by omega) (by_fin e97n e96n hsl (shf_at (by omega) e93n e94n e95n))) (by omega) _ _ _ hw (lv_sub hl [0, 2, 3, 4, 5, 6, 7] rfl)
          · have D28_5 := iNle c28_5 t_4 rfl
            refine lv_iload_n hx hb dX11_feed_31 rfl (lv_at hl 2 rfl) ?_
            refine lv_goto (tgt := 71) hx hb dX11_feed_32 (by decide) ?_
            refine lv_istore (lv' := [(7, .int a1), (6, .int k), (0, .ref (ma 0)), (1, .int a1), (2, .int a2), (3, .int a3), (4, .int a4), (5, .int a5)]) hx hb dX11_feed_71 hl (by decide) rfl (fun ls hl => ?_)
            have hsl : a1 = sl5 a1 a2 a3 a4 a5 k.toNatClampNeg := (by have e9 := cl_toInt (x := k) (by omega); first | exact sl5_at (Or.inl ⟨by omega, rfl⟩) | exact sl5_at (Or.inr (Or.inl ⟨by omega, by omega, rfl⟩)) | exact sl5_at (Or.inr (Or.inr (Or.inl ⟨by omega, by omega, rfl⟩))) | exact sl5_at (Or.inr (Or.inr (Or.inr (Or.inl ⟨by omega, by omega, rfl⟩)))) | exact sl5_at (Or.inr (Or.inr (Or.inr (Or.inr ⟨by omega, rfl⟩)))))
            refine lv_aload_n hx hb dX11_feed_73 rfl (lv_at hl 2 rfl) ?_
            refine gf_X11_58 (b := (ma 1)) X hw hM.1 (mr_1 hM) dX11_feed_74 ?_
            refine lv_aload_n hx hb dX11_feed_77 rfl (lv_at hl 2 rfl) ?_
            refine gf_X11_143 (v := (pI S) 102 (ma 0)) X hw hM.1 rfl dX11_feed_78 ?_
            refine lv_iload hx hb dX11_feed_81 (lv_at hl 1 rfl) ?_
            refine lv_iadd hx hb dX11_feed_83 ?_
            refine lv_topi (fun v83_41 e83_41 => ?_)
            have t83_41 := iAdd e83_41 rfl rfl (by omega) (by omega)
            have t83 := t83_41
            refine lv_iload hx hb dX11_feed_84 (lv_at hl 0 rfl) ?_
            refine lv_bipush (v := 24) hx hb dX11_feed_86 (by decide) ?_
            refine lv_bipush (v := 8) hx hb dX11_feed_88 (by decide) ?_
            refine lv_iload hx hb dX11_feed_90 (lv_at hl 1 rfl) ?_
            refine lv_iconst (v := 3) hx hb dX11_feed_92 (by decide) ?_
            refine lv_iand hx hb dX11_feed_93 ?_
            refine lv_topi (fun v93_42 e93_42 => ?_)
            have e93n := e93_42
            refine lv_imul hx hb dX11_feed_94 ?_
            refine lv_topi (fun v94_43 e94_43 => ?_)
            have e94n := e94_43
            refine lv_isub hx hb dX11_feed_95 ?_
            refine lv_topi (fun v95_44 e95_44 => ?_)
            have e95n := e95_44
            refine lv_ishr hx hb dX11_feed_96 ?_
            refine lv_topi (fun v96_45 e96_45 => ?_)
            have e96n := e96_45
            refine lv_i2b hx hb dX11_feed_97 rfl ?_
            refine lv_topi (fun v97_46 e97_46 => ?_)
            have e97n := e97_46
            refine q_stB X hw (mk_1 hM) (vin (mn_1 hM) (by omega) (by omega)) dX11_feed_98 (fun H locs hw => ?_)
            obtain ⟨q98_47, eq98_47, hw⟩ : ∃ zz9, zz9 = va_up q18 (ma 1) (upd (q18 (ma 1)) v83_41.toNatClampNeg (vp_nar .byte v97_46)) ∧ PX G A s.heap (ch S (pI S) (pJ S) zz9 (qJ S)) H locs := ⟨_, rfl, hw⟩
            have c98 := eq98_47
            obtain ⟨v99_48, e99_48⟩ : ∃ y : Int32, y = k + 1 := ⟨_, rfl⟩
            have t99_48 := iAdd e99_48 rfl t_1 (by omega) (by omega)
            have t99 := t99_48
            refine lv_iinc (v := v99_48) (lv' := [(6, .int v99_48), (7, .int a1), (0, .ref (ma 0)), (1, .int a1), (2, .int a2), (3, .int a3), (4, .int a4), (5, .int a5)]) hx hb dX11_feed_99 hl (k := 1) rfl (by rw [e99_48]; rfl) (by decide) rfl (fun ls hl => ?_)
            refine lv_goto (tgt := 18) hx hb dX11_feed_102 (by decide) ?_
            exact ih18 q98_47 v99_48 (FrQ.ez eq98_47 (FrQ.up (j := 1) (by decide) (by decide) hY)) (by omega) (fun j9 h9 h8 => (row_keep hM c98 (i := j9) h8 (by decide) (by omega)).trans (hrow j9 h9 h8)) (fdk_s hfd hk.1 t99 c98 (by omega) (by_fin e97n e96n hsl (shf_at (by omega) e93n e94n e95n))) (by omega) _ _ _ hw (lv_sub hl [0, 2, 3, 4, 5, 6, 7] rfl)
    exact lp18 _ (qI S) 0 FrQ.rf (by have := t_0; omega) (fun _ _ _ => rfl) (by rw [show (0 : Int32).toNatClampNeg = 0 by decide]; exact fdk_0) (Nat.lt_succ_self _) _ _ _ hw (lv_sub hl [0, 1, 2, 3, 4, 5, 6] rfl)
  · have D10_2 := iNle c10_2 rfl t_1000
    refine lv_iconst (v := -1) hx hb dX11_feed_13 (by decide) ?_
    exact hret (-1) _ _ _ _ _ ⟨_, _, rfl, hI, by unfold fdN; rw [if_neg (by omega)], rfl, rfl, rfl, (fun h9 => absurd h9 (by omega)), (fun _ => rfl), (fun _ _ _ => rfl), rfl, by unfold fdR; rw [if_neg (by omega)]; exact t_m1⟩ hw rfl dX11_feed_14
set_option maxHeartbeats 4000000 in
set_option maxRecDepth 100000 in
theorem c_v_X11_end (l : Launch) (G : Gh) (S : Pl) (ma : Nat → Nat) (x : Int32) (hM : shMod S ma) (hI : mInv (pI S) (qI S) ma) : MtI l yX11_end cX11_end 2 (some .int) (Rm 0 0 0) G [.ref (ma 0), .int x] S (fun (r : Int32) (S' : Pl) => ∃ I' q', ch S I' (pJ S) q' (qJ S) = S' ∧ mInv I' q' ma ∧ (I' 102 (ma 0)).toInt = edN (pI S 102 (ma 0)).toInt x.toInt ∧ I' 128 (ma 0) = pI S 128 (ma 0) ∧ I' 140 (ma 0) = pI S 140 (ma 0) ∧ q' (ma 40) = qI S (ma 40) ∧ q' = qI S ∧ I' 120 (ma 0) = pI S 120 (ma 0) ∧ r.toInt = edR (pI S 102 (ma 0)).toInt x.toInt) 0 0 := by
  refine MtI.of (by decide) (Nat.le_of_ble_eq_true rfl) ?_
  intro p e s m args below meth c Q A X hw hin hret ls hl
  have hx := X.1.1
  have hb := X.1.2.1
  have hl : lv_has ls 2 [(0, .ref (ma 0)), (1, .int x)] := hl
  obtain ⟨⟨b1, b2, b3, b4, b5, b6⟩, hT, hP, hC⟩ := id hI
  refine lv_iload_n hx hb dX11_end_0 rfl (lv_at hl 1 rfl) ?_
  refine lv_if_lt (tgt := 12) hx hb dX11_end_1 (by decide) (fun c1_1 => ?_) (fun c1_1 => ?_)
  · have D1_1 := iLt c1_1 rfl t_0
    refine lv_iconst (v := -1) hx hb dX11_end_12 (by decide) ?_
    exact hret (-1) _ _ _ _ _ ⟨_, _, rfl, hI, by unfold edN; rw [if_neg (by omega)], rfl, rfl, rfl, rfl, rfl, by unfold edR; rw [if_neg (by omega)]; exact t_m1⟩ hw rfl dX11_end_13
  · have D1_1 := iNlt c1_1 rfl t_0
    refine lv_iload_n hx hb dX11_end_4 rfl (lv_at hl 1 rfl) ?_
    refine lv_aload_n hx hb dX11_end_5 rfl (lv_at hl 0 rfl) ?_
    refine gf_X11_143 (v := (pI S) 102 (ma 0)) X hw hM.1 rfl dX11_end_6 ?_
    refine lv_icmp_le (tgt := 14) hx hb dX11_end_9 (by decide) (fun c9_2 => ?_) (fun c9_2 => ?_)
    · have D9_2 := iLe c9_2 rfl rfl
      refine lv_aload_n hx hb dX11_end_14 rfl (lv_at hl 0 rfl) ?_
      refine lv_iload_n hx hb dX11_end_15 rfl (lv_at hl 1 rfl) ?_
      refine pf_X11_143 X hw hM.1 dX11_end_16 (fun H locs hw => ?_)
      have hw : PX G A s.heap (ch S (up2 (pI S) 102 (ma 0) x) (pJ S) (qI S) (qJ S)) H locs := hw
      refine lv_iload_n hx hb dX11_end_19 rfl (lv_at hl 1 rfl) ?_
      exact hret x _ _ _ _ _ ⟨_, _, rfl, mInv_w hM hI (FrW.up (f := 102) (by decide) FrW.rf) FrQ.rf (by rw [show (up2 (pI S) 102 (ma 0) x) 102 (ma 0) = (x : Int32) from (show up2 (pI S) 102 (ma 0) x 102 (ma 0) = x from up2_s)]; omega) b2 b3 b4 hC.2, (by rw [show (up2 (pI S) 102 (ma 0) x) 102 (ma 0) = (x : Int32) from (show up2 (pI S) 102 (ma 0) x 102 (ma 0) = x from up2_s)]; unfold edN; rw [if_pos (by omega)]), congrFun ((FrW.up (f := 102) (by decide) FrW.rf) 128 (by decide)) (ma 0), congrFun ((FrW.up (f := 102) (by decide) FrW.rf) 140 (by decide)) (ma 0), rfl, rfl, rfl, by unfold edR; rw [if_pos (by omega)]⟩ hw rfl dX11_end_20
    · have D9_2 := iNle c9_2 rfl rfl
      refine lv_iconst (v := -1) hx hb dX11_end_12 (by decide) ?_
      exact hret (-1) _ _ _ _ _ ⟨_, _, rfl, hI, by unfold edN; rw [if_neg (by omega)], rfl, rfl, rfl, rfl, rfl, by unfold edR; rw [if_neg (by omega)]; exact t_m1⟩ hw rfl dX11_end_13
