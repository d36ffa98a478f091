
/-! ===== what the model tells of its sea ===== -/
def wdn (t x : Nat → Int32) (h : Nat) (k : Int32) : Prop := (0 ≤ k.toInt ∧ sr t x h = sr t x k.toNatClampNeg) ∨ (k.toInt = -1 ∧ sr t x h = 0)
section WDN
variable {t x : Nat → Int32} {h : Nat} {k k' : Int32}
theorem wdn_0 (h0 : 0 ≤ k.toInt) : wdn t x k.toNatClampNeg k := Or.inl ⟨h0, rfl⟩
theorem wdn_s (w : wdn t x h k) (h0 : 0 ≤ k.toInt) (tk : k'.toInt = k.toInt + -1) (ht : t k.toNatClampNeg = 0) (hx : x k.toNatClampNeg = 0) : wdn t x h k' := by
  have e1 := cl_toInt h0
  rcases w with ⟨_, w⟩ | ⟨w, _⟩
  · by_cases z : k.toInt = 0
    · refine Or.inr ⟨by omega, ?_⟩
      rw [w, show k.toNatClampNeg = 0 by omega]
      rw [show k.toNatClampNeg = 0 by omega] at hx
      exact hx
    · have e2 := cl_toInt (x := k') (by omega)
      refine Or.inl ⟨by omega, ?_⟩
      obtain ⟨m, hm⟩ : ∃ m, k.toNatClampNeg = m + 1 := ⟨k.toNatClampNeg - 1, by omega⟩
      rw [hm] at ht
      rw [w, hm, sr, if_pos ht, show k'.toNatClampNeg = m by omega]
  · omega
theorem wdn.zd (w : wdn t x h k) (h0 : k.toInt < 0) : sr t x h = 0 := by
  rcases w with w | w
  · omega
  · exact w.2
theorem sr_t {m : Nat} (ht : ¬ t m = 0) : sr t x m = x m := by
  cases m with
  | zero => rfl
  | succ m => rw [sr, if_neg ht]
theorem wdn.td (w : wdn t x h k) (h0 : 0 ≤ k.toInt) (ht : ¬ t k.toNatClampNeg = 0) : sr t x h = x k.toNatClampNeg := by
  rcases w with w | w
  · rw [w.2]; exact sr_t ht
  · omega
end WDN
section MOF
variable {q : Nat → Nat → Int32} {ma : Nat → Nat} {b : Nat} {V : SV} {i v : Int32}
theorem wt_at {h : Nat} (g : MBk q ma b V.2) (hv : vok V) (hh : h < 72) (hi : i.toInt = ((72 * b + h : Nat) : Int)) (e : v = q (ma 13) i.toNatClampNeg) : (V.2 13 h = 0 ∧ v.toInt = -100 ∧ V.2 11 h = 0 ∧ V.2 12 h = 0) ∨ (¬ V.2 13 h = 0 ∧ v = V.2 11 h ∧ v.toInt ≠ -100 ∧ q (ma 14) i.toNatClampNeg = V.2 12 h) := by
  have e1 := cl_toInt (x := i) (by omega)
  have e2 : i.toNatClampNeg = 72 * b + h := by omega
  rw [e2] at e ⊢
  have z := g.1 h hh
  rw [← e] at z
  have u := hv.2.2.1 0 (by decide) h hh
  by_cases d : V.2 13 h = 0
  · refine Or.inl ⟨d, by rw [z.1 d]; decide, ?_⟩
    rcases u with u | u
    · exact ⟨u.2.1, u.2.2⟩
    · exact absurd (u.symm.trans d) (by decide)
  · have w := hv.2.1 11 (by decide) (by decide) h hh
    exact Or.inr ⟨d, (z.2 d).1, by rw [(z.2 d).1]; omega, (z.2 d).2⟩
theorem st_at {a h : Nat} (g : MBk q ma b V.2) (hv : vok V) (ha : a < 4) (hh : h < 72) (hi : i.toInt = ((72 * (4 * b + a) + h : Nat) : Int)) (e : v = q (ma 15) i.toNatClampNeg) : (V.2 (10 + 4 * (a + 1) + 3) h = 0 ∧ v.toInt = -100 ∧ V.2 (10 + 4 * (a + 1) + 1) h = 0 ∧ V.2 (10 + 4 * (a + 1) + 2) h = 0) ∨ (¬ V.2 (10 + 4 * (a + 1) + 3) h = 0 ∧ v = V.2 (10 + 4 * (a + 1) + 1) h ∧ v.toInt ≠ -100 ∧ q (ma 16) i.toNatClampNeg = V.2 (10 + 4 * (a + 1) + 2) h) := by
  have e1 := cl_toInt (x := i) (by omega)
  have e2 : i.toNatClampNeg = 72 * (4 * b + a) + h := by omega
  rw [e2] at e ⊢
  have z := g.2.1 a ha h hh
  rw [← e] at z
  have u := hv.2.2.1 (a + 1) (by omega) h hh
  by_cases d : V.2 (10 + 4 * (a + 1) + 3) h = 0
  · refine Or.inl ⟨d, by rw [z.1 d]; decide, ?_⟩
    rcases u with u | u
    · exact ⟨u.2.1, u.2.2⟩
    · exact absurd (u.symm.trans d) (by decide)
  · have w := hv.2.1 (10 + 4 * (a + 1) + 1) (fl_in (by omega) (by omega)) (by omega) h hh
    exact Or.inr ⟨d, (z.2 d).1, by rw [(z.2 d).1]; omega, (z.2 d).2⟩
/-- the model's miss is the class's, settled -/
theorem mOr_sm {x bI : Int32} (g : MBk q ma b V.2) (hv : vok V) (hb : bI.toInt = (b : Int)) (hb1 : b ≤ 1) (hx : 0 ≤ x.toInt ∧ x.toInt ≤ 1) : ∀ n, n ≤ 20 → mOr (q (ma 18)) bI x n = sm (V.2 4) (21 * x.toNatClampNeg + n)
  | 0, _ => by
    have ex := cl_toInt hx.1
    have z := hv.2.2.2.2.2.2.1 x.toNatClampNeg (by omega)
    show (100 : Int32) = sm (V.2 4) (21 * x.toNatClampNeg)
    rcases (show x.toNatClampNeg = 0 ∨ x.toNatClampNeg = 1 by omega) with e | e
    · rw [e] at z ⊢
      show (100 : Int32) = if V.2 4 0 = -1 then 100 else V.2 4 0
      rw [if_pos z]
    · rw [e] at z ⊢
      show (100 : Int32) = if V.2 4 21 = -1 then (if 21 % 21 = 0 then 100 else sm (V.2 4) 20) else V.2 4 21
      rw [if_pos z, if_pos (by decide)]
  | n + 1, hn => by
    have ex := cl_toInt hx.1
    have nt := nI_toInt (n := n + 1) (by omega)
    have t42 : (42 : Int32).toInt = 42 := by decide
    have t21 : (21 : Int32).toInt = 21 := by decide
    have m1 := iMul (v := 42 * bI) rfl t42 rfl (by omega) (by omega)
    have m2 := iMul (v := 21 * x) rfl t21 rfl (by omega) (by omega)
    have a1 := iAdd (v := 42 * bI + 21 * x) rfl m1 m2 (by omega) (by omega)
    have a2 := iAdd (v := 42 * bI + 21 * x + nI (n + 1)) rfl a1 nt (by omega) (by omega)
    have ci := cl_toInt (x := 42 * bI + 21 * x + nI (n + 1)) (by omega)
    have ei : (42 * bI + 21 * x + nI (n + 1)).toNatClampNeg = 42 * b + (21 * x.toNatClampNeg + (n + 1)) := by omega
    have z := g.2.2.2.2 (21 * x.toNatClampNeg + (n + 1)) (by omega)
    rw [mOr, ei]
    show _ = if V.2 4 (21 * x.toNatClampNeg + n + 1) = -1 then (if (21 * x.toNatClampNeg + n + 1) % 21 = 0 then 100 else sm (V.2 4) (21 * x.toNatClampNeg + n)) else V.2 4 (21 * x.toNatClampNeg + n + 1)
    by_cases d : V.2 4 (21 * x.toNatClampNeg + n + 1) = -1
    · rw [if_pos (z.1 d), if_pos d, if_neg (by omega)]
      exact mOr_sm g hv hb hb1 hx n (by omega)
    · have w := (hv.2.2.2.2.2.1 (21 * x.toNatClampNeg + (n + 1)) (by omega)).resolve_left d
      rw [if_neg (fun q => by rw [z.2 d] at q; rw [q] at w; exact absurd w.1 (by decide)), if_neg d]
      exact z.2 d
end MOF
set_option maxHeartbeats 4000000 in
set_option maxRecDepth 100000 in
theorem c_v_X11_windOf (l : Launch) (G : Gh) (S : Pl) (ma : Nat → Nat) (h y : Int32) (bk : Nat) (V : SV) (hM : shMod S ma) (hbk : (pI S 120 (ma 0)).toInt = (bk : Int)) (hbk1 : bk ≤ 1) (hMB : MBk (qI S) ma bk V.2) (hvk : vok V) (hh : 0 ≤ h.toInt ∧ h.toInt ≤ 71) : MtI l yX11_windOf cX11_windOf 4 (some .int) (Rm 0 0 0) G [.ref (ma 0), .int h, .int y] S (fun (r : Int32) (S' : Pl) => S = S' ∧ r = (if y = 0 then sr (V.2 13) (V.2 11) h.toNatClampNeg else sr (V.2 13) (V.2 12) h.toNatClampNeg)) 0 0 := by
  refine MtI.of (by decide) (Nat.le_of_ble_eq_true rfl) ?_
  intro p e s m args below meth c Q A X hw hin hret ls hl
  have hx := X.1.1
  have hb := X.1.2.1
  have hl : lv_has ls 4 [(0, .ref (ma 0)), (1, .int h), (2, .int y)] := hl
  have hch := cl_toInt (x := h) hh.1
  refine lv_iload_n hx hb dX11_windOf_0 rfl (lv_at hl 1 rfl) ?_
  refine lv_istore_n (lv' := [(3, .int h), (0, .ref (ma 0)), (1, .int h), (2, .int y)]) hx hb dX11_windOf_1 rfl hl (by decide) rfl (fun ls hl => ?_)
  have lp2 : ∀ (N9 : Nat) (k : Int32), (-1 ≤ k.toInt ∧ k.toInt ≤ 71) → (wdn (V.2 13) (V.2 11) h.toNatClampNeg k) → (wdn (V.2 13) (V.2 12) h.toNatClampNeg k) → (k.toInt + 1).toNat < N9 → ∀ (H : Heap) (locs : List Loc) (ls : Array Slot), PX G A s.heap S H locs → lv_has ls 4 [(3, .int k), (0, .ref (ma 0)), (1, .int h), (2, .int y)] → W p l e (Rm 0 0 0) s m args below meth c H locs 0 0 Q (F0 m 2 ls []) := by
    intro N9
    induction N9 with
    | zero => intro k hk hw1 hw2 hm; exact absurd hm (Nat.not_lt_zero _)
    | succ N9 ih2 =>
      intro k hk hw1 hw2 hm H locs ls hw hl
      refine lv_iload_n hx hb dX11_windOf_2 rfl (lv_at hl 0 rfl) ?_
      refine lv_if_lt (tgt := 31) hx hb dX11_windOf_3 (by decide) (fun c3_1 => ?_) (fun c3_1 => ?_)
      · have D3_1 := iLt c3_1 rfl t_0
        refine lv_iload_n hx hb dX11_windOf_31 rfl (lv_at hl 0 rfl) ?_
        refine lv_if_ge (tgt := 39) hx hb dX11_windOf_32 (by decide) (fun c32_2 => ?_) (fun c32_2 => ?_)
        · have D32_2 := iLe c32_2 t_0 rfl
          have hT9 : ¬ (V.2 13) k.toNatClampNeg = 0 := by first | exact (hV19.resolve_left (fun z9 => by have := z9.2.1; omega)).1 | (exfalso; omega)
          refine lv_iload_n hx hb dX11_windOf_39 rfl (lv_at hl 3 rfl) ?_
          refine lv_if_eq (tgt := 60) hx hb dX11_windOf_40 (by decide) (fun c40_3 => ?_) (fun c40_3 => ?_)
          · have D40_3 := iEq c40_3 rfl t_0
            refine lv_aload_n hx hb dX11_windOf_60 rfl (lv_at hl 1 rfl) ?_
            refine gf_X11_65 (b := (ma 13)) X hw hM.1 (mr_13 hM) dX11_windOf_61 ?_
            refine lv_bipush (v := 72) hx hb dX11_windOf_64 (by decide) ?_
            refine lv_aload_n hx hb dX11_windOf_66 rfl (lv_at hl 1 rfl) ?_
            refine gf_X11_146 (v := (pI S) 120 (ma 0)) X hw hM.1 rfl dX11_windOf_67 ?_
            refine lv_imul hx hb dX11_windOf_70 ?_
            refine lv_topi (fun v70_4 e70_4 => ?_)
            have t70_4 := iMul e70_4 t_72 rfl (by omega) (by omega)
            have t70 := t70_4
            refine lv_iload_n hx hb dX11_windOf_71 rfl (lv_at hl 0 rfl) ?_
            refine lv_iadd hx hb dX11_windOf_72 ?_
            refine lv_topi (fun v72_5 e72_5 => ?_)
            have t72_5 := iAdd e72_5 rfl rfl (by omega) (by omega)
            have t72 := t72_5
            refine q_ldI X hw (mk_13 hM) (vin (mn_13 hM) (by omega) (by omega)) dX11_windOf_73 ?_
            refine lv_topi (fun v73_6 e73_6 => ?_)
            have e73_6 : v73_6 = (qI S) (ma 13) v72_5.toNatClampNeg := e73_6
            have eX := e73_6
            exact hret v73_6 _ _ _ _ _ ⟨rfl, by rw [if_pos (Int32.toInt_inj.mp (by have := t_0; omega))]; first | (rw [hw1.td (by omega) hT9]; exact ((wt_at (h := k.toNatClampNeg) hMB hvk (by have := cl_toInt (x := k) (by omega); omega) (by have := cl_toInt (x := k) (by omega); omega) eX).resolve_left (fun z9 => hT9 z9.1)).2.1) | (exfalso; omega)⟩ hw rfl dX11_windOf_74
          · have D40_3 := iNe c40_3 rfl t_0
            refine lv_aload_n hx hb dX11_windOf_43 rfl (lv_at hl 1 rfl) ?_
            refine gf_X11_68 (b := (ma 14)) X hw hM.1 (mr_14 hM) dX11_windOf_44 ?_
            refine lv_bipush (v := 72) hx hb dX11_windOf_47 (by decide) ?_
            refine lv_aload_n hx hb dX11_windOf_49 rfl (lv_at hl 1 rfl) ?_
            refine gf_X11_146 (v := (pI S) 120 (ma 0)) X hw hM.1 rfl dX11_windOf_50 ?_
            refine lv_imul hx hb dX11_windOf_53 ?_
            refine lv_topi (fun v53_7 e53_7 => ?_)
            have t53_7 := iMul e53_7 t_72 rfl (by omega) (by omega)
            have t53 := t53_7
            refine lv_iload_n hx hb dX11_windOf_54 rfl (lv_at hl 0 rfl) ?_
            refine lv_iadd hx hb dX11_windOf_55 ?_
            refine lv_topi (fun v55_8 e55_8 => ?_)
            have t55_8 := iAdd e55_8 rfl rfl (by omega) (by omega)
            have t55 := t55_8
            refine q_ldI X hw (mk_14 hM) (vin (mn_14 hM) (by omega) (by omega)) dX11_windOf_56 ?_
            refine lv_topi (fun v56_9 e56_9 => ?_)
            have e56_9 : v56_9 = (qI S) (ma 14) v55_8.toNatClampNeg := e56_9
            have eY := e56_9
            refine lv_goto (tgt := 74) hx hb dX11_windOf_57 (by decide) ?_
            exact hret v56_9 _ _ _ _ _ ⟨rfl, by rw [if_neg (fun q9 => by have := congrArg Int32.toInt q9; have := t_0; omega)]; first | (rw [hw2.td (by omega) hT9, eY]; exact ((wt_at (h := k.toNatClampNeg) hMB hvk (by have := cl_toInt (x := k) (by omega); omega) (by have := cl_toInt (x := k) (by omega); omega) rfl).resolve_left (fun z9 => hT9 z9.1)).2.2.2) | (exfalso; omega)⟩ hw rfl dX11_windOf_74
        · have D32_2 := iNle c32_2 t_0 rfl
          refine lv_iconst (v := 0) hx hb dX11_windOf_35 (by decide) ?_
          refine lv_goto (tgt := 74) hx hb dX11_windOf_36 (by decide) ?_
          exact hret 0 _ _ _ _ _ ⟨rfl, by rw [hw1.zd (by omega), hw2.zd (by omega)]; split <;> rfl⟩ hw rfl dX11_windOf_74
      · have D3_1 := iNlt c3_1 rfl t_0
        refine lv_aload_n hx hb dX11_windOf_6 rfl (lv_at hl 1 rfl) ?_
        refine gf_X11_65 (b := (ma 13)) X hw hM.1 (mr_13 hM) dX11_windOf_7 ?_
        refine lv_bipush (v := 72) hx hb dX11_windOf_10 (by decide) ?_
        refine lv_aload_n hx hb dX11_windOf_12 rfl (lv_at hl 1 rfl) ?_
        refine gf_X11_146 (v := (pI S) 120 (ma 0)) X hw hM.1 rfl dX11_windOf_13 ?_
        refine lv_imul hx hb dX11_windOf_16 ?_
        refine lv_topi (fun v16_10 e16_10 => ?_)
        have t16_10 := iMul e16_10 t_72 rfl (by omega) (by omega)
        have t16 := t16_10
        refine lv_iload_n hx hb dX11_windOf_17 rfl (lv_at hl 0 rfl) ?_
        refine lv_iadd hx hb dX11_windOf_18 ?_
        refine lv_topi (fun v18_11 e18_11 => ?_)
        have t18_11 := iAdd e18_11 rfl rfl (by omega) (by omega)
        have t18 := t18_11
        refine q_ldI X hw (mk_13 hM) (vin (mn_13 hM) (by omega) (by omega)) dX11_windOf_19 ?_
        refine lv_topi (fun v19_12 e19_12 => ?_)
        have e19_12 : v19_12 = (qI S) (ma 13) v18_11.toNatClampNeg := e19_12
        have hV19 := wt_at (h := k.toNatClampNeg) hMB hvk (by have := cl_toInt (x := k) (by omega); omega) (by have := cl_toInt (x := k) (by omega); omega) e19_12
        refine lv_bipush (v := -100) hx hb dX11_windOf_20 (by decide) ?_
        refine lv_icmp_ne (tgt := 31) hx hb dX11_windOf_22 (by decide) (fun c22_13 => ?_) (fun c22_13 => ?_)
        · have D22_13 := iNe c22_13 rfl t_m100
          refine lv_iload_n hx hb dX11_windOf_31 rfl (lv_at hl 0 rfl) ?_
          refine lv_if_ge (tgt := 39) hx hb dX11_windOf_32 (by decide) (fun c32_14 => ?_) (fun c32_14 => ?_)
          · have D32_14 := iLe c32_14 t_0 rfl
            have hT9 : ¬ (V.2 13) k.toNatClampNeg = 0 := by first | exact (hV19.resolve_left (fun z9 => by have := z9.2.1; omega)).1 | (exfalso; omega)
            refine lv_iload_n hx hb dX11_windOf_39 rfl (lv_at hl 3 rfl) ?_
            refine lv_if_eq (tgt := 60) hx hb dX11_windOf_40 (by decide) (fun c40_15 => ?_) (fun c40_15 => ?_)
            · have D40_15 := iEq c40_15 rfl t_0
              refine lv_aload_n hx hb dX11_windOf_60 rfl (lv_at hl 1 rfl) ?_
              refine gf_X11_65 (b := (ma 13)) X hw hM.1 (mr_13 hM) dX11_windOf_61 ?_
              refine lv_bipush (v := 72) hx hb dX11_windOf_64 (by decide) ?_
              refine lv_aload_n hx hb dX11_windOf_66 rfl (lv_at hl 1 rfl) ?_
              refine gf_X11_146 (v := (pI S) 120 (ma 0)) X hw hM.1 rfl dX11_windOf_67 ?_
              refine lv_imul hx hb dX11_windOf_70 ?_
              refine lv_topi (fun v70_16 e70_16 => ?_)
              have t70_16 := iMul e70_16 t_72 rfl (by omega) (by omega)
              have t70 := t70_16
              refine lv_iload_n hx hb dX11_windOf_71 rfl (lv_at hl 0 rfl) ?_
              refine lv_iadd hx hb dX11_windOf_72 ?_
              refine lv_topi (fun v72_17 e72_17 => ?_)
              have t72_17 := iAdd e72_17 rfl rfl (by omega) (by omega)
              have t72 := t72_17
              refine q_ldI X hw (mk_13 hM) (vin (mn_13 hM) (by omega) (by omega)) dX11_windOf_73 ?_
              refine lv_topi (fun v73_18 e73_18 => ?_)
              have e73_18 : v73_18 = (qI S) (ma 13) v72_17.toNatClampNeg := e73_18
              have eX := e73_18
              exact hret v73_18 _ _ _ _ _ ⟨rfl, by rw [if_pos (Int32.toInt_inj.mp (by have := t_0; omega))]; first | (rw [hw1.td (by omega) hT9]; exact ((wt_at (h := k.toNatClampNeg) hMB hvk (by have := cl_toInt (x := k) (by omega); omega) (by have := cl_toInt (x := k) (by omega); omega) eX).resolve_left (fun z9 => hT9 z9.1)).2.1) | (exfalso; omega)⟩ hw rfl dX11_windOf_74
            · have D40_15 := iNe c40_15 rfl t_0
              refine lv_aload_n hx hb dX11_windOf_43 rfl (lv_at hl 1 rfl) ?_
              refine gf_X11_68 (b := (ma 14)) X hw hM.1 (mr_14 hM) dX11_windOf_44 ?_
              refine lv_bipush (v := 72) hx hb dX11_windOf_47 (by decide) ?_
              refine lv_aload_n hx hb dX11_windOf_49 rfl (lv_at hl 1 rfl) ?_
              refine gf_X11_146 (v := (pI S) 120 (ma 0)) X hw hM.1 rfl dX11_windOf_50 ?_
              refine lv_imul hx hb dX11_windOf_53 ?_
              refine lv_topi (fun v53_19 e53_19 => ?_)
              have t53_19 := iMul e53_19 t_72 rfl (by omega) (by omega)
              have t53 := t53_19
              refine lv_iload_n hx hb dX11_windOf_54 rfl (lv_at hl 0 rfl) ?_
              refine lv_iadd hx hb dX11_windOf_55 ?_
              refine lv_topi (fun v55_20 e55_20 => ?_)
              have t55_20 := iAdd e55_20 rfl rfl (by omega) (by omega)
              have t55 := t55_20
              refine q_ldI X hw (mk_14 hM) (vin (mn_14 hM) (by omega) (by omega)) dX11_windOf_56 ?_
              refine lv_topi (fun v56_21 e56_21 => ?_)
              have e56_21 : v56_21 = (qI S) (ma 14) v55_20.toNatClampNeg := e56_21
              have eY := e56_21
              refine lv_goto (tgt := 74) hx hb dX11_windOf_57 (by decide) ?_
              exact hret v56_21 _ _ _ _ _ ⟨rfl, by rw [if_neg (fun q9 => by have := congrArg Int32.toInt q9; have := t_0; omega)]; first | (rw [hw2.td (by omega) hT9, eY]; exact ((wt_at (h := k.toNatClampNeg) hMB hvk (by have := cl_toInt (x := k) (by omega); omega) (by have := cl_toInt (x := k) (by omega); omega) rfl).resolve_left (fun z9 => hT9 z9.1)).2.2.2) | (exfalso; omega)⟩ hw rfl dX11_windOf_74
          · have D32_14 := iNle c32_14 t_0 rfl
            refine lv_iconst (v := 0) hx hb dX11_windOf_35 (by decide) ?_
            refine lv_goto (tgt := 74) hx hb dX11_windOf_36 (by decide) ?_
            exact hret 0 _ _ _ _ _ ⟨rfl, by rw [hw1.zd (by omega), hw2.zd (by omega)]; split <;> rfl⟩ hw rfl dX11_windOf_74
        · have D22_13 := iEq c22_13 rfl t_m100
          obtain ⟨v25_22, e25_22⟩ : ∃ y : Int32, y = k + (-1) := ⟨_, rfl⟩
          have t25_22 := iAdd e25_22 rfl t_m1 (by omega) (by omega)
          have t25 := t25_22
          refine lv_iinc (v := v25_22) (lv' := [(3, .int v25_22), (0, .ref (ma 0)), (1, .int h), (2, .int y)]) hx hb dX11_windOf_25 hl (k := 0) rfl (by rw [e25_22]; rfl) (by decide) rfl (fun ls hl => ?_)
          refine lv_goto (tgt := 2) hx hb dX11_windOf_28 (by decide) ?_
          exact ih2  v25_22 (by omega) (wdn_s hw1 (by omega) t25 (hV19.resolve_right (fun z9 => by have := z9.2.2.1; omega)).1 (hV19.resolve_right (fun z9 => by have := z9.2.2.1; omega)).2.2.1) (wdn_s hw2 (by omega) t25 (hV19.resolve_right (fun z9 => by have := z9.2.2.1; omega)).1 (hV19.resolve_right (fun z9 => by have := z9.2.2.1; omega)).2.2.2) (by omega) _ _ _ hw (lv_sub hl [0, 1, 2, 3] rfl)
  exact lp2 _  h (by omega) (wdn_0 hh.1) (wdn_0 hh.1) (Nat.lt_succ_self _) _ _ _ hw (lv_sub hl [0, 1, 2, 3] rfl)
set_option maxHeartbeats 4000000 in
set_option maxRecDepth 100000 in
theorem c_v_X11_streamOf (l : Launch) (G : Gh) (S : Pl) (ma : Nat → Nat) (u h y : Int32) (bk : Nat) (V : SV) (hM : shMod S ma) (hbk : (pI S 120 (ma 0)).toInt = (bk : Int)) (hbk1 : bk ≤ 1) (hMB : MBk (qI S) ma bk V.2) (hvk : vok V) (hh : 0 ≤ h.toInt ∧ h.toInt ≤ 71) (hu : 0 ≤ u.toInt ∧ u.toInt ≤ 3) : MtI l yX11_streamOf cX11_streamOf 6 (some .int) (Rm 0 0 0) G [.ref (ma 0), .int u, .int h, .int y] S (fun (r : Int32) (S' : Pl) => S = S' ∧ r = (if y = 0 then sr (V.2 (10 + 4 * (u.toNatClampNeg + 1) + 3)) (V.2 (10 + 4 * (u.toNatClampNeg + 1) + 1)) h.toNatClampNeg else sr (V.2 (10 + 4 * (u.toNatClampNeg + 1) + 3)) (V.2 (10 + 4 * (u.toNatClampNeg + 1) + 2)) h.toNatClampNeg)) 0 0 := by
  refine MtI.of (by decide) (Nat.le_of_ble_eq_true rfl) ?_
  intro p e s m args below meth c Q A X hw hin hret ls hl
  have hx := X.1.1
  have hb := X.1.2.1
  have hl : lv_has ls 6 [(0, .ref (ma 0)), (1, .int u), (2, .int h), (3, .int y)] := hl
  have hch := cl_toInt (x := h) hh.1
  have hcu := cl_toInt (x := u) hu.1
  refine lv_bipush (v := 72) hx hb dX11_streamOf_0 (by decide) ?_
  refine lv_iconst (v := 4) hx hb dX11_streamOf_2 (by decide) ?_
  refine lv_aload_n hx hb dX11_streamOf_3 rfl (lv_at hl 0 rfl) ?_
  refine gf_X11_146 (v := (pI S) 120 (ma 0)) X hw hM.1 rfl dX11_streamOf_4 ?_
  refine lv_imul hx hb dX11_streamOf_7 ?_
  refine lv_topi (fun v7_1 e7_1 => ?_)
  have t7_1 := iMul e7_1 t_4 rfl (by omega) (by omega)
  have t7 := t7_1
  refine lv_iload_n hx hb dX11_streamOf_8 rfl (lv_at hl 1 rfl) ?_
  refine lv_iadd hx hb dX11_streamOf_9 ?_
  refine lv_topi (fun v9_2 e9_2 => ?_)
  have t9_2 := iAdd e9_2 rfl rfl (by omega) (by omega)
  have t9 := t9_2
  refine lv_imul hx hb dX11_streamOf_10 ?_
  refine lv_topi (fun v10_3 e10_3 => ?_)
  have t10_3 := iMul e10_3 t_72 rfl (by omega) (by omega)
  have t10 := t10_3
  refine lv_istore (lv' := [(4, .int v10_3), (0, .ref (ma 0)), (1, .int u), (2, .int h), (3, .int y)]) hx hb dX11_streamOf_11 hl (by decide) rfl (fun ls hl => ?_)
  refine lv_iload_n hx hb dX11_streamOf_13 rfl (lv_at hl 3 rfl) ?_
  refine lv_istore (lv' := [(5, .int h), (4, .int v10_3), (0, .ref (ma 0)), (1, .int u), (2, .int h), (3, .int y)]) hx hb dX11_streamOf_14 hl (by decide) rfl (fun ls hl => ?_)
  have lp16 : ∀ (N9 : Nat) (k : Int32), (-1 ≤ k.toInt ∧ k.toInt ≤ 71) → (wdn (V.2 (10 + 4 * (u.toNatClampNeg + 1) + 3)) (V.2 (10 + 4 * (u.toNatClampNeg + 1) + 1)) h.toNatClampNeg k) → (wdn (V.2 (10 + 4 * (u.toNatClampNeg + 1) + 3)) (V.2 (10 + 4 * (u.toNatClampNeg + 1) + 2)) h.toNatClampNeg k) → (k.toInt + 1).toNat < N9 → ∀ (H : Heap) (locs : List Loc) (ls : Array Slot), PX G A s.heap S H locs → lv_has ls 6 [(5, .int k), (4, .int v10_3), (0, .ref (ma 0)), (1, .int u), (2, .int h), (3, .int y)] → W p l e (Rm 0 0 0) s m args below meth c H locs 0 0 Q (F0 m 16 ls []) := by
    intro N9
    induction N9 with
    | zero => intro k hk hw1 hw2 hm; exact absurd hm (Nat.not_lt_zero _)
    | succ N9 ih16 =>
      intro k hk hw1 hw2 hm H locs ls hw hl
      refine lv_iload hx hb dX11_streamOf_16 (lv_at hl 0 rfl) ?_
      refine lv_if_lt (tgt := 42) hx hb dX11_streamOf_18 (by decide) (fun c18_4 => ?_) (fun c18_4 => ?_)
      · have D18_4 := iLt c18_4 rfl t_0
        refine lv_iload hx hb dX11_streamOf_42 (lv_at hl 0 rfl) ?_
        refine lv_if_ge (tgt := 51) hx hb dX11_streamOf_44 (by decide) (fun c44_5 => ?_) (fun c44_5 => ?_)
        · have D44_5 := iLe c44_5 t_0 rfl
          have hT9 : ¬ (V.2 (10 + 4 * (u.toNatClampNeg + 1) + 3)) k.toNatClampNeg = 0 := by first | exact (hV30.resolve_left (fun z9 => by have := z9.2.1; omega)).1 | (exfalso; omega)
          refine lv_iload_n hx hb dX11_streamOf_51 rfl (lv_at hl 5 rfl) ?_
          refine lv_if_eq (tgt := 68) hx hb dX11_streamOf_52 (by decide) (fun c52_6 => ?_) (fun c52_6 => ?_)
          · have D52_6 := iEq c52_6 rfl t_0
            refine lv_aload_n hx hb dX11_streamOf_68 rfl (lv_at hl 2 rfl) ?_
            refine gf_X11_71 (b := (ma 15)) X hw hM.1 (mr_15 hM) dX11_streamOf_69 ?_
            refine lv_iload hx hb dX11_streamOf_72 (lv_at hl 1 rfl) ?_
            refine lv_iload hx hb dX11_streamOf_74 (lv_at hl 0 rfl) ?_
            refine lv_iadd hx hb dX11_streamOf_76 ?_
            refine lv_topi (fun v76_7 e76_7 => ?_)
            have t76_7 := iAdd e76_7 rfl rfl (by omega) (by omega)
            have t76 := t76_7
            refine q_ldI X hw (mk_15 hM) (vin (mn_15 hM) (by omega) (by omega)) dX11_streamOf_77 ?_
            refine lv_topi (fun v77_8 e77_8 => ?_)
            have e77_8 : v77_8 = (qI S) (ma 15) v76_7.toNatClampNeg := e77_8
            have eX := e77_8
            exact hret v77_8 _ _ _ _ _ ⟨rfl, by rw [if_pos (Int32.toInt_inj.mp (by have := t_0; omega))]; first | (rw [hw1.td (by omega) hT9]; exact ((st_at (a := u.toNatClampNeg) (h := k.toNatClampNeg) hMB hvk (by omega) (by have := cl_toInt (x := k) (by omega); omega) (by have := cl_toInt (x := k) (by omega); omega) eX).resolve_left (fun z9 => hT9 z9.1)).2.1) | (exfalso; omega)⟩ hw rfl dX11_streamOf_78
          · have D52_6 := iNe c52_6 rfl t_0
            refine lv_aload_n hx hb dX11_streamOf_55 rfl (lv_at hl 2 rfl) ?_
            refine gf_X11_74 (b := (ma 16)) X hw hM.1 (mr_16 hM) dX11_streamOf_56 ?_
            refine lv_iload hx hb dX11_streamOf_59 (lv_at hl 1 rfl) ?_
            refine lv_iload hx hb dX11_streamOf_61 (lv_at hl 0 rfl) ?_
            refine lv_iadd hx hb dX11_streamOf_63 ?_
            refine lv_topi (fun v63_9 e63_9 => ?_)
            have t63_9 := iAdd e63_9 rfl rfl (by omega) (by omega)
            have t63 := t63_9
            refine q_ldI X hw (mk_16 hM) (vin (mn_16 hM) (by omega) (by omega)) dX11_streamOf_64 ?_
            refine lv_topi (fun v64_10 e64_10 => ?_)
            have e64_10 : v64_10 = (qI S) (ma 16) v63_9.toNatClampNeg := e64_10
            have eY := e64_10
            refine lv_goto (tgt := 78) hx hb dX11_streamOf_65 (by decide) ?_
            exact hret v64_10 _ _ _ _ _ ⟨rfl, by rw [if_neg (fun q9 => by have := congrArg Int32.toInt q9; have := t_0; omega)]; first | (rw [hw2.td (by omega) hT9, eY]; exact ((st_at (a := u.toNatClampNeg) (h := k.toNatClampNeg) hMB hvk (by omega) (by have := cl_toInt (x := k) (by omega); omega) (by have := cl_toInt (x := k) (by omega); omega) rfl).resolve_left (fun z9 => hT9 z9.1)).2.2.2) | (exfalso; omega)⟩ hw rfl dX11_streamOf_78
        · have D44_5 := iNle c44_5 t_0 rfl
          refine lv_iconst (v := 0) hx hb dX11_streamOf_47 (by decide) ?_
          refine lv_goto (tgt := 78) hx hb dX11_streamOf_48 (by decide) ?_
          exact hret 0 _ _ _ _ _ ⟨rfl, by rw [hw1.zd (by omega), hw2.zd (by omega)]; split <;> rfl⟩ hw rfl dX11_streamOf_78
      · have D18_4 := iNlt c18_4 rfl t_0
        refine lv_aload_n hx hb dX11_streamOf_21 rfl (lv_at hl 2 rfl) ?_
        refine gf_X11_71 (b := (ma 15)) X hw hM.1 (mr_15 hM) dX11_streamOf_22 ?_
        refine lv_iload hx hb dX11_streamOf_25 (lv_at hl 1 rfl) ?_
        refine lv_iload hx hb dX11_streamOf_27 (lv_at hl 0 rfl) ?_
        refine lv_iadd hx hb dX11_streamOf_29 ?_
        refine lv_topi (fun v29_11 e29_11 => ?_)
        have t29_11 := iAdd e29_11 rfl rfl (by omega) (by omega)
        have t29 := t29_11
        refine q_ldI X hw (mk_15 hM) (vin (mn_15 hM) (by omega) (by omega)) dX11_streamOf_30 ?_
        refine lv_topi (fun v30_12 e30_12 => ?_)
        have e30_12 : v30_12 = (qI S) (ma 15) v29_11.toNatClampNeg := e30_12
        have hV30 := st_at (a := u.toNatClampNeg) (h := k.toNatClampNeg) hMB hvk (by omega) (by have := cl_toInt (x := k) (by omega); omega) (by have := cl_toInt (x := k) (by omega); omega) e30_12
        refine lv_bipush (v := -100) hx hb dX11_streamOf_31 (by decide) ?_
        refine lv_icmp_ne (tgt := 42) hx hb dX11_streamOf_33 (by decide) (fun c33_13 => ?_) (fun c33_13 => ?_)
        · have D33_13 := iNe c33_13 rfl t_m100
          refine lv_iload hx hb dX11_streamOf_42 (lv_at hl 0 rfl) ?_
          refine lv_if_ge (tgt := 51) hx hb dX11_streamOf_44 (by decide) (fun c44_14 => ?_) (fun c44_14 => ?_)
          · have D44_14 := iLe c44_14 t_0 rfl
            have hT9 : ¬ (V.2 (10 + 4 * (u.toNatClampNeg + 1) + 3)) k.toNatClampNeg = 0 := by first | exact (hV30.resolve_left (fun z9 => by have := z9.2.1; omega)).1 | (exfalso; omega)
            refine lv_iload_n hx hb dX11_streamOf_51 rfl (lv_at hl 5 rfl) ?_
            refine lv_if_eq (tgt := 68) hx hb dX11_streamOf_52 (by decide) (fun c52_15 => ?_) (fun c52_15 => ?_)
            · have D52_15 := iEq c52_15 rfl t_0
              refine lv_aload_n hx hb dX11_streamOf_68 rfl (lv_at hl 2 rfl) ?_
              refine gf_X11_71 (b := (ma 15)) X hw hM.1 (mr_15 hM) dX11_streamOf_69 ?_
              refine lv_iload hx hb dX11_streamOf_72 (lv_at hl 1 rfl) ?_
              refine lv_iload hx hb dX11_streamOf_74 (lv_at hl 0 rfl) ?_
              refine lv_iadd hx hb dX11_streamOf_76 ?_
              refine lv_topi (fun v76_16 e76_16 => ?_)
              have t76_16 := iAdd e76_16 rfl rfl (by omega) (by omega)
              have t76 := t76_16
              refine q_ldI X hw (mk_15 hM) (vin (mn_15 hM) (by omega) (by omega)) dX11_streamOf_77 ?_
              refine lv_topi (fun v77_17 e77_17 => ?_)
              have e77_17 : v77_17 = (qI S) (ma 15) v76_16.toNatClampNeg := e77_17
              have eX := e77_17
              exact hret v77_17 _ _ _ _ _ ⟨rfl, by rw [if_pos (Int32.toInt_inj.mp (by have := t_0; omega))]; first | (rw [hw1.td (by omega) hT9]; exact ((st_at (a := u.toNatClampNeg) (h := k.toNatClampNeg) hMB hvk (by omega) (by have := cl_toInt (x := k) (by omega); omega) (by have := cl_toInt (x := k) (by omega); omega) eX).resolve_left (fun z9 => hT9 z9.1)).2.1) | (exfalso; omega)⟩ hw rfl dX11_streamOf_78
            · have D52_15 := iNe c52_15 rfl t_0
              refine lv_aload_n hx hb dX11_streamOf_55 rfl (lv_at hl 2 rfl) ?_
              refine gf_X11_74 (b := (ma 16)) X hw hM.1 (mr_16 hM) dX11_streamOf_56 ?_
              refine lv_iload hx hb dX11_streamOf_59 (lv_at hl 1 rfl) ?_
              refine lv_iload hx hb dX11_streamOf_61 (lv_at hl 0 rfl) ?_
              refine lv_iadd hx hb dX11_streamOf_63 ?_
              refine lv_topi (fun v63_18 e63_18 => ?_)
              have t63_18 := iAdd e63_18 rfl rfl (by omega) (by omega)
              have t63 := t63_18
              refine q_ldI X hw (mk_16 hM) (vin (mn_16 hM) (by omega) (by omega)) dX11_streamOf_64 ?_
              refine lv_topi (fun v64_19 e64_19 => ?_)
              have e64_19 : v64_19 = (qI S) (ma 16) v63_18.toNatClampNeg := e64_19
              have eY := e64_19
              refine lv_goto (tgt := 78) hx hb dX11_streamOf_65 (by decide) ?_
              exact hret v64_19 _ _ _ _ _ ⟨rfl, by rw [if_neg (fun q9 => by have := congrArg Int32.toInt q9; have := t_0; omega)]; first | (rw [hw2.td (by omega) hT9, eY]; exact ((st_at (a := u.toNatClampNeg) (h := k.toNatClampNeg) hMB hvk (by omega) (by have := cl_toInt (x := k) (by omega); omega) (by have := cl_toInt (x := k) (by omega); omega) rfl).resolve_left (fun z9 => hT9 z9.1)).2.2.2) | (exfalso; omega)⟩ hw rfl dX11_streamOf_78
          · have D44_14 := iNle c44_14 t_0 rfl
            refine lv_iconst (v := 0) hx hb dX11_streamOf_47 (by decide) ?_
            refine lv_goto (tgt := 78) hx hb dX11_streamOf_48 (by decide) ?_
            exact hret 0 _ _ _ _ _ ⟨rfl, by rw [hw1.zd (by omega), hw2.zd (by omega)]; split <;> rfl⟩ hw rfl dX11_streamOf_78
        · have D33_13 := iEq c33_13 rfl t_m100
          obtain ⟨v36_20, e36_20⟩ : ∃ y : Int32, y = k + (-1) := ⟨_, rfl⟩
          have t36_20 := iAdd e36_20 rfl t_m1 (by omega) (by omega)
          have t36 := t36_20
          refine lv_iinc (v := v36_20) (lv' := [(5, .int v36_20), (4, .int v10_3), (0, .ref (ma 0)), (1, .int u), (2, .int h), (3, .int y)]) hx hb dX11_streamOf_36 hl (k := 0) rfl (by rw [e36_20]; rfl) (by decide) rfl (fun ls hl => ?_)
          refine lv_goto (tgt := 16) hx hb dX11_streamOf_39 (by decide) ?_
          exact ih16  v36_20 (by omega) (wdn_s hw1 (by omega) t36 (hV30.resolve_right (fun z9 => by have := z9.2.2.1; omega)).1 (hV30.resolve_right (fun z9 => by have := z9.2.2.1; omega)).2.2.1) (wdn_s hw2 (by omega) t36 (hV30.resolve_right (fun z9 => by have := z9.2.2.1; omega)).1 (hV30.resolve_right (fun z9 => by have := z9.2.2.1; omega)).2.2.2) (by omega) _ _ _ hw (lv_sub hl [0, 1, 2, 3, 4, 5] rfl)
  exact lp16 _  h (by omega) (wdn_0 hh.1) (wdn_0 hh.1) (Nat.lt_succ_self _) _ _ _ hw (lv_sub hl [0, 1, 2, 3, 4, 5] rfl)
set_option maxHeartbeats 4000000 in
set_option maxRecDepth 100000 in
theorem c_v_X11_wind (l : Launch) (G : Gh) (S : Pl) (ma : Nat → Nat) (x y : Int32) (bk : Nat) (V : SV) (hM : shMod S ma) (hbk : (pI S 120 (ma 0)).toInt = (bk : Int)) (hbk1 : bk ≤ 1) (hMB : MBk (qI S) ma bk V.2) (hvk : vok V) : MtI l yX11_wind cX11_wind 3 (some .int) (Rm 1 0 0) G [.ref (ma 0), .int x, .int y] S (fun (r : Int32) (S' : Pl) => S = S' ∧ r = (if 0 ≤ x.toInt ∧ x.toInt < 72 then (if y = 0 then sr (V.2 13) (V.2 11) x.toNatClampNeg else sr (V.2 13) (V.2 12) x.toNatClampNeg) else -100)) 0 0 := by
  refine MtI.of (by decide) (Nat.le_of_ble_eq_true rfl) ?_
  intro p e s m args below meth c Q A X hw hin hret ls hl
  have hx := X.1.1
  have hb := X.1.2.1
  have hl : lv_has ls 3 [(0, .ref (ma 0)), (1, .int x), (2, .int y)] := hl
  refine lv_iload_n hx hb dX11_wind_0 rfl (lv_at hl 1 rfl) ?_
  refine k_Si (n := 1) X hw (c_X11_isHour l G _ x) wd_r24_20 wd_r24_21 wd_r1_5 wd_r24_22 ⟨by decide, by decide, by decide +kernel⟩ rfl rfl ⟨Nat.le_of_ble_eq_true rfl, Nat.le_of_ble_eq_true rfl⟩ rfl rfl hl.1 (Nat.le_of_ble_eq_true rfl) dX11_wind_1 ⟨Nat.le_of_ble_eq_true rfl, Nat.le_of_ble_eq_true rfl⟩ (fun r1_1 S1_3 H locs h1_2 hw => ?_)
  rcases h1_2 with ⟨rfl, rfl, h1_2⟩ | ⟨rfl, rfl, h1_2⟩
  · have h1_2 := h1_2
    refine lv_if_eq (tgt := 16) hx hb dX11_wind_4 (by decide) (fun c4_4 => absurd c4_4 (by decide)) (fun c4_4 => ?_)
    refine lv_aload_n hx hb dX11_wind_7 rfl (lv_at hl 0 rfl) ?_
    refine lv_iload_n hx hb dX11_wind_8 rfl (lv_at hl 1 rfl) ?_
    refine lv_iload_n hx hb dX11_wind_9 rfl (lv_at hl 2 rfl) ?_
    refine k_Vi (n := 2) X hw (rcvk (ci := 11) X hw hM.1 (fun _ _ _ _ _ _ _ => ⟨_, rfl⟩) rfl) (c_v_X11_windOf l G _ ma x y bk V hM hbk hbk1 hMB hvk (by omega)) wd_r24_23 wd_r25_0 wd_r25_1 wd_r1_5 wd_r25_2 ⟨by decide, by decide, by decide +kernel⟩ rfl rfl ⟨Nat.le_of_ble_eq_true rfl, Nat.le_of_ble_eq_true rfl⟩ rfl rfl hl.1 (Nat.le_of_ble_eq_true rfl) dX11_wind_10 ⟨Nat.le_of_ble_eq_true rfl, Nat.le_of_ble_eq_true rfl⟩ (fun r10_5 S10_7 H locs h10_6 hw => ?_)
    obtain ⟨rfl, h10_6⟩ := h10_6
    have HT := h10_6
    refine lv_goto (tgt := 18) hx hb dX11_wind_13 (by decide) ?_
    exact hret r10_5 _ _ _ _ _ ⟨rfl, by rw [if_pos (by omega)]; exact HT⟩ hw rfl dX11_wind_18
  · have h1_2 := h1_2
    refine lv_if_eq (tgt := 16) hx hb dX11_wind_4 (by decide) (fun c4_8 => ?_) (fun c4_8 => absurd c4_8 (by decide))
    refine lv_bipush (v := -100) hx hb dX11_wind_16 (by decide) ?_
    exact hret (-100) _ _ _ _ _ ⟨rfl, by rw [if_neg (by omega)]⟩ hw rfl dX11_wind_18
set_option maxHeartbeats 4000000 in
set_option maxRecDepth 100000 in
theorem c_v_X11_stream (l : Launch) (G : Gh) (S : Pl) (ma : Nat → Nat) (u x y : Int32) (bk : Nat) (V : SV) (hM : shMod S ma) (hbk : (pI S 120 (ma 0)).toInt = (bk : Int)) (hbk1 : bk ≤ 1) (hMB : MBk (qI S) ma bk V.2) (hvk : vok V) : MtI l yX11_stream cX11_stream 4 (some .int) (Rm 1 0 0) G [.ref (ma 0), .int u, .int x, .int y] S (fun (r : Int32) (S' : Pl) => S = S' ∧ r = (if 0 ≤ u.toInt ∧ u.toInt < 4 ∧ 0 ≤ x.toInt ∧ x.toInt < 72 then (if y = 0 then sr (V.2 (10 + 4 * (u.toNatClampNeg + 1) + 3)) (V.2 (10 + 4 * (u.toNatClampNeg + 1) + 1)) x.toNatClampNeg else sr (V.2 (10 + 4 * (u.toNatClampNeg + 1) + 3)) (V.2 (10 + 4 * (u.toNatClampNeg + 1) + 2)) x.toNatClampNeg) else -100)) 0 0 := by
  refine MtI.of (by decide) (Nat.le_of_ble_eq_true rfl) ?_
  intro p e s m args below meth c Q A X hw hin hret ls hl
  have hx := X.1.1
  have hb := X.1.2.1
  have hl : lv_has ls 4 [(0, .ref (ma 0)), (1, .int u), (2, .int x), (3, .int y)] := hl
  refine lv_iload_n hx hb dX11_stream_0 rfl (lv_at hl 1 rfl) ?_
  refine lv_if_lt (tgt := 26) hx hb dX11_stream_1 (by decide) (fun c1_1 => ?_) (fun c1_1 => ?_)
  · have D1_1 := iLt c1_1 rfl t_0
    refine lv_bipush (v := -100) hx hb dX11_stream_26 (by decide) ?_
    exact hret (-100) _ _ _ _ _ ⟨rfl, by rw [if_neg (by omega)]⟩ hw rfl dX11_stream_28
  · have D1_1 := iNlt c1_1 rfl t_0
    refine lv_iload_n hx hb dX11_stream_4 rfl (lv_at hl 1 rfl) ?_
    refine lv_iconst (v := 4) hx hb dX11_stream_5 (by decide) ?_
    refine lv_icmp_ge (tgt := 26) hx hb dX11_stream_6 (by decide) (fun c6_2 => ?_) (fun c6_2 => ?_)
    · have D6_2 := iLe c6_2 t_4 rfl
      refine lv_bipush (v := -100) hx hb dX11_stream_26 (by decide) ?_
      exact hret (-100) _ _ _ _ _ ⟨rfl, by rw [if_neg (by omega)]⟩ hw rfl dX11_stream_28
    · have D6_2 := iNle c6_2 t_4 rfl
      refine lv_iload_n hx hb dX11_stream_9 rfl (lv_at hl 2 rfl) ?_
      refine k_Si (n := 1) X hw (c_X11_isHour l G _ x) wd_r24_20 wd_r24_21 wd_r1_5 wd_r24_22 ⟨by decide, by decide, by decide +kernel⟩ rfl rfl ⟨Nat.le_of_ble_eq_true rfl, Nat.le_of_ble_eq_true rfl⟩ rfl rfl hl.1 (Nat.le_of_ble_eq_true rfl) dX11_stream_10 ⟨Nat.le_of_ble_eq_true rfl, Nat.le_of_ble_eq_true rfl⟩ (fun r10_3 S10_5 H locs h10_4 hw => ?_)
      rcases h10_4 with ⟨rfl, rfl, h10_4⟩ | ⟨rfl, rfl, h10_4⟩
      · have h10_4 := h10_4
        refine lv_if_eq (tgt := 26) hx hb dX11_stream_13 (by decide) (fun c13_6 => absurd c13_6 (by decide)) (fun c13_6 => ?_)
        refine lv_aload_n hx hb dX11_stream_16 rfl (lv_at hl 0 rfl) ?_
        refine lv_iload_n hx hb dX11_stream_17 rfl (lv_at hl 1 rfl) ?_
        refine lv_iload_n hx hb dX11_stream_18 rfl (lv_at hl 2 rfl) ?_
        refine lv_iload_n hx hb dX11_stream_19 rfl (lv_at hl 3 rfl) ?_
        refine k_Vi (n := 3) X hw (rcvk (ci := 11) X hw hM.1 (fun _ _ _ _ _ _ _ => ⟨_, rfl⟩) rfl) (c_v_X11_streamOf l G _ ma u x y bk V hM hbk hbk1 hMB hvk (by omega) (by omega)) wd_r25_13 wd_r25_14 wd_r25_15 wd_r1_5 wd_r25_16 ⟨by decide, by decide, by decide +kernel⟩ rfl rfl ⟨Nat.le_of_ble_eq_true rfl, Nat.le_of_ble_eq_true rfl⟩ rfl rfl hl.1 (Nat.le_of_ble_eq_true rfl) dX11_stream_20 ⟨Nat.le_of_ble_eq_true rfl, Nat.le_of_ble_eq_true rfl⟩ (fun r20_7 S20_9 H locs h20_8 hw => ?_)
        obtain ⟨rfl, h20_8⟩ := h20_8
        have HT := h20_8
        refine lv_goto (tgt := 28) hx hb dX11_stream_23 (by decide) ?_
        exact hret r20_7 _ _ _ _ _ ⟨rfl, by rw [if_pos (by omega)]; exact HT⟩ hw rfl dX11_stream_28
      · have h10_4 := h10_4
        refine lv_if_eq (tgt := 26) hx hb dX11_stream_13 (by decide) (fun c13_10 => ?_) (fun c13_10 => absurd c13_10 (by decide))
        refine lv_bipush (v := -100) hx hb dX11_stream_26 (by decide) ?_
        exact hret (-100) _ _ _ _ _ ⟨rfl, by rw [if_neg (by omega)]⟩ hw rfl dX11_stream_28
set_option maxHeartbeats 4000000 in
set_option maxRecDepth 100000 in
theorem c_v_X11_miss (l : Launch) (G : Gh) (S : Pl) (ma : Nat → Nat) (x y : Int32) (bk : Nat) (V : SV) (hM : shMod S ma) (hbk : (pI S 120 (ma 0)).toInt = (bk : Int)) (hbk1 : bk ≤ 1) (hMB : MBk (qI S) ma bk V.2) (hvk : vok V) : MtI l yX11_miss cX11_miss 3 (some .int) (Rm 1 0 0) G [.ref (ma 0), .int x, .int y] S (fun (r : Int32) (S' : Pl) => S = S' ∧ r = (if 0 ≤ x.toInt ∧ x.toInt < 2 ∧ 0 ≤ y.toInt ∧ y.toInt ≤ 20 then sm (V.2 4) (21 * x.toNatClampNeg + y.toNatClampNeg) else -1)) 0 0 := by
  refine MtI.of (by decide) (Nat.le_of_ble_eq_true rfl) ?_
  intro p e s m args below meth c Q A X hw hin hret ls hl
  have hx := X.1.1
  have hb := X.1.2.1
  have hl : lv_has ls 3 [(0, .ref (ma 0)), (1, .int x), (2, .int y)] := hl
  refine lv_iload_n hx hb dX11_miss_0 rfl (lv_at hl 1 rfl) ?_
  refine k_Si (n := 1) X hw (c_X11_isSort l G _ x) wd_r26_3 wd_r26_4 wd_r1_5 wd_r26_5 ⟨by decide, by decide, by decide +kernel⟩ rfl rfl ⟨Nat.le_of_ble_eq_true rfl, Nat.le_of_ble_eq_true rfl⟩ rfl rfl hl.1 (Nat.le_of_ble_eq_true rfl) dX11_miss_1 ⟨Nat.le_of_ble_eq_true rfl, Nat.le_of_ble_eq_true rfl⟩ (fun r1_1 S1_3 H locs h1_2 hw => ?_)
  rcases h1_2 with ⟨rfl, rfl, h1_2⟩ | ⟨rfl, rfl, h1_2⟩
  · have h1_2 := h1_2
    refine lv_if_eq (tgt := 26) hx hb dX11_miss_4 (by decide) (fun c4_4 => absurd c4_4 (by decide)) (fun c4_4 => ?_)
    refine lv_iload_n hx hb dX11_miss_7 rfl (lv_at hl 2 rfl) ?_
    refine lv_if_lt (tgt := 26) hx hb dX11_miss_8 (by decide) (fun c8_5 => ?_) (fun c8_5 => ?_)
    · have D8_5 := iLt c8_5 rfl t_0
      refine lv_iconst (v := -1) hx hb dX11_miss_26 (by decide) ?_
      exact hret (-1) _ _ _ _ _ ⟨rfl, by rw [if_neg (by omega)]⟩ hw rfl dX11_miss_27
    · have D8_5 := iNlt c8_5 rfl t_0
      refine lv_iload_n hx hb dX11_miss_11 rfl (lv_at hl 2 rfl) ?_
      refine lv_bipush (v := 20) hx hb dX11_miss_12 (by decide) ?_
      refine lv_icmp_gt (tgt := 26) hx hb dX11_miss_14 (by decide) (fun c14_6 => ?_) (fun c14_6 => ?_)
      · have D14_6 := iLt c14_6 t_20 rfl
        refine lv_iconst (v := -1) hx hb dX11_miss_26 (by decide) ?_
        exact hret (-1) _ _ _ _ _ ⟨rfl, by rw [if_neg (by omega)]⟩ hw rfl dX11_miss_27
      · have D14_6 := iNlt c14_6 t_20 rfl
        refine lv_aload_n hx hb dX11_miss_17 rfl (lv_at hl 0 rfl) ?_
        refine lv_iload_n hx hb dX11_miss_18 rfl (lv_at hl 1 rfl) ?_
        refine lv_iload_n hx hb dX11_miss_19 rfl (lv_at hl 2 rfl) ?_
        refine k_Vi (n := 2) X hw (rcvk (ci := 11) X hw hM.1 (fun _ _ _ _ _ _ _ => ⟨_, rfl⟩) rfl) (c_X11_missOf l G _ ma x y hM (by omega) (by omega) (by omega)) wd_r26_6 wd_r26_7 wd_r26_8 wd_r1_5 wd_r26_9 ⟨by decide, by decide, by decide +kernel⟩ rfl rfl ⟨Nat.le_of_ble_eq_true rfl, Nat.le_of_ble_eq_true rfl⟩ rfl rfl hl.1 (Nat.le_of_ble_eq_true rfl) dX11_miss_20 ⟨Nat.le_of_ble_eq_true rfl, Nat.le_of_ble_eq_true rfl⟩ (fun r20_7 S20_9 H locs h20_8 hw => ?_)
        obtain ⟨rfl, h20_8⟩ := h20_8
        have HT := h20_8
        refine lv_goto (tgt := 27) hx hb dX11_miss_23 (by decide) ?_
        exact hret r20_7 _ _ _ _ _ ⟨rfl, by rw [if_pos (by omega), ← mOr_sm hMB hvk hbk hbk1 (by omega) y.toNatClampNeg (by have := cl_toInt (x := y) (by omega); omega)]; exact HT⟩ hw rfl dX11_miss_27
  · have h1_2 := h1_2
    refine lv_if_eq (tgt := 26) hx hb dX11_miss_4 (by decide) (fun c4_10 => ?_) (fun c4_10 => absurd c4_10 (by decide))
    refine lv_iconst (v := -1) hx hb dX11_miss_26 (by decide) ?_
    exact hret (-1) _ _ _ _ _ ⟨rfl, by rw [if_neg (by omega)]⟩ hw rfl dX11_miss_27
set_option maxHeartbeats 4000000 in
set_option maxRecDepth 100000 in
theorem c_v_X11_land (l : Launch) (G : Gh) (S : Pl) (ma : Nat → Nat) (x : Int32) (bk : Nat) (V : SV) (hM : shMod S ma) (hbk : (pI S 120 (ma 0)).toInt = (bk : Int)) (hbk1 : bk ≤ 1) (hMB : MBk (qI S) ma bk V.2) (hvk : vok V) : MtI l yX11_land cX11_land 2 (some .int) (Rm 0 0 0) G [.ref (ma 0), .int x] S (fun (r : Int32) (S' : Pl) => S = S' ∧ r = (if 0 ≤ x.toInt ∧ x.toInt < 64 then (if V.2 3 x.toNatClampNeg = 0 then 0 else 1) else -1)) 0 0 := by
  refine MtI.of (by decide) (Nat.le_of_ble_eq_true rfl) ?_
  intro p e s m args below meth c Q A X hw hin hret ls hl
  have hx := X.1.1
  have hb := X.1.2.1
  have hl : lv_has ls 2 [(0, .ref (ma 0)), (1, .int x)] := hl
  refine lv_iload_n hx hb dX11_land_0 rfl (lv_at hl 1 rfl) ?_
  refine lv_if_lt (tgt := 10) hx hb dX11_land_1 (by decide) (fun c1_1 => ?_) (fun c1_1 => ?_)
  · have D1_1 := iLt c1_1 rfl t_0
    refine lv_iconst (v := -1) hx hb dX11_land_10 (by decide) ?_
    refine lv_goto (tgt := 36) hx hb dX11_land_11 (by decide) ?_
    exact hret (-1) _ _ _ _ _ ⟨rfl, by rw [if_neg (by omega)]⟩ hw rfl dX11_land_36
  · have D1_1 := iNlt c1_1 rfl t_0
    refine lv_iload_n hx hb dX11_land_4 rfl (lv_at hl 1 rfl) ?_
    refine lv_bipush (v := 64) hx hb dX11_land_5 (by decide) ?_
    refine lv_icmp_lt (tgt := 14) hx hb dX11_land_7 (by decide) (fun c7_2 => ?_) (fun c7_2 => ?_)
    · have D7_2 := iLt c7_2 rfl t_64
      refine lv_aload_n hx hb dX11_land_14 rfl (lv_at hl 0 rfl) ?_
      refine gf_X11_83 (b := (ma 19)) X hw hM.1 (mr_19 hM) dX11_land_15 ?_
      refine lv_bipush (v := 64) hx hb dX11_land_18 (by decide) ?_
      refine lv_aload_n hx hb dX11_land_20 rfl (lv_at hl 0 rfl) ?_
      refine gf_X11_146 (v := (pI S) 120 (ma 0)) X hw hM.1 rfl dX11_land_21 ?_
      refine lv_imul hx hb dX11_land_24 ?_
      refine lv_topi (fun v24_3 e24_3 => ?_)
      have t24_3 := iMul e24_3 t_64 rfl (by omega) (by omega)
      have t24 := t24_3
      refine lv_iload_n hx hb dX11_land_25 rfl (lv_at hl 1 rfl) ?_
      refine lv_iadd hx hb dX11_land_26 ?_
      refine lv_topi (fun v26_4 e26_4 => ?_)
      have t26_4 := iAdd e26_4 rfl rfl (by omega) (by omega)
      have t26 := t26_4
      refine q_ldZ X hw (mk_19 hM) (vin (mn_19 hM) (by omega) (by omega)) dX11_land_27 ?_
      refine lv_topi (fun v27_5 e27_5 => ?_)
      have e27_5 : v27_5 = (qI S) (ma 19) v26_4.toNatClampNeg := e27_5
      have e27n : v27_5 = V.2 3 x.toNatClampNeg := by rw [e27_5]; have e9 : (v26_4).toNatClampNeg = 64 * bk + x.toNatClampNeg := (by have := cl_toInt (x := x) (by omega); have := cl_toInt (x := v26_4) (by omega); omega); rw [e9]; exact hMB.2.2.2.1 _ (by have := cl_toInt (x := x) (by omega); omega)
      have e27t := congrArg Int32.toInt e27n
      refine lv_if_eq (tgt := 35) hx hb dX11_land_28 (by decide) (fun c28_6 => ?_) (fun c28_6 => ?_)
      · have D28_6 := iEq c28_6 rfl t_0
        refine lv_iconst (v := 0) hx hb dX11_land_35 (by decide) ?_
        exact hret 0 _ _ _ _ _ ⟨rfl, by rw [if_pos (by omega), if_pos (Int32.toInt_inj.mp (by have := t_0; omega))]⟩ hw rfl dX11_land_36
      · have D28_6 := iNe c28_6 rfl t_0
        refine lv_iconst (v := 1) hx hb dX11_land_31 (by decide) ?_
        refine lv_goto (tgt := 36) hx hb dX11_land_32 (by decide) ?_
        exact hret 1 _ _ _ _ _ ⟨rfl, by rw [if_pos (by omega), if_neg (fun q9 => by rw [q9] at e27t; have := t_0; omega)]⟩ hw rfl dX11_land_36
    · have D7_2 := iNlt c7_2 rfl t_64
      refine lv_iconst (v := -1) hx hb dX11_land_10 (by decide) ?_
      refine lv_goto (tgt := 36) hx hb dX11_land_11 (by decide) ?_
      exact hret (-1) _ _ _ _ _ ⟨rfl, by rw [if_neg (by omega)]⟩ hw rfl dX11_land_36
