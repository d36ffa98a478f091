
/-! ===== the model's tables, and what they hold ===== -/
def vTA (o g : Nat → Int) (U : Nat → Int64) (W : Nat → Int32) (k : Int) : Prop := ∀ a l : Nat, k < (a : Int) → a ≤ 64 → l ≤ 40 → (U (41 * a + l)).toInt = val o g (64 - a) l ∧ (W (41 * a + l)).toInt = (lsF (val o g (64 - a)) l : Int)
def vTL (o g : Nat → Int) (U : Nat → Int64) (W : Nat → Int32) (k : Nat) (l : Int) : Prop := ∀ x : Nat, (x : Int) < l → x ≤ 40 → (U (41 * k + x)).toInt = val o g (64 - k) x ∧ (W (41 * k + x)).toInt = (lsF (val o g (64 - k)) x : Int)
section VTA
variable {o g : Nat → Int} {U U' : Nat → Int64} {W W' : Nat → Int32}
theorem vTA_0 (h : ∀ i : Nat, (i : Int) < 41 → U (2624 + i) = 0) (hw : ∀ i : Nat, (i : Int) < 41 → W (2624 + i) = 0) : vTA o g U W 63 := by
  intro a x ha h64 hx
  have e : a = 64 := by omega
  subst e
  rw [show 41 * 64 + x = 2624 + x by omega, h x (by omega), hw x (by omega), show 64 - 64 = 0 by omega]
  have l : lsF (val o g 0) x ≤ 0 := ls_min (fun _ _ _ => Int.le_refl _) x 0 (Nat.zero_le _) rfl
  exact ⟨(show (0 : Int64).toInt = 0 by decide), by rw [show lsF (val o g 0) x = 0 by omega]; decide⟩
theorem vTA_upd {k l : Nat} {v : Int64} {u : Int32} (h : vTA o g U W k) (hl : l ≤ 40) (eU : U' = vp_updL U (41 * k + l) v) (eV : W' = upd W (41 * k + l) u) : vTA o g U' W' k := by
  intro a x ha h64 hx
  have nU : ∀ i, i ≠ 41 * k + l → U' i = U i := fun i hi => by rw [eU, pk_uLn hi]
  have nV : ∀ i, i ≠ 41 * k + l → W' i = W i := fun i hi => by rw [eV, pk_un hi]
  rw [nU _ (by omega), nV _ (by omega)]
  exact h a x ha h64 hx
theorem vTL_upd {k : Nat} {x x' : Int32} {v : Int64} {u : Int32} (h : vTL o g U W k x.toInt) (hx : 0 ≤ x.toInt ∧ x.toInt ≤ 40) (tx : x'.toInt = x.toInt + 1) (eU : U' = vp_updL U (41 * k + x.toNatClampNeg) v) (eV : W' = upd W (41 * k + x.toNatClampNeg) u) (hb : v.toInt = val o g (64 - k) x.toNatClampNeg ∧ u.toInt = (lsF (val o g (64 - k)) x.toNatClampNeg : Int)) : vTL o g U' W' k x'.toInt := by
  have hcl := cl_toInt hx.1
  intro y hy hy40
  by_cases e : y = x.toNatClampNeg
  · subst e
    rw [eU, eV, pk_uLs, pk_us]; exact hb
  · rw [eU, eV, pk_uLn (by omega), pk_un (by omega)]; exact h y (by omega) hy40
theorem vTA_step {k k' : Int32} {l : Int} (hA : vTA o g U W k.toNatClampNeg) (hL : vTL o g U W k.toNatClampNeg l) (hl : 40 < l) (h0 : 0 ≤ k.toInt ∧ k.toInt ≤ 63) (tk : k'.toInt = k.toInt + -1) : vTA o g U W k'.toInt := by
  have hcl := cl_toInt h0.1
  intro a x ha h64 hx
  by_cases e : a = k.toNatClampNeg
  · subst e; exact hL x (by omega) hx
  · exact hA a x (by omega) h64 hx
end VTA
theorem zero_q {q z : Nat → Nat → Int32} {a : Nat} {x k k' : Int32} (h : ∀ i : Nat, (i : Int) < k.toInt → q a (2624 + i) = 0) (c : z = va_up q a (upd (q a) x.toNatClampNeg 0)) (h0 : 0 ≤ k.toInt) (hx : x.toInt = 2624 + k.toInt) (t : k'.toInt = k.toInt + 1) : ∀ i : Nat, (i : Int) < k'.toInt → z a (2624 + i) = 0 := by
  intro i hi
  have h1 := cl_toInt h0
  have h2 := cl_toInt (x := x) (by omega)
  rw [c, vu_s]
  by_cases e : 2624 + i = x.toNatClampNeg
  · rw [e, pk_us]
  · rw [pk_un e]; exact h i (by omega)
theorem gv_t {R od : Nat → Int64} {ms : Nat → Int32} {b s : Int32} {k e w : Nat} {C : Nat → Nat → Int32} (hR : R k = od k) (hod : cOK od 40000000000000000) (hk : k < 64) (hm : mOr ms b s e = sm (C 4) (21 * w + e)) (hr : 0 ≤ (sm (C 4) (21 * w + e)).toInt ∧ (sm (C 4) (21 * w + e)).toInt ≤ 100) : (gv R ms b s k e).toInt = oOf od (63 - k) * gsm C w e := by
  have h2 := hod.1 k hk
  have h3 := (sumY_part hod.1 k hk).1
  have h4 := hod.2
  rw [oOf_at hk]
  unfold gv gsm
  rw [hR, hm]
  generalize sm (C 4) (21 * w + e) = m at *
  have hx : (100 - m).toInt = 100 - m.toInt := iSub rfl (by decide : (100 : Int32).toInt = 100) rfl (by omega) (by omega)
  have m0 : 0 ≤ (od k).toInt * (100 - m.toInt) := Int.mul_nonneg h2 (by omega)
  have m1 : (od k).toInt * (100 - m.toInt) ≤ (od k).toInt * 100 := Int.mul_le_mul_of_nonneg_left (by omega) h2
  exact lMul rfl rfl ((i2l_t _).trans hx) (by omega) (by omega)
section MCH
variable {od : Nat → Int64} {g : Nat → Int} {k l e : Nat}
theorem ch_v {gn u v : Int64} (hod : cOK od 40000000000000000) (hg : gOK g) (hk : k < 64) (hgn : gn.toInt = oOf od (63 - k) * g e) (hU : u.toInt = val (oOf od) g (64 - (k + 1)) (l - e)) (ev : v = gn + u) (he : e ≤ l) (h20 : e ≤ 20) : v.toInt = chV (oOf od) g (63 - k) l e := by
  rw [show 64 - (k + 1) = 63 - k by omega] at hU
  have b := chV_c hod hg (k := 63 - k) he h20
  unfold chV
  exact lAdd ev hgn hU (by omega) (by omega)
theorem ch_u {x u v : Int32} (hk : k < 64) (hx : x.toInt = (e : Int)) (hW : u.toInt = (lsF (val (oOf od) g (64 - (k + 1))) (l - e) : Int)) (ev : v = x + u) (he : e ≤ l) (h40 : l ≤ 40) : v.toInt = (chU (oOf od) g (63 - k) l e : Int) := by
  rw [show 64 - (k + 1) = 63 - k by omega] at hW
  have b := ls_le (F := val (oOf od) g (63 - k)) (l - e)
  have a := iAdd ev hx hW (by omega) (by omega)
  unfold chU
  omega
end MCH
section CHW
variable {o g : Nat → Int} {k n : Nat} {bs v : Int64} {lt u ke ke' : Int32}
theorem cB_0 : chB o g k n (0 : Int32).toNatClampNeg (-1 : Int64).toInt (0 : Int32).toNatClampNeg := by
  rw [show (0 : Int32).toNatClampNeg = 0 by decide]
  exact Or.inl ⟨rfl, by decide, rfl⟩
theorem cB_y (h : chB o g k n ke.toNatClampNeg bs.toInt lt.toNatClampNeg) (h0 : 0 ≤ ke.toInt) (tk : ke'.toInt = ke.toInt + 1) (ev : v.toInt = chV o g k n ke.toNatClampNeg) (hv0 : 0 ≤ v.toInt) (eu : u.toInt = (chU o g k n ke.toNatClampNeg : Int)) (hlt : 0 ≤ lt.toInt) (hb : bs.toInt < v.toInt ∨ (v.toInt = bs.toInt ∧ u.toInt < lt.toInt)) : chB o g k n ke'.toNatClampNeg v.toInt u.toNatClampNeg := by
  have c1 := cl_toInt h0
  have c2 := cl_toInt (x := ke') (by omega)
  have c3 := cl_toInt hlt
  have c4 := cl_toInt (x := u) (by omega)
  rw [show ke'.toNatClampNeg = ke.toNatClampNeg + 1 by omega]
  exact chB_y hv0 h ev (by omega) (by omega)
theorem cB_n (h : chB o g k n ke.toNatClampNeg bs.toInt lt.toNatClampNeg) (h0 : 0 ≤ ke.toInt) (tk : ke'.toInt = ke.toInt + 1) (ev : v.toInt = chV o g k n ke.toNatClampNeg) (hv0 : 0 ≤ v.toInt) (eu : u.toInt = (chU o g k n ke.toNatClampNeg : Int)) (hlt : 0 ≤ lt.toInt) (hb : v.toInt < bs.toInt ∨ (v.toInt = bs.toInt ∧ lt.toInt ≤ u.toInt)) : chB o g k n ke'.toNatClampNeg bs.toInt lt.toNatClampNeg := by
  have c1 := cl_toInt h0
  have c2 := cl_toInt (x := ke') (by omega)
  have c3 := cl_toInt hlt
  have c4 := cl_toInt (x := u) (by omega)
  rw [show ke'.toNatClampNeg = ke.toNatClampNeg + 1 by omega]
  exact chB_n (w := u.toNatClampNeg) h hv0 ev (by omega) (by omega)
theorem cB_e (ho : ∀ k, 0 ≤ o k) (hg : gOK g) (h : chB o g k n ke.toNatClampNeg bs.toInt lt.toNatClampNeg) (h0 : 0 ≤ ke.toInt ∧ ke.toInt ≤ 21 ∧ ke.toInt ≤ (n : Int) + 1) (hlt : 0 ≤ lt.toInt) (he : 20 < ke.toInt ∨ (n : Int) < ke.toInt) : bs.toInt = val o g (k + 1) n ∧ lt.toInt = (lsF (val o g (k + 1)) n : Int) := by
  have c1 := cl_toInt h0.1
  have c3 := cl_toInt hlt
  have z := chB_e ho hg h (fun e => by omega)
  exact ⟨z.1, by omega⟩
end CHW
/-! the model's path -/
def fdM (o g : Nat → Int) (k l : Nat) (e : Int) : Prop := (∃ e' : Nat, e ≤ (e' : Int) ∧ e' ≤ 20 ∧ e' ≤ l ∧ gvM o g k l e') ∧ ∀ d : Nat, (d : Int) < e → ¬ gvM o g k l d
section FDM
variable {o g : Nat → Int} {k l n : Nat}
theorem fdM_0 (ho : ∀ k, 0 ≤ o k) (hg : gOK g) : fdM o g k l (0 : Int32).toInt := by
  rw [show (0 : Int32).toInt = 0 by decide]
  obtain ⟨e, a, b, c, d⟩ := lsM_ex ho hg k l
  exact ⟨⟨e, by omega, c, b, a⟩, fun d hd => by omega⟩
theorem fdM_le {e : Int} (h : fdM o g k l e) : e ≤ 20 ∧ e ≤ (l : Int) := by
  obtain ⟨⟨e', a, b, c, -⟩, -⟩ := h
  omega
theorem fdM_s {x : Int32} {z : Int} (h : fdM o g k l x.toInt) (h0 : 0 ≤ x.toInt) (hz : z = x.toInt + 1) (hn : ¬ gvM o g k l x.toNatClampNeg) : fdM o g k l z := by
  have c := cl_toInt h0
  obtain ⟨⟨e', a, b, d, f⟩, i⟩ := h
  refine ⟨⟨e', ?_, b, d, f⟩, fun j hj => ?_⟩
  · by_cases q : e' = x.toNatClampNeg
    · rw [q] at f; exact absurd f hn
    · omega
  · by_cases q : j = x.toNatClampNeg
    · rw [q]; exact hn
    · exact i j (by omega)
theorem fdM_e {x : Int32} (h : fdM o g k l x.toInt) (h0 : 0 ≤ x.toInt) (hy : gvM o g k l x.toNatClampNeg) : lsM o g k l x.toNatClampNeg := by
  have c := cl_toInt h0
  have b := fdM_le h
  exact ⟨hy, by omega, by omega, fun d hd => h.2 d (by omega)⟩
theorem gM_n1 {e kc : Nat} {v w : Int64} (hk : kc < 64) (ev : v.toInt = chV o g (63 - kc) l e) (ew : w.toInt = val o g (64 - kc) l) (h : v.toInt ≠ w.toInt) : ¬ gvM o g (63 - kc) l e := fun q => h (by
  rw [ev, ew, show 64 - kc = 63 - kc + 1 by omega]; exact q.1)
theorem gM_n2 {e kc : Nat} {v w : Int32} (hk : kc < 64) (ev : v.toInt = (chU o g (63 - kc) l e : Int)) (ew : w.toInt = (lsF (val o g (64 - kc)) l : Int)) (h : ¬ v = w) : ¬ gvM o g (63 - kc) l e := fun q => h (Int32.toInt_inj.mp (by
  rw [ev, ew, show 64 - kc = 63 - kc + 1 by omega, q.2]))
theorem gM_y {e kc : Nat} {v w : Int64} {u x : Int32} (hk : kc < 64) (ev : v.toInt = chV o g (63 - kc) l e) (ew : w.toInt = val o g (64 - kc) l) (h : v.toInt = w.toInt) (eu : u.toInt = (chU o g (63 - kc) l e : Int)) (ex : x.toInt = (lsF (val o g (64 - kc)) l : Int)) (h2 : u = x) : gvM o g (63 - kc) l e := by
  rw [show 64 - kc = 63 - kc + 1 by omega] at ew ex
  refine ⟨by omega, ?_⟩
  have := congrArg Int32.toInt h2
  omega
def gtE (o g : Nat → Int) (n : Nat) (kc e : Int32) : Prop := kc.toInt = 0 ∨ (0 ≤ e.toInt ∧ gets o g n (kc.toNatClampNeg - 1) e.toNatClampNeg)
theorem pth_1 {kl : Int32} (h : n = kl.toNatClampNeg) : pth o g n (0 : Int32).toNatClampNeg kl.toNatClampNeg := by
  rw [show (0 : Int32).toNatClampNeg = 0 by decide]; exact h.symm
theorem pth_s {kc kc' kl kl' ke : Int32} (h : pth o g n kc.toNatClampNeg kl.toNatClampNeg) (hl : lsM o g (63 - kc.toNatClampNeg) kl.toNatClampNeg ke.toNatClampNeg) (h0 : 0 ≤ kc.toInt) (h1 : 0 ≤ kl.toInt) (h2 : 0 ≤ ke.toInt) (tc : kc'.toInt = kc.toInt + 1) (tl : kl'.toInt = kl.toInt - ke.toInt) : pth o g n kc'.toNatClampNeg kl'.toNatClampNeg ∧ gtE o g n kc' ke := by
  have c1 := cl_toInt h0
  have c2 := cl_toInt h1
  have c3 := cl_toInt h2
  have c4 := cl_toInt (x := kc') (by omega)
  have b := hl.2.1
  have c5 := cl_toInt (x := kl') (by omega)
  refine ⟨?_, Or.inr ⟨h2, ?_⟩⟩
  · rw [show kc'.toNatClampNeg = kc.toNatClampNeg + 1 by omega]
    exact ⟨_, _, h, hl, by omega⟩
  · rw [show kc'.toNatClampNeg - 1 = kc.toNatClampNeg by omega]
    exact ⟨_, h, hl⟩
end FDM
set_option maxHeartbeats 4000000 in
set_option maxRecDepth 100000 in
theorem c_v_X11_give (l : Launch) (G : Gh) (S : Pl) (ma : Nat → Nat) (n w : Int32) (bk : Nat) (V : SV) (tl : Nat → TP) (pl : Nat → PP) (hM : shMod S ma) (hI : mInv (pI S) (qI S) ma) (hn : 0 ≤ n.toInt ∧ n.toInt ≤ 72) (hw9 : 0 ≤ w.toInt ∧ w.toInt ≤ 1) (hbk : (pI S 120 (ma 0)).toInt = (bk : Int)) (hbk1 : bk ≤ 1) (hMB : MBk (qI S) ma bk V.2) (hvk : vok V) (hTl : ∀ k : Nat, (k : Int) < (pI S 128 (ma 0)).toInt → mTP (qI S) ma k (tl k)) (hPl : ∀ k : Nat, (k : Int) < (pI S 140 (ma 0)).toInt → mPP (qI S) ma k (pl k) ∧ ppO (pl k)) (hOB : ∀ k, k < (pI S 128 (ma 0)).toInt.toNat → 0 ≤ ((fun k => odF V.2 (tl k) pl (qI S (ma 40)) (pI S 140 (ma 0)).toInt.toNat) k).toInt ∧ ((fun k => odF V.2 (tl k) pl (qI S (ma 40)) (pI S 140 (ma 0)).toInt.toNat) k).toInt ≤ 1000000000000000) : MtV l yX11_give cX11_give 12 none (Rm 6 0 0) G [.ref (ma 0), .int n, .int w] S (fun (S' : Pl) => ∃ I' J' q' y', ch S I' J' q' y' = S' ∧ FrD (pI S) I' ∧ (∀ i, i ≤ 45 → i ≠ 45 → q' (ma i) = qI S (ma i)) ∧ vTA (oOf (sbF V.2 tl (fun k => odF V.2 (tl k) pl (qI S (ma 40)) (pI S 140 (ma 0)).toInt.toNat) n.toNatClampNeg 1 (pI S 128 (ma 0)).toInt.toNat)) (gsm V.2 w.toNatClampNeg) (y' (ma 44)) (q' (ma 45)) (-1) ∧ (∀ k, k < 64 → y' (ma 42) k = (sbF V.2 tl (fun k => odF V.2 (tl k) pl (qI S (ma 40)) (pI S 140 (ma 0)).toInt.toNat) n.toNatClampNeg 1 (pI S 128 (ma 0)).toInt.toNat) k)) 0 0 := by
  refine MtV.of (by decide) (Nat.le_of_ble_eq_true rfl) ?_
  intro p e s m args below meth c Q A X hw hin hret ls hl
  have hx := X.1.1
  have hb := X.1.2.1
  have hl : lv_has ls 12 [(0, .ref (ma 0)), (1, .int n), (2, .int w)] := hl
  obtain ⟨⟨b1, b2, b3, b4, b5, b6⟩, hT, hP, hC⟩ := id hI
  have hodM : cOK (sbF V.2 tl (fun k => odF V.2 (tl k) pl (qI S (ma 40)) (pI S 140 (ma 0)).toInt.toNat) n.toNatClampNeg 1 (pI S 128 (ma 0)).toInt.toNat) 40000000000000000 := cOK_le (sb_ok (N := (pI S 128 (ma 0)).toInt.toNat) (by omega) hOB _ (Nat.le_refl _)) (by omega)
  have hgM := gsm_ok hvk (w := w.toNatClampNeg) (by have := cl_toInt (x := w) (by omega); omega)
  refine lv_aload_n hx hb dX11_give_0 rfl (lv_at hl 0 rfl) ?_
  refine lv_iload_n hx hb dX11_give_1 rfl (lv_at hl 1 rfl) ?_
  refine lv_iconst (v := 1) hx hb dX11_give_2 (by decide) ?_
  refine k_Vv (n := 2) X hw (rcvk (ci := 11) X hw hM.1 (fun _ _ _ _ _ _ _ => ⟨_, rfl⟩) rfl) (c_v_X11_sumUp l G _ ma n 1 bk V tl pl hM hI (by omega) hbk hbk1 hMB hvk hTl hPl) wd_r38_23 wd_r39_0 wd_r39_1 wd_r1_5 wd_r39_2 ⟨by decide, by decide, by decide +kernel⟩ rfl rfl ⟨Nat.le_of_ble_eq_true rfl, Nat.le_of_ble_eq_true rfl⟩ rfl rfl hl.1 (Nat.le_of_ble_eq_true rfl) dX11_give_3 ⟨Nat.le_of_ble_eq_true rfl, Nat.le_of_ble_eq_true rfl⟩ (fun S3_2 H locs h3_1 hw => ?_)
  have := t_1
  obtain ⟨I3_3, J3_4, y3_5, rfl, h3_1⟩ := h3_1
  have hw : PX G A s.heap (ch S I3_3 J3_4 (qI S) y3_5) H locs := hw
  have hsu := h3_1
  obtain ⟨RC, hRC⟩ : ∃ z, z = y3_5 (ma 42) := ⟨_, rfl⟩
  have hRr : ∀ k, k < 64 → RC k = (sbF V.2 tl (fun k => odF V.2 (tl k) pl (qI S (ma 40)) (pI S 140 (ma 0)).toInt.toNat) n.toNatClampNeg 1 (pI S 128 (ma 0)).toInt.toNat) k := by rw [hRC]; exact hsu.2.2.2.1
  obtain ⟨BK, hBK⟩ : ∃ z, z = (I3_3 120 (ma 0) : Int32) := ⟨_, rfl⟩
  have hBK2 : BK = pI S 120 (ma 0) := by rw [hBK]; exact congrFun (hsu.1 120 (by decide)) (ma 0)
  have hbkF := FrD.at hsu.1 (f := 120) (by decide) (ma 0)
  have hmo : ∀ e, e ≤ 20 → mOr (qI S (ma 18)) BK w e = sm (V.2 4) (21 * w.toNatClampNeg + e) := mOr_sm hMB hvk (by rw [hBK2]; exact hbk) hbk1 (by omega)
  refine lv_iconst (v := 0) hx hb dX11_give_6 (by decide) ?_
  refine lv_istore_n (lv' := [(3, .int 0), (0, .ref (ma 0)), (1, .int n), (2, .int w)]) hx hb dX11_give_7 rfl hl (by decide) rfl (fun ls hl => ?_)
  have lp8 : ∀ (N9 : Nat) (q8 : Nat → Nat → Int32) (y8 : Nat → Nat → Int64) (k : Int32), (0 ≤ k.toInt ∧ k.toInt ≤ 41) → (∀ i : Nat, (i : Int) < k.toInt → y8 (ma 44) (2624 + i) = 0) → (∀ i : Nat, (i : Int) < k.toInt → q8 (ma 45) (2624 + i) = 0) → (y8 (ma 42) = RC) → (∀ i, i ≤ 45 → i ≠ 45 → q8 (ma i) = qI S (ma i)) → (41 - k.toInt).toNat < N9 → ∀ (H : Heap) (locs : List Loc) (ls : Array Slot), PX G A s.heap (ch S I3_3 J3_4 q8 y8) H locs → lv_has ls 12 [(3, .int k), (0, .ref (ma 0)), (1, .int n), (2, .int w)] → W p l e (Rm 6 0 0) s m args below meth c H locs 0 0 Q (F0 m 8 ls []) := by
    intro N9
    induction N9 with
    | zero => intro q8 y8 k hk h0 hq0 hy42 hq hm; exact absurd hm (Nat.not_lt_zero _)
    | succ N9 ih8 =>
      intro q8 y8 k hk h0 hq0 hy42 hq hm H locs ls hw hl
      refine lv_iload_n hx hb dX11_give_8 rfl (lv_at hl 0 rfl) ?_
      refine lv_bipush (v := 40) hx hb dX11_give_9 (by decide) ?_
      refine lv_icmp_gt (tgt := 44) hx hb dX11_give_11 (by decide) (fun c11_6 => ?_) (fun c11_6 => ?_)
      · have D11_6 := iLt c11_6 t_40 rfl
        refine lv_bipush (v := 63) hx hb dX11_give_44 (by decide) ?_
        refine lv_istore_n (lv' := [(3, .int 63), (0, .ref (ma 0)), (1, .int n), (2, .int w)]) hx hb dX11_give_46 rfl hl (by decide) rfl (fun ls hl => ?_)
        have lp47 : ∀ (N9 : Nat) (q47 : Nat → Nat → Int32) (y47 : Nat → Nat → Int64) (kc : Int32), (-1 ≤ kc.toInt ∧ kc.toInt ≤ 63) → (y47 (ma 42) = RC) → (∀ i, i ≤ 45 → i ≠ 45 → q47 (ma i) = qI S (ma i)) → (vTA (oOf (sbF V.2 tl (fun k => odF V.2 (tl k) pl (qI S (ma 40)) (pI S 140 (ma 0)).toInt.toNat) n.toNatClampNeg 1 (pI S 128 (ma 0)).toInt.toNat)) (gsm V.2 w.toNatClampNeg) (y47 (ma 44)) (q47 (ma 45)) kc.toInt) → (kc.toInt + 1).toNat < N9 → ∀ (H : Heap) (locs : List Loc) (ls : Array Slot), PX G A s.heap (ch S I3_3 J3_4 q47 y47) H locs → lv_has ls 12 [(3, .int kc), (0, .ref (ma 0)), (1, .int n), (2, .int w)] → W p l e (Rm 6 0 0) s m args below meth c H locs 0 0 Q (F0 m 47 ls []) := by
          intro N9
          induction N9 with
          | zero => intro q47 y47 kc hk hy42 hq hA1 hm; exact absurd hm (Nat.not_lt_zero _)
          | succ N9 ih47 =>
            intro q47 y47 kc hk hy42 hq hA1 hm H locs ls hw hl
            refine lv_iload_n hx hb dX11_give_47 rfl (lv_at hl 0 rfl) ?_
            refine lv_if_lt (tgt := 212) hx hb dX11_give_48 (by decide) (fun c48_7 => ?_) (fun c48_7 => ?_)
            · have D48_7 := iLt c48_7 rfl t_0
              exact hret _ _ _ _ _ ⟨_, _, _, _, rfl, (FrD.tr FrD.rf h3_1.1), hq, (by rw [show kc.toInt = -1 by omega] at hA1; exact hA1), fun k9 h9 => by rw [hy42]; exact hRr k9 h9⟩ hw dX11_give_212
            · have D48_7 := iNlt c48_7 rfl t_0
              refine lv_iconst (v := 0) hx hb dX11_give_51 (by decide) ?_
              refine lv_istore (lv' := [(4, .int 0), (3, .int kc), (0, .ref (ma 0)), (1, .int n), (2, .int w)]) hx hb dX11_give_52 hl (by decide) rfl (fun ls hl => ?_)
              have lp54 : ∀ (N9 : Nat) (q54 : Nat → Nat → Int32) (y54 : Nat → Nat → Int64) (kl : Int32), (0 ≤ kl.toInt ∧ kl.toInt ≤ 41) → (y54 (ma 42) = RC) → (∀ i, i ≤ 45 → i ≠ 45 → q54 (ma i) = qI S (ma i)) → (vTA (oOf (sbF V.2 tl (fun k => odF V.2 (tl k) pl (qI S (ma 40)) (pI S 140 (ma 0)).toInt.toNat) n.toNatClampNeg 1 (pI S 128 (ma 0)).toInt.toNat)) (gsm V.2 w.toNatClampNeg) (y54 (ma 44)) (q54 (ma 45)) kc.toNatClampNeg) → (vTL (oOf (sbF V.2 tl (fun k => odF V.2 (tl k) pl (qI S (ma 40)) (pI S 140 (ma 0)).toInt.toNat) n.toNatClampNeg 1 (pI S 128 (ma 0)).toInt.toNat)) (gsm V.2 w.toNatClampNeg) (y54 (ma 44)) (q54 (ma 45)) kc.toNatClampNeg kl.toInt) → (41 - kl.toInt).toNat < N9 → ∀ (H : Heap) (locs : List Loc) (ls : Array Slot), PX G A s.heap (ch S I3_3 J3_4 q54 y54) H locs → lv_has ls 12 [(4, .int kl), (3, .int kc), (0, .ref (ma 0)), (1, .int n), (2, .int w)] → W p l e (Rm 6 0 0) s m args below meth c H locs 0 0 Q (F0 m 54 ls []) := by
                intro N9
                induction N9 with
                | zero => intro q54 y54 kl hkl hy42 hq hA0 hL0 hm; exact absurd hm (Nat.not_lt_zero _)
                | succ N9 ih54 =>
                  intro q54 y54 kl hkl hy42 hq hA0 hL0 hm H locs ls hw hl
                  refine lv_iload hx hb dX11_give_54 (lv_at hl 0 rfl) ?_
                  refine lv_bipush (v := 40) hx hb dX11_give_56 (by decide) ?_
                  refine lv_icmp_gt (tgt := 206) hx hb dX11_give_58 (by decide) (fun c58_8 => ?_) (fun c58_8 => ?_)
                  · have D58_8 := iLt c58_8 t_40 rfl
                    obtain ⟨v206_9, e206_9⟩ : ∃ y : Int32, y = kc + (-1) := ⟨_, rfl⟩
                    have t206_9 := iAdd e206_9 rfl t_m1 (by omega) (by omega)
                    have t206 := t206_9
                    refine lv_iinc (v := v206_9) (lv' := [(3, .int v206_9), (4, .int kl), (0, .ref (ma 0)), (1, .int n), (2, .int w)]) hx hb dX11_give_206 hl (k := 1) rfl (by rw [e206_9]; rfl) (by decide) rfl (fun ls hl => ?_)
                    refine lv_goto (tgt := 47) hx hb dX11_give_209 (by decide) ?_
                    exact ih47 q54 y54 v206_9 (by omega) hy42 hq (vTA_step hA0 hL0 (by omega) (by omega) t206) (by omega) _ _ _ hw (lv_sub hl [0, 2, 3, 4] rfl)
                  · have D58_8 := iNlt c58_8 t_40 rfl
                    refine lv_ldc2 hx hb X.1.2.2.2.1 (X.1.2.2.2.2 _ wd_r37_14) dX11_give_61 ?_
                    refine lv_lstore (lv' := [(5, .long (-1)), (4, .int kl), (3, .int kc), (0, .ref (ma 0)), (1, .int n), (2, .int w)]) hx hb dX11_give_64 hl (by decide) rfl (fun ls hl => ?_)
                    refine lv_iconst (v := 0) hx hb dX11_give_66 (by decide) ?_
                    refine lv_istore (lv' := [(7, .int 0), (5, .long (-1)), (4, .int kl), (3, .int kc), (0, .ref (ma 0)), (1, .int n), (2, .int w)]) hx hb dX11_give_67 hl (by decide) rfl (fun ls hl => ?_)
                    refine lv_iconst (v := 0) hx hb dX11_give_69 (by decide) ?_
                    refine lv_istore (lv' := [(8, .int 0), (7, .int 0), (5, .long (-1)), (4, .int kl), (3, .int kc), (0, .ref (ma 0)), (1, .int n), (2, .int w)]) hx hb dX11_give_70 hl (by decide) rfl (fun ls hl => ?_)
                    have lp72 : ∀ (N9 : Nat) (bs : Int64) (lt : Int32) (ke : Int32), (0 ≤ ke.toInt ∧ ke.toInt ≤ 21 ∧ ke.toInt ≤ kl.toInt + 1) → (0 ≤ lt.toInt) → (chB (oOf (sbF V.2 tl (fun k => odF V.2 (tl k) pl (qI S (ma 40)) (pI S 140 (ma 0)).toInt.toNat) n.toNatClampNeg 1 (pI S 128 (ma 0)).toInt.toNat)) (gsm V.2 w.toNatClampNeg) (63 - kc.toNatClampNeg) kl.toNatClampNeg ke.toNatClampNeg bs.toInt lt.toNatClampNeg) → (21 - ke.toInt).toNat < N9 → ∀ (H : Heap) (locs : List Loc) (ls : Array Slot), PX G A s.heap (ch S I3_3 J3_4 q54 y54) H locs → lv_has ls 12 [(8, .int ke), (7, .int lt), (5, .long bs), (4, .int kl), (3, .int kc), (0, .ref (ma 0)), (1, .int n), (2, .int w)] → W p l e (Rm 6 0 0) s m args below meth c H locs 0 0 Q (F0 m 72 ls []) := by
                      intro N9
                      induction N9 with
                      | zero => intro bs lt ke hke hlt hbs hm; exact absurd hm (Nat.not_lt_zero _)
                      | succ N9 ih72 =>
                        intro bs lt ke hke hlt hbs hm H locs ls hw hl
                        refine lv_iload hx hb dX11_give_72 (lv_at hl 0 rfl) ?_
                        refine lv_bipush (v := 20) hx hb dX11_give_74 (by decide) ?_
                        refine lv_icmp_gt (tgt := 174) hx hb dX11_give_76 (by decide) (fun c76_10 => ?_) (fun c76_10 => ?_)
                        · have D76_10 := iLt c76_10 t_20 rfl
                          refine lv_aload_n hx hb dX11_give_174 rfl (lv_at hl 5 rfl) ?_
                          refine gf_X11_133 (b := (ma 44)) X hw hM.1 (mr_44 hM) dX11_give_175 ?_
                          refine lv_iload_n hx hb dX11_give_178 rfl (lv_at hl 4 rfl) ?_
                          refine lv_iload hx hb dX11_give_179 (lv_at hl 3 rfl) ?_
                          refine k_Si (n := 2) X hw (c_X11_spot l G _ kc kl (by have := t_64; omega)) wd_r41_15 wd_r41_16 wd_r1_5 wd_r41_17 ⟨by decide, by decide, by decide +kernel⟩ rfl rfl ⟨Nat.le_of_ble_eq_true rfl, Nat.le_of_ble_eq_true rfl⟩ rfl rfl hl.1 (Nat.le_of_ble_eq_true rfl) dX11_give_181 ⟨Nat.le_of_ble_eq_true rfl, Nat.le_of_ble_eq_true rfl⟩ (fun r181_11 S181_13 H locs h181_12 hw => ?_)
                          obtain ⟨rfl, h181_12⟩ := h181_12
                          have hcl1 := cl_toInt (x := kc) (by omega)
                          have hcl2 := cl_toInt (x := kl) (by omega)
                          have s181 : r181_11.toNatClampNeg = 41 * kc.toNatClampNeg + kl.toNatClampNeg := spot_n (by omega)
                          refine lv_lload hx hb dX11_give_184 (lv_at hl 2 rfl) ?_
                          refine q_stJ X hw (mk_44 hM) (vin (mn_44 hM) (by omega) (by omega)) dX11_give_186 (fun H locs hw => ?_)
                          obtain ⟨y186_14, ey186_14, hw⟩ : ∃ zz9, zz9 = va_up y54 (ma 44) (vp_updL (y54 (ma 44)) r181_11.toNatClampNeg bs) ∧ PX G A s.heap (ch S I3_3 J3_4 q54 zz9) H locs := ⟨_, rfl, hw⟩
                          have c186 := ey186_14
                          refine lv_aload_n hx hb dX11_give_187 rfl (lv_at hl 5 rfl) ?_
                          refine gf_X11_136 (b := (ma 45)) X hw hM.1 (mr_45 hM) dX11_give_188 ?_
                          refine lv_iload_n hx hb dX11_give_191 rfl (lv_at hl 4 rfl) ?_
                          refine lv_iload hx hb dX11_give_192 (lv_at hl 3 rfl) ?_
                          refine k_Si (n := 2) X hw (c_X11_spot l G _ kc kl (by have := t_64; omega)) wd_r41_15 wd_r41_16 wd_r1_5 wd_r41_17 ⟨by decide, by decide, by decide +kernel⟩ rfl rfl ⟨Nat.le_of_ble_eq_true rfl, Nat.le_of_ble_eq_true rfl⟩ rfl rfl hl.1 (Nat.le_of_ble_eq_true rfl) dX11_give_194 ⟨Nat.le_of_ble_eq_true rfl, Nat.le_of_ble_eq_true rfl⟩ (fun r194_15 S194_17 H locs h194_16 hw => ?_)
                          obtain ⟨rfl, h194_16⟩ := h194_16
                          have s194 : r194_15.toNatClampNeg = 41 * kc.toNatClampNeg + kl.toNatClampNeg := spot_n (by omega)
                          refine lv_iload hx hb dX11_give_197 (lv_at hl 1 rfl) ?_
                          refine q_stI X hw (mk_45 hM) (vin (mn_45 hM) (by omega) (by omega)) dX11_give_199 (fun H locs hw => ?_)
                          obtain ⟨q199_18, eq199_18, hw⟩ : ∃ zz9, zz9 = va_up q54 (ma 45) (upd (q54 (ma 45)) r194_15.toNatClampNeg lt) ∧ PX G A s.heap (ch S I3_3 J3_4 zz9 y186_14) H locs := ⟨_, rfl, hw⟩
                          have c199 := eq199_18
                          obtain ⟨v200_19, e200_19⟩ : ∃ y : Int32, y = kl + 1 := ⟨_, rfl⟩
                          have t200_19 := iAdd e200_19 rfl t_1 (by omega) (by omega)
                          have t200 := t200_19
                          refine lv_iinc (v := v200_19) (lv' := [(4, .int v200_19), (8, .int ke), (7, .int lt), (5, .long bs), (3, .int kc), (0, .ref (ma 0)), (1, .int n), (2, .int w)]) hx hb dX11_give_200 hl (k := 3) rfl (by rw [e200_19]; rfl) (by decide) rfl (fun ls hl => ?_)
                          refine lv_goto (tgt := 54) hx hb dX11_give_203 (by decide) ?_
                          exact ih54 q199_18 y186_14 v200_19 (by omega) (by rw [c186, vu_n (fun e => absurd (hM.2.2 42 44 (by decide) (by decide) e) (by decide))]; exact hy42) (fun i hi hn => by rw [c199, vu_n (fun e => hn (hM.2.2 i 45 hi (by decide) e))]; exact hq i hi hn) (vTA_upd (l := kl.toNatClampNeg) hA0 (by omega) (by rw [c186, vu_s, s181]) (by rw [c199, vu_s, s194])) (vTL_upd hL0 (by omega) t200 (by rw [c186, vu_s, s181]) (by rw [c199, vu_s, s194]) (by rw [show 64 - kc.toNatClampNeg = 63 - kc.toNatClampNeg + 1 by omega]; exact cB_e (oOf_nn hodM) hgM hbs (by omega) hlt (by omega))) (by omega) _ _ _ hw (lv_sub hl [0, 4, 5, 6, 7] rfl)
                        · have D76_10 := iNlt c76_10 t_20 rfl
                          refine lv_iload hx hb dX11_give_79 (lv_at hl 0 rfl) ?_
                          refine lv_iload hx hb dX11_give_81 (lv_at hl 3 rfl) ?_
                          refine lv_icmp_gt (tgt := 174) hx hb dX11_give_83 (by decide) (fun c83_20 => ?_) (fun c83_20 => ?_)
                          · have D83_20 := iLt c83_20 rfl rfl
                            refine lv_aload_n hx hb dX11_give_174 rfl (lv_at hl 5 rfl) ?_
                            refine gf_X11_133 (b := (ma 44)) X hw hM.1 (mr_44 hM) dX11_give_175 ?_
                            refine lv_iload_n hx hb dX11_give_178 rfl (lv_at hl 4 rfl) ?_
                            refine lv_iload hx hb dX11_give_179 (lv_at hl 3 rfl) ?_
                            refine k_Si (n := 2) X hw (c_X11_spot l G _ kc kl (by have := t_64; omega)) wd_r41_15 wd_r41_16 wd_r1_5 wd_r41_17 ⟨by decide, by decide, by decide +kernel⟩ rfl rfl ⟨Nat.le_of_ble_eq_true rfl, Nat.le_of_ble_eq_true rfl⟩ rfl rfl hl.1 (Nat.le_of_ble_eq_true rfl) dX11_give_181 ⟨Nat.le_of_ble_eq_true rfl, Nat.le_of_ble_eq_true rfl⟩ (fun r181_21 S181_23 H locs h181_22 hw => ?_)
                            obtain ⟨rfl, h181_22⟩ := h181_22
                            have hcl1 := cl_toInt (x := kc) (by omega)
                            have hcl2 := cl_toInt (x := kl) (by omega)
                            have s181 : r181_21.toNatClampNeg = 41 * kc.toNatClampNeg + kl.toNatClampNeg := spot_n (by omega)
                            refine lv_lload hx hb dX11_give_184 (lv_at hl 2 rfl) ?_
                            refine q_stJ X hw (mk_44 hM) (vin (mn_44 hM) (by omega) (by omega)) dX11_give_186 (fun H locs hw => ?_)
                            obtain ⟨y186_24, ey186_24, hw⟩ : ∃ zz9, zz9 = va_up y54 (ma 44) (vp_updL (y54 (ma 44)) r181_21.toNatClampNeg bs) ∧ PX G A s.heap (ch S I3_3 J3_4 q54 zz9) H locs := ⟨_, rfl, hw⟩
                            have c186 := ey186_24
                            refine lv_aload_n hx hb dX11_give_187 rfl (lv_at hl 5 rfl) ?_
                            refine gf_X11_136 (b := (ma 45)) X hw hM.1 (mr_45 hM) dX11_give_188 ?_
                            refine lv_iload_n hx hb dX11_give_191 rfl (lv_at hl 4 rfl) ?_
                            refine lv_iload hx hb dX11_give_192 (lv_at hl 3 rfl) ?_
                            refine k_Si (n := 2) X hw (c_X11_spot l G _ kc kl (by have := t_64; omega)) wd_r41_15 wd_r41_16 wd_r1_5 wd_r41_17 ⟨by decide, by decide, by decide +kernel⟩ rfl rfl ⟨Nat.le_of_ble_eq_true rfl, Nat.le_of_ble_eq_true rfl⟩ rfl rfl hl.1 (Nat.le_of_ble_eq_true rfl) dX11_give_194 ⟨Nat.le_of_ble_eq_true rfl, Nat.le_of_ble_eq_true rfl⟩ (fun r194_25 S194_27 H locs h194_26 hw => ?_)
                            obtain ⟨rfl, h194_26⟩ := h194_26
                            have s194 : r194_25.toNatClampNeg = 41 * kc.toNatClampNeg + kl.toNatClampNeg := spot_n (by omega)
                            refine lv_iload hx hb dX11_give_197 (lv_at hl 1 rfl) ?_
                            refine q_stI X hw (mk_45 hM) (vin (mn_45 hM) (by omega) (by omega)) dX11_give_199 (fun H locs hw => ?_)
                            obtain ⟨q199_28, eq199_28, hw⟩ : ∃ zz9, zz9 = va_up q54 (ma 45) (upd (q54 (ma 45)) r194_25.toNatClampNeg lt) ∧ PX G A s.heap (ch S I3_3 J3_4 zz9 y186_24) H locs := ⟨_, rfl, hw⟩
                            have c199 := eq199_28
                            obtain ⟨v200_29, e200_29⟩ : ∃ y : Int32, y = kl + 1 := ⟨_, rfl⟩
                            have t200_29 := iAdd e200_29 rfl t_1 (by omega) (by omega)
                            have t200 := t200_29
                            refine lv_iinc (v := v200_29) (lv' := [(4, .int v200_29), (8, .int ke), (7, .int lt), (5, .long bs), (3, .int kc), (0, .ref (ma 0)), (1, .int n), (2, .int w)]) hx hb dX11_give_200 hl (k := 3) rfl (by rw [e200_29]; rfl) (by decide) rfl (fun ls hl => ?_)
                            refine lv_goto (tgt := 54) hx hb dX11_give_203 (by decide) ?_
                            exact ih54 q199_28 y186_24 v200_29 (by omega) (by rw [c186, vu_n (fun e => absurd (hM.2.2 42 44 (by decide) (by decide) e) (by decide))]; exact hy42) (fun i hi hn => by rw [c199, vu_n (fun e => hn (hM.2.2 i 45 hi (by decide) e))]; exact hq i hi hn) (vTA_upd (l := kl.toNatClampNeg) hA0 (by omega) (by rw [c186, vu_s, s181]) (by rw [c199, vu_s, s194])) (vTL_upd hL0 (by omega) t200 (by rw [c186, vu_s, s181]) (by rw [c199, vu_s, s194]) (by rw [show 64 - kc.toNatClampNeg = 63 - kc.toNatClampNeg + 1 by omega]; exact cB_e (oOf_nn hodM) hgM hbs (by omega) hlt (by omega))) (by omega) _ _ _ hw (lv_sub hl [0, 4, 5, 6, 7] rfl)
                          · have D83_20 := iNlt c83_20 rfl rfl
                            refine lv_aload_n hx hb dX11_give_86 rfl (lv_at hl 5 rfl) ?_
                            refine lv_iload_n hx hb dX11_give_87 rfl (lv_at hl 4 rfl) ?_
                            refine lv_iload_n hx hb dX11_give_88 rfl (lv_at hl 7 rfl) ?_
                            refine lv_iload hx hb dX11_give_89 (lv_at hl 0 rfl) ?_
                            refine k_Vl (n := 3) X hw (rcvk (ci := 11) X hw hM.1 (fun _ _ _ _ _ _ _ => ⟨_, rfl⟩) rfl) (c_X11_gain l G _ ma kc w ke hM (show 0 ≤ (I3_3 120 (ma 0) : Int32).toInt ∧ (I3_3 120 (ma 0) : Int32).toInt ≤ 1 by omega) (by omega) (by omega) (by omega)) wd_r41_18 wd_r41_19 wd_r41_20 wd_r1_5 wd_r41_21 ⟨by decide, by decide, by decide +kernel⟩ rfl rfl ⟨Nat.le_of_ble_eq_true rfl, Nat.le_of_ble_eq_true rfl⟩ rfl rfl hl.1 (Nat.le_of_ble_eq_true rfl) dX11_give_91 ⟨Nat.le_of_ble_eq_true rfl, Nat.le_of_ble_eq_true rfl⟩ (fun r91_30 S91_32 H locs h91_31 hw => ?_)
                            obtain ⟨rfl, h91_31⟩ := h91_31
                            have hg : r91_30 = gv RC (qI S (ma 18)) BK w kc.toNatClampNeg ke.toNatClampNeg := by have z : r91_30 = gv (y54 (ma 42)) (q54 (ma 18)) ((I3_3 120 (ma 0) : Int32)) w kc.toNatClampNeg ke.toNatClampNeg := h91_31; rw [hy42, hq 18 (by decide) (by decide), ← hBK] at z; exact z
                            have hcl1 := cl_toInt (x := kc) (by omega)
                            have hcl2 := cl_toInt (x := kl) (by omega)
                            have hcl3 := cl_toInt (x := ke) (by omega)
                            have hgt : r91_30.toInt = oOf (sbF V.2 tl (fun k => odF V.2 (tl k) pl (qI S (ma 40)) (pI S 140 (ma 0)).toInt.toNat) n.toNatClampNeg 1 (pI S 128 (ma 0)).toInt.toNat) (63 - kc.toNatClampNeg) * (gsm V.2 w.toNatClampNeg) ke.toNatClampNeg := by rw [hg]; exact gv_t (hRr _ (by omega)) hodM (by omega) (hmo _ (by omega)) (gsm_r hvk (by have := cl_toInt (x := w) (by omega); omega) (by omega))
                            refine lv_aload_n hx hb dX11_give_94 rfl (lv_at hl 5 rfl) ?_
                            refine gf_X11_133 (b := (ma 44)) X hw hM.1 (mr_44 hM) dX11_give_95 ?_
                            refine lv_iload_n hx hb dX11_give_98 rfl (lv_at hl 4 rfl) ?_
                            refine lv_iconst (v := 1) hx hb dX11_give_99 (by decide) ?_
                            refine lv_iadd hx hb dX11_give_100 ?_
                            refine lv_topi (fun v100_33 e100_33 => ?_)
                            have t100_33 := iAdd e100_33 rfl t_1 (by omega) (by omega)
                            have t100 := t100_33
                            refine lv_iload hx hb dX11_give_101 (lv_at hl 3 rfl) ?_
                            refine lv_iload hx hb dX11_give_103 (lv_at hl 0 rfl) ?_
                            refine lv_isub hx hb dX11_give_105 ?_
                            refine lv_topi (fun v105_34 e105_34 => ?_)
                            have t105_34 := iSub e105_34 rfl rfl (by omega) (by omega)
                            have t105 := t105_34
                            refine k_Si (n := 2) X hw (c_X11_spot l G _ v100_33 v105_34 (by have := t_64; omega)) wd_r41_15 wd_r41_16 wd_r1_5 wd_r41_17 ⟨by decide, by decide, by decide +kernel⟩ rfl rfl ⟨Nat.le_of_ble_eq_true rfl, Nat.le_of_ble_eq_true rfl⟩ rfl rfl hl.1 (Nat.le_of_ble_eq_true rfl) dX11_give_106 ⟨Nat.le_of_ble_eq_true rfl, Nat.le_of_ble_eq_true rfl⟩ (fun r106_35 S106_37 H locs h106_36 hw => ?_)
                            obtain ⟨rfl, h106_36⟩ := h106_36
                            have s106 : r106_35.toNatClampNeg = 41 * (kc.toNatClampNeg + 1) + (kl.toNatClampNeg - ke.toNatClampNeg) := spot_n (by omega)
                            refine q_ldJ X hw (mk_44 hM) (vin (mn_44 hM) (by omega) (by omega)) dX11_give_109 ?_
                            refine lv_topl (fun v109_38 e109_38 => ?_)
                            have e109_38 : v109_38 = y54 (ma 44) r106_35.toNatClampNeg := e109_38
                            have e109n := e109_38
                            rw [s106] at e109n
                            refine lv_ladd hx hb dX11_give_110 ?_
                            refine lv_topl (fun v110_39 e110_39 => ?_)
                            have hv9 : v110_39.toInt = chV (oOf (sbF V.2 tl (fun k => odF V.2 (tl k) pl (qI S (ma 40)) (pI S 140 (ma 0)).toInt.toNat) n.toNatClampNeg 1 (pI S 128 (ma 0)).toInt.toNat)) (gsm V.2 w.toNatClampNeg) (63 - kc.toNatClampNeg) kl.toNatClampNeg ke.toNatClampNeg := ch_v hodM hgM (by omega) hgt (by rw [e109n]; exact (hA0 (kc.toNatClampNeg + 1) (kl.toNatClampNeg - ke.toNatClampNeg) (by omega) (by omega) (by omega)).1) e110_39 (by omega) (by omega)
                            have hv0 : 0 ≤ v110_39.toInt := by have z9 := chV_c hodM hgM (k := 63 - kc.toNatClampNeg) (n := kl.toNatClampNeg) (e := ke.toNatClampNeg) (by omega) (by omega); rw [hv9]; unfold chV; omega
                            refine lv_lstore (lv' := [(9, .long v110_39), (8, .int ke), (7, .int lt), (5, .long bs), (4, .int kl), (3, .int kc), (0, .ref (ma 0)), (1, .int n), (2, .int w)]) hx hb dX11_give_111 hl (by decide) rfl (fun ls hl => ?_)
                            refine lv_iload hx hb dX11_give_113 (lv_at hl 1 rfl) ?_
                            refine lv_aload_n hx hb dX11_give_115 rfl (lv_at hl 6 rfl) ?_
                            refine gf_X11_136 (b := (ma 45)) X hw hM.1 (mr_45 hM) dX11_give_116 ?_
                            refine lv_iload_n hx hb dX11_give_119 rfl (lv_at hl 5 rfl) ?_
                            refine lv_iconst (v := 1) hx hb dX11_give_120 (by decide) ?_
                            refine lv_iadd hx hb dX11_give_121 ?_
                            refine lv_topi (fun v121_40 e121_40 => ?_)
                            have t121_40 := iAdd e121_40 rfl t_1 (by omega) (by omega)
                            have t121 := t121_40
                            refine lv_iload hx hb dX11_give_122 (lv_at hl 4 rfl) ?_
                            refine lv_iload hx hb dX11_give_124 (lv_at hl 1 rfl) ?_
                            refine lv_isub hx hb dX11_give_126 ?_
                            refine lv_topi (fun v126_41 e126_41 => ?_)
                            have t126_41 := iSub e126_41 rfl rfl (by omega) (by omega)
                            have t126 := t126_41
                            refine k_Si (n := 2) X hw (c_X11_spot l G _ v121_40 v126_41 (by have := t_64; omega)) wd_r41_15 wd_r41_16 wd_r1_5 wd_r41_17 ⟨by decide, by decide, by decide +kernel⟩ rfl rfl ⟨Nat.le_of_ble_eq_true rfl, Nat.le_of_ble_eq_true rfl⟩ rfl rfl hl.1 (Nat.le_of_ble_eq_true rfl) dX11_give_127 ⟨Nat.le_of_ble_eq_true rfl, Nat.le_of_ble_eq_true rfl⟩ (fun r127_42 S127_44 H locs h127_43 hw => ?_)
                            obtain ⟨rfl, h127_43⟩ := h127_43
                            have s127 : r127_42.toNatClampNeg = 41 * (kc.toNatClampNeg + 1) + (kl.toNatClampNeg - ke.toNatClampNeg) := spot_n (by omega)
                            refine q_ldI X hw (mk_45 hM) (vin (mn_45 hM) (by omega) (by omega)) dX11_give_130 ?_
                            refine lv_topi (fun v130_45 e130_45 => ?_)
                            have e130_45 : v130_45 = q54 (ma 45) r127_42.toNatClampNeg := e130_45
                            have e130n := e130_45
                            rw [s127] at e130n
                            refine lv_iadd hx hb dX11_give_131 ?_
                            refine lv_topi (fun v131_46 e131_46 => ?_)
                            have hu9 : v131_46.toInt = (chU (oOf (sbF V.2 tl (fun k => odF V.2 (tl k) pl (qI S (ma 40)) (pI S 140 (ma 0)).toInt.toNat) n.toNatClampNeg 1 (pI S 128 (ma 0)).toInt.toNat)) (gsm V.2 w.toNatClampNeg) (63 - kc.toNatClampNeg) kl.toNatClampNeg ke.toNatClampNeg : Int) := ch_u (x := ke) (by omega) hcl3.symm (by rw [e130n]; exact (hA0 (kc.toNatClampNeg + 1) (kl.toNatClampNeg - ke.toNatClampNeg) (by omega) (by omega) (by omega)).2) e131_46 (by omega) (by omega)
                            refine lv_istore (lv' := [(11, .int v131_46), (9, .long v110_39), (8, .int ke), (7, .int lt), (5, .long bs), (4, .int kl), (3, .int kc), (0, .ref (ma 0)), (1, .int n), (2, .int w)]) hx hb dX11_give_132 hl (by decide) rfl (fun ls hl => ?_)
                            refine lv_lload hx hb dX11_give_134 (lv_at hl 1 rfl) ?_
                            refine lv_lload hx hb dX11_give_136 (lv_at hl 4 rfl) ?_
                            refine W.lcmp hx hb dX11_give_138 ?_
                            refine lv_topi (fun v138_47 e138_47 => ?_)
                            refine lv_if_lt (tgt := 168) hx hb dX11_give_139 (by decide) (fun c139_48 => ?_) (fun c139_48 => ?_)
                            · have D139_48 := lc_lt e138_47 c139_48
                              obtain ⟨v168_49, e168_49⟩ : ∃ y : Int32, y = ke + 1 := ⟨_, rfl⟩
                              have t168_49 := iAdd e168_49 rfl t_1 (by omega) (by omega)
                              have t168 := t168_49
                              refine lv_iinc (v := v168_49) (lv' := [(8, .int v168_49), (11, .int v131_46), (9, .long v110_39), (7, .int lt), (5, .long bs), (4, .int kl), (3, .int kc), (0, .ref (ma 0)), (1, .int n), (2, .int w)]) hx hb dX11_give_168 hl (k := 2) rfl (by rw [e168_49]; rfl) (by decide) rfl (fun ls hl => ?_)
                              refine lv_goto (tgt := 72) hx hb dX11_give_171 (by decide) ?_
                              exact ih72  bs lt v168_49 (by omega) (by omega) (by first | exact cB_y hbs hke.1 t168 hv9 hv0 hu9 hlt (by omega) | exact cB_n hbs hke.1 t168 hv9 hv0 hu9 hlt (by omega)) (by omega) _ _ _ hw (lv_sub hl [0, 3, 4, 5, 6, 7, 8, 9] rfl)
                            · have D139_48 := lcn_lt e138_47 c139_48
                              refine lv_lload hx hb dX11_give_142 (lv_at hl 1 rfl) ?_
                              refine lv_lload hx hb dX11_give_144 (lv_at hl 4 rfl) ?_
                              refine W.lcmp hx hb dX11_give_146 ?_
                              refine lv_topi (fun v146_50 e146_50 => ?_)
                              refine lv_if_ne (tgt := 160) hx hb dX11_give_147 (by decide) (fun c147_51 => ?_) (fun c147_51 => ?_)
                              · have D147_51 := lc_ne e146_50 c147_51
                                refine lv_lload hx hb dX11_give_160 (lv_at hl 1 rfl) ?_
                                refine lv_lstore (lv' := [(5, .long v110_39), (11, .int v131_46), (9, .long v110_39), (8, .int ke), (7, .int lt), (4, .int kl), (3, .int kc), (0, .ref (ma 0)), (1, .int n), (2, .int w)]) hx hb dX11_give_162 hl (by decide) rfl (fun ls hl => ?_)
                                refine lv_iload hx hb dX11_give_164 (lv_at hl 1 rfl) ?_
                                refine lv_istore (lv' := [(7, .int v131_46), (5, .long v110_39), (11, .int v131_46), (9, .long v110_39), (8, .int ke), (4, .int kl), (3, .int kc), (0, .ref (ma 0)), (1, .int n), (2, .int w)]) hx hb dX11_give_166 hl (by decide) rfl (fun ls hl => ?_)
                                obtain ⟨v168_52, e168_52⟩ : ∃ y : Int32, y = ke + 1 := ⟨_, rfl⟩
                                have t168_52 := iAdd e168_52 rfl t_1 (by omega) (by omega)
                                have t168 := t168_52
                                refine lv_iinc (v := v168_52) (lv' := [(8, .int v168_52), (7, .int v131_46), (5, .long v110_39), (11, .int v131_46), (9, .long v110_39), (4, .int kl), (3, .int kc), (0, .ref (ma 0)), (1, .int n), (2, .int w)]) hx hb dX11_give_168 hl (k := 4) rfl (by rw [e168_52]; rfl) (by decide) rfl (fun ls hl => ?_)
                                refine lv_goto (tgt := 72) hx hb dX11_give_171 (by decide) ?_
                                exact ih72  v110_39 v131_46 v168_52 (by omega) (by omega) (by first | exact cB_y hbs hke.1 t168 hv9 hv0 hu9 hlt (by omega) | exact cB_n hbs hke.1 t168 hv9 hv0 hu9 hlt (by omega)) (by omega) _ _ _ hw (lv_sub hl [0, 1, 2, 5, 6, 7, 8, 9] rfl)
                              · have D147_51 := lcn_ne e146_50 c147_51
                                refine lv_iload hx hb dX11_give_150 (lv_at hl 0 rfl) ?_
                                refine lv_iload hx hb dX11_give_152 (lv_at hl 3 rfl) ?_
                                refine lv_icmp_lt (tgt := 160) hx hb dX11_give_154 (by decide) (fun c154_53 => ?_) (fun c154_53 => ?_)
                                · have D154_53 := iLt c154_53 rfl rfl
                                  refine lv_lload hx hb dX11_give_160 (lv_at hl 1 rfl) ?_
                                  refine lv_lstore (lv' := [(5, .long v110_39), (11, .int v131_46), (9, .long v110_39), (8, .int ke), (7, .int lt), (4, .int kl), (3, .int kc), (0, .ref (ma 0)), (1, .int n), (2, .int w)]) hx hb dX11_give_162 hl (by decide) rfl (fun ls hl => ?_)
                                  refine lv_iload hx hb dX11_give_164 (lv_at hl 1 rfl) ?_
                                  refine lv_istore (lv' := [(7, .int v131_46), (5, .long v110_39), (11, .int v131_46), (9, .long v110_39), (8, .int ke), (4, .int kl), (3, .int kc), (0, .ref (ma 0)), (1, .int n), (2, .int w)]) hx hb dX11_give_166 hl (by decide) rfl (fun ls hl => ?_)
                                  obtain ⟨v168_54, e168_54⟩ : ∃ y : Int32, y = ke + 1 := ⟨_, rfl⟩
                                  have t168_54 := iAdd e168_54 rfl t_1 (by omega) (by omega)
                                  have t168 := t168_54
                                  refine lv_iinc (v := v168_54) (lv' := [(8, .int v168_54), (7, .int v131_46), (5, .long v110_39), (11, .int v131_46), (9, .long v110_39), (4, .int kl), (3, .int kc), (0, .ref (ma 0)), (1, .int n), (2, .int w)]) hx hb dX11_give_168 hl (k := 4) rfl (by rw [e168_54]; rfl) (by decide) rfl (fun ls hl => ?_)
                                  refine lv_goto (tgt := 72) hx hb dX11_give_171 (by decide) ?_
                                  exact ih72  v110_39 v131_46 v168_54 (by omega) (by omega) (by first | exact cB_y hbs hke.1 t168 hv9 hv0 hu9 hlt (by omega) | exact cB_n hbs hke.1 t168 hv9 hv0 hu9 hlt (by omega)) (by omega) _ _ _ hw (lv_sub hl [0, 1, 2, 5, 6, 7, 8, 9] rfl)
                                · have D154_53 := iNlt c154_53 rfl rfl
                                  refine lv_goto (tgt := 168) hx hb dX11_give_157 (by decide) ?_
                                  obtain ⟨v168_55, e168_55⟩ : ∃ y : Int32, y = ke + 1 := ⟨_, rfl⟩
                                  have t168_55 := iAdd e168_55 rfl t_1 (by omega) (by omega)
                                  have t168 := t168_55
                                  refine lv_iinc (v := v168_55) (lv' := [(8, .int v168_55), (11, .int v131_46), (9, .long v110_39), (7, .int lt), (5, .long bs), (4, .int kl), (3, .int kc), (0, .ref (ma 0)), (1, .int n), (2, .int w)]) hx hb dX11_give_168 hl (k := 2) rfl (by rw [e168_55]; rfl) (by decide) rfl (fun ls hl => ?_)
                                  refine lv_goto (tgt := 72) hx hb dX11_give_171 (by decide) ?_
                                  exact ih72  bs lt v168_55 (by omega) (by omega) (by first | exact cB_y hbs hke.1 t168 hv9 hv0 hu9 hlt (by omega) | exact cB_n hbs hke.1 t168 hv9 hv0 hu9 hlt (by omega)) (by omega) _ _ _ hw (lv_sub hl [0, 3, 4, 5, 6, 7, 8, 9] rfl)
                    exact lp72 _  (-1) 0 0 (by have := t_0; have := t_0; omega) (by have := t_0; omega) cB_0 (Nat.lt_succ_self _) _ _ _ hw (lv_sub hl [0, 1, 2, 3, 4, 5, 6, 7] rfl)
              exact lp54 _ q47 y47 0 (by have := t_0; omega) hy42 hq (by have z := hA1; rw [← cl_toInt (x := kc) (by omega)] at z; exact z) (fun x h => absurd h (by have := t_0; omega)) (Nat.lt_succ_self _) _ _ _ hw (lv_sub hl [0, 1, 2, 3, 4] rfl)
        exact lp47 _ q8 y8 63 (by have := t_63; omega) hy42 hq (by rw [t_63]; exact vTA_0 (fun i h => h0 i (by omega)) (fun i h => hq0 i (by omega))) (Nat.lt_succ_self _) _ _ _ hw (lv_sub hl [0, 1, 2, 3] rfl)
      · have D11_6 := iNlt c11_6 t_40 rfl
        refine lv_aload_n hx hb dX11_give_14 rfl (lv_at hl 1 rfl) ?_
        refine gf_X11_133 (b := (ma 44)) X hw hM.1 (mr_44 hM) dX11_give_15 ?_
        refine lv_bipush (v := 64) hx hb dX11_give_18 (by decide) ?_
        refine lv_iload_n hx hb dX11_give_20 rfl (lv_at hl 0 rfl) ?_
        refine k_Si (n := 2) X hw (c_X11_spot l G _ 64 k (by have := t_64; omega)) wd_r41_15 wd_r41_16 wd_r1_5 wd_r41_17 ⟨by decide, by decide, by decide +kernel⟩ rfl rfl ⟨Nat.le_of_ble_eq_true rfl, Nat.le_of_ble_eq_true rfl⟩ rfl rfl hl.1 (Nat.le_of_ble_eq_true rfl) dX11_give_21 ⟨Nat.le_of_ble_eq_true rfl, Nat.le_of_ble_eq_true rfl⟩ (fun r21_56 S21_58 H locs h21_57 hw => ?_)
        have := t_64
        obtain ⟨rfl, h21_57⟩ := h21_57
        have s21 := h21_57
        have := t_64
        refine lv_lconst (v := 0) hx hb dX11_give_24 (by decide) ?_
        refine q_stJ X hw (mk_44 hM) (vin (mn_44 hM) (by omega) (by omega)) dX11_give_25 (fun H locs hw => ?_)
        obtain ⟨y25_59, ey25_59, hw⟩ : ∃ zz9, zz9 = va_up y8 (ma 44) (vp_updL (y8 (ma 44)) r21_56.toNatClampNeg 0) ∧ PX G A s.heap (ch S I3_3 J3_4 q8 zz9) H locs := ⟨_, rfl, hw⟩
        have c25 := ey25_59
        refine lv_aload_n hx hb dX11_give_26 rfl (lv_at hl 1 rfl) ?_
        refine gf_X11_136 (b := (ma 45)) X hw hM.1 (mr_45 hM) dX11_give_27 ?_
        refine lv_bipush (v := 64) hx hb dX11_give_30 (by decide) ?_
        refine lv_iload_n hx hb dX11_give_32 rfl (lv_at hl 0 rfl) ?_
        refine k_Si (n := 2) X hw (c_X11_spot l G _ 64 k (by have := t_64; omega)) wd_r41_15 wd_r41_16 wd_r1_5 wd_r41_17 ⟨by decide, by decide, by decide +kernel⟩ rfl rfl ⟨Nat.le_of_ble_eq_true rfl, Nat.le_of_ble_eq_true rfl⟩ rfl rfl hl.1 (Nat.le_of_ble_eq_true rfl) dX11_give_33 ⟨Nat.le_of_ble_eq_true rfl, Nat.le_of_ble_eq_true rfl⟩ (fun r33_60 S33_62 H locs h33_61 hw => ?_)
        have := t_64
        obtain ⟨rfl, h33_61⟩ := h33_61
        have := t_64
        refine lv_iconst (v := 0) hx hb dX11_give_36 (by decide) ?_
        refine q_stI X hw (mk_45 hM) (vin (mn_45 hM) (by omega) (by omega)) dX11_give_37 (fun H locs hw => ?_)
        obtain ⟨q37_63, eq37_63, hw⟩ : ∃ zz9, zz9 = va_up q8 (ma 45) (upd (q8 (ma 45)) r33_60.toNatClampNeg 0) ∧ PX G A s.heap (ch S I3_3 J3_4 zz9 y25_59) H locs := ⟨_, rfl, hw⟩
        have c37 := eq37_63
        obtain ⟨v38_64, e38_64⟩ : ∃ y : Int32, y = k + 1 := ⟨_, rfl⟩
        have t38_64 := iAdd e38_64 rfl t_1 (by omega) (by omega)
        have t38 := t38_64
        refine lv_iinc (v := v38_64) (lv' := [(3, .int v38_64), (0, .ref (ma 0)), (1, .int n), (2, .int w)]) hx hb dX11_give_38 hl (k := 0) rfl (by rw [e38_64]; rfl) (by decide) rfl (fun ls hl => ?_)
        refine lv_goto (tgt := 8) hx hb dX11_give_41 (by decide) ?_
        exact ih8 q37_63 y25_59 v38_64 (by omega) (zero_u h0 c25 (by omega) (by omega) t38) (zero_q hq0 c37 (by omega) (by omega) t38) (by rw [c25, vu_n (fun e => absurd (hM.2.2 42 44 (by decide) (by decide) e) (by decide))]; exact hy42) (fun i hi hn => by rw [c37, vu_n (fun e => hn (hM.2.2 i 45 hi (by decide) e))]; exact hq i hi hn) (by omega) _ _ _ hw (lv_sub hl [0, 1, 2, 3] rfl)
  exact lp8 _ (qI S) y3_5 0 (by have := t_0; omega) (fun i h => absurd h (by have := t_0; omega)) (fun i h => absurd h (by have := t_0; omega)) hRC.symm (fun _ _ _ => rfl) (Nat.lt_succ_self _) _ _ _ hw (lv_sub hl [0, 1, 2, 3] rfl)
