
/-! ===== what every sea that a text tells has ===== -/
def vok (V : SV) : Prop := (0 ≤ V.1 ∧ V.1 ≤ 60) ∧ vF V.2 ∧ (∀ f, f < 5 → ∀ h, h < 72 → (V.2 (10 + 4 * f + 3) h = 0 ∧ V.2 (10 + 4 * f + 1) h = 0 ∧ V.2 (10 + 4 * f + 2) h = 0) ∨ V.2 (10 + 4 * f + 3) h = 1) ∧ (∀ k, k < 4 → V.2 2 k = -1 ∨ (0 ≤ (V.2 2 k).toInt ∧ (V.2 2 k).toInt ≤ 100)) ∧ (∀ i, i < 64 → V.2 3 i = 0 ∨ V.2 3 i = 1) ∧ (∀ i, i < 42 → V.2 4 i = -1 ∨ (0 ≤ (V.2 4 i).toInt ∧ (V.2 4 i).toInt ≤ 100)) ∧ (∀ a, a < 2 → V.2 4 (21 * a) = -1) ∧ (∀ a, a < 2 → ∀ j k, 1 ≤ j → j < k → k ≤ 20 → ¬ V.2 4 (21 * a + j) = -1 → ¬ V.2 4 (21 * a + k) = -1 → (V.2 4 (21 * a + k)).toInt ≤ (V.2 4 (21 * a + j)).toInt)
theorem vok_0 : vok sv0 := by
  have z : (0 : Int32).toInt = 0 := by decide
  have f3 : ∀ f m, 1 ≤ m → c0 (10 + 4 * f + m) = 0 := fun f m _ => by unfold c0; rw [if_neg (by omega)]
  refine ⟨⟨by decide, by decide⟩, fun j hj h11 i _ => ?_, fun f _ h _ => Or.inl ⟨f3 f 3 (by omega), f3 f 1 (by omega), f3 f 2 (by omega)⟩, fun k _ => Or.inl rfl, fun i _ => Or.inl rfl, fun i _ => Or.inl rfl, fun a _ => rfl, fun a _ j k _ _ _ h => absurd rfl h⟩
  show -30 ≤ (c0 j).toInt ∧ (c0 j).toInt ≤ 30
  unfold c0; rw [if_neg (by omega), z]; omega
/-- a line's flow told -/
theorem vok_f {V : SV} {f h : Nat} {x y : Int32} (hv : vok V) (hf : f < 5) (hh : h < 72) (h60 : V.1 < 60) (hx : -30 ≤ x.toInt ∧ x.toInt ≤ 30) (hy : -30 ≤ y.toInt ∧ y.toInt ≤ 30) : vok (V.1 + 1, up2 (up2 (up2 V.2 (10 + 4 * f + 3) h 1) (10 + 4 * f + 1) h x) (10 + 4 * f + 2) h y) := by
  obtain ⟨v1, v2, v3, v4, v5, v6, v7, v8⟩ := hv
  have e : ∀ j, j < 11 → up2 (up2 (up2 V.2 (10 + 4 * f + 3) h 1) (10 + 4 * f + 1) h x) (10 + 4 * f + 2) h y j = V.2 j := fun j hj => by rw [up2_f (by omega), up2_f (by omega), up2_f (by omega)]
  have o1 : (1 : Int32).toInt = 1 := by decide
  refine ⟨by dsimp only; omega, fun j hj h11 i hi => ?_, fun g hg k hk => ?_, ?_, ?_, ?_, ?_, ?_⟩
  · dsimp only
    by_cases a2 : j = 10 + 4 * f + 2
    · subst a2
      by_cases b : i = h
      · rw [b, up2_s]; exact hy
      · rw [up2_n b, up2_f (by omega), up2_f (by omega)]; exact v2 _ hj h11 i hi
    · rw [up2_f a2]
      by_cases a1 : j = 10 + 4 * f + 1
      · subst a1
        by_cases b : i = h
        · rw [b, up2_s]; exact hx
        · rw [up2_n b, up2_f (by omega)]; exact v2 _ hj h11 i hi
      · rw [up2_f a1]
        by_cases a3 : j = 10 + 4 * f + 3
        · subst a3
          by_cases b : i = h
          · rw [b, up2_s, o1]; omega
          · rw [up2_n b]; exact v2 _ hj h11 i hi
        · rw [up2_f a3]; exact v2 _ hj h11 i hi
  · dsimp only
    by_cases b : k = h
    · by_cases a : g = f
      · subst a; subst b
        right
        rw [up2_f (by omega), up2_f (by omega), up2_s]
      · rw [up2_f (by omega), up2_f (by omega), up2_f (by omega), up2_f (by omega), up2_f (by omega), up2_f (by omega), up2_f (by omega), up2_f (by omega), up2_f (by omega)]
        exact v3 g hg k hk
    · rw [up2_n b, up2_n b, up2_n b, up2_n b, up2_n b, up2_n b, up2_n b, up2_n b, up2_n b]
      exact v3 g hg k hk
  · dsimp only; rw [e 2 (by omega)]; exact v4
  · dsimp only; rw [e 3 (by omega)]; exact v5
  · dsimp only; rw [e 4 (by omega)]; exact v6
  · dsimp only; rw [e 4 (by omega)]; exact v7
  · dsimp only; rw [e 4 (by omega)]; exact v8
theorem vok_l {V : SV} {k : Nat} {x : Int32} (hv : vok V) (h60 : V.1 < 60) (hx : 0 ≤ x.toInt ∧ x.toInt ≤ 100) : vok (V.1 + 1, up2 V.2 2 k x) := by
  obtain ⟨v1, v2, v3, v4, v5, v6, v7, v8⟩ := hv
  refine ⟨by dsimp only; omega, fun j hj h11 i hi => ?_, fun g hg z hz => ?_, fun i hi => ?_, ?_, ?_, ?_, ?_⟩
  · dsimp only; rw [up2_f (by omega)]; exact v2 j hj h11 i hi
  · dsimp only; rw [up2_f (by omega), up2_f (by omega), up2_f (by omega)]; exact v3 g hg z hz
  · dsimp only
    by_cases b : i = k
    · rw [b, up2_s]; exact Or.inr hx
    · rw [up2_n b]; exact v4 i hi
  · dsimp only; rw [up2_f (by decide)]; exact v5
  · dsimp only; rw [up2_f (by decide)]; exact v6
  · dsimp only; rw [up2_f (by decide)]; exact v7
  · dsimp only; rw [up2_f (by decide)]; exact v8
theorem vok_d {V : SV} {k : Nat} (hv : vok V) (h60 : V.1 < 60) : vok (V.1 + 1, up2 V.2 3 k 1) := by
  obtain ⟨v1, v2, v3, v4, v5, v6, v7, v8⟩ := hv
  refine ⟨by dsimp only; omega, fun j hj h11 i hi => ?_, fun g hg z hz => ?_, ?_, fun i hi => ?_, ?_, ?_, ?_⟩
  · dsimp only; rw [up2_f (by omega)]; exact v2 j hj h11 i hi
  · dsimp only; rw [up2_f (by omega), up2_f (by omega), up2_f (by omega)]; exact v3 g hg z hz
  · dsimp only; rw [up2_f (by decide)]; exact v4
  · dsimp only
    by_cases b : i = k
    · rw [b, up2_s]; exact Or.inr rfl
    · rw [up2_n b]; exact v5 i hi
  · dsimp only; rw [up2_f (by decide)]; exact v6
  · dsimp only; rw [up2_f (by decide)]; exact v7
  · dsimp only; rw [up2_f (by decide)]; exact v8
theorem vok_m {V : SV} {a b : Nat} {x : Int32} (hv : vok V) (h60 : V.1 < 60) (ha : a < 2) (hb : 1 ≤ b ∧ b ≤ 20) (hx : 0 ≤ x.toInt ∧ x.toInt ≤ 100) (hf : fits (V.2 4) a b x.toInt) : vok (V.1 + 1, up2 V.2 4 (21 * a + b) x) := by
  obtain ⟨v1, v2, v3, v4, v5, v6, v7, v8⟩ := hv
  refine ⟨by dsimp only; omega, fun j hj h11 i hi => ?_, fun g hg z hz => ?_, ?_, ?_, fun i hi => ?_, fun c hc => ?_, fun c hc j k h1 h2 h3 n1 n2 => ?_⟩
  · dsimp only; rw [up2_f (by omega)]; exact v2 j hj h11 i hi
  · dsimp only; rw [up2_f (by omega), up2_f (by omega), up2_f (by omega)]; exact v3 g hg z hz
  · dsimp only; rw [up2_f (by decide)]; exact v4
  · dsimp only; rw [up2_f (by decide)]; exact v5
  · dsimp only
    by_cases e : i = 21 * a + b
    · rw [e, up2_s]; exact Or.inr hx
    · rw [up2_n e]; exact v6 i hi
  · dsimp only; rw [up2_n (by omega)]; exact v7 c hc
  · dsimp only at n1 n2 ⊢
    by_cases ek : 21 * c + k = 21 * a + b
    · have ec : c = a := by omega
      have eb : k = b := by omega
      subst ec; subst eb
      rw [up2_n (show 21 * c + j ≠ 21 * c + k by omega)] at n1 ⊢
      rw [up2_s]
      exact hf.1 j h1 h2 h2 n1
    · rw [up2_n ek] at n2 ⊢
      by_cases ej : 21 * c + j = 21 * a + b
      · have ec : c = a := by omega
        have eb : j = b := by omega
        subst ec; subst eb
        rw [up2_s]
        exact hf.2 k h2 (by omega) h3 n2
      · rw [up2_n ej] at n1 ⊢
        exact v8 c hc j k h1 h2 h3 n1 n2
theorem vok_s {c : Nat → Int32} {n p s : Nat} {V : SV} (hv : vok V) (hs : s < 5) (h : LnS c n V p s) : vok (LnV c n V p s) := by
  have hr := rgA_of (r := nv c n (tE c n p)) hs (fun j hj => ⟨rfl, h.2.2.2.1 j hj⟩)
  have h60 := h.2.2.1
  rcases (show s = 0 ∨ s = 1 ∨ s = 2 ∨ s = 3 ∨ s = 4 by omega) with rfl | rfl | rfl | rfl | rfl
  · have a := hr.1.1 rfl
    have b := hr.2.1 rfl
    exact vok_f (f := 0) hv (by decide) (clt a.1 a.2) h60 b.1 b.2
  · have a := hr.1.2.1 rfl
    have b := hr.2.2 rfl
    have l := clt (n := 4) a.1.1 a.1.2
    exact vok_f (f := (nv c n (tE c n p) 0).toNatClampNeg + 1) hv (by omega) (clt a.2.1 a.2.2) h60 b.1 b.2
  · have o1 := (h.2.2.2.1 1 (by decide)).2
    have l1 : (skLEAST.getD (4 * 2 + 1) 0).toInt = 0 := by decide
    have m1 : (skMOST.getD (4 * 2 + 1) 0).toInt = 100 := by decide
    exact vok_l hv h60 (by omega)
  · exact vok_d hv h60
  · have a := hr.1.2.2.2.2 rfl
    have o2 := (h.2.2.2.1 2 (by decide)).2
    have l1 : (skLEAST.getD (4 * 4 + 2) 0).toInt = 0 := by decide
    have m1 : (skMOST.getD (4 * 4 + 2) 0).toInt = 100 := by decide
    have l := clt (n := 2) a.1.1 a.1.2
    have e := cl_toInt (x := nv c n (tE c n p) 1) (by omega)
    exact vok_m hv h60 l (by omega) (by omega) (h.2.2.2.2.2.1 rfl)
/-! ===== the reader: a text ===== -/
def RIk (I q : Nat → Nat → Int32) (tk : Nat) (sa : Nat → Nat) (c : Nat → Int32) (n i : Nat) : Prop := ∃ (V : SV) (p : Nat), p ≤ n ∧ tokAt I tk c n p ∧ Ct q sa V.2 ∧ (I 15 (sa 0)).toInt = V.1 ∧ vok V ∧ ∀ o, Pars c n (61 - i) V p o → Pars c n 61 sv0 0 o
def RIt (f : Int) (I q : Nat → Nat → Int32) (tk : Nat) (sa : Nat → Nat) (c : Nat → Int32) (n i : Nat) : Prop := (f = 0 ∧ RIk I q tk sa c n i) ∨ (f ≠ 0 ∧ Pars c n 61 sv0 0 none)
theorem RIt.ok {f : Int} {I q : Nat → Nat → Int32} {tk n i : Nat} {sa : Nat → Nat} {c : Nat → Int32} (h : RIt f I q tk sa c n i) (hf : f = 0) : RIk I q tk sa c n i := by
  rcases h with h | h
  · exact h.2
  · exact absurd hf h.1
theorem RIt.no {f : Int} {I q : Nat → Nat → Int32} {tk n i : Nat} {sa : Nat → Nat} {c : Nat → Int32} (h : RIt f I q tk sa c n i) (hf : f ≠ 0 ∨ i = 61) : Pars c n 61 sv0 0 none := by
  rcases h with ⟨h1, V, p, _, _, _, _, _, h⟩ | h
  · rcases hf with hf | hf
    · exact absurd h1 hf
    · rw [hf] at h; exact h none rfl
  · exact h.2
theorem RI_s {f l15 p68 : Int} {I q : Nat → Nat → Int32} {tk n p b : Nat} {i i' : Int32} {sa : Nat → Nat} {c : Nat → Int32} {V : SV} (hp : p ≤ n) (hv : vok V) (hP : ∀ o, Pars c n (61 - i.toNatClampNeg) V p o → Pars c n 61 sv0 0 o) (h0 : 0 ≤ i.toInt) (h60 : i.toInt ≤ 60) (ti : i'.toInt = i.toInt + 1) (hk : tK c n p ≠ 1) (g : RLd f l15 p68 q sa c n V p) (ht : tokAt I tk c n b) (hb : p68 = (b : Int)) (hbn : b ≤ n) (h15 : (I 15 (sa 0)).toInt = l15) : RIt f I q tk sa c n i'.toNatClampNeg := by
  have e1 := cl_toInt h0
  have e2 := cl_toInt (x := i') (by omega)
  have e3 : 61 - i.toNatClampNeg = (61 - i'.toNatClampNeg) + 1 := by omega
  rcases g with ⟨g1, z, hz, g2, g3, g4, g5⟩ | ⟨g1, g2⟩
  · have eb : b = LnP c n p z := by omega
    refine Or.inl ⟨g1, LnV c n V p z, b, hbn, ht, g4, h15.trans g3, vok_s hv hz g2, fun o ho => hP o ?_⟩
    rw [e3]
    exact Or.inr (Or.inl ⟨hk, z, hz, g2, eb ▸ ho⟩)
  · refine Or.inr ⟨g1, hP none ?_⟩
    rw [e3]
    exact Or.inr (Or.inr ⟨hk, g2, rfl⟩)
set_option maxHeartbeats 4000000 in
set_option maxRecDepth 100000 in
theorem c_v_X9_rewind (l : Launch) (G : Gh) (S : Pl) (tk tp tb : Nat) (hK : shTok S tk tp tb) : MtV l yX9_rewind cX9_rewind 1 none (Rm 0 0 0) G [.ref tk] S (fun (S' : Pl) => ∃ I', ch S I' (pJ S) (qI S) (qJ S) = S' ∧ FrB (pI S) I' ∧ I' 68 tk = 0) 0 0 := by
  refine MtV.of (by decide) (Nat.le_of_ble_eq_true rfl) ?_
  intro p e s m args below meth c Q A X hw hin hret ls hl
  have hx := X.1.1
  have hb := X.1.2.1
  have hl : lv_has ls 1 [(0, .ref tk)] := hl
  refine lv_aload_n hx hb dX9_rewind_0 rfl (lv_at hl 0 rfl) ?_
  refine lv_iconst (v := 0) hx hb dX9_rewind_1 (by decide) ?_
  refine pf_X9_23 X hw hK.1 dX9_rewind_2 (fun H locs hw => ?_)
  have hw : PX G A s.heap (ch S (up2 (pI S) 68 tk 0) (pJ S) (qI S) (qJ S)) H locs := hw
  exact hret _ _ _ _ _ ⟨_, rfl, (FrB.up (f := 68) (by decide) FrB.rf), (show (up2 (pI S) 68 tk 0) 68 tk = (0 : Int32) from (show up2 (pI S) 68 tk 0 68 tk = 0 from up2_s))⟩ hw dX9_rewind_5
set_option maxHeartbeats 4000000 in
set_option maxRecDepth 100000 in
theorem c_v_X4_readInto (l : Launch) (G : Gh) (S : Pl) (rd nb tk tp tb : Nat) (tc : Nat → Int32) (tn : Nat) (sa : Nat → Nat) (hR : shRd S rd nb tk tp tb) (hS : shSea S sa) (hd : sdj sa) (htc : tc = tx (qI S tb) tn) (hn : (pI S 61 tp).toInt = (tn : Int)) (hz : tn ≤ 1000) (hnb : ∀ j ∈ sidR, sa j ≠ nb) (htb : ∀ j ∈ sidR, sa j ≠ tb) : MtI l yX4_readInto cX4_readInto 3 (some .boolean) (Rm 7 0 0) G [.ref rd, .ref (sa 0)] S (fun (r : Int32) (S' : Pl) => ∃ I' q', ch S I' (pJ S) q' (qJ S) = S' ∧ Fr (pI S) I' ∧ (∀ a, a ≠ nb → (∀ j ∈ sidR, a ≠ sa j) → q' a = qI S a) ∧ (∀ a, a ≠ sa 0 → I' 15 a = pI S 15 a) ∧ ((r.toInt = 1 ∧ ∃ V : SV, Pars tc tn 61 sv0 0 (some V) ∧ (I' 15 (sa 0)).toInt = V.1 ∧ Ct q' sa (stl V.2) ∧ vok V) ∨ (r.toInt = 0 ∧ Pars tc tn 61 sv0 0 none))) 0 0 := by
  refine MtI.of (by decide) (Nat.le_of_ble_eq_true rfl) ?_
  intro p e s m args below meth c Q A X hw hin hret ls hl
  have hx := X.1.1
  have hb := X.1.2.1
  have hl : lv_has ls 3 [(0, .ref rd), (1, .ref (sa 0))] := hl
  have ntb := (ne_kind hR.2.2.2.1 hR.2.2.2.2.2.2.2.2.2.1 (by decide)).symm
  refine lv_aload_n hx hb dX4_readInto_0 rfl (lv_at hl 0 rfl) ?_
  refine lv_iconst (v := 0) hx hb dX4_readInto_1 (by decide) ?_
  refine pf_X4_28 X hw hR.1 dX4_readInto_2 (fun H locs hw => ?_)
  have hw : PX G A s.heap (ch S (up2 (pI S) 22 rd 0) (pJ S) (qI S) (qJ S)) H locs := hw
  refine lv_aload_n hx hb dX4_readInto_5 rfl (lv_at hl 0 rfl) ?_
  refine lv_iconst (v := -1) hx hb dX4_readInto_6 (by decide) ?_
  refine pf_X4_15 X hw hR.1 dX4_readInto_7 (fun H locs hw => ?_)
  have hw : PX G A s.heap (ch S (up2 (up2 (pI S) 22 rd 0) 23 rd (-1)) (pJ S) (qI S) (qJ S)) H locs := hw
  have FZ22 : (up2 (up2 (pI S) 22 rd 0) 23 rd (-1)) 22 rd = 0 := (show (up2 (up2 (pI S) 22 rd 0) 23 rd (-1)) 22 rd = (0 : Int32) from (show up2 (pI S) 22 rd 0 22 rd = 0 from up2_s))
  refine lv_aload_n hx hb dX4_readInto_10 rfl (lv_at hl 1 rfl) ?_
  refine k_Vv (n := 0) X hw (rcvk (ci := 3) X hw hS.1 (fun _ _ _ _ _ _ _ => ⟨_, rfl⟩) rfl) (c_v_X3_clear l G _ sa hS hd) wd_r8_14 wd_r8_15 wd_r8_16 wd_r2_9 wd_r8_17 ⟨by decide, by decide, by decide +kernel⟩ rfl rfl ⟨Nat.le_of_ble_eq_true rfl, Nat.le_of_ble_eq_true rfl⟩ rfl rfl hl.1 (Nat.le_of_ble_eq_true rfl) dX4_readInto_11 ⟨Nat.le_of_ble_eq_true rfl, Nat.le_of_ble_eq_true rfl⟩ (fun S11_2 H locs h11_1 hw => ?_)
  obtain ⟨I11_3, q11_4, rfl, h11_1⟩ := h11_1
  have hw : PX G A s.heap (ch S I11_3 (pJ S) q11_4 (qJ S)) H locs := hw
  have HCL := h11_1
  have hqO : ∀ a, a ≠ nb → (∀ j ∈ sidR, a ≠ sa j) → q11_4 a = qI S a := fun a _ h2 => HCL.2.2 a h2
  have l15 : (I11_3 15 (sa 0)).toInt = 0 := by rw [HCL.1, up2_s]; decide
  have o15 : ∀ a, a ≠ sa 0 → I11_3 15 a = pI S 15 a := fun a ha => by rw [HCL.1]; exact up2_n ha
  have f22 : I11_3 22 rd = 0 := by rw [HCL.1]; exact (congrFun (up2_f (by decide)) rd).trans FZ22
  refine lv_aload_n hx hb dX4_readInto_14 rfl (lv_at hl 0 rfl) ?_
  refine gf_X4_24 (b := tk) X hw hR.1 hR.2.1 dX4_readInto_15 ?_
  refine k_Vv (n := 0) X hw (rcvk (ci := 9) X hw hR.2.2.2.2.2.1 (fun _ _ _ _ _ _ _ => ⟨_, rfl⟩) rfl) (c_v_X9_rewind l G _ tk tp tb hR.2.2.2.2.2) wd_r8_23 wd_r9_0 wd_r9_1 wd_r3_2 wd_r9_2 ⟨by decide, by decide, by decide +kernel⟩ rfl rfl ⟨Nat.le_of_ble_eq_true rfl, Nat.le_of_ble_eq_true rfl⟩ rfl rfl hl.1 (Nat.le_of_ble_eq_true rfl) dX4_readInto_18 ⟨Nat.le_of_ble_eq_true rfl, Nat.le_of_ble_eq_true rfl⟩ (fun S18_6 H locs h18_5 hw => ?_)
  obtain ⟨I18_7, rfl, h18_5⟩ := h18_5
  have hw : PX G A s.heap (ch S I18_7 (pJ S) q11_4 (qJ S)) H locs := hw
  have RW := h18_5
  have hb0 : 0 ≤ (I18_7 68 tk).toInt ∧ (I18_7 68 tk).toInt ≤ (tn : Int) := by rw [RW.2]; have := t_0; omega
  have w15 : I18_7 15 = I11_3 15 := RW.1 15 (by decide)
  have w22 : I18_7 22 rd = I11_3 22 rd := congrFun (RW.1 22 (by decide)) rd
  refine lv_aload_n hx hb dX4_readInto_21 rfl (lv_at hl 0 rfl) ?_
  refine gf_X4_24 (b := tk) X hw hR.1 hR.2.1 dX4_readInto_22 ?_
  refine k_Vv (n := 0) X hw (rcvk (ci := 9) X hw hR.2.2.2.2.2.1 (fun _ _ _ _ _ _ _ => ⟨_, rfl⟩) rfl) (c_v_X9_readNext l G _ tk tp tb tc tn hR.2.2.2.2.2 (htc.trans (congrArg (fun r9 => tx r9 tn) (hqO tb ntb (fun j hj => (htb j hj).symm)).symm)) (Fr.n (Fr.tr (Fr.tr (Fr.up (f := 23) (by decide) (Fr.up (f := 22) (by decide) Fr.rf)) (by rw [h11_1.1]; exact Fr.up (f := 15) (by decide) Fr.rf)) (h18_5.1.t.r)) hn) hz hb0) wd_r9_4 wd_r9_5 wd_r9_6 wd_r3_2 wd_r9_7 ⟨by decide, by decide, by decide +kernel⟩ rfl rfl ⟨Nat.le_of_ble_eq_true rfl, Nat.le_of_ble_eq_true rfl⟩ rfl rfl hl.1 (Nat.le_of_ble_eq_true rfl) dX4_readInto_25 ⟨Nat.le_of_ble_eq_true rfl, Nat.le_of_ble_eq_true rfl⟩ (fun S25_9 H locs h25_8 hw => ?_)
  obtain ⟨I25_10, rfl, h25_8⟩ := h25_8
  have hw : PX G A s.heap (ch S I25_10 (pJ S) q11_4 (qJ S)) H locs := hw
  have hTK0 : tokAt I25_10 tk tc tn 0 := by have e : (I18_7 68 tk).toNatClampNeg = 0 := (by rw [RW.2]; decide); have z := h25_8.2; rw [show (pI (ch S I18_7 (pJ S) q11_4 (qJ S)) 68 tk).toNatClampNeg = 0 from e] at z; exact z
  have x15 : I25_10 15 = I18_7 15 := h25_8.1 15 (by decide)
  have x22 : I25_10 22 rd = I18_7 22 rd := congrFun (h25_8.1 22 (by decide)) rd
  refine lv_iconst (v := 0) hx hb dX4_readInto_28 (by decide) ?_
  refine lv_istore_n (lv' := [(2, .int 0), (0, .ref rd), (1, .ref (sa 0))]) hx hb dX4_readInto_29 rfl hl (by decide) rfl (fun ls hl => ?_)
  have lp30 : ∀ (N9 : Nat) (I30 : Nat → Nat → Int32) (q30 : Nat → Nat → Int32) (i : Int32), (Fr (pI S) I30) → (0 ≤ i.toInt ∧ i.toInt ≤ 61) → (∀ a, a ≠ nb → (∀ j ∈ sidR, a ≠ sa j) → q30 a = qI S a) → (∀ a, a ≠ sa 0 → I30 15 a = pI S 15 a) → (RIt (I30 22 rd).toInt I30 q30 tk sa tc tn i.toNatClampNeg) → (61 - i.toInt).toNat < N9 → ∀ (H : Heap) (locs : List Loc) (ls : Array Slot), PX G A s.heap (ch S I30 (pJ S) q30 (qJ S)) H locs → lv_has ls 3 [(2, .int i), (0, .ref rd), (1, .ref (sa 0))] → W p l e (Rm 7 0 0) s m args below meth c H locs 0 0 Q (F0 m 30 ls []) := by
    intro N9
    induction N9 with
    | zero => intro I30 q30 i hF hi hqO h15 hst hm; exact absurd hm (Nat.not_lt_zero _)
    | succ N9 ih30 =>
      intro I30 q30 i hF hi hqO h15 hst hm H locs ls hw hl
      refine lv_iload_n hx hb dX4_readInto_30 rfl (lv_at hl 0 rfl) ?_
      refine lv_bipush (v := 60) hx hb dX4_readInto_31 (by decide) ?_
      refine lv_icmp_gt (tgt := 78) hx hb dX4_readInto_33 (by decide) (fun c33_11 => ?_) (fun c33_11 => ?_)
      · have D33_11 := iLt c33_11 t_60 rfl
        refine lv_iconst (v := 0) hx hb dX4_readInto_78 (by decide) ?_
        exact hret 0 _ _ _ _ _ ⟨_, _, rfl, hF, hqO, h15, Or.inr ⟨by decide, hst.no (by first | (left; omega) | (right; have := cl_toInt (x := i) hi.1; omega))⟩⟩ hw rfl dX4_readInto_79
      · have D33_11 := iNlt c33_11 t_60 rfl
        refine lv_aload_n hx hb dX4_readInto_36 rfl (lv_at hl 1 rfl) ?_
        refine gf_X4_28 (v := I30 22 rd) X hw hR.1 rfl dX4_readInto_37 ?_
        refine lv_if_ne (tgt := 78) hx hb dX4_readInto_40 (by decide) (fun c40_12 => ?_) (fun c40_12 => ?_)
        · have D40_12 := iNe c40_12 rfl t_0
          refine lv_iconst (v := 0) hx hb dX4_readInto_78 (by decide) ?_
          exact hret 0 _ _ _ _ _ ⟨_, _, rfl, hF, hqO, h15, Or.inr ⟨by decide, hst.no (by first | (left; omega) | (right; have := cl_toInt (x := i) hi.1; omega))⟩⟩ hw rfl dX4_readInto_79
        · have D40_12 := iEq c40_12 rfl t_0
          obtain ⟨V9, p9, hp9, hTK9, hct9, hl9, hvk9, hP9⟩ := hst.ok (by omega)
          refine lv_aload_n hx hb dX4_readInto_43 rfl (lv_at hl 1 rfl) ?_
          refine gf_X4_24 (b := tk) X hw hR.1 hR.2.1 dX4_readInto_44 ?_
          refine k_Vi (n := 0) X hw (rcvk (ci := 9) X hw hR.2.2.2.2.2.1 (fun _ _ _ _ _ _ _ => ⟨_, rfl⟩) rfl) (c_X9_kind l G _ tk tp tb hR.2.2.2.2.2) wd_r10_13 wd_r10_14 wd_r10_15 wd_r3_2 wd_r10_16 ⟨by decide, by decide, by decide +kernel⟩ rfl rfl ⟨Nat.le_of_ble_eq_true rfl, Nat.le_of_ble_eq_true rfl⟩ rfl rfl hl.1 (Nat.le_of_ble_eq_true rfl) dX4_readInto_47 ⟨Nat.le_of_ble_eq_true rfl, Nat.le_of_ble_eq_true rfl⟩ (fun r47_13 S47_15 H locs h47_14 hw => ?_)
          obtain ⟨rfl, h47_14⟩ := h47_14
          have hkd : r47_13.toInt = tK tc tn p9 := (congrArg Int32.toInt h47_14).trans hTK9.2.2.1
          refine lv_iconst (v := 1) hx hb dX4_readInto_50 (by decide) ?_
          refine lv_icmp_ne (tgt := 60) hx hb dX4_readInto_51 (by decide) (fun c51_16 => ?_) (fun c51_16 => ?_)
          · have D51_16 := iNe c51_16 rfl t_1
            refine lv_aload_n hx hb dX4_readInto_60 rfl (lv_at hl 1 rfl) ?_
            refine lv_aload_n hx hb dX4_readInto_61 rfl (lv_at hl 2 rfl) ?_
            refine k_Vv (n := 1) X hw (rcvk (ci := 4) X hw hR.1 (fun _ _ _ _ _ _ _ => ⟨_, rfl⟩) rfl) (c_v_X4_readLine l G _ rd nb tk tp tb tc tn sa V9 p9 hR hS hd (htc.trans (congrArg (fun r9 => tx r9 tn) (hqO tb ntb (fun j hj => (htb j hj).symm)).symm)) (Fr.n hF hn) hz hnb hct9 hl9 hvk9.1 hp9 hTK9 (by omega)) wd_r11_1 wd_r11_2 wd_r11_3 wd_r1_18 wd_r11_4 ⟨by decide, by decide, by decide +kernel⟩ rfl rfl ⟨Nat.le_of_ble_eq_true rfl, Nat.le_of_ble_eq_true rfl⟩ rfl rfl hl.1 (Nat.le_of_ble_eq_true rfl) dX4_readInto_62 ⟨Nat.le_of_ble_eq_true rfl, Nat.le_of_ble_eq_true rfl⟩ (fun S62_18 H locs h62_17 hw => ?_)
            obtain ⟨I62_19, q62_20, rfl, h62_17⟩ := h62_17
            have hw : PX G A s.heap (ch S I62_19 (pJ S) q62_20 (qJ S)) H locs := hw
            have HLN := h62_17
            have hqO2 : ∀ a, a ≠ nb → (∀ j ∈ sidR, a ≠ sa j) → q62_20 a = qI S a := fun a h1 h2 => (HLN.2.1 a h1 h2).trans (hqO a h1 h2)
            refine lv_aload_n hx hb dX4_readInto_65 rfl (lv_at hl 1 rfl) ?_
            refine gf_X4_24 (b := tk) X hw hR.1 hR.2.1 dX4_readInto_66 ?_
            refine k_Vv (n := 0) X hw (rcvk (ci := 9) X hw hR.2.2.2.2.2.1 (fun _ _ _ _ _ _ _ => ⟨_, rfl⟩) rfl) (c_v_X9_readNext l G _ tk tp tb tc tn hR.2.2.2.2.2 (htc.trans (congrArg (fun r9 => tx r9 tn) (hqO2 tb ntb (fun j hj => (htb j hj).symm)).symm)) (Fr.n (Fr.tr hF h62_17.1) hn) hz HLN.2.2.2.1) wd_r9_4 wd_r9_5 wd_r9_6 wd_r3_2 wd_r9_7 ⟨by decide, by decide, by decide +kernel⟩ rfl rfl ⟨Nat.le_of_ble_eq_true rfl, Nat.le_of_ble_eq_true rfl⟩ rfl rfl hl.1 (Nat.le_of_ble_eq_true rfl) dX4_readInto_69 ⟨Nat.le_of_ble_eq_true rfl, Nat.le_of_ble_eq_true rfl⟩ (fun S69_22 H locs h69_21 hw => ?_)
            obtain ⟨I69_23, rfl, h69_21⟩ := h69_21
            have hw : PX G A s.heap (ch S I69_23 (pJ S) q62_20 (qJ S)) H locs := hw
            obtain ⟨B9, hB9⟩ : ∃ z : Nat, (I62_19 68 tk).toNatClampNeg = z := ⟨_, rfl⟩
            have hTKn : tokAt I69_23 tk tc tn B9 := by rw [← hB9]; exact h69_21.2
            have hBi : (I62_19 68 tk).toInt = (B9 : Int) := by have := cl_toInt (x := I62_19 68 tk) HLN.2.2.2.1.1; omega
            have y15 : I69_23 15 = I62_19 15 := h69_21.1 15 (by decide)
            have y22 : I69_23 22 rd = I62_19 22 rd := congrFun (h69_21.1 22 (by decide)) rd
            have HBn := HLN.2.2.2.1.2
            obtain ⟨v72_24, e72_24⟩ : ∃ y : Int32, y = i + 1 := ⟨_, rfl⟩
            have t72_24 := iAdd e72_24 rfl t_1 (by omega) (by omega)
            have t72 := t72_24
            refine lv_iinc (v := v72_24) (lv' := [(2, .int v72_24), (0, .ref rd), (1, .ref (sa 0))]) hx hb dX4_readInto_72 hl (k := 0) rfl (by rw [e72_24]; rfl) (by decide) rfl (fun ls hl => ?_)
            refine lv_goto (tgt := 30) hx hb dX4_readInto_75 (by decide) ?_
            exact ih30 I69_23 q62_20 v72_24 (Fr.tr (Fr.tr hF h62_17.1) (h69_21.1.r)) (by omega) hqO2 (fun a ha => ((congrFun y15 a).trans (HLN.2.2.1 a ha)).trans (h15 a ha)) (by rw [y22]; exact RI_s hp9 hvk9 hP9 hi.1 (by omega) t72 (by omega) HLN.2.2.2.2 hTKn hBi (by omega) (congrArg Int32.toInt (congrFun y15 (sa 0)))) (by omega) _ _ _ hw (lv_sub hl [0, 1, 2] rfl)
          · have D51_16 := iEq c51_16 rfl t_1
            refine lv_aload_n hx hb dX4_readInto_54 rfl (lv_at hl 2 rfl) ?_
            refine k_Vv (n := 0) X hw (rcvk (ci := 3) X hw hS.1 (fun _ _ _ _ _ _ _ => ⟨_, rfl⟩) rfl) (c_v_X3_settle l G _ sa V9.2 hS hd hct9 hvk9.2.1) wd_r10_17 wd_r10_18 wd_r10_19 wd_r2_9 wd_r10_20 ⟨by decide, by decide, by decide +kernel⟩ rfl rfl ⟨Nat.le_of_ble_eq_true rfl, Nat.le_of_ble_eq_true rfl⟩ rfl rfl hl.1 (Nat.le_of_ble_eq_true rfl) dX4_readInto_55 ⟨Nat.le_of_ble_eq_true rfl, Nat.le_of_ble_eq_true rfl⟩ (fun S55_26 H locs h55_25 hw => ?_)
            obtain ⟨q55_27, rfl, h55_25⟩ := h55_25
            have hw : PX G A s.heap (ch S I30 (pJ S) q55_27 (qJ S)) H locs := hw
            have HST := h55_25
            refine lv_iconst (v := 1) hx hb dX4_readInto_58 (by decide) ?_
            exact hret 1 _ _ _ _ _ ⟨_, _, rfl, hF, fun a h1 h2 => (HST.2 a h2).trans (hqO a h1 h2), h15, Or.inl ⟨by decide, V9, hP9 _ (by rw [show 61 - i.toNatClampNeg = (60 - i.toNatClampNeg) + 1 by have := cl_toInt (x := i) hi.1; omega]; exact Or.inl ⟨by omega, rfl⟩), hl9, HST.1, hvk9⟩⟩ hw rfl dX4_readInto_59
  exact lp30 _ I25_10 q11_4 0 (Fr.tr (Fr.tr (Fr.tr (Fr.up (f := 23) (by decide) (Fr.up (f := 22) (by decide) Fr.rf)) (by rw [h11_1.1]; exact Fr.up (f := 15) (by decide) Fr.rf)) (h18_5.1.t.r)) (h25_8.1.r)) (by have := t_0; omega) hqO (fun a ha => (congrFun (x15.trans w15) a).trans (o15 a ha)) (Or.inl ⟨by rw [x22, w22, f22]; decide, sv0, 0, Nat.zero_le _, hTK0, HCL.2.1, (congrArg Int32.toInt (congrFun (x15.trans w15) (sa 0))).trans l15, vok_0, fun o ho => by rw [show (0 : Int32).toNatClampNeg = 0 by decide] at ho; exact ho⟩) (Nat.lt_succ_self _) _ _ _ hw (lv_sub hl [0, 1, 2] rfl)
