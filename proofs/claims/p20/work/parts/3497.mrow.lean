
/-! ===== the model's lines, sort by sort ===== -/
section GLS
variable {C : Nat → Nat → Int32} {c : Nat → Int32} {n p : Nat}
def gN (c : Nat → Int32) (n p : Nat) (x y : Int32) : Prop := tK c n p = 3 ∧ x.toInt ≤ (tV c n p).toInt ∧ (tV c n p).toInt ≤ y.toInt
theorem GL_0 : ((((True ∧ gN c n p 0 71) ∧ ¬ told C 0 (nv c n p 0).toNatClampNeg (nv c n p 1).toNatClampNeg) ∧ gN c n (tE c n p) (-30) 30) ∧ gN c n (tE c n (tE c n p)) (-30) 30) ↔ GL C c n p 0 := by
  constructor
  · rintro ⟨⟨⟨⟨_, a⟩, t⟩, b⟩, d⟩
    refine ⟨fun i hi => ?_, t, fun q => absurd q (by decide)⟩
    rw [show numS 0 = 3 by decide] at hi
    rcases (show i = 0 ∨ i = 1 ∨ i = 2 by omega) with rfl | rfl | rfl
    · exact a
    · exact b
    · exact d
  · rintro ⟨a, t, _⟩
    exact ⟨⟨⟨⟨trivial, a 0 (by decide)⟩, t⟩, a 1 (by decide)⟩, a 2 (by decide)⟩
theorem GL_1 : (((((True ∧ gN c n p 0 3) ∧ gN c n (tE c n p) 0 71) ∧ ¬ told C 1 (nv c n p 0).toNatClampNeg (nv c n p 1).toNatClampNeg) ∧ gN c n (tE c n (tE c n p)) (-30) 30) ∧ gN c n (tE c n (tE c n (tE c n p))) (-30) 30) ↔ GL C c n p 1 := by
  constructor
  · rintro ⟨⟨⟨⟨⟨_, a⟩, b⟩, t⟩, d⟩, f⟩
    refine ⟨fun i hi => ?_, t, fun q => absurd q (by decide)⟩
    rw [show numS 1 = 4 by decide] at hi
    rcases (show i = 0 ∨ i = 1 ∨ i = 2 ∨ i = 3 by omega) with rfl | rfl | rfl | rfl
    · exact a
    · exact b
    · exact d
    · exact f
  · rintro ⟨a, t, _⟩
    exact ⟨⟨⟨⟨⟨trivial, a 0 (by decide)⟩, a 1 (by decide)⟩, t⟩, a 2 (by decide)⟩, a 3 (by decide)⟩
theorem GL_2 : (((True ∧ gN c n p 0 3) ∧ ¬ told C 2 (nv c n p 0).toNatClampNeg (nv c n p 1).toNatClampNeg) ∧ gN c n (tE c n p) 0 100) ↔ GL C c n p 2 := by
  constructor
  · rintro ⟨⟨⟨_, a⟩, t⟩, b⟩
    refine ⟨fun i hi => ?_, t, fun q => absurd q (by decide)⟩
    rw [show numS 2 = 2 by decide] at hi
    rcases (show i = 0 ∨ i = 1 by omega) with rfl | rfl
    · exact a
    · exact b
  · rintro ⟨a, t, _⟩
    exact ⟨⟨⟨trivial, a 0 (by decide)⟩, t⟩, a 1 (by decide)⟩
theorem GL_3 : (((True ∧ gN c n p 0 7) ∧ gN c n (tE c n p) 0 7) ∧ ¬ told C 3 (nv c n p 0).toNatClampNeg (nv c n p 1).toNatClampNeg) ↔ GL C c n p 3 := by
  constructor
  · rintro ⟨⟨⟨_, a⟩, b⟩, t⟩
    refine ⟨fun i hi => ?_, t, fun q => absurd q (by decide)⟩
    rw [show numS 3 = 2 by decide] at hi
    rcases (show i = 0 ∨ i = 1 by omega) with rfl | rfl
    · exact a
    · exact b
  · rintro ⟨a, t, _⟩
    exact ⟨⟨⟨trivial, a 0 (by decide)⟩, a 1 (by decide)⟩, t⟩
theorem GL_4 : (((((True ∧ gN c n p 0 1) ∧ gN c n (tE c n p) 1 20) ∧ ¬ told C 4 (nv c n p 0).toNatClampNeg (nv c n p 1).toNatClampNeg) ∧ gN c n (tE c n (tE c n p)) 0 100) ∧ fits (C 4) (nv c n p 0).toNatClampNeg (nv c n p 1).toNatClampNeg (nv c n p 2).toInt) ↔ GL C c n p 4 := by
  constructor
  · rintro ⟨⟨⟨⟨⟨_, a⟩, b⟩, t⟩, d⟩, f⟩
    refine ⟨fun i hi => ?_, t, fun _ => f⟩
    rw [show numS 4 = 3 by decide] at hi
    rcases (show i = 0 ∨ i = 1 ∨ i = 2 by omega) with rfl | rfl | rfl
    · exact a
    · exact b
    · exact d
  · rintro ⟨a, t, f⟩
    exact ⟨⟨⟨⟨⟨trivial, a 0 (by decide)⟩, a 1 (by decide)⟩, t⟩, a 2 (by decide)⟩, f rfl⟩
end GLS
section TWS
variable {q : Nat → Nat → Int32} {ma : Nat → Nat} {b : Nat} {V : SV} {v : Int32}
theorem tw_w {i h k : Nat} (g : MBk q ma b V.2) (hv : vok V) (hh : h < 72) (hi : i = 72 * b + h) (e : v = q (ma 13) i) : v.toInt = -100 ↔ ¬ told V.2 0 h k := by
  have z := g.1 h hh
  show v.toInt = -100 ↔ ¬ ¬ V.2 13 h = 0
  subst hi
  rw [← e] at z
  constructor
  · intro a d
    have w := hv.2.1 11 (by decide) (by decide) h hh
    rw [(z.2 d).1] at a; omega
  · intro a
    by_cases d : V.2 13 h = 0
    · rw [z.1 d]; decide
    · exact absurd d a
theorem tw_s {i a h : Nat} (g : MBk q ma b V.2) (hv : vok V) (ha : a < 4) (hh : h < 72) (hi : i = 72 * (4 * b + a) + h) (e : v = q (ma 15) i) : v.toInt = -100 ↔ ¬ told V.2 1 a h := by
  have z := g.2.1 a ha h hh
  show v.toInt = -100 ↔ ¬ ¬ V.2 (10 + 4 * (a + 1) + 3) h = 0
  subst hi
  rw [← e] at z
  constructor
  · intro x d
    have w := hv.2.1 (10 + 4 * (a + 1) + 1) (fl_in (by omega) (by omega)) (by omega) h hh
    rw [(z.2 d).1] at x; omega
  · intro x
    by_cases d : V.2 (10 + 4 * (a + 1) + 3) h = 0
    · rw [z.1 d]; decide
    · exact absurd d x
theorem tw_l {i h k : Nat} (g : MBk q ma b V.2) (hh : h < 4) (hi : i = 4 * b + h) (e : v = q (ma 20) i) : v.toInt = 0 ↔ ¬ told V.2 2 h k := by
  have z := g.2.2.1 h hh
  show v.toInt = 0 ↔ ¬ ¬ V.2 2 h = -1
  subst hi
  rw [← e] at z
  constructor
  · intro a d
    rw [(z.2 d).2] at a; exact absurd a (by decide)
  · intro a
    by_cases d : V.2 2 h = -1
    · rw [(z.1 d).2]; decide
    · exact absurd d a
theorem tw_d {i x y : Nat} (g : MBk q ma b V.2) (hh : 8 * y + x < 64) (hi : i = 64 * b + (8 * y + x)) (e : v = q (ma 19) i) : v.toInt = 0 ↔ ¬ told V.2 3 x y := by
  have z := g.2.2.2.1 _ hh
  show v.toInt = 0 ↔ ¬ ¬ V.2 3 (8 * y + x) = 0
  subst hi
  rw [← e] at z
  rw [z]
  constructor
  · intro a d
    exact d (Int32.toInt_inj.mp a)
  · intro a
    by_cases d : V.2 3 (8 * y + x) = 0
    · rw [d]; decide
    · exact absurd d a
theorem tw_m {i x y : Nat} (g : MBk q ma b V.2) (hv : vok V) (hh : 21 * x + y < 42) (hi : i = 42 * b + (21 * x + y)) (e : v = q (ma 18) i) : v.toInt = -100 ↔ ¬ told V.2 4 x y := by
  have z := g.2.2.2.2 _ hh
  show v.toInt = -100 ↔ ¬ ¬ V.2 4 (21 * x + y) = -1
  subst hi
  rw [← e] at z
  constructor
  · intro a d
    have w := (hv.2.2.2.2.2.1 _ hh).resolve_left d
    rw [z.2 d] at a; omega
  · intro a
    by_cases d : V.2 4 (21 * x + y) = -1
    · rw [z.1 d]; decide
    · exact absurd d a
end TWS
theorem ms_at {q : Nat → Nat → Int32} {ma : Nat → Nat} {b : Nat} {V : SV} {x k : Nat} {i v : Int32} (g : MBk q ma b V.2) (hv : vok V) (hh : 21 * x + k < 42) (hi : i.toInt = ((42 * b + (21 * x + k) : Nat) : Int)) (e : v = q (ma 18) i.toNatClampNeg) : (V.2 4 (21 * x + k) = -1 ∧ v.toInt = -100) ∨ (¬ V.2 4 (21 * x + k) = -1 ∧ v = V.2 4 (21 * x + k) ∧ 0 ≤ v.toInt) := by
  have h1 := cl_toInt (x := i) (by omega)
  have z := g.2.2.2.2 _ hh
  rw [show i.toNatClampNeg = 42 * b + (21 * x + k) by omega] at e
  rw [← e] at z
  by_cases d : V.2 4 (21 * x + k) = -1
  · exact Or.inl ⟨d, by rw [z.1 d]; decide⟩
  · have w := (hv.2.2.2.2.2.1 _ hh).resolve_left d
    exact Or.inr ⟨d, z.2 d, by rw [z.2 d]; omega⟩
theorem nn1 {x : Int32} (h : 0 ≤ x.toInt) : ¬ x = -1 := fun e => by rw [e] at h; exact absurd h (by decide)
/-! the bounds that the model draws from the misses told -/
def mwL (r : Nat → Int32) (k : Nat) (z : Int) : Prop := ((∀ j, 1 ≤ j → j < k → r j = -1) ∧ z = 100) ∨ ∃ i, 1 ≤ i ∧ i < k ∧ ¬ r i = -1 ∧ z = (r i).toInt ∧ ∀ j, i < j → j < k → r j = -1
def mwG (r : Nat → Int32) (k : Nat) (z : Int) : Prop := ((∀ j, k < j → j ≤ 20 → r j = -1) ∧ z = 0) ∨ ∃ i, k < i ∧ i ≤ 20 ∧ ¬ r i = -1 ∧ z = (r i).toInt ∧ ∀ j, k < j → j < i → r j = -1
theorem mwL_1 {r : Nat → Int32} {z : Int32} (h : z.toInt = 100) : mwL r (1 : Int32).toNatClampNeg z.toInt := Or.inl ⟨fun j h1 h2 => absurd h2 (by rw [show (1 : Int32).toNatClampNeg = 1 by decide]; omega), h⟩
theorem mwG_20 {r : Nat → Int32} {z : Int32} (h : z.toInt = 0) : mwG r (20 : Int32).toNatClampNeg z.toInt := Or.inl ⟨fun j h1 h2 => absurd h1 (by rw [show (20 : Int32).toNatClampNeg = 20 by decide]; omega), h⟩
theorem mwL_s {r : Nat → Int32} {k k' : Int32} {z z' : Int} (h : mwL r k.toNatClampNeg z) (h1 : 1 ≤ k.toInt) (tk : k'.toInt = k.toInt + 1) (hz : (r k.toNatClampNeg = -1 ∧ z' = z) ∨ (¬ r k.toNatClampNeg = -1 ∧ z' = (r k.toNatClampNeg).toInt)) : mwL r k'.toNatClampNeg z' := by
  have e1 := cl_toInt (x := k) (by omega)
  have e2 := cl_toInt (x := k') (by omega)
  rw [show k'.toNatClampNeg = k.toNatClampNeg + 1 by omega]
  rcases hz with ⟨a, rfl⟩ | ⟨a, b⟩
  · rcases h with ⟨x, y⟩ | ⟨i, i1, i2, i3, i4, i5⟩
    · refine Or.inl ⟨fun j j1 j2 => ?_, y⟩
      by_cases q : j = k.toNatClampNeg
      · rw [q]; exact a
      · exact x j j1 (by omega)
    · refine Or.inr ⟨i, i1, by omega, i3, i4, fun j j1 j2 => ?_⟩
      by_cases q : j = k.toNatClampNeg
      · rw [q]; exact a
      · exact i5 j j1 (by omega)
  · exact Or.inr ⟨k.toNatClampNeg, by omega, by omega, a, b, fun j j1 j2 => by omega⟩
theorem mwG_s {r : Nat → Int32} {k k' : Int32} {z z' : Int} (h : mwG r k.toNatClampNeg z) (h1 : 1 ≤ k.toInt) (h20 : k.toInt ≤ 20) (tk : k'.toInt = k.toInt + -1) (hz : (r k.toNatClampNeg = -1 ∧ z' = z) ∨ (¬ r k.toNatClampNeg = -1 ∧ z' = (r k.toNatClampNeg).toInt)) : mwG r k'.toNatClampNeg z' := by
  have e1 := cl_toInt (x := k) (by omega)
  have e2 := cl_toInt (x := k') (by omega)
  have e3 : k'.toNatClampNeg = k.toNatClampNeg - 1 := by omega
  rcases hz with ⟨a, rfl⟩ | ⟨a, b⟩
  · rcases h with ⟨x, y⟩ | ⟨i, i1, i2, i3, i4, i5⟩
    · refine Or.inl ⟨fun j j1 j2 => ?_, y⟩
      by_cases q : j = k.toNatClampNeg
      · rw [q]; exact a
      · exact x j (by omega) j2
    · refine Or.inr ⟨i, by omega, i2, i3, i4, fun j j1 j2 => ?_⟩
      by_cases q : j = k.toNatClampNeg
      · rw [q]; exact a
      · exact i5 j (by omega) j2
  · exact Or.inr ⟨k.toNatClampNeg, by omega, by omega, a, b, fun j j1 j2 => by omega⟩
theorem mw_fits {V : SV} {a b : Nat} {v x y : Int} (hv : vok V) (ha : a < 2) (hb : 1 ≤ b ∧ b ≤ 20) (h : 0 ≤ v ∧ v ≤ 100) (hl : mwL (fun j => V.2 4 (21 * a + j)) b x) (hg : mwG (fun j => V.2 4 (21 * a + j)) b y) : (v ≤ x ∧ y ≤ v) ↔ fits (V.2 4) a b v := by
  have mono := hv.2.2.2.2.2.2.2 a ha
  have rg := hv.2.2.2.2.2.1
  constructor
  · rintro ⟨h1, h2⟩
    refine ⟨fun j j1 j2 _ j4 => ?_, fun j j1 j2 j3 j4 => ?_⟩
    · rcases hl with ⟨z, _⟩ | ⟨i, i1, i2, i3, i4, i5⟩
      · exact absurd (z j j1 j2) j4
      · have i4 : x = (V.2 4 (21 * a + i)).toInt := i4
        by_cases q : i < j
        · exact absurd (i5 j q j2) j4
        · by_cases w : j = i
          · rw [w]; omega
          · have := mono j i j1 (by omega) (by omega) j4 i3; omega
    · rcases hg with ⟨z, _⟩ | ⟨i, i1, i2, i3, i4, i5⟩
      · exact absurd (z j j1 j3) j4
      · have i4 : y = (V.2 4 (21 * a + i)).toInt := i4
        by_cases q : j < i
        · exact absurd (i5 j j1 q) j4
        · by_cases w : j = i
          · rw [w]; omega
          · have := mono i j (by omega) (by omega) (by omega) i3 j4; omega
  · rintro ⟨h1, h2⟩
    refine ⟨?_, ?_⟩
    · rcases hl with ⟨_, z⟩ | ⟨i, i1, i2, i3, i4, i5⟩
      · omega
      · have i4 : x = (V.2 4 (21 * a + i)).toInt := i4
        have := h1 i i1 i2 i2 i3; omega
    · rcases hg with ⟨_, z⟩ | ⟨i, i1, i2, i3, i4, i5⟩
      · omega
      · have i4 : y = (V.2 4 (21 * a + i)).toInt := i4
        have := h2 i i1 (by omega) i2 i3; omega
set_option maxHeartbeats 4000000 in
set_option maxRecDepth 100000 in
theorem c_v_X11_readWind (l : Launch) (G : Gh) (S : Pl) (ma : Nat → Nat) (tc : Nat → Int32) (tn : Nat) (pp bb : Nat) (V : SV) (hM : shMod S ma) (htc : tc = tx (qI S (ma 2)) tn) (hn : (pI S 103 (ma 0)).toInt = (tn : Int)) (hz : tn ≤ 1000) (hpp : pp ≤ tn) (hst : Mst (pI S) (pJ S) (ma 0) tc tn pp True) (hrb : (pI S 121 (ma 0)).toInt = (bb : Int)) (hb1 : bb ≤ 1) (hMB : MBk (qI S) ma bb V.2) (hvk : vok V) (hms : MsOK (qI S (ma 18))) (hE : eM (pI S) (ma 0)) : MtV l yX11_readWind cX11_readWind 4 none (Rm 4 0 0) G [.ref (ma 0)] S (fun (S' : Pl) => ∃ I' J' q', ch S I' J' q' (qJ S) = S' ∧ FrM (pI S) I' ∧ FrQ 13 ma (qI S) q' ∧ KeepB (qI S) q' ma bb ∧ MsOK (q' (ma 18)) ∧ Mst I' J' (ma 0) tc tn (pz tc tn pp 3) (GL V.2 tc tn pp 0) ∧ (GL V.2 tc tn pp 0 → MBk q' ma bb (TC V.2 tc tn pp 0)) ∧ eM I' (ma 0)) 0 0 := by
  refine MtV.of (by decide) (Nat.le_of_ble_eq_true rfl) ?_
  intro p e s m args below meth c Q A X hw hin hret ls hl
  have hx := X.1.1
  have hb := X.1.2.1
  have hl : lv_has ls 4 [(0, .ref (ma 0))] := hl
  have hp1 : tE tc tn pp ≤ tn := (tE_le hpp).2
  have hp2 : tE tc tn (tE tc tn pp) ≤ tn := (tE_le hp1).2
  have hp3 : tE tc tn (tE tc tn (tE tc tn pp)) ≤ tn := (tE_le hp2).2
  refine lv_bipush (v := 72) hx hb dX11_readWind_0 (by decide) ?_
  refine lv_aload_n hx hb dX11_readWind_2 rfl (lv_at hl 0 rfl) ?_
  refine gf_X11_149 (v := (pI S) 121 (ma 0)) X hw hM.1 rfl dX11_readWind_3 ?_
  refine lv_imul hx hb dX11_readWind_6 ?_
  refine lv_topi (fun v6_1 e6_1 => ?_)
  have t6_1 := iMul e6_1 t_72 rfl (by omega) (by omega)
  have t6 := t6_1
  refine lv_aload_n hx hb dX11_readWind_7 rfl (lv_at hl 0 rfl) ?_
  refine lv_iconst (v := 0) hx hb dX11_readWind_8 (by decide) ?_
  refine lv_bipush (v := 71) hx hb dX11_readWind_9 (by decide) ?_
  refine k_Vi (n := 2) X hw (rcvk (ci := 11) X hw hM.1 (fun _ _ _ _ _ _ _ => ⟨_, rfl⟩) rfl) (c_v_X11_numeral l G _ ma tc tn pp _ 0 71 (0) hM htc (FrM.n FrM.rf hn) hz hpp hst (by decide) hE) wd_r22_17 wd_r22_18 wd_r22_19 wd_r1_5 wd_r22_20 ⟨by decide, by decide, by decide +kernel⟩ rfl rfl ⟨Nat.le_of_ble_eq_true rfl, Nat.le_of_ble_eq_true rfl⟩ rfl rfl hl.1 (Nat.le_of_ble_eq_true rfl) dX11_readWind_11 ⟨Nat.le_of_ble_eq_true rfl, Nat.le_of_ble_eq_true rfl⟩ (fun r11_2 S11_4 H locs h11_3 hw => ?_)
  have := t_0
  have := t_71
  obtain ⟨I11_5, J11_6, rfl, h11_3⟩ := h11_3
  have hw : PX G A s.heap (ch S I11_5 J11_6 (qI S) (qJ S)) H locs := hw
  have hst1 := h11_3.2.1
  have hr1 := h11_3.2.2.1
  have hbd1 := h11_3.2.2.2
  obtain ⟨N1, hN1⟩ : ∃ z : Int32, r11_2 = z := ⟨_, rfl⟩
  have hNt1 := congrArg Int32.toInt hN1
  have h11_3b := congrArg Int32.toInt (FrM.rb (FrM.tr FrM.rf h11_3.1) (ma 0))
  refine lv_iadd hx hb dX11_readWind_14 ?_
  refine lv_topi (fun v14_7 e14_7 => ?_)
  have t14_7 := iAdd e14_7 rfl rfl (by omega) (by omega)
  have t14 := t14_7
  refine lv_istore_n (lv' := [(1, .int v14_7), (0, .ref (ma 0))]) hx hb dX11_readWind_15 rfl hl (by decide) rfl (fun ls hl => ?_)
  have hcl1 := cl_toInt (x := N1) (by omega)
  have hcl2 := cl_toInt (x := v14_7) (by omega)
  have hix : v14_7.toNatClampNeg = 72 * bb + N1.toNatClampNeg := by omega
  have hlt : N1.toNatClampNeg < 72 := by omega
  have lp36 : ∀ (Ic36 : Nat → Nat → Int32), (FrM (pI S) Ic36) → (eM Ic36 (ma 0)) → (Mst Ic36 J11_6 (ma 0) tc tn (tE tc tn pp) ((True ∧ gN tc tn pp 0 71) ∧ ¬ told V.2 0 (nv tc tn pp 0).toNatClampNeg (nv tc tn pp 1).toNatClampNeg)) → ∀ (H : Heap) (locs : List Loc) (ls : Array Slot), PX G A s.heap (ch S Ic36 J11_6 (qI S) (qJ S)) H locs → lv_has ls 4 [(0, .ref (ma 0)), (1, .int v14_7)] → W p l e (Rm 4 0 0) s m args below meth c H locs 0 0 Q (F0 m 36 ls []) := by
    intro Ic36 hF hE1 hst2 H locs ls hw hl
    have hbb9 := congrArg Int32.toInt (FrM.rb hF (ma 0))
    refine lv_aload_n hx hb dX11_readWind_36 rfl (lv_at hl 0 rfl) ?_
    refine lv_bipush (v := -30) hx hb dX11_readWind_37 (by decide) ?_
    refine lv_bipush (v := 30) hx hb dX11_readWind_39 (by decide) ?_
    refine k_Vi (n := 2) X hw (rcvk (ci := 11) X hw hM.1 (fun _ _ _ _ _ _ _ => ⟨_, rfl⟩) rfl) (c_v_X11_numeral l G _ ma tc tn (tE tc tn pp) _ (-30) 30 (-30) hM htc (FrM.n hF hn) hz hp1 hst2 (by decide) hE1) wd_r22_17 wd_r22_18 wd_r22_19 wd_r1_5 wd_r22_20 ⟨by decide, by decide, by decide +kernel⟩ rfl rfl ⟨Nat.le_of_ble_eq_true rfl, Nat.le_of_ble_eq_true rfl⟩ rfl rfl hl.1 (Nat.le_of_ble_eq_true rfl) dX11_readWind_41 ⟨Nat.le_of_ble_eq_true rfl, Nat.le_of_ble_eq_true rfl⟩ (fun r41_8 S41_10 H locs h41_9 hw => ?_)
    have := t_m30
    have := t_30
    obtain ⟨I41_11, J41_12, rfl, h41_9⟩ := h41_9
    have hw : PX G A s.heap (ch S I41_11 J41_12 (qI S) (qJ S)) H locs := hw
    have hst3 := h41_9.2.1
    have hr3 := h41_9.2.2.1
    have hbd3 := h41_9.2.2.2
    obtain ⟨N3, hN3⟩ : ∃ z : Int32, r41_8 = z := ⟨_, rfl⟩
    have hNt3 := congrArg Int32.toInt hN3
    have h41_9b := congrArg Int32.toInt (FrM.rb (FrM.tr hF h41_9.1) (ma 0))
    refine lv_istore_n (lv' := [(2, .int r41_8), (0, .ref (ma 0)), (1, .int v14_7)]) hx hb dX11_readWind_44 rfl hl (by decide) rfl (fun ls hl => ?_)
    refine lv_aload_n hx hb dX11_readWind_45 rfl (lv_at hl 1 rfl) ?_
    refine lv_bipush (v := -30) hx hb dX11_readWind_46 (by decide) ?_
    refine lv_bipush (v := 30) hx hb dX11_readWind_48 (by decide) ?_
    refine k_Vi (n := 2) X hw (rcvk (ci := 11) X hw hM.1 (fun _ _ _ _ _ _ _ => ⟨_, rfl⟩) rfl) (c_v_X11_numeral l G _ ma tc tn (tE tc tn (tE tc tn pp)) _ (-30) 30 (-30) hM htc (FrM.n (FrM.tr hF h41_9.1) hn) hz hp2 hst3 (by decide) h41_9.2.2.2.2.2) wd_r22_17 wd_r22_18 wd_r22_19 wd_r1_5 wd_r22_20 ⟨by decide, by decide, by decide +kernel⟩ rfl rfl ⟨Nat.le_of_ble_eq_true rfl, Nat.le_of_ble_eq_true rfl⟩ rfl rfl hl.1 (Nat.le_of_ble_eq_true rfl) dX11_readWind_50 ⟨Nat.le_of_ble_eq_true rfl, Nat.le_of_ble_eq_true rfl⟩ (fun r50_13 S50_15 H locs h50_14 hw => ?_)
    have := t_m30
    have := t_30
    obtain ⟨I50_16, J50_17, rfl, h50_14⟩ := h50_14
    have hw : PX G A s.heap (ch S I50_16 J50_17 (qI S) (qJ S)) H locs := hw
    have hst4 := h50_14.2.1
    have hr4 := h50_14.2.2.1
    have hbd4 := h50_14.2.2.2
    obtain ⟨N4, hN4⟩ : ∃ z : Int32, r50_13 = z := ⟨_, rfl⟩
    have hNt4 := congrArg Int32.toInt hN4
    have h50_14b := congrArg Int32.toInt (FrM.rb (FrM.tr (FrM.tr hF h41_9.1) h50_14.1) (ma 0))
    refine lv_istore_n (lv' := [(3, .int r50_13), (2, .int r41_8), (0, .ref (ma 0)), (1, .int v14_7)]) hx hb dX11_readWind_53 rfl hl (by decide) rfl (fun ls hl => ?_)
    refine lv_aload_n hx hb dX11_readWind_54 rfl (lv_at hl 2 rfl) ?_
    refine gf_X11_65 (b := (ma 13)) X hw hM.1 (mr_13 hM) dX11_readWind_55 ?_
    refine lv_iload_n hx hb dX11_readWind_58 rfl (lv_at hl 3 rfl) ?_
    refine lv_iload_n hx hb dX11_readWind_59 rfl (lv_at hl 1 rfl) ?_
    refine q_stI X hw (mk_13 hM) (vin (mn_13 hM) (by omega) (by omega)) dX11_readWind_60 (fun H locs hw => ?_)
    obtain ⟨q60_18, eq60_18, hw⟩ : ∃ zz9, zz9 = va_up (qI S) (ma 13) (upd ((qI S) (ma 13)) v14_7.toNatClampNeg r41_8) ∧ PX G A s.heap (ch S I50_16 J50_17 zz9 (qJ S)) H locs := ⟨_, rfl, hw⟩
    have c60 := eq60_18
    refine lv_aload_n hx hb dX11_readWind_61 rfl (lv_at hl 2 rfl) ?_
    refine gf_X11_68 (b := (ma 14)) X hw hM.1 (mr_14 hM) dX11_readWind_62 ?_
    refine lv_iload_n hx hb dX11_readWind_65 rfl (lv_at hl 3 rfl) ?_
    refine lv_iload_n hx hb dX11_readWind_66 rfl (lv_at hl 0 rfl) ?_
    refine q_stI X hw (mk_14 hM) (vin (mn_14 hM) (by omega) (by omega)) dX11_readWind_67 (fun H locs hw => ?_)
    obtain ⟨q67_19, eq67_19, hw⟩ : ∃ zz9, zz9 = va_up q60_18 (ma 14) (upd (q60_18 (ma 14)) v14_7.toNatClampNeg r50_13) ∧ PX G A s.heap (ch S I50_16 J50_17 zz9 (qJ S)) H locs := ⟨_, rfl, hw⟩
    have c67 := eq67_19
    have HMB : GL V.2 tc tn pp 0 → MBk q67_19 ma bb (TC V.2 tc tn pp 0) := fun hG => by have y9 := GL_0.mpr hG; have e9 := hN1.symm.trans (hr1 (hst1.i.mpr y9.1.1.1)); have z9 := hix; rw [e9] at z9; have w9 := hlt; rw [e9] at w9; have z := MBk.w hMB hM w9 z9 c60 c67; rw [hr3 (hst3.i.mpr y9.1), hr4 (hst4.i.mpr y9)] at z; exact z
    exact hret _ _ _ _ _ ⟨_, _, _, rfl, (FrM.tr (FrM.tr hF h41_9.1) h50_14.1), (FrQ.ez eq67_19 (FrQ.up (j := 14) (by decide) (by decide) (FrQ.ez eq60_18 (FrQ.up (j := 13) (by decide) (by decide) FrQ.rf)))), ((KeepB.up (j := 13) hM (by decide) c60 (show 72 * bb ≤ v14_7.toNatClampNeg ∧ v14_7.toNatClampNeg < 72 * (bb + 1) by omega)).tr (KeepB.up (j := 14) hM (by decide) c67 (show 72 * bb ≤ v14_7.toNatClampNeg ∧ v14_7.toNatClampNeg < 72 * (bb + 1) by omega))), (by rw [row_keep hM c67 (i := 18) (by decide) (by decide) (by decide), row_keep hM c60 (i := 18) (by decide) (by decide) (by decide)]; exact hms), (hst4.cg GL_0), HMB, h50_14.2.2.2.2.2⟩ hw dX11_readWind_68
  refine lv_aload_n hx hb dX11_readWind_16 rfl (lv_at hl 1 rfl) ?_
  refine lv_aload_n hx hb dX11_readWind_17 rfl (lv_at hl 1 rfl) ?_
  refine gf_X11_65 (b := (ma 13)) X hw hM.1 (mr_13 hM) dX11_readWind_18 ?_
  refine lv_iload_n hx hb dX11_readWind_21 rfl (lv_at hl 0 rfl) ?_
  refine q_ldI X hw (mk_13 hM) (vin (mn_13 hM) (by omega) (by omega)) dX11_readWind_22 ?_
  refine lv_topi (fun v22_20 e22_20 => ?_)
  have e22_20 : v22_20 = (qI S) (ma 13) v14_7.toNatClampNeg := e22_20
  have e22n := e22_20
  have hW : (True ∧ gN tc tn pp 0 71) → (v22_20.toInt = -100 ↔ ¬ told V.2 0 (nv tc tn pp 0).toNatClampNeg (nv tc tn pp 1).toNatClampNeg) := fun q9 => by have e9 := hN1.symm.trans (hr1 (hst1.i.mpr q9)); have z9 := hix; rw [e9] at z9; have y9 := hlt; rw [e9] at y9; exact tw_w hMB hvk y9 z9 e22n
  refine lv_bipush (v := -100) hx hb dX11_readWind_23 (by decide) ?_
  refine lv_icmp_eq (tgt := 32) hx hb dX11_readWind_25 (by decide) (fun c25_21 => ?_) (fun c25_21 => ?_)
  · have D25_21 := iEq c25_21 rfl t_m100
    refine lv_iconst (v := 0) hx hb dX11_readWind_32 (by decide) ?_
    refine k_Vv (n := 1) X hw (rcvk (ci := 11) X hw hM.1 (fun _ _ _ _ _ _ _ => ⟨_, rfl⟩) rfl) (c_v_X11_twice l G _ ma 0 hM) wd_r22_22 wd_r22_23 wd_r23_0 wd_r1_5 wd_r23_1 ⟨by decide, by decide, by decide +kernel⟩ rfl rfl ⟨Nat.le_of_ble_eq_true rfl, Nat.le_of_ble_eq_true rfl⟩ rfl rfl hl.1 (Nat.le_of_ble_eq_true rfl) dX11_readWind_33 ⟨Nat.le_of_ble_eq_true rfl, Nat.le_of_ble_eq_true rfl⟩ (fun S33_23 H locs h33_22 hw => ?_)
    have := t_0
    obtain ⟨I33_24, rfl, h33_22⟩ := h33_22
    have hw : PX G A s.heap (ch S I33_24 J11_6 (qI S) (qJ S)) H locs := hw
    have HTW := h33_22
    exact lp36 I33_24  (FrM.tr (FrM.tr FrM.rf h11_3.1) (h33_22.1.m)) (FrF.e h33_22.1 h11_3.2.2.2.2.2) ((hst1.tw HTW.1 HTW.2).cg (and_congr_right (fun q9 => by have z9 := hW q9; have := t_0; have := t_1; constructor; (intro _; exact z9.mp (by omega)); (intro z8; have := z9.mpr z8; omega)))) _ _ _ hw (lv_sub hl [1, 0] rfl)
  · have D25_21 := iNe c25_21 rfl t_m100
    refine lv_iconst (v := 1) hx hb dX11_readWind_28 (by decide) ?_
    refine lv_goto (tgt := 33) hx hb dX11_readWind_29 (by decide) ?_
    refine k_Vv (n := 1) X hw (rcvk (ci := 11) X hw hM.1 (fun _ _ _ _ _ _ _ => ⟨_, rfl⟩) rfl) (c_v_X11_twice l G _ ma 1 hM) wd_r22_22 wd_r22_23 wd_r23_0 wd_r1_5 wd_r23_1 ⟨by decide, by decide, by decide +kernel⟩ rfl rfl ⟨Nat.le_of_ble_eq_true rfl, Nat.le_of_ble_eq_true rfl⟩ rfl rfl hl.1 (Nat.le_of_ble_eq_true rfl) dX11_readWind_33 ⟨Nat.le_of_ble_eq_true rfl, Nat.le_of_ble_eq_true rfl⟩ (fun S33_26 H locs h33_25 hw => ?_)
    have := t_1
    obtain ⟨I33_27, rfl, h33_25⟩ := h33_25
    have hw : PX G A s.heap (ch S I33_27 J11_6 (qI S) (qJ S)) H locs := hw
    have HTW := h33_25
    exact lp36 I33_27  (FrM.tr (FrM.tr FrM.rf h11_3.1) (h33_25.1.m)) (FrF.e h33_25.1 h11_3.2.2.2.2.2) ((hst1.tw HTW.1 HTW.2).cg (and_congr_right (fun q9 => by have z9 := hW q9; have := t_0; have := t_1; constructor; (intro _; exact z9.mp (by omega)); (intro z8; have := z9.mpr z8; omega)))) _ _ _ hw (lv_sub hl [1, 0] rfl)
set_option maxHeartbeats 4000000 in
set_option maxRecDepth 100000 in
theorem c_v_X11_readStream (l : Launch) (G : Gh) (S : Pl) (ma : Nat → Nat) (tc : Nat → Int32) (tn : Nat) (pp bb : Nat) (V : SV) (hM : shMod S ma) (htc : tc = tx (qI S (ma 2)) tn) (hn : (pI S 103 (ma 0)).toInt = (tn : Int)) (hz : tn ≤ 1000) (hpp : pp ≤ tn) (hst : Mst (pI S) (pJ S) (ma 0) tc tn pp True) (hrb : (pI S 121 (ma 0)).toInt = (bb : Int)) (hb1 : bb ≤ 1) (hMB : MBk (qI S) ma bb V.2) (hvk : vok V) (hms : MsOK (qI S (ma 18))) (hE : eM (pI S) (ma 0)) : MtV l yX11_readStream cX11_readStream 5 none (Rm 4 0 0) G [.ref (ma 0)] S (fun (S' : Pl) => ∃ I' J' q', ch S I' J' q' (qJ S) = S' ∧ FrM (pI S) I' ∧ FrQ 13 ma (qI S) q' ∧ KeepB (qI S) q' ma bb ∧ MsOK (q' (ma 18)) ∧ Mst I' J' (ma 0) tc tn (pz tc tn pp 4) (GL V.2 tc tn pp 1) ∧ (GL V.2 tc tn pp 1 → MBk q' ma bb (TC V.2 tc tn pp 1)) ∧ eM I' (ma 0)) 0 0 := by
  refine MtV.of (by decide) (Nat.le_of_ble_eq_true rfl) ?_
  intro p e s m args below meth c Q A X hw hin hret ls hl
  have hx := X.1.1
  have hb := X.1.2.1
  have hl : lv_has ls 5 [(0, .ref (ma 0))] := hl
  have hp1 : tE tc tn pp ≤ tn := (tE_le hpp).2
  have hp2 : tE tc tn (tE tc tn pp) ≤ tn := (tE_le hp1).2
  have hp3 : tE tc tn (tE tc tn (tE tc tn pp)) ≤ tn := (tE_le hp2).2
  refine lv_aload_n hx hb dX11_readStream_0 rfl (lv_at hl 0 rfl) ?_
  refine lv_iconst (v := 0) hx hb dX11_readStream_1 (by decide) ?_
  refine lv_iconst (v := 3) hx hb dX11_readStream_2 (by decide) ?_
  refine k_Vi (n := 2) X hw (rcvk (ci := 11) X hw hM.1 (fun _ _ _ _ _ _ _ => ⟨_, rfl⟩) rfl) (c_v_X11_numeral l G _ ma tc tn pp _ 0 3 (0) hM htc (FrM.n FrM.rf hn) hz hpp hst (by decide) hE) wd_r22_17 wd_r22_18 wd_r22_19 wd_r1_5 wd_r22_20 ⟨by decide, by decide, by decide +kernel⟩ rfl rfl ⟨Nat.le_of_ble_eq_true rfl, Nat.le_of_ble_eq_true rfl⟩ rfl rfl hl.1 (Nat.le_of_ble_eq_true rfl) dX11_readStream_3 ⟨Nat.le_of_ble_eq_true rfl, Nat.le_of_ble_eq_true rfl⟩ (fun r3_1 S3_3 H locs h3_2 hw => ?_)
  have := t_0
  have := t_3
  obtain ⟨I3_4, J3_5, rfl, h3_2⟩ := h3_2
  have hw : PX G A s.heap (ch S I3_4 J3_5 (qI S) (qJ S)) H locs := hw
  have hst1 := h3_2.2.1
  have hr1 := h3_2.2.2.1
  have hbd1 := h3_2.2.2.2
  obtain ⟨N1, hN1⟩ : ∃ z : Int32, r3_1 = z := ⟨_, rfl⟩
  have hNt1 := congrArg Int32.toInt hN1
  have h3_2b := congrArg Int32.toInt (FrM.rb (FrM.tr FrM.rf h3_2.1) (ma 0))
  refine lv_istore_n (lv' := [(1, .int r3_1), (0, .ref (ma 0))]) hx hb dX11_readStream_6 rfl hl (by decide) rfl (fun ls hl => ?_)
  refine lv_bipush (v := 72) hx hb dX11_readStream_7 (by decide) ?_
  refine lv_iconst (v := 4) hx hb dX11_readStream_9 (by decide) ?_
  refine lv_aload_n hx hb dX11_readStream_10 rfl (lv_at hl 1 rfl) ?_
  refine gf_X11_149 (v := I3_4 121 (ma 0)) X hw hM.1 rfl dX11_readStream_11 ?_
  refine lv_imul hx hb dX11_readStream_14 ?_
  refine lv_topi (fun v14_6 e14_6 => ?_)
  have t14_6 := iMul e14_6 t_4 rfl (by omega) (by omega)
  have t14 := t14_6
  refine lv_iload_n hx hb dX11_readStream_15 rfl (lv_at hl 0 rfl) ?_
  refine lv_iadd hx hb dX11_readStream_16 ?_
  refine lv_topi (fun v16_7 e16_7 => ?_)
  have t16_7 := iAdd e16_7 rfl rfl (by omega) (by omega)
  have t16 := t16_7
  refine lv_imul hx hb dX11_readStream_17 ?_
  refine lv_topi (fun v17_8 e17_8 => ?_)
  have t17_8 := iMul e17_8 t_72 rfl (by omega) (by omega)
  have t17 := t17_8
  refine lv_aload_n hx hb dX11_readStream_18 rfl (lv_at hl 1 rfl) ?_
  refine lv_iconst (v := 0) hx hb dX11_readStream_19 (by decide) ?_
  refine lv_bipush (v := 71) hx hb dX11_readStream_20 (by decide) ?_
  refine k_Vi (n := 2) X hw (rcvk (ci := 11) X hw hM.1 (fun _ _ _ _ _ _ _ => ⟨_, rfl⟩) rfl) (c_v_X11_numeral l G _ ma tc tn (tE tc tn pp) _ 0 71 (0) hM htc (FrM.n (FrM.tr FrM.rf h3_2.1) hn) hz hp1 hst1 (by decide) h3_2.2.2.2.2.2) wd_r22_17 wd_r22_18 wd_r22_19 wd_r1_5 wd_r22_20 ⟨by decide, by decide, by decide +kernel⟩ rfl rfl ⟨Nat.le_of_ble_eq_true rfl, Nat.le_of_ble_eq_true rfl⟩ rfl rfl hl.1 (Nat.le_of_ble_eq_true rfl) dX11_readStream_22 ⟨Nat.le_of_ble_eq_true rfl, Nat.le_of_ble_eq_true rfl⟩ (fun r22_9 S22_11 H locs h22_10 hw => ?_)
  have := t_0
  have := t_71
  obtain ⟨I22_12, J22_13, rfl, h22_10⟩ := h22_10
  have hw : PX G A s.heap (ch S I22_12 J22_13 (qI S) (qJ S)) H locs := hw
  have hst2 := h22_10.2.1
  have hr2 := h22_10.2.2.1
  have hbd2 := h22_10.2.2.2
  obtain ⟨N2, hN2⟩ : ∃ z : Int32, r22_9 = z := ⟨_, rfl⟩
  have hNt2 := congrArg Int32.toInt hN2
  have h22_10b := congrArg Int32.toInt (FrM.rb (FrM.tr (FrM.tr FrM.rf h3_2.1) h22_10.1) (ma 0))
  refine lv_iadd hx hb dX11_readStream_25 ?_
  refine lv_topi (fun v25_14 e25_14 => ?_)
  have t25_14 := iAdd e25_14 rfl rfl (by omega) (by omega)
  have t25 := t25_14
  refine lv_istore_n (lv' := [(2, .int v25_14), (1, .int r3_1), (0, .ref (ma 0))]) hx hb dX11_readStream_26 rfl hl (by decide) rfl (fun ls hl => ?_)
  have hcl1 := cl_toInt (x := N1) (by omega)
  have hcl2 := cl_toInt (x := N2) (by omega)
  have hcl3 := cl_toInt (x := v25_14) (by omega)
  have hix : v25_14.toNatClampNeg = 72 * (4 * bb + N1.toNatClampNeg) + N2.toNatClampNeg := by omega
  have hlt : N1.toNatClampNeg < 4 ∧ N2.toNatClampNeg < 72 := by omega
  have lp47 : ∀ (Ic47 : Nat → Nat → Int32), (FrM (pI S) Ic47) → (eM Ic47 (ma 0)) → (Mst Ic47 J22_13 (ma 0) tc tn (tE tc tn (tE tc tn pp)) (((True ∧ gN tc tn pp 0 3) ∧ gN tc tn (tE tc tn pp) 0 71) ∧ ¬ told V.2 1 (nv tc tn pp 0).toNatClampNeg (nv tc tn pp 1).toNatClampNeg)) → ∀ (H : Heap) (locs : List Loc) (ls : Array Slot), PX G A s.heap (ch S Ic47 J22_13 (qI S) (qJ S)) H locs → lv_has ls 5 [(0, .ref (ma 0)), (2, .int v25_14)] → W p l e (Rm 4 0 0) s m args below meth c H locs 0 0 Q (F0 m 47 ls []) := by
    intro Ic47 hF hE1 hst3 H locs ls hw hl
    have hbb9 := congrArg Int32.toInt (FrM.rb hF (ma 0))
    refine lv_aload_n hx hb dX11_readStream_47 rfl (lv_at hl 0 rfl) ?_
    refine lv_bipush (v := -30) hx hb dX11_readStream_48 (by decide) ?_
    refine lv_bipush (v := 30) hx hb dX11_readStream_50 (by decide) ?_
    refine k_Vi (n := 2) X hw (rcvk (ci := 11) X hw hM.1 (fun _ _ _ _ _ _ _ => ⟨_, rfl⟩) rfl) (c_v_X11_numeral l G _ ma tc tn (tE tc tn (tE tc tn pp)) _ (-30) 30 (-30) hM htc (FrM.n hF hn) hz hp2 hst3 (by decide) hE1) wd_r22_17 wd_r22_18 wd_r22_19 wd_r1_5 wd_r22_20 ⟨by decide, by decide, by decide +kernel⟩ rfl rfl ⟨Nat.le_of_ble_eq_true rfl, Nat.le_of_ble_eq_true rfl⟩ rfl rfl hl.1 (Nat.le_of_ble_eq_true rfl) dX11_readStream_52 ⟨Nat.le_of_ble_eq_true rfl, Nat.le_of_ble_eq_true rfl⟩ (fun r52_15 S52_17 H locs h52_16 hw => ?_)
    have := t_m30
    have := t_30
    obtain ⟨I52_18, J52_19, rfl, h52_16⟩ := h52_16
    have hw : PX G A s.heap (ch S I52_18 J52_19 (qI S) (qJ S)) H locs := hw
    have hst4 := h52_16.2.1
    have hr4 := h52_16.2.2.1
    have hbd4 := h52_16.2.2.2
    obtain ⟨N4, hN4⟩ : ∃ z : Int32, r52_15 = z := ⟨_, rfl⟩
    have hNt4 := congrArg Int32.toInt hN4
    have h52_16b := congrArg Int32.toInt (FrM.rb (FrM.tr hF h52_16.1) (ma 0))
    refine lv_istore_n (lv' := [(3, .int r52_15), (0, .ref (ma 0)), (2, .int v25_14)]) hx hb dX11_readStream_55 rfl hl (by decide) rfl (fun ls hl => ?_)
    refine lv_aload_n hx hb dX11_readStream_56 rfl (lv_at hl 1 rfl) ?_
    refine lv_bipush (v := -30) hx hb dX11_readStream_57 (by decide) ?_
    refine lv_bipush (v := 30) hx hb dX11_readStream_59 (by decide) ?_
    refine k_Vi (n := 2) X hw (rcvk (ci := 11) X hw hM.1 (fun _ _ _ _ _ _ _ => ⟨_, rfl⟩) rfl) (c_v_X11_numeral l G _ ma tc tn (tE tc tn (tE tc tn (tE tc tn pp))) _ (-30) 30 (-30) hM htc (FrM.n (FrM.tr hF h52_16.1) hn) hz hp3 hst4 (by decide) h52_16.2.2.2.2.2) wd_r22_17 wd_r22_18 wd_r22_19 wd_r1_5 wd_r22_20 ⟨by decide, by decide, by decide +kernel⟩ rfl rfl ⟨Nat.le_of_ble_eq_true rfl, Nat.le_of_ble_eq_true rfl⟩ rfl rfl hl.1 (Nat.le_of_ble_eq_true rfl) dX11_readStream_61 ⟨Nat.le_of_ble_eq_true rfl, Nat.le_of_ble_eq_true rfl⟩ (fun r61_20 S61_22 H locs h61_21 hw => ?_)
    have := t_m30
    have := t_30
    obtain ⟨I61_23, J61_24, rfl, h61_21⟩ := h61_21
    have hw : PX G A s.heap (ch S I61_23 J61_24 (qI S) (qJ S)) H locs := hw
    have hst5 := h61_21.2.1
    have hr5 := h61_21.2.2.1
    have hbd5 := h61_21.2.2.2
    obtain ⟨N5, hN5⟩ : ∃ z : Int32, r61_20 = z := ⟨_, rfl⟩
    have hNt5 := congrArg Int32.toInt hN5
    have h61_21b := congrArg Int32.toInt (FrM.rb (FrM.tr (FrM.tr hF h52_16.1) h61_21.1) (ma 0))
    refine lv_istore (lv' := [(4, .int r61_20), (3, .int r52_15), (0, .ref (ma 0)), (2, .int v25_14)]) hx hb dX11_readStream_64 hl (by decide) rfl (fun ls hl => ?_)
    refine lv_aload_n hx hb dX11_readStream_66 rfl (lv_at hl 2 rfl) ?_
    refine gf_X11_71 (b := (ma 15)) X hw hM.1 (mr_15 hM) dX11_readStream_67 ?_
    refine lv_iload_n hx hb dX11_readStream_70 rfl (lv_at hl 3 rfl) ?_
    refine lv_iload_n hx hb dX11_readStream_71 rfl (lv_at hl 1 rfl) ?_
    refine q_stI X hw (mk_15 hM) (vin (mn_15 hM) (by omega) (by omega)) dX11_readStream_72 (fun H locs hw => ?_)
    obtain ⟨q72_25, eq72_25, hw⟩ : ∃ zz9, zz9 = va_up (qI S) (ma 15) (upd ((qI S) (ma 15)) v25_14.toNatClampNeg r52_15) ∧ PX G A s.heap (ch S I61_23 J61_24 zz9 (qJ S)) H locs := ⟨_, rfl, hw⟩
    have c72 := eq72_25
    refine lv_aload_n hx hb dX11_readStream_73 rfl (lv_at hl 2 rfl) ?_
    refine gf_X11_74 (b := (ma 16)) X hw hM.1 (mr_16 hM) dX11_readStream_74 ?_
    refine lv_iload_n hx hb dX11_readStream_77 rfl (lv_at hl 3 rfl) ?_
    refine lv_iload hx hb dX11_readStream_78 (lv_at hl 0 rfl) ?_
    refine q_stI X hw (mk_16 hM) (vin (mn_16 hM) (by omega) (by omega)) dX11_readStream_80 (fun H locs hw => ?_)
    obtain ⟨q80_26, eq80_26, hw⟩ : ∃ zz9, zz9 = va_up q72_25 (ma 16) (upd (q72_25 (ma 16)) v25_14.toNatClampNeg r61_20) ∧ PX G A s.heap (ch S I61_23 J61_24 zz9 (qJ S)) H locs := ⟨_, rfl, hw⟩
    have c80 := eq80_26
    have HMB : GL V.2 tc tn pp 1 → MBk q80_26 ma bb (TC V.2 tc tn pp 1) := fun hG => by have y9 := GL_1.mpr hG; have e9 := hN1.symm.trans (hr1 (hst1.i.mpr y9.1.1.1.1)); have e8 := hN2.symm.trans (hr2 (hst2.i.mpr y9.1.1.1)); have z9 := hix; rw [e9, e8] at z9; have w9 := hlt; rw [e9, e8] at w9; have z := MBk.s hMB hM w9.1 w9.2 z9 c72 c80; rw [hr4 (hst4.i.mpr y9.1), hr5 (hst5.i.mpr y9)] at z; exact z
    exact hret _ _ _ _ _ ⟨_, _, _, rfl, (FrM.tr (FrM.tr hF h52_16.1) h61_21.1), (FrQ.ez eq80_26 (FrQ.up (j := 16) (by decide) (by decide) (FrQ.ez eq72_25 (FrQ.up (j := 15) (by decide) (by decide) FrQ.rf)))), ((KeepB.up (j := 15) hM (by decide) c72 (show 288 * bb ≤ v25_14.toNatClampNeg ∧ v25_14.toNatClampNeg < 288 * (bb + 1) by omega)).tr (KeepB.up (j := 16) hM (by decide) c80 (show 288 * bb ≤ v25_14.toNatClampNeg ∧ v25_14.toNatClampNeg < 288 * (bb + 1) by omega))), (by rw [row_keep hM c80 (i := 18) (by decide) (by decide) (by decide), row_keep hM c72 (i := 18) (by decide) (by decide) (by decide)]; exact hms), (hst5.cg GL_1), HMB, h61_21.2.2.2.2.2⟩ hw dX11_readStream_81
  refine lv_aload_n hx hb dX11_readStream_27 rfl (lv_at hl 2 rfl) ?_
  refine lv_aload_n hx hb dX11_readStream_28 rfl (lv_at hl 2 rfl) ?_
  refine gf_X11_71 (b := (ma 15)) X hw hM.1 (mr_15 hM) dX11_readStream_29 ?_
  refine lv_iload_n hx hb dX11_readStream_32 rfl (lv_at hl 0 rfl) ?_
  refine q_ldI X hw (mk_15 hM) (vin (mn_15 hM) (by omega) (by omega)) dX11_readStream_33 ?_
  refine lv_topi (fun v33_27 e33_27 => ?_)
  have e33_27 : v33_27 = (qI S) (ma 15) v25_14.toNatClampNeg := e33_27
  have e33n := e33_27
  have hW : ((True ∧ gN tc tn pp 0 3) ∧ gN tc tn (tE tc tn pp) 0 71) → (v33_27.toInt = -100 ↔ ¬ told V.2 1 (nv tc tn pp 0).toNatClampNeg (nv tc tn pp 1).toNatClampNeg) := fun q9 => by have e9 := hN1.symm.trans (hr1 (hst1.i.mpr q9.1)); have e8 := hN2.symm.trans (hr2 (hst2.i.mpr q9)); have z9 := hix; rw [e9, e8] at z9; have y9 := hlt; rw [e9, e8] at y9; exact tw_s hMB hvk y9.1 y9.2 z9 e33n
  refine lv_bipush (v := -100) hx hb dX11_readStream_34 (by decide) ?_
  refine lv_icmp_eq (tgt := 43) hx hb dX11_readStream_36 (by decide) (fun c36_28 => ?_) (fun c36_28 => ?_)
  · have D36_28 := iEq c36_28 rfl t_m100
    refine lv_iconst (v := 0) hx hb dX11_readStream_43 (by decide) ?_
    refine k_Vv (n := 1) X hw (rcvk (ci := 11) X hw hM.1 (fun _ _ _ _ _ _ _ => ⟨_, rfl⟩) rfl) (c_v_X11_twice l G _ ma 0 hM) wd_r22_22 wd_r22_23 wd_r23_0 wd_r1_5 wd_r23_1 ⟨by decide, by decide, by decide +kernel⟩ rfl rfl ⟨Nat.le_of_ble_eq_true rfl, Nat.le_of_ble_eq_true rfl⟩ rfl rfl hl.1 (Nat.le_of_ble_eq_true rfl) dX11_readStream_44 ⟨Nat.le_of_ble_eq_true rfl, Nat.le_of_ble_eq_true rfl⟩ (fun S44_30 H locs h44_29 hw => ?_)
    have := t_0
    obtain ⟨I44_31, rfl, h44_29⟩ := h44_29
    have hw : PX G A s.heap (ch S I44_31 J22_13 (qI S) (qJ S)) H locs := hw
    have HTW := h44_29
    exact lp47 I44_31  (FrM.tr (FrM.tr (FrM.tr FrM.rf h3_2.1) h22_10.1) (h44_29.1.m)) (FrF.e h44_29.1 h22_10.2.2.2.2.2) ((hst2.tw HTW.1 HTW.2).cg (and_congr_right (fun q9 => by have z9 := hW q9; have := t_0; have := t_1; constructor; (intro _; exact z9.mp (by omega)); (intro z8; have := z9.mpr z8; omega)))) _ _ _ hw (lv_sub hl [2, 0] rfl)
  · have D36_28 := iNe c36_28 rfl t_m100
    refine lv_iconst (v := 1) hx hb dX11_readStream_39 (by decide) ?_
    refine lv_goto (tgt := 44) hx hb dX11_readStream_40 (by decide) ?_
    refine k_Vv (n := 1) X hw (rcvk (ci := 11) X hw hM.1 (fun _ _ _ _ _ _ _ => ⟨_, rfl⟩) rfl) (c_v_X11_twice l G _ ma 1 hM) wd_r22_22 wd_r22_23 wd_r23_0 wd_r1_5 wd_r23_1 ⟨by decide, by decide, by decide +kernel⟩ rfl rfl ⟨Nat.le_of_ble_eq_true rfl, Nat.le_of_ble_eq_true rfl⟩ rfl rfl hl.1 (Nat.le_of_ble_eq_true rfl) dX11_readStream_44 ⟨Nat.le_of_ble_eq_true rfl, Nat.le_of_ble_eq_true rfl⟩ (fun S44_33 H locs h44_32 hw => ?_)
    have := t_1
    obtain ⟨I44_34, rfl, h44_32⟩ := h44_32
    have hw : PX G A s.heap (ch S I44_34 J22_13 (qI S) (qJ S)) H locs := hw
    have HTW := h44_32
    exact lp47 I44_34  (FrM.tr (FrM.tr (FrM.tr FrM.rf h3_2.1) h22_10.1) (h44_32.1.m)) (FrF.e h44_32.1 h22_10.2.2.2.2.2) ((hst2.tw HTW.1 HTW.2).cg (and_congr_right (fun q9 => by have z9 := hW q9; have := t_0; have := t_1; constructor; (intro _; exact z9.mp (by omega)); (intro z8; have := z9.mpr z8; omega)))) _ _ _ hw (lv_sub hl [2, 0] rfl)
set_option maxHeartbeats 4000000 in
set_option maxRecDepth 100000 in
theorem c_v_X11_readLee (l : Launch) (G : Gh) (S : Pl) (ma : Nat → Nat) (tc : Nat → Int32) (tn : Nat) (pp bb : Nat) (V : SV) (hM : shMod S ma) (htc : tc = tx (qI S (ma 2)) tn) (hn : (pI S 103 (ma 0)).toInt = (tn : Int)) (hz : tn ≤ 1000) (hpp : pp ≤ tn) (hst : Mst (pI S) (pJ S) (ma 0) tc tn pp True) (hrb : (pI S 121 (ma 0)).toInt = (bb : Int)) (hb1 : bb ≤ 1) (hMB : MBk (qI S) ma bb V.2) (hvk : vok V) (hms : MsOK (qI S (ma 18))) (hE : eM (pI S) (ma 0)) : MtV l yX11_readLee cX11_readLee 2 none (Rm 4 0 0) G [.ref (ma 0)] S (fun (S' : Pl) => ∃ I' J' q', ch S I' J' q' (qJ S) = S' ∧ FrM (pI S) I' ∧ FrQ 13 ma (qI S) q' ∧ KeepB (qI S) q' ma bb ∧ MsOK (q' (ma 18)) ∧ Mst I' J' (ma 0) tc tn (pz tc tn pp 2) (GL V.2 tc tn pp 2) ∧ (GL V.2 tc tn pp 2 → MBk q' ma bb (TC V.2 tc tn pp 2)) ∧ eM I' (ma 0)) 0 0 := by
  refine MtV.of (by decide) (Nat.le_of_ble_eq_true rfl) ?_
  intro p e s m args below meth c Q A X hw hin hret ls hl
  have hx := X.1.1
  have hb := X.1.2.1
  have hl : lv_has ls 2 [(0, .ref (ma 0))] := hl
  have hp1 : tE tc tn pp ≤ tn := (tE_le hpp).2
  have hp2 : tE tc tn (tE tc tn pp) ≤ tn := (tE_le hp1).2
  have hp3 : tE tc tn (tE tc tn (tE tc tn pp)) ≤ tn := (tE_le hp2).2
  refine lv_iconst (v := 4) hx hb dX11_readLee_0 (by decide) ?_
  refine lv_aload_n hx hb dX11_readLee_1 rfl (lv_at hl 0 rfl) ?_
  refine gf_X11_149 (v := (pI S) 121 (ma 0)) X hw hM.1 rfl dX11_readLee_2 ?_
  refine lv_imul hx hb dX11_readLee_5 ?_
  refine lv_topi (fun v5_1 e5_1 => ?_)
  have t5_1 := iMul e5_1 t_4 rfl (by omega) (by omega)
  have t5 := t5_1
  refine lv_aload_n hx hb dX11_readLee_6 rfl (lv_at hl 0 rfl) ?_
  refine lv_iconst (v := 0) hx hb dX11_readLee_7 (by decide) ?_
  refine lv_iconst (v := 3) hx hb dX11_readLee_8 (by decide) ?_
  refine k_Vi (n := 2) X hw (rcvk (ci := 11) X hw hM.1 (fun _ _ _ _ _ _ _ => ⟨_, rfl⟩) rfl) (c_v_X11_numeral l G _ ma tc tn pp _ 0 3 (0) hM htc (FrM.n FrM.rf hn) hz hpp hst (by decide) hE) wd_r22_17 wd_r22_18 wd_r22_19 wd_r1_5 wd_r22_20 ⟨by decide, by decide, by decide +kernel⟩ rfl rfl ⟨Nat.le_of_ble_eq_true rfl, Nat.le_of_ble_eq_true rfl⟩ rfl rfl hl.1 (Nat.le_of_ble_eq_true rfl) dX11_readLee_9 ⟨Nat.le_of_ble_eq_true rfl, Nat.le_of_ble_eq_true rfl⟩ (fun r9_2 S9_4 H locs h9_3 hw => ?_)
  have := t_0
  have := t_3
  obtain ⟨I9_5, J9_6, rfl, h9_3⟩ := h9_3
  have hw : PX G A s.heap (ch S I9_5 J9_6 (qI S) (qJ S)) H locs := hw
  have hst1 := h9_3.2.1
  have hr1 := h9_3.2.2.1
  have hbd1 := h9_3.2.2.2
  obtain ⟨N1, hN1⟩ : ∃ z : Int32, r9_2 = z := ⟨_, rfl⟩
  have hNt1 := congrArg Int32.toInt hN1
  have h9_3b := congrArg Int32.toInt (FrM.rb (FrM.tr FrM.rf h9_3.1) (ma 0))
  refine lv_iadd hx hb dX11_readLee_12 ?_
  refine lv_topi (fun v12_7 e12_7 => ?_)
  have t12_7 := iAdd e12_7 rfl rfl (by omega) (by omega)
  have t12 := t12_7
  refine lv_istore_n (lv' := [(1, .int v12_7), (0, .ref (ma 0))]) hx hb dX11_readLee_13 rfl hl (by decide) rfl (fun ls hl => ?_)
  have hcl1 := cl_toInt (x := N1) (by omega)
  have hcl2 := cl_toInt (x := v12_7) (by omega)
  have hix : v12_7.toNatClampNeg = 4 * bb + N1.toNatClampNeg := by omega
  have hlt : N1.toNatClampNeg < 4 := by omega
  refine lv_aload_n hx hb dX11_readLee_14 rfl (lv_at hl 1 rfl) ?_
  refine lv_aload_n hx hb dX11_readLee_15 rfl (lv_at hl 1 rfl) ?_
  refine gf_X11_87 (b := (ma 20)) X hw hM.1 (mr_20 hM) dX11_readLee_16 ?_
  refine lv_iload_n hx hb dX11_readLee_19 rfl (lv_at hl 0 rfl) ?_
  refine q_ldZ X hw (mk_20 hM) (vin (mn_20 hM) (by omega) (by omega)) dX11_readLee_20 ?_
  refine lv_topi (fun v20_8 e20_8 => ?_)
  have e20_8 : v20_8 = (qI S) (ma 20) v12_7.toNatClampNeg := e20_8
  have e20n := e20_8
  have hW : (True ∧ gN tc tn pp 0 3) → (v20_8.toInt = 0 ↔ ¬ told V.2 2 (nv tc tn pp 0).toNatClampNeg (nv tc tn pp 1).toNatClampNeg) := fun q9 => by have e9 := hN1.symm.trans (hr1 (hst1.i.mpr q9)); have z9 := hix; rw [e9] at z9; have y9 := hlt; rw [e9] at y9; exact tw_l hMB y9 z9 e20n
  refine k_Vv (n := 1) X hw (rcvk (ci := 11) X hw hM.1 (fun _ _ _ _ _ _ _ => ⟨_, rfl⟩) rfl) (c_v_X11_twice l G _ ma v20_8 hM) wd_r22_22 wd_r22_23 wd_r23_0 wd_r1_5 wd_r23_1 ⟨by decide, by decide, by decide +kernel⟩ rfl rfl ⟨Nat.le_of_ble_eq_true rfl, Nat.le_of_ble_eq_true rfl⟩ rfl rfl hl.1 (Nat.le_of_ble_eq_true rfl) dX11_readLee_21 ⟨Nat.le_of_ble_eq_true rfl, Nat.le_of_ble_eq_true rfl⟩ (fun S21_10 H locs h21_9 hw => ?_)
  obtain ⟨I21_11, rfl, h21_9⟩ := h21_9
  have hw : PX G A s.heap (ch S I21_11 J9_6 (qI S) (qJ S)) H locs := hw
  have HTW := h21_9
  have hst2 := (hst1.tw HTW.1 HTW.2).cg (and_congr_right (fun q9 => hW q9))
  refine lv_aload_n hx hb dX11_readLee_24 rfl (lv_at hl 1 rfl) ?_
  refine gf_X11_77 (b := (ma 17)) X hw hM.1 (mr_17 hM) dX11_readLee_25 ?_
  refine lv_iload_n hx hb dX11_readLee_28 rfl (lv_at hl 0 rfl) ?_
  refine lv_aload_n hx hb dX11_readLee_29 rfl (lv_at hl 1 rfl) ?_
  refine lv_iconst (v := 0) hx hb dX11_readLee_30 (by decide) ?_
  refine lv_bipush (v := 100) hx hb dX11_readLee_31 (by decide) ?_
  refine k_Vi (n := 2) X hw (rcvk (ci := 11) X hw hM.1 (fun _ _ _ _ _ _ _ => ⟨_, rfl⟩) rfl) (c_v_X11_numeral l G _ ma tc tn (tE tc tn pp) _ 0 100 (0) hM htc (FrM.n (FrM.tr (FrM.tr FrM.rf h9_3.1) (h21_9.1.m)) hn) hz hp1 hst2 (by decide) (FrF.e h21_9.1 h9_3.2.2.2.2.2)) wd_r22_17 wd_r22_18 wd_r22_19 wd_r1_5 wd_r22_20 ⟨by decide, by decide, by decide +kernel⟩ rfl rfl ⟨Nat.le_of_ble_eq_true rfl, Nat.le_of_ble_eq_true rfl⟩ rfl rfl hl.1 (Nat.le_of_ble_eq_true rfl) dX11_readLee_33 ⟨Nat.le_of_ble_eq_true rfl, Nat.le_of_ble_eq_true rfl⟩ (fun r33_12 S33_14 H locs h33_13 hw => ?_)
  have := t_0
  have := t_100
  obtain ⟨I33_15, J33_16, rfl, h33_13⟩ := h33_13
  have hw : PX G A s.heap (ch S I33_15 J33_16 (qI S) (qJ S)) H locs := hw
  have hst3 := h33_13.2.1
  have hr3 := h33_13.2.2.1
  have hbd3 := h33_13.2.2.2
  obtain ⟨N3, hN3⟩ : ∃ z : Int32, r33_12 = z := ⟨_, rfl⟩
  have hNt3 := congrArg Int32.toInt hN3
  have h33_13b := congrArg Int32.toInt (FrM.rb (FrM.tr (FrM.tr (FrM.tr FrM.rf h9_3.1) (h21_9.1.m)) h33_13.1) (ma 0))
  refine q_stI X hw (mk_17 hM) (vin (mn_17 hM) (by omega) (by omega)) dX11_readLee_36 (fun H locs hw => ?_)
  obtain ⟨q36_17, eq36_17, hw⟩ : ∃ zz9, zz9 = va_up (qI S) (ma 17) (upd ((qI S) (ma 17)) v12_7.toNatClampNeg r33_12) ∧ PX G A s.heap (ch S I33_15 J33_16 zz9 (qJ S)) H locs := ⟨_, rfl, hw⟩
  have c36 := eq36_17
  refine lv_aload_n hx hb dX11_readLee_37 rfl (lv_at hl 1 rfl) ?_
  refine gf_X11_87 (b := (ma 20)) X hw hM.1 (mr_20 hM) dX11_readLee_38 ?_
  refine lv_iload_n hx hb dX11_readLee_41 rfl (lv_at hl 0 rfl) ?_
  refine lv_iconst (v := 1) hx hb dX11_readLee_42 (by decide) ?_
  refine q_stZ X hw (mk_20 hM) (vin (mn_20 hM) (by omega) (by omega)) dX11_readLee_43 (fun H locs hw => ?_)
  obtain ⟨q43_18, eq43_18, hw⟩ : ∃ zz9, zz9 = va_up q36_17 (ma 20) (upd (q36_17 (ma 20)) v12_7.toNatClampNeg (vp_nar .boolean 1)) ∧ PX G A s.heap (ch S I33_15 J33_16 zz9 (qJ S)) H locs := ⟨_, rfl, hw⟩
  have c43 := eq43_18
  have HMB : GL V.2 tc tn pp 2 → MBk q43_18 ma bb (TC V.2 tc tn pp 2) := fun hG => by have y9 := GL_2.mpr hG; have e9 := hN1.symm.trans (hr1 (hst1.i.mpr y9.1.1)); have z9 := hix; rw [e9] at z9; have z := MBk.l hMB hM (nn1 (by omega)) z9 c36 c43; rw [hr3 (hst3.i.mpr y9)] at z; exact z
  exact hret _ _ _ _ _ ⟨_, _, _, rfl, (FrM.tr (FrM.tr (FrM.tr FrM.rf h9_3.1) (h21_9.1.m)) h33_13.1), (FrQ.ez eq43_18 (FrQ.up (j := 20) (by decide) (by decide) (FrQ.ez eq36_17 (FrQ.up (j := 17) (by decide) (by decide) FrQ.rf)))), ((KeepB.up (j := 17) hM (by decide) c36 (show 4 * bb ≤ v12_7.toNatClampNeg ∧ v12_7.toNatClampNeg < 4 * (bb + 1) by omega)).tr (KeepB.up (j := 20) hM (by decide) c43 (show 4 * bb ≤ v12_7.toNatClampNeg ∧ v12_7.toNatClampNeg < 4 * (bb + 1) by omega))), (by rw [row_keep hM c43 (i := 18) (by decide) (by decide) (by decide), row_keep hM c36 (i := 18) (by decide) (by decide) (by decide)]; exact hms), (hst3.cg GL_2), HMB, h33_13.2.2.2.2.2⟩ hw dX11_readLee_44
set_option maxHeartbeats 4000000 in
set_option maxRecDepth 100000 in
theorem c_v_X11_readLand (l : Launch) (G : Gh) (S : Pl) (ma : Nat → Nat) (tc : Nat → Int32) (tn : Nat) (pp bb : Nat) (V : SV) (hM : shMod S ma) (htc : tc = tx (qI S (ma 2)) tn) (hn : (pI S 103 (ma 0)).toInt = (tn : Int)) (hz : tn ≤ 1000) (hpp : pp ≤ tn) (hst : Mst (pI S) (pJ S) (ma 0) tc tn pp True) (hrb : (pI S 121 (ma 0)).toInt = (bb : Int)) (hb1 : bb ≤ 1) (hMB : MBk (qI S) ma bb V.2) (hvk : vok V) (hms : MsOK (qI S (ma 18))) (hE : eM (pI S) (ma 0)) : MtV l yX11_readLand cX11_readLand 3 none (Rm 4 0 0) G [.ref (ma 0)] S (fun (S' : Pl) => ∃ I' J' q', ch S I' J' q' (qJ S) = S' ∧ FrM (pI S) I' ∧ FrQ 13 ma (qI S) q' ∧ KeepB (qI S) q' ma bb ∧ MsOK (q' (ma 18)) ∧ Mst I' J' (ma 0) tc tn (pz tc tn pp 2) (GL V.2 tc tn pp 3) ∧ (GL V.2 tc tn pp 3 → MBk q' ma bb (TC V.2 tc tn pp 3)) ∧ eM I' (ma 0)) 0 0 := by
  refine MtV.of (by decide) (Nat.le_of_ble_eq_true rfl) ?_
  intro p e s m args below meth c Q A X hw hin hret ls hl
  have hx := X.1.1
  have hb := X.1.2.1
  have hl : lv_has ls 3 [(0, .ref (ma 0))] := hl
  have hp1 : tE tc tn pp ≤ tn := (tE_le hpp).2
  have hp2 : tE tc tn (tE tc tn pp) ≤ tn := (tE_le hp1).2
  have hp3 : tE tc tn (tE tc tn (tE tc tn pp)) ≤ tn := (tE_le hp2).2
  refine lv_aload_n hx hb dX11_readLand_0 rfl (lv_at hl 0 rfl) ?_
  refine lv_iconst (v := 0) hx hb dX11_readLand_1 (by decide) ?_
  refine lv_bipush (v := 7) hx hb dX11_readLand_2 (by decide) ?_
  refine k_Vi (n := 2) X hw (rcvk (ci := 11) X hw hM.1 (fun _ _ _ _ _ _ _ => ⟨_, rfl⟩) rfl) (c_v_X11_numeral l G _ ma tc tn pp _ 0 7 (0) hM htc (FrM.n FrM.rf hn) hz hpp hst (by decide) hE) wd_r22_17 wd_r22_18 wd_r22_19 wd_r1_5 wd_r22_20 ⟨by decide, by decide, by decide +kernel⟩ rfl rfl ⟨Nat.le_of_ble_eq_true rfl, Nat.le_of_ble_eq_true rfl⟩ rfl rfl hl.1 (Nat.le_of_ble_eq_true rfl) dX11_readLand_4 ⟨Nat.le_of_ble_eq_true rfl, Nat.le_of_ble_eq_true rfl⟩ (fun r4_1 S4_3 H locs h4_2 hw => ?_)
  have := t_0
  have := t_7
  obtain ⟨I4_4, J4_5, rfl, h4_2⟩ := h4_2
  have hw : PX G A s.heap (ch S I4_4 J4_5 (qI S) (qJ S)) H locs := hw
  have hst1 := h4_2.2.1
  have hr1 := h4_2.2.2.1
  have hbd1 := h4_2.2.2.2
  obtain ⟨N1, hN1⟩ : ∃ z : Int32, r4_1 = z := ⟨_, rfl⟩
  have hNt1 := congrArg Int32.toInt hN1
  have h4_2b := congrArg Int32.toInt (FrM.rb (FrM.tr FrM.rf h4_2.1) (ma 0))
  refine lv_istore_n (lv' := [(1, .int r4_1), (0, .ref (ma 0))]) hx hb dX11_readLand_7 rfl hl (by decide) rfl (fun ls hl => ?_)
  refine lv_bipush (v := 64) hx hb dX11_readLand_8 (by decide) ?_
  refine lv_aload_n hx hb dX11_readLand_10 rfl (lv_at hl 1 rfl) ?_
  refine gf_X11_149 (v := I4_4 121 (ma 0)) X hw hM.1 rfl dX11_readLand_11 ?_
  refine lv_imul hx hb dX11_readLand_14 ?_
  refine lv_topi (fun v14_6 e14_6 => ?_)
  have t14_6 := iMul e14_6 t_64 rfl (by omega) (by omega)
  have t14 := t14_6
  refine lv_iload_n hx hb dX11_readLand_15 rfl (lv_at hl 0 rfl) ?_
  refine lv_iadd hx hb dX11_readLand_16 ?_
  refine lv_topi (fun v16_7 e16_7 => ?_)
  have t16_7 := iAdd e16_7 rfl rfl (by omega) (by omega)
  have t16 := t16_7
  refine lv_bipush (v := 8) hx hb dX11_readLand_17 (by decide) ?_
  refine lv_aload_n hx hb dX11_readLand_19 rfl (lv_at hl 1 rfl) ?_
  refine lv_iconst (v := 0) hx hb dX11_readLand_20 (by decide) ?_
  refine lv_bipush (v := 7) hx hb dX11_readLand_21 (by decide) ?_
  refine k_Vi (n := 2) X hw (rcvk (ci := 11) X hw hM.1 (fun _ _ _ _ _ _ _ => ⟨_, rfl⟩) rfl) (c_v_X11_numeral l G _ ma tc tn (tE tc tn pp) _ 0 7 (0) hM htc (FrM.n (FrM.tr FrM.rf h4_2.1) hn) hz hp1 hst1 (by decide) h4_2.2.2.2.2.2) wd_r22_17 wd_r22_18 wd_r22_19 wd_r1_5 wd_r22_20 ⟨by decide, by decide, by decide +kernel⟩ rfl rfl ⟨Nat.le_of_ble_eq_true rfl, Nat.le_of_ble_eq_true rfl⟩ rfl rfl hl.1 (Nat.le_of_ble_eq_true rfl) dX11_readLand_23 ⟨Nat.le_of_ble_eq_true rfl, Nat.le_of_ble_eq_true rfl⟩ (fun r23_8 S23_10 H locs h23_9 hw => ?_)
  have := t_0
  have := t_7
  obtain ⟨I23_11, J23_12, rfl, h23_9⟩ := h23_9
  have hw : PX G A s.heap (ch S I23_11 J23_12 (qI S) (qJ S)) H locs := hw
  have hst2 := h23_9.2.1
  have hr2 := h23_9.2.2.1
  have hbd2 := h23_9.2.2.2
  obtain ⟨N2, hN2⟩ : ∃ z : Int32, r23_8 = z := ⟨_, rfl⟩
  have hNt2 := congrArg Int32.toInt hN2
  have h23_9b := congrArg Int32.toInt (FrM.rb (FrM.tr (FrM.tr FrM.rf h4_2.1) h23_9.1) (ma 0))
  refine lv_imul hx hb dX11_readLand_26 ?_
  refine lv_topi (fun v26_13 e26_13 => ?_)
  have t26_13 := iMul e26_13 t_8 rfl (by omega) (by omega)
  have t26 := t26_13
  refine lv_iadd hx hb dX11_readLand_27 ?_
  refine lv_topi (fun v27_14 e27_14 => ?_)
  have t27_14 := iAdd e27_14 rfl rfl (by omega) (by omega)
  have t27 := t27_14
  refine lv_istore_n (lv' := [(2, .int v27_14), (1, .int r4_1), (0, .ref (ma 0))]) hx hb dX11_readLand_28 rfl hl (by decide) rfl (fun ls hl => ?_)
  have hcl1 := cl_toInt (x := N1) (by omega)
  have hcl2 := cl_toInt (x := N2) (by omega)
  have hcl3 := cl_toInt (x := v27_14) (by omega)
  have hix : v27_14.toNatClampNeg = 64 * bb + (8 * N2.toNatClampNeg + N1.toNatClampNeg) := by omega
  have hlt : 8 * N2.toNatClampNeg + N1.toNatClampNeg < 64 := by omega
  refine lv_aload_n hx hb dX11_readLand_29 rfl (lv_at hl 2 rfl) ?_
  refine lv_aload_n hx hb dX11_readLand_30 rfl (lv_at hl 2 rfl) ?_
  refine gf_X11_83 (b := (ma 19)) X hw hM.1 (mr_19 hM) dX11_readLand_31 ?_
  refine lv_iload_n hx hb dX11_readLand_34 rfl (lv_at hl 0 rfl) ?_
  refine q_ldZ X hw (mk_19 hM) (vin (mn_19 hM) (by omega) (by omega)) dX11_readLand_35 ?_
  refine lv_topi (fun v35_15 e35_15 => ?_)
  have e35_15 : v35_15 = (qI S) (ma 19) v27_14.toNatClampNeg := e35_15
  have e35n := e35_15
  have hW : ((True ∧ gN tc tn pp 0 7) ∧ gN tc tn (tE tc tn pp) 0 7) → (v35_15.toInt = 0 ↔ ¬ told V.2 3 (nv tc tn pp 0).toNatClampNeg (nv tc tn pp 1).toNatClampNeg) := fun q9 => by have e9 := hN1.symm.trans (hr1 (hst1.i.mpr q9.1)); have e8 := hN2.symm.trans (hr2 (hst2.i.mpr q9)); have z9 := hix; rw [e9, e8] at z9; have y9 := hlt; rw [e9, e8] at y9; exact tw_d hMB y9 z9 e35n
  refine k_Vv (n := 1) X hw (rcvk (ci := 11) X hw hM.1 (fun _ _ _ _ _ _ _ => ⟨_, rfl⟩) rfl) (c_v_X11_twice l G _ ma v35_15 hM) wd_r22_22 wd_r22_23 wd_r23_0 wd_r1_5 wd_r23_1 ⟨by decide, by decide, by decide +kernel⟩ rfl rfl ⟨Nat.le_of_ble_eq_true rfl, Nat.le_of_ble_eq_true rfl⟩ rfl rfl hl.1 (Nat.le_of_ble_eq_true rfl) dX11_readLand_36 ⟨Nat.le_of_ble_eq_true rfl, Nat.le_of_ble_eq_true rfl⟩ (fun S36_17 H locs h36_16 hw => ?_)
  obtain ⟨I36_18, rfl, h36_16⟩ := h36_16
  have hw : PX G A s.heap (ch S I36_18 J23_12 (qI S) (qJ S)) H locs := hw
  have HTW := h36_16
  have hst3 := (hst2.tw HTW.1 HTW.2).cg (and_congr_right (fun q9 => hW q9))
  refine lv_aload_n hx hb dX11_readLand_39 rfl (lv_at hl 2 rfl) ?_
  refine gf_X11_83 (b := (ma 19)) X hw hM.1 (mr_19 hM) dX11_readLand_40 ?_
  refine lv_iload_n hx hb dX11_readLand_43 rfl (lv_at hl 0 rfl) ?_
  refine lv_iconst (v := 1) hx hb dX11_readLand_44 (by decide) ?_
  refine q_stZ X hw (mk_19 hM) (vin (mn_19 hM) (by omega) (by omega)) dX11_readLand_45 (fun H locs hw => ?_)
  obtain ⟨q45_19, eq45_19, hw⟩ : ∃ zz9, zz9 = va_up (qI S) (ma 19) (upd ((qI S) (ma 19)) v27_14.toNatClampNeg (vp_nar .boolean 1)) ∧ PX G A s.heap (ch S I36_18 J23_12 zz9 (qJ S)) H locs := ⟨_, rfl, hw⟩
  have c45 := eq45_19
  have HMB : GL V.2 tc tn pp 3 → MBk q45_19 ma bb (TC V.2 tc tn pp 3) := fun hG => by have y9 := GL_3.mpr hG; have e9 := hN1.symm.trans (hr1 (hst1.i.mpr y9.1.1)); have e8 := hN2.symm.trans (hr2 (hst2.i.mpr y9.1)); have z9 := hix; rw [e9, e8] at z9; exact MBk.d hMB hM z9 c45
  exact hret _ _ _ _ _ ⟨_, _, _, rfl, (FrM.tr (FrM.tr (FrM.tr FrM.rf h4_2.1) h23_9.1) (h36_16.1.m)), (FrQ.ez eq45_19 (FrQ.up (j := 19) (by decide) (by decide) FrQ.rf)), (KeepB.up (j := 19) hM (by decide) c45 (show 64 * bb ≤ v27_14.toNatClampNeg ∧ v27_14.toNatClampNeg < 64 * (bb + 1) by omega)), (by rw [row_keep hM c45 (i := 18) (by decide) (by decide) (by decide)]; exact hms), (hst3.cg GL_3), HMB, (FrF.e h36_16.1 h23_9.2.2.2.2.2)⟩ hw dX11_readLand_46
