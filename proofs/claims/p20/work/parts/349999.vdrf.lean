
/-! ===== the drift, purely ===== -/
abbrev TP : Type := Int32 × Int32 × Int32 × Int32 × Int32
abbrev D3 : Type := Int32 × Int32 × Int32
def tpR (P : TP) : Prop := (0 ≤ P.1.toInt ∧ P.1.toInt < 4) ∧ (0 ≤ P.2.1.toInt ∧ P.2.1.toInt < 80) ∧ (0 ≤ P.2.2.1.toInt ∧ P.2.2.1.toInt < 80) ∧ (0 ≤ P.2.2.2.1.toInt ∧ P.2.2.2.1.toInt < 72)
def okD (s : D3) : Prop := (0 ≤ s.1.toInt ∧ s.1.toInt < 80 ∧ 0 ≤ s.2.1.toInt ∧ s.2.1.toInt < 80) ∧ (s.2.2 = 0 ∨ s.2.2 = 1 ∨ s.2.2 = 2)
def cellZ (x y : Int32) : Int32 := y / 10 * 8 + x / 10
def qtr (x y : Int32) : Nat := (if 40 ≤ y.toInt then 2 else 0) + (if 40 ≤ x.toInt then 1 else 0)
def stW (C : Nat → Nat → Int32) (k q i f : Nat) : Int32 := sr (C (10 + 4 * (q + 1) + 3)) (C (10 + 4 * (q + 1) + f)) i + sr (C 13) (C (10 + f)) i * stl C 2 k / 100
def lnd (C : Nat → Nat → Int32) (x y : Int32) : Int32 := if C 3 (cellZ x y).toNatClampNeg = 0 then 0 else 1
def nxW (C : Nat → Nat → Int32) (P : TP) (i : Nat) (x y : Int32) : Int32 := x + stW C P.1.toNatClampNeg (qtr x y) i 1
def nyW (C : Nat → Nat → Int32) (P : TP) (i : Nat) (x y : Int32) : Int32 := y + stW C P.1.toNatClampNeg (qtr x y) i 2
def dM (C : Nat → Nat → Int32) (P : TP) (t : Nat) (s : D3) : D3 := if t ≤ P.2.2.2.1.toNatClampNeg then s else if s.2.2 = 0 then (if 0 ≤ (nxW C P (t - 1) s.1 s.2.1).toInt ∧ (nxW C P (t - 1) s.1 s.2.1).toInt < 80 ∧ 0 ≤ (nyW C P (t - 1) s.1 s.2.1).toInt ∧ (nyW C P (t - 1) s.1 s.2.1).toInt < 80 then (nxW C P (t - 1) s.1 s.2.1, nyW C P (t - 1) s.1 s.2.1, 0) else (s.1, s.2.1, 2)) else s
def drL (C : Nat → Nat → Int32) (P : TP) (t : Nat) (s : D3) : D3 := if t < P.2.2.2.1.toNatClampNeg then s else if s.2.2 = 0 then (s.1, s.2.1, lnd C s.1 s.2.1) else s
def drA (C : Nat → Nat → Int32) (P : TP) : Nat → D3
  | 0 => drL C P 0 (dM C P 0 (P.2.1, P.2.2.1, 0))
  | t + 1 => drL C P (t + 1) (dM C P (t + 1) (drA C P t))
def drI (C : Nat → Nat → Int32) (P : TP) : Nat → D3
  | 0 => (P.2.1, P.2.2.1, 0)
  | t + 1 => drA C P t
def mrk (s : D3) : Int32 := s.2.2 * 10000 + s.2.1 * 100 + s.1
def plc (s : D3) : Int32 := if s.2.2 = 2 then -1 else s.2.1 * 100 + s.1
section DRF
variable {C : Nat → Nat → Int32} {P : TP} {t : Nat} {s : D3} {x y u : Int32}
theorem drA_e : drA C P t = drL C P t (dM C P t (drI C P t)) := by cases t <;> rfl
theorem dM_a (h : t ≤ P.2.2.2.1.toNatClampNeg) : dM C P t s = s := if_pos h
theorem dM_b (h : P.2.2.2.1.toNatClampNeg < t) (hu : ¬ u = 0) : dM C P t (x, y, u) = (x, y, u) := by
  unfold dM; rw [if_neg (by omega), if_neg hu]
theorem dM_c {X Y : Int32} (h : P.2.2.2.1.toNatClampNeg < t) (hu : u = 0) (hx : X = nxW C P (t - 1) x y) (hy : Y = nyW C P (t - 1) x y) (hp : 0 ≤ X.toInt ∧ X.toInt < 80 ∧ 0 ≤ Y.toInt ∧ Y.toInt < 80) : (X, Y, u) = dM C P t (x, y, u) := by
  subst hu; subst hx; subst hy
  unfold dM; rw [if_neg (by omega), if_pos rfl, if_pos hp]
theorem dM_d {X Y : Int32} (h : P.2.2.2.1.toNatClampNeg < t) (hu : u = 0) (hx : X = nxW C P (t - 1) x y) (hy : Y = nyW C P (t - 1) x y) (hp : ¬ (0 ≤ X.toInt ∧ X.toInt < 80 ∧ 0 ≤ Y.toInt ∧ Y.toInt < 80)) : (x, y, (2 : Int32)) = dM C P t (x, y, u) := by
  subst hu; subst hx; subst hy
  unfold dM; rw [if_neg (by omega), if_pos rfl, if_neg hp]
theorem drL_a (h : t < P.2.2.2.1.toNatClampNeg) : drL C P t s = s := if_pos h
theorem drL_b (h : P.2.2.2.1.toNatClampNeg ≤ t) (hu : ¬ u = 0) : drL C P t (x, y, u) = (x, y, u) := by
  unfold drL; rw [if_neg (by omega), if_neg hu]
theorem drL_c {v : Int32} (h : P.2.2.2.1.toNatClampNeg ≤ t) (hu : u = 0) (hl : lnd C x y = v) : (x, y, v) = drL C P t (x, y, u) := by
  subst hu; subst hl
  unfold drL; rw [if_neg (by omega), if_pos rfl]
theorem lnd_01 : lnd C x y = 0 ∨ lnd C x y = 1 := by
  unfold lnd; split
  · exact Or.inl rfl
  · exact Or.inr rfl
theorem okM (h : okD s) : okD (dM C P t s) := by
  unfold dM
  split
  · exact h
  · split
    · split
      · rename_i q; exact ⟨q, Or.inl rfl⟩
      · exact ⟨h.1, Or.inr (Or.inr rfl)⟩
    · exact h
theorem okL (h : okD s) : okD (drL C P t s) := by
  unfold drL
  split
  · exact h
  · split
    · rcases lnd_01 (C := C) (x := s.1) (y := s.2.1) with e | e
      · exact ⟨h.1, Or.inl e⟩
      · exact ⟨h.1, Or.inr (Or.inl e)⟩
    · exact h
theorem ok_0 (h : tpR P) : okD (P.2.1, P.2.2.1, 0) := ⟨⟨h.2.1.1, h.2.1.2, h.2.2.1.1, h.2.2.1.2⟩, Or.inl rfl⟩
theorem drA_ok (h : tpR P) : ∀ t, okD (drA C P t)
  | 0 => okL (okM (ok_0 h))
  | t + 1 => okL (okM (drA_ok h t))
theorem drI_ok (h : tpR P) : ∀ t, okD (drI C P t)
  | 0 => ok_0 h
  | t + 1 => drA_ok h t
/-! numbers -/
theorem nar16 (h : 0 ≤ x.toInt ∧ x.toInt < 32768) : x.toInt16.toInt32 = x := by
  apply Int32.toInt_inj.mp
  rw [Int16.toInt_toInt32, Int32.toInt_toInt16]
  rw [Int.bmod_eq_of_le] <;> omega
theorem i012 (h : u = 0 ∨ u = 1 ∨ u = 2) : 0 ≤ u.toInt ∧ u.toInt ≤ 2 := by
  rcases h with h | h | h <;> (subst h; decide)
theorem mrk_t (h : okD s) : (mrk s).toInt = s.2.2.toInt * 10000 + s.2.1.toInt * 100 + s.1.toInt := by
  have h1 := i012 h.2
  have h2 := h.1
  have t1 : (10000 : Int32).toInt = 10000 := by decide
  have t2 : (100 : Int32).toInt = 100 := by decide
  have a := iMul (v := s.2.2 * 10000) rfl rfl t1 (by omega) (by omega)
  have b := iMul (v := s.2.1 * 100) rfl rfl t2 (by omega) (by omega)
  have c := iAdd (v := s.2.2 * 10000 + s.2.1 * 100) rfl a b (by omega) (by omega)
  exact iAdd (v := mrk s) rfl c rfl (by omega) (by omega)
theorem mk_s {a b c d e : Int32} (e1 : a = u * 10000) (e2 : b = y * 100) (e3 : c = a + b) (e4 : d = c + x) (e5 : e = d.toInt16.toInt32) (hok : okD (x, y, u)) : vp_nar .short e = mrk (x, y, u) := by
  have h := mrk_t hok
  have h1 := i012 hok.2
  have h2 := hok.1
  dsimp only at h h1 h2
  have ed : d = mrk (x, y, u) := by rw [e4, e3, e1, e2]; rfl
  have r : 0 ≤ d.toInt ∧ d.toInt < 32768 := by rw [ed]; omega
  rw [e5, nar16 r, ed]
  rw [ed] at r
  exact nar16 r
theorem iDivP {v d : Int32} {n : Int} (e : v = x / d) (hd : d.toInt = n) (hn : 0 < n) (h : 0 ≤ x.toInt) : v.toInt = x.toInt / n := by
  rw [e, Int32.toInt_div, hd, Int.tdiv_eq_ediv_of_nonneg h]
  have h2 := iRng x
  have h3 : x.toInt / n ≤ x.toInt := Int.ediv_le_self _ h
  have h4 : 0 ≤ x.toInt / n := Int.ediv_nonneg h (by omega)
  exact bm32 (by omega) (by omega)
theorem mk_div {v w : Int32} (h : okD s) (e1 : v = mrk s) (e2 : w = v / 10000) : w = s.2.2 := by
  have a := mrk_t h
  have h1 := i012 h.2
  have h2 := h.1
  rw [e1] at e2
  have b := iDivP e2 (by decide : (10000 : Int32).toInt = 10000) (by omega) (by omega)
  apply Int32.toInt_inj.mp
  omega
theorem mk_mod {v w : Int32} (h : okD s) (e1 : v = mrk s) (e2 : w = v - v / 10000 * 10000) : w = s.2.1 * 100 + s.1 := by
  have a := mrk_t h
  have h1 := i012 h.2
  have h2 := h.1
  have b := mk_div h e1 (w := v / 10000) rfl
  have t1 : (10000 : Int32).toInt = 10000 := by decide
  have t2 : (100 : Int32).toInt = 100 := by decide
  rw [b, e1] at e2
  have c := iMul (v := s.2.2 * 10000) rfl rfl t1 (by omega) (by omega)
  have d := iSub e2 a c (by omega) (by omega)
  have f := iMul (v := s.2.1 * 100) rfl rfl t2 (by omega) (by omega)
  have g := iAdd (v := s.2.1 * 100 + s.1) rfl f rfl (by omega) (by omega)
  apply Int32.toInt_inj.mp
  omega
theorem plc_2 (h : s.2.2.toInt = 2) : plc s = -1 := if_pos (Int32.toInt_inj.mp (h.trans (by decide)))
theorem plc_n (h : s.2.2.toInt ≠ 2) : plc s = s.2.1 * 100 + s.1 := if_neg (fun q => h (by rw [q]; decide))
theorem cell_b (h : 0 ≤ x.toInt ∧ x.toInt < 80 ∧ 0 ≤ y.toInt ∧ y.toInt < 80) : 0 ≤ (cellZ x y).toInt ∧ (cellZ x y).toInt < 64 := by
  have a := iDiv10 (v := y / 10) rfl h.2.2.1
  have b := iDiv10 (v := x / 10) rfl h.1
  have t8 : (8 : Int32).toInt = 8 := by decide
  have c := iMul (v := y / 10 * 8) rfl a t8 (by omega) (by omega)
  have d := iAdd (v := cellZ x y) rfl c b (by omega) (by omega)
  omega
theorem lnd_y {q : Nat → Nat → Int32} {sa : Nat → Nat} {c : Int32} (hq : Ct q sa (stl C)) (hc : c = cellZ x y) (h : 0 ≤ c.toInt ∧ c.toInt < 64 ∧ ¬ q (sa 3) c.toNatClampNeg = 0) : lnd C x y = 1 := by
  subst hc
  have e := cl_toInt h.1
  have g := (hq 3 (by decide) (cellZ x y).toNatClampNeg (show (cellZ x y).toNatClampNeg < 64 by omega)).trans stl_3
  exact if_neg (fun z => h.2.2 (g.trans z))
theorem lnd_n {q : Nat → Nat → Int32} {sa : Nat → Nat} {c : Int32} (hq : Ct q sa (stl C)) (hc : c = cellZ x y) (hb : 0 ≤ x.toInt ∧ x.toInt < 80 ∧ 0 ≤ y.toInt ∧ y.toInt < 80) (h : ¬ (0 ≤ c.toInt ∧ c.toInt < 64 ∧ ¬ q (sa 3) c.toNatClampNeg = 0)) : lnd C x y = 0 := by
  subst hc
  have k := cell_b hb
  have e := cl_toInt k.1
  have g := (hq 3 (by decide) (cellZ x y).toNatClampNeg (show (cellZ x y).toNatClampNeg < 64 by omega)).trans stl_3
  refine if_pos (Classical.byContradiction fun z => h ⟨k.1, k.2, fun w => z (g.symm.trans w)⟩)
theorem mk_up {q q1 : Nat → Nat → Int32} {tm : Nat} {k k' v : Int32} (h : ∀ j, j < k.toNatClampNeg → q tm j = mrk (drA C P j)) (c : q1 = va_up q tm (upd (q tm) k.toNatClampNeg v)) (hv : v = mrk s) (hs : s = drA C P k.toNatClampNeg) (h0 : 0 ≤ k.toInt) (tk : k'.toInt = k.toInt + 1) : ∀ j, j < k'.toNatClampNeg → q1 tm j = mrk (drA C P j) := fun j hj => by
  have e1 := cl_toInt h0
  have e2 := cl_toInt (x := k') (by omega)
  rw [up_s c]
  by_cases e : j = k.toNatClampNeg
  · rw [e, pk_us, hv, hs]
  · rw [pk_un e]; exact h j (by omega)
theorem qtr_b : qtr x y ≤ 3 := by unfold qtr; (repeat' split) <;> omega
/-! the model's way -/
theorem drA_lt : ∀ t, t < P.2.2.2.1.toNatClampNeg → drA C P t = (P.2.1, P.2.2.1, 0)
  | 0, h => by
    show drL C P 0 (dM C P 0 _) = _
    rw [dM_a (by omega), drL_a h]
  | t + 1, h => by
    show drL C P (t + 1) (dM C P (t + 1) (drA C P t)) = _
    rw [dM_a (by omega), drL_a h, drA_lt t (by omega)]
theorem drI_le : ∀ t, t ≤ P.2.2.2.1.toNatClampNeg → drI C P t = (P.2.1, P.2.2.1, 0)
  | 0, _ => rfl
  | t + 1, h => drA_lt t (by omega)
theorem drA_at : drA C P P.2.2.2.1.toNatClampNeg = (P.2.1, P.2.2.1, lnd C P.2.1 P.2.2.1) := by
  rw [drA_e, drI_le _ (Nat.le_refl _), dM_a (Nat.le_refl _)]
  exact (drL_c (Nat.le_refl _) rfl rfl).symm
theorem drA_stay (h : P.2.2.2.1.toNatClampNeg ≤ t) (hu : ¬ (drA C P t).2.2 = 0) : ∀ n, drA C P (t + n) = drA C P t
  | 0 => rfl
  | n + 1 => by
    have i := drA_stay h hu n
    show drL C P (t + n + 1) (dM C P (t + n + 1) (drA C P (t + n))) = _
    rw [i]
    have e1 : dM C P (t + n + 1) (drA C P t) = drA C P t := dM_b (x := (drA C P t).1) (y := (drA C P t).2.1) (u := (drA C P t).2.2) (by omega) hu
    rw [e1]
    exact drL_b (x := (drA C P t).1) (y := (drA C P t).2.1) (u := (drA C P t).2.2) (by omega) hu
/-- the model's fields are at s -/
def mdR (I : Nat → Nat → Int32) (m0 : Nat) (s : D3) : Prop := I 131 m0 = s.2.2 ∧ (¬ s.2.2 = 2 → I 129 m0 = s.1 ∧ I 130 m0 = s.2.1)
/-- a step of the model's: on the chart, or off it -/
theorem md_on {I : Nat → Nat → Int32} {m0 : Nat} {X Y v : Int32} (h : P.2.2.2.1.toNatClampNeg ≤ t) (hs : drA C P t = (x, y, 0)) (hx : X = nxW C P t x y) (hy : Y = nyW C P t x y) (hp : 0 ≤ X.toInt ∧ X.toInt < 80 ∧ 0 ≤ Y.toInt ∧ Y.toInt < 80) (i1 : I 129 m0 = X) (i2 : I 130 m0 = Y) (i3 : I 131 m0 = v) (hv : v = lnd C X Y) : mdR I m0 (drA C P (t + 1)) := by
  have e : drA C P (t + 1) = (X, Y, lnd C X Y) := by
    have e1 : (X, Y, (0 : Int32)) = dM C P (t + 1) (x, y, 0) := dM_c (t := t + 1) (u := 0) (by omega) rfl (by rw [Nat.add_sub_cancel]; exact hx) (by rw [Nat.add_sub_cancel]; exact hy) hp
    show drL C P (t + 1) (dM C P (t + 1) (drA C P t)) = _
    rw [hs, ← e1]
    exact (drL_c (t := t + 1) (u := 0) (by omega) rfl rfl).symm
  rw [e]
  exact ⟨i3.trans hv, fun _ => ⟨i1, i2⟩⟩
theorem md_off {I : Nat → Nat → Int32} {m0 : Nat} {X Y v : Int32} (h : P.2.2.2.1.toNatClampNeg ≤ t) (hs : drA C P t = (x, y, 0)) (hx : X = nxW C P t x y) (hy : Y = nyW C P t x y) (hp : ¬ (0 ≤ X.toInt ∧ X.toInt < 80 ∧ 0 ≤ Y.toInt ∧ Y.toInt < 80)) (i3 : I 131 m0 = v) (hv : v = 2) : mdR I m0 (drA C P (t + 1)) := by
  have e : drA C P (t + 1) = (x, y, 2) := by
    have e1 : (x, y, (2 : Int32)) = dM C P (t + 1) (x, y, 0) := dM_d (t := t + 1) (u := 0) (X := X) (Y := Y) (by omega) rfl (by rw [Nat.add_sub_cancel]; exact hx) (by rw [Nat.add_sub_cancel]; exact hy) hp
    show drL C P (t + 1) (dM C P (t + 1) (drA C P t)) = _
    rw [hs, ← e1]
    exact drL_b (t := t + 1) (u := 2) (by omega) (by decide)
  rw [e]
  exact ⟨i3.trans hv, fun q => absurd rfl q⟩
end DRF
theorem lnd_cg {C : Nat → Nat → Int32} {x x' y y' : Int32} (h : x = x') (g : y = y') : lnd C x y = lnd C x' y' := by rw [h, g]
theorem lnd_1 {C : Nat → Nat → Int32} {x y r : Int32} (h : r = lnd C x y) (hr : r.toInt ≠ 0) : lnd C x y = 1 := by
  rcases lnd_01 (C := C) (x := x) (y := y) with e | e
  · exact absurd (show r.toInt = 0 by rw [h, e]; decide) hr
  · exact e
theorem lnd_0 {C : Nat → Nat → Int32} {x y r : Int32} (h : r = lnd C x y) (hr : r.toInt = 0) : lnd C x y = 0 := by
  rcases lnd_01 (C := C) (x := x) (y := y) with e | e
  · exact e
  · rw [h, e] at hr; exact absurd hr (by decide)
theorem lnd_m {C : Nat → Nat → Int32} {x y v : Int32} (h : v = 0 ∨ v = 1) (e : v = C 3 (cellZ x y).toNatClampNeg) : v &&& 1 = lnd C x y := by
  unfold lnd
  rw [← e]
  rcases h with h | h
  · subst h; rw [if_pos rfl]; decide
  · subst h; rw [if_neg (by decide)]; decide
section MDS
variable {C : Nat → Nat → Int32} {P : TP} {I : Nat → Nat → Int32} {m0 k n : Nat} {v : Int32}
theorem md_i (i1 : I 129 m0 = P.2.1) (i2 : I 130 m0 = P.2.2.1) (i3 : I 131 m0 = v) (hk : k = P.2.2.2.1.toNatClampNeg) (hv : (n < P.2.2.2.1.toNatClampNeg ∧ v = 0) ∨ (P.2.2.2.1.toNatClampNeg ≤ n ∧ v = lnd C P.2.1 P.2.2.1)) : mdR I m0 (drA C P (if k ≤ n then k else n)) := by
  subst hk
  rcases hv with ⟨h, e⟩ | ⟨h, e⟩
  · rw [if_neg (by omega), drA_lt n h]
    exact ⟨i3.trans e, fun _ => ⟨i1, i2⟩⟩
  · rw [if_pos h, drA_at]
    exact ⟨i3.trans e, fun _ => ⟨i1, i2⟩⟩
theorem md_e (h : mdR I m0 (drA C P (if k ≤ n then k else n))) (hk : n ≤ k) : mdR I m0 (drA C P n) := by
  have e : (if k ≤ n then k else n) = n := by split <;> omega
  rw [e] at h; exact h
theorem md_st (h : mdR I m0 (drA C P (if k ≤ n then k else n))) (hk : P.2.2.2.1.toNatClampNeg ≤ k) (hn : k ≤ n) (hu : ¬ I 131 m0 = 0) : mdR I m0 (drA C P n) := by
  rw [if_pos hn] at h
  have z := drA_stay (C := C) hk (fun q => hu (h.1.trans q)) (n - k)
  rw [show k + (n - k) = n by omega] at z
  rw [z]; exact h
theorem md_get (h : mdR I m0 (drA C P (if k ≤ n then k else n))) (hn : k ≤ n) (hu : I 131 m0 = 0) : drA C P k = (I 129 m0, I 130 m0, 0) := by
  rw [if_pos hn] at h
  have e : (drA C P k).2.2 = 0 := h.1.symm.trans hu
  have g := h.2 (by rw [e]; decide)
  rw [g.1, g.2, ← e]
end MDS
def mTP (q : Nat → Nat → Int32) (ma : Nat → Nat) (k : Nat) (P : TP) : Prop := q (ma 24) k = P.1 ∧ q (ma 25) k = P.2.1 ∧ q (ma 26) k = P.2.2.1 ∧ q (ma 27) k = P.2.2.2.1 ∧ q (ma 28) k = P.2.2.2.2
theorem mTP.r {I q : Nat → Nat → Int32} {ma : Nat → Nat} {x : Int32} {P : TP} (h : mTP q ma x.toNatClampNeg P) (hT : mT I q ma) (h0 : 0 ≤ x.toInt) (h1 : x.toInt < (I 128 (ma 0)).toInt) : tpR P := by
  have z := mT_at hT h0 h1
  rw [h.1, h.2.1, h.2.2.1, h.2.2.2.1] at z
  exact ⟨z.1, z.2.1, z.2.2.1, z.2.2.2.1⟩
/-- the class's tales: what they were told, their rows, which lie apart -/
def TV (S : Pl) (te tm : Nat → Nat) (nt : Nat) (tl : Nat → TP) (V : SV) : Prop := (∀ k, k < nt → (pI S 50 (te k) = (tl k).1 ∧ pI S 51 (te k) = (tl k).2.1 ∧ pI S 52 (te k) = (tl k).2.2.1 ∧ pI S 53 (te k) = (tl k).2.2.2.1 ∧ pI S 54 (te k) = (tl k).2.2.2.2) ∧ tpR (tl k) ∧ ∀ t, t ≤ 72 → qI S (tm k) t = mrk (drA V.2 (tl k) t)) ∧ ∀ j k, j < nt → k < nt → tm j = tm k → j = k
set_option maxHeartbeats 4000000 in
set_option maxRecDepth 100000 in
theorem c_v_X10_quarterOf (l : Launch) (G : Gh) (S : Pl) (x y : Int32)  : MtI l yX10_quarterOf cX10_quarterOf 2 (some .int) (Rm 0 0 0) G [.int x, .int y] S (fun (r : Int32) (S' : Pl) => S = S' ∧ r.toInt = (qtr x y : Nat)) 0 0 := by
  refine MtI.of (by decide) (Nat.le_of_ble_eq_true rfl) ?_
  intro p e s m args below meth c Q A X hw hin hret ls hl
  have hx := X.1.1
  have hb := X.1.2.1
  have hl : lv_has ls 2 [(0, .int x), (1, .int y)] := hl
  refine lv_iload_n hx hb dX10_quarterOf_0 rfl (lv_at hl 1 rfl) ?_
  refine lv_bipush (v := 40) hx hb dX10_quarterOf_1 (by decide) ?_
  refine lv_icmp_lt (tgt := 10) hx hb dX10_quarterOf_3 (by decide) (fun c3_1 => ?_) (fun c3_1 => ?_)
  · have D3_1 := iLt c3_1 rfl t_40
    refine lv_iconst (v := 0) hx hb dX10_quarterOf_10 (by decide) ?_
    refine lv_iload_n hx hb dX10_quarterOf_11 rfl (lv_at hl 0 rfl) ?_
    refine lv_bipush (v := 40) hx hb dX10_quarterOf_12 (by decide) ?_
    refine lv_icmp_lt (tgt := 21) hx hb dX10_quarterOf_14 (by decide) (fun c14_2 => ?_) (fun c14_2 => ?_)
    · have D14_2 := iLt c14_2 rfl t_40
      refine lv_iconst (v := 0) hx hb dX10_quarterOf_21 (by decide) ?_
      refine lv_iadd hx hb dX10_quarterOf_22 ?_
      refine lv_topi (fun v22_3 e22_3 => ?_)
      have t22_3 := iAdd e22_3 t_0 t_0 (by omega) (by omega)
      have t22 := t22_3
      exact hret v22_3 _ _ _ _ _ ⟨rfl, by unfold qtr; (repeat' split) <;> omega⟩ hw rfl dX10_quarterOf_23
    · have D14_2 := iNlt c14_2 rfl t_40
      refine lv_iconst (v := 1) hx hb dX10_quarterOf_17 (by decide) ?_
      refine lv_goto (tgt := 22) hx hb dX10_quarterOf_18 (by decide) ?_
      refine lv_iadd hx hb dX10_quarterOf_22 ?_
      refine lv_topi (fun v22_4 e22_4 => ?_)
      have t22_4 := iAdd e22_4 t_0 t_1 (by omega) (by omega)
      have t22 := t22_4
      exact hret v22_4 _ _ _ _ _ ⟨rfl, by unfold qtr; (repeat' split) <;> omega⟩ hw rfl dX10_quarterOf_23
  · have D3_1 := iNlt c3_1 rfl t_40
    refine lv_iconst (v := 2) hx hb dX10_quarterOf_6 (by decide) ?_
    refine lv_goto (tgt := 11) hx hb dX10_quarterOf_7 (by decide) ?_
    refine lv_iload_n hx hb dX10_quarterOf_11 rfl (lv_at hl 0 rfl) ?_
    refine lv_bipush (v := 40) hx hb dX10_quarterOf_12 (by decide) ?_
    refine lv_icmp_lt (tgt := 21) hx hb dX10_quarterOf_14 (by decide) (fun c14_5 => ?_) (fun c14_5 => ?_)
    · have D14_5 := iLt c14_5 rfl t_40
      refine lv_iconst (v := 0) hx hb dX10_quarterOf_21 (by decide) ?_
      refine lv_iadd hx hb dX10_quarterOf_22 ?_
      refine lv_topi (fun v22_6 e22_6 => ?_)
      have t22_6 := iAdd e22_6 t_2 t_0 (by omega) (by omega)
      have t22 := t22_6
      exact hret v22_6 _ _ _ _ _ ⟨rfl, by unfold qtr; (repeat' split) <;> omega⟩ hw rfl dX10_quarterOf_23
    · have D14_5 := iNlt c14_5 rfl t_40
      refine lv_iconst (v := 1) hx hb dX10_quarterOf_17 (by decide) ?_
      refine lv_goto (tgt := 22) hx hb dX10_quarterOf_18 (by decide) ?_
      refine lv_iadd hx hb dX10_quarterOf_22 ?_
      refine lv_topi (fun v22_7 e22_7 => ?_)
      have t22_7 := iAdd e22_7 t_2 t_1 (by omega) (by omega)
      have t22 := t22_7
      exact hret v22_7 _ _ _ _ _ ⟨rfl, by unfold qtr; (repeat' split) <;> omega⟩ hw rfl dX10_quarterOf_23
set_option maxHeartbeats 4000000 in
set_option maxRecDepth 100000 in
theorem c_v_X10_cellOf (l : Launch) (G : Gh) (S : Pl) (x y : Int32)  : MtI l yX10_cellOf cX10_cellOf 2 (some .int) (Rm 0 0 0) G [.int x, .int y] S (fun (r : Int32) (S' : Pl) => S = S' ∧ r = cellZ x y) 0 0 := by
  refine MtI.of (by decide) (Nat.le_of_ble_eq_true rfl) ?_
  intro p e s m args below meth c Q A X hw hin hret ls hl
  have hx := X.1.1
  have hb := X.1.2.1
  have hl : lv_has ls 2 [(0, .int x), (1, .int y)] := hl
  refine lv_iload_n hx hb dX10_cellOf_0 rfl (lv_at hl 1 rfl) ?_
  refine lv_bipush (v := 10) hx hb dX10_cellOf_1 (by decide) ?_
  refine lv_idiv hx hb dX10_cellOf_3 (by decide) ?_
  refine lv_topi (fun v3_1 e3_1 => ?_)
  have e3n := e3_1
  refine lv_bipush (v := 8) hx hb dX10_cellOf_4 (by decide) ?_
  refine lv_imul hx hb dX10_cellOf_6 ?_
  refine lv_topi (fun v6_2 e6_2 => ?_)
  have e6n := e6_2
  refine lv_iload_n hx hb dX10_cellOf_7 rfl (lv_at hl 0 rfl) ?_
  refine lv_bipush (v := 10) hx hb dX10_cellOf_8 (by decide) ?_
  refine lv_idiv hx hb dX10_cellOf_10 (by decide) ?_
  refine lv_topi (fun v10_3 e10_3 => ?_)
  have e10n := e10_3
  refine lv_iadd hx hb dX10_cellOf_11 ?_
  refine lv_topi (fun v11_4 e11_4 => ?_)
  have e11n := e11_4
  exact hret v11_4 _ _ _ _ _ ⟨rfl, by unfold cellZ; rw [e11n, e6n, e3n, e10n]⟩ hw rfl dX10_cellOf_12
set_option maxHeartbeats 4000000 in
set_option maxRecDepth 100000 in
theorem c_v_X3_stepOf (l : Launch) (G : Gh) (S : Pl) (sa : Nat → Nat) (V : SV) (k q h y : Int32) (hS : shSea S sa) (hct : Ct (qI S) sa (stl V.2)) (hk : 0 ≤ k.toInt ∧ k.toInt < 4) (hq : 0 ≤ q.toInt ∧ q.toInt < 4) (hh : 0 ≤ h.toInt ∧ h.toInt < 72) : MtI l yX3_stepOf cX3_stepOf 6 (some .int) (Rm 3 0 0) G [.ref (sa 0), .int k, .int q, .int h, .int y] S (fun (r : Int32) (S' : Pl) => S = S' ∧ r = stW V.2 k.toNatClampNeg q.toNatClampNeg h.toNatClampNeg (if y = 0 then 1 else 2)) 0 0 := by
  refine MtI.of (by decide) (Nat.le_of_ble_eq_true rfl) ?_
  intro p e s m args below meth c Q A X hw hin hret ls hl
  have hx := X.1.1
  have hb := X.1.2.1
  have hl : lv_has ls 6 [(0, .ref (sa 0)), (1, .int k), (2, .int q), (3, .int h), (4, .int y)] := hl
  obtain ⟨k0, r10, r11, r12, r13, r14, k1, n1, g1, k2, n2, k3, n3, k4, n4, fz⟩ := id hS
  have hck := cl_toInt (x := k) hk.1
  have hcq := cl_toInt (x := q) hq.1
  have hcc := cl_toInt (x := h) hh.1
  refine lv_iload_n hx hb dX3_stepOf_0 rfl (lv_at hl 1 rfl) ?_
  refine k_SNi (n := 1) (host := RX10) X hw (c_X10_isKind l G _ k) (List.mem_of_getElem? (i := 5) rfl) wd_r15_16 wd_r1_2 wd_r15_17 ⟨by decide, by decide, by decide +kernel⟩ rfl rfl ⟨Nat.le_of_ble_eq_true rfl, Nat.le_of_ble_eq_true rfl⟩ rfl rfl hl.1 (Nat.le_of_ble_eq_true rfl) dX3_stepOf_1 ⟨Nat.le_of_ble_eq_true rfl, Nat.le_of_ble_eq_true rfl⟩ (fun r1_1 S1_3 H locs h1_2 hw => ?_)
  rcases h1_2 with ⟨rfl, rfl, h1_2⟩ | ⟨rfl, rfl, h1_2⟩
  · have h1_2 := h1_2
    refine lv_if_eq (tgt := 16) hx hb dX3_stepOf_4 (by decide) (fun c4_4 => absurd c4_4 (by decide)) (fun c4_4 => ?_)
    refine lv_aload_n hx hb dX3_stepOf_7 rfl (lv_at hl 0 rfl) ?_
    refine gf_X3_22 (b := (sa 2)) X hw k0 r12 dX3_stepOf_8 ?_
    refine lv_iload_n hx hb dX3_stepOf_11 rfl (lv_at hl 1 rfl) ?_
    refine q_ldI X hw k2 (vin n2 (by omega) (by omega)) dX3_stepOf_12 ?_
    refine lv_topi (fun v12_5 e12_5 => ?_)
    have e12_5 : v12_5 = (qI S) (sa 2) k.toNatClampNeg := e12_5
    have HL9 : v12_5 = stl V.2 2 k.toNatClampNeg := e12_5.trans (hct 2 (by decide) _ (show k.toNatClampNeg < 4 by omega))
    refine lv_goto (tgt := 17) hx hb dX3_stepOf_13 (by decide) ?_
    refine lv_istore (lv' := [(5, .int v12_5), (0, .ref (sa 0)), (1, .int k), (2, .int q), (3, .int h), (4, .int y)]) hx hb dX3_stepOf_17 hl (by decide) rfl (fun ls hl => ?_)
    refine lv_aload_n hx hb dX3_stepOf_19 rfl (lv_at hl 1 rfl) ?_
    refine lv_iload_n hx hb dX3_stepOf_20 rfl (lv_at hl 3 rfl) ?_
    refine lv_iload_n hx hb dX3_stepOf_21 rfl (lv_at hl 4 rfl) ?_
    refine lv_iload hx hb dX3_stepOf_22 (lv_at hl 5 rfl) ?_
    refine k_Vi (n := 3) X hw (rcvk (ci := 3) X hw k0 (fun _ _ _ _ _ _ _ => ⟨_, rfl⟩) rfl) (c_v_X3_streamOf l G _ sa q h y hS) wd_r19_11 wd_r19_12 wd_r19_13 wd_r2_9 wd_r19_14 ⟨by decide, by decide, by decide +kernel⟩ rfl rfl ⟨Nat.le_of_ble_eq_true rfl, Nat.le_of_ble_eq_true rfl⟩ rfl rfl hl.1 (Nat.le_of_ble_eq_true rfl) dX3_stepOf_24 ⟨Nat.le_of_ble_eq_true rfl, Nat.le_of_ble_eq_true rfl⟩ (fun r24_6 S24_8 H locs h24_7 hw => ?_)
    obtain ⟨rfl, h24_7⟩ := h24_7
    have HS9 : r24_6 = (if y = 0 then sr (V.2 ((10 + 4 * (q.toNatClampNeg + 1)) + 3)) (V.2 ((10 + 4 * (q.toNatClampNeg + 1)) + 1)) h.toNatClampNeg else sr (V.2 ((10 + 4 * (q.toNatClampNeg + 1)) + 3)) (V.2 ((10 + 4 * (q.toNatClampNeg + 1)) + 2)) h.toNatClampNeg) := by rw [h24_7, if_pos (by omega), if_pos (by omega), show qI S (fl sa (q.toNatClampNeg + 1) 1) h.toNatClampNeg = sr (V.2 (10 + 4 * (q.toNatClampNeg + 1) + 3)) (V.2 (10 + 4 * (q.toNatClampNeg + 1) + 1)) h.toNatClampNeg from (hct _ (fl_in (f := (q.toNatClampNeg + 1)) (k := 1) (by omega) (by omega)) _ (by rw [lgR_fl]; omega)).trans (stl_f (by omega)), show qI S (fl sa (q.toNatClampNeg + 1) 2) h.toNatClampNeg = sr (V.2 (10 + 4 * (q.toNatClampNeg + 1) + 3)) (V.2 (10 + 4 * (q.toNatClampNeg + 1) + 2)) h.toNatClampNeg from (hct _ (fl_in (f := (q.toNatClampNeg + 1)) (k := 2) (by omega) (by omega)) _ (by rw [lgR_fl]; omega)).trans (stl_f (by omega))]
    refine lv_aload_n hx hb dX3_stepOf_27 rfl (lv_at hl 1 rfl) ?_
    refine lv_iload_n hx hb dX3_stepOf_28 rfl (lv_at hl 4 rfl) ?_
    refine lv_iload hx hb dX3_stepOf_29 (lv_at hl 5 rfl) ?_
    refine k_Vi (n := 2) X hw (rcvk (ci := 3) X hw k0 (fun _ _ _ _ _ _ _ => ⟨_, rfl⟩) rfl) (c_v_X3_windOf l G _ sa h y hS) wd_r19_19 wd_r19_20 wd_r19_21 wd_r2_9 wd_r19_22 ⟨by decide, by decide, by decide +kernel⟩ rfl rfl ⟨Nat.le_of_ble_eq_true rfl, Nat.le_of_ble_eq_true rfl⟩ rfl rfl hl.1 (Nat.le_of_ble_eq_true rfl) dX3_stepOf_31 ⟨Nat.le_of_ble_eq_true rfl, Nat.le_of_ble_eq_true rfl⟩ (fun r31_9 S31_11 H locs h31_10 hw => ?_)
    obtain ⟨rfl, h31_10⟩ := h31_10
    have HW9 : r31_9 = (if y = 0 then sr (V.2 13) (V.2 11) h.toNatClampNeg else sr (V.2 13) (V.2 12) h.toNatClampNeg) := by rw [h31_10, if_pos (by omega), show qI S (fl sa 0 1) h.toNatClampNeg = sr (V.2 (10 + 4 * 0 + 3)) (V.2 (10 + 4 * 0 + 1)) h.toNatClampNeg from (hct _ (fl_in (f := 0) (k := 1) (by omega) (by omega)) _ (by rw [lgR_fl]; omega)).trans (stl_f (by omega)), show qI S (fl sa 0 2) h.toNatClampNeg = sr (V.2 (10 + 4 * 0 + 3)) (V.2 (10 + 4 * 0 + 2)) h.toNatClampNeg from (hct _ (fl_in (f := 0) (k := 2) (by omega) (by omega)) _ (by rw [lgR_fl]; omega)).trans (stl_f (by omega))]
    refine lv_iload hx hb dX3_stepOf_34 (lv_at hl 0 rfl) ?_
    refine lv_imul hx hb dX3_stepOf_36 ?_
    refine lv_topi (fun v36_12 e36_12 => ?_)
    have e36n := e36_12
    refine lv_bipush (v := 100) hx hb dX3_stepOf_37 (by decide) ?_
    refine lv_idiv hx hb dX3_stepOf_39 (by decide) ?_
    refine lv_topi (fun v39_13 e39_13 => ?_)
    have e39n := e39_13
    refine lv_iadd hx hb dX3_stepOf_40 ?_
    refine lv_topi (fun v40_14 e40_14 => ?_)
    have e40n := e40_14
    exact hret v40_14 _ _ _ _ _ ⟨rfl, by first | (exfalso; omega) | (rw [e40n, e39n, e36n, HW9, HL9, HS9]; unfold stW; by_cases q9 : y = 0; (rw [if_pos q9, if_pos q9, if_pos q9]); (rw [if_neg q9, if_neg q9, if_neg q9]))⟩ hw rfl dX3_stepOf_41
  · have h1_2 := h1_2
    refine lv_if_eq (tgt := 16) hx hb dX3_stepOf_4 (by decide) (fun c4_15 => ?_) (fun c4_15 => absurd c4_15 (by decide))
    refine lv_iconst (v := 0) hx hb dX3_stepOf_16 (by decide) ?_
    refine lv_istore (lv' := [(5, .int 0), (0, .ref (sa 0)), (1, .int k), (2, .int q), (3, .int h), (4, .int y)]) hx hb dX3_stepOf_17 hl (by decide) rfl (fun ls hl => ?_)
    refine lv_aload_n hx hb dX3_stepOf_19 rfl (lv_at hl 1 rfl) ?_
    refine lv_iload_n hx hb dX3_stepOf_20 rfl (lv_at hl 3 rfl) ?_
    refine lv_iload_n hx hb dX3_stepOf_21 rfl (lv_at hl 4 rfl) ?_
    refine lv_iload hx hb dX3_stepOf_22 (lv_at hl 5 rfl) ?_
    refine k_Vi (n := 3) X hw (rcvk (ci := 3) X hw k0 (fun _ _ _ _ _ _ _ => ⟨_, rfl⟩) rfl) (c_v_X3_streamOf l G _ sa q h y hS) wd_r19_11 wd_r19_12 wd_r19_13 wd_r2_9 wd_r19_14 ⟨by decide, by decide, by decide +kernel⟩ rfl rfl ⟨Nat.le_of_ble_eq_true rfl, Nat.le_of_ble_eq_true rfl⟩ rfl rfl hl.1 (Nat.le_of_ble_eq_true rfl) dX3_stepOf_24 ⟨Nat.le_of_ble_eq_true rfl, Nat.le_of_ble_eq_true rfl⟩ (fun r24_16 S24_18 H locs h24_17 hw => ?_)
    obtain ⟨rfl, h24_17⟩ := h24_17
    have HS9 : r24_16 = (if y = 0 then sr (V.2 ((10 + 4 * (q.toNatClampNeg + 1)) + 3)) (V.2 ((10 + 4 * (q.toNatClampNeg + 1)) + 1)) h.toNatClampNeg else sr (V.2 ((10 + 4 * (q.toNatClampNeg + 1)) + 3)) (V.2 ((10 + 4 * (q.toNatClampNeg + 1)) + 2)) h.toNatClampNeg) := by rw [h24_17, if_pos (by omega), if_pos (by omega), show qI S (fl sa (q.toNatClampNeg + 1) 1) h.toNatClampNeg = sr (V.2 (10 + 4 * (q.toNatClampNeg + 1) + 3)) (V.2 (10 + 4 * (q.toNatClampNeg + 1) + 1)) h.toNatClampNeg from (hct _ (fl_in (f := (q.toNatClampNeg + 1)) (k := 1) (by omega) (by omega)) _ (by rw [lgR_fl]; omega)).trans (stl_f (by omega)), show qI S (fl sa (q.toNatClampNeg + 1) 2) h.toNatClampNeg = sr (V.2 (10 + 4 * (q.toNatClampNeg + 1) + 3)) (V.2 (10 + 4 * (q.toNatClampNeg + 1) + 2)) h.toNatClampNeg from (hct _ (fl_in (f := (q.toNatClampNeg + 1)) (k := 2) (by omega) (by omega)) _ (by rw [lgR_fl]; omega)).trans (stl_f (by omega))]
    refine lv_aload_n hx hb dX3_stepOf_27 rfl (lv_at hl 1 rfl) ?_
    refine lv_iload_n hx hb dX3_stepOf_28 rfl (lv_at hl 4 rfl) ?_
    refine lv_iload hx hb dX3_stepOf_29 (lv_at hl 5 rfl) ?_
    refine k_Vi (n := 2) X hw (rcvk (ci := 3) X hw k0 (fun _ _ _ _ _ _ _ => ⟨_, rfl⟩) rfl) (c_v_X3_windOf l G _ sa h y hS) wd_r19_19 wd_r19_20 wd_r19_21 wd_r2_9 wd_r19_22 ⟨by decide, by decide, by decide +kernel⟩ rfl rfl ⟨Nat.le_of_ble_eq_true rfl, Nat.le_of_ble_eq_true rfl⟩ rfl rfl hl.1 (Nat.le_of_ble_eq_true rfl) dX3_stepOf_31 ⟨Nat.le_of_ble_eq_true rfl, Nat.le_of_ble_eq_true rfl⟩ (fun r31_19 S31_21 H locs h31_20 hw => ?_)
    obtain ⟨rfl, h31_20⟩ := h31_20
    have HW9 : r31_19 = (if y = 0 then sr (V.2 13) (V.2 11) h.toNatClampNeg else sr (V.2 13) (V.2 12) h.toNatClampNeg) := by rw [h31_20, if_pos (by omega), show qI S (fl sa 0 1) h.toNatClampNeg = sr (V.2 (10 + 4 * 0 + 3)) (V.2 (10 + 4 * 0 + 1)) h.toNatClampNeg from (hct _ (fl_in (f := 0) (k := 1) (by omega) (by omega)) _ (by rw [lgR_fl]; omega)).trans (stl_f (by omega)), show qI S (fl sa 0 2) h.toNatClampNeg = sr (V.2 (10 + 4 * 0 + 3)) (V.2 (10 + 4 * 0 + 2)) h.toNatClampNeg from (hct _ (fl_in (f := 0) (k := 2) (by omega) (by omega)) _ (by rw [lgR_fl]; omega)).trans (stl_f (by omega))]
    refine lv_iload hx hb dX3_stepOf_34 (lv_at hl 0 rfl) ?_
    refine lv_imul hx hb dX3_stepOf_36 ?_
    refine lv_topi (fun v36_22 e36_22 => ?_)
    have e36n := e36_22
    refine lv_bipush (v := 100) hx hb dX3_stepOf_37 (by decide) ?_
    refine lv_idiv hx hb dX3_stepOf_39 (by decide) ?_
    refine lv_topi (fun v39_23 e39_23 => ?_)
    have e39n := e39_23
    refine lv_iadd hx hb dX3_stepOf_40 ?_
    refine lv_topi (fun v40_24 e40_24 => ?_)
    have e40n := e40_24
    exact hret v40_24 _ _ _ _ _ ⟨rfl, by first | (exfalso; omega) | (rw [e40n, e39n, e36n, HW9, HL9, HS9]; unfold stW; by_cases q9 : y = 0; (rw [if_pos q9, if_pos q9, if_pos q9]); (rw [if_neg q9, if_neg q9, if_neg q9]))⟩ hw rfl dX3_stepOf_41
set_option maxHeartbeats 4000000 in
set_option maxRecDepth 100000 in
theorem c_w_X7_drift (l : Launch) (G : Gh) (S : Pl) (ta tm : Nat) (sa : Nat → Nat) (V : SV) (P : TP) (hA : shTale S ta tm) (hS : shSea S sa) (hct : Ct (qI S) sa (stl V.2)) (hP : pI S 50 ta = P.1 ∧ pI S 51 ta = P.2.1 ∧ pI S 52 ta = P.2.2.1 ∧ pI S 53 ta = P.2.2.2.1) (hr : tpR P) (htm : ∀ j ∈ sidR, sa j ≠ tm) : MtV l yX7_drift cX7_drift 9 none (Rm 4 0 0) G [.ref ta, .ref (sa 0)] S (fun (S' : Pl) => ∃ q', ch S (pI S) (pJ S) q' (qJ S) = S' ∧ (∀ a, a ≠ tm → q' a = qI S a) ∧ ∀ t, t ≤ 72 → q' tm t = mrk (drA V.2 P t)) 0 0 := by
  refine MtV.of (by decide) (Nat.le_of_ble_eq_true rfl) ?_
  intro p e s m args below meth c Q A X hw hin hret ls hl
  have hx := X.1.1
  have hb := X.1.2.1
  have hl : lv_has ls 9 [(0, .ref ta), (1, .ref (sa 0))] := hl
  obtain ⟨hr1, hr2, hr3, hr4⟩ := id hr
  have hch := cl_toInt (x := P.2.2.2.1) hr4.1
  have hPh := congrArg Int32.toInt hP.2.2.2
  have hPk := congrArg Int32.toInt hP.1
  refine lv_aload_n hx hb dX7_drift_0 rfl (lv_at hl 0 rfl) ?_
  refine gf_X7_19 (v := (pI S) 51 ta) X hw hA.1 rfl dX7_drift_1 ?_
  refine lv_istore_n (lv' := [(2, .int ((pI S) 51 ta)), (0, .ref ta), (1, .ref (sa 0))]) hx hb dX7_drift_4 rfl hl (by decide) rfl (fun ls hl => ?_)
  refine lv_aload_n hx hb dX7_drift_5 rfl (lv_at hl 1 rfl) ?_
  refine gf_X7_22 (v := (pI S) 52 ta) X hw hA.1 rfl dX7_drift_6 ?_
  refine lv_istore_n (lv' := [(3, .int ((pI S) 52 ta)), (2, .int ((pI S) 51 ta)), (0, .ref ta), (1, .ref (sa 0))]) hx hb dX7_drift_9 rfl hl (by decide) rfl (fun ls hl => ?_)
  refine lv_iconst (v := 0) hx hb dX7_drift_10 (by decide) ?_
  refine lv_istore (lv' := [(4, .int 0), (3, .int ((pI S) 52 ta)), (2, .int ((pI S) 51 ta)), (0, .ref ta), (1, .ref (sa 0))]) hx hb dX7_drift_11 hl (by decide) rfl (fun ls hl => ?_)
  refine lv_iconst (v := 0) hx hb dX7_drift_13 (by decide) ?_
  refine lv_istore (lv' := [(5, .int 0), (4, .int 0), (3, .int ((pI S) 52 ta)), (2, .int ((pI S) 51 ta)), (0, .ref ta), (1, .ref (sa 0))]) hx hb dX7_drift_14 hl (by decide) rfl (fun ls hl => ?_)
  have lp16 : ∀ (N9 : Nat) (q16 : Nat → Nat → Int32) (x : Int32) (y : Int32) (u : Int32) (t : Int32), (0 ≤ t.toInt ∧ t.toInt ≤ 73) → (∀ a, a ≠ tm → q16 a = qI S a) → ((x, y, u) = drI V.2 P t.toNatClampNeg) → (∀ j, j < t.toNatClampNeg → q16 tm j = mrk (drA V.2 P j)) → (73 - t.toInt).toNat < N9 → ∀ (H : Heap) (locs : List Loc) (ls : Array Slot), PX G A s.heap (ch S (pI S) (pJ S) q16 (qJ S)) H locs → lv_has ls 9 [(5, .int t), (4, .int u), (3, .int y), (2, .int x), (0, .ref ta), (1, .ref (sa 0))] → W p l e (Rm 4 0 0) s m args below meth c H locs 0 0 Q (F0 m 16 ls []) := by
    intro N9
    induction N9 with
    | zero => intro q16 x y u t hi hqk hst hmk hm; exact absurd hm (Nat.not_lt_zero _)
    | succ N9 ih16 =>
      intro q16 x y u t hi hqk hst hmk hm H locs ls hw hl
      have hct1 : Ct q16 sa (stl V.2) := hct.kept (fun j9 h9 => hqk _ (htm j9 h9))
      have hcl := cl_toInt (x := t) hi.1
      refine lv_iload hx hb dX7_drift_16 (lv_at hl 0 rfl) ?_
      refine lv_bipush (v := 72) hx hb dX7_drift_18 (by decide) ?_
      refine lv_icmp_gt (tgt := 160) hx hb dX7_drift_20 (by decide) (fun c20_1 => ?_) (fun c20_1 => ?_)
      · have D20_1 := iLt c20_1 t_72 rfl
        exact hret _ _ _ _ _ ⟨_, rfl, hqk, fun j9 h9 => hmk j9 (by omega)⟩ hw dX7_drift_160
      · have D20_1 := iNlt c20_1 t_72 rfl
        have lp133 : ∀ (x2 : Int32) (y2 : Int32) (u2 : Int32), ((x2, y2, u2) = drA V.2 P t.toNatClampNeg) → ∀ (H : Heap) (locs : List Loc) (ls : Array Slot), PX G A s.heap (ch S (pI S) (pJ S) q16 (qJ S)) H locs → lv_has ls 9 [(0, .ref ta), (1, .ref (sa 0)), (2, .int x2), (3, .int y2), (4, .int u2), (5, .int t)] → W p l e (Rm 4 0 0) s m args below meth c H locs 0 0 Q (F0 m 133 ls []) := by
          intro x2 y2 u2 hA3 H locs ls hw hl
          have hok2 : okD (x2, y2, u2) := by rw [hA3]; exact drA_ok hr _
          refine lv_aload_n hx hb dX7_drift_133 rfl (lv_at hl 0 rfl) ?_
          refine gf_X7_9 (b := tm) X hw hA.1 hA.2.1 dX7_drift_134 ?_
          refine lv_iload hx hb dX7_drift_137 (lv_at hl 5 rfl) ?_
          refine lv_iload hx hb dX7_drift_139 (lv_at hl 4 rfl) ?_
          refine lv_sipush (v := 10000) hx hb dX7_drift_141 (by decide) ?_
          refine lv_imul hx hb dX7_drift_144 ?_
          refine lv_topi (fun v144_2 e144_2 => ?_)
          have e144n := e144_2
          refine lv_iload_n hx hb dX7_drift_145 rfl (lv_at hl 3 rfl) ?_
          refine lv_bipush (v := 100) hx hb dX7_drift_146 (by decide) ?_
          refine lv_imul hx hb dX7_drift_148 ?_
          refine lv_topi (fun v148_3 e148_3 => ?_)
          have e148n := e148_3
          refine lv_iadd hx hb dX7_drift_149 ?_
          refine lv_topi (fun v149_4 e149_4 => ?_)
          have e149n := e149_4
          refine lv_iload_n hx hb dX7_drift_150 rfl (lv_at hl 2 rfl) ?_
          refine lv_iadd hx hb dX7_drift_151 ?_
          refine lv_topi (fun v151_5 e151_5 => ?_)
          have e151n := e151_5
          refine lv_i2s hx hb dX7_drift_152 rfl ?_
          refine lv_topi (fun v152_6 e152_6 => ?_)
          have e152n := e152_6
          refine q_stS X hw hA.2.2.1 (vin hA.2.2.2 (by omega) (by omega)) dX7_drift_153 (fun H locs hw => ?_)
          obtain ⟨q153_7, eq153_7, hw⟩ : ∃ zz9, zz9 = va_up q16 tm (upd (q16 tm) t.toNatClampNeg (vp_nar .short v152_6)) ∧ PX G A s.heap (ch S (pI S) (pJ S) zz9 (qJ S)) H locs := ⟨_, rfl, hw⟩
          have c153 := eq153_7
          obtain ⟨v154_8, e154_8⟩ : ∃ y : Int32, y = t + 1 := ⟨_, rfl⟩
          have t154_8 := iAdd e154_8 rfl t_1 (by omega) (by omega)
          have t154 := t154_8
          refine lv_iinc (v := v154_8) (lv' := [(5, .int v154_8), (0, .ref ta), (1, .ref (sa 0)), (2, .int x2), (3, .int y2), (4, .int u2)]) hx hb dX7_drift_154 hl (k := 5) rfl (by rw [e154_8]; rfl) (by decide) rfl (fun ls hl => ?_)
          refine lv_goto (tgt := 16) hx hb dX7_drift_157 (by decide) ?_
          exact ih16 q153_7 x2 y2 u2 v154_8 (by omega) (fun a ha => (up_n c153 ha).trans (hqk a ha)) (by rw [show (v154_8).toNatClampNeg = t.toNatClampNeg + 1 by have := cl_toInt (x := v154_8) (by omega); omega]; exact hA3) (mk_up hmk c153 (mk_s e144n e148n e149n e151n e152n hok2) hA3 (by omega) t154) (by omega) _ _ _ hw (lv_sub hl [0, 5, 4, 3, 1, 2] rfl)
        have lp104 : ∀ (x1 : Int32) (y1 : Int32) (u1 : Int32), ((x1, y1, u1) = dM V.2 P t.toNatClampNeg (x, y, u)) → ∀ (H : Heap) (locs : List Loc) (ls : Array Slot), PX G A s.heap (ch S (pI S) (pJ S) q16 (qJ S)) H locs → lv_has ls 9 [(0, .ref ta), (1, .ref (sa 0)), (2, .int x1), (3, .int y1), (4, .int u1), (5, .int t)] → W p l e (Rm 4 0 0) s m args below meth c H locs 0 0 Q (F0 m 104 ls []) := by
          intro x1 y1 u1 hM1 H locs ls hw hl
          have hok1 : okD (x1, y1, u1) := by rw [hM1, hst]; exact okM (drI_ok hr _)
          have hb1 : 0 ≤ x1.toInt ∧ x1.toInt < 80 ∧ 0 ≤ y1.toInt ∧ y1.toInt < 80 := hok1.1
          have hA1 : drA V.2 P t.toNatClampNeg = drL V.2 P t.toNatClampNeg (x1, y1, u1) := by rw [drA_e, ← hst, ← hM1]
          refine lv_iload hx hb dX7_drift_104 (lv_at hl 5 rfl) ?_
          refine lv_aload_n hx hb dX7_drift_106 rfl (lv_at hl 0 rfl) ?_
          refine gf_X7_25 (v := (pI S) 53 ta) X hw hA.1 rfl dX7_drift_107 ?_
          refine lv_icmp_lt (tgt := 133) hx hb dX7_drift_110 (by decide) (fun c110_9 => ?_) (fun c110_9 => ?_)
          · have D110_9 := iLt c110_9 rfl rfl
            exact lp133  x1 y1 u1 (by rw [hA1]; first | exact drL_c (t := t.toNatClampNeg) (x := x1) (y := y1) (u := u1) (v := 1) (by omega) (by assumption) (lnd_y hct1 hcz (by assumption)) | (have z9 : u1 = 0 := (by assumption); have y9 := drL_c (C := V.2) (P := P) (t := t.toNatClampNeg) (x := x1) (y := y1) (u := u1) (v := 0) (by omega) z9 (lnd_n hct1 hcz hb1 (by assumption)); rw [← z9] at y9; exact y9) | exact (drL_a (s := (x1, y1, u1)) (by omega)).symm | exact (drL_b (by omega) (by assumption)).symm) _ _ _ hw (lv_sub hl [0, 1, 2, 3, 4, 5] rfl)
          · have D110_9 := iNlt c110_9 rfl rfl
            refine lv_iload hx hb dX7_drift_113 (lv_at hl 4 rfl) ?_
            refine lv_if_ne (tgt := 133) hx hb dX7_drift_115 (by decide) (fun c115_10 => ?_) (fun c115_10 => ?_)
            · have D115_10 := iNe c115_10 rfl t_0
              exact lp133  x1 y1 u1 (by rw [hA1]; first | exact drL_c (t := t.toNatClampNeg) (x := x1) (y := y1) (u := u1) (v := 1) (by omega) (by assumption) (lnd_y hct1 hcz (by assumption)) | (have z9 : u1 = 0 := (by assumption); have y9 := drL_c (C := V.2) (P := P) (t := t.toNatClampNeg) (x := x1) (y := y1) (u := u1) (v := 0) (by omega) z9 (lnd_n hct1 hcz hb1 (by assumption)); rw [← z9] at y9; exact y9) | exact (drL_a (s := (x1, y1, u1)) (by omega)).symm | exact (drL_b (by omega) (by assumption)).symm) _ _ _ hw (lv_sub hl [0, 1, 2, 3, 4, 5] rfl)
            · have D115_10 := iEq c115_10 rfl t_0
              refine lv_aload_n hx hb dX7_drift_118 rfl (lv_at hl 1 rfl) ?_
              refine lv_iload_n hx hb dX7_drift_119 rfl (lv_at hl 2 rfl) ?_
              refine lv_iload_n hx hb dX7_drift_120 rfl (lv_at hl 3 rfl) ?_
              refine k_SNi (n := 2) (host := RX10) X hw (c_v_X10_cellOf l G _ x1 y1) (List.mem_of_getElem? (i := 11) rfl) wd_r20_1 wd_r1_2 wd_r20_2 ⟨by decide, by decide, by decide +kernel⟩ rfl rfl ⟨Nat.le_of_ble_eq_true rfl, Nat.le_of_ble_eq_true rfl⟩ rfl rfl hl.1 (Nat.le_of_ble_eq_true rfl) dX7_drift_121 ⟨Nat.le_of_ble_eq_true rfl, Nat.le_of_ble_eq_true rfl⟩ (fun r121_11 S121_13 H locs h121_12 hw => ?_)
              obtain ⟨rfl, h121_12⟩ := h121_12
              have hcz : r121_11 = cellZ x1 y1 := h121_12
              refine k_Vi (n := 1) X hw (rcvk (ci := 3) X hw hS.1 (fun _ _ _ _ _ _ _ => ⟨_, rfl⟩) rfl) (c_v_X3_hasLand l G _ sa r121_11 hS) wd_r20_3 wd_r15_19 wd_r15_20 wd_r2_9 wd_r15_21 ⟨by decide, by decide, by decide +kernel⟩ rfl rfl ⟨Nat.le_of_ble_eq_true rfl, Nat.le_of_ble_eq_true rfl⟩ rfl rfl hl.1 (Nat.le_of_ble_eq_true rfl) dX7_drift_124 ⟨Nat.le_of_ble_eq_true rfl, Nat.le_of_ble_eq_true rfl⟩ (fun r124_14 S124_16 H locs h124_15 hw => ?_)
              rcases h124_15 with ⟨rfl, rfl, h124_15⟩ | ⟨rfl, rfl, h124_15⟩
              · have h124_15 := h124_15
                refine lv_if_eq (tgt := 133) hx hb dX7_drift_127 (by decide) (fun c127_17 => absurd c127_17 (by decide)) (fun c127_17 => ?_)
                refine lv_iconst (v := 1) hx hb dX7_drift_130 (by decide) ?_
                refine lv_istore (lv' := [(4, .int 1), (0, .ref ta), (1, .ref (sa 0)), (2, .int x1), (3, .int y1), (5, .int t)]) hx hb dX7_drift_131 hl (by decide) rfl (fun ls hl => ?_)
                exact lp133  x1 y1 1 (by rw [hA1]; first | exact drL_c (t := t.toNatClampNeg) (x := x1) (y := y1) (u := u1) (v := 1) (by omega) (by assumption) (lnd_y hct1 hcz (by assumption)) | (have z9 : u1 = 0 := (by assumption); have y9 := drL_c (C := V.2) (P := P) (t := t.toNatClampNeg) (x := x1) (y := y1) (u := u1) (v := 0) (by omega) z9 (lnd_n hct1 hcz hb1 (by assumption)); rw [← z9] at y9; exact y9) | exact (drL_a (s := (x1, y1, u1)) (by omega)).symm | exact (drL_b (by omega) (by assumption)).symm) _ _ _ hw (lv_sub hl [1, 2, 3, 4, 0, 5] rfl)
              · have h124_15 := h124_15
                refine lv_if_eq (tgt := 133) hx hb dX7_drift_127 (by decide) (fun c127_18 => ?_) (fun c127_18 => absurd c127_18 (by decide))
                exact lp133  x1 y1 u1 (by rw [hA1]; first | exact drL_c (t := t.toNatClampNeg) (x := x1) (y := y1) (u := u1) (v := 1) (by omega) (by assumption) (lnd_y hct1 hcz (by assumption)) | (have z9 : u1 = 0 := (by assumption); have y9 := drL_c (C := V.2) (P := P) (t := t.toNatClampNeg) (x := x1) (y := y1) (u := u1) (v := 0) (by omega) z9 (lnd_n hct1 hcz hb1 (by assumption)); rw [← z9] at y9; exact y9) | exact (drL_a (s := (x1, y1, u1)) (by omega)).symm | exact (drL_b (by omega) (by assumption)).symm) _ _ _ hw (lv_sub hl [0, 1, 2, 3, 4, 5] rfl)
        refine lv_iload hx hb dX7_drift_23 (lv_at hl 0 rfl) ?_
        refine lv_aload_n hx hb dX7_drift_25 rfl (lv_at hl 4 rfl) ?_
        refine gf_X7_25 (v := (pI S) 53 ta) X hw hA.1 rfl dX7_drift_26 ?_
        refine lv_icmp_le (tgt := 104) hx hb dX7_drift_29 (by decide) (fun c29_19 => ?_) (fun c29_19 => ?_)
        · have D29_19 := iLe c29_19 rfl rfl
          exact lp104  x y u (by first | exact dM_c (t := t.toNatClampNeg) (x := x) (y := y) (u := u) (by omega) (by assumption) (e60n.trans (congrArg (fun z9 => x + z9) hs57)) (e79n.trans (congrArg (fun z9 => y + z9) hs76)) (by omega) | exact dM_d (t := t.toNatClampNeg) (x := x) (y := y) (u := u) (by omega) (by assumption) (e60n.trans (congrArg (fun z9 => x + z9) hs57)) (e79n.trans (congrArg (fun z9 => y + z9) hs76)) (by omega) | exact (dM_a (s := (x, y, u)) (by omega)).symm | exact (dM_b (by omega) (by assumption)).symm) _ _ _ hw (lv_sub hl [4, 5, 3, 2, 1, 0] rfl)
        · have D29_19 := iNle c29_19 rfl rfl
          refine lv_iload hx hb dX7_drift_32 (lv_at hl 1 rfl) ?_
          refine lv_if_ne (tgt := 104) hx hb dX7_drift_34 (by decide) (fun c34_20 => ?_) (fun c34_20 => ?_)
          · have D34_20 := iNe c34_20 rfl t_0
            exact lp104  x y u (by first | exact dM_c (t := t.toNatClampNeg) (x := x) (y := y) (u := u) (by omega) (by assumption) (e60n.trans (congrArg (fun z9 => x + z9) hs57)) (e79n.trans (congrArg (fun z9 => y + z9) hs76)) (by omega) | exact dM_d (t := t.toNatClampNeg) (x := x) (y := y) (u := u) (by omega) (by assumption) (e60n.trans (congrArg (fun z9 => x + z9) hs57)) (e79n.trans (congrArg (fun z9 => y + z9) hs76)) (by omega) | exact (dM_a (s := (x, y, u)) (by omega)).symm | exact (dM_b (by omega) (by assumption)).symm) _ _ _ hw (lv_sub hl [4, 5, 3, 2, 1, 0] rfl)
          · have D34_20 := iEq c34_20 rfl t_0
            refine lv_iload_n hx hb dX7_drift_37 rfl (lv_at hl 3 rfl) ?_
            refine lv_iload_n hx hb dX7_drift_38 rfl (lv_at hl 2 rfl) ?_
            refine k_SNi (n := 2) (host := RX10) X hw (c_v_X10_quarterOf l G _ x y) (List.mem_of_getElem? (i := 9) rfl) wd_r19_5 wd_r1_2 wd_r19_6 ⟨by decide, by decide, by decide +kernel⟩ rfl rfl ⟨Nat.le_of_ble_eq_true rfl, Nat.le_of_ble_eq_true rfl⟩ rfl rfl hl.1 (Nat.le_of_ble_eq_true rfl) dX7_drift_39 ⟨Nat.le_of_ble_eq_true rfl, Nat.le_of_ble_eq_true rfl⟩ (fun r39_21 S39_23 H locs h39_22 hw => ?_)
            obtain ⟨rfl, h39_22⟩ := h39_22
            have hqt : r39_21.toInt = (qtr x y : Nat) := h39_22
            have hqb := qtr_b (x := x) (y := y)
            have hqr : (r39_21).toNatClampNeg = qtr x y := by have := cl_toInt (x := r39_21) (by omega); omega
            refine lv_istore (lv' := [(6, .int r39_21), (5, .int t), (4, .int u), (3, .int y), (2, .int x), (0, .ref ta), (1, .ref (sa 0))]) hx hb dX7_drift_42 hl (by decide) rfl (fun ls hl => ?_)
            refine lv_iload_n hx hb dX7_drift_44 rfl (lv_at hl 4 rfl) ?_
            refine lv_aload_n hx hb dX7_drift_45 rfl (lv_at hl 6 rfl) ?_
            refine lv_aload_n hx hb dX7_drift_46 rfl (lv_at hl 5 rfl) ?_
            refine gf_X7_15 (v := (pI S) 50 ta) X hw hA.1 rfl dX7_drift_47 ?_
            refine lv_iload hx hb dX7_drift_50 (lv_at hl 0 rfl) ?_
            refine lv_iload hx hb dX7_drift_52 (lv_at hl 1 rfl) ?_
            refine lv_iconst (v := 1) hx hb dX7_drift_54 (by decide) ?_
            refine lv_isub hx hb dX7_drift_55 ?_
            refine lv_topi (fun v55_24 e55_24 => ?_)
            have t55_24 := iSub e55_24 rfl t_1 (by omega) (by omega)
            have t55 := t55_24
            refine lv_iconst (v := 0) hx hb dX7_drift_56 (by decide) ?_
            refine k_Vi (n := 4) X hw (rcvk (ci := 3) X hw hS.1 (fun _ _ _ _ _ _ _ => ⟨_, rfl⟩) rfl) (c_v_X3_stepOf l G _ sa V ((pI S) 50 ta) r39_21 v55_24 0 hS hct1 (by omega) (by omega) (by omega)) wd_r19_7 wd_r19_8 wd_r19_9 wd_r2_9 wd_r19_10 ⟨by decide, by decide, by decide +kernel⟩ rfl rfl ⟨Nat.le_of_ble_eq_true rfl, Nat.le_of_ble_eq_true rfl⟩ rfl rfl hl.1 (Nat.le_of_ble_eq_true rfl) dX7_drift_57 ⟨Nat.le_of_ble_eq_true rfl, Nat.le_of_ble_eq_true rfl⟩ (fun r57_25 S57_27 H locs h57_26 hw => ?_)
            have := t_0
            obtain ⟨rfl, h57_26⟩ := h57_26
            have hti : (v55_24).toNatClampNeg = t.toNatClampNeg - 1 := by have := cl_toInt (x := v55_24) (by omega); omega
            have hs57 : r57_25 = stW V.2 P.1.toNatClampNeg (qtr x y) (t.toNatClampNeg - 1) 1 := h57_26.trans (by rw [show pI S 50 ta = P.1 from hP.1, hqr, hti, if_pos rfl])
            refine lv_iadd hx hb dX7_drift_60 ?_
            refine lv_topi (fun v60_28 e60_28 => ?_)
            have e60n := e60_28
            refine lv_istore (lv' := [(7, .int v60_28), (6, .int r39_21), (5, .int t), (4, .int u), (3, .int y), (2, .int x), (0, .ref ta), (1, .ref (sa 0))]) hx hb dX7_drift_61 hl (by decide) rfl (fun ls hl => ?_)
            refine lv_iload_n hx hb dX7_drift_63 rfl (lv_at hl 4 rfl) ?_
            refine lv_aload_n hx hb dX7_drift_64 rfl (lv_at hl 7 rfl) ?_
            refine lv_aload_n hx hb dX7_drift_65 rfl (lv_at hl 6 rfl) ?_
            refine gf_X7_15 (v := (pI S) 50 ta) X hw hA.1 rfl dX7_drift_66 ?_
            refine lv_iload hx hb dX7_drift_69 (lv_at hl 1 rfl) ?_
            refine lv_iload hx hb dX7_drift_71 (lv_at hl 2 rfl) ?_
            refine lv_iconst (v := 1) hx hb dX7_drift_73 (by decide) ?_
            refine lv_isub hx hb dX7_drift_74 ?_
            refine lv_topi (fun v74_29 e74_29 => ?_)
            have t74_29 := iSub e74_29 rfl t_1 (by omega) (by omega)
            have t74 := t74_29
            refine lv_iconst (v := 1) hx hb dX7_drift_75 (by decide) ?_
            refine k_Vi (n := 4) X hw (rcvk (ci := 3) X hw hS.1 (fun _ _ _ _ _ _ _ => ⟨_, rfl⟩) rfl) (c_v_X3_stepOf l G _ sa V ((pI S) 50 ta) r39_21 v74_29 1 hS hct1 (by omega) (by omega) (by omega)) wd_r19_7 wd_r19_8 wd_r19_9 wd_r2_9 wd_r19_10 ⟨by decide, by decide, by decide +kernel⟩ rfl rfl ⟨Nat.le_of_ble_eq_true rfl, Nat.le_of_ble_eq_true rfl⟩ rfl rfl hl.1 (Nat.le_of_ble_eq_true rfl) dX7_drift_76 ⟨Nat.le_of_ble_eq_true rfl, Nat.le_of_ble_eq_true rfl⟩ (fun r76_30 S76_32 H locs h76_31 hw => ?_)
            have := t_1
            obtain ⟨rfl, h76_31⟩ := h76_31
            have hti : (v74_29).toNatClampNeg = t.toNatClampNeg - 1 := by have := cl_toInt (x := v74_29) (by omega); omega
            have hs76 : r76_30 = stW V.2 P.1.toNatClampNeg (qtr x y) (t.toNatClampNeg - 1) 2 := h76_31.trans (by rw [show pI S 50 ta = P.1 from hP.1, hqr, hti, if_neg (by decide)])
            refine lv_iadd hx hb dX7_drift_79 ?_
            refine lv_topi (fun v79_33 e79_33 => ?_)
            have e79n := e79_33
            refine lv_istore (lv' := [(8, .int v79_33), (7, .int v60_28), (6, .int r39_21), (5, .int t), (4, .int u), (3, .int y), (2, .int x), (0, .ref ta), (1, .ref (sa 0))]) hx hb dX7_drift_80 hl (by decide) rfl (fun ls hl => ?_)
            refine lv_iload hx hb dX7_drift_82 (lv_at hl 1 rfl) ?_
            refine lv_iload hx hb dX7_drift_84 (lv_at hl 0 rfl) ?_
            refine k_SNi (n := 2) (host := RX10) X hw (c_X10_isPoint l G _ v60_28 v79_33) (List.mem_of_getElem? (i := 10) rfl) wd_r19_23 wd_r1_2 wd_r20_0 ⟨by decide, by decide, by decide +kernel⟩ rfl rfl ⟨Nat.le_of_ble_eq_true rfl, Nat.le_of_ble_eq_true rfl⟩ rfl rfl hl.1 (Nat.le_of_ble_eq_true rfl) dX7_drift_86 ⟨Nat.le_of_ble_eq_true rfl, Nat.le_of_ble_eq_true rfl⟩ (fun r86_34 S86_36 H locs h86_35 hw => ?_)
            rcases h86_35 with ⟨rfl, rfl, h86_35⟩ | ⟨rfl, rfl, h86_35⟩
            · have h86_35 := h86_35
              refine lv_if_eq (tgt := 101) hx hb dX7_drift_89 (by decide) (fun c89_37 => absurd c89_37 (by decide)) (fun c89_37 => ?_)
              refine lv_iload hx hb dX7_drift_92 (lv_at hl 1 rfl) ?_
              refine lv_istore_n (lv' := [(2, .int v60_28), (8, .int v79_33), (7, .int v60_28), (6, .int r39_21), (5, .int t), (4, .int u), (3, .int y), (0, .ref ta), (1, .ref (sa 0))]) hx hb dX7_drift_94 rfl hl (by decide) rfl (fun ls hl => ?_)
              refine lv_iload hx hb dX7_drift_95 (lv_at hl 1 rfl) ?_
              refine lv_istore_n (lv' := [(3, .int v79_33), (2, .int v60_28), (8, .int v79_33), (7, .int v60_28), (6, .int r39_21), (5, .int t), (4, .int u), (0, .ref ta), (1, .ref (sa 0))]) hx hb dX7_drift_97 rfl hl (by decide) rfl (fun ls hl => ?_)
              refine lv_goto (tgt := 104) hx hb dX7_drift_98 (by decide) ?_
              exact lp104  v60_28 v79_33 u (by first | exact dM_c (t := t.toNatClampNeg) (x := x) (y := y) (u := u) (by omega) (by assumption) (e60n.trans (congrArg (fun z9 => x + z9) hs57)) (e79n.trans (congrArg (fun z9 => y + z9) hs76)) (by omega) | exact dM_d (t := t.toNatClampNeg) (x := x) (y := y) (u := u) (by omega) (by assumption) (e60n.trans (congrArg (fun z9 => x + z9) hs57)) (e79n.trans (congrArg (fun z9 => y + z9) hs76)) (by omega) | exact (dM_a (s := (x, y, u)) (by omega)).symm | exact (dM_b (by omega) (by assumption)).symm) _ _ _ hw (lv_sub hl [7, 8, 1, 0, 6, 5] rfl)
            · have h86_35 := h86_35
              refine lv_if_eq (tgt := 101) hx hb dX7_drift_89 (by decide) (fun c89_38 => ?_) (fun c89_38 => absurd c89_38 (by decide))
              refine lv_iconst (v := 2) hx hb dX7_drift_101 (by decide) ?_
              refine lv_istore (lv' := [(4, .int 2), (8, .int v79_33), (7, .int v60_28), (6, .int r39_21), (5, .int t), (3, .int y), (2, .int x), (0, .ref ta), (1, .ref (sa 0))]) hx hb dX7_drift_102 hl (by decide) rfl (fun ls hl => ?_)
              exact lp104  x y 2 (by first | exact dM_c (t := t.toNatClampNeg) (x := x) (y := y) (u := u) (by omega) (by assumption) (e60n.trans (congrArg (fun z9 => x + z9) hs57)) (e79n.trans (congrArg (fun z9 => y + z9) hs76)) (by omega) | exact dM_d (t := t.toNatClampNeg) (x := x) (y := y) (u := u) (by omega) (by assumption) (e60n.trans (congrArg (fun z9 => x + z9) hs57)) (e79n.trans (congrArg (fun z9 => y + z9) hs76)) (by omega) | exact (dM_a (s := (x, y, u)) (by omega)).symm | exact (dM_b (by omega) (by assumption)).symm) _ _ _ hw (lv_sub hl [7, 8, 6, 5, 0, 4] rfl)
  exact lp16 _ (qI S) ((pI S) 51 ta) ((pI S) 52 ta) 0 0 (by have := t_0; have := t_0; omega) (fun _ _ => rfl) (by rw [show pI S 51 ta = P.2.1 from hP.2.1, show pI S 52 ta = P.2.2.1 from hP.2.2.1, show (0 : Int32).toNatClampNeg = 0 by decide]; rfl) (fun j h => absurd h (by rw [show (0 : Int32).toNatClampNeg = 0 by decide]; omega)) (Nat.lt_succ_self _) _ _ _ hw (lv_sub hl [0, 1, 2, 3, 4, 5] rfl)
set_option maxHeartbeats 4000000 in
set_option maxRecDepth 100000 in
theorem c_v_X7_stateAt (l : Launch) (G : Gh) (S : Pl) (ta tm : Nat) (t : Int32) (F : Nat → D3) (hA : shTale S ta tm) (hmk : ∀ j, j ≤ 72 → qI S tm j = mrk (F j)) (hok : ∀ j, okD (F j)) : MtI l yX7_stateAt cX7_stateAt 2 (some .int) (Rm 1 0 0) G [.ref ta, .int t] S (fun (r : Int32) (S' : Pl) => S = S' ∧ r = (if 0 ≤ t.toInt ∧ t.toInt ≤ 72 then (F t.toNatClampNeg).2.2 else -1)) 0 0 := by
  refine MtI.of (by decide) (Nat.le_of_ble_eq_true rfl) ?_
  intro p e s m args below meth c Q A X hw hin hret ls hl
  have hx := X.1.1
  have hb := X.1.2.1
  have hl : lv_has ls 2 [(0, .ref ta), (1, .int t)] := hl
  refine lv_iload_n hx hb dX7_stateAt_0 rfl (lv_at hl 1 rfl) ?_
  refine k_SNi (n := 1) (host := RX10) X hw (c_X10_isMoment l G _ t) (List.mem_of_getElem? (i := 12) rfl) wd_r30_7 wd_r1_2 wd_r30_8 ⟨by decide, by decide, by decide +kernel⟩ rfl rfl ⟨Nat.le_of_ble_eq_true rfl, Nat.le_of_ble_eq_true rfl⟩ rfl rfl hl.1 (Nat.le_of_ble_eq_true rfl) dX7_stateAt_1 ⟨Nat.le_of_ble_eq_true rfl, Nat.le_of_ble_eq_true rfl⟩ (fun r1_1 S1_3 H locs h1_2 hw => ?_)
  rcases h1_2 with ⟨rfl, rfl, h1_2⟩ | ⟨rfl, rfl, h1_2⟩
  · have h1_2 := h1_2
    refine lv_if_eq (tgt := 20) hx hb dX7_stateAt_4 (by decide) (fun c4_4 => absurd c4_4 (by decide)) (fun c4_4 => ?_)
    refine lv_aload_n hx hb dX7_stateAt_7 rfl (lv_at hl 0 rfl) ?_
    refine gf_X7_9 (b := tm) X hw hA.1 hA.2.1 dX7_stateAt_8 ?_
    refine lv_iload_n hx hb dX7_stateAt_11 rfl (lv_at hl 1 rfl) ?_
    refine q_ldS X hw hA.2.2.1 (vin hA.2.2.2 (by omega) (by omega)) dX7_stateAt_12 ?_
    refine lv_topi (fun v12_5 e12_5 => ?_)
    have e12_5 : v12_5 = (qI S) tm t.toNatClampNeg := e12_5
    have hm12 : v12_5 = mrk (F t.toNatClampNeg) := e12_5.trans (hmk _ (by have := cl_toInt (x := t) (by omega); omega))
    refine lv_sipush (v := 10000) hx hb dX7_stateAt_13 (by decide) ?_
    refine lv_idiv hx hb dX7_stateAt_16 (by decide) ?_
    refine lv_topi (fun v16_6 e16_6 => ?_)
    have hd16 := mk_div (hok _) hm12 e16_6
    refine lv_goto (tgt := 21) hx hb dX7_stateAt_17 (by decide) ?_
    exact hret v16_6 _ _ _ _ _ ⟨rfl, by rw [if_pos (by omega)]; exact hd16⟩ hw rfl dX7_stateAt_21
  · have h1_2 := h1_2
    refine lv_if_eq (tgt := 20) hx hb dX7_stateAt_4 (by decide) (fun c4_7 => ?_) (fun c4_7 => absurd c4_7 (by decide))
    refine lv_iconst (v := -1) hx hb dX7_stateAt_20 (by decide) ?_
    exact hret (-1) _ _ _ _ _ ⟨rfl, by rw [if_neg (by omega)]⟩ hw rfl dX7_stateAt_21
set_option maxHeartbeats 4000000 in
set_option maxRecDepth 100000 in
theorem c_v_X7_pointAt (l : Launch) (G : Gh) (S : Pl) (ta tm : Nat) (t : Int32) (F : Nat → D3) (hA : shTale S ta tm) (hmk : ∀ j, j ≤ 72 → qI S tm j = mrk (F j)) (hok : ∀ j, okD (F j)) : MtI l yX7_pointAt cX7_pointAt 3 (some .int) (Rm 1 0 0) G [.ref ta, .int t] S (fun (r : Int32) (S' : Pl) => S = S' ∧ r = (if 0 ≤ t.toInt ∧ t.toInt ≤ 72 then plc (F t.toNatClampNeg) else -1)) 0 0 := by
  refine MtI.of (by decide) (Nat.le_of_ble_eq_true rfl) ?_
  intro p e s m args below meth c Q A X hw hin hret ls hl
  have hx := X.1.1
  have hb := X.1.2.1
  have hl : lv_has ls 3 [(0, .ref ta), (1, .int t)] := hl
  refine lv_iload_n hx hb dX7_pointAt_0 rfl (lv_at hl 1 rfl) ?_
  refine k_SNi (n := 1) (host := RX10) X hw (c_X10_isMoment l G _ t) (List.mem_of_getElem? (i := 12) rfl) wd_r30_7 wd_r1_2 wd_r30_8 ⟨by decide, by decide, by decide +kernel⟩ rfl rfl ⟨Nat.le_of_ble_eq_true rfl, Nat.le_of_ble_eq_true rfl⟩ rfl rfl hl.1 (Nat.le_of_ble_eq_true rfl) dX7_pointAt_1 ⟨Nat.le_of_ble_eq_true rfl, Nat.le_of_ble_eq_true rfl⟩ (fun r1_1 S1_3 H locs h1_2 hw => ?_)
  rcases h1_2 with ⟨rfl, rfl, h1_2⟩ | ⟨rfl, rfl, h1_2⟩
  · have h1_2 := h1_2
    refine lv_if_eq (tgt := 25) hx hb dX7_pointAt_4 (by decide) (fun c4_4 => absurd c4_4 (by decide)) (fun c4_4 => ?_)
    refine lv_aload_n hx hb dX7_pointAt_7 rfl (lv_at hl 0 rfl) ?_
    refine gf_X7_9 (b := tm) X hw hA.1 hA.2.1 dX7_pointAt_8 ?_
    refine lv_iload_n hx hb dX7_pointAt_11 rfl (lv_at hl 1 rfl) ?_
    refine q_ldS X hw hA.2.2.1 (vin hA.2.2.2 (by omega) (by omega)) dX7_pointAt_12 ?_
    refine lv_topi (fun v12_5 e12_5 => ?_)
    have e12_5 : v12_5 = (qI S) tm t.toNatClampNeg := e12_5
    have hm12 : v12_5 = mrk (F t.toNatClampNeg) := e12_5.trans (hmk _ (by have := cl_toInt (x := t) (by omega); omega))
    refine lv_sipush (v := 10000) hx hb dX7_pointAt_13 (by decide) ?_
    refine lv_idiv hx hb dX7_pointAt_16 (by decide) ?_
    refine lv_topi (fun v16_6 e16_6 => ?_)
    have hd16 := mk_div (hok _) hm12 e16_6
    have hd16t := congrArg Int32.toInt hd16
    refine lv_iconst (v := 2) hx hb dX7_pointAt_17 (by decide) ?_
    refine lv_icmp_eq (tgt := 25) hx hb dX7_pointAt_18 (by decide) (fun c18_7 => ?_) (fun c18_7 => ?_)
    · have D18_7 := iEq c18_7 rfl t_2
      refine lv_iconst (v := 0) hx hb dX7_pointAt_25 (by decide) ?_
      refine lv_istore_n (lv' := [(2, .int 0), (0, .ref ta), (1, .int t)]) hx hb dX7_pointAt_26 rfl hl (by decide) rfl (fun ls hl => ?_)
      refine lv_iload_n hx hb dX7_pointAt_27 rfl (lv_at hl 0 rfl) ?_
      refine lv_if_eq (tgt := 44) hx hb dX7_pointAt_28 (by decide) (fun c28_8 => ?_) (fun c28_8 => absurd c28_8 (by decide))
      refine lv_iconst (v := -1) hx hb dX7_pointAt_44 (by decide) ?_
      exact hret (-1) _ _ _ _ _ ⟨rfl, by first | rw [if_neg (by omega)] | (rw [if_pos (by omega)]; exact (plc_2 (by omega)).symm)⟩ hw rfl dX7_pointAt_45
    · have D18_7 := iNe c18_7 rfl t_2
      refine lv_iconst (v := 1) hx hb dX7_pointAt_21 (by decide) ?_
      refine lv_goto (tgt := 26) hx hb dX7_pointAt_22 (by decide) ?_
      refine lv_istore_n (lv' := [(2, .int 1), (0, .ref ta), (1, .int t)]) hx hb dX7_pointAt_26 rfl hl (by decide) rfl (fun ls hl => ?_)
      refine lv_iload_n hx hb dX7_pointAt_27 rfl (lv_at hl 0 rfl) ?_
      refine lv_if_eq (tgt := 44) hx hb dX7_pointAt_28 (by decide) (fun c28_9 => absurd c28_9 (by decide)) (fun c28_9 => ?_)
      refine lv_aload_n hx hb dX7_pointAt_31 rfl (lv_at hl 1 rfl) ?_
      refine gf_X7_9 (b := tm) X hw hA.1 hA.2.1 dX7_pointAt_32 ?_
      refine lv_iload_n hx hb dX7_pointAt_35 rfl (lv_at hl 2 rfl) ?_
      refine q_ldS X hw hA.2.2.1 (vin hA.2.2.2 (by omega) (by omega)) dX7_pointAt_36 ?_
      refine lv_topi (fun v36_10 e36_10 => ?_)
      have e36_10 : v36_10 = (qI S) tm t.toNatClampNeg := e36_10
      have hm36 : v36_10 = mrk (F t.toNatClampNeg) := e36_10.trans (hmk _ (by have := cl_toInt (x := t) (by omega); omega))
      refine lv_sipush (v := 10000) hx hb dX7_pointAt_37 (by decide) ?_
      refine lv_irem hx hb dX7_pointAt_40 (by decide) ?_
      refine lv_topi (fun v40_11 e40_11 => ?_)
      have hd40 := mk_mod (hok _) hm36 e40_11
      refine lv_goto (tgt := 45) hx hb dX7_pointAt_41 (by decide) ?_
      exact hret v40_11 _ _ _ _ _ ⟨rfl, by rw [if_pos (by omega), plc_n (by omega)]; exact hd40⟩ hw rfl dX7_pointAt_45
  · have h1_2 := h1_2
    refine lv_if_eq (tgt := 25) hx hb dX7_pointAt_4 (by decide) (fun c4_12 => ?_) (fun c4_12 => absurd c4_12 (by decide))
    refine lv_iconst (v := 0) hx hb dX7_pointAt_25 (by decide) ?_
    refine lv_istore_n (lv' := [(2, .int 0), (0, .ref ta), (1, .int t)]) hx hb dX7_pointAt_26 rfl hl (by decide) rfl (fun ls hl => ?_)
    refine lv_iload_n hx hb dX7_pointAt_27 rfl (lv_at hl 0 rfl) ?_
    refine lv_if_eq (tgt := 44) hx hb dX7_pointAt_28 (by decide) (fun c28_13 => ?_) (fun c28_13 => absurd c28_13 (by decide))
    refine lv_iconst (v := -1) hx hb dX7_pointAt_44 (by decide) ?_
    exact hret (-1) _ _ _ _ _ ⟨rfl, by first | rw [if_neg (by omega)] | (rw [if_pos (by omega)]; exact (plc_2 (by omega)).symm)⟩ hw rfl dX7_pointAt_45
set_option maxHeartbeats 4000000 in
set_option maxRecDepth 100000 in
theorem c_v_X10_place (l : Launch) (G : Gh) (S : Pl) (d sa sb sp te tm pe : Nat → Nat) (tf pf nt np : Nat) (i t : Int32) (tl : Nat → TP) (V : SV) (hC : CIs G S d sa sb sp te tm pe tf pf nt np) (hN : CIn (pI S) d te pe nt np) (hTV : TV S te tm nt tl V) : MtI l yX10_place cX10_place 4 (some .int) (Rm 3 0 0) G [.ref (d 0), .int i, .int t] S (fun (r : Int32) (S' : Pl) => S = S' ∧ r = (if (0 ≤ i.toInt ∧ i.toInt < (nt : Int)) ∧ 0 ≤ t.toInt ∧ t.toInt ≤ 72 then plc (drA V.2 (tl i.toNatClampNeg) t.toNatClampNeg) else -1)) 0 0 := by
  refine MtI.of (by decide) (Nat.le_of_ble_eq_true rfl) ?_
  intro p e s m args below meth c Q A X hw hin hret ls hl
  have hx := X.1.1
  have hb := X.1.2.1
  have hl : lv_has ls 4 [(0, .ref (d 0)), (1, .int i), (2, .int t)] := hl
  obtain ⟨k0, r70, r71, r72, r73, r74, r75, r76, r77, hR, hS, hB, hSp, ⟨kco, nco⟩, lT, lP, n68, n79, hTl, hPk, hPi, n40⟩ := id hC
  obtain ⟨z92, z93, zw, zz, zst, zs6⟩ := id hN
  have hTp := hR.2.2.2.2.2.2.2
  have n60 := lP.2.2.1
  have oS := hS
  have oTp := hTp
  have oPk := hPk
  refine lv_aload_n hx hb dX10_place_0 rfl (lv_at hl 0 rfl) ?_
  refine lv_iload_n hx hb dX10_place_1 rfl (lv_at hl 1 rfl) ?_
  refine k_Vi (n := 1) X hw (rcvk (ci := 10) X hw k0 (fun _ _ _ _ _ _ _ => ⟨_, rfl⟩) rfl) (c_X10_isTale l G _ d sa sb sp te tm pe tf pf nt np i hC hN) wd_r30_2 wd_r30_3 wd_r30_4 wd_r1_2 wd_r30_5 ⟨by decide, by decide, by decide +kernel⟩ rfl rfl ⟨Nat.le_of_ble_eq_true rfl, Nat.le_of_ble_eq_true rfl⟩ rfl rfl hl.1 (Nat.le_of_ble_eq_true rfl) dX10_place_2 ⟨Nat.le_of_ble_eq_true rfl, Nat.le_of_ble_eq_true rfl⟩ (fun r2_1 S2_3 H locs h2_2 hw => ?_)
  rcases h2_2 with ⟨rfl, rfl, h2_2⟩ | ⟨rfl, rfl, h2_2⟩
  · have h2_2 := h2_2
    refine lv_if_eq (tgt := 19) hx hb dX10_place_5 (by decide) (fun c5_4 => absurd c5_4 (by decide)) (fun c5_4 => ?_)
    refine lv_iload_n hx hb dX10_place_8 rfl (lv_at hl 2 rfl) ?_
    refine k_Si (n := 1) X hw (c_X10_isMoment l G _ t) wd_r30_6 wd_r30_7 wd_r1_2 wd_r30_8 ⟨by decide, by decide, by decide +kernel⟩ rfl rfl ⟨Nat.le_of_ble_eq_true rfl, Nat.le_of_ble_eq_true rfl⟩ rfl rfl hl.1 (Nat.le_of_ble_eq_true rfl) dX10_place_9 ⟨Nat.le_of_ble_eq_true rfl, Nat.le_of_ble_eq_true rfl⟩ (fun r9_5 S9_7 H locs h9_6 hw => ?_)
    rcases h9_6 with ⟨rfl, rfl, h9_6⟩ | ⟨rfl, rfl, h9_6⟩
    · have h9_6 := h9_6
      refine lv_if_eq (tgt := 19) hx hb dX10_place_12 (by decide) (fun c12_8 => absurd c12_8 (by decide)) (fun c12_8 => ?_)
      refine lv_iconst (v := 1) hx hb dX10_place_15 (by decide) ?_
      refine lv_goto (tgt := 20) hx hb dX10_place_16 (by decide) ?_
      refine lv_istore_n (lv' := [(3, .int 1), (0, .ref (d 0)), (1, .int i), (2, .int t)]) hx hb dX10_place_20 rfl hl (by decide) rfl (fun ls hl => ?_)
      refine lv_iload_n hx hb dX10_place_21 rfl (lv_at hl 0 rfl) ?_
      refine lv_if_eq (tgt := 43) hx hb dX10_place_22 (by decide) (fun c22_9 => absurd c22_9 (by decide)) (fun c22_9 => ?_)
      refine lv_aload_n hx hb dX10_place_25 rfl (lv_at hl 1 rfl) ?_
      refine gf_X10_28 (b := (d 6)) X hw k0 r72 dX10_place_26 ?_
      refine lv_iload_n hx hb dX10_place_29 rfl (lv_at hl 2 rfl) ?_
      refine k_Vq (n := 1) X hw (rcvk (ci := 0) X hw lT.1 (fun _ _ _ _ _ _ _ => ⟨_, rfl⟩) rfl) (c_Jx4a65c_get_915e3 l G _ (d 6) (d 7) tf nt te i (lT.sh z92) (by omega)) wd_r18_6 wd_r18_7 wd_r18_8 wd_r1_22 wd_r18_9 ⟨by decide, by decide, by decide +kernel⟩ rfl rfl ⟨Nat.le_of_ble_eq_true rfl, Nat.le_of_ble_eq_true rfl⟩ rfl rfl hl.1 (Nat.le_of_ble_eq_true rfl) dX10_place_30 ⟨Nat.le_of_ble_eq_true rfl, Nat.le_of_ble_eq_true rfl⟩ (fun r30_10 S30_12 H locs h30_11 hw => ?_)
      obtain ⟨rfl, rfl⟩ := h30_11
      have hik : i.toNatClampNeg < nt := clt (by omega) (by omega)
      refine q_castT X hw (hTl _ hik).1 dX10_place_33 ?_
      refine lv_iload_n hx hb dX10_place_36 rfl (lv_at hl 3 rfl) ?_
      refine k_Vi (n := 1) X hw (rcvk (ci := 7) X hw (hTl _ hik).1 (fun _ _ _ _ _ _ _ => ⟨_, rfl⟩) rfl) (c_v_X7_pointAt l G _ (te i.toNatClampNeg) (tm i.toNatClampNeg) t (drA V.2 (tl i.toNatClampNeg)) (hTl _ hik) (hTV.1 _ hik).2.2 (drA_ok (hTV.1 _ hik).2.1)) wd_r30_9 wd_r30_10 wd_r30_11 wd_r18_22 wd_r30_12 ⟨by decide, by decide, by decide +kernel⟩ rfl rfl ⟨Nat.le_of_ble_eq_true rfl, Nat.le_of_ble_eq_true rfl⟩ rfl rfl hl.1 (Nat.le_of_ble_eq_true rfl) dX10_place_37 ⟨Nat.le_of_ble_eq_true rfl, Nat.le_of_ble_eq_true rfl⟩ (fun r37_13 S37_15 H locs h37_14 hw => ?_)
      obtain ⟨rfl, h37_14⟩ := h37_14
      have HT9 := h37_14
      refine lv_goto (tgt := 44) hx hb dX10_place_40 (by decide) ?_
      exact hret r37_13 _ _ _ _ _ ⟨rfl, by rw [if_pos (by omega)]; exact HT9.trans (if_pos (by omega))⟩ hw rfl dX10_place_44
    · have h9_6 := h9_6
      refine lv_if_eq (tgt := 19) hx hb dX10_place_12 (by decide) (fun c12_16 => ?_) (fun c12_16 => absurd c12_16 (by decide))
      refine lv_iconst (v := 0) hx hb dX10_place_19 (by decide) ?_
      refine lv_istore_n (lv' := [(3, .int 0), (0, .ref (d 0)), (1, .int i), (2, .int t)]) hx hb dX10_place_20 rfl hl (by decide) rfl (fun ls hl => ?_)
      refine lv_iload_n hx hb dX10_place_21 rfl (lv_at hl 0 rfl) ?_
      refine lv_if_eq (tgt := 43) hx hb dX10_place_22 (by decide) (fun c22_17 => ?_) (fun c22_17 => absurd c22_17 (by decide))
      refine lv_iconst (v := -1) hx hb dX10_place_43 (by decide) ?_
      exact hret (-1) _ _ _ _ _ ⟨rfl, by rw [if_neg (by omega)]⟩ hw rfl dX10_place_44
  · have h2_2 := h2_2
    refine lv_if_eq (tgt := 19) hx hb dX10_place_5 (by decide) (fun c5_18 => ?_) (fun c5_18 => absurd c5_18 (by decide))
    refine lv_iconst (v := 0) hx hb dX10_place_19 (by decide) ?_
    refine lv_istore_n (lv' := [(3, .int 0), (0, .ref (d 0)), (1, .int i), (2, .int t)]) hx hb dX10_place_20 rfl hl (by decide) rfl (fun ls hl => ?_)
    refine lv_iload_n hx hb dX10_place_21 rfl (lv_at hl 0 rfl) ?_
    refine lv_if_eq (tgt := 43) hx hb dX10_place_22 (by decide) (fun c22_19 => ?_) (fun c22_19 => absurd c22_19 (by decide))
    refine lv_iconst (v := -1) hx hb dX10_place_43 (by decide) ?_
    exact hret (-1) _ _ _ _ _ ⟨rfl, by rw [if_neg (by omega)]⟩ hw rfl dX10_place_44
set_option maxHeartbeats 4000000 in
set_option maxRecDepth 100000 in
theorem c_v_X10_state (l : Launch) (G : Gh) (S : Pl) (d sa sb sp te tm pe : Nat → Nat) (tf pf nt np : Nat) (i t : Int32) (tl : Nat → TP) (V : SV) (hC : CIs G S d sa sb sp te tm pe tf pf nt np) (hN : CIn (pI S) d te pe nt np) (hTV : TV S te tm nt tl V) : MtI l yX10_state cX10_state 4 (some .int) (Rm 3 0 0) G [.ref (d 0), .int i, .int t] S (fun (r : Int32) (S' : Pl) => S = S' ∧ r = (if (0 ≤ i.toInt ∧ i.toInt < (nt : Int)) ∧ 0 ≤ t.toInt ∧ t.toInt ≤ 72 then (drA V.2 (tl i.toNatClampNeg) t.toNatClampNeg).2.2 else -1)) 0 0 := by
  refine MtI.of (by decide) (Nat.le_of_ble_eq_true rfl) ?_
  intro p e s m args below meth c Q A X hw hin hret ls hl
  have hx := X.1.1
  have hb := X.1.2.1
  have hl : lv_has ls 4 [(0, .ref (d 0)), (1, .int i), (2, .int t)] := hl
  obtain ⟨k0, r70, r71, r72, r73, r74, r75, r76, r77, hR, hS, hB, hSp, ⟨kco, nco⟩, lT, lP, n68, n79, hTl, hPk, hPi, n40⟩ := id hC
  obtain ⟨z92, z93, zw, zz, zst, zs6⟩ := id hN
  have hTp := hR.2.2.2.2.2.2.2
  have n60 := lP.2.2.1
  have oS := hS
  have oTp := hTp
  have oPk := hPk
  refine lv_aload_n hx hb dX10_state_0 rfl (lv_at hl 0 rfl) ?_
  refine lv_iload_n hx hb dX10_state_1 rfl (lv_at hl 1 rfl) ?_
  refine k_Vi (n := 1) X hw (rcvk (ci := 10) X hw k0 (fun _ _ _ _ _ _ _ => ⟨_, rfl⟩) rfl) (c_X10_isTale l G _ d sa sb sp te tm pe tf pf nt np i hC hN) wd_r30_2 wd_r30_3 wd_r30_4 wd_r1_2 wd_r30_5 ⟨by decide, by decide, by decide +kernel⟩ rfl rfl ⟨Nat.le_of_ble_eq_true rfl, Nat.le_of_ble_eq_true rfl⟩ rfl rfl hl.1 (Nat.le_of_ble_eq_true rfl) dX10_state_2 ⟨Nat.le_of_ble_eq_true rfl, Nat.le_of_ble_eq_true rfl⟩ (fun r2_1 S2_3 H locs h2_2 hw => ?_)
  rcases h2_2 with ⟨rfl, rfl, h2_2⟩ | ⟨rfl, rfl, h2_2⟩
  · have h2_2 := h2_2
    refine lv_if_eq (tgt := 19) hx hb dX10_state_5 (by decide) (fun c5_4 => absurd c5_4 (by decide)) (fun c5_4 => ?_)
    refine lv_iload_n hx hb dX10_state_8 rfl (lv_at hl 2 rfl) ?_
    refine k_Si (n := 1) X hw (c_X10_isMoment l G _ t) wd_r30_6 wd_r30_7 wd_r1_2 wd_r30_8 ⟨by decide, by decide, by decide +kernel⟩ rfl rfl ⟨Nat.le_of_ble_eq_true rfl, Nat.le_of_ble_eq_true rfl⟩ rfl rfl hl.1 (Nat.le_of_ble_eq_true rfl) dX10_state_9 ⟨Nat.le_of_ble_eq_true rfl, Nat.le_of_ble_eq_true rfl⟩ (fun r9_5 S9_7 H locs h9_6 hw => ?_)
    rcases h9_6 with ⟨rfl, rfl, h9_6⟩ | ⟨rfl, rfl, h9_6⟩
    · have h9_6 := h9_6
      refine lv_if_eq (tgt := 19) hx hb dX10_state_12 (by decide) (fun c12_8 => absurd c12_8 (by decide)) (fun c12_8 => ?_)
      refine lv_iconst (v := 1) hx hb dX10_state_15 (by decide) ?_
      refine lv_goto (tgt := 20) hx hb dX10_state_16 (by decide) ?_
      refine lv_istore_n (lv' := [(3, .int 1), (0, .ref (d 0)), (1, .int i), (2, .int t)]) hx hb dX10_state_20 rfl hl (by decide) rfl (fun ls hl => ?_)
      refine lv_iload_n hx hb dX10_state_21 rfl (lv_at hl 0 rfl) ?_
      refine lv_if_eq (tgt := 43) hx hb dX10_state_22 (by decide) (fun c22_9 => absurd c22_9 (by decide)) (fun c22_9 => ?_)
      refine lv_aload_n hx hb dX10_state_25 rfl (lv_at hl 1 rfl) ?_
      refine gf_X10_28 (b := (d 6)) X hw k0 r72 dX10_state_26 ?_
      refine lv_iload_n hx hb dX10_state_29 rfl (lv_at hl 2 rfl) ?_
      refine k_Vq (n := 1) X hw (rcvk (ci := 0) X hw lT.1 (fun _ _ _ _ _ _ _ => ⟨_, rfl⟩) rfl) (c_Jx4a65c_get_915e3 l G _ (d 6) (d 7) tf nt te i (lT.sh z92) (by omega)) wd_r18_6 wd_r18_7 wd_r18_8 wd_r1_22 wd_r18_9 ⟨by decide, by decide, by decide +kernel⟩ rfl rfl ⟨Nat.le_of_ble_eq_true rfl, Nat.le_of_ble_eq_true rfl⟩ rfl rfl hl.1 (Nat.le_of_ble_eq_true rfl) dX10_state_30 ⟨Nat.le_of_ble_eq_true rfl, Nat.le_of_ble_eq_true rfl⟩ (fun r30_10 S30_12 H locs h30_11 hw => ?_)
      obtain ⟨rfl, rfl⟩ := h30_11
      have hik : i.toNatClampNeg < nt := clt (by omega) (by omega)
      refine q_castT X hw (hTl _ hik).1 dX10_state_33 ?_
      refine lv_iload_n hx hb dX10_state_36 rfl (lv_at hl 3 rfl) ?_
      refine k_Vi (n := 1) X hw (rcvk (ci := 7) X hw (hTl _ hik).1 (fun _ _ _ _ _ _ _ => ⟨_, rfl⟩) rfl) (c_v_X7_stateAt l G _ (te i.toNatClampNeg) (tm i.toNatClampNeg) t (drA V.2 (tl i.toNatClampNeg)) (hTl _ hik) (hTV.1 _ hik).2.2 (drA_ok (hTV.1 _ hik).2.1)) wd_r31_19 wd_r31_20 wd_r31_21 wd_r18_22 wd_r31_22 ⟨by decide, by decide, by decide +kernel⟩ rfl rfl ⟨Nat.le_of_ble_eq_true rfl, Nat.le_of_ble_eq_true rfl⟩ rfl rfl hl.1 (Nat.le_of_ble_eq_true rfl) dX10_state_37 ⟨Nat.le_of_ble_eq_true rfl, Nat.le_of_ble_eq_true rfl⟩ (fun r37_13 S37_15 H locs h37_14 hw => ?_)
      obtain ⟨rfl, h37_14⟩ := h37_14
      have HT9 := h37_14
      refine lv_goto (tgt := 44) hx hb dX10_state_40 (by decide) ?_
      exact hret r37_13 _ _ _ _ _ ⟨rfl, by rw [if_pos (by omega)]; exact HT9.trans (if_pos (by omega))⟩ hw rfl dX10_state_44
    · have h9_6 := h9_6
      refine lv_if_eq (tgt := 19) hx hb dX10_state_12 (by decide) (fun c12_16 => ?_) (fun c12_16 => absurd c12_16 (by decide))
      refine lv_iconst (v := 0) hx hb dX10_state_19 (by decide) ?_
      refine lv_istore_n (lv' := [(3, .int 0), (0, .ref (d 0)), (1, .int i), (2, .int t)]) hx hb dX10_state_20 rfl hl (by decide) rfl (fun ls hl => ?_)
      refine lv_iload_n hx hb dX10_state_21 rfl (lv_at hl 0 rfl) ?_
      refine lv_if_eq (tgt := 43) hx hb dX10_state_22 (by decide) (fun c22_17 => ?_) (fun c22_17 => absurd c22_17 (by decide))
      refine lv_iconst (v := -1) hx hb dX10_state_43 (by decide) ?_
      exact hret (-1) _ _ _ _ _ ⟨rfl, by rw [if_neg (by omega)]⟩ hw rfl dX10_state_44
  · have h2_2 := h2_2
    refine lv_if_eq (tgt := 19) hx hb dX10_state_5 (by decide) (fun c5_18 => ?_) (fun c5_18 => absurd c5_18 (by decide))
    refine lv_iconst (v := 0) hx hb dX10_state_19 (by decide) ?_
    refine lv_istore_n (lv' := [(3, .int 0), (0, .ref (d 0)), (1, .int i), (2, .int t)]) hx hb dX10_state_20 rfl hl (by decide) rfl (fun ls hl => ?_)
    refine lv_iload_n hx hb dX10_state_21 rfl (lv_at hl 0 rfl) ?_
    refine lv_if_eq (tgt := 43) hx hb dX10_state_22 (by decide) (fun c22_19 => ?_) (fun c22_19 => absurd c22_19 (by decide))
    refine lv_iconst (v := -1) hx hb dX10_state_43 (by decide) ?_
    exact hret (-1) _ _ _ _ _ ⟨rfl, by rw [if_neg (by omega)]⟩ hw rfl dX10_state_44
