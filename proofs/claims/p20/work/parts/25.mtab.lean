/-! the tables of the split -/
def tbl (R : Nat → Int64) (ms : Nat → Int32) (b s : Int32) (U : Nat → Int64) (V : Nat → Int32) (k l : Nat) : Prop := ∃ e : Nat, e ≤ 20 ∧ e ≤ l ∧ U (41 * k + l) = gv R ms b s k e + U (41 * (k + 1) + (l - e)) ∧ V (41 * k + l) = nI e + V (41 * (k + 1) + (l - e))
def rng (R U : Nat → Int64) (k l : Nat) : Prop := 0 ≤ (U (41 * k + l)).toInt ∧ (U (41 * k + l)).toInt ≤ 100 * (sumY R 64 - sumY R k)
theorem sumY_mono {r : Nat → Int64} (h : ∀ k, k < 64 → 0 ≤ (r k).toInt) : ∀ a b : Nat, a ≤ b → b ≤ 64 → sumY r a ≤ sumY r b := by
  intro a b hab
  induction b with
  | zero => intro _; have : a = 0 := by omega
            subst this; exact Int.le_refl _
  | succ b ih =>
    intro hb
    rcases Nat.lt_or_ge a (b + 1) with q | q
    · have h1 := ih (by omega) (by omega)
      have h2 := h b (by omega)
      simp only [sumY]; omega
    · have : a = b + 1 := by omega
      subst this; exact Int.le_refl _
theorem gv_rng {R : Nat → Int64} {ms : Nat → Int32} {b s : Int32} {k e : Nat} (hR : cOK R 40000000000000000) (hm : MsOK ms) (hk : k < 64) : 0 ≤ (gv R ms b s k e).toInt ∧ (gv R ms b s k e).toInt ≤ 100 * (R k).toInt := by
  have h1 := mOr_rng (b := b) (s := s) hm e
  have h2 := hR.1 k hk
  have h3 := (sumY_part hR.1 k hk).1
  have h4 := hR.2
  have hx : (100 - mOr ms b s e).toInt = 100 - (mOr ms b s e).toInt := iSub rfl (by decide : (100 : Int32).toInt = 100) rfl (by omega) (by omega)
  have m0 : 0 ≤ (R k).toInt * (100 - (mOr ms b s e).toInt) := Int.mul_nonneg h2 (by omega)
  have m1 : (R k).toInt * (100 - (mOr ms b s e).toInt) ≤ (R k).toInt * 100 := Int.mul_le_mul_of_nonneg_left (by omega) h2
  have hv : (gv R ms b s k e).toInt = (R k).toInt * (100 - (mOr ms b s e).toInt) := lMul rfl rfl ((i2l_t _).trans hx) (by omega) (by omega)
  rw [hv]; omega
theorem sum_rng {R U : Nat → Int64} {ms : Nat → Int32} {b s : Int32} {k l e : Nat} {v : Int64} (hR : cOK R 40000000000000000) (hm : MsOK ms) (hk : k < 64) (he : e ≤ l) (hn : rng R U (k + 1) (l - e)) (ev : v = gv R ms b s k e + U (41 * (k + 1) + (l - e))) : 0 ≤ v.toInt ∧ v.toInt ≤ 100 * (sumY R 64 - sumY R k) := by
  have h1 := gv_rng (b := b) (s := s) (e := e) hR hm hk
  have h2 : sumY R (k + 1) = sumY R k + (R k).toInt := rfl
  have h3 := sumY_mono hR.1 0 k (by omega) (by omega)
  have h4 := sumY_mono hR.1 k 64 (by omega) (by omega)
  have h0 : sumY R 0 = 0 := rfl
  have h5 := hR.2
  obtain ⟨n1, n2⟩ := hn
  have hv := lAdd ev rfl rfl (by omega) (by omega)
  rw [hv]; omega
/-- the inner loop's best so far -/
def bst (R : Nat → Int64) (ms : Nat → Int32) (b s : Int32) (U : Nat → Int64) (V : Nat → Int32) (k l : Nat) (e : Int) (bs : Int64) (lt : Int32) : Prop := (e = 0 ∧ bs.toInt = -1) ∨ ∃ e' : Nat, (e' : Int) < e ∧ e' ≤ 20 ∧ e' ≤ l ∧ bs = gv R ms b s k e' + U (41 * (k + 1) + (l - e')) ∧ lt = nI e' + V (41 * (k + 1) + (l - e'))
theorem bst_new {R : Nat → Int64} {ms : Nat → Int32} {b s : Int32} {U : Nat → Int64} {V : Nat → Int32} {k l : Nat} {x : Int32} {z : Int} {v : Int64} {u : Int32} (h0 : 0 ≤ x.toInt ∧ x.toInt ≤ 20 ∧ x.toInt ≤ l) (hz : z = x.toInt + 1) (ev : v = gv R ms b s k x.toNatClampNeg + U (41 * (k + 1) + (l - x.toNatClampNeg))) (eu : u = x + V (41 * (k + 1) + (l - x.toNatClampNeg))) : bst R ms b s U V k l z v u := by
  have h1 := cl_toInt h0.1
  exact Or.inr ⟨x.toNatClampNeg, by omega, by omega, by omega, ev, by rw [nI_cl h0.1]; exact eu⟩
theorem bst_keep {R : Nat → Int64} {ms : Nat → Int32} {b s : Int32} {U : Nat → Int64} {V : Nat → Int32} {k l : Nat} {e z : Int} {v : Int64} {u : Int32} (h : bst R ms b s U V k l e v u) (hz : z = e + 1) (hv : v.toInt ≠ -1) : bst R ms b s U V k l z v u := by
  rcases h with ⟨_, q⟩ | ⟨e', h1, h2⟩
  · exact absurd q hv
  · exact Or.inr ⟨e', by omega, h2⟩
theorem bst_end {R : Nat → Int64} {ms : Nat → Int32} {b s : Int32} {U : Nat → Int64} {V : Nat → Int32} {k l : Nat} {e : Int} {v : Int64} {u : Int32} (h : bst R ms b s U V k l e v u) (he : e ≠ 0) : ∃ e' : Nat, e' ≤ 20 ∧ e' ≤ l ∧ v = gv R ms b s k e' + U (41 * (k + 1) + (l - e')) ∧ u = nI e' + V (41 * (k + 1) + (l - e')) := by
  rcases h with ⟨q, _⟩ | ⟨e', _, h2⟩
  · exact absurd q he
  · exact ⟨e', h2⟩
/-- the rows behind cell k -/
def tblA (R : Nat → Int64) (ms : Nat → Int32) (b s : Int32) (U : Nat → Int64) (V : Nat → Int32) (k : Int) : Prop := ∀ a l : Nat, k < (a : Int) → a ≤ 64 → l ≤ 40 → rng R U a l ∧ (a < 64 → tbl R ms b s U V a l)
def tblL (R : Nat → Int64) (ms : Nat → Int32) (b s : Int32) (U : Nat → Int64) (V : Nat → Int32) (k : Nat) (l : Int) : Prop := ∀ x : Nat, (x : Int) < l → x ≤ 40 → rng R U k x ∧ tbl R ms b s U V k x
theorem tblA_upd {R : Nat → Int64} {ms : Nat → Int32} {b s : Int32} {U U' : Nat → Int64} {V V' : Nat → Int32} {k : Nat} {l : Nat} {v : Int64} {u : Int32} (h : tblA R ms b s U V k) (hl : l ≤ 40) (eU : U' = vp_updL U (41 * k + l) v) (eV : V' = upd V (41 * k + l) u) : tblA R ms b s U' V' k := by
  intro a x ha h64 hx
  have nU : ∀ i, i ≠ 41 * k + l → U' i = U i := fun i hi => by rw [eU, pk_uLn hi]
  have nV : ∀ i, i ≠ 41 * k + l → V' i = V i := fun i hi => by rw [eV, pk_un hi]
  obtain ⟨h1, h2⟩ := h a x ha h64 hx
  refine ⟨by unfold rng; rw [nU _ (by omega)]; exact h1, fun q => ?_⟩
  obtain ⟨e, e1, e2, e3, e4⟩ := h2 q
  exact ⟨e, e1, e2, by rw [nU _ (by omega), nU _ (by omega)]; exact e3, by rw [nV _ (by omega), nV _ (by omega)]; exact e4⟩
theorem tblL_upd {R : Nat → Int64} {ms : Nat → Int32} {b s : Int32} {U U' : Nat → Int64} {V V' : Nat → Int32} {k : Nat} {x x' : Int32} {v : Int64} {u : Int32} (hR : cOK R 40000000000000000) (hm : MsOK ms) (hk : k < 64) (h : tblL R ms b s U V k x.toInt) (hA : tblA R ms b s U V k) (hx : 0 ≤ x.toInt ∧ x.toInt ≤ 40) (tx : x'.toInt = x.toInt + 1) (eU : U' = vp_updL U (41 * k + x.toNatClampNeg) v) (eV : V' = upd V (41 * k + x.toNatClampNeg) u) (hb : ∃ e' : Nat, e' ≤ 20 ∧ e' ≤ x.toNatClampNeg ∧ v = gv R ms b s k e' + U (41 * (k + 1) + (x.toNatClampNeg - e')) ∧ u = nI e' + V (41 * (k + 1) + (x.toNatClampNeg - e'))) : tblL R ms b s U' V' k x'.toInt := by
  have hcl := cl_toInt hx.1
  have nU : ∀ i, i ≠ 41 * k + x.toNatClampNeg → U' i = U i := fun i hi => by rw [eU, pk_uLn hi]
  have nV : ∀ i, i ≠ 41 * k + x.toNatClampNeg → V' i = V i := fun i hi => by rw [eV, pk_un hi]
  intro y hy hy40
  by_cases e : y = x.toNatClampNeg
  · subst e
    obtain ⟨e', e1, e2, e3, e4⟩ := hb
    have hn := (hA (k + 1) (x.toNatClampNeg - e') (by omega) (by omega) (by omega)).1
    have sr := sum_rng hR hm hk e2 hn e3
    refine ⟨by unfold rng; rw [eU, pk_uLs]; exact sr, e', e1, e2, ?_, ?_⟩
    · rw [eU, pk_uLs, pk_uLn (by omega)]; exact e3
    · rw [eV, pk_us, pk_un (by omega)]; exact e4
  · obtain ⟨h1, e', e1, e2, e3, e4⟩ := h y (by omega) hy40
    exact ⟨by unfold rng; rw [nU _ (by omega)]; exact h1, e', e1, e2, by rw [nU _ (by omega), nU _ (by omega)]; exact e3, by rw [nV _ (by omega), nV _ (by omega)]; exact e4⟩
theorem tblA_step {R : Nat → Int64} {ms : Nat → Int32} {b s : Int32} {U : Nat → Int64} {V : Nat → Int32} {k : Int32} {k' : Int32} {l : Int} (hA : tblA R ms b s U V k.toNatClampNeg) (hL : tblL R ms b s U V k.toNatClampNeg l) (hl : 40 < l) (h0 : 0 ≤ k.toInt ∧ k.toInt ≤ 63) (tk : k'.toInt = k.toInt + -1) : tblA R ms b s U V k'.toInt := by
  have hcl := cl_toInt h0.1
  intro a x ha h64 hx
  by_cases e : a = k.toNatClampNeg
  · subst e; have := hL x (by omega) hx; exact ⟨this.1, fun _ => this.2⟩
  · exact hA a x (by omega) h64 hx
theorem tblA_0 {R : Nat → Int64} {ms : Nat → Int32} {b s : Int32} {U : Nat → Int64} {V : Nat → Int32} (h : ∀ i : Nat, (i : Int) < 41 → U (2624 + i) = 0) : tblA R ms b s U V 63 := by
  intro a x ha h64 hx
  have e : a = 64 := by omega
  subst e
  refine ⟨?_, fun q => absurd q (by omega)⟩
  unfold rng
  rw [show 41 * 64 + x = 2624 + x by omega, h x (by omega)]
  have := (by decide : (0 : Int64).toInt = 0)
  omega
theorem zero_u {y z : Nat → Nat → Int64} {a : Nat} {x k k' : Int32} (h : ∀ i : Nat, (i : Int) < k.toInt → y a (2624 + i) = 0) (c : z = va_up y a (vp_updL (y a) x.toNatClampNeg 0)) (h0 : 0 ≤ k.toInt) (hx : x.toInt = 2624 + k.toInt) (t : k'.toInt = k.toInt + 1) : ∀ i : Nat, (i : Int) < k'.toInt → z a (2624 + i) = 0 := by
  intro i hi
  have h1 := cl_toInt h0
  have h2 := cl_toInt (x := x) (by omega)
  rw [c, vu_s]
  by_cases e : 2624 + i = x.toNatClampNeg
  · rw [e, pk_uLs]
  · rw [pk_uLn e]; exact h i (by omega)
theorem spot_n {x : Int32} {k l : Nat} (h : x.toInt = 41 * (k : Int) + (l : Int)) : x.toNatClampNeg = 41 * k + l := by
  have := cl_toInt (x := x) (by omega); omega
theorem mInv_u {ma : Nat → Nat} {I q q' : Nat → Nat → Int32} (h : mInv I q ma) (hq : ∀ i, i ≤ 45 → i ≠ 45 → q' (ma i) = q (ma i)) : mInv I q' ma := by
  unfold mInv mT mP mC at *
  rw [hq 24 (by decide) (by decide), hq 25 (by decide) (by decide), hq 26 (by decide) (by decide), hq 27 (by decide) (by decide), hq 28 (by decide) (by decide), hq 33 (by decide) (by decide), hq 38 (by decide) (by decide), hq 39 (by decide) (by decide), hq 40 (by decide) (by decide), hq 18 (by decide) (by decide)]
  exact h
/-- split's search for the effort of a cell -/
def fnd (R : Nat → Int64) (ms : Nat → Int32) (b s : Int32) (U : Nat → Int64) (V : Nat → Int32) (k l : Nat) (e : Int) : Prop := ∃ e' : Nat, e ≤ (e' : Int) ∧ e' ≤ 20 ∧ e' ≤ l ∧ U (41 * k + l) = gv R ms b s k e' + U (41 * (k + 1) + (l - e')) ∧ V (41 * k + l) = nI e' + V (41 * (k + 1) + (l - e'))
theorem fnd_0 {R : Nat → Int64} {ms : Nat → Int32} {b s : Int32} {U : Nat → Int64} {V : Nat → Int32} {k l : Nat} {e : Int} (h : tbl R ms b s U V k l) (he : e = 0) : fnd R ms b s U V k l e := by
  obtain ⟨e', h1, h2⟩ := h
  exact ⟨e', by omega, h1, h2⟩
theorem fnd_le {R : Nat → Int64} {ms : Nat → Int32} {b s : Int32} {U : Nat → Int64} {V : Nat → Int32} {k l : Nat} {e : Int} (h : fnd R ms b s U V k l e) : e ≤ 20 ∧ e ≤ l := by
  obtain ⟨e', h1, h2, h3, -⟩ := h
  omega
theorem fnd_s {R : Nat → Int64} {ms : Nat → Int32} {b s : Int32} {U : Nat → Int64} {V : Nat → Int32} {k l : Nat} {x : Int32} {z : Int} (h : fnd R ms b s U V k l x.toInt) (h0 : 0 ≤ x.toInt) (hz : z = x.toInt + 1) (hn : ¬ (U (41 * k + l) = gv R ms b s k x.toNatClampNeg + U (41 * (k + 1) + (l - x.toNatClampNeg)) ∧ V (41 * k + l) = x + V (41 * (k + 1) + (l - x.toNatClampNeg)))) : fnd R ms b s U V k l z := by
  obtain ⟨e', h1, h2, h3, h4, h5⟩ := h
  have hcl := cl_toInt h0
  refine ⟨e', ?_, h2, h3, h4, h5⟩
  rcases Int.lt_or_le x.toInt e' with q | q
  · omega
  · exfalso
    have e : e' = x.toNatClampNeg := by omega
    subst e
    rw [nI_cl h0] at h5
    exact hn ⟨h4, h5⟩
theorem nq1 {v v' a b : Int64} {C : Prop} (e : v = b) (e' : v' = a) (D : v.toInt ≠ v'.toInt) : ¬ (a = b ∧ C) := fun q => D (by rw [e, e', q.1])
theorem nq2 {v v' a b : Int32} {C : Prop} (e : v = b) (e' : v' = a) (D : ¬ v = v') : ¬ (C ∧ a = b) := fun q => D (by rw [e, e', q.2])
