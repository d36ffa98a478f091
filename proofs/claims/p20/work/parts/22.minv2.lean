/-! a tale comes to the model -/
def fdN (z : Int) : Int := if z + 20 ≤ 1000 then z + 20 else z
def fdR (z : Int) : Int := if z + 20 ≤ 1000 then z + 20 else -1
def edN (z n : Int) : Int := if 0 ≤ n ∧ n ≤ z then n else z
def edR (z n : Int) : Int := if 0 ≤ n ∧ n ≤ z then n else -1
def tlC (a1 a2 a3 a4 a5 : Int32) (nt : Nat) : Prop := (0 ≤ a1.toInt ∧ a1.toInt < 4) ∧ (0 ≤ a2.toInt ∧ a2.toInt < 80 ∧ 0 ≤ a3.toInt ∧ a3.toInt < 80) ∧ (0 ≤ a4.toInt ∧ a4.toInt < 72) ∧ (1 ≤ a5.toInt ∧ a5.toInt ≤ 1000) ∧ nt < 40
def srC (a1 a2 a3 a4 a5 a6 a7 : Int32) (np c : Nat) : Prop := (0 ≤ a1.toInt ∧ a1.toInt ≤ 72) ∧ (0 ≤ a2.toInt ∧ a2.toInt ≤ a3.toInt ∧ a3.toInt < 8) ∧ (0 ≤ a4.toInt ∧ a4.toInt ≤ a5.toInt ∧ a5.toInt < 8) ∧ (0 ≤ a6.toInt ∧ a6.toInt < 2 ∧ 0 ≤ a7.toInt ∧ a7.toInt ≤ 20) ∧ c < 6 ∧ np < 60
def clC (a1 a2 a3 a4 a5 : Int32) (np c : Nat) : Prop := (0 ≤ a1.toInt ∧ a1.toInt ≤ 72) ∧ (0 ≤ a2.toInt ∧ a2.toInt < 80 ∧ 0 ≤ a3.toInt ∧ a3.toInt < 80) ∧ (0 ≤ a4.toInt ∧ a4.toInt ≤ 80) ∧ (0 ≤ a5.toInt ∧ a5.toInt ≤ 100) ∧ c < 6 ∧ np < 60
theorem mInv_tale {S : Pl} {ma : Nat → Nat} (hM : shMod S ma) {I q q1 q2 q3 q4 q5 : Nat → Nat → Int32} {a b c d e v : Int32} (h : mInv I q ma) (hn : ¬ I 128 (ma 0) = 40) (hv : v.toInt = (I 128 (ma 0)).toInt + 1)
    (c1 : q1 = va_up q (ma 24) (upd (q (ma 24)) (I 128 (ma 0)).toNatClampNeg a)) (c2 : q2 = va_up q1 (ma 25) (upd (q1 (ma 25)) (I 128 (ma 0)).toNatClampNeg b)) (c3 : q3 = va_up q2 (ma 26) (upd (q2 (ma 26)) (I 128 (ma 0)).toNatClampNeg c)) (c4 : q4 = va_up q3 (ma 27) (upd (q3 (ma 27)) (I 128 (ma 0)).toNatClampNeg d)) (c5 : q5 = va_up q4 (ma 28) (upd (q4 (ma 28)) (I 128 (ma 0)).toNatClampNeg e))
    (ha : 0 ≤ a.toInt ∧ a.toInt < 4) (hb : 0 ≤ b.toInt ∧ b.toInt < 80) (hc : 0 ≤ c.toInt ∧ c.toInt < 80) (hd : 0 ≤ d.toInt ∧ d.toInt < 72) (he : 1 ≤ e.toInt ∧ e.toInt ≤ 1000) : mInv (up2 I 128 (ma 0) v) q5 ma := by
  obtain ⟨⟨b1, b2, b3, b4, b5, b6⟩, hT, hP, hC⟩ := h
  have hn' : (I 128 (ma 0)).toInt ≠ 40 := iNe hn rfl t_40
  have k : ∀ i j : Nat, i ≤ 45 → j ≤ 45 → i ≠ j → ma i ≠ ma j := fun i j hi hj n q => n (hM.2.2 i j hi hj q)
  have r24 : q5 (ma 24) = upd (q (ma 24)) (I 128 (ma 0)).toNatClampNeg a := by rw [c5, vu_n (k 24 28 (by decide) (by decide) (by decide)), c4, vu_n (k 24 27 (by decide) (by decide) (by decide)), c3, vu_n (k 24 26 (by decide) (by decide) (by decide)), c2, vu_n (k 24 25 (by decide) (by decide) (by decide)), c1, vu_s]
  have r25 : q5 (ma 25) = upd (q (ma 25)) (I 128 (ma 0)).toNatClampNeg b := by rw [c5, vu_n (k 25 28 (by decide) (by decide) (by decide)), c4, vu_n (k 25 27 (by decide) (by decide) (by decide)), c3, vu_n (k 25 26 (by decide) (by decide) (by decide)), c2, vu_s, c1, vu_n (k 25 24 (by decide) (by decide) (by decide))]
  have r26 : q5 (ma 26) = upd (q (ma 26)) (I 128 (ma 0)).toNatClampNeg c := by rw [c5, vu_n (k 26 28 (by decide) (by decide) (by decide)), c4, vu_n (k 26 27 (by decide) (by decide) (by decide)), c3, vu_s, c2, vu_n (k 26 25 (by decide) (by decide) (by decide)), c1, vu_n (k 26 24 (by decide) (by decide) (by decide))]
  have r27 : q5 (ma 27) = upd (q (ma 27)) (I 128 (ma 0)).toNatClampNeg d := by rw [c5, vu_n (k 27 28 (by decide) (by decide) (by decide)), c4, vu_s, c3, vu_n (k 27 26 (by decide) (by decide) (by decide)), c2, vu_n (k 27 25 (by decide) (by decide) (by decide)), c1, vu_n (k 27 24 (by decide) (by decide) (by decide))]
  have r28 : q5 (ma 28) = upd (q (ma 28)) (I 128 (ma 0)).toNatClampNeg e := by rw [c5, vu_s, c4, vu_n (k 28 27 (by decide) (by decide) (by decide)), c3, vu_n (k 28 26 (by decide) (by decide) (by decide)), c2, vu_n (k 28 25 (by decide) (by decide) (by decide)), c1, vu_n (k 28 24 (by decide) (by decide) (by decide))]
  have ro : ∀ i, i ≤ 45 → (i < 24 ∨ 28 < i) → q5 (ma i) = q (ma i) := fun i hi h => by rw [c5, vu_n (k i 28 hi (by decide) (by omega)), c4, vu_n (k i 27 hi (by decide) (by omega)), c3, vu_n (k i 26 hi (by decide) (by omega)), c2, vu_n (k i 25 hi (by decide) (by omega)), c1, vu_n (k i 24 hi (by decide) (by omega))]
  have f128 : up2 I 128 (ma 0) v 128 (ma 0) = v := up2_s
  refine ⟨⟨b1, b2, b3, b4, by rw [f128]; omega, b6⟩, ?_, ?_, ?_⟩
  · intro x hx
    rw [f128] at hx
    have hcl := cl_toInt b5.1
    rw [r24, r25, r26, r27, r28]
    by_cases ex : x = (I 128 (ma 0)).toNatClampNeg
    · subst ex; simp only [pk_us]; exact ⟨ha, hb, hc, hd, he⟩
    · simp only [pk_un ex]; exact hT x (by omega)
  · intro x hx
    rw [ro 33 (by decide) (by decide), ro 38 (by decide) (by decide), ro 39 (by decide) (by decide)]
    exact hP x hx
  · unfold mC; rw [ro 40 (by decide) (by decide), ro 18 (by decide) (by decide)]; exact hC
/-! a proof comes, a proof is taken back -/
theorem mInv_prove {S : Pl} {ma : Nat → Nat} (hM : shMod S ma) {I q q8 : Nat → Nat → Int32} {a s6 e7 v : Int32} (h : mInv I q ma) (hv : v.toInt = (I 140 (ma 0)).toInt + 1) (h59 : (I 140 (ma 0)).toInt < 60) (h5 : cntB (q (ma 40)) (I 140 (ma 0)).toInt.toNat ≤ 5)
    (ro : ∀ i, i ≤ 45 → (i < 33 ∨ 40 < i) → q8 (ma i) = q (ma i)) (r33 : q8 (ma 33) = upd (q (ma 33)) (I 140 (ma 0)).toNatClampNeg a) (r38 : q8 (ma 38) = upd (q (ma 38)) (I 140 (ma 0)).toNatClampNeg s6) (r39 : q8 (ma 39) = upd (q (ma 39)) (I 140 (ma 0)).toNatClampNeg e7) (r40 : q8 (ma 40) = upd (q (ma 40)) (I 140 (ma 0)).toNatClampNeg (vp_nar .boolean 0))
    (ha : 0 ≤ a.toInt ∧ a.toInt ≤ 72) (hs : 0 ≤ s6.toInt ∧ s6.toInt ≤ 2) (he : s6.toInt ≤ 1 → 0 ≤ e7.toInt ∧ e7.toInt ≤ 20) (he2 : 0 ≤ e7.toInt ∧ e7.toInt ≤ 100) : mInv (up2 I 140 (ma 0) v) q8 ma := by
  obtain ⟨⟨b1, b2, b3, b4, b5, b6⟩, hT, hP, hC⟩ := h
  have f140 : up2 I 140 (ma 0) v 140 (ma 0) = v := up2_s
  have hcl := cl_toInt b6.1
  refine ⟨⟨b1, b2, b3, b4, b5, by rw [f140]; omega⟩, ?_, ?_, ?_⟩
  · intro x hx
    rw [ro 24 (by decide) (by decide), ro 25 (by decide) (by decide), ro 26 (by decide) (by decide), ro 27 (by decide) (by decide), ro 28 (by decide) (by decide)]
    exact hT x hx
  · intro x hx
    rw [f140] at hx
    rw [r33, r38, r39]
    by_cases ex : x = (I 140 (ma 0)).toNatClampNeg
    · subst ex; simp only [pk_us]; exact ⟨ha, hs, he, he2⟩
    · simp only [pk_un ex]; exact hP x (by omega)
  · unfold mC
    refine ⟨?_, by rw [ro 18 (by decide) (by decide)]; exact hC.2⟩
    rw [f140, r40, show v.toInt.toNat = (I 140 (ma 0)).toInt.toNat + 1 by omega]
    simp only [cntB]
    rw [cntB_cong (r := q (ma 40)) (fun k hk => pk_un (by omega))]
    split <;> omega
theorem mInv_back {S : Pl} {ma : Nat → Nat} (hM : shMod S ma) {I q q' : Nat → Nat → Int32} {i : Nat} (h : mInv I q ma) (c : q' = va_up q (ma 40) (upd (q (ma 40)) i (vp_nar .boolean 1))) : mInv I q' ma := by
  obtain ⟨hB, hT, hP, hC⟩ := h
  have ro : ∀ j, j ≤ 45 → j ≠ 40 → q' (ma j) = q (ma j) := fun j hj n => by rw [c, vu_n]; exact fun e => n (hM.2.2 j 40 hj (by decide) e)
  refine ⟨hB, ?_, ?_, ?_⟩
  · intro x hx
    rw [ro 24 (by decide) (by decide), ro 25 (by decide) (by decide), ro 26 (by decide) (by decide), ro 27 (by decide) (by decide), ro 28 (by decide) (by decide)]
    exact hT x hx
  · intro x hx
    rw [ro 33 (by decide) (by decide), ro 38 (by decide) (by decide), ro 39 (by decide) (by decide)]
    exact hP x hx
  · refine ⟨?_, by rw [ro 18 (by decide) (by decide)]; exact hC.2⟩
    rw [c, vu_s]
    exact Nat.le_trans (cntB_set (by decide) _) hC.1
/-! rows outside the tales and proofs change, and the numbers of the tape and the sea -/
theorem mInv_w {S : Pl} {ma : Nat → Nat} (hM : shMod S ma) {I I' q q' : Nat → Nat → Int32} (h : mInv I q ma) (hF : FrW I I') (hY : FrQ 1 ma q q') (h1 : 0 ≤ (I' 102 (ma 0)).toInt ∧ (I' 102 (ma 0)).toInt ≤ 1000) (h2 : eM I' (ma 0)) (h3 : 0 ≤ (I' 120 (ma 0)).toInt ∧ (I' 120 (ma 0)).toInt ≤ 1) (h4 : 0 ≤ (I' 121 (ma 0)).toInt ∧ (I' 121 (ma 0)).toInt ≤ 1) (h5 : MsOK (q' (ma 18))) : mInv I' q' ma := by
  obtain ⟨⟨b1, b2, b3, b4, b5, b6⟩, hT, hP, hC⟩ := h
  have f128 : I' 128 = I 128 := hF 128 (by decide)
  have f140 : I' 140 = I 140 := hF 140 (by decide)
  refine ⟨⟨h1, h2, h3, h4, by rw [f128]; exact b5, by rw [f140]; exact b6⟩, ?_, ?_, ?_⟩
  · unfold mT; rw [f128]
    intro x hx
    rw [hY.at hM (i := 24) (by decide) (by decide), hY.at hM (i := 25) (by decide) (by decide), hY.at hM (i := 26) (by decide) (by decide), hY.at hM (i := 27) (by decide) (by decide), hY.at hM (i := 28) (by decide) (by decide)]
    exact hT x hx
  · unfold mP; rw [f140]
    intro x hx
    rw [hY.at hM (i := 33) (by decide) (by decide), hY.at hM (i := 38) (by decide) (by decide), hY.at hM (i := 39) (by decide) (by decide)]
    exact hP x hx
  · refine ⟨?_, h5⟩; rw [f140, hY.at hM (i := 40) (by decide) (by decide)]; exact hC.1
theorem cnt_y {r : Nat → Int32} {n n' i i' v : Int32} (hc : n.toInt = (cntB r i.toNatClampNeg : Nat)) (e : v = r i.toNatClampNeg) (c : v = 0) (tn : n'.toInt = n.toInt + 1) (ti : i'.toInt = i.toInt + 1) (h0 : 0 ≤ i.toInt) : n'.toInt = (cntB r i'.toNatClampNeg : Nat) := by
  rw [cntB_step h0 ti, ← e, if_pos c]; omega
theorem cnt_n {r : Nat → Int32} {n n' i i' v : Int32} (hc : n.toInt = (cntB r i.toNatClampNeg : Nat)) (e : v = r i.toNatClampNeg) (c : ¬ v = 0) (tn : n'.toInt = n.toInt + 0) (ti : i'.toInt = i.toInt + 1) (h0 : 0 ≤ i.toInt) : n'.toInt = (cntB r i'.toNatClampNeg : Nat) := by
  rw [cntB_step h0 ti, ← e, if_neg c]; omega
theorem iNz {y : Int32} (h : y.toInt ≠ 0) : ¬ y = 0 := fun e => h (by rw [e]; decide)
/-- minutes of tracks: width x, height y, width seen z, speed u -/
def trk (x y z u : Int32) : Int32 := (60 * ((10 * y + z - 1) / z * 10 * x + ((10 * y + z - 1) / z - 1) * z) + u - 1) / u
def trC (x y z u : Int32) : Prop := (1 ≤ x.toInt ∧ x.toInt ≤ 8) ∧ (1 ≤ y.toInt ∧ y.toInt ≤ 8) ∧ (1 ≤ z.toInt ∧ z.toInt ≤ 80) ∧ (1 ≤ u.toInt ∧ u.toInt ≤ 100)
theorem left_y {r : Nat → Int32} {w b : Int64} {i i' v : Int32} (hw : 1 ≤ w.toInt ∧ w.toInt ≤ 40000 * pw100 (cntB r i.toNatClampNeg)) (eb : b = w * 100) (e : v = r i.toNatClampNeg) (c : v = 0) (ti : i'.toInt = i.toInt + 1) (h0 : 0 ≤ i.toInt) (h6 : cntB r i'.toNatClampNeg ≤ 6) : 1 ≤ b.toInt ∧ b.toInt ≤ 40000 * pw100 (cntB r i'.toNatClampNeg) := by
  have h := odds_y (x := 100) (by decide) ⟨by omega, hw.2⟩ (show (100 : Int64).toInt = (100 : Int32).toInt by decide) eb (by decide) e c ti h0 h6
  exact ⟨h.2.2 hw.1 (by decide), h.2.1⟩
theorem left_n {r : Nat → Int32} {w b : Int64} {i i' v : Int32} (hw : 1 ≤ w.toInt ∧ w.toInt ≤ 40000 * pw100 (cntB r i.toNatClampNeg)) (eb : b = w * 1) (e : v = r i.toNatClampNeg) (c : ¬ v = 0) (ti : i'.toInt = i.toInt + 1) (h0 : 0 ≤ i.toInt) : 1 ≤ b.toInt ∧ b.toInt ≤ 40000 * pw100 (cntB r i'.toNatClampNeg) := by
  have h := odds_n ⟨by omega, hw.2⟩ e c ti h0
  have hb : b = w := by rw [eb, Int64.mul_one]
  rw [hb]; exact ⟨hw.1, h.2⟩
theorem left_0 {r : Nat → Int32} {w : Int64} (h : 1 ≤ w.toInt ∧ w.toInt ≤ 40000) : 1 ≤ w.toInt ∧ w.toInt ≤ 40000 * pw100 (cntB r (0 : Int32).toNatClampNeg) := by
  rw [show (0 : Int32).toNatClampNeg = 0 by decide]
  simp only [cntB, pw100]; omega
/-- what effort e shows of cell c -/
def gv (r : Nat → Int64) (ms : Nat → Int32) (b s : Int32) (c e : Nat) : Int64 := r c * (100 - mOr ms b s e).toInt64
