
/-! ===== the model's lines ===== -/
/-- the reading stands at p and all was right so far (g), or it has failed -/
def Mst (I : Nat → Nat → Int32) (J : Nat → Nat → Int64) (m0 : Nat) (c : Nat → Int32) (n p : Nat) (g : Prop) : Prop := ((I 104 m0).toInt = 0 ∧ g ∧ mTok I J m0 c n p) ∨ ((I 104 m0).toInt ≠ 0 ∧ ¬ g)
section MST
variable {I I' : Nat → Nat → Int32} {J : Nat → Nat → Int64} {m0 n p : Nat} {c : Nat → Int32} {g g' : Prop}
theorem Mst.ok (h : Mst I J m0 c n p g) (h0 : (I 104 m0).toInt = 0) : g ∧ mTok I J m0 c n p := by
  rcases h with h | h
  · exact h.2
  · exact absurd h0 h.1
theorem Mst.no (h : Mst I J m0 c n p g) (h0 : (I 104 m0).toInt ≠ 0) : ¬ g := by
  rcases h with h | h
  · exact absurd h.1 h0
  · exact h.2
theorem Mst.i (h : Mst I J m0 c n p g) : (I 104 m0).toInt = 0 ↔ g := by
  rcases h with h | h
  · exact ⟨fun _ => h.2.1, fun _ => h.1⟩
  · exact ⟨fun q => absurd q h.1, fun q => absurd q h.2⟩
theorem Mst.cg (h : Mst I J m0 c n p g) (e : g ↔ g') : Mst I J m0 c n p g' := by
  rcases h with h | h
  · exact Or.inl ⟨h.1, e.mp h.2.1, h.2.2⟩
  · exact Or.inr ⟨h.1, fun q => h.2 (e.mpr q)⟩
theorem mTok.f (hF : FrF I I') (h : mTok I J m0 c n p) : mTok I' J m0 c n p := by
  unfold mTok at *
  rw [hF 106 (by decide), hF 107 (by decide), hF 108 (by decide), hF 109 (by decide)]
  exact h
theorem Mst.tw {k : Int32} (h : Mst I J m0 c n p g) (hF : FrF I I') (t : ((I' 104 m0).toInt = 0 ∧ ((I 104 m0).toInt = 0 ∧ k.toInt = 0)) ∨ ((I' 104 m0).toInt ≠ 0 ∧ ¬ ((I 104 m0).toInt = 0 ∧ k.toInt = 0))) : Mst I' J m0 c n p (g ∧ k.toInt = 0) := by
  rcases t with ⟨t1, t2, t3⟩ | ⟨t1, t2⟩
  · have z := h.ok t2
    exact Or.inl ⟨t1, ⟨z.1, t3⟩, z.2.f hF⟩
  · exact Or.inr ⟨t1, fun q => t2 ⟨h.i.mpr q.1, q.2⟩⟩
theorem Mst.le (h : Mst I J m0 c n p g) (hp : p ≤ n) (h0 : (I 104 m0).toInt = 0) : 0 ≤ (I 107 m0).toInt ∧ (I 107 m0).toInt ≤ (n : Int) := by
  have z := (h.ok h0).2.2.1
  have y := (tE_le (c := c) hp).2
  omega
end MST
theorem mK3 {k : Int} : mKd k = 3 ↔ k = 3 := by
  unfold mKd
  split
  · omega
  · split <;> omega
theorem mK4 {k : Int} : mKd k = 4 ↔ k = 4 := by
  unfold mKd
  split
  · omega
  · split <;> omega
theorem mK0 {k : Int} : mKd k = 0 ↔ k = 1 := by
  unfold mKd
  split
  · omega
  · split <;> omega
theorem FrM.n {I I' : Nat → Nat → Int32} {m0 : Nat} {n : Int} (h : FrM I I') (hn : (I 103 m0).toInt = n) : (I' 103 m0).toInt = n := by rw [h 103 (by decide)]; exact hn
/-- how a bank holds what a sea tells -/
def MBk (q : Nat → Nat → Int32) (ma : Nat → Nat) (b : Nat) (C : Nat → Nat → Int32) : Prop :=
  (∀ h, h < 72 → (C 13 h = 0 → q (ma 13) (72 * b + h) = -100) ∧ (¬ C 13 h = 0 → q (ma 13) (72 * b + h) = C 11 h ∧ q (ma 14) (72 * b + h) = C 12 h)) ∧
  (∀ a, a < 4 → ∀ h, h < 72 → (C (10 + 4 * (a + 1) + 3) h = 0 → q (ma 15) (72 * (4 * b + a) + h) = -100) ∧ (¬ C (10 + 4 * (a + 1) + 3) h = 0 → q (ma 15) (72 * (4 * b + a) + h) = C (10 + 4 * (a + 1) + 1) h ∧ q (ma 16) (72 * (4 * b + a) + h) = C (10 + 4 * (a + 1) + 2) h)) ∧
  (∀ k, k < 4 → (C 2 k = -1 → q (ma 17) (4 * b + k) = 3 ∧ q (ma 20) (4 * b + k) = 0) ∧ (¬ C 2 k = -1 → q (ma 17) (4 * b + k) = C 2 k ∧ q (ma 20) (4 * b + k) = 1)) ∧
  (∀ i, i < 64 → q (ma 19) (64 * b + i) = C 3 i) ∧
  (∀ i, i < 42 → (C 4 i = -1 → q (ma 18) (42 * b + i) = -100) ∧ (¬ C 4 i = -1 → q (ma 18) (42 * b + i) = C 4 i))
def bl (j : Nat) : Nat := if j = 12 then 1 else if j = 13 ∨ j = 14 then 72 else if j = 15 ∨ j = 16 then 288 else if j = 17 ∨ j = 20 then 4 else if j = 18 then 42 else 64
/-- nothing but the bank b of the sea's rows has changed -/
def KeepB (q q' : Nat → Nat → Int32) (ma : Nat → Nat) (b : Nat) : Prop := ∀ j, 12 ≤ j → j ≤ 20 → ∀ i, (i < bl j * b ∨ bl j * (b + 1) ≤ i) → q' (ma j) i = q (ma j) i
section KB
variable {q q1 q2 : Nat → Nat → Int32} {ma : Nat → Nat} {b : Nat}
theorem KeepB.rf : KeepB q q ma b := fun _ _ _ _ _ => rfl
theorem KeepB.tr (h : KeepB q q1 ma b) (g : KeepB q1 q2 ma b) : KeepB q q2 ma b := fun j h1 h2 i hi => (g j h1 h2 i hi).trans (h j h1 h2 i hi)
theorem KeepB.up {S : Pl} {j k : Nat} {v : Int32} (hM : shMod S ma) (hj : j ≤ 20) (e : q1 = va_up q (ma j) (upd (q (ma j)) k v)) (hk : bl j * b ≤ k ∧ k < bl j * (b + 1)) : KeepB q q1 ma b := fun i h1 h2 x hx => by
  by_cases z : i = j
  · subst z
    rw [up_s e, pk_un (by omega)]
  · rw [row_keep hM e (by omega) (by omega) z]
/-- the other bank stays -/
theorem KeepB.ob {C : Nat → Nat → Int32} {b' : Nat} (h : KeepB q q1 ma b) (hb : b' ≠ b) (g : MBk q ma b' C) : MBk q1 ma b' C := by
  have o : ∀ j, 12 ≤ j → j ≤ 20 → ∀ i, i < bl j → q1 (ma j) (bl j * b' + i) = q (ma j) (bl j * b' + i) := fun j h1 h2 i hi => h j h1 h2 _ (by
    rcases Nat.lt_or_gt_of_ne hb with z | z
    · left
      have : bl j * (b' + 1) ≤ bl j * b := Nat.mul_le_mul_left _ z
      rw [Nat.mul_add, Nat.mul_one] at this; omega
    · right
      have : bl j * (b + 1) ≤ bl j * b' := Nat.mul_le_mul_left _ z
      omega)
  obtain ⟨g1, g2, g3, g4, g5⟩ := g
  refine ⟨fun x hx => ?_, fun a ha x hx => ?_, fun k hk => ?_, fun i hi => ?_, fun i hi => ?_⟩
  · rw [show q1 (ma 13) (72 * b' + x) = q (ma 13) (72 * b' + x) from o 13 (by decide) (by decide) x hx, show q1 (ma 14) (72 * b' + x) = q (ma 14) (72 * b' + x) from o 14 (by decide) (by decide) x hx]
    exact g1 x hx
  · have e : 72 * (4 * b' + a) + x = 288 * b' + (72 * a + x) := by omega
    have g := g2 a ha x hx
    rw [e] at g ⊢
    rw [show q1 (ma 15) (288 * b' + (72 * a + x)) = q (ma 15) (288 * b' + (72 * a + x)) from o 15 (by decide) (by decide) _ (show 72 * a + x < 288 by omega), show q1 (ma 16) (288 * b' + (72 * a + x)) = q (ma 16) (288 * b' + (72 * a + x)) from o 16 (by decide) (by decide) _ (show 72 * a + x < 288 by omega)]
    exact g
  · rw [show q1 (ma 17) (4 * b' + k) = q (ma 17) (4 * b' + k) from o 17 (by decide) (by decide) k hk, show q1 (ma 20) (4 * b' + k) = q (ma 20) (4 * b' + k) from o 20 (by decide) (by decide) k hk]
    exact g3 k hk
  · rw [show q1 (ma 19) (64 * b' + i) = q (ma 19) (64 * b' + i) from o 19 (by decide) (by decide) i hi]
    exact g4 i hi
  · rw [show q1 (ma 18) (42 * b' + i) = q (ma 18) (42 * b' + i) from o 18 (by decide) (by decide) i hi]
    exact g5 i hi
end KB
/-- what a line's numbers must be, and what they tell -/
def GL (C : Nat → Nat → Int32) (c : Nat → Int32) (n p s : Nat) : Prop := (∀ i, i < numS s → okN c n p s i) ∧ ¬ told C s (nv c n p 0).toNatClampNeg (nv c n p 1).toNatClampNeg ∧ (s = 4 → fits (C 4) (nv c n p 0).toNatClampNeg (nv c n p 1).toNatClampNeg (nv c n p 2).toInt)
def TC (C : Nat → Nat → Int32) (c : Nat → Int32) (n p s : Nat) : Nat → Nat → Int32 := tellC C s (nv c n p 0).toNatClampNeg (nv c n p 1).toNatClampNeg (nv c n p)
theorem LnS_GL {c : Nat → Int32} {n p s : Nat} {V : SV} : LnS c n V p s ↔ (tK c n p = 2 ∧ spl c (tS c n p) (tE c n p) s ∧ V.1 < 60 ∧ GL V.2 c n (tE c n p) s ∧ tK c n (pz c n (tE c n p) (numS s)) = 4) :=
  ⟨fun h => ⟨h.1, h.2.1, h.2.2.1, ⟨h.2.2.2.1, h.2.2.2.2.1, h.2.2.2.2.2.1⟩, h.2.2.2.2.2.2⟩, fun h => ⟨h.1, h.2.1, h.2.2.1, h.2.2.2.1.1, h.2.2.2.1.2.1, h.2.2.2.1.2.2, h.2.2.2.2⟩⟩
section RW
variable {q q1 q2 : Nat → Nat → Int32} {ma : Nat → Nat} {b : Nat} {C : Nat → Nat → Int32} {S : Pl}
/-- the wind told -/
theorem MBk.w {h : Nat} {x y : Int32} {i : Nat} (g : MBk q ma b C) (hM : shMod S ma) (hh : h < 72) (hi : i = 72 * b + h) (e1 : q1 = va_up q (ma 13) (upd (q (ma 13)) i x)) (e2 : q2 = va_up q1 (ma 14) (upd (q1 (ma 14)) i y)) : MBk q2 ma b (up2 (up2 (up2 C 13 h 1) 11 h x) 12 h y) := by
  obtain ⟨g1, g2, g3, g4, g5⟩ := g
  have k : ∀ j, j ≤ 45 → j ≠ 13 → j ≠ 14 → q2 (ma j) = q (ma j) := fun j hj n1 n2 => by rw [row_keep hM e2 hj (by decide) n2, row_keep hM e1 hj (by decide) n1]
  have r13 : q2 (ma 13) = upd (q (ma 13)) i x := by rw [row_keep hM e2 (by decide) (by decide) (by decide), up_s e1]
  have r14 : q2 (ma 14) = upd (q (ma 14)) i y := by rw [up_s e2, row_keep hM e1 (by decide) (by decide) (by decide)]
  refine ⟨fun z hz => ?_, ?_, ?_, ?_, ?_⟩
  · rw [r13, r14, up2_f (show (13 : Nat) ≠ 12 by decide), up2_f (show (13 : Nat) ≠ 11 by decide), up2_f (show (11 : Nat) ≠ 12 by decide)]
    by_cases e : z = h
    · rw [e, ← hi, pk_us, pk_us, up2_s, up2_s, up2_s]
      exact ⟨fun q => absurd q (by decide), fun _ => ⟨rfl, rfl⟩⟩
    · rw [pk_un (by omega), pk_un (by omega)]
      simp only [up2_n e]
      exact g1 z hz
  · rw [k 15 (by decide) (by decide) (by decide), k 16 (by decide) (by decide) (by decide)]
    intro a ha z hz
    rw [up2_f (by omega), up2_f (by omega), up2_f (by omega), up2_f (by omega), up2_f (by omega), up2_f (by omega), up2_f (by omega), up2_f (by omega), up2_f (by omega)]
    exact g2 a ha z hz
  · rw [k 17 (by decide) (by decide) (by decide), k 20 (by decide) (by decide) (by decide), up2_f (by decide), up2_f (by decide), up2_f (by decide)]
    exact g3
  · rw [k 19 (by decide) (by decide) (by decide), up2_f (by decide), up2_f (by decide), up2_f (by decide)]
    exact g4
  · rw [k 18 (by decide) (by decide) (by decide), up2_f (by decide), up2_f (by decide), up2_f (by decide)]
    exact g5
theorem MBk.s {a h : Nat} {x y : Int32} {i : Nat} (g : MBk q ma b C) (hM : shMod S ma) (ha : a < 4) (hh : h < 72) (hi : i = 72 * (4 * b + a) + h) (e1 : q1 = va_up q (ma 15) (upd (q (ma 15)) i x)) (e2 : q2 = va_up q1 (ma 16) (upd (q1 (ma 16)) i y)) : MBk q2 ma b (up2 (up2 (up2 C (10 + 4 * (a + 1) + 3) h 1) (10 + 4 * (a + 1) + 1) h x) (10 + 4 * (a + 1) + 2) h y) := by
  obtain ⟨g1, g2, g3, g4, g5⟩ := g
  have k : ∀ j, j ≤ 45 → j ≠ 15 → j ≠ 16 → q2 (ma j) = q (ma j) := fun j hj n1 n2 => by rw [row_keep hM e2 hj (by decide) n2, row_keep hM e1 hj (by decide) n1]
  have r15 : q2 (ma 15) = upd (q (ma 15)) i x := by rw [row_keep hM e2 (by decide) (by decide) (by decide), up_s e1]
  have r16 : q2 (ma 16) = upd (q (ma 16)) i y := by rw [up_s e2, row_keep hM e1 (by decide) (by decide) (by decide)]
  have o : ∀ j, (∀ m, 1 ≤ m → m ≤ 3 → j ≠ 10 + 4 * (a + 1) + m) → up2 (up2 (up2 C (10 + 4 * (a + 1) + 3) h 1) (10 + 4 * (a + 1) + 1) h x) (10 + 4 * (a + 1) + 2) h y j = C j := fun j hj => by
    rw [up2_f (hj 2 (by decide) (by decide)), up2_f (hj 1 (by decide) (by decide)), up2_f (hj 3 (by decide) (by decide))]
  refine ⟨?_, fun d hd z hz => ?_, ?_, ?_, ?_⟩
  · rw [k 13 (by decide) (by decide) (by decide), k 14 (by decide) (by decide) (by decide), o 13 (fun m _ _ => by omega), o 11 (fun m _ _ => by omega), o 12 (fun m _ _ => by omega)]
    exact g1
  · rw [r15, r16]
    by_cases ed : d = a
    · subst ed
      rw [up2_f (show 10 + 4 * (d + 1) + 3 ≠ 10 + 4 * (d + 1) + 2 by omega), up2_f (show 10 + 4 * (d + 1) + 3 ≠ 10 + 4 * (d + 1) + 1 by omega), up2_f (show 10 + 4 * (d + 1) + 1 ≠ 10 + 4 * (d + 1) + 2 by omega)]
      by_cases e : z = h
      · rw [e, ← hi, pk_us, pk_us, up2_s, up2_s, up2_s]
        exact ⟨fun q => absurd q (by decide), fun _ => ⟨rfl, rfl⟩⟩
      · rw [pk_un (by omega), pk_un (by omega)]
        simp only [up2_n e]
        exact g2 d hd z hz
    · rw [pk_un (by omega), pk_un (by omega), o (10 + 4 * (d + 1) + 3) (fun m _ _ => by omega), o (10 + 4 * (d + 1) + 1) (fun m _ _ => by omega), o (10 + 4 * (d + 1) + 2) (fun m _ _ => by omega)]
      exact g2 d hd z hz
  · rw [k 17 (by decide) (by decide) (by decide), k 20 (by decide) (by decide) (by decide), o 2 (fun m _ _ => by omega)]
    exact g3
  · rw [k 19 (by decide) (by decide) (by decide), o 3 (fun m _ _ => by omega)]
    exact g4
  · rw [k 18 (by decide) (by decide) (by decide), o 4 (fun m _ _ => by omega)]
    exact g5
theorem MBk.l {d : Nat} {x : Int32} {i : Nat} (g : MBk q ma b C) (hM : shMod S ma) (hx : ¬ x = -1) (hi : i = 4 * b + d) (e1 : q1 = va_up q (ma 17) (upd (q (ma 17)) i x)) (e2 : q2 = va_up q1 (ma 20) (upd (q1 (ma 20)) i 1)) : MBk q2 ma b (up2 C 2 d x) := by
  obtain ⟨g1, g2, g3, g4, g5⟩ := g
  have k : ∀ j, j ≤ 45 → j ≠ 17 → j ≠ 20 → q2 (ma j) = q (ma j) := fun j hj n1 n2 => by rw [row_keep hM e2 hj (by decide) n2, row_keep hM e1 hj (by decide) n1]
  have r17 : q2 (ma 17) = upd (q (ma 17)) i x := by rw [row_keep hM e2 (by decide) (by decide) (by decide), up_s e1]
  have r20 : q2 (ma 20) = upd (q (ma 20)) i 1 := by rw [up_s e2, row_keep hM e1 (by decide) (by decide) (by decide)]
  refine ⟨?_, ?_, fun z hz => ?_, ?_, ?_⟩
  · rw [k 13 (by decide) (by decide) (by decide), k 14 (by decide) (by decide) (by decide), up2_f (by decide), up2_f (by decide), up2_f (by decide)]; exact g1
  · rw [k 15 (by decide) (by decide) (by decide), k 16 (by decide) (by decide) (by decide)]
    intro a ha z hz
    rw [up2_f (by omega), up2_f (by omega), up2_f (by omega)]; exact g2 a ha z hz
  · rw [r17, r20]
    by_cases e : z = d
    · rw [e, ← hi, pk_us, pk_us, up2_s]
      exact ⟨fun q => absurd q hx, fun _ => ⟨rfl, rfl⟩⟩
    · rw [pk_un (by omega), pk_un (by omega), up2_n e]; exact g3 z hz
  · rw [k 19 (by decide) (by decide) (by decide), up2_f (by decide)]; exact g4
  · rw [k 18 (by decide) (by decide) (by decide), up2_f (by decide)]; exact g5
theorem MBk.d {d i : Nat} (g : MBk q ma b C) (hM : shMod S ma) (hi : i = 64 * b + d) (e1 : q1 = va_up q (ma 19) (upd (q (ma 19)) i 1)) : MBk q1 ma b (up2 C 3 d 1) := by
  obtain ⟨g1, g2, g3, g4, g5⟩ := g
  have k : ∀ j, j ≤ 45 → j ≠ 19 → q1 (ma j) = q (ma j) := fun j hj n1 => by rw [row_keep hM e1 hj (by decide) n1]
  refine ⟨?_, ?_, ?_, fun z hz => ?_, ?_⟩
  · rw [k 13 (by decide) (by decide), k 14 (by decide) (by decide), up2_f (by decide), up2_f (by decide), up2_f (by decide)]; exact g1
  · rw [k 15 (by decide) (by decide), k 16 (by decide) (by decide)]
    intro a ha z hz
    rw [up2_f (by omega), up2_f (by omega), up2_f (by omega)]; exact g2 a ha z hz
  · rw [k 17 (by decide) (by decide), k 20 (by decide) (by decide), up2_f (by decide)]; exact g3
  · rw [up_s e1]
    by_cases e : z = d
    · rw [e, ← hi, pk_us, up2_s]
    · rw [pk_un (by omega), up2_n e]; exact g4 z hz
  · rw [k 18 (by decide) (by decide), up2_f (by decide)]; exact g5
theorem MBk.m {d i : Nat} {x : Int32} (g : MBk q ma b C) (hM : shMod S ma) (hx : ¬ x = -1) (hi : i = 42 * b + d) (e1 : q1 = va_up q (ma 18) (upd (q (ma 18)) i x)) : MBk q1 ma b (up2 C 4 d x) := by
  obtain ⟨g1, g2, g3, g4, g5⟩ := g
  have k : ∀ j, j ≤ 45 → j ≠ 18 → q1 (ma j) = q (ma j) := fun j hj n1 => by rw [row_keep hM e1 hj (by decide) n1]
  refine ⟨?_, ?_, ?_, ?_, fun z hz => ?_⟩
  · rw [k 13 (by decide) (by decide), k 14 (by decide) (by decide), up2_f (by decide), up2_f (by decide), up2_f (by decide)]; exact g1
  · rw [k 15 (by decide) (by decide), k 16 (by decide) (by decide)]
    intro a ha z hz
    rw [up2_f (by omega), up2_f (by omega), up2_f (by omega)]; exact g2 a ha z hz
  · rw [k 17 (by decide) (by decide), k 20 (by decide) (by decide), up2_f (by decide)]; exact g3
  · rw [k 19 (by decide) (by decide), up2_f (by decide)]; exact g4
  · rw [up_s e1]
    by_cases e : z = d
    · rw [e, ← hi, pk_us, up2_s]
      exact ⟨fun q => absurd q hx, fun _ => rfl⟩
    · rw [pk_un (by omega), up2_n e]; exact g5 z hz
end RW
set_option maxHeartbeats 4000000 in
set_option maxRecDepth 100000 in
theorem c_v_X11_numeral (l : Launch) (G : Gh) (S : Pl) (ma : Nat → Nat) (tc : Nat → Int32) (tn : Nat) (pp : Nat) (gd : Prop) (x y : Int32) (lo : Int) (hM : shMod S ma) (htc : tc = tx (qI S (ma 2)) tn) (hn : (pI S 103 (ma 0)).toInt = (tn : Int)) (hz : tn ≤ 1000) (hpp : pp ≤ tn) (hst : Mst (pI S) (pJ S) (ma 0) tc tn pp gd) (hlo : lo ≤ x.toInt ∧ lo ≤ 0 ∧ 0 ≤ y.toInt) (hE : eM (pI S) (ma 0)) : MtI l yX11_numeral cX11_numeral 4 (some .int) (Rm 3 0 0) G [.ref (ma 0), .int x, .int y] S (fun (r : Int32) (S' : Pl) => ∃ I' J', ch S I' J' (qI S) (qJ S) = S' ∧ FrM (pI S) I' ∧ Mst I' J' (ma 0) tc tn (tE tc tn pp) (gd ∧ tK tc tn pp = 3 ∧ x.toInt ≤ (tV tc tn pp).toInt ∧ (tV tc tn pp).toInt ≤ y.toInt) ∧ ((I' 104 (ma 0)).toInt = 0 → r = tV tc tn pp) ∧ lo ≤ r.toInt ∧ r.toInt ≤ y.toInt ∧ eM I' (ma 0)) 0 0 := by
  refine MtI.of (by decide) (Nat.le_of_ble_eq_true rfl) ?_
  intro p e s m args below meth c Q A X hw hin hret ls hl
  have hx := X.1.1
  have hb := X.1.2.1
  have hl : lv_has ls 4 [(0, .ref (ma 0)), (1, .int x), (2, .int y)] := hl
  have lp77 : ∀ (Ic77 : Nat → Nat → Int32) (Jc77 : Nat → Nat → Int64) (v : Int32), (FrM (pI S) Ic77) → (eM Ic77 (ma 0)) → (Mst Ic77 Jc77 (ma 0) tc tn (tE tc tn pp) (gd ∧ tK tc tn pp = 3 ∧ x.toInt ≤ (tV tc tn pp).toInt ∧ (tV tc tn pp).toInt ≤ y.toInt)) → ((Ic77 104 (ma 0)).toInt = 0 → v = tV tc tn pp) → ∀ (H : Heap) (locs : List Loc) (ls : Array Slot), PX G A s.heap (ch S Ic77 Jc77 (qI S) (qJ S)) H locs → lv_has ls 4 [(0, .ref (ma 0)), (3, .int v)] → W p l e (Rm 3 0 0) s m args below meth c H locs 0 0 Q (F0 m 77 ls []) := by
    intro Ic77 Jc77 v hF hE1 hst3 hv3 H locs ls hw hl
    refine lv_aload_n hx hb dX11_numeral_77 rfl (lv_at hl 0 rfl) ?_
    refine k_Vi (n := 0) X hw (rcvk (ci := 11) X hw hM.1 (fun _ _ _ _ _ _ _ => ⟨_, rfl⟩) rfl) (c_X11_isGood l G _ ma hM) wd_r21_12 wd_r21_13 wd_r21_14 wd_r1_5 wd_r21_15 ⟨by decide, by decide, by decide +kernel⟩ rfl rfl ⟨Nat.le_of_ble_eq_true rfl, Nat.le_of_ble_eq_true rfl⟩ rfl rfl hl.1 (Nat.le_of_ble_eq_true rfl) dX11_numeral_78 ⟨Nat.le_of_ble_eq_true rfl, Nat.le_of_ble_eq_true rfl⟩ (fun r78_1 S78_3 H locs h78_2 hw => ?_)
    rcases h78_2 with ⟨rfl, rfl, h78_2⟩ | ⟨rfl, rfl, h78_2⟩
    · have h78_2 : (Ic77 104 (ma 0) : Int32).toInt = 0 := h78_2
      refine lv_if_eq (tgt := 88) hx hb dX11_numeral_81 (by decide) (fun c81_4 => absurd c81_4 (by decide)) (fun c81_4 => ?_)
      refine lv_iload_n hx hb dX11_numeral_84 rfl (lv_at hl 1 rfl) ?_
      refine lv_goto (tgt := 89) hx hb dX11_numeral_85 (by decide) ?_
      exact hret v _ _ _ _ _ ⟨_, _, rfl, hF, hst3, (fun h9 => by first | exact hv3 h9 | exact absurd h9 (by omega)), (by first | (have z9 := (hst3.ok (by omega)).1.2.2; have z8 := congrArg Int32.toInt (hv3 (by omega)); omega) | (have := t_0; omega)), (by first | (have z9 := (hst3.ok (by omega)).1.2.2; have z8 := congrArg Int32.toInt (hv3 (by omega)); omega) | (have := t_0; omega)), hE1⟩ hw rfl dX11_numeral_89
    · have h78_2 : ¬ ((Ic77 104 (ma 0) : Int32).toInt = 0) := h78_2
      refine lv_if_eq (tgt := 88) hx hb dX11_numeral_81 (by decide) (fun c81_5 => ?_) (fun c81_5 => absurd c81_5 (by decide))
      refine lv_iconst (v := 0) hx hb dX11_numeral_88 (by decide) ?_
      exact hret 0 _ _ _ _ _ ⟨_, _, rfl, hF, hst3, (fun h9 => by first | exact hv3 h9 | exact absurd h9 (by omega)), (by first | (have z9 := (hst3.ok (by omega)).1.2.2; have z8 := congrArg Int32.toInt (hv3 (by omega)); omega) | (have := t_0; omega)), (by first | (have z9 := (hst3.ok (by omega)).1.2.2; have z8 := congrArg Int32.toInt (hv3 (by omega)); omega) | (have := t_0; omega)), hE1⟩ hw rfl dX11_numeral_89
  have lp61 : ∀ (Ic61 : Nat → Nat → Int32), (FrM (pI S) Ic61) → (eM Ic61 (ma 0)) → (Mst Ic61 (pJ S) (ma 0) tc tn pp (gd ∧ tK tc tn pp = 3 ∧ x.toInt ≤ (tV tc tn pp).toInt ∧ (tV tc tn pp).toInt ≤ y.toInt)) → ∀ (H : Heap) (locs : List Loc) (ls : Array Slot), PX G A s.heap (ch S Ic61 (pJ S) (qI S) (qJ S)) H locs → lv_has ls 4 [(0, .ref (ma 0))] → W p l e (Rm 3 0 0) s m args below meth c H locs 0 0 Q (F0 m 61 ls []) := by
    intro Ic61 hF hE1 hst2 H locs ls hw hl
    refine lv_aload_n hx hb dX11_numeral_61 rfl (lv_at hl 0 rfl) ?_
    refine gf_X11_45 (v := Ic61 109 (ma 0)) X hw hM.1 rfl dX11_numeral_62 ?_
    refine lv_istore_n (lv' := [(3, .int (Ic61 109 (ma 0))), (0, .ref (ma 0))]) hx hb dX11_numeral_65 rfl hl (by decide) rfl (fun ls hl => ?_)
    refine lv_aload_n hx hb dX11_numeral_66 rfl (lv_at hl 1 rfl) ?_
    refine k_Vi (n := 0) X hw (rcvk (ci := 11) X hw hM.1 (fun _ _ _ _ _ _ _ => ⟨_, rfl⟩) rfl) (c_X11_isGood l G _ ma hM) wd_r21_12 wd_r21_13 wd_r21_14 wd_r1_5 wd_r21_15 ⟨by decide, by decide, by decide +kernel⟩ rfl rfl ⟨Nat.le_of_ble_eq_true rfl, Nat.le_of_ble_eq_true rfl⟩ rfl rfl hl.1 (Nat.le_of_ble_eq_true rfl) dX11_numeral_67 ⟨Nat.le_of_ble_eq_true rfl, Nat.le_of_ble_eq_true rfl⟩ (fun r67_6 S67_8 H locs h67_7 hw => ?_)
    rcases h67_7 with ⟨rfl, rfl, h67_7⟩ | ⟨rfl, rfl, h67_7⟩
    · have h67_7 : (Ic61 104 (ma 0) : Int32).toInt = 0 := h67_7
      refine lv_if_eq (tgt := 77) hx hb dX11_numeral_70 (by decide) (fun c70_9 => absurd c70_9 (by decide)) (fun c70_9 => ?_)
      have hk2 := hst2.ok (by omega)
      have h9v : (Ic61 109 (ma 0)) = tV tc tn pp := hk2.2.2.2.2.1 hk2.1.2.1
      refine lv_aload_n hx hb dX11_numeral_73 rfl (lv_at hl 1 rfl) ?_
      refine k_Vv (n := 0) X hw (rcvk (ci := 11) X hw hM.1 (fun _ _ _ _ _ _ _ => ⟨_, rfl⟩) rfl) (c_v_X11_next l G _ ma tc tn hM htc (FrM.n hF hn) hz (hst2.le hpp (by omega))) wd_r20_15 wd_r20_16 wd_r20_17 wd_r1_5 wd_r20_18 ⟨by decide, by decide, by decide +kernel⟩ rfl rfl ⟨Nat.le_of_ble_eq_true rfl, Nat.le_of_ble_eq_true rfl⟩ rfl rfl hl.1 (Nat.le_of_ble_eq_true rfl) dX11_numeral_74 ⟨Nat.le_of_ble_eq_true rfl, Nat.le_of_ble_eq_true rfl⟩ (fun S74_11 H locs h74_10 hw => ?_)
      obtain ⟨I74_12, J74_13, rfl, h74_10⟩ := h74_10
      have hw : PX G A s.heap (ch S I74_12 J74_13 (qI S) (qJ S)) H locs := hw
      have h104n : (I74_12 104 (ma 0)).toInt = 0 := by rw [h74_10.1 104 (by decide)]; omega
      have hTn : mTok I74_12 J74_13 (ma 0) tc tn (tE tc tn pp) := by have e9 : (Ic61 107 (ma 0)).toNatClampNeg = tE tc tn pp := (by have z9 := hk2.2.2.1; have := cl_toInt (x := Ic61 107 (ma 0)) (by omega); omega); rw [← e9]; exact h74_10.2.1
      exact lp77 I74_12 J74_13 (Ic61 109 (ma 0)) (FrM.tr hF (h74_10.1.m)) h74_10.2.2 (by first | exact Or.inr ⟨(by omega), fun q => hst2.no (by omega) q⟩ | exact Or.inl ⟨h104n, hk2.1, hTn⟩) (fun h9 => by first | exact h9v | exact absurd h9 (by omega)) _ _ _ hw (lv_sub hl [1, 0] rfl)
    · have h67_7 : ¬ ((Ic61 104 (ma 0) : Int32).toInt = 0) := h67_7
      refine lv_if_eq (tgt := 77) hx hb dX11_numeral_70 (by decide) (fun c70_14 => ?_) (fun c70_14 => absurd c70_14 (by decide))
      exact lp77 Ic61 (pJ S) (Ic61 109 (ma 0)) hF hE1 (by first | exact Or.inr ⟨(by omega), fun q => hst2.no (by omega) q⟩ | exact Or.inl ⟨h104n, hk2.1, hTn⟩) (fun h9 => by first | exact h9v | exact absurd h9 (by omega)) _ _ _ hw (lv_sub hl [1, 0] rfl)
  have lp29 : ∀ (Ic29 : Nat → Nat → Int32), (FrM (pI S) Ic29) → (eM Ic29 (ma 0)) → (Mst Ic29 (pJ S) (ma 0) tc tn pp (gd ∧ tK tc tn pp = 3)) → ∀ (H : Heap) (locs : List Loc) (ls : Array Slot), PX G A s.heap (ch S Ic29 (pJ S) (qI S) (qJ S)) H locs → lv_has ls 4 [(0, .ref (ma 0)), (1, .int x), (2, .int y)] → W p l e (Rm 3 0 0) s m args below meth c H locs 0 0 Q (F0 m 29 ls []) := by
    intro Ic29 hF hE1 hst1 H locs ls hw hl
    refine lv_aload_n hx hb dX11_numeral_29 rfl (lv_at hl 0 rfl) ?_
    refine k_Vi (n := 0) X hw (rcvk (ci := 11) X hw hM.1 (fun _ _ _ _ _ _ _ => ⟨_, rfl⟩) rfl) (c_X11_isGood l G _ ma hM) wd_r21_12 wd_r21_13 wd_r21_14 wd_r1_5 wd_r21_15 ⟨by decide, by decide, by decide +kernel⟩ rfl rfl ⟨Nat.le_of_ble_eq_true rfl, Nat.le_of_ble_eq_true rfl⟩ rfl rfl hl.1 (Nat.le_of_ble_eq_true rfl) dX11_numeral_30 ⟨Nat.le_of_ble_eq_true rfl, Nat.le_of_ble_eq_true rfl⟩ (fun r30_15 S30_17 H locs h30_16 hw => ?_)
    rcases h30_16 with ⟨rfl, rfl, h30_16⟩ | ⟨rfl, rfl, h30_16⟩
    · have h30_16 : (Ic29 104 (ma 0) : Int32).toInt = 0 := h30_16
      refine lv_if_eq (tgt := 61) hx hb dX11_numeral_33 (by decide) (fun c33_18 => absurd c33_18 (by decide)) (fun c33_18 => ?_)
      have hk1 := hst1.ok (by omega)
      have h9n := congrArg Int32.toInt (hk1.2.2.2.2.1 hk1.1.2)
      refine lv_aload_n hx hb dX11_numeral_36 rfl (lv_at hl 0 rfl) ?_
      refine gf_X11_45 (v := Ic29 109 (ma 0)) X hw hM.1 rfl dX11_numeral_37 ?_
      refine lv_iload_n hx hb dX11_numeral_40 rfl (lv_at hl 1 rfl) ?_
      refine lv_icmp_lt (tgt := 52) hx hb dX11_numeral_41 (by decide) (fun c41_19 => ?_) (fun c41_19 => ?_)
      · have D41_19 := iLt c41_19 rfl rfl
        refine lv_aload_n hx hb dX11_numeral_52 rfl (lv_at hl 0 rfl) ?_
        refine lv_iconst (v := 3) hx hb dX11_numeral_53 (by decide) ?_
        refine lv_aload_n hx hb dX11_numeral_54 rfl (lv_at hl 0 rfl) ?_
        refine gf_X11_20 (v := Ic29 106 (ma 0)) X hw hM.1 rfl dX11_numeral_55 ?_
        refine k_Vv (n := 2) X hw (rcvk (ci := 11) X hw hM.1 (fun _ _ _ _ _ _ _ => ⟨_, rfl⟩) rfl) (c_X11_fails l G _ ma 3 (Ic29 106 (ma 0)) hM (by decide)) wd_r22_9 wd_r22_10 wd_r22_11 wd_r1_5 wd_r22_12 ⟨by decide, by decide, by decide +kernel⟩ rfl rfl ⟨Nat.le_of_ble_eq_true rfl, Nat.le_of_ble_eq_true rfl⟩ rfl rfl hl.1 (Nat.le_of_ble_eq_true rfl) dX11_numeral_58 ⟨Nat.le_of_ble_eq_true rfl, Nat.le_of_ble_eq_true rfl⟩ (fun S58_21 H locs h58_20 hw => ?_)
        have := t_3
        obtain ⟨I58_22, rfl, h58_20⟩ := h58_20
        have hw : PX G A s.heap (ch S I58_22 (pJ S) (qI S) (qJ S)) H locs := hw
        have HFL : (I58_22 104 (ma 0)).toInt ≠ 0 := h58_20.2
        exact lp61 I58_22  (FrM.tr hF (h58_20.1.m)) (FrF.e h58_20.1 hE1) (by first | exact Or.inr ⟨(by omega), fun q => hst1.no (by omega) ⟨q.1, q.2.1⟩⟩ | exact Or.inl ⟨(by omega), ⟨hk1.1.1, hk1.1.2, (by omega), (by omega)⟩, hk1.2⟩ | exact Or.inr ⟨HFL, fun q => absurd q.2.2 (by omega)⟩) _ _ _ hw (lv_sub hl [0] rfl)
      · have D41_19 := iNlt c41_19 rfl rfl
        refine lv_aload_n hx hb dX11_numeral_44 rfl (lv_at hl 0 rfl) ?_
        refine gf_X11_45 (v := Ic29 109 (ma 0)) X hw hM.1 rfl dX11_numeral_45 ?_
        refine lv_iload_n hx hb dX11_numeral_48 rfl (lv_at hl 2 rfl) ?_
        refine lv_icmp_le (tgt := 61) hx hb dX11_numeral_49 (by decide) (fun c49_23 => ?_) (fun c49_23 => ?_)
        · have D49_23 := iLe c49_23 rfl rfl
          exact lp61 Ic29  hF hE1 (by first | exact Or.inr ⟨(by omega), fun q => hst1.no (by omega) ⟨q.1, q.2.1⟩⟩ | exact Or.inl ⟨(by omega), ⟨hk1.1.1, hk1.1.2, (by omega), (by omega)⟩, hk1.2⟩ | exact Or.inr ⟨HFL, fun q => absurd q.2.2 (by omega)⟩) _ _ _ hw (lv_sub hl [0] rfl)
        · have D49_23 := iNle c49_23 rfl rfl
          refine lv_aload_n hx hb dX11_numeral_52 rfl (lv_at hl 0 rfl) ?_
          refine lv_iconst (v := 3) hx hb dX11_numeral_53 (by decide) ?_
          refine lv_aload_n hx hb dX11_numeral_54 rfl (lv_at hl 0 rfl) ?_
          refine gf_X11_20 (v := Ic29 106 (ma 0)) X hw hM.1 rfl dX11_numeral_55 ?_
          refine k_Vv (n := 2) X hw (rcvk (ci := 11) X hw hM.1 (fun _ _ _ _ _ _ _ => ⟨_, rfl⟩) rfl) (c_X11_fails l G _ ma 3 (Ic29 106 (ma 0)) hM (by decide)) wd_r22_9 wd_r22_10 wd_r22_11 wd_r1_5 wd_r22_12 ⟨by decide, by decide, by decide +kernel⟩ rfl rfl ⟨Nat.le_of_ble_eq_true rfl, Nat.le_of_ble_eq_true rfl⟩ rfl rfl hl.1 (Nat.le_of_ble_eq_true rfl) dX11_numeral_58 ⟨Nat.le_of_ble_eq_true rfl, Nat.le_of_ble_eq_true rfl⟩ (fun S58_25 H locs h58_24 hw => ?_)
          have := t_3
          obtain ⟨I58_26, rfl, h58_24⟩ := h58_24
          have hw : PX G A s.heap (ch S I58_26 (pJ S) (qI S) (qJ S)) H locs := hw
          have HFL : (I58_26 104 (ma 0)).toInt ≠ 0 := h58_24.2
          exact lp61 I58_26  (FrM.tr hF (h58_24.1.m)) (FrF.e h58_24.1 hE1) (by first | exact Or.inr ⟨(by omega), fun q => hst1.no (by omega) ⟨q.1, q.2.1⟩⟩ | exact Or.inl ⟨(by omega), ⟨hk1.1.1, hk1.1.2, (by omega), (by omega)⟩, hk1.2⟩ | exact Or.inr ⟨HFL, fun q => absurd q.2.2 (by omega)⟩) _ _ _ hw (lv_sub hl [0] rfl)
    · have h30_16 : ¬ ((Ic29 104 (ma 0) : Int32).toInt = 0) := h30_16
      refine lv_if_eq (tgt := 61) hx hb dX11_numeral_33 (by decide) (fun c33_27 => ?_) (fun c33_27 => absurd c33_27 (by decide))
      exact lp61 Ic29  hF hE1 (by first | exact Or.inr ⟨(by omega), fun q => hst1.no (by omega) ⟨q.1, q.2.1⟩⟩ | exact Or.inl ⟨(by omega), ⟨hk1.1.1, hk1.1.2, (by omega), (by omega)⟩, hk1.2⟩ | exact Or.inr ⟨HFL, fun q => absurd q.2.2 (by omega)⟩) _ _ _ hw (lv_sub hl [0] rfl)
  refine lv_aload_n hx hb dX11_numeral_0 rfl (lv_at hl 0 rfl) ?_
  refine k_Vi (n := 0) X hw (rcvk (ci := 11) X hw hM.1 (fun _ _ _ _ _ _ _ => ⟨_, rfl⟩) rfl) (c_X11_isGood l G _ ma hM) wd_r21_12 wd_r21_13 wd_r21_14 wd_r1_5 wd_r21_15 ⟨by decide, by decide, by decide +kernel⟩ rfl rfl ⟨Nat.le_of_ble_eq_true rfl, Nat.le_of_ble_eq_true rfl⟩ rfl rfl hl.1 (Nat.le_of_ble_eq_true rfl) dX11_numeral_1 ⟨Nat.le_of_ble_eq_true rfl, Nat.le_of_ble_eq_true rfl⟩ (fun r1_28 S1_30 H locs h1_29 hw => ?_)
  rcases h1_29 with ⟨rfl, rfl, h1_29⟩ | ⟨rfl, rfl, h1_29⟩
  · have h1_29 : ((pI S) 104 (ma 0) : Int32).toInt = 0 := h1_29
    refine lv_if_ne (tgt := 9) hx hb dX11_numeral_4 (by decide) (fun c4_31 => ?_) (fun c4_31 => absurd c4_31 (by decide))
    have h8 := (hst.ok (by omega)).2.2.2.1
    refine lv_aload_n hx hb dX11_numeral_9 rfl (lv_at hl 0 rfl) ?_
    refine lv_aload_n hx hb dX11_numeral_10 rfl (lv_at hl 0 rfl) ?_
    refine gf_X11_20 (v := (pI S) 106 (ma 0)) X hw hM.1 rfl dX11_numeral_11 ?_
    refine pf_X11_162 X hw hM.1 dX11_numeral_14 (fun H locs hw => ?_)
    have hw : PX G A s.heap (ch S (up2 (pI S) 122 (ma 0) ((pI S) 106 (ma 0))) (pJ S) (qI S) (qJ S)) H locs := hw
    refine lv_aload_n hx hb dX11_numeral_17 rfl (lv_at hl 0 rfl) ?_
    refine gf_X11_27 (v := (pI S) 108 (ma 0)) X hw hM.1 rfl dX11_numeral_18 ?_
    refine lv_iconst (v := 3) hx hb dX11_numeral_21 (by decide) ?_
    refine lv_icmp_eq (tgt := 29) hx hb dX11_numeral_22 (by decide) (fun c22_32 => ?_) (fun c22_32 => ?_)
    · have D22_32 := iEq c22_32 rfl t_3
      exact lp29 (up2 (pI S) 122 (ma 0) ((pI S) 106 (ma 0)))  (FrM.up (f := 122) (by decide) FrM.rf) hE (by first | exact Or.inl ⟨(show (pI S 104 (ma 0)).toInt = 0 by omega), ⟨(hst.ok (by omega)).1, mK3.mp (by omega)⟩, (show mTok (up2 (pI S) 122 (ma 0) ((pI S) 106 (ma 0))) (pJ S) (ma 0) tc tn pp from (hst.ok (by omega)).2)⟩ | exact Or.inr ⟨HWR, fun q => absurd (mK3.mpr q.2) (by omega)⟩) _ _ _ hw (lv_sub hl [0, 1, 2] rfl)
    · have D22_32 := iNe c22_32 rfl t_3
      refine lv_aload_n hx hb dX11_numeral_25 rfl (lv_at hl 0 rfl) ?_
      refine k_Vv (n := 0) X hw (rcvk (ci := 11) X hw hM.1 (fun _ _ _ _ _ _ _ => ⟨_, rfl⟩) rfl) (c_X11_wrong l G _ ma hM) wd_r22_5 wd_r22_6 wd_r22_7 wd_r1_5 wd_r22_8 ⟨by decide, by decide, by decide +kernel⟩ rfl rfl ⟨Nat.le_of_ble_eq_true rfl, Nat.le_of_ble_eq_true rfl⟩ rfl rfl hl.1 (Nat.le_of_ble_eq_true rfl) dX11_numeral_26 ⟨Nat.le_of_ble_eq_true rfl, Nat.le_of_ble_eq_true rfl⟩ (fun S26_34 H locs h26_33 hw => ?_)
      obtain ⟨I26_35, rfl, h26_33⟩ := h26_33
      have hw : PX G A s.heap (ch S I26_35 (pJ S) (qI S) (qJ S)) H locs := hw
      have HWR : (I26_35 104 (ma 0)).toInt ≠ 0 := h26_33.2
      exact lp29 I26_35  (FrM.tr (FrM.up (f := 122) (by decide) FrM.rf) (h26_33.1.m)) (FrF.e h26_33.1 hE) (by first | exact Or.inl ⟨(show (pI S 104 (ma 0)).toInt = 0 by omega), ⟨(hst.ok (by omega)).1, mK3.mp (by omega)⟩, (show mTok I26_35 (pJ S) (ma 0) tc tn pp from (hst.ok (by omega)).2)⟩ | exact Or.inr ⟨HWR, fun q => absurd (mK3.mpr q.2) (by omega)⟩) _ _ _ hw (lv_sub hl [0, 1, 2] rfl)
  · have h1_29 : ¬ (((pI S) 104 (ma 0) : Int32).toInt = 0) := h1_29
    refine lv_if_ne (tgt := 9) hx hb dX11_numeral_4 (by decide) (fun c4_36 => absurd c4_36 (by decide)) (fun c4_36 => ?_)
    refine lv_iconst (v := 0) hx hb dX11_numeral_7 (by decide) ?_
    exact hret 0 _ _ _ _ _ ⟨_, _, rfl, FrM.rf, Or.inr ⟨(by omega), fun q => hst.no (by omega) q.1⟩, fun h9 => absurd h9 (by omega), (by have := t_0; omega), (by have := t_0; omega), hE⟩ hw rfl dX11_numeral_8
