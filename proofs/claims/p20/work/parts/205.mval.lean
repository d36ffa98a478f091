theorem cntB_le (r : Nat → Int32) : ∀ n, cntB r n ≤ n
  | 0 => Nat.le_refl _
  | n + 1 => by
    have h := cntB_le r n
    simp only [cntB]; split <;> omega
theorem cntB_cong {r r' : Nat → Int32} : ∀ {n : Nat}, (∀ k, k < n → r' k = r k) → cntB r' n = cntB r n
  | 0, _ => rfl
  | n + 1, h => by
    simp only [cntB]; rw [cntB_cong (fun k hk => h k (by omega)), h n (by omega)]
theorem cntB_set {r : Nat → Int32} {i : Nat} {v : Int32} (hv : ¬ v = 0) : ∀ n, cntB (upd r i v) n ≤ cntB r n
  | 0 => Nat.le_refl _
  | n + 1 => by
    have h := cntB_set (r := r) (i := i) hv n
    simp only [cntB]
    by_cases e : n = i
    · subst e; rw [pk_us, if_neg hv]; omega
    · rw [pk_un e]; omega
theorem cntB_step {r : Nat → Int32} {x y : Int32} (h0 : 0 ≤ x.toInt) (hy : y.toInt = x.toInt + 1) : cntB r y.toNatClampNeg = cntB r x.toNatClampNeg + if r x.toNatClampNeg = 0 then 1 else 0 := by
  have h1 := cl_toInt h0
  have h2 := cl_toInt (x := y) (by omega)
  rw [show y.toNatClampNeg = x.toNatClampNeg + 1 by omega]; rfl
theorem cntB_mono (r : Nat → Int32) {a b : Nat} (h : a ≤ b) : cntB r a ≤ cntB r b := by
  induction b with
  | zero => have : a = 0 := by omega
            subst this; exact Nat.le_refl _
  | succ b ih =>
    rcases Nat.lt_or_ge a (b + 1) with q | q
    · have := ih (by omega)
      simp only [cntB]; omega
    · have : a = b + 1 := by omega
      subst this; exact Nat.le_refl _
theorem i2l_t (x : Int32) : x.toInt64.toInt = x.toInt := Int32.toInt_toInt64 x
def pw100 : Nat → Int | 0 => 1 | n + 1 => 100 * pw100 n
theorem pw100_pos : ∀ n, 1 ≤ pw100 n
  | 0 => by simp [pw100]
  | n + 1 => by have := pw100_pos n; simp only [pw100]; omega
theorem pw100_6 {n : Nat} (h : n ≤ 6) : pw100 n ≤ 1000000000000 := by
  match n, h with
  | 0, _ => decide
  | 1, _ => decide
  | 2, _ => decide
  | 3, _ => decide
  | 4, _ => decide
  | 5, _ => decide
  | 6, _ => decide
  | n + 7, h => omega
theorem odds_y {r : Nat → Int32} {w a b : Int64} {x i i' v : Int32} {B : Int} (hB : 1 ≤ B ∧ B ≤ 40000) (hw : 0 ≤ w.toInt ∧ w.toInt ≤ B * pw100 (cntB r i.toNatClampNeg)) (ea : a.toInt = x.toInt) (eb : b = w * a) (hx : 0 ≤ x.toInt ∧ x.toInt ≤ 100) (e : v = r i.toNatClampNeg) (c : v = 0) (ti : i'.toInt = i.toInt + 1) (h0 : 0 ≤ i.toInt) (h6 : cntB r i'.toNatClampNeg ≤ 6) : 0 ≤ b.toInt ∧ b.toInt ≤ B * pw100 (cntB r i'.toNatClampNeg) ∧ (1 ≤ w.toInt → 1 ≤ x.toInt → 1 ≤ b.toInt) := by
  have hs := cntB_step (r := r) h0 ti
  rw [← e, if_pos c] at hs
  have h7 := pw100_6 h6
  rw [hs] at h6 h7 ⊢
  generalize cntB r i.toNatClampNeg = k at *
  have hp := pw100_pos k
  have hk : pw100 (k + 1) = 100 * pw100 k := rfl
  rw [hk] at h7 ⊢
  generalize pw100 k = P at *
  have m0 : 0 ≤ w.toInt * x.toInt := Int.mul_nonneg hw.1 hx.1
  have m1 : w.toInt * x.toInt ≤ w.toInt * 100 := Int.mul_le_mul_of_nonneg_left hx.2 hw.1
  have m2 : B * P ≤ 40000 * P := Int.mul_le_mul_of_nonneg_right hB.2 (by omega)
  have m3 : B * (100 * P) = 100 * (B * P) := by rw [← Int.mul_assoc, Int.mul_comm B 100, Int.mul_assoc]
  have e2 := lMul eb rfl ea (by omega) (by omega)
  rw [e2, m3]
  refine ⟨m0, by omega, fun q1 q2 => ?_⟩
  have m4 : 1 * 1 ≤ w.toInt * x.toInt := Int.mul_le_mul q1 q2 (by decide) (by omega)
  omega
theorem odds_n {r : Nat → Int32} {w : Int64} {i i' v : Int32} {B : Int} (hw : 0 ≤ w.toInt ∧ w.toInt ≤ B * pw100 (cntB r i.toNatClampNeg)) (e : v = r i.toNatClampNeg) (c : ¬ v = 0) (ti : i'.toInt = i.toInt + 1) (h0 : 0 ≤ i.toInt) : 0 ≤ w.toInt ∧ w.toInt ≤ B * pw100 (cntB r i'.toNatClampNeg) := by
  have hs := cntB_step (r := r) h0 ti
  rw [← e, if_neg c, Nat.add_zero] at hs
  rw [hs]; exact hw
theorem odds_1 {r : Nat → Int32} {w : Int64} {v : Int32} (e : w.toInt = v.toInt) (h : 1 ≤ v.toInt ∧ v.toInt ≤ 1000) : 0 ≤ w.toInt ∧ w.toInt ≤ 1000 * pw100 (cntB r (0 : Int32).toNatClampNeg) := by
  rw [show (0 : Int32).toNatClampNeg = 0 by decide]
  simp only [cntB, pw100]; omega
theorem odds_end {r : Nat → Int32} {w : Int64} {k : Nat} (h : 0 ≤ w.toInt ∧ w.toInt ≤ 1000 * pw100 (cntB r k)) (h6 : cntB r k ≤ 6) : 0 ≤ w.toInt ∧ w.toInt ≤ 1000000000000000 := by
  have := pw100_6 h6; omega
/-- how many stand up to i: at most six, as up to all -/
theorem cnt6 {r : Nat → Int32} {i : Int32} {n : Int} (h0 : 0 ≤ i.toInt) (h1 : i.toInt ≤ n) (h6 : cntB r n.toNat ≤ 6) : cntB r i.toNatClampNeg ≤ 6 :=
  Nat.le_trans (cntB_mono r (by have := cl_toInt h0; omega)) h6
/-! sums over the cells -/
def sumY (r : Nat → Int64) : Nat → Int | 0 => 0 | n + 1 => sumY r n + (r n).toInt
theorem sumY_cong {r r' : Nat → Int64} : ∀ {n : Nat}, (∀ k, k < n → r' k = r k) → sumY r' n = sumY r n
  | 0, _ => rfl
  | n + 1, h => by simp only [sumY]; rw [sumY_cong (fun k hk => h k (by omega)), h n (by omega)]
theorem sumY_upd {r : Nat → Int64} {i : Nat} {v : Int64} : ∀ {n : Nat}, i < n → sumY (vp_updL r i v) n = sumY r n - (r i).toInt + v.toInt
  | 0, h => absurd h (by omega)
  | n + 1, h => by
    simp only [sumY]
    by_cases e : i = n
    · subst e
      rw [pk_uLs, sumY_cong (r := r) (fun k hk => pk_uLn (by omega))]; omega
    · rw [pk_uLn (fun q => e q.symm), sumY_upd (by omega)]; omega
theorem sumY_part {r : Nat → Int64} : ∀ {n : Nat}, (∀ k, k < n → 0 ≤ (r k).toInt) → ∀ i, i < n → (r i).toInt ≤ sumY r n ∧ 0 ≤ sumY r n
  | 0, _, i, h => absurd h (by omega)
  | n + 1, hp, i, h => by
    simp only [sumY]
    have h0 := hp n (by omega)
    by_cases e : i = n
    · subst e
      rcases Nat.eq_zero_or_pos i with q | q
      · subst q; simp only [sumY]; omega
      · have := (sumY_part (n := i) (fun k hk => hp k (by omega)) (i - 1) (by omega)).2; omega
    · have := sumY_part (n := n) (fun k hk => hp k (by omega)) i (by omega); omega
def cOK (r : Nat → Int64) (B : Int) : Prop := (∀ k, k < 64 → 0 ≤ (r k).toInt) ∧ sumY r 64 ≤ B
theorem sumY_0 {r : Nat → Int64} : ∀ {n : Nat}, (∀ k, k < n → r k = 0) → sumY r n = 0
  | 0, _ => rfl
  | n + 1, h => by simp only [sumY]; rw [sumY_0 (fun k hk => h k (by omega)), h n (by omega)]; decide
theorem cOK_0 {r : Nat → Int64} (h : ∀ k, k < 64 → r k = 0) : cOK r 0 := ⟨fun k hk => by rw [h k hk]; decide, by rw [sumY_0 h]; exact Int.le_refl _⟩
theorem cOK_add {r r' : Nat → Int64} {B : Int} {x : Int32} {a b w : Int64} (h : cOK r B) (hx : 0 ≤ x.toInt ∧ x.toInt < 64) (ea : a = r x.toNatClampNeg) (eb : b = a + w) (hw : 0 ≤ w.toInt ∧ w.toInt ≤ 1000000000000000) (er : r' = vp_updL r x.toNatClampNeg b) (hB : 0 ≤ B ∧ B ≤ 40000000000000000) : cOK r' (B + 1000000000000000) := by
  have hcl := cl_toInt hx.1
  have hp := sumY_part h.1 x.toNatClampNeg (by omega)
  have ha := h.1 x.toNatClampNeg (by omega)
  have hb : b.toInt = a.toInt + w.toInt := lAdd eb rfl rfl (by rw [ea]; have := h.2; omega) (by rw [ea]; have := h.2; omega)
  have h2 := h.2
  subst er
  refine ⟨fun k hk => ?_, ?_⟩
  · by_cases e : k = x.toNatClampNeg
    · rw [e, pk_uLs, hb, ea]; omega
    · rw [pk_uLn e]; exact h.1 k hk
  · rw [sumY_upd (by omega), hb, ea]; omega
theorem cOK_le {r : Nat → Int64} {B B' : Int} (h : cOK r B) (hb : B ≤ B') : cOK r B' := ⟨h.1, Int.le_trans h.2 hb⟩
theorem zero_s {y z : Nat → Nat → Int64} {a : Nat} {k k' : Int32} (h : ∀ i : Nat, (i : Int) < k.toInt → y a i = 0) (c : z = va_up y a (vp_updL (y a) k.toNatClampNeg 0)) (h0 : 0 ≤ k.toInt) (t : k'.toInt = k.toInt + 1) : ∀ i : Nat, (i : Int) < k'.toInt → z a i = 0 := by
  intro i hi
  have := cl_toInt h0
  rw [c, vu_s]
  by_cases e : i = k.toNatClampNeg
  · rw [e, pk_uLs]
  · rw [pk_uLn e]; exact h i (by omega)
