
/-! ===== the split of effort, purely ===== -/
def mxF (f : Nat → Int) : Nat → Int
  | 0 => f 0
  | n + 1 => if mxF f n < f (n + 1) then f (n + 1) else mxF f n
theorem mx_ge {f : Nat → Int} : ∀ {n e : Nat}, e ≤ n → f e ≤ mxF f n
  | 0, e, h => by rw [show e = 0 by omega]; exact Int.le_refl _
  | n + 1, e, h => by
    simp only [mxF]
    by_cases q : e = n + 1
    · subst q; split <;> omega
    · have := mx_ge (f := f) (n := n) (e := e) (by omega)
      split <;> omega
theorem mx_at {f : Nat → Int} : ∀ n, ∃ e, e ≤ n ∧ mxF f n = f e
  | 0 => ⟨0, Nat.le_refl _, rfl⟩
  | n + 1 => by
    simp only [mxF]
    split
    · exact ⟨n + 1, Nat.le_refl _, rfl⟩
    · obtain ⟨e, h, g⟩ := mx_at (f := f) n
      exact ⟨e, by omega, g⟩
theorem mx_le {f : Nat → Int} {n : Nat} {b : Int} (h : ∀ e, e ≤ n → f e ≤ b) : mxF f n ≤ b := by
  obtain ⟨e, h1, h2⟩ := mx_at (f := f) n
  rw [h2]; exact h e h1
def mi20 (n : Nat) : Nat := if n ≤ 20 then n else 20
theorem mi20_b {n e : Nat} : e ≤ mi20 n ↔ e ≤ n ∧ e ≤ 20 := by unfold mi20; split <;> omega
/-- the most that k cells show by effort n: o k the odds of the cell before the last k -/
def val (o g : Nat → Int) : Nat → Nat → Int
  | 0, _ => 0
  | k + 1, n => mxF (fun e => o k * g e + val o g k (n - e)) (mi20 n)
section VAL
variable {o g : Nat → Int}
def gOK (g : Nat → Int) : Prop := g 0 = 0 ∧ (∀ e, e ≤ 20 → 0 ≤ g e ∧ g e ≤ 100) ∧ ∀ d e, d ≤ e → e ≤ 20 → g d ≤ g e
theorem val_mo (ho : ∀ k, 0 ≤ o k) (hg : gOK g) : ∀ k n m, n ≤ m → val o g k n ≤ val o g k m
  | 0, _, _, _ => Int.le_refl _
  | k + 1, n, m, h => by
    simp only [val]
    refine mx_le (fun e he => ?_)
    have b := mi20_b.mp he
    have i := val_mo ho hg k (n - e) (m - e) (by omega)
    have z := mx_ge (f := fun e => o k * g e + val o g k (m - e)) (n := mi20 m) (e := e) (mi20_b.mpr (by omega))
    have z : o k * g e + val o g k (m - e) ≤ _ := z
    omega
theorem val_nn (ho : ∀ k, 0 ≤ o k) (hg : gOK g) : ∀ k n, 0 ≤ val o g k n
  | 0, _ => Int.le_refl _
  | k + 1, n => by
    simp only [val]
    have z := mx_ge (f := fun e => o k * g e + val o g k (n - e)) (n := mi20 n) (e := 0) (Nat.zero_le _)
    have z : o k * g 0 + val o g k (n - 0) ≤ _ := z
    have i := val_nn ho hg k (n - 0)
    rw [hg.1, Int.mul_zero] at z
    omega
theorem val_ge {k n e : Nat} (h : e ≤ n) (h20 : e ≤ 20) : o k * g e + val o g k (n - e) ≤ val o g (k + 1) n := by
  simp only [val]
  exact mx_ge (f := fun e => o k * g e + val o g k (n - e)) (mi20_b.mpr ⟨h, h20⟩)
theorem val_at (k n : Nat) : ∃ e, e ≤ n ∧ e ≤ 20 ∧ val o g (k + 1) n = o k * g e + val o g k (n - e) := by
  obtain ⟨e, h1, h2⟩ := mx_at (f := fun e => o k * g e + val o g k (n - e)) (mi20 n)
  have b := mi20_b.mp h1
  exact ⟨e, b.1, b.2, h2⟩
/-- a cell without odds shows nothing -/
theorem val_0 (ho : ∀ k, 0 ≤ o k) (hg : gOK g) {k n : Nat} (h0 : o k = 0) : val o g (k + 1) n = val o g k n := by
  obtain ⟨e, h1, h2, h3⟩ := val_at (o := o) (g := g) k n
  have a := val_ge (o := o) (g := g) (k := k) (n := n) (e := 0) (Nat.zero_le _) (by decide)
  have m := val_mo ho hg k (n - e) n (by omega)
  rw [h0, Int.zero_mul] at h3
  rw [h0, Int.zero_mul, Nat.sub_zero] at a
  omega
theorem val_b (ho : ∀ k, 0 ≤ o k) (hg : gOK g) (s : Nat → Int) (hs : ∀ k, s (k + 1) = s k + o k) (h0 : s 0 = 0) : ∀ k n, val o g k n ≤ 100 * s k
  | 0, _ => by rw [h0]; exact Int.le_refl _
  | k + 1, n => by
    obtain ⟨e, h1, h2, h3⟩ := val_at (o := o) (g := g) k n
    have i := val_b ho hg s hs h0 k (n - e)
    have b := hg.2.1 e h2
    have m : o k * g e ≤ o k * 100 := Int.mul_le_mul_of_nonneg_left b.2 (ho k)
    rw [h3, hs]; omega
end VAL
/-! the least effort that does as much -/
def lsF (F : Nat → Int) : Nat → Nat
  | 0 => 0
  | n + 1 => if F (n + 1) = F n then lsF F n else n + 1
section LSF
variable {F : Nat → Int}
theorem ls_le : ∀ n, lsF F n ≤ n
  | 0 => Nat.le_refl _
  | n + 1 => by simp only [lsF]; have := ls_le n; split <;> omega
theorem ls_v : ∀ n, F (lsF F n) = F n
  | 0 => rfl
  | n + 1 => by
    simp only [lsF]
    split
    · rename_i h; rw [ls_v n, h]
    · rfl
theorem ls_min (hm : ∀ n m, n ≤ m → F n ≤ F m) : ∀ n m, m ≤ n → F m = F n → lsF F n ≤ m
  | 0, m, h, _ => by simp only [lsF]; omega
  | n + 1, m, h, e => by
    simp only [lsF]
    split
    · rename_i q
      by_cases z : m = n + 1
      · have := ls_le (F := F) n; omega
      · exact ls_min hm n m (by omega) (by rw [e, q])
    · rename_i q
      by_cases z : m = n + 1
      · omega
      · have a := hm m n (by omega)
        have b := hm n (n + 1) (by omega)
        omega
theorem ls_eq (hm : ∀ n m, n ≤ m → F n ≤ F m) {n m : Nat} (h : m ≤ n) (e : F m = F n) : lsF F m = lsF F n := by
  have a := ls_min hm n (lsF F m) (by have := ls_le (F := F) m; omega) ((ls_v m).trans e)
  have l := ls_le (F := F) n
  have b : lsF F m ≤ lsF F n := by
    by_cases q : lsF F n ≤ m
    · exact ls_min hm m (lsF F n) q ((ls_v n).trans e.symm)
    · have := ls_le (F := F) m; omega
  omega
end LSF
/-! the model's choice at a cell: the most, then the least effort -/
section CHO
variable {o g : Nat → Int} {k n : Nat}
/-- what an effort e at the cell shows, and uses with what lies behind -/
def chV (o g : Nat → Int) (k n e : Nat) : Int := o k * g e + val o g k (n - e)
def chU (o g : Nat → Int) (k n e : Nat) : Nat := e + lsF (val o g k) (n - e)
/-- best of the efforts below j -/
def chB (o g : Nat → Int) (k n j : Nat) (b : Int) (u : Nat) : Prop := (j = 0 ∧ b = -1 ∧ u = 0) ∨ (1 ≤ j ∧ (∀ e, e < j → chV o g k n e ≤ b) ∧ (∃ e, e < j ∧ chV o g k n e = b ∧ chU o g k n e = u) ∧ ∀ e, e < j → chV o g k n e = b → u ≤ chU o g k n e)
theorem chB_y {j : Nat} {b v : Int} {u w : Nat} (hv0 : 0 ≤ v) (h : chB o g k n j b u) (ev : v = chV o g k n j) (ew : w = chU o g k n j) (hb : b < v ∨ (v = b ∧ w < u)) : chB o g k n (j + 1) v w := by
  refine Or.inr ⟨by omega, fun e he => ?_, ⟨j, by omega, ev.symm, ew.symm⟩, fun e he q => ?_⟩
  · by_cases z : e = j
    · subst z; omega
    · rcases h with ⟨a, _, _⟩ | ⟨_, a, _⟩
      · omega
      · have := a e (by omega); omega
  · by_cases z : e = j
    · subst z; omega
    · rcases h with ⟨a, _, _⟩ | ⟨_, a, _, c⟩
      · omega
      · have a1 := a e (by omega)
        rcases hb with hb | ⟨hb, hw⟩
        · omega
        · have := c e (by omega) (by omega); omega
theorem chB_n {j : Nat} {b v : Int} {u w : Nat} (h : chB o g k n j b u) (hv0 : 0 ≤ v) (ev : v = chV o g k n j) (ew : w = chU o g k n j) (hb : v < b ∨ (v = b ∧ u ≤ w)) : chB o g k n (j + 1) b u := by
  rcases h with ⟨a, a2, a3⟩ | ⟨a, c, d, f⟩
  · omega
  · obtain ⟨e0, d1, d2, d3⟩ := d
    refine Or.inr ⟨by omega, fun e he => ?_, ⟨e0, by omega, d2, d3⟩, fun e he q => ?_⟩
    · by_cases z : e = j
      · subst z; omega
      · exact c e (by omega)
    · by_cases z : e = j
      · subst z; omega
      · exact f e (by omega) q
theorem chB_e (ho : ∀ k, 0 ≤ o k) (hg : gOK g) {j : Nat} {b : Int} {u : Nat} (h : chB o g k n j b u) (hj : ∀ e, e < j ↔ e ≤ n ∧ e ≤ 20) : b = val o g (k + 1) n ∧ u = lsF (val o g (k + 1)) n := by
  have j0 : 0 < j := (hj 0).mpr ⟨Nat.zero_le _, by decide⟩
  have mk := val_mo ho hg k
  have mk1 := val_mo ho hg (k + 1)
  rcases h with ⟨a, _, _⟩ | ⟨_, c, ⟨e0, d1, d2, d3⟩, f⟩
  · omega
  · have z0 := (hj e0).mp d1
    have hb : b = val o g (k + 1) n := by
      obtain ⟨e, e1, e2, e3⟩ := val_at (o := o) (g := g) k n
      have x := c e ((hj e).mpr ⟨e1, e2⟩)
      have y := val_ge (o := o) (g := g) (k := k) z0.1 z0.2
      unfold chV at x d2
      omega
    refine ⟨hb, ?_⟩
    have lb : lsF (val o g (k + 1)) n ≤ u := by
      have l := ls_le (F := val o g k) (n - e0)
      refine ls_min mk1 n u ?_ ?_
      · unfold chU at d3; omega
      · have y := val_ge (o := o) (g := g) (k := k) (n := u) (e := e0) (by unfold chU at d3; omega) z0.2
        have v1 := ls_v (F := val o g k) (n - e0)
        have eu : u - e0 = lsF (val o g k) (n - e0) := by unfold chU at d3; omega
        rw [eu, v1] at y
        have m1 := mk1 u n (by unfold chU at d3; omega)
        unfold chV at d2
        omega
    have ub : u ≤ lsF (val o g (k + 1)) n := by
      obtain ⟨e, e1, e2, e3⟩ := val_at (o := o) (g := g) k (lsF (val o g (k + 1)) n)
      have l := ls_le (F := val o g (k + 1)) n
      rw [ls_v (F := val o g (k + 1)) n] at e3
      have m1 := mk (lsF (val o g (k + 1)) n - e) (n - e) (by omega)
      have y := val_ge (o := o) (g := g) (k := k) (n := n) (e := e) (by omega) e2
      have ve : chV o g k n e = b := by unfold chV; omega
      have x := f e ((hj e).mpr ⟨by omega, e2⟩) ve
      have q : val o g k (lsF (val o g (k + 1)) n - e) = val o g k (n - e) := by unfold chV at ve; omega
      have s := ls_eq mk (by omega) q
      have t := ls_le (F := val o g k) (lsF (val o g (k + 1)) n - e)
      unfold chU at x
      omega
    omega
/-- the effort that the model gives a cell: the least that keeps value and use -/
def gvM (o g : Nat → Int) (k n e : Nat) : Prop := chV o g k n e = val o g (k + 1) n ∧ chU o g k n e = lsF (val o g (k + 1)) n
/-- that which the class gives, with the least effort R that does as much -/
def gvC (o g : Nat → Int) (k R e : Nat) : Prop := chV o g k R e = val o g (k + 1) R
theorem gv_mc (ho : ∀ k, 0 ≤ o k) (hg : gOK g) {e : Nat} (h : gvM o g k n e) (he : e ≤ n) : gvC o g k (lsF (val o g (k + 1)) n) e ∧ e ≤ lsF (val o g (k + 1)) n ∧ lsF (val o g (k + 1)) n - e = lsF (val o g k) (n - e) := by
  obtain ⟨a, b⟩ := h
  unfold chU at b
  unfold chV at a
  have eu : lsF (val o g (k + 1)) n - e = lsF (val o g k) (n - e) := by omega
  refine ⟨?_, by omega, eu⟩
  unfold gvC chV
  rw [eu, ls_v (F := val o g k) (n - e), ls_v (F := val o g (k + 1)) n]; exact a
theorem gv_cm (ho : ∀ k, 0 ≤ o k) (hg : gOK g) {e : Nat} (h : gvC o g k (lsF (val o g (k + 1)) n) e) (he : e ≤ lsF (val o g (k + 1)) n) (h20 : e ≤ 20) : gvM o g k n e := by
  have mk := val_mo ho hg k
  have mk1 := val_mo ho hg (k + 1)
  have l := ls_le (F := val o g (k + 1)) n
  unfold gvC chV at h
  rw [ls_v (F := val o g (k + 1)) n] at h
  have m1 := mk (lsF (val o g (k + 1)) n - e) (n - e) (by omega)
  have y := val_ge (o := o) (g := g) (k := k) (n := n) (e := e) (by omega) h20
  have q : val o g k (lsF (val o g (k + 1)) n - e) = val o g k (n - e) := by omega
  have s := ls_eq mk (by omega) q
  have t := ls_le (F := val o g k) (lsF (val o g (k + 1)) n - e)
  have ve : chV o g k n e = val o g (k + 1) n := by unfold chV; omega
  refine ⟨ve, ?_⟩
  have ub : chU o g k n e ≤ lsF (val o g (k + 1)) n := by unfold chU; omega
  have lb : lsF (val o g (k + 1)) n ≤ chU o g k n e := by
    refine ls_min mk1 n _ (by omega) ?_
    have y2 := val_ge (o := o) (g := g) (k := k) (n := chU o g k n e) (e := e) (by unfold chU; omega) h20
    have v1 := ls_v (F := val o g k) (n - e)
    have eu : chU o g k n e - e = lsF (val o g k) (n - e) := by unfold chU; omega
    rw [eu, v1] at y2
    have m2 := mk1 (chU o g k n e) n (by omega)
    unfold chV at ve
    omega
  omega
end CHO
/-! ===== the cells that have something to show; the steps; the path ===== -/
def ctP (r : Nat → Int64) : Nat → Nat
  | 0 => 0
  | n + 1 => ctP r n + if 0 < (r n).toInt then 1 else 0
theorem ct_mo {r : Nat → Int64} : ∀ {n m : Nat}, n ≤ m → ctP r n ≤ ctP r m
  | n, 0, h => by rw [show n = 0 by omega]; exact Nat.le_refl _
  | n, m + 1, h => by
    by_cases q : n = m + 1
    · rw [q]; exact Nat.le_refl _
    · have i := ct_mo (r := r) (n := n) (m := m) (by omega)
      simp only [ctP]; omega
theorem ct_le {r : Nat → Int64} : ∀ n, ctP r n ≤ n
  | 0 => Nat.le_refl _
  | n + 1 => by have i := ct_le (r := r) n; simp only [ctP]; split <;> omega
theorem ct_cg {r s : Nat → Int64} : ∀ {n : Nat}, (∀ k, k < n → r k = s k) → ctP r n = ctP s n
  | 0, _ => rfl
  | n + 1, h => by simp only [ctP]; rw [ct_cg (fun k hk => h k (by omega)), h n (by omega)]
/-- one cell changed: at most one more -/
theorem ct_one {r s : Nat → Int64} {c : Nat} (h : ∀ k, k ≠ c → s k = r k) : ∀ n, ctP s n ≤ ctP r n + (if c < n then 1 else 0)
  | 0 => by simp only [ctP]; omega
  | n + 1 => by
    have i := ct_one h n
    simp only [ctP]
    by_cases q : n = c
    · subst q
      rw [if_neg (show ¬ n < n by omega)] at i
      rw [if_pos (show n < n + 1 by omega)]
      split <;> split <;> omega
    · rw [h n q]
      by_cases z : c < n
      · rw [if_pos z] at i; rw [if_pos (show c < n + 1 by omega)]; split <;> omega
      · rw [if_neg z] at i; rw [if_neg (show ¬ c < n + 1 by omega)]; split <;> omega
theorem ct_sb {C : Nat → Nat → Int32} {tl : Nat → TP} {O : Nat → Int64} {t : Nat} {z : Int32} : ∀ n, ctP (sbF C tl O t z n) 64 ≤ n
  | 0 => by
    have h : ∀ n, ctP (fun _ => (0 : Int64)) n = 0 := fun n => by
      induction n with
      | zero => rfl
      | succ n ih => simp only [ctP]; rw [ih, if_neg (by decide)]
    show ctP (fun _ => (0 : Int64)) 64 ≤ 0
    rw [h]; exact Nat.le_refl _
  | n + 1 => by
    have i := ct_sb (C := C) (tl := tl) (O := O) (t := t) (z := z) n
    have j := ct_one (r := sbF C tl O t z n) (s := sbF C tl O t z (n + 1)) (c := (cellZ (drA C (tl n) t).1 (drA C (tl n) t).2.1).toNatClampNeg) (fun k hk => by simp only [sbF]; rw [if_neg (fun q => hk q.2)]) 64
    have k : (if (cellZ (drA C (tl n) t).1 (drA C (tl n) t).2.1).toNatClampNeg < 64 then 1 else 0) ≤ 1 := by split <;> omega
    omega
/-- the odds of the cell before the last k -/
def oOf (r : Nat → Int64) (k : Nat) : Int := if k < 64 then (r (63 - k)).toInt else 0
/-- cells without odds between d and c change nothing -/
theorem val_gap {r : Nat → Int64} {g : Nat → Int} (ho : ∀ k, 0 ≤ oOf r k) (hg : gOK g) {n : Nat} : ∀ j d, d + j ≤ 64 → ctP r (d + j) = ctP r d → val (oOf r) g (64 - d) n = val (oOf r) g (64 - (d + j)) n
  | 0, d, _, _ => rfl
  | j + 1, d, h, e => by
    have m1 := ct_mo (r := r) (n := d) (m := d + j) (by omega)
    have m2 := ct_mo (r := r) (n := d + j) (m := d + (j + 1)) (by omega)
    have i := val_gap ho hg (n := n) j d (by omega) (by omega)
    have s : ctP r (d + j + 1) = ctP r (d + j) + if 0 < (r (d + j)).toInt then 1 else 0 := rfl
    have z : ¬ 0 < (r (d + j)).toInt := fun q => by rw [if_pos q] at s; rw [show d + (j + 1) = d + j + 1 by omega] at e; omega
    have o0 : oOf r (63 - (d + j)) = 0 := by
      have p := ho (63 - (d + j))
      unfold oOf at *
      rw [if_pos (by omega), show 63 - (63 - (d + j)) = d + j by omega] at p ⊢
      omega
    rw [i, show 64 - (d + j) = (63 - (d + j)) + 1 by omega, val_0 ho hg o0, show 64 - (d + (j + 1)) = 63 - (d + j) by omega]
/-- the class's row of the most, from index i on -/
def moT (r : Nat → Int64) (g : Nat → Int) (eff : Nat) (m : Nat → Int64) (i : Nat) : Prop := ∀ c, c ≤ 64 → i ≤ ctP r c → ∀ n, n ≤ eff → (m (41 * ctP r c + n)).toInt = val (oOf r) g (64 - c) n
/-- the steps: efforts that show more than all less -/
def stT (g : Nat → Int) (st fd : Nat → Int32) (sc : Nat) (v : Nat) : Prop := (1 ≤ sc ∧ sc ≤ v) ∧ st 0 = 0 ∧ (∀ j, j < sc → (0 ≤ (st j).toInt ∧ (st j).toInt < (v : Int) ∧ (st j).toInt ≤ 20) ∧ (fd j).toInt = g (st j).toNatClampNeg) ∧ (∀ i j, i < j → j < sc → (st i).toInt < (st j).toInt) ∧ ∀ e, e < v → e ≤ 20 → ∃ j, j < sc ∧ (st j).toInt ≤ (e : Int) ∧ g (st j).toNatClampNeg = g e
/-- best of the steps below j -/
def stB (o g : Nat → Int) (k n : Nat) (st : Nat → Int32) (j : Nat) (t : Int) : Prop := 0 ≤ t ∧ (t = 0 ∨ ∃ i, i < j ∧ t = chV o g k n (st i).toNatClampNeg ∧ (st i).toInt ≤ (n : Int) ∧ (st i).toInt ≤ 20 ∧ 0 ≤ (st i).toInt) ∧ (∀ i, i < j → chV o g k n (st i).toNatClampNeg ≤ t)
theorem stB_e {o g : Nat → Int} {k n j sc : Nat} {st fd : Nat → Int32} {t : Int} (ho : ∀ k, 0 ≤ o k) (hg : gOK g) (hT : stT g st fd sc 21) (h : stB o g k n st j t) (hj : j ≤ sc) (hend : j = sc ∨ (j < sc ∧ (n : Int) < (st j).toInt)) : t = val o g (k + 1) n := by
  obtain ⟨h0, h1, h2⟩ := h
  have ub : t ≤ val o g (k + 1) n := by
    rcases h1 with h1 | ⟨i, i1, i2, i3, i4, i5⟩
    · rw [h1]; exact val_nn ho hg _ _
    · have c := cl_toInt i5
      rw [i2]; exact val_ge (by omega) (by omega)
  have lb : val o g (k + 1) n ≤ t := by
    obtain ⟨e, e1, e2, e3⟩ := val_at (o := o) (g := g) k n
    obtain ⟨i, i1, i2, i3⟩ := hT.2.2.2.2 e (by omega) e2
    have w := (hT.2.2.1 i i1).1
    have c := cl_toInt w.1
    have ij : i < j := by
      rcases hend with q | q
      · omega
      · by_cases z : i < j
        · exact z
        · by_cases y : i = j
          · subst y; omega
          · have := hT.2.2.2.1 j i (by omega) i1; omega
    have x := h2 i ij
    have m := val_mo ho hg k (n - e) (n - (st i).toNatClampNeg) (by omega)
    unfold chV at x
    rw [i3] at x
    omega
  omega
/-! the path over the cells -/
def lsM (o g : Nat → Int) (k n e : Nat) : Prop := gvM o g k n e ∧ e ≤ n ∧ e ≤ 20 ∧ ∀ d, d < e → ¬ gvM o g k n d
theorem lsM_u {o g : Nat → Int} {k n d e : Nat} (h : lsM o g k n d) (i : lsM o g k n e) : d = e := by
  rcases Nat.lt_trichotomy d e with q | q | q
  · exact absurd h.1 (i.2.2.2 d q)
  · exact q
  · exact absurd i.1 (h.2.2.2 e q)
def pth (o g : Nat → Int) (n : Nat) : Nat → Nat → Prop
  | 0, L => L = n
  | c + 1, L => ∃ M e, pth o g n c M ∧ lsM o g (63 - c) M e ∧ L = M - e
theorem pth_u {o g : Nat → Int} {n : Nat} : ∀ {c L M : Nat}, pth o g n c L → pth o g n c M → L = M
  | 0, _, _, h, i => h.trans i.symm
  | c + 1, _, _, ⟨A, d, a1, a2, a3⟩, ⟨B, e, b1, b2, b3⟩ => by
    have q := pth_u a1 b1
    subst q
    have z := lsM_u a2 b2
    subst z
    rw [a3, b3]
/-- what a cell gets -/
def gets (o g : Nat → Int) (n c e : Nat) : Prop := ∃ L, pth o g n c L ∧ lsM o g (63 - c) L e
theorem gets_u {o g : Nat → Int} {n c d e : Nat} (h : gets o g n c d) (i : gets o g n c e) : d = e := by
  obtain ⟨L, a, b⟩ := h
  obtain ⟨M, x, y⟩ := i
  have q := pth_u a x
  subst q
  exact lsM_u b y
/-- a cell without odds gets nothing -/
theorem lsM_0 {o g : Nat → Int} (ho : ∀ k, 0 ≤ o k) (hg : gOK g) {k n : Nat} (h0 : o k = 0) : lsM o g k n 0 := by
  have e : val o g (k + 1) = val o g k := funext (fun m => val_0 ho hg h0)
  refine ⟨⟨?_, ?_⟩, Nat.zero_le _, by omega, fun d hd => absurd hd (Nat.not_lt_zero _)⟩
  · unfold chV; rw [h0, Int.zero_mul, e, Nat.sub_zero]; omega
  · unfold chU; rw [e, Nat.sub_zero, Nat.zero_add]
/-! ===== the split's rows, and what they hold ===== -/
theorem ne_len {S : Pl} {a b x y : Nat} (h : pN S a = x) (g : pN S b = y) (n : x ≠ y) : a ≠ b := fun e => n (by rw [← h, e, g])
theorem oOf_at {r : Nat → Int64} {c : Nat} (h : c < 64) : oOf r (63 - c) = (r c).toInt := by
  unfold oOf; rw [if_pos (by omega), show 63 - (63 - c) = c by omega]
theorem oOf_nn {r : Nat → Int64} {B : Int} (h : cOK r B) : ∀ k, 0 ≤ oOf r k := fun k => by
  unfold oOf
  by_cases q : k < 64
  · rw [if_pos q]; exact h.1 _ (by omega)
  · rw [if_neg q]; exact Int.le_refl _
theorem oOf_cg {r s : Nat → Int64} (h : ∀ k, k < 64 → r k = s k) : oOf r = oOf s := funext (fun k => by
  unfold oOf
  by_cases q : k < 64
  · rw [if_pos q, if_pos q, h _ (by omega)]
  · rw [if_neg q, if_neg q])
def sOf (r : Nat → Int64) (k : Nat) : Int := if k ≤ 64 then sumY r 64 - sumY r (64 - k) else sumY r 64
theorem sOf_s (r : Nat → Int64) : ∀ k, sOf r (k + 1) = sOf r k + oOf r k := fun k => by
  unfold sOf oOf
  by_cases q : k < 64
  · have e : sumY r (63 - k + 1) = sumY r (63 - k) + (r (63 - k)).toInt := rfl
    rw [if_pos (show k + 1 ≤ 64 by omega), if_pos (show k ≤ 64 by omega), if_pos q, show 64 - (k + 1) = 63 - k by omega, show 64 - k = 63 - k + 1 by omega, e]
    omega
  · rw [if_neg (show ¬ k + 1 ≤ 64 by omega), if_neg q]
    have z0 : sumY r 0 = 0 := rfl
    by_cases z : k ≤ 64
    · rw [if_pos z, show 64 - k = 0 by omega, z0]; omega
    · rw [if_neg z]; omega
theorem val_c {r : Nat → Int64} {g : Nat → Int} (h : cOK r 40000000000000000) (hg : gOK g) (k n : Nat) : 0 ≤ val (oOf r) g k n ∧ val (oOf r) g k n ≤ 4000000000000000000 := by
  have z0 : sumY r 0 = 0 := rfl
  have a := val_nn (oOf_nn h) hg k n
  have b := val_b (oOf_nn h) hg (sOf r) (sOf_s r) (by unfold sOf; rw [if_pos (Nat.zero_le _), Nat.sub_zero]; omega) k n
  have c : sOf r k ≤ sumY r 64 := by
    unfold sOf
    by_cases q : k ≤ 64
    · rw [if_pos q]; have := sumY_mono h.1 0 (64 - k) (Nat.zero_le _) (by omega); omega
    · rw [if_neg q]; exact Int.le_refl _
  have := h.2
  omega
theorem chV_c {r : Nat → Int64} {g : Nat → Int} (h : cOK r 40000000000000000) (hg : gOK g) {k n e : Nat} (he : e ≤ n) (h20 : e ≤ 20) : (0 ≤ oOf r k * g e ∧ 0 ≤ val (oOf r) g k (n - e)) ∧ oOf r k * g e + val (oOf r) g k (n - e) ≤ 4000000000000000000 :=
  ⟨⟨Int.mul_nonneg (oOf_nn h k) (hg.2.1 e h20).1, (val_c h hg k _).1⟩, Int.le_trans (val_ge he h20) (val_c h hg (k + 1) n).2⟩
/-! which cells -/
theorem ct_at {r : Nat → Int64} : ∀ (n i : Nat), i < ctP r n → ∃ c, c < n ∧ ctP r c = i ∧ 0 < (r c).toInt
  | 0, i, h => absurd h (Nat.not_lt_zero _)
  | n + 1, i, h => by
    by_cases q : i < ctP r n
    · obtain ⟨c, a, b⟩ := ct_at n i q
      exact ⟨c, by omega, b⟩
    · simp only [ctP] at h
      by_cases z : 0 < (r n).toInt
      · rw [if_pos z] at h; exact ⟨n, by omega, by omega, z⟩
      · rw [if_neg z] at h; omega
theorem ct_y {r : Nat → Int64} {n : Nat} (h : 0 < (r n).toInt) : ctP r (n + 1) = ctP r n + 1 := by simp only [ctP]; rw [if_pos h]
theorem ct_n {r : Nat → Int64} {n : Nat} (h : ¬ 0 < (r n).toInt) : ctP r (n + 1) = ctP r n := by simp only [ctP]; rw [if_neg h]; rfl
theorem ct_lt {r : Nat → Int64} {c n : Nat} (h : 0 < (r c).toInt) (hc : c < n) : ctP r c < ctP r n := by
  have a := ct_y h
  have b := ct_mo (r := r) (n := c + 1) (m := n) (by omega)
  omega
def lcT (r : Nat → Int64) (c : Nat) (k : Int) (cl : Nat → Int32) (ow : Nat → Int64) : Prop := k = (ctP r c : Int) ∧ ∀ d, d < c → 0 < (r d).toInt → (cl (ctP r d)).toInt = (d : Int) ∧ ow (ctP r d) = r d
theorem lcT_0 {r : Nat → Int64} {cl : Nat → Int32} {ow : Nat → Int64} {k : Int} (h : k = 0) : lcT r (0 : Int32).toNatClampNeg k cl ow := by
  rw [show (0 : Int32).toNatClampNeg = 0 by decide]
  exact ⟨h, fun d hd => absurd hd (Nat.not_lt_zero _)⟩
theorem lcT_y {r : Nat → Int64} {cl cl' : Nat → Int32} {ow ow' : Nat → Int64} {K j j' : Int32} {k' : Int} {u v : Int64} (h : lcT r j.toNatClampNeg K.toInt cl ow) (hj : 0 ≤ j.toInt) (tj : j'.toInt = j.toInt + 1) (tk : k' = K.toInt + 1) (hu : u = r j.toNatClampNeg) (hp : 0 < u.toInt) (hv : v = r j.toNatClampNeg) (ec : cl' = upd cl K.toNatClampNeg j) (eo : ow' = vp_updL ow K.toNatClampNeg v) : lcT r j'.toNatClampNeg k' cl' ow' := by
  have c1 := cl_toInt hj
  have c2 := cl_toInt (x := j') (by omega)
  rw [hu] at hp
  obtain ⟨a, b⟩ := h
  have c3 := cl_toInt (x := K) (by omega)
  have eK : K.toNatClampNeg = ctP r j.toNatClampNeg := by omega
  rw [show j'.toNatClampNeg = j.toNatClampNeg + 1 by omega]
  refine ⟨by rw [ct_y hp]; omega, fun d hd hq => ?_⟩
  by_cases z : d = j.toNatClampNeg
  · subst z
    rw [ec, eo, eK, pk_us, pk_uLs]
    exact ⟨c1.symm, hv⟩
  · have l := ct_lt hq (show d < j.toNatClampNeg by omega)
    rw [ec, eo, eK, pk_un (by omega), pk_uLn (by omega)]
    exact b d (by omega) hq
theorem lcT_n {r : Nat → Int64} {cl : Nat → Int32} {ow : Nat → Int64} {j j' : Int32} {k : Int} {u : Int64} (h : lcT r j.toNatClampNeg k cl ow) (hj : 0 ≤ j.toInt) (tj : j'.toInt = j.toInt + 1) (hu : u = r j.toNatClampNeg) (hp : ¬ 0 < u.toInt) : lcT r j'.toNatClampNeg k cl ow := by
  have c1 := cl_toInt hj
  have c2 := cl_toInt (x := j') (by omega)
  rw [hu] at hp
  obtain ⟨a, b⟩ := h
  rw [show j'.toNatClampNeg = j.toNatClampNeg + 1 by omega]
  refine ⟨by rw [ct_n hp]; exact a, fun d hd hq => b d ?_ hq⟩
  by_cases z : d = j.toNatClampNeg
  · subst z; exact absurd hq hp
  · omega
theorem lcT_e {r : Nat → Int64} {cl : Nat → Int32} {ow : Nat → Int64} {c : Nat} {k : Int} (h : lcT r c k cl ow) (hc : c ≤ 64) (h40 : ctP r 64 ≤ 40) (he : c = 64 ∨ 40 ≤ k) : lcT r 64 k cl ow := by
  rcases he with e | e
  · rw [← e]; exact h
  · have m := ct_mo (r := r) hc
    obtain ⟨a, b⟩ := h
    refine ⟨by omega, fun d hd hq => b d ?_ hq⟩
    by_cases z : d < c
    · exact z
    · have l := ct_lt hq hd
      have m2 := ct_mo (r := r) (n := c) (m := d) (by omega)
      omega
/-! the steps -/
theorem stT_1 {g : Nat → Int} {st fd : Nat → Int32} (hg : gOK g) (h0 : st 0 = 0) (hf : (fd 0).toInt = 0) : stT g st fd (1 : Int32).toNatClampNeg (1 : Int32).toNatClampNeg := by
  rw [show (1 : Int32).toNatClampNeg = 1 by decide]
  have t0 : (0 : Int32).toInt = 0 := by decide
  have n0 : (0 : Int32).toNatClampNeg = 0 := by decide
  refine ⟨⟨Nat.le_refl _, Nat.le_refl _⟩, h0, fun j hj => ?_, fun i j hi hj => by omega, fun e he _ => ⟨0, by omega, ?_, ?_⟩⟩
  · rw [show j = 0 by omega, h0, t0, n0, hf, hg.1]; omega
  · rw [h0, t0]; omega
  · rw [h0, n0, show e = 0 by omega]
theorem stT_y {g : Nat → Int} {st st' fd fd' : Nat → Int32} {K K' v v' sh : Int32} (h : stT g st fd K.toNatClampNeg v.toNatClampNeg) (hv : 1 ≤ v.toInt ∧ v.toInt ≤ 20) (hK : 1 ≤ K.toInt) (tk : K'.toInt = K.toInt + 1) (tv : v'.toInt = v.toInt + 1) (hs : sh.toInt = g v.toNatClampNeg) (es : st' = upd st K.toNatClampNeg v) (ef : fd' = upd fd K.toNatClampNeg sh) : stT g st' fd' K'.toNatClampNeg v'.toNatClampNeg := by
  have c1 := cl_toInt (x := K) (by omega)
  have c2 := cl_toInt (x := K') (by omega)
  have c3 := cl_toInt (x := v) (by omega)
  have c4 := cl_toInt (x := v') (by omega)
  obtain ⟨a, b, c, d, f⟩ := h
  rw [show K'.toNatClampNeg = K.toNatClampNeg + 1 by omega, show v'.toNatClampNeg = v.toNatClampNeg + 1 by omega, es, ef]
  generalize hk : K.toNatClampNeg = k at *
  have uo : ∀ j, j < k → upd st k v j = st j := fun j hj => pk_un (by omega)
  have uf : ∀ j, j < k → upd fd k sh j = fd j := fun j hj => pk_un (by omega)
  refine ⟨by omega, (uo 0 (by omega)).trans b, fun j hj => ?_, fun i j hi hj => ?_, fun e he h20 => ?_⟩
  · by_cases z : j = k
    · rw [z, pk_us, pk_us]; exact ⟨by omega, hs⟩
    · rw [uo j (by omega), uf j (by omega)]
      have y := c j (by omega)
      exact ⟨by omega, y.2⟩
  · by_cases z : j = k
    · rw [z, pk_us, uo i (by omega)]
      have y := (c i (by omega)).1
      omega
    · rw [uo i (by omega), uo j (by omega)]; exact d i j hi (by omega)
  · by_cases z : e = v.toNatClampNeg
    · exact ⟨k, by omega, by rw [pk_us]; omega, by rw [pk_us, z]⟩
    · obtain ⟨j, j1, j2, j3⟩ := f e (by omega) h20
      exact ⟨j, by omega, by rw [uo j j1]; exact j2, by rw [uo j j1]; exact j3⟩
theorem stT_n {g : Nat → Int} {st fd : Nat → Int32} {K L v v' sh w : Int32} (hg : gOK g) (h : stT g st fd K.toNatClampNeg v.toNatClampNeg) (hv : 1 ≤ v.toInt ∧ v.toInt ≤ 20) (hK : 1 ≤ K.toInt) (tL : L.toInt = K.toInt - 1) (tv : v'.toInt = v.toInt + 1) (hs : sh.toInt = g v.toNatClampNeg) (hw : w = fd L.toNatClampNeg) (hle : sh.toInt ≤ w.toInt) : stT g st fd K.toNatClampNeg v'.toNatClampNeg := by
  have c1 := cl_toInt (x := K) (by omega)
  have c2 := cl_toInt (x := L) (by omega)
  have c3 := cl_toInt (x := v) (by omega)
  have c4 := cl_toInt (x := v') (by omega)
  obtain ⟨a, b, c, d, f⟩ := h
  rw [show v'.toNatClampNeg = v.toNatClampNeg + 1 by omega]
  refine ⟨by omega, b, fun j hj => ?_, d, fun e he h20 => ?_⟩
  · have y := c j hj
    exact ⟨by omega, y.2⟩
  · by_cases z : e = v.toNatClampNeg
    · have y := c L.toNatClampNeg (by omega)
      have x := cl_toInt y.1.1
      have m := hg.2.2 (st L.toNatClampNeg).toNatClampNeg e (by omega) h20
      refine ⟨L.toNatClampNeg, by omega, by omega, ?_⟩
      rw [hw, y.2] at hle
      rw [z] at m ⊢
      omega
    · obtain ⟨j, j1, j2, j3⟩ := f e (by omega) h20
      exact ⟨j, j1, j2, j3⟩
theorem gs_v {v m : Int32} {x : Int} (e : v = 100 - m) (hm : 0 ≤ m.toInt ∧ m.toInt ≤ 100) (hx : x = 100 - m.toInt) : v.toInt = x := by
  rw [hx]; exact iSub e (by decide : (100 : Int32).toInt = 100) rfl (by omega) (by omega)
/-! what a step shows -/
theorem shB {r : Nat → Int64} {g : Nat → Int} {c n : Nat} {v5 v12 v13 v33 v34 : Int64} {v11 s : Int32} (h : cOK r 40000000000000000) (hg : gOK g) (hc : c < 64) (e5 : v5 = r c) (e11 : v11.toInt = g s.toNatClampNeg) (e12 : v12.toInt = v11.toInt) (e13 : v13 = v5 * v12) (hs : 0 ≤ s.toInt ∧ s.toInt ≤ 20 ∧ s.toInt ≤ (n : Int)) (e33 : v33.toInt = val (oOf r) g (63 - c) (n - s.toNatClampNeg)) (e34 : v34 = v13 + v33) : v34.toInt = chV (oOf r) g (63 - c) n s.toNatClampNeg := by
  have cs := cl_toInt hs.1
  have b := chV_c h hg (k := 63 - c) (n := n) (e := s.toNatClampNeg) (by omega) (by omega)
  rw [oOf_at hc] at b
  have m13 : v13.toInt = (r c).toInt * g s.toNatClampNeg := lMul e13 (congrArg Int64.toInt e5) (e12.trans e11) (by omega) (by omega)
  have m34 := lAdd e34 m13 e33 (by omega) (by omega)
  unfold chV
  rw [oOf_at hc]; exact m34
theorem stB_0 {o g : Nat → Int} {k n : Nat} {st : Nat → Int32} : stB o g k n st (0 : Int32).toNatClampNeg (0 : Int64).toInt := by
  rw [show (0 : Int32).toNatClampNeg = 0 by decide, show (0 : Int64).toInt = 0 by decide]
  exact ⟨Int.le_refl _, Or.inl rfl, fun i hi => absurd hi (Nat.not_lt_zero _)⟩
theorem stB_s {o g : Nat → Int} {k n : Nat} {st : Nat → Int32} {x x' : Int32} {t v w : Int64} (h : stB o g k n st x.toNatClampNeg t.toInt) (h0 : 0 ≤ x.toInt) (tx : x'.toInt = x.toInt + 1) (hw : w.toInt = chV o g k n (st x.toNatClampNeg).toNatClampNeg) (hs : 0 ≤ (st x.toNatClampNeg).toInt ∧ (st x.toNatClampNeg).toInt ≤ 20 ∧ (st x.toNatClampNeg).toInt ≤ (n : Int)) (e : v = if w < t then t else w) : stB o g k n st x'.toNatClampNeg v.toInt := by
  have c1 := cl_toInt h0
  have c2 := cl_toInt (x := x') (by omega)
  have lt : (w < t) ↔ w.toInt < t.toInt := Int64.lt_iff_toInt_lt
  rw [show x'.toNatClampNeg = x.toNatClampNeg + 1 by omega]
  obtain ⟨a, b, c⟩ := h
  by_cases q : w < t
  · rw [if_pos q] at e
    have q' := lt.mp q
    rw [e]
    refine ⟨a, ?_, fun i hi => ?_⟩
    · rcases b with b | ⟨i, b1, b2⟩
      · exact Or.inl b
      · exact Or.inr ⟨i, by omega, b2⟩
    · by_cases z : i = x.toNatClampNeg
      · subst z; omega
      · exact c i (by omega)
  · rw [if_neg q] at e
    have q' : ¬ w.toInt < t.toInt := fun z => q (lt.mpr z)
    rw [e]
    refine ⟨by omega, Or.inr ⟨x.toNatClampNeg, by omega, hw, hs.2.2, hs.2.1, hs.1⟩, fun i hi => ?_⟩
    by_cases z : i = x.toNatClampNeg
    · subst z; omega
    · have := c i (by omega); omega
/-! the least gift -/
def ngB (o g : Nat → Int) (k n : Nat) (st : Nat → Int32) (j : Nat) : Prop := ∀ i, i < j → ¬ chV o g k n (st i).toNatClampNeg = val o g (k + 1) n
def lsC (o g : Nat → Int) (k R e : Nat) : Prop := gvC o g k R e ∧ e ≤ R ∧ e ≤ 20 ∧ ∀ d, d < e → ¬ gvC o g k R d
section NGB
variable {o g : Nat → Int} {k n sc j : Nat} {st fd : Nat → Int32}
theorem ngB_0 : ngB o g k n st (0 : Int32).toNatClampNeg := by
  rw [show (0 : Int32).toNatClampNeg = 0 by decide]; exact fun i hi => absurd hi (Nat.not_lt_zero _)
theorem ngB_s {x x' : Int32} {w v : Int64} (h : ngB o g k n st x.toNatClampNeg) (h0 : 0 ≤ x.toInt) (tx : x'.toInt = x.toInt + 1) (hw : w.toInt = chV o g k n (st x.toNatClampNeg).toNatClampNeg) (hv : v.toInt = val o g (k + 1) n) (hne : w.toInt ≠ v.toInt) : ngB o g k n st x'.toNatClampNeg := by
  have c1 := cl_toInt h0
  have c2 := cl_toInt (x := x') (by omega)
  rw [show x'.toNatClampNeg = x.toNatClampNeg + 1 by omega]
  intro i hi
  by_cases z : i = x.toNatClampNeg
  · subst z; exact fun q => hne (by rw [hw, hv, q])
  · exact h i (by omega)
theorem st_below (hT : stT g st fd sc 21) {e : Nat} (h20 : e ≤ 20) (hj : j ≤ sc) (hend : j = sc ∨ (j < sc ∧ (e : Int) < (st j).toInt)) : ∃ i, i < j ∧ 0 ≤ (st i).toInt ∧ (st i).toInt ≤ (e : Int) ∧ g (st i).toNatClampNeg = g e := by
  obtain ⟨i, i1, i2, i3⟩ := hT.2.2.2.2 e (by omega) h20
  refine ⟨i, ?_, (hT.2.2.1 i i1).1.1, i2, i3⟩
  rcases hend with q | q
  · omega
  · by_cases z : i < j
    · exact z
    · by_cases y : i = j
      · subst y; omega
      · have := hT.2.2.2.1 j i (by omega) i1; omega
theorem ch_st (ho : ∀ k, 0 ≤ o k) (hg : gOK g) {d : Nat} {w : Int32} (hd : d ≤ n) (h20 : d ≤ 20) (hw : 0 ≤ w.toInt ∧ w.toInt ≤ (d : Int)) (eg : g w.toNatClampNeg = g d) (hv : chV o g k n d = val o g (k + 1) n) : chV o g k n w.toNatClampNeg = val o g (k + 1) n := by
  have c := cl_toInt hw.1
  have a := val_ge (o := o) (g := g) (k := k) (n := n) (e := w.toNatClampNeg) (by omega) (by omega)
  have m := val_mo ho hg k (n - d) (n - w.toNatClampNeg) (by omega)
  unfold chV at *
  rw [eg] at a ⊢
  omega
theorem ng_no (ho : ∀ k, 0 ≤ o k) (hg : gOK g) (hT : stT g st fd sc 21) (h : ngB o g k n st j) (hj : j ≤ sc) (hend : j = sc ∨ (j < sc ∧ (n : Int) < (st j).toInt)) : False := by
  obtain ⟨e, e1, e2, e3⟩ := val_at (o := o) (g := g) k n
  obtain ⟨i, i1, i2, i3, i4⟩ := st_below (j := j) hT (e := e) e2 hj (by omega)
  exact h i i1 (ch_st ho hg e1 e2 ⟨i2, i3⟩ i4 (show chV o g k n e = _ from e3.symm))
theorem ng_y (ho : ∀ k, 0 ≤ o k) (hg : gOK g) (hT : stT g st fd sc 21) (h : ngB o g k n st j) (hj : j < sc) (hjn : (st j).toInt ≤ (n : Int)) (hv : chV o g k n (st j).toNatClampNeg = val o g (k + 1) n) : lsC o g k n (st j).toNatClampNeg := by
  have w := (hT.2.2.1 j hj).1
  have c := cl_toInt w.1
  refine ⟨hv, by omega, by omega, fun d hd q => ?_⟩
  obtain ⟨i, i1, i2, i3, i4⟩ := st_below (j := j) hT (e := d) (by omega) (by omega) (Or.inr ⟨hj, by omega⟩)
  exact h i i1 (ch_st ho hg (by omega) (by omega) ⟨i2, i3⟩ i4 q)
end NGB
/-! the row of the most -/
section MOT
variable {r : Nat → Int64} {g : Nat → Int} {eff : Nat} {m m' : Nat → Int64}
theorem moT_z (ho : ∀ k, 0 ≤ oOf r k) (hg : gOK g) (h : ∀ n, n ≤ eff → m (41 * ctP r 64 + n) = 0) : moT r g eff m (ctP r 64) := fun c hc hi n hn => by
  have a := ct_mo (r := r) hc
  have e : ctP r c = ctP r 64 := by omega
  have v := val_gap (r := r) (g := g) ho hg (n := n) (64 - c) c (by omega) (by rw [show c + (64 - c) = 64 by omega]; exact e.symm)
  rw [e, h n hn, v, show 64 - (c + (64 - c)) = 0 by omega]
  exact (show (0 : Int64).toInt = 0 by decide)
theorem moT_s {b c : Nat} (ho : ∀ k, 0 ≤ oOf r k) (hg : gOK g) (h : moT r g eff m (b + 1)) (hc : c < 64) (hb : ctP r c = b) (hp : 0 < (r c).toInt) (hrow : ∀ n, n ≤ eff → (m (41 * b + n)).toInt = val (oOf r) g (63 - c + 1) n) : moT r g eff m b := fun d hd hi n hn => by
  by_cases z : b + 1 ≤ ctP r d
  · exact h d hd z n hn
  · have e : ctP r d = b := by omega
    have dc : d ≤ c := by
      by_cases q : d ≤ c
      · exact q
      · have := ct_lt hp (show c < d by omega); omega
    have v := val_gap (r := r) (g := g) ho hg (n := n) (c - d) d (by omega) (by rw [show d + (c - d) = c by omega, hb, e])
    rw [e, hrow n hn, v, show 64 - (d + (c - d)) = 63 - c + 1 by omega]
theorem moT_up {b x : Nat} {v : Int64} (h : moT r g eff m (b + 1)) (h40 : eff ≤ 40) (e : m' = vp_updL m x v) (hx : x < 41 * (b + 1)) : moT r g eff m' (b + 1) := fun d hd hi n hn => by
  rw [e, pk_uLn (by omega)]; exact h d hd hi n hn
theorem moT_0 (h : moT r g eff m 0) {n : Nat} (hn : n ≤ eff) : (m n).toInt = val (oOf r) g 64 n := by
  have z := h 0 (by omega) (Nat.zero_le _) n hn
  rw [show 41 * ctP r 0 + n = n by simp only [ctP]; omega] at z
  exact z
theorem moT_at {b : Nat} (h : moT r g eff m b) {c n : Nat} (hc : c < 64) (hb : b ≤ ctP r c) (hn : n ≤ eff) : (m (41 * ctP r c + n)).toInt = val (oOf r) g (63 - c + 1) n := by
  have z := h c (by omega) hb n hn
  rw [show 64 - c = 63 - c + 1 by omega] at z; exact z
theorem moT_nx {b c : Nat} (h : moT r g eff m (b + 1)) (hc : c < 64) (hb : ctP r c = b) (hp : 0 < (r c).toInt) {n : Nat} (hn : n ≤ eff) : (m (41 * (b + 1) + n)).toInt = val (oOf r) g (63 - c) n := by
  have e := ct_y hp
  have z := h (c + 1) (by omega) (by omega) n hn
  rw [e, hb, show 64 - (c + 1) = 63 - c by omega] at z; exact z
theorem moT_n0 {c : Nat} (h : moT r g eff m 0) (hc : c < 64) (hp : 0 < (r c).toInt) {n : Nat} (hn : n ≤ eff) : (m (41 * (ctP r c + 1) + n)).toInt = val (oOf r) g (63 - c) n :=
  moT_nx (fun d hd _ => h d hd (Nat.zero_le _)) hc rfl hp hn
end MOT
def wgT (r : Nat → Int64) (g : Nat → Int) (sp : Nat → Nat) (n : Nat) (I q : Nat → Nat → Int32) (y : Nat → Nat → Int64) : Prop := (I 47 (sp 0)).toInt = (n : Int) ∧ lcT r 64 (I 45 (sp 0)).toInt (q (sp 1)) (y (sp 2)) ∧ stT g (q (sp 3)) (q (sp 4)) (I 46 (sp 0)).toNatClampNeg 21 ∧ moT r g n (y (sp 5)) 0
theorem effn {a v w : Int32} (e : v = if (40 : Int32) < a then 40 else a) (e2 : w = if (0 : Int32) < v then v else 0) (h : 0 ≤ a.toInt ∧ a.toInt ≤ 40) : w.toInt = a.toInt := by
  have t0 : (0 : Int32).toInt = 0 := by decide
  have t40 : (40 : Int32).toInt = 40 := by decide
  have a1 : ¬ (40 : Int32) < a := fun q => by have := Int32.lt_iff_toInt_lt.mp q; omega
  rw [if_neg a1] at e
  rw [e] at e2
  by_cases q : (0 : Int32) < a
  · rw [if_pos q] at e2; rw [e2]
  · rw [if_neg q] at e2
    have : ¬ (0 : Int32).toInt < a.toInt := fun z => q (Int32.lt_iff_toInt_lt.mpr z)
    rw [e2]; omega
/-! the least effort for the most -/
def lfB (F : Nat → Int) (N j : Nat) : Prop := ∀ m, m < j → ¬ F m = F N
theorem lfB_0 {F : Nat → Int} {N : Nat} : lfB F N (0 : Int32).toNatClampNeg := by
  rw [show (0 : Int32).toNatClampNeg = 0 by decide]; exact fun i hi => absurd hi (Nat.not_lt_zero _)
theorem lfB_s {F : Nat → Int} {N : Nat} {x x' : Int32} {u v : Int64} (h : lfB F N x.toNatClampNeg) (h0 : 0 ≤ x.toInt) (tx : x'.toInt = x.toInt + 1) (hu : u.toInt = F x.toNatClampNeg) (hv : v.toInt = F N) (hne : u.toInt ≠ v.toInt) : lfB F N x'.toNatClampNeg := by
  have c1 := cl_toInt h0
  have c2 := cl_toInt (x := x') (by omega)
  rw [show x'.toNatClampNeg = x.toNatClampNeg + 1 by omega]
  intro i hi
  by_cases z : i = x.toNatClampNeg
  · subst z; exact fun q => hne (by rw [hu, hv, q])
  · exact h i (by omega)
theorem lfB_e {F : Nat → Int} {N j : Nat} (hm : ∀ n m, n ≤ m → F n ≤ F m) (h : lfB F N j) (hj : j ≤ N) (e : F j = F N) : j = lsF F N := by
  have a := ls_min hm N j hj e
  by_cases q : lsF F N < j
  · exact absurd (ls_v N) (h _ q)
  · omega
/-! the path that the class goes -/
theorem least_ex {P : Nat → Prop} (N : Nat) : P N → ∃ d, d ≤ N ∧ P d ∧ ∀ j, j < d → ¬ P j :=
  Nat.strongRecOn (motive := fun N => P N → ∃ d, d ≤ N ∧ P d ∧ ∀ j, j < d → ¬ P j) N (fun N ih hN => by
    by_cases q : ∃ j, j < N ∧ P j
    · obtain ⟨j, h1, h2⟩ := q
      obtain ⟨d, a, b, c⟩ := ih j h1 h2
      exact ⟨d, by omega, b, c⟩
    · exact ⟨N, Nat.le_refl _, hN, fun j hj hp => q ⟨j, hj, hp⟩⟩)
section PTH
variable {o g : Nat → Int}
theorem lsM_ex (ho : ∀ k, 0 ≤ o k) (hg : gOK g) (k n : Nat) : ∃ e, lsM o g k n e := by
  obtain ⟨e, e1, e2, e3⟩ := val_at (o := o) (g := g) k (lsF (val o g (k + 1)) n)
  have l := ls_le (F := val o g (k + 1)) n
  obtain ⟨d, a, b, c⟩ := least_ex (P := gvM o g k n) e (gv_cm ho hg (show gvC o g k _ e from e3.symm) e1 e2)
  exact ⟨d, b, by omega, by omega, c⟩
theorem pth_ex (ho : ∀ k, 0 ≤ o k) (hg : gOK g) (n : Nat) : ∀ c, ∃ L, pth o g n c L
  | 0 => ⟨n, rfl⟩
  | c + 1 => by
    obtain ⟨M, h⟩ := pth_ex ho hg n c
    obtain ⟨e, i⟩ := lsM_ex ho hg (63 - c) M
    exact ⟨M - e, M, e, h, i, rfl⟩
theorem pth_le {n : Nat} : ∀ {c L : Nat}, pth o g n c L → L ≤ n
  | 0, L, h => by have h : L = n := h; omega
  | c + 1, L, h => by
    obtain ⟨M, e, a, b, d⟩ := h
    have := pth_le a
    omega
theorem lsC_M (ho : ∀ k, 0 ≤ o k) (hg : gOK g) {k n e : Nat} (h : lsC o g k (lsF (val o g (k + 1)) n) e) : lsM o g k n e ∧ lsF (val o g (k + 1)) n - e = lsF (val o g k) (n - e) := by
  have l := ls_le (F := val o g (k + 1)) n
  obtain ⟨a, b, c, d⟩ := h
  have m := gv_cm ho hg a b c
  have z := gv_mc ho hg m (by omega)
  exact ⟨⟨m, by omega, c, fun i hi q => d i hi (gv_mc ho hg q (by omega)).1⟩, z.2.2⟩
end PTH
section GVI
variable {r : Nat → Int64} {g : Nat → Int}
theorem pth_gap (ho : ∀ k, 0 ≤ oOf r k) (hg : gOK g) {n L : Nat} : ∀ j c, c + j ≤ 64 → ctP r (c + j) = ctP r c → pth (oOf r) g n c L → pth (oOf r) g n (c + j) L
  | 0, c, _, _, h => h
  | j + 1, c, hc, e, h => by
    have m1 := ct_mo (r := r) (n := c) (m := c + j) (by omega)
    have m2 := ct_mo (r := r) (n := c + j) (m := c + (j + 1)) (by omega)
    have i := pth_gap ho hg j c (by omega) (by omega) h
    have z : ¬ 0 < (r (c + j)).toInt := fun q => by
      have := ct_y q
      rw [show c + (j + 1) = c + j + 1 by omega] at e; omega
    have o0 : oOf r (63 - (c + j)) = 0 := by
      have a := ho (63 - (c + j))
      rw [oOf_at (by omega)] at a ⊢
      omega
    exact ⟨L, 0, i, lsM_0 ho hg o0, (Nat.sub_zero _).symm⟩
def gvI (r : Nat → Int64) (g : Nat → Int) (n i : Nat) (z : Int) : Prop := ∀ c, c ≤ 64 → ctP r c = i → ∃ L, pth (oOf r) g n c L ∧ z = (lsF (val (oOf r) g (64 - c)) L : Int)
theorem gvI_0 (ho : ∀ k, 0 ≤ oOf r k) (hg : gOK g) {n : Nat} {z : Int} (h : z = (lsF (val (oOf r) g 64) n : Int)) : gvI r g n (0 : Int32).toNatClampNeg z := fun c hc hi => by
  rw [show (0 : Int32).toNatClampNeg = 0 by decide] at hi
  have a := pth_gap ho hg (n := n) (L := n) c 0 (by omega) (by rw [Nat.zero_add, hi]; rfl) rfl
  have v : val (oOf r) g 64 = val (oOf r) g (64 - c) := funext (fun m => by
    have w := val_gap (r := r) (g := g) ho hg (n := m) c 0 (by omega) (by rw [Nat.zero_add, hi]; rfl)
    rw [Nat.zero_add] at w; exact w)
  rw [Nat.zero_add] at a
  exact ⟨n, a, by rw [← v]; exact h⟩
theorem gvI_g (ho : ∀ k, 0 ≤ oOf r k) (hg : gOK g) {n c : Nat} {i z e : Int32} (h : gvI r g n i.toNatClampNeg z.toInt) (hz : 0 ≤ z.toInt) (hc : c < 64) (hi : ctP r c = i.toNatClampNeg) (hl : lsC (oOf r) g (63 - c) z.toNatClampNeg e.toNatClampNeg) : gets (oOf r) g n c e.toNatClampNeg := by
  have c3 := cl_toInt hz
  obtain ⟨L, p1, p2⟩ := h c (by omega) hi
  rw [show 64 - c = 63 - c + 1 by omega] at p2
  rw [show z.toNatClampNeg = lsF (val (oOf r) g (63 - c + 1)) L by omega] at hl
  exact ⟨L, p1, (lsC_M ho hg hl).1⟩
theorem gvI_s (ho : ∀ k, 0 ≤ oOf r k) (hg : gOK g) {n c : Nat} {i i' z z' e : Int32} (h : gvI r g n i.toNatClampNeg z.toInt) (h0 : 0 ≤ i.toInt) (ti : i'.toInt = i.toInt + 1) (hz : 0 ≤ z.toInt) (hc : c < 64) (hi : ctP r c = i.toNatClampNeg) (hp : 0 < (r c).toInt) (hl : lsC (oOf r) g (63 - c) z.toNatClampNeg e.toNatClampNeg) (he : 0 ≤ e.toInt) (ez : z'.toInt = z.toInt - e.toInt) : gvI r g n i'.toNatClampNeg z'.toInt := by
  have c1 := cl_toInt h0
  have c2 := cl_toInt (x := i') (by omega)
  have c3 := cl_toInt hz
  have c4 := cl_toInt he
  obtain ⟨L, p1, p2⟩ := h c (by omega) hi
  rw [show 64 - c = 63 - c + 1 by omega] at p2
  rw [show z.toNatClampNeg = lsF (val (oOf r) g (63 - c + 1)) L by omega] at hl
  obtain ⟨m, q⟩ := lsC_M ho hg hl
  have hle := hl.2.1
  intro d hd hdi
  have y := ct_y hp
  have cd : c + 1 ≤ d := by
    by_cases w : c + 1 ≤ d
    · exact w
    · have := ct_mo (r := r) (n := d) (m := c) (by omega); omega
  have ed : ctP r d = ctP r (c + 1) := by omega
  have a := pth_gap ho hg (n := n) (L := L - e.toNatClampNeg) (d - (c + 1)) (c + 1) (by omega) (by rw [show c + 1 + (d - (c + 1)) = d by omega]; exact ed) ⟨L, _, p1, m, rfl⟩
  have v : val (oOf r) g (64 - (c + 1)) = val (oOf r) g (64 - d) := funext (fun x => by
    have w := val_gap (r := r) (g := g) ho hg (n := x) (d - (c + 1)) (c + 1) (by omega) (by rw [show c + 1 + (d - (c + 1)) = d by omega]; exact ed)
    rw [show c + 1 + (d - (c + 1)) = d by omega] at w; exact w)
  rw [show c + 1 + (d - (c + 1)) = d by omega] at a
  refine ⟨_, a, ?_⟩
  rw [← v, show 64 - (c + 1) = 63 - c by omega, ← q]
  omega
theorem gets_0 (ho : ∀ k, 0 ≤ oOf r k) (hg : gOK g) {n c : Nat} (hc : c < 64) (hp : ¬ 0 < (r c).toInt) : gets (oOf r) g n c 0 := by
  obtain ⟨L, h⟩ := pth_ex ho hg n c
  have o0 : oOf r (63 - c) = 0 := by
    have a := ho (63 - c)
    rw [oOf_at hc] at a ⊢
    omega
  exact ⟨L, h, lsM_0 ho hg o0⟩
end GVI
theorem gv_none {r : Nat → Int64} {cl : Nat → Int32} {ow : Nat → Int64} {k : Int} {w : Nat} (h : lcT r 64 k cl ow) (hw : w < 64) (hne : ∀ j : Nat, (j : Int) < k → (cl j).toInt ≠ (w : Int)) : ¬ 0 < (r w).toInt := fun q => by
  have l := ct_lt q hw
  have a := h.1
  exact hne (ctP r w) (by omega) (h.2 w hw q).1
theorem neC_s {cl : Nat → Int32} {i i' w v : Int32} (h : ∀ k : Nat, (k : Int) < i.toInt → (cl k).toInt ≠ w.toInt) (h0 : 0 ≤ i.toInt) (ti : i'.toInt = i.toInt + 1) (e : v = cl i.toNatClampNeg) (hn : v.toInt ≠ w.toInt) : ∀ k : Nat, (k : Int) < i'.toInt → (cl k).toInt ≠ w.toInt := fun k hk => by
  have c := cl_toInt h0
  by_cases z : k = i.toNatClampNeg
  · rw [z, ← e]; exact hn
  · exact h k (by omega)
theorem moz_s {y y1 : Nat → Nat → Int64} {a B : Nat} {x k k' : Int32} (h : ∀ m : Nat, (m : Int) < k.toInt → y a (B + m) = 0) (c : y1 = va_up y a (vp_updL (y a) x.toNatClampNeg 0)) (h0 : 0 ≤ k.toInt) (hx : x.toInt = (B : Int) + k.toInt) (t : k'.toInt = k.toInt + 1) : ∀ m : Nat, (m : Int) < k'.toInt → y1 a (B + m) = 0 := by
  intro i hi
  have h1 := cl_toInt h0
  have h2 := cl_toInt (x := x) (by omega)
  rw [c, vu_s]
  by_cases e : B + i = x.toNatClampNeg
  · rw [e, pk_uLs]
  · rw [pk_uLn e]; exact h i (by omega)
theorem mor_s {y y1 : Nat → Nat → Int64} {a B : Nat} {F : Nat → Int} {x k k' : Int32} {v : Int64} (h : ∀ m : Nat, (m : Int) < k.toInt → (y a (B + m)).toInt = F m) (c : y1 = va_up y a (vp_updL (y a) x.toNatClampNeg v)) (h0 : 0 ≤ k.toInt) (hx : x.toInt = (B : Int) + k.toInt) (t : k'.toInt = k.toInt + 1) (hv : v.toInt = F k.toNatClampNeg) : ∀ m : Nat, (m : Int) < k'.toInt → (y1 a (B + m)).toInt = F m := by
  intro i hi
  have h1 := cl_toInt h0
  have h2 := cl_toInt (x := x) (by omega)
  rw [c, vu_s]
  by_cases e : B + i = x.toNatClampNeg
  · rw [e, pk_uLs, hv, show k.toNatClampNeg = i by omega]
  · rw [pk_uLn e]; exact h i (by omega)
theorem spl_0 {q q6 q21 : Nat → Nat → Int32} {sp : Nat → Nat} {x : Int32} (c6 : q6 = va_up q (sp 3) (upd (q (sp 3)) (0 : Int32).toNatClampNeg 0)) (c21 : q21 = va_up q6 (sp 4) (upd (q6 (sp 4)) (0 : Int32).toNatClampNeg x)) (ne : sp 3 ≠ sp 4) : q21 (sp 3) 0 = 0 ∧ q21 (sp 4) 0 = x := by
  rw [show (0 : Int32).toNatClampNeg = 0 by decide] at c6 c21
  refine ⟨?_, ?_⟩
  · rw [c21, vu_n ne, c6, vu_s, pk_us]
  · rw [c21, vu_s, pk_us]
/-! what an effort finds of 100 -/
def gsm (C : Nat → Nat → Int32) (w e : Nat) : Int := 100 - (sm (C 4) (21 * w + e)).toInt
theorem sm_src {r : Nat → Int32} {w : Nat} (hw : w < 2) (h0 : r (21 * w) = -1) : ∀ e, e ≤ 20 → sm r (21 * w + e) = 100 ∨ ∃ j, 1 ≤ j ∧ j ≤ e ∧ ¬ r (21 * w + j) = -1 ∧ sm r (21 * w + e) = r (21 * w + j)
  | 0, _ => by
    refine Or.inl ?_
    rw [Nat.add_zero]
    rcases (show w = 0 ∨ w = 1 by omega) with e | e
    · subst e
      show (if r 0 = -1 then (100 : Int32) else r 0) = 100
      rw [if_pos (show r 0 = -1 from h0)]
    · subst e
      show (if r 21 = -1 then (if 21 % 21 = 0 then (100 : Int32) else sm r 20) else r 21) = 100
      rw [if_pos (show r 21 = -1 from h0), if_pos (by decide)]
  | e + 1, he => by
    have i := sm_src hw h0 e (by omega)
    have ex : sm r (21 * w + (e + 1)) = if r (21 * w + e + 1) = -1 then (if (21 * w + e + 1) % 21 = 0 then 100 else sm r (21 * w + e)) else r (21 * w + e + 1) := rfl
    by_cases q : r (21 * w + e + 1) = -1
    · rw [if_pos q, if_neg (by omega)] at ex
      rcases i with i | ⟨j, j1, j2, j3, j4⟩
      · exact Or.inl (ex.trans i)
      · exact Or.inr ⟨j, j1, by omega, j3, ex.trans j4⟩
    · rw [if_neg q] at ex
      exact Or.inr ⟨e + 1, by omega, Nat.le_refl _, q, ex⟩
theorem sm_mo {V : SV} (hv : vok V) {w : Nat} (hw : w < 2) : ∀ d e, d ≤ e → e ≤ 20 → (sm (V.2 4) (21 * w + e)).toInt ≤ (sm (V.2 4) (21 * w + d)).toInt
  | d, 0, h, _ => by rw [show d = 0 by omega]; exact Int.le_refl _
  | d, e + 1, h, he => by
    by_cases z : d = e + 1
    · rw [z]; exact Int.le_refl _
    · have i := sm_mo hv hw d e (by omega) (by omega)
      have s := sm_src (r := V.2 4) hw (hv.2.2.2.2.2.2.1 w hw) e (by omega)
      have b := sm_b hv.2.2.2.2.2.1 (21 * w + (e + 1)) (by omega)
      have ex : sm (V.2 4) (21 * w + (e + 1)) = if V.2 4 (21 * w + e + 1) = -1 then (if (21 * w + e + 1) % 21 = 0 then 100 else sm (V.2 4) (21 * w + e)) else V.2 4 (21 * w + e + 1) := rfl
      have t100 : (100 : Int32).toInt = 100 := by decide
      by_cases q : V.2 4 (21 * w + e + 1) = -1
      · rw [if_pos q, if_neg (by omega)] at ex
        rw [ex]; exact i
      · rw [if_neg q] at ex
        rcases s with s | ⟨j, j1, j2, j3, j4⟩
        · rw [s] at i; omega
        · have m := hv.2.2.2.2.2.2.2 w hw j (e + 1) j1 (by omega) he j3 q
          rw [j4] at i
          rw [ex]
          exact Int.le_trans m i
theorem gsm_r {V : SV} (hv : vok V) {w e : Nat} (hw : w < 2) (he : e ≤ 20) : 0 ≤ (sm (V.2 4) (21 * w + e)).toInt ∧ (sm (V.2 4) (21 * w + e)).toInt ≤ 100 := sm_b hv.2.2.2.2.2.1 _ (by omega)
theorem gsm_ok {V : SV} (hv : vok V) {w : Nat} (hw : w < 2) : gOK (gsm V.2 w) := by
  refine ⟨?_, fun e he => ?_, fun d e h he => ?_⟩
  · have s := sm_src (r := V.2 4) hw (hv.2.2.2.2.2.2.1 w hw) 0 (by omega)
    have t100 : (100 : Int32).toInt = 100 := by decide
    rcases s with s | ⟨j, j1, j2, j3, j4⟩
    · unfold gsm; rw [s]; omega
    · omega
  · have b := gsm_r hv hw he
    unfold gsm; omega
  · have m := sm_mo hv hw d e h he
    unfold gsm; omega
/-! the cells' odds are few enough -/
theorem cOK_one {r r' : Nat → Int64} {B : Int} {i : Nat} {w : Int64} (h : cOK r B) (hw : 0 ≤ w.toInt ∧ w.toInt ≤ 1000000000000000) (hB : 0 ≤ B ∧ B ≤ 40000000000000000) (he : ∀ k, r' k = if k = i then r i + w else r k) : cOK r' (B + 1000000000000000) := by
  by_cases hi : i < 64
  · have hp := sumY_part h.1 i hi
    have h2 := h.2
    have h1 := h.1 i hi
    have hb := lAdd (v := r i + w) rfl rfl rfl (by omega) (by omega)
    have er : r' = vp_updL r i (r i + w) := funext (fun k => by
      by_cases q : k = i
      · rw [q, pk_uLs, he, if_pos rfl]
      · rw [pk_uLn q, he, if_neg q])
    refine ⟨fun k hk => ?_, by rw [er, sumY_upd hi, hb]; omega⟩
    rw [he]
    by_cases q : k = i
    · rw [if_pos q, hb]; omega
    · rw [if_neg q]; exact h.1 k hk
  · refine ⟨fun k hk => ?_, ?_⟩
    · rw [he, if_neg (by omega)]; exact h.1 k hk
    · rw [sumY_cong (r := r) (fun k hk => by rw [he, if_neg (by omega)])]
      have := h.2; omega
theorem sb_ok {C : Nat → Nat → Int32} {tl : Nat → TP} {O : Nat → Int64} {t : Nat} {z : Int32} {N : Nat} (hN : N ≤ 40) (h : ∀ k, k < N → 0 ≤ (O k).toInt ∧ (O k).toInt ≤ 1000000000000000) : ∀ n, n ≤ N → cOK (sbF C tl O t z n) (1000000000000000 * (n : Int))
  | 0, _ => cOK_le (cOK_0 (fun _ _ => rfl)) (by omega)
  | n + 1, hn => by
    have i := sb_ok (C := C) (tl := tl) (t := t) (z := z) hN h n (by omega)
    by_cases q : (drA C (tl n) t).2.2.toInt ≠ 2 ∧ (z = 0 ∨ (drA C (tl n) t).2.2.toInt = 0)
    · have a := cOK_one (r' := sbF C tl O t z (n + 1)) (i := (cellZ (drA C (tl n) t).1 (drA C (tl n) t).2.1).toNatClampNeg) i (h n (by omega)) (by omega) (fun k => by
        simp only [sbF]
        by_cases e : k = (cellZ (drA C (tl n) t).1 (drA C (tl n) t).2.1).toNatClampNeg
        · rw [if_pos ⟨q, e⟩, if_pos e, e]
        · rw [if_neg (fun y => e y.2), if_neg e])
      exact cOK_le a (by omega)
    · have e : sbF C tl O t z (n + 1) = sbF C tl O t z n := funext (fun k => by simp only [sbF]; rw [if_neg (fun y => q y.1)])
      rw [e]; exact cOK_le i (by omega)
set_option maxHeartbeats 4000000 in
set_option maxRecDepth 100000 in
theorem c_w_X6_listCells (l : Launch) (G : Gh) (S : Pl) (sp : Nat → Nat) (co : Nat) (od : Nat → Int64) (hP : shSpl S sp) (hc : is S 14 co ∧ pN S co = 64) (hrow : ∀ k, k < 64 → qJ S co k = od k) (h40 : ctP od 64 ≤ 40) : MtV l yX6_listCells cX6_listCells 3 none (Rm 0 0 0) G [.ref (sp 0), .ref co] S (fun (S' : Pl) => ∃ I' q' y', ch S I' (pJ S) q' y' = S' ∧ (∀ f, f ≠ 45 → I' f = pI S f) ∧ 0 ≤ (I' 45 (sp 0)).toInt ∧ (I' 45 (sp 0)).toInt ≤ 40 ∧ KP sp (qI S) q' ∧ lcT od 64 (I' 45 (sp 0)).toInt (q' (sp 1)) (y' (sp 2))) 0 0 := by
  refine MtV.of (by decide) (Nat.le_of_ble_eq_true rfl) ?_
  intro p e s m args below meth c Q A X hw hin hret ls hl
  have hx := X.1.1
  have hb := X.1.2.1
  have hl : lv_has ls 3 [(0, .ref (sp 0)), (1, .ref co)] := hl
  obtain ⟨k0, r40, r41, r42, r43, r44, k1, n1, k2, n2, k3, n3, k4, n4, k5, n5, ne⟩ := id hP
  have nco2 : co ≠ sp 2 := ne_len hc.2 n2 (by decide)
  refine lv_aload_n hx hb dX6_listCells_0 rfl (lv_at hl 0 rfl) ?_
  refine lv_iconst (v := 0) hx hb dX6_listCells_1 (by decide) ?_
  refine pf_X6_49 X hw k0 dX6_listCells_2 (fun H locs hw => ?_)
  have hw : PX G A s.heap (ch S (up2 (pI S) 45 (sp 0) 0) (pJ S) (qI S) (qJ S)) H locs := hw
  refine lv_iconst (v := 0) hx hb dX6_listCells_5 (by decide) ?_
  refine lv_istore_n (lv' := [(2, .int 0), (0, .ref (sp 0)), (1, .ref co)]) hx hb dX6_listCells_6 rfl hl (by decide) rfl (fun ls hl => ?_)
  have lp7 : ∀ (N9 : Nat) (I7 : Nat → Nat → Int32) (q7 : Nat → Nat → Int32) (y7 : Nat → Nat → Int64) (j : Int32), (∀ f, f ≠ 45 → I7 f = pI S f) → (0 ≤ j.toInt ∧ j.toInt ≤ 64) → (0 ≤ (I7 45 (sp 0)).toInt ∧ (I7 45 (sp 0)).toInt ≤ 40) → (KP sp (qI S) q7) → (y7 co = qJ S co) → (lcT od j.toNatClampNeg (I7 45 (sp 0)).toInt (q7 (sp 1)) (y7 (sp 2))) → (64 - j.toInt).toNat < N9 → ∀ (H : Heap) (locs : List Loc) (ls : Array Slot), PX G A s.heap (ch S I7 (pJ S) q7 y7) H locs → lv_has ls 3 [(2, .int j), (0, .ref (sp 0)), (1, .ref co)] → W p l e (Rm 0 0 0) s m args below meth c H locs 0 0 Q (F0 m 7 ls []) := by
    intro N9
    induction N9 with
    | zero => intro I7 q7 y7 j hI hj hk h13 hya hlc hm; exact absurd hm (Nat.not_lt_zero _)
    | succ N9 ih7 =>
      intro I7 q7 y7 j hI hj hk h13 hya hlc hm H locs ls hw hl
      refine lv_iload_n hx hb dX6_listCells_7 rfl (lv_at hl 0 rfl) ?_
      refine lv_aload_n hx hb dX6_listCells_8 rfl (lv_at hl 2 rfl) ?_
      refine q_lenJ (v := 64) X hw hc.1 (by rw [show _ = 64 from hc.2]; decide) dX6_listCells_9 ?_
      refine lv_icmp_ge (tgt := 68) hx hb dX6_listCells_10 (by decide) (fun c10_1 => ?_) (fun c10_1 => ?_)
      · have D10_1 := iLe c10_1 t_64 rfl
        exact hret _ _ _ _ _ ⟨_, _, _, rfl, hI, by omega, by omega, h13, lcT_e hlc (by have := cl_toInt (x := j) hj.1; omega) h40 (by have := cl_toInt (x := j) hj.1; omega)⟩ hw dX6_listCells_68
      · have D10_1 := iNle c10_1 t_64 rfl
        refine lv_aload_n hx hb dX6_listCells_13 rfl (lv_at hl 1 rfl) ?_
        refine gf_X6_49 (v := I7 45 (sp 0)) X hw k0 rfl dX6_listCells_14 ?_
        refine lv_bipush (v := 40) hx hb dX6_listCells_17 (by decide) ?_
        refine lv_icmp_ge (tgt := 68) hx hb dX6_listCells_19 (by decide) (fun c19_2 => ?_) (fun c19_2 => ?_)
        · have D19_2 := iLe c19_2 t_40 rfl
          exact hret _ _ _ _ _ ⟨_, _, _, rfl, hI, by omega, by omega, h13, lcT_e hlc (by have := cl_toInt (x := j) hj.1; omega) h40 (by have := cl_toInt (x := j) hj.1; omega)⟩ hw dX6_listCells_68
        · have D19_2 := iNle c19_2 t_40 rfl
          refine lv_aload_n hx hb dX6_listCells_22 rfl (lv_at hl 2 rfl) ?_
          refine lv_iload_n hx hb dX6_listCells_23 rfl (lv_at hl 0 rfl) ?_
          refine q_ldJ X hw hc.1 (vin hc.2 (by omega) (by omega)) dX6_listCells_24 ?_
          refine lv_topl (fun v24_3 e24_3 => ?_)
          have e24_3 : v24_3 = y7 co j.toNatClampNeg := e24_3
          have e24n := e24_3
          refine lv_lconst (v := 0) hx hb dX6_listCells_25 (by decide) ?_
          refine W.lcmp hx hb dX6_listCells_26 ?_
          refine lv_topi (fun v26_4 e26_4 => ?_)
          refine lv_if_le (tgt := 62) hx hb dX6_listCells_27 (by decide) (fun c27_5 => ?_) (fun c27_5 => ?_)
          · have D27_5 := lc_le e26_4 c27_5
            obtain ⟨v62_6, e62_6⟩ : ∃ y : Int32, y = j + 1 := ⟨_, rfl⟩
            have t62_6 := iAdd e62_6 rfl t_1 (by omega) (by omega)
            have t62 := t62_6
            refine lv_iinc (v := v62_6) (lv' := [(2, .int v62_6), (0, .ref (sp 0)), (1, .ref co)]) hx hb dX6_listCells_62 hl (k := 0) rfl (by rw [e62_6]; rfl) (by decide) rfl (fun ls hl => ?_)
            refine lv_goto (tgt := 7) hx hb dX6_listCells_65 (by decide) ?_
            exact ih7 I7 q7 y7 v62_6 (by first | exact hI | exact fun f hf => (up2_f hf).trans (hI f hf)) (by omega) (by first | exact hk | (simp only [up2_s]; omega)) (by first | exact h13 | exact h13.up 1 (by decide) (by decide) c39) (by first | exact hya | (rw [c51, vu_n nco2]; exact hya)) (by first | exact lcT_n hlc hj.1 t62 (e24n.trans ((congrFun hya _).trans (hrow _ (by have := cl_toInt (x := j) hj.1; omega)))) (by have := (by decide : (0:Int64).toInt = 0); omega) | (simp only [up2_s]; exact lcT_y hlc hj.1 t62 t58 (e24n.trans ((congrFun hya _).trans (hrow _ (by have := cl_toInt (x := j) hj.1; omega)))) (by have := (by decide : (0:Int64).toInt = 0); omega) (e50n.trans ((congrFun hya _).trans (hrow _ (by have := cl_toInt (x := j) hj.1; omega)))) (by rw [c39, vu_s]) (by rw [c51, vu_s]))) (by omega) _ _ _ hw (lv_sub hl [0, 1, 2] rfl)
          · have D27_5 := lcn_le e26_4 c27_5
            refine lv_aload_n hx hb dX6_listCells_30 rfl (lv_at hl 1 rfl) ?_
            refine gf_X6_9 (b := (sp 1)) X hw k0 r40 dX6_listCells_31 ?_
            refine lv_aload_n hx hb dX6_listCells_34 rfl (lv_at hl 1 rfl) ?_
            refine gf_X6_49 (v := I7 45 (sp 0)) X hw k0 rfl dX6_listCells_35 ?_
            refine lv_iload_n hx hb dX6_listCells_38 rfl (lv_at hl 0 rfl) ?_
            refine q_stI X hw k1 (vin n1 (by omega) (by omega)) dX6_listCells_39 (fun H locs hw => ?_)
            obtain ⟨q39_7, eq39_7, hw⟩ : ∃ zz9, zz9 = va_up q7 (sp 1) (upd (q7 (sp 1)) (I7 45 (sp 0)).toNatClampNeg j) ∧ PX G A s.heap (ch S I7 (pJ S) zz9 y7) H locs := ⟨_, rfl, hw⟩
            have c39 := eq39_7
            refine lv_aload_n hx hb dX6_listCells_40 rfl (lv_at hl 1 rfl) ?_
            refine gf_X6_15 (b := (sp 2)) X hw k0 r41 dX6_listCells_41 ?_
            refine lv_aload_n hx hb dX6_listCells_44 rfl (lv_at hl 1 rfl) ?_
            refine gf_X6_49 (v := I7 45 (sp 0)) X hw k0 rfl dX6_listCells_45 ?_
            refine lv_aload_n hx hb dX6_listCells_48 rfl (lv_at hl 2 rfl) ?_
            refine lv_iload_n hx hb dX6_listCells_49 rfl (lv_at hl 0 rfl) ?_
            refine q_ldJ X hw hc.1 (vin hc.2 (by omega) (by omega)) dX6_listCells_50 ?_
            refine lv_topl (fun v50_8 e50_8 => ?_)
            have e50_8 : v50_8 = y7 co j.toNatClampNeg := e50_8
            have e50n := e50_8
            refine q_stJ X hw k2 (vin n2 (by omega) (by omega)) dX6_listCells_51 (fun H locs hw => ?_)
            obtain ⟨y51_9, ey51_9, hw⟩ : ∃ zz9, zz9 = va_up y7 (sp 2) (vp_updL (y7 (sp 2)) (I7 45 (sp 0)).toNatClampNeg v50_8) ∧ PX G A s.heap (ch S I7 (pJ S) q39_7 zz9) H locs := ⟨_, rfl, hw⟩
            have c51 := ey51_9
            refine lv_aload_n hx hb dX6_listCells_52 rfl (lv_at hl 1 rfl) ?_
            refine lv_dup hx hb dX6_listCells_53 rfl ?_
            refine gf_X6_49 (v := I7 45 (sp 0)) X hw k0 rfl dX6_listCells_54 ?_
            refine lv_iconst (v := 1) hx hb dX6_listCells_57 (by decide) ?_
            refine lv_iadd hx hb dX6_listCells_58 ?_
            refine lv_topi (fun v58_10 e58_10 => ?_)
            have t58_10 := iAdd e58_10 rfl t_1 (by omega) (by omega)
            have t58 := t58_10
            refine pf_X6_49 X hw k0 dX6_listCells_59 (fun H locs hw => ?_)
            have hw : PX G A s.heap (ch S (up2 I7 45 (sp 0) v58_10) (pJ S) q39_7 y51_9) H locs := hw
            obtain ⟨v62_11, e62_11⟩ : ∃ y : Int32, y = j + 1 := ⟨_, rfl⟩
            have t62_11 := iAdd e62_11 rfl t_1 (by omega) (by omega)
            have t62 := t62_11
            refine lv_iinc (v := v62_11) (lv' := [(2, .int v62_11), (0, .ref (sp 0)), (1, .ref co)]) hx hb dX6_listCells_62 hl (k := 0) rfl (by rw [e62_11]; rfl) (by decide) rfl (fun ls hl => ?_)
            refine lv_goto (tgt := 7) hx hb dX6_listCells_65 (by decide) ?_
            exact ih7 (up2 I7 45 (sp 0) v58_10) q39_7 y51_9 v62_11 (by first | exact hI | exact fun f hf => (up2_f hf).trans (hI f hf)) (by omega) (by first | exact hk | (simp only [up2_s]; omega)) (by first | exact h13 | exact h13.up 1 (by decide) (by decide) c39) (by first | exact hya | (rw [c51, vu_n nco2]; exact hya)) (by first | exact lcT_n hlc hj.1 t62 (e24n.trans ((congrFun hya _).trans (hrow _ (by have := cl_toInt (x := j) hj.1; omega)))) (by have := (by decide : (0:Int64).toInt = 0); omega) | (simp only [up2_s]; exact lcT_y hlc hj.1 t62 t58 (e24n.trans ((congrFun hya _).trans (hrow _ (by have := cl_toInt (x := j) hj.1; omega)))) (by have := (by decide : (0:Int64).toInt = 0); omega) (e50n.trans ((congrFun hya _).trans (hrow _ (by have := cl_toInt (x := j) hj.1; omega)))) (by rw [c39, vu_s]) (by rw [c51, vu_s]))) (by omega) _ _ _ hw (lv_sub hl [0, 1, 2] rfl)
  exact lp7 _ (up2 (pI S) 45 (sp 0) 0) (qI S) (qJ S) 0 (fun f hf => up2_f hf) (by have := t_0; omega) (by simp only [up2_s]; decide) KP.rf rfl (lcT_0 (by simp only [up2_s]; decide)) (Nat.lt_succ_self _) _ _ _ hw (lv_sub hl [0, 1, 2] rfl)
set_option maxHeartbeats 4000000 in
set_option maxRecDepth 100000 in
theorem c_w_X6_listSteps (l : Launch) (G : Gh) (S : Pl) (sp : Nat → Nat) (sa : Nat → Nat) (w : Int32) (V : SV) (hP : shSpl S sp) (hS : shSea S sa) (hvk : vok V) (hw2 : 0 ≤ w.toInt ∧ w.toInt < 2) (hct : Ct (qI S) sa (stl V.2)) (hsp : ∀ j ∈ sidR, ∀ k, 1 ≤ k → k ≤ 5 → sa j ≠ sp k) : MtV l yX6_listSteps cX6_listSteps 5 none (Rm 2 0 0) G [.ref (sp 0), .ref (sa 0), .int w] S (fun (S' : Pl) => ∃ I' q', ch S I' (pJ S) q' (qJ S) = S' ∧ (∀ f, f ≠ 46 → I' f = pI S f) ∧ 1 ≤ (I' 46 (sp 0)).toInt ∧ (I' 46 (sp 0)).toInt ≤ 21 ∧ spS I' q' sp ∧ KP sp (qI S) q' ∧ q' (sp 1) = qI S (sp 1) ∧ stT (gsm V.2 w.toNatClampNeg) (q' (sp 3)) (q' (sp 4)) (I' 46 (sp 0)).toNatClampNeg 21) 0 0 := by
  refine MtV.of (by decide) (Nat.le_of_ble_eq_true rfl) ?_
  intro p e s m args below meth c Q A X hw hin hret ls hl
  have hx := X.1.1
  have hb := X.1.2.1
  have hl : lv_has ls 5 [(0, .ref (sp 0)), (1, .ref (sa 0)), (2, .int w)] := hl
  obtain ⟨k0, r40, r41, r42, r43, r44, k1, n1, k2, n2, k3, n3, k4, n4, k5, n5, ne⟩ := id hP
  have n13 : sp 1 ≠ sp 3 := ne_len n1 n3 (by decide)
  have n14 : sp 1 ≠ sp 4 := ne_len n1 n4 (by decide)
  have hcw := cl_toInt (x := w) hw2.1
  have hgg := gsm_ok hvk (w := w.toNatClampNeg) (by omega)
  have z9 : (0 : Int32).toNatClampNeg = 0 := by decide
  refine lv_aload_n hx hb dX6_listSteps_0 rfl (lv_at hl 0 rfl) ?_
  refine gf_X6_19 (b := (sp 3)) X hw k0 r42 dX6_listSteps_1 ?_
  refine lv_iconst (v := 0) hx hb dX6_listSteps_4 (by decide) ?_
  refine lv_iconst (v := 0) hx hb dX6_listSteps_5 (by decide) ?_
  refine q_stI X hw k3 (vinl n3 (by decide) t_0 (by decide)) dX6_listSteps_6 (fun H locs hw => ?_)
  obtain ⟨q6_1, eq6_1, hw⟩ : ∃ zz9, zz9 = va_up (qI S) (sp 3) (upd ((qI S) (sp 3)) (0 : Int32).toNatClampNeg 0) ∧ PX G A s.heap (ch S (pI S) (pJ S) zz9 (qJ S)) H locs := ⟨_, rfl, hw⟩
  have c6 := eq6_1
  refine lv_aload_n hx hb dX6_listSteps_7 rfl (lv_at hl 0 rfl) ?_
  refine gf_X6_22 (b := (sp 4)) X hw k0 r43 dX6_listSteps_8 ?_
  refine lv_iconst (v := 0) hx hb dX6_listSteps_11 (by decide) ?_
  refine lv_bipush (v := 100) hx hb dX6_listSteps_12 (by decide) ?_
  refine lv_aload_n hx hb dX6_listSteps_14 rfl (lv_at hl 1 rfl) ?_
  refine lv_iload_n hx hb dX6_listSteps_15 rfl (lv_at hl 2 rfl) ?_
  refine lv_iconst (v := 0) hx hb dX6_listSteps_16 (by decide) ?_
  refine k_Vi (n := 2) X hw (rcvk (ci := 3) X hw hS.1 (fun _ _ _ _ _ _ _ => ⟨_, rfl⟩) rfl) (c_v_X3_missOf l G _ sa w 0 hS) wd_r40_11 wd_r16_12 wd_r16_13 wd_r2_9 wd_r16_14 ⟨by decide, by decide, by decide +kernel⟩ rfl rfl ⟨Nat.le_of_ble_eq_true rfl, Nat.le_of_ble_eq_true rfl⟩ rfl rfl hl.1 (Nat.le_of_ble_eq_true rfl) dX6_listSteps_17 ⟨Nat.le_of_ble_eq_true rfl, Nat.le_of_ble_eq_true rfl⟩ (fun r17_2 S17_4 H locs h17_3 hw => ?_)
  have := t_0
  obtain ⟨rfl, h17_3⟩ := h17_3
  have h13a : KP sp (qI S) q6_1 := KP.rf.up 3 (by decide) (by decide) c6
  have hm17 : r17_2 = sm (V.2 4) (21 * w.toNatClampNeg + (0 : Int32).toNatClampNeg) := by rw [h17_3, if_pos (by have := t_20; have := t_0; omega)]; exact (congrFun (h13a (sa 4) (fun k9 h1 h5 => hsp 4 (by decide) k9 h1 h5)) _).trans ((hct 4 (by decide) _ (show 21 * w.toNatClampNeg + (0 : Int32).toNatClampNeg < 42 by have := cl_toInt (x := w) hw2.1; have := t_0; have := cl_toInt (x := (0 : Int32)) (by omega); omega)).trans stl_4)
  refine lv_isub hx hb dX6_listSteps_20 ?_
  refine lv_topi (fun v20_5 e20_5 => ?_)
  have hsh0 : v20_5.toInt = (gsm V.2 w.toNatClampNeg) 0 := gs_v e20_5 (by rw [hm17]; exact gsm_r hvk (by omega) (by omega)) (by rw [hm17, z9]; rfl)
  refine q_stI X hw k4 (vinl n4 (by decide) t_0 (by decide)) dX6_listSteps_21 (fun H locs hw => ?_)
  obtain ⟨q21_6, eq21_6, hw⟩ : ∃ zz9, zz9 = va_up q6_1 (sp 4) (upd (q6_1 (sp 4)) (0 : Int32).toNatClampNeg v20_5) ∧ PX G A s.heap (ch S (pI S) (pJ S) zz9 (qJ S)) H locs := ⟨_, rfl, hw⟩
  have c21 := eq21_6
  refine lv_aload_n hx hb dX6_listSteps_22 rfl (lv_at hl 0 rfl) ?_
  refine lv_iconst (v := 1) hx hb dX6_listSteps_23 (by decide) ?_
  refine pf_X6_68 X hw k0 dX6_listSteps_24 (fun H locs hw => ?_)
  have hw : PX G A s.heap (ch S (up2 (pI S) 46 (sp 0) 1) (pJ S) q21_6 (qJ S)) H locs := hw
  refine lv_iconst (v := 1) hx hb dX6_listSteps_27 (by decide) ?_
  refine lv_istore_n (lv' := [(3, .int 1), (0, .ref (sp 0)), (1, .ref (sa 0)), (2, .int w)]) hx hb dX6_listSteps_28 rfl hl (by decide) rfl (fun ls hl => ?_)
  have lp29 : ∀ (N9 : Nat) (I29 : Nat → Nat → Int32) (q29 : Nat → Nat → Int32) (v : Int32), (∀ f, f ≠ 46 → I29 f = pI S f) → (1 ≤ v.toInt ∧ v.toInt ≤ 21) → (1 ≤ (I29 46 (sp 0)).toInt ∧ (I29 46 (sp 0)).toInt ≤ v.toInt) → (spS I29 q29 sp) → (KP sp (qI S) q29) → (q29 (sp 1) = qI S (sp 1)) → (stT (gsm V.2 w.toNatClampNeg) (q29 (sp 3)) (q29 (sp 4)) (I29 46 (sp 0)).toNatClampNeg v.toNatClampNeg) → (21 - v.toInt).toNat < N9 → ∀ (H : Heap) (locs : List Loc) (ls : Array Slot), PX G A s.heap (ch S I29 (pJ S) q29 (qJ S)) H locs → lv_has ls 5 [(3, .int v), (0, .ref (sp 0)), (1, .ref (sa 0)), (2, .int w)] → W p l e (Rm 2 0 0) s m args below meth c H locs 0 0 Q (F0 m 29 ls []) := by
    intro N9
    induction N9 with
    | zero => intro I29 q29 v hI hj hk hs h13 h1q hst hm; exact absurd hm (Nat.not_lt_zero _)
    | succ N9 ih29 =>
      intro I29 q29 v hI hj hk hs h13 h1q hst hm H locs ls hw hl
      refine lv_iload_n hx hb dX6_listSteps_29 rfl (lv_at hl 0 rfl) ?_
      refine lv_bipush (v := 20) hx hb dX6_listSteps_30 (by decide) ?_
      refine lv_icmp_gt (tgt := 99) hx hb dX6_listSteps_32 (by decide) (fun c32_7 => ?_) (fun c32_7 => ?_)
      · have D32_7 := iLt c32_7 t_20 rfl
        exact hret _ _ _ _ _ ⟨_, _, rfl, hI, by omega, by omega, hs, h13, h1q, (by rw [show v.toNatClampNeg = 21 by have := cl_toInt (x := v) (by omega); omega] at hst; exact hst)⟩ hw dX6_listSteps_99
      · have D32_7 := iNlt c32_7 t_20 rfl
        refine lv_bipush (v := 100) hx hb dX6_listSteps_35 (by decide) ?_
        refine lv_aload_n hx hb dX6_listSteps_37 rfl (lv_at hl 2 rfl) ?_
        refine lv_iload_n hx hb dX6_listSteps_38 rfl (lv_at hl 3 rfl) ?_
        refine lv_iload_n hx hb dX6_listSteps_39 rfl (lv_at hl 0 rfl) ?_
        refine k_Vi (n := 2) X hw (rcvk (ci := 3) X hw hS.1 (fun _ _ _ _ _ _ _ => ⟨_, rfl⟩) rfl) (c_v_X3_missOf l G _ sa w v hS) wd_r40_11 wd_r16_12 wd_r16_13 wd_r2_9 wd_r16_14 ⟨by decide, by decide, by decide +kernel⟩ rfl rfl ⟨Nat.le_of_ble_eq_true rfl, Nat.le_of_ble_eq_true rfl⟩ rfl rfl hl.1 (Nat.le_of_ble_eq_true rfl) dX6_listSteps_40 ⟨Nat.le_of_ble_eq_true rfl, Nat.le_of_ble_eq_true rfl⟩ (fun r40_8 S40_10 H locs h40_9 hw => ?_)
        obtain ⟨rfl, h40_9⟩ := h40_9
        have hm40 : r40_8 = sm (V.2 4) (21 * w.toNatClampNeg + v.toNatClampNeg) := by rw [h40_9, if_pos (by have := t_20; have := t_0; omega)]; exact (congrFun (h13 (sa 4) (fun k9 h1 h5 => hsp 4 (by decide) k9 h1 h5)) _).trans ((hct 4 (by decide) _ (show 21 * w.toNatClampNeg + v.toNatClampNeg < 42 by have := cl_toInt (x := w) hw2.1; have := t_0; have := cl_toInt (x := v) (by omega); omega)).trans stl_4)
        refine lv_isub hx hb dX6_listSteps_43 ?_
        refine lv_topi (fun v43_11 e43_11 => ?_)
        have hsh : v43_11.toInt = (gsm V.2 w.toNatClampNeg) v.toNatClampNeg := gs_v e43_11 (by rw [hm40]; exact gsm_r hvk (by omega) (by have := cl_toInt (x := v) (by omega); omega)) (by rw [hm40]; rfl)
        refine lv_istore (lv' := [(4, .int v43_11), (3, .int v), (0, .ref (sp 0)), (1, .ref (sa 0)), (2, .int w)]) hx hb dX6_listSteps_44 hl (by decide) rfl (fun ls hl => ?_)
        refine lv_iload hx hb dX6_listSteps_46 (lv_at hl 0 rfl) ?_
        refine lv_aload_n hx hb dX6_listSteps_48 rfl (lv_at hl 2 rfl) ?_
        refine gf_X6_22 (b := (sp 4)) X hw k0 r43 dX6_listSteps_49 ?_
        refine lv_aload_n hx hb dX6_listSteps_52 rfl (lv_at hl 2 rfl) ?_
        refine gf_X6_68 (v := I29 46 (sp 0)) X hw k0 rfl dX6_listSteps_53 ?_
        refine lv_iconst (v := 1) hx hb dX6_listSteps_56 (by decide) ?_
        refine lv_isub hx hb dX6_listSteps_57 ?_
        refine lv_topi (fun v57_12 e57_12 => ?_)
        have t57_12 := iSub e57_12 rfl t_1 (by omega) (by omega)
        have t57 := t57_12
        refine q_ldI X hw k4 (vin n4 (by omega) (by omega)) dX6_listSteps_58 ?_
        refine lv_topi (fun v58_13 e58_13 => ?_)
        have e58_13 : v58_13 = q29 (sp 4) v57_12.toNatClampNeg := e58_13
        have e58n := e58_13
        refine lv_icmp_le (tgt := 93) hx hb dX6_listSteps_59 (by decide) (fun c59_14 => ?_) (fun c59_14 => ?_)
        · have D59_14 := iLe c59_14 rfl rfl
          obtain ⟨v93_15, e93_15⟩ : ∃ y : Int32, y = v + 1 := ⟨_, rfl⟩
          have t93_15 := iAdd e93_15 rfl t_1 (by omega) (by omega)
          have t93 := t93_15
          refine lv_iinc (v := v93_15) (lv' := [(3, .int v93_15), (4, .int v43_11), (0, .ref (sp 0)), (1, .ref (sa 0)), (2, .int w)]) hx hb dX6_listSteps_93 hl (k := 1) rfl (by rw [e93_15]; rfl) (by decide) rfl (fun ls hl => ?_)
          refine lv_goto (tgt := 29) hx hb dX6_listSteps_96 (by decide) ?_
          exact ih29 I29 q29 v93_15 (by first | exact hI | exact fun f hf => (up2_f hf).trans (hI f hf)) (by omega) (by first | omega | (simp only [up2_s]; omega)) (by first | exact hs | exact spS_push hs (by omega) (by assumption) (by rw [c82, vu_n ne, c71, vu_s]) (by omega)) (by first | exact h13 | exact (h13.up 3 (by decide) (by decide) c71).up 4 (by decide) (by decide) c82) (by first | exact h1q | (rw [c82, vu_n n14, c71, vu_n n13]; exact h1q)) (by first | exact stT_n hgg hst ⟨by omega, by omega⟩ hk.1 t57 t93 hsh e58n (by omega) | (simp only [up2_s]; exact stT_y hst ⟨by omega, by omega⟩ hk.1 t89 t93 hsh (by rw [c82, vu_n ne, c71, vu_s]) (by rw [c82, vu_s, c71, vu_n ne.symm]))) (by omega) _ _ _ hw (lv_sub hl [0, 2, 3, 4] rfl)
        · have D59_14 := iNle c59_14 rfl rfl
          refine lv_aload_n hx hb dX6_listSteps_62 rfl (lv_at hl 2 rfl) ?_
          refine gf_X6_19 (b := (sp 3)) X hw k0 r42 dX6_listSteps_63 ?_
          refine lv_aload_n hx hb dX6_listSteps_66 rfl (lv_at hl 2 rfl) ?_
          refine gf_X6_68 (v := I29 46 (sp 0)) X hw k0 rfl dX6_listSteps_67 ?_
          refine lv_iload_n hx hb dX6_listSteps_70 rfl (lv_at hl 1 rfl) ?_
          refine q_stI X hw k3 (vin n3 (by omega) (by omega)) dX6_listSteps_71 (fun H locs hw => ?_)
          obtain ⟨q71_16, eq71_16, hw⟩ : ∃ zz9, zz9 = va_up q29 (sp 3) (upd (q29 (sp 3)) (I29 46 (sp 0)).toNatClampNeg v) ∧ PX G A s.heap (ch S I29 (pJ S) zz9 (qJ S)) H locs := ⟨_, rfl, hw⟩
          have c71 := eq71_16
          refine lv_aload_n hx hb dX6_listSteps_72 rfl (lv_at hl 2 rfl) ?_
          refine gf_X6_22 (b := (sp 4)) X hw k0 r43 dX6_listSteps_73 ?_
          refine lv_aload_n hx hb dX6_listSteps_76 rfl (lv_at hl 2 rfl) ?_
          refine gf_X6_68 (v := I29 46 (sp 0)) X hw k0 rfl dX6_listSteps_77 ?_
          refine lv_iload hx hb dX6_listSteps_80 (lv_at hl 0 rfl) ?_
          refine q_stI X hw k4 (vin n4 (by omega) (by omega)) dX6_listSteps_82 (fun H locs hw => ?_)
          obtain ⟨q82_17, eq82_17, hw⟩ : ∃ zz9, zz9 = va_up q71_16 (sp 4) (upd (q71_16 (sp 4)) (I29 46 (sp 0)).toNatClampNeg v43_11) ∧ PX G A s.heap (ch S I29 (pJ S) zz9 (qJ S)) H locs := ⟨_, rfl, hw⟩
          have c82 := eq82_17
          refine lv_aload_n hx hb dX6_listSteps_83 rfl (lv_at hl 2 rfl) ?_
          refine lv_dup hx hb dX6_listSteps_84 rfl ?_
          refine gf_X6_68 (v := I29 46 (sp 0)) X hw k0 rfl dX6_listSteps_85 ?_
          refine lv_iconst (v := 1) hx hb dX6_listSteps_88 (by decide) ?_
          refine lv_iadd hx hb dX6_listSteps_89 ?_
          refine lv_topi (fun v89_18 e89_18 => ?_)
          have t89_18 := iAdd e89_18 rfl t_1 (by omega) (by omega)
          have t89 := t89_18
          refine pf_X6_68 X hw k0 dX6_listSteps_90 (fun H locs hw => ?_)
          have hw : PX G A s.heap (ch S (up2 I29 46 (sp 0) v89_18) (pJ S) q82_17 (qJ S)) H locs := hw
          obtain ⟨v93_19, e93_19⟩ : ∃ y : Int32, y = v + 1 := ⟨_, rfl⟩
          have t93_19 := iAdd e93_19 rfl t_1 (by omega) (by omega)
          have t93 := t93_19
          refine lv_iinc (v := v93_19) (lv' := [(3, .int v93_19), (4, .int v43_11), (0, .ref (sp 0)), (1, .ref (sa 0)), (2, .int w)]) hx hb dX6_listSteps_93 hl (k := 1) rfl (by rw [e93_19]; rfl) (by decide) rfl (fun ls hl => ?_)
          refine lv_goto (tgt := 29) hx hb dX6_listSteps_96 (by decide) ?_
          exact ih29 (up2 I29 46 (sp 0) v89_18) q82_17 v93_19 (by first | exact hI | exact fun f hf => (up2_f hf).trans (hI f hf)) (by omega) (by first | omega | (simp only [up2_s]; omega)) (by first | exact hs | exact spS_push hs (by omega) (by assumption) (by rw [c82, vu_n ne, c71, vu_s]) (by omega)) (by first | exact h13 | exact (h13.up 3 (by decide) (by decide) c71).up 4 (by decide) (by decide) c82) (by first | exact h1q | (rw [c82, vu_n n14, c71, vu_n n13]; exact h1q)) (by first | exact stT_n hgg hst ⟨by omega, by omega⟩ hk.1 t57 t93 hsh e58n (by omega) | (simp only [up2_s]; exact stT_y hst ⟨by omega, by omega⟩ hk.1 t89 t93 hsh (by rw [c82, vu_n ne, c71, vu_s]) (by rw [c82, vu_s, c71, vu_n ne.symm]))) (by omega) _ _ _ hw (lv_sub hl [0, 2, 3, 4] rfl)
  exact lp29 _ (up2 (pI S) 46 (sp 0) 1) q21_6 1 (fun f hf => up2_f hf) (by have := t_1; omega) (by simp only [up2_s]; decide) (spS_one c6 c21 ne) ((KP.rf.up 3 (by decide) (by decide) c6).up 4 (by decide) (by decide) c21) (by rw [c21, vu_n n14, c6, vu_n n13]) (by simp only [up2_s]; exact stT_1 hgg (spl_0 c6 c21 ne).1 (by rw [(spl_0 c6 c21 ne).2, hsh0, hgg.1])) (Nat.lt_succ_self _) _ _ _ hw (lv_sub hl [0, 1, 2, 3] rfl)
set_option maxHeartbeats 4000000 in
set_option maxRecDepth 100000 in
theorem c_v_X6_shownBy (l : Launch) (G : Gh) (S : Pl) (sp : Nat → Nat) (i n x : Int32) (od : Nat → Int64) (gg : Nat → Int) (ce : Nat) (hP : shSpl S sp) (hi : 0 ≤ i.toInt ∧ i.toInt < 40) (hn : 0 ≤ n.toInt ∧ n.toInt ≤ 40) (hx0 : 0 ≤ x.toInt ∧ x.toInt < 21) (h3 : 0 ≤ (qI S (sp 3) x.toNatClampNeg).toInt ∧ (qI S (sp 3) x.toNatClampNeg).toInt ≤ n.toInt ∧ (qI S (sp 3) x.toNatClampNeg).toInt ≤ 20) (hod : cOK od 40000000000000000) (hgg : gOK gg) (hcc : ce < 64) (hoc : qJ S (sp 2) i.toNatClampNeg = od ce) (hnx : ∀ m : Nat, m ≤ n.toNatClampNeg → (qJ S (sp 5) (41 * (i.toNatClampNeg + 1) + m)).toInt = val (oOf od) gg (63 - ce) m) (hfx : (qI S (sp 4) x.toNatClampNeg).toInt = gg (qI S (sp 3) x.toNatClampNeg).toNatClampNeg) : MtL l yX6_shownBy cX6_shownBy 4 (some .long) (Rm 0 0 0) G [.ref (sp 0), .int i, .int n, .int x] S (fun (r : Int64) (S' : Pl) => S = S' ∧ r.toInt = chV (oOf od) gg (63 - ce) n.toNatClampNeg (qI S (sp 3) x.toNatClampNeg).toNatClampNeg) 0 0 := by
  refine MtL.of (by decide) (Nat.le_of_ble_eq_true rfl) ?_
  intro p e s m args below meth c Q A X hw hin hret ls hl
  have hx := X.1.1
  have hb := X.1.2.1
  have hl : lv_has ls 4 [(0, .ref (sp 0)), (1, .int i), (2, .int n), (3, .int x)] := hl
  obtain ⟨k0, r40, r41, r42, r43, r44, k1, n1, k2, n2, k3, n3, k4, n4, k5, n5, ne⟩ := id hP
  refine lv_aload_n hx hb dX6_shownBy_0 rfl (lv_at hl 0 rfl) ?_
  refine gf_X6_15 (b := (sp 2)) X hw k0 r41 dX6_shownBy_1 ?_
  refine lv_iload_n hx hb dX6_shownBy_4 rfl (lv_at hl 1 rfl) ?_
  refine q_ldJ X hw k2 (vin n2 (by omega) (by omega)) dX6_shownBy_5 ?_
  refine lv_topl (fun v5_1 e5_1 => ?_)
  have e5_1 : v5_1 = (qJ S) (sp 2) i.toNatClampNeg := e5_1
  have e5n := e5_1
  refine lv_aload_n hx hb dX6_shownBy_6 rfl (lv_at hl 0 rfl) ?_
  refine gf_X6_22 (b := (sp 4)) X hw k0 r43 dX6_shownBy_7 ?_
  refine lv_iload_n hx hb dX6_shownBy_10 rfl (lv_at hl 3 rfl) ?_
  refine q_ldI X hw k4 (vin n4 (by omega) (by omega)) dX6_shownBy_11 ?_
  refine lv_topi (fun v11_2 e11_2 => ?_)
  have e11_2 : v11_2 = (qI S) (sp 4) x.toNatClampNeg := e11_2
  have e11n := e11_2
  refine lv_i2l hx hb dX6_shownBy_12 rfl ?_
  refine lv_topl (fun v12_3 e12_3 => ?_)
  have k12 : v12_3.toInt = v11_2.toInt := by rw [e12_3]; exact i2l_t _
  refine lv_lmul hx hb dX6_shownBy_13 ?_
  refine lv_topl (fun v13_4 e13_4 => ?_)
  have e13n := e13_4
  refine lv_aload_n hx hb dX6_shownBy_14 rfl (lv_at hl 0 rfl) ?_
  refine gf_X6_25 (b := (sp 5)) X hw k0 r44 dX6_shownBy_15 ?_
  refine lv_iload_n hx hb dX6_shownBy_18 rfl (lv_at hl 1 rfl) ?_
  refine lv_iconst (v := 1) hx hb dX6_shownBy_19 (by decide) ?_
  refine lv_iadd hx hb dX6_shownBy_20 ?_
  refine lv_topi (fun v20_5 e20_5 => ?_)
  have t20_5 := iAdd e20_5 rfl t_1 (by omega) (by omega)
  have t20 := t20_5
  refine lv_bipush (v := 41) hx hb dX6_shownBy_21 (by decide) ?_
  refine lv_imul hx hb dX6_shownBy_23 ?_
  refine lv_topi (fun v23_6 e23_6 => ?_)
  have t23_6 := iMul e23_6 rfl t_41 (by omega) (by omega)
  have t23 := t23_6
  refine lv_iload_n hx hb dX6_shownBy_24 rfl (lv_at hl 2 rfl) ?_
  refine lv_iadd hx hb dX6_shownBy_25 ?_
  refine lv_topi (fun v25_7 e25_7 => ?_)
  have t25_7 := iAdd e25_7 rfl rfl (by omega) (by omega)
  have t25 := t25_7
  refine lv_aload_n hx hb dX6_shownBy_26 rfl (lv_at hl 0 rfl) ?_
  refine gf_X6_19 (b := (sp 3)) X hw k0 r42 dX6_shownBy_27 ?_
  refine lv_iload_n hx hb dX6_shownBy_30 rfl (lv_at hl 3 rfl) ?_
  refine q_ldI X hw k3 (vin n3 (by omega) (by omega)) dX6_shownBy_31 ?_
  refine lv_topi (fun v31_8 e31_8 => ?_)
  have e31_8 : v31_8 = (qI S) (sp 3) x.toNatClampNeg := e31_8
  have g31 := congrArg Int32.toInt e31_8
  refine lv_isub hx hb dX6_shownBy_32 ?_
  refine lv_topi (fun v32_9 e32_9 => ?_)
  have t32_9 := iSub e32_9 rfl rfl (by omega) (by omega)
  have t32 := t32_9
  refine q_ldJ X hw k5 (vin n5 (by omega) (by omega)) dX6_shownBy_33 ?_
  refine lv_topl (fun v33_10 e33_10 => ?_)
  have e33_10 : v33_10 = (qJ S) (sp 5) v32_9.toNatClampNeg := e33_10
  have := cl_toInt (x := i) hi.1
  have := cl_toInt (x := n) hn.1
  have := cl_toInt (x := (qI S (sp 3) x.toNatClampNeg)) h3.1
  have h33 : v33_10.toInt = val (oOf od) gg (63 - ce) (n.toNatClampNeg - (qI S (sp 3) x.toNatClampNeg).toNatClampNeg) := by rw [e33_10, show v32_9.toNatClampNeg = 41 * (i.toNatClampNeg + 1) + (n.toNatClampNeg - (qI S (sp 3) x.toNatClampNeg).toNatClampNeg) by have := cl_toInt (x := v32_9) (by omega); omega]; exact hnx _ (by omega)
  refine lv_ladd hx hb dX6_shownBy_34 ?_
  refine lv_topl (fun v34_11 e34_11 => ?_)
  have e34n := e34_11
  exact hret v34_11 _ _ _ _ _ ⟨rfl, shB hod hgg hcc (e5n.trans hoc) ((congrArg Int32.toInt e11n).trans hfx) k12 e13n (by omega) h33 e34n⟩ hw dX6_shownBy_35
set_option maxHeartbeats 4000000 in
set_option maxRecDepth 100000 in
theorem c_v_X6_mostFrom (l : Launch) (G : Gh) (S : Pl) (sp : Nat → Nat) (i n : Int32) (od : Nat → Int64) (gg : Nat → Int) (ce : Nat) (hP : shSpl S sp) (hN : spN (pI S) sp) (hs : spS (pI S) (qI S) sp) (hi : 0 ≤ i.toInt ∧ i.toInt < 40) (hn : 0 ≤ n.toInt ∧ n.toInt ≤ 40) (hod : cOK od 40000000000000000) (hgg : gOK gg) (hcc : ce < 64) (hoc : qJ S (sp 2) i.toNatClampNeg = od ce) (hnx : ∀ m : Nat, m ≤ n.toNatClampNeg → (qJ S (sp 5) (41 * (i.toNatClampNeg + 1) + m)).toInt = val (oOf od) gg (63 - ce) m) (hst : stT gg (qI S (sp 3)) (qI S (sp 4)) (pI S 46 (sp 0)).toNatClampNeg 21) : MtL l yX6_mostFrom cX6_mostFrom 6 (some .long) (Rm 1 0 0) G [.ref (sp 0), .int i, .int n] S (fun (r : Int64) (S' : Pl) => S = S' ∧ r.toInt = val (oOf od) gg (63 - ce + 1) n.toNatClampNeg) 0 0 := by
  refine MtL.of (by decide) (Nat.le_of_ble_eq_true rfl) ?_
  intro p e s m args below meth c Q A X hw hin hret ls hl
  have hx := X.1.1
  have hb := X.1.2.1
  have hl : lv_has ls 6 [(0, .ref (sp 0)), (1, .int i), (2, .int n)] := hl
  obtain ⟨k0, r40, r41, r42, r43, r44, k1, n1, k2, n2, k3, n3, k4, n4, k5, n5, ne⟩ := id hP
  obtain ⟨u1, u2, u3, u4, u5, u6⟩ := id hN
  refine lv_lconst (v := 0) hx hb dX6_mostFrom_0 (by decide) ?_
  refine lv_lstore_n (lv' := [(3, .long 0), (0, .ref (sp 0)), (1, .int i), (2, .int n)]) hx hb dX6_mostFrom_1 rfl hl (by decide) rfl (fun ls hl => ?_)
  refine lv_iconst (v := 0) hx hb dX6_mostFrom_2 (by decide) ?_
  refine lv_istore (lv' := [(5, .int 0), (3, .long 0), (0, .ref (sp 0)), (1, .int i), (2, .int n)]) hx hb dX6_mostFrom_3 hl (by decide) rfl (fun ls hl => ?_)
  have lp5 : ∀ (N9 : Nat) (t : Int64) (x : Int32), (0 ≤ x.toInt ∧ x.toInt ≤ 21 ∧ x.toInt ≤ (pI S 46 (sp 0)).toInt) → (stB (oOf od) gg (63 - ce) n.toNatClampNeg (qI S (sp 3)) x.toNatClampNeg t.toInt) → (21 - x.toInt).toNat < N9 → ∀ (H : Heap) (locs : List Loc) (ls : Array Slot), PX G A s.heap S H locs → lv_has ls 6 [(5, .int x), (3, .long t), (0, .ref (sp 0)), (1, .int i), (2, .int n)] → W p l e (Rm 1 0 0) s m args below meth c H locs 0 0 Q (F0 m 5 ls []) := by
    intro N9
    induction N9 with
    | zero => intro t x hx0 hB hm; exact absurd hm (Nat.not_lt_zero _)
    | succ N9 ih5 =>
      intro t x hx0 hB hm H locs ls hw hl
      refine lv_iload hx hb dX6_mostFrom_5 (lv_at hl 0 rfl) ?_
      refine lv_aload_n hx hb dX6_mostFrom_7 rfl (lv_at hl 2 rfl) ?_
      refine gf_X6_68 (v := (pI S) 46 (sp 0)) X hw k0 rfl dX6_mostFrom_8 ?_
      refine lv_icmp_ge (tgt := 44) hx hb dX6_mostFrom_11 (by decide) (fun c11_1 => ?_) (fun c11_1 => ?_)
      · have D11_1 := iLe c11_1 rfl rfl
        refine lv_lload_n hx hb dX6_mostFrom_44 rfl (lv_at hl 1 rfl) ?_
        exact hret t _ _ _ _ _ ⟨rfl, stB_e (oOf_nn hod) hgg hst hB (by have := cl_toInt (x := x) hx0.1; have := cl_toInt (x := n) hn.1; have := cl_toInt (x := pI S 46 (sp 0)) (by omega); omega) (by have := cl_toInt (x := x) hx0.1; have := cl_toInt (x := n) hn.1; have := cl_toInt (x := pI S 46 (sp 0)) (by omega); omega)⟩ hw dX6_mostFrom_45
      · have D11_1 := iNle c11_1 rfl rfl
        refine lv_aload_n hx hb dX6_mostFrom_14 rfl (lv_at hl 2 rfl) ?_
        refine gf_X6_19 (b := (sp 3)) X hw k0 r42 dX6_mostFrom_15 ?_
        refine lv_iload hx hb dX6_mostFrom_18 (lv_at hl 0 rfl) ?_
        refine q_ldI X hw k3 (vin n3 (by omega) (by omega)) dX6_mostFrom_20 ?_
        refine lv_topi (fun v20_2 e20_2 => ?_)
        have e20_2 : v20_2 = (qI S) (sp 3) x.toNatClampNeg := e20_2
        have gv20_2 := congrArg Int32.toInt e20_2
        have zv20_2 := spS_at hs (x := x) (by omega) (by omega)
        have hx9 := (hst.2.2.1 x.toNatClampNeg (by have := cl_toInt (x := x) hx0.1; have := cl_toInt (x := pI S 46 (sp 0)) (by omega); omega)).2
        refine lv_iload_n hx hb dX6_mostFrom_21 rfl (lv_at hl 4 rfl) ?_
        refine lv_icmp_gt (tgt := 44) hx hb dX6_mostFrom_22 (by decide) (fun c22_3 => ?_) (fun c22_3 => ?_)
        · have D22_3 := iLt c22_3 rfl rfl
          refine lv_lload_n hx hb dX6_mostFrom_44 rfl (lv_at hl 1 rfl) ?_
          exact hret t _ _ _ _ _ ⟨rfl, stB_e (oOf_nn hod) hgg hst hB (by have := cl_toInt (x := x) hx0.1; have := cl_toInt (x := n) hn.1; have := cl_toInt (x := pI S 46 (sp 0)) (by omega); omega) (by have := cl_toInt (x := x) hx0.1; have := cl_toInt (x := n) hn.1; have := cl_toInt (x := pI S 46 (sp 0)) (by omega); omega)⟩ hw dX6_mostFrom_45
        · have D22_3 := iNlt c22_3 rfl rfl
          refine lv_lload_n hx hb dX6_mostFrom_25 rfl (lv_at hl 1 rfl) ?_
          refine lv_aload_n hx hb dX6_mostFrom_26 rfl (lv_at hl 2 rfl) ?_
          refine lv_iload_n hx hb dX6_mostFrom_27 rfl (lv_at hl 3 rfl) ?_
          refine lv_iload_n hx hb dX6_mostFrom_28 rfl (lv_at hl 4 rfl) ?_
          refine lv_iload hx hb dX6_mostFrom_29 (lv_at hl 0 rfl) ?_
          refine k_Vl (n := 3) X hw (rcvk (ci := 6) X hw k0 (fun _ _ _ _ _ _ _ => ⟨_, rfl⟩) rfl) (c_v_X6_shownBy l G _ sp i n x od gg ce hP (by omega) (by omega) (by omega) (by omega) hod hgg hcc hoc hnx hx9) wd_r40_19 wd_r40_20 wd_r40_21 wd_r2_3 wd_r40_22 ⟨by decide, by decide, by decide +kernel⟩ rfl rfl ⟨Nat.le_of_ble_eq_true rfl, Nat.le_of_ble_eq_true rfl⟩ rfl rfl hl.1 (Nat.le_of_ble_eq_true rfl) dX6_mostFrom_31 ⟨Nat.le_of_ble_eq_true rfl, Nat.le_of_ble_eq_true rfl⟩ (fun r31_4 S31_6 H locs h31_5 hw => ?_)
          obtain ⟨rfl, h31_5⟩ := h31_5
          have hw9 := h31_5
          refine va_mmax_long hx hb (by rw [X.1.2.2.1]; exact hl.1.symm) X.1.2.2.2.1 (X.1.2.2.2.2 _ wd_r40_16) (X.1.2.2.2.2 _ wd_r40_17) (X.1.2.2.2.2 _ wd_r28_6) (X.1.2.2.2.2 _ wd_r40_18) (Nat.le_of_ble_eq_true rfl) (Nat.le_of_ble_eq_true rfl) (Nat.zero_le _) (Nat.zero_le _) dX6_mostFrom_34 ?_
          refine lv_topl (fun v34_7 e34_7 => ?_)
          have e34n := e34_7
          refine lv_lstore_n (lv' := [(3, .long v34_7), (5, .int x), (0, .ref (sp 0)), (1, .int i), (2, .int n)]) hx hb dX6_mostFrom_37 rfl hl (by decide) rfl (fun ls hl => ?_)
          obtain ⟨v38_8, e38_8⟩ : ∃ y : Int32, y = x + 1 := ⟨_, rfl⟩
          have t38_8 := iAdd e38_8 rfl t_1 (by omega) (by omega)
          have t38 := t38_8
          refine lv_iinc (v := v38_8) (lv' := [(5, .int v38_8), (3, .long v34_7), (0, .ref (sp 0)), (1, .int i), (2, .int n)]) hx hb dX6_mostFrom_38 hl (k := 1) rfl (by rw [e38_8]; rfl) (by decide) rfl (fun ls hl => ?_)
          refine lv_goto (tgt := 5) hx hb dX6_mostFrom_41 (by decide) ?_
          exact ih5  v34_7 v38_8 (by omega) (stB_s hB hx0.1 t38 hw9 (by have := cl_toInt (x := x) hx0.1; have := cl_toInt (x := n) hn.1; have := cl_toInt (x := pI S 46 (sp 0)) (by omega); omega) e34n) (by omega) _ _ _ hw (lv_sub hl [0, 1, 2, 3, 4] rfl)
  exact lp5 _  0 0 (by have := t_0; omega) stB_0 (Nat.lt_succ_self _) _ _ _ hw (lv_sub hl [0, 1, 2, 3, 4] rfl)
