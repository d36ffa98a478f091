
/-! ===== sums over the tales, purely ===== -/
def ppV (p : PP) : Prop := (0 ≤ p.1.toInt ∧ p.1.toInt ≤ 72) ∧ ((p.2.2.2.2.2.1.toInt = 2 ∧ (0 ≤ p.2.1.toInt ∧ p.2.1.toInt < 80 ∧ 0 ≤ p.2.2.1.toInt ∧ p.2.2.1.toInt < 80) ∧ (0 ≤ p.2.2.2.2.2.2.toInt ∧ p.2.2.2.2.2.2.toInt ≤ 100)) ∨ ((0 ≤ p.2.2.2.2.2.1.toInt ∧ p.2.2.2.2.2.1.toInt < 2) ∧ (0 ≤ p.2.2.2.2.2.2.toInt ∧ p.2.2.2.2.2.2.toInt ≤ 20)))
theorem ppV.o {p : PP} (h : ppV p) : ppO p := by
  rcases h.2 with ⟨a, b, c⟩ | ⟨a, b⟩
  · exact Or.inl ⟨a, b⟩
  · exact Or.inr a
theorem sm_b {r : Nat → Int32} (h : ∀ i, i < 42 → r i = -1 ∨ (0 ≤ (r i).toInt ∧ (r i).toInt ≤ 100)) : ∀ n, n < 42 → 0 ≤ (sm r n).toInt ∧ (sm r n).toInt ≤ 100
  | 0, hn => by
    show 0 ≤ (if r 0 = -1 then (100 : Int32) else r 0).toInt ∧ (if r 0 = -1 then (100 : Int32) else r 0).toInt ≤ 100
    by_cases q : r 0 = -1
    · rw [if_pos q]; decide
    · rw [if_neg q]; exact (h 0 hn).resolve_left q
  | n + 1, hn => by
    show 0 ≤ (if r (n + 1) = -1 then (if (n + 1) % 21 = 0 then (100 : Int32) else sm r n) else r (n + 1)).toInt ∧ (if r (n + 1) = -1 then (if (n + 1) % 21 = 0 then (100 : Int32) else sm r n) else r (n + 1)).toInt ≤ 100
    by_cases q : r (n + 1) = -1
    · rw [if_pos q]
      by_cases g : (n + 1) % 21 = 0
      · rw [if_pos g]; decide
      · rw [if_neg g]; exact sm_b h n (by omega)
    · rw [if_neg q]; exact (h (n + 1) hn).resolve_left q
theorem wgh_b {V : SV} {s : D3} {p : PP} (hv : vok V) (h : ppV p) : 0 ≤ (wgh V.2 s p).toInt ∧ (wgh V.2 s p).toInt ≤ 100 := by
  have t100 : (100 : Int32).toInt = 100 := by decide
  rcases h.2 with ⟨a, b, c⟩ | ⟨a, b⟩
  · by_cases g : cluC s p
    · rw [wg_c1 a g]; omega
    · rw [wg_c0 a g]; exact c
  · by_cases g : srhC s p
    · rw [wg_s1 (by omega) g]
      have c1 := cl_toInt a.1
      have c2 := cl_toInt b.1
      exact sm_b hv.2.2.2.2.2.1 _ (by omega)
    · rw [wg_s0 (by omega) g]; omega
theorem od_b {C : Nat → Nat → Int32} {P : TP} {pl : Nat → PP} {bk : Nat → Int32} (hP : 1 ≤ P.2.2.2.2.toInt ∧ P.2.2.2.2.toInt ≤ 1000) : ∀ n, (∀ k, k < n → 0 ≤ (wgh C (drA C P (pl k).1.toNatClampNeg) (pl k)).toInt ∧ (wgh C (drA C P (pl k).1.toNatClampNeg) (pl k)).toInt ≤ 100) → cntB bk n ≤ 6 → 0 ≤ (odF C P pl bk n).toInt ∧ (odF C P pl bk n).toInt ≤ 1000 * pw100 (cntB bk n)
  | 0, _, _ => by
    show 0 ≤ P.2.2.2.2.toInt64.toInt ∧ P.2.2.2.2.toInt64.toInt ≤ 1000 * pw100 0
    rw [i2l_t]; simp only [pw100]; omega
  | n + 1, hw, h6 => by
    by_cases q : bk n = 0
    · have ec : cntB bk (n + 1) = cntB bk n + 1 := by simp only [cntB]; rw [if_pos q]
      rw [ec] at h6 ⊢
      have i := od_b (bk := bk) hP n (fun k hk => hw k (by omega)) (by omega)
      have w := hw n (by omega)
      have p6 := pw100_6 h6
      have pk : pw100 (cntB bk n + 1) = 100 * pw100 (cntB bk n) := rfl
      rw [pk] at p6 ⊢
      simp only [odF]
      rw [if_pos q]
      generalize odF C P pl bk n = u at *
      generalize wgh C (drA C P (pl n).1.toNatClampNeg) (pl n) = v at *
      generalize pw100 (cntB bk n) = k at *
      have m0 : 0 ≤ u.toInt * v.toInt := Int.mul_nonneg i.1 w.1
      have m1 : u.toInt * v.toInt ≤ u.toInt * 100 := Int.mul_le_mul_of_nonneg_left w.2 i.1
      have e := lMul (v := u * v.toInt64) rfl rfl (i2l_t v) (by omega) (by omega)
      rw [e]; omega
    · have ec : cntB bk (n + 1) = cntB bk n := by simp only [cntB]; rw [if_neg q]; rfl
      rw [ec] at h6 ⊢
      simp only [odF]
      rw [if_neg q]
      exact od_b (bk := bk) hP n (fun k hk => hw k (by omega)) h6
def alF (O : Nat → Int64) : Nat → Int64
  | 0 => 0
  | n + 1 => alF O n + O n
def sbF (C : Nat → Nat → Int32) (tl : Nat → TP) (O : Nat → Int64) (t : Nat) (z : Int32) : Nat → Nat → Int64
  | 0 => fun _ => 0
  | n + 1 => fun c => if ((drA C (tl n) t).2.2.toInt ≠ 2 ∧ (z = 0 ∨ (drA C (tl n) t).2.2.toInt = 0)) ∧ c = (cellZ (drA C (tl n) t).1 (drA C (tl n) t).2.1).toNatClampNeg then sbF C tl O t z n c + O n else sbF C tl O t z n c
section SBF
variable {C : Nat → Nat → Int32} {tl : Nat → TP} {O : Nat → Int64} {t : Nat} {z : Int32} {y y1 : Nat → Nat → Int64} {a : Nat} {i i' c : Int32} {u v w : Int64}
theorem alf_0 : (0 : Int64) = alF O (0 : Int32).toNatClampNeg := by rw [show (0 : Int32).toNatClampNeg = 0 by decide]; rfl
theorem alf_s (h : u = alF O i.toNatClampNeg) (h0 : 0 ≤ i.toInt) (ti : i'.toInt = i.toInt + 1) (hw : w = O i.toNatClampNeg) (e : v = u + w) : v = alF O i'.toNatClampNeg := by
  have a := cl_toInt h0
  have b := cl_toInt (x := i') (by omega)
  rw [show i'.toNatClampNeg = i.toNatClampNeg + 1 by omega, alF, e, hw, h]
def sbR (y : Nat → Nat → Int64) (a : Nat) (C : Nat → Nat → Int32) (tl : Nat → TP) (O : Nat → Int64) (t : Nat) (z : Int32) (n : Nat) : Prop := ∀ k, k < 64 → y a k = sbF C tl O t z n k
theorem sb_0 (h : ∀ k : Nat, (k : Int) < 64 → y a k = 0) : sbR y a C tl O t z (0 : Int32).toNatClampNeg := fun k hk => by
  rw [show (0 : Int32).toNatClampNeg = 0 by decide]; exact h k (by omega)
/-- a tale that counts -/
theorem sb_y (h : sbR y a C tl O t z i.toNatClampNeg) (h0 : 0 ≤ i.toInt) (ti : i'.toInt = i.toInt + 1) (hin : (drA C (tl i.toNatClampNeg) t).2.2.toInt ≠ 2 ∧ (z = 0 ∨ (drA C (tl i.toNatClampNeg) t).2.2.toInt = 0)) (hc : c = cellZ (drA C (tl i.toNatClampNeg) t).1 (drA C (tl i.toNatClampNeg) t).2.1) (hcb : 0 ≤ c.toInt ∧ c.toInt < 64) (eu : u = y a c.toNatClampNeg) (hw : w = O i.toNatClampNeg) (ev : v = u + w) (ey : y1 = va_up y a (vp_updL (y a) c.toNatClampNeg v)) : sbR y1 a C tl O t z i'.toNatClampNeg := fun k hk => by
  have e1 := cl_toInt h0
  have e2 := cl_toInt (x := i') (by omega)
  have e3 := cl_toInt hcb.1
  rw [show i'.toNatClampNeg = i.toNatClampNeg + 1 by omega, ey, vu_s]
  simp only [sbF]
  by_cases g : k = c.toNatClampNeg
  · rw [g, pk_uLs, if_pos ⟨hin, by rw [hc]⟩, ev, eu, hw, h _ (by omega)]
  · rw [pk_uLn g, if_neg (fun q => g (by rw [hc]; exact q.2)), h k hk]
/-- one that doesn't -/
theorem sb_n (h : sbR y a C tl O t z i.toNatClampNeg) (h0 : 0 ≤ i.toInt) (ti : i'.toInt = i.toInt + 1) (hin : ¬ ((drA C (tl i.toNatClampNeg) t).2.2.toInt ≠ 2 ∧ (z = 0 ∨ (drA C (tl i.toNatClampNeg) t).2.2.toInt = 0))) : sbR y a C tl O t z i'.toNatClampNeg := fun k hk => by
  have e1 := cl_toInt h0
  have e2 := cl_toInt (x := i') (by omega)
  rw [show i'.toNatClampNeg = i.toNatClampNeg + 1 by omega]
  simp only [sbF]
  rw [if_neg (fun q => hin q.1)]
  exact h k hk
theorem alf_b {N : Nat} (hN : N ≤ 40) (h : ∀ k, k < N → 0 ≤ (O k).toInt ∧ (O k).toInt ≤ 1000000000000000) : ∀ n, n ≤ N → 0 ≤ (alF O n).toInt ∧ (alF O n).toInt ≤ 1000000000000000 * (n : Int)
  | 0, _ => by show 0 ≤ (0 : Int64).toInt ∧ (0 : Int64).toInt ≤ _; rw [show (0 : Int64).toInt = 0 by decide]; omega
  | n + 1, hn => by
    have i := alf_b hN h n (by omega)
    have o := h n (by omega)
    have e := lAdd (v := alF O (n + 1)) rfl rfl rfl (by omega) (by omega)
    rw [e]; omega
theorem sbb_b {N : Nat} (hN : N ≤ 40) (h : ∀ k, k < N → 0 ≤ (O k).toInt ∧ (O k).toInt ≤ 1000000000000000) (k : Nat) : ∀ n, n ≤ N → 0 ≤ (sbF C tl O t z n k).toInt ∧ (sbF C tl O t z n k).toInt ≤ (alF O n).toInt
  | 0, _ => by show 0 ≤ (0 : Int64).toInt ∧ (0 : Int64).toInt ≤ (0 : Int64).toInt; decide
  | n + 1, hn => by
    have i := sbb_b hN h k n (by omega)
    have a := alf_b hN h n (by omega)
    have o := h n (by omega)
    have e := lAdd (v := alF O (n + 1)) rfl rfl rfl (by omega) (by omega)
    simp only [sbF]
    split
    · have e2 := lAdd (v := sbF C tl O t z n k + O n) rfl rfl rfl (by omega) (by omega)
      rw [e, e2]; omega
    · rw [e]; omega
end SBF
theorem sc_d {s : D3} {r : Int32} (e : r = if s.2.2.toInt = 2 then -1 else cellZ s.1 s.2.1) : (s.2.2.toInt = 2 ∧ r.toInt = -1) ∨ (s.2.2.toInt ≠ 2 ∧ r = cellZ s.1 s.2.1) := by
  by_cases q : s.2.2.toInt = 2
  · rw [if_pos q] at e; exact Or.inl ⟨q, by rw [e]; decide⟩
  · rw [if_neg q] at e; exact Or.inr ⟨q, e⟩
theorem sc_y {s : D3} {r : Int32} (h : (s.2.2.toInt = 2 ∧ r.toInt = -1) ∨ (s.2.2.toInt ≠ 2 ∧ r = cellZ s.1 s.2.1)) (hr : 0 ≤ r.toInt) : s.2.2.toInt ≠ 2 ∧ r = cellZ s.1 s.2.1 := by
  rcases h with h | h
  · omega
  · exact h
theorem sc_no {s : D3} {r : Int32} (h : (s.2.2.toInt = 2 ∧ r.toInt = -1) ∨ (s.2.2.toInt ≠ 2 ∧ r = cellZ s.1 s.2.1)) (ok : okD s) (hn : ¬ (0 ≤ r.toInt ∧ r.toInt < 64)) : s.2.2.toInt = 2 := by
  rcases h with h | h
  · exact h.1
  · exact absurd (by rw [h.2]; exact cell_b ok.1) hn
/-! ===== Euclid ===== -/
def fbp : Nat → Int × Int
  | 0 => (0, 1)
  | n + 1 => ((fbp n).2, (fbp n).1 + (fbp n).2)
theorem fbp_nn : ∀ n, 0 ≤ (fbp n).1 ∧ 1 ≤ (fbp n).2
  | 0 => by decide
  | n + 1 => by have i := fbp_nn n; show 0 ≤ (fbp n).2 ∧ 1 ≤ (fbp n).1 + (fbp n).2; omega
theorem fbp_100 : 100000000000000000 < (fbp 100).2 := by decide +kernel
theorem lremP {v x y : Int64} (e : v = x - x / y * y) (hx : 0 ≤ x.toInt) (hy : 0 < y.toInt) : v.toInt = x.toInt % y.toInt := by
  rw [lremT e (by omega), Int.tmod_eq_emod_of_nonneg hx]
theorem lDivP {v x y : Int64} (e : v = x / y) (hx : 0 ≤ x.toInt) (hy : 0 < y.toInt) : v.toInt = x.toInt / y.toInt := by
  rw [e, Int64.toInt_div, Int.tdiv_eq_ediv_of_nonneg hx]
  have h2 := Int64.toInt_lt x
  have h2' : x.toInt < 9223372036854775808 := by simpa using h2
  have h3 : x.toInt / y.toInt ≤ x.toInt := Int.ediv_le_self _ hx
  have h4 : 0 ≤ x.toInt / y.toInt := Int.ediv_nonneg hx (by omega)
  exact bm64 (by omega) (by omega)
def gcI (a b : Int) : Nat := Nat.gcd a.toNat b.toNat
theorem gcI_0 {a : Int} : gcI a 0 = a.toNat := by unfold gcI; rw [Int.toNat_zero, Nat.gcd_zero_right]
theorem gcI_s {a b r : Int} (ha : 0 ≤ a) (hb : 0 < b) (e : r = a % b) : gcI b r = gcI a b := by
  unfold gcI
  rw [e, Int.toNat_emod ha (by omega), Nat.gcd_comm a.toNat, Nat.gcd_rec b.toNat a.toNat, Nat.gcd_comm]
theorem gcI_c {a b : Int} : gcI a b = gcI b a := Nat.gcd_comm _ _
/-- a step of Euclid's, and how far it still may go -/
theorem eg_s {A a b r : Int} {n : Nat} (h : (fbp n).2 * a + (fbp n).1 * b ≤ A) (hab : b ≤ a) (hb : 0 < b) (e : r = a % b) : (fbp (n + 1)).2 * b + (fbp (n + 1)).1 * r ≤ A ∧ (0 ≤ r ∧ r < b) := by
  have p := fbp_nn n
  have r0 : 0 ≤ r := by rw [e]; exact Int.emod_nonneg _ (by omega)
  have r1 : r < b := by rw [e]; exact Int.emod_lt_of_pos _ hb
  have q : b + r ≤ a := by
    have d := Int.emod_def a b
    have q1 : 1 ≤ a / b := by
      have := Int.le_ediv_of_mul_le hb (show 1 * b ≤ a by omega)
      exact this
    have q2 : b * 1 ≤ b * (a / b) := Int.mul_le_mul_of_nonneg_left q1 (by omega)
    omega
  refine ⟨?_, r0, r1⟩
  show ((fbp n).1 + (fbp n).2) * b + (fbp n).2 * r ≤ A
  have m : (fbp n).2 * (b + r) ≤ (fbp n).2 * a := Int.mul_le_mul_of_nonneg_left q (by omega)
  rw [Int.mul_add] at m
  rw [Int.add_mul]
  omega
theorem eg_end {A a b : Int} {n : Nat} (h : (fbp n).2 * a + (fbp n).1 * b ≤ A) (hA : A ≤ 100000000000000000) (hb : 0 ≤ b) (ha : 1 ≤ a) (hn : n = 100) : False := by
  subst hn
  have p := fbp_nn 100
  have f := fbp_100
  have m1 : (fbp 100).2 * 1 ≤ (fbp 100).2 * a := Int.mul_le_mul_of_nonneg_left ha (by omega)
  have m2 : 0 ≤ (fbp 100).1 * b := Int.mul_nonneg p.1 hb
  omega
/-- what share tells -/
def shI (c a : Int) (z : Int32) : Int := if c = 0 then (if z = 0 then 0 else 1) else (if z = 0 then c / (gcI a c : Int) else a / (gcI a c : Int))
theorem gc_pos {a c : Int} (h : 0 < c) : 0 < (gcI a c : Int) := by
  have : 0 < gcI a c := Nat.gcd_pos_of_pos_right _ (by omega)
  omega
/-- which cell is the likeliest -/
def lkF (r : Nat → Int64) : Nat → Int
  | 0 => -1
  | n + 1 => if (lkF r n < 0 ∧ 0 < (r n).toInt) ∨ (0 ≤ lkF r n ∧ (r (lkF r n).toNat).toInt < (r n).toInt) then (n : Int) else lkF r n
theorem lk_b {r : Nat → Int64} : ∀ n, -1 ≤ lkF r n ∧ lkF r n < (n : Int) ∨ lkF r n = -1
  | 0 => Or.inr rfl
  | n + 1 => by
    have i := lk_b (r := r) n
    simp only [lkF]
    split
    · left; omega
    · rcases i with i | i
      · left; omega
      · exact Or.inr i
theorem lk_cg {r r' : Nat → Int64} : ∀ n, n ≤ 64 → (∀ k, k < 64 → r k = r' k) → lkF r n = lkF r' n
  | 0, _, _ => rfl
  | n + 1, hn, h => by
    have i := lk_cg n (by omega) h
    have b := lk_b (r := r') n
    simp only [lkF]
    rw [i, h n (by omega)]
    by_cases g : 0 ≤ lkF r' n
    · rw [h (lkF r' n).toNat (by omega)]
    · have e : ∀ q : Nat → Int64, ((lkF r' n < 0 ∧ 0 < (r' n).toInt) ∨ (0 ≤ lkF r' n ∧ (q (lkF r' n).toNat).toInt < (r' n).toInt)) ↔ (lkF r' n < 0 ∧ 0 < (r' n).toInt) := fun q => by constructor <;> intro z <;> omega
      simp only [e]
/-- the odds of all tales of a desk lie in bounds -/
theorem od_all {V : SV} {tl : Nat → TP} {pl : Nat → PP} {bk : Nat → Int32} {nt np : Nat} (hv : vok V) (hw : ∀ k, k < nt → 1 ≤ (tl k).2.2.2.2.toInt ∧ (tl k).2.2.2.2.toInt ≤ 1000) (hp : ∀ k, k < np → ppV (pl k)) (h6 : cntB bk np ≤ 6) : ∀ k, k < nt → 0 ≤ (odF V.2 (tl k) pl bk np).toInt ∧ (odF V.2 (tl k) pl bk np).toInt ≤ 1000000000000000 := fun k hk => by
  have z := od_b (C := V.2) (pl := pl) (bk := bk) (hw k hk) np (fun j hj => wgh_b hv (hp j hj)) h6
  have p := pw100_6 h6
  omega
theorem sh_0 {c a : Int} {z : Int32} (hc : c = 0) {r : Int} (hr : r = if z = 0 then 0 else 1) : r = shI c a z := by unfold shI; rw [if_pos hc]; exact hr
/-- the class's way: the divisor of all and c; c may be 0 -/
theorem sh_c {c a g q : Int} {z : Int32} (h0 : 0 ≤ c) (h1 : c ≤ a) (hg : g = (gcI a c : Int)) (hn : g ≠ 0) (hz : (z = 0 ∧ q = c / g) ∨ (¬ z = 0 ∧ q = a / g)) : q = shI c a z := by
  by_cases e : c = 0
  · subst e
    rw [gcI_0] at hg
    have ha : g = a := by omega
    subst ha
    unfold shI
    rw [if_pos rfl]
    rcases hz with ⟨e1, e2⟩ | ⟨e1, e2⟩
    · rw [if_pos e1, e2]; exact Int.zero_ediv _
    · rw [if_neg e1, e2]; exact Int.ediv_self hn
  · unfold shI
    rw [if_neg e, ← hg]
    rcases hz with ⟨e1, e2⟩ | ⟨e1, e2⟩
    · rw [if_pos e1]; exact e2
    · rw [if_neg e1]; exact e2
theorem sh_m {c a g q : Int} {z : Int32} (hc : c ≠ 0) (hg : g = (gcI c a : Int)) (hz : (z = 0 ∧ q = c / g) ∨ (¬ z = 0 ∧ q = a / g)) : q = shI c a z := by
  unfold shI
  rw [if_neg hc, gcI_c, ← hg]
  rcases hz with ⟨e1, e2⟩ | ⟨e1, e2⟩
  · rw [if_pos e1]; exact e2
  · rw [if_neg e1]; exact e2
/-- the likeliest so far, by the class's two numbers -/
def lkC (r : Nat → Int64) (n : Nat) (b : Int32) (u : Int64) : Prop := b.toInt = lkF r n ∧ ((b.toInt = -1 ∧ u.toInt = 0) ∨ (0 ≤ b.toInt ∧ u = r b.toNatClampNeg))
theorem lk_0 {r : Nat → Int64} {u : Int64} (hu : u.toInt = 0) : lkC r (0 : Int32).toNatClampNeg (-1) u := by
  rw [show (0 : Int32).toNatClampNeg = 0 by decide]; exact ⟨(show (-1 : Int32).toInt = (-1 : Int) by decide), Or.inl ⟨by decide, hu⟩⟩
theorem lk_y {r : Nat → Int64} {k k' b : Int32} {u v : Int64} (h : lkC r k.toNatClampNeg b u) (h0 : 0 ≤ k.toInt) (tk : k'.toInt = k.toInt + 1) (ev : v = r k.toNatClampNeg) (hg : u.toInt < v.toInt) : lkC r k'.toNatClampNeg k v := by
  have e1 := cl_toInt h0
  have e2 := cl_toInt (x := k') (by omega)
  rw [show k'.toNatClampNeg = k.toNatClampNeg + 1 by omega]
  refine ⟨?_, Or.inr ⟨h0, ev⟩⟩
  simp only [lkF]
  rw [if_pos]
  · omega
  · rw [← h.1, ← ev]
    rcases h.2 with ⟨a, c⟩ | ⟨a, c⟩
    · left; omega
    · right
      have e3 := cl_toInt a
      rw [show b.toInt.toNat = b.toNatClampNeg by omega, ← c]; exact ⟨a, hg⟩
theorem lk_n {r : Nat → Int64} {k k' b : Int32} {u v : Int64} (h : lkC r k.toNatClampNeg b u) (h0 : 0 ≤ k.toInt) (tk : k'.toInt = k.toInt + 1) (ev : v = r k.toNatClampNeg) (hg : ¬ u.toInt < v.toInt) : lkC r k'.toNatClampNeg b u := by
  have e1 := cl_toInt h0
  have e2 := cl_toInt (x := k') (by omega)
  rw [show k'.toNatClampNeg = k.toNatClampNeg + 1 by omega]
  refine ⟨?_, h.2⟩
  simp only [lkF]
  rw [if_neg, h.1]
  rw [← h.1, ← ev]
  rintro (⟨a, c⟩ | ⟨a, c⟩)
  · rcases h.2 with ⟨d, e⟩ | ⟨d, e⟩ <;> omega
  · rcases h.2 with ⟨d, e⟩ | ⟨d, e⟩
    · omega
    · have e3 := cl_toInt d
      rw [show b.toInt.toNat = b.toNatClampNeg by omega, ← e] at c
      exact hg c
/-- the same by the model's one -/
theorem lm_y {r : Nat → Int64} {k k' b : Int32} {v w : Int64} (h : b.toInt = lkF r k.toNatClampNeg) (h0 : 0 ≤ k.toInt) (tk : k'.toInt = k.toInt + 1) (ev : v = r k.toNatClampNeg) (hg : (b.toInt < 0 ∧ 0 < v.toInt) ∨ (0 ≤ b.toInt ∧ w = r b.toNatClampNeg ∧ w.toInt < v.toInt)) : k.toInt = lkF r k'.toNatClampNeg := by
  have e1 := cl_toInt h0
  have e2 := cl_toInt (x := k') (by omega)
  rw [show k'.toNatClampNeg = k.toNatClampNeg + 1 by omega]
  simp only [lkF]
  rw [if_pos]
  · omega
  · rw [← h, ← ev]
    rcases hg with ⟨a, c⟩ | ⟨a, c, d⟩
    · left; exact ⟨a, c⟩
    · right
      have e3 := cl_toInt a
      rw [show b.toInt.toNat = b.toNatClampNeg by omega, ← c]; exact ⟨a, d⟩
theorem lm_n {r : Nat → Int64} {k k' b : Int32} {v : Int64} (h : b.toInt = lkF r k.toNatClampNeg) (h0 : 0 ≤ k.toInt) (tk : k'.toInt = k.toInt + 1) (ev : v = r k.toNatClampNeg) (hg : (b.toInt < 0 ∧ ¬ 0 < v.toInt) ∨ (0 ≤ b.toInt ∧ ¬ (r b.toNatClampNeg).toInt < v.toInt)) : b.toInt = lkF r k'.toNatClampNeg := by
  have e1 := cl_toInt h0
  have e2 := cl_toInt (x := k') (by omega)
  rw [show k'.toNatClampNeg = k.toNatClampNeg + 1 by omega]
  simp only [lkF]
  rw [if_neg, h]
  rw [← h, ← ev]
  rintro (⟨a, c⟩ | ⟨a, c⟩)
  · omega
  · rcases hg with g | g
    · omega
    · have e3 := cl_toInt a
      rw [show b.toInt.toNat = b.toNatClampNeg by omega] at c
      exact g.2 c
set_option maxHeartbeats 4000000 in
set_option maxRecDepth 100000 in
theorem c_v_X10_allOdds (l : Launch) (G : Gh) (S : Pl) (d sa sb sp te tm pe : Nat → Nat) (tf pf nt np : Nat) (V : SV) (tl : Nat → TP) (pl : Nat → PP) (hC : CIs G S d sa sb sp te tm pe tf pf nt np) (hN : CIn (pI S) d te pe nt np) (hct : Ct (qI S) sa (stl V.2)) (hTV : TV S te tm nt tl V) (hPV : PV S pe np pl) : MtL l yX10_allOdds cX10_allOdds 4 (some .long) (Rm 5 0 0) G [.ref (d 0)] S (fun (r : Int64) (S' : Pl) => S = S' ∧ r = alF (fun k => odF V.2 (tl k) pl (fun k => pI S 0 (pe k)) np) nt) 0 0 := by
  refine MtL.of (by decide) (Nat.le_of_ble_eq_true rfl) ?_
  intro p e s m args below meth c Q A X hw hin hret ls hl
  have hx := X.1.1
  have hb := X.1.2.1
  have hl : lv_has ls 4 [(0, .ref (d 0))] := hl
  obtain ⟨k0, r70, r71, r72, r73, r74, r75, r76, r77, hR, hS, hB, hSp, ⟨kco, nco⟩, lT, lP, n68, n79, hTl, hPk, hPi, n40⟩ := id hC
  obtain ⟨z92, z93, zw, zz, zst, zs6⟩ := id hN
  have hTp := hR.2.2.2.2.2.2.2
  have n60 := lP.2.2.1
  have oS := hS
  have oTp := hTp
  have oPk := hPk
  refine lv_lconst (v := 0) hx hb dX10_allOdds_0 (by decide) ?_
  refine lv_lstore_n (lv' := [(1, .long 0), (0, .ref (d 0))]) hx hb dX10_allOdds_1 rfl hl (by decide) rfl (fun ls hl => ?_)
  refine lv_iconst (v := 0) hx hb dX10_allOdds_2 (by decide) ?_
  refine lv_istore_n (lv' := [(3, .int 0), (1, .long 0), (0, .ref (d 0))]) hx hb dX10_allOdds_3 rfl hl (by decide) rfl (fun ls hl => ?_)
  have lp4 : ∀ (N9 : Nat) (u : Int64) (i : Int32), (0 ≤ i.toInt ∧ i.toInt ≤ (nt : Int)) → (u = alF (fun k => odF V.2 (tl k) pl (fun k => pI S 0 (pe k)) np) i.toNatClampNeg) → (40 - i.toInt).toNat < N9 → ∀ (H : Heap) (locs : List Loc) (ls : Array Slot), PX G A s.heap S H locs → lv_has ls 4 [(3, .int i), (1, .long u), (0, .ref (d 0))] → W p l e (Rm 5 0 0) s m args below meth c H locs 0 0 Q (F0 m 4 ls []) := by
    intro N9
    induction N9 with
    | zero => intro u i hi hal hm; exact absurd hm (Nat.not_lt_zero _)
    | succ N9 ih4 =>
      intro u i hi hal hm H locs ls hw hl
      refine lv_iload_n hx hb dX10_allOdds_4 rfl (lv_at hl 0 rfl) ?_
      refine lv_aload_n hx hb dX10_allOdds_5 rfl (lv_at hl 2 rfl) ?_
      refine gf_X10_28 (b := (d 6)) X hw k0 r72 dX10_allOdds_6 ?_
      refine k_Vi (n := 0) X hw (rcvk (ci := 0) X hw lT.1 (fun _ _ _ _ _ _ _ => ⟨_, rfl⟩) rfl) (c_Jx4a65c_size_8abf5 l G _ (d 6) lT.1) wd_r18_1 wd_r18_2 wd_r18_3 wd_r1_22 wd_r18_4 ⟨by decide, by decide, by decide +kernel⟩ rfl rfl ⟨Nat.le_of_ble_eq_true rfl, Nat.le_of_ble_eq_true rfl⟩ rfl rfl hl.1 (Nat.le_of_ble_eq_true rfl) dX10_allOdds_9 ⟨Nat.le_of_ble_eq_true rfl, Nat.le_of_ble_eq_true rfl⟩ (fun r9_1 S9_3 H locs h9_2 hw => ?_)
      obtain ⟨rfl, h9_2⟩ := h9_2
      have h9_2t : r9_1.toInt = ((pI S) 92 (d 6)).toInt := congrArg Int32.toInt h9_2
      refine lv_icmp_ge (tgt := 39) hx hb dX10_allOdds_12 (by decide) (fun c12_4 => ?_) (fun c12_4 => ?_)
      · have D12_4 := iLe c12_4 rfl rfl
        refine lv_lload_n hx hb dX10_allOdds_39 rfl (lv_at hl 1 rfl) ?_
        exact hret u _ _ _ _ _ ⟨rfl, by rw [hal, show i.toNatClampNeg = nt by have := cl_toInt (x := i) hi.1; omega]⟩ hw dX10_allOdds_40
      · have D12_4 := iNle c12_4 rfl rfl
        refine lv_lload_n hx hb dX10_allOdds_15 rfl (lv_at hl 1 rfl) ?_
        refine lv_aload_n hx hb dX10_allOdds_16 rfl (lv_at hl 2 rfl) ?_
        refine lv_aload_n hx hb dX10_allOdds_17 rfl (lv_at hl 2 rfl) ?_
        refine gf_X10_28 (b := (d 6)) X hw k0 r72 dX10_allOdds_18 ?_
        refine lv_iload_n hx hb dX10_allOdds_21 rfl (lv_at hl 0 rfl) ?_
        refine k_Vq (n := 1) X hw (rcvk (ci := 0) X hw lT.1 (fun _ _ _ _ _ _ _ => ⟨_, rfl⟩) rfl) (c_Jx4a65c_get_915e3 l G _ (d 6) (d 7) tf nt te i (lT.sh z92) (by omega)) wd_r18_6 wd_r18_7 wd_r18_8 wd_r1_22 wd_r18_9 ⟨by decide, by decide, by decide +kernel⟩ rfl rfl ⟨Nat.le_of_ble_eq_true rfl, Nat.le_of_ble_eq_true rfl⟩ rfl rfl hl.1 (Nat.le_of_ble_eq_true rfl) dX10_allOdds_22 ⟨Nat.le_of_ble_eq_true rfl, Nat.le_of_ble_eq_true rfl⟩ (fun r22_5 S22_7 H locs h22_6 hw => ?_)
        obtain ⟨rfl, rfl⟩ := h22_6
        have hik : i.toNatClampNeg < nt := clt (by omega) (by omega)
        refine q_castT X hw (hTl _ hik).1 dX10_allOdds_25 ?_
        refine k_Vl (n := 1) X hw (rcvk (ci := 10) X hw k0 (fun _ _ _ _ _ _ _ => ⟨_, rfl⟩) rfl) (c_v_X10_oddsOf l G _ d sa sb sp te tm pe tf pf nt np i.toNatClampNeg V tl pl hC hN hik hct hTV hPV) wd_r36_3 wd_r36_4 wd_r36_5 wd_r1_2 wd_r36_6 ⟨by decide, by decide, by decide +kernel⟩ rfl rfl ⟨Nat.le_of_ble_eq_true rfl, Nat.le_of_ble_eq_true rfl⟩ rfl rfl hl.1 (Nat.le_of_ble_eq_true rfl) dX10_allOdds_28 ⟨Nat.le_of_ble_eq_true rfl, Nat.le_of_ble_eq_true rfl⟩ (fun r28_8 S28_10 H locs h28_9 hw => ?_)
        obtain ⟨rfl, h28_9⟩ := h28_9
        have HO9 := h28_9
        refine lv_ladd hx hb dX10_allOdds_31 ?_
        refine lv_topl (fun v31_11 e31_11 => ?_)
        have e31n := e31_11
        refine lv_lstore_n (lv' := [(1, .long v31_11), (3, .int i), (0, .ref (d 0))]) hx hb dX10_allOdds_32 rfl hl (by decide) rfl (fun ls hl => ?_)
        obtain ⟨v33_12, e33_12⟩ : ∃ y : Int32, y = i + 1 := ⟨_, rfl⟩
        have t33_12 := iAdd e33_12 rfl t_1 (by omega) (by omega)
        have t33 := t33_12
        refine lv_iinc (v := v33_12) (lv' := [(3, .int v33_12), (1, .long v31_11), (0, .ref (d 0))]) hx hb dX10_allOdds_33 hl (k := 1) rfl (by rw [e33_12]; rfl) (by decide) rfl (fun ls hl => ?_)
        refine lv_goto (tgt := 4) hx hb dX10_allOdds_36 (by decide) ?_
        exact ih4  v31_11 v33_12 (by omega) (alf_s (O := (fun k => odF V.2 (tl k) pl (fun k => pI S 0 (pe k)) np)) hal hi.1 t33 HO9 e31n) (by omega) _ _ _ hw (lv_sub hl [0, 1, 2] rfl)
  exact lp4 _  0 0 (by have := t_0; omega) alf_0 (Nat.lt_succ_self _) _ _ _ hw (lv_sub hl [0, 1, 2] rfl)
set_option maxHeartbeats 4000000 in
set_option maxRecDepth 100000 in
theorem c_v_X10_sumByCell (l : Launch) (G : Gh) (S : Pl) (d sa sb sp te tm pe : Nat → Nat) (tf pf nt np : Nat) (t z : Int32) (V : SV) (tl : Nat → TP) (pl : Nat → PP) (hC : CIs G S d sa sb sp te tm pe tf pf nt np) (hN : CIn (pI S) d te pe nt np) (hct : Ct (qI S) sa (stl V.2)) (hTV : TV S te tm nt tl V) (hPV : PV S pe np pl) (ht : 0 ≤ t.toInt ∧ t.toInt ≤ 72) : MtV l yX10_sumByCell cX10_sumByCell 7 none (Rm 5 0 0) G [.ref (d 0), .int t, .int z] S (fun (S' : Pl) => ∃ y', ch S (pI S) (pJ S) (qI S) y' = S' ∧ sbR y' (d 16) V.2 tl (fun k => odF V.2 (tl k) pl (fun k => pI S 0 (pe k)) np) t.toNatClampNeg z nt) 0 0 := by
  refine MtV.of (by decide) (Nat.le_of_ble_eq_true rfl) ?_
  intro p e s m args below meth c Q A X hw hin hret ls hl
  have hx := X.1.1
  have hb := X.1.2.1
  have hl : lv_has ls 7 [(0, .ref (d 0)), (1, .int t), (2, .int z)] := hl
  obtain ⟨k0, r70, r71, r72, r73, r74, r75, r76, r77, hR, hS, hB, hSp, ⟨kco, nco⟩, lT, lP, n68, n79, hTl, hPk, hPi, n40⟩ := id hC
  obtain ⟨z92, z93, zw, zz, zst, zs6⟩ := id hN
  have hTp := hR.2.2.2.2.2.2.2
  have n60 := lP.2.2.1
  have oS := hS
  have oTp := hTp
  have oPk := hPk
  refine lv_iconst (v := 0) hx hb dX10_sumByCell_0 (by decide) ?_
  refine lv_istore_n (lv' := [(3, .int 0), (0, .ref (d 0)), (1, .int t), (2, .int z)]) hx hb dX10_sumByCell_1 rfl hl (by decide) rfl (fun ls hl => ?_)
  have lp2 : ∀ (N9 : Nat) (y2 : Nat → Nat → Int64) (k : Int32), (0 ≤ k.toInt ∧ k.toInt ≤ 64) → (∀ a : Nat, (a : Int) < k.toInt → y2 (d 16) a = 0) → (64 - k.toInt).toNat < N9 → ∀ (H : Heap) (locs : List Loc) (ls : Array Slot), PX G A s.heap (ch S (pI S) (pJ S) (qI S) y2) H locs → lv_has ls 7 [(3, .int k), (0, .ref (d 0)), (1, .int t), (2, .int z)] → W p l e (Rm 5 0 0) s m args below meth c H locs 0 0 Q (F0 m 2 ls []) := by
    intro N9
    induction N9 with
    | zero => intro y2 k hk h0 hm; exact absurd hm (Nat.not_lt_zero _)
    | succ N9 ih2 =>
      intro y2 k hk h0 hm H locs ls hw hl
      refine lv_iload_n hx hb dX10_sumByCell_2 rfl (lv_at hl 0 rfl) ?_
      refine lv_bipush (v := 64) hx hb dX10_sumByCell_3 (by decide) ?_
      refine lv_icmp_ge (tgt := 21) hx hb dX10_sumByCell_5 (by decide) (fun c5_1 => ?_) (fun c5_1 => ?_)
      · have D5_1 := iLe c5_1 t_64 rfl
        refine lv_iconst (v := 0) hx hb dX10_sumByCell_21 (by decide) ?_
        refine lv_istore_n (lv' := [(3, .int 0), (0, .ref (d 0)), (1, .int t), (2, .int z)]) hx hb dX10_sumByCell_22 rfl hl (by decide) rfl (fun ls hl => ?_)
        have lp23 : ∀ (N9 : Nat) (y23 : Nat → Nat → Int64) (i : Int32), (0 ≤ i.toInt ∧ i.toInt ≤ (nt : Int)) → (sbR y23 (d 16) V.2 tl (fun k => odF V.2 (tl k) pl (fun k => pI S 0 (pe k)) np) t.toNatClampNeg z i.toNatClampNeg) → (40 - i.toInt).toNat < N9 → ∀ (H : Heap) (locs : List Loc) (ls : Array Slot), PX G A s.heap (ch S (pI S) (pJ S) (qI S) y23) H locs → lv_has ls 7 [(3, .int i), (0, .ref (d 0)), (1, .int t), (2, .int z)] → W p l e (Rm 5 0 0) s m args below meth c H locs 0 0 Q (F0 m 23 ls []) := by
          intro N9
          induction N9 with
          | zero => intro y23 i hi hsb hm; exact absurd hm (Nat.not_lt_zero _)
          | succ N9 ih23 =>
            intro y23 i hi hsb hm H locs ls hw hl
            refine lv_iload_n hx hb dX10_sumByCell_23 rfl (lv_at hl 0 rfl) ?_
            refine lv_aload_n hx hb dX10_sumByCell_24 rfl (lv_at hl 1 rfl) ?_
            refine gf_X10_28 (b := (d 6)) X hw k0 r72 dX10_sumByCell_25 ?_
            refine k_Vi (n := 0) X hw (rcvk (ci := 0) X hw lT.1 (fun _ _ _ _ _ _ _ => ⟨_, rfl⟩) rfl) (c_Jx4a65c_size_8abf5 l G _ (d 6) lT.1) wd_r18_1 wd_r18_2 wd_r18_3 wd_r1_22 wd_r18_4 ⟨by decide, by decide, by decide +kernel⟩ rfl rfl ⟨Nat.le_of_ble_eq_true rfl, Nat.le_of_ble_eq_true rfl⟩ rfl rfl hl.1 (Nat.le_of_ble_eq_true rfl) dX10_sumByCell_28 ⟨Nat.le_of_ble_eq_true rfl, Nat.le_of_ble_eq_true rfl⟩ (fun r28_2 S28_4 H locs h28_3 hw => ?_)
            obtain ⟨rfl, h28_3⟩ := h28_3
            have h28_3t : r28_2.toInt = ((pI S) 92 (d 6)).toInt := congrArg Int32.toInt h28_3
            refine lv_icmp_ge (tgt := 110) hx hb dX10_sumByCell_31 (by decide) (fun c31_5 => ?_) (fun c31_5 => ?_)
            · have D31_5 := iLe c31_5 rfl rfl
              exact hret _ _ _ _ _ ⟨_, rfl, by rw [show nt = i.toNatClampNeg by have := cl_toInt (x := i) hi.1; omega]; exact hsb⟩ hw dX10_sumByCell_110
            · have D31_5 := iNle c31_5 rfl rfl
              refine lv_aload_n hx hb dX10_sumByCell_34 rfl (lv_at hl 1 rfl) ?_
              refine gf_X10_28 (b := (d 6)) X hw k0 r72 dX10_sumByCell_35 ?_
              refine lv_iload_n hx hb dX10_sumByCell_38 rfl (lv_at hl 0 rfl) ?_
              refine k_Vq (n := 1) X hw (rcvk (ci := 0) X hw lT.1 (fun _ _ _ _ _ _ _ => ⟨_, rfl⟩) rfl) (c_Jx4a65c_get_915e3 l G _ (d 6) (d 7) tf nt te i (lT.sh z92) (by omega)) wd_r18_6 wd_r18_7 wd_r18_8 wd_r1_22 wd_r18_9 ⟨by decide, by decide, by decide +kernel⟩ rfl rfl ⟨Nat.le_of_ble_eq_true rfl, Nat.le_of_ble_eq_true rfl⟩ rfl rfl hl.1 (Nat.le_of_ble_eq_true rfl) dX10_sumByCell_39 ⟨Nat.le_of_ble_eq_true rfl, Nat.le_of_ble_eq_true rfl⟩ (fun r39_6 S39_8 H locs h39_7 hw => ?_)
              obtain ⟨rfl, rfl⟩ := h39_7
              have hik : i.toNatClampNeg < nt := clt (by omega) (by omega)
              refine q_castT X hw (hTl _ hik).1 dX10_sumByCell_42 ?_
              refine lv_astore (lv' := [(4, .ref (te i.toNatClampNeg)), (3, .int i), (0, .ref (d 0)), (1, .int t), (2, .int z)]) hx hb dX10_sumByCell_45 hl (by decide) rfl (fun ls hl => ?_)
              refine lv_aload hx hb dX10_sumByCell_47 (lv_at hl 0 rfl) ?_
              refine lv_iload_n hx hb dX10_sumByCell_49 rfl (lv_at hl 3 rfl) ?_
              refine k_Vi (n := 1) X hw (rcvk (ci := 7) X hw (hTl _ hik).1 (fun _ _ _ _ _ _ _ => ⟨_, rfl⟩) rfl) (c_v_X7_cellAt l G _ (te i.toNatClampNeg) (tm i.toNatClampNeg) t (drA V.2 (tl i.toNatClampNeg)) (hTl _ hik) (hTV.1 _ hik).2.2 (drA_ok (hTV.1 _ hik).2.1)) wd_r38_10 wd_r37_1 wd_r37_2 wd_r18_22 wd_r37_3 ⟨by decide, by decide, by decide +kernel⟩ rfl rfl ⟨Nat.le_of_ble_eq_true rfl, Nat.le_of_ble_eq_true rfl⟩ rfl rfl hl.1 (Nat.le_of_ble_eq_true rfl) dX10_sumByCell_50 ⟨Nat.le_of_ble_eq_true rfl, Nat.le_of_ble_eq_true rfl⟩ (fun r50_9 S50_11 H locs h50_10 hw => ?_)
              obtain ⟨rfl, h50_10⟩ := h50_10
              have hc50 := sc_d (s := (drA V.2 (tl i.toNatClampNeg) t.toNatClampNeg)) (h50_10.trans (if_pos ht))
              have hok9 := drA_ok (C := V.2) (hTV.1 _ hik).2.1 t.toNatClampNeg
              refine lv_istore (lv' := [(5, .int r50_9), (4, .ref (te i.toNatClampNeg)), (3, .int i), (0, .ref (d 0)), (1, .int t), (2, .int z)]) hx hb dX10_sumByCell_53 hl (by decide) rfl (fun ls hl => ?_)
              refine lv_iload_n hx hb dX10_sumByCell_55 rfl (lv_at hl 5 rfl) ?_
              refine lv_if_eq (tgt := 68) hx hb dX10_sumByCell_56 (by decide) (fun c56_12 => ?_) (fun c56_12 => ?_)
              · have D56_12 := iEq c56_12 rfl t_0
                refine lv_iconst (v := 1) hx hb dX10_sumByCell_68 (by decide) ?_
                refine lv_goto (tgt := 73) hx hb dX10_sumByCell_69 (by decide) ?_
                refine lv_istore (lv' := [(6, .int 1), (5, .int r50_9), (4, .ref (te i.toNatClampNeg)), (3, .int i), (0, .ref (d 0)), (1, .int t), (2, .int z)]) hx hb dX10_sumByCell_73 hl (by decide) rfl (fun ls hl => ?_)
                refine lv_iload hx hb dX10_sumByCell_75 (lv_at hl 0 rfl) ?_
                refine lv_if_eq (tgt := 104) hx hb dX10_sumByCell_77 (by decide) (fun c77_13 => absurd c77_13 (by decide)) (fun c77_13 => ?_)
                refine lv_iload hx hb dX10_sumByCell_80 (lv_at hl 1 rfl) ?_
                refine k_Si (n := 1) X hw (c_X10_isCell l G _ r50_9) wd_r26_14 wd_r15_22 wd_r1_2 wd_r15_23 ⟨by decide, by decide, by decide +kernel⟩ rfl rfl ⟨Nat.le_of_ble_eq_true rfl, Nat.le_of_ble_eq_true rfl⟩ rfl rfl hl.1 (Nat.le_of_ble_eq_true rfl) dX10_sumByCell_82 ⟨Nat.le_of_ble_eq_true rfl, Nat.le_of_ble_eq_true rfl⟩ (fun r82_14 S82_16 H locs h82_15 hw => ?_)
                rcases h82_15 with ⟨rfl, rfl, h82_15⟩ | ⟨rfl, rfl, h82_15⟩
                · have h82_15 := h82_15
                  refine lv_if_eq (tgt := 104) hx hb dX10_sumByCell_85 (by decide) (fun c85_17 => absurd c85_17 (by decide)) (fun c85_17 => ?_)
                  refine lv_aload_n hx hb dX10_sumByCell_88 rfl (lv_at hl 4 rfl) ?_
                  refine gf_X10_42 (b := (d 16)) X hw k0 r75 dX10_sumByCell_89 ?_
                  refine lv_iload hx hb dX10_sumByCell_92 (lv_at hl 1 rfl) ?_
                  refine lv_dup2_11 hx hb dX10_sumByCell_94 rfl rfl ?_
                  refine q_ldJ X hw kco (vin nco (by omega) (by omega)) dX10_sumByCell_95 ?_
                  refine lv_topl (fun v95_18 e95_18 => ?_)
                  have e95_18 : v95_18 = y23 (d 16) r50_9.toNatClampNeg := e95_18
                  have e95n := e95_18
                  refine lv_aload_n hx hb dX10_sumByCell_96 rfl (lv_at hl 4 rfl) ?_
                  refine lv_aload hx hb dX10_sumByCell_97 (lv_at hl 2 rfl) ?_
                  refine k_Vl (n := 1) X hw (rcvk (ci := 10) X hw k0 (fun _ _ _ _ _ _ _ => ⟨_, rfl⟩) rfl) (c_v_X10_oddsOf l G _ d sa sb sp te tm pe tf pf nt np i.toNatClampNeg V tl pl hC hN hik hct hTV hPV) wd_r36_3 wd_r36_4 wd_r36_5 wd_r1_2 wd_r36_6 ⟨by decide, by decide, by decide +kernel⟩ rfl rfl ⟨Nat.le_of_ble_eq_true rfl, Nat.le_of_ble_eq_true rfl⟩ rfl rfl hl.1 (Nat.le_of_ble_eq_true rfl) dX10_sumByCell_99 ⟨Nat.le_of_ble_eq_true rfl, Nat.le_of_ble_eq_true rfl⟩ (fun r99_19 S99_21 H locs h99_20 hw => ?_)
                  obtain ⟨rfl, h99_20⟩ := h99_20
                  have HO9 := h99_20
                  refine lv_ladd hx hb dX10_sumByCell_102 ?_
                  refine lv_topl (fun v102_22 e102_22 => ?_)
                  have e102n := e102_22
                  refine q_stJ X hw kco (vin nco (by omega) (by omega)) dX10_sumByCell_103 (fun H locs hw => ?_)
                  obtain ⟨y103_23, ey103_23, hw⟩ : ∃ zz9, zz9 = va_up y23 (d 16) (vp_updL (y23 (d 16)) r50_9.toNatClampNeg v102_22) ∧ PX G A s.heap (ch S (pI S) (pJ S) (qI S) zz9) H locs := ⟨_, rfl, hw⟩
                  have c103 := ey103_23
                  obtain ⟨v104_24, e104_24⟩ : ∃ y : Int32, y = i + 1 := ⟨_, rfl⟩
                  have t104_24 := iAdd e104_24 rfl t_1 (by omega) (by omega)
                  have t104 := t104_24
                  refine lv_iinc (v := v104_24) (lv' := [(3, .int v104_24), (6, .int 1), (5, .int r50_9), (4, .ref (te i.toNatClampNeg)), (0, .ref (d 0)), (1, .int t), (2, .int z)]) hx hb dX10_sumByCell_104 hl (k := 3) rfl (by rw [e104_24]; rfl) (by decide) rfl (fun ls hl => ?_)
                  refine lv_goto (tgt := 23) hx hb dX10_sumByCell_107 (by decide) ?_
                  exact ih23 y103_23 v104_24 (by omega) (by first | exact sb_y (O := (fun k => odF V.2 (tl k) pl (fun k => pI S 0 (pe k)) np)) hsb hi.1 t104 ⟨(sc_y hc50 (by omega)).1, (by first | exact Or.inl (by assumption) | exact Or.inr (by omega))⟩ (sc_y hc50 (by omega)).2 (by omega) e95n HO9 e102n c103 | exact sb_n hsb hi.1 t104 (fun q9 => q9.1 (sc_no hc50 hok9 (by omega))) | exact sb_n hsb hi.1 t104 (fun q9 => q9.2.elim (fun e9 => absurd e9 (by assumption)) (fun e9 => absurd e9 (by omega)))) (by omega) _ _ _ hw (lv_sub hl [0, 4, 5, 6] rfl)
                · have h82_15 := h82_15
                  refine lv_if_eq (tgt := 104) hx hb dX10_sumByCell_85 (by decide) (fun c85_25 => ?_) (fun c85_25 => absurd c85_25 (by decide))
                  obtain ⟨v104_26, e104_26⟩ : ∃ y : Int32, y = i + 1 := ⟨_, rfl⟩
                  have t104_26 := iAdd e104_26 rfl t_1 (by omega) (by omega)
                  have t104 := t104_26
                  refine lv_iinc (v := v104_26) (lv' := [(3, .int v104_26), (6, .int 1), (5, .int r50_9), (4, .ref (te i.toNatClampNeg)), (0, .ref (d 0)), (1, .int t), (2, .int z)]) hx hb dX10_sumByCell_104 hl (k := 3) rfl (by rw [e104_26]; rfl) (by decide) rfl (fun ls hl => ?_)
                  refine lv_goto (tgt := 23) hx hb dX10_sumByCell_107 (by decide) ?_
                  exact ih23 y23 v104_26 (by omega) (by first | exact sb_y (O := (fun k => odF V.2 (tl k) pl (fun k => pI S 0 (pe k)) np)) hsb hi.1 t104 ⟨(sc_y hc50 (by omega)).1, (by first | exact Or.inl (by assumption) | exact Or.inr (by omega))⟩ (sc_y hc50 (by omega)).2 (by omega) e95n HO9 e102n c103 | exact sb_n hsb hi.1 t104 (fun q9 => q9.1 (sc_no hc50 hok9 (by omega))) | exact sb_n hsb hi.1 t104 (fun q9 => q9.2.elim (fun e9 => absurd e9 (by assumption)) (fun e9 => absurd e9 (by omega)))) (by omega) _ _ _ hw (lv_sub hl [0, 4, 5, 6] rfl)
              · have D56_12 := iNe c56_12 rfl t_0
                refine lv_aload hx hb dX10_sumByCell_59 (lv_at hl 1 rfl) ?_
                refine lv_iload_n hx hb dX10_sumByCell_61 rfl (lv_at hl 4 rfl) ?_
                refine k_Vi (n := 1) X hw (rcvk (ci := 7) X hw (hTl _ hik).1 (fun _ _ _ _ _ _ _ => ⟨_, rfl⟩) rfl) (c_v_X7_stateAt l G _ (te i.toNatClampNeg) (tm i.toNatClampNeg) t (drA V.2 (tl i.toNatClampNeg)) (hTl _ hik) (hTV.1 _ hik).2.2 (drA_ok (hTV.1 _ hik).2.1)) wd_r31_19 wd_r31_20 wd_r31_21 wd_r18_22 wd_r31_22 ⟨by decide, by decide, by decide +kernel⟩ rfl rfl ⟨Nat.le_of_ble_eq_true rfl, Nat.le_of_ble_eq_true rfl⟩ rfl rfl hl.1 (Nat.le_of_ble_eq_true rfl) dX10_sumByCell_62 ⟨Nat.le_of_ble_eq_true rfl, Nat.le_of_ble_eq_true rfl⟩ (fun r62_27 S62_29 H locs h62_28 hw => ?_)
                obtain ⟨rfl, h62_28⟩ := h62_28
                have hs62 := congrArg Int32.toInt (h62_28.trans (if_pos ht))
                refine lv_if_ne (tgt := 72) hx hb dX10_sumByCell_65 (by decide) (fun c65_30 => ?_) (fun c65_30 => ?_)
                · have D65_30 := iNe c65_30 rfl t_0
                  refine lv_iconst (v := 0) hx hb dX10_sumByCell_72 (by decide) ?_
                  refine lv_istore (lv' := [(6, .int 0), (5, .int r50_9), (4, .ref (te i.toNatClampNeg)), (3, .int i), (0, .ref (d 0)), (1, .int t), (2, .int z)]) hx hb dX10_sumByCell_73 hl (by decide) rfl (fun ls hl => ?_)
                  refine lv_iload hx hb dX10_sumByCell_75 (lv_at hl 0 rfl) ?_
                  refine lv_if_eq (tgt := 104) hx hb dX10_sumByCell_77 (by decide) (fun c77_31 => ?_) (fun c77_31 => absurd c77_31 (by decide))
                  obtain ⟨v104_32, e104_32⟩ : ∃ y : Int32, y = i + 1 := ⟨_, rfl⟩
                  have t104_32 := iAdd e104_32 rfl t_1 (by omega) (by omega)
                  have t104 := t104_32
                  refine lv_iinc (v := v104_32) (lv' := [(3, .int v104_32), (6, .int 0), (5, .int r50_9), (4, .ref (te i.toNatClampNeg)), (0, .ref (d 0)), (1, .int t), (2, .int z)]) hx hb dX10_sumByCell_104 hl (k := 3) rfl (by rw [e104_32]; rfl) (by decide) rfl (fun ls hl => ?_)
                  refine lv_goto (tgt := 23) hx hb dX10_sumByCell_107 (by decide) ?_
                  exact ih23 y23 v104_32 (by omega) (by first | exact sb_y (O := (fun k => odF V.2 (tl k) pl (fun k => pI S 0 (pe k)) np)) hsb hi.1 t104 ⟨(sc_y hc50 (by omega)).1, (by first | exact Or.inl (by assumption) | exact Or.inr (by omega))⟩ (sc_y hc50 (by omega)).2 (by omega) e95n HO9 e102n c103 | exact sb_n hsb hi.1 t104 (fun q9 => q9.1 (sc_no hc50 hok9 (by omega))) | exact sb_n hsb hi.1 t104 (fun q9 => q9.2.elim (fun e9 => absurd e9 (by assumption)) (fun e9 => absurd e9 (by omega)))) (by omega) _ _ _ hw (lv_sub hl [0, 4, 5, 6] rfl)
                · have D65_30 := iEq c65_30 rfl t_0
                  refine lv_iconst (v := 1) hx hb dX10_sumByCell_68 (by decide) ?_
                  refine lv_goto (tgt := 73) hx hb dX10_sumByCell_69 (by decide) ?_
                  refine lv_istore (lv' := [(6, .int 1), (5, .int r50_9), (4, .ref (te i.toNatClampNeg)), (3, .int i), (0, .ref (d 0)), (1, .int t), (2, .int z)]) hx hb dX10_sumByCell_73 hl (by decide) rfl (fun ls hl => ?_)
                  refine lv_iload hx hb dX10_sumByCell_75 (lv_at hl 0 rfl) ?_
                  refine lv_if_eq (tgt := 104) hx hb dX10_sumByCell_77 (by decide) (fun c77_33 => absurd c77_33 (by decide)) (fun c77_33 => ?_)
                  refine lv_iload hx hb dX10_sumByCell_80 (lv_at hl 1 rfl) ?_
                  refine k_Si (n := 1) X hw (c_X10_isCell l G _ r50_9) wd_r26_14 wd_r15_22 wd_r1_2 wd_r15_23 ⟨by decide, by decide, by decide +kernel⟩ rfl rfl ⟨Nat.le_of_ble_eq_true rfl, Nat.le_of_ble_eq_true rfl⟩ rfl rfl hl.1 (Nat.le_of_ble_eq_true rfl) dX10_sumByCell_82 ⟨Nat.le_of_ble_eq_true rfl, Nat.le_of_ble_eq_true rfl⟩ (fun r82_34 S82_36 H locs h82_35 hw => ?_)
                  rcases h82_35 with ⟨rfl, rfl, h82_35⟩ | ⟨rfl, rfl, h82_35⟩
                  · have h82_35 := h82_35
                    refine lv_if_eq (tgt := 104) hx hb dX10_sumByCell_85 (by decide) (fun c85_37 => absurd c85_37 (by decide)) (fun c85_37 => ?_)
                    refine lv_aload_n hx hb dX10_sumByCell_88 rfl (lv_at hl 4 rfl) ?_
                    refine gf_X10_42 (b := (d 16)) X hw k0 r75 dX10_sumByCell_89 ?_
                    refine lv_iload hx hb dX10_sumByCell_92 (lv_at hl 1 rfl) ?_
                    refine lv_dup2_11 hx hb dX10_sumByCell_94 rfl rfl ?_
                    refine q_ldJ X hw kco (vin nco (by omega) (by omega)) dX10_sumByCell_95 ?_
                    refine lv_topl (fun v95_38 e95_38 => ?_)
                    have e95_38 : v95_38 = y23 (d 16) r50_9.toNatClampNeg := e95_38
                    have e95n := e95_38
                    refine lv_aload_n hx hb dX10_sumByCell_96 rfl (lv_at hl 4 rfl) ?_
                    refine lv_aload hx hb dX10_sumByCell_97 (lv_at hl 2 rfl) ?_
                    refine k_Vl (n := 1) X hw (rcvk (ci := 10) X hw k0 (fun _ _ _ _ _ _ _ => ⟨_, rfl⟩) rfl) (c_v_X10_oddsOf l G _ d sa sb sp te tm pe tf pf nt np i.toNatClampNeg V tl pl hC hN hik hct hTV hPV) wd_r36_3 wd_r36_4 wd_r36_5 wd_r1_2 wd_r36_6 ⟨by decide, by decide, by decide +kernel⟩ rfl rfl ⟨Nat.le_of_ble_eq_true rfl, Nat.le_of_ble_eq_true rfl⟩ rfl rfl hl.1 (Nat.le_of_ble_eq_true rfl) dX10_sumByCell_99 ⟨Nat.le_of_ble_eq_true rfl, Nat.le_of_ble_eq_true rfl⟩ (fun r99_39 S99_41 H locs h99_40 hw => ?_)
                    obtain ⟨rfl, h99_40⟩ := h99_40
                    have HO9 := h99_40
                    refine lv_ladd hx hb dX10_sumByCell_102 ?_
                    refine lv_topl (fun v102_42 e102_42 => ?_)
                    have e102n := e102_42
                    refine q_stJ X hw kco (vin nco (by omega) (by omega)) dX10_sumByCell_103 (fun H locs hw => ?_)
                    obtain ⟨y103_43, ey103_43, hw⟩ : ∃ zz9, zz9 = va_up y23 (d 16) (vp_updL (y23 (d 16)) r50_9.toNatClampNeg v102_42) ∧ PX G A s.heap (ch S (pI S) (pJ S) (qI S) zz9) H locs := ⟨_, rfl, hw⟩
                    have c103 := ey103_43
                    obtain ⟨v104_44, e104_44⟩ : ∃ y : Int32, y = i + 1 := ⟨_, rfl⟩
                    have t104_44 := iAdd e104_44 rfl t_1 (by omega) (by omega)
                    have t104 := t104_44
                    refine lv_iinc (v := v104_44) (lv' := [(3, .int v104_44), (6, .int 1), (5, .int r50_9), (4, .ref (te i.toNatClampNeg)), (0, .ref (d 0)), (1, .int t), (2, .int z)]) hx hb dX10_sumByCell_104 hl (k := 3) rfl (by rw [e104_44]; rfl) (by decide) rfl (fun ls hl => ?_)
                    refine lv_goto (tgt := 23) hx hb dX10_sumByCell_107 (by decide) ?_
                    exact ih23 y103_43 v104_44 (by omega) (by first | exact sb_y (O := (fun k => odF V.2 (tl k) pl (fun k => pI S 0 (pe k)) np)) hsb hi.1 t104 ⟨(sc_y hc50 (by omega)).1, (by first | exact Or.inl (by assumption) | exact Or.inr (by omega))⟩ (sc_y hc50 (by omega)).2 (by omega) e95n HO9 e102n c103 | exact sb_n hsb hi.1 t104 (fun q9 => q9.1 (sc_no hc50 hok9 (by omega))) | exact sb_n hsb hi.1 t104 (fun q9 => q9.2.elim (fun e9 => absurd e9 (by assumption)) (fun e9 => absurd e9 (by omega)))) (by omega) _ _ _ hw (lv_sub hl [0, 4, 5, 6] rfl)
                  · have h82_35 := h82_35
                    refine lv_if_eq (tgt := 104) hx hb dX10_sumByCell_85 (by decide) (fun c85_45 => ?_) (fun c85_45 => absurd c85_45 (by decide))
                    obtain ⟨v104_46, e104_46⟩ : ∃ y : Int32, y = i + 1 := ⟨_, rfl⟩
                    have t104_46 := iAdd e104_46 rfl t_1 (by omega) (by omega)
                    have t104 := t104_46
                    refine lv_iinc (v := v104_46) (lv' := [(3, .int v104_46), (6, .int 1), (5, .int r50_9), (4, .ref (te i.toNatClampNeg)), (0, .ref (d 0)), (1, .int t), (2, .int z)]) hx hb dX10_sumByCell_104 hl (k := 3) rfl (by rw [e104_46]; rfl) (by decide) rfl (fun ls hl => ?_)
                    refine lv_goto (tgt := 23) hx hb dX10_sumByCell_107 (by decide) ?_
                    exact ih23 y23 v104_46 (by omega) (by first | exact sb_y (O := (fun k => odF V.2 (tl k) pl (fun k => pI S 0 (pe k)) np)) hsb hi.1 t104 ⟨(sc_y hc50 (by omega)).1, (by first | exact Or.inl (by assumption) | exact Or.inr (by omega))⟩ (sc_y hc50 (by omega)).2 (by omega) e95n HO9 e102n c103 | exact sb_n hsb hi.1 t104 (fun q9 => q9.1 (sc_no hc50 hok9 (by omega))) | exact sb_n hsb hi.1 t104 (fun q9 => q9.2.elim (fun e9 => absurd e9 (by assumption)) (fun e9 => absurd e9 (by omega)))) (by omega) _ _ _ hw (lv_sub hl [0, 4, 5, 6] rfl)
        exact lp23 _ y2 0 (by have := t_0; omega) (sb_0 (fun k9 h9 => h0 k9 (by omega))) (Nat.lt_succ_self _) _ _ _ hw (lv_sub hl [0, 1, 2, 3] rfl)
      · have D5_1 := iNle c5_1 t_64 rfl
        refine lv_aload_n hx hb dX10_sumByCell_8 rfl (lv_at hl 1 rfl) ?_
        refine gf_X10_42 (b := (d 16)) X hw k0 r75 dX10_sumByCell_9 ?_
        refine lv_iload_n hx hb dX10_sumByCell_12 rfl (lv_at hl 0 rfl) ?_
        refine lv_lconst (v := 0) hx hb dX10_sumByCell_13 (by decide) ?_
        refine q_stJ X hw kco (vin nco (by omega) (by omega)) dX10_sumByCell_14 (fun H locs hw => ?_)
        obtain ⟨y14_47, ey14_47, hw⟩ : ∃ zz9, zz9 = va_up y2 (d 16) (vp_updL (y2 (d 16)) k.toNatClampNeg 0) ∧ PX G A s.heap (ch S (pI S) (pJ S) (qI S) zz9) H locs := ⟨_, rfl, hw⟩
        have c14 := ey14_47
        obtain ⟨v15_48, e15_48⟩ : ∃ y : Int32, y = k + 1 := ⟨_, rfl⟩
        have t15_48 := iAdd e15_48 rfl t_1 (by omega) (by omega)
        have t15 := t15_48
        refine lv_iinc (v := v15_48) (lv' := [(3, .int v15_48), (0, .ref (d 0)), (1, .int t), (2, .int z)]) hx hb dX10_sumByCell_15 hl (k := 0) rfl (by rw [e15_48]; rfl) (by decide) rfl (fun ls hl => ?_)
        refine lv_goto (tgt := 2) hx hb dX10_sumByCell_18 (by decide) ?_
        exact ih2 y14_47 v15_48 (by omega) (zero_s h0 c14 (by omega) t15) (by omega) _ _ _ hw (lv_sub hl [0, 1, 2, 3] rfl)
  exact lp2 _ (qJ S) 0 (by have := t_0; omega) (fun a h => by have := t_0; omega) (Nat.lt_succ_self _) _ _ _ hw (lv_sub hl [0, 1, 2, 3] rfl)
set_option maxHeartbeats 4000000 in
set_option maxRecDepth 100000 in
theorem c_v_X10_greatestDivisor (l : Launch) (G : Gh) (S : Pl) (a b : Int64) (hab : 0 ≤ b.toInt ∧ b.toInt ≤ a.toInt ∧ a.toInt ≤ 100000000000000000) : MtL l yX10_greatestDivisor cX10_greatestDivisor 7 (some .long) (Rm 0 0 0) G [.long a, .long b] S (fun (r : Int64) (S' : Pl) => S = S' ∧ r.toInt = (gcI a.toInt b.toInt : Nat)) 0 0 := by
  refine MtL.of (by decide) (Nat.le_of_ble_eq_true rfl) ?_
  intro p e s m args below meth c Q A X hw hin hret ls hl
  have hx := X.1.1
  have hb := X.1.2.1
  have hl : lv_has ls 7 [(0, .long a), (2, .long b)] := hl
  refine lv_iconst (v := 0) hx hb dX10_greatestDivisor_0 (by decide) ?_
  refine lv_istore (lv' := [(4, .int 0), (0, .long a), (2, .long b)]) hx hb dX10_greatestDivisor_1 hl (by decide) rfl (fun ls hl => ?_)
  have lp3 : ∀ (N9 : Nat) (u : Int64) (v : Int64) (i : Int32), (0 ≤ i.toInt ∧ i.toInt ≤ 100) → (0 ≤ v.toInt ∧ v.toInt ≤ u.toInt) → (gcI u.toInt v.toInt = gcI a.toInt b.toInt) → ((fbp i.toNatClampNeg).2 * u.toInt + (fbp i.toNatClampNeg).1 * v.toInt ≤ a.toInt) → (100 - i.toInt).toNat < N9 → ∀ (H : Heap) (locs : List Loc) (ls : Array Slot), PX G A s.heap S H locs → lv_has ls 7 [(4, .int i), (0, .long u), (2, .long v)] → W p l e (Rm 0 0 0) s m args below meth c H locs 0 0 Q (F0 m 3 ls []) := by
    intro N9
    induction N9 with
    | zero => intro u v i hi hn hg hf hm; exact absurd hm (Nat.not_lt_zero _)
    | succ N9 ih3 =>
      intro u v i hi hn hg hf hm H locs ls hw hl
      refine lv_lload_n hx hb dX10_greatestDivisor_3 rfl (lv_at hl 2 rfl) ?_
      refine lv_lconst (v := 0) hx hb dX10_greatestDivisor_4 (by decide) ?_
      refine W.lcmp hx hb dX10_greatestDivisor_5 ?_
      refine lv_topi (fun v5_1 e5_1 => ?_)
      refine lv_if_eq (tgt := 32) hx hb dX10_greatestDivisor_6 (by decide) (fun c6_2 => ?_) (fun c6_2 => ?_)
      · have D6_2 := lc_eq e5_1 c6_2
        refine lv_lload_n hx hb dX10_greatestDivisor_32 rfl (lv_at hl 1 rfl) ?_
        exact hret u _ _ _ _ _ ⟨rfl, by first | (have e9 : v.toInt = 0 := (by have := (by decide : (0:Int64).toInt = 0); omega); rw [← hg, e9, gcI_0]; omega) | exact (eg_end hf hab.2.2 hn.1 (by have := (by decide : (0:Int64).toInt = 0); omega) (by have := cl_toInt (x := i) hi.1; omega)).elim⟩ hw dX10_greatestDivisor_33
      · have D6_2 := lcn_eq e5_1 c6_2
        refine lv_iload hx hb dX10_greatestDivisor_9 (lv_at hl 0 rfl) ?_
        refine lv_bipush (v := 100) hx hb dX10_greatestDivisor_11 (by decide) ?_
        refine lv_icmp_ge (tgt := 32) hx hb dX10_greatestDivisor_13 (by decide) (fun c13_3 => ?_) (fun c13_3 => ?_)
        · have D13_3 := iLe c13_3 t_100 rfl
          refine lv_lload_n hx hb dX10_greatestDivisor_32 rfl (lv_at hl 1 rfl) ?_
          exact hret u _ _ _ _ _ ⟨rfl, by first | (have e9 : v.toInt = 0 := (by have := (by decide : (0:Int64).toInt = 0); omega); rw [← hg, e9, gcI_0]; omega) | exact (eg_end hf hab.2.2 hn.1 (by have := (by decide : (0:Int64).toInt = 0); omega) (by have := cl_toInt (x := i) hi.1; omega)).elim⟩ hw dX10_greatestDivisor_33
        · have D13_3 := iNle c13_3 t_100 rfl
          refine lv_lload_n hx hb dX10_greatestDivisor_16 rfl (lv_at hl 1 rfl) ?_
          refine lv_lload_n hx hb dX10_greatestDivisor_17 rfl (lv_at hl 2 rfl) ?_
          refine lv_lrem hx hb dX10_greatestDivisor_18 (lne0 (by have := (by decide : (0:Int64).toInt = 0); omega)) ?_
          refine lv_topl (fun v18_4 e18_4 => ?_)
          have r18 := lremP e18_4 (by omega) (by have := (by decide : (0:Int64).toInt = 0); omega)
          refine lv_lstore (lv' := [(5, .long v18_4), (4, .int i), (0, .long u), (2, .long v)]) hx hb dX10_greatestDivisor_19 hl (by decide) rfl (fun ls hl => ?_)
          refine lv_lload_n hx hb dX10_greatestDivisor_21 rfl (lv_at hl 3 rfl) ?_
          refine lv_lstore_n (lv' := [(0, .long v), (5, .long v18_4), (4, .int i), (2, .long v)]) hx hb dX10_greatestDivisor_22 rfl hl (by decide) rfl (fun ls hl => ?_)
          refine lv_lload hx hb dX10_greatestDivisor_23 (lv_at hl 1 rfl) ?_
          refine lv_lstore_n (lv' := [(2, .long v18_4), (0, .long v), (5, .long v18_4), (4, .int i)]) hx hb dX10_greatestDivisor_25 rfl hl (by decide) rfl (fun ls hl => ?_)
          obtain ⟨v26_5, e26_5⟩ : ∃ y : Int32, y = i + 1 := ⟨_, rfl⟩
          have t26_5 := iAdd e26_5 rfl t_1 (by omega) (by omega)
          have t26 := t26_5
          refine lv_iinc (v := v26_5) (lv' := [(4, .int v26_5), (2, .long v18_4), (0, .long v), (5, .long v18_4)]) hx hb dX10_greatestDivisor_26 hl (k := 3) rfl (by rw [e26_5]; rfl) (by decide) rfl (fun ls hl => ?_)
          refine lv_goto (tgt := 3) hx hb dX10_greatestDivisor_29 (by decide) ?_
          exact ih3  v v18_4 v26_5 (by omega) (by have := (by decide : (0:Int64).toInt = 0); have z9 := (eg_s hf hn.2 (by omega) r18).2; omega) (by have := (by decide : (0:Int64).toInt = 0); exact (gcI_s (by omega) (by omega) r18).trans hg) (by have := (by decide : (0:Int64).toInt = 0); have z9 := (eg_s hf hn.2 (by omega) r18).1; rw [show (v26_5).toNatClampNeg = i.toNatClampNeg + 1 by have := cl_toInt (x := i) hi.1; have := cl_toInt (x := v26_5) (by omega); omega]; exact z9) (by omega) _ _ _ hw (lv_sub hl [0, 2, 1] rfl)
  exact lp3 _  a b 0 (by have := t_0; omega) (by omega) rfl (by rw [show (0 : Int32).toNatClampNeg = 0 by decide]; show 1 * a.toInt + 0 * b.toInt ≤ a.toInt; omega) (Nat.lt_succ_self _) _ _ _ hw (lv_sub hl [0, 1, 2] rfl)
set_option maxHeartbeats 4000000 in
set_option maxRecDepth 100000 in
theorem c_v_X10_share (l : Launch) (G : Gh) (S : Pl) (d sa sb sp te tm pe : Nat → Nat) (tf pf nt np : Nat) (x t z : Int32) (V : SV) (tl : Nat → TP) (pl : Nat → PP) (hC : CIs G S d sa sb sp te tm pe tf pf nt np) (hN : CIn (pI S) d te pe nt np) (hct : Ct (qI S) sa (stl V.2)) (hTV : TV S te tm nt tl V) (hPV : PV S pe np pl) (hvk : vok V) (hpv : ∀ k, k < np → ppV (pl k)) : MtL l yX10_share cX10_share 10 (some .long) (Rm 6 0 0) G [.ref (d 0), .int x, .int t, .int z] S (fun (r : Int64) (S' : Pl) => ∃ y', ch S (pI S) (pJ S) (qI S) y' = S' ∧ r.toInt = (if (0 ≤ x.toInt ∧ x.toInt < 64) ∧ 0 ≤ t.toInt ∧ t.toInt ≤ 72 then shI (sbF V.2 tl (fun k => odF V.2 (tl k) pl (fun k => pI S 0 (pe k)) np) t.toNatClampNeg 0 nt x.toNatClampNeg).toInt (alF (fun k => odF V.2 (tl k) pl (fun k => pI S 0 (pe k)) np) nt).toInt z else -1)) 0 0 := by
  refine MtL.of (by decide) (Nat.le_of_ble_eq_true rfl) ?_
  intro p e s m args below meth c Q A X hw hin hret ls hl
  have hx := X.1.1
  have hb := X.1.2.1
  have hl : lv_has ls 10 [(0, .ref (d 0)), (1, .int x), (2, .int t), (3, .int z)] := hl
  obtain ⟨k0, r70, r71, r72, r73, r74, r75, r76, r77, hR, hS, hB, hSp, ⟨kco, nco⟩, lT, lP, n68, n79, hTl, hPk, hPi, n40⟩ := id hC
  obtain ⟨z92, z93, zw, zz, zst, zs6⟩ := id hN
  have hTp := hR.2.2.2.2.2.2.2
  have n60 := lP.2.2.1
  have oS := hS
  have oTp := hTp
  have oPk := hPk
  have hOB : ∀ k, k < nt → 0 ≤ ((fun k => odF V.2 (tl k) pl (fun k => pI S 0 (pe k)) np) k).toInt ∧ ((fun k => odF V.2 (tl k) pl (fun k => pI S 0 (pe k)) np) k).toInt ≤ 1000000000000000 := od_all hvk (fun k9 h9 => by have z9 := zw k9 h9; rw [(hTV.1 k9 h9).1.2.2.2.2] at z9; exact z9) hpv zs6
  refine lv_iload_n hx hb dX10_share_0 rfl (lv_at hl 1 rfl) ?_
  refine k_Si (n := 1) X hw (c_X10_isCell l G _ x) wd_r26_14 wd_r15_22 wd_r1_2 wd_r15_23 ⟨by decide, by decide, by decide +kernel⟩ rfl rfl ⟨Nat.le_of_ble_eq_true rfl, Nat.le_of_ble_eq_true rfl⟩ rfl rfl hl.1 (Nat.le_of_ble_eq_true rfl) dX10_share_1 ⟨Nat.le_of_ble_eq_true rfl, Nat.le_of_ble_eq_true rfl⟩ (fun r1_1 S1_3 H locs h1_2 hw => ?_)
  rcases h1_2 with ⟨rfl, rfl, h1_2⟩ | ⟨rfl, rfl, h1_2⟩
  · have h1_2 := h1_2
    refine lv_if_eq (tgt := 14) hx hb dX10_share_4 (by decide) (fun c4_4 => absurd c4_4 (by decide)) (fun c4_4 => ?_)
    refine lv_iload_n hx hb dX10_share_7 rfl (lv_at hl 2 rfl) ?_
    refine k_Si (n := 1) X hw (c_X10_isMoment l G _ t) wd_r30_6 wd_r30_7 wd_r1_2 wd_r30_8 ⟨by decide, by decide, by decide +kernel⟩ rfl rfl ⟨Nat.le_of_ble_eq_true rfl, Nat.le_of_ble_eq_true rfl⟩ rfl rfl hl.1 (Nat.le_of_ble_eq_true rfl) dX10_share_8 ⟨Nat.le_of_ble_eq_true rfl, Nat.le_of_ble_eq_true rfl⟩ (fun r8_5 S8_7 H locs h8_6 hw => ?_)
    rcases h8_6 with ⟨rfl, rfl, h8_6⟩ | ⟨rfl, rfl, h8_6⟩
    · have h8_6 := h8_6
      refine lv_if_ne (tgt := 18) hx hb dX10_share_11 (by decide) (fun c11_8 => ?_) (fun c11_8 => absurd c11_8 (by decide))
      refine lv_aload_n hx hb dX10_share_18 rfl (lv_at hl 0 rfl) ?_
      refine lv_iload_n hx hb dX10_share_19 rfl (lv_at hl 2 rfl) ?_
      refine lv_iconst (v := 0) hx hb dX10_share_20 (by decide) ?_
      refine k_Vv (n := 2) X hw (rcvk (ci := 10) X hw k0 (fun _ _ _ _ _ _ _ => ⟨_, rfl⟩) rfl) (c_v_X10_sumByCell l G _ d sa sb sp te tm pe tf pf nt np t 0 V tl pl hC hN hct hTV hPV (by omega)) wd_r38_6 wd_r38_7 wd_r38_8 wd_r1_2 wd_r38_9 ⟨by decide, by decide, by decide +kernel⟩ rfl rfl ⟨Nat.le_of_ble_eq_true rfl, Nat.le_of_ble_eq_true rfl⟩ rfl rfl hl.1 (Nat.le_of_ble_eq_true rfl) dX10_share_21 ⟨Nat.le_of_ble_eq_true rfl, Nat.le_of_ble_eq_true rfl⟩ (fun S21_10 H locs h21_9 hw => ?_)
      have := t_0
      obtain ⟨y21_11, rfl, h21_9⟩ := h21_9
      have hw : PX G A s.heap (ch S (pI S) (pJ S) (qI S) y21_11) H locs := hw
      have hSB := h21_9
      refine lv_aload_n hx hb dX10_share_24 rfl (lv_at hl 0 rfl) ?_
      refine gf_X10_42 (b := (d 16)) X hw k0 r75 dX10_share_25 ?_
      refine lv_iload_n hx hb dX10_share_28 rfl (lv_at hl 1 rfl) ?_
      refine q_ldJ X hw kco (vin nco (by omega) (by omega)) dX10_share_29 ?_
      refine lv_topl (fun v29_12 e29_12 => ?_)
      have e29_12 : v29_12 = y21_11 (d 16) x.toNatClampNeg := e29_12
      have hc29 := congrArg Int64.toInt (e29_12.trans (hSB x.toNatClampNeg (by have := cl_toInt (x := x) (by omega); omega)))
      have hcb9 := sbb_b (C := V.2) (tl := tl) (t := t.toNatClampNeg) (z := 0) n40 hOB x.toNatClampNeg nt (Nat.le_refl _)
      have hab9 := alf_b n40 hOB nt (Nat.le_refl _)
      refine lv_lstore (lv' := [(4, .long v29_12), (0, .ref (d 0)), (1, .int x), (2, .int t), (3, .int z)]) hx hb dX10_share_30 hl (by decide) rfl (fun ls hl => ?_)
      refine lv_aload_n hx hb dX10_share_32 rfl (lv_at hl 1 rfl) ?_
      refine k_Vl (n := 0) X hw (rcvk (ci := 10) X hw k0 (fun _ _ _ _ _ _ _ => ⟨_, rfl⟩) rfl) (c_v_X10_allOdds l G _ d sa sb sp te tm pe tf pf nt np V tl pl hC hN hct hTV hPV) wd_r38_11 wd_r38_12 wd_r38_13 wd_r1_2 wd_r38_14 ⟨by decide, by decide, by decide +kernel⟩ rfl rfl ⟨Nat.le_of_ble_eq_true rfl, Nat.le_of_ble_eq_true rfl⟩ rfl rfl hl.1 (Nat.le_of_ble_eq_true rfl) dX10_share_33 ⟨Nat.le_of_ble_eq_true rfl, Nat.le_of_ble_eq_true rfl⟩ (fun r33_13 S33_15 H locs h33_14 hw => ?_)
      obtain ⟨rfl, h33_14⟩ := h33_14
      have ha33 : r33_13.toInt = (alF (fun k => odF V.2 (tl k) pl (fun k => pI S 0 (pe k)) np) nt).toInt := congrArg Int64.toInt h33_14
      refine lv_lstore (lv' := [(6, .long r33_13), (4, .long v29_12), (0, .ref (d 0)), (1, .int x), (2, .int t), (3, .int z)]) hx hb dX10_share_36 hl (by decide) rfl (fun ls hl => ?_)
      refine lv_lload hx hb dX10_share_38 (lv_at hl 0 rfl) ?_
      refine lv_lload hx hb dX10_share_40 (lv_at hl 1 rfl) ?_
      refine k_Sl (n := 2) X hw (c_v_X10_greatestDivisor l G _ r33_13 v29_12 (by omega)) wd_r38_15 wd_r38_16 wd_r1_2 wd_r38_17 ⟨by decide, by decide, by decide +kernel⟩ rfl rfl ⟨Nat.le_of_ble_eq_true rfl, Nat.le_of_ble_eq_true rfl⟩ rfl rfl hl.1 (Nat.le_of_ble_eq_true rfl) dX10_share_42 ⟨Nat.le_of_ble_eq_true rfl, Nat.le_of_ble_eq_true rfl⟩ (fun r42_16 S42_18 H locs h42_17 hw => ?_)
      obtain ⟨rfl, h42_17⟩ := h42_17
      have hg42 : r42_16.toInt = (gcI (alF (fun k => odF V.2 (tl k) pl (fun k => pI S 0 (pe k)) np) nt).toInt (sbF V.2 tl (fun k => odF V.2 (tl k) pl (fun k => pI S 0 (pe k)) np) t.toNatClampNeg 0 nt x.toNatClampNeg).toInt : Nat) := by rw [h42_17, ha33, hc29]
      refine lv_lstore (lv' := [(8, .long r42_16), (6, .long r33_13), (4, .long v29_12), (0, .ref (d 0)), (1, .int x), (2, .int t), (3, .int z)]) hx hb dX10_share_45 hl (by decide) rfl (fun ls hl => ?_)
      refine lv_lload hx hb dX10_share_47 (lv_at hl 0 rfl) ?_
      refine lv_lconst (v := 0) hx hb dX10_share_49 (by decide) ?_
      refine W.lcmp hx hb dX10_share_50 ?_
      refine lv_topi (fun v50_19 e50_19 => ?_)
      refine lv_if_ne (tgt := 64) hx hb dX10_share_51 (by decide) (fun c51_20 => ?_) (fun c51_20 => ?_)
      · have D51_20 := lc_ne e50_19 c51_20
        refine lv_iload_n hx hb dX10_share_64 rfl (lv_at hl 6 rfl) ?_
        refine lv_if_eq (tgt := 76) hx hb dX10_share_65 (by decide) (fun c65_21 => ?_) (fun c65_21 => ?_)
        · have D65_21 := iEq c65_21 rfl t_0
          refine lv_lload hx hb dX10_share_76 (lv_at hl 2 rfl) ?_
          refine lv_lload hx hb dX10_share_78 (lv_at hl 0 rfl) ?_
          refine lv_ldiv hx hb dX10_share_80 (lne0 (by have := (by decide : (0:Int64).toInt = 0); omega)) ?_
          refine lv_topl (fun v80_22 e80_22 => ?_)
          have d80 := lDivP e80_22 (by omega) (by have := (by decide : (0:Int64).toInt = 0); omega)
          exact hret v80_22 _ _ _ _ _ ⟨_, rfl, by rw [if_pos (by omega)]; exact sh_c (by omega) (by omega) hg42 (by have := (by decide : (0:Int64).toInt = 0); omega) (Or.inl ⟨by assumption, by rw [d80, hc29]⟩)⟩ hw dX10_share_81
        · skip
          refine lv_lload hx hb dX10_share_68 (lv_at hl 1 rfl) ?_
          refine lv_lload hx hb dX10_share_70 (lv_at hl 0 rfl) ?_
          refine lv_ldiv hx hb dX10_share_72 (lne0 (by have := (by decide : (0:Int64).toInt = 0); omega)) ?_
          refine lv_topl (fun v72_23 e72_23 => ?_)
          have d72 := lDivP e72_23 (by omega) (by have := (by decide : (0:Int64).toInt = 0); omega)
          refine lv_goto (tgt := 81) hx hb dX10_share_73 (by decide) ?_
          exact hret v72_23 _ _ _ _ _ ⟨_, rfl, by rw [if_pos (by omega)]; exact sh_c (by omega) (by omega) hg42 (by have := (by decide : (0:Int64).toInt = 0); omega) (Or.inr ⟨by assumption, by rw [d72, ha33]⟩)⟩ hw dX10_share_81
      · have D51_20 := lcn_ne e50_19 c51_20
        refine lv_iload_n hx hb dX10_share_54 rfl (lv_at hl 6 rfl) ?_
        refine lv_if_eq (tgt := 62) hx hb dX10_share_55 (by decide) (fun c55_24 => ?_) (fun c55_24 => ?_)
        · have D55_24 := iEq c55_24 rfl t_0
          refine lv_lconst (v := 0) hx hb dX10_share_62 (by decide) ?_
          exact hret 0 _ _ _ _ _ ⟨_, rfl, by rw [if_pos (by omega)]; refine sh_0 (by have := (by decide : (0:Int64).toInt = 0); have z9 := gcI_0 (a := (alF (fun k => odF V.2 (tl k) pl (fun k => pI S 0 (pe k)) np) nt).toInt); by_cases q9 : (sbF V.2 tl (fun k => odF V.2 (tl k) pl (fun k => pI S 0 (pe k)) np) t.toNatClampNeg 0 nt x.toNatClampNeg).toInt = 0; (exact q9); (have y9 := gc_pos (a := (alF (fun k => odF V.2 (tl k) pl (fun k => pI S 0 (pe k)) np) nt).toInt) (c := (sbF V.2 tl (fun k => odF V.2 (tl k) pl (fun k => pI S 0 (pe k)) np) t.toNatClampNeg 0 nt x.toNatClampNeg).toInt) (by omega); omega)) ?_; rw [if_pos (by assumption)]; decide⟩ hw dX10_share_63
        · skip
          refine lv_lconst (v := 1) hx hb dX10_share_58 (by decide) ?_
          refine lv_goto (tgt := 63) hx hb dX10_share_59 (by decide) ?_
          exact hret 1 _ _ _ _ _ ⟨_, rfl, by rw [if_pos (by omega)]; refine sh_0 (by have := (by decide : (0:Int64).toInt = 0); have z9 := gcI_0 (a := (alF (fun k => odF V.2 (tl k) pl (fun k => pI S 0 (pe k)) np) nt).toInt); by_cases q9 : (sbF V.2 tl (fun k => odF V.2 (tl k) pl (fun k => pI S 0 (pe k)) np) t.toNatClampNeg 0 nt x.toNatClampNeg).toInt = 0; (exact q9); (have y9 := gc_pos (a := (alF (fun k => odF V.2 (tl k) pl (fun k => pI S 0 (pe k)) np) nt).toInt) (c := (sbF V.2 tl (fun k => odF V.2 (tl k) pl (fun k => pI S 0 (pe k)) np) t.toNatClampNeg 0 nt x.toNatClampNeg).toInt) (by omega); omega)) ?_; rw [if_neg (by assumption)]; decide⟩ hw dX10_share_63
    · have h8_6 := h8_6
      refine lv_if_ne (tgt := 18) hx hb dX10_share_11 (by decide) (fun c11_25 => absurd c11_25 (by decide)) (fun c11_25 => ?_)
      refine lv_ldc2 hx hb X.1.2.2.2.1 (X.1.2.2.2.2 _ wd_r36_2) dX10_share_14 ?_
      exact hret (-1) _ _ _ _ _ ⟨_, rfl, by rw [if_neg (by omega)]; decide⟩ hw dX10_share_17
  · have h1_2 := h1_2
    refine lv_if_eq (tgt := 14) hx hb dX10_share_4 (by decide) (fun c4_26 => ?_) (fun c4_26 => absurd c4_26 (by decide))
    refine lv_ldc2 hx hb X.1.2.2.2.1 (X.1.2.2.2.2 _ wd_r36_2) dX10_share_14 ?_
    exact hret (-1) _ _ _ _ _ ⟨_, rfl, by rw [if_neg (by omega)]; decide⟩ hw dX10_share_17
set_option maxHeartbeats 4000000 in
set_option maxRecDepth 100000 in
theorem c_v_X10_likeliest (l : Launch) (G : Gh) (S : Pl) (d sa sb sp te tm pe : Nat → Nat) (tf pf nt np : Nat) (t : Int32) (V : SV) (tl : Nat → TP) (pl : Nat → PP) (hC : CIs G S d sa sb sp te tm pe tf pf nt np) (hN : CIn (pI S) d te pe nt np) (hct : Ct (qI S) sa (stl V.2)) (hTV : TV S te tm nt tl V) (hPV : PV S pe np pl) : MtI l yX10_likeliest cX10_likeliest 6 (some .int) (Rm 6 0 0) G [.ref (d 0), .int t] S (fun (r : Int32) (S' : Pl) => ∃ y', ch S (pI S) (pJ S) (qI S) y' = S' ∧ r.toInt = (if 0 ≤ t.toInt ∧ t.toInt ≤ 72 then lkF (sbF V.2 tl (fun k => odF V.2 (tl k) pl (fun k => pI S 0 (pe k)) np) t.toNatClampNeg 0 nt) 64 else -1)) 0 0 := by
  refine MtI.of (by decide) (Nat.le_of_ble_eq_true rfl) ?_
  intro p e s m args below meth c Q A X hw hin hret ls hl
  have hx := X.1.1
  have hb := X.1.2.1
  have hl : lv_has ls 6 [(0, .ref (d 0)), (1, .int t)] := hl
  obtain ⟨k0, r70, r71, r72, r73, r74, r75, r76, r77, hR, hS, hB, hSp, ⟨kco, nco⟩, lT, lP, n68, n79, hTl, hPk, hPi, n40⟩ := id hC
  obtain ⟨z92, z93, zw, zz, zst, zs6⟩ := id hN
  have hTp := hR.2.2.2.2.2.2.2
  have n60 := lP.2.2.1
  have oS := hS
  have oTp := hTp
  have oPk := hPk
  refine lv_iload_n hx hb dX10_likeliest_0 rfl (lv_at hl 1 rfl) ?_
  refine k_Si (n := 1) X hw (c_X10_isMoment l G _ t) wd_r30_6 wd_r30_7 wd_r1_2 wd_r30_8 ⟨by decide, by decide, by decide +kernel⟩ rfl rfl ⟨Nat.le_of_ble_eq_true rfl, Nat.le_of_ble_eq_true rfl⟩ rfl rfl hl.1 (Nat.le_of_ble_eq_true rfl) dX10_likeliest_1 ⟨Nat.le_of_ble_eq_true rfl, Nat.le_of_ble_eq_true rfl⟩ (fun r1_1 S1_3 H locs h1_2 hw => ?_)
  rcases h1_2 with ⟨rfl, rfl, h1_2⟩ | ⟨rfl, rfl, h1_2⟩
  · have h1_2 := h1_2
    refine lv_if_ne (tgt := 9) hx hb dX10_likeliest_4 (by decide) (fun c4_4 => ?_) (fun c4_4 => absurd c4_4 (by decide))
    refine lv_aload_n hx hb dX10_likeliest_9 rfl (lv_at hl 0 rfl) ?_
    refine lv_iload_n hx hb dX10_likeliest_10 rfl (lv_at hl 1 rfl) ?_
    refine lv_iconst (v := 0) hx hb dX10_likeliest_11 (by decide) ?_
    refine k_Vv (n := 2) X hw (rcvk (ci := 10) X hw k0 (fun _ _ _ _ _ _ _ => ⟨_, rfl⟩) rfl) (c_v_X10_sumByCell l G _ d sa sb sp te tm pe tf pf nt np t 0 V tl pl hC hN hct hTV hPV (by omega)) wd_r38_6 wd_r38_7 wd_r38_8 wd_r1_2 wd_r38_9 ⟨by decide, by decide, by decide +kernel⟩ rfl rfl ⟨Nat.le_of_ble_eq_true rfl, Nat.le_of_ble_eq_true rfl⟩ rfl rfl hl.1 (Nat.le_of_ble_eq_true rfl) dX10_likeliest_12 ⟨Nat.le_of_ble_eq_true rfl, Nat.le_of_ble_eq_true rfl⟩ (fun S12_6 H locs h12_5 hw => ?_)
    have := t_0
    obtain ⟨y12_7, rfl, h12_5⟩ := h12_5
    have hw : PX G A s.heap (ch S (pI S) (pJ S) (qI S) y12_7) H locs := hw
    have hSB := h12_5
    refine lv_iconst (v := -1) hx hb dX10_likeliest_15 (by decide) ?_
    refine lv_istore_n (lv' := [(2, .int (-1)), (0, .ref (d 0)), (1, .int t)]) hx hb dX10_likeliest_16 rfl hl (by decide) rfl (fun ls hl => ?_)
    refine lv_lconst (v := 0) hx hb dX10_likeliest_17 (by decide) ?_
    refine lv_lstore_n (lv' := [(3, .long 0), (2, .int (-1)), (0, .ref (d 0)), (1, .int t)]) hx hb dX10_likeliest_18 rfl hl (by decide) rfl (fun ls hl => ?_)
    refine lv_iconst (v := 0) hx hb dX10_likeliest_19 (by decide) ?_
    refine lv_istore (lv' := [(5, .int 0), (3, .long 0), (2, .int (-1)), (0, .ref (d 0)), (1, .int t)]) hx hb dX10_likeliest_20 hl (by decide) rfl (fun ls hl => ?_)
    have lp22 : ∀ (N9 : Nat) (b : Int32) (u : Int64) (k : Int32), (0 ≤ k.toInt ∧ k.toInt ≤ 64) → (lkC (sbF V.2 tl (fun k => odF V.2 (tl k) pl (fun k => pI S 0 (pe k)) np) t.toNatClampNeg 0 nt) k.toNatClampNeg b u) → (64 - k.toInt).toNat < N9 → ∀ (H : Heap) (locs : List Loc) (ls : Array Slot), PX G A s.heap (ch S (pI S) (pJ S) (qI S) y12_7) H locs → lv_has ls 6 [(5, .int k), (3, .long u), (2, .int b), (0, .ref (d 0)), (1, .int t)] → W p l e (Rm 6 0 0) s m args below meth c H locs 0 0 Q (F0 m 22 ls []) := by
      intro N9
      induction N9 with
      | zero => intro b u k hk hlk hm; exact absurd hm (Nat.not_lt_zero _)
      | succ N9 ih22 =>
        intro b u k hk hlk hm H locs ls hw hl
        refine lv_iload hx hb dX10_likeliest_22 (lv_at hl 0 rfl) ?_
        refine lv_bipush (v := 64) hx hb dX10_likeliest_24 (by decide) ?_
        refine lv_icmp_ge (tgt := 58) hx hb dX10_likeliest_26 (by decide) (fun c26_8 => ?_) (fun c26_8 => ?_)
        · have D26_8 := iLe c26_8 t_64 rfl
          refine lv_iload_n hx hb dX10_likeliest_58 rfl (lv_at hl 2 rfl) ?_
          exact hret b _ _ _ _ _ ⟨_, rfl, by rw [if_pos (by omega)]; have e9 : k.toNatClampNeg = 64 := (by have := cl_toInt (x := k) hk.1; omega); rw [e9] at hlk; exact hlk.1⟩ hw rfl dX10_likeliest_59
        · have D26_8 := iNle c26_8 t_64 rfl
          refine lv_aload_n hx hb dX10_likeliest_29 rfl (lv_at hl 3 rfl) ?_
          refine gf_X10_42 (b := (d 16)) X hw k0 r75 dX10_likeliest_30 ?_
          refine lv_iload hx hb dX10_likeliest_33 (lv_at hl 0 rfl) ?_
          refine q_ldJ X hw kco (vin nco (by omega) (by omega)) dX10_likeliest_35 ?_
          refine lv_topl (fun v35_9 e35_9 => ?_)
          have e35_9 : v35_9 = y12_7 (d 16) k.toNatClampNeg := e35_9
          have h35 : v35_9 = (sbF V.2 tl (fun k => odF V.2 (tl k) pl (fun k => pI S 0 (pe k)) np) t.toNatClampNeg 0 nt) k.toNatClampNeg := e35_9.trans (hSB _ (by have := cl_toInt (x := k) hk.1; omega))
          refine lv_lload_n hx hb dX10_likeliest_36 rfl (lv_at hl 1 rfl) ?_
          refine W.lcmp hx hb dX10_likeliest_37 ?_
          refine lv_topi (fun v37_10 e37_10 => ?_)
          refine lv_if_le (tgt := 52) hx hb dX10_likeliest_38 (by decide) (fun c38_11 => ?_) (fun c38_11 => ?_)
          · have D38_11 := lc_le e37_10 c38_11
            obtain ⟨v52_12, e52_12⟩ : ∃ y : Int32, y = k + 1 := ⟨_, rfl⟩
            have t52_12 := iAdd e52_12 rfl t_1 (by omega) (by omega)
            have t52 := t52_12
            refine lv_iinc (v := v52_12) (lv' := [(5, .int v52_12), (3, .long u), (2, .int b), (0, .ref (d 0)), (1, .int t)]) hx hb dX10_likeliest_52 hl (k := 0) rfl (by rw [e52_12]; rfl) (by decide) rfl (fun ls hl => ?_)
            refine lv_goto (tgt := 22) hx hb dX10_likeliest_55 (by decide) ?_
            exact ih22  b u v52_12 (by omega) (by first | (have z9 := lk_y hlk hk.1 t52 h47 (by rw [h47, ← h35]; omega); exact z9) | exact lk_n hlk hk.1 t52 h35 (by omega)) (by omega) _ _ _ hw (lv_sub hl [0, 1, 2, 3, 4] rfl)
          · have D38_11 := lcn_le e37_10 c38_11
            refine lv_aload_n hx hb dX10_likeliest_41 rfl (lv_at hl 3 rfl) ?_
            refine gf_X10_42 (b := (d 16)) X hw k0 r75 dX10_likeliest_42 ?_
            refine lv_iload hx hb dX10_likeliest_45 (lv_at hl 0 rfl) ?_
            refine q_ldJ X hw kco (vin nco (by omega) (by omega)) dX10_likeliest_47 ?_
            refine lv_topl (fun v47_13 e47_13 => ?_)
            have e47_13 : v47_13 = y12_7 (d 16) k.toNatClampNeg := e47_13
            have h47 : v47_13 = (sbF V.2 tl (fun k => odF V.2 (tl k) pl (fun k => pI S 0 (pe k)) np) t.toNatClampNeg 0 nt) k.toNatClampNeg := e47_13.trans (hSB _ (by have := cl_toInt (x := k) hk.1; omega))
            refine lv_lstore_n (lv' := [(3, .long v47_13), (5, .int k), (2, .int b), (0, .ref (d 0)), (1, .int t)]) hx hb dX10_likeliest_48 rfl hl (by decide) rfl (fun ls hl => ?_)
            refine lv_iload hx hb dX10_likeliest_49 (lv_at hl 1 rfl) ?_
            refine lv_istore_n (lv' := [(2, .int k), (3, .long v47_13), (5, .int k), (0, .ref (d 0)), (1, .int t)]) hx hb dX10_likeliest_51 rfl hl (by decide) rfl (fun ls hl => ?_)
            obtain ⟨v52_14, e52_14⟩ : ∃ y : Int32, y = k + 1 := ⟨_, rfl⟩
            have t52_14 := iAdd e52_14 rfl t_1 (by omega) (by omega)
            have t52 := t52_14
            refine lv_iinc (v := v52_14) (lv' := [(5, .int v52_14), (2, .int k), (3, .long v47_13), (0, .ref (d 0)), (1, .int t)]) hx hb dX10_likeliest_52 hl (k := 2) rfl (by rw [e52_14]; rfl) (by decide) rfl (fun ls hl => ?_)
            refine lv_goto (tgt := 22) hx hb dX10_likeliest_55 (by decide) ?_
            exact ih22  k v47_13 v52_14 (by omega) (by first | (have z9 := lk_y hlk hk.1 t52 h47 (by rw [h47, ← h35]; omega); exact z9) | exact lk_n hlk hk.1 t52 h35 (by omega)) (by omega) _ _ _ hw (lv_sub hl [0, 2, 1, 3, 4] rfl)
    exact lp22 _  (-1) 0 0 (by have := t_m1; have := t_0; omega) (lk_0 (by decide)) (Nat.lt_succ_self _) _ _ _ hw (lv_sub hl [0, 1, 2, 3, 4] rfl)
  · have h1_2 := h1_2
    refine lv_if_ne (tgt := 9) hx hb dX10_likeliest_4 (by decide) (fun c4_15 => absurd c4_15 (by decide)) (fun c4_15 => ?_)
    refine lv_iconst (v := -1) hx hb dX10_likeliest_7 (by decide) ?_
    exact hret (-1) _ _ _ _ _ ⟨_, rfl, by rw [if_neg (by omega)]; decide⟩ hw rfl dX10_likeliest_8
