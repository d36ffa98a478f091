
/-! ===== the settling ===== -/
def trw (j : Nat) : Nat := if j % 4 = 3 then j + 2 else j + 1
def sm (r : Nat → Int32) : Nat → Int32
  | 0 => if r 0 = -1 then 100 else r 0
  | i + 1 => if r (i + 1) = -1 then (if (i + 1) % 21 = 0 then 100 else sm r i) else r (i + 1)
def stl (C : Nat → Nat → Int32) : Nat → Nat → Int32 := fun j i => if j = 2 then (if C 2 i = -1 then 3 else C 2 i) else if j = 4 then sm (C 4) i else if 11 ≤ j ∧ j % 4 ≠ 1 then sr (C (trw j)) (C j) i else C j i
def Prt (q : Nat → Nat → Int32) (sa : Nat → Nat) (C : Nat → Nat → Int32) (lim : Nat → Nat) : Prop := ∀ j ∈ sidR, ∀ i, i < lgR j → q (sa j) i = if i < lim j then stl C j i else C j i
def L5 (k : Nat) : Nat → Nat := fun j => if 11 ≤ j then 72 else if j = 2 then 4 else if j = 4 then k else 0
theorem sr_cong {t t' x x' : Nat → Int32} : ∀ {i : Nat}, (∀ j, j ≤ i → t j = t' j ∧ x j = x' j) → sr t x i = sr t' x' i
  | 0, h => (h 0 (Nat.le_refl _)).2
  | i + 1, h => by
    rw [sr, sr, (h (i + 1) (Nat.le_refl _)).1, (h (i + 1) (Nat.le_refl _)).2, sr_cong (fun j hj => h j (by omega))]
theorem Prt_0 {q : Nat → Nat → Int32} {sa : Nat → Nat} {C : Nat → Nat → Int32} (h : Ct q sa C) : Prt q sa C (fun _ => 0) := fun j hj i hi => by rw [if_neg (Nat.not_lt_zero _)]; exact h j hj i hi
def vF (C : Nat → Nat → Int32) : Prop := ∀ j ∈ sidR, 11 ≤ j → ∀ i, i < 72 → -30 ≤ (C j i).toInt ∧ (C j i).toInt ≤ 30
/-- the rows of a flow that isn't settled yet -/
theorem Prt.row {q : Nat → Nat → Int32} {sa : Nat → Nat} {C : Nat → Nat → Int32} {l : Nat → Nat} {f k i : Nat} (h : Prt q sa C l) (hf : f < 5) (hk : 1 ≤ k ∧ k ≤ 3) (h0 : l (10 + 4 * f + k) = 0) (hi : i < 72) : q (fl sa f k) i = C (10 + 4 * f + k) i := by
  have := h _ (fl_in hf hk) i (by rw [lgR_fl]; exact hi)
  rw [h0, if_neg (Nat.not_lt_zero _)] at this; exact this
theorem Prt.rg {q : Nat → Nat → Int32} {sa : Nat → Nat} {C : Nat → Nat → Int32} {l : Nat → Nat} {f : Nat} (h : Prt q sa C l) (hv : vF C) (hf : f < 5) (h1 : l (10 + 4 * f + 1) = 0) (h2 : l (10 + 4 * f + 2) = 0) : ∀ j, j < 72 → (-30 ≤ (q (fl sa f 1) j).toInt ∧ (q (fl sa f 1) j).toInt ≤ 30) ∧ (-30 ≤ (q (fl sa f 2) j).toInt ∧ (q (fl sa f 2) j).toInt ≤ 30) := fun j hj => by
  rw [h.row hf (by omega) h1 hj, h.row hf (by omega) h2 hj]
  exact ⟨hv _ (fl_in hf (by omega)) (by omega) j hj, hv _ (fl_in hf (by omega)) (by omega) j hj⟩
theorem Prt_f {q q1 : Nat → Nat → Int32} {sa : Nat → Nat} {C : Nat → Nat → Int32} {f : Nat} {l : Nat → Nat} (h : Prt q sa C l) (hd : sdj sa) (hf : f < 5) (t : stF q q1 (fl sa f) 72) (h1 : l (10 + 4 * f + 1) = 0) (h2 : l (10 + 4 * f + 2) = 0) (h3 : l (10 + 4 * f + 3) = 0) (hl : ∀ j ∈ sidR, j ≠ 10 + 4 * f + 1 → j ≠ 10 + 4 * f + 2 → j ≠ 10 + 4 * f + 3 → L1 f j = l j) : Prt q1 sa C (L1 f) ∧ seO q q1 sa := by
  obtain ⟨t3, t1, t2, to⟩ := t
  have i1 := fl_in (k := 1) hf (by omega)
  have i2 := fl_in (k := 2) hf (by omega)
  have i3 := fl_in (k := 3) hf (by omega)
  have r3 : ∀ i, i < 72 → q (fl sa f 3) i = C (10 + 4 * f + 3) i := fun i hi => h.row hf (by omega) h3 hi
  have r1 : ∀ i, i < 72 → q (fl sa f 1) i = C (10 + 4 * f + 1) i := fun i hi => h.row hf (by omega) h1 hi
  have r2 : ∀ i, i < 72 → q (fl sa f 2) i = C (10 + 4 * f + 2) i := fun i hi => h.row hf (by omega) h2 hi
  refine ⟨fun k hk z hz => ?_, fun a ha => to a (ha _ i1) (ha _ i2) (ha _ i3)⟩
  have lim : ∀ m, 1 ≤ m → m ≤ 3 → L1 f (10 + 4 * f + m) = 72 := fun m _ _ => by unfold L1; rw [if_pos (by omega)]
  by_cases e1 : k = 10 + 4 * f + 1
  · subst e1
    rw [lgR_fl] at hz
    rw [lim 1 (by omega) (by omega), if_pos hz]
    show q1 (fl sa f 1) z = _
    rw [t1 z hz, if_pos hz, sr_cong (fun j hj => ⟨r3 j (by omega), r1 j (by omega)⟩)]
    unfold stl trw
    rw [if_neg (by omega), if_neg (by omega), if_pos (by omega), if_pos (by omega)]
  · by_cases e2 : k = 10 + 4 * f + 2
    · subst e2
      rw [lgR_fl] at hz
      rw [lim 2 (by omega) (by omega), if_pos hz]
      show q1 (fl sa f 2) z = _
      rw [t2 z hz, if_pos hz, sr_cong (fun j hj => ⟨r3 j (by omega), r2 j (by omega)⟩)]
      unfold stl trw
      rw [if_neg (by omega), if_neg (by omega), if_pos (by omega), if_neg (by omega)]
    · by_cases e3 : k = 10 + 4 * f + 3
      · subst e3
        rw [lgR_fl] at hz
        rw [lim 3 (by omega) (by omega), if_pos hz]
        show q1 (fl sa f 3) z = _
        rw [t3, r3 z hz]
        unfold stl
        rw [if_neg (by omega), if_neg (by omega), if_neg (by omega)]
      · rw [to (sa k) (hd.ne hk i1 e1) (hd.ne hk i2 e2) (hd.ne hk i3 e3), hl k hk e1 e2 e3]
        exact h k hk z hz
theorem L1_z {f k : Nat} (hk : 1 ≤ k ∧ k ≤ 3) : L1 f (10 + 4 * (f + 1) + k) = 0 := by unfold L1; rw [if_neg (by omega)]
theorem Prt_w {q q1 : Nat → Nat → Int32} {sa : Nat → Nat} {C : Nat → Nat → Int32} (h : Ct q sa C) (hd : sdj sa) (t : stF q q1 (fl sa 0) 72) : Prt q1 sa C (L1 0) ∧ seO q q1 sa :=
  Prt_f (Prt_0 h) hd (by decide) t rfl rfl rfl (fun j hj n1 n2 n3 => by
    have := sidR_m j hj
    unfold L1; rw [if_neg (by omega)])
theorem Prt_1 {q q1 : Nat → Nat → Int32} {sa : Nat → Nat} {C : Nat → Nat → Int32} {i i' : Int32} (h : Prt q sa C (L1 i.toNatClampNeg)) (hd : sdj sa) (h0 : 0 ≤ i.toInt) (h4 : i.toInt < 4) (ti : i'.toInt = i.toInt + 1) (t : stF q q1 (fl sa (i.toNatClampNeg + 1)) 72) : Prt q1 sa C (L1 i'.toNatClampNeg) ∧ seO q q1 sa := by
  have e1 := cl_toInt h0
  have e2 := cl_toInt (x := i') (by omega)
  rw [show i'.toNatClampNeg = i.toNatClampNeg + 1 by omega]
  refine Prt_f h hd (by omega) t (L1_z (by omega)) (L1_z (by omega)) (L1_z (by omega)) (fun j hj n1 n2 n3 => ?_)
  have := sidR_m j hj
  unfold L1
  by_cases g : 11 ≤ j ∧ j < 14 + 4 * i.toNatClampNeg
  · rw [if_pos g, if_pos (by omega)]
  · rw [if_neg g, if_neg (by omega)]
theorem Prt.to {q : Nat → Nat → Int32} {sa : Nat → Nat} {C : Nat → Nat → Int32} {l l' : Nat → Nat} (h : Prt q sa C l) (g : ∀ j ∈ sidR, (∀ i, i < lgR j → (i < l j ↔ i < l' j)) ∨ j = 3) : Prt q sa C l' := fun j hj i hi => by
  have h1 := h j hj i hi
  rcases g j hj with g | g
  · by_cases e : i < l j
    · rw [if_pos e] at h1; rw [if_pos ((g i hi).mp e)]; exact h1
    · rw [if_neg e] at h1; rw [if_neg (fun q => e ((g i hi).mpr q))]; exact h1
  · subst g
    have e3 : stl C 3 i = C 3 i := by unfold stl; rw [if_neg (by decide), if_neg (by decide), if_neg (by decide)]
    rw [e3] at h1 ⊢
    rw [h1]; split <;> split <;> rfl
theorem Prt_12 {q : Nat → Nat → Int32} {sa : Nat → Nat} {C : Nat → Nat → Int32} {i : Int32} (h : Prt q sa C (L1 i.toNatClampNeg)) (hi : i.toInt = 4) : Prt q sa C (L2 (0 : Int32).toNatClampNeg) := h.to (fun j hj => Or.inl (fun z hz => by
  have e1 := cl_toInt (x := i) (by omega)
  have := sidR_m j hj
  unfold L1 L2
  rw [show (0 : Int32).toNatClampNeg = 0 by decide]
  by_cases g : 11 ≤ j
  · rw [if_pos g, if_pos (by omega)]
  · rw [if_neg g, if_neg (by omega)]; split <;> omega))
theorem Prt_25 {q : Nat → Nat → Int32} {sa : Nat → Nat} {C : Nat → Nat → Int32} {i : Int32} (h : Prt q sa C (L2 i.toNatClampNeg)) (hi : i.toInt = 4) : Prt q sa C (L5 (0 : Int32).toNatClampNeg) := h.to (fun j hj => Or.inl (fun z hz => by
  have e1 := cl_toInt (x := i) (by omega)
  unfold L2 L5
  rw [show (0 : Int32).toNatClampNeg = 0 by decide]
  by_cases g : 11 ≤ j
  · rw [if_pos g, if_pos g]
  · rw [if_neg g, if_neg g]
    by_cases g2 : j = 2
    · rw [if_pos g2, if_pos g2]; omega
    · rw [if_neg g2, if_neg g2]; split <;> omega))
theorem Prt_5 {q : Nat → Nat → Int32} {sa : Nat → Nat} {C : Nat → Nat → Int32} {i : Int32} (h : Prt q sa C (L5 i.toNatClampNeg)) (hi : i.toInt = 42) : Ct q sa (stl C) := fun j hj z hz => by
  have e1 := cl_toInt (x := i) (by omega)
  have hm := sidR_m j hj
  have h1 := h j hj z hz
  by_cases g3 : j = 3
  · subst g3
    have e3 : stl C 3 z = C 3 z := by unfold stl; rw [if_neg (by decide), if_neg (by decide), if_neg (by decide)]
    rw [e3] at h1 ⊢
    rw [h1]; split <;> rfl
  · rw [if_pos] at h1
    · exact h1
    · unfold lgR at hz
      unfold L5
      by_cases g : 11 ≤ j
      · rw [if_pos g]; rw [if_neg (by omega), if_neg (by omega), if_neg (by omega)] at hz; exact hz
      · rw [if_neg g]
        by_cases g2 : j = 2
        · rw [if_pos g2]; rw [if_pos g2] at hz; exact hz
        · rw [if_neg g2, if_pos (by omega)]; rw [if_neg g2, if_neg g3, if_pos (by omega)] at hz; omega
/-- one place of one row is settled -/
theorem Prt_s {q q1 : Nat → Nat → Int32} {sa : Nat → Nat} {C : Nat → Nat → Int32} {j : Nat} {i i' : Int32} {l l' : Nat → Nat} (h : Prt q sa C l) (hd : sdj sa) (hj : j ∈ sidR) (h0 : 0 ≤ i.toInt) (ti : i'.toInt = i.toInt + 1) (hl : l j = i.toNatClampNeg) (hl' : l' j = i'.toNatClampNeg) (hl2 : ∀ k ∈ sidR, k ≠ j → l' k = l k) (c : ∀ k, k ≠ sa j → q1 k = q k) (c2 : ∀ z, z < lgR j → z ≠ i.toNatClampNeg → q1 (sa j) z = q (sa j) z) (hv : i.toNatClampNeg < lgR j → q1 (sa j) i.toNatClampNeg = stl C j i.toNatClampNeg) : Prt q1 sa C l' ∧ seO q q1 sa := by
  have e1 := cl_toInt h0
  have e2 := cl_toInt (x := i') (by omega)
  refine ⟨fun k hk z hz => ?_, fun a ha => c a (ha j hj)⟩
  by_cases e : k = j
  · subst e
    by_cases g : z = i.toNatClampNeg
    · rw [g, if_pos (by omega)]; exact hv (g ▸ hz)
    · rw [c2 z hz g, h k hk z hz, hl, hl']
      by_cases g2 : z < i.toNatClampNeg
      · rw [if_pos g2, if_pos (by omega)]
      · rw [if_neg g2, if_neg (by omega)]
  · rw [c _ (hd.ne hk hj e), hl2 k hk e]; exact h k hk z hz
theorem upd_c {q q1 : Nat → Nat → Int32} {a i : Nat} {v : Int32} (c : q1 = va_up q a (upd (q a) i v)) : (∀ k, k ≠ a → q1 k = q k) ∧ (∀ z, z ≠ i → q1 a z = q a z) ∧ q1 a i = v := ⟨fun k h => up_n c h, fun z h => by rw [up_s c, pk_un h], by rw [up_s c, pk_us]⟩
theorem Prt_lee {q q1 : Nat → Nat → Int32} {sa : Nat → Nat} {C : Nat → Nat → Int32} {i i' v : Int32} (h : Prt q sa C (L2 i.toNatClampNeg)) (hd : sdj sa) (h0 : 0 ≤ i.toInt) (h4 : i.toInt < 4) (ti : i'.toInt = i.toInt + 1) (ev : v = q (sa 2) i.toNatClampNeg) (hv : v = -1) (c : q1 = va_up q (sa 2) (upd (q (sa 2)) i.toNatClampNeg 3)) : Prt q1 sa C (L2 i'.toNatClampNeg) ∧ seO q q1 sa := by
  obtain ⟨a1, a2, a3⟩ := upd_c c
  have e1 := cl_toInt h0
  refine Prt_s h hd (j := 2) (by decide) h0 ti rfl rfl (fun k _ n => by unfold L2; split <;> first | rfl | (rw [if_neg n, if_neg n])) a1 (fun z _ n => a2 z n) (fun hl => ?_)
  have g := h 2 (by decide) i.toNatClampNeg hl
  rw [if_neg (show ¬ i.toNatClampNeg < L2 i.toNatClampNeg 2 from Nat.lt_irrefl _)] at g
  rw [a3]; unfold stl; rw [if_pos rfl, if_pos (by rw [← g, ← ev]; exact hv)]
theorem Prt_lee2 {q : Nat → Nat → Int32} {sa : Nat → Nat} {C : Nat → Nat → Int32} {i i' v : Int32} (h : Prt q sa C (L2 i.toNatClampNeg)) (hd : sdj sa) (h0 : 0 ≤ i.toInt) (h4 : i.toInt < 4) (ti : i'.toInt = i.toInt + 1) (ev : v = q (sa 2) i.toNatClampNeg) (hv : ¬ v = -1) : Prt q sa C (L2 i'.toNatClampNeg) ∧ seO q q sa := by
  refine Prt_s h hd (j := 2) (by decide) h0 ti rfl rfl (fun k _ n => by unfold L2; split <;> first | rfl | (rw [if_neg n, if_neg n])) (fun _ _ => rfl) (fun _ _ _ => rfl) (fun hl => ?_)
  have g := h 2 (by decide) i.toNatClampNeg hl
  rw [if_neg (show ¬ i.toNatClampNeg < L2 i.toNatClampNeg 2 from Nat.lt_irrefl _)] at g
  rw [g]; unfold stl; rw [if_pos rfl, if_neg (by rw [← g, ← ev]; exact hv)]
theorem L5_o {k k' : Nat} : ∀ j ∈ sidR, j ≠ 4 → L5 k j = L5 k' j := fun j _ n => by unfold L5; split <;> first | rfl | (split <;> first | rfl | (rw [if_neg n, if_neg n]))
theorem rem21 {x v : Int32} (e : v = x - x / 21 * 21) (h0 : 0 ≤ x.toInt) (h : x.toInt ≤ 42) : v.toInt = x.toInt % 21 := by
  have L : ∀ n, n < 43 → (nI n - nI n / 21 * 21).toInt = (n : Int) % 21 := by decide +kernel
  have e1 := cl_toInt h0
  rw [e, ← nI_cl h0, L _ (by omega), nI_cl h0, e1]
theorem sm_0 {r : Nat → Int32} {n : Nat} (h : r n = -1) (hn : n % 21 = 0) : sm r n = 100 := by
  cases n with
  | zero => rw [sm, if_pos h]
  | succ n => rw [sm, if_pos h, if_pos hn]
theorem sm_y {r : Nat → Int32} {n : Nat} (h : ¬ r n = -1) : sm r n = r n := by
  cases n with
  | zero => rw [sm, if_neg h]
  | succ n => rw [sm, if_neg h]
theorem Prt_m1 {q q1 : Nat → Nat → Int32} {sa : Nat → Nat} {C : Nat → Nat → Int32} {i i' v w : Int32} (h : Prt q sa C (L5 i.toNatClampNeg)) (hd : sdj sa) (h0 : 0 ≤ i.toInt) (h4 : i.toInt < 42) (ti : i'.toInt = i.toInt + 1) (ev : v = q (sa 4) i.toNatClampNeg) (hv : v = -1) (ew : w = i - i / 21 * 21) (hw : w = 0) (c : q1 = va_up q (sa 4) (upd (q (sa 4)) i.toNatClampNeg 100)) : Prt q1 sa C (L5 i'.toNatClampNeg) ∧ seO q q1 sa := by
  obtain ⟨a1, a2, a3⟩ := upd_c c
  have e1 := cl_toInt h0
  refine Prt_s h hd (j := 4) (by decide) h0 ti rfl rfl L5_o a1 (fun z _ n => a2 z n) (fun hl => ?_)
  have g := h 4 (by decide) i.toNatClampNeg hl
  rw [if_neg (show ¬ i.toNatClampNeg < L5 i.toNatClampNeg 4 from Nat.lt_irrefl _)] at g
  have hm := rem21 ew h0 (by omega)
  rw [hw, show (0 : Int32).toInt = 0 by decide] at hm
  rw [a3]; unfold stl; rw [if_neg (by decide), if_pos rfl, sm_0 (by rw [← g, ← ev]; exact hv) (by omega)]
theorem Prt_m2 {q q1 : Nat → Nat → Int32} {sa : Nat → Nat} {C : Nat → Nat → Int32} {i i' v w k x : Int32} (h : Prt q sa C (L5 i.toNatClampNeg)) (hd : sdj sa) (h0 : 1 ≤ i.toInt) (h4 : i.toInt < 42) (ti : i'.toInt = i.toInt + 1) (ev : v = q (sa 4) i.toNatClampNeg) (hv : v = -1) (ew : w = i - i / 21 * 21) (hw : ¬ w = 0) (tk : k.toInt = i.toInt - 1) (ex : x = q (sa 4) k.toNatClampNeg) (c : q1 = va_up q (sa 4) (upd (q (sa 4)) i.toNatClampNeg x)) : Prt q1 sa C (L5 i'.toNatClampNeg) ∧ seO q q1 sa := by
  obtain ⟨a1, a2, a3⟩ := upd_c c
  have e1 := cl_toInt (x := i) (by omega)
  have e2 := cl_toInt (x := k) (by omega)
  refine Prt_s h hd (j := 4) (by decide) (by omega) ti rfl rfl L5_o a1 (fun z _ n => a2 z n) (fun hl => ?_)
  have g := h 4 (by decide) i.toNatClampNeg hl
  rw [if_neg (show ¬ i.toNatClampNeg < L5 i.toNatClampNeg 4 from Nat.lt_irrefl _)] at g
  have g2 := h 4 (by decide) k.toNatClampNeg (show k.toNatClampNeg < 42 by omega)
  rw [if_pos (show k.toNatClampNeg < L5 i.toNatClampNeg 4 by show _ < i.toNatClampNeg; omega)] at g2
  have hm := rem21 ew (by omega) (by omega)
  have hw0 := iNe hw rfl (by decide : (0 : Int32).toInt = 0)
  obtain ⟨n, hn⟩ : ∃ n, i.toNatClampNeg = n + 1 := ⟨i.toNatClampNeg - 1, by omega⟩
  have hk : k.toNatClampNeg = n := by omega
  rw [hk] at g2 ex
  rw [hn] at g ev
  rw [a3, ex, g2, hn]
  unfold stl
  rw [if_neg (by decide), if_pos rfl, if_neg (by decide), if_pos rfl, sm, if_pos (by rw [← g, ← ev]; exact hv), if_neg (by omega)]
theorem Prt_m3 {q : Nat → Nat → Int32} {sa : Nat → Nat} {C : Nat → Nat → Int32} {i i' v : Int32} (h : Prt q sa C (L5 i.toNatClampNeg)) (hd : sdj sa) (h0 : 0 ≤ i.toInt) (h4 : i.toInt < 42) (ti : i'.toInt = i.toInt + 1) (ev : v = q (sa 4) i.toNatClampNeg) (hv : ¬ v = -1) : Prt q sa C (L5 i'.toNatClampNeg) ∧ seO q q sa := by
  refine Prt_s h hd (j := 4) (by decide) h0 ti rfl rfl L5_o (fun _ _ => rfl) (fun _ _ _ => rfl) (fun hl => ?_)
  have g := h 4 (by decide) i.toNatClampNeg hl
  rw [if_neg (show ¬ i.toNatClampNeg < L5 i.toNatClampNeg 4 from Nat.lt_irrefl _)] at g
  rw [g]; unfold stl; rw [if_neg (by decide), if_pos rfl, sm_y (by rw [← g, ← ev]; exact hv)]
set_option maxHeartbeats 4000000 in
set_option maxRecDepth 100000 in
theorem c_v_X3_settle (l : Launch) (G : Gh) (S : Pl) (sa : Nat → Nat) (C : Nat → Nat → Int32) (hS : shSea S sa) (hd : sdj sa) (hct : Ct (qI S) sa C) (hvF : vF C) : MtV l yX3_settle cX3_settle 2 none (Rm 1 0 0) G [.ref (sa 0)] S (fun (S' : Pl) => ∃ q', ch S (pI S) (pJ S) q' (qJ S) = S' ∧ Ct q' sa (stl C) ∧ seO (qI S) q' sa) 0 0 := by
  refine MtV.of (by decide) (Nat.le_of_ble_eq_true rfl) ?_
  intro p e s m args below meth c Q A X hw hin hret ls hl
  have hx := X.1.1
  have hb := X.1.2.1
  have hl : lv_has ls 2 [(0, .ref (sa 0))] := hl
  obtain ⟨k0, r10, r11, r12, r13, r14, k1, n1, g1, k2, n2, k3, n3, k4, n4, fz⟩ := id hS
  have hpr := Prt_0 hct
  refine lv_aload_n hx hb dX3_settle_0 rfl (lv_at hl 0 rfl) ?_
  refine gf_X3_12 (b := (fl sa 0 0)) X hw k0 r10 dX3_settle_1 ?_
  refine k_Vv (n := 0) X hw (rcvk (ci := 2) X hw (fz 0 (by decide)).1 (fun _ _ _ _ _ _ _ => ⟨_, rfl⟩) rfl) (c_v_X1_settle l G _ (fl sa 0) (fz 0 (by decide)) (fl_12 hd (by decide)) (hpr.rg hvF (by decide) rfl rfl)) wd_r10_21 wd_r10_22 wd_r10_23 wd_r4_14 wd_r11_0 ⟨by decide, by decide, by decide +kernel⟩ rfl rfl ⟨Nat.le_of_ble_eq_true rfl, Nat.le_of_ble_eq_true rfl⟩ rfl rfl hl.1 (Nat.le_of_ble_eq_true rfl) dX3_settle_4 ⟨Nat.le_of_ble_eq_true rfl, Nat.le_of_ble_eq_true rfl⟩ (fun S4_2 H locs h4_1 hw => ?_)
  obtain ⟨q4_3, rfl, h4_1⟩ := h4_1
  have hw : PX G A s.heap (ch S (pI S) (pJ S) q4_3 (qJ S)) H locs := hw
  have FZ0 := Prt_w hct hd h4_1
  have hpr := FZ0.1
  have hso := FZ0.2
  refine lv_iconst (v := 0) hx hb dX3_settle_7 (by decide) ?_
  refine lv_istore_n (lv' := [(1, .int 0), (0, .ref (sa 0))]) hx hb dX3_settle_8 rfl hl (by decide) rfl (fun ls hl => ?_)
  have lp9 : ∀ (N9 : Nat) (q9 : Nat → Nat → Int32) (i : Int32), (0 ≤ i.toInt ∧ i.toInt ≤ 4) → (Prt q9 sa C (L1 i.toNatClampNeg)) → (seO (qI S) q9 sa) → (4 - i.toInt).toNat < N9 → ∀ (H : Heap) (locs : List Loc) (ls : Array Slot), PX G A s.heap (ch S (pI S) (pJ S) q9 (qJ S)) H locs → lv_has ls 2 [(1, .int i), (0, .ref (sa 0))] → W p l e (Rm 1 0 0) s m args below meth c H locs 0 0 Q (F0 m 9 ls []) := by
    intro N9
    induction N9 with
    | zero => intro q9 i hi hpr hso hm; exact absurd hm (Nat.not_lt_zero _)
    | succ N9 ih9 =>
      intro q9 i hi hpr hso hm H locs ls hw hl
      refine lv_iload_n hx hb dX3_settle_9 rfl (lv_at hl 0 rfl) ?_
      refine lv_iconst (v := 4) hx hb dX3_settle_10 (by decide) ?_
      refine lv_icmp_ge (tgt := 29) hx hb dX3_settle_11 (by decide) (fun c11_4 => ?_) (fun c11_4 => ?_)
      · have D11_4 := iLe c11_4 t_4 rfl
        refine lv_iconst (v := 0) hx hb dX3_settle_29 (by decide) ?_
        refine lv_istore_n (lv' := [(1, .int 0), (0, .ref (sa 0))]) hx hb dX3_settle_30 rfl hl (by decide) rfl (fun ls hl => ?_)
        have lp31 : ∀ (N9 : Nat) (q31 : Nat → Nat → Int32) (j : Int32), (0 ≤ j.toInt ∧ j.toInt ≤ 4) → (Prt q31 sa C (L2 j.toNatClampNeg)) → (seO (qI S) q31 sa) → (4 - j.toInt).toNat < N9 → ∀ (H : Heap) (locs : List Loc) (ls : Array Slot), PX G A s.heap (ch S (pI S) (pJ S) q31 (qJ S)) H locs → lv_has ls 2 [(1, .int j), (0, .ref (sa 0))] → W p l e (Rm 1 0 0) s m args below meth c H locs 0 0 Q (F0 m 31 ls []) := by
          intro N9
          induction N9 with
          | zero => intro q31 j hi hpr hso hm; exact absurd hm (Nat.not_lt_zero _)
          | succ N9 ih31 =>
            intro q31 j hi hpr hso hm H locs ls hw hl
            refine lv_iload_n hx hb dX3_settle_31 rfl (lv_at hl 0 rfl) ?_
            refine lv_iconst (v := 4) hx hb dX3_settle_32 (by decide) ?_
            refine lv_icmp_ge (tgt := 59) hx hb dX3_settle_33 (by decide) (fun c33_5 => ?_) (fun c33_5 => ?_)
            · have D33_5 := iLe c33_5 t_4 rfl
              refine lv_iconst (v := 0) hx hb dX3_settle_59 (by decide) ?_
              refine lv_istore_n (lv' := [(1, .int 0), (0, .ref (sa 0))]) hx hb dX3_settle_60 rfl hl (by decide) rfl (fun ls hl => ?_)
              have lp61 : ∀ (N9 : Nat) (q61 : Nat → Nat → Int32) (n : Int32), (0 ≤ n.toInt ∧ n.toInt ≤ 42) → (Prt q61 sa C (L5 n.toNatClampNeg)) → (seO (qI S) q61 sa) → (42 - n.toInt).toNat < N9 → ∀ (H : Heap) (locs : List Loc) (ls : Array Slot), PX G A s.heap (ch S (pI S) (pJ S) q61 (qJ S)) H locs → lv_has ls 2 [(1, .int n), (0, .ref (sa 0))] → W p l e (Rm 1 0 0) s m args below meth c H locs 0 0 Q (F0 m 61 ls []) := by
                intro N9
                induction N9 with
                | zero => intro q61 n hi hpr hso hm; exact absurd hm (Nat.not_lt_zero _)
                | succ N9 ih61 =>
                  intro q61 n hi hpr hso hm H locs ls hw hl
                  refine lv_iload_n hx hb dX3_settle_61 rfl (lv_at hl 0 rfl) ?_
                  refine lv_aload_n hx hb dX3_settle_62 rfl (lv_at hl 1 rfl) ?_
                  refine gf_X3_30 (b := (sa 4)) X hw k0 r14 dX3_settle_63 ?_
                  refine q_lenI (v := 42) X hw k4 (by rw [show _ = 42 from n4]; decide) dX3_settle_66 ?_
                  refine lv_icmp_ge (tgt := 112) hx hb dX3_settle_67 (by decide) (fun c67_6 => ?_) (fun c67_6 => ?_)
                  · have D67_6 := iLe c67_6 t_42 rfl
                    exact hret _ _ _ _ _ ⟨_, rfl, Prt_5 hpr (by omega), hso⟩ hw dX3_settle_112
                  · have D67_6 := iNle c67_6 t_42 rfl
                    refine lv_aload_n hx hb dX3_settle_70 rfl (lv_at hl 1 rfl) ?_
                    refine gf_X3_30 (b := (sa 4)) X hw k0 r14 dX3_settle_71 ?_
                    refine lv_iload_n hx hb dX3_settle_74 rfl (lv_at hl 0 rfl) ?_
                    refine q_ldI X hw k4 (vin n4 (by omega) (by omega)) dX3_settle_75 ?_
                    refine lv_topi (fun v75_7 e75_7 => ?_)
                    have e75_7 : v75_7 = q61 (sa 4) n.toNatClampNeg := e75_7
                    have e75n := e75_7
                    refine lv_iconst (v := -1) hx hb dX3_settle_76 (by decide) ?_
                    refine lv_icmp_ne (tgt := 106) hx hb dX3_settle_77 (by decide) (fun c77_8 => ?_) (fun c77_8 => ?_)
                    · have D77_8 := iNe c77_8 rfl t_m1
                      obtain ⟨v106_9, e106_9⟩ : ∃ y : Int32, y = n + 1 := ⟨_, rfl⟩
                      have t106_9 := iAdd e106_9 rfl t_1 (by omega) (by omega)
                      have t106 := t106_9
                      refine lv_iinc (v := v106_9) (lv' := [(1, .int v106_9), (0, .ref (sa 0))]) hx hb dX3_settle_106 hl (k := 0) rfl (by rw [e106_9]; rfl) (by decide) rfl (fun ls hl => ?_)
                      refine lv_goto (tgt := 61) hx hb dX3_settle_109 (by decide) ?_
                      exact ih61 q61 v106_9 (by omega) (by first | exact (Prt_m1 hpr hd hi.1 (by omega) t106 e75n (by assumption) e88n (by assumption) c105).1 | exact (Prt_m2 hpr hd hi1 (by omega) t106 e75n (by assumption) e88n (by assumption) t103 e104n c105).1 | exact (Prt_m3 hpr hd hi.1 (by omega) t106 e75n (by assumption)).1) (by first | exact hso | exact hso.tr (seO.up (j := 4) (by decide) c105)) (by omega) _ _ _ hw (lv_sub hl [0, 1] rfl)
                    · have D77_8 := iEq c77_8 rfl t_m1
                      refine lv_aload_n hx hb dX3_settle_80 rfl (lv_at hl 1 rfl) ?_
                      refine gf_X3_30 (b := (sa 4)) X hw k0 r14 dX3_settle_81 ?_
                      refine lv_iload_n hx hb dX3_settle_84 rfl (lv_at hl 0 rfl) ?_
                      refine lv_iload_n hx hb dX3_settle_85 rfl (lv_at hl 0 rfl) ?_
                      refine lv_bipush (v := 21) hx hb dX3_settle_86 (by decide) ?_
                      refine lv_irem hx hb dX3_settle_88 (by decide) ?_
                      refine lv_topi (fun v88_10 e88_10 => ?_)
                      have e88n := e88_10
                      refine lv_if_ne (tgt := 97) hx hb dX3_settle_89 (by decide) (fun c89_11 => ?_) (fun c89_11 => ?_)
                      · have D89_11 := iNe c89_11 rfl t_0
                        have hi1 := rem_pos (x := n) (by assumption) (by assumption) hi.1
                        refine lv_aload_n hx hb dX3_settle_97 rfl (lv_at hl 1 rfl) ?_
                        refine gf_X3_30 (b := (sa 4)) X hw k0 r14 dX3_settle_98 ?_
                        refine lv_iload_n hx hb dX3_settle_101 rfl (lv_at hl 0 rfl) ?_
                        refine lv_iconst (v := 1) hx hb dX3_settle_102 (by decide) ?_
                        refine lv_isub hx hb dX3_settle_103 ?_
                        refine lv_topi (fun v103_12 e103_12 => ?_)
                        have t103_12 := iSub e103_12 rfl t_1 (by omega) (by omega)
                        have t103 := t103_12
                        refine q_ldI X hw k4 (vin n4 (by omega) (by omega)) dX3_settle_104 ?_
                        refine lv_topi (fun v104_13 e104_13 => ?_)
                        have e104_13 : v104_13 = q61 (sa 4) v103_12.toNatClampNeg := e104_13
                        have e104n := e104_13
                        refine q_stI X hw k4 (vin n4 (by omega) (by omega)) dX3_settle_105 (fun H locs hw => ?_)
                        obtain ⟨q105_14, eq105_14, hw⟩ : ∃ zz9, zz9 = va_up q61 (sa 4) (upd (q61 (sa 4)) n.toNatClampNeg v104_13) ∧ PX G A s.heap (ch S (pI S) (pJ S) zz9 (qJ S)) H locs := ⟨_, rfl, hw⟩
                        have c105 := eq105_14
                        obtain ⟨v106_15, e106_15⟩ : ∃ y : Int32, y = n + 1 := ⟨_, rfl⟩
                        have t106_15 := iAdd e106_15 rfl t_1 (by omega) (by omega)
                        have t106 := t106_15
                        refine lv_iinc (v := v106_15) (lv' := [(1, .int v106_15), (0, .ref (sa 0))]) hx hb dX3_settle_106 hl (k := 0) rfl (by rw [e106_15]; rfl) (by decide) rfl (fun ls hl => ?_)
                        refine lv_goto (tgt := 61) hx hb dX3_settle_109 (by decide) ?_
                        exact ih61 q105_14 v106_15 (by omega) (by first | exact (Prt_m1 hpr hd hi.1 (by omega) t106 e75n (by assumption) e88n (by assumption) c105).1 | exact (Prt_m2 hpr hd hi1 (by omega) t106 e75n (by assumption) e88n (by assumption) t103 e104n c105).1 | exact (Prt_m3 hpr hd hi.1 (by omega) t106 e75n (by assumption)).1) (by first | exact hso | exact hso.tr (seO.up (j := 4) (by decide) c105)) (by omega) _ _ _ hw (lv_sub hl [0, 1] rfl)
                      · have D89_11 := iEq c89_11 rfl t_0
                        refine lv_bipush (v := 100) hx hb dX3_settle_92 (by decide) ?_
                        refine lv_goto (tgt := 105) hx hb dX3_settle_94 (by decide) ?_
                        refine q_stI X hw k4 (vin n4 (by omega) (by omega)) dX3_settle_105 (fun H locs hw => ?_)
                        obtain ⟨q105_16, eq105_16, hw⟩ : ∃ zz9, zz9 = va_up q61 (sa 4) (upd (q61 (sa 4)) n.toNatClampNeg 100) ∧ PX G A s.heap (ch S (pI S) (pJ S) zz9 (qJ S)) H locs := ⟨_, rfl, hw⟩
                        have c105 := eq105_16
                        obtain ⟨v106_17, e106_17⟩ : ∃ y : Int32, y = n + 1 := ⟨_, rfl⟩
                        have t106_17 := iAdd e106_17 rfl t_1 (by omega) (by omega)
                        have t106 := t106_17
                        refine lv_iinc (v := v106_17) (lv' := [(1, .int v106_17), (0, .ref (sa 0))]) hx hb dX3_settle_106 hl (k := 0) rfl (by rw [e106_17]; rfl) (by decide) rfl (fun ls hl => ?_)
                        refine lv_goto (tgt := 61) hx hb dX3_settle_109 (by decide) ?_
                        exact ih61 q105_16 v106_17 (by omega) (by first | exact (Prt_m1 hpr hd hi.1 (by omega) t106 e75n (by assumption) e88n (by assumption) c105).1 | exact (Prt_m2 hpr hd hi1 (by omega) t106 e75n (by assumption) e88n (by assumption) t103 e104n c105).1 | exact (Prt_m3 hpr hd hi.1 (by omega) t106 e75n (by assumption)).1) (by first | exact hso | exact hso.tr (seO.up (j := 4) (by decide) c105)) (by omega) _ _ _ hw (lv_sub hl [0, 1] rfl)
              exact lp61 _ q31 0 (by have := t_0; omega) (Prt_25 hpr (by omega)) hso (Nat.lt_succ_self _) _ _ _ hw (lv_sub hl [0, 1] rfl)
            · have D33_5 := iNle c33_5 t_4 rfl
              refine lv_aload_n hx hb dX3_settle_36 rfl (lv_at hl 1 rfl) ?_
              refine gf_X3_22 (b := (sa 2)) X hw k0 r12 dX3_settle_37 ?_
              refine lv_iload_n hx hb dX3_settle_40 rfl (lv_at hl 0 rfl) ?_
              refine q_ldI X hw k2 (vin n2 (by omega) (by omega)) dX3_settle_41 ?_
              refine lv_topi (fun v41_18 e41_18 => ?_)
              have e41_18 : v41_18 = q31 (sa 2) j.toNatClampNeg := e41_18
              have e41n := e41_18
              refine lv_iconst (v := -1) hx hb dX3_settle_42 (by decide) ?_
              refine lv_icmp_ne (tgt := 53) hx hb dX3_settle_43 (by decide) (fun c43_19 => ?_) (fun c43_19 => ?_)
              · have D43_19 := iNe c43_19 rfl t_m1
                obtain ⟨v53_20, e53_20⟩ : ∃ y : Int32, y = j + 1 := ⟨_, rfl⟩
                have t53_20 := iAdd e53_20 rfl t_1 (by omega) (by omega)
                have t53 := t53_20
                refine lv_iinc (v := v53_20) (lv' := [(1, .int v53_20), (0, .ref (sa 0))]) hx hb dX3_settle_53 hl (k := 0) rfl (by rw [e53_20]; rfl) (by decide) rfl (fun ls hl => ?_)
                refine lv_goto (tgt := 31) hx hb dX3_settle_56 (by decide) ?_
                exact ih31 q31 v53_20 (by omega) (by first | exact (Prt_lee hpr hd hi.1 (by omega) t53 e41n (by assumption) c52).1 | exact (Prt_lee2 hpr hd hi.1 (by omega) t53 e41n (by assumption)).1) (by first | exact hso.tr (Prt_lee hpr hd hi.1 (by omega) t53 e41n (by assumption) c52).2 | exact hso) (by omega) _ _ _ hw (lv_sub hl [0, 1] rfl)
              · have D43_19 := iEq c43_19 rfl t_m1
                refine lv_aload_n hx hb dX3_settle_46 rfl (lv_at hl 1 rfl) ?_
                refine gf_X3_22 (b := (sa 2)) X hw k0 r12 dX3_settle_47 ?_
                refine lv_iload_n hx hb dX3_settle_50 rfl (lv_at hl 0 rfl) ?_
                refine lv_iconst (v := 3) hx hb dX3_settle_51 (by decide) ?_
                refine q_stI X hw k2 (vin n2 (by omega) (by omega)) dX3_settle_52 (fun H locs hw => ?_)
                obtain ⟨q52_21, eq52_21, hw⟩ : ∃ zz9, zz9 = va_up q31 (sa 2) (upd (q31 (sa 2)) j.toNatClampNeg 3) ∧ PX G A s.heap (ch S (pI S) (pJ S) zz9 (qJ S)) H locs := ⟨_, rfl, hw⟩
                have c52 := eq52_21
                obtain ⟨v53_22, e53_22⟩ : ∃ y : Int32, y = j + 1 := ⟨_, rfl⟩
                have t53_22 := iAdd e53_22 rfl t_1 (by omega) (by omega)
                have t53 := t53_22
                refine lv_iinc (v := v53_22) (lv' := [(1, .int v53_22), (0, .ref (sa 0))]) hx hb dX3_settle_53 hl (k := 0) rfl (by rw [e53_22]; rfl) (by decide) rfl (fun ls hl => ?_)
                refine lv_goto (tgt := 31) hx hb dX3_settle_56 (by decide) ?_
                exact ih31 q52_21 v53_22 (by omega) (by first | exact (Prt_lee hpr hd hi.1 (by omega) t53 e41n (by assumption) c52).1 | exact (Prt_lee2 hpr hd hi.1 (by omega) t53 e41n (by assumption)).1) (by first | exact hso.tr (Prt_lee hpr hd hi.1 (by omega) t53 e41n (by assumption) c52).2 | exact hso) (by omega) _ _ _ hw (lv_sub hl [0, 1] rfl)
        exact lp31 _ q9 0 (by have := t_0; omega) (Prt_12 hpr (by omega)) hso (Nat.lt_succ_self _) _ _ _ hw (lv_sub hl [0, 1] rfl)
      · have D11_4 := iNle c11_4 t_4 rfl
        refine lv_aload_n hx hb dX3_settle_14 rfl (lv_at hl 1 rfl) ?_
        refine gf_X3_18 (b := (sa 1)) X hw k0 r11 dX3_settle_15 ?_
        refine lv_iload_n hx hb dX3_settle_18 rfl (lv_at hl 0 rfl) ?_
        refine q_ldFlow (v := .ref (fl sa (i.toNatClampNeg + 1) 0)) X hw k1 (vin n1 (by omega) (by omega)) (congrArg va_rf (g1 i.toNatClampNeg (clt (by omega) (by omega)))) dX3_settle_19 ?_
        refine k_Vv (n := 0) X hw (rcvk (ci := 2) X hw (fz (i.toNatClampNeg + 1) (Nat.succ_lt_succ (clt (by omega) (by omega)))).1 (fun _ _ _ _ _ _ _ => ⟨_, rfl⟩) rfl) (c_v_X1_settle l G _ (fl sa (i.toNatClampNeg + 1))  (fz (i.toNatClampNeg + 1) (Nat.succ_lt_succ (clt (by omega) (by omega)))) (fl_12 hd (Nat.succ_lt_succ (clt (by omega) (by omega)))) (hpr.rg hvF (Nat.succ_lt_succ (clt (by omega) (by omega))) (L1_z (by omega)) (L1_z (by omega)))) wd_r10_21 wd_r10_22 wd_r10_23 wd_r4_14 wd_r11_0 ⟨by decide, by decide, by decide +kernel⟩ rfl rfl ⟨Nat.le_of_ble_eq_true rfl, Nat.le_of_ble_eq_true rfl⟩ rfl rfl hl.1 (Nat.le_of_ble_eq_true rfl) dX3_settle_20 ⟨Nat.le_of_ble_eq_true rfl, Nat.le_of_ble_eq_true rfl⟩ (fun S20_24 H locs h20_23 hw => ?_)
        obtain ⟨q20_25, rfl, h20_23⟩ := h20_23
        have hw : PX G A s.heap (ch S (pI S) (pJ S) q20_25 (qJ S)) H locs := hw
        have hcl := h20_23
        obtain ⟨v23_26, e23_26⟩ : ∃ y : Int32, y = i + 1 := ⟨_, rfl⟩
        have t23_26 := iAdd e23_26 rfl t_1 (by omega) (by omega)
        have t23 := t23_26
        refine lv_iinc (v := v23_26) (lv' := [(1, .int v23_26), (0, .ref (sa 0))]) hx hb dX3_settle_23 hl (k := 0) rfl (by rw [e23_26]; rfl) (by decide) rfl (fun ls hl => ?_)
        refine lv_goto (tgt := 9) hx hb dX3_settle_26 (by decide) ?_
        exact ih9 q20_25 v23_26 (by omega) (Prt_1 hpr hd hi.1 (by omega) t23 hcl).1 (hso.tr (Prt_1 hpr hd hi.1 (by omega) t23 hcl).2) (by omega) _ _ _ hw (lv_sub hl [0, 1] rfl)
  exact lp9 _ q4_3 0 (by have := t_0; omega) (by rw [show (0 : Int32).toNatClampNeg = 0 by decide]; exact hpr) hso (Nat.lt_succ_self _) _ _ _ hw (lv_sub hl [0, 1] rfl)
