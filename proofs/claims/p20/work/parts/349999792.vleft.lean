
/-! ===== what is left, purely ===== -/
def wsF (tl : Nat → TP) : Nat → Int
  | 0 => 0
  | n + 1 => wsF tl n + (tl n).2.2.2.2.toInt
def lfI (nt : Nat) (w a : Int) (s : Nat) : Int := if nt = 0 then 10000 else a * 10000 / (w * pw100 s)
theorem ws_b {tl : Nat → TP} {N : Nat} (h : ∀ k, k < N → 1 ≤ (tl k).2.2.2.2.toInt ∧ (tl k).2.2.2.2.toInt ≤ 1000) : ∀ n, n ≤ N → (n : Int) ≤ wsF tl n ∧ wsF tl n ≤ 1000 * (n : Int)
  | 0, _ => ⟨Int.le_refl _, Int.le_refl _⟩
  | n + 1, hn => by
    have i := ws_b h n (by omega)
    have o := h n (by omega)
    show ((n + 1 : Nat) : Int) ≤ wsF tl n + (tl n).2.2.2.2.toInt ∧ wsF tl n + (tl n).2.2.2.2.toInt ≤ 1000 * ((n + 1 : Nat) : Int)
    omega
/-- an odds is at most the tale's weight times a hundred for each proof that stands -/
theorem od_w {C : Nat → Nat → Int32} {P : TP} {pl : Nat → PP} {bk : Nat → Int32} (hP : 1 ≤ P.2.2.2.2.toInt ∧ P.2.2.2.2.toInt ≤ 1000) : ∀ n, (∀ k, k < n → 0 ≤ (wgh C (drA C P (pl k).1.toNatClampNeg) (pl k)).toInt ∧ (wgh C (drA C P (pl k).1.toNatClampNeg) (pl k)).toInt ≤ 100) → cntB bk n ≤ 6 → 0 ≤ (odF C P pl bk n).toInt ∧ (odF C P pl bk n).toInt ≤ P.2.2.2.2.toInt * pw100 (cntB bk n)
  | 0, _, _ => by
    show 0 ≤ P.2.2.2.2.toInt64.toInt ∧ P.2.2.2.2.toInt64.toInt ≤ P.2.2.2.2.toInt * pw100 0
    rw [i2l_t]; simp only [pw100]; omega
  | n + 1, hw, h6 => by
    by_cases q : bk n = 0
    · have ec : cntB bk (n + 1) = cntB bk n + 1 := by simp only [cntB]; rw [if_pos q]
      rw [ec] at h6 ⊢
      have i := od_w (bk := bk) hP n (fun k hk => hw k (by omega)) (by omega)
      have b := od_b (bk := bk) hP n (fun k hk => hw k (by omega)) (by omega)
      have w := hw n (by omega)
      have p6 := pw100_6 h6
      have pk : pw100 (cntB bk n + 1) = 100 * pw100 (cntB bk n) := rfl
      rw [pk] at p6 ⊢
      simp only [odF]
      rw [if_pos q]
      generalize odF C P pl bk n = u at *
      generalize wgh C (drA C P (pl n).1.toNatClampNeg) (pl n) = v at *
      generalize pw100 (cntB bk n) = k at *
      have m0 : 0 ≤ u.toInt * v.toInt := Int.mul_nonneg i.1 w.1
      have m1 : u.toInt * v.toInt ≤ u.toInt * 100 := Int.mul_le_mul_of_nonneg_left w.2 i.1
      have e := lMul (v := u * v.toInt64) rfl rfl (i2l_t v) (by omega) (by omega)
      have m2 : P.2.2.2.2.toInt * (100 * k) = 100 * (P.2.2.2.2.toInt * k) := by rw [← Int.mul_assoc, Int.mul_comm _ 100, Int.mul_assoc]
      rw [e, m2]; omega
    · have ec : cntB bk (n + 1) = cntB bk n := by simp only [cntB]; rw [if_neg q]; rfl
      rw [ec] at h6 ⊢
      simp only [odF]
      rw [if_neg q]
      exact od_w (bk := bk) hP n (fun k hk => hw k (by omega)) h6
theorem alw_b {O : Nat → Int64} {tl : Nat → TP} {c : Int} {N : Nat} (hN : N ≤ 40) (h : ∀ k, k < N → 0 ≤ (O k).toInt ∧ (O k).toInt ≤ 1000000000000000) (g : ∀ k, k < N → (O k).toInt ≤ (tl k).2.2.2.2.toInt * c) : ∀ n, n ≤ N → (alF O n).toInt ≤ wsF tl n * c
  | 0, _ => by show (0 : Int64).toInt ≤ 0 * c; rw [Int.zero_mul]; decide
  | n + 1, hn => by
    have i := alw_b hN h g n (by omega)
    have a := alf_b hN h n (by omega)
    have o := h n (by omega)
    have e := lAdd (v := alF O (n + 1)) rfl rfl rfl (by omega) (by omega)
    have z := g n (by omega)
    show (alF O (n + 1)).toInt ≤ (wsF tl n + (tl n).2.2.2.2.toInt) * c
    rw [e, Int.add_mul]; omega
/-! the class's way -/
def lfC (k : Nat) (n v W : Int) : Prop := (k = 0 ∧ n = 10000 ∧ v = W) ∨ (k = 1 ∧ n = 100 ∧ v = W) ∨ (2 ≤ k ∧ n = 1 ∧ v = W * pw100 (k - 2))
theorem lfC_d {k : Nat} {n n' v W : Int} (h : lfC k n v W) (hn : 1 < n) (e : n' = n / 100) : lfC (k + 1) n' v W := by
  rcases h with ⟨a, b, c⟩ | ⟨a, b, c⟩ | ⟨a, b, c⟩
  · exact Or.inr (Or.inl ⟨by omega, by rw [e, b]; decide, c⟩)
  · refine Or.inr (Or.inr ⟨by omega, by rw [e, b]; decide, ?_⟩)
    rw [show k + 1 - 2 = 0 by omega, c]; simp only [pw100]; omega
  · omega
theorem lfC_m {k : Nat} {n v v' W : Int} (h : lfC k n v W) (hn : ¬ 1 < n) (e : v' = v * 100) : lfC (k + 1) n v' W := by
  rcases h with ⟨a, b, c⟩ | ⟨a, b, c⟩ | ⟨a, b, c⟩
  · omega
  · omega
  · refine Or.inr (Or.inr ⟨by omega, b, ?_⟩)
    rw [show k + 1 - 2 = (k - 2) + 1 by omega, e, c]
    simp only [pw100]
    rw [Int.mul_assoc, Int.mul_comm _ 100]
theorem lfC_n {k : Nat} {n v W : Int} (h : lfC k n v W) : 1 ≤ n ∧ n ≤ 10000 := by
  rcases h with ⟨a, b, c⟩ | ⟨a, b, c⟩ | ⟨a, b, c⟩ <;> omega
theorem lfC_p {k : Nat} {n v W a : Int} (h : lfC k n v W) (hk : k ≤ 6) (hW : 1 ≤ W ∧ W ≤ 40000) (ha : 0 ≤ a ∧ a ≤ W * pw100 k ∧ a ≤ 40000000000000000) : 0 ≤ a * n ∧ a * n ≤ 40000000000000000 := by
  rcases h with ⟨b, c, d⟩ | ⟨b, c, d⟩ | ⟨b, c, d⟩
  · subst b; subst c; simp only [pw100] at ha; omega
  · subst b; subst c; simp only [pw100] at ha; omega
  · subst c; omega
theorem lfC_e {k : Nat} {n v W a : Int} (h : lfC k n v W) (hW : 1 ≤ W) : a * n / v = a * 10000 / (W * pw100 k) := by
  rcases h with ⟨b, c, d⟩ | ⟨b, c, d⟩ | ⟨b, c, d⟩
  · subst b; subst c; subst d; simp only [pw100]; rw [Int.mul_one]
  · subst b; subst c; subst d
    simp only [pw100]
    rw [show a * 10000 = a * 100 * 100 by omega, show v * (100 * 1) = v * 100 by omega, Int.mul_ediv_mul_of_pos_left _ _ (by decide)]
  · subst c; subst d
    obtain ⟨m, rfl⟩ : ∃ m, k = m + 2 := ⟨k - 2, by omega⟩
    simp only [Nat.add_sub_cancel, pw100]
    have p := pw100_pos m
    rw [Int.mul_one, show W * (100 * (100 * pw100 m)) = W * pw100 m * 10000 by rw [← Int.mul_assoc 100 100, Int.mul_left_comm, Int.mul_comm]; rfl, Int.mul_ediv_mul_of_pos_left _ _ (by decide)]
theorem lf_b {a W : Int} (ha : 0 ≤ a ∧ a ≤ W) (hW : 1 ≤ W) : 0 ≤ a * 10000 / W ∧ a * 10000 / W ≤ 10000 := by
  refine ⟨Int.ediv_nonneg (by omega) (by omega), ?_⟩
  have h : a * 10000 < (10000 + 1) * W := by omega
  have := Int.ediv_lt_of_lt_mul (show (0 : Int) < W by omega) h
  omega
/-! the model's way -/
def p10 : Nat → Int | 0 => 1 | n + 1 => 10 * p10 n
theorem p10_nn : ∀ n, 0 ≤ p10 n
  | 0 => by decide
  | n + 1 => by have i := p10_nn n; show 0 ≤ 10 * p10 n; omega
def lfD (u x5 v x6 : Int) (k : Nat) : Prop := u * p10 k = x5 * v + x6 ∧ (0 ≤ x6 ∧ x6 < v) ∧ (0 ≤ x5 ∧ x5 ≤ p10 k)
theorem lfD_0 {u v x5 x6 : Int} (hu : 0 ≤ u ∧ u ≤ v) (hv : 1 ≤ v) (e5 : x5 = u / v) (e6 : x6 = u % v) : lfD u x5 v x6 0 := by
  have d := Int.emod_def u v
  have n := Int.emod_nonneg u (show v ≠ 0 by omega)
  have l := Int.emod_lt_of_pos u (show 0 < v by omega)
  have n5 : 0 ≤ u / v := Int.ediv_nonneg hu.1 (by omega)
  have l5 : u / v ≤ 1 := by
    have h : u < (1 + 1) * v := by omega
    have := Int.ediv_lt_of_lt_mul (show (0 : Int) < v by omega) h
    omega
  refine ⟨?_, by omega, by rw [e5]; exact ⟨n5, l5⟩⟩
  show u * 1 = x5 * v + x6
  rw [e5, e6, d, Int.mul_comm (u / v) v]; omega
theorem lfD_s {u v x5 x6 y5 y6 : Int} {k : Nat} (h : lfD u x5 v x6 k) (hu : u ≤ v) (e5 : y5 = 10 * x5 + x6 * 10 / v) (e6 : y6 = x6 * 10 % v) : lfD u y5 v y6 (k + 1) := by
  obtain ⟨a, b, c⟩ := h
  have d := Int.emod_def (x6 * 10) v
  have n := Int.emod_nonneg (x6 * 10) (show v ≠ 0 by omega)
  have l := Int.emod_lt_of_pos (x6 * 10) (show 0 < v by omega)
  have n5 : 0 ≤ x6 * 10 / v := Int.ediv_nonneg (by omega) (by omega)
  have l5 : x6 * 10 / v < 10 := Int.ediv_lt_of_lt_mul (by omega) (by omega)
  have key : u * p10 (k + 1) = y5 * v + y6 := by
    show u * (10 * p10 k) = y5 * v + y6
    rw [Int.mul_left_comm, a, e5, e6, d, Int.add_mul, Int.mul_comm (x6 * 10 / v) v, Int.mul_add, Int.mul_assoc]; omega
  refine ⟨key, by omega, by omega, ?_⟩
  show y5 ≤ 10 * p10 k
  have p : y5 * v ≤ (10 * p10 k) * v := by
    have m : u * p10 (k + 1) ≤ v * p10 (k + 1) := Int.mul_le_mul_of_nonneg_right hu (p10_nn _)
    rw [Int.mul_comm v] at m
    have m2 : u * p10 (k + 1) ≤ (10 * p10 k) * v := m
    rw [key] at m2
    omega
  exact Int.le_of_mul_le_mul_right p (by omega)
theorem lfD_e {u v x5 x6 : Int} (h : lfD u x5 v x6 4) : x5 = u * 10000 / v := by
  obtain ⟨a, b, c⟩ := h
  have a : u * 10000 = x5 * v + x6 := a
  rw [a, Int.add_comm, Int.add_mul_ediv_right _ _ (show v ≠ 0 by omega), Int.ediv_eq_zero_of_lt b.1 b.2]; omega
theorem l2i_s {v : Int32} {x : Int64} (e : v = x.toInt32) (h : -1000000 ≤ x.toInt ∧ x.toInt ≤ 1000000) : v.toInt = x.toInt := by
  rw [e, Int64.toInt_toInt32]; exact bm32 (by omega) (by omega)
theorem ws_s {tl : Nat → TP} {i i' x : Int32} {u w v : Int64} (h : u.toInt = wsF tl i.toNatClampNeg) (h0 : 0 ≤ i.toInt) (ti : i'.toInt = i.toInt + 1) (hx : x = (tl i.toNatClampNeg).2.2.2.2) (ew : w.toInt = x.toInt) (tv : v.toInt = u.toInt + w.toInt) : v.toInt = wsF tl i'.toNatClampNeg := by
  have a := cl_toInt h0
  have b := cl_toInt (x := i') (by omega)
  rw [show i'.toNatClampNeg = i.toNatClampNeg + 1 by omega]
  show v.toInt = wsF tl i.toNatClampNeg + (tl i.toNatClampNeg).2.2.2.2.toInt
  rw [tv, ew, hx, h]
/-- the weights times a hundred for each that stands -/
theorem wl_y {r : Nat → Int32} {W : Int} {i i' v : Int32} {w b : Int64} (h : w.toInt = W * pw100 (cntB r i.toNatClampNeg)) (h0 : 0 ≤ i.toInt) (ti : i'.toInt = i.toInt + 1) (e : v = r i.toNatClampNeg) (c : v = 0) (tb : b.toInt = w.toInt * 100) : b.toInt = W * pw100 (cntB r i'.toNatClampNeg) := by
  have hs := cntB_step (r := r) h0 ti
  rw [← e, if_pos c] at hs
  rw [tb, h, hs]
  show W * pw100 (cntB r i.toNatClampNeg) * 100 = W * (100 * pw100 (cntB r i.toNatClampNeg))
  rw [Int.mul_assoc, Int.mul_comm _ 100]
theorem wl_n {r : Nat → Int32} {W : Int} {i i' v : Int32} {w b : Int64} (h : w.toInt = W * pw100 (cntB r i.toNatClampNeg)) (h0 : 0 ≤ i.toInt) (ti : i'.toInt = i.toInt + 1) (e : v = r i.toNatClampNeg) (c : ¬ v = 0) (tb : b.toInt = w.toInt * 1) : b.toInt = W * pw100 (cntB r i'.toNatClampNeg) := by
  have hs := cntB_step (r := r) h0 ti
  rw [← e, if_neg c, Nat.add_zero] at hs
  rw [tb, h, hs, Int.mul_one]
theorem p10_4 {n : Nat} (h : n ≤ 4) : p10 n ≤ 10000 := by
  have L : ∀ n, n ≤ 4 → p10 n ≤ 10000 := by decide
  exact L n h
theorem p10b : p10 4 = 10000 := by decide
theorem lf_1 {u v : Int} (hu : 0 ≤ u ∧ u ≤ v) (hv : 1 ≤ v) : 0 ≤ u / v ∧ u / v ≤ 1 := by
  refine ⟨Int.ediv_nonneg hu.1 (by omega), ?_⟩
  have h : u < (1 + 1) * v := by omega
  have := Int.ediv_lt_of_lt_mul (show (0 : Int) < v by omega) h
  omega
theorem lf_10 {x v : Int} (h : 0 ≤ x ∧ x < v) : 0 ≤ x * 10 / v ∧ x * 10 / v < 10 := ⟨Int.ediv_nonneg (by omega) (by omega), Int.ediv_lt_of_lt_mul (by omega) (by omega)⟩
theorem lf_fin {s nt : Nat} {n v r p q : Int64} {z : Int32} {W a : Int} (h : lfC s n.toInt v.toInt W) (hs : s ≤ 6) (hW : 1 ≤ W ∧ W ≤ 40000) (ha : 0 ≤ a) (ha2 : a ≤ 40000000000000000) (hAW : a ≤ W * pw100 s) (hnt : nt ≠ 0) (er : r.toInt = a) (ep : p = r * n) (eq : q = p / v) (ez : z = q.toInt32) (hv : 1 ≤ v.toInt) : z.toInt = lfI nt W a s := by
  have b := lfC_p h hs hW ⟨ha, hAW, ha2⟩
  have e1 := lMul ep er rfl (by omega) (by omega)
  have e2 := lDivP eq (by omega) (by omega)
  rw [e1, lfC_e h hW.1] at e2
  have pp := pw100_pos s
  have hp : 1 * 1 ≤ W * pw100 s := Int.mul_le_mul hW.1 pp (by decide) (by omega)
  have c := lf_b ⟨ha, hAW⟩ (by omega)
  have e3 := l2i_s ez (by omega)
  unfold lfI
  rw [if_neg hnt, e3, e2]
set_option maxHeartbeats 4000000 in
set_option maxRecDepth 100000 in
theorem c_v_X10_left (l : Launch) (G : Gh) (S : Pl) (d sa sb sp te tm pe : Nat → Nat) (tf pf nt np : Nat) (V : SV) (tl : Nat → TP) (pl : Nat → PP) (hC : CIs G S d sa sb sp te tm pe tf pf nt np) (hN : CIn (pI S) d te pe nt np) (hct : Ct (qI S) sa (stl V.2)) (hTV : TV S te tm nt tl V) (hPV : PV S pe np pl) (hvk : vok V) (hpv : ∀ k, k < np → ppV (pl k)) : MtI l yX10_left cX10_left 6 (some .int) (Rm 6 0 0) G [.ref (d 0)] S (fun (r : Int32) (S' : Pl) => S = S' ∧ r.toInt = lfI nt (wsF tl nt) (alF (fun k => odF V.2 (tl k) pl (fun k => pI S 0 (pe k)) np) nt).toInt (cntB (fun k => pI S 0 (pe k)) np)) 0 0 := by
  refine MtI.of (by decide) (Nat.le_of_ble_eq_true rfl) ?_
  intro p e s m args below meth c Q A X hw hin hret ls hl
  have hx := X.1.1
  have hb := X.1.2.1
  have hl : lv_has ls 6 [(0, .ref (d 0))] := hl
  obtain ⟨k0, r70, r71, r72, r73, r74, r75, r76, r77, hR, hS, hB, hSp, ⟨kco, nco⟩, lT, lP, n68, n79, hTl, hPk, hPi, n40⟩ := id hC
  obtain ⟨z92, z93, zw, zz, zst, zs6⟩ := id hN
  have hTp := hR.2.2.2.2.2.2.2
  have n60 := lP.2.2.1
  have oS := hS
  have oTp := hTp
  have oPk := hPk
  have hOB : ∀ k, k < nt → 0 ≤ ((fun k => odF V.2 (tl k) pl (fun k => pI S 0 (pe k)) np) k).toInt ∧ ((fun k => odF V.2 (tl k) pl (fun k => pI S 0 (pe k)) np) k).toInt ≤ 1000000000000000 := od_all hvk (fun k9 h9 => by have z9 := zw k9 h9; rw [(hTV.1 k9 h9).1.2.2.2.2] at z9; exact z9) hpv zs6
  have hww : ∀ k, k < nt → 1 ≤ (tl k).2.2.2.2.toInt ∧ (tl k).2.2.2.2.toInt ≤ 1000 := fun k9 h9 => by have z9 := zw k9 h9; rw [(hTV.1 k9 h9).1.2.2.2.2] at z9; exact z9
  have hAW : (alF (fun k => odF V.2 (tl k) pl (fun k => pI S 0 (pe k)) np) nt).toInt ≤ (wsF tl nt) * pw100 (cntB (fun k => pI S 0 (pe k)) np) := alw_b n40 hOB (fun k9 h9 => (od_w (hww k9 h9) np (fun j9 h8 => wgh_b hvk (hpv j9 h8)) zs6).2) nt (Nat.le_refl _)
  have hAB := alf_b n40 hOB nt (Nat.le_refl _)
  have hWB := ws_b hww nt (Nat.le_refl _)
  refine lv_lconst (v := 0) hx hb dX10_left_0 (by decide) ?_
  refine lv_lstore_n (lv' := [(1, .long 0), (0, .ref (d 0))]) hx hb dX10_left_1 rfl hl (by decide) rfl (fun ls hl => ?_)
  refine lv_iconst (v := 0) hx hb dX10_left_2 (by decide) ?_
  refine lv_istore_n (lv' := [(3, .int 0), (1, .long 0), (0, .ref (d 0))]) hx hb dX10_left_3 rfl hl (by decide) rfl (fun ls hl => ?_)
  have lp4 : ∀ (N9 : Nat) (u : Int64) (i : Int32), (0 ≤ i.toInt ∧ i.toInt ≤ (nt : Int)) → (i.toInt ≤ u.toInt ∧ u.toInt ≤ 1000 * i.toInt) → (u.toInt = wsF tl i.toNatClampNeg) → (40 - i.toInt).toNat < N9 → ∀ (H : Heap) (locs : List Loc) (ls : Array Slot), PX G A s.heap S H locs → lv_has ls 6 [(3, .int i), (1, .long u), (0, .ref (d 0))] → W p l e (Rm 6 0 0) s m args below meth c H locs 0 0 Q (F0 m 4 ls []) := by
    intro N9
    induction N9 with
    | zero => intro u i hi hu hws hm; exact absurd hm (Nat.not_lt_zero _)
    | succ N9 ih4 =>
      intro u i hi hu hws hm H locs ls hw hl
      refine lv_iload_n hx hb dX10_left_4 rfl (lv_at hl 0 rfl) ?_
      refine lv_aload_n hx hb dX10_left_5 rfl (lv_at hl 2 rfl) ?_
      refine gf_X10_28 (b := (d 6)) X hw k0 r72 dX10_left_6 ?_
      refine k_Vi (n := 0) X hw (rcvk (ci := 0) X hw lT.1 (fun _ _ _ _ _ _ _ => ⟨_, rfl⟩) rfl) (c_Jx4a65c_size_8abf5 l G _ (d 6) lT.1) wd_r18_1 wd_r18_2 wd_r18_3 wd_r1_22 wd_r18_4 ⟨by decide, by decide, by decide +kernel⟩ rfl rfl ⟨Nat.le_of_ble_eq_true rfl, Nat.le_of_ble_eq_true rfl⟩ rfl rfl hl.1 (Nat.le_of_ble_eq_true rfl) dX10_left_9 ⟨Nat.le_of_ble_eq_true rfl, Nat.le_of_ble_eq_true rfl⟩ (fun r9_1 S9_3 H locs h9_2 hw => ?_)
      obtain ⟨rfl, h9_2⟩ := h9_2
      have h9_2t : r9_1.toInt = ((pI S) 92 (d 6)).toInt := congrArg Int32.toInt h9_2
      refine lv_icmp_ge (tgt := 39) hx hb dX10_left_12 (by decide) (fun c12_4 => ?_) (fun c12_4 => ?_)
      · have D12_4 := iLe c12_4 rfl rfl
        refine lv_lload_n hx hb dX10_left_39 rfl (lv_at hl 1 rfl) ?_
        refine lv_lconst (v := 0) hx hb dX10_left_40 (by decide) ?_
        refine W.lcmp hx hb dX10_left_41 ?_
        refine lv_topi (fun v41_5 e41_5 => ?_)
        refine lv_if_gt (tgt := 49) hx hb dX10_left_42 (by decide) (fun c42_6 => ?_) (fun c42_6 => ?_)
        · have D42_6 := lc_gt e41_5 c42_6
          have hwsE : u.toInt = (wsF tl nt) := by rw [hws, show i.toNatClampNeg = nt by have := cl_toInt (x := i) (by omega); omega]
          refine lv_ldc2 hx hb X.1.2.2.2.1 (X.1.2.2.2.2 _ wd_r42_22) dX10_left_49 ?_
          refine lv_lstore_n (lv' := [(3, .long 10000), (1, .long u), (0, .ref (d 0))]) hx hb dX10_left_52 rfl hl (by decide) rfl (fun ls hl => ?_)
          refine lv_iconst (v := 0) hx hb dX10_left_53 (by decide) ?_
          refine lv_istore (lv' := [(5, .int 0), (3, .long 10000), (1, .long u), (0, .ref (d 0))]) hx hb dX10_left_54 hl (by decide) rfl (fun ls hl => ?_)
          have lp56 : ∀ (N9 : Nat) (v : Int64) (n : Int64) (k : Int32), (0 ≤ k.toInt ∧ k.toInt ≤ 6 ∧ k.toInt ≤ (pI S 78 (d 0)).toInt) → (1 ≤ v.toInt ∧ v.toInt ≤ 40000 * pw100 k.toNatClampNeg) → (lfC k.toNatClampNeg n.toInt v.toInt (wsF tl nt)) → (6 - k.toInt).toNat < N9 → ∀ (H : Heap) (locs : List Loc) (ls : Array Slot), PX G A s.heap S H locs → lv_has ls 6 [(5, .int k), (3, .long n), (1, .long v), (0, .ref (d 0))] → W p l e (Rm 6 0 0) s m args below meth c H locs 0 0 Q (F0 m 56 ls []) := by
            intro N9
            induction N9 with
            | zero => intro v n k hk hv hlf hm; exact absurd hm (Nat.not_lt_zero _)
            | succ N9 ih56 =>
              intro v n k hk hv hlf hm H locs ls hw hl
              refine lv_iload hx hb dX10_left_56 (lv_at hl 0 rfl) ?_
              refine lv_aload_n hx hb dX10_left_58 rfl (lv_at hl 3 rfl) ?_
              refine gf_X10_179 (v := (pI S) 78 (d 0)) X hw k0 rfl dX10_left_59 ?_
              refine lv_icmp_ge (tgt := 92) hx hb dX10_left_62 (by decide) (fun c62_7 => ?_) (fun c62_7 => ?_)
              · have D62_7 := iLe c62_7 rfl rfl
                have hkE : k.toNatClampNeg = (cntB (fun k => pI S 0 (pe k)) np) := by have := cl_toInt (x := k) hk.1; omega
                refine lv_aload_n hx hb dX10_left_92 rfl (lv_at hl 3 rfl) ?_
                refine k_Vl (n := 0) X hw (rcvk (ci := 10) X hw k0 (fun _ _ _ _ _ _ _ => ⟨_, rfl⟩) rfl) (c_v_X10_allOdds l G _ d sa sb sp te tm pe tf pf nt np V tl pl hC hN hct hTV hPV) wd_r38_11 wd_r38_12 wd_r38_13 wd_r1_2 wd_r38_14 ⟨by decide, by decide, by decide +kernel⟩ rfl rfl ⟨Nat.le_of_ble_eq_true rfl, Nat.le_of_ble_eq_true rfl⟩ rfl rfl hl.1 (Nat.le_of_ble_eq_true rfl) dX10_left_93 ⟨Nat.le_of_ble_eq_true rfl, Nat.le_of_ble_eq_true rfl⟩ (fun r93_8 S93_10 H locs h93_9 hw => ?_)
                obtain ⟨rfl, h93_9⟩ := h93_9
                have ha93 : r93_8.toInt = (alF (fun k => odF V.2 (tl k) pl (fun k => pI S 0 (pe k)) np) nt).toInt := congrArg Int64.toInt h93_9
                refine lv_lload_n hx hb dX10_left_96 rfl (lv_at hl 1 rfl) ?_
                refine lv_lmul hx hb dX10_left_97 ?_
                refine lv_topl (fun v97_11 e97_11 => ?_)
                have e97n := e97_11
                refine lv_lload_n hx hb dX10_left_98 rfl (lv_at hl 2 rfl) ?_
                refine lv_ldiv hx hb dX10_left_99 (lne0 (by omega)) ?_
                refine lv_topl (fun v99_12 e99_12 => ?_)
                have e99n := e99_12
                refine lv_l2i hx hb dX10_left_100 rfl ?_
                refine lv_topi (fun v100_13 e100_13 => ?_)
                have e100n := e100_13
                exact hret v100_13 _ _ _ _ _ ⟨rfl, by rw [hkE] at hlf; exact lf_fin hlf zs6 (by have := (by decide : (0:Int64).toInt = 0); omega) hAB.1 (by omega) hAW (by have := (by decide : (0:Int64).toInt = 0); omega) ha93 e97n e99n e100n hv.1⟩ hw rfl dX10_left_101
              · have D62_7 := iNle c62_7 rfl rfl
                refine lv_lload_n hx hb dX10_left_65 rfl (lv_at hl 1 rfl) ?_
                refine lv_lconst (v := 1) hx hb dX10_left_66 (by decide) ?_
                refine W.lcmp hx hb dX10_left_67 ?_
                refine lv_topi (fun v67_14 e67_14 => ?_)
                refine lv_if_le (tgt := 80) hx hb dX10_left_68 (by decide) (fun c68_15 => ?_) (fun c68_15 => ?_)
                · have D68_15 := lc_le e67_14 c68_15
                  refine lv_lload_n hx hb dX10_left_80 rfl (lv_at hl 2 rfl) ?_
                  refine lv_ldc2 hx hb X.1.2.2.2.1 (X.1.2.2.2.2 _ wd_r42_23) dX10_left_81 ?_
                  refine lv_lmul hx hb dX10_left_84 ?_
                  refine lv_topl (fun v84_16 e84_16 => ?_)
                  have e84n := e84_16
                  refine lv_lstore_n (lv' := [(1, .long v84_16), (5, .int k), (3, .long n), (0, .ref (d 0))]) hx hb dX10_left_85 rfl hl (by decide) rfl (fun ls hl => ?_)
                  obtain ⟨v86_17, e86_17⟩ : ∃ y : Int32, y = k + 1 := ⟨_, rfl⟩
                  have t86_17 := iAdd e86_17 rfl t_1 (by omega) (by omega)
                  have t86 := t86_17
                  refine lv_iinc (v := v86_17) (lv' := [(5, .int v86_17), (1, .long v84_16), (3, .long n), (0, .ref (d 0))]) hx hb dX10_left_86 hl (k := 1) rfl (by rw [e86_17]; rfl) (by decide) rfl (fun ls hl => ?_)
                  refine lv_goto (tgt := 56) hx hb dX10_left_89 (by decide) ?_
                  exact ih56  v84_16 n v86_17 (by omega) (by first | exact lf_y hv e84n t86 (by omega) (by omega) | exact lf_n hv t86 (by omega)) (by rw [show (v86_17).toNatClampNeg = k.toNatClampNeg + 1 by have := cl_toInt (x := k) hk.1; have := cl_toInt (x := v86_17) (by omega); omega]; have o9 := (by decide : (1 : Int64).toInt = 1); first | exact lfC_d hlf (by omega) d75 | (have p9 := pw100_6 (n := k.toNatClampNeg) (by have := cl_toInt (x := k) hk.1; omega); exact lfC_m hlf (by omega) (lMul e84n rfl (by decide : (100 : Int64).toInt = 100) (by omega) (by omega)))) (by omega) _ _ _ hw (lv_sub hl [0, 2, 1, 3] rfl)
                · have D68_15 := lcn_le e67_14 c68_15
                  refine lv_lload_n hx hb dX10_left_71 rfl (lv_at hl 1 rfl) ?_
                  refine lv_ldc2 hx hb X.1.2.2.2.1 (X.1.2.2.2.2 _ wd_r42_23) dX10_left_72 ?_
                  refine lv_ldiv hx hb dX10_left_75 (by decide) ?_
                  refine lv_topl (fun v75_18 e75_18 => ?_)
                  have d75 := lDivP e75_18 (by have := lfC_n hlf; omega) (by decide)
                  refine lv_lstore_n (lv' := [(3, .long v75_18), (5, .int k), (1, .long v), (0, .ref (d 0))]) hx hb dX10_left_76 rfl hl (by decide) rfl (fun ls hl => ?_)
                  refine lv_goto (tgt := 86) hx hb dX10_left_77 (by decide) ?_
                  obtain ⟨v86_19, e86_19⟩ : ∃ y : Int32, y = k + 1 := ⟨_, rfl⟩
                  have t86_19 := iAdd e86_19 rfl t_1 (by omega) (by omega)
                  have t86 := t86_19
                  refine lv_iinc (v := v86_19) (lv' := [(5, .int v86_19), (3, .long v75_18), (1, .long v), (0, .ref (d 0))]) hx hb dX10_left_86 hl (k := 1) rfl (by rw [e86_19]; rfl) (by decide) rfl (fun ls hl => ?_)
                  refine lv_goto (tgt := 56) hx hb dX10_left_89 (by decide) ?_
                  exact ih56  v v75_18 v86_19 (by omega) (by first | exact lf_y hv e84n t86 (by omega) (by omega) | exact lf_n hv t86 (by omega)) (by rw [show (v86_19).toNatClampNeg = k.toNatClampNeg + 1 by have := cl_toInt (x := k) hk.1; have := cl_toInt (x := v86_19) (by omega); omega]; have o9 := (by decide : (1 : Int64).toInt = 1); first | exact lfC_d hlf (by omega) d75 | (have p9 := pw100_6 (n := k.toNatClampNeg) (by have := cl_toInt (x := k) hk.1; omega); exact lfC_m hlf (by omega) (lMul e84n rfl (by decide : (100 : Int64).toInt = 100) (by omega) (by omega)))) (by omega) _ _ _ hw (lv_sub hl [0, 1, 2, 3] rfl)
          exact lp56 _  u 10000 0 (by have := t_0; omega) (lf_0 (by have := (by decide : (0:Int64).toInt = 0); omega)) (by rw [show (0 : Int32).toNatClampNeg = 0 by decide, hwsE]; exact Or.inl ⟨rfl, by decide, rfl⟩) (Nat.lt_succ_self _) _ _ _ hw (lv_sub hl [0, 1, 2, 3] rfl)
        · have D42_6 := lcn_gt e41_5 c42_6
          refine lv_sipush (v := 10000) hx hb dX10_left_45 (by decide) ?_
          exact hret 10000 _ _ _ _ _ ⟨rfl, by unfold lfI; rw [if_pos (by have := (by decide : (0:Int64).toInt = 0); have := cl_toInt (x := i) hi.1; omega)]; decide⟩ hw rfl dX10_left_48
      · have D12_4 := iNle c12_4 rfl rfl
        refine lv_lload_n hx hb dX10_left_15 rfl (lv_at hl 1 rfl) ?_
        refine lv_aload_n hx hb dX10_left_16 rfl (lv_at hl 2 rfl) ?_
        refine gf_X10_28 (b := (d 6)) X hw k0 r72 dX10_left_17 ?_
        refine lv_iload_n hx hb dX10_left_20 rfl (lv_at hl 0 rfl) ?_
        refine k_Vq (n := 1) X hw (rcvk (ci := 0) X hw lT.1 (fun _ _ _ _ _ _ _ => ⟨_, rfl⟩) rfl) (c_Jx4a65c_get_915e3 l G _ (d 6) (d 7) tf nt te i (lT.sh z92) (by omega)) wd_r18_6 wd_r18_7 wd_r18_8 wd_r1_22 wd_r18_9 ⟨by decide, by decide, by decide +kernel⟩ rfl rfl ⟨Nat.le_of_ble_eq_true rfl, Nat.le_of_ble_eq_true rfl⟩ rfl rfl hl.1 (Nat.le_of_ble_eq_true rfl) dX10_left_21 ⟨Nat.le_of_ble_eq_true rfl, Nat.le_of_ble_eq_true rfl⟩ (fun r21_20 S21_22 H locs h21_21 hw => ?_)
        obtain ⟨rfl, rfl⟩ := h21_21
        have hik : i.toNatClampNeg < nt := clt (by omega) (by omega)
        refine q_castT X hw (hTl _ hik).1 dX10_left_24 ?_
        refine k_Vi (n := 0) X hw (rcvk (ci := 7) X hw (hTl _ hik).1 (fun _ _ _ _ _ _ _ => ⟨_, rfl⟩) rfl) (c_X7_weight l G _ (te i.toNatClampNeg) (tm i.toNatClampNeg) (hTl _ hik)) wd_r36_7 wd_r36_8 wd_r36_9 wd_r18_22 wd_r36_10 ⟨by decide, by decide, by decide +kernel⟩ rfl rfl ⟨Nat.le_of_ble_eq_true rfl, Nat.le_of_ble_eq_true rfl⟩ rfl rfl hl.1 (Nat.le_of_ble_eq_true rfl) dX10_left_27 ⟨Nat.le_of_ble_eq_true rfl, Nat.le_of_ble_eq_true rfl⟩ (fun r27_23 S27_25 H locs h27_24 hw => ?_)
        obtain ⟨rfl, h27_24⟩ := h27_24
        have h27_24t := congrArg Int32.toInt h27_24
        have zwi := zw _ hik
        have hwv : r27_23 = (tl i.toNatClampNeg).2.2.2.2 := h27_24.trans (hTV.1 _ hik).1.2.2.2.2
        refine lv_i2l hx hb dX10_left_30 rfl ?_
        refine lv_topl (fun v30_26 e30_26 => ?_)
        have k30 : v30_26.toInt = r27_23.toInt := by rw [e30_26]; exact i2l_t _
        refine lv_ladd hx hb dX10_left_31 ?_
        refine lv_topl (fun v31_27 e31_27 => ?_)
        have t31_27 := lAdd e31_27 rfl rfl (by omega) (by omega)
        have t31 := t31_27
        refine lv_lstore_n (lv' := [(1, .long v31_27), (3, .int i), (0, .ref (d 0))]) hx hb dX10_left_32 rfl hl (by decide) rfl (fun ls hl => ?_)
        obtain ⟨v33_28, e33_28⟩ : ∃ y : Int32, y = i + 1 := ⟨_, rfl⟩
        have t33_28 := iAdd e33_28 rfl t_1 (by omega) (by omega)
        have t33 := t33_28
        refine lv_iinc (v := v33_28) (lv' := [(3, .int v33_28), (1, .long v31_27), (0, .ref (d 0))]) hx hb dX10_left_33 hl (k := 1) rfl (by rw [e33_28]; rfl) (by decide) rfl (fun ls hl => ?_)
        refine lv_goto (tgt := 4) hx hb dX10_left_36 (by decide) ?_
        exact ih4  v31_27 v33_28 (by omega) (by omega) (ws_s hws hi.1 t33 hwv k30 t31) (by omega) _ _ _ hw (lv_sub hl [0, 1, 2] rfl)
  exact lp4 _  0 0 (by have := t_0; omega) (by have := t_0; have := (by decide : (0:Int64).toInt = 0); omega) (by rw [show (0 : Int32).toNatClampNeg = 0 by decide]; exact (show (0 : Int64).toInt = (0 : Int) by decide)) (Nat.lt_succ_self _) _ _ _ hw (lv_sub hl [0, 1, 2] rfl)
