
/-! ===== a sea's rows, by their place in it: 2 lees, 3 lands, 4 misses, 11 + 4 f .. 13 + 4 f the steps and the told of flow f ===== -/
def sidR : List Nat := [2, 3, 4, 11, 12, 13, 15, 16, 17, 19, 20, 21, 23, 24, 25, 27, 28, 29]
def lgR (j : Nat) : Nat := if j = 2 then 4 else if j = 3 then 64 else if j = 4 then 42 else 72
/-- the rows lie apart -/
def sdj (sa : Nat → Nat) : Prop := ∀ i ∈ sidR, ∀ j ∈ sidR, sa i = sa j → i = j
theorem sdj.ne {sa : Nat → Nat} (h : sdj sa) {i j : Nat} (hi : i ∈ sidR) (hj : j ∈ sidR) (n : i ≠ j) : sa i ≠ sa j := fun e => n (h i hi j hj e)
def Ct (q : Nat → Nat → Int32) (sa : Nat → Nat) (C : Nat → Nat → Int32) : Prop := ∀ j ∈ sidR, ∀ i, i < lgR j → q (sa j) i = C j i
/-- no row but the sea's has changed -/
def seO (q q' : Nat → Nat → Int32) (sa : Nat → Nat) : Prop := ∀ a, (∀ j ∈ sidR, a ≠ sa j) → q' a = q a
theorem seO.rf {q : Nat → Nat → Int32} {sa : Nat → Nat} : seO q q sa := fun _ _ => rfl
theorem seO.tr {q q1 q2 : Nat → Nat → Int32} {sa : Nat → Nat} (h : seO q q1 sa) (g : seO q1 q2 sa) : seO q q2 sa := fun a ha => (g a ha).trans (h a ha)
theorem seO.up {q q1 : Nat → Nat → Int32} {sa : Nat → Nat} {j : Nat} {r : Nat → Int32} (hj : j ∈ sidR) (c : q1 = va_up q (sa j) r) : seO q q1 sa := fun a ha => up_n c (ha j hj)
theorem Ct.up {q q1 : Nat → Nat → Int32} {sa : Nat → Nat} {C : Nat → Nat → Int32} {j i : Nat} {v : Int32} (h : Ct q sa C) (hd : sdj sa) (hj : j ∈ sidR) (c : q1 = va_up q (sa j) (upd (q (sa j)) i v)) : Ct q1 sa (up2 C j i v) := fun k hk x hx => by
  by_cases e : k = j
  · subst e
    rw [up_s c]
    by_cases g : x = i
    · rw [g, pk_us, up2_s]
    · rw [pk_un g, up2_n g]; exact h k hk x hx
  · rw [up_n c (hd.ne hk hj e), up2_f e]; exact h k hk x hx
theorem Ct.kept {q q1 : Nat → Nat → Int32} {sa : Nat → Nat} {C : Nat → Nat → Int32} (h : Ct q sa C) (g : ∀ j ∈ sidR, q1 (sa j) = q (sa j)) : Ct q1 sa C := fun j hj i hi => by rw [g j hj]; exact h j hj i hi
theorem fl_in {f k : Nat} (hf : f < 5) (hk : 1 ≤ k ∧ k ≤ 3) : 10 + 4 * f + k ∈ sidR := by
  have L : ∀ f, f < 5 → ∀ k, k < 4 → 1 ≤ k → 10 + 4 * f + k ∈ sidR := by decide
  exact L f hf k (by omega) hk.1
theorem fl_12 {sa : Nat → Nat} (hd : sdj sa) {f : Nat} (hf : f < 5) : fl sa f 1 ≠ fl sa f 2 := hd.ne (fl_in hf (by omega)) (fl_in hf (by omega)) (by omega)
theorem lgR_fl {f k : Nat} : lgR (10 + 4 * f + k) = 72 := by unfold lgR; rw [if_neg (by omega), if_neg (by omega), if_neg (by omega)]
/-- a flow's rows told -/
theorem Ct.tf {q q1 : Nat → Nat → Int32} {sa : Nat → Nat} {C : Nat → Nat → Int32} {f i : Nat} {x y : Int32} (h : Ct q sa C) (hd : sdj sa) (hf : f < 5) (t : tfl q q1 (fl sa f) i x y) : Ct q1 sa (up2 (up2 (up2 C (10 + 4 * f + 3) i 1) (10 + 4 * f + 1) i x) (10 + 4 * f + 2) i y) ∧ seO q q1 sa := by
  obtain ⟨t3, t1, t2, to⟩ := t
  have i1 := fl_in (k := 1) hf (by omega)
  have i2 := fl_in (k := 2) hf (by omega)
  have i3 := fl_in (k := 3) hf (by omega)
  refine ⟨fun k hk z hz => ?_, fun a ha => to a (ha _ i1) (ha _ i2) (ha _ i3)⟩
  have key : ∀ (m : Nat) (v : Int32), 10 + 4 * f + m = k → q1 (sa k) = upd (q (sa k)) i v → q1 (sa k) z = va_up (C k) i v z := fun m v e g => by
    rw [g]
    by_cases g2 : z = i
    · rw [g2, pk_us, vu_s]
    · rw [pk_un g2, vu_n g2]; exact h k hk z hz
  by_cases e2 : 10 + 4 * f + 2 = k
  · rw [key 2 y e2 (by rw [← e2]; exact t2), ← e2]
    show _ = (if _ = _ then va_up _ i y else _) z
    rw [if_pos rfl, up2_f (by omega), up2_f (by omega)]
  · rw [up2_f (fun e => e2 e.symm)]
    by_cases e1 : 10 + 4 * f + 1 = k
    · rw [key 1 x e1 (by rw [← e1]; exact t1), ← e1]
      show _ = (if _ = _ then va_up _ i x else _) z
      rw [if_pos rfl, up2_f (by omega)]
    · rw [up2_f (fun e => e1 e.symm)]
      by_cases e3 : 10 + 4 * f + 3 = k
      · rw [key 3 1 e3 (by rw [← e3]; exact t3), ← e3]
        show _ = (if _ = _ then va_up _ i 1 else _) z
        rw [if_pos rfl]
      · rw [up2_f (fun e => e3 e.symm), to (sa k) (hd.ne hk i1 (fun e => e1 e.symm)) (hd.ne hk i2 (fun e => e2 e.symm)) (hd.ne hk i3 (fun e => e3 e.symm))]
        exact h k hk z hz
/-! the clearing, row by row -/
def c0 (j : Nat) : Int32 := if j = 2 ∨ j = 4 then -1 else 0
def Fil (q : Nat → Nat → Int32) (sa : Nat → Nat) (lim : Nat → Nat) : Prop := ∀ j ∈ sidR, ∀ i, i < lim j → q (sa j) i = c0 j
def L1 (u : Nat) : Nat → Nat := fun j => if 11 ≤ j ∧ j < 14 + 4 * u then 72 else 0
def L2 (k : Nat) : Nat → Nat := fun j => if 11 ≤ j then 72 else if j = 2 then k else 0
def L3 (k : Nat) : Nat → Nat := fun j => if 11 ≤ j then 72 else if j = 2 then 4 else if j = 3 then k else 0
def L4 (k : Nat) : Nat → Nat := fun j => if 11 ≤ j then 72 else if j = 2 then 4 else if j = 3 then 64 else if j = 4 then k else 0
theorem Fil.le {q : Nat → Nat → Int32} {sa : Nat → Nat} {l l' : Nat → Nat} (h : Fil q sa l) (g : ∀ j ∈ sidR, l' j ≤ l j) : Fil q sa l' := fun j hj i hi => h j hj i (Nat.lt_of_lt_of_le hi (g j hj))
theorem Fil_f {q q1 : Nat → Nat → Int32} {sa : Nat → Nat} {u : Nat} {l : Nat → Nat} (h : Fil q sa l) (hd : sdj sa) (hu : u < 5) (t : clF q q1 (fl sa u) 72) (hl2 : ∀ j ∈ sidR, j ≠ 10 + 4 * u + 1 → j ≠ 10 + 4 * u + 2 → j ≠ 10 + 4 * u + 3 → L1 u j ≤ l j) : Fil q1 sa (L1 u) ∧ seO q q1 sa := by
  obtain ⟨tz, to⟩ := t
  have i1 := fl_in (k := 1) hu (by omega)
  have i2 := fl_in (k := 2) hu (by omega)
  have i3 := fl_in (k := 3) hu (by omega)
  have z0 : ∀ m, c0 (10 + 4 * u + m) = 0 ∨ m = 0 := fun m => by
    by_cases e : m = 0
    · exact Or.inr e
    · left; unfold c0; rw [if_neg (by omega)]
  refine ⟨fun k hk z hz => ?_, fun a ha => to a (ha _ i1) (ha _ i2) (ha _ i3)⟩
  have hz72 : z < 72 := by unfold L1 at hz; split at hz <;> omega
  by_cases e1 : k = 10 + 4 * u + 1
  · rw [e1]; exact ((tz z hz72).2.1).trans ((z0 1).resolve_right (by decide)).symm
  · by_cases e2 : k = 10 + 4 * u + 2
    · rw [e2]; exact ((tz z hz72).2.2).trans ((z0 2).resolve_right (by decide)).symm
    · by_cases e3 : k = 10 + 4 * u + 3
      · rw [e3]; exact ((tz z hz72).1).trans ((z0 3).resolve_right (by decide)).symm
      · rw [to (sa k) (hd.ne hk i1 e1) (hd.ne hk i2 e2) (hd.ne hk i3 e3)]
        exact h k hk z (Nat.lt_of_lt_of_le hz (hl2 k hk e1 e2 e3))
theorem Fil_s {q q1 : Nat → Nat → Int32} {sa : Nat → Nat} {j : Nat} {i i' v : Int32} {l l' : Nat → Nat} (h : Fil q sa l) (hd : sdj sa) (hj : j ∈ sidR) (h0 : 0 ≤ i.toInt) (ti : i'.toInt = i.toInt + 1) (hv : v = c0 j) (c : q1 = va_up q (sa j) (upd (q (sa j)) i.toNatClampNeg v)) (hl : l j = i.toNatClampNeg) (hl' : l' j = i'.toNatClampNeg) (hl2 : ∀ k ∈ sidR, k ≠ j → l' k ≤ l k) : Fil q1 sa l' ∧ seO q q1 sa := by
  have e1 := cl_toInt h0
  have e2 := cl_toInt (x := i') (by omega)
  refine ⟨fun k hk z hz => ?_, seO.up hj c⟩
  by_cases e : k = j
  · subst e
    rw [up_s c]
    refine upd_lt hv (fun g => h k hk z (by omega)) (by omega)
  · rw [up_n c (hd.ne hk hj e)]
    exact h k hk z (Nat.lt_of_lt_of_le hz (hl2 k hk e))
theorem sidR_m : ∀ j ∈ sidR, (2 ≤ j ∧ j ≤ 4) ∨ (11 ≤ j ∧ j ≤ 29 ∧ j % 4 ≠ 2) := by decide
theorem Fil_0 {q q1 : Nat → Nat → Int32} {sa : Nat → Nat} (hd : sdj sa) (t : clF q q1 (fl sa 0) 72) : Fil q1 sa (L1 0) ∧ seO q q1 sa :=
  Fil_f (l := fun _ => 0) (u := 0) (fun j _ i h => absurd h (Nat.not_lt_zero _)) hd (by decide) t (fun j hj n1 n2 n3 => by
    have := sidR_m j hj
    unfold L1; rw [if_neg (by omega)]; exact Nat.le_refl _)
theorem Fil_1 {q q1 : Nat → Nat → Int32} {sa : Nat → Nat} {i i' : Int32} (h : Fil q sa (L1 i.toNatClampNeg)) (hd : sdj sa) (h0 : 0 ≤ i.toInt) (h4 : i.toInt < 4) (ti : i'.toInt = i.toInt + 1) (t : clF q q1 (fl sa (i.toNatClampNeg + 1)) 72) : Fil q1 sa (L1 i'.toNatClampNeg) ∧ seO q q1 sa := by
  have e1 := cl_toInt h0
  have e2 := cl_toInt (x := i') (by omega)
  rw [show i'.toNatClampNeg = i.toNatClampNeg + 1 by omega]
  refine Fil_f h hd (by omega) t (fun j hj n1 n2 n3 => ?_)
  have := sidR_m j hj
  unfold L1
  by_cases g : 11 ≤ j ∧ j < 14 + 4 * i.toNatClampNeg
  · rw [if_pos g, if_pos (by omega)]; exact Nat.le_refl _
  · rw [if_neg g, if_neg (by omega)]; exact Nat.le_refl _
theorem Fil_12 {q : Nat → Nat → Int32} {sa : Nat → Nat} {i : Int32} (h : Fil q sa (L1 i.toNatClampNeg)) (hi : i.toInt = 4) : Fil q sa (L2 (0 : Int32).toNatClampNeg) := h.le (fun j hj => by
  have e1 := cl_toInt (x := i) (by omega)
  have := sidR_m j hj
  unfold L1 L2
  rw [show (0 : Int32).toNatClampNeg = 0 by decide]
  by_cases g : 11 ≤ j
  · rw [if_pos g, if_pos (by omega)]; exact Nat.le_refl _
  · rw [if_neg g]; split <;> exact Nat.zero_le _)
theorem Fil_23 {q : Nat → Nat → Int32} {sa : Nat → Nat} {i : Int32} (h : Fil q sa (L2 i.toNatClampNeg)) (hi : i.toInt = 4) : Fil q sa (L3 (0 : Int32).toNatClampNeg) := h.le (fun j hj => by
  have e1 := cl_toInt (x := i) (by omega)
  unfold L2 L3
  rw [show (0 : Int32).toNatClampNeg = 0 by decide]
  by_cases g : 11 ≤ j
  · rw [if_pos g, if_pos g]; exact Nat.le_refl _
  · rw [if_neg g, if_neg g]
    by_cases g2 : j = 2
    · rw [if_pos g2, if_pos g2]; omega
    · rw [if_neg g2, if_neg g2]; split <;> exact Nat.zero_le _)
theorem Fil_34 {q : Nat → Nat → Int32} {sa : Nat → Nat} {i : Int32} (h : Fil q sa (L3 i.toNatClampNeg)) (hi : i.toInt = 64) : Fil q sa (L4 (0 : Int32).toNatClampNeg) := h.le (fun j hj => by
  have e1 := cl_toInt (x := i) (by omega)
  unfold L3 L4
  rw [show (0 : Int32).toNatClampNeg = 0 by decide]
  by_cases g : 11 ≤ j
  · rw [if_pos g, if_pos g]; exact Nat.le_refl _
  · rw [if_neg g, if_neg g]
    by_cases g2 : j = 2
    · rw [if_pos g2, if_pos g2]; exact Nat.le_refl _
    · rw [if_neg g2, if_neg g2]
      by_cases g3 : j = 3
      · rw [if_pos g3, if_pos g3]; omega
      · rw [if_neg g3, if_neg g3]; split <;> exact Nat.zero_le _)
theorem Fil_4 {q : Nat → Nat → Int32} {sa : Nat → Nat} {i : Int32} (h : Fil q sa (L4 i.toNatClampNeg)) (hi : i.toInt = 42) : Ct q sa (fun j _ => c0 j) := fun j hj z hz => h j hj z (by
  have e1 := cl_toInt (x := i) (by omega)
  have hm := sidR_m j hj
  unfold lgR at hz
  unfold L4
  by_cases g : 11 ≤ j
  · rw [if_pos g]; rw [if_neg (by omega), if_neg (by omega), if_neg (by omega)] at hz; exact hz
  · rw [if_neg g]
    by_cases g2 : j = 2
    · rw [if_pos g2]; rw [if_pos g2] at hz; exact hz
    · rw [if_neg g2]; rw [if_neg g2] at hz
      by_cases g3 : j = 3
      · rw [if_pos g3]; rw [if_pos g3] at hz; exact hz
      · rw [if_neg g3, if_pos (by omega)]; rw [if_neg g3, if_pos (by omega)] at hz; omega)
theorem L2_k {k : Nat} : L2 k 2 = k := rfl
theorem L3_k {k : Nat} : L3 k 3 = k := rfl
theorem L4_k {k : Nat} : L4 k 4 = k := rfl
theorem L2_o {k k' j : Nat} (h : j ≠ 2) : L2 k j ≤ L2 k' j := by unfold L2; split <;> first | exact Nat.le_refl _ | (rw [if_neg h, if_neg h]; exact Nat.le_refl _)
theorem L3_o {k k' j : Nat} (h : j ≠ 3) : L3 k j ≤ L3 k' j := by unfold L3; split <;> first | exact Nat.le_refl _ | (rw [if_neg h, if_neg h]; exact Nat.le_refl _)
theorem L4_o {k k' j : Nat} (h : j ≠ 4) : L4 k j ≤ L4 k' j := by unfold L4; split <;> first | exact Nat.le_refl _ | (rw [if_neg h, if_neg h]; exact Nat.le_refl _)
set_option maxHeartbeats 4000000 in
set_option maxRecDepth 100000 in
theorem c_v_X3_clear (l : Launch) (G : Gh) (S : Pl) (sa : Nat → Nat) (hS : shSea S sa) (hd : sdj sa) : MtV l yX3_clear cX3_clear 2 none (Rm 1 0 0) G [.ref (sa 0)] S (fun (S' : Pl) => ∃ I' q', ch S I' (pJ S) q' (qJ S) = S' ∧ I' = up2 (pI S) 15 (sa 0) 0 ∧ Ct q' sa (fun j _ => c0 j) ∧ seO (qI S) q' sa) 0 0 := by
  refine MtV.of (by decide) (Nat.le_of_ble_eq_true rfl) ?_
  intro p e s m args below meth c Q A X hw hin hret ls hl
  have hx := X.1.1
  have hb := X.1.2.1
  have hl : lv_has ls 2 [(0, .ref (sa 0))] := hl
  obtain ⟨k0, r10, r11, r12, r13, r14, k1, n1, g1, k2, n2, k3, n3, k4, n4, fz⟩ := id hS
  refine lv_aload_n hx hb dX3_clear_0 rfl (lv_at hl 0 rfl) ?_
  refine lv_iconst (v := 0) hx hb dX3_clear_1 (by decide) ?_
  refine pf_X3_33 X hw k0 dX3_clear_2 (fun H locs hw => ?_)
  have hw : PX G A s.heap (ch S (up2 (pI S) 15 (sa 0) 0) (pJ S) (qI S) (qJ S)) H locs := hw
  refine lv_aload_n hx hb dX3_clear_5 rfl (lv_at hl 0 rfl) ?_
  refine gf_X3_12 (b := (fl sa 0 0)) X hw k0 r10 dX3_clear_6 ?_
  refine k_Vv (n := 0) X hw (rcvk (ci := 2) X hw (fz 0 (by decide)).1 (fun _ _ _ _ _ _ _ => ⟨_, rfl⟩) rfl) (c_v_X1_clear l G _ (fl sa 0) (fz 0 (by decide)) (fl_12 hd (by decide))) wd_r8_19 wd_r8_20 wd_r8_21 wd_r4_14 wd_r8_22 ⟨by decide, by decide, by decide +kernel⟩ rfl rfl ⟨Nat.le_of_ble_eq_true rfl, Nat.le_of_ble_eq_true rfl⟩ rfl rfl hl.1 (Nat.le_of_ble_eq_true rfl) dX3_clear_9 ⟨Nat.le_of_ble_eq_true rfl, Nat.le_of_ble_eq_true rfl⟩ (fun S9_2 H locs h9_1 hw => ?_)
  obtain ⟨q9_3, rfl, h9_1⟩ := h9_1
  have hw : PX G A s.heap (ch S (up2 (pI S) 15 (sa 0) 0) (pJ S) q9_3 (qJ S)) H locs := hw
  have FZ0 := Fil_0 hd h9_1
  have hfl := FZ0.1
  have hso := FZ0.2
  refine lv_iconst (v := 0) hx hb dX3_clear_12 (by decide) ?_
  refine lv_istore_n (lv' := [(1, .int 0), (0, .ref (sa 0))]) hx hb dX3_clear_13 rfl hl (by decide) rfl (fun ls hl => ?_)
  have lp14 : ∀ (N9 : Nat) (q14 : Nat → Nat → Int32) (i : Int32), (0 ≤ i.toInt ∧ i.toInt ≤ 4) → (Fil q14 sa (L1 i.toNatClampNeg)) → (seO (qI S) q14 sa) → (4 - i.toInt).toNat < N9 → ∀ (H : Heap) (locs : List Loc) (ls : Array Slot), PX G A s.heap (ch S (up2 (pI S) 15 (sa 0) 0) (pJ S) q14 (qJ S)) H locs → lv_has ls 2 [(1, .int i), (0, .ref (sa 0))] → W p l e (Rm 1 0 0) s m args below meth c H locs 0 0 Q (F0 m 14 ls []) := by
    intro N9
    induction N9 with
    | zero => intro q14 i hi hfl hso hm; exact absurd hm (Nat.not_lt_zero _)
    | succ N9 ih14 =>
      intro q14 i hi hfl hso hm H locs ls hw hl
      refine lv_iload_n hx hb dX3_clear_14 rfl (lv_at hl 0 rfl) ?_
      refine lv_iconst (v := 4) hx hb dX3_clear_15 (by decide) ?_
      refine lv_icmp_ge (tgt := 34) hx hb dX3_clear_16 (by decide) (fun c16_4 => ?_) (fun c16_4 => ?_)
      · have D16_4 := iLe c16_4 t_4 rfl
        refine lv_iconst (v := 0) hx hb dX3_clear_34 (by decide) ?_
        refine lv_istore_n (lv' := [(1, .int 0), (0, .ref (sa 0))]) hx hb dX3_clear_35 rfl hl (by decide) rfl (fun ls hl => ?_)
        have lp36 : ∀ (N9 : Nat) (q36 : Nat → Nat → Int32) (j : Int32), (0 ≤ j.toInt ∧ j.toInt ≤ 4) → (Fil q36 sa (L2 j.toNatClampNeg)) → (seO (qI S) q36 sa) → (4 - j.toInt).toNat < N9 → ∀ (H : Heap) (locs : List Loc) (ls : Array Slot), PX G A s.heap (ch S (up2 (pI S) 15 (sa 0) 0) (pJ S) q36 (qJ S)) H locs → lv_has ls 2 [(1, .int j), (0, .ref (sa 0))] → W p l e (Rm 1 0 0) s m args below meth c H locs 0 0 Q (F0 m 36 ls []) := by
          intro N9
          induction N9 with
          | zero => intro q36 j hi hfl hso hm; exact absurd hm (Nat.not_lt_zero _)
          | succ N9 ih36 =>
            intro q36 j hi hfl hso hm H locs ls hw hl
            refine lv_iload_n hx hb dX3_clear_36 rfl (lv_at hl 0 rfl) ?_
            refine lv_iconst (v := 4) hx hb dX3_clear_37 (by decide) ?_
            refine lv_icmp_ge (tgt := 54) hx hb dX3_clear_38 (by decide) (fun c38_5 => ?_) (fun c38_5 => ?_)
            · have D38_5 := iLe c38_5 t_4 rfl
              refine lv_iconst (v := 0) hx hb dX3_clear_54 (by decide) ?_
              refine lv_istore_n (lv' := [(1, .int 0), (0, .ref (sa 0))]) hx hb dX3_clear_55 rfl hl (by decide) rfl (fun ls hl => ?_)
              have lp56 : ∀ (N9 : Nat) (q56 : Nat → Nat → Int32) (k : Int32), (0 ≤ k.toInt ∧ k.toInt ≤ 64) → (Fil q56 sa (L3 k.toNatClampNeg)) → (seO (qI S) q56 sa) → (64 - k.toInt).toNat < N9 → ∀ (H : Heap) (locs : List Loc) (ls : Array Slot), PX G A s.heap (ch S (up2 (pI S) 15 (sa 0) 0) (pJ S) q56 (qJ S)) H locs → lv_has ls 2 [(1, .int k), (0, .ref (sa 0))] → W p l e (Rm 1 0 0) s m args below meth c H locs 0 0 Q (F0 m 56 ls []) := by
                intro N9
                induction N9 with
                | zero => intro q56 k hi hfl hso hm; exact absurd hm (Nat.not_lt_zero _)
                | succ N9 ih56 =>
                  intro q56 k hi hfl hso hm H locs ls hw hl
                  refine lv_iload_n hx hb dX3_clear_56 rfl (lv_at hl 0 rfl) ?_
                  refine lv_bipush (v := 64) hx hb dX3_clear_57 (by decide) ?_
                  refine lv_icmp_ge (tgt := 75) hx hb dX3_clear_59 (by decide) (fun c59_6 => ?_) (fun c59_6 => ?_)
                  · have D59_6 := iLe c59_6 t_64 rfl
                    refine lv_iconst (v := 0) hx hb dX3_clear_75 (by decide) ?_
                    refine lv_istore_n (lv' := [(1, .int 0), (0, .ref (sa 0))]) hx hb dX3_clear_76 rfl hl (by decide) rfl (fun ls hl => ?_)
                    have lp77 : ∀ (N9 : Nat) (q77 : Nat → Nat → Int32) (n : Int32), (0 ≤ n.toInt ∧ n.toInt ≤ 42) → (Fil q77 sa (L4 n.toNatClampNeg)) → (seO (qI S) q77 sa) → (42 - n.toInt).toNat < N9 → ∀ (H : Heap) (locs : List Loc) (ls : Array Slot), PX G A s.heap (ch S (up2 (pI S) 15 (sa 0) 0) (pJ S) q77 (qJ S)) H locs → lv_has ls 2 [(1, .int n), (0, .ref (sa 0))] → W p l e (Rm 1 0 0) s m args below meth c H locs 0 0 Q (F0 m 77 ls []) := by
                      intro N9
                      induction N9 with
                      | zero => intro q77 n hi hfl hso hm; exact absurd hm (Nat.not_lt_zero _)
                      | succ N9 ih77 =>
                        intro q77 n hi hfl hso hm H locs ls hw hl
                        refine lv_iload_n hx hb dX3_clear_77 rfl (lv_at hl 0 rfl) ?_
                        refine lv_aload_n hx hb dX3_clear_78 rfl (lv_at hl 1 rfl) ?_
                        refine gf_X3_30 (b := (sa 4)) X hw k0 r14 dX3_clear_79 ?_
                        refine q_lenI (v := 42) X hw k4 (by rw [show _ = 42 from n4]; decide) dX3_clear_82 ?_
                        refine lv_icmp_ge (tgt := 99) hx hb dX3_clear_83 (by decide) (fun c83_7 => ?_) (fun c83_7 => ?_)
                        · have D83_7 := iLe c83_7 t_42 rfl
                          exact hret _ _ _ _ _ ⟨_, _, rfl, rfl, Fil_4 hfl (by omega), hso⟩ hw dX3_clear_99
                        · have D83_7 := iNle c83_7 t_42 rfl
                          refine lv_aload_n hx hb dX3_clear_86 rfl (lv_at hl 1 rfl) ?_
                          refine gf_X3_30 (b := (sa 4)) X hw k0 r14 dX3_clear_87 ?_
                          refine lv_iload_n hx hb dX3_clear_90 rfl (lv_at hl 0 rfl) ?_
                          refine lv_iconst (v := -1) hx hb dX3_clear_91 (by decide) ?_
                          refine q_stI X hw k4 (vin n4 (by omega) (by omega)) dX3_clear_92 (fun H locs hw => ?_)
                          obtain ⟨q92_8, eq92_8, hw⟩ : ∃ zz9, zz9 = va_up q77 (sa 4) (upd (q77 (sa 4)) n.toNatClampNeg (-1)) ∧ PX G A s.heap (ch S (up2 (pI S) 15 (sa 0) 0) (pJ S) zz9 (qJ S)) H locs := ⟨_, rfl, hw⟩
                          have c92 := eq92_8
                          obtain ⟨v93_9, e93_9⟩ : ∃ y : Int32, y = n + 1 := ⟨_, rfl⟩
                          have t93_9 := iAdd e93_9 rfl t_1 (by omega) (by omega)
                          have t93 := t93_9
                          refine lv_iinc (v := v93_9) (lv' := [(1, .int v93_9), (0, .ref (sa 0))]) hx hb dX3_clear_93 hl (k := 0) rfl (by rw [e93_9]; rfl) (by decide) rfl (fun ls hl => ?_)
                          refine lv_goto (tgt := 77) hx hb dX3_clear_96 (by decide) ?_
                          exact ih77 q92_8 v93_9 (by omega) (Fil_s hfl hd (j := 4) (by decide) hi.1 t93 (by decide) c92 L4_k L4_k (fun _ _ h => L4_o h)).1 (hso.tr (Fil_s hfl hd (j := 4) (by decide) hi.1 t93 (by decide) c92 L4_k L4_k (fun _ _ h => L4_o h)).2) (by omega) _ _ _ hw (lv_sub hl [0, 1] rfl)
                    exact lp77 _ q56 0 (by have := t_0; omega) (Fil_34 hfl (by omega)) hso (Nat.lt_succ_self _) _ _ _ hw (lv_sub hl [0, 1] rfl)
                  · have D59_6 := iNle c59_6 t_64 rfl
                    refine lv_aload_n hx hb dX3_clear_62 rfl (lv_at hl 1 rfl) ?_
                    refine gf_X3_26 (b := (sa 3)) X hw k0 r13 dX3_clear_63 ?_
                    refine lv_iload_n hx hb dX3_clear_66 rfl (lv_at hl 0 rfl) ?_
                    refine lv_iconst (v := 0) hx hb dX3_clear_67 (by decide) ?_
                    refine q_stZ X hw k3 (vin n3 (by omega) (by omega)) dX3_clear_68 (fun H locs hw => ?_)
                    obtain ⟨q68_10, eq68_10, hw⟩ : ∃ zz9, zz9 = va_up q56 (sa 3) (upd (q56 (sa 3)) k.toNatClampNeg (vp_nar .boolean 0)) ∧ PX G A s.heap (ch S (up2 (pI S) 15 (sa 0) 0) (pJ S) zz9 (qJ S)) H locs := ⟨_, rfl, hw⟩
                    have c68 := eq68_10
                    obtain ⟨v69_11, e69_11⟩ : ∃ y : Int32, y = k + 1 := ⟨_, rfl⟩
                    have t69_11 := iAdd e69_11 rfl t_1 (by omega) (by omega)
                    have t69 := t69_11
                    refine lv_iinc (v := v69_11) (lv' := [(1, .int v69_11), (0, .ref (sa 0))]) hx hb dX3_clear_69 hl (k := 0) rfl (by rw [e69_11]; rfl) (by decide) rfl (fun ls hl => ?_)
                    refine lv_goto (tgt := 56) hx hb dX3_clear_72 (by decide) ?_
                    exact ih56 q68_10 v69_11 (by omega) (Fil_s hfl hd (j := 3) (by decide) hi.1 t69 (by decide) c68 L3_k L3_k (fun _ _ h => L3_o h)).1 (hso.tr (Fil_s hfl hd (j := 3) (by decide) hi.1 t69 (by decide) c68 L3_k L3_k (fun _ _ h => L3_o h)).2) (by omega) _ _ _ hw (lv_sub hl [0, 1] rfl)
              exact lp56 _ q36 0 (by have := t_0; omega) (Fil_23 hfl (by omega)) hso (Nat.lt_succ_self _) _ _ _ hw (lv_sub hl [0, 1] rfl)
            · have D38_5 := iNle c38_5 t_4 rfl
              refine lv_aload_n hx hb dX3_clear_41 rfl (lv_at hl 1 rfl) ?_
              refine gf_X3_22 (b := (sa 2)) X hw k0 r12 dX3_clear_42 ?_
              refine lv_iload_n hx hb dX3_clear_45 rfl (lv_at hl 0 rfl) ?_
              refine lv_iconst (v := -1) hx hb dX3_clear_46 (by decide) ?_
              refine q_stI X hw k2 (vin n2 (by omega) (by omega)) dX3_clear_47 (fun H locs hw => ?_)
              obtain ⟨q47_12, eq47_12, hw⟩ : ∃ zz9, zz9 = va_up q36 (sa 2) (upd (q36 (sa 2)) j.toNatClampNeg (-1)) ∧ PX G A s.heap (ch S (up2 (pI S) 15 (sa 0) 0) (pJ S) zz9 (qJ S)) H locs := ⟨_, rfl, hw⟩
              have c47 := eq47_12
              obtain ⟨v48_13, e48_13⟩ : ∃ y : Int32, y = j + 1 := ⟨_, rfl⟩
              have t48_13 := iAdd e48_13 rfl t_1 (by omega) (by omega)
              have t48 := t48_13
              refine lv_iinc (v := v48_13) (lv' := [(1, .int v48_13), (0, .ref (sa 0))]) hx hb dX3_clear_48 hl (k := 0) rfl (by rw [e48_13]; rfl) (by decide) rfl (fun ls hl => ?_)
              refine lv_goto (tgt := 36) hx hb dX3_clear_51 (by decide) ?_
              exact ih36 q47_12 v48_13 (by omega) (Fil_s hfl hd (j := 2) (by decide) hi.1 t48 (by decide) c47 L2_k L2_k (fun _ _ h => L2_o h)).1 (hso.tr (Fil_s hfl hd (j := 2) (by decide) hi.1 t48 (by decide) c47 L2_k L2_k (fun _ _ h => L2_o h)).2) (by omega) _ _ _ hw (lv_sub hl [0, 1] rfl)
        exact lp36 _ q14 0 (by have := t_0; omega) (Fil_12 hfl (by omega)) hso (Nat.lt_succ_self _) _ _ _ hw (lv_sub hl [0, 1] rfl)
      · have D16_4 := iNle c16_4 t_4 rfl
        refine lv_aload_n hx hb dX3_clear_19 rfl (lv_at hl 1 rfl) ?_
        refine gf_X3_18 (b := (sa 1)) X hw k0 r11 dX3_clear_20 ?_
        refine lv_iload_n hx hb dX3_clear_23 rfl (lv_at hl 0 rfl) ?_
        refine q_ldFlow (v := .ref (fl sa (i.toNatClampNeg + 1) 0)) X hw k1 (vin n1 (by omega) (by omega)) (congrArg va_rf (g1 i.toNatClampNeg (clt (by omega) (by omega)))) dX3_clear_24 ?_
        refine k_Vv (n := 0) X hw (rcvk (ci := 2) X hw (fz (i.toNatClampNeg + 1) (Nat.succ_lt_succ (clt (by omega) (by omega)))).1 (fun _ _ _ _ _ _ _ => ⟨_, rfl⟩) rfl) (c_v_X1_clear l G _ (fl sa (i.toNatClampNeg + 1))  (fz (i.toNatClampNeg + 1) (Nat.succ_lt_succ (clt (by omega) (by omega)))) (fl_12 hd (Nat.succ_lt_succ (clt (by omega) (by omega))))) wd_r8_19 wd_r8_20 wd_r8_21 wd_r4_14 wd_r8_22 ⟨by decide, by decide, by decide +kernel⟩ rfl rfl ⟨Nat.le_of_ble_eq_true rfl, Nat.le_of_ble_eq_true rfl⟩ rfl rfl hl.1 (Nat.le_of_ble_eq_true rfl) dX3_clear_25 ⟨Nat.le_of_ble_eq_true rfl, Nat.le_of_ble_eq_true rfl⟩ (fun S25_15 H locs h25_14 hw => ?_)
        obtain ⟨q25_16, rfl, h25_14⟩ := h25_14
        have hw : PX G A s.heap (ch S (up2 (pI S) 15 (sa 0) 0) (pJ S) q25_16 (qJ S)) H locs := hw
        have hcl := h25_14
        obtain ⟨v28_17, e28_17⟩ : ∃ y : Int32, y = i + 1 := ⟨_, rfl⟩
        have t28_17 := iAdd e28_17 rfl t_1 (by omega) (by omega)
        have t28 := t28_17
        refine lv_iinc (v := v28_17) (lv' := [(1, .int v28_17), (0, .ref (sa 0))]) hx hb dX3_clear_28 hl (k := 0) rfl (by rw [e28_17]; rfl) (by decide) rfl (fun ls hl => ?_)
        refine lv_goto (tgt := 14) hx hb dX3_clear_31 (by decide) ?_
        exact ih14 q25_16 v28_17 (by omega) (Fil_1 hfl hd hi.1 (by omega) t28 hcl).1 (hso.tr (Fil_1 hfl hd hi.1 (by omega) t28 hcl).2) (by omega) _ _ _ hw (lv_sub hl [0, 1] rfl)
  exact lp14 _ q9_3 0 (by have := t_0; omega) (by rw [show (0 : Int32).toNatClampNeg = 0 by decide]; exact hfl) hso (Nat.lt_succ_self _) _ _ _ hw (lv_sub hl [0, 1] rfl)
