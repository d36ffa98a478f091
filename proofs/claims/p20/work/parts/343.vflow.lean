
/-! ===== rows that change ===== -/
theorem up_s {q q' : Nat → Nat → Int32} {a : Nat} {r : Nat → Int32} (c : q' = va_up q a r) : q' a = r := by rw [c, vu_s]
theorem up_n {q q' : Nat → Nat → Int32} {a b : Nat} {r : Nat → Int32} (c : q' = va_up q a r) (h : b ≠ a) : q' b = q b := by rw [c, vu_n h]
theorem nb30_t : ∀ n, n < 61 → vp_nar .byte ((nI n - 30).toInt8.toInt32) = nI n - 30 ∧ vp_nar .byte (nI n - 30) = nI n - 30 := by decide +kernel
theorem nb30_x {x : Int32} (h : -30 ≤ x.toInt ∧ x.toInt ≤ 30) : ∃ n, n < 61 ∧ x = nI n - 30 := by
  refine ⟨(x.toInt + 30).toNat, by omega, ?_⟩
  apply Int32.toInt_inj.mp
  have h1 := nI_toInt (n := (x.toInt + 30).toNat) (by omega)
  have h2 := iSub (v := nI (x.toInt + 30).toNat - 30) rfl h1 t_30 (by omega) (by omega)
  omega
theorem nb30 {x : Int32} (h : -30 ≤ x.toInt ∧ x.toInt ≤ 30) : vp_nar .byte (x.toInt8.toInt32) = x := by
  obtain ⟨n, hn, rfl⟩ := nb30_x h; exact (nb30_t n hn).1
theorem nb30' {x : Int32} (h : -30 ≤ x.toInt ∧ x.toInt ≤ 30) : vp_nar .byte x = x := by
  obtain ⟨n, hn, rfl⟩ := nb30_x h; exact (nb30_t n hn).2
/-! ===== a flow's rows ===== -/
def oth (q q' : Nat → Nat → Int32) (fa : Nat → Nat) : Prop := ∀ a, a ≠ fa 1 → a ≠ fa 2 → a ≠ fa 3 → q' a = q a
def tfl (q q' : Nat → Nat → Int32) (fa : Nat → Nat) (h : Nat) (x y : Int32) : Prop := q' (fa 3) = upd (q (fa 3)) h 1 ∧ q' (fa 1) = upd (q (fa 1)) h x ∧ q' (fa 2) = upd (q (fa 2)) h y ∧ oth q q' fa
theorem tfl_of {q q1 q2 q3 : Nat → Nat → Int32} {fa : Nat → Nat} {h : Nat} {x y : Int32} (n12 : fa 1 ≠ fa 2) (n31 : fa 3 ≠ fa 1) (n32 : fa 3 ≠ fa 2) (c1 : q1 = va_up q (fa 3) (upd (q (fa 3)) h 1)) (c2 : q2 = va_up q1 (fa 1) (upd (q1 (fa 1)) h x)) (c3 : q3 = va_up q2 (fa 2) (upd (q2 (fa 2)) h y)) : tfl q q3 fa h x y := by
  refine ⟨by rw [up_n c3 n32, up_n c2 n31, up_s c1], ?_, ?_, fun a h1 h2 h3 => by rw [up_n c3 h2, up_n c2 h1, up_n c1 h3]⟩
  · rw [up_n c3 n12, up_s c2, up_n c1 n31.symm]
  · rw [up_s c3, up_n c2 n12.symm, up_n c1 n32.symm]
def clF (q q' : Nat → Nat → Int32) (fa : Nat → Nat) (k : Nat) : Prop := (∀ j, j < k → q' (fa 3) j = 0 ∧ q' (fa 1) j = 0 ∧ q' (fa 2) j = 0) ∧ oth q q' fa
theorem clF_0 {q : Nat → Nat → Int32} {fa : Nat → Nat} : clF q q fa 0 := ⟨fun j h => absurd h (Nat.not_lt_zero _), fun _ _ _ _ => rfl⟩
theorem upd_lt {r : Nat → Int32} {k j : Nat} {v w : Int32} (hw : v = w) (h : j < k → r j = w) (hj : j < k + 1) : upd r k v j = w := by
  by_cases e : j = k
  · rw [e, pk_us, hw]
  · rw [pk_un e]; exact h (by omega)
theorem clF_s {q q0 q1 q2 q3 : Nat → Nat → Int32} {fa : Nat → Nat} {h h' : Int32} (H : clF q q0 fa h.toNatClampNeg) (n12 : fa 1 ≠ fa 2) (n31 : fa 3 ≠ fa 1) (n32 : fa 3 ≠ fa 2) (h0 : 0 ≤ h.toInt) (th : h'.toInt = h.toInt + 1) (c1 : q1 = va_up q0 (fa 3) (upd (q0 (fa 3)) h.toNatClampNeg 0)) (c2 : q2 = va_up q1 (fa 1) (upd (q1 (fa 1)) h.toNatClampNeg 0)) (c3 : q3 = va_up q2 (fa 2) (upd (q2 (fa 2)) h.toNatClampNeg 0)) : clF q q3 fa h'.toNatClampNeg := by
  have e1 := cl_toInt h0
  have e2 := cl_toInt (x := h') (by omega)
  rw [show h'.toNatClampNeg = h.toNatClampNeg + 1 by omega]
  refine ⟨fun j hj => ⟨?_, ?_, ?_⟩, fun a a1 a2 a3 => ?_⟩
  · rw [up_n c3 n32, up_n c2 n31, up_s c1]; exact upd_lt rfl (fun q => (H.1 j q).1) hj
  · rw [up_n c3 n12, up_s c2, up_n c1 n31.symm]; exact upd_lt rfl (fun q => (H.1 j q).2.1) hj
  · rw [up_s c3, up_n c2 n12.symm, up_n c1 n32.symm]; exact upd_lt rfl (fun q => (H.1 j q).2.2) hj
  · rw [up_n c3 a2, up_n c2 a1, up_n c1 a3]; exact H.2 a a1 a2 a3
/-- a row of steps, its gaps filled from ahead -/
def sr (t x : Nat → Int32) : Nat → Int32
  | 0 => x 0
  | h + 1 => if t (h + 1) = 0 then sr t x h else x (h + 1)
theorem sr_rng {t x : Nat → Int32} {a b : Int} (h : ∀ j, j < 72 → a ≤ (x j).toInt ∧ (x j).toInt ≤ b) : ∀ j, j < 72 → a ≤ (sr t x j).toInt ∧ (sr t x j).toInt ≤ b
  | 0, _ => h 0 (by decide)
  | j + 1, hj => by
    rw [sr]; split
    · exact sr_rng h j (by omega)
    · exact h _ hj
def stF (q q' : Nat → Nat → Int32) (fa : Nat → Nat) (k : Nat) : Prop := q' (fa 3) = q (fa 3) ∧ (∀ j, j < 72 → q' (fa 1) j = if j < k then sr (q (fa 3)) (q (fa 1)) j else q (fa 1) j) ∧ (∀ j, j < 72 → q' (fa 2) j = if j < k then sr (q (fa 3)) (q (fa 2)) j else q (fa 2) j) ∧ oth q q' fa
theorem sr_1 {t x : Nat → Int32} {j : Nat} : x j = if j < 1 then sr t x j else x j := by
  by_cases e : j < 1
  · rw [if_pos e, show j = 0 by omega]; rfl
  · rw [if_neg e]
theorem stF_1 {q : Nat → Nat → Int32} {fa : Nat → Nat} : stF q q fa 1 := ⟨rfl, fun _ _ => sr_1, fun _ _ => sr_1, fun _ _ _ _ => rfl⟩
theorem sr_y {t x x' : Nat → Int32} {k : Nat} (H : ∀ j, j < 72 → x' j = if j < k + 1 then sr t x j else x j) (ht : ¬ t (k + 1) = 0) : ∀ j, j < 72 → x' j = if j < k + 2 then sr t x j else x j := fun j hj => by
  rw [H j hj]
  by_cases e : j < k + 1
  · rw [if_pos e, if_pos (by omega)]
  · rw [if_neg e]
    by_cases e2 : j = k + 1
    · rw [if_pos (by omega), e2, sr, if_neg ht]
    · rw [if_neg (by omega)]
theorem sr_n {t x x' : Nat → Int32} {k : Nat} (H : ∀ j, j < 72 → x' j = if j < k + 1 then sr t x j else x j) (ht : t (k + 1) = 0) (hk : k + 1 < 72) : ∀ j, j < 72 → upd x' (k + 1) (x' k) j = if j < k + 2 then sr t x j else x j := fun j hj => by
  by_cases e : j = k + 1
  · rw [e, pk_us, if_pos (by omega), sr, if_pos ht, H k (by omega), if_pos (by omega)]
  · rw [pk_un e, H j hj]
    by_cases e2 : j < k + 1
    · rw [if_pos e2, if_pos (by omega)]
    · rw [if_neg e2, if_neg (by omega)]
theorem stF_y {q q' : Nat → Nat → Int32} {fa : Nat → Nat} {h h' v : Int32} (H : stF q q' fa h.toNatClampNeg) (h1 : 1 ≤ h.toInt) (th : h'.toInt = h.toInt + 1) (ev : v = q' (fa 3) h.toNatClampNeg) (hv : ¬ v = 0) : stF q q' fa h'.toNatClampNeg := by
  have e1 := cl_toInt (x := h) (by omega)
  have e2 := cl_toInt (x := h') (by omega)
  obtain ⟨k, hk⟩ : ∃ k, h.toNatClampNeg = k + 1 := ⟨h.toNatClampNeg - 1, by omega⟩
  rw [H.1] at ev
  rw [hk] at H ev
  rw [show h'.toNatClampNeg = k + 2 by omega]
  exact ⟨H.1, sr_y H.2.1 (ev ▸ hv), sr_y H.2.2.1 (ev ▸ hv), H.2.2.2⟩
theorem stF_n {q q0 q1 q2 : Nat → Nat → Int32} {fa : Nat → Nat} {h h' v v1 v2 i1 i2 : Int32} (H : stF q q0 fa h.toNatClampNeg) (n12 : fa 1 ≠ fa 2) (n31 : fa 3 ≠ fa 1) (n32 : fa 3 ≠ fa 2) (h1 : 1 ≤ h.toInt) (h2 : h.toInt < 72) (th : h'.toInt = h.toInt + 1) (ev : v = q0 (fa 3) h.toNatClampNeg) (hv : v = 0) (hr : ∀ j, j < 72 → (-30 ≤ (q (fa 1) j).toInt ∧ (q (fa 1) j).toInt ≤ 30) ∧ (-30 ≤ (q (fa 2) j).toInt ∧ (q (fa 2) j).toInt ≤ 30)) (e1 : i1.toInt = h.toInt - 1) (e2 : i2.toInt = h.toInt - 1) (ev1 : v1 = q0 (fa 1) i1.toNatClampNeg) (c1 : q1 = va_up q0 (fa 1) (upd (q0 (fa 1)) h.toNatClampNeg (vp_nar .byte v1))) (ev2 : v2 = q1 (fa 2) i2.toNatClampNeg) (c2 : q2 = va_up q1 (fa 2) (upd (q1 (fa 2)) h.toNatClampNeg (vp_nar .byte v2))) : stF q q2 fa h'.toNatClampNeg := by
  have a1 := cl_toInt (x := h) (by omega)
  have a2 := cl_toInt (x := h') (by omega)
  have a3 := cl_toInt (x := i1) (by omega)
  have a4 := cl_toInt (x := i2) (by omega)
  obtain ⟨k, hk⟩ : ∃ k, h.toNatClampNeg = k + 1 := ⟨h.toNatClampNeg - 1, by omega⟩
  rw [show i1.toNatClampNeg = k by omega] at ev1
  rw [show i2.toNatClampNeg = k by omega, up_n c1 n12.symm] at ev2
  rw [H.1] at ev
  rw [hk] at H ev c1 c2
  rw [show h'.toNatClampNeg = k + 2 by omega]
  have b1 : vp_nar .byte v1 = q0 (fa 1) k := by
    rw [ev1]; apply nb30'
    rw [H.2.1 k (by omega), if_pos (by omega)]
    exact sr_rng (fun j hj => (hr j hj).1) k (by omega)
  have b2 : vp_nar .byte v2 = q0 (fa 2) k := by
    rw [ev2]; apply nb30'
    rw [H.2.2.1 k (by omega), if_pos (by omega)]
    exact sr_rng (fun j hj => (hr j hj).2) k (by omega)
  have t0 : q (fa 3) (k + 1) = 0 := ev ▸ hv
  refine ⟨by rw [up_n c2 n32, up_n c1 n31]; exact H.1, ?_, ?_, fun a x1 x2 x3 => by rw [up_n c2 x2, up_n c1 x1]; exact H.2.2.2 a x1 x2 x3⟩
  · rw [up_n c2 n12, up_s c1, b1]; exact sr_n H.2.1 t0 (by omega)
  · rw [up_s c2, b2, up_n c1 n12.symm]; exact sr_n H.2.2.1 t0 (by omega)
set_option maxHeartbeats 4000000 in
set_option maxRecDepth 100000 in
theorem c_v_X1_clear (l : Launch) (G : Gh) (S : Pl) (fa : Nat → Nat) (hf : shFlow S fa) (n12 : fa 1 ≠ fa 2) : MtV l yX1_clear cX1_clear 2 none (Rm 0 0 0) G [.ref (fa 0)] S (fun (S' : Pl) => ∃ q', ch S (pI S) (pJ S) q' (qJ S) = S' ∧ clF (qI S) q' fa 72) 0 0 := by
  refine MtV.of (by decide) (Nat.le_of_ble_eq_true rfl) ?_
  intro p e s m args below meth c Q A X hw hin hret ls hl
  have hx := X.1.1
  have hb := X.1.2.1
  have hl : lv_has ls 2 [(0, .ref (fa 0))] := hl
  obtain ⟨k0, r6, r7, r8, k1, n1, k2, n2, k3, n3⟩ := id hf
  have n31 := ne_kind k3 k1 (by decide)
  have n32 := ne_kind k3 k2 (by decide)
  refine lv_iconst (v := 0) hx hb dX1_clear_0 (by decide) ?_
  refine lv_istore_n (lv' := [(1, .int 0), (0, .ref (fa 0))]) hx hb dX1_clear_1 rfl hl (by decide) rfl (fun ls hl => ?_)
  have lp2 : ∀ (N9 : Nat) (q2 : Nat → Nat → Int32) (h : Int32), (0 ≤ h.toInt ∧ h.toInt ≤ 72) → (clF (qI S) q2 fa h.toNatClampNeg) → (72 - h.toInt).toNat < N9 → ∀ (H : Heap) (locs : List Loc) (ls : Array Slot), PX G A s.heap (ch S (pI S) (pJ S) q2 (qJ S)) H locs → lv_has ls 2 [(1, .int h), (0, .ref (fa 0))] → W p l e (Rm 0 0 0) s m args below meth c H locs 0 0 Q (F0 m 2 ls []) := by
    intro N9
    induction N9 with
    | zero => intro q2 h hi hc hm; exact absurd hm (Nat.not_lt_zero _)
    | succ N9 ih2 =>
      intro q2 h hi hc hm H locs ls hw hl
      refine lv_iload_n hx hb dX1_clear_2 rfl (lv_at hl 0 rfl) ?_
      refine lv_bipush (v := 72) hx hb dX1_clear_3 (by decide) ?_
      refine lv_icmp_ge (tgt := 35) hx hb dX1_clear_5 (by decide) (fun c5_1 => ?_) (fun c5_1 => ?_)
      · have D5_1 := iLe c5_1 t_72 rfl
        exact hret _ _ _ _ _ ⟨_, rfl, by have e := cl_toInt (x := h) (by omega); rw [show h.toNatClampNeg = 72 by omega] at hc; exact hc⟩ hw dX1_clear_35
      · have D5_1 := iNle c5_1 t_72 rfl
        refine lv_aload_n hx hb dX1_clear_8 rfl (lv_at hl 1 rfl) ?_
        refine gf_X1_18 (b := (fa 3)) X hw k0 r8 dX1_clear_9 ?_
        refine lv_iload_n hx hb dX1_clear_12 rfl (lv_at hl 0 rfl) ?_
        refine lv_iconst (v := 0) hx hb dX1_clear_13 (by decide) ?_
        refine q_stZ X hw k3 (vin n3 (by omega) (by omega)) dX1_clear_14 (fun H locs hw => ?_)
        obtain ⟨q14_2, eq14_2, hw⟩ : ∃ zz9, zz9 = va_up q2 (fa 3) (upd (q2 (fa 3)) h.toNatClampNeg (vp_nar .boolean 0)) ∧ PX G A s.heap (ch S (pI S) (pJ S) zz9 (qJ S)) H locs := ⟨_, rfl, hw⟩
        have c14 := eq14_2
        refine lv_aload_n hx hb dX1_clear_15 rfl (lv_at hl 1 rfl) ?_
        refine gf_X1_9 (b := (fa 1)) X hw k0 r6 dX1_clear_16 ?_
        refine lv_iload_n hx hb dX1_clear_19 rfl (lv_at hl 0 rfl) ?_
        refine lv_iconst (v := 0) hx hb dX1_clear_20 (by decide) ?_
        refine q_stB X hw k1 (vin n1 (by omega) (by omega)) dX1_clear_21 (fun H locs hw => ?_)
        obtain ⟨q21_3, eq21_3, hw⟩ : ∃ zz9, zz9 = va_up q14_2 (fa 1) (upd (q14_2 (fa 1)) h.toNatClampNeg (vp_nar .byte 0)) ∧ PX G A s.heap (ch S (pI S) (pJ S) zz9 (qJ S)) H locs := ⟨_, rfl, hw⟩
        have c21 := eq21_3
        refine lv_aload_n hx hb dX1_clear_22 rfl (lv_at hl 1 rfl) ?_
        refine gf_X1_15 (b := (fa 2)) X hw k0 r7 dX1_clear_23 ?_
        refine lv_iload_n hx hb dX1_clear_26 rfl (lv_at hl 0 rfl) ?_
        refine lv_iconst (v := 0) hx hb dX1_clear_27 (by decide) ?_
        refine q_stB X hw k2 (vin n2 (by omega) (by omega)) dX1_clear_28 (fun H locs hw => ?_)
        obtain ⟨q28_4, eq28_4, hw⟩ : ∃ zz9, zz9 = va_up q21_3 (fa 2) (upd (q21_3 (fa 2)) h.toNatClampNeg (vp_nar .byte 0)) ∧ PX G A s.heap (ch S (pI S) (pJ S) zz9 (qJ S)) H locs := ⟨_, rfl, hw⟩
        have c28 := eq28_4
        obtain ⟨v29_5, e29_5⟩ : ∃ y : Int32, y = h + 1 := ⟨_, rfl⟩
        have t29_5 := iAdd e29_5 rfl t_1 (by omega) (by omega)
        have t29 := t29_5
        refine lv_iinc (v := v29_5) (lv' := [(1, .int v29_5), (0, .ref (fa 0))]) hx hb dX1_clear_29 hl (k := 0) rfl (by rw [e29_5]; rfl) (by decide) rfl (fun ls hl => ?_)
        refine lv_goto (tgt := 2) hx hb dX1_clear_32 (by decide) ?_
        exact ih2 q28_4 v29_5 (by omega) (clF_s hc n12 n31 n32 hi.1 t29 c14 c21 c28) (by omega) _ _ _ hw (lv_sub hl [0, 1] rfl)
  exact lp2 _ (qI S) 0 (by have := t_0; omega) (by rw [show (0 : Int32).toNatClampNeg = 0 by decide]; exact clF_0) (Nat.lt_succ_self _) _ _ _ hw (lv_sub hl [0, 1] rfl)
set_option maxHeartbeats 4000000 in
set_option maxRecDepth 100000 in
theorem c_v_X1_isTold (l : Launch) (G : Gh) (S : Pl) (fa : Nat → Nat) (h : Int32) (hf : shFlow S fa) : MtI l yX1_isTold cX1_isTold 2 (some .boolean) (Rm 0 0 0) G [.ref (fa 0), .int h] S (fun (r : Int32) (S' : Pl) => (S = S' ∧ r = 1 ∧ (0 ≤ h.toInt ∧ h.toInt < 72 ∧ ¬ qI S (fa 3) h.toNatClampNeg = 0)) ∨ (S = S' ∧ r = 0 ∧ ¬ (0 ≤ h.toInt ∧ h.toInt < 72 ∧ ¬ qI S (fa 3) h.toNatClampNeg = 0))) 0 0 := by
  refine MtI.of (by decide) (Nat.le_of_ble_eq_true rfl) ?_
  intro p e s m args below meth c Q A X hw hin hret ls hl
  have hx := X.1.1
  have hb := X.1.2.1
  have hl : lv_has ls 2 [(0, .ref (fa 0)), (1, .int h)] := hl
  obtain ⟨k0, r6, r7, r8, k1, n1, k2, n2, k3, n3⟩ := id hf
  refine lv_iload_n hx hb dX1_isTold_0 rfl (lv_at hl 1 rfl) ?_
  refine lv_if_lt (tgt := 23) hx hb dX1_isTold_1 (by decide) (fun c1_1 => ?_) (fun c1_1 => ?_)
  · have D1_1 := iLt c1_1 rfl t_0
    refine lv_iconst (v := 0) hx hb dX1_isTold_23 (by decide) ?_
    exact hret 0 _ _ _ _ _ (Or.inr ⟨rfl, rfl, fun q => by first | (exact absurd q.1 (by omega)) | (exact absurd q.2.1 (by omega)) | (exact q.2.2 (by rw [← e15n]; assumption))⟩) hw rfl dX1_isTold_24
  · have D1_1 := iNlt c1_1 rfl t_0
    refine lv_iload_n hx hb dX1_isTold_4 rfl (lv_at hl 1 rfl) ?_
    refine lv_bipush (v := 72) hx hb dX1_isTold_5 (by decide) ?_
    refine lv_icmp_ge (tgt := 23) hx hb dX1_isTold_7 (by decide) (fun c7_2 => ?_) (fun c7_2 => ?_)
    · have D7_2 := iLe c7_2 t_72 rfl
      refine lv_iconst (v := 0) hx hb dX1_isTold_23 (by decide) ?_
      exact hret 0 _ _ _ _ _ (Or.inr ⟨rfl, rfl, fun q => by first | (exact absurd q.1 (by omega)) | (exact absurd q.2.1 (by omega)) | (exact q.2.2 (by rw [← e15n]; assumption))⟩) hw rfl dX1_isTold_24
    · have D7_2 := iNle c7_2 t_72 rfl
      refine lv_aload_n hx hb dX1_isTold_10 rfl (lv_at hl 0 rfl) ?_
      refine gf_X1_18 (b := (fa 3)) X hw k0 r8 dX1_isTold_11 ?_
      refine lv_iload_n hx hb dX1_isTold_14 rfl (lv_at hl 1 rfl) ?_
      refine q_ldZ X hw k3 (vin n3 (by omega) (by omega)) dX1_isTold_15 ?_
      refine lv_topi (fun v15_3 e15_3 => ?_)
      have e15_3 : v15_3 = (qI S) (fa 3) h.toNatClampNeg := e15_3
      have e15n := e15_3
      refine lv_if_eq (tgt := 23) hx hb dX1_isTold_16 (by decide) (fun c16_4 => ?_) (fun c16_4 => ?_)
      · have D16_4 := iEq c16_4 rfl t_0
        refine lv_iconst (v := 0) hx hb dX1_isTold_23 (by decide) ?_
        exact hret 0 _ _ _ _ _ (Or.inr ⟨rfl, rfl, fun q => by first | (exact absurd q.1 (by omega)) | (exact absurd q.2.1 (by omega)) | (exact q.2.2 (by rw [← e15n]; assumption))⟩) hw rfl dX1_isTold_24
      · have D16_4 := iNe c16_4 rfl t_0
        refine lv_iconst (v := 1) hx hb dX1_isTold_19 (by decide) ?_
        refine lv_goto (tgt := 24) hx hb dX1_isTold_20 (by decide) ?_
        exact hret 1 _ _ _ _ _ (Or.inl ⟨rfl, rfl, by omega, by omega, by rw [← e15n]; assumption⟩) hw rfl dX1_isTold_24
set_option maxHeartbeats 4000000 in
set_option maxRecDepth 100000 in
theorem c_v_X1_tell (l : Launch) (G : Gh) (S : Pl) (fa : Nat → Nat) (h x y : Int32) (hf : shFlow S fa) (n12 : fa 1 ≠ fa 2) (hh : 0 ≤ h.toInt ∧ h.toInt < 72) (hx0 : -30 ≤ x.toInt ∧ x.toInt ≤ 30) (hy0 : -30 ≤ y.toInt ∧ y.toInt ≤ 30) : MtV l yX1_tell cX1_tell 4 none (Rm 1 0 0) G [.ref (fa 0), .int h, .int x, .int y] S (fun (S' : Pl) => ∃ q', ch S (pI S) (pJ S) q' (qJ S) = S' ∧ tfl (qI S) q' fa h.toNatClampNeg x y) 0 0 := by
  refine MtV.of (by decide) (Nat.le_of_ble_eq_true rfl) ?_
  intro p e s m args below meth c Q A X hw hin hret ls hl
  have hx := X.1.1
  have hb := X.1.2.1
  have hl : lv_has ls 4 [(0, .ref (fa 0)), (1, .int h), (2, .int x), (3, .int y)] := hl
  obtain ⟨k0, r6, r7, r8, k1, n1, k2, n2, k3, n3⟩ := id hf
  have n31 := ne_kind k3 k1 (by decide)
  have n32 := ne_kind k3 k2 (by decide)
  refine lv_iload_n hx hb dX1_tell_0 rfl (lv_at hl 1 rfl) ?_
  refine k_SNi (n := 1) (host := RX10) X hw (c_X10_isHour l G _ h) (List.mem_of_getElem? (i := 8) rfl) wd_r17_3 wd_r1_2 wd_r17_4 ⟨by decide, by decide, by decide +kernel⟩ rfl rfl ⟨Nat.le_of_ble_eq_true rfl, Nat.le_of_ble_eq_true rfl⟩ rfl rfl hl.1 (Nat.le_of_ble_eq_true rfl) dX1_tell_1 ⟨Nat.le_of_ble_eq_true rfl, Nat.le_of_ble_eq_true rfl⟩ (fun r1_1 S1_3 H locs h1_2 hw => ?_)
  rcases h1_2 with ⟨rfl, rfl, h1_2⟩ | ⟨rfl, rfl, h1_2⟩
  · have h1_2 := h1_2
    refine lv_if_eq (tgt := 30) hx hb dX1_tell_4 (by decide) (fun c4_4 => absurd c4_4 (by decide)) (fun c4_4 => ?_)
    refine lv_aload_n hx hb dX1_tell_7 rfl (lv_at hl 0 rfl) ?_
    refine gf_X1_18 (b := (fa 3)) X hw k0 r8 dX1_tell_8 ?_
    refine lv_iload_n hx hb dX1_tell_11 rfl (lv_at hl 1 rfl) ?_
    refine lv_iconst (v := 1) hx hb dX1_tell_12 (by decide) ?_
    refine q_stZ X hw k3 (vin n3 (by omega) (by omega)) dX1_tell_13 (fun H locs hw => ?_)
    obtain ⟨q13_5, eq13_5, hw⟩ : ∃ zz9, zz9 = va_up (qI S) (fa 3) (upd ((qI S) (fa 3)) h.toNatClampNeg (vp_nar .boolean 1)) ∧ PX G A s.heap (ch S (pI S) (pJ S) zz9 (qJ S)) H locs := ⟨_, rfl, hw⟩
    have c13 := eq13_5
    refine lv_aload_n hx hb dX1_tell_14 rfl (lv_at hl 0 rfl) ?_
    refine gf_X1_9 (b := (fa 1)) X hw k0 r6 dX1_tell_15 ?_
    refine lv_iload_n hx hb dX1_tell_18 rfl (lv_at hl 1 rfl) ?_
    refine lv_iload_n hx hb dX1_tell_19 rfl (lv_at hl 2 rfl) ?_
    refine lv_i2b hx hb dX1_tell_20 rfl ?_
    refine lv_topi (fun v20_6 e20_6 => ?_)
    have e20n := e20_6
    refine q_stB X hw k1 (vin n1 (by omega) (by omega)) dX1_tell_21 (fun H locs hw => ?_)
    obtain ⟨q21_7, eq21_7, hw⟩ : ∃ zz9, zz9 = va_up q13_5 (fa 1) (upd (q13_5 (fa 1)) h.toNatClampNeg (vp_nar .byte v20_6)) ∧ PX G A s.heap (ch S (pI S) (pJ S) zz9 (qJ S)) H locs := ⟨_, rfl, hw⟩
    have c21 := eq21_7
    rw [e20n, nb30 hx0] at c21
    refine lv_aload_n hx hb dX1_tell_22 rfl (lv_at hl 0 rfl) ?_
    refine gf_X1_15 (b := (fa 2)) X hw k0 r7 dX1_tell_23 ?_
    refine lv_iload_n hx hb dX1_tell_26 rfl (lv_at hl 1 rfl) ?_
    refine lv_iload_n hx hb dX1_tell_27 rfl (lv_at hl 3 rfl) ?_
    refine lv_i2b hx hb dX1_tell_28 rfl ?_
    refine lv_topi (fun v28_8 e28_8 => ?_)
    have e28n := e28_8
    refine q_stB X hw k2 (vin n2 (by omega) (by omega)) dX1_tell_29 (fun H locs hw => ?_)
    obtain ⟨q29_9, eq29_9, hw⟩ : ∃ zz9, zz9 = va_up q21_7 (fa 2) (upd (q21_7 (fa 2)) h.toNatClampNeg (vp_nar .byte v28_8)) ∧ PX G A s.heap (ch S (pI S) (pJ S) zz9 (qJ S)) H locs := ⟨_, rfl, hw⟩
    have c29 := eq29_9
    rw [e28n, nb30 hy0] at c29
    exact hret _ _ _ _ _ ⟨_, rfl, by first | exact tfl_of n12 n31 n32 c13 c21 c29 | (exfalso; omega)⟩ hw dX1_tell_30
  · have h1_2 := h1_2
    refine lv_if_eq (tgt := 30) hx hb dX1_tell_4 (by decide) (fun c4_10 => ?_) (fun c4_10 => absurd c4_10 (by decide))
    exact hret _ _ _ _ _ ⟨_, rfl, by first | exact tfl_of n12 n31 n32 c13 c21 c29 | (exfalso; omega)⟩ hw dX1_tell_30
set_option maxHeartbeats 4000000 in
set_option maxRecDepth 100000 in
theorem c_v_X1_settle (l : Launch) (G : Gh) (S : Pl) (fa : Nat → Nat) (hf : shFlow S fa) (n12 : fa 1 ≠ fa 2) (hrg : ∀ j, j < 72 → (-30 ≤ (qI S (fa 1) j).toInt ∧ (qI S (fa 1) j).toInt ≤ 30) ∧ (-30 ≤ (qI S (fa 2) j).toInt ∧ (qI S (fa 2) j).toInt ≤ 30)) : MtV l yX1_settle cX1_settle 2 none (Rm 0 0 0) G [.ref (fa 0)] S (fun (S' : Pl) => ∃ q', ch S (pI S) (pJ S) q' (qJ S) = S' ∧ stF (qI S) q' fa 72) 0 0 := by
  refine MtV.of (by decide) (Nat.le_of_ble_eq_true rfl) ?_
  intro p e s m args below meth c Q A X hw hin hret ls hl
  have hx := X.1.1
  have hb := X.1.2.1
  have hl : lv_has ls 2 [(0, .ref (fa 0))] := hl
  obtain ⟨k0, r6, r7, r8, k1, n1, k2, n2, k3, n3⟩ := id hf
  have n31 := ne_kind k3 k1 (by decide)
  have n32 := ne_kind k3 k2 (by decide)
  refine lv_iconst (v := 1) hx hb dX1_settle_0 (by decide) ?_
  refine lv_istore_n (lv' := [(1, .int 1), (0, .ref (fa 0))]) hx hb dX1_settle_1 rfl hl (by decide) rfl (fun ls hl => ?_)
  have lp2 : ∀ (N9 : Nat) (q2 : Nat → Nat → Int32) (h : Int32), (1 ≤ h.toInt ∧ h.toInt ≤ 72) → (stF (qI S) q2 fa h.toNatClampNeg) → (72 - h.toInt).toNat < N9 → ∀ (H : Heap) (locs : List Loc) (ls : Array Slot), PX G A s.heap (ch S (pI S) (pJ S) q2 (qJ S)) H locs → lv_has ls 2 [(1, .int h), (0, .ref (fa 0))] → W p l e (Rm 0 0 0) s m args below meth c H locs 0 0 Q (F0 m 2 ls []) := by
    intro N9
    induction N9 with
    | zero => intro q2 h hi hc hm; exact absurd hm (Nat.not_lt_zero _)
    | succ N9 ih2 =>
      intro q2 h hi hc hm H locs ls hw hl
      refine lv_iload_n hx hb dX1_settle_2 rfl (lv_at hl 0 rfl) ?_
      refine lv_bipush (v := 72) hx hb dX1_settle_3 (by decide) ?_
      refine lv_icmp_ge (tgt := 51) hx hb dX1_settle_5 (by decide) (fun c5_1 => ?_) (fun c5_1 => ?_)
      · have D5_1 := iLe c5_1 t_72 rfl
        exact hret _ _ _ _ _ ⟨_, rfl, by have e := cl_toInt (x := h) (by omega); rw [show h.toNatClampNeg = 72 by omega] at hc; exact hc⟩ hw dX1_settle_51
      · have D5_1 := iNle c5_1 t_72 rfl
        refine lv_aload_n hx hb dX1_settle_8 rfl (lv_at hl 1 rfl) ?_
        refine gf_X1_18 (b := (fa 3)) X hw k0 r8 dX1_settle_9 ?_
        refine lv_iload_n hx hb dX1_settle_12 rfl (lv_at hl 0 rfl) ?_
        refine q_ldZ X hw k3 (vin n3 (by omega) (by omega)) dX1_settle_13 ?_
        refine lv_topi (fun v13_2 e13_2 => ?_)
        have e13_2 : v13_2 = q2 (fa 3) h.toNatClampNeg := e13_2
        have e13n := e13_2
        refine lv_if_ne (tgt := 45) hx hb dX1_settle_14 (by decide) (fun c14_3 => ?_) (fun c14_3 => ?_)
        · have D14_3 := iNe c14_3 rfl t_0
          obtain ⟨v45_4, e45_4⟩ : ∃ y : Int32, y = h + 1 := ⟨_, rfl⟩
          have t45_4 := iAdd e45_4 rfl t_1 (by omega) (by omega)
          have t45 := t45_4
          refine lv_iinc (v := v45_4) (lv' := [(1, .int v45_4), (0, .ref (fa 0))]) hx hb dX1_settle_45 hl (k := 0) rfl (by rw [e45_4]; rfl) (by decide) rfl (fun ls hl => ?_)
          refine lv_goto (tgt := 2) hx hb dX1_settle_48 (by decide) ?_
          exact ih2 q2 v45_4 (by omega) (by first | exact stF_y hc hi.1 t45 e13n (by assumption) | exact stF_n hc n12 n31 n32 hi.1 (by omega) t45 e13n (by assumption) hrg t28 t42 e29n c30 e43n c44) (by omega) _ _ _ hw (lv_sub hl [0, 1] rfl)
        · have D14_3 := iEq c14_3 rfl t_0
          refine lv_aload_n hx hb dX1_settle_17 rfl (lv_at hl 1 rfl) ?_
          refine gf_X1_9 (b := (fa 1)) X hw k0 r6 dX1_settle_18 ?_
          refine lv_iload_n hx hb dX1_settle_21 rfl (lv_at hl 0 rfl) ?_
          refine lv_aload_n hx hb dX1_settle_22 rfl (lv_at hl 1 rfl) ?_
          refine gf_X1_9 (b := (fa 1)) X hw k0 r6 dX1_settle_23 ?_
          refine lv_iload_n hx hb dX1_settle_26 rfl (lv_at hl 0 rfl) ?_
          refine lv_iconst (v := 1) hx hb dX1_settle_27 (by decide) ?_
          refine lv_isub hx hb dX1_settle_28 ?_
          refine lv_topi (fun v28_5 e28_5 => ?_)
          have t28_5 := iSub e28_5 rfl t_1 (by omega) (by omega)
          have t28 := t28_5
          refine q_ldB X hw k1 (vin n1 (by omega) (by omega)) dX1_settle_29 ?_
          refine lv_topi (fun v29_6 e29_6 => ?_)
          have e29_6 : v29_6 = q2 (fa 1) v28_5.toNatClampNeg := e29_6
          have e29n := e29_6
          refine q_stB X hw k1 (vin n1 (by omega) (by omega)) dX1_settle_30 (fun H locs hw => ?_)
          obtain ⟨q30_7, eq30_7, hw⟩ : ∃ zz9, zz9 = va_up q2 (fa 1) (upd (q2 (fa 1)) h.toNatClampNeg (vp_nar .byte v29_6)) ∧ PX G A s.heap (ch S (pI S) (pJ S) zz9 (qJ S)) H locs := ⟨_, rfl, hw⟩
          have c30 := eq30_7
          refine lv_aload_n hx hb dX1_settle_31 rfl (lv_at hl 1 rfl) ?_
          refine gf_X1_15 (b := (fa 2)) X hw k0 r7 dX1_settle_32 ?_
          refine lv_iload_n hx hb dX1_settle_35 rfl (lv_at hl 0 rfl) ?_
          refine lv_aload_n hx hb dX1_settle_36 rfl (lv_at hl 1 rfl) ?_
          refine gf_X1_15 (b := (fa 2)) X hw k0 r7 dX1_settle_37 ?_
          refine lv_iload_n hx hb dX1_settle_40 rfl (lv_at hl 0 rfl) ?_
          refine lv_iconst (v := 1) hx hb dX1_settle_41 (by decide) ?_
          refine lv_isub hx hb dX1_settle_42 ?_
          refine lv_topi (fun v42_8 e42_8 => ?_)
          have t42_8 := iSub e42_8 rfl t_1 (by omega) (by omega)
          have t42 := t42_8
          refine q_ldB X hw k2 (vin n2 (by omega) (by omega)) dX1_settle_43 ?_
          refine lv_topi (fun v43_9 e43_9 => ?_)
          have e43_9 : v43_9 = q30_7 (fa 2) v42_8.toNatClampNeg := e43_9
          have e43n := e43_9
          refine q_stB X hw k2 (vin n2 (by omega) (by omega)) dX1_settle_44 (fun H locs hw => ?_)
          obtain ⟨q44_10, eq44_10, hw⟩ : ∃ zz9, zz9 = va_up q30_7 (fa 2) (upd (q30_7 (fa 2)) h.toNatClampNeg (vp_nar .byte v43_9)) ∧ PX G A s.heap (ch S (pI S) (pJ S) zz9 (qJ S)) H locs := ⟨_, rfl, hw⟩
          have c44 := eq44_10
          obtain ⟨v45_11, e45_11⟩ : ∃ y : Int32, y = h + 1 := ⟨_, rfl⟩
          have t45_11 := iAdd e45_11 rfl t_1 (by omega) (by omega)
          have t45 := t45_11
          refine lv_iinc (v := v45_11) (lv' := [(1, .int v45_11), (0, .ref (fa 0))]) hx hb dX1_settle_45 hl (k := 0) rfl (by rw [e45_11]; rfl) (by decide) rfl (fun ls hl => ?_)
          refine lv_goto (tgt := 2) hx hb dX1_settle_48 (by decide) ?_
          exact ih2 q44_10 v45_11 (by omega) (by first | exact stF_y hc hi.1 t45 e13n (by assumption) | exact stF_n hc n12 n31 n32 hi.1 (by omega) t45 e13n (by assumption) hrg t28 t42 e29n c30 e43n c44) (by omega) _ _ _ hw (lv_sub hl [0, 1] rfl)
  exact lp2 _ (qI S) 1 (by have := t_1; omega) (by rw [show (1 : Int32).toNatClampNeg = 1 by decide]; exact stF_1) (Nat.lt_succ_self _) _ _ _ hw (lv_sub hl [0, 1] rfl)
set_option maxHeartbeats 4000000 in
set_option maxRecDepth 100000 in
theorem c_v_X1_stepIn (l : Launch) (G : Gh) (S : Pl) (fa : Nat → Nat) (h y : Int32) (hf : shFlow S fa) : MtI l yX1_stepIn cX1_stepIn 3 (some .int) (Rm 1 0 0) G [.ref (fa 0), .int h, .int y] S (fun (r : Int32) (S' : Pl) => S = S' ∧ r = (if 0 ≤ h.toInt ∧ h.toInt < 72 then (if y = 0 then qI S (fa 1) h.toNatClampNeg else qI S (fa 2) h.toNatClampNeg) else 0)) 0 0 := by
  refine MtI.of (by decide) (Nat.le_of_ble_eq_true rfl) ?_
  intro p e s m args below meth c Q A X hw hin hret ls hl
  have hx := X.1.1
  have hb := X.1.2.1
  have hl : lv_has ls 3 [(0, .ref (fa 0)), (1, .int h), (2, .int y)] := hl
  obtain ⟨k0, r6, r7, r8, k1, n1, k2, n2, k3, n3⟩ := id hf
  refine lv_iload_n hx hb dX1_stepIn_0 rfl (lv_at hl 1 rfl) ?_
  refine k_SNi (n := 1) (host := RX10) X hw (c_X10_isHour l G _ h) (List.mem_of_getElem? (i := 8) rfl) wd_r17_3 wd_r1_2 wd_r17_4 ⟨by decide, by decide, by decide +kernel⟩ rfl rfl ⟨Nat.le_of_ble_eq_true rfl, Nat.le_of_ble_eq_true rfl⟩ rfl rfl hl.1 (Nat.le_of_ble_eq_true rfl) dX1_stepIn_1 ⟨Nat.le_of_ble_eq_true rfl, Nat.le_of_ble_eq_true rfl⟩ (fun r1_1 S1_3 H locs h1_2 hw => ?_)
  rcases h1_2 with ⟨rfl, rfl, h1_2⟩ | ⟨rfl, rfl, h1_2⟩
  · have h1_2 := h1_2
    refine lv_if_ne (tgt := 9) hx hb dX1_stepIn_4 (by decide) (fun c4_4 => ?_) (fun c4_4 => absurd c4_4 (by decide))
    refine lv_iload_n hx hb dX1_stepIn_9 rfl (lv_at hl 2 rfl) ?_
    refine lv_if_eq (tgt := 22) hx hb dX1_stepIn_10 (by decide) (fun c10_5 => ?_) (fun c10_5 => ?_)
    · have D10_5 := iEq c10_5 rfl t_0
      refine lv_aload_n hx hb dX1_stepIn_22 rfl (lv_at hl 0 rfl) ?_
      refine gf_X1_9 (b := (fa 1)) X hw k0 r6 dX1_stepIn_23 ?_
      refine lv_iload_n hx hb dX1_stepIn_26 rfl (lv_at hl 1 rfl) ?_
      refine q_ldB X hw k1 (vin n1 (by omega) (by omega)) dX1_stepIn_27 ?_
      refine lv_topi (fun v27_6 e27_6 => ?_)
      have e27_6 : v27_6 = (qI S) (fa 1) h.toNatClampNeg := e27_6
      have e27n := e27_6
      exact hret v27_6 _ _ _ _ _ ⟨rfl, by rw [if_pos (by omega)]; first | (rw [if_neg (by assumption)]; assumption) | (rw [if_pos (by assumption)]; assumption)⟩ hw rfl dX1_stepIn_28
    · have D10_5 := iNe c10_5 rfl t_0
      refine lv_aload_n hx hb dX1_stepIn_13 rfl (lv_at hl 0 rfl) ?_
      refine gf_X1_15 (b := (fa 2)) X hw k0 r7 dX1_stepIn_14 ?_
      refine lv_iload_n hx hb dX1_stepIn_17 rfl (lv_at hl 1 rfl) ?_
      refine q_ldB X hw k2 (vin n2 (by omega) (by omega)) dX1_stepIn_18 ?_
      refine lv_topi (fun v18_7 e18_7 => ?_)
      have e18_7 : v18_7 = (qI S) (fa 2) h.toNatClampNeg := e18_7
      have e18n := e18_7
      refine lv_goto (tgt := 28) hx hb dX1_stepIn_19 (by decide) ?_
      exact hret v18_7 _ _ _ _ _ ⟨rfl, by rw [if_pos (by omega)]; first | (rw [if_neg (by assumption)]; assumption) | (rw [if_pos (by assumption)]; assumption)⟩ hw rfl dX1_stepIn_28
  · have h1_2 := h1_2
    refine lv_if_ne (tgt := 9) hx hb dX1_stepIn_4 (by decide) (fun c4_8 => absurd c4_8 (by decide)) (fun c4_8 => ?_)
    refine lv_iconst (v := 0) hx hb dX1_stepIn_7 (by decide) ?_
    exact hret 0 _ _ _ _ _ ⟨rfl, by rw [if_neg (by omega)]⟩ hw rfl dX1_stepIn_8
