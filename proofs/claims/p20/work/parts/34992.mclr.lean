
/-! ===== the model's bank, cleared ===== -/
def clR (r : Nat → Int32) (a k : Nat) (v : Int32) : Prop := ∀ j, j < k → r (a + j) = v
theorem clR_s {r : Nat → Int32} {a i : Nat} {k k' v : Int32} (h : clR r a k.toNatClampNeg v) (h0 : 0 ≤ k.toInt) (tk : k'.toInt = k.toInt + 1) (hi : i = a + k.toNatClampNeg) : clR (upd r i v) a k'.toNatClampNeg v := fun j hj => by
  have e1 := cl_toInt h0
  have e2 := cl_toInt (x := k') (by omega)
  by_cases e : j = k.toNatClampNeg
  · rw [e, ← hi, pk_us]
  · rw [pk_un (by omega)]; exact h j (by omega)
theorem clR_k {r r' : Nat → Int32} {a k : Nat} {v : Int32} (e : r' = r) (h : clR r a k v) : clR r' a k v := by rw [e]; exact h
theorem clR_0 {r : Nat → Int32} {a : Nat} {v : Int32} : clR r a 0 v := fun j h => absurd h (Nat.not_lt_zero _)
def CLs (q : Nat → Nat → Int32) (ma : Nat → Nat) (b n13 n15 n17 n18 n19 : Nat) : Prop := clR (q (ma 13)) (72 * b) n13 (-100) ∧ clR (q (ma 15)) (288 * b) n15 (-100) ∧ clR (q (ma 17)) (4 * b) n17 3 ∧ clR (q (ma 20)) (4 * b) n17 0 ∧ clR (q (ma 18)) (42 * b) n18 (-100) ∧ clR (q (ma 19)) (64 * b) n19 0
section CLS
variable {q q1 q2 : Nat → Nat → Int32} {ma : Nat → Nat} {b i n13 n15 n17 n18 n19 : Nat} {S : Pl} {k k' : Int32}
theorem CLs_0 : CLs q ma b 0 0 0 0 0 := ⟨clR_0, clR_0, clR_0, clR_0, clR_0, clR_0⟩
theorem CLs_13 (h : CLs q ma b k.toNatClampNeg n15 n17 n18 n19) (hM : shMod S ma) (h0 : 0 ≤ k.toInt) (tk : k'.toInt = k.toInt + 1) (hi : i = 72 * b + k.toNatClampNeg) (c1 : q1 = va_up q (ma 13) (upd (q (ma 13)) i (-100))) : CLs q1 ma b k'.toNatClampNeg n15 n17 n18 n19 := by
  have kp : ∀ j, j ≤ 45 → j ≠ 13 → q1 (ma j) = q (ma j) := fun j hj hn => row_keep hM c1 hj (by decide) hn
  exact ⟨by rw [up_s c1]; exact clR_s h.1 h0 tk hi, clR_k (kp 15 (by decide) (by decide)) h.2.1, clR_k (kp 17 (by decide) (by decide)) h.2.2.1, clR_k (kp 20 (by decide) (by decide)) h.2.2.2.1, clR_k (kp 18 (by decide) (by decide)) h.2.2.2.2.1, clR_k (kp 19 (by decide) (by decide)) h.2.2.2.2.2⟩
theorem CLs_15 (h : CLs q ma b n13 k.toNatClampNeg n17 n18 n19) (hM : shMod S ma) (h0 : 0 ≤ k.toInt) (tk : k'.toInt = k.toInt + 1) (hi : i = 288 * b + k.toNatClampNeg) (c1 : q1 = va_up q (ma 15) (upd (q (ma 15)) i (-100))) : CLs q1 ma b n13 k'.toNatClampNeg n17 n18 n19 := by
  have kp : ∀ j, j ≤ 45 → j ≠ 15 → q1 (ma j) = q (ma j) := fun j hj hn => row_keep hM c1 hj (by decide) hn
  exact ⟨clR_k (kp 13 (by decide) (by decide)) h.1, by rw [up_s c1]; exact clR_s h.2.1 h0 tk hi, clR_k (kp 17 (by decide) (by decide)) h.2.2.1, clR_k (kp 20 (by decide) (by decide)) h.2.2.2.1, clR_k (kp 18 (by decide) (by decide)) h.2.2.2.2.1, clR_k (kp 19 (by decide) (by decide)) h.2.2.2.2.2⟩
theorem CLs_17 (h : CLs q ma b n13 n15 k.toNatClampNeg n18 n19) (hM : shMod S ma) (h0 : 0 ≤ k.toInt) (tk : k'.toInt = k.toInt + 1) {i2 : Nat} (hi : i = 4 * b + k.toNatClampNeg) (hi2 : i2 = 4 * b + k.toNatClampNeg) (c1 : q1 = va_up q (ma 17) (upd (q (ma 17)) i 3)) (c2 : q2 = va_up q1 (ma 20) (upd (q1 (ma 20)) i2 0)) : CLs q2 ma b n13 n15 k'.toNatClampNeg n18 n19 := by
  have kp : ∀ j, j ≤ 45 → j ≠ 17 → j ≠ 20 → q2 (ma j) = q (ma j) := fun j hj n1 n2 => by rw [row_keep hM c2 hj (by decide) n2, row_keep hM c1 hj (by decide) n1]
  refine ⟨clR_k (kp 13 (by decide) (by decide) (by decide)) h.1, clR_k (kp 15 (by decide) (by decide) (by decide)) h.2.1, ?_, ?_, clR_k (kp 18 (by decide) (by decide) (by decide)) h.2.2.2.2.1, clR_k (kp 19 (by decide) (by decide) (by decide)) h.2.2.2.2.2⟩
  · rw [row_keep hM c2 (i := 17) (by decide) (by decide) (by decide), up_s c1]; exact clR_s h.2.2.1 h0 tk hi
  · rw [up_s c2, row_keep hM c1 (i := 20) (by decide) (by decide) (by decide)]; exact clR_s h.2.2.2.1 h0 tk hi2
theorem CLs_18 (h : CLs q ma b n13 n15 n17 k.toNatClampNeg n19) (hM : shMod S ma) (h0 : 0 ≤ k.toInt) (tk : k'.toInt = k.toInt + 1) (hi : i = 42 * b + k.toNatClampNeg) (c1 : q1 = va_up q (ma 18) (upd (q (ma 18)) i (-100))) : CLs q1 ma b n13 n15 n17 k'.toNatClampNeg n19 := by
  have kp : ∀ j, j ≤ 45 → j ≠ 18 → q1 (ma j) = q (ma j) := fun j hj hn => row_keep hM c1 hj (by decide) hn
  exact ⟨clR_k (kp 13 (by decide) (by decide)) h.1, clR_k (kp 15 (by decide) (by decide)) h.2.1, clR_k (kp 17 (by decide) (by decide)) h.2.2.1, clR_k (kp 20 (by decide) (by decide)) h.2.2.2.1, by rw [up_s c1]; exact clR_s h.2.2.2.2.1 h0 tk hi, clR_k (kp 19 (by decide) (by decide)) h.2.2.2.2.2⟩
theorem CLs_19 (h : CLs q ma b n13 n15 n17 n18 k.toNatClampNeg) (hM : shMod S ma) (h0 : 0 ≤ k.toInt) (tk : k'.toInt = k.toInt + 1) (hi : i = 64 * b + k.toNatClampNeg) (c1 : q1 = va_up q (ma 19) (upd (q (ma 19)) i 0)) : CLs q1 ma b n13 n15 n17 n18 k'.toNatClampNeg := by
  have kp : ∀ j, j ≤ 45 → j ≠ 19 → q1 (ma j) = q (ma j) := fun j hj hn => row_keep hM c1 hj (by decide) hn
  exact ⟨clR_k (kp 13 (by decide) (by decide)) h.1, clR_k (kp 15 (by decide) (by decide)) h.2.1, clR_k (kp 17 (by decide) (by decide)) h.2.2.1, clR_k (kp 20 (by decide) (by decide)) h.2.2.2.1, clR_k (kp 18 (by decide) (by decide)) h.2.2.2.2.1, by rw [up_s c1]; exact clR_s h.2.2.2.2.2 h0 tk hi⟩
theorem MBk_0 (h : CLs q ma b 72 288 4 42 64) : MBk q ma b sv0.2 := by
  have z : ∀ j x, j ≠ 2 → j ≠ 4 → sv0.2 j x = 0 := fun j x h1 h2 => if_neg (by omega)
  refine ⟨fun x hx => ⟨fun _ => h.1 x hx, fun n => absurd (z 13 x (by decide) (by decide)) n⟩, fun a ha x hx => ⟨fun _ => ?_, fun n => absurd (z _ x (by omega) (by omega)) n⟩, fun x hx => ⟨fun _ => ⟨h.2.2.1 x hx, h.2.2.2.1 x hx⟩, fun n => absurd rfl n⟩, fun x hx => ?_, fun x hx => ⟨fun _ => h.2.2.2.2.1 x hx, fun n => absurd rfl n⟩⟩
  · rw [show 72 * (4 * b + a) + x = 288 * b + (72 * a + x) by omega]; exact h.2.1 _ (by omega)
  · rw [z 3 x (by decide) (by decide)]; exact h.2.2.2.2.2 x hx
end CLS
set_option maxHeartbeats 4000000 in
set_option maxRecDepth 100000 in
theorem c_v_X11_clear (l : Launch) (G : Gh) (S : Pl) (ma : Nat → Nat) (b : Int32) (bb : Nat) (hM : shMod S ma) (hb0 : b.toInt = (bb : Int)) (hb1 : bb ≤ 1) (hms : MsOK (qI S (ma 18))) : MtV l yX11_clear cX11_clear 3 none (Rm 0 0 0) G [.ref (ma 0), .int b] S (fun (S' : Pl) => ∃ q', ch S (pI S) (pJ S) q' (qJ S) = S' ∧ FrQ 12 ma (qI S) q' ∧ KeepB (qI S) q' ma bb ∧ (q' (ma 12) bb).toInt = 0 ∧ MsOK (q' (ma 18)) ∧ MBk q' ma bb sv0.2) 0 0 := by
  refine MtV.of (by decide) (Nat.le_of_ble_eq_true rfl) ?_
  intro p e s m args below meth c Q A X hw hin hret ls hl
  have hx := X.1.1
  have hb := X.1.2.1
  have hl : lv_has ls 3 [(0, .ref (ma 0)), (1, .int b)] := hl
  have hbc := cl_toInt (x := b) (by omega)
  have hbn : b.toNatClampNeg = bb := by omega
  refine lv_aload_n hx hb dX11_clear_0 rfl (lv_at hl 0 rfl) ?_
  refine gf_X11_61 (b := (ma 12)) X hw hM.1 (mr_12 hM) dX11_clear_1 ?_
  refine lv_iload_n hx hb dX11_clear_4 rfl (lv_at hl 1 rfl) ?_
  refine lv_iconst (v := 0) hx hb dX11_clear_5 (by decide) ?_
  refine q_stI X hw (mk_12 hM) (vin (mn_12 hM) (by omega) (by omega)) dX11_clear_6 (fun H locs hw => ?_)
  obtain ⟨q6_1, eq6_1, hw⟩ : ∃ zz9, zz9 = va_up (qI S) (ma 12) (upd ((qI S) (ma 12)) b.toNatClampNeg 0) ∧ PX G A s.heap (ch S (pI S) (pJ S) zz9 (qJ S)) H locs := ⟨_, rfl, hw⟩
  have c6 := eq6_1
  have h12 : (q6_1 (ma 12) bb).toInt = 0 := by rw [c6, vu_s, hbn, pk_us]; decide
  have hms1 : MsOK (q6_1 (ma 18)) := by rw [row_keep hM c6 (i := 18) (by decide) (by decide) (by decide)]; exact hms
  have hKB : KeepB (qI S) q6_1 ma bb := KeepB.r12 hM c6 hbn
  refine lv_iconst (v := 0) hx hb dX11_clear_7 (by decide) ?_
  refine lv_istore_n (lv' := [(2, .int 0), (0, .ref (ma 0)), (1, .int b)]) hx hb dX11_clear_8 rfl hl (by decide) rfl (fun ls hl => ?_)
  have lp9 : ∀ (N9 : Nat) (q9 : Nat → Nat → Int32) (k : Int32), (FrQ 12 ma (qI S) q9) → ((q9 (ma 12) bb).toInt = 0) → (0 ≤ k.toInt ∧ k.toInt ≤ 72) → (MsOK (q9 (ma 18))) → (KeepB (qI S) q9 ma bb) → (CLs q9 ma bb k.toNatClampNeg 0 0 0 0) → (72 - k.toInt).toNat < N9 → ∀ (H : Heap) (locs : List Loc) (ls : Array Slot), PX G A s.heap (ch S (pI S) (pJ S) q9 (qJ S)) H locs → lv_has ls 3 [(2, .int k), (0, .ref (ma 0)), (1, .int b)] → W p l e (Rm 0 0 0) s m args below meth c H locs 0 0 Q (F0 m 9 ls []) := by
    intro N9
    induction N9 with
    | zero => intro q9 k hY h12 hi hms1 hKB hCL hm; exact absurd hm (Nat.not_lt_zero _)
    | succ N9 ih9 =>
      intro q9 k hY h12 hi hms1 hKB hCL hm H locs ls hw hl
      refine lv_iload_n hx hb dX11_clear_9 rfl (lv_at hl 0 rfl) ?_
      refine lv_bipush (v := 72) hx hb dX11_clear_10 (by decide) ?_
      refine lv_icmp_ge (tgt := 34) hx hb dX11_clear_12 (by decide) (fun c12_2 => ?_) (fun c12_2 => ?_)
      · have D12_2 := iLe c12_2 t_72 rfl
        have e34 : k.toNatClampNeg = 72 := by have := cl_toInt (x := k) (by omega); omega
        refine lv_iconst (v := 0) hx hb dX11_clear_34 (by decide) ?_
        refine lv_istore_n (lv' := [(2, .int 0), (0, .ref (ma 0)), (1, .int b)]) hx hb dX11_clear_35 rfl hl (by decide) rfl (fun ls hl => ?_)
        have lp36 : ∀ (N9 : Nat) (q36 : Nat → Nat → Int32) (k : Int32), (FrQ 12 ma (qI S) q36) → ((q36 (ma 12) bb).toInt = 0) → (0 ≤ k.toInt ∧ k.toInt ≤ 288) → (MsOK (q36 (ma 18))) → (KeepB (qI S) q36 ma bb) → (CLs q36 ma bb 72 k.toNatClampNeg 0 0 0) → (288 - k.toInt).toNat < N9 → ∀ (H : Heap) (locs : List Loc) (ls : Array Slot), PX G A s.heap (ch S (pI S) (pJ S) q36 (qJ S)) H locs → lv_has ls 3 [(2, .int k), (0, .ref (ma 0)), (1, .int b)] → W p l e (Rm 0 0 0) s m args below meth c H locs 0 0 Q (F0 m 36 ls []) := by
          intro N9
          induction N9 with
          | zero => intro q36 k hY h12 hi hms1 hKB hCL hm; exact absurd hm (Nat.not_lt_zero _)
          | succ N9 ih36 =>
            intro q36 k hY h12 hi hms1 hKB hCL hm H locs ls hw hl
            refine lv_iload_n hx hb dX11_clear_36 rfl (lv_at hl 0 rfl) ?_
            refine lv_sipush (v := 288) hx hb dX11_clear_37 (by decide) ?_
            refine lv_icmp_ge (tgt := 63) hx hb dX11_clear_40 (by decide) (fun c40_3 => ?_) (fun c40_3 => ?_)
            · have D40_3 := iLe c40_3 t_288 rfl
              have e63 : k.toNatClampNeg = 288 := by have := cl_toInt (x := k) (by omega); omega
              refine lv_iconst (v := 0) hx hb dX11_clear_63 (by decide) ?_
              refine lv_istore_n (lv' := [(2, .int 0), (0, .ref (ma 0)), (1, .int b)]) hx hb dX11_clear_64 rfl hl (by decide) rfl (fun ls hl => ?_)
              have lp65 : ∀ (N9 : Nat) (q65 : Nat → Nat → Int32) (k : Int32), (FrQ 12 ma (qI S) q65) → ((q65 (ma 12) bb).toInt = 0) → (0 ≤ k.toInt ∧ k.toInt ≤ 4) → (MsOK (q65 (ma 18))) → (KeepB (qI S) q65 ma bb) → (CLs q65 ma bb 72 288 k.toNatClampNeg 0 0) → (4 - k.toInt).toNat < N9 → ∀ (H : Heap) (locs : List Loc) (ls : Array Slot), PX G A s.heap (ch S (pI S) (pJ S) q65 (qJ S)) H locs → lv_has ls 3 [(2, .int k), (0, .ref (ma 0)), (1, .int b)] → W p l e (Rm 0 0 0) s m args below meth c H locs 0 0 Q (F0 m 65 ls []) := by
                intro N9
                induction N9 with
                | zero => intro q65 k hY h12 hi hms1 hKB hCL hm; exact absurd hm (Nat.not_lt_zero _)
                | succ N9 ih65 =>
                  intro q65 k hY h12 hi hms1 hKB hCL hm H locs ls hw hl
                  refine lv_iload_n hx hb dX11_clear_65 rfl (lv_at hl 0 rfl) ?_
                  refine lv_iconst (v := 4) hx hb dX11_clear_66 (by decide) ?_
                  refine lv_icmp_ge (tgt := 98) hx hb dX11_clear_67 (by decide) (fun c67_4 => ?_) (fun c67_4 => ?_)
                  · have D67_4 := iLe c67_4 t_4 rfl
                    have e98 : k.toNatClampNeg = 4 := by have := cl_toInt (x := k) (by omega); omega
                    refine lv_iconst (v := 0) hx hb dX11_clear_98 (by decide) ?_
                    refine lv_istore_n (lv' := [(2, .int 0), (0, .ref (ma 0)), (1, .int b)]) hx hb dX11_clear_99 rfl hl (by decide) rfl (fun ls hl => ?_)
                    have lp100 : ∀ (N9 : Nat) (q100 : Nat → Nat → Int32) (k : Int32), (FrQ 12 ma (qI S) q100) → ((q100 (ma 12) bb).toInt = 0) → (0 ≤ k.toInt ∧ k.toInt ≤ 42) → (MsOK (q100 (ma 18))) → (KeepB (qI S) q100 ma bb) → (CLs q100 ma bb 72 288 4 k.toNatClampNeg 0) → (42 - k.toInt).toNat < N9 → ∀ (H : Heap) (locs : List Loc) (ls : Array Slot), PX G A s.heap (ch S (pI S) (pJ S) q100 (qJ S)) H locs → lv_has ls 3 [(2, .int k), (0, .ref (ma 0)), (1, .int b)] → W p l e (Rm 0 0 0) s m args below meth c H locs 0 0 Q (F0 m 100 ls []) := by
                      intro N9
                      induction N9 with
                      | zero => intro q100 k hY h12 hi hms1 hKB hCL hm; exact absurd hm (Nat.not_lt_zero _)
                      | succ N9 ih100 =>
                        intro q100 k hY h12 hi hms1 hKB hCL hm H locs ls hw hl
                        refine lv_iload_n hx hb dX11_clear_100 rfl (lv_at hl 0 rfl) ?_
                        refine lv_bipush (v := 42) hx hb dX11_clear_101 (by decide) ?_
                        refine lv_icmp_ge (tgt := 125) hx hb dX11_clear_103 (by decide) (fun c103_5 => ?_) (fun c103_5 => ?_)
                        · have D103_5 := iLe c103_5 t_42 rfl
                          have e125 : k.toNatClampNeg = 42 := by have := cl_toInt (x := k) (by omega); omega
                          refine lv_iconst (v := 0) hx hb dX11_clear_125 (by decide) ?_
                          refine lv_istore_n (lv' := [(2, .int 0), (0, .ref (ma 0)), (1, .int b)]) hx hb dX11_clear_126 rfl hl (by decide) rfl (fun ls hl => ?_)
                          have lp127 : ∀ (N9 : Nat) (q127 : Nat → Nat → Int32) (k : Int32), (FrQ 12 ma (qI S) q127) → ((q127 (ma 12) bb).toInt = 0) → (0 ≤ k.toInt ∧ k.toInt ≤ 64) → (MsOK (q127 (ma 18))) → (KeepB (qI S) q127 ma bb) → (CLs q127 ma bb 72 288 4 42 k.toNatClampNeg) → (64 - k.toInt).toNat < N9 → ∀ (H : Heap) (locs : List Loc) (ls : Array Slot), PX G A s.heap (ch S (pI S) (pJ S) q127 (qJ S)) H locs → lv_has ls 3 [(2, .int k), (0, .ref (ma 0)), (1, .int b)] → W p l e (Rm 0 0 0) s m args below meth c H locs 0 0 Q (F0 m 127 ls []) := by
                            intro N9
                            induction N9 with
                            | zero => intro q127 k hY h12 hi hms1 hKB hCL hm; exact absurd hm (Nat.not_lt_zero _)
                            | succ N9 ih127 =>
                              intro q127 k hY h12 hi hms1 hKB hCL hm H locs ls hw hl
                              refine lv_iload_n hx hb dX11_clear_127 rfl (lv_at hl 0 rfl) ?_
                              refine lv_bipush (v := 64) hx hb dX11_clear_128 (by decide) ?_
                              refine lv_icmp_ge (tgt := 151) hx hb dX11_clear_130 (by decide) (fun c130_6 => ?_) (fun c130_6 => ?_)
                              · have D130_6 := iLe c130_6 t_64 rfl
                                have e151 : k.toNatClampNeg = 64 := by have := cl_toInt (x := k) (by omega); omega
                                exact hret _ _ _ _ _ ⟨_, rfl, hY, hKB, h12, hms1, (MBk_0 (by have z9 := hCL; rw [e151] at z9; exact z9))⟩ hw dX11_clear_151
                              · have D130_6 := iNle c130_6 t_64 rfl
                                refine lv_aload_n hx hb dX11_clear_133 rfl (lv_at hl 1 rfl) ?_
                                refine gf_X11_83 (b := (ma 19)) X hw hM.1 (mr_19 hM) dX11_clear_134 ?_
                                refine lv_bipush (v := 64) hx hb dX11_clear_137 (by decide) ?_
                                refine lv_iload_n hx hb dX11_clear_139 rfl (lv_at hl 2 rfl) ?_
                                refine lv_imul hx hb dX11_clear_140 ?_
                                refine lv_topi (fun v140_7 e140_7 => ?_)
                                have t140_7 := iMul e140_7 t_64 rfl (by omega) (by omega)
                                have t140 := t140_7
                                refine lv_iload_n hx hb dX11_clear_141 rfl (lv_at hl 0 rfl) ?_
                                refine lv_iadd hx hb dX11_clear_142 ?_
                                refine lv_topi (fun v142_8 e142_8 => ?_)
                                have t142_8 := iAdd e142_8 rfl rfl (by omega) (by omega)
                                have t142 := t142_8
                                have hi143 : v142_8.toNatClampNeg = 64 * bb + k.toNatClampNeg := by have := cl_toInt (x := v142_8) (by omega); have := cl_toInt (x := k) (by omega); omega
                                refine lv_iconst (v := 0) hx hb dX11_clear_143 (by decide) ?_
                                refine q_stZ X hw (mk_19 hM) (vin (mn_19 hM) (by omega) (by omega)) dX11_clear_144 (fun H locs hw => ?_)
                                obtain ⟨q144_9, eq144_9, hw⟩ : ∃ zz9, zz9 = va_up q127 (ma 19) (upd (q127 (ma 19)) v142_8.toNatClampNeg (vp_nar .boolean 0)) ∧ PX G A s.heap (ch S (pI S) (pJ S) zz9 (qJ S)) H locs := ⟨_, rfl, hw⟩
                                have c144 := eq144_9
                                obtain ⟨v145_10, e145_10⟩ : ∃ y : Int32, y = k + 1 := ⟨_, rfl⟩
                                have t145_10 := iAdd e145_10 rfl t_1 (by omega) (by omega)
                                have t145 := t145_10
                                refine lv_iinc (v := v145_10) (lv' := [(2, .int v145_10), (0, .ref (ma 0)), (1, .int b)]) hx hb dX11_clear_145 hl (k := 0) rfl (by rw [e145_10]; rfl) (by decide) rfl (fun ls hl => ?_)
                                refine lv_goto (tgt := 127) hx hb dX11_clear_148 (by decide) ?_
                                exact ih127 q144_9 v145_10 (FrQ.ez eq144_9 (FrQ.up (j := 19) (by decide) (by decide) hY)) (by rw [row_keep hM c144 (by decide) (by decide) (by decide)]; exact h12) (by omega) (by rw [row_keep hM c144 (i := 18) (by decide) (by decide) (by decide)]; exact hms1) (hKB.tr (KeepB.up (j := 19) hM (by decide) c144 (by show 64 * bb ≤ _ ∧ _ < 64 * (bb + 1); rw [hi143]; have := cl_toInt (x := k) (by omega); omega))) (CLs_19 hCL hM hi.1 t145 hi143 c144) (by omega) _ _ _ hw (lv_sub hl [0, 1, 2] rfl)
                          exact lp127 _ q100 0 hY h12 (by have := t_0; omega) hms1 hKB (by have z9 := hCL; rw [e125] at z9; rw [show (0 : Int32).toNatClampNeg = 0 by decide]; exact z9) (Nat.lt_succ_self _) _ _ _ hw (lv_sub hl [0, 1, 2] rfl)
                        · have D103_5 := iNle c103_5 t_42 rfl
                          refine lv_aload_n hx hb dX11_clear_106 rfl (lv_at hl 1 rfl) ?_
                          refine gf_X11_80 (b := (ma 18)) X hw hM.1 (mr_18 hM) dX11_clear_107 ?_
                          refine lv_bipush (v := 42) hx hb dX11_clear_110 (by decide) ?_
                          refine lv_iload_n hx hb dX11_clear_112 rfl (lv_at hl 2 rfl) ?_
                          refine lv_imul hx hb dX11_clear_113 ?_
                          refine lv_topi (fun v113_11 e113_11 => ?_)
                          have t113_11 := iMul e113_11 t_42 rfl (by omega) (by omega)
                          have t113 := t113_11
                          refine lv_iload_n hx hb dX11_clear_114 rfl (lv_at hl 0 rfl) ?_
                          refine lv_iadd hx hb dX11_clear_115 ?_
                          refine lv_topi (fun v115_12 e115_12 => ?_)
                          have t115_12 := iAdd e115_12 rfl rfl (by omega) (by omega)
                          have t115 := t115_12
                          have hi116 : v115_12.toNatClampNeg = 42 * bb + k.toNatClampNeg := by have := cl_toInt (x := v115_12) (by omega); have := cl_toInt (x := k) (by omega); omega
                          refine lv_bipush (v := -100) hx hb dX11_clear_116 (by decide) ?_
                          refine q_stI X hw (mk_18 hM) (vin (mn_18 hM) (by omega) (by omega)) dX11_clear_118 (fun H locs hw => ?_)
                          obtain ⟨q118_13, eq118_13, hw⟩ : ∃ zz9, zz9 = va_up q100 (ma 18) (upd (q100 (ma 18)) v115_12.toNatClampNeg (-100)) ∧ PX G A s.heap (ch S (pI S) (pJ S) zz9 (qJ S)) H locs := ⟨_, rfl, hw⟩
                          have c118 := eq118_13
                          obtain ⟨v119_14, e119_14⟩ : ∃ y : Int32, y = k + 1 := ⟨_, rfl⟩
                          have t119_14 := iAdd e119_14 rfl t_1 (by omega) (by omega)
                          have t119 := t119_14
                          refine lv_iinc (v := v119_14) (lv' := [(2, .int v119_14), (0, .ref (ma 0)), (1, .int b)]) hx hb dX11_clear_119 hl (k := 0) rfl (by rw [e119_14]; rfl) (by decide) rfl (fun ls hl => ?_)
                          refine lv_goto (tgt := 100) hx hb dX11_clear_122 (by decide) ?_
                          exact ih100 q118_13 v119_14 (FrQ.ez eq118_13 (FrQ.up (j := 18) (by decide) (by decide) hY)) (by rw [row_keep hM c118 (by decide) (by decide) (by decide)]; exact h12) (by omega) (by rw [c118, vu_s]; exact MsOK_upd hms1 (Or.inl (by decide))) (hKB.tr (KeepB.up (j := 18) hM (by decide) c118 (by show 42 * bb ≤ _ ∧ _ < 42 * (bb + 1); rw [hi116]; have := cl_toInt (x := k) (by omega); omega))) (CLs_18 hCL hM hi.1 t119 hi116 c118) (by omega) _ _ _ hw (lv_sub hl [0, 1, 2] rfl)
                    exact lp100 _ q65 0 hY h12 (by have := t_0; omega) hms1 hKB (by have z9 := hCL; rw [e98] at z9; rw [show (0 : Int32).toNatClampNeg = 0 by decide]; exact z9) (Nat.lt_succ_self _) _ _ _ hw (lv_sub hl [0, 1, 2] rfl)
                  · have D67_4 := iNle c67_4 t_4 rfl
                    refine lv_aload_n hx hb dX11_clear_70 rfl (lv_at hl 1 rfl) ?_
                    refine gf_X11_77 (b := (ma 17)) X hw hM.1 (mr_17 hM) dX11_clear_71 ?_
                    refine lv_iconst (v := 4) hx hb dX11_clear_74 (by decide) ?_
                    refine lv_iload_n hx hb dX11_clear_75 rfl (lv_at hl 2 rfl) ?_
                    refine lv_imul hx hb dX11_clear_76 ?_
                    refine lv_topi (fun v76_15 e76_15 => ?_)
                    have t76_15 := iMul e76_15 t_4 rfl (by omega) (by omega)
                    have t76 := t76_15
                    refine lv_iload_n hx hb dX11_clear_77 rfl (lv_at hl 0 rfl) ?_
                    refine lv_iadd hx hb dX11_clear_78 ?_
                    refine lv_topi (fun v78_16 e78_16 => ?_)
                    have t78_16 := iAdd e78_16 rfl rfl (by omega) (by omega)
                    have t78 := t78_16
                    have hi79 : v78_16.toNatClampNeg = 4 * bb + k.toNatClampNeg := by have := cl_toInt (x := v78_16) (by omega); have := cl_toInt (x := k) (by omega); omega
                    refine lv_iconst (v := 3) hx hb dX11_clear_79 (by decide) ?_
                    refine q_stI X hw (mk_17 hM) (vin (mn_17 hM) (by omega) (by omega)) dX11_clear_80 (fun H locs hw => ?_)
                    obtain ⟨q80_17, eq80_17, hw⟩ : ∃ zz9, zz9 = va_up q65 (ma 17) (upd (q65 (ma 17)) v78_16.toNatClampNeg 3) ∧ PX G A s.heap (ch S (pI S) (pJ S) zz9 (qJ S)) H locs := ⟨_, rfl, hw⟩
                    have c80 := eq80_17
                    refine lv_aload_n hx hb dX11_clear_81 rfl (lv_at hl 1 rfl) ?_
                    refine gf_X11_87 (b := (ma 20)) X hw hM.1 (mr_20 hM) dX11_clear_82 ?_
                    refine lv_iconst (v := 4) hx hb dX11_clear_85 (by decide) ?_
                    refine lv_iload_n hx hb dX11_clear_86 rfl (lv_at hl 2 rfl) ?_
                    refine lv_imul hx hb dX11_clear_87 ?_
                    refine lv_topi (fun v87_18 e87_18 => ?_)
                    have t87_18 := iMul e87_18 t_4 rfl (by omega) (by omega)
                    have t87 := t87_18
                    refine lv_iload_n hx hb dX11_clear_88 rfl (lv_at hl 0 rfl) ?_
                    refine lv_iadd hx hb dX11_clear_89 ?_
                    refine lv_topi (fun v89_19 e89_19 => ?_)
                    have t89_19 := iAdd e89_19 rfl rfl (by omega) (by omega)
                    have t89 := t89_19
                    have hi90 : v89_19.toNatClampNeg = 4 * bb + k.toNatClampNeg := by have := cl_toInt (x := v89_19) (by omega); have := cl_toInt (x := k) (by omega); omega
                    refine lv_iconst (v := 0) hx hb dX11_clear_90 (by decide) ?_
                    refine q_stZ X hw (mk_20 hM) (vin (mn_20 hM) (by omega) (by omega)) dX11_clear_91 (fun H locs hw => ?_)
                    obtain ⟨q91_20, eq91_20, hw⟩ : ∃ zz9, zz9 = va_up q80_17 (ma 20) (upd (q80_17 (ma 20)) v89_19.toNatClampNeg (vp_nar .boolean 0)) ∧ PX G A s.heap (ch S (pI S) (pJ S) zz9 (qJ S)) H locs := ⟨_, rfl, hw⟩
                    have c91 := eq91_20
                    obtain ⟨v92_21, e92_21⟩ : ∃ y : Int32, y = k + 1 := ⟨_, rfl⟩
                    have t92_21 := iAdd e92_21 rfl t_1 (by omega) (by omega)
                    have t92 := t92_21
                    refine lv_iinc (v := v92_21) (lv' := [(2, .int v92_21), (0, .ref (ma 0)), (1, .int b)]) hx hb dX11_clear_92 hl (k := 0) rfl (by rw [e92_21]; rfl) (by decide) rfl (fun ls hl => ?_)
                    refine lv_goto (tgt := 65) hx hb dX11_clear_95 (by decide) ?_
                    exact ih65 q91_20 v92_21 (FrQ.ez eq91_20 (FrQ.up (j := 20) (by decide) (by decide) (FrQ.ez eq80_17 (FrQ.up (j := 17) (by decide) (by decide) hY)))) (by rw [row_keep hM c91 (by decide) (by decide) (by decide), row_keep hM c80 (by decide) (by decide) (by decide)]; exact h12) (by omega) (by rw [row_keep hM c91 (i := 18) (by decide) (by decide) (by decide), row_keep hM c80 (i := 18) (by decide) (by decide) (by decide)]; exact hms1) ((hKB.tr (KeepB.up (j := 17) hM (by decide) c80 (by show 4 * bb ≤ _ ∧ _ < 4 * (bb + 1); rw [hi79]; have := cl_toInt (x := k) (by omega); omega))).tr (KeepB.up (j := 20) hM (by decide) c91 (by show 4 * bb ≤ _ ∧ _ < 4 * (bb + 1); rw [hi90]; have := cl_toInt (x := k) (by omega); omega))) (CLs_17 hCL hM hi.1 t92 hi79 hi90 c80 c91) (by omega) _ _ _ hw (lv_sub hl [0, 1, 2] rfl)
              exact lp65 _ q36 0 hY h12 (by have := t_0; omega) hms1 hKB (by have z9 := hCL; rw [e63] at z9; rw [show (0 : Int32).toNatClampNeg = 0 by decide]; exact z9) (Nat.lt_succ_self _) _ _ _ hw (lv_sub hl [0, 1, 2] rfl)
            · have D40_3 := iNle c40_3 t_288 rfl
              refine lv_aload_n hx hb dX11_clear_43 rfl (lv_at hl 1 rfl) ?_
              refine gf_X11_71 (b := (ma 15)) X hw hM.1 (mr_15 hM) dX11_clear_44 ?_
              refine lv_sipush (v := 288) hx hb dX11_clear_47 (by decide) ?_
              refine lv_iload_n hx hb dX11_clear_50 rfl (lv_at hl 2 rfl) ?_
              refine lv_imul hx hb dX11_clear_51 ?_
              refine lv_topi (fun v51_22 e51_22 => ?_)
              have t51_22 := iMul e51_22 t_288 rfl (by omega) (by omega)
              have t51 := t51_22
              refine lv_iload_n hx hb dX11_clear_52 rfl (lv_at hl 0 rfl) ?_
              refine lv_iadd hx hb dX11_clear_53 ?_
              refine lv_topi (fun v53_23 e53_23 => ?_)
              have t53_23 := iAdd e53_23 rfl rfl (by omega) (by omega)
              have t53 := t53_23
              have hi54 : v53_23.toNatClampNeg = 288 * bb + k.toNatClampNeg := by have := cl_toInt (x := v53_23) (by omega); have := cl_toInt (x := k) (by omega); omega
              refine lv_bipush (v := -100) hx hb dX11_clear_54 (by decide) ?_
              refine q_stI X hw (mk_15 hM) (vin (mn_15 hM) (by omega) (by omega)) dX11_clear_56 (fun H locs hw => ?_)
              obtain ⟨q56_24, eq56_24, hw⟩ : ∃ zz9, zz9 = va_up q36 (ma 15) (upd (q36 (ma 15)) v53_23.toNatClampNeg (-100)) ∧ PX G A s.heap (ch S (pI S) (pJ S) zz9 (qJ S)) H locs := ⟨_, rfl, hw⟩
              have c56 := eq56_24
              obtain ⟨v57_25, e57_25⟩ : ∃ y : Int32, y = k + 1 := ⟨_, rfl⟩
              have t57_25 := iAdd e57_25 rfl t_1 (by omega) (by omega)
              have t57 := t57_25
              refine lv_iinc (v := v57_25) (lv' := [(2, .int v57_25), (0, .ref (ma 0)), (1, .int b)]) hx hb dX11_clear_57 hl (k := 0) rfl (by rw [e57_25]; rfl) (by decide) rfl (fun ls hl => ?_)
              refine lv_goto (tgt := 36) hx hb dX11_clear_60 (by decide) ?_
              exact ih36 q56_24 v57_25 (FrQ.ez eq56_24 (FrQ.up (j := 15) (by decide) (by decide) hY)) (by rw [row_keep hM c56 (by decide) (by decide) (by decide)]; exact h12) (by omega) (by rw [row_keep hM c56 (i := 18) (by decide) (by decide) (by decide)]; exact hms1) (hKB.tr (KeepB.up (j := 15) hM (by decide) c56 (by show 288 * bb ≤ _ ∧ _ < 288 * (bb + 1); rw [hi54]; have := cl_toInt (x := k) (by omega); omega))) (CLs_15 hCL hM hi.1 t57 hi54 c56) (by omega) _ _ _ hw (lv_sub hl [0, 1, 2] rfl)
        exact lp36 _ q9 0 hY h12 (by have := t_0; omega) hms1 hKB (by have z9 := hCL; rw [e34] at z9; rw [show (0 : Int32).toNatClampNeg = 0 by decide]; exact z9) (Nat.lt_succ_self _) _ _ _ hw (lv_sub hl [0, 1, 2] rfl)
      · have D12_2 := iNle c12_2 t_72 rfl
        refine lv_aload_n hx hb dX11_clear_15 rfl (lv_at hl 1 rfl) ?_
        refine gf_X11_65 (b := (ma 13)) X hw hM.1 (mr_13 hM) dX11_clear_16 ?_
        refine lv_bipush (v := 72) hx hb dX11_clear_19 (by decide) ?_
        refine lv_iload_n hx hb dX11_clear_21 rfl (lv_at hl 2 rfl) ?_
        refine lv_imul hx hb dX11_clear_22 ?_
        refine lv_topi (fun v22_26 e22_26 => ?_)
        have t22_26 := iMul e22_26 t_72 rfl (by omega) (by omega)
        have t22 := t22_26
        refine lv_iload_n hx hb dX11_clear_23 rfl (lv_at hl 0 rfl) ?_
        refine lv_iadd hx hb dX11_clear_24 ?_
        refine lv_topi (fun v24_27 e24_27 => ?_)
        have t24_27 := iAdd e24_27 rfl rfl (by omega) (by omega)
        have t24 := t24_27
        have hi25 : v24_27.toNatClampNeg = 72 * bb + k.toNatClampNeg := by have := cl_toInt (x := v24_27) (by omega); have := cl_toInt (x := k) (by omega); omega
        refine lv_bipush (v := -100) hx hb dX11_clear_25 (by decide) ?_
        refine q_stI X hw (mk_13 hM) (vin (mn_13 hM) (by omega) (by omega)) dX11_clear_27 (fun H locs hw => ?_)
        obtain ⟨q27_28, eq27_28, hw⟩ : ∃ zz9, zz9 = va_up q9 (ma 13) (upd (q9 (ma 13)) v24_27.toNatClampNeg (-100)) ∧ PX G A s.heap (ch S (pI S) (pJ S) zz9 (qJ S)) H locs := ⟨_, rfl, hw⟩
        have c27 := eq27_28
        obtain ⟨v28_29, e28_29⟩ : ∃ y : Int32, y = k + 1 := ⟨_, rfl⟩
        have t28_29 := iAdd e28_29 rfl t_1 (by omega) (by omega)
        have t28 := t28_29
        refine lv_iinc (v := v28_29) (lv' := [(2, .int v28_29), (0, .ref (ma 0)), (1, .int b)]) hx hb dX11_clear_28 hl (k := 0) rfl (by rw [e28_29]; rfl) (by decide) rfl (fun ls hl => ?_)
        refine lv_goto (tgt := 9) hx hb dX11_clear_31 (by decide) ?_
        exact ih9 q27_28 v28_29 (FrQ.ez eq27_28 (FrQ.up (j := 13) (by decide) (by decide) hY)) (by rw [row_keep hM c27 (by decide) (by decide) (by decide)]; exact h12) (by omega) (by rw [row_keep hM c27 (i := 18) (by decide) (by decide) (by decide)]; exact hms1) (hKB.tr (KeepB.up (j := 13) hM (by decide) c27 (by show 72 * bb ≤ _ ∧ _ < 72 * (bb + 1); rw [hi25]; have := cl_toInt (x := k) (by omega); omega))) (CLs_13 hCL hM hi.1 t28 hi25 c27) (by omega) _ _ _ hw (lv_sub hl [0, 1, 2] rfl)
  exact lp9 _ q6_1 0 (FrQ.ez eq6_1 (FrQ.up (j := 12) (by decide) (by decide) FrQ.rf)) h12 (by have := t_0; omega) hms1 hKB (by rw [show (0 : Int32).toNatClampNeg = 0 by decide]; exact CLs_0) (Nat.lt_succ_self _) _ _ _ hw (lv_sub hl [0, 1, 2] rfl)
