theorem t_2147483639 : (2147483639 : Int32).toInt = 2147483639 := by decide
/-! ===== the list: its shape, what growing and adding do ===== -/
def lsh (G : Gh) (S : Pl) (la ar tf n : Nat) (el : Nat → Nat) : Prop := is S 11 la ∧ pR S 91 la = some ar ∧ (pI S 92 la).toInt = (n : Int) ∧ n ≤ 60 ∧ (tf = 0 → ar = G.2.2.2.2 4 ∧ n = 0) ∧ (tf ≠ 0 → is S 18 ar ∧ n ≤ pN S ar ∧ 10 ≤ pN S ar ∧ pN S ar ≤ 90) ∧ ∀ k, k < n → qR S ar k = some (el k) ∧ ob S (el k)
def Gr (S T : Pl) (b N n : Nat) (g : Nat → Option Nat) : Prop := b ∉ pL S ∧ pL T = pL S ++ [b] ∧ pK T = va_up (pK S) b 18 ∧ pN T = va_up (pN S) b N ∧ pI T = pI S ∧ pR T = pR S ∧ (∀ a, a ≠ b → qR T a = qR S a) ∧ (∀ k, k < n → qR T b k = g k) ∧ ∀ a, a ≠ b → qI T a = qI S a
def AddP (S T : Pl) (la ar tf n b ar' : Nat) : Prop := pR T 91 la = some ar' ∧ (pI T 92 la).toInt = (n : Int) + 1 ∧ is T 18 ar' ∧ n < pN T ar' ∧ 10 ≤ pN T ar' ∧ pN T ar' ≤ 90 ∧ (∀ k, k < n → qR T ar' k = qR S ar k) ∧ qR T ar' n = some b ∧ ((ar' = ar ∧ tf ≠ 0) ∨ ar' ∉ pL S) ∧ (∀ a, a ∈ pL S → a ∈ pL T ∧ pK T a = pK S a ∧ pN T a = pN S a ∧ (a ≠ ar' → qR T a = qR S a) ∧ (a ≠ la → (∀ f, pR T f a = pR S f a) ∧ ∀ f, pI T f a = pI S f a)) ∧ Kq S T
theorem Gr_nil {S T : Pl} {b N : Nat} {g : Nat → Option Nat} (hf : b ∉ pL S) (e : T = nA S b 18 N) : Gr S T b N 0 g := by
  subst e
  exact ⟨hf, rfl, rfl, rfl, rfl, rfl, fun a h => vu_n h, fun k h => absurd h (Nat.not_lt_zero _), fun a h => vu_n h⟩
theorem Gr_cpy {S T U : Pl} {b N ar : Nat} (hf : b ∉ pL S) (e : T = nA S b 18 N) (ha : ar ∈ pL S) {n : Nat} (e2 : U = tR T b (va_cpy (qR T ar) (qR T b) 0 0 n)) : Gr S U b N n (qR S ar) := by
  subst e2; subst e
  refine ⟨hf, rfl, rfl, rfl, rfl, rfl, fun a h => (vu_n h).trans (vu_n h), fun k h => ?_, fun a h => vu_n h⟩
  refine (congrFun vu_s k).trans ?_
  unfold va_cpy
  rw [if_pos ⟨Nat.zero_le _, by omega⟩]
  show va_up (qR S) b _ ar (0 + (k - 0)) = _
  rw [vu_n (ne_of ha hf), Nat.sub_zero, Nat.zero_add]
theorem add_in {G : Gh} {S T : Pl} {la ar tf n b : Nat} {el : Nat → Nat} {x w : Int32} (hL : lsh G S la ar tf n el) (htf : tf ≠ 0) (hlt : n < pN S ar) (hx : x.toInt = (n : Int)) (hw : w.toInt = (n : Int) + 1) (e : T = tR S ar (va_up (qR S ar) x.toNatClampNeg (some b))) : AddP S (sI T 92 la w) la ar tf n b ar := by
  have hn : x.toNatClampNeg = n := by have := cl_toInt (x := x) (by omega); omega
  rw [hn] at e
  subst e
  obtain ⟨l1, l2, l3, l4, l5, l6, l7⟩ := hL
  obtain ⟨m1, m2, m3, m4⟩ := l6 htf
  refine ⟨l2, by show (up2 (pI S) 92 la w 92 la).toInt = _; rw [up2_s]; exact hw, m1, hlt, m3, m4, fun k hk => ?_, (congrFun vu_s n).trans vu_s, Or.inl ⟨rfl, htf⟩, fun a ha => ⟨ha, rfl, rfl, fun h => vu_n h, fun h => ⟨fun f => rfl, fun f => up2_n h⟩⟩, fun _ _ => rfl⟩
  exact (congrFun vu_s k).trans (vu_n (by omega))
theorem add_gr {G : Gh} {S T U V : Pl} {la ar tf n N b b' : Nat} {el : Nat → Nat} {x w : Int32} (hL : lsh G S la ar tf n el) (hG : Gr S T b' N n (qR S ar)) (hN : n < N ∧ 10 ≤ N ∧ N ≤ 90) (hx : x.toInt = (n : Int)) (hw : w.toInt = (n : Int) + 1) (e : sR T 91 la (some b') = U) (e2 : V = tR U b' (va_up (qR U b') x.toNatClampNeg (some b))) : AddP S (sI V 92 la w) la ar tf n b b' := by
  have hn : x.toNatClampNeg = n := by have := cl_toInt (x := x) (by omega); omega
  rw [hn] at e2
  subst e2; subst e
  obtain ⟨g1, g2, g3, g4, g5, g6, g7, g8, g9⟩ := hG
  have hnN : pN T b' = N := by rw [g4]; exact vu_s
  refine ⟨(show up2 (pR T) 91 la (some b') 91 la = some b' from up2_s), by show (up2 (pI T) 92 la w 92 la).toInt = _; rw [up2_s]; exact hw, ⟨?_, ?_⟩, ?_, ?_, ?_, fun k hk => ?_, (congrFun vu_s n).trans vu_s, Or.inr g1, fun a ha => ?_, fun a ha => g9 a (ne_of ha g1)⟩
  · show b' ∈ pL T; rw [g2]; exact List.mem_append_right _ List.mem_cons_self
  · show pK T b' = 18; rw [g3]; exact vu_s
  · show n < pN T b'; rw [hnN]; exact hN.1
  · show 10 ≤ pN T b'; rw [hnN]; exact hN.2.1
  · show pN T b' ≤ 90; rw [hnN]; exact hN.2.2
  · refine (congrFun vu_s k).trans ((vu_n (by omega)).trans ?_)
    exact g8 k hk
  · have hne := ne_of ha g1
    refine ⟨?_, ?_, ?_, fun h => (vu_n h).trans (g7 a hne), fun h => ⟨fun f => ?_, fun f => ?_⟩⟩
    · show a ∈ pL T; rw [g2]; exact List.mem_append_left _ ha
    · show pK T a = _; rw [g3]; exact vu_n hne
    · show pN T a = _; rw [g4]; exact vu_n hne
    · refine (up2_n h).trans ?_; rw [g6]
    · refine (up2_n h).trans ?_
      show pI T f a = _
      rw [g5]
theorem AddP.mod {S T : Pl} {la ar tf n b ar' : Nat} {v : Int32} (h : AddP (sI S 90 la v) T la ar tf n b ar') : AddP S T la ar tf n b ar' := by
  obtain ⟨h1, h2, h3, h4, h5, h6, h7, h8, h9, h10, h11⟩ := h
  refine ⟨h1, h2, h3, h4, h5, h6, h7, h8, h9, fun a ha => ?_, h11⟩
  obtain ⟨i1, i2, i3, i4, i5⟩ := h10 a ha
  exact ⟨i1, i2, i3, i4, fun n => ⟨(i5 n).1, fun f => ((i5 n).2 f).trans (up2_n n)⟩⟩
theorem lsh.mod {G : Gh} {S : Pl} {la ar tf n : Nat} {el : Nat → Nat} {v : Int32} (h : lsh G S la ar tf n el) : lsh G (ch S (up2 (pI S) 90 la v) (pJ S) (qI S) (qJ S)) la ar tf n el := by
  obtain ⟨h1, h2, h3, h⟩ := h
  exact ⟨h1, h2, (show (up2 (pI S) 90 la v 92 la).toInt = _ by rw [up2_f (by decide)]; exact h3), h⟩
theorem mx_b {b c v : Int32} (e : v = if b < c then c else b) (hb : b.toInt = 1) (hc : 0 ≤ c.toInt ∧ c.toInt ≤ 30) : 1 ≤ v.toInt ∧ v.toInt ≤ 30 := by
  rw [e]; split
  · rename_i h; have := iLt h hb rfl; omega
  · omega
theorem mx_10 {c v : Int32} (e : v = if (10 : Int32) < c then c else 10) (hc : c.toInt = 1) : v = 10 := by
  rw [e, if_neg]; intro h; have := iLt h (by decide : (10 : Int32).toInt = 10) hc; omega
theorem mn_l {x y v : Int32} (e : v = if y < x then y else x) (h : x.toInt ≤ y.toInt) : v = x := by
  rw [e, if_neg]; intro q; have := iLt q rfl rfl; omega
theorem shr1 {x v : Int32} (e : v = x >>> (1 &&& 31)) (h : 0 ≤ x.toInt ∧ x.toInt ≤ 60) : 0 ≤ v.toInt ∧ v.toInt ≤ 30 := by
  have hk := cl_toInt h.1
  have hx := nI_cl h.1
  have hlt : x.toNatClampNeg < 61 := by omega
  have key : ∀ k : Nat, k < 61 → 0 ≤ ((nI k) >>> ((1 : Int32) &&& 31)).toInt ∧ ((nI k) >>> ((1 : Int32) &&& 31)).toInt ≤ 30 := by decide
  have := key _ hlt
  rw [hx] at this
  rw [e]; exact this
theorem i_of {x : Int32} {a : Int} {y : Int32} (h : x.toInt = a) (h2 : y.toInt = a) : x = y := Int32.toInt_inj.mp (h.trans h2.symm)
theorem ob.ex {S T : Pl} {b : Nat} (h : ob S b) (e : Ex S T) : ob T b := h.imp (fun q => q.ex e) (fun q => q.imp (fun q => q.ex e) (fun q => q.ex e))
theorem isR.ob {T U : Pl} {f b a : Nat} {v : Option Nat} (e : U = sR T f b v) (h : ob T a) : ob U a := by subst e; exact h
theorem Gr.exx {S T : Pl} {b N n : Nat} {g : Nat → Option Nat} (h : Gr S T b N n g) : Ex S T := fun a ha => by
  obtain ⟨g1, g2, g3, g4, g5, g6, g7, g8⟩ := h
  have hne := ne_of ha g1
  exact ⟨by rw [g2]; exact List.mem_append_left _ ha, by rw [g3]; exact vu_n hne, by rw [g4]; exact vu_n hne, g7 a hne, fun f => by rw [g6], fun f => by rw [g5]⟩
theorem Gr.iz {S T : Pl} {b N n k a : Nat} {g : Nat → Option Nat} (h : Gr S T b N n g) (i : is S k a) : is T k a := i.ex h.exx
theorem Gr.oz {S T : Pl} {b N n a : Nat} {g : Nat → Option Nat} (h : Gr S T b N n g) (i : ob S a) : ob T a := i.ex h.exx
theorem Gr.izb {S T : Pl} {b N n : Nat} {g : Nat → Option Nat} (h : Gr S T b N n g) : is T 18 b := ⟨by rw [h.2.1]; exact List.mem_append_right _ List.mem_cons_self, by rw [h.2.2.1]; exact vu_s⟩
theorem Gr.nb {S T : Pl} {b N n : Nat} {g : Nat → Option Nat} (h : Gr S T b N n g) : pN T b = N := by rw [h.2.2.2.1]; exact vu_s
set_option maxHeartbeats 4000000 in
set_option maxRecDepth 100000 in
theorem c_Jxa1e45_init_da8c8 (l : Launch) (G : Gh) (S : Pl) (la : Nat)  : MtV l yJxa1e45_init_da8c8 cJxa1e45_init_da8c8 1 none (Rm 1 0 0) G [.ref la] S (fun (S' : Pl) => S = S' ∧ True) 0 0 := by
  refine MtV.of (by decide) (Nat.le_of_ble_eq_true rfl) ?_
  intro p e s m args below meth c Q A X hw hin hret ls hl
  have hx := X.1.1
  have hb := X.1.2.1
  have hl : lv_has ls 1 [(0, .ref la)] := hl
  refine lv_aload_n hx hb dJxa1e45_init_da8c8_0 rfl (lv_at hl 0 rfl) ?_
  refine W.objInit hx hb X.1.2.2.2.1 (X.1.2.2.2.2 _ wd_r3_23) (X.1.2.2.2.2 _ wd_r1_10) (X.1.2.2.2.2 _ wd_r1_11) rfl (by rw [X.1.2.2.1]; exact hl.1) rfl dJxa1e45_init_da8c8_1 (Nat.le_of_ble_eq_true rfl) (Nat.le_of_ble_eq_true rfl) ?_
  refine W.eq (g2 := F0 m 4 ls []) rfl ?_
  exact hret _ _ _ _ _ ⟨rfl, trivial⟩ hw dJxa1e45_init_da8c8_4
set_option maxHeartbeats 4000000 in
set_option maxRecDepth 100000 in
theorem c_Jxc12de_init_da8c8 (l : Launch) (G : Gh) (S : Pl) (la : Nat)  (k0 : is S 11 la) (v0 : pI S 92 la = 0) : MtV l yJxc12de_init_da8c8 cJxc12de_init_da8c8 1 none (Rm 2 0 0) G [.ref la] S (fun (S' : Pl) => ExX la S S' ∧ pI S' 92 la = 0) 0 0 := by
  refine MtV.of (by decide) (Nat.le_of_ble_eq_true rfl) ?_
  intro p e s m args below meth c Q A X hw hin hret ls hl
  have hx := X.1.1
  have hb := X.1.2.1
  have hl : lv_has ls 1 [(0, .ref la)] := hl
  have xx := ExX.rf (S := S) (b := la)
  refine lv_aload_n hx hb dJxc12de_init_da8c8_0 rfl (lv_at hl 0 rfl) ?_
  refine k_Iv (n := 0) (ret2 := none) X hw (c_Jxa1e45_init_da8c8 l G _ la) wd_r3_19 wd_r3_20 wd_r3_21 wd_r3_22 rfl ⟨by decide, by decide, by decide +kernel⟩ rfl rfl ⟨Nat.le_of_ble_eq_true rfl, Nat.le_of_ble_eq_true rfl⟩ rfl rfl hl.1 (Nat.le_of_ble_eq_true rfl) dJxc12de_init_da8c8_1 ⟨Nat.le_of_ble_eq_true rfl, Nat.le_of_ble_eq_true rfl⟩ (fun S1_2 H locs h1_1 hw => ?_)
  obtain ⟨rfl, -⟩ := h1_1
  refine lv_aload_n hx hb dJxc12de_init_da8c8_4 rfl (lv_at hl 0 rfl) ?_
  refine lv_iconst (v := 0) hx hb dJxc12de_init_da8c8_5 (by decide) ?_
  refine pf_mod0 X hw k0 dJxc12de_init_da8c8_6 (fun H locs hw => ?_)
  obtain ⟨T6_3, eT6_3, hw⟩ : ∃ zz9 : Pl, zz9 = sI S 90 la 0 ∧ PX G A s.heap zz9 H locs := ⟨_, rfl, hw⟩
  have xx := ExX.mI eT6_3 xx
  have v0 := ivI eT6_3 (by decide) v0
  have k0 := isI eT6_3 k0
  have vL4 := ivI_n eT6_3
  exact hret T6_3 _ _ _ _ ⟨xx, v0⟩ hw dJxc12de_init_da8c8_9
set_option maxHeartbeats 4000000 in
set_option maxRecDepth 100000 in
theorem c_Jx4a65c_init_da8c8 (l : Launch) (G : Gh) (S : Pl) (la : Nat)  (k0 : is S 11 la) (v0 : pI S 92 la = 0) : MtV l yJx4a65c_init_da8c8 cJx4a65c_init_da8c8 1 none (Rm 3 0 0) G [.ref la] S (fun (S' : Pl) => ExX la S S' ∧ pR S' 91 la = some (G.2.2.2.2 4) ∧ pI S' 92 la = 0) 0 0 := by
  refine MtV.of (by decide) (Nat.le_of_ble_eq_true rfl) ?_
  intro p e s m args below meth c Q A X hw hin hret ls hl
  have hx := X.1.1
  have hb := X.1.2.1
  have hl : lv_has ls 1 [(0, .ref la)] := hl
  have xx := ExX.rf (S := S) (b := la)
  refine lv_aload_n hx hb dJx4a65c_init_da8c8_0 rfl (lv_at hl 0 rfl) ?_
  refine k_Iv (n := 0) (ret2 := none) X hw (c_Jxc12de_init_da8c8 l G _ la  k0 v0) wd_r3_14 wd_r3_15 wd_r3_16 wd_r3_17 rfl ⟨by decide, by decide, by decide +kernel⟩ rfl rfl ⟨Nat.le_of_ble_eq_true rfl, Nat.le_of_ble_eq_true rfl⟩ rfl rfl hl.1 (Nat.le_of_ble_eq_true rfl) dJx4a65c_init_da8c8_1 ⟨Nat.le_of_ble_eq_true rfl, Nat.le_of_ble_eq_true rfl⟩ (fun S1_2 H locs h1_1 hw => ?_)
  obtain ⟨xL, fL0⟩ := h1_1
  have xx := xL
  have k0 := isX xL k0
  have vL3 := fL0
  refine lv_aload_n hx hb dJx4a65c_init_da8c8_4 rfl (lv_at hl 0 rfl) ?_
  refine va_gets hx hb X.2.2.2.2.1.2.2.2.2.2.2.2.2.1.1 hw.2.2 X.1.2.2.2.1 (X.1.2.2.2.2 _ wd_r3_12) (fun _ h => h) dJx4a65c_init_da8c8_5 ?_
  refine pf_Jx4a65c_9 X hw k0 dJx4a65c_init_da8c8_8 (fun H locs hw => ?_)
  obtain ⟨T8_4, eT8_4, hw⟩ : ∃ zz9 : Pl, zz9 = sR S1_2 91 la (some (G.2.2.2.2 4)) ∧ PX G A s.heap zz9 H locs := ⟨_, rfl, hw⟩
  have xx := ExX.mR eT8_4 xx
  have vL3 := ivR eT8_4 vL3
  have k0 := isR eT8_4 k0
  have rL5 := rfR_n eT8_4
  exact hret T8_4 _ _ _ _ ⟨xx, rL5, vL3⟩ hw dJx4a65c_init_da8c8_11
set_option maxHeartbeats 4000000 in
set_option maxRecDepth 100000 in
theorem c_Jx4a65c_size_8abf5 (l : Launch) (G : Gh) (S : Pl) (la : Nat) (k0 : is S 11 la) : MtI l yJx4a65c_size_8abf5 cJx4a65c_size_8abf5 1 (some .int) (Rm 0 0 0) G [.ref la] S (fun (r : Int32) (S' : Pl) => S = S' ∧ r = pI S 92 la) 0 0 := by
  refine MtI.of (by decide) (Nat.le_of_ble_eq_true rfl) ?_
  intro p e s m args below meth c Q A X hw hin hret ls hl
  have hx := X.1.1
  have hb := X.1.2.1
  have hl : lv_has ls 1 [(0, .ref la)] := hl
  refine lv_aload_n hx hb dJx4a65c_size_8abf5_0 rfl (lv_at hl 0 rfl) ?_
  refine gf_Jx4a65c_48 (v := (pI S) 92 la) X hw k0 rfl dJx4a65c_size_8abf5_1 ?_
  exact hret ((pI S) 92 la) _ _ _ _ _ ⟨rfl, rfl⟩ hw rfl dJx4a65c_size_8abf5_4
set_option maxHeartbeats 4000000 in
set_option maxRecDepth 100000 in
theorem c_J15_checkIndex_7cf53 (l : Launch) (G : Gh) (S : Pl) (i n : Int32) (hi : 0 ≤ i.toInt ∧ i.toInt < n.toInt) : MtI l yJ15_checkIndex_7cf53 cJ15_checkIndex_7cf53 2 (some .int) (Rm 1 0 0) G [.int i, .int n] S (fun (r : Int32) (S' : Pl) => S = S' ∧ True) 0 0 := by
  refine MtI.of (by decide) (Nat.le_of_ble_eq_true rfl) ?_
  intro p e s m args below meth c Q A X hw hin hret ls hl
  have hx := X.1.1
  have hb := X.1.2.1
  have hl : lv_has ls 2 [(0, .int i), (1, .int n)] := hl
  refine lv_iload_n hx hb dJ15_checkIndex_7cf53_0 rfl (lv_at hl 0 rfl) ?_
  refine lv_iload_n hx hb dJ15_checkIndex_7cf53_1 rfl (lv_at hl 1 rfl) ?_
  refine lv_null hx hb dJ15_checkIndex_7cf53_2 ?_
  refine k_Si (n := 3) X hw (c_J3_ckN l G _ i n hi) wd_r18_14 wd_r13_7 wd_r13_8 wd_r13_9 ⟨by decide, by decide, by decide +kernel⟩ rfl rfl ⟨Nat.le_of_ble_eq_true rfl, Nat.le_of_ble_eq_true rfl⟩ rfl rfl hl.1 (Nat.le_of_ble_eq_true rfl) dJ15_checkIndex_7cf53_3 ⟨Nat.le_of_ble_eq_true rfl, Nat.le_of_ble_eq_true rfl⟩ (fun r3_1 S3_3 H locs h3_2 hw => ?_)
  obtain ⟨rfl, h3_2⟩ := h3_2
  exact hret r3_1 _ _ _ _ _ ⟨rfl, trivial⟩ hw rfl dJ15_checkIndex_7cf53_6
set_option maxHeartbeats 4000000 in
set_option maxRecDepth 100000 in
theorem c_Jx4a65c_elementData_915e3 (l : Launch) (G : Gh) (S : Pl) (la ar tf n : Nat) (el : Nat → Nat) (i : Int32) (hL : lsh G S la ar tf n el) (hi : 0 ≤ i.toInt ∧ i.toInt < (n : Int)) : MtQ l yJx4a65c_elementData_915e3 cJx4a65c_elementData_915e3 2 (some (.object "java/lang/Object")) (Rm 0 0 0) G [.ref la, .int i] S (fun (r : Option Nat) (S' : Pl) => S = S' ∧ r = some (el i.toNatClampNeg)) 0 0 := by
  refine MtQ.of (by decide) (Nat.le_of_ble_eq_true rfl) ?_
  intro p e s m args below meth c Q A X hw hin hret ls hl
  have hx := X.1.1
  have hb := X.1.2.1
  have hl : lv_has ls 2 [(0, .ref la), (1, .int i)] := hl
  have htf : tf ≠ 0 := fun h => by have := (hL.2.2.2.2.1 h).2; omega
  have hA : is S 18 ar := (hL.2.2.2.2.2.1 htf).1
  refine lv_aload_n hx hb dJx4a65c_elementData_915e3_0 rfl (lv_at hl 0 rfl) ?_
  refine gf_Jx4a65c_9 (b := ar) X hw hL.1 hL.2.1 dJx4a65c_elementData_915e3_1 ?_
  refine lv_iload_n hx hb dJx4a65c_elementData_915e3_4 rfl (lv_at hl 1 rfl) ?_
  refine q_ldObject (v := .ref (el i.toNatClampNeg)) X hw hA (vp_in_iff.mpr ⟨hi.1, by have := hL.2.2.2.2.2.1 htf; omega⟩) (congrArg va_rf (hL.2.2.2.2.2.2 i.toNatClampNeg (clt hi.1 hi.2)).1) dJx4a65c_elementData_915e3_5 ?_
  exact hret (some (el i.toNatClampNeg)) _ _ _ _ _ ⟨rfl, rfl⟩ hw (Or.inl ⟨_, rfl⟩) dJx4a65c_elementData_915e3_6
set_option maxHeartbeats 4000000 in
set_option maxRecDepth 100000 in
theorem c_Jx4a65c_get_915e3 (l : Launch) (G : Gh) (S : Pl) (la ar tf n : Nat) (el : Nat → Nat) (i : Int32) (hL : lsh G S la ar tf n el) (hi : 0 ≤ i.toInt ∧ i.toInt < (n : Int)) : MtQ l yJx4a65c_get_915e3 cJx4a65c_get_915e3 2 (some (.object "java/lang/Object")) (Rm 2 0 0) G [.ref la, .int i] S (fun (r : Option Nat) (S' : Pl) => S = S' ∧ r = some (el i.toNatClampNeg)) 0 0 := by
  refine MtQ.of (by decide) (Nat.le_of_ble_eq_true rfl) ?_
  intro p e s m args below meth c Q A X hw hin hret ls hl
  have hx := X.1.1
  have hb := X.1.2.1
  have hl : lv_has ls 2 [(0, .ref la), (1, .int i)] := hl
  have htf : tf ≠ 0 := fun h => by have := (hL.2.2.2.2.1 h).2; omega
  have hA : is S 18 ar := (hL.2.2.2.2.2.1 htf).1
  refine lv_iload_n hx hb dJx4a65c_get_915e3_0 rfl (lv_at hl 1 rfl) ?_
  refine lv_aload_n hx hb dJx4a65c_get_915e3_1 rfl (lv_at hl 0 rfl) ?_
  refine gf_Jx4a65c_48 (v := (pI S) 92 la) X hw hL.1 rfl dJx4a65c_get_915e3_2 ?_
  refine k_Si (n := 2) X hw (c_J15_checkIndex_7cf53 l G _ i ((pI S) 92 la) (by have := hL.2.2.1; omega)) wd_r18_10 wd_r18_11 wd_r18_12 wd_r18_13 ⟨by decide, by decide, by decide +kernel⟩ rfl rfl ⟨Nat.le_of_ble_eq_true rfl, Nat.le_of_ble_eq_true rfl⟩ rfl rfl hl.1 (Nat.le_of_ble_eq_true rfl) dJx4a65c_get_915e3_5 ⟨Nat.le_of_ble_eq_true rfl, Nat.le_of_ble_eq_true rfl⟩ (fun r5_1 S5_3 H locs h5_2 hw => ?_)
  obtain ⟨rfl, h5_2⟩ := h5_2
  refine lv_pop hx hb dJx4a65c_get_915e3_8 rfl ?_
  refine lv_aload_n hx hb dJx4a65c_get_915e3_9 rfl (lv_at hl 0 rfl) ?_
  refine lv_iload_n hx hb dJx4a65c_get_915e3_10 rfl (lv_at hl 1 rfl) ?_
  refine k_Vq (n := 1) X hw (rcvk (ci := 0) X hw hL.1 (fun _ _ _ _ _ _ _ => ⟨_, rfl⟩) rfl) (c_Jx4a65c_elementData_915e3 l G _ la ar tf n el i hL hi) wd_r18_15 wd_r18_16 wd_r18_17 wd_r1_22 wd_r18_18 ⟨by decide, by decide, by decide +kernel⟩ rfl rfl ⟨Nat.le_of_ble_eq_true rfl, Nat.le_of_ble_eq_true rfl⟩ rfl rfl hl.1 (Nat.le_of_ble_eq_true rfl) dJx4a65c_get_915e3_11 ⟨Nat.le_of_ble_eq_true rfl, Nat.le_of_ble_eq_true rfl⟩ (fun r11_4 S11_6 H locs h11_5 hw => ?_)
  obtain ⟨rfl, rfl⟩ := h11_5
  exact hret (some (el i.toNatClampNeg)) _ _ _ _ _ ⟨rfl, rfl⟩ hw (Or.inl ⟨_, rfl⟩) dJx4a65c_get_915e3_14
set_option maxHeartbeats 4000000 in
set_option maxRecDepth 100000 in
theorem c_J8_newLength_cabcc (l : Launch) (G : Gh) (S : Pl) (a b d : Int32) (ha : 10 ≤ a.toInt ∧ a.toInt ≤ 60) (h1 : b.toInt = 1) (hd : 0 ≤ d.toInt ∧ d.toInt ≤ 30) : MtI l yJ8_newLength_cabcc cJ8_newLength_cabcc 4 (some .int) (Rm 1 0 0) G [.int a, .int b, .int d] S (fun (r : Int32) (S' : Pl) => S = S' ∧ a.toInt < r.toInt ∧ r.toInt ≤ a.toInt + 30) 0 0 := by
  refine MtI.of (by decide) (Nat.le_of_ble_eq_true rfl) ?_
  intro p e s m args below meth c Q A X hw hin hret ls hl
  have hx := X.1.1
  have hb := X.1.2.1
  have hl : lv_has ls 4 [(0, .int a), (1, .int b), (2, .int d)] := hl
  refine lv_iload_n hx hb dJ8_newLength_cabcc_0 rfl (lv_at hl 0 rfl) ?_
  refine lv_iload_n hx hb dJ8_newLength_cabcc_1 rfl (lv_at hl 1 rfl) ?_
  refine lv_iload_n hx hb dJ8_newLength_cabcc_2 rfl (lv_at hl 2 rfl) ?_
  refine va_mmax hx hb (by rw [X.1.2.2.1]; exact hl.1.symm) X.1.2.2.2.1 (X.1.2.2.2.2 _ wd_r28_13) (X.1.2.2.2.2 _ wd_r28_5) (X.1.2.2.2.2 _ wd_r28_6) (X.1.2.2.2.2 _ wd_r28_7) (Nat.le_of_ble_eq_true rfl) (Nat.le_of_ble_eq_true rfl) (Nat.zero_le _) (Nat.zero_le _) dJ8_newLength_cabcc_3 ?_
  refine lv_topi (fun v3_1 e3_1 => ?_)
  have hmx := mx_b e3_1 h1 hd
  refine lv_iadd hx hb dJ8_newLength_cabcc_6 ?_
  refine lv_topi (fun v6_2 e6_2 => ?_)
  have t6_2 := iAdd e6_2 rfl rfl (by omega) (by omega)
  have t6 := t6_2
  refine lv_istore_n (lv' := [(3, .int v6_2), (0, .int a), (1, .int b), (2, .int d)]) hx hb dJ8_newLength_cabcc_7 rfl hl (by decide) rfl (fun ls hl => ?_)
  refine lv_iconst (v := 0) hx hb dJ8_newLength_cabcc_8 (by decide) ?_
  refine lv_iload_n hx hb dJ8_newLength_cabcc_9 rfl (lv_at hl 0 rfl) ?_
  refine lv_icmp_ge (tgt := 21) hx hb dJ8_newLength_cabcc_10 (by decide) (fun c10_3 => absurd c10_3 (fun h => absurd (iLe h rfl t_0) (by omega))) (fun c10_3 => ?_)
  have D10_3 := iNle c10_3 rfl t_0
  refine lv_iload_n hx hb dJ8_newLength_cabcc_13 rfl (lv_at hl 0 rfl) ?_
  refine lv_ldc hx hb X.1.2.2.2.1 (X.1.2.2.2.2 _ wd_r28_14) dJ8_newLength_cabcc_14 ?_
  refine lv_icmp_gt (tgt := 21) hx hb dJ8_newLength_cabcc_16 (by decide) (fun c16_4 => absurd c16_4 (fun h => absurd (iLt h (by decide : (2147483639 : Int32).toInt = 2147483639) rfl) (by omega))) (fun c16_4 => ?_)
  have D16_4 := iNlt c16_4 t_2147483639 rfl
  refine lv_iload_n hx hb dJ8_newLength_cabcc_19 rfl (lv_at hl 0 rfl) ?_
  exact hret v6_2 _ _ _ _ _ ⟨rfl, by omega, by omega⟩ hw rfl dJ8_newLength_cabcc_20
set_option maxHeartbeats 4000000 in
set_option maxRecDepth 100000 in
theorem c_J7_copyOf_6403c (l : Launch) (G : Gh) (S : Pl) (ar : Nat) (nn : Int32) (hA : is S 18 ar) (hn : (pN S ar : Int) ≤ nn.toInt ∧ nn.toInt ≤ 90) (hel : ∀ i, i < pN S ar → ∀ y, qR S ar i = some y → ob S y) : MtQ l yJ7_copyOf_6403c cJ7_copyOf_6403c 4 (some (.array (.object "java/lang/Object"))) (Rm 1 1 90) G [.ref ar, .int nn, .ref (G.2.2.2.2 5)] S (fun (r : Option Nat) (S' : Pl) => ∃ b, r = some b ∧ Gr S S' b nn.toNatClampNeg (pN S ar) (qR S ar)) 1 90 := by
  refine MtQ.of (by decide) (Nat.le_of_ble_eq_true rfl) ?_
  intro p e s m args below meth c Q A X hw hin hret ls hl
  have hx := X.1.1
  have hb := X.1.2.1
  have hl : lv_has ls 4 [(0, .ref ar), (1, .int nn), (2, .ref (G.2.2.2.2 5))] := hl
  have hnn := cl_toInt (x := nn) (by omega)
  refine lv_aload_n hx hb dJ7_copyOf_6403c_0 rfl (lv_at hl 2 rfl) ?_
  refine va_ldcM (mi := G.2.2.2.2 5) hx hb X.1.2.2.2.1 (X.1.2.2.2.2 _ wd_r29_5) X.2.2.2.2.1.2.2.1.2.2.2.2 dJ7_copyOf_6403c_1 ?_
  refine lv_acmp_ne (rx := some (G.2.2.2.2 5)) (ry := some (G.2.2.2.2 5)) (tgt := 13) hx hb dJ7_copyOf_6403c_3 (by decide) (fun h => absurd rfl h) (fun _ => ?_)
  refine lv_iload_n hx hb dJ7_copyOf_6403c_6 rfl (lv_at hl 1 rfl) ?_
  refine q_nwObject (N' := nn.toNatClampNeg) X hw wd_r29_6 (fun h => absurd (iLt h rfl t_0) (by omega)) rfl (by omega) (Nat.le_of_ble_eq_true rfl) (show 0 + nn.toNatClampNeg ≤ 90 by omega) dJ7_copyOf_6403c_7 (fun nb H fnb hw => ?_)
  refine W.widen (k := 1) (n := 90) (Nat.le_of_ble_eq_true rfl) (show 0 + nn.toNatClampNeg ≤ 90 by omega) ?_
  obtain ⟨T7_1, eT7_1, hw⟩ : ∃ zz9 : Pl, zz9 = nA S nb 18 nn.toNatClampNeg ∧ PX G A s.heap zz9 H [] := ⟨_, rfl, hw⟩
  refine lv_goto (tgt := 24) hx hb dJ7_copyOf_6403c_10 (by decide) ?_
  have lnT0 : pN T7_1 ar = pN S ar := lnA eT7_1 fnb hA.1 rfl
  have qrT0 : ∀ k, qR T7_1 ar k = qR S ar k := fun k => qrA eT7_1 fnb hA.1 rfl
  refine lv_astore_n (lv' := [(3, .ref nb), (0, .ref ar), (1, .int nn), (2, .ref (G.2.2.2.2 5))]) hx hb dJ7_copyOf_6403c_24 rfl hl (by decide) rfl (fun ls hl => ?_)
  refine lv_aload_n hx hb dJ7_copyOf_6403c_25 rfl (lv_at hl 1 rfl) ?_
  refine lv_iconst (v := 0) hx hb dJ7_copyOf_6403c_26 (by decide) ?_
  refine lv_aload_n hx hb dJ7_copyOf_6403c_27 rfl (lv_at hl 0 rfl) ?_
  refine lv_iconst (v := 0) hx hb dJ7_copyOf_6403c_28 (by decide) ?_
  refine lv_aload_n hx hb dJ7_copyOf_6403c_29 rfl (lv_at hl 1 rfl) ?_
  obtain ⟨ln, eln⟩ : ∃ z : Int32, Int32.ofNat (pN T7_1 ar) = z := ⟨_, rfl⟩
  refine q_lenObject (v := ln) X hw (isA eT7_1 fnb hA) eln dJ7_copyOf_6403c_30 ?_
  have tln : ln.toInt = (pN T7_1 ar : Int) := by rw [← eln]; exact nI_toInt (by omega)
  refine lv_iload_n hx hb dJ7_copyOf_6403c_31 rfl (lv_at hl 2 rfl) ?_
  refine va_mmin hx hb (by rw [X.1.2.2.1]; exact hl.1.symm) X.1.2.2.2.1 (X.1.2.2.2.2 _ wd_r29_7) (X.1.2.2.2.2 _ wd_r29_8) (X.1.2.2.2.2 _ wd_r28_6) (X.1.2.2.2.2 _ wd_r29_9) (Nat.le_of_ble_eq_true rfl) (Nat.le_of_ble_eq_true rfl) (Nat.le_of_ble_eq_true rfl) (Nat.le_of_ble_eq_true rfl) dJ7_copyOf_6403c_32 ?_
  refine lv_topi (fun v32_2 e32_2 => ?_)
  have hmn := mn_l e32_2 (by omega)
  have hmc : v32_2.toNatClampNeg = pN S ar := by rw [hmn]; have := cl_toInt (x := ln) (by omega); omega
  refine q_cpy X hw hl.1 wd_r29_10 wd_r29_11 wd_r29_12 wd_r29_13 (isA eT7_1 fnb hA) (isA_n eT7_1) (fun h => absurd (iLt h (show _ = (pN S ar : Int) by rw [hmn]; exact tln.trans (congrArg _ lnT0)) t_0) (by omega)) (by rw [hmc]; exact Nat.le_of_eq lnT0.symm) (by rw [hmc, lnA_n eT7_1]; omega) (fun i hi y hy => by rw [hmc] at hi; exact ob.ex (hel i hi y (by rw [← qrT0]; exact hy)) (Ex.mA eT7_1 fnb)) (Nat.le_of_ble_eq_true rfl) (by decide) dJ7_copyOf_6403c_35 (fun H locs hw => ?_)
  obtain ⟨T35_3, eT35_3, hw⟩ : ∃ zz9 : Pl, zz9 = tR T7_1 nb (va_cpy (qR T7_1 ar) (qR T7_1 nb) 0 0 v32_2.toNatClampNeg) ∧ PX G A s.heap zz9 H locs := ⟨_, rfl, hw⟩
  refine lv_aload_n hx hb dJ7_copyOf_6403c_38 rfl (lv_at hl 0 rfl) ?_
  exact hret (some nb) _ _ _ _ _ ⟨nb, rfl, by have := Gr_cpy fnb eT7_1 hA.1 eT35_3; rw [hmc] at this; exact this⟩ hw (Or.inr ⟨_, rfl⟩) dJ7_copyOf_6403c_39
set_option maxHeartbeats 4000000 in
set_option maxRecDepth 100000 in
theorem c_J7_copyOf_1904c (l : Launch) (G : Gh) (S : Pl) (ar : Nat) (nn : Int32) (hA : is S 18 ar) (hn : (pN S ar : Int) ≤ nn.toInt ∧ nn.toInt ≤ 90) (hel : ∀ i, i < pN S ar → ∀ y, qR S ar i = some y → ob S y) : MtQ l yJ7_copyOf_1904c cJ7_copyOf_1904c 2 (some (.array (.object "java/lang/Object"))) (Rm 2 1 90) G [.ref ar, .int nn] S (fun (r : Option Nat) (S' : Pl) => ∃ b, r = some b ∧ Gr S S' b nn.toNatClampNeg (pN S ar) (qR S ar)) 1 90 := by
  refine MtQ.of (by decide) (Nat.le_of_ble_eq_true rfl) ?_
  intro p e s m args below meth c Q A X hw hin hret ls hl
  have hx := X.1.1
  have hb := X.1.2.1
  have hl : lv_has ls 2 [(0, .ref ar), (1, .int nn)] := hl
  refine lv_aload_n hx hb dJ7_copyOf_1904c_0 rfl (lv_at hl 0 rfl) ?_
  refine lv_iload_n hx hb dJ7_copyOf_1904c_1 rfl (lv_at hl 1 rfl) ?_
  refine lv_aload_n hx hb dJ7_copyOf_1904c_2 rfl (lv_at hl 0 rfl) ?_
  refine va_getC (C := "[Ljava/lang/Object;") (mi := G.2.2.2.2 5) hx hb (X.1.2.2.1.trans hl.1.symm) X.1.2.2.2.1 (X.1.2.2.2.2 _ wd_r28_22) (va_Dc.use X.2.2.2.2.1.2.2.1.2.1) (X.1.2.2.2.2 _ wd_r28_23) (X.1.2.2.2.2 _ wd_r29_0) (X.1.2.2.2.2 _ wd_r29_1) X.2.2.2.2.1.2.2.1.2.2.2.2 (rcvA X hw hA) (Nat.le_of_ble_eq_true rfl) (Nat.le_of_ble_eq_true rfl) dJ7_copyOf_1904c_3 ?_
  refine k_Sq (n := 3) X hw (c_J7_copyOf_6403c l G _ ar nn hA hn hel) wd_r29_2 wd_r29_3 wd_r28_20 wd_r29_4 ⟨by decide, by decide, by decide +kernel⟩ rfl rfl ⟨Nat.le_of_ble_eq_true rfl, Nat.le_of_ble_eq_true rfl⟩ rfl rfl hl.1 (Nat.le_of_ble_eq_true rfl) dJ7_copyOf_1904c_6 ⟨Nat.le_of_ble_eq_true rfl, Nat.le_of_ble_eq_true rfl⟩ (fun r6_1 S6_3 H locs h6_2 hw => ?_)
  obtain ⟨nb, rfl, hG⟩ := h6_2
  exact hret (some nb) _ _ _ _ _ ⟨nb, rfl, hG⟩ hw (Or.inr ⟨_, rfl⟩) dJ7_copyOf_1904c_9
set_option maxHeartbeats 4000000 in
set_option maxRecDepth 100000 in
theorem c_grow_k0 (l : Launch) (G : Gh) (S : Pl) (la ar tf n : Nat) (el : Nat → Nat) (mn : Int32) (htf : tf = 0) (hL : lsh G S la ar tf n el) (hn : n < 60) (hm : mn.toInt = (n : Int) + 1) : MtQ l yJx4a65c_grow_92f84 cJx4a65c_grow_92f84 4 (some (.array (.object "java/lang/Object"))) (Rm 3 1 90) G [.ref la, .int mn] S (fun (r : Option Nat) (S' : Pl) => ∃ b N T, r = some b ∧ (n < N ∧ 10 ≤ N ∧ N ≤ 90) ∧ Gr S T b N n (qR S ar) ∧ sR T 91 la (some b) = S') 1 90 := by
  refine MtQ.of (by decide) (Nat.le_of_ble_eq_true rfl) ?_
  intro p e s m args below meth c Q A X hw hin hret ls hl
  have hx := X.1.1
  have hb := X.1.2.1
  have hl : lv_has ls 4 [(0, .ref la), (1, .int mn)] := hl
  refine lv_aload_n hx hb dJx4a65c_grow_92f84_0 rfl (lv_at hl 0 rfl) ?_
  refine gf_Jx4a65c_9 (b := ar) X hw hL.1 hL.2.1 dJx4a65c_grow_92f84_1 ?_
  refine va_tlen (v := 0) hx hb (show va_T (.object "java/lang/Object") ar 0 (fun _ => .null) A s s.heap by rw [(hL.2.2.2.2.1 htf).1]; exact X.2.2.2.2.1.2.2.2.2.2.2.2.2.1.2) hw.2.2 rfl dJx4a65c_grow_92f84_4 ?_
  refine lv_istore_n (lv' := [(2, .int 0), (0, .ref la), (1, .int mn)]) hx hb dJx4a65c_grow_92f84_5 rfl hl (by decide) rfl (fun ls hl => ?_)
  refine lv_iload_n hx hb dJx4a65c_grow_92f84_6 rfl (lv_at hl 0 rfl) ?_
  refine lv_if_gt (tgt := 20) hx hb dJx4a65c_grow_92f84_7 (by decide) (fun c7_1 => absurd c7_1 (by decide)) (fun c7_1 => ?_)
  refine lv_aload_n hx hb dJx4a65c_grow_92f84_10 rfl (lv_at hl 1 rfl) ?_
  refine gf_Jx4a65c_9 (b := ar) X hw hL.1 hL.2.1 dJx4a65c_grow_92f84_11 ?_
  refine va_gets hx hb X.2.2.2.2.1.2.2.2.2.2.2.2.2.1.1 hw.2.2 X.1.2.2.2.1 (X.1.2.2.2.2 _ wd_r3_12) (fun _ h => h) dJx4a65c_grow_92f84_14 ?_
  refine lv_acmp_eq (rx := some ar) (ry := some (G.2.2.2.2 4)) (tgt := 45) hx hb dJx4a65c_grow_92f84_17 (by decide) (fun _ => ?_) (fun h => absurd (congrArg some (hL.2.2.2.2.1 htf).1) h)
  refine lv_aload_n hx hb dJx4a65c_grow_92f84_45 rfl (lv_at hl 1 rfl) ?_
  refine lv_bipush (v := 10) hx hb dJx4a65c_grow_92f84_46 (by decide) ?_
  refine lv_iload_n hx hb dJx4a65c_grow_92f84_48 rfl (lv_at hl 2 rfl) ?_
  refine va_mmax hx hb (by rw [X.1.2.2.1]; exact hl.1.symm) X.1.2.2.2.1 (X.1.2.2.2.2 _ wd_r28_4) (X.1.2.2.2.2 _ wd_r28_5) (X.1.2.2.2.2 _ wd_r28_6) (X.1.2.2.2.2 _ wd_r28_7) (Nat.le_of_ble_eq_true rfl) (Nat.le_of_ble_eq_true rfl) (Nat.zero_le _) (Nat.zero_le _) dJx4a65c_grow_92f84_49 ?_
  refine lv_topi (fun v49_2 e49_2 => ?_)
  have h10 := mx_10 e49_2 (by have := (hL.2.2.2.2.1 htf).2; omega)
  have h10t : v49_2.toInt = 10 := by rw [h10]; decide
  have h10c := cl_toInt (x := v49_2) (by omega)
  refine q_nwObject (N' := v49_2.toNatClampNeg) X hw wd_r28_8 (fun h => absurd (iLt h rfl t_0) (by omega)) rfl (by omega) (Nat.le_of_ble_eq_true rfl) (show 0 + v49_2.toNatClampNeg ≤ 90 by omega) dJx4a65c_grow_92f84_52 (fun nb H fnb hw => ?_)
  refine W.widen (k := 1) (n := 90) (Nat.le_of_ble_eq_true rfl) (show 0 + v49_2.toNatClampNeg ≤ 90 by omega) ?_
  obtain ⟨T52_3, eT52_3, hw⟩ : ∃ zz9 : Pl, zz9 = nA S nb 18 v49_2.toNatClampNeg ∧ PX G A s.heap zz9 H [] := ⟨_, rfl, hw⟩
  refine lv_dup_x1 hx hb dJx4a65c_grow_92f84_55 rfl rfl ?_
  refine pf_Jx4a65c_9 X hw (isA eT52_3 fnb hL.1) dJx4a65c_grow_92f84_56 (fun H locs hw => ?_)
  obtain ⟨T56_4, eT56_4, hw⟩ : ∃ zz9 : Pl, zz9 = sR T52_3 91 la (some nb) ∧ PX G A s.heap zz9 H locs := ⟨_, rfl, hw⟩
  exact hret (some nb) _ _ _ _ _ ⟨nb, v49_2.toNatClampNeg, T52_3, rfl, by have := (hL.2.2.2.2.1 htf).2; omega, (by rw [(hL.2.2.2.2.1 htf).2]; exact Gr_nil fnb eT52_3), eT56_4.symm⟩ hw (Or.inr ⟨_, rfl⟩) dJx4a65c_grow_92f84_59
set_option maxHeartbeats 4000000 in
set_option maxRecDepth 100000 in
theorem c_grow_k1 (l : Launch) (G : Gh) (S : Pl) (la ar tf n : Nat) (el : Nat → Nat) (mn : Int32) (htf : tf ≠ 0) (hfull : pN S ar = n) (hL : lsh G S la ar tf n el) (hn : n < 60) (hm : mn.toInt = (n : Int) + 1) : MtQ l yJx4a65c_grow_92f84 cJx4a65c_grow_92f84 4 (some (.array (.object "java/lang/Object"))) (Rm 3 1 90) G [.ref la, .int mn] S (fun (r : Option Nat) (S' : Pl) => ∃ b N T, r = some b ∧ (n < N ∧ 10 ≤ N ∧ N ≤ 90) ∧ Gr S T b N n (qR S ar) ∧ sR T 91 la (some b) = S') 1 90 := by
  refine MtQ.of (by decide) (Nat.le_of_ble_eq_true rfl) ?_
  intro p e s m args below meth c Q A X hw hin hret ls hl
  have hx := X.1.1
  have hb := X.1.2.1
  have hl : lv_has ls 4 [(0, .ref la), (1, .int mn)] := hl
  have hT := hL.2.2.2.2.2.1 htf
  have hA := hT.1
  refine lv_aload_n hx hb dJx4a65c_grow_92f84_0 rfl (lv_at hl 0 rfl) ?_
  refine gf_Jx4a65c_9 (b := ar) X hw hL.1 hL.2.1 dJx4a65c_grow_92f84_1 ?_
  obtain ⟨ln, eln⟩ : ∃ z : Int32, Int32.ofNat (pN S ar) = z := ⟨_, rfl⟩
  refine q_lenObject (v := ln) X hw hA eln dJx4a65c_grow_92f84_4 ?_
  have tln : ln.toInt = (pN S ar : Int) := by rw [← eln]; exact nI_toInt (by omega)
  refine lv_istore_n (lv' := [(2, .int ln), (0, .ref la), (1, .int mn)]) hx hb dJx4a65c_grow_92f84_5 rfl hl (by decide) rfl (fun ls hl => ?_)
  refine lv_iload_n hx hb dJx4a65c_grow_92f84_6 rfl (lv_at hl 0 rfl) ?_
  refine lv_if_gt (tgt := 20) hx hb dJx4a65c_grow_92f84_7 (by decide) (fun c7_1 => ?_) (fun c7_1 => absurd c7_1 (fun h => h (Int32.lt_iff_toInt_lt.mpr (by have := t_0; omega))))
  have D7_1 := iLt c7_1 t_0 rfl
  refine lv_iload_n hx hb dJx4a65c_grow_92f84_20 rfl (lv_at hl 0 rfl) ?_
  refine lv_iload_n hx hb dJx4a65c_grow_92f84_21 rfl (lv_at hl 2 rfl) ?_
  refine lv_iload_n hx hb dJx4a65c_grow_92f84_22 rfl (lv_at hl 0 rfl) ?_
  refine lv_isub hx hb dJx4a65c_grow_92f84_23 ?_
  refine lv_topi (fun v23_2 e23_2 => ?_)
  have t23_2 := iSub e23_2 rfl rfl (by omega) (by omega)
  have t23 := t23_2
  refine lv_iload_n hx hb dJx4a65c_grow_92f84_24 rfl (lv_at hl 0 rfl) ?_
  refine lv_iconst (v := 1) hx hb dJx4a65c_grow_92f84_25 (by decide) ?_
  refine lv_ishr hx hb dJx4a65c_grow_92f84_26 ?_
  refine lv_topi (fun v26_3 e26_3 => ?_)
  have hsh := shr1 e26_3 (by omega)
  refine k_Si (n := 3) X hw (c_J8_newLength_cabcc l G _ ln v23_2 v26_3 (by omega) (by omega) hsh) wd_r28_9 wd_r28_10 wd_r28_11 wd_r28_12 ⟨by decide, by decide, by decide +kernel⟩ rfl rfl ⟨Nat.le_of_ble_eq_true rfl, Nat.le_of_ble_eq_true rfl⟩ rfl rfl hl.1 (Nat.le_of_ble_eq_true rfl) dJx4a65c_grow_92f84_27 ⟨Nat.le_of_ble_eq_true rfl, Nat.le_of_ble_eq_true rfl⟩ (fun r27_4 S27_6 H locs h27_5 hw => ?_)
  obtain ⟨rfl, h27_5⟩ := h27_5
  have hNL := h27_5
  have hNc := cl_toInt (x := r27_4) (by omega)
  refine lv_istore_n (lv' := [(3, .int r27_4), (2, .int ln), (0, .ref la), (1, .int mn)]) hx hb dJx4a65c_grow_92f84_30 rfl hl (by decide) rfl (fun ls hl => ?_)
  refine lv_aload_n hx hb dJx4a65c_grow_92f84_31 rfl (lv_at hl 2 rfl) ?_
  refine lv_aload_n hx hb dJx4a65c_grow_92f84_32 rfl (lv_at hl 2 rfl) ?_
  refine gf_Jx4a65c_9 (b := ar) X hw hL.1 hL.2.1 dJx4a65c_grow_92f84_33 ?_
  refine lv_iload_n hx hb dJx4a65c_grow_92f84_36 rfl (lv_at hl 0 rfl) ?_
  refine k_Sq (n := 2) X hw (c_J7_copyOf_1904c l G _ ar r27_4 hA (by omega) (fun i hi y hy => by have q := hL.2.2.2.2.2.2 i (by omega); rw [q.1] at hy; cases hy; exact q.2)) wd_r28_18 wd_r28_19 wd_r28_20 wd_r28_21 ⟨by decide, by decide, by decide +kernel⟩ rfl rfl ⟨Nat.le_of_ble_eq_true rfl, Nat.le_of_ble_eq_true rfl⟩ rfl rfl hl.1 (Nat.le_of_ble_eq_true rfl) dJx4a65c_grow_92f84_37 ⟨Nat.le_of_ble_eq_true rfl, Nat.le_of_ble_eq_true rfl⟩ (fun r37_7 S37_9 H locs h37_8 hw => ?_)
  obtain ⟨nb, rfl, hG⟩ := h37_8
  refine lv_dup_x1 hx hb dJx4a65c_grow_92f84_40 rfl rfl ?_
  refine pf_Jx4a65c_9 X hw (Gr.iz hG hL.1) dJx4a65c_grow_92f84_41 (fun H locs hw => ?_)
  obtain ⟨T41_10, eT41_10, hw⟩ : ∃ zz9 : Pl, zz9 = sR S37_9 91 la (some nb) ∧ PX G A s.heap zz9 H locs := ⟨_, rfl, hw⟩
  exact hret (some nb) _ _ _ _ _ ⟨nb, r27_4.toNatClampNeg, S37_9, rfl, by omega, (by rw [hfull] at hG; exact hG), eT41_10.symm⟩ hw (Or.inr ⟨_, rfl⟩) dJx4a65c_grow_92f84_44
set_option maxHeartbeats 4000000 in
set_option maxRecDepth 100000 in
theorem c_grw_k0 (l : Launch) (G : Gh) (S : Pl) (la ar tf n : Nat) (el : Nat → Nat) (htf : tf = 0) (hL : lsh G S la ar tf n el) (hn : n < 60) : MtQ l yJx4a65c_grow_d5877 cJx4a65c_grow_d5877 1 (some (.array (.object "java/lang/Object"))) (Rm 4 1 90) G [.ref la] S (fun (r : Option Nat) (S' : Pl) => ∃ b N T, r = some b ∧ (n < N ∧ 10 ≤ N ∧ N ≤ 90) ∧ Gr S T b N n (qR S ar) ∧ sR T 91 la (some b) = S') 1 90 := by
  refine MtQ.of (by decide) (Nat.le_of_ble_eq_true rfl) ?_
  intro p e s m args below meth c Q A X hw hin hret ls hl
  have hx := X.1.1
  have hb := X.1.2.1
  have hl : lv_has ls 1 [(0, .ref la)] := hl
  have h92 := hL.2.2.1
  refine lv_aload_n hx hb dJx4a65c_grow_d5877_0 rfl (lv_at hl 0 rfl) ?_
  refine lv_aload_n hx hb dJx4a65c_grow_d5877_1 rfl (lv_at hl 0 rfl) ?_
  refine gf_Jx4a65c_48 (v := (pI S) 92 la) X hw hL.1 rfl dJx4a65c_grow_d5877_2 ?_
  refine lv_iconst (v := 1) hx hb dJx4a65c_grow_d5877_5 (by decide) ?_
  refine lv_iadd hx hb dJx4a65c_grow_d5877_6 ?_
  refine lv_topi (fun v6_1 e6_1 => ?_)
  have t6_1 := iAdd e6_1 rfl t_1 (by omega) (by omega)
  have t6 := t6_1
  refine k_Vq (n := 1) X hw (rcvk (ci := 0) X hw hL.1 (fun _ _ _ _ _ _ _ => ⟨_, rfl⟩) rfl) (c_grow_k0 l G _ la ar tf n el v6_1 htf hL hn (by omega)) wd_r28_0 wd_r28_1 wd_r28_2 wd_r1_22 wd_r28_3 ⟨by decide, by decide, by decide +kernel⟩ rfl rfl ⟨Nat.le_of_ble_eq_true rfl, Nat.le_of_ble_eq_true rfl⟩ rfl rfl hl.1 (Nat.le_of_ble_eq_true rfl) dJx4a65c_grow_d5877_7 ⟨Nat.le_of_ble_eq_true rfl, Nat.le_of_ble_eq_true rfl⟩ (fun r7_2 S7_4 H locs h7_3 hw => ?_)
  obtain ⟨nb, N, T, rfl, hN, hG, hS⟩ := h7_3
  exact hret (some nb) _ _ _ _ _ ⟨nb, N, T, rfl, hN, hG, hS⟩ hw (Or.inr ⟨_, rfl⟩) dJx4a65c_grow_d5877_10
set_option maxHeartbeats 4000000 in
set_option maxRecDepth 100000 in
theorem c_grw_k1 (l : Launch) (G : Gh) (S : Pl) (la ar tf n : Nat) (el : Nat → Nat) (htf : tf ≠ 0) (hfull : pN S ar = n) (hL : lsh G S la ar tf n el) (hn : n < 60) : MtQ l yJx4a65c_grow_d5877 cJx4a65c_grow_d5877 1 (some (.array (.object "java/lang/Object"))) (Rm 4 1 90) G [.ref la] S (fun (r : Option Nat) (S' : Pl) => ∃ b N T, r = some b ∧ (n < N ∧ 10 ≤ N ∧ N ≤ 90) ∧ Gr S T b N n (qR S ar) ∧ sR T 91 la (some b) = S') 1 90 := by
  refine MtQ.of (by decide) (Nat.le_of_ble_eq_true rfl) ?_
  intro p e s m args below meth c Q A X hw hin hret ls hl
  have hx := X.1.1
  have hb := X.1.2.1
  have hl : lv_has ls 1 [(0, .ref la)] := hl
  have h92 := hL.2.2.1
  refine lv_aload_n hx hb dJx4a65c_grow_d5877_0 rfl (lv_at hl 0 rfl) ?_
  refine lv_aload_n hx hb dJx4a65c_grow_d5877_1 rfl (lv_at hl 0 rfl) ?_
  refine gf_Jx4a65c_48 (v := (pI S) 92 la) X hw hL.1 rfl dJx4a65c_grow_d5877_2 ?_
  refine lv_iconst (v := 1) hx hb dJx4a65c_grow_d5877_5 (by decide) ?_
  refine lv_iadd hx hb dJx4a65c_grow_d5877_6 ?_
  refine lv_topi (fun v6_1 e6_1 => ?_)
  have t6_1 := iAdd e6_1 rfl t_1 (by omega) (by omega)
  have t6 := t6_1
  refine k_Vq (n := 1) X hw (rcvk (ci := 0) X hw hL.1 (fun _ _ _ _ _ _ _ => ⟨_, rfl⟩) rfl) (c_grow_k1 l G _ la ar tf n el v6_1 htf hfull hL hn (by omega)) wd_r28_0 wd_r28_1 wd_r28_2 wd_r1_22 wd_r28_3 ⟨by decide, by decide, by decide +kernel⟩ rfl rfl ⟨Nat.le_of_ble_eq_true rfl, Nat.le_of_ble_eq_true rfl⟩ rfl rfl hl.1 (Nat.le_of_ble_eq_true rfl) dJx4a65c_grow_d5877_7 ⟨Nat.le_of_ble_eq_true rfl, Nat.le_of_ble_eq_true rfl⟩ (fun r7_2 S7_4 H locs h7_3 hw => ?_)
  obtain ⟨nb, N, T, rfl, hN, hG, hS⟩ := h7_3
  exact hret (some nb) _ _ _ _ _ ⟨nb, N, T, rfl, hN, hG, hS⟩ hw (Or.inr ⟨_, rfl⟩) dJx4a65c_grow_d5877_10
set_option maxHeartbeats 4000000 in
set_option maxRecDepth 100000 in
theorem c_add3_in (l : Launch) (G : Gh) (S : Pl) (la ar tf n : Nat) (el : Nat → Nat) (b : Nat) (x : Int32) (htf : tf ≠ 0) (hlt : n < pN S ar) (hL : lsh G S la ar tf n el) (hn : n < 60) (hx9 : x.toInt = (n : Int)) (hob : ob S b) : MtV l yJx4a65c_add_72be8 cJx4a65c_add_72be8 4 none (Rm 5 1 90) G [.ref la, .ref b, .ref ar, .int x] S (fun (S' : Pl) => ∃ ar', AddP S S' la ar tf n b ar') 1 90 := by
  refine MtV.of (by decide) (Nat.le_of_ble_eq_true rfl) ?_
  intro p e s m args below meth c Q A X hw hin hret ls hl
  have hx := X.1.1
  have hb := X.1.2.1
  have hl : lv_has ls 4 [(0, .ref la), (1, .ref b), (2, .ref ar), (3, .int x)] := hl
  have hT := hL.2.2.2.2.2.1 htf
  have hA := hT.1
  refine lv_iload_n hx hb dJx4a65c_add_72be8_0 rfl (lv_at hl 3 rfl) ?_
  refine lv_aload_n hx hb dJx4a65c_add_72be8_1 rfl (lv_at hl 2 rfl) ?_
  obtain ⟨ln, eln⟩ : ∃ z : Int32, Int32.ofNat (pN S ar) = z := ⟨_, rfl⟩
  refine q_lenObject (v := ln) X hw hA eln dJx4a65c_add_72be8_2 ?_
  have tln : ln.toInt = (pN S ar : Int) := by rw [← eln]; exact nI_toInt (by omega)
  refine lv_icmp_ne (tgt := 11) hx hb dJx4a65c_add_72be8_3 (by decide) (fun c3_1 => ?_) (fun c3_1 => absurd c3_1 (fun q => absurd (congrArg Int32.toInt q) (by omega)))
  have D3_1 := iNe c3_1 rfl rfl
  refine lv_aload_n hx hb dJx4a65c_add_72be8_11 rfl (lv_at hl 2 rfl) ?_
  refine lv_iload_n hx hb dJx4a65c_add_72be8_12 rfl (lv_at hl 3 rfl) ?_
  refine lv_aload_n hx hb dJx4a65c_add_72be8_13 rfl (lv_at hl 1 rfl) ?_
  refine q_stObject X hw hA (any_ob X hw hob) (vp_in_iff.mpr ⟨by omega, by omega⟩) dJx4a65c_add_72be8_14 (fun H locs hw => ?_)
  obtain ⟨T14_2, eT14_2, hw⟩ : ∃ zz9 : Pl, zz9 = tR S ar (va_up (qR S ar) x.toNatClampNeg (some b)) ∧ PX G A s.heap zz9 H locs := ⟨_, rfl, hw⟩
  refine lv_aload_n hx hb dJx4a65c_add_72be8_15 rfl (lv_at hl 0 rfl) ?_
  refine lv_iload_n hx hb dJx4a65c_add_72be8_16 rfl (lv_at hl 3 rfl) ?_
  refine lv_iconst (v := 1) hx hb dJx4a65c_add_72be8_17 (by decide) ?_
  refine lv_iadd hx hb dJx4a65c_add_72be8_18 ?_
  refine lv_topi (fun v18_3 e18_3 => ?_)
  have t18_3 := iAdd e18_3 rfl t_1 (by omega) (by omega)
  have t18 := t18_3
  refine pf_Jx4a65c_48 X hw (isT eT14_2 hL.1) dJx4a65c_add_72be8_19 (fun H locs hw => ?_)
  refine W.widen (k := 1) (n := 90) (Nat.le_of_ble_eq_true rfl) (Nat.le_of_ble_eq_true rfl) ?_
  exact hret (sI T14_2 92 la v18_3) _ _ _ _ ⟨_, add_in hL htf hlt hx9 (t18.trans (by rw [hx9])) eT14_2⟩ hw dJx4a65c_add_72be8_22
set_option maxHeartbeats 4000000 in
set_option maxRecDepth 100000 in
theorem c_add3_g0 (l : Launch) (G : Gh) (S : Pl) (la ar tf n : Nat) (el : Nat → Nat) (b : Nat) (x : Int32) (htf : tf = 0) (hL : lsh G S la ar tf n el) (hn : n < 60) (hx9 : x.toInt = (n : Int)) (hob : ob S b) : MtV l yJx4a65c_add_72be8 cJx4a65c_add_72be8 4 none (Rm 5 1 90) G [.ref la, .ref b, .ref ar, .int x] S (fun (S' : Pl) => ∃ ar', AddP S S' la ar tf n b ar') 1 90 := by
  refine MtV.of (by decide) (Nat.le_of_ble_eq_true rfl) ?_
  intro p e s m args below meth c Q A X hw hin hret ls hl
  have hx := X.1.1
  have hb := X.1.2.1
  have hl : lv_has ls 4 [(0, .ref la), (1, .ref b), (2, .ref ar), (3, .int x)] := hl
  refine lv_iload_n hx hb dJx4a65c_add_72be8_0 rfl (lv_at hl 3 rfl) ?_
  refine lv_aload_n hx hb dJx4a65c_add_72be8_1 rfl (lv_at hl 2 rfl) ?_
  refine va_tlen (v := 0) hx hb (show va_T (.object "java/lang/Object") ar 0 (fun _ => .null) A s s.heap by rw [(hL.2.2.2.2.1 htf).1]; exact X.2.2.2.2.1.2.2.2.2.2.2.2.2.1.2) hw.2.2 rfl dJx4a65c_add_72be8_2 ?_
  refine lv_icmp_ne (tgt := 11) hx hb dJx4a65c_add_72be8_3 (by decide) (fun c3_1 => absurd c3_1 (fun h => h (i_of hx9 (by have := (hL.2.2.2.2.1 htf).2; rw [this]; decide)))) (fun c3_1 => ?_)
  have D3_1 := iEq c3_1 rfl t_0
  refine lv_aload_n hx hb dJx4a65c_add_72be8_6 rfl (lv_at hl 0 rfl) ?_
  refine k_Vq (n := 0) X hw (rcvk (ci := 0) X hw hL.1 (fun _ _ _ _ _ _ _ => ⟨_, rfl⟩) rfl) (c_grw_k0 l G _ la ar tf n el htf hL hn) wd_r27_20 wd_r27_21 wd_r27_22 wd_r1_22 wd_r27_23 ⟨by decide, by decide, by decide +kernel⟩ rfl rfl ⟨Nat.le_of_ble_eq_true rfl, Nat.le_of_ble_eq_true rfl⟩ rfl rfl hl.1 (Nat.le_of_ble_eq_true rfl) dJx4a65c_add_72be8_7 ⟨Nat.le_of_ble_eq_true rfl, Nat.le_of_ble_eq_true rfl⟩ (fun r7_2 S7_4 H locs h7_3 hw => ?_)
  obtain ⟨nb, N, T, rfl, hN, hG, hS⟩ := h7_3
  refine lv_astore_n (lv' := [(2, .ref nb), (0, .ref la), (1, .ref b), (3, .int x)]) hx hb dJx4a65c_add_72be8_10 rfl hl (by decide) rfl (fun ls hl => ?_)
  refine lv_aload_n hx hb dJx4a65c_add_72be8_11 rfl (lv_at hl 0 rfl) ?_
  refine lv_iload_n hx hb dJx4a65c_add_72be8_12 rfl (lv_at hl 3 rfl) ?_
  refine lv_aload_n hx hb dJx4a65c_add_72be8_13 rfl (lv_at hl 2 rfl) ?_
  refine q_stObject X hw (isR hS.symm (Gr.izb hG)) (any_ob X hw (isR.ob hS.symm (Gr.oz hG hob))) (vp_in_iff.mpr ⟨by omega, by rw [show pN _ nb = N from lnR hS.symm (Gr.nb hG)]; omega⟩) dJx4a65c_add_72be8_14 (fun H locs hw => ?_)
  obtain ⟨T14_5, eT14_5, hw⟩ : ∃ zz9 : Pl, zz9 = tR S7_4 nb (va_up (qR S7_4 nb) x.toNatClampNeg (some b)) ∧ PX G A s.heap zz9 H locs := ⟨_, rfl, hw⟩
  refine lv_aload_n hx hb dJx4a65c_add_72be8_15 rfl (lv_at hl 1 rfl) ?_
  refine lv_iload_n hx hb dJx4a65c_add_72be8_16 rfl (lv_at hl 3 rfl) ?_
  refine lv_iconst (v := 1) hx hb dJx4a65c_add_72be8_17 (by decide) ?_
  refine lv_iadd hx hb dJx4a65c_add_72be8_18 ?_
  refine lv_topi (fun v18_6 e18_6 => ?_)
  have t18_6 := iAdd e18_6 rfl t_1 (by omega) (by omega)
  have t18 := t18_6
  refine pf_Jx4a65c_48 X hw (isT eT14_5 (isR hS.symm (Gr.iz hG hL.1))) dJx4a65c_add_72be8_19 (fun H locs hw => ?_)
  exact hret (sI T14_5 92 la v18_6) _ _ _ _ ⟨_, add_gr hL hG hN hx9 (t18.trans (by rw [hx9])) hS eT14_5⟩ hw dJx4a65c_add_72be8_22
set_option maxHeartbeats 4000000 in
set_option maxRecDepth 100000 in
theorem c_add3_g1 (l : Launch) (G : Gh) (S : Pl) (la ar tf n : Nat) (el : Nat → Nat) (b : Nat) (x : Int32) (htf : tf ≠ 0) (hfull : pN S ar = n) (hL : lsh G S la ar tf n el) (hn : n < 60) (hx9 : x.toInt = (n : Int)) (hob : ob S b) : MtV l yJx4a65c_add_72be8 cJx4a65c_add_72be8 4 none (Rm 5 1 90) G [.ref la, .ref b, .ref ar, .int x] S (fun (S' : Pl) => ∃ ar', AddP S S' la ar tf n b ar') 1 90 := by
  refine MtV.of (by decide) (Nat.le_of_ble_eq_true rfl) ?_
  intro p e s m args below meth c Q A X hw hin hret ls hl
  have hx := X.1.1
  have hb := X.1.2.1
  have hl : lv_has ls 4 [(0, .ref la), (1, .ref b), (2, .ref ar), (3, .int x)] := hl
  have hT := hL.2.2.2.2.2.1 htf
  have hA := hT.1
  refine lv_iload_n hx hb dJx4a65c_add_72be8_0 rfl (lv_at hl 3 rfl) ?_
  refine lv_aload_n hx hb dJx4a65c_add_72be8_1 rfl (lv_at hl 2 rfl) ?_
  obtain ⟨ln, eln⟩ : ∃ z : Int32, Int32.ofNat (pN S ar) = z := ⟨_, rfl⟩
  refine q_lenObject (v := ln) X hw hA eln dJx4a65c_add_72be8_2 ?_
  have tln : ln.toInt = (pN S ar : Int) := by rw [← eln]; exact nI_toInt (by omega)
  refine lv_icmp_ne (tgt := 11) hx hb dJx4a65c_add_72be8_3 (by decide) (fun c3_1 => absurd c3_1 (fun h => h (i_of hx9 (by rw [tln, hfull])))) (fun c3_1 => ?_)
  have D3_1 := iEq c3_1 rfl rfl
  refine lv_aload_n hx hb dJx4a65c_add_72be8_6 rfl (lv_at hl 0 rfl) ?_
  refine k_Vq (n := 0) X hw (rcvk (ci := 0) X hw hL.1 (fun _ _ _ _ _ _ _ => ⟨_, rfl⟩) rfl) (c_grw_k1 l G _ la ar tf n el htf hfull hL hn) wd_r27_20 wd_r27_21 wd_r27_22 wd_r1_22 wd_r27_23 ⟨by decide, by decide, by decide +kernel⟩ rfl rfl ⟨Nat.le_of_ble_eq_true rfl, Nat.le_of_ble_eq_true rfl⟩ rfl rfl hl.1 (Nat.le_of_ble_eq_true rfl) dJx4a65c_add_72be8_7 ⟨Nat.le_of_ble_eq_true rfl, Nat.le_of_ble_eq_true rfl⟩ (fun r7_2 S7_4 H locs h7_3 hw => ?_)
  obtain ⟨nb, N, T, rfl, hN, hG, hS⟩ := h7_3
  refine lv_astore_n (lv' := [(2, .ref nb), (0, .ref la), (1, .ref b), (3, .int x)]) hx hb dJx4a65c_add_72be8_10 rfl hl (by decide) rfl (fun ls hl => ?_)
  refine lv_aload_n hx hb dJx4a65c_add_72be8_11 rfl (lv_at hl 0 rfl) ?_
  refine lv_iload_n hx hb dJx4a65c_add_72be8_12 rfl (lv_at hl 3 rfl) ?_
  refine lv_aload_n hx hb dJx4a65c_add_72be8_13 rfl (lv_at hl 2 rfl) ?_
  refine q_stObject X hw (isR hS.symm (Gr.izb hG)) (any_ob X hw (isR.ob hS.symm (Gr.oz hG hob))) (vp_in_iff.mpr ⟨by omega, by rw [show pN _ nb = N from lnR hS.symm (Gr.nb hG)]; omega⟩) dJx4a65c_add_72be8_14 (fun H locs hw => ?_)
  obtain ⟨T14_5, eT14_5, hw⟩ : ∃ zz9 : Pl, zz9 = tR S7_4 nb (va_up (qR S7_4 nb) x.toNatClampNeg (some b)) ∧ PX G A s.heap zz9 H locs := ⟨_, rfl, hw⟩
  refine lv_aload_n hx hb dJx4a65c_add_72be8_15 rfl (lv_at hl 1 rfl) ?_
  refine lv_iload_n hx hb dJx4a65c_add_72be8_16 rfl (lv_at hl 3 rfl) ?_
  refine lv_iconst (v := 1) hx hb dJx4a65c_add_72be8_17 (by decide) ?_
  refine lv_iadd hx hb dJx4a65c_add_72be8_18 ?_
  refine lv_topi (fun v18_6 e18_6 => ?_)
  have t18_6 := iAdd e18_6 rfl t_1 (by omega) (by omega)
  have t18 := t18_6
  refine pf_Jx4a65c_48 X hw (isT eT14_5 (isR hS.symm (Gr.iz hG hL.1))) dJx4a65c_add_72be8_19 (fun H locs hw => ?_)
  exact hret (sI T14_5 92 la v18_6) _ _ _ _ ⟨_, add_gr hL hG hN hx9 (t18.trans (by rw [hx9])) hS eT14_5⟩ hw dJx4a65c_add_72be8_22
set_option maxHeartbeats 4000000 in
set_option maxRecDepth 100000 in
theorem c_add_in (l : Launch) (G : Gh) (S : Pl) (la ar tf n : Nat) (el : Nat → Nat) (b : Nat) (htf : tf ≠ 0) (hlt : n < pN S ar) (hL : lsh G S la ar tf n el) (hn : n < 60) (hob : ob S b) : MtI l yJx4a65c_add_9ea2d cJx4a65c_add_9ea2d 2 (some .boolean) (Rm 6 1 90) G [.ref la, .ref b] S (fun (r : Int32) (S' : Pl) => ∃ ar', AddP S S' la ar tf n b ar') 1 90 := by
  refine MtI.of (by decide) (Nat.le_of_ble_eq_true rfl) ?_
  intro p e s m args below meth c Q A X hw hin hret ls hl
  have hx := X.1.1
  have hb := X.1.2.1
  have hl : lv_has ls 2 [(0, .ref la), (1, .ref b)] := hl
  have h92 := hL.2.2.1
  refine lv_aload_n hx hb dJx4a65c_add_9ea2d_0 rfl (lv_at hl 0 rfl) ?_
  refine lv_dup hx hb dJx4a65c_add_9ea2d_1 rfl ?_
  refine gf_mod1 (v := pI S 90 la) X hw hL.1 rfl dJx4a65c_add_9ea2d_2 ?_
  refine lv_iconst (v := 1) hx hb dJx4a65c_add_9ea2d_5 (by decide) ?_
  refine lv_iadd hx hb dJx4a65c_add_9ea2d_6 ?_
  refine lv_topi (fun v6_1 e6_1 => ?_)
  refine pf_mod1 X hw hL.1 dJx4a65c_add_9ea2d_7 (fun H locs hw => ?_)
  have hw : PX G A s.heap (ch S (up2 (pI S) 90 la v6_1) (pJ S) (qI S) (qJ S)) H locs := hw
  refine lv_aload_n hx hb dJx4a65c_add_9ea2d_10 rfl (lv_at hl 0 rfl) ?_
  refine lv_aload_n hx hb dJx4a65c_add_9ea2d_11 rfl (lv_at hl 1 rfl) ?_
  refine lv_aload_n hx hb dJx4a65c_add_9ea2d_12 rfl (lv_at hl 0 rfl) ?_
  refine gf_Jx4a65c_9 (b := ar) X hw hL.1 hL.2.1 dJx4a65c_add_9ea2d_13 ?_
  refine lv_aload_n hx hb dJx4a65c_add_9ea2d_16 rfl (lv_at hl 0 rfl) ?_
  refine gf_Jx4a65c_48 (v := (pI S) 92 la) X hw hL.1 rfl dJx4a65c_add_9ea2d_17 ?_
  refine k_Vv (n := 3) X hw (rcvk (ci := 0) X hw hL.1 (fun _ _ _ _ _ _ _ => ⟨_, rfl⟩) rfl) (c_add3_in l G _ la ar tf n el b ((pI S) 92 la) htf hlt hL.mod hn h92 hob) wd_r27_16 wd_r27_17 wd_r27_18 wd_r1_22 wd_r27_19 ⟨by decide, by decide, by decide +kernel⟩ rfl rfl ⟨Nat.le_of_ble_eq_true rfl, Nat.le_of_ble_eq_true rfl⟩ rfl rfl hl.1 (Nat.le_of_ble_eq_true rfl) dJx4a65c_add_9ea2d_20 ⟨Nat.le_of_ble_eq_true rfl, Nat.le_of_ble_eq_true rfl⟩ (fun S20_3 H locs h20_2 hw => ?_)
  obtain ⟨ar2, hAP⟩ := h20_2
  refine lv_iconst (v := 1) hx hb dJx4a65c_add_9ea2d_23 (by decide) ?_
  exact hret 1 _ _ _ _ _ ⟨ar2, AddP.mod hAP⟩ hw rfl dJx4a65c_add_9ea2d_24
set_option maxHeartbeats 4000000 in
set_option maxRecDepth 100000 in
theorem c_add_g0 (l : Launch) (G : Gh) (S : Pl) (la ar tf n : Nat) (el : Nat → Nat) (b : Nat) (htf : tf = 0) (hL : lsh G S la ar tf n el) (hn : n < 60) (hob : ob S b) : MtI l yJx4a65c_add_9ea2d cJx4a65c_add_9ea2d 2 (some .boolean) (Rm 6 1 90) G [.ref la, .ref b] S (fun (r : Int32) (S' : Pl) => ∃ ar', AddP S S' la ar tf n b ar') 1 90 := by
  refine MtI.of (by decide) (Nat.le_of_ble_eq_true rfl) ?_
  intro p e s m args below meth c Q A X hw hin hret ls hl
  have hx := X.1.1
  have hb := X.1.2.1
  have hl : lv_has ls 2 [(0, .ref la), (1, .ref b)] := hl
  have h92 := hL.2.2.1
  refine lv_aload_n hx hb dJx4a65c_add_9ea2d_0 rfl (lv_at hl 0 rfl) ?_
  refine lv_dup hx hb dJx4a65c_add_9ea2d_1 rfl ?_
  refine gf_mod1 (v := pI S 90 la) X hw hL.1 rfl dJx4a65c_add_9ea2d_2 ?_
  refine lv_iconst (v := 1) hx hb dJx4a65c_add_9ea2d_5 (by decide) ?_
  refine lv_iadd hx hb dJx4a65c_add_9ea2d_6 ?_
  refine lv_topi (fun v6_1 e6_1 => ?_)
  refine pf_mod1 X hw hL.1 dJx4a65c_add_9ea2d_7 (fun H locs hw => ?_)
  have hw : PX G A s.heap (ch S (up2 (pI S) 90 la v6_1) (pJ S) (qI S) (qJ S)) H locs := hw
  refine lv_aload_n hx hb dJx4a65c_add_9ea2d_10 rfl (lv_at hl 0 rfl) ?_
  refine lv_aload_n hx hb dJx4a65c_add_9ea2d_11 rfl (lv_at hl 1 rfl) ?_
  refine lv_aload_n hx hb dJx4a65c_add_9ea2d_12 rfl (lv_at hl 0 rfl) ?_
  refine gf_Jx4a65c_9 (b := ar) X hw hL.1 hL.2.1 dJx4a65c_add_9ea2d_13 ?_
  refine lv_aload_n hx hb dJx4a65c_add_9ea2d_16 rfl (lv_at hl 0 rfl) ?_
  refine gf_Jx4a65c_48 (v := (pI S) 92 la) X hw hL.1 rfl dJx4a65c_add_9ea2d_17 ?_
  refine k_Vv (n := 3) X hw (rcvk (ci := 0) X hw hL.1 (fun _ _ _ _ _ _ _ => ⟨_, rfl⟩) rfl) (c_add3_g0 l G _ la ar tf n el b ((pI S) 92 la) htf hL.mod hn h92 hob) wd_r27_16 wd_r27_17 wd_r27_18 wd_r1_22 wd_r27_19 ⟨by decide, by decide, by decide +kernel⟩ rfl rfl ⟨Nat.le_of_ble_eq_true rfl, Nat.le_of_ble_eq_true rfl⟩ rfl rfl hl.1 (Nat.le_of_ble_eq_true rfl) dJx4a65c_add_9ea2d_20 ⟨Nat.le_of_ble_eq_true rfl, Nat.le_of_ble_eq_true rfl⟩ (fun S20_3 H locs h20_2 hw => ?_)
  obtain ⟨ar2, hAP⟩ := h20_2
  refine lv_iconst (v := 1) hx hb dJx4a65c_add_9ea2d_23 (by decide) ?_
  exact hret 1 _ _ _ _ _ ⟨ar2, AddP.mod hAP⟩ hw rfl dJx4a65c_add_9ea2d_24
set_option maxHeartbeats 4000000 in
set_option maxRecDepth 100000 in
theorem c_add_g1 (l : Launch) (G : Gh) (S : Pl) (la ar tf n : Nat) (el : Nat → Nat) (b : Nat) (htf : tf ≠ 0) (hfull : pN S ar = n) (hL : lsh G S la ar tf n el) (hn : n < 60) (hob : ob S b) : MtI l yJx4a65c_add_9ea2d cJx4a65c_add_9ea2d 2 (some .boolean) (Rm 6 1 90) G [.ref la, .ref b] S (fun (r : Int32) (S' : Pl) => ∃ ar', AddP S S' la ar tf n b ar') 1 90 := by
  refine MtI.of (by decide) (Nat.le_of_ble_eq_true rfl) ?_
  intro p e s m args below meth c Q A X hw hin hret ls hl
  have hx := X.1.1
  have hb := X.1.2.1
  have hl : lv_has ls 2 [(0, .ref la), (1, .ref b)] := hl
  have h92 := hL.2.2.1
  refine lv_aload_n hx hb dJx4a65c_add_9ea2d_0 rfl (lv_at hl 0 rfl) ?_
  refine lv_dup hx hb dJx4a65c_add_9ea2d_1 rfl ?_
  refine gf_mod1 (v := pI S 90 la) X hw hL.1 rfl dJx4a65c_add_9ea2d_2 ?_
  refine lv_iconst (v := 1) hx hb dJx4a65c_add_9ea2d_5 (by decide) ?_
  refine lv_iadd hx hb dJx4a65c_add_9ea2d_6 ?_
  refine lv_topi (fun v6_1 e6_1 => ?_)
  refine pf_mod1 X hw hL.1 dJx4a65c_add_9ea2d_7 (fun H locs hw => ?_)
  have hw : PX G A s.heap (ch S (up2 (pI S) 90 la v6_1) (pJ S) (qI S) (qJ S)) H locs := hw
  refine lv_aload_n hx hb dJx4a65c_add_9ea2d_10 rfl (lv_at hl 0 rfl) ?_
  refine lv_aload_n hx hb dJx4a65c_add_9ea2d_11 rfl (lv_at hl 1 rfl) ?_
  refine lv_aload_n hx hb dJx4a65c_add_9ea2d_12 rfl (lv_at hl 0 rfl) ?_
  refine gf_Jx4a65c_9 (b := ar) X hw hL.1 hL.2.1 dJx4a65c_add_9ea2d_13 ?_
  refine lv_aload_n hx hb dJx4a65c_add_9ea2d_16 rfl (lv_at hl 0 rfl) ?_
  refine gf_Jx4a65c_48 (v := (pI S) 92 la) X hw hL.1 rfl dJx4a65c_add_9ea2d_17 ?_
  refine k_Vv (n := 3) X hw (rcvk (ci := 0) X hw hL.1 (fun _ _ _ _ _ _ _ => ⟨_, rfl⟩) rfl) (c_add3_g1 l G _ la ar tf n el b ((pI S) 92 la) htf hfull hL.mod hn h92 hob) wd_r27_16 wd_r27_17 wd_r27_18 wd_r1_22 wd_r27_19 ⟨by decide, by decide, by decide +kernel⟩ rfl rfl ⟨Nat.le_of_ble_eq_true rfl, Nat.le_of_ble_eq_true rfl⟩ rfl rfl hl.1 (Nat.le_of_ble_eq_true rfl) dJx4a65c_add_9ea2d_20 ⟨Nat.le_of_ble_eq_true rfl, Nat.le_of_ble_eq_true rfl⟩ (fun S20_3 H locs h20_2 hw => ?_)
  obtain ⟨ar2, hAP⟩ := h20_2
  refine lv_iconst (v := 1) hx hb dJx4a65c_add_9ea2d_23 (by decide) ?_
  exact hret 1 _ _ _ _ _ ⟨ar2, AddP.mod hAP⟩ hw rfl dJx4a65c_add_9ea2d_24
