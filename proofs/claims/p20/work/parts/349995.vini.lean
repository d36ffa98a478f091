
/-! ===== what lies apart; what the rows hold ===== -/
theorem shSea.mem {S : Pl} {sa : Nat → Nat} (h : shSea S sa) : ∀ j ∈ sidR, sa j ∈ pL S := by
  obtain ⟨h1, h2, h3, h4, h5, h6, h7, h8, h9, h10, h11, h12, h13, h14, h15, h16⟩ := h
  have f1 : ∀ i, i < 5 → fl sa i 1 ∈ pL S := fun i hi => (h16 i hi).2.2.2.2.1.1
  have f2 : ∀ i, i < 5 → fl sa i 2 ∈ pL S := fun i hi => (h16 i hi).2.2.2.2.2.2.1.1
  have f3 : ∀ i, i < 5 → fl sa i 3 ∈ pL S := fun i hi => (h16 i hi).2.2.2.2.2.2.2.2.1.1
  unfold sidR
  exact List.forall_mem_cons.mpr ⟨h10.1, List.forall_mem_cons.mpr ⟨h12.1, List.forall_mem_cons.mpr ⟨h14.1, List.forall_mem_cons.mpr ⟨f1 0 (by decide), List.forall_mem_cons.mpr ⟨f2 0 (by decide), List.forall_mem_cons.mpr ⟨f3 0 (by decide), List.forall_mem_cons.mpr ⟨f1 1 (by decide), List.forall_mem_cons.mpr ⟨f2 1 (by decide), List.forall_mem_cons.mpr ⟨f3 1 (by decide), List.forall_mem_cons.mpr ⟨f1 2 (by decide), List.forall_mem_cons.mpr ⟨f2 2 (by decide), List.forall_mem_cons.mpr ⟨f3 2 (by decide), List.forall_mem_cons.mpr ⟨f1 3 (by decide), List.forall_mem_cons.mpr ⟨f2 3 (by decide), List.forall_mem_cons.mpr ⟨f3 3 (by decide), List.forall_mem_cons.mpr ⟨f1 4 (by decide), List.forall_mem_cons.mpr ⟨f2 4 (by decide), List.forall_mem_cons.mpr ⟨f3 4 (by decide), fun _ h => absurd h List.not_mem_nil⟩⟩⟩⟩⟩⟩⟩⟩⟩⟩⟩⟩⟩⟩⟩⟩⟩⟩
theorem shSea.k15 {S : Pl} {sa : Nat → Nat} (h : shSea S sa) : ∀ j ∈ sidR, pK S (sa j) ≠ 15 := by
  obtain ⟨h1, h2, h3, h4, h5, h6, h7, h8, h9, h10, h11, h12, h13, h14, h15, h16⟩ := h
  have u : ∀ {k a : Nat}, is S k a → k ≠ 15 → pK S a ≠ 15 := fun z n e => n (z.2.symm.trans e)
  have f1 : ∀ i, i < 5 → pK S (fl sa i 1) ≠ 15 := fun i hi => u (h16 i hi).2.2.2.2.1 (by decide)
  have f2 : ∀ i, i < 5 → pK S (fl sa i 2) ≠ 15 := fun i hi => u (h16 i hi).2.2.2.2.2.2.1 (by decide)
  have f3 : ∀ i, i < 5 → pK S (fl sa i 3) ≠ 15 := fun i hi => u (h16 i hi).2.2.2.2.2.2.2.2.1 (by decide)
  unfold sidR
  exact List.forall_mem_cons.mpr ⟨u h10 (by decide), List.forall_mem_cons.mpr ⟨u h12 (by decide), List.forall_mem_cons.mpr ⟨u h14 (by decide), List.forall_mem_cons.mpr ⟨f1 0 (by decide), List.forall_mem_cons.mpr ⟨f2 0 (by decide), List.forall_mem_cons.mpr ⟨f3 0 (by decide), List.forall_mem_cons.mpr ⟨f1 1 (by decide), List.forall_mem_cons.mpr ⟨f2 1 (by decide), List.forall_mem_cons.mpr ⟨f3 1 (by decide), List.forall_mem_cons.mpr ⟨f1 2 (by decide), List.forall_mem_cons.mpr ⟨f2 2 (by decide), List.forall_mem_cons.mpr ⟨f3 2 (by decide), List.forall_mem_cons.mpr ⟨f1 3 (by decide), List.forall_mem_cons.mpr ⟨f2 3 (by decide), List.forall_mem_cons.mpr ⟨f3 3 (by decide), List.forall_mem_cons.mpr ⟨f1 4 (by decide), List.forall_mem_cons.mpr ⟨f2 4 (by decide), List.forall_mem_cons.mpr ⟨f3 4 (by decide), fun _ h => absurd h List.not_mem_nil⟩⟩⟩⟩⟩⟩⟩⟩⟩⟩⟩⟩⟩⟩⟩⟩⟩⟩
theorem sea_tm {S : Pl} {sa : Nat → Nat} {ta tm : Nat} (h : shSea S sa) (g : shTale S ta tm) : ∀ j ∈ sidR, sa j ≠ tm := fun j hj e => h.k15 j hj (by rw [e]; exact g.2.2.1.2)
theorem shSpl.mem {S : Pl} {sp : Nat → Nat} (h : shSpl S sp) : ∀ k, 1 ≤ k → k ≤ 5 → sp k ∈ pL S := by
  obtain ⟨h1, h2, h3, h4, h5, h6, h7, h8, h9, h10, h11, h12, h13, h14, h15, h16, h17⟩ := h
  intro k k1 k5
  rcases (show k = 1 ∨ k = 2 ∨ k = 3 ∨ k = 4 ∨ k = 5 by omega) with rfl | rfl | rfl | rfl | rfl
  · exact h7.1
  · exact h9.1
  · exact h11.1
  · exact h13.1
  · exact h15.1
theorem shSpl.k12 {S : Pl} {sp : Nat → Nat} (h : shSpl S sp) : ∀ k, 1 ≤ k → k ≤ 5 → pK S (sp k) ≠ 12 := by
  obtain ⟨h1, h2, h3, h4, h5, h6, h7, h8, h9, h10, h11, h12, h13, h14, h15, h16, h17⟩ := h
  have u : ∀ {k a : Nat}, is S k a → k ≠ 12 → pK S a ≠ 12 := fun z n e => n (z.2.symm.trans e)
  intro k k1 k5
  rcases (show k = 1 ∨ k = 2 ∨ k = 3 ∨ k = 4 ∨ k = 5 by omega) with rfl | rfl | rfl | rfl | rfl
  · exact u h7 (by decide)
  · exact u h9 (by decide)
  · exact u h11 (by decide)
  · exact u h13 (by decide)
  · exact u h15 (by decide)
def Apt (d sa sb sp : Nat → Nat) : Prop := sdj sa ∧ sdj sb ∧ (∀ i ∈ sidR, ∀ j ∈ sidR, sa i ≠ sb j) ∧ (∀ j ∈ sidR, (sa j ≠ d 2 ∧ sa j ≠ d 4 ∧ ∀ k, 1 ≤ k → k ≤ 5 → sa j ≠ sp k) ∧ (sb j ≠ d 2 ∧ sb j ≠ d 4 ∧ ∀ k, 1 ≤ k → k ≤ 5 → sb j ≠ sp k)) ∧ sa 0 ≠ sb 0
theorem Apt.sw {d sa sb sp : Nat → Nat} (h : Apt d sa sb sp) : Apt d sb sa sp := ⟨h.2.1, h.1, fun i hi j hj e => h.2.2.1 j hj i hi e.symm, fun j hj => ⟨(h.2.2.2.1 j hj).2, (h.2.2.2.1 j hj).1⟩, h.2.2.2.2.symm⟩
/-- the tape's bytes and the present sea -/
def CV (S : Pl) (d sa : Nat → Nat) (z : Int) (bt : Nat → Int32) (V : SV) : Prop := (∀ j : Nat, (j : Int) < z → qI S (d 2) j = bt j) ∧ Ct (qI S) sa (stl V.2) ∧ (pI S 15 (sa 0)).toInt = V.1 ∧ vok V
theorem CV.q {S T : Pl} {d sa : Nat → Nat} {z : Int} {bt : Nat → Int32} {V : SV} (h : CV S d sa z bt V) (k2 : qI T (d 2) = qI S (d 2)) (ks : ∀ j ∈ sidR, qI T (sa j) = qI S (sa j)) (hi : pI T 15 (sa 0) = pI S 15 (sa 0)) : CV T d sa z bt V := ⟨fun j hj => (congrFun k2 j).trans (h.1 j hj), h.2.1.kept ks, by rw [hi]; exact h.2.2.1, h.2.2.2⟩
theorem CV.kq {S T : Pl} {d sa : Nat → Nat} {z : Int} {bt : Nat → Int32} {V : SV} (h : CV S d sa z bt V) (h2 : d 2 ∈ pL S) (hS : shSea S sa) (k : Kq S T) (hi : pI T 15 (sa 0) = pI S 15 (sa 0)) : CV T d sa z bt V := h.q (k _ h2) (fun j hj => k _ (hS.mem j hj)) hi
theorem CV.n {S T : Pl} {d sa : Nat → Nat} {z : Int} {bt : Nat → Int32} {V : SV} (h : CV S d sa z bt V) (ks : ∀ j ∈ sidR, qI T (sa j) = qI S (sa j)) (hi : pI T 15 (sa 0) = pI S 15 (sa 0)) : CV T d sa 0 bt V := ⟨fun j hj => absurd hj (by omega), h.2.1.kept ks, by rw [hi]; exact h.2.2.1, h.2.2.2⟩
theorem AddP.kq {S T : Pl} {la ar tf n b ar' : Nat} (h : AddP S T la ar tf n b ar') : Kq S T := h.2.2.2.2.2.2.2.2.2.2
/-- the desk, with its rows -/
def DeskV (G : Gh) (S : Pl) (da : Nat) (z : Int) (nt np : Nat) (bk bt : Nat → Int32) (V : SV) : Prop := ∃ (d sa sb sp te tm pe : Nat → Nat) (tf pf : Nat), d 0 = da ∧ CIs G S d sa sb sp te tm pe tf pf nt np ∧ CIn (pI S) d te pe nt np ∧ (pI S 61 (d 1)).toInt = z ∧ (∀ k, k < np → pI S 0 (pe k) = bk k) ∧ Apt d sa sb sp ∧ CV S d sa z bt V
theorem sm_a {r : Nat → Int32} (h : ∀ i, r i = -1) : ∀ n, sm r n = 100
  | 0 => by
    show (if r 0 = -1 then 100 else r 0) = (100 : Int32)
    rw [if_pos (h 0)]
  | n + 1 => by
    show (if r (n + 1) = -1 then (if (n + 1) % 21 = 0 then 100 else sm r n) else r (n + 1)) = (100 : Int32)
    rw [if_pos (h _), sm_a h n]
    split <;> rfl
theorem sr_a {t x : Nat → Int32} (h : ∀ i, x i = 0) : ∀ n, sr t x n = 0
  | 0 => h 0
  | n + 1 => by
    show (if t (n + 1) = 0 then sr t x n else x (n + 1)) = 0
    rw [sr_a h n, h]
    split <;> rfl
theorem Ct_0 {q : Nat → Nat → Int32} {sa : Nat → Nat} (h2 : ∀ i, i < 4 → q (sa 2) i = 3) (h4 : ∀ i, i < 42 → q (sa 4) i = 100) (h0 : ∀ j ∈ sidR, j ≠ 2 → j ≠ 4 → ∀ i, q (sa j) i = 0) : Ct q sa (stl sv0.2) := fun j hj i hi => by
  have cz : ∀ m, m ≠ 2 → m ≠ 4 → c0 m = 0 := fun m a b => if_neg (by omega)
  by_cases e2 : j = 2
  · subst e2
    rw [h2 i hi]
    unfold stl
    rw [if_pos rfl, if_pos (show sv0.2 2 i = -1 from (show c0 2 = -1 by decide))]
  · by_cases e4 : j = 4
    · subst e4
      rw [h4 i hi]
      unfold stl
      rw [if_neg (show ¬ (4 : Nat) = 2 by decide), if_pos rfl, sm_a (r := sv0.2 4) (fun _ => show c0 4 = -1 by decide)]
    · rw [h0 j hj e2 e4]
      unfold stl
      rw [if_neg e2, if_neg e4]
      split
      · exact (sr_a (x := sv0.2 j) (fun _ => cz j e2 e4) i).symm
      · exact (cz j e2 e4).symm
theorem stl_f {C : Nat → Nat → Int32} {f k i : Nat} (hk : k = 1 ∨ k = 2) : stl C (10 + 4 * f + k) i = sr (C (10 + 4 * f + 3)) (C (10 + 4 * f + k)) i := by
  have e : trw (10 + 4 * f + k) = 10 + 4 * f + 3 := by
    unfold trw
    rcases hk with rfl | rfl
    · rw [if_pos (by omega)]
    · rw [if_neg (by omega)]
  unfold stl
  rw [if_neg (by omega), if_neg (by omega), if_pos (by omega), e]
theorem stl_3 {C : Nat → Nat → Int32} {i : Nat} : stl C 3 i = C 3 i := by
  unfold stl
  rw [if_neg (by decide), if_neg (by decide), if_neg (by decide)]
theorem stl_4 {C : Nat → Nat → Int32} {i : Nat} : stl C 4 i = sm (C 4) i := by
  unfold stl
  rw [if_neg (by decide), if_pos rfl]
/-! the rows of a new sea -/
def posL : List Nat := [0, 0, 14, 13, 12, 0, 0, 0, 0, 0, 0, 18, 17, 16, 0, 11, 10, 9, 0, 8, 7, 6, 0, 5, 4, 3, 0, 2, 1, 0]
theorem posI : ∀ i ∈ sidR, ∀ j ∈ sidR, posL.getD i 0 = posL.getD j 0 → i = j := by decide
theorem posB : ∀ i ∈ sidR, posL.getD i 0 < 19 := by decide
theorem sdj_of {sa : Nat → Nat} {L : List Nat} (h : L.Nodup) (hl : L.length = 19) (hp : ∀ j ∈ sidR, sa j = L.getD (posL.getD j 0) 0) : sdj sa := fun i hi j hj e => posI i hi j hj (getD_inj h (by rw [hl]; exact posB i hi) (by rw [hl]; exact posB j hj) (by rw [← hp i hi, ← hp j hj]; exact e))
theorem fill_s {q q1 : Nat → Nat → Int32} {a : Nat} {k k' v : Int32} (h : ∀ i, i < k.toNatClampNeg → q a i = v) (h0 : 0 ≤ k.toInt) (tk : k'.toInt = k.toInt + 1) (c1 : q1 = va_up q a (upd (q a) k.toNatClampNeg v)) : ∀ i, i < k'.toNatClampNeg → q1 a i = v := fun i hi => by
  have e1 := cl_toInt h0
  have e2 := cl_toInt (x := k') (by omega)
  rw [up_s c1]
  by_cases e : i = k.toNatClampNeg
  · rw [e, pk_us]
  · rw [pk_un e]; exact h i (by omega)
theorem CtR {T U : Pl} {f b : Nat} {v : Option Nat} {sa : Nat → Nat} {C : Nat → Nat → Int32} (e : U = sR T f b v) (h : Ct (qI T) sa C) : Ct (qI U) sa C := by subst e; exact h
theorem CtO {T U : Pl} {q k : Nat} {sa : Nat → Nat} {C : Nat → Nat → Int32} (e : U = nO T q k) (h : Ct (qI T) sa C) : Ct (qI U) sa C := by subst e; exact h
theorem CV.w {S : Pl} {d sa : Nat → Nat} {z : Int} {bt : Nat → Int32} {V : SV} (h : CV S d sa z bt V) {f k i : Nat} (hf : f < 5) (hk : k = 1 ∨ k = 2) (hi : i < 72) : qI S (fl sa f k) i = sr (V.2 (10 + 4 * f + 3)) (V.2 (10 + 4 * f + k)) i := (h.2.1 _ (fl_in hf (by omega)) i (by rw [lgR_fl]; exact hi)).trans (stl_f hk)
theorem CV.l {S : Pl} {d sa : Nat → Nat} {z : Int} {bt : Nat → Int32} {V : SV} (h : CV S d sa z bt V) {i : Nat} (hi : i < 64) : qI S (sa 3) i = V.2 3 i := (h.2.1 3 (by decide) i hi).trans stl_3
theorem CV.m {S : Pl} {d sa : Nat → Nat} {z : Int} {bt : Nat → Int32} {V : SV} (h : CV S d sa z bt V) {i : Nat} (hi : i < 42) : qI S (sa 4) i = sm (V.2 4) i := (h.2.1 4 (by decide) i hi).trans stl_4
def abt (x : Int32) (l : Int) (nt np c : Nat) (z : Int) : Int := if x = 0 then l else if x = 1 then (nt : Int) else if x = 2 then (np : Int) else if x = 3 then (c : Int) else if x = 4 then z else -1
section ABT
variable {x : Int32} {l z : Int} {nt np c : Nat}
theorem abt_0 (h : x = 0) : abt x l nt np c z = l := if_pos h
theorem abt_1 (h : x = 1) : abt x l nt np c z = nt := by subst h; unfold abt; rw [if_neg (by decide), if_pos rfl]
theorem abt_2 (h : x = 2) : abt x l nt np c z = np := by subst h; unfold abt; rw [if_neg (by decide), if_neg (by decide), if_pos rfl]
theorem abt_3 (h : x = 3) : abt x l nt np c z = c := by subst h; unfold abt; rw [if_neg (by decide), if_neg (by decide), if_neg (by decide), if_pos rfl]
theorem abt_4 (h : x = 4) : abt x l nt np c z = z := by subst h; unfold abt; rw [if_neg (by decide), if_neg (by decide), if_neg (by decide), if_neg (by decide), if_pos rfl]
theorem abt_n (h : x.toInt ≠ 0 ∧ x.toInt ≠ 1 ∧ x.toInt ≠ 2 ∧ x.toInt ≠ 3 ∧ x.toInt ≠ 4) : abt x l nt np c z = -1 := by
  have u : ∀ {y : Int32} {n : Int}, y.toInt = n → x.toInt ≠ n → ¬ x = y := fun e n q => n (by rw [q]; exact e)
  unfold abt
  rw [if_neg (u (by decide) h.1), if_neg (u (by decide) h.2.1), if_neg (u (by decide) h.2.2.1), if_neg (u (by decide) h.2.2.2.1), if_neg (u (by decide) h.2.2.2.2)]
end ABT
set_option maxHeartbeats 4000000 in
set_option maxRecDepth 100000 in
theorem c_v_X7_init (l : Launch) (G : Gh) (S : Pl) (ta : Nat) (k x y h u : Int32) (k0 : is S 6 ta) : MtV l yX7_init cX7_init 6 none (Rm 1 1 73) G [.ref ta, .int k, .int x, .int y, .int h, .int u] S (fun (S' : Pl) => ∃ tm, ExX ta S S' ∧ shTale S' ta tm ∧ pI S' 54 ta = u ∧ Kq S S' ∧ tm ∉ pL S ∧ pI S' 50 ta = k ∧ pI S' 51 ta = x ∧ pI S' 52 ta = y ∧ pI S' 53 ta = h) 1 73 := by
  refine MtV.of (by decide) (Nat.le_of_ble_eq_true rfl) ?_
  intro p e s m args below meth c Q A X hw hin hret ls hl
  have hx := X.1.1
  have hb := X.1.2.1
  have hl : lv_has ls 6 [(0, .ref ta), (1, .int k), (2, .int x), (3, .int y), (4, .int h), (5, .int u)] := hl
  have xx := ExX.rf (S := S) (b := ta)
  have kq0 := Kq.rf (S := S)
  refine lv_aload_n hx hb dX7_init_0 rfl (lv_at hl 0 rfl) ?_
  refine W.objInit hx hb X.1.2.2.2.1 (X.1.2.2.2.2 _ wd_r27_7) (X.1.2.2.2.2 _ wd_r1_10) (X.1.2.2.2.2 _ wd_r1_11) rfl (by rw [X.1.2.2.1]; exact hl.1) rfl dX7_init_1 (Nat.le_of_ble_eq_true rfl) (Nat.le_of_ble_eq_true rfl) ?_
  refine W.eq (g2 := F0 m 4 ls []) rfl ?_
  refine lv_aload_n hx hb dX7_init_4 rfl (lv_at hl 0 rfl) ?_
  refine lv_bipush (v := 73) hx hb dX7_init_5 (by decide) ?_
  refine q_nwS (N' := 73) X hw wd_r27_8 (by decide) (by decide) (by decide) (Nat.le_of_ble_eq_true rfl) (Nat.le_of_ble_eq_true rfl) dX7_init_7 (fun a7_1 H f7_2 hw => ?_)
  obtain ⟨T7_3, eT7_3, hw⟩ : ∃ zz9 : Pl, zz9 = nA S a7_1 15 73 ∧ PX G A s.heap zz9 H [] := ⟨_, rfl, hw⟩
  have e4ne := (ne_of k0.1 f7_2)
  have e5ns := fresh_of xx f7_2
  have kq0 := Kq.mA eT7_3 f7_2 xx kq0
  have xx := ExX.mA eT7_3 f7_2 xx
  have k0 := isA eT7_3 f7_2 k0
  have kL6 := isA_n eT7_3
  have nL7 := lnA_n eT7_3
  refine pf_X7_9 X hw k0 hin dX7_init_9 (fun H locs hw => ?_)
  obtain ⟨T9_8, eT9_8, hw⟩ : ∃ zz9 : Pl, zz9 = sR T7_3 55 ta (some a7_1) ∧ PX G A s.heap zz9 H locs := ⟨_, rfl, hw⟩
  have kq0 := Kq.mR eT9_8 kq0
  have xx := ExX.mR eT9_8 xx
  have nL7 := lnR eT9_8 nL7
  have k0 := isR eT9_8 k0
  have kL6 := isR eT9_8 kL6
  have rL9 := rfR_n eT9_8
  refine lv_aload_n hx hb dX7_init_12 rfl (lv_at hl 0 rfl) ?_
  refine lv_iload_n hx hb dX7_init_13 rfl (lv_at hl 1 rfl) ?_
  refine pf_X7_15 X hw k0 hin dX7_init_14 (fun H locs hw => ?_)
  obtain ⟨T14_10, eT14_10, hw⟩ : ∃ zz9 : Pl, zz9 = sI T9_8 50 ta k ∧ PX G A s.heap zz9 H locs := ⟨_, rfl, hw⟩
  have kq0 := Kq.mI eT14_10 kq0
  have xx := ExX.mI eT14_10 xx
  have nL7 := lnI eT14_10 nL7
  have rL9 := rfI eT14_10 rL9
  have k0 := isI eT14_10 k0
  have kL6 := isI eT14_10 kL6
  have vL11 := ivI_n eT14_10
  refine lv_aload_n hx hb dX7_init_17 rfl (lv_at hl 0 rfl) ?_
  refine lv_iload_n hx hb dX7_init_18 rfl (lv_at hl 2 rfl) ?_
  refine pf_X7_19 X hw k0 hin dX7_init_19 (fun H locs hw => ?_)
  obtain ⟨T19_12, eT19_12, hw⟩ : ∃ zz9 : Pl, zz9 = sI T14_10 51 ta x ∧ PX G A s.heap zz9 H locs := ⟨_, rfl, hw⟩
  have kq0 := Kq.mI eT19_12 kq0
  have xx := ExX.mI eT19_12 xx
  have nL7 := lnI eT19_12 nL7
  have rL9 := rfI eT19_12 rL9
  have vL11 := ivI eT19_12 (by decide) vL11
  have k0 := isI eT19_12 k0
  have kL6 := isI eT19_12 kL6
  have vL13 := ivI_n eT19_12
  refine lv_aload_n hx hb dX7_init_22 rfl (lv_at hl 0 rfl) ?_
  refine lv_iload_n hx hb dX7_init_23 rfl (lv_at hl 3 rfl) ?_
  refine pf_X7_22 X hw k0 hin dX7_init_24 (fun H locs hw => ?_)
  obtain ⟨T24_14, eT24_14, hw⟩ : ∃ zz9 : Pl, zz9 = sI T19_12 52 ta y ∧ PX G A s.heap zz9 H locs := ⟨_, rfl, hw⟩
  have kq0 := Kq.mI eT24_14 kq0
  have xx := ExX.mI eT24_14 xx
  have nL7 := lnI eT24_14 nL7
  have rL9 := rfI eT24_14 rL9
  have vL11 := ivI eT24_14 (by decide) vL11
  have vL13 := ivI eT24_14 (by decide) vL13
  have k0 := isI eT24_14 k0
  have kL6 := isI eT24_14 kL6
  have vL15 := ivI_n eT24_14
  refine lv_aload_n hx hb dX7_init_27 rfl (lv_at hl 0 rfl) ?_
  refine lv_iload hx hb dX7_init_28 (lv_at hl 4 rfl) ?_
  refine pf_X7_25 X hw k0 hin dX7_init_30 (fun H locs hw => ?_)
  obtain ⟨T30_16, eT30_16, hw⟩ : ∃ zz9 : Pl, zz9 = sI T24_14 53 ta h ∧ PX G A s.heap zz9 H locs := ⟨_, rfl, hw⟩
  have kq0 := Kq.mI eT30_16 kq0
  have xx := ExX.mI eT30_16 xx
  have nL7 := lnI eT30_16 nL7
  have rL9 := rfI eT30_16 rL9
  have vL11 := ivI eT30_16 (by decide) vL11
  have vL13 := ivI eT30_16 (by decide) vL13
  have vL15 := ivI eT30_16 (by decide) vL15
  have k0 := isI eT30_16 k0
  have kL6 := isI eT30_16 kL6
  have vL17 := ivI_n eT30_16
  refine lv_aload_n hx hb dX7_init_33 rfl (lv_at hl 0 rfl) ?_
  refine lv_iload hx hb dX7_init_34 (lv_at hl 5 rfl) ?_
  refine pf_X7_28 X hw k0 hin dX7_init_36 (fun H locs hw => ?_)
  obtain ⟨T36_18, eT36_18, hw⟩ : ∃ zz9 : Pl, zz9 = sI T30_16 54 ta u ∧ PX G A s.heap zz9 H locs := ⟨_, rfl, hw⟩
  have kq0 := Kq.mI eT36_18 kq0
  have xx := ExX.mI eT36_18 xx
  have nL7 := lnI eT36_18 nL7
  have rL9 := rfI eT36_18 rL9
  have vL11 := ivI eT36_18 (by decide) vL11
  have vL13 := ivI eT36_18 (by decide) vL13
  have vL15 := ivI eT36_18 (by decide) vL15
  have vL17 := ivI eT36_18 (by decide) vL17
  have k0 := isI eT36_18 k0
  have kL6 := isI eT36_18 kL6
  have vL19 := ivI_n eT36_18
  exact hret T36_18 _ _ _ _ ⟨a7_1, xx, ⟨k0, rL9, kL6, nL7⟩, vL19, kq0, e5ns, vL11, vL13, vL15, vL17⟩ hw dX7_init_39
set_option maxHeartbeats 4000000 in
set_option maxRecDepth 100000 in
theorem c_v_X5_init (l : Launch) (G : Gh) (S : Pl) (pr : Nat) (a1 a2 a3 a4 a5 a6 a7 : Int32) (k0 : is S 4 pr) (v0 : pI S 0 pr = 0) : MtV l yX5_init cX5_init 8 none (Rm 2 0 0) G [.ref pr, .int a1, .int a2, .int a3, .int a4, .int a5, .int a6, .int a7] S (fun (S' : Pl) => ExX pr S S' ∧ pI S' 0 pr = 0 ∧ Kq S S' ∧ pI S' 31 pr = a1 ∧ pI S' 32 pr = a2 ∧ pI S' 33 pr = a3 ∧ pI S' 34 pr = a4 ∧ pI S' 35 pr = a5 ∧ pI S' 36 pr = a6 ∧ pI S' 37 pr = a7) 0 0 := by
  refine MtV.of (by decide) (Nat.le_of_ble_eq_true rfl) ?_
  intro p e s m args below meth c Q A X hw hin hret ls hl
  have hx := X.1.1
  have hb := X.1.2.1
  have hl : lv_has ls 8 [(0, .ref pr), (1, .int a1), (2, .int a2), (3, .int a3), (4, .int a4), (5, .int a5), (6, .int a6), (7, .int a7)] := hl
  have xx := ExX.rf (S := S) (b := pr)
  have kq0 := Kq.rf (S := S)
  refine lv_aload_n hx hb dX5_init_0 rfl (lv_at hl 0 rfl) ?_
  refine k_INv (n := 0) (ret2 := none) (host := RX10) X hw (c_X2_init l G _ pr) (List.mem_of_getElem? (i := 13) rfl) wd_r33_4 wd_r33_5 wd_r33_6 rfl ⟨by decide, by decide, by decide +kernel⟩ rfl rfl ⟨Nat.le_of_ble_eq_true rfl, Nat.le_of_ble_eq_true rfl⟩ rfl rfl hl.1 (Nat.le_of_ble_eq_true rfl) dX5_init_1 ⟨Nat.le_of_ble_eq_true rfl, Nat.le_of_ble_eq_true rfl⟩ (fun S1_2 H locs h1_1 hw => ?_)
  obtain ⟨rfl, -⟩ := h1_1
  refine lv_aload_n hx hb dX5_init_4 rfl (lv_at hl 0 rfl) ?_
  refine lv_iload_n hx hb dX5_init_5 rfl (lv_at hl 1 rfl) ?_
  refine pf_X5_9 X hw k0 hin dX5_init_6 (fun H locs hw => ?_)
  obtain ⟨T6_3, eT6_3, hw⟩ : ∃ zz9 : Pl, zz9 = sI S 31 pr a1 ∧ PX G A s.heap zz9 H locs := ⟨_, rfl, hw⟩
  have kq0 := Kq.mI eT6_3 kq0
  have xx := ExX.mI eT6_3 xx
  have v0 := ivI eT6_3 (by decide) v0
  have k0 := isI eT6_3 k0
  have vL4 := ivI_n eT6_3
  refine lv_aload_n hx hb dX5_init_9 rfl (lv_at hl 0 rfl) ?_
  refine lv_iload_n hx hb dX5_init_10 rfl (lv_at hl 2 rfl) ?_
  refine pf_X5_15 X hw k0 hin dX5_init_11 (fun H locs hw => ?_)
  obtain ⟨T11_5, eT11_5, hw⟩ : ∃ zz9 : Pl, zz9 = sI T6_3 32 pr a2 ∧ PX G A s.heap zz9 H locs := ⟨_, rfl, hw⟩
  have kq0 := Kq.mI eT11_5 kq0
  have xx := ExX.mI eT11_5 xx
  have v0 := ivI eT11_5 (by decide) v0
  have vL4 := ivI eT11_5 (by decide) vL4
  have k0 := isI eT11_5 k0
  have vL6 := ivI_n eT11_5
  refine lv_aload_n hx hb dX5_init_14 rfl (lv_at hl 0 rfl) ?_
  refine lv_iload_n hx hb dX5_init_15 rfl (lv_at hl 3 rfl) ?_
  refine pf_X5_18 X hw k0 hin dX5_init_16 (fun H locs hw => ?_)
  obtain ⟨T16_7, eT16_7, hw⟩ : ∃ zz9 : Pl, zz9 = sI T11_5 33 pr a3 ∧ PX G A s.heap zz9 H locs := ⟨_, rfl, hw⟩
  have kq0 := Kq.mI eT16_7 kq0
  have xx := ExX.mI eT16_7 xx
  have v0 := ivI eT16_7 (by decide) v0
  have vL4 := ivI eT16_7 (by decide) vL4
  have vL6 := ivI eT16_7 (by decide) vL6
  have k0 := isI eT16_7 k0
  have vL8 := ivI_n eT16_7
  refine lv_aload_n hx hb dX5_init_19 rfl (lv_at hl 0 rfl) ?_
  refine lv_iload hx hb dX5_init_20 (lv_at hl 4 rfl) ?_
  refine pf_X5_21 X hw k0 hin dX5_init_22 (fun H locs hw => ?_)
  obtain ⟨T22_9, eT22_9, hw⟩ : ∃ zz9 : Pl, zz9 = sI T16_7 34 pr a4 ∧ PX G A s.heap zz9 H locs := ⟨_, rfl, hw⟩
  have kq0 := Kq.mI eT22_9 kq0
  have xx := ExX.mI eT22_9 xx
  have v0 := ivI eT22_9 (by decide) v0
  have vL4 := ivI eT22_9 (by decide) vL4
  have vL6 := ivI eT22_9 (by decide) vL6
  have vL8 := ivI eT22_9 (by decide) vL8
  have k0 := isI eT22_9 k0
  have vL10 := ivI_n eT22_9
  refine lv_aload_n hx hb dX5_init_25 rfl (lv_at hl 0 rfl) ?_
  refine lv_iload hx hb dX5_init_26 (lv_at hl 5 rfl) ?_
  refine pf_X5_24 X hw k0 hin dX5_init_28 (fun H locs hw => ?_)
  obtain ⟨T28_11, eT28_11, hw⟩ : ∃ zz9 : Pl, zz9 = sI T22_9 35 pr a5 ∧ PX G A s.heap zz9 H locs := ⟨_, rfl, hw⟩
  have kq0 := Kq.mI eT28_11 kq0
  have xx := ExX.mI eT28_11 xx
  have v0 := ivI eT28_11 (by decide) v0
  have vL4 := ivI eT28_11 (by decide) vL4
  have vL6 := ivI eT28_11 (by decide) vL6
  have vL8 := ivI eT28_11 (by decide) vL8
  have vL10 := ivI eT28_11 (by decide) vL10
  have k0 := isI eT28_11 k0
  have vL12 := ivI_n eT28_11
  refine lv_aload_n hx hb dX5_init_31 rfl (lv_at hl 0 rfl) ?_
  refine lv_iload hx hb dX5_init_32 (lv_at hl 6 rfl) ?_
  refine pf_X5_27 X hw k0 hin dX5_init_34 (fun H locs hw => ?_)
  obtain ⟨T34_13, eT34_13, hw⟩ : ∃ zz9 : Pl, zz9 = sI T28_11 36 pr a6 ∧ PX G A s.heap zz9 H locs := ⟨_, rfl, hw⟩
  have kq0 := Kq.mI eT34_13 kq0
  have xx := ExX.mI eT34_13 xx
  have v0 := ivI eT34_13 (by decide) v0
  have vL4 := ivI eT34_13 (by decide) vL4
  have vL6 := ivI eT34_13 (by decide) vL6
  have vL8 := ivI eT34_13 (by decide) vL8
  have vL10 := ivI eT34_13 (by decide) vL10
  have vL12 := ivI eT34_13 (by decide) vL12
  have k0 := isI eT34_13 k0
  have vL14 := ivI_n eT34_13
  refine lv_aload_n hx hb dX5_init_37 rfl (lv_at hl 0 rfl) ?_
  refine lv_iload hx hb dX5_init_38 (lv_at hl 7 rfl) ?_
  refine pf_X5_30 X hw k0 hin dX5_init_40 (fun H locs hw => ?_)
  obtain ⟨T40_15, eT40_15, hw⟩ : ∃ zz9 : Pl, zz9 = sI T34_13 37 pr a7 ∧ PX G A s.heap zz9 H locs := ⟨_, rfl, hw⟩
  have kq0 := Kq.mI eT40_15 kq0
  have xx := ExX.mI eT40_15 xx
  have v0 := ivI eT40_15 (by decide) v0
  have vL4 := ivI eT40_15 (by decide) vL4
  have vL6 := ivI eT40_15 (by decide) vL6
  have vL8 := ivI eT40_15 (by decide) vL8
  have vL10 := ivI eT40_15 (by decide) vL10
  have vL12 := ivI eT40_15 (by decide) vL12
  have vL14 := ivI eT40_15 (by decide) vL14
  have k0 := isI eT40_15 k0
  have vL16 := ivI_n eT40_15
  exact hret T40_15 _ _ _ _ ⟨xx, v0, kq0, vL4, vL6, vL8, vL10, vL12, vL14, vL16⟩ hw dX5_init_43
set_option maxHeartbeats 4000000 in
set_option maxRecDepth 100000 in
theorem c_v_X0_init (l : Launch) (G : Gh) (S : Pl) (pr : Nat) (a1 a2 a3 a4 a5 : Int32) (k0 : is S 0 pr) (v0 : pI S 0 pr = 0) : MtV l yX0_init cX0_init 6 none (Rm 2 0 0) G [.ref pr, .int a1, .int a2, .int a3, .int a4, .int a5] S (fun (S' : Pl) => ExX pr S S' ∧ pI S' 0 pr = 0 ∧ Kq S S' ∧ pI S' 1 pr = a1 ∧ pI S' 2 pr = a2 ∧ pI S' 3 pr = a3 ∧ pI S' 4 pr = a4 ∧ pI S' 5 pr = a5) 0 0 := by
  refine MtV.of (by decide) (Nat.le_of_ble_eq_true rfl) ?_
  intro p e s m args below meth c Q A X hw hin hret ls hl
  have hx := X.1.1
  have hb := X.1.2.1
  have hl : lv_has ls 6 [(0, .ref pr), (1, .int a1), (2, .int a2), (3, .int a3), (4, .int a4), (5, .int a5)] := hl
  have xx := ExX.rf (S := S) (b := pr)
  have kq0 := Kq.rf (S := S)
  refine lv_aload_n hx hb dX0_init_0 rfl (lv_at hl 0 rfl) ?_
  refine k_INv (n := 0) (ret2 := none) (host := RX10) X hw (c_X2_init l G _ pr) (List.mem_of_getElem? (i := 14) rfl) wd_r33_4 wd_r33_5 wd_r33_6 rfl ⟨by decide, by decide, by decide +kernel⟩ rfl rfl ⟨Nat.le_of_ble_eq_true rfl, Nat.le_of_ble_eq_true rfl⟩ rfl rfl hl.1 (Nat.le_of_ble_eq_true rfl) dX0_init_1 ⟨Nat.le_of_ble_eq_true rfl, Nat.le_of_ble_eq_true rfl⟩ (fun S1_2 H locs h1_1 hw => ?_)
  obtain ⟨rfl, -⟩ := h1_1
  refine lv_aload_n hx hb dX0_init_4 rfl (lv_at hl 0 rfl) ?_
  refine lv_iload_n hx hb dX0_init_5 rfl (lv_at hl 1 rfl) ?_
  refine pf_X0_9 X hw k0 hin dX0_init_6 (fun H locs hw => ?_)
  obtain ⟨T6_3, eT6_3, hw⟩ : ∃ zz9 : Pl, zz9 = sI S 1 pr a1 ∧ PX G A s.heap zz9 H locs := ⟨_, rfl, hw⟩
  have kq0 := Kq.mI eT6_3 kq0
  have xx := ExX.mI eT6_3 xx
  have v0 := ivI eT6_3 (by decide) v0
  have k0 := isI eT6_3 k0
  have vL4 := ivI_n eT6_3
  refine lv_aload_n hx hb dX0_init_9 rfl (lv_at hl 0 rfl) ?_
  refine lv_iload_n hx hb dX0_init_10 rfl (lv_at hl 2 rfl) ?_
  refine pf_X0_15 X hw k0 hin dX0_init_11 (fun H locs hw => ?_)
  obtain ⟨T11_5, eT11_5, hw⟩ : ∃ zz9 : Pl, zz9 = sI T6_3 2 pr a2 ∧ PX G A s.heap zz9 H locs := ⟨_, rfl, hw⟩
  have kq0 := Kq.mI eT11_5 kq0
  have xx := ExX.mI eT11_5 xx
  have v0 := ivI eT11_5 (by decide) v0
  have vL4 := ivI eT11_5 (by decide) vL4
  have k0 := isI eT11_5 k0
  have vL6 := ivI_n eT11_5
  refine lv_aload_n hx hb dX0_init_14 rfl (lv_at hl 0 rfl) ?_
  refine lv_iload_n hx hb dX0_init_15 rfl (lv_at hl 3 rfl) ?_
  refine pf_X0_18 X hw k0 hin dX0_init_16 (fun H locs hw => ?_)
  obtain ⟨T16_7, eT16_7, hw⟩ : ∃ zz9 : Pl, zz9 = sI T11_5 3 pr a3 ∧ PX G A s.heap zz9 H locs := ⟨_, rfl, hw⟩
  have kq0 := Kq.mI eT16_7 kq0
  have xx := ExX.mI eT16_7 xx
  have v0 := ivI eT16_7 (by decide) v0
  have vL4 := ivI eT16_7 (by decide) vL4
  have vL6 := ivI eT16_7 (by decide) vL6
  have k0 := isI eT16_7 k0
  have vL8 := ivI_n eT16_7
  refine lv_aload_n hx hb dX0_init_19 rfl (lv_at hl 0 rfl) ?_
  refine lv_iload hx hb dX0_init_20 (lv_at hl 4 rfl) ?_
  refine pf_X0_21 X hw k0 hin dX0_init_22 (fun H locs hw => ?_)
  obtain ⟨T22_9, eT22_9, hw⟩ : ∃ zz9 : Pl, zz9 = sI T16_7 4 pr a4 ∧ PX G A s.heap zz9 H locs := ⟨_, rfl, hw⟩
  have kq0 := Kq.mI eT22_9 kq0
  have xx := ExX.mI eT22_9 xx
  have v0 := ivI eT22_9 (by decide) v0
  have vL4 := ivI eT22_9 (by decide) vL4
  have vL6 := ivI eT22_9 (by decide) vL6
  have vL8 := ivI eT22_9 (by decide) vL8
  have k0 := isI eT22_9 k0
  have vL10 := ivI_n eT22_9
  refine lv_aload_n hx hb dX0_init_25 rfl (lv_at hl 0 rfl) ?_
  refine lv_iload hx hb dX0_init_26 (lv_at hl 5 rfl) ?_
  refine pf_X0_24 X hw k0 hin dX0_init_28 (fun H locs hw => ?_)
  obtain ⟨T28_11, eT28_11, hw⟩ : ∃ zz9 : Pl, zz9 = sI T22_9 5 pr a5 ∧ PX G A s.heap zz9 H locs := ⟨_, rfl, hw⟩
  have kq0 := Kq.mI eT28_11 kq0
  have xx := ExX.mI eT28_11 xx
  have v0 := ivI eT28_11 (by decide) v0
  have vL4 := ivI eT28_11 (by decide) vL4
  have vL6 := ivI eT28_11 (by decide) vL6
  have vL8 := ivI eT28_11 (by decide) vL8
  have vL10 := ivI eT28_11 (by decide) vL10
  have k0 := isI eT28_11 k0
  have vL12 := ivI_n eT28_11
  exact hret T28_11 _ _ _ _ ⟨xx, v0, kq0, vL4, vL6, vL8, vL10, vL12⟩ hw dX0_init_31
set_option maxHeartbeats 4000000 in
set_option maxRecDepth 100000 in
theorem c_v_X1_init (l : Launch) (G : Gh) (S : Pl) (fa : Nat)  (k0 : is S 1 fa) : MtV l yX1_init cX1_init 1 none (Rm 1 3 216) G [.ref fa] S (fun (S' : Pl) => ∃ b1 b2 b3, ExX fa S S' ∧ pR S' 6 fa = some b1 ∧ pR S' 7 fa = some b2 ∧ pR S' 8 fa = some b3 ∧ is S' 12 b1 ∧ pN S' b1 = 72 ∧ is S' 12 b2 ∧ pN S' b2 = 72 ∧ is S' 16 b3 ∧ pN S' b3 = 72 ∧ Kq S S' ∧ (b1 ∉ pL S ∧ b2 ∉ pL S ∧ b3 ∉ pL S) ∧ (b1 ≠ b2 ∧ b1 ≠ b3 ∧ b2 ≠ b3) ∧ qI S' b1 = (fun _ => 0) ∧ qI S' b2 = (fun _ => 0) ∧ qI S' b3 = (fun _ => 0)) 3 216 := by
  refine MtV.of (by decide) (Nat.le_of_ble_eq_true rfl) ?_
  intro p e s m args below meth c Q A X hw hin hret ls hl
  have hx := X.1.1
  have hb := X.1.2.1
  have hl : lv_has ls 1 [(0, .ref fa)] := hl
  have xx := ExX.rf (S := S) (b := fa)
  have kq0 := Kq.rf (S := S)
  refine lv_aload_n hx hb dX1_init_0 rfl (lv_at hl 0 rfl) ?_
  refine W.objInit hx hb X.1.2.2.2.1 (X.1.2.2.2.2 _ wd_r4_23) (X.1.2.2.2.2 _ wd_r1_10) (X.1.2.2.2.2 _ wd_r1_11) rfl (by rw [X.1.2.2.1]; exact hl.1) rfl dX1_init_1 (Nat.le_of_ble_eq_true rfl) (Nat.le_of_ble_eq_true rfl) ?_
  refine W.eq (g2 := F0 m 4 ls []) rfl ?_
  refine lv_aload_n hx hb dX1_init_4 rfl (lv_at hl 0 rfl) ?_
  refine lv_bipush (v := 72) hx hb dX1_init_5 (by decide) ?_
  refine q_nwB (N' := 72) X hw wd_r2_15 (by decide) (by decide) (by decide) (Nat.le_of_ble_eq_true rfl) (Nat.le_of_ble_eq_true rfl) dX1_init_7 (fun a7_1 H f7_2 hw => ?_)
  obtain ⟨T7_3, eT7_3, hw⟩ : ∃ zz9 : Pl, zz9 = nA S a7_1 12 72 ∧ PX G A s.heap zz9 H [] := ⟨_, rfl, hw⟩
  have e4ne := (ne_of k0.1 f7_2)
  have e5ns := fresh_of xx f7_2
  have kq0 := Kq.mA eT7_3 f7_2 xx kq0
  have xx := ExX.mA eT7_3 f7_2 xx
  have k0 := isA eT7_3 f7_2 k0
  have kL6 := isA_n eT7_3
  have nL7 := lnA_n eT7_3
  have zL8 := zqA_n eT7_3
  refine pf_X1_9 X hw k0 hin dX1_init_9 (fun H locs hw => ?_)
  obtain ⟨T9_9, eT9_9, hw⟩ : ∃ zz9 : Pl, zz9 = sR T7_3 6 fa (some a7_1) ∧ PX G A s.heap zz9 H locs := ⟨_, rfl, hw⟩
  have kq0 := Kq.mR eT9_9 kq0
  have xx := ExX.mR eT9_9 xx
  have nL7 := lnR eT9_9 nL7
  have zL8 := zqR eT9_9 zL8
  have k0 := isR eT9_9 k0
  have kL6 := isR eT9_9 kL6
  have rL10 := rfR_n eT9_9
  refine lv_aload_n hx hb dX1_init_12 rfl (lv_at hl 0 rfl) ?_
  refine lv_bipush (v := 72) hx hb dX1_init_13 (by decide) ?_
  refine q_nwB (N' := 72) X hw wd_r2_15 (by decide) (by decide) (by decide) (Nat.le_of_ble_eq_true rfl) (Nat.le_of_ble_eq_true rfl) dX1_init_15 (fun a15_11 H f15_12 hw => ?_)
  obtain ⟨T15_13, eT15_13, hw⟩ : ∃ zz9 : Pl, zz9 = nA T9_9 a15_11 12 72 ∧ PX G A s.heap zz9 H locs := ⟨_, rfl, hw⟩
  have e14ne := (ne_of k0.1 f15_12)
  have e15ne := (ne_of kL6.1 f15_12)
  have e16ns := fresh_of xx f15_12
  have kq0 := Kq.mA eT15_13 f15_12 xx kq0
  have xx := ExX.mA eT15_13 f15_12 xx
  have nL7 := lnA eT15_13 f15_12 kL6.1 nL7
  have zL8 := zqA eT15_13 f15_12 kL6.1 zL8
  have rL10 := rfA eT15_13 rL10
  have k0 := isA eT15_13 f15_12 k0
  have kL6 := isA eT15_13 f15_12 kL6
  have kL17 := isA_n eT15_13
  have nL18 := lnA_n eT15_13
  have zL19 := zqA_n eT15_13
  refine pf_X1_15 X hw k0 hin dX1_init_17 (fun H locs hw => ?_)
  obtain ⟨T17_20, eT17_20, hw⟩ : ∃ zz9 : Pl, zz9 = sR T15_13 7 fa (some a15_11) ∧ PX G A s.heap zz9 H locs := ⟨_, rfl, hw⟩
  have kq0 := Kq.mR eT17_20 kq0
  have xx := ExX.mR eT17_20 xx
  have nL7 := lnR eT17_20 nL7
  have zL8 := zqR eT17_20 zL8
  have rL10 := rfR eT17_20 (by decide) rL10
  have nL18 := lnR eT17_20 nL18
  have zL19 := zqR eT17_20 zL19
  have k0 := isR eT17_20 k0
  have kL6 := isR eT17_20 kL6
  have kL17 := isR eT17_20 kL17
  have rL21 := rfR_n eT17_20
  refine lv_aload_n hx hb dX1_init_20 rfl (lv_at hl 0 rfl) ?_
  refine lv_bipush (v := 72) hx hb dX1_init_21 (by decide) ?_
  refine q_nwZ (N' := 72) X hw wd_r4_18 (by decide) (by decide) (by decide) (Nat.le_of_ble_eq_true rfl) (Nat.le_of_ble_eq_true rfl) dX1_init_23 (fun a23_22 H f23_23 hw => ?_)
  obtain ⟨T23_24, eT23_24, hw⟩ : ∃ zz9 : Pl, zz9 = nA T17_20 a23_22 16 72 ∧ PX G A s.heap zz9 H locs := ⟨_, rfl, hw⟩
  have e25ne := (ne_of k0.1 f23_23)
  have e26ne := (ne_of kL6.1 f23_23)
  have e27ne := (ne_of kL17.1 f23_23)
  have e28ns := fresh_of xx f23_23
  have kq0 := Kq.mA eT23_24 f23_23 xx kq0
  have xx := ExX.mA eT23_24 f23_23 xx
  have nL7 := lnA eT23_24 f23_23 kL6.1 nL7
  have zL8 := zqA eT23_24 f23_23 kL6.1 zL8
  have rL10 := rfA eT23_24 rL10
  have nL18 := lnA eT23_24 f23_23 kL17.1 nL18
  have zL19 := zqA eT23_24 f23_23 kL17.1 zL19
  have rL21 := rfA eT23_24 rL21
  have k0 := isA eT23_24 f23_23 k0
  have kL6 := isA eT23_24 f23_23 kL6
  have kL17 := isA eT23_24 f23_23 kL17
  have kL29 := isA_n eT23_24
  have nL30 := lnA_n eT23_24
  have zL31 := zqA_n eT23_24
  refine pf_X1_18 X hw k0 hin dX1_init_25 (fun H locs hw => ?_)
  obtain ⟨T25_32, eT25_32, hw⟩ : ∃ zz9 : Pl, zz9 = sR T23_24 8 fa (some a23_22) ∧ PX G A s.heap zz9 H locs := ⟨_, rfl, hw⟩
  have kq0 := Kq.mR eT25_32 kq0
  have xx := ExX.mR eT25_32 xx
  have nL7 := lnR eT25_32 nL7
  have zL8 := zqR eT25_32 zL8
  have rL10 := rfR eT25_32 (by decide) rL10
  have nL18 := lnR eT25_32 nL18
  have zL19 := zqR eT25_32 zL19
  have rL21 := rfR eT25_32 (by decide) rL21
  have nL30 := lnR eT25_32 nL30
  have zL31 := zqR eT25_32 zL31
  have k0 := isR eT25_32 k0
  have kL6 := isR eT25_32 kL6
  have kL17 := isR eT25_32 kL17
  have kL29 := isR eT25_32 kL29
  have rL33 := rfR_n eT25_32
  exact hret T25_32 _ _ _ _ ⟨a7_1, a15_11, a23_22, xx, rL10, rL21, rL33, kL6, nL7, kL17, nL18, kL29, nL30, kq0, ⟨e5ns, e16ns, e28ns⟩, ⟨e15ne, e26ne, e27ne⟩, zL8, zL19, zL31⟩ hw dX1_init_28
