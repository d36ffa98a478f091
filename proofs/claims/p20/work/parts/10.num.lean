theorem t_m100 : ((-100) : Int32).toInt = -100 := by decide
theorem t_m30 : ((-30) : Int32).toInt = -30 := by decide
theorem t_m8 : ((-8) : Int32).toInt = -8 := by decide
theorem t_m1 : ((-1) : Int32).toInt = -1 := by decide
theorem t_0 : (0 : Int32).toInt = 0 := by decide
theorem t_1 : (1 : Int32).toInt = 1 := by decide
theorem t_2 : (2 : Int32).toInt = 2 := by decide
theorem t_3 : (3 : Int32).toInt = 3 := by decide
theorem t_4 : (4 : Int32).toInt = 4 := by decide
theorem t_5 : (5 : Int32).toInt = 5 := by decide
theorem t_6 : (6 : Int32).toInt = 6 := by decide
theorem t_7 : (7 : Int32).toInt = 7 := by decide
theorem t_8 : (8 : Int32).toInt = 8 := by decide
theorem t_9 : (9 : Int32).toInt = 9 := by decide
theorem t_10 : (10 : Int32).toInt = 10 := by decide
theorem t_11 : (11 : Int32).toInt = 11 := by decide
theorem t_12 : (12 : Int32).toInt = 12 := by decide
theorem t_13 : (13 : Int32).toInt = 13 := by decide
theorem t_14 : (14 : Int32).toInt = 14 := by decide
theorem t_15 : (15 : Int32).toInt = 15 := by decide
theorem t_16 : (16 : Int32).toInt = 16 := by decide
theorem t_17 : (17 : Int32).toInt = 17 := by decide
theorem t_18 : (18 : Int32).toInt = 18 := by decide
theorem t_19 : (19 : Int32).toInt = 19 := by decide
theorem t_20 : (20 : Int32).toInt = 20 := by decide
theorem t_21 : (21 : Int32).toInt = 21 := by decide
theorem t_22 : (22 : Int32).toInt = 22 := by decide
theorem t_23 : (23 : Int32).toInt = 23 := by decide
theorem t_24 : (24 : Int32).toInt = 24 := by decide
theorem t_30 : (30 : Int32).toInt = 30 := by decide
theorem t_32 : (32 : Int32).toInt = 32 := by decide
theorem t_40 : (40 : Int32).toInt = 40 := by decide
theorem t_41 : (41 : Int32).toInt = 41 := by decide
theorem t_42 : (42 : Int32).toInt = 42 := by decide
theorem t_45 : (45 : Int32).toInt = 45 := by decide
theorem t_48 : (48 : Int32).toInt = 48 := by decide
theorem t_57 : (57 : Int32).toInt = 57 := by decide
theorem t_59 : (59 : Int32).toInt = 59 := by decide
theorem t_60 : (60 : Int32).toInt = 60 := by decide
theorem t_63 : (63 : Int32).toInt = 63 := by decide
theorem t_64 : (64 : Int32).toInt = 64 := by decide
theorem t_71 : (71 : Int32).toInt = 71 := by decide
theorem t_72 : (72 : Int32).toInt = 72 := by decide
theorem t_73 : (73 : Int32).toInt = 73 := by decide
theorem t_80 : (80 : Int32).toInt = 80 := by decide
theorem t_84 : (84 : Int32).toInt = 84 := by decide
theorem t_97 : (97 : Int32).toInt = 97 := by decide
theorem t_100 : (100 : Int32).toInt = 100 := by decide
theorem t_122 : (122 : Int32).toInt = 122 := by decide
theorem t_128 : (128 : Int32).toInt = 128 := by decide
theorem t_144 : (144 : Int32).toInt = 144 := by decide
theorem t_255 : (255 : Int32).toInt = 255 := by decide
theorem t_288 : (288 : Int32).toInt = 288 := by decide
theorem t_576 : (576 : Int32).toInt = 576 := by decide
theorem t_1000 : (1000 : Int32).toInt = 1000 := by decide
theorem t_1020 : (1020 : Int32).toInt = 1020 := by decide
theorem t_1681 : (1681 : Int32).toInt = 1681 := by decide
theorem t_2665 : (2665 : Int32).toInt = 2665 := by decide
theorem t_10000 : (10000 : Int32).toInt = 10000 := by decide
abbrev ch (S : Pl) (I : Nat → Nat → Int32) (J : Nat → Nat → Int64) (q : Nat → Nat → Int32) (y : Nat → Nat → Int64) : Pl := (pL S, pK S, I, J, pR S, pN S, q, y, qR S)
theorem iLt {x y : Int32} {a b : Int} (h : x < y) (hx : x.toInt = a) (hy : y.toInt = b) : a < b := by rw [← hx, ← hy]; exact Int32.lt_iff_toInt_lt.mp h
theorem iNlt {x y : Int32} {a b : Int} (h : ¬ x < y) (hx : x.toInt = a) (hy : y.toInt = b) : b ≤ a := by rw [← hx, ← hy]; exact Int.not_lt.mp (fun q => h (Int32.lt_iff_toInt_lt.mpr q))
theorem iLe {x y : Int32} {a b : Int} (h : x ≤ y) (hx : x.toInt = a) (hy : y.toInt = b) : a ≤ b := by rw [← hx, ← hy]; exact Int32.le_iff_toInt_le.mp h
theorem iNle {x y : Int32} {a b : Int} (h : ¬ x ≤ y) (hx : x.toInt = a) (hy : y.toInt = b) : b < a := by rw [← hx, ← hy]; exact Int.not_le.mp (fun q => h (Int32.le_iff_toInt_le.mpr q))
theorem iEq {x y : Int32} {a b : Int} (h : x = y) (hx : x.toInt = a) (hy : y.toInt = b) : a = b := by rw [← hx, ← hy, h]
theorem iNe {x y : Int32} {a b : Int} (h : ¬ x = y) (hx : x.toInt = a) (hy : y.toInt = b) : a ≠ b := by rw [← hx, ← hy]; exact fun q => h (Int32.toInt_inj.mp q)
theorem iRng (x : Int32) : -2147483648 ≤ x.toInt ∧ x.toInt < 2147483648 := ⟨by have := Int32.le_toInt x; simpa using this, by have := Int32.toInt_lt x; simpa using this⟩
theorem bm32 {z : Int} (h1 : -2147483648 ≤ z) (h2 : z < 2147483648) : z.bmod (2 ^ 32) = z := by
  rw [Int.bmod_eq_of_le] <;> omega
theorem bm64 {z : Int} (h1 : -9223372036854775808 ≤ z) (h2 : z < 9223372036854775808) : z.bmod (2 ^ 64) = z := by
  rw [Int.bmod_eq_of_le] <;> omega
theorem iAdd {v x y : Int32} {a b : Int} (e : v = x + y) (hx : x.toInt = a) (hy : y.toInt = b) (h1 : -2147483648 ≤ a + b) (h2 : a + b < 2147483648) : v.toInt = a + b := by rw [e, Int32.toInt_add, hx, hy]; exact bm32 h1 h2
theorem iSub {v x y : Int32} {a b : Int} (e : v = x - y) (hx : x.toInt = a) (hy : y.toInt = b) (h1 : -2147483648 ≤ a - b) (h2 : a - b < 2147483648) : v.toInt = a - b := by rw [e, Int32.toInt_sub, hx, hy]; exact bm32 h1 h2
theorem iMul {v x y : Int32} {a b : Int} (e : v = x * y) (hx : x.toInt = a) (hy : y.toInt = b) (h1 : -2147483648 ≤ a * b) (h2 : a * b < 2147483648) : v.toInt = a * b := by rw [e, Int32.toInt_mul, hx, hy]; exact bm32 h1 h2
theorem lAdd {v x y : Int64} {a b : Int} (e : v = x + y) (hx : x.toInt = a) (hy : y.toInt = b) (h1 : -9223372036854775808 ≤ a + b) (h2 : a + b < 9223372036854775808) : v.toInt = a + b := by rw [e, Int64.toInt_add, hx, hy]; exact bm64 h1 h2
theorem lMul {v x y : Int64} {a b : Int} (e : v = x * y) (hx : x.toInt = a) (hy : y.toInt = b) (h1 : -9223372036854775808 ≤ a * b) (h2 : a * b < 9223372036854775808) : v.toInt = a * b := by rw [e, Int64.toInt_mul, hx, hy]; exact bm64 h1 h2
theorem vin {i : Int32} {n N : Nat} (h : N = n) (h0 : 0 ≤ i.toInt) (h1 : i.toInt < n) : vp_in i N := by subst h; exact vp_in_iff.mpr ⟨h0, h1⟩
theorem vinl {i : Int32} {n N : Nat} {a : Int} (h : N = n) (h0 : 0 ≤ a) (ha : i.toInt = a) (h1 : a < n) : vp_in i N := by subst h; subst ha; exact vp_in_iff.mpr ⟨h0, h1⟩
theorem nbool {v : Int32} (h : v = 0 ∨ v = 1) : narrow .boolean (.int v) = .int v := by rcases h with rfl | rfl <;> rfl
theorem lc_v (x y : Int64) : (lg_cmp x y).toInt = if y.toInt < x.toInt then 1 else if x.toInt = y.toInt then 0 else -1 := by
  unfold lg_cmp
  have h1 : (x > y) ↔ y.toInt < x.toInt := Int64.lt_iff_toInt_lt
  have h2 : (x = y) ↔ x.toInt = y.toInt := Int64.toInt_inj.symm
  simp only [h1, h2]
  split
  · decide
  · split <;> decide
theorem lc_eq {v : Int32} {x y : Int64} (e : v = lg_cmp x y) (h : v = 0) : x.toInt = y.toInt := by
  have := lc_v x y; rw [← e, h] at this
  have h0 : (0 : Int32).toInt = 0 := by decide
  rw [h0] at this; split at this <;> (try split at this) <;> omega
theorem lc_ne {v : Int32} {x y : Int64} (e : v = lg_cmp x y) (h : ¬ v = 0) : x.toInt ≠ y.toInt := by
  intro q; apply h; rw [e]; rw [Int64.toInt_inj.mp q]; unfold lg_cmp; simp
theorem lc_lt {v : Int32} {x y : Int64} (e : v = lg_cmp x y) (h : v < 0) : x.toInt < y.toInt := by
  have := lc_v x y; rw [← e] at this; have h2 := iLt h rfl (by decide : (0 : Int32).toInt = 0); split at this <;> (try split at this) <;> omega
theorem lc_ge {v : Int32} {x y : Int64} (e : v = lg_cmp x y) (h : 0 ≤ v) : y.toInt ≤ x.toInt := by
  have := lc_v x y; rw [← e] at this; have h2 := iLe h (by decide : (0 : Int32).toInt = 0) rfl; split at this <;> (try split at this) <;> omega
theorem lc_gt {v : Int32} {x y : Int64} (e : v = lg_cmp x y) (h : 0 < v) : y.toInt < x.toInt := by
  have := lc_v x y; rw [← e] at this; have h2 := iLt h (by decide : (0 : Int32).toInt = 0) rfl; split at this <;> (try split at this) <;> omega
theorem lc_le {v : Int32} {x y : Int64} (e : v = lg_cmp x y) (h : v ≤ 0) : x.toInt ≤ y.toInt := by
  have := lc_v x y; rw [← e] at this; have h2 := iLe h rfl (by decide : (0 : Int32).toInt = 0); split at this <;> (try split at this) <;> omega
theorem lcn_eq {v : Int32} {x y : Int64} (e : v = lg_cmp x y) (h : ¬ v = 0) : x.toInt ≠ y.toInt := lc_ne e h
theorem lcn_ne {v : Int32} {x y : Int64} (e : v = lg_cmp x y) (h : v = 0) : x.toInt = y.toInt := lc_eq e h
theorem lcn_lt {v : Int32} {x y : Int64} (e : v = lg_cmp x y) (h : ¬ v < 0) : y.toInt ≤ x.toInt := lc_ge e (by have := iNlt h rfl (by decide : (0 : Int32).toInt = 0); exact Int32.le_iff_toInt_le.mpr (by rw [show (0 : Int32).toInt = 0 by decide]; exact this))
theorem lcn_ge {v : Int32} {x y : Int64} (e : v = lg_cmp x y) (h : ¬ 0 ≤ v) : x.toInt < y.toInt := lc_lt e (by have := iNle h (by decide : (0 : Int32).toInt = 0) rfl; exact Int32.lt_iff_toInt_lt.mpr (by rw [show (0 : Int32).toInt = 0 by decide]; exact this))
theorem lcn_gt {v : Int32} {x y : Int64} (e : v = lg_cmp x y) (h : ¬ 0 < v) : x.toInt ≤ y.toInt := lc_le e (by have := iNlt h (by decide : (0 : Int32).toInt = 0) rfl; exact Int32.le_iff_toInt_le.mpr (by rw [show (0 : Int32).toInt = 0 by decide]; exact this))
theorem lcn_le {v : Int32} {x y : Int64} (e : v = lg_cmp x y) (h : ¬ v ≤ 0) : y.toInt < x.toInt := lc_gt e (by have := iNle h rfl (by decide : (0 : Int32).toInt = 0); exact Int32.lt_iff_toInt_lt.mpr (by rw [show (0 : Int32).toInt = 0 by decide]; exact this))
theorem byte_ne {v x : Int32} (e : v = x &&& 255) : ¬ v = -1 := by
  obtain ⟨j, hj, h⟩ := pk_andE x (m := 255) 8 (by decide)
  rw [e, h]; intro q
  have h1 := nI_toInt (n := j) (by omega)
  rw [q] at h1
  have h2 : (-1 : Int32).toInt = -1 := by decide
  omega
theorem rcvk {p : Program} {s : State} {m : MethodId} {args : Array Value} {meth : Method} {c : Code} {cc : ByteArray} {nL : Nat} {ret : Option FieldType} {own : String} {G : Gh} {A : Nat → Prop} {S : Pl} {H : Heap} {locs : List Loc} {C : String} {T : u_T} {N ci a k : Nat} (X : Cx p s m args meth c cc nL ret own G A) (hw : PX G A s.heap S H locs) (ha : is S k a) (he : ∀ i j r n x y z, ∃ fs, pE G i j r n x y z k = .inr (ci, fs)) (hc : vwCl[ci]? = some (C, T, N)) : ∃ cell : Cell, H[a]? = some cell ∧ cell.vm.isStatics = false ∧ s.vm.findClass C = some cell.cls := by
  obtain ⟨fs, hfs⟩ := he (fun f => pI S f a) (fun f => pJ S f a) (fun f => pR S f a) (pN S a) (qI S a) (qJ S a) (qR S a)
  exact rcv X hw ha.1 ((pF_k ha.2).trans hfs) hc
/-! what the class's cells are: shapes (which a change of numbers leaves) -/
def shTape (S : Pl) (tp tb : Nat) : Prop := is S 7 tp ∧ pR S 60 tp = some tb ∧ is S 12 tb ∧ pN S tb = 1000
def shTok (S : Pl) (tk tp tb : Nat) : Prop := is S 8 tk ∧ pR S 65 tk = some tp ∧ shTape S tp tb
def shFlow (S : Pl) (fa : Nat → Nat) : Prop := is S 1 (fa 0) ∧ pR S 6 (fa 0) = some (fa 1) ∧ pR S 7 (fa 0) = some (fa 2) ∧ pR S 8 (fa 0) = some (fa 3) ∧ is S 12 (fa 1) ∧ pN S (fa 1) = 72 ∧ is S 12 (fa 2) ∧ pN S (fa 2) = 72 ∧ is S 16 (fa 3) ∧ pN S (fa 3) = 72
abbrev fl (sa : Nat → Nat) (i : Nat) : Nat → Nat := fun k => sa (10 + 4 * i + k)
def shSea (S : Pl) (sa : Nat → Nat) : Prop := is S 2 (sa 0) ∧ pR S 10 (sa 0) = some (fl sa 0 0) ∧ pR S 11 (sa 0) = some (sa 1) ∧ pR S 12 (sa 0) = some (sa 2) ∧ pR S 13 (sa 0) = some (sa 3) ∧ pR S 14 (sa 0) = some (sa 4) ∧ is S 17 (sa 1) ∧ pN S (sa 1) = 4 ∧ (∀ i, i < 4 → qR S (sa 1) i = some (fl sa (i + 1) 0)) ∧ is S 13 (sa 2) ∧ pN S (sa 2) = 4 ∧ is S 16 (sa 3) ∧ pN S (sa 3) = 64 ∧ is S 13 (sa 4) ∧ pN S (sa 4) = 42 ∧ (∀ i, i < 5 → shFlow S (fl sa i))
def shRd (S : Pl) (rd nb tk tp tb : Nat) : Prop := is S 3 rd ∧ pR S 20 rd = some tk ∧ pR S 21 rd = some nb ∧ is S 13 nb ∧ pN S nb = 4 ∧ shTok S tk tp tb
def shTale (S : Pl) (ta tm : Nat) : Prop := is S 6 ta ∧ pR S 55 ta = some tm ∧ is S 15 tm ∧ pN S tm = 73
def shSpl (S : Pl) (sp : Nat → Nat) : Prop := is S 5 (sp 0) ∧ pR S 40 (sp 0) = some (sp 1) ∧ pR S 41 (sp 0) = some (sp 2) ∧ pR S 42 (sp 0) = some (sp 3) ∧ pR S 43 (sp 0) = some (sp 4) ∧ pR S 44 (sp 0) = some (sp 5) ∧ is S 13 (sp 1) ∧ pN S (sp 1) = 40 ∧ is S 14 (sp 2) ∧ pN S (sp 2) = 40 ∧ is S 13 (sp 3) ∧ pN S (sp 3) = 21 ∧ is S 13 (sp 4) ∧ pN S (sp 4) = 21 ∧ is S 14 (sp 5) ∧ pN S (sp 5) = 1681 ∧ sp 3 ≠ sp 4
/-! the reader changes only these int fields -/
def rdF : List Nat := [15, 22, 23, 66, 67, 68, 69]
def Fr (I I' : Nat → Nat → Int32) : Prop := ∀ f, f ∉ rdF → I' f = I f
theorem Fr.rf {I : Nat → Nat → Int32} : Fr I I := fun _ _ => rfl
theorem Fr.tr {I I' I'' : Nat → Nat → Int32} (h : Fr I I') (h2 : Fr I' I'') : Fr I I'' := fun f hf => (h2 f hf).trans (h f hf)
theorem Fr.up {I I' : Nat → Nat → Int32} {f a : Nat} {v : Int32} (hf : f ∈ rdF) (h : Fr I I') : Fr I (up2 I' f a v) := fun g hg => by rw [up2_f (fun e => hg (by rw [e]; exact hf))]; exact h g hg
theorem Fr.sz {I I' : Nat → Nat → Int32} {tp : Nat} {n : Int} (h : Fr I I') (hz : (I 61 tp).toInt ≤ n) : (I' 61 tp).toInt ≤ n := by rw [h 61 (by decide)]; exact hz
theorem numb4 {v : Int32} {j : Nat} (e : v = skNUMBERS.getD j 0) : v.toInt ≤ 4 := by
  subst e
  match j with
  | 0 => decide
  | 1 => decide
  | 2 => decide
  | 3 => decide
  | 4 => decide
  | j + 5 => simp [skNUMBERS]
theorem rem_pos {x v : Int32} (e : v = x - x / 21 * 21) (D : v.toInt ≠ 0) (h : 0 ≤ x.toInt) : 1 ≤ x.toInt := by
  rcases Int.lt_or_le 0 x.toInt with q | q
  · omega
  · exfalso
    have h0 : x.toInt = (0 : Int32).toInt := by rw [show (0 : Int32).toInt = 0 by decide]; omega
    have hx := Int32.toInt_inj.mp h0
    subst hx
    apply D; rw [e]; decide
theorem clt {x : Int32} {n : Nat} (h0 : 0 ≤ x.toInt) (h : x.toInt < n) : x.toNatClampNeg < n := by
  have e : (x.toNatClampNeg : Int) = x.toInt := by rw [Int32.toNatClampNeg]; exact Int.toNat_of_nonneg h0
  omega
theorem cl_toInt {x : Int32} (h : 0 ≤ x.toInt) : (x.toNatClampNeg : Int) = x.toInt := by
  rw [Int32.toNatClampNeg]; exact Int.toNat_of_nonneg h
def spN (I : Nat → Nat → Int32) (sp : Nat → Nat) : Prop := 0 ≤ (I 47 (sp 0)).toInt ∧ (I 47 (sp 0)).toInt ≤ 40 ∧ 0 ≤ (I 45 (sp 0)).toInt ∧ (I 45 (sp 0)).toInt ≤ 40 ∧ 1 ≤ (I 46 (sp 0)).toInt ∧ (I 46 (sp 0)).toInt ≤ 21
def spS (I q : Nat → Nat → Int32) (sp : Nat → Nat) : Prop := ∀ k : Nat, (k : Int) < (I 46 (sp 0)).toInt → 0 ≤ (q (sp 3) k).toInt ∧ (q (sp 3) k).toInt ≤ 20
theorem spS_at {I q : Nat → Nat → Int32} {sp : Nat → Nat} {x : Int32} (h : spS I q sp) (h0 : 0 ≤ x.toInt) (h1 : x.toInt < (I 46 (sp 0)).toInt) : 0 ≤ (q (sp 3) x.toNatClampNeg).toInt ∧ (q (sp 3) x.toNatClampNeg).toInt ≤ 20 := h _ (by rw [cl_toInt h0]; exact h1)
theorem spS_push {I q q' : Nat → Nat → Int32} {sp : Nat → Nat} {x v : Int32} (h : spS I q sp) (h0 : 0 ≤ (I 46 (sp 0)).toInt) (hv : v.toInt = (I 46 (sp 0)).toInt + 1) (hq : q' (sp 3) = upd (q (sp 3)) (I 46 (sp 0)).toNatClampNeg x) (hx : 0 ≤ x.toInt ∧ x.toInt ≤ 20) : spS (up2 I 46 (sp 0) v) q' sp := by
  intro k hk
  rw [up2_s] at hk
  rw [hq]
  by_cases e : k = (I 46 (sp 0)).toNatClampNeg
  · rw [e, pk_us]; exact hx
  · rw [pk_un e]
    refine h k ?_
    have := cl_toInt h0
    omega
theorem spS_one {I0 q q6 q21 : Nat → Nat → Int32} {sp : Nat → Nat} {r : Nat → Int32} (c6 : q6 = va_up q (sp 3) (upd (q (sp 3)) (0 : Int32).toNatClampNeg 0)) (c21 : q21 = va_up q6 (sp 4) r) (ne : sp 3 ≠ sp 4) : spS (up2 I0 46 (sp 0) 1) q21 sp := by
  intro k hk
  rw [up2_s] at hk
  have h1 := t_1
  have hk0 : k = 0 := by omega
  subst hk0
  rw [c21, vu_n ne, c6, vu_s, show (0 : Int32).toNatClampNeg = 0 by decide, pk_us]
  decide
theorem effb {a v w : Int32} (e : v = if (40 : Int32) < a then 40 else a) (e2 : w = if (0 : Int32) < v then v else 0) : 0 ≤ w.toInt ∧ w.toInt ≤ 40 := by
  have hv : v.toInt ≤ 40 := by
    rw [e]; split
    · decide
    · rename_i h; have := iNlt h t_40 rfl; exact this
  rw [e2]; split
  · rename_i h; have := iLt h t_0 rfl; omega
  · decide
theorem wg_N {I0 I1 I2 : Nat → Nat → Int32} {sp : Nat → Nat} {v : Int32} (hef : 0 ≤ v.toInt ∧ v.toInt ≤ 40) (h1 : (∀ f, f ≠ 45 → I1 f = up2 I0 47 (sp 0) v f) ∧ 0 ≤ (I1 45 (sp 0)).toInt ∧ (I1 45 (sp 0)).toInt ≤ 40) {q : Nat → Nat → Int32} (h2 : (∀ f, f ≠ 46 → I2 f = I1 f) ∧ 1 ≤ (I2 46 (sp 0)).toInt ∧ (I2 46 (sp 0)).toInt ≤ 21 ∧ spS I2 q sp) : spN I2 sp := by
  have a : I2 47 = I1 47 := h2.1 47 (by decide)
  have b : I2 45 = I1 45 := h2.1 45 (by decide)
  have c : I1 47 (sp 0) = v := by rw [h1.1 47 (by decide)]; exact up2_s
  refine ⟨by rw [a, c]; exact hef.1, by rw [a, c]; exact hef.2, by rw [b]; exact h1.2.1, by rw [b]; exact h1.2.2, h2.2.1, h2.2.2.1⟩
theorem wg_S {I1 I2 q : Nat → Nat → Int32} {sp : Nat → Nat} (h2 : (∀ f, f ≠ 46 → I2 f = I1 f) ∧ 1 ≤ (I2 46 (sp 0)).toInt ∧ (I2 46 (sp 0)).toInt ≤ 21 ∧ spS I2 q sp) : spS I2 q sp := h2.2.2.2
theorem wg_I {I0 I1 I2 q : Nat → Nat → Int32} {sp : Nat → Nat} {v : Int32} (h1 : (∀ f, f ≠ 45 → I1 f = up2 I0 47 (sp 0) v f) ∧ 0 ≤ (I1 45 (sp 0)).toInt ∧ (I1 45 (sp 0)).toInt ≤ 40) (h2 : (∀ f, f ≠ 46 → I2 f = I1 f) ∧ 1 ≤ (I2 46 (sp 0)).toInt ∧ (I2 46 (sp 0)).toInt ≤ 21 ∧ spS I2 q sp) : ∀ f, f ∉ [45, 46, 47] → I2 f = I0 f := by
  intro f hf
  simp only [List.mem_cons, List.not_mem_nil, or_false, not_or] at hf
  rw [h2.1 f hf.2.1, h1.1 f hf.1, up2_f hf.2.2]
theorem skLb {k : Nat} (hk : k < 5) : (Int32.ofNat (skL.getD k 0)).toInt = (skL.getD k 0 : Nat) ∧ skL.getD k 0 ≤ 6 := by
  match k, hk with
  | 0, _ => decide
  | 1, _ => decide
  | 2, _ => decide
  | 3, _ => decide
  | 4, _ => decide
theorem skLc {k : Nat} {v : Int32} (hk : k < 5) (h : v = Int32.ofNat (skL.getD k 0)) : v.toInt = (skL.getD k 0 : Nat) ∧ skL.getD k 0 ≤ 6 := by rw [h]; exact skLb hk
