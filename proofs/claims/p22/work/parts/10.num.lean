abbrev ch (S : Pl) (I : Nat → Nat → Int32) (J : Nat → Nat → Int64) (q : Nat → Nat → Int32) (y : Nat → Nat → Int64) : Pl := (pL S, pK S, I, J, pR S, pN S, q, y, qR S)
theorem iLt {x y : Int32} {a b : Int} (h : x < y) (hx : x.toInt = a) (hy : y.toInt = b) : a < b := by rw [← hx, ← hy]; exact Int32.lt_iff_toInt_lt.mp h
theorem iNlt {x y : Int32} {a b : Int} (h : ¬ x < y) (hx : x.toInt = a) (hy : y.toInt = b) : b ≤ a := by rw [← hx, ← hy]; exact Int.not_lt.mp (fun q => h (Int32.lt_iff_toInt_lt.mpr q))
theorem iLe {x y : Int32} {a b : Int} (h : x ≤ y) (hx : x.toInt = a) (hy : y.toInt = b) : a ≤ b := by rw [← hx, ← hy]; exact Int32.le_iff_toInt_le.mp h
theorem iNle {x y : Int32} {a b : Int} (h : ¬ x ≤ y) (hx : x.toInt = a) (hy : y.toInt = b) : b < a := by rw [← hx, ← hy]; exact Int.not_le.mp (fun q => h (Int32.le_iff_toInt_le.mpr q))
theorem iEq {x y : Int32} {a b : Int} (h : x = y) (hx : x.toInt = a) (hy : y.toInt = b) : a = b := by rw [← hx, ← hy, h]
theorem iNe {x y : Int32} {a b : Int} (h : ¬ x = y) (hx : x.toInt = a) (hy : y.toInt = b) : a ≠ b := by rw [← hx, ← hy]; exact fun q => h (Int32.toInt_inj.mp q)
theorem iRng (x : Int32) : -2147483648 ≤ x.toInt ∧ x.toInt < 2147483648 := ⟨by have := Int32.le_toInt x; simpa using this, by have := Int32.toInt_lt x; simpa using this⟩
theorem bm32 {z : Int} (h1 : -2147483648 ≤ z) (h2 : z < 2147483648) : z.bmod (2 ^ 32) = z := by
  rw [Int.bmod_eq_of_le] <;> omega
theorem bm64 {z : Int} (h1 : -9223372036854775808 ≤ z) (h2 : z < 9223372036854775808) : z.bmod (2 ^ 64) = z := by
  rw [Int.bmod_eq_of_le] <;> omega
theorem iAdd {v x y : Int32} {a b : Int} (e : v = x + y) (hx : x.toInt = a) (hy : y.toInt = b) (h1 : -2147483648 ≤ a + b) (h2 : a + b < 2147483648) : v.toInt = a + b := by rw [e, Int32.toInt_add, hx, hy]; exact bm32 h1 h2
theorem iSub {v x y : Int32} {a b : Int} (e : v = x - y) (hx : x.toInt = a) (hy : y.toInt = b) (h1 : -2147483648 ≤ a - b) (h2 : a - b < 2147483648) : v.toInt = a - b := by rw [e, Int32.toInt_sub, hx, hy]; exact bm32 h1 h2
theorem iMul {v x y : Int32} {a b : Int} (e : v = x * y) (hx : x.toInt = a) (hy : y.toInt = b) (h1 : -2147483648 ≤ a * b) (h2 : a * b < 2147483648) : v.toInt = a * b := by rw [e, Int32.toInt_mul, hx, hy]; exact bm32 h1 h2
theorem lAdd {v x y : Int64} {a b : Int} (e : v = x + y) (hx : x.toInt = a) (hy : y.toInt = b) (h1 : -9223372036854775808 ≤ a + b) (h2 : a + b < 9223372036854775808) : v.toInt = a + b := by rw [e, Int64.toInt_add, hx, hy]; exact bm64 h1 h2
theorem lMul {v x y : Int64} {a b : Int} (e : v = x * y) (hx : x.toInt = a) (hy : y.toInt = b) (h1 : -9223372036854775808 ≤ a * b) (h2 : a * b < 9223372036854775808) : v.toInt = a * b := by rw [e, Int64.toInt_mul, hx, hy]; exact bm64 h1 h2
theorem vin {i : Int32} {n N : Nat} (h : N = n) (h0 : 0 ≤ i.toInt) (h1 : i.toInt < n) : vp_in i N := by subst h; exact vp_in_iff.mpr ⟨h0, h1⟩
theorem vinl {i : Int32} {n N : Nat} {a : Int} (h : N = n) (h0 : 0 ≤ a) (ha : i.toInt = a) (h1 : a < n) : vp_in i N := by subst h; subst ha; exact vp_in_iff.mpr ⟨h0, h1⟩
theorem nbool {v : Int32} (h : v = 0 ∨ v = 1) : narrow .boolean (.int v) = .int v := by rcases h with rfl | rfl <;> rfl
theorem lc_v (x y : Int64) : (lg_cmp x y).toInt = if y.toInt < x.toInt then 1 else if x.toInt = y.toInt then 0 else -1 := by
  unfold lg_cmp
  have h1 : (x > y) ↔ y.toInt < x.toInt := Int64.lt_iff_toInt_lt
  have h2 : (x = y) ↔ x.toInt = y.toInt := Int64.toInt_inj.symm
  simp only [h1, h2]
  split
  · decide
  · split <;> decide
theorem lc_eq {v : Int32} {x y : Int64} (e : v = lg_cmp x y) (h : v = 0) : x.toInt = y.toInt := by
  have := lc_v x y; rw [← e, h] at this
  have h0 : (0 : Int32).toInt = 0 := by decide
  rw [h0] at this; split at this <;> (try split at this) <;> omega
theorem lc_ne {v : Int32} {x y : Int64} (e : v = lg_cmp x y) (h : ¬ v = 0) : x.toInt ≠ y.toInt := by
  intro q; apply h; rw [e]; rw [Int64.toInt_inj.mp q]; unfold lg_cmp; simp
theorem lc_lt {v : Int32} {x y : Int64} (e : v = lg_cmp x y) (h : v < 0) : x.toInt < y.toInt := by
  have := lc_v x y; rw [← e] at this; have h2 := iLt h rfl (by decide : (0 : Int32).toInt = 0); split at this <;> (try split at this) <;> omega
theorem lc_ge {v : Int32} {x y : Int64} (e : v = lg_cmp x y) (h : 0 ≤ v) : y.toInt ≤ x.toInt := by
  have := lc_v x y; rw [← e] at this; have h2 := iLe h (by decide : (0 : Int32).toInt = 0) rfl; split at this <;> (try split at this) <;> omega
theorem lc_gt {v : Int32} {x y : Int64} (e : v = lg_cmp x y) (h : 0 < v) : y.toInt < x.toInt := by
  have := lc_v x y; rw [← e] at this; have h2 := iLt h (by decide : (0 : Int32).toInt = 0) rfl; split at this <;> (try split at this) <;> omega
theorem lc_le {v : Int32} {x y : Int64} (e : v = lg_cmp x y) (h : v ≤ 0) : x.toInt ≤ y.toInt := by
  have := lc_v x y; rw [← e] at this; have h2 := iLe h rfl (by decide : (0 : Int32).toInt = 0); split at this <;> (try split at this) <;> omega
theorem lcn_eq {v : Int32} {x y : Int64} (e : v = lg_cmp x y) (h : ¬ v = 0) : x.toInt ≠ y.toInt := lc_ne e h
theorem lcn_ne {v : Int32} {x y : Int64} (e : v = lg_cmp x y) (h : v = 0) : x.toInt = y.toInt := lc_eq e h
theorem lcn_lt {v : Int32} {x y : Int64} (e : v = lg_cmp x y) (h : ¬ v < 0) : y.toInt ≤ x.toInt := lc_ge e (by have := iNlt h rfl (by decide : (0 : Int32).toInt = 0); exact Int32.le_iff_toInt_le.mpr (by rw [show (0 : Int32).toInt = 0 by decide]; exact this))
theorem lcn_ge {v : Int32} {x y : Int64} (e : v = lg_cmp x y) (h : ¬ 0 ≤ v) : x.toInt < y.toInt := lc_lt e (by have := iNle h (by decide : (0 : Int32).toInt = 0) rfl; exact Int32.lt_iff_toInt_lt.mpr (by rw [show (0 : Int32).toInt = 0 by decide]; exact this))
theorem lcn_gt {v : Int32} {x y : Int64} (e : v = lg_cmp x y) (h : ¬ 0 < v) : x.toInt ≤ y.toInt := lc_le e (by have := iNlt h (by decide : (0 : Int32).toInt = 0) rfl; exact Int32.le_iff_toInt_le.mpr (by rw [show (0 : Int32).toInt = 0 by decide]; exact this))
theorem lcn_le {v : Int32} {x y : Int64} (e : v = lg_cmp x y) (h : ¬ v ≤ 0) : y.toInt < x.toInt := lc_gt e (by have := iNle h rfl (by decide : (0 : Int32).toInt = 0); exact Int32.lt_iff_toInt_lt.mpr (by rw [show (0 : Int32).toInt = 0 by decide]; exact this))
theorem byte_ne {v x : Int32} (e : v = x &&& 255) : ¬ v = -1 := by
  obtain ⟨j, hj, h⟩ := pk_andE x (m := 255) 8 (by decide)
  rw [e, h]; intro q
  have h1 := nI_toInt (n := j) (by omega)
  rw [q] at h1
  have h2 : (-1 : Int32).toInt = -1 := by decide
  omega
/-! what the class's cells are: shapes (which a change of numbers leaves) -/
def shTape (S : Pl) (tp tb : Nat) : Prop := is S 7 tp ∧ pR S 60 tp = some tb ∧ is S 12 tb ∧ pN S tb = 1000
theorem t_m8 : ((-8) : Int32).toInt = -8 := by decide
theorem t_0 : (0 : Int32).toInt = 0 := by decide
theorem t_1 : (1 : Int32).toInt = 1 := by decide
theorem t_2 : (2 : Int32).toInt = 2 := by decide
theorem t_4 : (4 : Int32).toInt = 4 := by decide
theorem t_8 : (8 : Int32).toInt = 8 := by decide
theorem t_16 : (16 : Int32).toInt = 16 := by decide
theorem t_24 : (24 : Int32).toInt = 24 := by decide
theorem t_64 : (64 : Int32).toInt = 64 := by decide
theorem t_72 : (72 : Int32).toInt = 72 := by decide
theorem t_80 : (80 : Int32).toInt = 80 := by decide
theorem t_1000 : (1000 : Int32).toInt = 1000 := by decide
