
/-! ===== the text of a sea, purely: bytes c (beyond n: 0), tokens, lines ===== -/
def tx (row : Nat → Int32) (n : Nat) : Nat → Int32 := fun i => if i < n then row i &&& 255 else 0
theorem tx_in {row : Nat → Int32} {n i : Nat} (h : i < n) : tx row n i = row i &&& 255 := if_pos h
theorem tx_out {row : Nat → Int32} {n i : Nat} (h : n ≤ i) : tx row n i = 0 := if_neg (by omega)
theorem tx_cong {row row' : Nat → Int32} {n : Nat} (h : ∀ i, i < n → row i = row' i) : tx row n = tx row' n := by
  funext i; unfold tx
  by_cases hi : i < n
  · rw [if_pos hi, if_pos hi, h i hi]
  · rw [if_neg hi, if_neg hi]
theorem and255 (x : Int32) : 0 ≤ (x &&& 255).toInt ∧ (x &&& 255).toInt ≤ 255 := by
  obtain ⟨j, hj, h⟩ := pk_andE x (m := 255) 8 (by decide)
  have h1 := nI_toInt (n := j) (by omega)
  rw [h, h1]; omega
def bB (x : Int32) : Bool := decide (x.toInt = 32 ∨ x.toInt = 10)
def lB (x : Int32) : Bool := decide (97 ≤ x.toInt ∧ x.toInt ≤ 122)
def dB (x : Int32) : Bool := decide (48 ≤ x.toInt ∧ x.toInt ≤ 57)
theorem bB_y {x : Int32} (h : x.toInt = 32 ∨ x.toInt = 10) : bB x = true := decide_eq_true h
theorem bB_i {x : Int32} : bB x = true ↔ (x.toInt = 32 ∨ x.toInt = 10) := decide_eq_true_iff
theorem lB_i {x : Int32} : lB x = true ↔ (97 ≤ x.toInt ∧ x.toInt ≤ 122) := decide_eq_true_iff
theorem dB_i {x : Int32} : dB x = true ↔ (48 ≤ x.toInt ∧ x.toInt ≤ 57) := decide_eq_true_iff
/-- the first place from p on, up to n, where P doesn't hold -/
def runF (P : Int32 → Bool) (c : Nat → Int32) (n : Nat) : Nat → Nat → Nat
  | 0, p => p
  | f + 1, p => if p < n ∧ P (c p) = true then runF P c n f (p + 1) else p
def run (P : Int32 → Bool) (c : Nat → Int32) (n p : Nat) : Nat := runF P c n (n - p) p
theorem run_y {P : Int32 → Bool} {c : Nat → Int32} {n p : Nat} (h : p < n) (hp : P (c p) = true) : run P c n p = run P c n (p + 1) := by
  unfold run
  obtain ⟨f, hf⟩ : ∃ f, n - p = f + 1 := ⟨n - p - 1, by omega⟩
  rw [hf, runF, if_pos ⟨h, hp⟩, show n - (p + 1) = f by omega]
theorem run_n {P : Int32 → Bool} {c : Nat → Int32} {n p : Nat} (h : ¬ (p < n ∧ P (c p) = true)) : run P c n p = p := by
  unfold run
  cases n - p with
  | zero => rfl
  | succ f => rw [runF, if_neg h]
theorem runF_b {P : Int32 → Bool} {c : Nat → Int32} {n : Nat} : ∀ (f p : Nat), p ≤ runF P c n f p ∧ (p ≤ n → runF P c n f p ≤ n) ∧ runF P c n f p ≤ p + f ∧ ∀ i, p ≤ i → i < runF P c n f p → P (c i) = true
  | 0, p => ⟨Nat.le_refl _, fun h => h, Nat.le_refl _, fun i h1 h2 => absurd h2 (by simp only [runF]; omega)⟩
  | f + 1, p => by
    rw [runF]
    by_cases h : p < n ∧ P (c p) = true
    · rw [if_pos h]
      obtain ⟨i1, i2, i3, i4⟩ := runF_b (P := P) (c := c) (n := n) f (p + 1)
      refine ⟨by omega, fun _ => i2 (by omega), by omega, fun i h1 h2 => ?_⟩
      by_cases e : i = p
      · rw [e]; exact h.2
      · exact i4 i (by omega) h2
    · rw [if_neg h]
      exact ⟨Nat.le_refl _, fun q => q, by omega, fun i h1 h2 => absurd h2 (by omega)⟩
theorem run_ge {P : Int32 → Bool} {c : Nat → Int32} {n p : Nat} : p ≤ run P c n p := (runF_b _ _).1
theorem run_le {P : Int32 → Bool} {c : Nat → Int32} {n p : Nat} (h : p ≤ n) : run P c n p ≤ n := (runF_b _ _).2.1 h
theorem run_in {P : Int32 → Bool} {c : Nat → Int32} {n p i : Nat} (h1 : p ≤ i) (h2 : i < run P c n p) : P (c i) = true := (runF_b _ _).2.2.2 i h1 h2
/-- a token's start, first digit, end, kind (0 none, 1 the end, 2 word, 3 number, 4 semicolon), value -/
def tS (c : Nat → Int32) (n p : Nat) : Nat := run bB c n p
def tF (c : Nat → Int32) (s : Nat) : Nat := if (c s).toInt = 45 then s + 1 else s
def nmC (x : Int32) : Prop := (48 ≤ x.toInt ∧ x.toInt ≤ 57) ∨ x.toInt = 45
def dv (c : Nat → Int32) (p : Nat) : Nat → Int32
  | 0 => 0
  | k + 1 => dv c p k * 10 + c (p + k) - 48
/-- a token from s on: end, kind, value -/
def uE (c : Nat → Int32) (n s : Nat) : Nat := if n ≤ s then s else if lB (c s) = true then run lB c n s else if dB (c s) = true ∨ (c s).toInt = 45 then run dB c n (tF c s) else s + 1
def uG (c : Nat → Int32) (n s : Nat) : Nat := run dB c n (tF c s) - tF c s
def uK (c : Nat → Int32) (n s : Nat) : Int := if n ≤ s then 1 else if lB (c s) = true then (if run lB c n s - s ≤ 8 then 2 else 0) else if dB (c s) = true ∨ (c s).toInt = 45 then (if (1 ≤ uG c n s ∧ uG c n s ≤ 3) ∧ lB (c (run dB c n (tF c s))) = false then 3 else 0) else if (c s).toInt = 59 then 4 else 0
def uV (c : Nat → Int32) (n s : Nat) : Int32 := if (c s).toInt = 45 then - dv c (tF c s) (uG c n s) else dv c (tF c s) (uG c n s)
def tE (c : Nat → Int32) (n p : Nat) : Nat := uE c n (tS c n p)
def tK (c : Nat → Int32) (n p : Nat) : Int := uK c n (tS c n p)
def tV (c : Nat → Int32) (n p : Nat) : Int32 := uV c n (tS c n p)
theorem tS_le {c : Nat → Int32} {n p : Nat} (h : p ≤ n) : p ≤ tS c n p ∧ tS c n p ≤ n := ⟨run_ge, run_le h⟩
theorem tF_le {c : Nat → Int32} {n s : Nat} (h : s < n) : s ≤ tF c s ∧ tF c s ≤ n := by unfold tF; split <;> omega
theorem uE_le {c : Nat → Int32} {n s : Nat} (h : s ≤ n) : s ≤ uE c n s ∧ uE c n s ≤ n := by
  unfold uE
  by_cases h1 : n ≤ s
  · rw [if_pos h1]; omega
  · rw [if_neg h1]
    by_cases h2 : lB (c s) = true
    · rw [if_pos h2]; exact ⟨run_ge, run_le h⟩
    · rw [if_neg h2]
      by_cases h3 : dB (c s) = true ∨ (c s).toInt = 45
      · rw [if_pos h3]
        have hf := tF_le (c := c) (n := n) (s := s) (by omega)
        have := run_ge (P := dB) (c := c) (n := n) (p := tF c s)
        have := run_le (P := dB) (c := c) hf.2
        omega
      · rw [if_neg h3]; omega
theorem tE_le {c : Nat → Int32} {n p : Nat} (h : p ≤ n) : p ≤ tE c n p ∧ tE c n p ≤ n := by
  have h1 := tS_le (c := c) h
  have h2 := uE_le (c := c) h1.2
  unfold tE; omega
/-! a run, step by step, by numbers of the machine -/
theorem rs_s {P : Int32 → Bool} {c : Nat → Int32} {n x : Nat} {i i' : Int32} (h : run P c n i.toNatClampNeg = x) (h0 : 0 ≤ i.toInt) (hi : i.toInt < (n : Int)) (hp : P (c i.toNatClampNeg) = true) (ti : i'.toInt = i.toInt + 1) : run P c n i'.toNatClampNeg = x := by
  have h1 := cl_toInt h0
  have h2 := cl_toInt (x := i') (by omega)
  rw [← h, run_y (by omega) hp, show i'.toNatClampNeg = i.toNatClampNeg + 1 by omega]
theorem rs_e {P : Int32 → Bool} {c : Nat → Int32} {n x : Nat} {i : Int32} (h : run P c n i.toNatClampNeg = x) (h0 : 0 ≤ i.toInt) (hno : (n : Int) ≤ i.toInt ∨ P (c i.toNatClampNeg) = false) : i.toInt = (x : Int) := by
  have h1 := cl_toInt h0
  rw [← h, run_n (fun q => ?_)]
  · omega
  · rcases hno with hno | hno
    · omega
    · rw [hno] at q; exact absurd q.2 (by decide)
theorem bB_f {x : Int32} (h : ¬ (x.toInt = 32 ∨ x.toInt = 10)) : bB x = false := decide_eq_false h
theorem lB_f {x : Int32} (h : ¬ (97 ≤ x.toInt ∧ x.toInt ≤ 122)) : lB x = false := decide_eq_false h
theorem dB_f {x : Int32} (h : ¬ (48 ≤ x.toInt ∧ x.toInt ≤ 57)) : dB x = false := decide_eq_false h
theorem nt_of {b : Bool} (h : b = false) : ¬ b = true := by rw [h]; decide
theorem u_end {c : Nat → Int32} {n s : Nat} (h : n ≤ s) : uE c n s = s ∧ uK c n s = 1 := ⟨if_pos h, if_pos h⟩
theorem u_word {c : Nat → Int32} {n s : Nat} (h : s < n) (hl : lB (c s) = true) : uE c n s = run lB c n s ∧ uK c n s = (if run lB c n s - s ≤ 8 then 2 else 0) := by
  unfold uE uK
  rw [if_neg (by omega), if_pos hl, if_neg (by omega), if_pos hl]
  exact ⟨rfl, rfl⟩
theorem u_num {c : Nat → Int32} {n s : Nat} (h : s < n) (hl : lB (c s) = false) (hd : dB (c s) = true ∨ (c s).toInt = 45) : uE c n s = run dB c n (tF c s) ∧ uK c n s = (if (1 ≤ uG c n s ∧ uG c n s ≤ 3) ∧ lB (c (run dB c n (tF c s))) = false then 3 else 0) := by
  unfold uE uK
  rw [if_neg (by omega), if_neg (nt_of hl), if_pos hd, if_neg (by omega), if_neg (nt_of hl), if_pos hd]
  exact ⟨rfl, rfl⟩
theorem u_oth {c : Nat → Int32} {n s : Nat} (h : s < n) (hl : lB (c s) = false) (hd : ¬ (dB (c s) = true ∨ (c s).toInt = 45)) : uE c n s = s + 1 ∧ uK c n s = (if (c s).toInt = 59 then 4 else 0) := by
  unfold uE uK
  rw [if_neg (by omega), if_neg (nt_of hl), if_neg hd, if_neg (by omega), if_neg (nt_of hl), if_neg hd]
  exact ⟨rfl, rfl⟩
theorem dv_s {c : Nat → Int32} {f : Nat} {z v w x : Int32} {b b' : Int32} (hz : z = dv c f (b.toNatClampNeg - f)) (hx : x = c b.toNatClampNeg) (e1 : v = z * 10 + x) (e2 : w = v - 48) (h0 : 0 ≤ b.toInt) (hf : (f : Int) ≤ b.toInt) (tb : b'.toInt = b.toInt + 1) : w = dv c f (b'.toNatClampNeg - f) := by
  have h1 := cl_toInt h0
  have h2 := cl_toInt (x := b') (by omega)
  rw [show b'.toNatClampNeg - f = (b.toNatClampNeg - f) + 1 by omega, dv, ← hz, show f + (b.toNatClampNeg - f) = b.toNatClampNeg by omega, ← hx, e2, e1]
theorem tx_nn {row : Nat → Int32} {n i : Nat} : 0 ≤ (tx row n i).toInt ∧ (tx row n i).toInt ≤ 255 := by
  unfold tx; split
  · exact and255 _
  · decide
/-- what byteAt tells -/
def byA (c : Nat → Int32) (n : Nat) (i r : Int32) : Prop := ((0 ≤ i.toInt ∧ i.toInt < (n : Int)) → r = c i.toNatClampNeg) ∧ (¬ (0 ≤ i.toInt ∧ i.toInt < (n : Int)) → r = -1)
theorem byA.at {c : Nat → Int32} {n e : Nat} {i r : Int32} (h : byA c n i r) (he : i.toInt = (e : Int)) : (e < n → r.toInt = (c e).toInt) ∧ (n ≤ e → r.toInt = -1) := by
  have h1 := cl_toInt (x := i) (by omega)
  refine ⟨fun q => ?_, fun q => ?_⟩
  · rw [h.1 (by omega), show i.toNatClampNeg = e by omega]
  · rw [h.2 (by omega)]; decide
theorem byA.l {c row : Nat → Int32} {n e : Nat} {i r : Int32} (h : byA c n i r) (he : i.toInt = (e : Int)) (hc : c = tx row n) : lB (c e) = true ↔ (97 ≤ r.toInt ∧ r.toInt ≤ 122) := by
  have h1 := h.at he
  by_cases q : e < n
  · rw [lB_i, h1.1 q]
  · have h2 := h1.2 (by omega)
    rw [lB_i, hc, tx_out (by omega), show (0 : Int32).toInt = 0 by decide]; omega
/-- the tokens stand at the token from p on -/
def tokAt (I : Nat → Nat → Int32) (tk : Nat) (c : Nat → Int32) (n p : Nat) : Prop := (I 67 tk).toInt = (tS c n p : Nat) ∧ (I 68 tk).toInt = (tE c n p : Nat) ∧ (I 66 tk).toInt = tK c n p ∧ (tK c n p = 3 → I 69 tk = tV c n p)
theorem tok_fin {I : Nat → Nat → Int32} {tk s p n : Nat} {c : Nat → Int32} (hs : tS c n p = s) (h67 : (I 67 tk).toInt = (s : Int)) (h68 : (I 68 tk).toInt = (uE c n s : Nat)) (h66 : (I 66 tk).toInt = uK c n s) (h69 : uK c n s = 3 → I 69 tk = uV c n s) : tokAt I tk c n p := by
  subst hs; exact ⟨h67, h68, h66, h69⟩
theorem nt3 {c : Nat → Int32} {n s : Nat} {x : Int} (h : uK c n s = x) (hx : x ≠ 3) {A : Prop} : uK c n s = 3 → A := fun q => absurd (h.symm.trans q) hx
/-! words -/
def spl (c : Nat → Int32) (s e k : Nat) : Prop := e - s = skL.getD k 0 ∧ ∀ i, i < skL.getD k 0 → c (s + i) = (skB.getD k []).getD i 0
theorem chr_sk : ∀ k, k < 5 → ∀ i, i < skL.getD k 0 → (((skB.getD k []).getD i 0 &&& 255).toUInt32 % 65536).toInt32 = (skB.getD k []).getD i 0 := by decide +kernel
theorem chr_pos : ∀ k, k < 5 → ∀ i, i < skL.getD k 0 → 97 ≤ ((skB.getD k []).getD i 0).toInt ∧ ((skB.getD k []).getD i 0).toInt ≤ 122 := by decide +kernel
/-- how far a word has been held against its letters -/
def spI (c : Nat → Int32) (s e k : Nat) (z : Int32) (i : Nat) : Prop := (z = 1 ∧ e - s = skL.getD k 0 ∧ ∀ j, j < i → j < skL.getD k 0 → c (s + j) = (skB.getD k []).getD j 0) ∨ (z = 0 ∧ ¬ spl c s e k)
theorem spI_end {c : Nat → Int32} {s e k i : Nat} {z : Int32} (h : spI c s e k z i) (hi : skL.getD k 0 ≤ i ∨ z = 0) : (z = 1 ∧ spl c s e k) ∨ (z = 0 ∧ ¬ spl c s e k) := by
  rcases h with ⟨h1, h2, h3⟩ | h
  · rcases hi with hi | hi
    · exact Or.inl ⟨h1, h2, fun j hj => h3 j (by omega) hj⟩
    · rw [hi] at h1; exact absurd h1 (by decide)
  · exact Or.inr h
theorem spI_y {c : Nat → Int32} {s e k i i' : Nat} {r : Int32} (h : spI c s e k 1 i) (hi : i < skL.getD k 0) (hr : c (s + i) = (skB.getD k []).getD i 0) (e' : i' = i + 1) : spI c s e k 1 i' := by
  subst e'
  rcases h with ⟨h1, h2, h3⟩ | h
  · refine Or.inl ⟨rfl, h2, fun j h4 h5 => ?_⟩
    by_cases q : j = i
    · rw [q]; exact hr
    · exact h3 j (by omega) h5
  · exact absurd h.1 (by decide)
theorem spI_n {c : Nat → Int32} {s e k i i' : Nat} (hi : i < skL.getD k 0) (hr : ¬ c (s + i) = (skB.getD k []).getD i 0) : spI c s e k 0 i' := Or.inr ⟨rfl, fun q => hr (q.2 i hi)⟩
/-- which line a word begins: -1 none -/
def srtA (c : Nat → Int32) (s e : Nat) (r : Int) : Prop := (r = -1 ∧ ∀ k, k < 5 → ¬ spl c s e k) ∨ ∃ k : Nat, r = (k : Int) ∧ k < 5 ∧ spl c s e k
theorem spl_u {c : Nat → Int32} {s e j k : Nat} (hj : j < 5) (hk : k < 5) (h : spl c s e j) (g : spl c s e k) : j = k := by
  have L : ∀ j, j < 5 → ∀ k, k < 5 → skL.getD j 0 = skL.getD k 0 → (∀ i, i < skL.getD j 0 → (skB.getD j []).getD i 0 = (skB.getD k []).getD i 0) → j = k := by decide +kernel
  have hl : skL.getD j 0 = skL.getD k 0 := h.1.symm.trans g.1
  exact L j hj k hk hl (fun i hi => (h.2 i hi).symm.trans (g.2 i (hl ▸ hi)))
theorem srtA_u {c : Nat → Int32} {s e : Nat} {r r' : Int} (h : srtA c s e r) (g : srtA c s e r') : r = r' := by
  rcases h with ⟨h1, h2⟩ | ⟨k, h1, h2, h3⟩ <;> rcases g with ⟨g1, g2⟩ | ⟨j, g1, g2, g3⟩
  · rw [h1, g1]
  · exact absurd g3 (h2 j g2)
  · exact absurd h3 (g2 k h2)
  · rw [h1, g1, spl_u h2 g2 h3 g3]
def FrBL : List Nat := [68]
def FrB (I I' : Nat → Nat → Int32) : Prop := ∀ f, f ∉ FrBL → I' f = I f
theorem FrB.rf {I : Nat → Nat → Int32} : FrB I I := fun _ _ => rfl
theorem FrB.tr {I I' I'' : Nat → Nat → Int32} (h : FrB I I') (h2 : FrB I' I'') : FrB I I'' := fun f hf => (h2 f hf).trans (h f hf)
theorem FrB.up {I I' : Nat → Nat → Int32} {f a : Nat} {v : Int32} (hf : f ∈ FrBL) (h : FrB I I') : FrB I (up2 I' f a v) := fun g hg => by rw [up2_f (fun e => hg (by rw [e]; exact hf))]; exact h g hg
def FrXL : List Nat := [66, 68]
def FrX (I I' : Nat → Nat → Int32) : Prop := ∀ f, f ∉ FrXL → I' f = I f
theorem FrX.rf {I : Nat → Nat → Int32} : FrX I I := fun _ _ => rfl
theorem FrX.tr {I I' I'' : Nat → Nat → Int32} (h : FrX I I') (h2 : FrX I' I'') : FrX I I'' := fun f hf => (h2 f hf).trans (h f hf)
theorem FrX.up {I I' : Nat → Nat → Int32} {f a : Nat} {v : Int32} (hf : f ∈ FrXL) (h : FrX I I') : FrX I (up2 I' f a v) := fun g hg => by rw [up2_f (fun e => hg (by rw [e]; exact hf))]; exact h g hg
def FrYL : List Nat := [66, 68, 69]
def FrY (I I' : Nat → Nat → Int32) : Prop := ∀ f, f ∉ FrYL → I' f = I f
theorem FrY.rf {I : Nat → Nat → Int32} : FrY I I := fun _ _ => rfl
theorem FrY.tr {I I' I'' : Nat → Nat → Int32} (h : FrY I I') (h2 : FrY I' I'') : FrY I I'' := fun f hf => (h2 f hf).trans (h f hf)
theorem FrY.up {I I' : Nat → Nat → Int32} {f a : Nat} {v : Int32} (hf : f ∈ FrYL) (h : FrY I I') : FrY I (up2 I' f a v) := fun g hg => by rw [up2_f (fun e => hg (by rw [e]; exact hf))]; exact h g hg
def FrTL : List Nat := [66, 67, 68, 69]
def FrT (I I' : Nat → Nat → Int32) : Prop := ∀ f, f ∉ FrTL → I' f = I f
theorem FrT.rf {I : Nat → Nat → Int32} : FrT I I := fun _ _ => rfl
theorem FrT.tr {I I' I'' : Nat → Nat → Int32} (h : FrT I I') (h2 : FrT I' I'') : FrT I I'' := fun f hf => (h2 f hf).trans (h f hf)
theorem FrT.up {I I' : Nat → Nat → Int32} {f a : Nat} {v : Int32} (hf : f ∈ FrTL) (h : FrT I I') : FrT I (up2 I' f a v) := fun g hg => by rw [up2_f (fun e => hg (by rw [e]; exact hf))]; exact h g hg
theorem FrB.t {I I' : Nat → Nat → Int32} (h : FrB I I') : FrT I I' := fun f hf => h f (fun q => hf ((by decide : ∀ x ∈ FrBL, x ∈ FrTL) f q))
theorem FrX.t {I I' : Nat → Nat → Int32} (h : FrX I I') : FrT I I' := fun f hf => h f (fun q => hf ((by decide : ∀ x ∈ FrXL, x ∈ FrTL) f q))
theorem FrY.t {I I' : Nat → Nat → Int32} (h : FrY I I') : FrT I I' := fun f hf => h f (fun q => hf ((by decide : ∀ x ∈ FrYL, x ∈ FrTL) f q))
theorem FrB.r {I I' : Nat → Nat → Int32} (h : FrB I I') : Fr I I' := fun f hf => h f (fun q => hf ((by decide : ∀ x ∈ FrBL, x ∈ rdF) f q))
theorem FrB.n {I I' : Nat → Nat → Int32} {tp : Nat} {n : Int} (h : FrB I I') (hn : (I 61 tp).toInt = n) : (I' 61 tp).toInt = n := by rw [h 61 (by decide)]; exact hn
theorem FrX.r {I I' : Nat → Nat → Int32} (h : FrX I I') : Fr I I' := fun f hf => h f (fun q => hf ((by decide : ∀ x ∈ FrXL, x ∈ rdF) f q))
theorem FrX.n {I I' : Nat → Nat → Int32} {tp : Nat} {n : Int} (h : FrX I I') (hn : (I 61 tp).toInt = n) : (I' 61 tp).toInt = n := by rw [h 61 (by decide)]; exact hn
theorem FrY.r {I I' : Nat → Nat → Int32} (h : FrY I I') : Fr I I' := fun f hf => h f (fun q => hf ((by decide : ∀ x ∈ FrYL, x ∈ rdF) f q))
theorem FrY.n {I I' : Nat → Nat → Int32} {tp : Nat} {n : Int} (h : FrY I I') (hn : (I 61 tp).toInt = n) : (I' 61 tp).toInt = n := by rw [h 61 (by decide)]; exact hn
theorem FrT.r {I I' : Nat → Nat → Int32} (h : FrT I I') : Fr I I' := fun f hf => h f (fun q => hf ((by decide : ∀ x ∈ FrTL, x ∈ rdF) f q))
theorem FrT.n {I I' : Nat → Nat → Int32} {tp : Nat} {n : Int} (h : FrT I I') (hn : (I 61 tp).toInt = n) : (I' 61 tp).toInt = n := by rw [h 61 (by decide)]; exact hn
theorem Fr.n {I I' : Nat → Nat → Int32} {tp : Nat} {n : Int} (h : Fr I I') (hn : (I 61 tp).toInt = n) : (I' 61 tp).toInt = n := by rw [h 61 (by decide)]; exact hn
set_option maxHeartbeats 4000000 in
set_option maxRecDepth 100000 in
theorem c_v_X8_byteAt (l : Launch) (G : Gh) (S : Pl) (tp tb : Nat) (tc : Nat → Int32) (tn : Nat) (i : Int32) (hT : shTape S tp tb) (htc : tc = tx (qI S tb) tn) (hn : (pI S 61 tp).toInt = (tn : Int)) (hz : tn ≤ 1000) : MtI l yX8_byteAt cX8_byteAt 2 (some .int) (Rm 0 0 0) G [.ref tp, .int i] S (fun (r : Int32) (S' : Pl) => S = S' ∧ byA tc tn i r) 0 0 := by
  refine MtI.of (by decide) (Nat.le_of_ble_eq_true rfl) ?_
  intro p e s m args below meth c Q A X hw hin hret ls hl
  have hx := X.1.1
  have hb := X.1.2.1
  have hl : lv_has ls 2 [(0, .ref tp), (1, .int i)] := hl
  refine lv_iload_n hx hb dX8_byteAt_0 rfl (lv_at hl 1 rfl) ?_
  refine lv_if_lt (tgt := 25) hx hb dX8_byteAt_1 (by decide) (fun c1_1 => ?_) (fun c1_1 => ?_)
  · have D1_1 := iLt c1_1 rfl t_0
    refine lv_iconst (v := -1) hx hb dX8_byteAt_25 (by decide) ?_
    exact hret (-1) _ _ _ _ _ ⟨rfl, fun h => absurd h (by omega), fun _ => rfl⟩ hw rfl dX8_byteAt_26
  · have D1_1 := iNlt c1_1 rfl t_0
    refine lv_iload_n hx hb dX8_byteAt_4 rfl (lv_at hl 1 rfl) ?_
    refine lv_aload_n hx hb dX8_byteAt_5 rfl (lv_at hl 0 rfl) ?_
    refine gf_X8_13 (v := (pI S) 61 tp) X hw hT.1 rfl dX8_byteAt_6 ?_
    refine lv_icmp_ge (tgt := 25) hx hb dX8_byteAt_9 (by decide) (fun c9_2 => ?_) (fun c9_2 => ?_)
    · have D9_2 := iLe c9_2 rfl rfl
      refine lv_iconst (v := -1) hx hb dX8_byteAt_25 (by decide) ?_
      exact hret (-1) _ _ _ _ _ ⟨rfl, fun h => absurd h (by omega), fun _ => rfl⟩ hw rfl dX8_byteAt_26
    · have D9_2 := iNle c9_2 rfl rfl
      refine lv_aload_n hx hb dX8_byteAt_12 rfl (lv_at hl 0 rfl) ?_
      refine gf_X8_9 (b := tb) X hw hT.1 hT.2.1 dX8_byteAt_13 ?_
      refine lv_iload_n hx hb dX8_byteAt_16 rfl (lv_at hl 1 rfl) ?_
      refine q_ldB X hw hT.2.2.1 (vin hT.2.2.2 (by omega) (by omega)) dX8_byteAt_17 ?_
      refine lv_topi (fun v17_3 e17_3 => ?_)
      have e17_3 : v17_3 = (qI S) tb i.toNatClampNeg := e17_3
      have e17n := e17_3
      refine lv_sipush (v := 255) hx hb dX8_byteAt_18 (by decide) ?_
      refine lv_iand hx hb dX8_byteAt_21 ?_
      refine lv_topi (fun v21_4 e21_4 => ?_)
      refine lv_goto (tgt := 26) hx hb dX8_byteAt_22 (by decide) ?_
      exact hret v21_4 _ _ _ _ _ ⟨rfl, fun h => by rw [htc, tx_in (by have := cl_toInt (x := i) (by omega); omega), e21_4, e17n], fun h => absurd (by omega) h⟩ hw rfl dX8_byteAt_26
set_option maxHeartbeats 4000000 in
set_option maxRecDepth 100000 in
theorem c_v_X9_skipBlanks (l : Launch) (G : Gh) (S : Pl) (tk tp tb : Nat) (tc : Nat → Int32) (tn : Nat) (hK : shTok S tk tp tb) (htc : tc = tx (qI S tb) tn) (hn : (pI S 61 tp).toInt = (tn : Int)) (hz : tn ≤ 1000) (hbh : 0 ≤ (pI S 68 tk).toInt ∧ (pI S 68 tk).toInt ≤ (tn : Int)) : MtV l yX9_skipBlanks cX9_skipBlanks 1 none (Rm 1 0 0) G [.ref tk] S (fun (S' : Pl) => ∃ I', ch S I' (pJ S) (qI S) (qJ S) = S' ∧ FrB (pI S) I' ∧ (I' 68 tk).toInt = (tS tc tn (pI S 68 tk).toNatClampNeg : Nat)) 0 0 := by
  refine MtV.of (by decide) (Nat.le_of_ble_eq_true rfl) ?_
  intro p e s m args below meth c Q A X hw hin hret ls hl
  have hx := X.1.1
  have hb := X.1.2.1
  have hl : lv_has ls 1 [(0, .ref tk)] := hl
  have lp0 : ∀ (N9 : Nat) (I0 : Nat → Nat → Int32), (FrB (pI S) I0) → (0 ≤ (I0 68 tk).toInt ∧ (I0 68 tk).toInt ≤ (tn : Int)) → (run bB tc tn (I0 68 tk).toNatClampNeg = tS tc tn (pI S 68 tk).toNatClampNeg) → ((tn : Int) - (I0 68 tk).toInt).toNat < N9 → ∀ (H : Heap) (locs : List Loc) (ls : Array Slot), PX G A s.heap (ch S I0 (pJ S) (qI S) (qJ S)) H locs → lv_has ls 1 [(0, .ref tk)] → W p l e (Rm 1 0 0) s m args below meth c H locs 0 0 Q (F0 m 0 ls []) := by
    intro N9
    induction N9 with
    | zero => intro I0 hF hB hT hm; exact absurd hm (Nat.not_lt_zero _)
    | succ N9 ih0 =>
      intro I0 hF hB hT hm H locs ls hw hl
      have hnn := FrB.n hF hn
      refine lv_aload_n hx hb dX9_skipBlanks_0 rfl (lv_at hl 0 rfl) ?_
      refine gf_X9_23 (v := I0 68 tk) X hw hK.1 rfl dX9_skipBlanks_1 ?_
      refine lv_aload_n hx hb dX9_skipBlanks_4 rfl (lv_at hl 0 rfl) ?_
      refine gf_X9_7 (b := tp) X hw hK.1 hK.2.1 dX9_skipBlanks_5 ?_
      refine k_Vi (n := 0) X hw (rcvk (ci := 8) X hw hK.2.2.1 (fun _ _ _ _ _ _ _ => ⟨_, rfl⟩) rfl) (c_X8_size l G _ tp tb hK.2.2) wd_r9_14 wd_r7_5 wd_r7_6 wd_r1_14 wd_r7_7 ⟨by decide, by decide, by decide +kernel⟩ rfl rfl ⟨Nat.le_of_ble_eq_true rfl, Nat.le_of_ble_eq_true rfl⟩ rfl rfl hl.1 (Nat.le_of_ble_eq_true rfl) dX9_skipBlanks_8 ⟨Nat.le_of_ble_eq_true rfl, Nat.le_of_ble_eq_true rfl⟩ (fun r8_1 S8_3 H locs h8_2 hw => ?_)
      obtain ⟨rfl, h8_2⟩ := h8_2
      have h8_2 : r8_1 = I0 61 tp := h8_2
      have h8_2t := congrArg Int32.toInt h8_2
      refine lv_icmp_ge (tgt := 44) hx hb dX9_skipBlanks_11 (by decide) (fun c11_4 => ?_) (fun c11_4 => ?_)
      · have D11_4 := iLe c11_4 rfl rfl
        have hEX : (I0 68 tk).toInt = (tS tc tn (pI S 68 tk).toNatClampNeg : Nat) := rs_e hT (by omega) (by first | (left; omega) | (right; exact bB_f (by rw [← hby]; omega)))
        exact hret _ _ _ _ _ ⟨_, rfl, hF, hEX⟩ hw dX9_skipBlanks_44
      · have D11_4 := iNle c11_4 rfl rfl
        refine lv_aload_n hx hb dX9_skipBlanks_14 rfl (lv_at hl 0 rfl) ?_
        refine gf_X9_7 (b := tp) X hw hK.1 hK.2.1 dX9_skipBlanks_15 ?_
        refine lv_aload_n hx hb dX9_skipBlanks_18 rfl (lv_at hl 0 rfl) ?_
        refine gf_X9_23 (v := I0 68 tk) X hw hK.1 rfl dX9_skipBlanks_19 ?_
        refine k_Vi (n := 1) X hw (rcvk (ci := 8) X hw hK.2.2.1 (fun _ _ _ _ _ _ _ => ⟨_, rfl⟩) rfl) (c_v_X8_byteAt l G _ tp tb tc tn (I0 68 tk) hK.2.2 htc (FrB.n hF hn) hz) wd_r9_15 wd_r9_16 wd_r9_17 wd_r1_14 wd_r9_18 ⟨by decide, by decide, by decide +kernel⟩ rfl rfl ⟨Nat.le_of_ble_eq_true rfl, Nat.le_of_ble_eq_true rfl⟩ rfl rfl hl.1 (Nat.le_of_ble_eq_true rfl) dX9_skipBlanks_22 ⟨Nat.le_of_ble_eq_true rfl, Nat.le_of_ble_eq_true rfl⟩ (fun r22_5 S22_7 H locs h22_6 hw => ?_)
        obtain ⟨rfl, h22_6⟩ := h22_6
        have hby : r22_5 = tc (I0 68 tk).toNatClampNeg := h22_6.1 (by omega)
        refine k_Si (n := 1) X hw (c_X9_isBlank l G _ r22_5) wd_r9_19 wd_r9_20 wd_r3_2 wd_r9_21 ⟨by decide, by decide, by decide +kernel⟩ rfl rfl ⟨Nat.le_of_ble_eq_true rfl, Nat.le_of_ble_eq_true rfl⟩ rfl rfl hl.1 (Nat.le_of_ble_eq_true rfl) dX9_skipBlanks_25 ⟨Nat.le_of_ble_eq_true rfl, Nat.le_of_ble_eq_true rfl⟩ (fun r25_8 S25_10 H locs h25_9 hw => ?_)
        rcases h25_9 with ⟨rfl, rfl, h25_9⟩ | ⟨rfl, rfl, h25_9⟩
        · have h25_9 := h25_9
          refine lv_if_eq (tgt := 44) hx hb dX9_skipBlanks_28 (by decide) (fun c28_11 => absurd c28_11 (by decide)) (fun c28_11 => ?_)
          refine lv_aload_n hx hb dX9_skipBlanks_31 rfl (lv_at hl 0 rfl) ?_
          refine lv_dup hx hb dX9_skipBlanks_32 rfl ?_
          refine gf_X9_23 (v := I0 68 tk) X hw hK.1 rfl dX9_skipBlanks_33 ?_
          refine lv_iconst (v := 1) hx hb dX9_skipBlanks_36 (by decide) ?_
          refine lv_iadd hx hb dX9_skipBlanks_37 ?_
          refine lv_topi (fun v37_12 e37_12 => ?_)
          have t37_12 := iAdd e37_12 rfl t_1 (by omega) (by omega)
          have t37 := t37_12
          refine pf_X9_23 X hw hK.1 dX9_skipBlanks_38 (fun H locs hw => ?_)
          have hw : PX G A s.heap (ch S (up2 I0 68 tk v37_12) (pJ S) (qI S) (qJ S)) H locs := hw
          refine lv_goto (tgt := 0) hx hb dX9_skipBlanks_41 (by decide) ?_
          exact ih0 (up2 I0 68 tk v37_12)  (FrB.up (f := 68) (by decide) hF) (by rw [show (up2 I0 68 tk v37_12) 68 tk = (v37_12 : Int32) from (show up2 I0 68 tk v37_12 68 tk = v37_12 from up2_s)]; omega) (by rw [show (up2 I0 68 tk v37_12) 68 tk = (v37_12 : Int32) from (show up2 I0 68 tk v37_12 68 tk = v37_12 from up2_s)]; exact rs_s hT (by omega) (by omega) (bB_i.mpr (by rw [← hby]; omega)) t37) (by rw [show (up2 I0 68 tk v37_12) 68 tk = (v37_12 : Int32) from (show up2 I0 68 tk v37_12 68 tk = v37_12 from up2_s)]; omega) _ _ _ hw (lv_sub hl [0] rfl)
        · have h25_9 := h25_9
          refine lv_if_eq (tgt := 44) hx hb dX9_skipBlanks_28 (by decide) (fun c28_13 => ?_) (fun c28_13 => absurd c28_13 (by decide))
          have hEX : (I0 68 tk).toInt = (tS tc tn (pI S 68 tk).toNatClampNeg : Nat) := rs_e hT (by omega) (by first | (left; omega) | (right; exact bB_f (by rw [← hby]; omega)))
          exact hret _ _ _ _ _ ⟨_, rfl, hF, hEX⟩ hw dX9_skipBlanks_44
  exact lp0 _ (pI S)  FrB.rf hbh rfl (Nat.lt_succ_self _) _ _ _ hw (lv_sub hl [0] rfl)
set_option maxHeartbeats 4000000 in
set_option maxRecDepth 100000 in
theorem c_v_X9_readWord (l : Launch) (G : Gh) (S : Pl) (tk tp tb : Nat) (tc : Nat → Int32) (tn : Nat) (hK : shTok S tk tp tb) (htc : tc = tx (qI S tb) tn) (hn : (pI S 61 tp).toInt = (tn : Int)) (hz : tn ≤ 1000) (hbh : 0 ≤ (pI S 68 tk).toInt ∧ (pI S 68 tk).toInt ≤ (tn : Int)) (hss : (pI S 67 tk).toInt = (pI S 68 tk).toInt ∧ (pI S 68 tk).toInt < (tn : Int)) : MtV l yX9_readWord cX9_readWord 1 none (Rm 1 0 0) G [.ref tk] S (fun (S' : Pl) => ∃ I', ch S I' (pJ S) (qI S) (qJ S) = S' ∧ FrX (pI S) I' ∧ (I' 68 tk).toInt = (run lB tc tn (pI S 68 tk).toNatClampNeg : Nat) ∧ (I' 66 tk).toInt = (if run lB tc tn (pI S 68 tk).toNatClampNeg - (pI S 68 tk).toNatClampNeg ≤ 8 then 2 else 0)) 0 0 := by
  refine MtV.of (by decide) (Nat.le_of_ble_eq_true rfl) ?_
  intro p e s m args below meth c Q A X hw hin hret ls hl
  have hx := X.1.1
  have hb := X.1.2.1
  have hl : lv_has ls 1 [(0, .ref tk)] := hl
  have lp0 : ∀ (N9 : Nat) (I0 : Nat → Nat → Int32), (FrX (pI S) I0) → (0 ≤ (I0 68 tk).toInt ∧ (I0 68 tk).toInt ≤ (tn : Int)) → (run lB tc tn (I0 68 tk).toNatClampNeg = run lB tc tn (pI S 68 tk).toNatClampNeg) → ((tn : Int) - (I0 68 tk).toInt).toNat < N9 → ∀ (H : Heap) (locs : List Loc) (ls : Array Slot), PX G A s.heap (ch S I0 (pJ S) (qI S) (qJ S)) H locs → lv_has ls 1 [(0, .ref tk)] → W p l e (Rm 1 0 0) s m args below meth c H locs 0 0 Q (F0 m 0 ls []) := by
    intro N9
    induction N9 with
    | zero => intro I0 hF hB hT hm; exact absurd hm (Nat.not_lt_zero _)
    | succ N9 ih0 =>
      intro I0 hF hB hT hm H locs ls hw hl
      have hnn := FrX.n hF hn
      refine lv_aload_n hx hb dX9_readWord_0 rfl (lv_at hl 0 rfl) ?_
      refine gf_X9_23 (v := I0 68 tk) X hw hK.1 rfl dX9_readWord_1 ?_
      refine lv_aload_n hx hb dX9_readWord_4 rfl (lv_at hl 0 rfl) ?_
      refine gf_X9_7 (b := tp) X hw hK.1 hK.2.1 dX9_readWord_5 ?_
      refine k_Vi (n := 0) X hw (rcvk (ci := 8) X hw hK.2.2.1 (fun _ _ _ _ _ _ _ => ⟨_, rfl⟩) rfl) (c_X8_size l G _ tp tb hK.2.2) wd_r9_14 wd_r7_5 wd_r7_6 wd_r1_14 wd_r7_7 ⟨by decide, by decide, by decide +kernel⟩ rfl rfl ⟨Nat.le_of_ble_eq_true rfl, Nat.le_of_ble_eq_true rfl⟩ rfl rfl hl.1 (Nat.le_of_ble_eq_true rfl) dX9_readWord_8 ⟨Nat.le_of_ble_eq_true rfl, Nat.le_of_ble_eq_true rfl⟩ (fun r8_1 S8_3 H locs h8_2 hw => ?_)
      obtain ⟨rfl, h8_2⟩ := h8_2
      have h8_2 : r8_1 = I0 61 tp := h8_2
      have h8_2t := congrArg Int32.toInt h8_2
      refine lv_icmp_ge (tgt := 44) hx hb dX9_readWord_11 (by decide) (fun c11_4 => ?_) (fun c11_4 => ?_)
      · have D11_4 := iLe c11_4 rfl rfl
        have hEX : (I0 68 tk).toInt = (run lB tc tn (pI S 68 tk).toNatClampNeg : Nat) := rs_e hT (by omega) (by first | (left; omega) | (right; exact lB_f (by rw [← hby]; omega)))
        have h67 := congrArg Int32.toInt (congrFun (hF 67 (by decide)) tk)
        have hcl := cl_toInt (x := pI S 68 tk) (by omega)
        have hge := run_ge (P := lB) (c := tc) (n := tn) (p := (pI S 68 tk).toNatClampNeg)
        refine lv_aload_n hx hb dX9_readWord_44 rfl (lv_at hl 0 rfl) ?_
        refine lv_aload_n hx hb dX9_readWord_45 rfl (lv_at hl 0 rfl) ?_
        refine gf_X9_23 (v := I0 68 tk) X hw hK.1 rfl dX9_readWord_46 ?_
        refine lv_aload_n hx hb dX9_readWord_49 rfl (lv_at hl 0 rfl) ?_
        refine gf_X9_17 (v := I0 67 tk) X hw hK.1 rfl dX9_readWord_50 ?_
        refine lv_isub hx hb dX9_readWord_53 ?_
        refine lv_topi (fun v53_5 e53_5 => ?_)
        have t53_5 := iSub e53_5 rfl rfl (by omega) (by omega)
        have t53 := t53_5
        refine lv_bipush (v := 8) hx hb dX9_readWord_54 (by decide) ?_
        refine lv_icmp_gt (tgt := 63) hx hb dX9_readWord_56 (by decide) (fun c56_6 => ?_) (fun c56_6 => ?_)
        · have D56_6 := iLt c56_6 t_8 rfl
          refine lv_iconst (v := 0) hx hb dX9_readWord_63 (by decide) ?_
          refine pf_X9_13 X hw hK.1 dX9_readWord_64 (fun H locs hw => ?_)
          have hw : PX G A s.heap (ch S (up2 I0 66 tk 0) (pJ S) (qI S) (qJ S)) H locs := hw
          exact hret _ _ _ _ _ ⟨_, rfl, (FrX.up (f := 66) (by decide) hF), hEX, by rw [show (up2 I0 66 tk 0) 66 tk = (0 : Int32) from (show up2 I0 66 tk 0 66 tk = 0 from up2_s)]; first | (rw [if_pos (by omega)]; decide) | (rw [if_neg (by omega)]; decide)⟩ hw dX9_readWord_67
        · have D56_6 := iNlt c56_6 t_8 rfl
          refine lv_iconst (v := 2) hx hb dX9_readWord_59 (by decide) ?_
          refine lv_goto (tgt := 64) hx hb dX9_readWord_60 (by decide) ?_
          refine pf_X9_13 X hw hK.1 dX9_readWord_64 (fun H locs hw => ?_)
          have hw : PX G A s.heap (ch S (up2 I0 66 tk 2) (pJ S) (qI S) (qJ S)) H locs := hw
          exact hret _ _ _ _ _ ⟨_, rfl, (FrX.up (f := 66) (by decide) hF), hEX, by rw [show (up2 I0 66 tk 2) 66 tk = (2 : Int32) from (show up2 I0 66 tk 2 66 tk = 2 from up2_s)]; first | (rw [if_pos (by omega)]; decide) | (rw [if_neg (by omega)]; decide)⟩ hw dX9_readWord_67
      · have D11_4 := iNle c11_4 rfl rfl
        refine lv_aload_n hx hb dX9_readWord_14 rfl (lv_at hl 0 rfl) ?_
        refine gf_X9_7 (b := tp) X hw hK.1 hK.2.1 dX9_readWord_15 ?_
        refine lv_aload_n hx hb dX9_readWord_18 rfl (lv_at hl 0 rfl) ?_
        refine gf_X9_23 (v := I0 68 tk) X hw hK.1 rfl dX9_readWord_19 ?_
        refine k_Vi (n := 1) X hw (rcvk (ci := 8) X hw hK.2.2.1 (fun _ _ _ _ _ _ _ => ⟨_, rfl⟩) rfl) (c_v_X8_byteAt l G _ tp tb tc tn (I0 68 tk) hK.2.2 htc (FrX.n hF hn) hz) wd_r9_15 wd_r9_16 wd_r9_17 wd_r1_14 wd_r9_18 ⟨by decide, by decide, by decide +kernel⟩ rfl rfl ⟨Nat.le_of_ble_eq_true rfl, Nat.le_of_ble_eq_true rfl⟩ rfl rfl hl.1 (Nat.le_of_ble_eq_true rfl) dX9_readWord_22 ⟨Nat.le_of_ble_eq_true rfl, Nat.le_of_ble_eq_true rfl⟩ (fun r22_7 S22_9 H locs h22_8 hw => ?_)
        obtain ⟨rfl, h22_8⟩ := h22_8
        have hby : r22_7 = tc (I0 68 tk).toNatClampNeg := h22_8.1 (by omega)
        refine k_Si (n := 1) X hw (c_X9_isLetter l G _ r22_7) wd_r9_22 wd_r9_23 wd_r3_2 wd_r10_0 ⟨by decide, by decide, by decide +kernel⟩ rfl rfl ⟨Nat.le_of_ble_eq_true rfl, Nat.le_of_ble_eq_true rfl⟩ rfl rfl hl.1 (Nat.le_of_ble_eq_true rfl) dX9_readWord_25 ⟨Nat.le_of_ble_eq_true rfl, Nat.le_of_ble_eq_true rfl⟩ (fun r25_10 S25_12 H locs h25_11 hw => ?_)
        rcases h25_11 with ⟨rfl, rfl, h25_11⟩ | ⟨rfl, rfl, h25_11⟩
        · have h25_11 := h25_11
          refine lv_if_eq (tgt := 44) hx hb dX9_readWord_28 (by decide) (fun c28_13 => absurd c28_13 (by decide)) (fun c28_13 => ?_)
          refine lv_aload_n hx hb dX9_readWord_31 rfl (lv_at hl 0 rfl) ?_
          refine lv_dup hx hb dX9_readWord_32 rfl ?_
          refine gf_X9_23 (v := I0 68 tk) X hw hK.1 rfl dX9_readWord_33 ?_
          refine lv_iconst (v := 1) hx hb dX9_readWord_36 (by decide) ?_
          refine lv_iadd hx hb dX9_readWord_37 ?_
          refine lv_topi (fun v37_14 e37_14 => ?_)
          have t37_14 := iAdd e37_14 rfl t_1 (by omega) (by omega)
          have t37 := t37_14
          refine pf_X9_23 X hw hK.1 dX9_readWord_38 (fun H locs hw => ?_)
          have hw : PX G A s.heap (ch S (up2 I0 68 tk v37_14) (pJ S) (qI S) (qJ S)) H locs := hw
          refine lv_goto (tgt := 0) hx hb dX9_readWord_41 (by decide) ?_
          exact ih0 (up2 I0 68 tk v37_14)  (FrX.up (f := 68) (by decide) hF) (by rw [show (up2 I0 68 tk v37_14) 68 tk = (v37_14 : Int32) from (show up2 I0 68 tk v37_14 68 tk = v37_14 from up2_s)]; omega) (by rw [show (up2 I0 68 tk v37_14) 68 tk = (v37_14 : Int32) from (show up2 I0 68 tk v37_14 68 tk = v37_14 from up2_s)]; exact rs_s hT (by omega) (by omega) (lB_i.mpr (by rw [← hby]; omega)) t37) (by rw [show (up2 I0 68 tk v37_14) 68 tk = (v37_14 : Int32) from (show up2 I0 68 tk v37_14 68 tk = v37_14 from up2_s)]; omega) _ _ _ hw (lv_sub hl [0] rfl)
        · have h25_11 := h25_11
          refine lv_if_eq (tgt := 44) hx hb dX9_readWord_28 (by decide) (fun c28_15 => ?_) (fun c28_15 => absurd c28_15 (by decide))
          have hEX : (I0 68 tk).toInt = (run lB tc tn (pI S 68 tk).toNatClampNeg : Nat) := rs_e hT (by omega) (by first | (left; omega) | (right; exact lB_f (by rw [← hby]; omega)))
          have h67 := congrArg Int32.toInt (congrFun (hF 67 (by decide)) tk)
          have hcl := cl_toInt (x := pI S 68 tk) (by omega)
          have hge := run_ge (P := lB) (c := tc) (n := tn) (p := (pI S 68 tk).toNatClampNeg)
          refine lv_aload_n hx hb dX9_readWord_44 rfl (lv_at hl 0 rfl) ?_
          refine lv_aload_n hx hb dX9_readWord_45 rfl (lv_at hl 0 rfl) ?_
          refine gf_X9_23 (v := I0 68 tk) X hw hK.1 rfl dX9_readWord_46 ?_
          refine lv_aload_n hx hb dX9_readWord_49 rfl (lv_at hl 0 rfl) ?_
          refine gf_X9_17 (v := I0 67 tk) X hw hK.1 rfl dX9_readWord_50 ?_
          refine lv_isub hx hb dX9_readWord_53 ?_
          refine lv_topi (fun v53_16 e53_16 => ?_)
          have t53_16 := iSub e53_16 rfl rfl (by omega) (by omega)
          have t53 := t53_16
          refine lv_bipush (v := 8) hx hb dX9_readWord_54 (by decide) ?_
          refine lv_icmp_gt (tgt := 63) hx hb dX9_readWord_56 (by decide) (fun c56_17 => ?_) (fun c56_17 => ?_)
          · have D56_17 := iLt c56_17 t_8 rfl
            refine lv_iconst (v := 0) hx hb dX9_readWord_63 (by decide) ?_
            refine pf_X9_13 X hw hK.1 dX9_readWord_64 (fun H locs hw => ?_)
            have hw : PX G A s.heap (ch S (up2 I0 66 tk 0) (pJ S) (qI S) (qJ S)) H locs := hw
            exact hret _ _ _ _ _ ⟨_, rfl, (FrX.up (f := 66) (by decide) hF), hEX, by rw [show (up2 I0 66 tk 0) 66 tk = (0 : Int32) from (show up2 I0 66 tk 0 66 tk = 0 from up2_s)]; first | (rw [if_pos (by omega)]; decide) | (rw [if_neg (by omega)]; decide)⟩ hw dX9_readWord_67
          · have D56_17 := iNlt c56_17 t_8 rfl
            refine lv_iconst (v := 2) hx hb dX9_readWord_59 (by decide) ?_
            refine lv_goto (tgt := 64) hx hb dX9_readWord_60 (by decide) ?_
            refine pf_X9_13 X hw hK.1 dX9_readWord_64 (fun H locs hw => ?_)
            have hw : PX G A s.heap (ch S (up2 I0 66 tk 2) (pJ S) (qI S) (qJ S)) H locs := hw
            exact hret _ _ _ _ _ ⟨_, rfl, (FrX.up (f := 66) (by decide) hF), hEX, by rw [show (up2 I0 66 tk 2) 66 tk = (2 : Int32) from (show up2 I0 66 tk 2 66 tk = 2 from up2_s)]; first | (rw [if_pos (by omega)]; decide) | (rw [if_neg (by omega)]; decide)⟩ hw dX9_readWord_67
  exact lp0 _ (pI S)  FrX.rf hbh rfl (Nat.lt_succ_self _) _ _ _ hw (lv_sub hl [0] rfl)
set_option maxHeartbeats 4000000 in
set_option maxRecDepth 100000 in
theorem c_v_X9_readNumber (l : Launch) (G : Gh) (S : Pl) (tk tp tb : Nat) (tc : Nat → Int32) (tn : Nat) (hK : shTok S tk tp tb) (htc : tc = tx (qI S tb) tn) (hn : (pI S 61 tp).toInt = (tn : Int)) (hz : tn ≤ 1000) (hbh : 0 ≤ (pI S 68 tk).toInt ∧ (pI S 68 tk).toInt ≤ (tn : Int)) (hss : (pI S 67 tk).toInt = (pI S 68 tk).toInt ∧ (pI S 68 tk).toInt < (tn : Int)) (hnm : dB (tc (pI S 68 tk).toNatClampNeg) = true ∨ (tc (pI S 68 tk).toNatClampNeg).toInt = 45) : MtV l yX9_readNumber cX9_readNumber 6 none (Rm 1 0 0) G [.ref tk] S (fun (S' : Pl) => ∃ I', ch S I' (pJ S) (qI S) (qJ S) = S' ∧ FrY (pI S) I' ∧ (I' 68 tk).toInt = ((run dB tc tn (tF tc (pI S 68 tk).toNatClampNeg)) : Nat) ∧ (I' 66 tk).toInt = (if (1 ≤ uG tc tn (pI S 68 tk).toNatClampNeg ∧ uG tc tn (pI S 68 tk).toNatClampNeg ≤ 3) ∧ lB (tc (run dB tc tn (tF tc (pI S 68 tk).toNatClampNeg))) = false then 3 else 0) ∧ I' 69 tk = uV tc tn (pI S 68 tk).toNatClampNeg) 0 0 := by
  refine MtV.of (by decide) (Nat.le_of_ble_eq_true rfl) ?_
  intro p e s m args below meth c Q A X hw hin hret ls hl
  have hx := X.1.1
  have hb := X.1.2.1
  have hl : lv_has ls 6 [(0, .ref tk)] := hl
  have h67e : pI S 67 tk = pI S 68 tk := Int32.toInt_inj.mp hss.1
  have hcl := cl_toInt (x := pI S 68 tk) (by omega)
  refine lv_aload_n hx hb dX9_readNumber_0 rfl (lv_at hl 0 rfl) ?_
  refine gf_X9_7 (b := tp) X hw hK.1 hK.2.1 dX9_readNumber_1 ?_
  refine lv_aload_n hx hb dX9_readNumber_4 rfl (lv_at hl 0 rfl) ?_
  refine gf_X9_17 (v := (pI S) 67 tk) X hw hK.1 rfl dX9_readNumber_5 ?_
  refine k_Vi (n := 1) X hw (rcvk (ci := 8) X hw hK.2.2.1 (fun _ _ _ _ _ _ _ => ⟨_, rfl⟩) rfl) (c_v_X8_byteAt l G _ tp tb tc tn ((pI S) 67 tk) hK.2.2 htc (FrY.n FrY.rf hn) hz) wd_r9_15 wd_r9_16 wd_r9_17 wd_r1_14 wd_r9_18 ⟨by decide, by decide, by decide +kernel⟩ rfl rfl ⟨Nat.le_of_ble_eq_true rfl, Nat.le_of_ble_eq_true rfl⟩ rfl rfl hl.1 (Nat.le_of_ble_eq_true rfl) dX9_readNumber_8 ⟨Nat.le_of_ble_eq_true rfl, Nat.le_of_ble_eq_true rfl⟩ (fun r8_1 S8_3 H locs h8_2 hw => ?_)
  obtain ⟨rfl, h8_2⟩ := h8_2
  have hb8 : r8_1 = tc (pI S 68 tk).toNatClampNeg := by rw [h8_2.1 (by omega), h67e]
  refine lv_bipush (v := 45) hx hb dX9_readNumber_11 (by decide) ?_
  refine lv_icmp_ne (tgt := 20) hx hb dX9_readNumber_13 (by decide) (fun c13_4 => ?_) (fun c13_4 => ?_)
  · have D13_4 := iNe c13_4 rfl t_45
    refine lv_iconst (v := 0) hx hb dX9_readNumber_20 (by decide) ?_
    refine lv_istore_n (lv' := [(1, .int 0), (0, .ref tk)]) hx hb dX9_readNumber_21 rfl hl (by decide) rfl (fun ls hl => ?_)
    refine lv_iload_n hx hb dX9_readNumber_22 rfl (lv_at hl 0 rfl) ?_
    refine lv_if_eq (tgt := 35) hx hb dX9_readNumber_23 (by decide) (fun c23_5 => ?_) (fun c23_5 => absurd c23_5 (by decide))
    refine lv_aload_n hx hb dX9_readNumber_35 rfl (lv_at hl 1 rfl) ?_
    refine gf_X9_17 (v := (pI S) 67 tk) X hw hK.1 rfl dX9_readNumber_36 ?_
    refine lv_istore_n (lv' := [(2, .int ((pI S) 67 tk)), (1, .int 0), (0, .ref tk)]) hx hb dX9_readNumber_39 rfl hl (by decide) rfl (fun ls hl => ?_)
    refine lv_iconst (v := 0) hx hb dX9_readNumber_40 (by decide) ?_
    refine lv_istore_n (lv' := [(3, .int 0), (2, .int ((pI S) 67 tk)), (1, .int 0), (0, .ref tk)]) hx hb dX9_readNumber_41 rfl hl (by decide) rfl (fun ls hl => ?_)
    have hfd : ((pI S) 67 tk).toInt = ((tF tc (pI S 68 tk).toNatClampNeg) : Nat) := by unfold tF; first | (rw [if_pos (by rw [← hb8]; omega)]; omega) | (rw [if_neg (by rw [← hb8]; omega)]; omega)
    have hfn := tF_le (c := tc) (n := tn) (s := (pI S 68 tk).toNatClampNeg) (by omega)
    refine lv_aload_n hx hb dX9_readNumber_42 rfl (lv_at hl 3 rfl) ?_
    refine lv_iload_n hx hb dX9_readNumber_43 rfl (lv_at hl 1 rfl) ?_
    refine pf_X9_23 X hw hK.1 dX9_readNumber_44 (fun H locs hw => ?_)
    have hw : PX G A s.heap (ch S (up2 (pI S) 68 tk ((pI S) 67 tk)) (pJ S) (qI S) (qJ S)) H locs := hw
    have lp47 : ∀ (N9 : Nat) (I47 : Nat → Nat → Int32) (z : Int32), (FrY (pI S) I47) → (0 ≤ (I47 68 tk).toInt ∧ (I47 68 tk).toInt ≤ (tn : Int)) → (((tF tc (pI S 68 tk).toNatClampNeg) : Int) ≤ (I47 68 tk).toInt) → (run dB tc tn (I47 68 tk).toNatClampNeg = (run dB tc tn (tF tc (pI S 68 tk).toNatClampNeg))) → (z = dv tc (tF tc (pI S 68 tk).toNatClampNeg) ((I47 68 tk).toNatClampNeg - (tF tc (pI S 68 tk).toNatClampNeg))) → ((tn : Int) - (I47 68 tk).toInt).toNat < N9 → ∀ (H : Heap) (locs : List Loc) (ls : Array Slot), PX G A s.heap (ch S I47 (pJ S) (qI S) (qJ S)) H locs → lv_has ls 6 [(3, .int z), (2, .int ((pI S) 67 tk)), (1, .int 0), (0, .ref tk)] → W p l e (Rm 1 0 0) s m args below meth c H locs 0 0 Q (F0 m 47 ls []) := by
      intro N9
      induction N9 with
      | zero => intro I47 z hF hB hf2 hT hz3 hm; exact absurd hm (Nat.not_lt_zero _)
      | succ N9 ih47 =>
        intro I47 z hF hB hf2 hT hz3 hm H locs ls hw hl
        have hnn := FrY.n hF hn
        refine lv_aload_n hx hb dX9_readNumber_47 rfl (lv_at hl 3 rfl) ?_
        refine gf_X9_23 (v := I47 68 tk) X hw hK.1 rfl dX9_readNumber_48 ?_
        refine lv_aload_n hx hb dX9_readNumber_51 rfl (lv_at hl 3 rfl) ?_
        refine gf_X9_7 (b := tp) X hw hK.1 hK.2.1 dX9_readNumber_52 ?_
        refine k_Vi (n := 0) X hw (rcvk (ci := 8) X hw hK.2.2.1 (fun _ _ _ _ _ _ _ => ⟨_, rfl⟩) rfl) (c_X8_size l G _ tp tb hK.2.2) wd_r9_14 wd_r7_5 wd_r7_6 wd_r1_14 wd_r7_7 ⟨by decide, by decide, by decide +kernel⟩ rfl rfl ⟨Nat.le_of_ble_eq_true rfl, Nat.le_of_ble_eq_true rfl⟩ rfl rfl hl.1 (Nat.le_of_ble_eq_true rfl) dX9_readNumber_55 ⟨Nat.le_of_ble_eq_true rfl, Nat.le_of_ble_eq_true rfl⟩ (fun r55_6 S55_8 H locs h55_7 hw => ?_)
        obtain ⟨rfl, h55_7⟩ := h55_7
        have h55_7 : r55_6 = I47 61 tp := h55_7
        have h55_7t := congrArg Int32.toInt h55_7
        refine lv_icmp_ge (tgt := 111) hx hb dX9_readNumber_58 (by decide) (fun c58_9 => ?_) (fun c58_9 => ?_)
        · have D58_9 := iLe c58_9 rfl rfl
          have hEX : (I47 68 tk).toInt = ((run dB tc tn (tF tc (pI S 68 tk).toNatClampNeg)) : Nat) := rs_e hT (by omega) (by first | (left; omega) | (right; exact dB_f (by rw [← hby]; omega)))
          have hG : uG tc tn (pI S 68 tk).toNatClampNeg = (run dB tc tn (tF tc (pI S 68 tk).toNatClampNeg)) - (tF tc (pI S 68 tk).toNatClampNeg) := rfl
          have hge := run_ge (P := dB) (c := tc) (n := tn) (p := (tF tc (pI S 68 tk).toNatClampNeg))
          have hzv : z = dv tc (tF tc (pI S 68 tk).toNatClampNeg) (uG tc tn (pI S 68 tk).toNatClampNeg) := by rw [hz3, hG, show (I47 68 tk).toNatClampNeg = (run dB tc tn (tF tc (pI S 68 tk).toNatClampNeg)) from by have := cl_toInt (x := I47 68 tk) (by omega); omega]
          refine lv_aload_n hx hb dX9_readNumber_111 rfl (lv_at hl 3 rfl) ?_
          refine gf_X9_23 (v := I47 68 tk) X hw hK.1 rfl dX9_readNumber_112 ?_
          refine lv_iload_n hx hb dX9_readNumber_115 rfl (lv_at hl 1 rfl) ?_
          refine lv_isub hx hb dX9_readNumber_116 ?_
          refine lv_topi (fun v116_10 e116_10 => ?_)
          have t116_10 := iSub e116_10 rfl rfl (by omega) (by omega)
          have t116 := t116_10
          refine lv_istore (lv' := [(4, .int v116_10), (3, .int z), (2, .int ((pI S) 67 tk)), (1, .int 0), (0, .ref tk)]) hx hb dX9_readNumber_117 hl (by decide) rfl (fun ls hl => ?_)
          refine lv_iload hx hb dX9_readNumber_119 (lv_at hl 0 rfl) ?_
          refine lv_iconst (v := 1) hx hb dX9_readNumber_121 (by decide) ?_
          refine lv_icmp_lt (tgt := 152) hx hb dX9_readNumber_122 (by decide) (fun c122_11 => ?_) (fun c122_11 => ?_)
          · have D122_11 := iLt c122_11 rfl t_1
            refine lv_iconst (v := 0) hx hb dX9_readNumber_152 (by decide) ?_
            refine lv_istore (lv' := [(5, .int 0), (4, .int v116_10), (3, .int z), (2, .int ((pI S) 67 tk)), (1, .int 0), (0, .ref tk)]) hx hb dX9_readNumber_153 hl (by decide) rfl (fun ls hl => ?_)
            refine lv_aload_n hx hb dX9_readNumber_155 rfl (lv_at hl 5 rfl) ?_
            refine lv_iload hx hb dX9_readNumber_156 (lv_at hl 0 rfl) ?_
            refine lv_if_eq (tgt := 165) hx hb dX9_readNumber_158 (by decide) (fun c158_12 => ?_) (fun c158_12 => absurd c158_12 (by decide))
            refine lv_iconst (v := 0) hx hb dX9_readNumber_165 (by decide) ?_
            refine pf_X9_13 X hw hK.1 dX9_readNumber_166 (fun H locs hw => ?_)
            have hw : PX G A s.heap (ch S (up2 I47 66 tk 0) (pJ S) (qI S) (qJ S)) H locs := hw
            refine lv_aload_n hx hb dX9_readNumber_169 rfl (lv_at hl 5 rfl) ?_
            refine lv_iload_n hx hb dX9_readNumber_170 rfl (lv_at hl 4 rfl) ?_
            refine lv_if_eq (tgt := 179) hx hb dX9_readNumber_171 (by decide) (fun c171_13 => ?_) (fun c171_13 => absurd c171_13 (by decide))
            refine lv_iload_n hx hb dX9_readNumber_179 rfl (lv_at hl 2 rfl) ?_
            refine pf_X9_20 X hw hK.1 dX9_readNumber_180 (fun H locs hw => ?_)
            have hw : PX G A s.heap (ch S (up2 (up2 I47 66 tk 0) 69 tk z) (pJ S) (qI S) (qJ S)) H locs := hw
            exact hret _ _ _ _ _ ⟨_, rfl, (FrY.up (f := 69) (by decide) (FrY.up (f := 66) (by decide) hF)), (by rw [show (up2 (up2 I47 66 tk 0) 69 tk z) 68 tk = (I47 68 tk : Int32) from rfl]; exact hEX), (by rw [show (up2 (up2 I47 66 tk 0) 69 tk z) 66 tk = (0 : Int32) from (show up2 I47 66 tk 0 66 tk = 0 from up2_s)]; first | (rw [if_pos ⟨⟨by omega, by omega⟩, Bool.eq_false_iff.mpr (fun q => absurd (hL.mp q) (by omega))⟩]; decide) | (rw [if_neg (fun q => absurd q.1 (by omega))]; decide) | (rw [if_neg (fun q => absurd (hL.mpr (by omega)) (nt_of q.2))]; decide)), (by rw [show (up2 (up2 I47 66 tk 0) 69 tk z) 69 tk = (z : Int32) from (show up2 (up2 I47 66 tk 0) 69 tk z 69 tk = z from up2_s)]; unfold uV; first | (rw [if_pos (by rw [← hb8]; omega), ← hzv]; assumption) | (rw [if_neg (by rw [← hb8]; omega), ← hzv]))⟩ hw dX9_readNumber_183
          · have D122_11 := iNlt c122_11 rfl t_1
            refine lv_iload hx hb dX9_readNumber_125 (lv_at hl 0 rfl) ?_
            refine lv_iconst (v := 3) hx hb dX9_readNumber_127 (by decide) ?_
            refine lv_icmp_gt (tgt := 152) hx hb dX9_readNumber_128 (by decide) (fun c128_14 => ?_) (fun c128_14 => ?_)
            · have D128_14 := iLt c128_14 t_3 rfl
              refine lv_iconst (v := 0) hx hb dX9_readNumber_152 (by decide) ?_
              refine lv_istore (lv' := [(5, .int 0), (4, .int v116_10), (3, .int z), (2, .int ((pI S) 67 tk)), (1, .int 0), (0, .ref tk)]) hx hb dX9_readNumber_153 hl (by decide) rfl (fun ls hl => ?_)
              refine lv_aload_n hx hb dX9_readNumber_155 rfl (lv_at hl 5 rfl) ?_
              refine lv_iload hx hb dX9_readNumber_156 (lv_at hl 0 rfl) ?_
              refine lv_if_eq (tgt := 165) hx hb dX9_readNumber_158 (by decide) (fun c158_15 => ?_) (fun c158_15 => absurd c158_15 (by decide))
              refine lv_iconst (v := 0) hx hb dX9_readNumber_165 (by decide) ?_
              refine pf_X9_13 X hw hK.1 dX9_readNumber_166 (fun H locs hw => ?_)
              have hw : PX G A s.heap (ch S (up2 I47 66 tk 0) (pJ S) (qI S) (qJ S)) H locs := hw
              refine lv_aload_n hx hb dX9_readNumber_169 rfl (lv_at hl 5 rfl) ?_
              refine lv_iload_n hx hb dX9_readNumber_170 rfl (lv_at hl 4 rfl) ?_
              refine lv_if_eq (tgt := 179) hx hb dX9_readNumber_171 (by decide) (fun c171_16 => ?_) (fun c171_16 => absurd c171_16 (by decide))
              refine lv_iload_n hx hb dX9_readNumber_179 rfl (lv_at hl 2 rfl) ?_
              refine pf_X9_20 X hw hK.1 dX9_readNumber_180 (fun H locs hw => ?_)
              have hw : PX G A s.heap (ch S (up2 (up2 I47 66 tk 0) 69 tk z) (pJ S) (qI S) (qJ S)) H locs := hw
              exact hret _ _ _ _ _ ⟨_, rfl, (FrY.up (f := 69) (by decide) (FrY.up (f := 66) (by decide) hF)), (by rw [show (up2 (up2 I47 66 tk 0) 69 tk z) 68 tk = (I47 68 tk : Int32) from rfl]; exact hEX), (by rw [show (up2 (up2 I47 66 tk 0) 69 tk z) 66 tk = (0 : Int32) from (show up2 I47 66 tk 0 66 tk = 0 from up2_s)]; first | (rw [if_pos ⟨⟨by omega, by omega⟩, Bool.eq_false_iff.mpr (fun q => absurd (hL.mp q) (by omega))⟩]; decide) | (rw [if_neg (fun q => absurd q.1 (by omega))]; decide) | (rw [if_neg (fun q => absurd (hL.mpr (by omega)) (nt_of q.2))]; decide)), (by rw [show (up2 (up2 I47 66 tk 0) 69 tk z) 69 tk = (z : Int32) from (show up2 (up2 I47 66 tk 0) 69 tk z 69 tk = z from up2_s)]; unfold uV; first | (rw [if_pos (by rw [← hb8]; omega), ← hzv]; assumption) | (rw [if_neg (by rw [← hb8]; omega), ← hzv]))⟩ hw dX9_readNumber_183
            · have D128_14 := iNlt c128_14 t_3 rfl
              refine lv_aload_n hx hb dX9_readNumber_131 rfl (lv_at hl 4 rfl) ?_
              refine gf_X9_7 (b := tp) X hw hK.1 hK.2.1 dX9_readNumber_132 ?_
              refine lv_aload_n hx hb dX9_readNumber_135 rfl (lv_at hl 4 rfl) ?_
              refine gf_X9_23 (v := I47 68 tk) X hw hK.1 rfl dX9_readNumber_136 ?_
              refine k_Vi (n := 1) X hw (rcvk (ci := 8) X hw hK.2.2.1 (fun _ _ _ _ _ _ _ => ⟨_, rfl⟩) rfl) (c_v_X8_byteAt l G _ tp tb tc tn (I47 68 tk) hK.2.2 htc (FrY.n hF hn) hz) wd_r9_15 wd_r9_16 wd_r9_17 wd_r1_14 wd_r9_18 ⟨by decide, by decide, by decide +kernel⟩ rfl rfl ⟨Nat.le_of_ble_eq_true rfl, Nat.le_of_ble_eq_true rfl⟩ rfl rfl hl.1 (Nat.le_of_ble_eq_true rfl) dX9_readNumber_139 ⟨Nat.le_of_ble_eq_true rfl, Nat.le_of_ble_eq_true rfl⟩ (fun r139_17 S139_19 H locs h139_18 hw => ?_)
              obtain ⟨rfl, h139_18⟩ := h139_18
              have hL := h139_18.l hEX htc
              refine k_Si (n := 1) X hw (c_X9_isLetter l G _ r139_17) wd_r9_22 wd_r9_23 wd_r3_2 wd_r10_0 ⟨by decide, by decide, by decide +kernel⟩ rfl rfl ⟨Nat.le_of_ble_eq_true rfl, Nat.le_of_ble_eq_true rfl⟩ rfl rfl hl.1 (Nat.le_of_ble_eq_true rfl) dX9_readNumber_142 ⟨Nat.le_of_ble_eq_true rfl, Nat.le_of_ble_eq_true rfl⟩ (fun r142_20 S142_22 H locs h142_21 hw => ?_)
              rcases h142_21 with ⟨rfl, rfl, h142_21⟩ | ⟨rfl, rfl, h142_21⟩
              · have h142_21 := h142_21
                refine lv_if_ne (tgt := 152) hx hb dX9_readNumber_145 (by decide) (fun c145_23 => ?_) (fun c145_23 => absurd c145_23 (by decide))
                refine lv_iconst (v := 0) hx hb dX9_readNumber_152 (by decide) ?_
                refine lv_istore (lv' := [(5, .int 0), (4, .int v116_10), (3, .int z), (2, .int ((pI S) 67 tk)), (1, .int 0), (0, .ref tk)]) hx hb dX9_readNumber_153 hl (by decide) rfl (fun ls hl => ?_)
                refine lv_aload_n hx hb dX9_readNumber_155 rfl (lv_at hl 5 rfl) ?_
                refine lv_iload hx hb dX9_readNumber_156 (lv_at hl 0 rfl) ?_
                refine lv_if_eq (tgt := 165) hx hb dX9_readNumber_158 (by decide) (fun c158_24 => ?_) (fun c158_24 => absurd c158_24 (by decide))
                refine lv_iconst (v := 0) hx hb dX9_readNumber_165 (by decide) ?_
                refine pf_X9_13 X hw hK.1 dX9_readNumber_166 (fun H locs hw => ?_)
                have hw : PX G A s.heap (ch S (up2 I47 66 tk 0) (pJ S) (qI S) (qJ S)) H locs := hw
                refine lv_aload_n hx hb dX9_readNumber_169 rfl (lv_at hl 5 rfl) ?_
                refine lv_iload_n hx hb dX9_readNumber_170 rfl (lv_at hl 4 rfl) ?_
                refine lv_if_eq (tgt := 179) hx hb dX9_readNumber_171 (by decide) (fun c171_25 => ?_) (fun c171_25 => absurd c171_25 (by decide))
                refine lv_iload_n hx hb dX9_readNumber_179 rfl (lv_at hl 2 rfl) ?_
                refine pf_X9_20 X hw hK.1 dX9_readNumber_180 (fun H locs hw => ?_)
                have hw : PX G A s.heap (ch S (up2 (up2 I47 66 tk 0) 69 tk z) (pJ S) (qI S) (qJ S)) H locs := hw
                exact hret _ _ _ _ _ ⟨_, rfl, (FrY.up (f := 69) (by decide) (FrY.up (f := 66) (by decide) hF)), (by rw [show (up2 (up2 I47 66 tk 0) 69 tk z) 68 tk = (I47 68 tk : Int32) from rfl]; exact hEX), (by rw [show (up2 (up2 I47 66 tk 0) 69 tk z) 66 tk = (0 : Int32) from (show up2 I47 66 tk 0 66 tk = 0 from up2_s)]; first | (rw [if_pos ⟨⟨by omega, by omega⟩, Bool.eq_false_iff.mpr (fun q => absurd (hL.mp q) (by omega))⟩]; decide) | (rw [if_neg (fun q => absurd q.1 (by omega))]; decide) | (rw [if_neg (fun q => absurd (hL.mpr (by omega)) (nt_of q.2))]; decide)), (by rw [show (up2 (up2 I47 66 tk 0) 69 tk z) 69 tk = (z : Int32) from (show up2 (up2 I47 66 tk 0) 69 tk z 69 tk = z from up2_s)]; unfold uV; first | (rw [if_pos (by rw [← hb8]; omega), ← hzv]; assumption) | (rw [if_neg (by rw [← hb8]; omega), ← hzv]))⟩ hw dX9_readNumber_183
              · have h142_21 := h142_21
                refine lv_if_ne (tgt := 152) hx hb dX9_readNumber_145 (by decide) (fun c145_26 => absurd c145_26 (by decide)) (fun c145_26 => ?_)
                refine lv_iconst (v := 1) hx hb dX9_readNumber_148 (by decide) ?_
                refine lv_goto (tgt := 153) hx hb dX9_readNumber_149 (by decide) ?_
                refine lv_istore (lv' := [(5, .int 1), (4, .int v116_10), (3, .int z), (2, .int ((pI S) 67 tk)), (1, .int 0), (0, .ref tk)]) hx hb dX9_readNumber_153 hl (by decide) rfl (fun ls hl => ?_)
                refine lv_aload_n hx hb dX9_readNumber_155 rfl (lv_at hl 5 rfl) ?_
                refine lv_iload hx hb dX9_readNumber_156 (lv_at hl 0 rfl) ?_
                refine lv_if_eq (tgt := 165) hx hb dX9_readNumber_158 (by decide) (fun c158_27 => absurd c158_27 (by decide)) (fun c158_27 => ?_)
                refine lv_iconst (v := 3) hx hb dX9_readNumber_161 (by decide) ?_
                refine lv_goto (tgt := 166) hx hb dX9_readNumber_162 (by decide) ?_
                refine pf_X9_13 X hw hK.1 dX9_readNumber_166 (fun H locs hw => ?_)
                have hw : PX G A s.heap (ch S (up2 I47 66 tk 3) (pJ S) (qI S) (qJ S)) H locs := hw
                refine lv_aload_n hx hb dX9_readNumber_169 rfl (lv_at hl 5 rfl) ?_
                refine lv_iload_n hx hb dX9_readNumber_170 rfl (lv_at hl 4 rfl) ?_
                refine lv_if_eq (tgt := 179) hx hb dX9_readNumber_171 (by decide) (fun c171_28 => ?_) (fun c171_28 => absurd c171_28 (by decide))
                refine lv_iload_n hx hb dX9_readNumber_179 rfl (lv_at hl 2 rfl) ?_
                refine pf_X9_20 X hw hK.1 dX9_readNumber_180 (fun H locs hw => ?_)
                have hw : PX G A s.heap (ch S (up2 (up2 I47 66 tk 3) 69 tk z) (pJ S) (qI S) (qJ S)) H locs := hw
                exact hret _ _ _ _ _ ⟨_, rfl, (FrY.up (f := 69) (by decide) (FrY.up (f := 66) (by decide) hF)), (by rw [show (up2 (up2 I47 66 tk 3) 69 tk z) 68 tk = (I47 68 tk : Int32) from rfl]; exact hEX), (by rw [show (up2 (up2 I47 66 tk 3) 69 tk z) 66 tk = (3 : Int32) from (show up2 I47 66 tk 3 66 tk = 3 from up2_s)]; first | (rw [if_pos ⟨⟨by omega, by omega⟩, Bool.eq_false_iff.mpr (fun q => absurd (hL.mp q) (by omega))⟩]; decide) | (rw [if_neg (fun q => absurd q.1 (by omega))]; decide) | (rw [if_neg (fun q => absurd (hL.mpr (by omega)) (nt_of q.2))]; decide)), (by rw [show (up2 (up2 I47 66 tk 3) 69 tk z) 69 tk = (z : Int32) from (show up2 (up2 I47 66 tk 3) 69 tk z 69 tk = z from up2_s)]; unfold uV; first | (rw [if_pos (by rw [← hb8]; omega), ← hzv]; assumption) | (rw [if_neg (by rw [← hb8]; omega), ← hzv]))⟩ hw dX9_readNumber_183
        · have D58_9 := iNle c58_9 rfl rfl
          refine lv_aload_n hx hb dX9_readNumber_61 rfl (lv_at hl 3 rfl) ?_
          refine gf_X9_7 (b := tp) X hw hK.1 hK.2.1 dX9_readNumber_62 ?_
          refine lv_aload_n hx hb dX9_readNumber_65 rfl (lv_at hl 3 rfl) ?_
          refine gf_X9_23 (v := I47 68 tk) X hw hK.1 rfl dX9_readNumber_66 ?_
          refine k_Vi (n := 1) X hw (rcvk (ci := 8) X hw hK.2.2.1 (fun _ _ _ _ _ _ _ => ⟨_, rfl⟩) rfl) (c_v_X8_byteAt l G _ tp tb tc tn (I47 68 tk) hK.2.2 htc (FrY.n hF hn) hz) wd_r9_15 wd_r9_16 wd_r9_17 wd_r1_14 wd_r9_18 ⟨by decide, by decide, by decide +kernel⟩ rfl rfl ⟨Nat.le_of_ble_eq_true rfl, Nat.le_of_ble_eq_true rfl⟩ rfl rfl hl.1 (Nat.le_of_ble_eq_true rfl) dX9_readNumber_69 ⟨Nat.le_of_ble_eq_true rfl, Nat.le_of_ble_eq_true rfl⟩ (fun r69_29 S69_31 H locs h69_30 hw => ?_)
          obtain ⟨rfl, h69_30⟩ := h69_30
          have hby : r69_29 = tc (I47 68 tk).toNatClampNeg := h69_30.1 (by omega)
          refine k_Si (n := 1) X hw (c_X9_isDigit l G _ r69_29) wd_r10_5 wd_r10_6 wd_r3_2 wd_r10_7 ⟨by decide, by decide, by decide +kernel⟩ rfl rfl ⟨Nat.le_of_ble_eq_true rfl, Nat.le_of_ble_eq_true rfl⟩ rfl rfl hl.1 (Nat.le_of_ble_eq_true rfl) dX9_readNumber_72 ⟨Nat.le_of_ble_eq_true rfl, Nat.le_of_ble_eq_true rfl⟩ (fun r72_32 S72_34 H locs h72_33 hw => ?_)
          rcases h72_33 with ⟨rfl, rfl, h72_33⟩ | ⟨rfl, rfl, h72_33⟩
          · have h72_33 := h72_33
            refine lv_if_eq (tgt := 111) hx hb dX9_readNumber_75 (by decide) (fun c75_35 => absurd c75_35 (by decide)) (fun c75_35 => ?_)
            refine lv_iload_n hx hb dX9_readNumber_78 rfl (lv_at hl 0 rfl) ?_
            refine lv_bipush (v := 10) hx hb dX9_readNumber_79 (by decide) ?_
            refine lv_imul hx hb dX9_readNumber_81 ?_
            refine lv_topi (fun v81_36 e81_36 => ?_)
            have e81n := e81_36
            refine lv_aload_n hx hb dX9_readNumber_82 rfl (lv_at hl 3 rfl) ?_
            refine gf_X9_7 (b := tp) X hw hK.1 hK.2.1 dX9_readNumber_83 ?_
            refine lv_aload_n hx hb dX9_readNumber_86 rfl (lv_at hl 3 rfl) ?_
            refine gf_X9_23 (v := I47 68 tk) X hw hK.1 rfl dX9_readNumber_87 ?_
            refine k_Vi (n := 1) X hw (rcvk (ci := 8) X hw hK.2.2.1 (fun _ _ _ _ _ _ _ => ⟨_, rfl⟩) rfl) (c_v_X8_byteAt l G _ tp tb tc tn (I47 68 tk) hK.2.2 htc (FrY.n hF hn) hz) wd_r9_15 wd_r9_16 wd_r9_17 wd_r1_14 wd_r9_18 ⟨by decide, by decide, by decide +kernel⟩ rfl rfl ⟨Nat.le_of_ble_eq_true rfl, Nat.le_of_ble_eq_true rfl⟩ rfl rfl hl.1 (Nat.le_of_ble_eq_true rfl) dX9_readNumber_90 ⟨Nat.le_of_ble_eq_true rfl, Nat.le_of_ble_eq_true rfl⟩ (fun r90_37 S90_39 H locs h90_38 hw => ?_)
            obtain ⟨rfl, h90_38⟩ := h90_38
            have hby2 : r90_37 = tc (I47 68 tk).toNatClampNeg := h90_38.1 (by omega)
            refine lv_iadd hx hb dX9_readNumber_93 ?_
            refine lv_topi (fun v93_40 e93_40 => ?_)
            have e93n := e93_40
            refine lv_bipush (v := 48) hx hb dX9_readNumber_94 (by decide) ?_
            refine lv_isub hx hb dX9_readNumber_96 ?_
            refine lv_topi (fun v96_41 e96_41 => ?_)
            have e96n := e96_41
            refine lv_istore_n (lv' := [(3, .int v96_41), (2, .int ((pI S) 67 tk)), (1, .int 0), (0, .ref tk)]) hx hb dX9_readNumber_97 rfl hl (by decide) rfl (fun ls hl => ?_)
            refine lv_aload_n hx hb dX9_readNumber_98 rfl (lv_at hl 3 rfl) ?_
            refine lv_dup hx hb dX9_readNumber_99 rfl ?_
            refine gf_X9_23 (v := I47 68 tk) X hw hK.1 rfl dX9_readNumber_100 ?_
            refine lv_iconst (v := 1) hx hb dX9_readNumber_103 (by decide) ?_
            refine lv_iadd hx hb dX9_readNumber_104 ?_
            refine lv_topi (fun v104_42 e104_42 => ?_)
            have t104_42 := iAdd e104_42 rfl t_1 (by omega) (by omega)
            have t104 := t104_42
            refine pf_X9_23 X hw hK.1 dX9_readNumber_105 (fun H locs hw => ?_)
            have hw : PX G A s.heap (ch S (up2 I47 68 tk v104_42) (pJ S) (qI S) (qJ S)) H locs := hw
            refine lv_goto (tgt := 47) hx hb dX9_readNumber_108 (by decide) ?_
            exact ih47 (up2 I47 68 tk v104_42) v96_41 (FrY.up (f := 68) (by decide) hF) (by rw [show (up2 I47 68 tk v104_42) 68 tk = (v104_42 : Int32) from (show up2 I47 68 tk v104_42 68 tk = v104_42 from up2_s)]; omega) (by rw [show (up2 I47 68 tk v104_42) 68 tk = (v104_42 : Int32) from (show up2 I47 68 tk v104_42 68 tk = v104_42 from up2_s)]; omega) (by rw [show (up2 I47 68 tk v104_42) 68 tk = (v104_42 : Int32) from (show up2 I47 68 tk v104_42 68 tk = v104_42 from up2_s)]; exact rs_s hT (by omega) (by omega) (dB_i.mpr (by rw [← hby]; omega)) t104) (by rw [show (up2 I47 68 tk v104_42) 68 tk = (v104_42 : Int32) from (show up2 I47 68 tk v104_42 68 tk = v104_42 from up2_s)]; exact dv_s hz3 hby2 (by rw [e93n, e81n]) e96n (by omega) (by omega) t104) (by rw [show (up2 I47 68 tk v104_42) 68 tk = (v104_42 : Int32) from (show up2 I47 68 tk v104_42 68 tk = v104_42 from up2_s)]; omega) _ _ _ hw (lv_sub hl [0, 1, 2, 3] rfl)
          · have h72_33 := h72_33
            refine lv_if_eq (tgt := 111) hx hb dX9_readNumber_75 (by decide) (fun c75_43 => ?_) (fun c75_43 => absurd c75_43 (by decide))
            have hEX : (I47 68 tk).toInt = ((run dB tc tn (tF tc (pI S 68 tk).toNatClampNeg)) : Nat) := rs_e hT (by omega) (by first | (left; omega) | (right; exact dB_f (by rw [← hby]; omega)))
            have hG : uG tc tn (pI S 68 tk).toNatClampNeg = (run dB tc tn (tF tc (pI S 68 tk).toNatClampNeg)) - (tF tc (pI S 68 tk).toNatClampNeg) := rfl
            have hge := run_ge (P := dB) (c := tc) (n := tn) (p := (tF tc (pI S 68 tk).toNatClampNeg))
            have hzv : z = dv tc (tF tc (pI S 68 tk).toNatClampNeg) (uG tc tn (pI S 68 tk).toNatClampNeg) := by rw [hz3, hG, show (I47 68 tk).toNatClampNeg = (run dB tc tn (tF tc (pI S 68 tk).toNatClampNeg)) from by have := cl_toInt (x := I47 68 tk) (by omega); omega]
            refine lv_aload_n hx hb dX9_readNumber_111 rfl (lv_at hl 3 rfl) ?_
            refine gf_X9_23 (v := I47 68 tk) X hw hK.1 rfl dX9_readNumber_112 ?_
            refine lv_iload_n hx hb dX9_readNumber_115 rfl (lv_at hl 1 rfl) ?_
            refine lv_isub hx hb dX9_readNumber_116 ?_
            refine lv_topi (fun v116_44 e116_44 => ?_)
            have t116_44 := iSub e116_44 rfl rfl (by omega) (by omega)
            have t116 := t116_44
            refine lv_istore (lv' := [(4, .int v116_44), (3, .int z), (2, .int ((pI S) 67 tk)), (1, .int 0), (0, .ref tk)]) hx hb dX9_readNumber_117 hl (by decide) rfl (fun ls hl => ?_)
            refine lv_iload hx hb dX9_readNumber_119 (lv_at hl 0 rfl) ?_
            refine lv_iconst (v := 1) hx hb dX9_readNumber_121 (by decide) ?_
            refine lv_icmp_lt (tgt := 152) hx hb dX9_readNumber_122 (by decide) (fun c122_45 => ?_) (fun c122_45 => ?_)
            · have D122_45 := iLt c122_45 rfl t_1
              refine lv_iconst (v := 0) hx hb dX9_readNumber_152 (by decide) ?_
              refine lv_istore (lv' := [(5, .int 0), (4, .int v116_44), (3, .int z), (2, .int ((pI S) 67 tk)), (1, .int 0), (0, .ref tk)]) hx hb dX9_readNumber_153 hl (by decide) rfl (fun ls hl => ?_)
              refine lv_aload_n hx hb dX9_readNumber_155 rfl (lv_at hl 5 rfl) ?_
              refine lv_iload hx hb dX9_readNumber_156 (lv_at hl 0 rfl) ?_
              refine lv_if_eq (tgt := 165) hx hb dX9_readNumber_158 (by decide) (fun c158_46 => ?_) (fun c158_46 => absurd c158_46 (by decide))
              refine lv_iconst (v := 0) hx hb dX9_readNumber_165 (by decide) ?_
              refine pf_X9_13 X hw hK.1 dX9_readNumber_166 (fun H locs hw => ?_)
              have hw : PX G A s.heap (ch S (up2 I47 66 tk 0) (pJ S) (qI S) (qJ S)) H locs := hw
              refine lv_aload_n hx hb dX9_readNumber_169 rfl (lv_at hl 5 rfl) ?_
              refine lv_iload_n hx hb dX9_readNumber_170 rfl (lv_at hl 4 rfl) ?_
              refine lv_if_eq (tgt := 179) hx hb dX9_readNumber_171 (by decide) (fun c171_47 => ?_) (fun c171_47 => absurd c171_47 (by decide))
              refine lv_iload_n hx hb dX9_readNumber_179 rfl (lv_at hl 2 rfl) ?_
              refine pf_X9_20 X hw hK.1 dX9_readNumber_180 (fun H locs hw => ?_)
              have hw : PX G A s.heap (ch S (up2 (up2 I47 66 tk 0) 69 tk z) (pJ S) (qI S) (qJ S)) H locs := hw
              exact hret _ _ _ _ _ ⟨_, rfl, (FrY.up (f := 69) (by decide) (FrY.up (f := 66) (by decide) hF)), (by rw [show (up2 (up2 I47 66 tk 0) 69 tk z) 68 tk = (I47 68 tk : Int32) from rfl]; exact hEX), (by rw [show (up2 (up2 I47 66 tk 0) 69 tk z) 66 tk = (0 : Int32) from (show up2 I47 66 tk 0 66 tk = 0 from up2_s)]; first | (rw [if_pos ⟨⟨by omega, by omega⟩, Bool.eq_false_iff.mpr (fun q => absurd (hL.mp q) (by omega))⟩]; decide) | (rw [if_neg (fun q => absurd q.1 (by omega))]; decide) | (rw [if_neg (fun q => absurd (hL.mpr (by omega)) (nt_of q.2))]; decide)), (by rw [show (up2 (up2 I47 66 tk 0) 69 tk z) 69 tk = (z : Int32) from (show up2 (up2 I47 66 tk 0) 69 tk z 69 tk = z from up2_s)]; unfold uV; first | (rw [if_pos (by rw [← hb8]; omega), ← hzv]; assumption) | (rw [if_neg (by rw [← hb8]; omega), ← hzv]))⟩ hw dX9_readNumber_183
            · have D122_45 := iNlt c122_45 rfl t_1
              refine lv_iload hx hb dX9_readNumber_125 (lv_at hl 0 rfl) ?_
              refine lv_iconst (v := 3) hx hb dX9_readNumber_127 (by decide) ?_
              refine lv_icmp_gt (tgt := 152) hx hb dX9_readNumber_128 (by decide) (fun c128_48 => ?_) (fun c128_48 => ?_)
              · have D128_48 := iLt c128_48 t_3 rfl
                refine lv_iconst (v := 0) hx hb dX9_readNumber_152 (by decide) ?_
                refine lv_istore (lv' := [(5, .int 0), (4, .int v116_44), (3, .int z), (2, .int ((pI S) 67 tk)), (1, .int 0), (0, .ref tk)]) hx hb dX9_readNumber_153 hl (by decide) rfl (fun ls hl => ?_)
                refine lv_aload_n hx hb dX9_readNumber_155 rfl (lv_at hl 5 rfl) ?_
                refine lv_iload hx hb dX9_readNumber_156 (lv_at hl 0 rfl) ?_
                refine lv_if_eq (tgt := 165) hx hb dX9_readNumber_158 (by decide) (fun c158_49 => ?_) (fun c158_49 => absurd c158_49 (by decide))
                refine lv_iconst (v := 0) hx hb dX9_readNumber_165 (by decide) ?_
                refine pf_X9_13 X hw hK.1 dX9_readNumber_166 (fun H locs hw => ?_)
                have hw : PX G A s.heap (ch S (up2 I47 66 tk 0) (pJ S) (qI S) (qJ S)) H locs := hw
                refine lv_aload_n hx hb dX9_readNumber_169 rfl (lv_at hl 5 rfl) ?_
                refine lv_iload_n hx hb dX9_readNumber_170 rfl (lv_at hl 4 rfl) ?_
                refine lv_if_eq (tgt := 179) hx hb dX9_readNumber_171 (by decide) (fun c171_50 => ?_) (fun c171_50 => absurd c171_50 (by decide))
                refine lv_iload_n hx hb dX9_readNumber_179 rfl (lv_at hl 2 rfl) ?_
                refine pf_X9_20 X hw hK.1 dX9_readNumber_180 (fun H locs hw => ?_)
                have hw : PX G A s.heap (ch S (up2 (up2 I47 66 tk 0) 69 tk z) (pJ S) (qI S) (qJ S)) H locs := hw
                exact hret _ _ _ _ _ ⟨_, rfl, (FrY.up (f := 69) (by decide) (FrY.up (f := 66) (by decide) hF)), (by rw [show (up2 (up2 I47 66 tk 0) 69 tk z) 68 tk = (I47 68 tk : Int32) from rfl]; exact hEX), (by rw [show (up2 (up2 I47 66 tk 0) 69 tk z) 66 tk = (0 : Int32) from (show up2 I47 66 tk 0 66 tk = 0 from up2_s)]; first | (rw [if_pos ⟨⟨by omega, by omega⟩, Bool.eq_false_iff.mpr (fun q => absurd (hL.mp q) (by omega))⟩]; decide) | (rw [if_neg (fun q => absurd q.1 (by omega))]; decide) | (rw [if_neg (fun q => absurd (hL.mpr (by omega)) (nt_of q.2))]; decide)), (by rw [show (up2 (up2 I47 66 tk 0) 69 tk z) 69 tk = (z : Int32) from (show up2 (up2 I47 66 tk 0) 69 tk z 69 tk = z from up2_s)]; unfold uV; first | (rw [if_pos (by rw [← hb8]; omega), ← hzv]; assumption) | (rw [if_neg (by rw [← hb8]; omega), ← hzv]))⟩ hw dX9_readNumber_183
              · have D128_48 := iNlt c128_48 t_3 rfl
                refine lv_aload_n hx hb dX9_readNumber_131 rfl (lv_at hl 4 rfl) ?_
                refine gf_X9_7 (b := tp) X hw hK.1 hK.2.1 dX9_readNumber_132 ?_
                refine lv_aload_n hx hb dX9_readNumber_135 rfl (lv_at hl 4 rfl) ?_
                refine gf_X9_23 (v := I47 68 tk) X hw hK.1 rfl dX9_readNumber_136 ?_
                refine k_Vi (n := 1) X hw (rcvk (ci := 8) X hw hK.2.2.1 (fun _ _ _ _ _ _ _ => ⟨_, rfl⟩) rfl) (c_v_X8_byteAt l G _ tp tb tc tn (I47 68 tk) hK.2.2 htc (FrY.n hF hn) hz) wd_r9_15 wd_r9_16 wd_r9_17 wd_r1_14 wd_r9_18 ⟨by decide, by decide, by decide +kernel⟩ rfl rfl ⟨Nat.le_of_ble_eq_true rfl, Nat.le_of_ble_eq_true rfl⟩ rfl rfl hl.1 (Nat.le_of_ble_eq_true rfl) dX9_readNumber_139 ⟨Nat.le_of_ble_eq_true rfl, Nat.le_of_ble_eq_true rfl⟩ (fun r139_51 S139_53 H locs h139_52 hw => ?_)
                obtain ⟨rfl, h139_52⟩ := h139_52
                have hL := h139_52.l hEX htc
                refine k_Si (n := 1) X hw (c_X9_isLetter l G _ r139_51) wd_r9_22 wd_r9_23 wd_r3_2 wd_r10_0 ⟨by decide, by decide, by decide +kernel⟩ rfl rfl ⟨Nat.le_of_ble_eq_true rfl, Nat.le_of_ble_eq_true rfl⟩ rfl rfl hl.1 (Nat.le_of_ble_eq_true rfl) dX9_readNumber_142 ⟨Nat.le_of_ble_eq_true rfl, Nat.le_of_ble_eq_true rfl⟩ (fun r142_54 S142_56 H locs h142_55 hw => ?_)
                rcases h142_55 with ⟨rfl, rfl, h142_55⟩ | ⟨rfl, rfl, h142_55⟩
                · have h142_55 := h142_55
                  refine lv_if_ne (tgt := 152) hx hb dX9_readNumber_145 (by decide) (fun c145_57 => ?_) (fun c145_57 => absurd c145_57 (by decide))
                  refine lv_iconst (v := 0) hx hb dX9_readNumber_152 (by decide) ?_
                  refine lv_istore (lv' := [(5, .int 0), (4, .int v116_44), (3, .int z), (2, .int ((pI S) 67 tk)), (1, .int 0), (0, .ref tk)]) hx hb dX9_readNumber_153 hl (by decide) rfl (fun ls hl => ?_)
                  refine lv_aload_n hx hb dX9_readNumber_155 rfl (lv_at hl 5 rfl) ?_
                  refine lv_iload hx hb dX9_readNumber_156 (lv_at hl 0 rfl) ?_
                  refine lv_if_eq (tgt := 165) hx hb dX9_readNumber_158 (by decide) (fun c158_58 => ?_) (fun c158_58 => absurd c158_58 (by decide))
                  refine lv_iconst (v := 0) hx hb dX9_readNumber_165 (by decide) ?_
                  refine pf_X9_13 X hw hK.1 dX9_readNumber_166 (fun H locs hw => ?_)
                  have hw : PX G A s.heap (ch S (up2 I47 66 tk 0) (pJ S) (qI S) (qJ S)) H locs := hw
                  refine lv_aload_n hx hb dX9_readNumber_169 rfl (lv_at hl 5 rfl) ?_
                  refine lv_iload_n hx hb dX9_readNumber_170 rfl (lv_at hl 4 rfl) ?_
                  refine lv_if_eq (tgt := 179) hx hb dX9_readNumber_171 (by decide) (fun c171_59 => ?_) (fun c171_59 => absurd c171_59 (by decide))
                  refine lv_iload_n hx hb dX9_readNumber_179 rfl (lv_at hl 2 rfl) ?_
                  refine pf_X9_20 X hw hK.1 dX9_readNumber_180 (fun H locs hw => ?_)
                  have hw : PX G A s.heap (ch S (up2 (up2 I47 66 tk 0) 69 tk z) (pJ S) (qI S) (qJ S)) H locs := hw
                  exact hret _ _ _ _ _ ⟨_, rfl, (FrY.up (f := 69) (by decide) (FrY.up (f := 66) (by decide) hF)), (by rw [show (up2 (up2 I47 66 tk 0) 69 tk z) 68 tk = (I47 68 tk : Int32) from rfl]; exact hEX), (by rw [show (up2 (up2 I47 66 tk 0) 69 tk z) 66 tk = (0 : Int32) from (show up2 I47 66 tk 0 66 tk = 0 from up2_s)]; first | (rw [if_pos ⟨⟨by omega, by omega⟩, Bool.eq_false_iff.mpr (fun q => absurd (hL.mp q) (by omega))⟩]; decide) | (rw [if_neg (fun q => absurd q.1 (by omega))]; decide) | (rw [if_neg (fun q => absurd (hL.mpr (by omega)) (nt_of q.2))]; decide)), (by rw [show (up2 (up2 I47 66 tk 0) 69 tk z) 69 tk = (z : Int32) from (show up2 (up2 I47 66 tk 0) 69 tk z 69 tk = z from up2_s)]; unfold uV; first | (rw [if_pos (by rw [← hb8]; omega), ← hzv]; assumption) | (rw [if_neg (by rw [← hb8]; omega), ← hzv]))⟩ hw dX9_readNumber_183
                · have h142_55 := h142_55
                  refine lv_if_ne (tgt := 152) hx hb dX9_readNumber_145 (by decide) (fun c145_60 => absurd c145_60 (by decide)) (fun c145_60 => ?_)
                  refine lv_iconst (v := 1) hx hb dX9_readNumber_148 (by decide) ?_
                  refine lv_goto (tgt := 153) hx hb dX9_readNumber_149 (by decide) ?_
                  refine lv_istore (lv' := [(5, .int 1), (4, .int v116_44), (3, .int z), (2, .int ((pI S) 67 tk)), (1, .int 0), (0, .ref tk)]) hx hb dX9_readNumber_153 hl (by decide) rfl (fun ls hl => ?_)
                  refine lv_aload_n hx hb dX9_readNumber_155 rfl (lv_at hl 5 rfl) ?_
                  refine lv_iload hx hb dX9_readNumber_156 (lv_at hl 0 rfl) ?_
                  refine lv_if_eq (tgt := 165) hx hb dX9_readNumber_158 (by decide) (fun c158_61 => absurd c158_61 (by decide)) (fun c158_61 => ?_)
                  refine lv_iconst (v := 3) hx hb dX9_readNumber_161 (by decide) ?_
                  refine lv_goto (tgt := 166) hx hb dX9_readNumber_162 (by decide) ?_
                  refine pf_X9_13 X hw hK.1 dX9_readNumber_166 (fun H locs hw => ?_)
                  have hw : PX G A s.heap (ch S (up2 I47 66 tk 3) (pJ S) (qI S) (qJ S)) H locs := hw
                  refine lv_aload_n hx hb dX9_readNumber_169 rfl (lv_at hl 5 rfl) ?_
                  refine lv_iload_n hx hb dX9_readNumber_170 rfl (lv_at hl 4 rfl) ?_
                  refine lv_if_eq (tgt := 179) hx hb dX9_readNumber_171 (by decide) (fun c171_62 => ?_) (fun c171_62 => absurd c171_62 (by decide))
                  refine lv_iload_n hx hb dX9_readNumber_179 rfl (lv_at hl 2 rfl) ?_
                  refine pf_X9_20 X hw hK.1 dX9_readNumber_180 (fun H locs hw => ?_)
                  have hw : PX G A s.heap (ch S (up2 (up2 I47 66 tk 3) 69 tk z) (pJ S) (qI S) (qJ S)) H locs := hw
                  exact hret _ _ _ _ _ ⟨_, rfl, (FrY.up (f := 69) (by decide) (FrY.up (f := 66) (by decide) hF)), (by rw [show (up2 (up2 I47 66 tk 3) 69 tk z) 68 tk = (I47 68 tk : Int32) from rfl]; exact hEX), (by rw [show (up2 (up2 I47 66 tk 3) 69 tk z) 66 tk = (3 : Int32) from (show up2 I47 66 tk 3 66 tk = 3 from up2_s)]; first | (rw [if_pos ⟨⟨by omega, by omega⟩, Bool.eq_false_iff.mpr (fun q => absurd (hL.mp q) (by omega))⟩]; decide) | (rw [if_neg (fun q => absurd q.1 (by omega))]; decide) | (rw [if_neg (fun q => absurd (hL.mpr (by omega)) (nt_of q.2))]; decide)), (by rw [show (up2 (up2 I47 66 tk 3) 69 tk z) 69 tk = (z : Int32) from (show up2 (up2 I47 66 tk 3) 69 tk z 69 tk = z from up2_s)]; unfold uV; first | (rw [if_pos (by rw [← hb8]; omega), ← hzv]; assumption) | (rw [if_neg (by rw [← hb8]; omega), ← hzv]))⟩ hw dX9_readNumber_183
    exact lp47 _ (up2 (pI S) 68 tk ((pI S) 67 tk)) 0 (FrY.up (f := 68) (by decide) FrY.rf) (by rw [show (up2 (pI S) 68 tk ((pI S) 67 tk)) 68 tk = ((pI S) 67 tk : Int32) from (show up2 (pI S) 68 tk ((pI S) 67 tk) 68 tk = ((pI S) 67 tk) from up2_s)]; omega) (by rw [show (up2 (pI S) 68 tk ((pI S) 67 tk)) 68 tk = ((pI S) 67 tk : Int32) from (show up2 (pI S) 68 tk ((pI S) 67 tk) 68 tk = ((pI S) 67 tk) from up2_s)]; omega) (by rw [show (up2 (pI S) 68 tk ((pI S) 67 tk)) 68 tk = ((pI S) 67 tk : Int32) from (show up2 (pI S) 68 tk ((pI S) 67 tk) 68 tk = ((pI S) 67 tk) from up2_s), (show ((pI S) 67 tk).toNatClampNeg = (tF tc (pI S 68 tk).toNatClampNeg) from by have := cl_toInt (x := ((pI S) 67 tk)) (by omega); omega)]) (by rw [show (up2 (pI S) 68 tk ((pI S) 67 tk)) 68 tk = ((pI S) 67 tk : Int32) from (show up2 (pI S) 68 tk ((pI S) 67 tk) 68 tk = ((pI S) 67 tk) from up2_s), (show ((pI S) 67 tk).toNatClampNeg = (tF tc (pI S 68 tk).toNatClampNeg) from by have := cl_toInt (x := ((pI S) 67 tk)) (by omega); omega), Nat.sub_self]; rfl) (Nat.lt_succ_self _) _ _ _ hw (lv_sub hl [0, 1, 2, 3] rfl)
  · have D13_4 := iEq c13_4 rfl t_45
    refine lv_iconst (v := 1) hx hb dX9_readNumber_16 (by decide) ?_
    refine lv_goto (tgt := 21) hx hb dX9_readNumber_17 (by decide) ?_
    refine lv_istore_n (lv' := [(1, .int 1), (0, .ref tk)]) hx hb dX9_readNumber_21 rfl hl (by decide) rfl (fun ls hl => ?_)
    refine lv_iload_n hx hb dX9_readNumber_22 rfl (lv_at hl 0 rfl) ?_
    refine lv_if_eq (tgt := 35) hx hb dX9_readNumber_23 (by decide) (fun c23_63 => absurd c23_63 (by decide)) (fun c23_63 => ?_)
    refine lv_aload_n hx hb dX9_readNumber_26 rfl (lv_at hl 1 rfl) ?_
    refine gf_X9_17 (v := (pI S) 67 tk) X hw hK.1 rfl dX9_readNumber_27 ?_
    refine lv_iconst (v := 1) hx hb dX9_readNumber_30 (by decide) ?_
    refine lv_iadd hx hb dX9_readNumber_31 ?_
    refine lv_topi (fun v31_64 e31_64 => ?_)
    have t31_64 := iAdd e31_64 rfl t_1 (by omega) (by omega)
    have t31 := t31_64
    refine lv_goto (tgt := 39) hx hb dX9_readNumber_32 (by decide) ?_
    refine lv_istore_n (lv' := [(2, .int v31_64), (1, .int 1), (0, .ref tk)]) hx hb dX9_readNumber_39 rfl hl (by decide) rfl (fun ls hl => ?_)
    refine lv_iconst (v := 0) hx hb dX9_readNumber_40 (by decide) ?_
    refine lv_istore_n (lv' := [(3, .int 0), (2, .int v31_64), (1, .int 1), (0, .ref tk)]) hx hb dX9_readNumber_41 rfl hl (by decide) rfl (fun ls hl => ?_)
    have hfd : v31_64.toInt = ((tF tc (pI S 68 tk).toNatClampNeg) : Nat) := by unfold tF; first | (rw [if_pos (by rw [← hb8]; omega)]; omega) | (rw [if_neg (by rw [← hb8]; omega)]; omega)
    have hfn := tF_le (c := tc) (n := tn) (s := (pI S 68 tk).toNatClampNeg) (by omega)
    refine lv_aload_n hx hb dX9_readNumber_42 rfl (lv_at hl 3 rfl) ?_
    refine lv_iload_n hx hb dX9_readNumber_43 rfl (lv_at hl 1 rfl) ?_
    refine pf_X9_23 X hw hK.1 dX9_readNumber_44 (fun H locs hw => ?_)
    have hw : PX G A s.heap (ch S (up2 (pI S) 68 tk v31_64) (pJ S) (qI S) (qJ S)) H locs := hw
    have lp47 : ∀ (N9 : Nat) (I47 : Nat → Nat → Int32) (z : Int32), (FrY (pI S) I47) → (0 ≤ (I47 68 tk).toInt ∧ (I47 68 tk).toInt ≤ (tn : Int)) → (((tF tc (pI S 68 tk).toNatClampNeg) : Int) ≤ (I47 68 tk).toInt) → (run dB tc tn (I47 68 tk).toNatClampNeg = (run dB tc tn (tF tc (pI S 68 tk).toNatClampNeg))) → (z = dv tc (tF tc (pI S 68 tk).toNatClampNeg) ((I47 68 tk).toNatClampNeg - (tF tc (pI S 68 tk).toNatClampNeg))) → ((tn : Int) - (I47 68 tk).toInt).toNat < N9 → ∀ (H : Heap) (locs : List Loc) (ls : Array Slot), PX G A s.heap (ch S I47 (pJ S) (qI S) (qJ S)) H locs → lv_has ls 6 [(3, .int z), (2, .int v31_64), (1, .int 1), (0, .ref tk)] → W p l e (Rm 1 0 0) s m args below meth c H locs 0 0 Q (F0 m 47 ls []) := by
      intro N9
      induction N9 with
      | zero => intro I47 z hF hB hf2 hT hz3 hm; exact absurd hm (Nat.not_lt_zero _)
      | succ N9 ih47 =>
        intro I47 z hF hB hf2 hT hz3 hm H locs ls hw hl
        have hnn := FrY.n hF hn
        refine lv_aload_n hx hb dX9_readNumber_47 rfl (lv_at hl 3 rfl) ?_
        refine gf_X9_23 (v := I47 68 tk) X hw hK.1 rfl dX9_readNumber_48 ?_
        refine lv_aload_n hx hb dX9_readNumber_51 rfl (lv_at hl 3 rfl) ?_
        refine gf_X9_7 (b := tp) X hw hK.1 hK.2.1 dX9_readNumber_52 ?_
        refine k_Vi (n := 0) X hw (rcvk (ci := 8) X hw hK.2.2.1 (fun _ _ _ _ _ _ _ => ⟨_, rfl⟩) rfl) (c_X8_size l G _ tp tb hK.2.2) wd_r9_14 wd_r7_5 wd_r7_6 wd_r1_14 wd_r7_7 ⟨by decide, by decide, by decide +kernel⟩ rfl rfl ⟨Nat.le_of_ble_eq_true rfl, Nat.le_of_ble_eq_true rfl⟩ rfl rfl hl.1 (Nat.le_of_ble_eq_true rfl) dX9_readNumber_55 ⟨Nat.le_of_ble_eq_true rfl, Nat.le_of_ble_eq_true rfl⟩ (fun r55_65 S55_67 H locs h55_66 hw => ?_)
        obtain ⟨rfl, h55_66⟩ := h55_66
        have h55_66 : r55_65 = I47 61 tp := h55_66
        have h55_66t := congrArg Int32.toInt h55_66
        refine lv_icmp_ge (tgt := 111) hx hb dX9_readNumber_58 (by decide) (fun c58_68 => ?_) (fun c58_68 => ?_)
        · have D58_68 := iLe c58_68 rfl rfl
          have hEX : (I47 68 tk).toInt = ((run dB tc tn (tF tc (pI S 68 tk).toNatClampNeg)) : Nat) := rs_e hT (by omega) (by first | (left; omega) | (right; exact dB_f (by rw [← hby]; omega)))
          have hG : uG tc tn (pI S 68 tk).toNatClampNeg = (run dB tc tn (tF tc (pI S 68 tk).toNatClampNeg)) - (tF tc (pI S 68 tk).toNatClampNeg) := rfl
          have hge := run_ge (P := dB) (c := tc) (n := tn) (p := (tF tc (pI S 68 tk).toNatClampNeg))
          have hzv : z = dv tc (tF tc (pI S 68 tk).toNatClampNeg) (uG tc tn (pI S 68 tk).toNatClampNeg) := by rw [hz3, hG, show (I47 68 tk).toNatClampNeg = (run dB tc tn (tF tc (pI S 68 tk).toNatClampNeg)) from by have := cl_toInt (x := I47 68 tk) (by omega); omega]
          refine lv_aload_n hx hb dX9_readNumber_111 rfl (lv_at hl 3 rfl) ?_
          refine gf_X9_23 (v := I47 68 tk) X hw hK.1 rfl dX9_readNumber_112 ?_
          refine lv_iload_n hx hb dX9_readNumber_115 rfl (lv_at hl 1 rfl) ?_
          refine lv_isub hx hb dX9_readNumber_116 ?_
          refine lv_topi (fun v116_69 e116_69 => ?_)
          have t116_69 := iSub e116_69 rfl rfl (by omega) (by omega)
          have t116 := t116_69
          refine lv_istore (lv' := [(4, .int v116_69), (3, .int z), (2, .int v31_64), (1, .int 1), (0, .ref tk)]) hx hb dX9_readNumber_117 hl (by decide) rfl (fun ls hl => ?_)
          refine lv_iload hx hb dX9_readNumber_119 (lv_at hl 0 rfl) ?_
          refine lv_iconst (v := 1) hx hb dX9_readNumber_121 (by decide) ?_
          refine lv_icmp_lt (tgt := 152) hx hb dX9_readNumber_122 (by decide) (fun c122_70 => ?_) (fun c122_70 => ?_)
          · have D122_70 := iLt c122_70 rfl t_1
            refine lv_iconst (v := 0) hx hb dX9_readNumber_152 (by decide) ?_
            refine lv_istore (lv' := [(5, .int 0), (4, .int v116_69), (3, .int z), (2, .int v31_64), (1, .int 1), (0, .ref tk)]) hx hb dX9_readNumber_153 hl (by decide) rfl (fun ls hl => ?_)
            refine lv_aload_n hx hb dX9_readNumber_155 rfl (lv_at hl 5 rfl) ?_
            refine lv_iload hx hb dX9_readNumber_156 (lv_at hl 0 rfl) ?_
            refine lv_if_eq (tgt := 165) hx hb dX9_readNumber_158 (by decide) (fun c158_71 => ?_) (fun c158_71 => absurd c158_71 (by decide))
            refine lv_iconst (v := 0) hx hb dX9_readNumber_165 (by decide) ?_
            refine pf_X9_13 X hw hK.1 dX9_readNumber_166 (fun H locs hw => ?_)
            have hw : PX G A s.heap (ch S (up2 I47 66 tk 0) (pJ S) (qI S) (qJ S)) H locs := hw
            refine lv_aload_n hx hb dX9_readNumber_169 rfl (lv_at hl 5 rfl) ?_
            refine lv_iload_n hx hb dX9_readNumber_170 rfl (lv_at hl 4 rfl) ?_
            refine lv_if_eq (tgt := 179) hx hb dX9_readNumber_171 (by decide) (fun c171_72 => absurd c171_72 (by decide)) (fun c171_72 => ?_)
            refine lv_iload_n hx hb dX9_readNumber_174 rfl (lv_at hl 2 rfl) ?_
            refine lv_ineg hx hb dX9_readNumber_175 ?_
            refine lv_topi (fun v175_73 e175_73 => ?_)
            refine lv_goto (tgt := 180) hx hb dX9_readNumber_176 (by decide) ?_
            refine pf_X9_20 X hw hK.1 dX9_readNumber_180 (fun H locs hw => ?_)
            have hw : PX G A s.heap (ch S (up2 (up2 I47 66 tk 0) 69 tk v175_73) (pJ S) (qI S) (qJ S)) H locs := hw
            exact hret _ _ _ _ _ ⟨_, rfl, (FrY.up (f := 69) (by decide) (FrY.up (f := 66) (by decide) hF)), (by rw [show (up2 (up2 I47 66 tk 0) 69 tk v175_73) 68 tk = (I47 68 tk : Int32) from rfl]; exact hEX), (by rw [show (up2 (up2 I47 66 tk 0) 69 tk v175_73) 66 tk = (0 : Int32) from (show up2 I47 66 tk 0 66 tk = 0 from up2_s)]; first | (rw [if_pos ⟨⟨by omega, by omega⟩, Bool.eq_false_iff.mpr (fun q => absurd (hL.mp q) (by omega))⟩]; decide) | (rw [if_neg (fun q => absurd q.1 (by omega))]; decide) | (rw [if_neg (fun q => absurd (hL.mpr (by omega)) (nt_of q.2))]; decide)), (by rw [show (up2 (up2 I47 66 tk 0) 69 tk v175_73) 69 tk = (v175_73 : Int32) from (show up2 (up2 I47 66 tk 0) 69 tk v175_73 69 tk = v175_73 from up2_s)]; unfold uV; first | (rw [if_pos (by rw [← hb8]; omega), ← hzv]; assumption) | (rw [if_neg (by rw [← hb8]; omega), ← hzv]))⟩ hw dX9_readNumber_183
          · have D122_70 := iNlt c122_70 rfl t_1
            refine lv_iload hx hb dX9_readNumber_125 (lv_at hl 0 rfl) ?_
            refine lv_iconst (v := 3) hx hb dX9_readNumber_127 (by decide) ?_
            refine lv_icmp_gt (tgt := 152) hx hb dX9_readNumber_128 (by decide) (fun c128_74 => ?_) (fun c128_74 => ?_)
            · have D128_74 := iLt c128_74 t_3 rfl
              refine lv_iconst (v := 0) hx hb dX9_readNumber_152 (by decide) ?_
              refine lv_istore (lv' := [(5, .int 0), (4, .int v116_69), (3, .int z), (2, .int v31_64), (1, .int 1), (0, .ref tk)]) hx hb dX9_readNumber_153 hl (by decide) rfl (fun ls hl => ?_)
              refine lv_aload_n hx hb dX9_readNumber_155 rfl (lv_at hl 5 rfl) ?_
              refine lv_iload hx hb dX9_readNumber_156 (lv_at hl 0 rfl) ?_
              refine lv_if_eq (tgt := 165) hx hb dX9_readNumber_158 (by decide) (fun c158_75 => ?_) (fun c158_75 => absurd c158_75 (by decide))
              refine lv_iconst (v := 0) hx hb dX9_readNumber_165 (by decide) ?_
              refine pf_X9_13 X hw hK.1 dX9_readNumber_166 (fun H locs hw => ?_)
              have hw : PX G A s.heap (ch S (up2 I47 66 tk 0) (pJ S) (qI S) (qJ S)) H locs := hw
              refine lv_aload_n hx hb dX9_readNumber_169 rfl (lv_at hl 5 rfl) ?_
              refine lv_iload_n hx hb dX9_readNumber_170 rfl (lv_at hl 4 rfl) ?_
              refine lv_if_eq (tgt := 179) hx hb dX9_readNumber_171 (by decide) (fun c171_76 => absurd c171_76 (by decide)) (fun c171_76 => ?_)
              refine lv_iload_n hx hb dX9_readNumber_174 rfl (lv_at hl 2 rfl) ?_
              refine lv_ineg hx hb dX9_readNumber_175 ?_
              refine lv_topi (fun v175_77 e175_77 => ?_)
              refine lv_goto (tgt := 180) hx hb dX9_readNumber_176 (by decide) ?_
              refine pf_X9_20 X hw hK.1 dX9_readNumber_180 (fun H locs hw => ?_)
              have hw : PX G A s.heap (ch S (up2 (up2 I47 66 tk 0) 69 tk v175_77) (pJ S) (qI S) (qJ S)) H locs := hw
              exact hret _ _ _ _ _ ⟨_, rfl, (FrY.up (f := 69) (by decide) (FrY.up (f := 66) (by decide) hF)), (by rw [show (up2 (up2 I47 66 tk 0) 69 tk v175_77) 68 tk = (I47 68 tk : Int32) from rfl]; exact hEX), (by rw [show (up2 (up2 I47 66 tk 0) 69 tk v175_77) 66 tk = (0 : Int32) from (show up2 I47 66 tk 0 66 tk = 0 from up2_s)]; first | (rw [if_pos ⟨⟨by omega, by omega⟩, Bool.eq_false_iff.mpr (fun q => absurd (hL.mp q) (by omega))⟩]; decide) | (rw [if_neg (fun q => absurd q.1 (by omega))]; decide) | (rw [if_neg (fun q => absurd (hL.mpr (by omega)) (nt_of q.2))]; decide)), (by rw [show (up2 (up2 I47 66 tk 0) 69 tk v175_77) 69 tk = (v175_77 : Int32) from (show up2 (up2 I47 66 tk 0) 69 tk v175_77 69 tk = v175_77 from up2_s)]; unfold uV; first | (rw [if_pos (by rw [← hb8]; omega), ← hzv]; assumption) | (rw [if_neg (by rw [← hb8]; omega), ← hzv]))⟩ hw dX9_readNumber_183
            · have D128_74 := iNlt c128_74 t_3 rfl
              refine lv_aload_n hx hb dX9_readNumber_131 rfl (lv_at hl 4 rfl) ?_
              refine gf_X9_7 (b := tp) X hw hK.1 hK.2.1 dX9_readNumber_132 ?_
              refine lv_aload_n hx hb dX9_readNumber_135 rfl (lv_at hl 4 rfl) ?_
              refine gf_X9_23 (v := I47 68 tk) X hw hK.1 rfl dX9_readNumber_136 ?_
              refine k_Vi (n := 1) X hw (rcvk (ci := 8) X hw hK.2.2.1 (fun _ _ _ _ _ _ _ => ⟨_, rfl⟩) rfl) (c_v_X8_byteAt l G _ tp tb tc tn (I47 68 tk) hK.2.2 htc (FrY.n hF hn) hz) wd_r9_15 wd_r9_16 wd_r9_17 wd_r1_14 wd_r9_18 ⟨by decide, by decide, by decide +kernel⟩ rfl rfl ⟨Nat.le_of_ble_eq_true rfl, Nat.le_of_ble_eq_true rfl⟩ rfl rfl hl.1 (Nat.le_of_ble_eq_true rfl) dX9_readNumber_139 ⟨Nat.le_of_ble_eq_true rfl, Nat.le_of_ble_eq_true rfl⟩ (fun r139_78 S139_80 H locs h139_79 hw => ?_)
              obtain ⟨rfl, h139_79⟩ := h139_79
              have hL := h139_79.l hEX htc
              refine k_Si (n := 1) X hw (c_X9_isLetter l G _ r139_78) wd_r9_22 wd_r9_23 wd_r3_2 wd_r10_0 ⟨by decide, by decide, by decide +kernel⟩ rfl rfl ⟨Nat.le_of_ble_eq_true rfl, Nat.le_of_ble_eq_true rfl⟩ rfl rfl hl.1 (Nat.le_of_ble_eq_true rfl) dX9_readNumber_142 ⟨Nat.le_of_ble_eq_true rfl, Nat.le_of_ble_eq_true rfl⟩ (fun r142_81 S142_83 H locs h142_82 hw => ?_)
              rcases h142_82 with ⟨rfl, rfl, h142_82⟩ | ⟨rfl, rfl, h142_82⟩
              · have h142_82 := h142_82
                refine lv_if_ne (tgt := 152) hx hb dX9_readNumber_145 (by decide) (fun c145_84 => ?_) (fun c145_84 => absurd c145_84 (by decide))
                refine lv_iconst (v := 0) hx hb dX9_readNumber_152 (by decide) ?_
                refine lv_istore (lv' := [(5, .int 0), (4, .int v116_69), (3, .int z), (2, .int v31_64), (1, .int 1), (0, .ref tk)]) hx hb dX9_readNumber_153 hl (by decide) rfl (fun ls hl => ?_)
                refine lv_aload_n hx hb dX9_readNumber_155 rfl (lv_at hl 5 rfl) ?_
                refine lv_iload hx hb dX9_readNumber_156 (lv_at hl 0 rfl) ?_
                refine lv_if_eq (tgt := 165) hx hb dX9_readNumber_158 (by decide) (fun c158_85 => ?_) (fun c158_85 => absurd c158_85 (by decide))
                refine lv_iconst (v := 0) hx hb dX9_readNumber_165 (by decide) ?_
                refine pf_X9_13 X hw hK.1 dX9_readNumber_166 (fun H locs hw => ?_)
                have hw : PX G A s.heap (ch S (up2 I47 66 tk 0) (pJ S) (qI S) (qJ S)) H locs := hw
                refine lv_aload_n hx hb dX9_readNumber_169 rfl (lv_at hl 5 rfl) ?_
                refine lv_iload_n hx hb dX9_readNumber_170 rfl (lv_at hl 4 rfl) ?_
                refine lv_if_eq (tgt := 179) hx hb dX9_readNumber_171 (by decide) (fun c171_86 => absurd c171_86 (by decide)) (fun c171_86 => ?_)
                refine lv_iload_n hx hb dX9_readNumber_174 rfl (lv_at hl 2 rfl) ?_
                refine lv_ineg hx hb dX9_readNumber_175 ?_
                refine lv_topi (fun v175_87 e175_87 => ?_)
                refine lv_goto (tgt := 180) hx hb dX9_readNumber_176 (by decide) ?_
                refine pf_X9_20 X hw hK.1 dX9_readNumber_180 (fun H locs hw => ?_)
                have hw : PX G A s.heap (ch S (up2 (up2 I47 66 tk 0) 69 tk v175_87) (pJ S) (qI S) (qJ S)) H locs := hw
                exact hret _ _ _ _ _ ⟨_, rfl, (FrY.up (f := 69) (by decide) (FrY.up (f := 66) (by decide) hF)), (by rw [show (up2 (up2 I47 66 tk 0) 69 tk v175_87) 68 tk = (I47 68 tk : Int32) from rfl]; exact hEX), (by rw [show (up2 (up2 I47 66 tk 0) 69 tk v175_87) 66 tk = (0 : Int32) from (show up2 I47 66 tk 0 66 tk = 0 from up2_s)]; first | (rw [if_pos ⟨⟨by omega, by omega⟩, Bool.eq_false_iff.mpr (fun q => absurd (hL.mp q) (by omega))⟩]; decide) | (rw [if_neg (fun q => absurd q.1 (by omega))]; decide) | (rw [if_neg (fun q => absurd (hL.mpr (by omega)) (nt_of q.2))]; decide)), (by rw [show (up2 (up2 I47 66 tk 0) 69 tk v175_87) 69 tk = (v175_87 : Int32) from (show up2 (up2 I47 66 tk 0) 69 tk v175_87 69 tk = v175_87 from up2_s)]; unfold uV; first | (rw [if_pos (by rw [← hb8]; omega), ← hzv]; assumption) | (rw [if_neg (by rw [← hb8]; omega), ← hzv]))⟩ hw dX9_readNumber_183
              · have h142_82 := h142_82
                refine lv_if_ne (tgt := 152) hx hb dX9_readNumber_145 (by decide) (fun c145_88 => absurd c145_88 (by decide)) (fun c145_88 => ?_)
                refine lv_iconst (v := 1) hx hb dX9_readNumber_148 (by decide) ?_
                refine lv_goto (tgt := 153) hx hb dX9_readNumber_149 (by decide) ?_
                refine lv_istore (lv' := [(5, .int 1), (4, .int v116_69), (3, .int z), (2, .int v31_64), (1, .int 1), (0, .ref tk)]) hx hb dX9_readNumber_153 hl (by decide) rfl (fun ls hl => ?_)
                refine lv_aload_n hx hb dX9_readNumber_155 rfl (lv_at hl 5 rfl) ?_
                refine lv_iload hx hb dX9_readNumber_156 (lv_at hl 0 rfl) ?_
                refine lv_if_eq (tgt := 165) hx hb dX9_readNumber_158 (by decide) (fun c158_89 => absurd c158_89 (by decide)) (fun c158_89 => ?_)
                refine lv_iconst (v := 3) hx hb dX9_readNumber_161 (by decide) ?_
                refine lv_goto (tgt := 166) hx hb dX9_readNumber_162 (by decide) ?_
                refine pf_X9_13 X hw hK.1 dX9_readNumber_166 (fun H locs hw => ?_)
                have hw : PX G A s.heap (ch S (up2 I47 66 tk 3) (pJ S) (qI S) (qJ S)) H locs := hw
                refine lv_aload_n hx hb dX9_readNumber_169 rfl (lv_at hl 5 rfl) ?_
                refine lv_iload_n hx hb dX9_readNumber_170 rfl (lv_at hl 4 rfl) ?_
                refine lv_if_eq (tgt := 179) hx hb dX9_readNumber_171 (by decide) (fun c171_90 => absurd c171_90 (by decide)) (fun c171_90 => ?_)
                refine lv_iload_n hx hb dX9_readNumber_174 rfl (lv_at hl 2 rfl) ?_
                refine lv_ineg hx hb dX9_readNumber_175 ?_
                refine lv_topi (fun v175_91 e175_91 => ?_)
                refine lv_goto (tgt := 180) hx hb dX9_readNumber_176 (by decide) ?_
                refine pf_X9_20 X hw hK.1 dX9_readNumber_180 (fun H locs hw => ?_)
                have hw : PX G A s.heap (ch S (up2 (up2 I47 66 tk 3) 69 tk v175_91) (pJ S) (qI S) (qJ S)) H locs := hw
                exact hret _ _ _ _ _ ⟨_, rfl, (FrY.up (f := 69) (by decide) (FrY.up (f := 66) (by decide) hF)), (by rw [show (up2 (up2 I47 66 tk 3) 69 tk v175_91) 68 tk = (I47 68 tk : Int32) from rfl]; exact hEX), (by rw [show (up2 (up2 I47 66 tk 3) 69 tk v175_91) 66 tk = (3 : Int32) from (show up2 I47 66 tk 3 66 tk = 3 from up2_s)]; first | (rw [if_pos ⟨⟨by omega, by omega⟩, Bool.eq_false_iff.mpr (fun q => absurd (hL.mp q) (by omega))⟩]; decide) | (rw [if_neg (fun q => absurd q.1 (by omega))]; decide) | (rw [if_neg (fun q => absurd (hL.mpr (by omega)) (nt_of q.2))]; decide)), (by rw [show (up2 (up2 I47 66 tk 3) 69 tk v175_91) 69 tk = (v175_91 : Int32) from (show up2 (up2 I47 66 tk 3) 69 tk v175_91 69 tk = v175_91 from up2_s)]; unfold uV; first | (rw [if_pos (by rw [← hb8]; omega), ← hzv]; assumption) | (rw [if_neg (by rw [← hb8]; omega), ← hzv]))⟩ hw dX9_readNumber_183
        · have D58_68 := iNle c58_68 rfl rfl
          refine lv_aload_n hx hb dX9_readNumber_61 rfl (lv_at hl 3 rfl) ?_
          refine gf_X9_7 (b := tp) X hw hK.1 hK.2.1 dX9_readNumber_62 ?_
          refine lv_aload_n hx hb dX9_readNumber_65 rfl (lv_at hl 3 rfl) ?_
          refine gf_X9_23 (v := I47 68 tk) X hw hK.1 rfl dX9_readNumber_66 ?_
          refine k_Vi (n := 1) X hw (rcvk (ci := 8) X hw hK.2.2.1 (fun _ _ _ _ _ _ _ => ⟨_, rfl⟩) rfl) (c_v_X8_byteAt l G _ tp tb tc tn (I47 68 tk) hK.2.2 htc (FrY.n hF hn) hz) wd_r9_15 wd_r9_16 wd_r9_17 wd_r1_14 wd_r9_18 ⟨by decide, by decide, by decide +kernel⟩ rfl rfl ⟨Nat.le_of_ble_eq_true rfl, Nat.le_of_ble_eq_true rfl⟩ rfl rfl hl.1 (Nat.le_of_ble_eq_true rfl) dX9_readNumber_69 ⟨Nat.le_of_ble_eq_true rfl, Nat.le_of_ble_eq_true rfl⟩ (fun r69_92 S69_94 H locs h69_93 hw => ?_)
          obtain ⟨rfl, h69_93⟩ := h69_93
          have hby : r69_92 = tc (I47 68 tk).toNatClampNeg := h69_93.1 (by omega)
          refine k_Si (n := 1) X hw (c_X9_isDigit l G _ r69_92) wd_r10_5 wd_r10_6 wd_r3_2 wd_r10_7 ⟨by decide, by decide, by decide +kernel⟩ rfl rfl ⟨Nat.le_of_ble_eq_true rfl, Nat.le_of_ble_eq_true rfl⟩ rfl rfl hl.1 (Nat.le_of_ble_eq_true rfl) dX9_readNumber_72 ⟨Nat.le_of_ble_eq_true rfl, Nat.le_of_ble_eq_true rfl⟩ (fun r72_95 S72_97 H locs h72_96 hw => ?_)
          rcases h72_96 with ⟨rfl, rfl, h72_96⟩ | ⟨rfl, rfl, h72_96⟩
          · have h72_96 := h72_96
            refine lv_if_eq (tgt := 111) hx hb dX9_readNumber_75 (by decide) (fun c75_98 => absurd c75_98 (by decide)) (fun c75_98 => ?_)
            refine lv_iload_n hx hb dX9_readNumber_78 rfl (lv_at hl 0 rfl) ?_
            refine lv_bipush (v := 10) hx hb dX9_readNumber_79 (by decide) ?_
            refine lv_imul hx hb dX9_readNumber_81 ?_
            refine lv_topi (fun v81_99 e81_99 => ?_)
            have e81n := e81_99
            refine lv_aload_n hx hb dX9_readNumber_82 rfl (lv_at hl 3 rfl) ?_
            refine gf_X9_7 (b := tp) X hw hK.1 hK.2.1 dX9_readNumber_83 ?_
            refine lv_aload_n hx hb dX9_readNumber_86 rfl (lv_at hl 3 rfl) ?_
            refine gf_X9_23 (v := I47 68 tk) X hw hK.1 rfl dX9_readNumber_87 ?_
            refine k_Vi (n := 1) X hw (rcvk (ci := 8) X hw hK.2.2.1 (fun _ _ _ _ _ _ _ => ⟨_, rfl⟩) rfl) (c_v_X8_byteAt l G _ tp tb tc tn (I47 68 tk) hK.2.2 htc (FrY.n hF hn) hz) wd_r9_15 wd_r9_16 wd_r9_17 wd_r1_14 wd_r9_18 ⟨by decide, by decide, by decide +kernel⟩ rfl rfl ⟨Nat.le_of_ble_eq_true rfl, Nat.le_of_ble_eq_true rfl⟩ rfl rfl hl.1 (Nat.le_of_ble_eq_true rfl) dX9_readNumber_90 ⟨Nat.le_of_ble_eq_true rfl, Nat.le_of_ble_eq_true rfl⟩ (fun r90_100 S90_102 H locs h90_101 hw => ?_)
            obtain ⟨rfl, h90_101⟩ := h90_101
            have hby2 : r90_100 = tc (I47 68 tk).toNatClampNeg := h90_101.1 (by omega)
            refine lv_iadd hx hb dX9_readNumber_93 ?_
            refine lv_topi (fun v93_103 e93_103 => ?_)
            have e93n := e93_103
            refine lv_bipush (v := 48) hx hb dX9_readNumber_94 (by decide) ?_
            refine lv_isub hx hb dX9_readNumber_96 ?_
            refine lv_topi (fun v96_104 e96_104 => ?_)
            have e96n := e96_104
            refine lv_istore_n (lv' := [(3, .int v96_104), (2, .int v31_64), (1, .int 1), (0, .ref tk)]) hx hb dX9_readNumber_97 rfl hl (by decide) rfl (fun ls hl => ?_)
            refine lv_aload_n hx hb dX9_readNumber_98 rfl (lv_at hl 3 rfl) ?_
            refine lv_dup hx hb dX9_readNumber_99 rfl ?_
            refine gf_X9_23 (v := I47 68 tk) X hw hK.1 rfl dX9_readNumber_100 ?_
            refine lv_iconst (v := 1) hx hb dX9_readNumber_103 (by decide) ?_
            refine lv_iadd hx hb dX9_readNumber_104 ?_
            refine lv_topi (fun v104_105 e104_105 => ?_)
            have t104_105 := iAdd e104_105 rfl t_1 (by omega) (by omega)
            have t104 := t104_105
            refine pf_X9_23 X hw hK.1 dX9_readNumber_105 (fun H locs hw => ?_)
            have hw : PX G A s.heap (ch S (up2 I47 68 tk v104_105) (pJ S) (qI S) (qJ S)) H locs := hw
            refine lv_goto (tgt := 47) hx hb dX9_readNumber_108 (by decide) ?_
            exact ih47 (up2 I47 68 tk v104_105) v96_104 (FrY.up (f := 68) (by decide) hF) (by rw [show (up2 I47 68 tk v104_105) 68 tk = (v104_105 : Int32) from (show up2 I47 68 tk v104_105 68 tk = v104_105 from up2_s)]; omega) (by rw [show (up2 I47 68 tk v104_105) 68 tk = (v104_105 : Int32) from (show up2 I47 68 tk v104_105 68 tk = v104_105 from up2_s)]; omega) (by rw [show (up2 I47 68 tk v104_105) 68 tk = (v104_105 : Int32) from (show up2 I47 68 tk v104_105 68 tk = v104_105 from up2_s)]; exact rs_s hT (by omega) (by omega) (dB_i.mpr (by rw [← hby]; omega)) t104) (by rw [show (up2 I47 68 tk v104_105) 68 tk = (v104_105 : Int32) from (show up2 I47 68 tk v104_105 68 tk = v104_105 from up2_s)]; exact dv_s hz3 hby2 (by rw [e93n, e81n]) e96n (by omega) (by omega) t104) (by rw [show (up2 I47 68 tk v104_105) 68 tk = (v104_105 : Int32) from (show up2 I47 68 tk v104_105 68 tk = v104_105 from up2_s)]; omega) _ _ _ hw (lv_sub hl [0, 1, 2, 3] rfl)
          · have h72_96 := h72_96
            refine lv_if_eq (tgt := 111) hx hb dX9_readNumber_75 (by decide) (fun c75_106 => ?_) (fun c75_106 => absurd c75_106 (by decide))
            have hEX : (I47 68 tk).toInt = ((run dB tc tn (tF tc (pI S 68 tk).toNatClampNeg)) : Nat) := rs_e hT (by omega) (by first | (left; omega) | (right; exact dB_f (by rw [← hby]; omega)))
            have hG : uG tc tn (pI S 68 tk).toNatClampNeg = (run dB tc tn (tF tc (pI S 68 tk).toNatClampNeg)) - (tF tc (pI S 68 tk).toNatClampNeg) := rfl
            have hge := run_ge (P := dB) (c := tc) (n := tn) (p := (tF tc (pI S 68 tk).toNatClampNeg))
            have hzv : z = dv tc (tF tc (pI S 68 tk).toNatClampNeg) (uG tc tn (pI S 68 tk).toNatClampNeg) := by rw [hz3, hG, show (I47 68 tk).toNatClampNeg = (run dB tc tn (tF tc (pI S 68 tk).toNatClampNeg)) from by have := cl_toInt (x := I47 68 tk) (by omega); omega]
            refine lv_aload_n hx hb dX9_readNumber_111 rfl (lv_at hl 3 rfl) ?_
            refine gf_X9_23 (v := I47 68 tk) X hw hK.1 rfl dX9_readNumber_112 ?_
            refine lv_iload_n hx hb dX9_readNumber_115 rfl (lv_at hl 1 rfl) ?_
            refine lv_isub hx hb dX9_readNumber_116 ?_
            refine lv_topi (fun v116_107 e116_107 => ?_)
            have t116_107 := iSub e116_107 rfl rfl (by omega) (by omega)
            have t116 := t116_107
            refine lv_istore (lv' := [(4, .int v116_107), (3, .int z), (2, .int v31_64), (1, .int 1), (0, .ref tk)]) hx hb dX9_readNumber_117 hl (by decide) rfl (fun ls hl => ?_)
            refine lv_iload hx hb dX9_readNumber_119 (lv_at hl 0 rfl) ?_
            refine lv_iconst (v := 1) hx hb dX9_readNumber_121 (by decide) ?_
            refine lv_icmp_lt (tgt := 152) hx hb dX9_readNumber_122 (by decide) (fun c122_108 => ?_) (fun c122_108 => ?_)
            · have D122_108 := iLt c122_108 rfl t_1
              refine lv_iconst (v := 0) hx hb dX9_readNumber_152 (by decide) ?_
              refine lv_istore (lv' := [(5, .int 0), (4, .int v116_107), (3, .int z), (2, .int v31_64), (1, .int 1), (0, .ref tk)]) hx hb dX9_readNumber_153 hl (by decide) rfl (fun ls hl => ?_)
              refine lv_aload_n hx hb dX9_readNumber_155 rfl (lv_at hl 5 rfl) ?_
              refine lv_iload hx hb dX9_readNumber_156 (lv_at hl 0 rfl) ?_
              refine lv_if_eq (tgt := 165) hx hb dX9_readNumber_158 (by decide) (fun c158_109 => ?_) (fun c158_109 => absurd c158_109 (by decide))
              refine lv_iconst (v := 0) hx hb dX9_readNumber_165 (by decide) ?_
              refine pf_X9_13 X hw hK.1 dX9_readNumber_166 (fun H locs hw => ?_)
              have hw : PX G A s.heap (ch S (up2 I47 66 tk 0) (pJ S) (qI S) (qJ S)) H locs := hw
              refine lv_aload_n hx hb dX9_readNumber_169 rfl (lv_at hl 5 rfl) ?_
              refine lv_iload_n hx hb dX9_readNumber_170 rfl (lv_at hl 4 rfl) ?_
              refine lv_if_eq (tgt := 179) hx hb dX9_readNumber_171 (by decide) (fun c171_110 => absurd c171_110 (by decide)) (fun c171_110 => ?_)
              refine lv_iload_n hx hb dX9_readNumber_174 rfl (lv_at hl 2 rfl) ?_
              refine lv_ineg hx hb dX9_readNumber_175 ?_
              refine lv_topi (fun v175_111 e175_111 => ?_)
              refine lv_goto (tgt := 180) hx hb dX9_readNumber_176 (by decide) ?_
              refine pf_X9_20 X hw hK.1 dX9_readNumber_180 (fun H locs hw => ?_)
              have hw : PX G A s.heap (ch S (up2 (up2 I47 66 tk 0) 69 tk v175_111) (pJ S) (qI S) (qJ S)) H locs := hw
              exact hret _ _ _ _ _ ⟨_, rfl, (FrY.up (f := 69) (by decide) (FrY.up (f := 66) (by decide) hF)), (by rw [show (up2 (up2 I47 66 tk 0) 69 tk v175_111) 68 tk = (I47 68 tk : Int32) from rfl]; exact hEX), (by rw [show (up2 (up2 I47 66 tk 0) 69 tk v175_111) 66 tk = (0 : Int32) from (show up2 I47 66 tk 0 66 tk = 0 from up2_s)]; first | (rw [if_pos ⟨⟨by omega, by omega⟩, Bool.eq_false_iff.mpr (fun q => absurd (hL.mp q) (by omega))⟩]; decide) | (rw [if_neg (fun q => absurd q.1 (by omega))]; decide) | (rw [if_neg (fun q => absurd (hL.mpr (by omega)) (nt_of q.2))]; decide)), (by rw [show (up2 (up2 I47 66 tk 0) 69 tk v175_111) 69 tk = (v175_111 : Int32) from (show up2 (up2 I47 66 tk 0) 69 tk v175_111 69 tk = v175_111 from up2_s)]; unfold uV; first | (rw [if_pos (by rw [← hb8]; omega), ← hzv]; assumption) | (rw [if_neg (by rw [← hb8]; omega), ← hzv]))⟩ hw dX9_readNumber_183
            · have D122_108 := iNlt c122_108 rfl t_1
              refine lv_iload hx hb dX9_readNumber_125 (lv_at hl 0 rfl) ?_
              refine lv_iconst (v := 3) hx hb dX9_readNumber_127 (by decide) ?_
              refine lv_icmp_gt (tgt := 152) hx hb dX9_readNumber_128 (by decide) (fun c128_112 => ?_) (fun c128_112 => ?_)
              · have D128_112 := iLt c128_112 t_3 rfl
                refine lv_iconst (v := 0) hx hb dX9_readNumber_152 (by decide) ?_
                refine lv_istore (lv' := [(5, .int 0), (4, .int v116_107), (3, .int z), (2, .int v31_64), (1, .int 1), (0, .ref tk)]) hx hb dX9_readNumber_153 hl (by decide) rfl (fun ls hl => ?_)
                refine lv_aload_n hx hb dX9_readNumber_155 rfl (lv_at hl 5 rfl) ?_
                refine lv_iload hx hb dX9_readNumber_156 (lv_at hl 0 rfl) ?_
                refine lv_if_eq (tgt := 165) hx hb dX9_readNumber_158 (by decide) (fun c158_113 => ?_) (fun c158_113 => absurd c158_113 (by decide))
                refine lv_iconst (v := 0) hx hb dX9_readNumber_165 (by decide) ?_
                refine pf_X9_13 X hw hK.1 dX9_readNumber_166 (fun H locs hw => ?_)
                have hw : PX G A s.heap (ch S (up2 I47 66 tk 0) (pJ S) (qI S) (qJ S)) H locs := hw
                refine lv_aload_n hx hb dX9_readNumber_169 rfl (lv_at hl 5 rfl) ?_
                refine lv_iload_n hx hb dX9_readNumber_170 rfl (lv_at hl 4 rfl) ?_
                refine lv_if_eq (tgt := 179) hx hb dX9_readNumber_171 (by decide) (fun c171_114 => absurd c171_114 (by decide)) (fun c171_114 => ?_)
                refine lv_iload_n hx hb dX9_readNumber_174 rfl (lv_at hl 2 rfl) ?_
                refine lv_ineg hx hb dX9_readNumber_175 ?_
                refine lv_topi (fun v175_115 e175_115 => ?_)
                refine lv_goto (tgt := 180) hx hb dX9_readNumber_176 (by decide) ?_
                refine pf_X9_20 X hw hK.1 dX9_readNumber_180 (fun H locs hw => ?_)
                have hw : PX G A s.heap (ch S (up2 (up2 I47 66 tk 0) 69 tk v175_115) (pJ S) (qI S) (qJ S)) H locs := hw
                exact hret _ _ _ _ _ ⟨_, rfl, (FrY.up (f := 69) (by decide) (FrY.up (f := 66) (by decide) hF)), (by rw [show (up2 (up2 I47 66 tk 0) 69 tk v175_115) 68 tk = (I47 68 tk : Int32) from rfl]; exact hEX), (by rw [show (up2 (up2 I47 66 tk 0) 69 tk v175_115) 66 tk = (0 : Int32) from (show up2 I47 66 tk 0 66 tk = 0 from up2_s)]; first | (rw [if_pos ⟨⟨by omega, by omega⟩, Bool.eq_false_iff.mpr (fun q => absurd (hL.mp q) (by omega))⟩]; decide) | (rw [if_neg (fun q => absurd q.1 (by omega))]; decide) | (rw [if_neg (fun q => absurd (hL.mpr (by omega)) (nt_of q.2))]; decide)), (by rw [show (up2 (up2 I47 66 tk 0) 69 tk v175_115) 69 tk = (v175_115 : Int32) from (show up2 (up2 I47 66 tk 0) 69 tk v175_115 69 tk = v175_115 from up2_s)]; unfold uV; first | (rw [if_pos (by rw [← hb8]; omega), ← hzv]; assumption) | (rw [if_neg (by rw [← hb8]; omega), ← hzv]))⟩ hw dX9_readNumber_183
              · have D128_112 := iNlt c128_112 t_3 rfl
                refine lv_aload_n hx hb dX9_readNumber_131 rfl (lv_at hl 4 rfl) ?_
                refine gf_X9_7 (b := tp) X hw hK.1 hK.2.1 dX9_readNumber_132 ?_
                refine lv_aload_n hx hb dX9_readNumber_135 rfl (lv_at hl 4 rfl) ?_
                refine gf_X9_23 (v := I47 68 tk) X hw hK.1 rfl dX9_readNumber_136 ?_
                refine k_Vi (n := 1) X hw (rcvk (ci := 8) X hw hK.2.2.1 (fun _ _ _ _ _ _ _ => ⟨_, rfl⟩) rfl) (c_v_X8_byteAt l G _ tp tb tc tn (I47 68 tk) hK.2.2 htc (FrY.n hF hn) hz) wd_r9_15 wd_r9_16 wd_r9_17 wd_r1_14 wd_r9_18 ⟨by decide, by decide, by decide +kernel⟩ rfl rfl ⟨Nat.le_of_ble_eq_true rfl, Nat.le_of_ble_eq_true rfl⟩ rfl rfl hl.1 (Nat.le_of_ble_eq_true rfl) dX9_readNumber_139 ⟨Nat.le_of_ble_eq_true rfl, Nat.le_of_ble_eq_true rfl⟩ (fun r139_116 S139_118 H locs h139_117 hw => ?_)
                obtain ⟨rfl, h139_117⟩ := h139_117
                have hL := h139_117.l hEX htc
                refine k_Si (n := 1) X hw (c_X9_isLetter l G _ r139_116) wd_r9_22 wd_r9_23 wd_r3_2 wd_r10_0 ⟨by decide, by decide, by decide +kernel⟩ rfl rfl ⟨Nat.le_of_ble_eq_true rfl, Nat.le_of_ble_eq_true rfl⟩ rfl rfl hl.1 (Nat.le_of_ble_eq_true rfl) dX9_readNumber_142 ⟨Nat.le_of_ble_eq_true rfl, Nat.le_of_ble_eq_true rfl⟩ (fun r142_119 S142_121 H locs h142_120 hw => ?_)
                rcases h142_120 with ⟨rfl, rfl, h142_120⟩ | ⟨rfl, rfl, h142_120⟩
                · have h142_120 := h142_120
                  refine lv_if_ne (tgt := 152) hx hb dX9_readNumber_145 (by decide) (fun c145_122 => ?_) (fun c145_122 => absurd c145_122 (by decide))
                  refine lv_iconst (v := 0) hx hb dX9_readNumber_152 (by decide) ?_
                  refine lv_istore (lv' := [(5, .int 0), (4, .int v116_107), (3, .int z), (2, .int v31_64), (1, .int 1), (0, .ref tk)]) hx hb dX9_readNumber_153 hl (by decide) rfl (fun ls hl => ?_)
                  refine lv_aload_n hx hb dX9_readNumber_155 rfl (lv_at hl 5 rfl) ?_
                  refine lv_iload hx hb dX9_readNumber_156 (lv_at hl 0 rfl) ?_
                  refine lv_if_eq (tgt := 165) hx hb dX9_readNumber_158 (by decide) (fun c158_123 => ?_) (fun c158_123 => absurd c158_123 (by decide))
                  refine lv_iconst (v := 0) hx hb dX9_readNumber_165 (by decide) ?_
                  refine pf_X9_13 X hw hK.1 dX9_readNumber_166 (fun H locs hw => ?_)
                  have hw : PX G A s.heap (ch S (up2 I47 66 tk 0) (pJ S) (qI S) (qJ S)) H locs := hw
                  refine lv_aload_n hx hb dX9_readNumber_169 rfl (lv_at hl 5 rfl) ?_
                  refine lv_iload_n hx hb dX9_readNumber_170 rfl (lv_at hl 4 rfl) ?_
                  refine lv_if_eq (tgt := 179) hx hb dX9_readNumber_171 (by decide) (fun c171_124 => absurd c171_124 (by decide)) (fun c171_124 => ?_)
                  refine lv_iload_n hx hb dX9_readNumber_174 rfl (lv_at hl 2 rfl) ?_
                  refine lv_ineg hx hb dX9_readNumber_175 ?_
                  refine lv_topi (fun v175_125 e175_125 => ?_)
                  refine lv_goto (tgt := 180) hx hb dX9_readNumber_176 (by decide) ?_
                  refine pf_X9_20 X hw hK.1 dX9_readNumber_180 (fun H locs hw => ?_)
                  have hw : PX G A s.heap (ch S (up2 (up2 I47 66 tk 0) 69 tk v175_125) (pJ S) (qI S) (qJ S)) H locs := hw
                  exact hret _ _ _ _ _ ⟨_, rfl, (FrY.up (f := 69) (by decide) (FrY.up (f := 66) (by decide) hF)), (by rw [show (up2 (up2 I47 66 tk 0) 69 tk v175_125) 68 tk = (I47 68 tk : Int32) from rfl]; exact hEX), (by rw [show (up2 (up2 I47 66 tk 0) 69 tk v175_125) 66 tk = (0 : Int32) from (show up2 I47 66 tk 0 66 tk = 0 from up2_s)]; first | (rw [if_pos ⟨⟨by omega, by omega⟩, Bool.eq_false_iff.mpr (fun q => absurd (hL.mp q) (by omega))⟩]; decide) | (rw [if_neg (fun q => absurd q.1 (by omega))]; decide) | (rw [if_neg (fun q => absurd (hL.mpr (by omega)) (nt_of q.2))]; decide)), (by rw [show (up2 (up2 I47 66 tk 0) 69 tk v175_125) 69 tk = (v175_125 : Int32) from (show up2 (up2 I47 66 tk 0) 69 tk v175_125 69 tk = v175_125 from up2_s)]; unfold uV; first | (rw [if_pos (by rw [← hb8]; omega), ← hzv]; assumption) | (rw [if_neg (by rw [← hb8]; omega), ← hzv]))⟩ hw dX9_readNumber_183
                · have h142_120 := h142_120
                  refine lv_if_ne (tgt := 152) hx hb dX9_readNumber_145 (by decide) (fun c145_126 => absurd c145_126 (by decide)) (fun c145_126 => ?_)
                  refine lv_iconst (v := 1) hx hb dX9_readNumber_148 (by decide) ?_
                  refine lv_goto (tgt := 153) hx hb dX9_readNumber_149 (by decide) ?_
                  refine lv_istore (lv' := [(5, .int 1), (4, .int v116_107), (3, .int z), (2, .int v31_64), (1, .int 1), (0, .ref tk)]) hx hb dX9_readNumber_153 hl (by decide) rfl (fun ls hl => ?_)
                  refine lv_aload_n hx hb dX9_readNumber_155 rfl (lv_at hl 5 rfl) ?_
                  refine lv_iload hx hb dX9_readNumber_156 (lv_at hl 0 rfl) ?_
                  refine lv_if_eq (tgt := 165) hx hb dX9_readNumber_158 (by decide) (fun c158_127 => absurd c158_127 (by decide)) (fun c158_127 => ?_)
                  refine lv_iconst (v := 3) hx hb dX9_readNumber_161 (by decide) ?_
                  refine lv_goto (tgt := 166) hx hb dX9_readNumber_162 (by decide) ?_
                  refine pf_X9_13 X hw hK.1 dX9_readNumber_166 (fun H locs hw => ?_)
                  have hw : PX G A s.heap (ch S (up2 I47 66 tk 3) (pJ S) (qI S) (qJ S)) H locs := hw
                  refine lv_aload_n hx hb dX9_readNumber_169 rfl (lv_at hl 5 rfl) ?_
                  refine lv_iload_n hx hb dX9_readNumber_170 rfl (lv_at hl 4 rfl) ?_
                  refine lv_if_eq (tgt := 179) hx hb dX9_readNumber_171 (by decide) (fun c171_128 => absurd c171_128 (by decide)) (fun c171_128 => ?_)
                  refine lv_iload_n hx hb dX9_readNumber_174 rfl (lv_at hl 2 rfl) ?_
                  refine lv_ineg hx hb dX9_readNumber_175 ?_
                  refine lv_topi (fun v175_129 e175_129 => ?_)
                  refine lv_goto (tgt := 180) hx hb dX9_readNumber_176 (by decide) ?_
                  refine pf_X9_20 X hw hK.1 dX9_readNumber_180 (fun H locs hw => ?_)
                  have hw : PX G A s.heap (ch S (up2 (up2 I47 66 tk 3) 69 tk v175_129) (pJ S) (qI S) (qJ S)) H locs := hw
                  exact hret _ _ _ _ _ ⟨_, rfl, (FrY.up (f := 69) (by decide) (FrY.up (f := 66) (by decide) hF)), (by rw [show (up2 (up2 I47 66 tk 3) 69 tk v175_129) 68 tk = (I47 68 tk : Int32) from rfl]; exact hEX), (by rw [show (up2 (up2 I47 66 tk 3) 69 tk v175_129) 66 tk = (3 : Int32) from (show up2 I47 66 tk 3 66 tk = 3 from up2_s)]; first | (rw [if_pos ⟨⟨by omega, by omega⟩, Bool.eq_false_iff.mpr (fun q => absurd (hL.mp q) (by omega))⟩]; decide) | (rw [if_neg (fun q => absurd q.1 (by omega))]; decide) | (rw [if_neg (fun q => absurd (hL.mpr (by omega)) (nt_of q.2))]; decide)), (by rw [show (up2 (up2 I47 66 tk 3) 69 tk v175_129) 69 tk = (v175_129 : Int32) from (show up2 (up2 I47 66 tk 3) 69 tk v175_129 69 tk = v175_129 from up2_s)]; unfold uV; first | (rw [if_pos (by rw [← hb8]; omega), ← hzv]; assumption) | (rw [if_neg (by rw [← hb8]; omega), ← hzv]))⟩ hw dX9_readNumber_183
    exact lp47 _ (up2 (pI S) 68 tk v31_64) 0 (FrY.up (f := 68) (by decide) FrY.rf) (by rw [show (up2 (pI S) 68 tk v31_64) 68 tk = (v31_64 : Int32) from (show up2 (pI S) 68 tk v31_64 68 tk = v31_64 from up2_s)]; omega) (by rw [show (up2 (pI S) 68 tk v31_64) 68 tk = (v31_64 : Int32) from (show up2 (pI S) 68 tk v31_64 68 tk = v31_64 from up2_s)]; omega) (by rw [show (up2 (pI S) 68 tk v31_64) 68 tk = (v31_64 : Int32) from (show up2 (pI S) 68 tk v31_64 68 tk = v31_64 from up2_s), (show v31_64.toNatClampNeg = (tF tc (pI S 68 tk).toNatClampNeg) from by have := cl_toInt (x := v31_64) (by omega); omega)]) (by rw [show (up2 (pI S) 68 tk v31_64) 68 tk = (v31_64 : Int32) from (show up2 (pI S) 68 tk v31_64 68 tk = v31_64 from up2_s), (show v31_64.toNatClampNeg = (tF tc (pI S 68 tk).toNatClampNeg) from by have := cl_toInt (x := v31_64) (by omega); omega), Nat.sub_self]; rfl) (Nat.lt_succ_self _) _ _ _ hw (lv_sub hl [0, 1, 2, 3] rfl)
