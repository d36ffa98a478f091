
/-! ===== lines, purely: what a sea tells is (its lines, its rows) ===== -/
abbrev SV : Type := Int × (Nat → Nat → Int32)
def sv0 : SV := (0, fun j _ => c0 j)
/-- the place where the i-th token behind p begins to be sought -/
def pz (c : Nat → Int32) (n p : Nat) : Nat → Nat
  | 0 => p
  | i + 1 => tE c n (pz c n p i)
theorem pz_le {c : Nat → Int32} {n p : Nat} (h : p ≤ n) : ∀ i, pz c n p i ≤ n
  | 0 => h
  | i + 1 => (tE_le (pz_le h i)).2
def nv (c : Nat → Int32) (n p i : Nat) : Int32 := tV c n (pz c n p i)
def okN (c : Nat → Int32) (n p s i : Nat) : Prop := tK c n (pz c n p i) = 3 ∧ (skLEAST.getD (4 * s + i) 0).toInt ≤ (nv c n p i).toInt ∧ (nv c n p i).toInt ≤ (skMOST.getD (4 * s + i) 0).toInt
def told (C : Nat → Nat → Int32) (s a b : Nat) : Prop := match s with
  | 0 => ¬ C 13 a = 0
  | 1 => ¬ C (10 + 4 * (a + 1) + 3) b = 0
  | 2 => ¬ C 2 a = -1
  | 3 => ¬ C 3 (8 * b + a) = 0
  | _ => ¬ C 4 (21 * a + b) = -1
def tellC (C : Nat → Nat → Int32) (s a b : Nat) (v : Nat → Int32) : Nat → Nat → Int32 := match s with
  | 0 => up2 (up2 (up2 C 13 a 1) 11 a (v 1)) 12 a (v 2)
  | 1 => up2 (up2 (up2 C (10 + 4 * (a + 1) + 3) b 1) (10 + 4 * (a + 1) + 1) b (v 2)) (10 + 4 * (a + 1) + 2) b (v 3)
  | 2 => up2 C 2 a (v 1)
  | 3 => up2 C 3 (8 * b + a) 1
  | _ => up2 C 4 (21 * a + b) (v 2)
def numS (s : Nat) : Nat := (skNUMBERS.getD s 0).toNatClampNeg
def telS (s : Nat) : Nat := (skTELLING.getD s 0).toNatClampNeg
def rgN (s : Nat) (n0 n1 : Int32) : Prop := (s = 0 → 0 ≤ n0.toInt ∧ n0.toInt < 72) ∧ (s = 1 → (0 ≤ n0.toInt ∧ n0.toInt < 4) ∧ 0 ≤ n1.toInt ∧ n1.toInt < 72) ∧ (s = 2 → 0 ≤ n0.toInt ∧ n0.toInt < 4) ∧ (s = 3 → (0 ≤ n0.toInt ∧ n0.toInt < 8) ∧ 0 ≤ n1.toInt ∧ n1.toInt < 8) ∧ (s = 4 → (0 ≤ n0.toInt ∧ n0.toInt < 2) ∧ 1 ≤ n1.toInt ∧ n1.toInt ≤ 20)
/-- the line at p, of sort s, is right -/
def LnS (c : Nat → Int32) (n : Nat) (V : SV) (p s : Nat) : Prop := tK c n p = 2 ∧ spl c (tS c n p) (tE c n p) s ∧ V.1 < 60 ∧ (∀ i, i < numS s → okN c n (tE c n p) s i) ∧ ¬ told V.2 s (nv c n (tE c n p) 0).toNatClampNeg (nv c n (tE c n p) 1).toNatClampNeg ∧ (s = 4 → fits (V.2 4) (nv c n (tE c n p) 0).toNatClampNeg (nv c n (tE c n p) 1).toNatClampNeg (nv c n (tE c n p) 2).toInt) ∧ tK c n (pz c n (tE c n p) (numS s)) = 4
def LnV (c : Nat → Int32) (n : Nat) (V : SV) (p s : Nat) : SV := (V.1 + 1, tellC V.2 s (nv c n (tE c n p) 0).toNatClampNeg (nv c n (tE c n p) 1).toNatClampNeg (nv c n (tE c n p)))
def LnP (c : Nat → Int32) (n p s : Nat) : Nat := tE c n (pz c n (tE c n p) (numS s))
/-- a text from p on, of at most f lines, told upon V, ends with what it tells, or with none -/
def Pars (c : Nat → Int32) (n : Nat) : Nat → SV → Nat → Option SV → Prop
  | 0, _, _, o => o = none
  | f + 1, V, p, o => (tK c n p = 1 ∧ o = some V) ∨ (tK c n p ≠ 1 ∧ (∃ s, s < 5 ∧ LnS c n V p s ∧ Pars c n f (LnV c n V p s) (LnP c n p s) o)) ∨ (tK c n p ≠ 1 ∧ (∀ s, s < 5 → ¬ LnS c n V p s) ∧ o = none)
theorem Pars_u {c : Nat → Int32} {n : Nat} : ∀ {f : Nat} {V : SV} {p : Nat} {o o' : Option SV}, Pars c n f V p o → Pars c n f V p o' → o = o'
  | 0, _, _, _, _, h, g => h.trans g.symm
  | f + 1, V, p, o, o', h, g => by
    rcases h with ⟨h1, h2⟩ | ⟨h1, s, hs, h2, h3⟩ | ⟨h1, h2, h3⟩ <;> rcases g with ⟨g1, g2⟩ | ⟨g1, t, ht, g2, g3⟩ | ⟨g1, g2, g3⟩
    · rw [h2, g2]
    · exact absurd h1 g1
    · exact absurd h1 g1
    · exact absurd g1 h1
    · have e := spl_u hs ht h2.2.1 g2.2.1
      subst e; exact Pars_u h3 g3
    · exact absurd h2 (g2 s hs)
    · exact absurd g1 h1
    · exact absurd g2 (h2 t ht)
    · rw [h3, g3]

