/-! ===== the pool: addresses, kinds, int, long and reference fields by number and address, array lengths, int, long and reference rows by address ===== -/
abbrev Pl : Type := List Nat × (Nat → Nat) × (Nat → Nat → Int32) × (Nat → Nat → Int64) × (Nat → Nat → Option Nat) × (Nat → Nat) × (Nat → Nat → Int32) × (Nat → Nat → Int64) × (Nat → Nat → Option Nat)
abbrev pL (S : Pl) : List Nat := S.1
abbrev pK (S : Pl) : Nat → Nat := S.2.1
abbrev pI (S : Pl) : Nat → Nat → Int32 := S.2.2.1
abbrev pJ (S : Pl) : Nat → Nat → Int64 := S.2.2.2.1
abbrev pR (S : Pl) : Nat → Nat → Option Nat := S.2.2.2.2.1
abbrev pN (S : Pl) : Nat → Nat := S.2.2.2.2.2.1
abbrev qI (S : Pl) : Nat → Nat → Int32 := S.2.2.2.2.2.2.1
abbrev qJ (S : Pl) : Nat → Nat → Int64 := S.2.2.2.2.2.2.2.1
abbrev qR (S : Pl) : Nat → Nat → Option Nat := S.2.2.2.2.2.2.2.2
def up2 {α : Type} (F : Nat → Nat → α) (f a : Nat) (v : α) : Nat → Nat → α := fun g => if g = f then va_up (F g) a v else F g
theorem up2_s {α : Type} {F : Nat → Nat → α} {f a : Nat} {v : α} : up2 F f a v f a = v := by simp [up2, va_up]
theorem up2_n {α : Type} {F : Nat → Nat → α} {f a g b : Nat} {v : α} (h : b ≠ a) : up2 F f a v g b = F g b := by unfold up2; split <;> simp [va_up, h]
theorem up2_f {α : Type} {F : Nat → Nat → α} {f a g : Nat} {v : α} (h : g ≠ f) : up2 F f a v g = F g := by simp [up2, h]
theorem vu_s {α : Type} {F : Nat → α} {a : Nat} {v : α} : va_up F a v a = v := by simp [va_up]
theorem vu_n {α : Type} {F : Nat → α} {a b : Nat} {v : α} (h : b ≠ a) : va_up F a v b = F b := by simp [va_up, h]
abbrev sI (S : Pl) (f a : Nat) (v : Int32) : Pl := (pL S, pK S, up2 (pI S) f a v, pJ S, pR S, pN S, qI S, qJ S, qR S)
abbrev sJ (S : Pl) (f a : Nat) (v : Int64) : Pl := (pL S, pK S, pI S, up2 (pJ S) f a v, pR S, pN S, qI S, qJ S, qR S)
abbrev sR (S : Pl) (f a : Nat) (v : Option Nat) : Pl := (pL S, pK S, pI S, pJ S, up2 (pR S) f a v, pN S, qI S, qJ S, qR S)
abbrev tI (S : Pl) (a : Nat) (r : Nat → Int32) : Pl := (pL S, pK S, pI S, pJ S, pR S, pN S, va_up (qI S) a r, qJ S, qR S)
abbrev tJ (S : Pl) (a : Nat) (r : Nat → Int64) : Pl := (pL S, pK S, pI S, pJ S, pR S, pN S, qI S, va_up (qJ S) a r, qR S)
abbrev tR (S : Pl) (a : Nat) (r : Nat → Option Nat) : Pl := (pL S, pK S, pI S, pJ S, pR S, pN S, qI S, qJ S, va_up (qR S) a r)
abbrev nO (S : Pl) (a k : Nat) : Pl := (pL S ++ [a], va_up (pK S) a k, fun f => va_up (pI S f) a 0, fun f => va_up (pJ S f) a 0, fun f => va_up (pR S f) a none, pN S, qI S, qJ S, qR S)
abbrev nA (S : Pl) (a k n : Nat) : Pl := (pL S ++ [a], va_up (pK S) a k, pI S, pJ S, pR S, va_up (pN S) a n, va_up (qI S) a (fun _ => 0), va_up (qJ S) a (fun _ => 0), va_up (qR S) a (fun _ => none))
/-- the cell a is there and of kind k -/
def is (S : Pl) (k a : Nat) : Prop := a ∈ pL S ∧ pK S a = k
/-- ghosts: class numbers, array classes, String constants and their rows, static arrays -/
abbrev Gh : Type := va_G × (Nat → ClassId) × (Nat → Nat) × (Nat → Nat) × (Nat → Nat)
abbrev tyG (G : Gh) : List (ClassId × FieldType) := [(G.2.1 0, .byte), (G.2.1 1, .int), (G.2.1 2, .long), (G.2.1 3, .short), (G.2.1 4, .boolean), (G.2.1 5, .object "DriftDesk$Flow"), (G.2.1 6, .object "java/lang/Object")]
/-- a cell by its kind, out of the fields and rows at its address -/
def pE (G : Gh) (i : Nat → Int32) (j : Nat → Int64) (r : Nat → Option Nat) (n : Nat) (x : Nat → Int32) (y : Nat → Int64) (z : Nat → Option Nat) : Nat → va_E
  | 0 => .inr (1, [.int (i 0), .int (i 1), .int (i 2), .int (i 3), .int (i 4), .int (i 5)])
  | 1 => .inr (2, [va_rf (r 6), va_rf (r 7), va_rf (r 8)])
  | 2 => .inr (3, [va_rf (r 10), va_rf (r 11), va_rf (r 12), va_rf (r 13), va_rf (r 14), .int (i 15)])
  | 3 => .inr (4, [va_rf (r 20), va_rf (r 21), .int (i 22), .int (i 23)])
  | 4 => .inr (5, [.int (i 0), .int (i 31), .int (i 32), .int (i 33), .int (i 34), .int (i 35), .int (i 36), .int (i 37)])
  | 5 => .inr (6, [va_rf (r 40), va_rf (r 41), va_rf (r 42), va_rf (r 43), va_rf (r 44), .int (i 45), .int (i 46), .int (i 47)])
  | 6 => .inr (7, [.int (i 50), .int (i 51), .int (i 52), .int (i 53), .int (i 54), va_rf (r 55)])
  | 7 => .inr (8, [va_rf (r 60), .int (i 61)])
  | 8 => .inr (9, [va_rf (r 65), .int (i 66), .int (i 67), .int (i 68), .int (i 69)])
  | 9 => .inr (10, [va_rf (r 70), va_rf (r 71), va_rf (r 72), va_rf (r 73), va_rf (r 74), va_rf (r 75), va_rf (r 76), va_rf (r 77), .int (i 78)])
  | 10 => .inr (11, [va_rf (r 100), va_rf (r 101), .int (i 102), .int (i 103), .int (i 104), .int (i 105), .int (i 106), .int (i 107), .int (i 108), .int (i 109), .long (j 110), va_rf (r 111), va_rf (r 112), va_rf (r 113), va_rf (r 114), va_rf (r 115), va_rf (r 116), va_rf (r 117), va_rf (r 118), va_rf (r 119), .int (i 120), .int (i 121), .int (i 122), va_rf (r 123), va_rf (r 124), va_rf (r 125), va_rf (r 126), va_rf (r 127), .int (i 128), .int (i 129), .int (i 130), .int (i 131), va_rf (r 132), va_rf (r 133), va_rf (r 134), va_rf (r 135), va_rf (r 136), va_rf (r 137), va_rf (r 138), va_rf (r 139), .int (i 140), va_rf (r 141), .long (j 142), va_rf (r 143), va_rf (r 144)])
  | 11 => .inr (0, [.int (i 90), va_rf (r 91), .int (i 92)])
  | 12 => .inl (G.2.1 0, n, .inl x)
  | 13 => .inl (G.2.1 1, n, .inl x)
  | 14 => .inl (G.2.1 2, n, .inr (.inl y))
  | 15 => .inl (G.2.1 3, n, .inl x)
  | 16 => .inl (G.2.1 4, n, .inl x)
  | 17 => .inl (G.2.1 5, n, .inr (.inr (.inr (.inr z))))
  | _ => .inl (G.2.1 6, n, .inr (.inr (.inr (.inr z))))
def pF (G : Gh) (S : Pl) (a : Nat) : va_E := pE G (fun f => pI S f a) (fun f => pJ S f a) (fun f => pR S f a) (pN S a) (qI S a) (qJ S a) (qR S a) (pK S a)
theorem pF_k {G : Gh} {S : Pl} {a k : Nat} (h : pK S a = k) : pF G S a = pE G (fun f => pI S f a) (fun f => pJ S f a) (fun f => pR S f a) (pN S a) (qI S a) (qJ S a) (qR S a) k := by unfold pF; rw [h]
abbrev pw (G : Gh) (S : Pl) : va_W := va_pl (pL S) (pF G S)
theorem pF_sI {G : Gh} {S : Pl} {f a k : Nat} {v : Int32} {E : va_E} (h : pK S a = k) (he : pE G (va_up (fun f => pI S f a) f v) (fun f => pJ S f a) (fun f => pR S f a) (pN S a) (qI S a) (qJ S a) (qR S a) k = E) (b : Nat) : va_up (pF G S) a E b = pF G (sI S f a v) b := by
  by_cases hb : b = a
  · subst hb
    rw [vu_s, ← he, ← h]
    have e : (fun g => up2 (pI S) f b v g b) = va_up (fun f => pI S f b) f v := by funext g; unfold up2 va_up; by_cases hg : g = f <;> simp [hg]
    show _ = pE G (fun g => up2 (pI S) f b v g b) _ _ _ _ _ _ _
    rw [e]
  · rw [vu_n hb]
    have e : (fun g => up2 (pI S) f a v g b) = fun g => pI S g b := by funext g; exact up2_n hb
    show _ = pE G (fun g => up2 (pI S) f a v g b) _ _ _ _ _ _ _
    rw [e]; rfl
theorem pF_sJ {G : Gh} {S : Pl} {f a k : Nat} {v : Int64} {E : va_E} (h : pK S a = k) (he : pE G (fun f => pI S f a) (va_up (fun f => pJ S f a) f v) (fun f => pR S f a) (pN S a) (qI S a) (qJ S a) (qR S a) k = E) (b : Nat) : va_up (pF G S) a E b = pF G (sJ S f a v) b := by
  by_cases hb : b = a
  · subst hb
    rw [vu_s, ← he, ← h]
    have e : (fun g => up2 (pJ S) f b v g b) = va_up (fun f => pJ S f b) f v := by funext g; unfold up2 va_up; by_cases hg : g = f <;> simp [hg]
    show _ = pE G _ (fun g => up2 (pJ S) f b v g b) _ _ _ _ _ _
    rw [e]
  · rw [vu_n hb]
    have e : (fun g => up2 (pJ S) f a v g b) = fun g => pJ S g b := by funext g; exact up2_n hb
    show _ = pE G _ (fun g => up2 (pJ S) f a v g b) _ _ _ _ _ _
    rw [e]; rfl
theorem pF_sR {G : Gh} {S : Pl} {f a k : Nat} {v : Option Nat} {E : va_E} (h : pK S a = k) (he : pE G (fun f => pI S f a) (fun f => pJ S f a) (va_up (fun f => pR S f a) f v) (pN S a) (qI S a) (qJ S a) (qR S a) k = E) (b : Nat) : va_up (pF G S) a E b = pF G (sR S f a v) b := by
  by_cases hb : b = a
  · subst hb
    rw [vu_s, ← he, ← h]
    have e : (fun g => up2 (pR S) f b v g b) = va_up (fun f => pR S f b) f v := by funext g; unfold up2 va_up; by_cases hg : g = f <;> simp [hg]
    show _ = pE G _ _ (fun g => up2 (pR S) f b v g b) _ _ _ _ _
    rw [e]
  · rw [vu_n hb]
    have e : (fun g => up2 (pR S) f a v g b) = fun g => pR S g b := by funext g; exact up2_n hb
    show _ = pE G _ _ (fun g => up2 (pR S) f a v g b) _ _ _ _ _
    rw [e]; rfl
theorem pF_tI {G : Gh} {S : Pl} {a k : Nat} {v : Nat → Int32} {E : va_E} (h : pK S a = k) (he : pE G (fun f => pI S f a) (fun f => pJ S f a) (fun f => pR S f a) (pN S a) v (qJ S a) (qR S a) k = E) (b : Nat) : va_up (pF G S) a E b = pF G (tI S a v) b := by
  by_cases hb : b = a
  · subst hb
    rw [vu_s, ← he, ← h]
    show _ = pE G _ _ _ _ (va_up (qI S) b v b) _ _ _
    rw [vu_s]
  · rw [vu_n hb]
    show _ = pE G _ _ _ _ (va_up (qI S) a v b) _ _ _
    rw [vu_n hb]; rfl
theorem pF_tJ {G : Gh} {S : Pl} {a k : Nat} {v : Nat → Int64} {E : va_E} (h : pK S a = k) (he : pE G (fun f => pI S f a) (fun f => pJ S f a) (fun f => pR S f a) (pN S a) (qI S a) v (qR S a) k = E) (b : Nat) : va_up (pF G S) a E b = pF G (tJ S a v) b := by
  by_cases hb : b = a
  · subst hb
    rw [vu_s, ← he, ← h]
    show _ = pE G _ _ _ _ _ (va_up (qJ S) b v b) _ _
    rw [vu_s]
  · rw [vu_n hb]
    show _ = pE G _ _ _ _ _ (va_up (qJ S) a v b) _ _
    rw [vu_n hb]; rfl
theorem pF_tR {G : Gh} {S : Pl} {a k : Nat} {v : Nat → Option Nat} {E : va_E} (h : pK S a = k) (he : pE G (fun f => pI S f a) (fun f => pJ S f a) (fun f => pR S f a) (pN S a) (qI S a) (qJ S a) v k = E) (b : Nat) : va_up (pF G S) a E b = pF G (tR S a v) b := by
  by_cases hb : b = a
  · subst hb
    rw [vu_s, ← he, ← h]
    show _ = pE G _ _ _ _ _ _ (va_up (qR S) b v b) _
    rw [vu_s]
  · rw [vu_n hb]
    show _ = pE G _ _ _ _ _ _ (va_up (qR S) a v b) _
    rw [vu_n hb]; rfl
theorem pF_nO {G : Gh} {S : Pl} {a k : Nat} {E : va_E} (he : pE G (fun _ => 0) (fun _ => 0) (fun _ => none) (pN S a) (qI S a) (qJ S a) (qR S a) k = E) (b : Nat) : va_up (pF G S) a E b = pF G (nO S a k) b := by
  by_cases hb : b = a
  · subst hb
    rw [vu_s, ← he]
    show _ = pE G (fun f => va_up (pI S f) b 0 b) (fun f => va_up (pJ S f) b 0 b) (fun f => va_up (pR S f) b none b) _ _ _ _ (va_up (pK S) b k b)
    simp only [vu_s]
  · rw [vu_n hb]
    show _ = pE G (fun f => va_up (pI S f) a 0 b) (fun f => va_up (pJ S f) a 0 b) (fun f => va_up (pR S f) a none b) _ _ _ _ (va_up (pK S) a k b)
    simp only [vu_n hb]; rfl
theorem pF_nA {G : Gh} {S : Pl} {a k n : Nat} {E : va_E} (he : pE G (fun f => pI S f a) (fun f => pJ S f a) (fun f => pR S f a) n (fun _ => 0) (fun _ => 0) (fun _ => none) k = E) (b : Nat) : va_up (pF G S) a E b = pF G (nA S a k n) b := by
  by_cases hb : b = a
  · subst hb
    rw [vu_s, ← he]
    show _ = pE G _ _ _ (va_up (pN S) b n b) (va_up (qI S) b (fun _ => 0) b) (va_up (qJ S) b (fun _ => 0) b) (va_up (qR S) b (fun _ => none) b) (va_up (pK S) b k b)
    simp only [vu_s]
  · rw [vu_n hb]
    show _ = pE G _ _ _ (va_up (pN S) a n b) (va_up (qI S) a (fun _ => 0) b) (va_up (qJ S) a (fun _ => 0) b) (va_up (qR S) a (fun _ => none) b) (va_up (pK S) a k b)
    simp only [vu_n hb]; rfl
