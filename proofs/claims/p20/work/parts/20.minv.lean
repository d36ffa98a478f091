/-! the model's invariant -/
def cntB (r : Nat → Int32) : Nat → Nat | 0 => 0 | n + 1 => cntB r n + if r n = 0 then 1 else 0
def mB (I : Nat → Nat → Int32) (m0 : Nat) : Prop := (0 ≤ (I 102 m0).toInt ∧ (I 102 m0).toInt ≤ 1000) ∧ eM I m0 ∧ (0 ≤ (I 120 m0).toInt ∧ (I 120 m0).toInt ≤ 1) ∧ (0 ≤ (I 121 m0).toInt ∧ (I 121 m0).toInt ≤ 1) ∧ (0 ≤ (I 128 m0).toInt ∧ (I 128 m0).toInt ≤ 40) ∧ (0 ≤ (I 140 m0).toInt ∧ (I 140 m0).toInt ≤ 60)
def mT (I q : Nat → Nat → Int32) (ma : Nat → Nat) : Prop := ∀ k : Nat, (k : Int) < (I 128 (ma 0)).toInt → (0 ≤ (q (ma 24) k).toInt ∧ (q (ma 24) k).toInt < 4) ∧ (0 ≤ (q (ma 25) k).toInt ∧ (q (ma 25) k).toInt < 80) ∧ (0 ≤ (q (ma 26) k).toInt ∧ (q (ma 26) k).toInt < 80) ∧ (0 ≤ (q (ma 27) k).toInt ∧ (q (ma 27) k).toInt < 72) ∧ (1 ≤ (q (ma 28) k).toInt ∧ (q (ma 28) k).toInt ≤ 1000)
def mP (I q : Nat → Nat → Int32) (ma : Nat → Nat) : Prop := ∀ k : Nat, (k : Int) < (I 140 (ma 0)).toInt → (0 ≤ (q (ma 33) k).toInt ∧ (q (ma 33) k).toInt ≤ 72) ∧ (0 ≤ (q (ma 38) k).toInt ∧ (q (ma 38) k).toInt ≤ 2) ∧ ((q (ma 38) k).toInt ≤ 1 → 0 ≤ (q (ma 39) k).toInt ∧ (q (ma 39) k).toInt ≤ 20) ∧ (0 ≤ (q (ma 39) k).toInt ∧ (q (ma 39) k).toInt ≤ 100)
def mC (I q : Nat → Nat → Int32) (ma : Nat → Nat) : Prop := cntB (q (ma 40)) (I 140 (ma 0)).toInt.toNat ≤ 6 ∧ MsOK (q (ma 18))
def mInv (I q : Nat → Nat → Int32) (ma : Nat → Nat) : Prop := mB I (ma 0) ∧ mT I q ma ∧ mP I q ma ∧ mC I q ma
theorem mT_at {I q : Nat → Nat → Int32} {ma : Nat → Nat} {x : Int32} (h : mT I q ma) (h0 : 0 ≤ x.toInt) (h1 : x.toInt < (I 128 (ma 0)).toInt) : (0 ≤ (q (ma 24) x.toNatClampNeg).toInt ∧ (q (ma 24) x.toNatClampNeg).toInt < 4) ∧ (0 ≤ (q (ma 25) x.toNatClampNeg).toInt ∧ (q (ma 25) x.toNatClampNeg).toInt < 80) ∧ (0 ≤ (q (ma 26) x.toNatClampNeg).toInt ∧ (q (ma 26) x.toNatClampNeg).toInt < 80) ∧ (0 ≤ (q (ma 27) x.toNatClampNeg).toInt ∧ (q (ma 27) x.toNatClampNeg).toInt < 72) ∧ (1 ≤ (q (ma 28) x.toNatClampNeg).toInt ∧ (q (ma 28) x.toNatClampNeg).toInt ≤ 1000) := h _ (by rw [cl_toInt h0]; exact h1)
theorem mP_at {I q : Nat → Nat → Int32} {ma : Nat → Nat} {x : Int32} (h : mP I q ma) (h0 : 0 ≤ x.toInt) (h1 : x.toInt < (I 140 (ma 0)).toInt) : (0 ≤ (q (ma 33) x.toNatClampNeg).toInt ∧ (q (ma 33) x.toNatClampNeg).toInt ≤ 72) ∧ (0 ≤ (q (ma 38) x.toNatClampNeg).toInt ∧ (q (ma 38) x.toNatClampNeg).toInt ≤ 2) ∧ ((q (ma 38) x.toNatClampNeg).toInt ≤ 1 → 0 ≤ (q (ma 39) x.toNatClampNeg).toInt ∧ (q (ma 39) x.toNatClampNeg).toInt ≤ 20) ∧ (0 ≤ (q (ma 39) x.toNatClampNeg).toInt ∧ (q (ma 39) x.toNatClampNeg).toInt ≤ 100) := h _ (by rw [cl_toInt h0]; exact h1)
/-- fields that the invariant doesn't read -/
theorem mInv.fr {I I' q : Nat → Nat → Int32} {ma : Nat → Nat} (h : mInv I q ma) (h1 : I' 102 = I 102) (h2 : I' 103 = I 103) (h3 : I' 107 = I 107) (h4 : I' 120 = I 120) (h5 : I' 121 = I 121) (h6 : I' 128 = I 128) (h7 : I' 140 = I 140) : mInv I' q ma := by
  unfold mInv mB eM mT mP mC at *
  rw [h1, h2, h3, h4, h5, h6, h7]
  exact h
theorem mInv.d {I I' q : Nat → Nat → Int32} {ma : Nat → Nat} (h : mInv I q ma) (hd : FrD I I') : mInv I' q ma := h.fr (hd _ (by decide)) (hd _ (by decide)) (hd _ (by decide)) (hd _ (by decide)) (hd _ (by decide)) (hd _ (by decide)) (hd _ (by decide))
theorem iDiv10 {v x : Int32} (e : v = x / 10) (h : 0 ≤ x.toInt) : v.toInt = x.toInt / 10 := by
  rw [e, Int32.toInt_div, show (10 : Int32).toInt = 10 by decide, Int.tdiv_eq_ediv_of_nonneg h]
  have h2 := iRng x
  exact bm32 (by omega) (by omega)
theorem FrD.at {I I' : Nat → Nat → Int32} (h : FrD I I') {f : Nat} (hf : f ∉ FrDL) (a : Nat) : (I' f a).toInt = (I f a).toInt := by rw [h f hf]
/-- the model's miss, by the row, the bank and the sort -/
def mOr (r : Nat → Int32) (b s : Int32) : Nat → Int32 | 0 => 100 | n + 1 => if r (42 * b + 21 * s + nI (n + 1)).toNatClampNeg = -100 then mOr r b s n else r (42 * b + 21 * s + nI (n + 1)).toNatClampNeg
theorem nI_cl {x : Int32} (h : 0 ≤ x.toInt) : nI x.toNatClampNeg = x := by
  apply Int32.toInt_inj.mp
  have h1 := cl_toInt h
  have h2 := iRng x
  rw [nI_toInt (by omega), h1]
theorem mOr_0 {r : Nat → Int32} {b s x : Int32} (h : x.toInt = 0) : mOr r b s x.toNatClampNeg = 100 := by
  have h1 := cl_toInt (x := x) (by omega)
  rw [show x.toNatClampNeg = 0 by omega]; rfl
theorem mOr_y {r : Nat → Int32} {b s x v : Int32} (h : 0 < x.toInt) (e : v = r (42 * b + 21 * s + x).toNatClampNeg) (hv : ¬ v = -100) : mOr r b s x.toNatClampNeg = v := by
  have h1 := cl_toInt (x := x) (by omega)
  obtain ⟨n, hn⟩ : ∃ n, x.toNatClampNeg = n + 1 := ⟨x.toNatClampNeg - 1, by omega⟩
  have h2 := nI_cl (x := x) (by omega)
  rw [hn] at h2
  rw [hn, mOr, h2, ← e, if_neg hv]
theorem mOr_n {r : Nat → Int32} {b s x y v : Int32} (h : 0 < x.toInt) (e : v = r (42 * b + 21 * s + x).toNatClampNeg) (hv : v = -100) (hy : y.toInt = x.toInt + -1) : mOr r b s x.toNatClampNeg = mOr r b s y.toNatClampNeg := by
  have h1 := cl_toInt (x := x) (by omega)
  have h3 := cl_toInt (x := y) (by omega)
  obtain ⟨n, hn⟩ : ∃ n, x.toNatClampNeg = n + 1 := ⟨x.toNatClampNeg - 1, by omega⟩
  have h2 := nI_cl (x := x) (by omega)
  rw [hn] at h2
  rw [hn, mOr, h2, ← e, if_pos hv, show y.toNatClampNeg = n by omega]
/-! a return whose value the machine narrows -/
theorem W.nret {p : Program} {l : Launch} {e : Env} {R : Room} {s : State} {m : MethodId} {args : Array Value} {below : List Frame} {meth : Method} {c : Code} {H : Heap} {locs : List Loc} {cells slots : Nat} {cc : ByteArray} {Qc : Array Value → State → Outcome → State → Prop} {free : Addr → Prop} {v v' : Int32} {ty : FieldType} (hexec : p.tables.exec = Jvm.exec) (hb : c.code = cc) (hr : meth.sig.returnType = some ty) (hn : narrow ty (.int v) = .int v')
    (hq : ∀ t : State, t.heap = H → s.WarmedH t.vm → Qc args s (.returned (some (.int v'))) t) (hf : ∀ q ∈ locs, free q.base)
    {pc : Nat} {ls : Array Slot} (hdg : decode cc pc = .ok (.ireturn, 1)) (hlocks : meth.locks = false) : W p l e R s m args below meth c H locs cells slots (MQ below Qc args s cells slots free) (F0 m pc ls [.int v]) := by
  intro T hT X
  obtain ⟨fs, hret, hrun, hended, hW, hframe⟩ := X.leave (v := some (.int v')) (fun h => by rw [hr] at h; cases h)
  have hmeth' : T.vm.method? m = some meth := X.method'
  refine ⟨T.setFrames fs, ?_, .returned (some (.int v')), hrun, hended, hq _ hT hW, locs, ⟨⟨_, rfl⟩, hW, hframe⟩, hf⟩
  jvm_step X.here [X.here.top, hexec, hb, hdg, hmeth', hr, hn]
  (try refine ⟨rfl, ?_⟩); (try refine ⟨rfl, ?_⟩)
  first | (intro acts; rw [hret _ acts rfl rfl rfl]) | rw [hret _ _ rfl rfl rfl]
  exact Steps.refl _
theorem MtI.ofN {l : Launch} {y : MethodName} {bytes : ByteArray} {nL mc ms : Nat} {rty : FieldType} {rm : Room} {G : Gh} {av : List Value} {S : Pl} {post : Int32 → Pl → Prop} (hy : plainName y.cls = true) (hav : (lg_sl av).length ≤ nL)
    (body : ∀ (p : Program) (e : Env) (s : State) (m : MethodId) (args : Array Value) (below : List Frame) (meth : Method) (c : Code) (Q : State → Prop) (A : Nat → Prop), Cx p s m args meth c bytes nL (some rty) y.cls G A → PX G A s.heap S s.heap [] → (meth.name = y.name) → (∀ (v v' : Int32) (S' : Pl) (H : Heap) (locs : List Loc) (pc : Nat) (ls : Array Slot), post v' S' → PX G A s.heap S' H locs → narrow rty (.int v) = .int v' → decode bytes pc = .ok (.ireturn, 1) → W p l e rm s m args below meth c H locs mc ms Q (F0 m pc ls [.int v])) → ∀ ls : Array Slot, lv_has ls nL (lv_args 0 av) → W p l e rm s m args below meth c s.heap [] 0 0 Q (F0 m 0 ls [])) : MtI l y bytes nL (some rty) rm G av S post mc ms := by
  intro sz
  refine Met.ofW (cc := bytes) (maxL := nL) hy rfl ?_
  intro p e s m args below meth c s₁ B hml hv
  obtain ⟨rfl, hsz, hP, hK, hD0, hE⟩ := hv
  subst hsz
  have hts := atoms_spec (ws := .code y bytes nL _ :: wsL_law) B.pre
  have hin : meth.name = y.name := (name_of_methodNamed B.named B.method).1
  have hD := hD0.self (sz := s.heap.size)
  rw [lg_entry_eq]
  refine body p e s m av.toArray below meth c _ (va_A (pw G S) s.heap.size) ⟨⟨B.exec, B.bytes, hml, findClass_of_methodNamed B.named, fun w h => hts w (List.mem_cons_of_mem _ h)⟩, B.returns, B.notSynchronized, hK, hE, fun q h => Or.inr h, Or.inr trivial⟩ ⟨hP, hD, va_S.rf⟩ hin ?_ _ (lv_entry av hav)
  intro v v' S' H locs pc ls hpost hw hn hdg
  exact W.nret B.exec B.bytes B.returns hn (fun t ht hW => ⟨⟨v', S', rfl, hpost, by subst ht; exact ⟨hw.1, hw.2.1⟩⟩, hw.2.2.F ht⟩) hw.2.2.2.2 hdg B.notSynchronized
theorem and1 (v : Int32) : v &&& 1 = 1 ∨ v &&& 1 = 0 := by
  obtain ⟨j, hj, h⟩ := pk_andE v (m := 1) 1 (by decide)
  rcases (show j = 0 ∨ j = 1 by omega) with rfl | rfl
  · exact Or.inr h
  · exact Or.inl h
theorem lremT {v x y : Int64} (e : v = x - x / y * y) (hy : y.toInt ≠ 0) : v.toInt = x.toInt.tmod y.toInt := by
  have hb := Int64.le_toInt y
  have hb2 := Int64.toInt_lt y
  have hm : ((x.toInt.tmod y.toInt).natAbs) < y.toInt.natAbs := by rw [Int.natAbs_tmod]; exact Nat.mod_lt _ (by omega)
  have e1 : v.toInt = (x.toInt - x.toInt.tdiv y.toInt * y.toInt).bmod (2 ^ 64) := by
    rw [e, Int64.toInt_sub, Int64.toInt_mul, Int64.toInt_div]
    simp only [Int.sub_bmod_bmod, Int.bmod_mul_bmod]
  rw [e1, show x.toInt - x.toInt.tdiv y.toInt * y.toInt = x.toInt.tmod y.toInt by have := Int.tdiv_mul_add_tmod x.toInt y.toInt; omega]
  have hb' : (-9223372036854775808 : Int) ≤ y.toInt := by simpa using hb
  have hb2' : y.toInt < 9223372036854775808 := by simpa using hb2
  exact bm64 (by omega) (by omega)
theorem lremA {v x y : Int64} (e : v = x - x / y * y) (hy : y.toInt ≠ 0) : v.toInt.natAbs < y.toInt.natAbs := by
  rw [lremT e hy, Int.natAbs_tmod]; exact Nat.mod_lt _ (by omega)
theorem lne0 {y : Int64} (h : y.toInt ≠ 0) : ¬ y = 0 := fun e => h (by rw [e]; decide)
theorem px_of {I : Nat → Nat → Int32} {m0 : Nat} {a b : Int32} (ha : I 129 m0 = a) (hb : I 130 m0 = b) (h : 0 ≤ a.toInt ∧ a.toInt < 80 ∧ 0 ≤ b.toInt ∧ b.toInt < 80) : 0 ≤ (I 129 m0).toInt ∧ (I 129 m0).toInt < 80 ∧ 0 ≤ (I 130 m0).toInt ∧ (I 130 m0).toInt < 80 := by rw [ha, hb]; exact h
theorem mOr_rng {r : Nat → Int32} {b s : Int32} (h : MsOK r) : ∀ n, 0 ≤ (mOr r b s n).toInt ∧ (mOr r b s n).toInt ≤ 100
  | 0 => by simp only [mOr]; decide
  | n + 1 => by
    simp only [mOr]
    split
    · exact mOr_rng h n
    · rename_i hh
      rcases h (42 * b + 21 * s + nI (n + 1)).toNatClampNeg with q | q
      · exact absurd (Int32.toInt_inj.mp (q.trans (by decide : (-100 : Int) = (-100 : Int32).toInt))) hh
      · exact q
