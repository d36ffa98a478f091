
def FrNbL : List Nat := [107, 108, 109]
def FrNb (I I' : Nat → Nat → Int32) : Prop := ∀ f, f ∉ FrNbL → I' f = I f
theorem FrNb.rf {I : Nat → Nat → Int32} : FrNb I I := fun _ _ => rfl
theorem FrNb.tr {I I' I'' : Nat → Nat → Int32} (h : FrNb I I') (h2 : FrNb I' I'') : FrNb I I'' := fun f hf => (h2 f hf).trans (h f hf)
theorem FrNb.up {I I' : Nat → Nat → Int32} {f a : Nat} {v : Int32} (hf : f ∈ FrNbL) (h : FrNb I I') : FrNb I (up2 I' f a v) := fun g hg => by rw [up2_f (fun e => hg (by rw [e]; exact hf))]; exact h g hg
theorem FrNb.n2 {I I' : Nat → Nat → Int32} (h : FrNb I I') : FrN I I' := fun f hf => h f (fun q => hf ((by decide : ∀ x ∈ FrNbL, x ∈ FrNL) f q))
theorem FrNb.n {I I' : Nat → Nat → Int32} {m0 : Nat} {n : Int} (h : FrNb I I') (hn : (I 103 m0).toInt = n) : (I' 103 m0).toInt = n := by rw [h 103 (by decide)]; exact hn
/-! ===== the model's tokens, purely ===== -/
def mKd (k : Int) : Int := if k = 1 then 0 else if k = 0 then 1 else k
def nmv (c : Nat → Int32) (s : Nat) : Nat → Int64
  | 0 => 0
  | k + 1 => nmv c s k <<< ((8 : Int32).toInt64 &&& 63) ||| (c (s + k)).toInt64
def pkN (c : Nat → Int32) (s : Nat) : Nat → Int
  | 0 => 0
  | k + 1 => pkN c s k * 256 + (c (s + k)).toInt
theorem bv_nn {w : BitVec 64} (h : 0 ≤ w.toInt) : (w.toNat : Int) = w.toInt := by
  have h1 := BitVec.toInt_eq_toNat_cond w
  have h2 := w.isLt
  split at h1 <;> omega
theorem sh8 {x : Int64} {y : Int32} (hx : 0 ≤ x.toInt ∧ x.toInt < 36028797018963968) (hy : 0 ≤ y.toInt ∧ y.toInt < 256) : (x <<< ((8 : Int32).toInt64 &&& 63) ||| y.toInt64).toInt = x.toInt * 256 + y.toInt := by
  have e8 : ((8 : Int32).toInt64 &&& 63) = (8 : Int64) := by decide
  have hy' : y.toInt64.toInt = y.toInt := Int32.toInt_toInt64 y
  have hX : ((x.toBitVec).toNat : Int) = x.toInt := bv_nn (w := x.toBitVec) hx.1
  have hY : ((y.toInt64.toBitVec).toNat : Int) = y.toInt := (bv_nn (w := y.toInt64.toBitVec) (show 0 ≤ y.toInt64.toInt by omega)).trans hy'
  have hs : (x <<< (8 : Int64)).toBitVec.toNat = x.toBitVec.toNat * 256 := by
    have e : (x <<< (8 : Int64)).toBitVec = x.toBitVec <<< (8 : Nat) := by first | rfl | (rw [Int64.toBitVec_shiftLeft, show ((8 : Int64).toBitVec.smod 64) = 8#64 by decide]; rfl)
    rw [e, BitVec.toNat_shiftLeft, Nat.shiftLeft_eq]
    omega
  have hn : ((x <<< ((8 : Int32).toInt64 &&& 63) ||| y.toInt64).toBitVec).toNat = x.toBitVec.toNat * 256 + y.toInt64.toBitVec.toNat := by
    rw [e8, Int64.toBitVec_or, BitVec.toNat_or, hs]
    have h := Nat.shiftLeft_add_eq_or_of_lt (b := y.toInt64.toBitVec.toNat) (i := 8) (by omega) x.toBitVec.toNat
    rw [Nat.shiftLeft_eq, show (2 : Nat) ^ 8 = 256 by decide] at h
    exact h.symm
  have h1 := BitVec.toInt_eq_toNat_cond (x <<< ((8 : Int32).toInt64 &&& 63) ||| y.toInt64).toBitVec
  rw [hn] at h1
  show (x <<< ((8 : Int32).toInt64 &&& 63) ||| y.toInt64).toBitVec.toInt = _
  rw [h1]
  split <;> omega
def b256 : Nat → Int | 0 => 1 | k + 1 => b256 k * 256
theorem b256_7 : ∀ k, k < 8 → b256 k ≤ 72057594037927936 := by decide
theorem pkN_b {c : Nat → Int32} {s : Nat} : ∀ k, (∀ i, i < k → 97 ≤ (c (s + i)).toInt ∧ (c (s + i)).toInt ≤ 122) → 0 ≤ pkN c s k ∧ 2 * pkN c s k < b256 k
  | 0, _ => ⟨show (0 : Int) ≤ 0 by decide, show 2 * (0 : Int) < 1 by decide⟩
  | k + 1, h => by
    have i := pkN_b (c := c) (s := s) k (fun j hj => h j (by omega))
    have l := h k (by omega)
    show 0 ≤ pkN c s k * 256 + (c (s + k)).toInt ∧ 2 * (pkN c s k * 256 + (c (s + k)).toInt) < b256 k * 256
    omega
theorem nmv_t {c : Nat → Int32} {s : Nat} : ∀ k, k ≤ 8 → (∀ i, i < k → 97 ≤ (c (s + i)).toInt ∧ (c (s + i)).toInt ≤ 122) → (nmv c s k).toInt = pkN c s k
  | 0, _, _ => show (0 : Int64).toInt = 0 by decide
  | k + 1, h8, h => by
    have i := nmv_t (c := c) (s := s) k (by omega) (fun j hj => h j (by omega))
    have b := pkN_b (c := c) (s := s) k (fun j hj => h j (by omega))
    have z := b256_7 k (by omega)
    have l := h k (by omega)
    show (nmv c s k <<< ((8 : Int32).toInt64 &&& 63) ||| (c (s + k)).toInt64).toInt = pkN c s k * 256 + (c (s + k)).toInt
    rw [sh8 (by omega) (by omega), i]
theorem pkN_inj {c d : Nat → Int32} {s t : Nat} : ∀ L M, (∀ i, i < L → 97 ≤ (c (s + i)).toInt ∧ (c (s + i)).toInt ≤ 122) → (∀ i, i < M → 97 ≤ (d (t + i)).toInt ∧ (d (t + i)).toInt ≤ 122) → pkN c s L = pkN d t M → L = M ∧ ∀ i, i < L → c (s + i) = d (t + i)
  | 0, 0, _, _, _ => ⟨rfl, fun i h => absurd h (by omega)⟩
  | 0, M + 1, _, hd, h => by
    have b := pkN_b (c := d) (s := t) M (fun j hj => hd j (by omega))
    have l := hd M (by omega)
    have h : (0 : Int) = pkN d t M * 256 + (d (t + M)).toInt := h
    omega
  | L + 1, 0, hc, _, h => by
    have b := pkN_b (c := c) (s := s) L (fun j hj => hc j (by omega))
    have l := hc L (by omega)
    have h : pkN c s L * 256 + (c (s + L)).toInt = (0 : Int) := h
    omega
  | L + 1, M + 1, hc, hd, h => by
    have l := hc L (by omega)
    have m := hd M (by omega)
    have h : pkN c s L * 256 + (c (s + L)).toInt = pkN d t M * 256 + (d (t + M)).toInt := h
    obtain ⟨e, f⟩ := pkN_inj L M (fun j hj => hc j (by omega)) (fun j hj => hd j (by omega)) (by omega)
    subst e
    refine ⟨rfl, fun i hi => ?_⟩
    by_cases q : i = L
    · rw [q]; exact Int32.toInt_inj.mp (by omega)
    · exact f i (by omega)
def wL : List Int64 := [2003398244, 126943972647277, 7103845, 1818324580, 1835627379]
theorem wL_N : ∀ k, k < 5 → pkN (fun i => (skB.getD k []).getD i 0) 0 (skL.getD k 0) = (wL.getD k 0).toInt := by decide +kernel
theorem pkN_c {c d : Nat → Int32} {s t : Nat} : ∀ L, (∀ i, i < L → c (s + i) = d (t + i)) → pkN c s L = pkN d t L
  | 0, _ => rfl
  | L + 1, h => by
    show pkN c s L * 256 + (c (s + L)).toInt = pkN d t L * 256 + (d (t + L)).toInt
    rw [pkN_c L (fun i hi => h i (by omega)), h L (by omega)]
theorem nm_spl {c : Nat → Int32} {s e k : Nat} (hk : k < 5) (hse : s ≤ e) (h8 : e - s ≤ 8) (hl : ∀ i, s ≤ i → i < e → lB (c i) = true) : (nmv c s (e - s)).toInt = (wL.getD k 0).toInt ↔ spl c s e k := by
  have hl' : ∀ i, i < e - s → 97 ≤ (c (s + i)).toInt ∧ (c (s + i)).toInt ≤ 122 := fun i hi => lB_i.mp (hl (s + i) (by omega) (by omega))
  rw [nmv_t _ h8 hl', ← wL_N k hk]
  constructor
  · intro h
    obtain ⟨a, b⟩ := pkN_inj _ _ hl' (fun i hi => by rw [Nat.zero_add]; exact chr_pos k hk i hi) h
    refine ⟨a, fun i hi => ?_⟩
    have z := b i (by omega)
    rw [Nat.zero_add] at z; exact z
  · intro h
    rw [h.1]
    exact pkN_c _ (fun i hi => by rw [Nat.zero_add]; exact h.2 i hi)
theorem u_w2 {c : Nat → Int32} {n s : Nat} (h : uK c n s = 2) : s < n ∧ lB (c s) = true ∧ uE c n s = run lB c n s ∧ run lB c n s - s ≤ 8 := by
  have z := h
  unfold uK at z
  by_cases h1 : n ≤ s
  · rw [if_pos h1] at z; exact absurd z (by decide)
  · rw [if_neg h1] at z
    by_cases h2 : lB (c s) = true
    · refine ⟨by omega, h2, (u_word (by omega) h2).1, ?_⟩
      rw [if_pos h2] at z
      by_cases h3 : run lB c n s - s ≤ 8
      · exact h3
      · rw [if_neg h3] at z; exact absurd z (by decide)
    · rw [if_neg h2] at z
      by_cases h3 : dB (c s) = true ∨ (c s).toInt = 45
      · rw [if_pos h3] at z
        split at z <;> exact absurd z (by decide)
      · rw [if_neg h3] at z
        split at z <;> exact absurd z (by decide)
/-- the model stands at the token from p on -/
def mTok (I : Nat → Nat → Int32) (J : Nat → Nat → Int64) (m0 : Nat) (c : Nat → Int32) (n p : Nat) : Prop := (I 106 m0).toInt = (tS c n p : Nat) ∧ (I 107 m0).toInt = (tE c n p : Nat) ∧ (I 108 m0).toInt = mKd (tK c n p) ∧ (tK c n p = 3 → I 109 m0 = tV c n p) ∧ (tK c n p = 2 → J 110 m0 = nmv c (tS c n p) (tE c n p - tS c n p))
theorem mt_fin {I : Nat → Nat → Int32} {J : Nat → Nat → Int64} {m0 s p n : Nat} {c : Nat → Int32} (hs : tS c n p = s) (h6 : (I 106 m0).toInt = (s : Nat)) (h7 : (I 107 m0).toInt = (uE c n s : Nat)) (h8 : (I 108 m0).toInt = mKd (uK c n s)) (h9 : uK c n s = 3 → I 109 m0 = uV c n s) (h10 : uK c n s = 2 → J 110 m0 = nmv c s (uE c n s - s)) : mTok I J m0 c n p := by
  subst hs; exact ⟨h6, h7, h8, h9, h10⟩
theorem nt2 {c : Nat → Int32} {n s : Nat} {x : Int} (h : uK c n s = x) (hx : x ≠ 2) {A : Prop} : uK c n s = 2 → A := fun q => absurd (h.symm.trans q) hx
theorem ifn3 {A : Prop} [Decidable A] (h : (if A then (3 : Int) else 0) = 3) : A := by
  by_cases q : A
  · exact q
  · rw [if_neg q] at h; exact absurd h (by decide)
theorem ifn2 {A : Prop} [Decidable A] (h : (if A then (2 : Int) else 0) = 2) : A := by
  by_cases q : A
  · exact q
  · rw [if_neg q] at h; exact absurd h (by decide)
theorem tx_pos {row c : Nat → Int32} {n i : Nat} (hc : c = tx row n) (h : 0 < (c i).toInt) : i < n := by
  by_cases q : i < n
  · exact q
  · rw [hc, tx_out (by omega), show (0 : Int32).toInt = 0 by decide] at h; omega
theorem tx_posI {row c : Nat → Int32} {n : Nat} {i : Int32} (hc : c = tx row n) (h0 : 0 ≤ i.toInt) (h : 0 < (c i.toNatClampNeg).toInt) : i.toInt < (n : Int) := by
  have h1 := cl_toInt h0
  have h2 := tx_pos hc h
  omega
theorem mnm {c : Nat → Int32} {s : Nat} (h : dB (c (tF c s)) = true) : lB (c s) = false ∧ (dB (c s) = true ∨ (c s).toInt = 45) := by
  by_cases e : (c s).toInt = 45
  · exact ⟨lB_f (by omega), Or.inr e⟩
  · unfold tF at h; rw [if_neg e] at h
    have := dB_i.mp h
    exact ⟨lB_f (by omega), Or.inl h⟩
theorem u_sem {c : Nat → Int32} {n s : Nat} (h : s < n) (h59 : (c s).toInt = 59) : uE c n s = s + 1 ∧ uK c n s = 4 := by
  have z := u_oth (c := c) (n := n) (s := s) h (lB_f (by omega)) (fun q => by rcases q with q | q; (have := dB_i.mp q; omega); omega)
  exact ⟨z.1, by rw [z.2, if_pos h59]⟩
theorem u_bad {c : Nat → Int32} {n s : Nat} (h : s < n) (hl : lB (c s) = false) (hd : dB (c s) = false) (h59 : (c s).toInt ≠ 59) (hm : (c s).toInt ≠ 45 ∨ dB (c (s + 1)) = false) : uE c n s = s + 1 ∧ uK c n s = 0 := by
  by_cases e : (c s).toInt = 45
  · have hx := u_num h hl (Or.inr e)
    have hf : tF c s = s + 1 := if_pos e
    have hb : dB (c (s + 1)) = false := hm.resolve_left (fun q => q e)
    have hr : run dB c n (s + 1) = s + 1 := run_n (fun q => by rw [hb] at q; exact absurd q.2 (by decide))
    have hg : uG c n s = 0 := by unfold uG; rw [hf, hr]; omega
    exact ⟨by rw [hx.1, hf, hr], by rw [hx.2, hg]; exact if_neg (fun q => absurd q.1.1 (by decide))⟩
  · have z := u_oth (c := c) (n := n) (s := s) h hl (fun q => by rcases q with q | q; (rw [hd] at q; exact absurd q (by decide)); exact e q)
    exact ⟨z.1, by rw [z.2, if_neg h59]⟩
theorem rs_1 {P : Int32 → Bool} {c : Nat → Int32} {n s : Nat} {v : Int32} (hs : s < n) (hp : P (c s) = true) (hv : v.toInt = (s : Int) + 1) : run P c n v.toNatClampNeg = run P c n s := by
  have h1 := cl_toInt (x := v) (by omega)
  rw [run_y hs hp, show v.toNatClampNeg = s + 1 by omega]
theorem nm_0 {c : Nat → Int32} {s : Nat} {v : Int32} {x : Int64} (hx : x = 0) (hv : v.toInt = (s : Int)) : x = nmv c s (v.toNatClampNeg - s) := by
  have h1 := cl_toInt (x := v) (by omega)
  rw [show v.toNatClampNeg - s = 0 by omega, hx, nmv]
theorem nm_s {c : Nat → Int32} {s : Nat} {k k' r : Int32} {x a b w : Int64} (hx : x = nmv c s (k.toNatClampNeg - s)) (e1 : a = x <<< ((8 : Int32).toInt64 &&& 63)) (hr : r = c k.toNatClampNeg) (e2 : b = r.toInt64) (e3 : w = a ||| b) (h0 : (s : Int) ≤ k.toInt) (tk : k'.toInt = k.toInt + 1) : w = nmv c s (k'.toNatClampNeg - s) := by
  have h1 := cl_toInt (x := k) (by omega)
  have h2 := cl_toInt (x := k') (by omega)
  rw [show k'.toNatClampNeg - s = (k.toNatClampNeg - s) + 1 by omega, nmv, show s + (k.toNatClampNeg - s) = k.toNatClampNeg by omega, e3, e1, e2, hr, hx]
theorem nmv_e {c : Nat → Int32} {s e : Nat} {k : Int32} {x : Int64} (hx : x = nmv c s (k.toNatClampNeg - s)) (hk : k.toInt = (e : Int)) : x = nmv c s (e - s) := by
  have h1 := cl_toInt (x := k) (by omega)
  rw [hx, show k.toNatClampNeg = e by omega]
theorem wd_iff {I : Nat → Nat → Int32} {J : Nat → Nat → Int64} {m0 n p k : Nat} {c : Nat → Int32} (ht : mTok I J m0 c n p) (hk : k < 5) : ((I 108 m0).toInt = 2 ∧ (J 110 m0).toInt = (wL.getD k 0).toInt) ↔ (tK c n p = 2 ∧ spl c (tS c n p) (tE c n p) k) := by
  have h8 := ht.2.2.1
  have hz : mKd (tK c n p) = 2 ↔ tK c n p = 2 := by
    unfold mKd
    split
    · omega
    · split <;> omega
  rw [h8, hz]
  constructor
  · rintro ⟨a, b⟩
    have w := u_w2 (show uK c n (tS c n p) = 2 from a)
    have w3 : tE c n p = run lB c n (tS c n p) := w.2.2.1
    have g := run_ge (P := lB) (c := c) (n := n) (p := tS c n p)
    rw [ht.2.2.2.2 a] at b
    exact ⟨a, (nm_spl hk (by omega) (by omega) (fun i h1 h2 => run_in (n := n) h1 (by omega))).mp b⟩
  · rintro ⟨a, b⟩
    have w := u_w2 (show uK c n (tS c n p) = 2 from a)
    have w3 : tE c n p = run lB c n (tS c n p) := w.2.2.1
    have g := run_ge (P := lB) (c := c) (n := n) (p := tS c n p)
    refine ⟨a, ?_⟩
    rw [ht.2.2.2.2 a]
    exact (nm_spl hk (by omega) (by omega) (fun i h1 h2 => run_in (n := n) h1 (by omega))).mpr b
theorem FrN.n {I I' : Nat → Nat → Int32} {m0 : Nat} {n : Int} (h : FrN I I') (hn : (I 103 m0).toInt = n) : (I' 103 m0).toInt = n := by rw [h 103 (by decide)]; exact hn
theorem mT_eM {I : Nat → Nat → Int32} {J : Nat → Nat → Int64} {m0 n p : Nat} {c : Nat → Int32} (t : mTok I J m0 c n p) (hp : p ≤ n) (hn : (I 103 m0).toInt = (n : Int)) (hz : n ≤ 1000) : eM I m0 := by
  have h1 := (tE_le (c := c) hp).2
  have h2 := t.2.1
  unfold eM
  omega
set_option maxHeartbeats 4000000 in
set_option maxRecDepth 100000 in
theorem c_v_X11_sign (l : Launch) (G : Gh) (S : Pl) (ma : Nat → Nat) (tc : Nat → Int32) (tn : Nat) (k : Int32) (hM : shMod S ma) (htc : tc = tx (qI S (ma 2)) tn) (hn : (pI S 103 (ma 0)).toInt = (tn : Int)) (hz : tn ≤ 1000) (h0 : 0 ≤ k.toInt) : MtI l yX11_sign cX11_sign 2 (some .int) (Rm 0 0 0) G [.ref (ma 0), .int k] S (fun (r : Int32) (S' : Pl) => S = S' ∧ r = tc k.toNatClampNeg) 0 0 := by
  refine MtI.of (by decide) (Nat.le_of_ble_eq_true rfl) ?_
  intro p e s m args below meth c Q A X hw hin hret ls hl
  have hx := X.1.1
  have hb := X.1.2.1
  have hl : lv_has ls 2 [(0, .ref (ma 0)), (1, .int k)] := hl
  have hck := cl_toInt h0
  refine lv_iload_n hx hb dX11_sign_0 rfl (lv_at hl 1 rfl) ?_
  refine lv_aload_n hx hb dX11_sign_1 rfl (lv_at hl 0 rfl) ?_
  refine gf_X11_1 (v := (pI S) 103 (ma 0)) X hw hM.1 rfl dX11_sign_2 ?_
  refine lv_icmp_ge (tgt := 21) hx hb dX11_sign_5 (by decide) (fun c5_1 => ?_) (fun c5_1 => ?_)
  · have D5_1 := iLe c5_1 rfl rfl
    refine lv_iconst (v := 0) hx hb dX11_sign_21 (by decide) ?_
    exact hret 0 _ _ _ _ _ ⟨rfl, by rw [htc, tx_out (by omega)]⟩ hw rfl dX11_sign_22
  · have D5_1 := iNle c5_1 rfl rfl
    refine lv_aload_n hx hb dX11_sign_8 rfl (lv_at hl 0 rfl) ?_
    refine gf_X11_7 (b := (ma 2)) X hw hM.1 (mr_2 hM) dX11_sign_9 ?_
    refine lv_iload_n hx hb dX11_sign_12 rfl (lv_at hl 1 rfl) ?_
    refine q_ldB X hw (mk_2 hM) (vin (mn_2 hM) (by omega) (by omega)) dX11_sign_13 ?_
    refine lv_topi (fun v13_2 e13_2 => ?_)
    have e13_2 : v13_2 = (qI S) (ma 2) k.toNatClampNeg := e13_2
    have e13n := e13_2
    refine lv_sipush (v := 255) hx hb dX11_sign_14 (by decide) ?_
    refine lv_iand hx hb dX11_sign_17 ?_
    refine lv_topi (fun v17_3 e17_3 => ?_)
    refine lv_goto (tgt := 22) hx hb dX11_sign_18 (by decide) ?_
    exact hret v17_3 _ _ _ _ _ ⟨rfl, by rw [htc, tx_in (by omega), e17_3, e13n]⟩ hw rfl dX11_sign_22
set_option maxHeartbeats 4000000 in
set_option maxRecDepth 100000 in
theorem c_v_X11_readNumber (l : Launch) (G : Gh) (S : Pl) (ma : Nat → Nat) (tc : Nat → Int32) (tn : Nat) (z : Int32) (hM : shMod S ma) (htc : tc = tx (qI S (ma 2)) tn) (hn : (pI S 103 (ma 0)).toInt = (tn : Int)) (hz : tn ≤ 1000) (ha : 0 ≤ (pI S 106 (ma 0)).toInt ∧ (pI S 106 (ma 0)).toInt < (tn : Int)) (hz1 : (z.toInt ≠ 0 ∧ (tc (pI S 106 (ma 0)).toNatClampNeg).toInt = 45) ∨ (z.toInt = 0 ∧ (tc (pI S 106 (ma 0)).toNatClampNeg).toInt ≠ 45)) (hdd : dB (tc (tF tc (pI S 106 (ma 0)).toNatClampNeg)) = true) : MtV l yX11_readNumber cX11_readNumber 3 none (Rm 1 0 0) G [.ref (ma 0), .int z] S (fun (S' : Pl) => ∃ I', ch S I' (pJ S) (qI S) (qJ S) = S' ∧ FrNb (pI S) I' ∧ (I' 107 (ma 0)).toInt = (uE tc tn (pI S 106 (ma 0)).toNatClampNeg : Nat) ∧ (I' 108 (ma 0)).toInt = mKd (uK tc tn (pI S 106 (ma 0)).toNatClampNeg) ∧ (uK tc tn (pI S 106 (ma 0)).toNatClampNeg = 3 → I' 109 (ma 0) = uV tc tn (pI S 106 (ma 0)).toNatClampNeg)) 0 0 := by
  refine MtV.of (by decide) (Nat.le_of_ble_eq_true rfl) ?_
  intro p e s m args below meth c Q A X hw hin hret ls hl
  have hx := X.1.1
  have hb := X.1.2.1
  have hl : lv_has ls 3 [(0, .ref (ma 0)), (1, .int z)] := hl
  have hcl := cl_toInt (x := pI S 106 (ma 0)) ha.1
  have hfn := tF_le (c := tc) (n := tn) (s := (pI S 106 (ma 0)).toNatClampNeg) (by omega)
  have hdi := dB_i.mp hdd
  have hfl : (tF tc (pI S 106 (ma 0)).toNatClampNeg) < tn := tx_pos htc (by omega)
  have hg1 : (tF tc (pI S 106 (ma 0)).toNatClampNeg) + 1 ≤ (run dB tc tn (tF tc (pI S 106 (ma 0)).toNatClampNeg)) := by rw [run_y hfl hdd]; exact run_ge
  have hU := u_num (c := tc) (n := tn) (s := (pI S 106 (ma 0)).toNatClampNeg) (by omega) (mnm hdd).1 (mnm hdd).2
  have hG : uG tc tn (pI S 106 (ma 0)).toNatClampNeg = (run dB tc tn (tF tc (pI S 106 (ma 0)).toNatClampNeg)) - (tF tc (pI S 106 (ma 0)).toNatClampNeg) := rfl
  refine lv_iload_n hx hb dX11_readNumber_0 rfl (lv_at hl 1 rfl) ?_
  refine lv_if_eq (tgt := 13) hx hb dX11_readNumber_1 (by decide) (fun c1_1 => ?_) (fun c1_1 => ?_)
  · have D1_1 := iEq c1_1 rfl t_0
    refine lv_aload_n hx hb dX11_readNumber_13 rfl (lv_at hl 0 rfl) ?_
    refine gf_X11_20 (v := (pI S) 106 (ma 0)) X hw hM.1 rfl dX11_readNumber_14 ?_
    refine lv_istore_n (lv' := [(2, .int ((pI S) 106 (ma 0))), (0, .ref (ma 0)), (1, .int z)]) hx hb dX11_readNumber_17 rfl hl (by decide) rfl (fun ls hl => ?_)
    have hfd : ((pI S) 106 (ma 0)).toInt = ((tF tc (pI S 106 (ma 0)).toNatClampNeg) : Nat) := by unfold tF; first | (rw [if_pos (by omega)]; omega) | (rw [if_neg (by omega)]; omega)
    refine lv_aload_n hx hb dX11_readNumber_18 rfl (lv_at hl 1 rfl) ?_
    refine lv_iconst (v := 0) hx hb dX11_readNumber_19 (by decide) ?_
    refine pf_X11_45 X hw hM.1 dX11_readNumber_20 (fun H locs hw => ?_)
    have hw : PX G A s.heap (ch S (up2 (pI S) 109 (ma 0) 0) (pJ S) (qI S) (qJ S)) H locs := hw
    refine lv_aload_n hx hb dX11_readNumber_23 rfl (lv_at hl 1 rfl) ?_
    refine lv_iload_n hx hb dX11_readNumber_24 rfl (lv_at hl 0 rfl) ?_
    refine pf_X11_17 X hw hM.1 dX11_readNumber_25 (fun H locs hw => ?_)
    have hw : PX G A s.heap (ch S (up2 (up2 (pI S) 109 (ma 0) 0) 107 (ma 0) ((pI S) 106 (ma 0))) (pJ S) (qI S) (qJ S)) H locs := hw
    have lp28 : ∀ (N9 : Nat) (I28 : Nat → Nat → Int32), (FrNb (pI S) I28) → (((tF tc (pI S 106 (ma 0)).toNatClampNeg) : Int) ≤ (I28 107 (ma 0)).toInt ∧ (I28 107 (ma 0)).toInt ≤ (tn : Int)) → (run dB tc tn (I28 107 (ma 0)).toNatClampNeg = (run dB tc tn (tF tc (pI S 106 (ma 0)).toNatClampNeg))) → ((I28 107 (ma 0)).toInt - ((tF tc (pI S 106 (ma 0)).toNatClampNeg) : Nat) ≤ 3 → I28 109 (ma 0) = dv tc (tF tc (pI S 106 (ma 0)).toNatClampNeg) ((I28 107 (ma 0)).toNatClampNeg - (tF tc (pI S 106 (ma 0)).toNatClampNeg))) → ((tn : Int) - (I28 107 (ma 0)).toInt).toNat < N9 → ∀ (H : Heap) (locs : List Loc) (ls : Array Slot), PX G A s.heap (ch S I28 (pJ S) (qI S) (qJ S)) H locs → lv_has ls 3 [(2, .int ((pI S) 106 (ma 0))), (0, .ref (ma 0)), (1, .int z)] → W p l e (Rm 1 0 0) s m args below meth c H locs 0 0 Q (F0 m 28 ls []) := by
      intro N9
      induction N9 with
      | zero => intro I28 hF hB hT hnu hm; exact absurd hm (Nat.not_lt_zero _)
      | succ N9 ih28 =>
        intro I28 hF hB hT hnu hm H locs ls hw hl
        have hnn := FrNb.n hF hn
        refine lv_aload_n hx hb dX11_readNumber_28 rfl (lv_at hl 1 rfl) ?_
        refine lv_aload_n hx hb dX11_readNumber_29 rfl (lv_at hl 1 rfl) ?_
        refine gf_X11_17 (v := I28 107 (ma 0)) X hw hM.1 rfl dX11_readNumber_30 ?_
        refine k_Vi (n := 1) X hw (rcvk (ci := 11) X hw hM.1 (fun _ _ _ _ _ _ _ => ⟨_, rfl⟩) rfl) (c_v_X11_sign l G _ ma tc tn (I28 107 (ma 0)) hM htc (FrNb.n hF hn) hz (by omega)) wd_r20_21 wd_r20_22 wd_r20_23 wd_r1_5 wd_r21_0 ⟨by decide, by decide, by decide +kernel⟩ rfl rfl ⟨Nat.le_of_ble_eq_true rfl, Nat.le_of_ble_eq_true rfl⟩ rfl rfl hl.1 (Nat.le_of_ble_eq_true rfl) dX11_readNumber_33 ⟨Nat.le_of_ble_eq_true rfl, Nat.le_of_ble_eq_true rfl⟩ (fun r33_2 S33_4 H locs h33_3 hw => ?_)
        obtain ⟨rfl, h33_3⟩ := h33_3
        have hby : r33_2 = tc (I28 107 (ma 0)).toNatClampNeg := h33_3
        have hby0 := congrArg Int32.toInt hby
        have hlt9 : 0 < r33_2.toInt → (I28 107 (ma 0)).toInt < (tn : Int) := fun h => tx_posI htc (by omega) (by rw [← hby]; exact h)
        refine k_Si (n := 1) X hw (c_X11_isDigit l G _ r33_2) wd_r21_4 wd_r21_5 wd_r1_5 wd_r21_6 ⟨by decide, by decide, by decide +kernel⟩ rfl rfl ⟨Nat.le_of_ble_eq_true rfl, Nat.le_of_ble_eq_true rfl⟩ rfl rfl hl.1 (Nat.le_of_ble_eq_true rfl) dX11_readNumber_36 ⟨Nat.le_of_ble_eq_true rfl, Nat.le_of_ble_eq_true rfl⟩ (fun r36_5 S36_7 H locs h36_6 hw => ?_)
        rcases h36_6 with ⟨rfl, rfl, h36_6⟩ | ⟨rfl, rfl, h36_6⟩
        · have h36_6 := h36_6
          refine lv_if_eq (tgt := 88) hx hb dX11_readNumber_39 (by decide) (fun c39_8 => absurd c39_8 (by decide)) (fun c39_8 => ?_)
          refine lv_aload_n hx hb dX11_readNumber_42 rfl (lv_at hl 1 rfl) ?_
          refine gf_X11_17 (v := I28 107 (ma 0)) X hw hM.1 rfl dX11_readNumber_43 ?_
          refine lv_iload_n hx hb dX11_readNumber_46 rfl (lv_at hl 0 rfl) ?_
          refine lv_isub hx hb dX11_readNumber_47 ?_
          refine lv_topi (fun v47_9 e47_9 => ?_)
          have t47_9 := iSub e47_9 rfl rfl (by omega) (by omega)
          have t47 := t47_9
          refine lv_iconst (v := 3) hx hb dX11_readNumber_48 (by decide) ?_
          refine lv_icmp_ge (tgt := 75) hx hb dX11_readNumber_49 (by decide) (fun c49_10 => ?_) (fun c49_10 => ?_)
          · have D49_10 := iLe c49_10 t_3 rfl
            refine lv_aload_n hx hb dX11_readNumber_75 rfl (lv_at hl 1 rfl) ?_
            refine lv_dup hx hb dX11_readNumber_76 rfl ?_
            refine gf_X11_17 (v := I28 107 (ma 0)) X hw hM.1 rfl dX11_readNumber_77 ?_
            refine lv_iconst (v := 1) hx hb dX11_readNumber_80 (by decide) ?_
            refine lv_iadd hx hb dX11_readNumber_81 ?_
            refine lv_topi (fun v81_11 e81_11 => ?_)
            have t81_11 := iAdd e81_11 rfl t_1 (by omega) (by omega)
            have t81 := t81_11
            refine pf_X11_17 X hw hM.1 dX11_readNumber_82 (fun H locs hw => ?_)
            have hw : PX G A s.heap (ch S (up2 I28 107 (ma 0) v81_11) (pJ S) (qI S) (qJ S)) H locs := hw
            refine lv_goto (tgt := 28) hx hb dX11_readNumber_85 (by decide) ?_
            exact ih28 (up2 I28 107 (ma 0) v81_11)  (FrNb.up (f := 107) (by decide) hF) (by rw [show (up2 I28 107 (ma 0) v81_11) 107 (ma 0) = (v81_11 : Int32) from (show up2 I28 107 (ma 0) v81_11 107 (ma 0) = v81_11 from up2_s)]; omega) (by rw [show (up2 I28 107 (ma 0) v81_11) 107 (ma 0) = (v81_11 : Int32) from (show up2 I28 107 (ma 0) v81_11 107 (ma 0) = v81_11 from up2_s)]; exact rs_s hT (by omega) (by omega) (dB_i.mpr (by omega)) t81) (fun h9 => by rw [show (up2 I28 107 (ma 0) v81_11) 107 (ma 0) = (v81_11 : Int32) from (show up2 I28 107 (ma 0) v81_11 107 (ma 0) = v81_11 from up2_s)] at h9 ⊢; first | (exfalso; omega) | (rw [show (up2 I28 107 (ma 0) v81_11) 109 (ma 0) = (I28 109 (ma 0) : Int32) from rfl]; exact dv_s (hnu (by omega)) hby2 (by rw [e68n, e59n, Int32.mul_comm]) e71n (by omega) (by omega) t81)) (by rw [show (up2 I28 107 (ma 0) v81_11) 107 (ma 0) = (v81_11 : Int32) from (show up2 I28 107 (ma 0) v81_11 107 (ma 0) = v81_11 from up2_s)]; omega) _ _ _ hw (lv_sub hl [0, 1, 2] rfl)
          · have D49_10 := iNle c49_10 t_3 rfl
            refine lv_aload_n hx hb dX11_readNumber_52 rfl (lv_at hl 1 rfl) ?_
            refine lv_bipush (v := 10) hx hb dX11_readNumber_53 (by decide) ?_
            refine lv_aload_n hx hb dX11_readNumber_55 rfl (lv_at hl 1 rfl) ?_
            refine gf_X11_45 (v := I28 109 (ma 0)) X hw hM.1 rfl dX11_readNumber_56 ?_
            refine lv_imul hx hb dX11_readNumber_59 ?_
            refine lv_topi (fun v59_12 e59_12 => ?_)
            have e59n := e59_12
            refine lv_aload_n hx hb dX11_readNumber_60 rfl (lv_at hl 1 rfl) ?_
            refine lv_aload_n hx hb dX11_readNumber_61 rfl (lv_at hl 1 rfl) ?_
            refine gf_X11_17 (v := I28 107 (ma 0)) X hw hM.1 rfl dX11_readNumber_62 ?_
            refine k_Vi (n := 1) X hw (rcvk (ci := 11) X hw hM.1 (fun _ _ _ _ _ _ _ => ⟨_, rfl⟩) rfl) (c_v_X11_sign l G _ ma tc tn (I28 107 (ma 0)) hM htc (FrNb.n hF hn) hz (by omega)) wd_r20_21 wd_r20_22 wd_r20_23 wd_r1_5 wd_r21_0 ⟨by decide, by decide, by decide +kernel⟩ rfl rfl ⟨Nat.le_of_ble_eq_true rfl, Nat.le_of_ble_eq_true rfl⟩ rfl rfl hl.1 (Nat.le_of_ble_eq_true rfl) dX11_readNumber_65 ⟨Nat.le_of_ble_eq_true rfl, Nat.le_of_ble_eq_true rfl⟩ (fun r65_13 S65_15 H locs h65_14 hw => ?_)
            obtain ⟨rfl, h65_14⟩ := h65_14
            have hby2 : r65_13 = tc (I28 107 (ma 0)).toNatClampNeg := h65_14
            refine lv_iadd hx hb dX11_readNumber_68 ?_
            refine lv_topi (fun v68_16 e68_16 => ?_)
            have e68n := e68_16
            refine lv_bipush (v := 48) hx hb dX11_readNumber_69 (by decide) ?_
            refine lv_isub hx hb dX11_readNumber_71 ?_
            refine lv_topi (fun v71_17 e71_17 => ?_)
            have e71n := e71_17
            refine pf_X11_45 X hw hM.1 dX11_readNumber_72 (fun H locs hw => ?_)
            have hw : PX G A s.heap (ch S (up2 I28 109 (ma 0) v71_17) (pJ S) (qI S) (qJ S)) H locs := hw
            refine lv_aload_n hx hb dX11_readNumber_75 rfl (lv_at hl 1 rfl) ?_
            refine lv_dup hx hb dX11_readNumber_76 rfl ?_
            refine gf_X11_17 (v := I28 107 (ma 0)) X hw hM.1 rfl dX11_readNumber_77 ?_
            refine lv_iconst (v := 1) hx hb dX11_readNumber_80 (by decide) ?_
            refine lv_iadd hx hb dX11_readNumber_81 ?_
            refine lv_topi (fun v81_18 e81_18 => ?_)
            have t81_18 := iAdd e81_18 rfl t_1 (by omega) (by omega)
            have t81 := t81_18
            refine pf_X11_17 X hw hM.1 dX11_readNumber_82 (fun H locs hw => ?_)
            have hw : PX G A s.heap (ch S (up2 (up2 I28 109 (ma 0) v71_17) 107 (ma 0) v81_18) (pJ S) (qI S) (qJ S)) H locs := hw
            refine lv_goto (tgt := 28) hx hb dX11_readNumber_85 (by decide) ?_
            exact ih28 (up2 (up2 I28 109 (ma 0) v71_17) 107 (ma 0) v81_18)  (FrNb.up (f := 107) (by decide) (FrNb.up (f := 109) (by decide) hF)) (by rw [show (up2 (up2 I28 109 (ma 0) v71_17) 107 (ma 0) v81_18) 107 (ma 0) = (v81_18 : Int32) from (show up2 (up2 I28 109 (ma 0) v71_17) 107 (ma 0) v81_18 107 (ma 0) = v81_18 from up2_s)]; omega) (by rw [show (up2 (up2 I28 109 (ma 0) v71_17) 107 (ma 0) v81_18) 107 (ma 0) = (v81_18 : Int32) from (show up2 (up2 I28 109 (ma 0) v71_17) 107 (ma 0) v81_18 107 (ma 0) = v81_18 from up2_s)]; exact rs_s hT (by omega) (by omega) (dB_i.mpr (by omega)) t81) (fun h9 => by rw [show (up2 (up2 I28 109 (ma 0) v71_17) 107 (ma 0) v81_18) 107 (ma 0) = (v81_18 : Int32) from (show up2 (up2 I28 109 (ma 0) v71_17) 107 (ma 0) v81_18 107 (ma 0) = v81_18 from up2_s)] at h9 ⊢; first | (exfalso; omega) | (rw [show (up2 (up2 I28 109 (ma 0) v71_17) 107 (ma 0) v81_18) 109 (ma 0) = (v71_17 : Int32) from (show up2 I28 109 (ma 0) v71_17 109 (ma 0) = v71_17 from up2_s)]; exact dv_s (hnu (by omega)) hby2 (by rw [e68n, e59n, Int32.mul_comm]) e71n (by omega) (by omega) t81)) (by rw [show (up2 (up2 I28 109 (ma 0) v71_17) 107 (ma 0) v81_18) 107 (ma 0) = (v81_18 : Int32) from (show up2 (up2 I28 109 (ma 0) v71_17) 107 (ma 0) v81_18 107 (ma 0) = v81_18 from up2_s)]; omega) _ _ _ hw (lv_sub hl [0, 1, 2] rfl)
        · have h36_6 := h36_6
          refine lv_if_eq (tgt := 88) hx hb dX11_readNumber_39 (by decide) (fun c39_19 => ?_) (fun c39_19 => absurd c39_19 (by decide))
          have hEX : (I28 107 (ma 0)).toInt = ((run dB tc tn (tF tc (pI S 106 (ma 0)).toNatClampNeg)) : Nat) := rs_e hT (by omega) (Or.inr (dB_f (by omega)))
          have hEn : (I28 107 (ma 0)).toNatClampNeg = (run dB tc tn (tF tc (pI S 106 (ma 0)).toNatClampNeg)) := by have := cl_toInt (x := I28 107 (ma 0)) (by omega); omega
          have hnum : uG tc tn (pI S 106 (ma 0)).toNatClampNeg ≤ 3 → I28 109 (ma 0) = dv tc (tF tc (pI S 106 (ma 0)).toNatClampNeg) (uG tc tn (pI S 106 (ma 0)).toNatClampNeg) := fun h9 => by have z9 := hnu (by omega); rw [hEn] at z9; exact z9
          refine lv_iload_n hx hb dX11_readNumber_88 rfl (lv_at hl 2 rfl) ?_
          refine lv_if_eq (tgt := 101) hx hb dX11_readNumber_89 (by decide) (fun c89_20 => ?_) (fun c89_20 => ?_)
          · have D89_20 := iEq c89_20 rfl t_0
            refine lv_aload_n hx hb dX11_readNumber_101 rfl (lv_at hl 1 rfl) ?_
            refine lv_aload_n hx hb dX11_readNumber_102 rfl (lv_at hl 1 rfl) ?_
            refine gf_X11_17 (v := I28 107 (ma 0)) X hw hM.1 rfl dX11_readNumber_103 ?_
            refine lv_iload_n hx hb dX11_readNumber_106 rfl (lv_at hl 0 rfl) ?_
            refine lv_isub hx hb dX11_readNumber_107 ?_
            refine lv_topi (fun v107_21 e107_21 => ?_)
            have t107_21 := iSub e107_21 rfl rfl (by omega) (by omega)
            have t107 := t107_21
            refine lv_iconst (v := 3) hx hb dX11_readNumber_108 (by decide) ?_
            refine lv_icmp_gt (tgt := 126) hx hb dX11_readNumber_109 (by decide) (fun c109_22 => ?_) (fun c109_22 => ?_)
            · have D109_22 := iLt c109_22 t_3 rfl
              refine lv_iconst (v := 1) hx hb dX11_readNumber_126 (by decide) ?_
              refine lv_goto (tgt := 131) hx hb dX11_readNumber_127 (by decide) ?_
              refine pf_X11_27 X hw hM.1 dX11_readNumber_131 (fun H locs hw => ?_)
              have hw : PX G A s.heap (ch S (up2 I28 108 (ma 0) 1) (pJ S) (qI S) (qJ S)) H locs := hw
              exact hret _ _ _ _ _ ⟨_, rfl, (FrNb.up (f := 108) (by decide) hF), (by rw [hU.1, show (up2 I28 108 (ma 0) 1) 107 (ma 0) = (I28 107 (ma 0) : Int32) from rfl]; exact hEX), (by rw [hU.2, show (up2 I28 108 (ma 0) 1) 108 (ma 0) = (1 : Int32) from (show up2 I28 108 (ma 0) 1 108 (ma 0) = 1 from up2_s)]; first | (rw [if_pos ⟨⟨by omega, by omega⟩, lB_f (by omega)⟩]; decide) | (rw [if_neg (fun q => absurd q.1.2 (by omega))]; decide) | (rw [if_neg (fun q => nt_of q.2 (lB_i.mpr (by omega)))]; decide)), (fun q => by have z9 := hnum (ifn3 (hU.2.symm.trans q)).1.2; rw [show (up2 I28 108 (ma 0) 1) 109 (ma 0) = (I28 109 (ma 0) : Int32) from rfl]; unfold uV; first | (rw [if_pos (by omega), ← z9]; assumption) | (rw [if_neg (by omega), ← z9]))⟩ hw dX11_readNumber_134
            · have D109_22 := iNlt c109_22 t_3 rfl
              refine lv_aload_n hx hb dX11_readNumber_112 rfl (lv_at hl 1 rfl) ?_
              refine lv_aload_n hx hb dX11_readNumber_113 rfl (lv_at hl 1 rfl) ?_
              refine gf_X11_17 (v := I28 107 (ma 0)) X hw hM.1 rfl dX11_readNumber_114 ?_
              refine k_Vi (n := 1) X hw (rcvk (ci := 11) X hw hM.1 (fun _ _ _ _ _ _ _ => ⟨_, rfl⟩) rfl) (c_v_X11_sign l G _ ma tc tn (I28 107 (ma 0)) hM htc (FrNb.n hF hn) hz (by omega)) wd_r20_21 wd_r20_22 wd_r20_23 wd_r1_5 wd_r21_0 ⟨by decide, by decide, by decide +kernel⟩ rfl rfl ⟨Nat.le_of_ble_eq_true rfl, Nat.le_of_ble_eq_true rfl⟩ rfl rfl hl.1 (Nat.le_of_ble_eq_true rfl) dX11_readNumber_117 ⟨Nat.le_of_ble_eq_true rfl, Nat.le_of_ble_eq_true rfl⟩ (fun r117_23 S117_25 H locs h117_24 hw => ?_)
              obtain ⟨rfl, h117_24⟩ := h117_24
              have hby3 : r117_23 = tc (run dB tc tn (tF tc (pI S 106 (ma 0)).toNatClampNeg)) := by rw [← hEn]; exact h117_24
              have hby30 := congrArg Int32.toInt hby3
              refine k_Si (n := 1) X hw (c_X11_isLetter l G _ r117_23) wd_r21_1 wd_r21_2 wd_r1_5 wd_r21_3 ⟨by decide, by decide, by decide +kernel⟩ rfl rfl ⟨Nat.le_of_ble_eq_true rfl, Nat.le_of_ble_eq_true rfl⟩ rfl rfl hl.1 (Nat.le_of_ble_eq_true rfl) dX11_readNumber_120 ⟨Nat.le_of_ble_eq_true rfl, Nat.le_of_ble_eq_true rfl⟩ (fun r120_26 S120_28 H locs h120_27 hw => ?_)
              rcases h120_27 with ⟨rfl, rfl, h120_27⟩ | ⟨rfl, rfl, h120_27⟩
              · have h120_27 := h120_27
                refine lv_if_eq (tgt := 130) hx hb dX11_readNumber_123 (by decide) (fun c123_29 => absurd c123_29 (by decide)) (fun c123_29 => ?_)
                refine lv_iconst (v := 1) hx hb dX11_readNumber_126 (by decide) ?_
                refine lv_goto (tgt := 131) hx hb dX11_readNumber_127 (by decide) ?_
                refine pf_X11_27 X hw hM.1 dX11_readNumber_131 (fun H locs hw => ?_)
                have hw : PX G A s.heap (ch S (up2 I28 108 (ma 0) 1) (pJ S) (qI S) (qJ S)) H locs := hw
                exact hret _ _ _ _ _ ⟨_, rfl, (FrNb.up (f := 108) (by decide) hF), (by rw [hU.1, show (up2 I28 108 (ma 0) 1) 107 (ma 0) = (I28 107 (ma 0) : Int32) from rfl]; exact hEX), (by rw [hU.2, show (up2 I28 108 (ma 0) 1) 108 (ma 0) = (1 : Int32) from (show up2 I28 108 (ma 0) 1 108 (ma 0) = 1 from up2_s)]; first | (rw [if_pos ⟨⟨by omega, by omega⟩, lB_f (by omega)⟩]; decide) | (rw [if_neg (fun q => absurd q.1.2 (by omega))]; decide) | (rw [if_neg (fun q => nt_of q.2 (lB_i.mpr (by omega)))]; decide)), (fun q => by have z9 := hnum (ifn3 (hU.2.symm.trans q)).1.2; rw [show (up2 I28 108 (ma 0) 1) 109 (ma 0) = (I28 109 (ma 0) : Int32) from rfl]; unfold uV; first | (rw [if_pos (by omega), ← z9]; assumption) | (rw [if_neg (by omega), ← z9]))⟩ hw dX11_readNumber_134
              · have h120_27 := h120_27
                refine lv_if_eq (tgt := 130) hx hb dX11_readNumber_123 (by decide) (fun c123_30 => ?_) (fun c123_30 => absurd c123_30 (by decide))
                refine lv_iconst (v := 3) hx hb dX11_readNumber_130 (by decide) ?_
                refine pf_X11_27 X hw hM.1 dX11_readNumber_131 (fun H locs hw => ?_)
                have hw : PX G A s.heap (ch S (up2 I28 108 (ma 0) 3) (pJ S) (qI S) (qJ S)) H locs := hw
                exact hret _ _ _ _ _ ⟨_, rfl, (FrNb.up (f := 108) (by decide) hF), (by rw [hU.1, show (up2 I28 108 (ma 0) 3) 107 (ma 0) = (I28 107 (ma 0) : Int32) from rfl]; exact hEX), (by rw [hU.2, show (up2 I28 108 (ma 0) 3) 108 (ma 0) = (3 : Int32) from (show up2 I28 108 (ma 0) 3 108 (ma 0) = 3 from up2_s)]; first | (rw [if_pos ⟨⟨by omega, by omega⟩, lB_f (by omega)⟩]; decide) | (rw [if_neg (fun q => absurd q.1.2 (by omega))]; decide) | (rw [if_neg (fun q => nt_of q.2 (lB_i.mpr (by omega)))]; decide)), (fun q => by have z9 := hnum (ifn3 (hU.2.symm.trans q)).1.2; rw [show (up2 I28 108 (ma 0) 3) 109 (ma 0) = (I28 109 (ma 0) : Int32) from rfl]; unfold uV; first | (rw [if_pos (by omega), ← z9]; assumption) | (rw [if_neg (by omega), ← z9]))⟩ hw dX11_readNumber_134
          · have D89_20 := iNe c89_20 rfl t_0
            refine lv_aload_n hx hb dX11_readNumber_92 rfl (lv_at hl 1 rfl) ?_
            refine lv_aload_n hx hb dX11_readNumber_93 rfl (lv_at hl 1 rfl) ?_
            refine gf_X11_45 (v := I28 109 (ma 0)) X hw hM.1 rfl dX11_readNumber_94 ?_
            refine lv_ineg hx hb dX11_readNumber_97 ?_
            refine lv_topi (fun v97_31 e97_31 => ?_)
            refine pf_X11_45 X hw hM.1 dX11_readNumber_98 (fun H locs hw => ?_)
            have hw : PX G A s.heap (ch S (up2 I28 109 (ma 0) v97_31) (pJ S) (qI S) (qJ S)) H locs := hw
            refine lv_aload_n hx hb dX11_readNumber_101 rfl (lv_at hl 1 rfl) ?_
            refine lv_aload_n hx hb dX11_readNumber_102 rfl (lv_at hl 1 rfl) ?_
            refine gf_X11_17 (v := I28 107 (ma 0)) X hw hM.1 rfl dX11_readNumber_103 ?_
            refine lv_iload_n hx hb dX11_readNumber_106 rfl (lv_at hl 0 rfl) ?_
            refine lv_isub hx hb dX11_readNumber_107 ?_
            refine lv_topi (fun v107_32 e107_32 => ?_)
            have t107_32 := iSub e107_32 rfl rfl (by omega) (by omega)
            have t107 := t107_32
            refine lv_iconst (v := 3) hx hb dX11_readNumber_108 (by decide) ?_
            refine lv_icmp_gt (tgt := 126) hx hb dX11_readNumber_109 (by decide) (fun c109_33 => ?_) (fun c109_33 => ?_)
            · have D109_33 := iLt c109_33 t_3 rfl
              refine lv_iconst (v := 1) hx hb dX11_readNumber_126 (by decide) ?_
              refine lv_goto (tgt := 131) hx hb dX11_readNumber_127 (by decide) ?_
              refine pf_X11_27 X hw hM.1 dX11_readNumber_131 (fun H locs hw => ?_)
              have hw : PX G A s.heap (ch S (up2 (up2 I28 109 (ma 0) v97_31) 108 (ma 0) 1) (pJ S) (qI S) (qJ S)) H locs := hw
              exact hret _ _ _ _ _ ⟨_, rfl, (FrNb.up (f := 108) (by decide) (FrNb.up (f := 109) (by decide) hF)), (by rw [hU.1, show (up2 (up2 I28 109 (ma 0) v97_31) 108 (ma 0) 1) 107 (ma 0) = (I28 107 (ma 0) : Int32) from rfl]; exact hEX), (by rw [hU.2, show (up2 (up2 I28 109 (ma 0) v97_31) 108 (ma 0) 1) 108 (ma 0) = (1 : Int32) from (show up2 (up2 I28 109 (ma 0) v97_31) 108 (ma 0) 1 108 (ma 0) = 1 from up2_s)]; first | (rw [if_pos ⟨⟨by omega, by omega⟩, lB_f (by omega)⟩]; decide) | (rw [if_neg (fun q => absurd q.1.2 (by omega))]; decide) | (rw [if_neg (fun q => nt_of q.2 (lB_i.mpr (by omega)))]; decide)), (fun q => by have z9 := hnum (ifn3 (hU.2.symm.trans q)).1.2; rw [show (up2 (up2 I28 109 (ma 0) v97_31) 108 (ma 0) 1) 109 (ma 0) = (v97_31 : Int32) from (show up2 I28 109 (ma 0) v97_31 109 (ma 0) = v97_31 from up2_s)]; unfold uV; first | (rw [if_pos (by omega), ← z9]; assumption) | (rw [if_neg (by omega), ← z9]))⟩ hw dX11_readNumber_134
            · have D109_33 := iNlt c109_33 t_3 rfl
              refine lv_aload_n hx hb dX11_readNumber_112 rfl (lv_at hl 1 rfl) ?_
              refine lv_aload_n hx hb dX11_readNumber_113 rfl (lv_at hl 1 rfl) ?_
              refine gf_X11_17 (v := I28 107 (ma 0)) X hw hM.1 rfl dX11_readNumber_114 ?_
              refine k_Vi (n := 1) X hw (rcvk (ci := 11) X hw hM.1 (fun _ _ _ _ _ _ _ => ⟨_, rfl⟩) rfl) (c_v_X11_sign l G _ ma tc tn (I28 107 (ma 0)) hM htc (FrNb.n (FrNb.up (f := 109) (by decide) hF) hn) hz (by omega)) wd_r20_21 wd_r20_22 wd_r20_23 wd_r1_5 wd_r21_0 ⟨by decide, by decide, by decide +kernel⟩ rfl rfl ⟨Nat.le_of_ble_eq_true rfl, Nat.le_of_ble_eq_true rfl⟩ rfl rfl hl.1 (Nat.le_of_ble_eq_true rfl) dX11_readNumber_117 ⟨Nat.le_of_ble_eq_true rfl, Nat.le_of_ble_eq_true rfl⟩ (fun r117_34 S117_36 H locs h117_35 hw => ?_)
              obtain ⟨rfl, h117_35⟩ := h117_35
              have hby3 : r117_34 = tc (run dB tc tn (tF tc (pI S 106 (ma 0)).toNatClampNeg)) := by rw [← hEn]; exact h117_35
              have hby30 := congrArg Int32.toInt hby3
              refine k_Si (n := 1) X hw (c_X11_isLetter l G _ r117_34) wd_r21_1 wd_r21_2 wd_r1_5 wd_r21_3 ⟨by decide, by decide, by decide +kernel⟩ rfl rfl ⟨Nat.le_of_ble_eq_true rfl, Nat.le_of_ble_eq_true rfl⟩ rfl rfl hl.1 (Nat.le_of_ble_eq_true rfl) dX11_readNumber_120 ⟨Nat.le_of_ble_eq_true rfl, Nat.le_of_ble_eq_true rfl⟩ (fun r120_37 S120_39 H locs h120_38 hw => ?_)
              rcases h120_38 with ⟨rfl, rfl, h120_38⟩ | ⟨rfl, rfl, h120_38⟩
              · have h120_38 := h120_38
                refine lv_if_eq (tgt := 130) hx hb dX11_readNumber_123 (by decide) (fun c123_40 => absurd c123_40 (by decide)) (fun c123_40 => ?_)
                refine lv_iconst (v := 1) hx hb dX11_readNumber_126 (by decide) ?_
                refine lv_goto (tgt := 131) hx hb dX11_readNumber_127 (by decide) ?_
                refine pf_X11_27 X hw hM.1 dX11_readNumber_131 (fun H locs hw => ?_)
                have hw : PX G A s.heap (ch S (up2 (up2 I28 109 (ma 0) v97_31) 108 (ma 0) 1) (pJ S) (qI S) (qJ S)) H locs := hw
                exact hret _ _ _ _ _ ⟨_, rfl, (FrNb.up (f := 108) (by decide) (FrNb.up (f := 109) (by decide) hF)), (by rw [hU.1, show (up2 (up2 I28 109 (ma 0) v97_31) 108 (ma 0) 1) 107 (ma 0) = (I28 107 (ma 0) : Int32) from rfl]; exact hEX), (by rw [hU.2, show (up2 (up2 I28 109 (ma 0) v97_31) 108 (ma 0) 1) 108 (ma 0) = (1 : Int32) from (show up2 (up2 I28 109 (ma 0) v97_31) 108 (ma 0) 1 108 (ma 0) = 1 from up2_s)]; first | (rw [if_pos ⟨⟨by omega, by omega⟩, lB_f (by omega)⟩]; decide) | (rw [if_neg (fun q => absurd q.1.2 (by omega))]; decide) | (rw [if_neg (fun q => nt_of q.2 (lB_i.mpr (by omega)))]; decide)), (fun q => by have z9 := hnum (ifn3 (hU.2.symm.trans q)).1.2; rw [show (up2 (up2 I28 109 (ma 0) v97_31) 108 (ma 0) 1) 109 (ma 0) = (v97_31 : Int32) from (show up2 I28 109 (ma 0) v97_31 109 (ma 0) = v97_31 from up2_s)]; unfold uV; first | (rw [if_pos (by omega), ← z9]; assumption) | (rw [if_neg (by omega), ← z9]))⟩ hw dX11_readNumber_134
              · have h120_38 := h120_38
                refine lv_if_eq (tgt := 130) hx hb dX11_readNumber_123 (by decide) (fun c123_41 => ?_) (fun c123_41 => absurd c123_41 (by decide))
                refine lv_iconst (v := 3) hx hb dX11_readNumber_130 (by decide) ?_
                refine pf_X11_27 X hw hM.1 dX11_readNumber_131 (fun H locs hw => ?_)
                have hw : PX G A s.heap (ch S (up2 (up2 I28 109 (ma 0) v97_31) 108 (ma 0) 3) (pJ S) (qI S) (qJ S)) H locs := hw
                exact hret _ _ _ _ _ ⟨_, rfl, (FrNb.up (f := 108) (by decide) (FrNb.up (f := 109) (by decide) hF)), (by rw [hU.1, show (up2 (up2 I28 109 (ma 0) v97_31) 108 (ma 0) 3) 107 (ma 0) = (I28 107 (ma 0) : Int32) from rfl]; exact hEX), (by rw [hU.2, show (up2 (up2 I28 109 (ma 0) v97_31) 108 (ma 0) 3) 108 (ma 0) = (3 : Int32) from (show up2 (up2 I28 109 (ma 0) v97_31) 108 (ma 0) 3 108 (ma 0) = 3 from up2_s)]; first | (rw [if_pos ⟨⟨by omega, by omega⟩, lB_f (by omega)⟩]; decide) | (rw [if_neg (fun q => absurd q.1.2 (by omega))]; decide) | (rw [if_neg (fun q => nt_of q.2 (lB_i.mpr (by omega)))]; decide)), (fun q => by have z9 := hnum (ifn3 (hU.2.symm.trans q)).1.2; rw [show (up2 (up2 I28 109 (ma 0) v97_31) 108 (ma 0) 3) 109 (ma 0) = (v97_31 : Int32) from (show up2 I28 109 (ma 0) v97_31 109 (ma 0) = v97_31 from up2_s)]; unfold uV; first | (rw [if_pos (by omega), ← z9]; assumption) | (rw [if_neg (by omega), ← z9]))⟩ hw dX11_readNumber_134
    exact lp28 _ (up2 (up2 (pI S) 109 (ma 0) 0) 107 (ma 0) ((pI S) 106 (ma 0)))  (FrNb.up (f := 107) (by decide) (FrNb.up (f := 109) (by decide) FrNb.rf)) (by rw [show (up2 (up2 (pI S) 109 (ma 0) 0) 107 (ma 0) ((pI S) 106 (ma 0))) 107 (ma 0) = ((pI S) 106 (ma 0) : Int32) from (show up2 (up2 (pI S) 109 (ma 0) 0) 107 (ma 0) ((pI S) 106 (ma 0)) 107 (ma 0) = ((pI S) 106 (ma 0)) from up2_s)]; omega) (by rw [show (up2 (up2 (pI S) 109 (ma 0) 0) 107 (ma 0) ((pI S) 106 (ma 0))) 107 (ma 0) = ((pI S) 106 (ma 0) : Int32) from (show up2 (up2 (pI S) 109 (ma 0) 0) 107 (ma 0) ((pI S) 106 (ma 0)) 107 (ma 0) = ((pI S) 106 (ma 0)) from up2_s)]; exact congrArg (run dB tc tn) (show ((pI S) 106 (ma 0)).toNatClampNeg = (tF tc (pI S 106 (ma 0)).toNatClampNeg) from by have := cl_toInt (x := ((pI S) 106 (ma 0))) (by omega); omega)) (fun _ => by rw [show (up2 (up2 (pI S) 109 (ma 0) 0) 107 (ma 0) ((pI S) 106 (ma 0))) 107 (ma 0) = ((pI S) 106 (ma 0) : Int32) from (show up2 (up2 (pI S) 109 (ma 0) 0) 107 (ma 0) ((pI S) 106 (ma 0)) 107 (ma 0) = ((pI S) 106 (ma 0)) from up2_s), show (up2 (up2 (pI S) 109 (ma 0) 0) 107 (ma 0) ((pI S) 106 (ma 0))) 109 (ma 0) = (0 : Int32) from (show up2 (pI S) 109 (ma 0) 0 109 (ma 0) = 0 from up2_s), (show ((pI S) 106 (ma 0)).toNatClampNeg - (tF tc (pI S 106 (ma 0)).toNatClampNeg) = 0 from by have := cl_toInt (x := ((pI S) 106 (ma 0))) (by omega); omega)]; rfl) (Nat.lt_succ_self _) _ _ _ hw (lv_sub hl [0, 1, 2] rfl)
  · have D1_1 := iNe c1_1 rfl t_0
    refine lv_aload_n hx hb dX11_readNumber_4 rfl (lv_at hl 0 rfl) ?_
    refine gf_X11_20 (v := (pI S) 106 (ma 0)) X hw hM.1 rfl dX11_readNumber_5 ?_
    refine lv_iconst (v := 1) hx hb dX11_readNumber_8 (by decide) ?_
    refine lv_iadd hx hb dX11_readNumber_9 ?_
    refine lv_topi (fun v9_42 e9_42 => ?_)
    have t9_42 := iAdd e9_42 rfl t_1 (by omega) (by omega)
    have t9 := t9_42
    refine lv_goto (tgt := 17) hx hb dX11_readNumber_10 (by decide) ?_
    refine lv_istore_n (lv' := [(2, .int v9_42), (0, .ref (ma 0)), (1, .int z)]) hx hb dX11_readNumber_17 rfl hl (by decide) rfl (fun ls hl => ?_)
    have hfd : v9_42.toInt = ((tF tc (pI S 106 (ma 0)).toNatClampNeg) : Nat) := by unfold tF; first | (rw [if_pos (by omega)]; omega) | (rw [if_neg (by omega)]; omega)
    refine lv_aload_n hx hb dX11_readNumber_18 rfl (lv_at hl 1 rfl) ?_
    refine lv_iconst (v := 0) hx hb dX11_readNumber_19 (by decide) ?_
    refine pf_X11_45 X hw hM.1 dX11_readNumber_20 (fun H locs hw => ?_)
    have hw : PX G A s.heap (ch S (up2 (pI S) 109 (ma 0) 0) (pJ S) (qI S) (qJ S)) H locs := hw
    refine lv_aload_n hx hb dX11_readNumber_23 rfl (lv_at hl 1 rfl) ?_
    refine lv_iload_n hx hb dX11_readNumber_24 rfl (lv_at hl 0 rfl) ?_
    refine pf_X11_17 X hw hM.1 dX11_readNumber_25 (fun H locs hw => ?_)
    have hw : PX G A s.heap (ch S (up2 (up2 (pI S) 109 (ma 0) 0) 107 (ma 0) v9_42) (pJ S) (qI S) (qJ S)) H locs := hw
    have lp28 : ∀ (N9 : Nat) (I28 : Nat → Nat → Int32), (FrNb (pI S) I28) → (((tF tc (pI S 106 (ma 0)).toNatClampNeg) : Int) ≤ (I28 107 (ma 0)).toInt ∧ (I28 107 (ma 0)).toInt ≤ (tn : Int)) → (run dB tc tn (I28 107 (ma 0)).toNatClampNeg = (run dB tc tn (tF tc (pI S 106 (ma 0)).toNatClampNeg))) → ((I28 107 (ma 0)).toInt - ((tF tc (pI S 106 (ma 0)).toNatClampNeg) : Nat) ≤ 3 → I28 109 (ma 0) = dv tc (tF tc (pI S 106 (ma 0)).toNatClampNeg) ((I28 107 (ma 0)).toNatClampNeg - (tF tc (pI S 106 (ma 0)).toNatClampNeg))) → ((tn : Int) - (I28 107 (ma 0)).toInt).toNat < N9 → ∀ (H : Heap) (locs : List Loc) (ls : Array Slot), PX G A s.heap (ch S I28 (pJ S) (qI S) (qJ S)) H locs → lv_has ls 3 [(2, .int v9_42), (0, .ref (ma 0)), (1, .int z)] → W p l e (Rm 1 0 0) s m args below meth c H locs 0 0 Q (F0 m 28 ls []) := by
      intro N9
      induction N9 with
      | zero => intro I28 hF hB hT hnu hm; exact absurd hm (Nat.not_lt_zero _)
      | succ N9 ih28 =>
        intro I28 hF hB hT hnu hm H locs ls hw hl
        have hnn := FrNb.n hF hn
        refine lv_aload_n hx hb dX11_readNumber_28 rfl (lv_at hl 1 rfl) ?_
        refine lv_aload_n hx hb dX11_readNumber_29 rfl (lv_at hl 1 rfl) ?_
        refine gf_X11_17 (v := I28 107 (ma 0)) X hw hM.1 rfl dX11_readNumber_30 ?_
        refine k_Vi (n := 1) X hw (rcvk (ci := 11) X hw hM.1 (fun _ _ _ _ _ _ _ => ⟨_, rfl⟩) rfl) (c_v_X11_sign l G _ ma tc tn (I28 107 (ma 0)) hM htc (FrNb.n hF hn) hz (by omega)) wd_r20_21 wd_r20_22 wd_r20_23 wd_r1_5 wd_r21_0 ⟨by decide, by decide, by decide +kernel⟩ rfl rfl ⟨Nat.le_of_ble_eq_true rfl, Nat.le_of_ble_eq_true rfl⟩ rfl rfl hl.1 (Nat.le_of_ble_eq_true rfl) dX11_readNumber_33 ⟨Nat.le_of_ble_eq_true rfl, Nat.le_of_ble_eq_true rfl⟩ (fun r33_43 S33_45 H locs h33_44 hw => ?_)
        obtain ⟨rfl, h33_44⟩ := h33_44
        have hby : r33_43 = tc (I28 107 (ma 0)).toNatClampNeg := h33_44
        have hby0 := congrArg Int32.toInt hby
        have hlt9 : 0 < r33_43.toInt → (I28 107 (ma 0)).toInt < (tn : Int) := fun h => tx_posI htc (by omega) (by rw [← hby]; exact h)
        refine k_Si (n := 1) X hw (c_X11_isDigit l G _ r33_43) wd_r21_4 wd_r21_5 wd_r1_5 wd_r21_6 ⟨by decide, by decide, by decide +kernel⟩ rfl rfl ⟨Nat.le_of_ble_eq_true rfl, Nat.le_of_ble_eq_true rfl⟩ rfl rfl hl.1 (Nat.le_of_ble_eq_true rfl) dX11_readNumber_36 ⟨Nat.le_of_ble_eq_true rfl, Nat.le_of_ble_eq_true rfl⟩ (fun r36_46 S36_48 H locs h36_47 hw => ?_)
        rcases h36_47 with ⟨rfl, rfl, h36_47⟩ | ⟨rfl, rfl, h36_47⟩
        · have h36_47 := h36_47
          refine lv_if_eq (tgt := 88) hx hb dX11_readNumber_39 (by decide) (fun c39_49 => absurd c39_49 (by decide)) (fun c39_49 => ?_)
          refine lv_aload_n hx hb dX11_readNumber_42 rfl (lv_at hl 1 rfl) ?_
          refine gf_X11_17 (v := I28 107 (ma 0)) X hw hM.1 rfl dX11_readNumber_43 ?_
          refine lv_iload_n hx hb dX11_readNumber_46 rfl (lv_at hl 0 rfl) ?_
          refine lv_isub hx hb dX11_readNumber_47 ?_
          refine lv_topi (fun v47_50 e47_50 => ?_)
          have t47_50 := iSub e47_50 rfl rfl (by omega) (by omega)
          have t47 := t47_50
          refine lv_iconst (v := 3) hx hb dX11_readNumber_48 (by decide) ?_
          refine lv_icmp_ge (tgt := 75) hx hb dX11_readNumber_49 (by decide) (fun c49_51 => ?_) (fun c49_51 => ?_)
          · have D49_51 := iLe c49_51 t_3 rfl
            refine lv_aload_n hx hb dX11_readNumber_75 rfl (lv_at hl 1 rfl) ?_
            refine lv_dup hx hb dX11_readNumber_76 rfl ?_
            refine gf_X11_17 (v := I28 107 (ma 0)) X hw hM.1 rfl dX11_readNumber_77 ?_
            refine lv_iconst (v := 1) hx hb dX11_readNumber_80 (by decide) ?_
            refine lv_iadd hx hb dX11_readNumber_81 ?_
            refine lv_topi (fun v81_52 e81_52 => ?_)
            have t81_52 := iAdd e81_52 rfl t_1 (by omega) (by omega)
            have t81 := t81_52
            refine pf_X11_17 X hw hM.1 dX11_readNumber_82 (fun H locs hw => ?_)
            have hw : PX G A s.heap (ch S (up2 I28 107 (ma 0) v81_52) (pJ S) (qI S) (qJ S)) H locs := hw
            refine lv_goto (tgt := 28) hx hb dX11_readNumber_85 (by decide) ?_
            exact ih28 (up2 I28 107 (ma 0) v81_52)  (FrNb.up (f := 107) (by decide) hF) (by rw [show (up2 I28 107 (ma 0) v81_52) 107 (ma 0) = (v81_52 : Int32) from (show up2 I28 107 (ma 0) v81_52 107 (ma 0) = v81_52 from up2_s)]; omega) (by rw [show (up2 I28 107 (ma 0) v81_52) 107 (ma 0) = (v81_52 : Int32) from (show up2 I28 107 (ma 0) v81_52 107 (ma 0) = v81_52 from up2_s)]; exact rs_s hT (by omega) (by omega) (dB_i.mpr (by omega)) t81) (fun h9 => by rw [show (up2 I28 107 (ma 0) v81_52) 107 (ma 0) = (v81_52 : Int32) from (show up2 I28 107 (ma 0) v81_52 107 (ma 0) = v81_52 from up2_s)] at h9 ⊢; first | (exfalso; omega) | (rw [show (up2 I28 107 (ma 0) v81_52) 109 (ma 0) = (I28 109 (ma 0) : Int32) from rfl]; exact dv_s (hnu (by omega)) hby2 (by rw [e68n, e59n, Int32.mul_comm]) e71n (by omega) (by omega) t81)) (by rw [show (up2 I28 107 (ma 0) v81_52) 107 (ma 0) = (v81_52 : Int32) from (show up2 I28 107 (ma 0) v81_52 107 (ma 0) = v81_52 from up2_s)]; omega) _ _ _ hw (lv_sub hl [0, 1, 2] rfl)
          · have D49_51 := iNle c49_51 t_3 rfl
            refine lv_aload_n hx hb dX11_readNumber_52 rfl (lv_at hl 1 rfl) ?_
            refine lv_bipush (v := 10) hx hb dX11_readNumber_53 (by decide) ?_
            refine lv_aload_n hx hb dX11_readNumber_55 rfl (lv_at hl 1 rfl) ?_
            refine gf_X11_45 (v := I28 109 (ma 0)) X hw hM.1 rfl dX11_readNumber_56 ?_
            refine lv_imul hx hb dX11_readNumber_59 ?_
            refine lv_topi (fun v59_53 e59_53 => ?_)
            have e59n := e59_53
            refine lv_aload_n hx hb dX11_readNumber_60 rfl (lv_at hl 1 rfl) ?_
            refine lv_aload_n hx hb dX11_readNumber_61 rfl (lv_at hl 1 rfl) ?_
            refine gf_X11_17 (v := I28 107 (ma 0)) X hw hM.1 rfl dX11_readNumber_62 ?_
            refine k_Vi (n := 1) X hw (rcvk (ci := 11) X hw hM.1 (fun _ _ _ _ _ _ _ => ⟨_, rfl⟩) rfl) (c_v_X11_sign l G _ ma tc tn (I28 107 (ma 0)) hM htc (FrNb.n hF hn) hz (by omega)) wd_r20_21 wd_r20_22 wd_r20_23 wd_r1_5 wd_r21_0 ⟨by decide, by decide, by decide +kernel⟩ rfl rfl ⟨Nat.le_of_ble_eq_true rfl, Nat.le_of_ble_eq_true rfl⟩ rfl rfl hl.1 (Nat.le_of_ble_eq_true rfl) dX11_readNumber_65 ⟨Nat.le_of_ble_eq_true rfl, Nat.le_of_ble_eq_true rfl⟩ (fun r65_54 S65_56 H locs h65_55 hw => ?_)
            obtain ⟨rfl, h65_55⟩ := h65_55
            have hby2 : r65_54 = tc (I28 107 (ma 0)).toNatClampNeg := h65_55
            refine lv_iadd hx hb dX11_readNumber_68 ?_
            refine lv_topi (fun v68_57 e68_57 => ?_)
            have e68n := e68_57
            refine lv_bipush (v := 48) hx hb dX11_readNumber_69 (by decide) ?_
            refine lv_isub hx hb dX11_readNumber_71 ?_
            refine lv_topi (fun v71_58 e71_58 => ?_)
            have e71n := e71_58
            refine pf_X11_45 X hw hM.1 dX11_readNumber_72 (fun H locs hw => ?_)
            have hw : PX G A s.heap (ch S (up2 I28 109 (ma 0) v71_58) (pJ S) (qI S) (qJ S)) H locs := hw
            refine lv_aload_n hx hb dX11_readNumber_75 rfl (lv_at hl 1 rfl) ?_
            refine lv_dup hx hb dX11_readNumber_76 rfl ?_
            refine gf_X11_17 (v := I28 107 (ma 0)) X hw hM.1 rfl dX11_readNumber_77 ?_
            refine lv_iconst (v := 1) hx hb dX11_readNumber_80 (by decide) ?_
            refine lv_iadd hx hb dX11_readNumber_81 ?_
            refine lv_topi (fun v81_59 e81_59 => ?_)
            have t81_59 := iAdd e81_59 rfl t_1 (by omega) (by omega)
            have t81 := t81_59
            refine pf_X11_17 X hw hM.1 dX11_readNumber_82 (fun H locs hw => ?_)
            have hw : PX G A s.heap (ch S (up2 (up2 I28 109 (ma 0) v71_58) 107 (ma 0) v81_59) (pJ S) (qI S) (qJ S)) H locs := hw
            refine lv_goto (tgt := 28) hx hb dX11_readNumber_85 (by decide) ?_
            exact ih28 (up2 (up2 I28 109 (ma 0) v71_58) 107 (ma 0) v81_59)  (FrNb.up (f := 107) (by decide) (FrNb.up (f := 109) (by decide) hF)) (by rw [show (up2 (up2 I28 109 (ma 0) v71_58) 107 (ma 0) v81_59) 107 (ma 0) = (v81_59 : Int32) from (show up2 (up2 I28 109 (ma 0) v71_58) 107 (ma 0) v81_59 107 (ma 0) = v81_59 from up2_s)]; omega) (by rw [show (up2 (up2 I28 109 (ma 0) v71_58) 107 (ma 0) v81_59) 107 (ma 0) = (v81_59 : Int32) from (show up2 (up2 I28 109 (ma 0) v71_58) 107 (ma 0) v81_59 107 (ma 0) = v81_59 from up2_s)]; exact rs_s hT (by omega) (by omega) (dB_i.mpr (by omega)) t81) (fun h9 => by rw [show (up2 (up2 I28 109 (ma 0) v71_58) 107 (ma 0) v81_59) 107 (ma 0) = (v81_59 : Int32) from (show up2 (up2 I28 109 (ma 0) v71_58) 107 (ma 0) v81_59 107 (ma 0) = v81_59 from up2_s)] at h9 ⊢; first | (exfalso; omega) | (rw [show (up2 (up2 I28 109 (ma 0) v71_58) 107 (ma 0) v81_59) 109 (ma 0) = (v71_58 : Int32) from (show up2 I28 109 (ma 0) v71_58 109 (ma 0) = v71_58 from up2_s)]; exact dv_s (hnu (by omega)) hby2 (by rw [e68n, e59n, Int32.mul_comm]) e71n (by omega) (by omega) t81)) (by rw [show (up2 (up2 I28 109 (ma 0) v71_58) 107 (ma 0) v81_59) 107 (ma 0) = (v81_59 : Int32) from (show up2 (up2 I28 109 (ma 0) v71_58) 107 (ma 0) v81_59 107 (ma 0) = v81_59 from up2_s)]; omega) _ _ _ hw (lv_sub hl [0, 1, 2] rfl)
        · have h36_47 := h36_47
          refine lv_if_eq (tgt := 88) hx hb dX11_readNumber_39 (by decide) (fun c39_60 => ?_) (fun c39_60 => absurd c39_60 (by decide))
          have hEX : (I28 107 (ma 0)).toInt = ((run dB tc tn (tF tc (pI S 106 (ma 0)).toNatClampNeg)) : Nat) := rs_e hT (by omega) (Or.inr (dB_f (by omega)))
          have hEn : (I28 107 (ma 0)).toNatClampNeg = (run dB tc tn (tF tc (pI S 106 (ma 0)).toNatClampNeg)) := by have := cl_toInt (x := I28 107 (ma 0)) (by omega); omega
          have hnum : uG tc tn (pI S 106 (ma 0)).toNatClampNeg ≤ 3 → I28 109 (ma 0) = dv tc (tF tc (pI S 106 (ma 0)).toNatClampNeg) (uG tc tn (pI S 106 (ma 0)).toNatClampNeg) := fun h9 => by have z9 := hnu (by omega); rw [hEn] at z9; exact z9
          refine lv_iload_n hx hb dX11_readNumber_88 rfl (lv_at hl 2 rfl) ?_
          refine lv_if_eq (tgt := 101) hx hb dX11_readNumber_89 (by decide) (fun c89_61 => ?_) (fun c89_61 => ?_)
          · have D89_61 := iEq c89_61 rfl t_0
            refine lv_aload_n hx hb dX11_readNumber_101 rfl (lv_at hl 1 rfl) ?_
            refine lv_aload_n hx hb dX11_readNumber_102 rfl (lv_at hl 1 rfl) ?_
            refine gf_X11_17 (v := I28 107 (ma 0)) X hw hM.1 rfl dX11_readNumber_103 ?_
            refine lv_iload_n hx hb dX11_readNumber_106 rfl (lv_at hl 0 rfl) ?_
            refine lv_isub hx hb dX11_readNumber_107 ?_
            refine lv_topi (fun v107_62 e107_62 => ?_)
            have t107_62 := iSub e107_62 rfl rfl (by omega) (by omega)
            have t107 := t107_62
            refine lv_iconst (v := 3) hx hb dX11_readNumber_108 (by decide) ?_
            refine lv_icmp_gt (tgt := 126) hx hb dX11_readNumber_109 (by decide) (fun c109_63 => ?_) (fun c109_63 => ?_)
            · have D109_63 := iLt c109_63 t_3 rfl
              refine lv_iconst (v := 1) hx hb dX11_readNumber_126 (by decide) ?_
              refine lv_goto (tgt := 131) hx hb dX11_readNumber_127 (by decide) ?_
              refine pf_X11_27 X hw hM.1 dX11_readNumber_131 (fun H locs hw => ?_)
              have hw : PX G A s.heap (ch S (up2 I28 108 (ma 0) 1) (pJ S) (qI S) (qJ S)) H locs := hw
              exact hret _ _ _ _ _ ⟨_, rfl, (FrNb.up (f := 108) (by decide) hF), (by rw [hU.1, show (up2 I28 108 (ma 0) 1) 107 (ma 0) = (I28 107 (ma 0) : Int32) from rfl]; exact hEX), (by rw [hU.2, show (up2 I28 108 (ma 0) 1) 108 (ma 0) = (1 : Int32) from (show up2 I28 108 (ma 0) 1 108 (ma 0) = 1 from up2_s)]; first | (rw [if_pos ⟨⟨by omega, by omega⟩, lB_f (by omega)⟩]; decide) | (rw [if_neg (fun q => absurd q.1.2 (by omega))]; decide) | (rw [if_neg (fun q => nt_of q.2 (lB_i.mpr (by omega)))]; decide)), (fun q => by have z9 := hnum (ifn3 (hU.2.symm.trans q)).1.2; rw [show (up2 I28 108 (ma 0) 1) 109 (ma 0) = (I28 109 (ma 0) : Int32) from rfl]; unfold uV; first | (rw [if_pos (by omega), ← z9]; assumption) | (rw [if_neg (by omega), ← z9]))⟩ hw dX11_readNumber_134
            · have D109_63 := iNlt c109_63 t_3 rfl
              refine lv_aload_n hx hb dX11_readNumber_112 rfl (lv_at hl 1 rfl) ?_
              refine lv_aload_n hx hb dX11_readNumber_113 rfl (lv_at hl 1 rfl) ?_
              refine gf_X11_17 (v := I28 107 (ma 0)) X hw hM.1 rfl dX11_readNumber_114 ?_
              refine k_Vi (n := 1) X hw (rcvk (ci := 11) X hw hM.1 (fun _ _ _ _ _ _ _ => ⟨_, rfl⟩) rfl) (c_v_X11_sign l G _ ma tc tn (I28 107 (ma 0)) hM htc (FrNb.n hF hn) hz (by omega)) wd_r20_21 wd_r20_22 wd_r20_23 wd_r1_5 wd_r21_0 ⟨by decide, by decide, by decide +kernel⟩ rfl rfl ⟨Nat.le_of_ble_eq_true rfl, Nat.le_of_ble_eq_true rfl⟩ rfl rfl hl.1 (Nat.le_of_ble_eq_true rfl) dX11_readNumber_117 ⟨Nat.le_of_ble_eq_true rfl, Nat.le_of_ble_eq_true rfl⟩ (fun r117_64 S117_66 H locs h117_65 hw => ?_)
              obtain ⟨rfl, h117_65⟩ := h117_65
              have hby3 : r117_64 = tc (run dB tc tn (tF tc (pI S 106 (ma 0)).toNatClampNeg)) := by rw [← hEn]; exact h117_65
              have hby30 := congrArg Int32.toInt hby3
              refine k_Si (n := 1) X hw (c_X11_isLetter l G _ r117_64) wd_r21_1 wd_r21_2 wd_r1_5 wd_r21_3 ⟨by decide, by decide, by decide +kernel⟩ rfl rfl ⟨Nat.le_of_ble_eq_true rfl, Nat.le_of_ble_eq_true rfl⟩ rfl rfl hl.1 (Nat.le_of_ble_eq_true rfl) dX11_readNumber_120 ⟨Nat.le_of_ble_eq_true rfl, Nat.le_of_ble_eq_true rfl⟩ (fun r120_67 S120_69 H locs h120_68 hw => ?_)
              rcases h120_68 with ⟨rfl, rfl, h120_68⟩ | ⟨rfl, rfl, h120_68⟩
              · have h120_68 := h120_68
                refine lv_if_eq (tgt := 130) hx hb dX11_readNumber_123 (by decide) (fun c123_70 => absurd c123_70 (by decide)) (fun c123_70 => ?_)
                refine lv_iconst (v := 1) hx hb dX11_readNumber_126 (by decide) ?_
                refine lv_goto (tgt := 131) hx hb dX11_readNumber_127 (by decide) ?_
                refine pf_X11_27 X hw hM.1 dX11_readNumber_131 (fun H locs hw => ?_)
                have hw : PX G A s.heap (ch S (up2 I28 108 (ma 0) 1) (pJ S) (qI S) (qJ S)) H locs := hw
                exact hret _ _ _ _ _ ⟨_, rfl, (FrNb.up (f := 108) (by decide) hF), (by rw [hU.1, show (up2 I28 108 (ma 0) 1) 107 (ma 0) = (I28 107 (ma 0) : Int32) from rfl]; exact hEX), (by rw [hU.2, show (up2 I28 108 (ma 0) 1) 108 (ma 0) = (1 : Int32) from (show up2 I28 108 (ma 0) 1 108 (ma 0) = 1 from up2_s)]; first | (rw [if_pos ⟨⟨by omega, by omega⟩, lB_f (by omega)⟩]; decide) | (rw [if_neg (fun q => absurd q.1.2 (by omega))]; decide) | (rw [if_neg (fun q => nt_of q.2 (lB_i.mpr (by omega)))]; decide)), (fun q => by have z9 := hnum (ifn3 (hU.2.symm.trans q)).1.2; rw [show (up2 I28 108 (ma 0) 1) 109 (ma 0) = (I28 109 (ma 0) : Int32) from rfl]; unfold uV; first | (rw [if_pos (by omega), ← z9]; assumption) | (rw [if_neg (by omega), ← z9]))⟩ hw dX11_readNumber_134
              · have h120_68 := h120_68
                refine lv_if_eq (tgt := 130) hx hb dX11_readNumber_123 (by decide) (fun c123_71 => ?_) (fun c123_71 => absurd c123_71 (by decide))
                refine lv_iconst (v := 3) hx hb dX11_readNumber_130 (by decide) ?_
                refine pf_X11_27 X hw hM.1 dX11_readNumber_131 (fun H locs hw => ?_)
                have hw : PX G A s.heap (ch S (up2 I28 108 (ma 0) 3) (pJ S) (qI S) (qJ S)) H locs := hw
                exact hret _ _ _ _ _ ⟨_, rfl, (FrNb.up (f := 108) (by decide) hF), (by rw [hU.1, show (up2 I28 108 (ma 0) 3) 107 (ma 0) = (I28 107 (ma 0) : Int32) from rfl]; exact hEX), (by rw [hU.2, show (up2 I28 108 (ma 0) 3) 108 (ma 0) = (3 : Int32) from (show up2 I28 108 (ma 0) 3 108 (ma 0) = 3 from up2_s)]; first | (rw [if_pos ⟨⟨by omega, by omega⟩, lB_f (by omega)⟩]; decide) | (rw [if_neg (fun q => absurd q.1.2 (by omega))]; decide) | (rw [if_neg (fun q => nt_of q.2 (lB_i.mpr (by omega)))]; decide)), (fun q => by have z9 := hnum (ifn3 (hU.2.symm.trans q)).1.2; rw [show (up2 I28 108 (ma 0) 3) 109 (ma 0) = (I28 109 (ma 0) : Int32) from rfl]; unfold uV; first | (rw [if_pos (by omega), ← z9]; assumption) | (rw [if_neg (by omega), ← z9]))⟩ hw dX11_readNumber_134
          · have D89_61 := iNe c89_61 rfl t_0
            refine lv_aload_n hx hb dX11_readNumber_92 rfl (lv_at hl 1 rfl) ?_
            refine lv_aload_n hx hb dX11_readNumber_93 rfl (lv_at hl 1 rfl) ?_
            refine gf_X11_45 (v := I28 109 (ma 0)) X hw hM.1 rfl dX11_readNumber_94 ?_
            refine lv_ineg hx hb dX11_readNumber_97 ?_
            refine lv_topi (fun v97_72 e97_72 => ?_)
            refine pf_X11_45 X hw hM.1 dX11_readNumber_98 (fun H locs hw => ?_)
            have hw : PX G A s.heap (ch S (up2 I28 109 (ma 0) v97_72) (pJ S) (qI S) (qJ S)) H locs := hw
            refine lv_aload_n hx hb dX11_readNumber_101 rfl (lv_at hl 1 rfl) ?_
            refine lv_aload_n hx hb dX11_readNumber_102 rfl (lv_at hl 1 rfl) ?_
            refine gf_X11_17 (v := I28 107 (ma 0)) X hw hM.1 rfl dX11_readNumber_103 ?_
            refine lv_iload_n hx hb dX11_readNumber_106 rfl (lv_at hl 0 rfl) ?_
            refine lv_isub hx hb dX11_readNumber_107 ?_
            refine lv_topi (fun v107_73 e107_73 => ?_)
            have t107_73 := iSub e107_73 rfl rfl (by omega) (by omega)
            have t107 := t107_73
            refine lv_iconst (v := 3) hx hb dX11_readNumber_108 (by decide) ?_
            refine lv_icmp_gt (tgt := 126) hx hb dX11_readNumber_109 (by decide) (fun c109_74 => ?_) (fun c109_74 => ?_)
            · have D109_74 := iLt c109_74 t_3 rfl
              refine lv_iconst (v := 1) hx hb dX11_readNumber_126 (by decide) ?_
              refine lv_goto (tgt := 131) hx hb dX11_readNumber_127 (by decide) ?_
              refine pf_X11_27 X hw hM.1 dX11_readNumber_131 (fun H locs hw => ?_)
              have hw : PX G A s.heap (ch S (up2 (up2 I28 109 (ma 0) v97_72) 108 (ma 0) 1) (pJ S) (qI S) (qJ S)) H locs := hw
              exact hret _ _ _ _ _ ⟨_, rfl, (FrNb.up (f := 108) (by decide) (FrNb.up (f := 109) (by decide) hF)), (by rw [hU.1, show (up2 (up2 I28 109 (ma 0) v97_72) 108 (ma 0) 1) 107 (ma 0) = (I28 107 (ma 0) : Int32) from rfl]; exact hEX), (by rw [hU.2, show (up2 (up2 I28 109 (ma 0) v97_72) 108 (ma 0) 1) 108 (ma 0) = (1 : Int32) from (show up2 (up2 I28 109 (ma 0) v97_72) 108 (ma 0) 1 108 (ma 0) = 1 from up2_s)]; first | (rw [if_pos ⟨⟨by omega, by omega⟩, lB_f (by omega)⟩]; decide) | (rw [if_neg (fun q => absurd q.1.2 (by omega))]; decide) | (rw [if_neg (fun q => nt_of q.2 (lB_i.mpr (by omega)))]; decide)), (fun q => by have z9 := hnum (ifn3 (hU.2.symm.trans q)).1.2; rw [show (up2 (up2 I28 109 (ma 0) v97_72) 108 (ma 0) 1) 109 (ma 0) = (v97_72 : Int32) from (show up2 I28 109 (ma 0) v97_72 109 (ma 0) = v97_72 from up2_s)]; unfold uV; first | (rw [if_pos (by omega), ← z9]; assumption) | (rw [if_neg (by omega), ← z9]))⟩ hw dX11_readNumber_134
            · have D109_74 := iNlt c109_74 t_3 rfl
              refine lv_aload_n hx hb dX11_readNumber_112 rfl (lv_at hl 1 rfl) ?_
              refine lv_aload_n hx hb dX11_readNumber_113 rfl (lv_at hl 1 rfl) ?_
              refine gf_X11_17 (v := I28 107 (ma 0)) X hw hM.1 rfl dX11_readNumber_114 ?_
              refine k_Vi (n := 1) X hw (rcvk (ci := 11) X hw hM.1 (fun _ _ _ _ _ _ _ => ⟨_, rfl⟩) rfl) (c_v_X11_sign l G _ ma tc tn (I28 107 (ma 0)) hM htc (FrNb.n (FrNb.up (f := 109) (by decide) hF) hn) hz (by omega)) wd_r20_21 wd_r20_22 wd_r20_23 wd_r1_5 wd_r21_0 ⟨by decide, by decide, by decide +kernel⟩ rfl rfl ⟨Nat.le_of_ble_eq_true rfl, Nat.le_of_ble_eq_true rfl⟩ rfl rfl hl.1 (Nat.le_of_ble_eq_true rfl) dX11_readNumber_117 ⟨Nat.le_of_ble_eq_true rfl, Nat.le_of_ble_eq_true rfl⟩ (fun r117_75 S117_77 H locs h117_76 hw => ?_)
              obtain ⟨rfl, h117_76⟩ := h117_76
              have hby3 : r117_75 = tc (run dB tc tn (tF tc (pI S 106 (ma 0)).toNatClampNeg)) := by rw [← hEn]; exact h117_76
              have hby30 := congrArg Int32.toInt hby3
              refine k_Si (n := 1) X hw (c_X11_isLetter l G _ r117_75) wd_r21_1 wd_r21_2 wd_r1_5 wd_r21_3 ⟨by decide, by decide, by decide +kernel⟩ rfl rfl ⟨Nat.le_of_ble_eq_true rfl, Nat.le_of_ble_eq_true rfl⟩ rfl rfl hl.1 (Nat.le_of_ble_eq_true rfl) dX11_readNumber_120 ⟨Nat.le_of_ble_eq_true rfl, Nat.le_of_ble_eq_true rfl⟩ (fun r120_78 S120_80 H locs h120_79 hw => ?_)
              rcases h120_79 with ⟨rfl, rfl, h120_79⟩ | ⟨rfl, rfl, h120_79⟩
              · have h120_79 := h120_79
                refine lv_if_eq (tgt := 130) hx hb dX11_readNumber_123 (by decide) (fun c123_81 => absurd c123_81 (by decide)) (fun c123_81 => ?_)
                refine lv_iconst (v := 1) hx hb dX11_readNumber_126 (by decide) ?_
                refine lv_goto (tgt := 131) hx hb dX11_readNumber_127 (by decide) ?_
                refine pf_X11_27 X hw hM.1 dX11_readNumber_131 (fun H locs hw => ?_)
                have hw : PX G A s.heap (ch S (up2 (up2 I28 109 (ma 0) v97_72) 108 (ma 0) 1) (pJ S) (qI S) (qJ S)) H locs := hw
                exact hret _ _ _ _ _ ⟨_, rfl, (FrNb.up (f := 108) (by decide) (FrNb.up (f := 109) (by decide) hF)), (by rw [hU.1, show (up2 (up2 I28 109 (ma 0) v97_72) 108 (ma 0) 1) 107 (ma 0) = (I28 107 (ma 0) : Int32) from rfl]; exact hEX), (by rw [hU.2, show (up2 (up2 I28 109 (ma 0) v97_72) 108 (ma 0) 1) 108 (ma 0) = (1 : Int32) from (show up2 (up2 I28 109 (ma 0) v97_72) 108 (ma 0) 1 108 (ma 0) = 1 from up2_s)]; first | (rw [if_pos ⟨⟨by omega, by omega⟩, lB_f (by omega)⟩]; decide) | (rw [if_neg (fun q => absurd q.1.2 (by omega))]; decide) | (rw [if_neg (fun q => nt_of q.2 (lB_i.mpr (by omega)))]; decide)), (fun q => by have z9 := hnum (ifn3 (hU.2.symm.trans q)).1.2; rw [show (up2 (up2 I28 109 (ma 0) v97_72) 108 (ma 0) 1) 109 (ma 0) = (v97_72 : Int32) from (show up2 I28 109 (ma 0) v97_72 109 (ma 0) = v97_72 from up2_s)]; unfold uV; first | (rw [if_pos (by omega), ← z9]; assumption) | (rw [if_neg (by omega), ← z9]))⟩ hw dX11_readNumber_134
              · have h120_79 := h120_79
                refine lv_if_eq (tgt := 130) hx hb dX11_readNumber_123 (by decide) (fun c123_82 => ?_) (fun c123_82 => absurd c123_82 (by decide))
                refine lv_iconst (v := 3) hx hb dX11_readNumber_130 (by decide) ?_
                refine pf_X11_27 X hw hM.1 dX11_readNumber_131 (fun H locs hw => ?_)
                have hw : PX G A s.heap (ch S (up2 (up2 I28 109 (ma 0) v97_72) 108 (ma 0) 3) (pJ S) (qI S) (qJ S)) H locs := hw
                exact hret _ _ _ _ _ ⟨_, rfl, (FrNb.up (f := 108) (by decide) (FrNb.up (f := 109) (by decide) hF)), (by rw [hU.1, show (up2 (up2 I28 109 (ma 0) v97_72) 108 (ma 0) 3) 107 (ma 0) = (I28 107 (ma 0) : Int32) from rfl]; exact hEX), (by rw [hU.2, show (up2 (up2 I28 109 (ma 0) v97_72) 108 (ma 0) 3) 108 (ma 0) = (3 : Int32) from (show up2 (up2 I28 109 (ma 0) v97_72) 108 (ma 0) 3 108 (ma 0) = 3 from up2_s)]; first | (rw [if_pos ⟨⟨by omega, by omega⟩, lB_f (by omega)⟩]; decide) | (rw [if_neg (fun q => absurd q.1.2 (by omega))]; decide) | (rw [if_neg (fun q => nt_of q.2 (lB_i.mpr (by omega)))]; decide)), (fun q => by have z9 := hnum (ifn3 (hU.2.symm.trans q)).1.2; rw [show (up2 (up2 I28 109 (ma 0) v97_72) 108 (ma 0) 3) 109 (ma 0) = (v97_72 : Int32) from (show up2 I28 109 (ma 0) v97_72 109 (ma 0) = v97_72 from up2_s)]; unfold uV; first | (rw [if_pos (by omega), ← z9]; assumption) | (rw [if_neg (by omega), ← z9]))⟩ hw dX11_readNumber_134
    exact lp28 _ (up2 (up2 (pI S) 109 (ma 0) 0) 107 (ma 0) v9_42)  (FrNb.up (f := 107) (by decide) (FrNb.up (f := 109) (by decide) FrNb.rf)) (by rw [show (up2 (up2 (pI S) 109 (ma 0) 0) 107 (ma 0) v9_42) 107 (ma 0) = (v9_42 : Int32) from (show up2 (up2 (pI S) 109 (ma 0) 0) 107 (ma 0) v9_42 107 (ma 0) = v9_42 from up2_s)]; omega) (by rw [show (up2 (up2 (pI S) 109 (ma 0) 0) 107 (ma 0) v9_42) 107 (ma 0) = (v9_42 : Int32) from (show up2 (up2 (pI S) 109 (ma 0) 0) 107 (ma 0) v9_42 107 (ma 0) = v9_42 from up2_s)]; exact congrArg (run dB tc tn) (show v9_42.toNatClampNeg = (tF tc (pI S 106 (ma 0)).toNatClampNeg) from by have := cl_toInt (x := v9_42) (by omega); omega)) (fun _ => by rw [show (up2 (up2 (pI S) 109 (ma 0) 0) 107 (ma 0) v9_42) 107 (ma 0) = (v9_42 : Int32) from (show up2 (up2 (pI S) 109 (ma 0) 0) 107 (ma 0) v9_42 107 (ma 0) = v9_42 from up2_s), show (up2 (up2 (pI S) 109 (ma 0) 0) 107 (ma 0) v9_42) 109 (ma 0) = (0 : Int32) from (show up2 (pI S) 109 (ma 0) 0 109 (ma 0) = 0 from up2_s), (show v9_42.toNatClampNeg - (tF tc (pI S 106 (ma 0)).toNatClampNeg) = 0 from by have := cl_toInt (x := v9_42) (by omega); omega)]; rfl) (Nat.lt_succ_self _) _ _ _ hw (lv_sub hl [0, 1, 2] rfl)
