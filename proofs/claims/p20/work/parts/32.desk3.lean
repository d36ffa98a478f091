/-! ===== the desk's invariant over makings, adds, the swap ===== -/
theorem ne_kind {S : Pl} {k k' a b : Nat} (h : is S k a) (g : is S k' b) (n : k ≠ k') : a ≠ b := fun e => n (by rw [← h.2, ← g.2, e])
def ExK (S T : Pl) : Prop := ∀ a, a ∈ pL S → a ∈ pL T ∧ pK T a = pK S a ∧ pN T a = pN S a ∧ (pK S a ≠ 18 → qR T a = qR S a) ∧ (pK S a ≠ 9 → pK S a ≠ 11 → (∀ f, pR T f a = pR S f a) ∧ ∀ f, pI T f a = pI S f a)
theorem Ex.k {S T : Pl} (e : Ex S T) : ExK S T := fun a ha => by
  obtain ⟨h1, h2, h3, h4, h5, h6⟩ := e a ha
  exact ⟨h1, h2, h3, fun _ => h4, fun _ _ => ⟨h5, h6⟩⟩
theorem AddP.k {S T : Pl} {la ar tf n b ar' : Nat} (h : AddP S T la ar tf n b ar') (hl : is S 11 la) : ExK S T := fun a ha => by
  obtain ⟨h1, h2, h3, h4, h5, h6, h7, h8, h9, h10, h11⟩ := h
  obtain ⟨i1, i2, i3, i4, i5⟩ := h10 a ha
  exact ⟨i1, i2, i3, fun hk => i4 (fun e => hk (by rw [← i2, e]; exact h3.2)), fun _ hk => i5 (fun e => hk (by rw [e]; exact hl.2))⟩
theorem is.k {S T : Pl} {k a : Nat} (h : is S k a) (e : ExK S T) : is T k a := ⟨(e a h.1).1, (e a h.1).2.1.trans h.2⟩
theorem ExK.R {S T : Pl} {k f a : Nat} {x : Option Nat} (e : ExK S T) (h : is S k a) (h9 : k ≠ 9) (h11 : k ≠ 11) (g : pR S f a = x) : pR T f a = x := (((e a h.1).2.2.2.2 (by rw [h.2]; exact h9) (by rw [h.2]; exact h11)).1 f).trans g
theorem ExK.I {S T : Pl} {k a : Nat} (e : ExK S T) (h : is S k a) (h9 : k ≠ 9) (h11 : k ≠ 11) (f : Nat) : pI T f a = pI S f a := ((e a h.1).2.2.2.2 (by rw [h.2]; exact h9) (by rw [h.2]; exact h11)).2 f
theorem ExK.N {S T : Pl} {k a n : Nat} (e : ExK S T) (h : is S k a) (g : pN S a = n) : pN T a = n := (e a h.1).2.2.1.trans g
theorem ExK.Q {S T : Pl} {k a i : Nat} {x : Option Nat} (e : ExK S T) (h : is S k a) (h18 : k ≠ 18) (g : qR S a i = x) : qR T a i = x := (congrFun ((e a h.1).2.2.2.1 (by rw [h.2]; exact h18)) i).trans g
theorem shTape.k {S T : Pl} {tp tb : Nat} (h : shTape S tp tb) (e : ExK S T) : shTape T tp tb := ⟨h.1.k e, e.R h.1 (by decide) (by decide) h.2.1, h.2.2.1.k e, e.N h.2.2.1 h.2.2.2⟩
theorem shTok.k {S T : Pl} {tk tp tb : Nat} (h : shTok S tk tp tb) (e : ExK S T) : shTok T tk tp tb := ⟨h.1.k e, e.R h.1 (by decide) (by decide) h.2.1, h.2.2.k e⟩
theorem shRd.k {S T : Pl} {rd nb tk tp tb : Nat} (h : shRd S rd nb tk tp tb) (e : ExK S T) : shRd T rd nb tk tp tb := ⟨h.1.k e, e.R h.1 (by decide) (by decide) h.2.1, e.R h.1 (by decide) (by decide) h.2.2.1, h.2.2.2.1.k e, e.N h.2.2.2.1 h.2.2.2.2.1, h.2.2.2.2.2.k e⟩
theorem shTale.k {S T : Pl} {ta tm : Nat} (h : shTale S ta tm) (e : ExK S T) : shTale T ta tm := ⟨h.1.k e, e.R h.1 (by decide) (by decide) h.2.1, h.2.2.1.k e, e.N h.2.2.1 h.2.2.2⟩
theorem shFlow.k {S T : Pl} {fa : Nat → Nat} (h : shFlow S fa) (e : ExK S T) : shFlow T fa := by
  obtain ⟨h1, h2, h3, h4, h5, h6, h7, h8, h9, h10⟩ := h
  exact ⟨h1.k e, e.R h1 (by decide) (by decide) h2, e.R h1 (by decide) (by decide) h3, e.R h1 (by decide) (by decide) h4, h5.k e, e.N h5 h6, h7.k e, e.N h7 h8, h9.k e, e.N h9 h10⟩
theorem shSea.k {S T : Pl} {sa : Nat → Nat} (h : shSea S sa) (e : ExK S T) : shSea T sa := by
  obtain ⟨h1, h2, h3, h4, h5, h6, h7, h8, h9, h10, h11, h12, h13, h14, h15, h16⟩ := h
  exact ⟨h1.k e, e.R h1 (by decide) (by decide) h2, e.R h1 (by decide) (by decide) h3, e.R h1 (by decide) (by decide) h4, e.R h1 (by decide) (by decide) h5, e.R h1 (by decide) (by decide) h6, h7.k e, e.N h7 h8, fun i hi => e.Q h7 (by decide) (h9 i hi), h10.k e, e.N h10 h11, h12.k e, e.N h12 h13, h14.k e, e.N h14 h15, fun i hi => (h16 i hi).k e⟩
theorem shSpl.k {S T : Pl} {sp : Nat → Nat} (h : shSpl S sp) (e : ExK S T) : shSpl T sp := by
  obtain ⟨h1, h2, h3, h4, h5, h6, h7, h8, h9, h10, h11, h12, h13, h14, h15, h16, h17⟩ := h
  exact ⟨h1.k e, e.R h1 (by decide) (by decide) h2, e.R h1 (by decide) (by decide) h3, e.R h1 (by decide) (by decide) h4, e.R h1 (by decide) (by decide) h5, e.R h1 (by decide) (by decide) h6, h7.k e, e.N h7 h8, h9.k e, e.N h9 h10, h11.k e, e.N h11 h12, h13.k e, e.N h13 h14, h15.k e, e.N h15 h16, h17⟩
theorem ob.k {S T : Pl} {b : Nat} (h : ob S b) (e : ExK S T) : ob T b := h.imp (fun q => q.k e) (fun q => q.imp (fun q => q.k e) (fun q => q.k e))
theorem shSea.mR {T U : Pl} {sa : Nat → Nat} {f b : Nat} {v : Option Nat} (e : U = sR T f b v) (hb : is T 9 b) (h : shSea T sa) : shSea U sa := h.k (fun a ha => by
  subst e
  exact ⟨ha, rfl, rfl, fun _ => rfl, fun h9 _ => ⟨fun g => up2_n (fun q => h9 (by rw [q]; exact hb.2)), fun _ => rfl⟩⟩)
theorem shSpl.mR {T U : Pl} {sa : Nat → Nat} {f b : Nat} {v : Option Nat} (e : U = sR T f b v) (hb : is T 9 b) (h : shSpl T sa) : shSpl U sa := h.k (fun a ha => by
  subst e
  exact ⟨ha, rfl, rfl, fun _ => rfl, fun h9 _ => ⟨fun g => up2_n (fun q => h9 (by rw [q]; exact hb.2)), fun _ => rfl⟩⟩)
theorem lss.e {G : Gh} {S T : Pl} {la ar tf n : Nat} {el : Nat → Nat} (h : lss G S la ar tf n el) (e : Ex S T) : lss G T la ar tf n el := by
  obtain ⟨h1, h2, h3, h4, h5, h6⟩ := h
  refine ⟨h1.ex e, ((e _ h1.1).2.2.2.2.1 91).trans h2, h3, h4, fun ht => ?_, fun k hk => ?_⟩
  · obtain ⟨g1, g2, g3, g4⟩ := h5 ht
    have := (e _ g1.1).2.2.1
    exact ⟨g1.ex e, by omega, by omega, by omega⟩
  · have ht : tf ≠ 0 := fun z => by have := (h4 z).2; omega
    exact ⟨(congrFun (e _ (h5 ht).1.1).2.2.2.1 k).trans (h6 k hk).1, (h6 k hk).2.ex e⟩
theorem CIs.e {G : Gh} {S T : Pl} {d sa sb sp te tm pe : Nat → Nat} {tf pf nt np : Nat} (h : CIs G S d sa sb sp te tm pe tf pf nt np) (e : Ex S T) : CIs G T d sa sb sp te tm pe tf pf nt np := by
  obtain ⟨k0, r70, r71, r72, r73, r74, r75, r76, r77, hR, hS, hB, hSp, ⟨kco, nco⟩, lT, lP, n68, n79, hTl, hPk, hPi, n40⟩ := h
  have f := (e _ k0.1).2.2.2.2.1
  exact ⟨k0.ex e, (f 70).trans r70, (f 71).trans r71, (f 72).trans r72, (f 73).trans r73, (f 74).trans r74, (f 75).trans r75, (f 76).trans r76, (f 77).trans r77, hR.k e.k, hS.k e.k, hB.k e.k, hSp.k e.k, ⟨kco.ex e, e.k.N kco nco⟩, lT.e e, lP.e e, n68, n79, fun k hk => (hTl k hk).k e.k, fun k hk => (hPk k hk).imp (fun q => q.ex e) (fun q => q.ex e), hPi, n40⟩
theorem CIn.e {G : Gh} {S T : Pl} {d sa sb sp te tm pe : Nat → Nat} {tf pf nt np : Nat} (hN : CIn (pI S) d te pe nt np) (h : CIs G S d sa sb sp te tm pe tf pf nt np) (e : Ex S T) : CIn (pI T) d te pe nt np := by
  obtain ⟨k0, r70, r71, r72, r73, r74, r75, r76, r77, hR, hS, hB, hSp, ⟨kco, nco⟩, lT, lP, n68, n79, hTl, hPk, hPi, n40⟩ := h
  obtain ⟨z1, z2, z3, z4, z5, z6⟩ := hN
  have f : ∀ {k a : Nat}, is S k a → ∀ g, pI T g a = pI S g a := fun h g => (e _ h.1).2.2.2.2.2 g
  have hc : cntB (fun k => pI T 0 (pe k)) np = cntB (fun k => pI S 0 (pe k)) np := cntB_cong (fun k hk => by rcases hPk k hk with q | q <;> exact f q 0)
  refine ⟨by rw [f lT.1]; exact z1, by rw [f lP.1]; exact z2, fun k hk => by rw [f (hTl k hk).1]; exact z3 k hk, by rw [f hR.2.2.2.2.2.2.2.1]; exact z4, by rw [f k0, hc]; exact z5, by rw [hc]; exact z6⟩
theorem CIs.sw {G : Gh} {S T U : Pl} {d sa sb sp te tm pe : Nat → Nat} {tf pf nt np : Nat} (h : CIs G S d sa sb sp te tm pe tf pf nt np) (e : T = sR S 76 (d 0) (some (sb 0))) (e2 : U = sR T 77 (d 0) (some (sa 0))) : CIs G U d sb sa sp te tm pe tf pf nt np := by
  obtain ⟨k0, r70, r71, r72, r73, r74, r75, r76, r77, hR, hS, hB, hSp, ⟨kco, nco⟩, lT, lP, n68, n79, hTl, hPk, hPi, n40⟩ := h
  subst e2; subst e
  have ek : ExK S (sR (sR S 76 (d 0) (some (sb 0))) 77 (d 0) (some (sa 0))) := fun a ha => ⟨ha, rfl, rfl, fun _ => rfl, fun h9 _ => ⟨fun g => (up2_n (fun q => h9 (by rw [q]; exact k0.2))).trans (up2_n (fun q => h9 (by rw [q]; exact k0.2))), fun _ => rfl⟩⟩
  have f : ∀ {g a : Nat} {x : Option Nat}, g ≠ 76 → g ≠ 77 → pR S g a = x → pR (sR (sR S 76 (d 0) (some (sb 0))) 77 (d 0) (some (sa 0))) g a = x := fun h1 h2 q => (congrFun (up2_f h2) _).trans ((congrFun (up2_f h1) _).trans q)
  have lf : ∀ {la ar t n : Nat} {el : Nat → Nat}, lss G S la ar t n el → lss G (sR (sR S 76 (d 0) (some (sb 0))) 77 (d 0) (some (sa 0))) la ar t n el := fun q => ⟨q.1, f (by decide) (by decide) q.2.1, q.2.2⟩
  exact ⟨k0, f (by decide) (by decide) r70, f (by decide) (by decide) r71, f (by decide) (by decide) r72, f (by decide) (by decide) r73, f (by decide) (by decide) r74, f (by decide) (by decide) r75, (show up2 (up2 (pR S) 76 (d 0) (some (sb 0))) 77 (d 0) (some (sa 0)) 76 (d 0) = some (sb 0) from (congrFun (up2_f (by decide)) _).trans up2_s), (show up2 (up2 (pR S) 76 (d 0) (some (sb 0))) 77 (d 0) (some (sa 0)) 77 (d 0) = some (sa 0) from up2_s), hR.k ek, hB.k ek, hS.k ek, hSp.k ek, ⟨kco, nco⟩, lf lT, lf lP, n68, n79, fun k hk => (hTl k hk).k ek, hPk, hPi, n40⟩
theorem AddP.rf {S T : Pl} {la ar tf n b ar' f a : Nat} {x : Option Nat} (h : AddP S T la ar tf n b ar') (ha : a ∈ pL S) (n : a ≠ la) (g : pR S f a = x) : pR T f a = x := (((h.2.2.2.2.2.2.2.2.2.1 a ha).2.2.2.2 n).1 f).trans g
theorem AddP.iv {S T : Pl} {la ar tf n b ar' a : Nat} (h : AddP S T la ar tf n b ar') (ha : a ∈ pL S) (n : a ≠ la) (f : Nat) : pI T f a = pI S f a := ((h.2.2.2.2.2.2.2.2.2.1 a ha).2.2.2.2 n).2 f
/-- the list that was added to -/
theorem AddP.ls {G : Gh} {S T : Pl} {la ar tf n b ar' : Nat} {el : Nat → Nat} (h : AddP S T la ar tf n b ar') (hl : lss G S la ar tf n el) (hn : n < 60) (hb : ob S b) : lss G T la ar' 1 (n + 1) (va_up el n b) := by
  have ek := h.k hl.1
  obtain ⟨h1, h2, h3, h4, h5, h6, h7, h8, h9, h10⟩ := h
  refine ⟨hl.1.k ek, h1, by omega, fun z => absurd z (by decide), fun _ => ⟨h3, h4, h5, h6⟩, fun k hk => ?_⟩
  by_cases e : k = n
  · subst e; rw [vu_s]; exact ⟨h8, hb.k ek⟩
  · rw [vu_n e]
    exact ⟨(h7 k (by omega)).trans (hl.2.2.2.2.2 k (by omega)).1, (hl.2.2.2.2.2 k (by omega)).2.k ek⟩
/-- the other list -/
theorem AddP.lo {G : Gh} {S T : Pl} {la ar tf n b ar' lb br tg n2 : Nat} {el : Nat → Nat} (h : AddP S T la ar tf n b ar') (hl : is S 11 la) (hne : lb ≠ la) (h2 : lss G S lb br tg n2 el) (hd : tf ≠ 0 → tg ≠ 0 → ar ≠ br) : lss G T lb br tg n2 el ∧ (tg ≠ 0 → br ≠ ar') := by
  have ek := h.k hl
  have hbr : tg ≠ 0 → br ≠ ar' := fun ht q => by
    rcases h.2.2.2.2.2.2.2.2.1 with ⟨e1, e2⟩ | e1
    · exact hd e2 ht (e1.symm.trans q.symm)
    · exact e1 (q ▸ (h2.2.2.2.2.1 ht).1.1)
  refine ⟨⟨h2.1.k ek, h.rf h2.1.1 hne h2.2.1, h2.2.2.1, h2.2.2.2.1, fun ht => ?_, fun k hk => ?_⟩, hbr⟩
  · obtain ⟨g1, g2, g3, g4⟩ := h2.2.2.2.2.1 ht
    have := (ek _ g1.1).2.2.1
    exact ⟨g1.k ek, by omega, by omega, by omega⟩
  · have ht : tg ≠ 0 := fun z => by have := (h2.2.2.2.1 z).2; omega
    have g1 := (h2.2.2.2.2.1 ht).1
    exact ⟨(congrFun ((h.2.2.2.2.2.2.2.2.2.1 br g1.1).2.2.2.1 (hbr ht)) k).trans (h2.2.2.2.2.2 k hk).1, (h2.2.2.2.2.2 k hk).2.k ek⟩
theorem CIs.aT {G : Gh} {S T : Pl} {d sa sb sp te tm pe : Nat → Nat} {tf pf nt np b tb ar' : Nat} (h : CIs G S d sa sb sp te tm pe tf pf nt np) (hn : nt < 40) (hb : shTale S b tb) (ha : AddP S T (d 6) (d 7) tf nt b ar') : CIs G T (va_up d 7 ar') sa sb sp (va_up te nt b) (va_up tm nt tb) pe 1 pf (nt + 1) np := by
  obtain ⟨k0, r70, r71, r72, r73, r74, r75, r76, r77, hR, hS, hB, hSp, ⟨kco, nco⟩, lT, lP, n68, n79, hTl, hPk, hPi, n40⟩ := h
  have ek := ha.k lT.1
  have n06 := ne_kind k0 lT.1 (by decide)
  have f : ∀ {g : Nat} {x : Option Nat}, pR S g (d 0) = x → pR T g (d 0) = x := fun q => ha.rf k0.1 n06 q
  obtain ⟨lo, lne⟩ := ha.lo lT.1 (Ne.symm n68) lP n79
  refine ⟨k0.k ek, f r70, f r71, f r72, f r73, f r74, f r75, f r76, f r77, hR.k ek, hS.k ek, hB.k ek, hSp.k ek, ⟨kco.k ek, ek.N kco nco⟩, ha.ls lT (by omega) (Or.inl hb.1), lo, n68, fun _ hp => (lne hp).symm, fun k hk => ?_, fun k hk => (hPk k hk).imp (fun q => q.k ek) (fun q => q.k ek), hPi, hn⟩
  by_cases e : k = nt
  · subst e; rw [vu_s, vu_s]; exact hb.k ek
  · rw [vu_n e, vu_n e]; exact (hTl k (by omega)).k ek
theorem CIn.aT {G : Gh} {S T : Pl} {d sa sb sp te tm pe : Nat → Nat} {tf pf nt np b tb ar' : Nat} (hN : CIn (pI S) d te pe nt np) (h : CIs G S d sa sb sp te tm pe tf pf nt np) (hb : shTale S b tb) (hw : 1 ≤ (pI S 54 b).toInt ∧ (pI S 54 b).toInt ≤ 1000) (ha : AddP S T (d 6) (d 7) tf nt b ar') : CIn (pI T) (va_up d 7 ar') (va_up te nt b) pe (nt + 1) np := by
  obtain ⟨k0, r70, r71, r72, r73, r74, r75, r76, r77, hR, hS, hB, hSp, ⟨kco, nco⟩, lT, lP, n68, n79, hTl, hPk, hPi, n40⟩ := h
  obtain ⟨z1, z2, z3, z4, z5, z6⟩ := hN
  have f : ∀ {k a : Nat}, is S k a → k ≠ 11 → ∀ g, pI T g a = pI S g a := fun q hk g => ha.iv q.1 (ne_kind q lT.1 hk) g
  have hc : cntB (fun k => pI T 0 (pe k)) np = cntB (fun k => pI S 0 (pe k)) np := cntB_cong (fun k hk => by
    rcases hPk k hk with q | q
    · exact f q (by decide) 0
    · exact f q (by decide) 0)
  refine ⟨ha.2.1, ?_, fun k hk => ?_, ?_, ?_, ?_⟩
  · show (pI T 92 (d 8)).toInt = _; rw [ha.iv lP.1.1 (Ne.symm n68)]; exact z2
  · by_cases e : k = nt
    · subst e; rw [vu_s, f hb.1 (by decide)]; exact hw
    · rw [vu_n e, f (hTl k (by omega)).1 (by decide)]; exact z3 k (by omega)
  · show 0 ≤ (pI T 61 (d 1)).toInt ∧ _ ; rw [show pI T 61 (va_up d 7 ar' 1) = pI S 61 (d 1) from f hR.2.2.2.2.2.2.2.1 (by decide) 61, f hR.2.2.2.2.2.2.2.1 (by decide)]; exact z4
  · show (pI T 78 (d 0)).toInt = _; rw [f k0 (by decide), hc]; exact z5
  · rw [hc]; exact z6
theorem CIs.aP {G : Gh} {S T : Pl} {d sa sb sp te tm pe : Nat → Nat} {tf pf nt np b ar' : Nat} (h : CIs G S d sa sb sp te tm pe tf pf nt np) (hn : np < 60) (hb : is S 0 b ∨ is S 4 b) (hf : ∀ k, k < np → pe k ≠ b) (ha : AddP S T (d 8) (d 9) pf np b ar') : CIs G T (va_up d 9 ar') sa sb sp te tm (va_up pe np b) tf 1 nt (np + 1) := by
  obtain ⟨k0, r70, r71, r72, r73, r74, r75, r76, r77, hR, hS, hB, hSp, ⟨kco, nco⟩, lT, lP, n68, n79, hTl, hPk, hPi, n40⟩ := h
  have ek := ha.k lP.1
  have n08 := ne_kind k0 lP.1 (by decide)
  have f : ∀ {g : Nat} {x : Option Nat}, pR S g (d 0) = x → pR T g (d 0) = x := fun q => ha.rf k0.1 n08 q
  obtain ⟨lo, lne⟩ := ha.lo lP.1 n68 lT (fun h1 h2 => (n79 h2 h1).symm)
  refine ⟨k0.k ek, f r70, f r71, f r72, f r73, f r74, f r75, f r76, f r77, hR.k ek, hS.k ek, hB.k ek, hSp.k ek, ⟨kco.k ek, ek.N kco nco⟩, lo, ha.ls lP hn (Or.inr hb), n68, fun hp _ => lne hp, fun k hk => (hTl k hk).k ek, fun k hk => ?_, fun j k hj hk => ?_, n40⟩
  · by_cases e : k = np
    · subst e; rw [vu_s]; exact hb.imp (fun q => q.k ek) (fun q => q.k ek)
    · rw [vu_n e]; exact (hPk k (by omega)).imp (fun q => q.k ek) (fun q => q.k ek)
  · by_cases e : j = np
    · by_cases e2 : k = np
      · intro _; omega
      · subst e; rw [vu_s, vu_n e2]; intro q; exact absurd q.symm (hf k (by omega))
    · by_cases e2 : k = np
      · subst e2; rw [vu_s, vu_n e]; intro q; exact absurd q (hf j (by omega))
      · rw [vu_n e, vu_n e2]; exact hPi j k (by omega) (by omega)
theorem CIn.aP {G : Gh} {S T : Pl} {d sa sb sp te tm pe : Nat → Nat} {tf pf nt np b ar' : Nat} {v : Int32} (hN : CIn (pI S) d te pe nt np) (h : CIs G S d sa sb sp te tm pe tf pf nt np) (hb : is S 0 b ∨ is S 4 b) (hz : pI S 0 b = 0) (h5 : cntB (fun k => pI S 0 (pe k)) np < 6) (hf : ∀ k, k < np → pe k ≠ b) (ha : AddP S T (d 8) (d 9) pf np b ar') (hv : v.toInt = (pI S 78 (d 0)).toInt + 1) : CIn (up2 (pI T) 78 (d 0) v) (va_up d 9 ar') te (va_up pe np b) nt (np + 1) ∧ (∀ k, k < np + 1 → up2 (pI T) 78 (d 0) v 0 (va_up pe np b k) = (if k = np then 0 else pI S 0 (pe k))) := by
  obtain ⟨k0, r70, r71, r72, r73, r74, r75, r76, r77, hR, hS, hB, hSp, ⟨kco, nco⟩, lT, lP, n68, n79, hTl, hPk, hPi, n40⟩ := h
  obtain ⟨z1, z2, z3, z4, z5, z6⟩ := hN
  have f : ∀ {k a : Nat}, is S k a → k ≠ 11 → ∀ g, pI T g a = pI S g a := fun q hk g => ha.iv q.1 (ne_kind q lP.1 hk) g
  have hbk : ∀ k, k < np + 1 → up2 (pI T) 78 (d 0) v 0 (va_up pe np b k) = (if k = np then 0 else pI S 0 (pe k)) := fun k hk => by
    rw [up2_f (by decide)]
    by_cases e : k = np
    · rw [if_pos e, e, vu_s]; rcases hb with q | q <;> rw [f q (by decide)] <;> exact hz
    · rw [if_neg e, vu_n e]; rcases hPk k (by omega) with q | q <;> rw [f q (by decide)]
  have hc : cntB (fun k => up2 (pI T) 78 (d 0) v 0 (va_up pe np b k)) (np + 1) = cntB (fun k => pI S 0 (pe k)) np + 1 := by
    show cntB _ np + _ = _
    rw [if_pos (by have := hbk np (Nat.lt_succ_self _); rw [if_pos rfl] at this; exact this)]
    rw [cntB_cong (r := fun k => pI S 0 (pe k)) (fun k hk => by have := hbk k (by omega); rw [if_neg (by omega)] at this; exact this)]
  refine ⟨⟨?_, ?_, fun k hk => ?_, ?_, ?_, ?_⟩, hbk⟩
  · rw [up2_f (by decide)]; show (pI T 92 (d 6)).toInt = _; rw [ha.iv lT.1.1 n68]; exact z1
  · rw [up2_f (by decide)]; exact ha.2.1
  · rw [up2_f (by decide), f (hTl k hk).1 (by decide)]; exact z3 k hk
  · rw [up2_f (by decide)]; show 0 ≤ (pI T 61 (d 1)).toInt ∧ (pI T 61 (d 1)).toInt ≤ 1000; rw [f hR.2.2.2.2.2.2.2.1 (by decide)]; exact z4
  · rw [hc, show up2 (pI T) 78 (d 0) v 78 (va_up d 9 ar' 0) = v from up2_s, hv, z5]; omega
  · rw [hc]; omega
theorem cntB_one {r r' : Nat → Int32} {i : Nat} (h0 : r i = 0) (h1 : r' i = 1) (h : ∀ k, k ≠ i → r' k = r k) : ∀ n, cntB r' n + (if i < n then 1 else 0) = cntB r n
  | 0 => by simp [cntB]
  | n + 1 => by
    have ih := cntB_one h0 h1 h n
    simp only [cntB]
    by_cases e : n = i
    · subst e
      rw [h0, h1, if_pos rfl, if_neg (by decide), if_pos (show n < n + 1 by omega)]
      rw [if_neg (by omega)] at ih; omega
    · rw [h n e]
      by_cases g : i < n
      · rw [if_pos (show i < n + 1 by omega)]; rw [if_pos g] at ih; omega
      · rw [if_neg (show ¬ i < n + 1 by omega)]; rw [if_neg g] at ih; omega
theorem CIn.bk {G : Gh} {S : Pl} {d sa sb sp te tm pe : Nat → Nat} {tf pf nt np i : Nat} {v : Int32} (hN : CIn (pI S) d te pe nt np) (h : CIs G S d sa sb sp te tm pe tf pf nt np) (hi : i < np) (h0 : (pI S 0 (pe i)).toInt = 0) (hv : v.toInt = (pI S 78 (d 0)).toInt - 1) : CIn (up2 (up2 (pI S) 0 (pe i) 1) 78 (d 0) v) d te pe nt np ∧ ∀ k, k < np → up2 (up2 (pI S) 0 (pe i) 1) 78 (d 0) v 0 (pe k) = if k = i then 1 else pI S 0 (pe k) := by
  have hPi := h.2.2.2.2.2.2.2.2.2.2.2.2.2.2.2.2.2.2.2.2.1
  obtain ⟨z1, z2, z3, z4, z5, z6⟩ := hN
  have hbk : ∀ k, k < np → up2 (up2 (pI S) 0 (pe i) 1) 78 (d 0) v 0 (pe k) = if k = i then 1 else pI S 0 (pe k) := fun k hk => by
    rw [up2_f (by decide)]
    by_cases e : k = i
    · rw [if_pos e, e, up2_s]
    · rw [if_neg e, up2_n (fun q => e (hPi k i hk hi q))]
  have z0 : pI S 0 (pe i) = 0 := Int32.toInt_inj.mp (h0.trans (by decide))
  have hc := cntB_one (r := fun k => pI S 0 (pe k)) (r' := fun k => if k = i then 1 else pI S 0 (pe k)) (i := i) z0 (if_pos rfl) (fun k hk => if_neg hk) np
  rw [if_pos hi] at hc
  have hc2 : cntB (fun k => up2 (up2 (pI S) 0 (pe i) 1) 78 (d 0) v 0 (pe k)) np = cntB (fun k => if k = i then 1 else pI S 0 (pe k)) np := cntB_cong hbk
  refine ⟨⟨?_, ?_, fun k hk => ?_, ?_, ?_, ?_⟩, hbk⟩
  · rw [up2_f (by decide), up2_f (by decide)]; exact z1
  · rw [up2_f (by decide), up2_f (by decide)]; exact z2
  · rw [up2_f (by decide), up2_f (by decide)]; exact z3 k hk
  · rw [up2_f (by decide), up2_f (by decide)]; exact z4
  · rw [hc2, up2_s, hv, z5]; omega
  · rw [hc2]; omega
/-- the desk, with what its answers stand on -/
def Desk (G : Gh) (S : Pl) (da : Nat) (z : Int) (nt np : Nat) (bk : Nat → Int32) : Prop := ∃ (d sa sb sp te tm pe : Nat → Nat) (tf pf : Nat), d 0 = da ∧ CIs G S d sa sb sp te tm pe tf pf nt np ∧ CIn (pI S) d te pe nt np ∧ (pI S 61 (d 1)).toInt = z ∧ ∀ k, k < np → pI S 0 (pe k) = bk k
