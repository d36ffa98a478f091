section LCALL
variable {p : Program} {l : Launch} {e : Env} {s : State} {m : MethodId} {below : List Frame} {meth : Method} {c : Code} {H : Heap} {locs : List Loc} {cells slots : Nat} {Q : State → Prop}
variable {G : Gh} {pc : Nat} {ls : Array Slot} {rest : List Value}
def P_feed (D : T4) (a1 a2 a3 a4 a5 : Int32) (r : Int32) (E : T4) : Prop := E = (fdN D.1, D.2.1, D.2.2.1, D.2.2.2.1, fdB D.1 D.2.2.2.2.1 a1 a2 a3 a4 a5, D.2.2.2.2.2) ∧ r.toInt = fdR D.1
theorem ld_feed {b L : Nat} {xs : Nat → Int32} {x mo : Nat} {D M : T4} (C : LC p s m meth c b L xs G) (hW : LW G s x mo H locs D M) (a1 a2 a3 a4 a5 : Int32) (hls : ls.size = 4) (hR : (rest.map fun v => v.category).sum ≤ 8) (hdg : decode cL_law pc = .ok (.invokevirtual 13, 3)) (hf : cells + 0 ≤ room_1.cells ∧ slots + 0 ≤ room_1.slots)
    (kk : ∀ (r : Int32) (H1 : Heap) (locs1 : List Loc) (E : T4), P_feed D a1 a2 a3 a4 a5 r E → LW G s x mo H1 locs1 E M → W p l e room_1 s m #[Value.ref b] below meth c H1 locs1 (cells + 0) (slots + 0) Q (F0 m (pc + 3) ls (.int r :: rest))) : W p l e room_1 s m #[Value.ref b] below meth c H locs cells slots Q (F0 m pc ls (.int a5 :: .int a4 :: .int a3 :: .int a2 :: .int a1 :: .ref x :: rest)) := by
  obtain ⟨z, nt, np, bk, bt, V, tl, pl⟩ := D
  obtain ⟨S1, S2, hw, hw2, hdj, ⟨d, sa, sb, sp, te, tm, pe, tf, pf, rfl, hC, hN, hz, hbk, hAp, hCV, hTV, hPV⟩, hm, hPD, hPM⟩ := hW
  dsimp only at hC hN hz hbk hCV hTV hPV
  have hPD0 : ∀ k, k < np → ppV (pl k) := hPD
  subst hz
  have h0z := hN.2.2.2.1.1
  refine k2_Vi (n := 5) (As := [.int a1, .int a2, .int a3, .int a4, .int a5]) C.1 hw hw2 hdj (rcvk (ci := 10) C.1 hw hC.1 (fun _ _ _ _ _ _ _ => ⟨_, rfl⟩) rfl) (c_v_X10_feed l G S1 d sa sb sp te tm pe tf pf nt np a1 a2 a3 a4 a5 (pI S1 61 (d 1)).toInt.toNat hC hN (by omega)) wd_r6_15 wd_r6_16 wd_r6_17 wd_r1_2 wd_r6_18 ⟨by decide, by decide, by decide +kernel⟩ rfl rfl ⟨Nat.le_of_ble_eq_true rfl, Nat.le_of_ble_eq_true rfl⟩ rfl rfl hls hR hdg hf (fun r S' H1 locs1 hp hw hw2 hdj => ?_)
  obtain ⟨I', q', rfl, ⟨h1, h2⟩, ⟨g1, g2, g3⟩, h3⟩ := hp
  exact kk r H1 locs1 (fdN (pI S1 61 (d 1)).toInt, nt, np, bk, fdB (pI S1 61 (d 1)).toInt bt a1 a2 a3 a4 a5, V, tl, pl) ⟨rfl, h3⟩ ⟨_, S2, hw, hw2, hdj, DeskW.nx hC (hN.sz h1 (by rw [h2]; exact fdN_b hN.2.2.2.1)) h2 (fun k hk => (congrFun (h1 0 (by decide)) _).trans (hbk k hk)) hAp (hCV.fd h0z g1 g2 g3 (fun j hj => (hAp.2.2.2.1 j hj).1.1) (h1 15 (by decide))) (hTV.sz hC h1 g3) (hPV.sz h1), hm, hPD0, hPM⟩
theorem lm_feed {b L : Nat} {xs : Nat → Int32} {x mo : Nat} {D M : T4} (C : LC p s m meth c b L xs G) (hW : LW G s x mo H locs D M) (a1 a2 a3 a4 a5 : Int32) (hls : ls.size = 4) (hR : (rest.map fun v => v.category).sum ≤ 8) (hdg : decode cL_law pc = .ok (.invokevirtual 17, 3)) (hf : cells + 0 ≤ room_1.cells ∧ slots + 0 ≤ room_1.slots)
    (kk : ∀ (r : Int32) (H1 : Heap) (locs1 : List Loc) (E : T4), P_feed M a1 a2 a3 a4 a5 r E → LW G s x mo H1 locs1 D E → W p l e room_1 s m #[Value.ref b] below meth c H1 locs1 (cells + 0) (slots + 0) Q (F0 m (pc + 3) ls (.int r :: rest))) : W p l e room_1 s m #[Value.ref b] below meth c H locs cells slots Q (F0 m pc ls (.int a5 :: .int a4 :: .int a3 :: .int a2 :: .int a1 :: .ref mo :: rest)) := by
  obtain ⟨z, nt, np, bk, bt, V, tl, pl⟩ := M
  obtain ⟨S1, S2, hw, hw2, hdj, hD, ⟨ma, bn, rfl, hM, hI, hz, ht, hn, hb, hv, hTs, hPs⟩, hPD, hPM⟩ := hW
  dsimp only at hz ht hn hb hv hTs hPs
  have hPM0 : ∀ k, k < np → ppV (pl k) := hPM
  have h0z : 0 ≤ z := hz ▸ hI.1.1.1
  refine k2_Vi (n := 5) (As := [.int a1, .int a2, .int a3, .int a4, .int a5]) C.1 hw2 hw (fun a h2 h1 => hdj a h1 h2) (rcvk (ci := 11) C.1 hw2 hM.1 (fun _ _ _ _ _ _ _ => ⟨_, rfl⟩) rfl) (c_v_X11_feed l G S2 ma z.toNat a1 a2 a3 a4 a5 hM hI (by rw [hz]; omega)) wd_r7_8 wd_r7_9 wd_r7_10 wd_r1_5 wd_r7_11 ⟨by decide, by decide, by decide +kernel⟩ rfl rfl ⟨Nat.le_of_ble_eq_true rfl, Nat.le_of_ble_eq_true rfl⟩ rfl rfl hls hR hdg hf (fun r S' H1 locs1 hp hw2 hw hdj => ?_)
  obtain ⟨I', q', rfl, g1, g2, g3, g4, g5, g7, g8, g9, g10, g6⟩ := hp
  rw [hz] at g2 g6 g7 g8
  exact kk r H1 locs1 (fdN z, nt, np, bk, fdB z bt a1 a2 a3 a4 a5, V, tl, pl) ⟨rfl, g6⟩ ⟨S1, _, hw, hw2, (fun a h1 h2 => hdj a h2 h1), hD, ⟨ma, bn, rfl, hM, g1, g2, ((congrArg Int32.toInt g3).trans ht), ((congrArg Int32.toInt g4).trans hn), (fun k hk => (congrFun g5 k).trans (hb k hk)), (hv.b (fdB_y h0z hv.1 g7 g8) (fun j h1 h2 => g9 j h1 (by omega)) g10), (hTs.cg (fun j h1 h2 => g9 j (by omega) (by omega))), (hPs.cg (fun j h1 h2 => g9 j (by omega) (by omega)))⟩, hPD, hPM0⟩
theorem dt_feed {D E F : T4} {a1 a2 a3 a4 a5 : Int32} {r r' : Int32} (h : P_feed D a1 a2 a3 a4 a5 r E) (h' : P_feed D a1 a2 a3 a4 a5 r' F) : E = F := h.1.trans h'.1.symm
theorem eq_feed {D E F : T4} {a1 a2 a3 a4 a5 : Int32} {r r' : Int32} (h : P_feed D a1 a2 a3 a4 a5 r E) (h' : P_feed D a1 a2 a3 a4 a5 r' F) : r = r' := Int32.toInt_inj.mp (h.2.trans h'.2.symm)
def P_end (D : T4) (a1 : Int32) (r : Int32) (E : T4) : Prop := E = (edN D.1 a1.toInt, D.2) ∧ r.toInt = edR D.1 a1.toInt
theorem ld_end {b L : Nat} {xs : Nat → Int32} {x mo : Nat} {D M : T4} (C : LC p s m meth c b L xs G) (hW : LW G s x mo H locs D M) (a1 : Int32) (hls : ls.size = 4) (hR : (rest.map fun v => v.category).sum ≤ 8) (hdg : decode cL_law pc = .ok (.invokevirtual 18, 3)) (hf : cells + 0 ≤ room_1.cells ∧ slots + 0 ≤ room_1.slots)
    (kk : ∀ (r : Int32) (H1 : Heap) (locs1 : List Loc) (E : T4), P_end D a1 r E → LW G s x mo H1 locs1 E M → W p l e room_1 s m #[Value.ref b] below meth c H1 locs1 (cells + 0) (slots + 0) Q (F0 m (pc + 3) ls (.int r :: rest))) : W p l e room_1 s m #[Value.ref b] below meth c H locs cells slots Q (F0 m pc ls (.int a1 :: .ref x :: rest)) := by
  obtain ⟨z, nt, np, bk, bt, V, tl, pl⟩ := D
  obtain ⟨S1, S2, hw, hw2, hdj, ⟨d, sa, sb, sp, te, tm, pe, tf, pf, rfl, hC, hN, hz, hbk, hAp, hCV, hTV, hPV⟩, hm, hPD, hPM⟩ := hW
  dsimp only at hC hN hz hbk hCV hTV hPV
  have hPD0 : ∀ k, k < np → ppV (pl k) := hPD
  subst hz
  have h0z := hN.2.2.2.1.1
  refine k2_Vi (n := 1) (As := [.int a1]) C.1 hw hw2 hdj (rcvk (ci := 10) C.1 hw hC.1 (fun _ _ _ _ _ _ _ => ⟨_, rfl⟩) rfl) (c_X10_end l G S1 d sa sb sp te tm pe tf pf nt np a1 hC hN) wd_r7_13 wd_r7_14 wd_r7_15 wd_r1_2 wd_r7_16 ⟨by decide, by decide, by decide +kernel⟩ rfl rfl ⟨Nat.le_of_ble_eq_true rfl, Nat.le_of_ble_eq_true rfl⟩ rfl rfl hls hR hdg hf (fun r S' H1 locs1 hp hw hw2 hdj => ?_)
  obtain ⟨I', rfl, ⟨h1, h2⟩, h3⟩ := hp
  exact kk r H1 locs1 (edN (pI S1 61 (d 1)).toInt a1.toInt, nt, np, bk, bt, V, tl, pl) ⟨rfl, h3⟩ ⟨_, S2, hw, hw2, hdj, DeskW.nx hC (hN.sz h1 (by rw [h2]; exact edN_b hN.2.2.2.1)) h2 (fun k hk => (congrFun (h1 0 (by decide)) _).trans (hbk k hk)) hAp (hCV.ed edN_le (h1 15 (by decide))) (hTV.sz hC h1 (fun _ _ => rfl)) (hPV.sz h1), hm, hPD0, hPM⟩
theorem lm_end {b L : Nat} {xs : Nat → Int32} {x mo : Nat} {D M : T4} (C : LC p s m meth c b L xs G) (hW : LW G s x mo H locs D M) (a1 : Int32) (hls : ls.size = 4) (hR : (rest.map fun v => v.category).sum ≤ 8) (hdg : decode cL_law pc = .ok (.invokevirtual 22, 3)) (hf : cells + 0 ≤ room_1.cells ∧ slots + 0 ≤ room_1.slots)
    (kk : ∀ (r : Int32) (H1 : Heap) (locs1 : List Loc) (E : T4), P_end M a1 r E → LW G s x mo H1 locs1 D E → W p l e room_1 s m #[Value.ref b] below meth c H1 locs1 (cells + 0) (slots + 0) Q (F0 m (pc + 3) ls (.int r :: rest))) : W p l e room_1 s m #[Value.ref b] below meth c H locs cells slots Q (F0 m pc ls (.int a1 :: .ref mo :: rest)) := by
  obtain ⟨z, nt, np, bk, bt, V, tl, pl⟩ := M
  obtain ⟨S1, S2, hw, hw2, hdj, hD, ⟨ma, bn, rfl, hM, hI, hz, ht, hn, hb, hv, hTs, hPs⟩, hPD, hPM⟩ := hW
  dsimp only at hz ht hn hb hv hTs hPs
  have hPM0 : ∀ k, k < np → ppV (pl k) := hPM
  have h0z : 0 ≤ z := hz ▸ hI.1.1.1
  refine k2_Vi (n := 1) (As := [.int a1]) C.1 hw2 hw (fun a h2 h1 => hdj a h1 h2) (rcvk (ci := 11) C.1 hw2 hM.1 (fun _ _ _ _ _ _ _ => ⟨_, rfl⟩) rfl) (c_v_X11_end l G S2 ma a1 hM hI) wd_r8_0 wd_r8_1 wd_r8_2 wd_r1_5 wd_r8_3 ⟨by decide, by decide, by decide +kernel⟩ rfl rfl ⟨Nat.le_of_ble_eq_true rfl, Nat.le_of_ble_eq_true rfl⟩ rfl rfl hls hR hdg hf (fun r S' H1 locs1 hp hw2 hw hdj => ?_)
  obtain ⟨I', q', rfl, g1, g2, g3, g4, g5, rfl, g10, g6⟩ := hp
  rw [hz] at g2 g6
  exact kk r H1 locs1 (edN z a1.toInt, nt, np, bk, bt, V, tl, pl) ⟨rfl, g6⟩ ⟨S1, _, hw, hw2, (fun a h1 h2 => hdj a h2 h1), hD, ⟨ma, bn, rfl, hM, g1, g2, ((congrArg Int32.toInt g3).trans ht), ((congrArg Int32.toInt g4).trans hn), (fun k hk => (congrFun g5 k).trans (hb k hk)), (hv.b (fun j hj => hv.1 j (by have := edN_le (z := z) (n := a1.toInt); omega)) (fun _ _ _ => rfl) g10), hTs, hPs⟩, hPD, hPM0⟩
theorem dt_end {D E F : T4} {a1 : Int32} {r r' : Int32} (h : P_end D a1 r E) (h' : P_end D a1 r' F) : E = F := h.1.trans h'.1.symm
theorem eq_end {D E F : T4} {a1 : Int32} {r r' : Int32} (h : P_end D a1 r E) (h' : P_end D a1 r' F) : r = r' := Int32.toInt_inj.mp (h.2.trans h'.2.symm)
def P_sea (D : T4) (r : Int32) (E : T4) : Prop := (∃ V9 : SV, Pars (tx D.2.2.2.2.1 D.1.toNat) D.1.toNat 61 sv0 0 (some V9) ∧ r.toInt = V9.1 ∧ E = (0, D.2.1, D.2.2.1, D.2.2.2.1, D.2.2.2.2.1, V9, D.2.2.2.2.2.2)) ∨ (Pars (tx D.2.2.2.2.1 D.1.toNat) D.1.toNat 61 sv0 0 none ∧ r = -1 ∧ E = (0, D.2))
theorem ld_sea {b L : Nat} {xs : Nat → Int32} {x mo : Nat} {D M : T4} (C : LC p s m meth c b L xs G) (hW : LW G s x mo H locs D M) (hls : ls.size = 4) (hR : (rest.map fun v => v.category).sum ≤ 8) (hdg : decode cL_law pc = .ok (.invokevirtual 23, 3)) (hf : cells + 0 ≤ room_1.cells ∧ slots + 0 ≤ room_1.slots)
    (kk : ∀ (r : Int32) (H1 : Heap) (locs1 : List Loc) (E : T4), P_sea D  r E → LW G s x mo H1 locs1 E M → W p l e room_1 s m #[Value.ref b] below meth c H1 locs1 (cells + 0) (slots + 0) Q (F0 m (pc + 3) ls (.int r :: rest))) : W p l e room_1 s m #[Value.ref b] below meth c H locs cells slots Q (F0 m pc ls (.ref x :: rest)) := by
  obtain ⟨z, nt, np, bk, bt, V, tl, pl⟩ := D
  obtain ⟨S1, S2, hw, hw2, hdj, ⟨d, sa, sb, sp, te, tm, pe, tf, pf, rfl, hC, hN, hz, hbk, hAp, hCV, hTV, hPV⟩, hm, hPD, hPM⟩ := hW
  dsimp only at hC hN hz hbk hCV hTV hPV
  have hPD0 : ∀ k, k < np → ppV (pl k) := hPD
  subst hz
  have h0z := hN.2.2.2.1.1
  refine k2_Vi (n := 0) (As := []) C.1 hw hw2 hdj (rcvk (ci := 10) C.1 hw hC.1 (fun _ _ _ _ _ _ _ => ⟨_, rfl⟩) rfl) (c_w_X10_sea l G S1 d sa sb sp te tm pe tf pf nt np  bt V tl pl (pI S1 61 (d 1)).toInt.toNat hC hN hAp hCV hTV hPV (by omega)) wd_r8_4 wd_r8_5 wd_r8_6 wd_r1_2 wd_r8_7 ⟨by decide, by decide, by decide +kernel⟩ rfl rfl ⟨Nat.le_of_ble_eq_true rfl, Nat.le_of_ble_eq_true rfl⟩ rfl rfl hls hR hdg hf (fun r S' H1 locs1 hp hw hw2 hdj => ?_)
  rcases hp with ⟨V9, p1, p2, hp⟩ | ⟨p1, p2, hp⟩
  · exact kk r H1 locs1 (0, nt, np, bk, bt, V9, tl, pl) (Or.inl ⟨V9, p1, p2, rfl⟩) ⟨_, S2, hw, hw2, hdj, hp.to hbk, hm, hPD0, hPM⟩
  · exact kk r H1 locs1 (0, nt, np, bk, bt, V, tl, pl) (Or.inr ⟨p1, p2, rfl⟩) ⟨_, S2, hw, hw2, hdj, hp.to hbk, hm, hPD0, hPM⟩
theorem lm_sea {b L : Nat} {xs : Nat → Int32} {x mo : Nat} {D M : T4} (C : LC p s m meth c b L xs G) (hW : LW G s x mo H locs D M) (hls : ls.size = 4) (hR : (rest.map fun v => v.category).sum ≤ 8) (hdg : decode cL_law pc = .ok (.invokevirtual 27, 3)) (hf : cells + 0 ≤ room_1.cells ∧ slots + 0 ≤ room_1.slots)
    (kk : ∀ (r : Int32) (H1 : Heap) (locs1 : List Loc) (E : T4), P_sea M  r E → LW G s x mo H1 locs1 D E → W p l e room_1 s m #[Value.ref b] below meth c H1 locs1 (cells + 0) (slots + 0) Q (F0 m (pc + 3) ls (.int r :: rest))) : W p l e room_1 s m #[Value.ref b] below meth c H locs cells slots Q (F0 m pc ls (.ref mo :: rest)) := by
  obtain ⟨z, nt, np, bk, bt, V, tl, pl⟩ := M
  obtain ⟨S1, S2, hw, hw2, hdj, hD, ⟨ma, bn, rfl, hM, hI, hz, ht, hn, hb, hv, hTs, hPs⟩, hPD, hPM⟩ := hW
  dsimp only at hz ht hn hb hv hTs hPs
  have hPM0 : ∀ k, k < np → ppV (pl k) := hPM
  have h0z : 0 ≤ z := hz ▸ hI.1.1.1
  refine k2_Vi (n := 0) (As := []) C.1 hw2 hw (fun a h2 h1 => hdj a h1 h2) (rcvk (ci := 11) C.1 hw2 hM.1 (fun _ _ _ _ _ _ _ => ⟨_, rfl⟩) rfl) (c_w_X11_sea l G S2 ma (tx bt z.toNat) z.toNat bn hM hI (tx_cong (fun i hi => (hv.1 i (by omega)).symm)) (by rw [hz]; omega) hv.2.1 hv.2.2.1) wd_r20_5 wd_r20_6 wd_r20_7 wd_r1_5 wd_r20_8 ⟨by decide, by decide, by decide +kernel⟩ rfl rfl ⟨Nat.le_of_ble_eq_true rfl, Nat.le_of_ble_eq_true rfl⟩ rfl rfl hls hR hdg hf (fun r S' H1 locs1 hp hw2 hw hdj => ?_)
  obtain ⟨I', J', q', rfl, g1, g2, g3, g4, g5, gS⟩ := hp
  rcases gS with ⟨V9, p1, p2, e1, mb, l1, vk⟩ | ⟨p1, p2, e1, kb⟩
  · exact kk r H1 locs1 (0, nt, np, bk, bt, V9, tl, pl) (Or.inl ⟨V9, p1, p2, rfl⟩) ⟨S1, _, hw, hw2, (fun a h1 h2 => hdj a h2 h1), hD, ⟨ma, (1 - bn), rfl, hM, g1, (by show (I' 102 (ma 0)).toInt = 0; rw [g2]; decide), ((congrArg Int32.toInt g3).trans ht), ((congrArg Int32.toInt g4).trans hn), (fun k hk => (congrFun (g5 40 (by decide) (by decide)) k).trans (hb k hk)), ⟨fun j hj => absurd hj (by omega), e1, by omega, mb, l1, vk⟩, (hTs.cg (fun j h1 h2 => g5 j (by omega) (by omega))), (hPs.cg (fun j h1 h2 => g5 j (by omega) (by omega)))⟩, hPD, hPM0⟩
  · have hb1 := hv.2.2.1
    exact kk r H1 locs1 (0, nt, np, bk, bt, V, tl, pl) (Or.inr ⟨p1, Int32.toInt_inj.mp (p2.trans (by decide)), rfl⟩) ⟨S1, _, hw, hw2, (fun a h1 h2 => hdj a h2 h1), hD, ⟨ma, bn, rfl, hM, g1, (by show (I' 102 (ma 0)).toInt = 0; rw [g2]; decide), ((congrArg Int32.toInt g3).trans ht), ((congrArg Int32.toInt g4).trans hn), (fun k hk => (congrFun (g5 40 (by decide) (by decide)) k).trans (hb k hk)), ⟨fun j hj => absurd hj (by omega), e1, hb1, KeepB.ob kb (by omega) hv.2.2.2.1, (by show (q' (ma 12) bn).toInt = _; rw [kb 12 (by decide) (by decide) bn (show bn < 1 * (1 - bn) ∨ 1 * (1 - bn + 1) ≤ bn by omega)]; exact hv.2.2.2.2.1), hv.2.2.2.2.2⟩, (hTs.cg (fun j h1 h2 => g5 j (by omega) (by omega))), (hPs.cg (fun j h1 h2 => g5 j (by omega) (by omega)))⟩, hPD, hPM0⟩
theorem dt_sea {D E F : T4} {r r' : Int32} (h : P_sea D  r E) (h' : P_sea D  r' F) : E = F := by
  rcases h with ⟨V1, a1, b1, e1⟩ | ⟨a1, b1, e1⟩ <;> rcases h' with ⟨V2, a2, b2, e2⟩ | ⟨a2, b2, e2⟩
  · have e := Option.some.inj (Pars_u a1 a2)
    subst e; exact e1.trans e2.symm
  · exact absurd (Pars_u a1 a2) (fun q => by cases q)
  · exact absurd (Pars_u a1 a2) (fun q => by cases q)
  · exact e1.trans e2.symm
theorem eq_sea {D E F : T4} {r r' : Int32} (h : P_sea D  r E) (h' : P_sea D  r' F) : r = r' := by
  rcases h with ⟨V1, a1, b1, e1⟩ | ⟨a1, b1, e1⟩ <;> rcases h' with ⟨V2, a2, b2, e2⟩ | ⟨a2, b2, e2⟩
  · have e := Option.some.inj (Pars_u a1 a2)
    subst e; exact Int32.toInt_inj.mp (b1.trans b2.symm)
  · exact absurd (Pars_u a1 a2) (fun q => by cases q)
  · exact absurd (Pars_u a1 a2) (fun q => by cases q)
  · exact b1.trans b2.symm
def P_fault (D : T4) (a1 : Int32) (_r : Int32) (E : T4) : Prop := E = D
theorem ld_fault {b L : Nat} {xs : Nat → Int32} {x mo : Nat} {D M : T4} (C : LC p s m meth c b L xs G) (hW : LW G s x mo H locs D M) (a1 : Int32) (hls : ls.size = 4) (hR : (rest.map fun v => v.category).sum ≤ 8) (hdg : decode cL_law pc = .ok (.invokevirtual 28, 3)) (hf : cells + 0 ≤ room_1.cells ∧ slots + 0 ≤ room_1.slots)
    (kk : ∀ (r : Int32) (H1 : Heap) (locs1 : List Loc) (E : T4), P_fault D a1 r E → LW G s x mo H1 locs1 E M → W p l e room_1 s m #[Value.ref b] below meth c H1 locs1 (cells + 0) (slots + 0) Q (F0 m (pc + 3) ls (.int r :: rest))) : W p l e room_1 s m #[Value.ref b] below meth c H locs cells slots Q (F0 m pc ls (.int a1 :: .ref x :: rest)) := by
  obtain ⟨z, nt, np, bk, bt, V, tl, pl⟩ := D
  obtain ⟨S1, S2, hw, hw2, hdj, ⟨d, sa, sb, sp, te, tm, pe, tf, pf, rfl, hC, hN, hz, hbk, hAp, hCV, hTV, hPV⟩, hm, hPD, hPM⟩ := hW
  dsimp only at hC hN hz hbk hCV hTV hPV
  have hPD0 : ∀ k, k < np → ppV (pl k) := hPD
  subst hz
  have h0z := hN.2.2.2.1.1
  refine k2_Vi (n := 1) (As := [.int a1]) C.1 hw hw2 hdj (rcvk (ci := 10) C.1 hw hC.1 (fun _ _ _ _ _ _ _ => ⟨_, rfl⟩) rfl) (c_X10_fault l G S1 d sa sb sp te tm pe tf pf nt np a1 hC hN) wd_r23_18 wd_r23_19 wd_r23_20 wd_r1_2 wd_r23_21 ⟨by decide, by decide, by decide +kernel⟩ rfl rfl ⟨Nat.le_of_ble_eq_true rfl, Nat.le_of_ble_eq_true rfl⟩ rfl rfl hls hR hdg hf (fun r S' H1 locs1 hp hw hw2 hdj => ?_)
  obtain ⟨rfl, -⟩ := hp
  exact kk r H1 locs1 (_, nt, np, bk, bt, V, tl, pl) rfl ⟨_, S2, hw, hw2, hdj, DeskW.nx hC hN rfl hbk hAp hCV hTV hPV, hm, hPD0, hPM⟩
theorem lm_fault {b L : Nat} {xs : Nat → Int32} {x mo : Nat} {D M : T4} (C : LC p s m meth c b L xs G) (hW : LW G s x mo H locs D M) (a1 : Int32) (hls : ls.size = 4) (hR : (rest.map fun v => v.category).sum ≤ 8) (hdg : decode cL_law pc = .ok (.invokevirtual 31, 3)) (hf : cells + 0 ≤ room_1.cells ∧ slots + 0 ≤ room_1.slots)
    (kk : ∀ (r : Int32) (H1 : Heap) (locs1 : List Loc) (E : T4), P_fault M a1 r E → LW G s x mo H1 locs1 D E → W p l e room_1 s m #[Value.ref b] below meth c H1 locs1 (cells + 0) (slots + 0) Q (F0 m (pc + 3) ls (.int r :: rest))) : W p l e room_1 s m #[Value.ref b] below meth c H locs cells slots Q (F0 m pc ls (.int a1 :: .ref mo :: rest)) := by
  obtain ⟨z, nt, np, bk, bt, V, tl, pl⟩ := M
  obtain ⟨S1, S2, hw, hw2, hdj, hD, ⟨ma, bn, rfl, hM, hI, hz, ht, hn, hb, hv, hTs, hPs⟩, hPD, hPM⟩ := hW
  dsimp only at hz ht hn hb hv hTs hPs
  have hPM0 : ∀ k, k < np → ppV (pl k) := hPM
  have h0z : 0 ≤ z := hz ▸ hI.1.1.1
  refine k2_Vi (n := 1) (As := [.int a1]) C.1 hw2 hw (fun a h2 h1 => hdj a h1 h2) (rcvk (ci := 11) C.1 hw2 hM.1 (fun _ _ _ _ _ _ _ => ⟨_, rfl⟩) rfl) (c_X11_fault l G S2 ma a1 hM) wd_r24_6 wd_r24_7 wd_r24_8 wd_r1_5 wd_r24_9 ⟨by decide, by decide, by decide +kernel⟩ rfl rfl ⟨Nat.le_of_ble_eq_true rfl, Nat.le_of_ble_eq_true rfl⟩ rfl rfl hls hR hdg hf (fun r S' H1 locs1 hp hw2 hw hdj => ?_)
  obtain ⟨rfl, -⟩ := hp
  exact kk r H1 locs1 (z, nt, np, bk, bt, V, tl, pl) rfl ⟨S1, _, hw, hw2, (fun a h1 h2 => hdj a h2 h1), hD, ⟨ma, bn, rfl, hM, hI, hz, ht, hn, hb, hv, hTs, hPs⟩, hPD, hPM0⟩
theorem dt_fault {D E F : T4} {a1 : Int32} {r r' : Int32} (h : P_fault D a1 r E) (h' : P_fault D a1 r' F) : E = F := h.trans h'.symm
def P_wind (D : T4) (a1 a2 : Int32) (r : Int32) (E : T4) : Prop := E = D ∧ r = (if 0 ≤ a1.toInt ∧ a1.toInt < 72 then (if a2 = 0 then sr (D.2.2.2.2.2.1.2 13) (D.2.2.2.2.2.1.2 11) a1.toNatClampNeg else sr (D.2.2.2.2.2.1.2 13) (D.2.2.2.2.2.1.2 12) a1.toNatClampNeg) else -100)
theorem ld_wind {b L : Nat} {xs : Nat → Int32} {x mo : Nat} {D M : T4} (C : LC p s m meth c b L xs G) (hW : LW G s x mo H locs D M) (a1 a2 : Int32) (hls : ls.size = 4) (hR : (rest.map fun v => v.category).sum ≤ 8) (hdg : decode cL_law pc = .ok (.invokevirtual 32, 3)) (hf : cells + 0 ≤ room_1.cells ∧ slots + 0 ≤ room_1.slots)
    (kk : ∀ (r : Int32) (H1 : Heap) (locs1 : List Loc) (E : T4), P_wind D a1 a2 r E → LW G s x mo H1 locs1 E M → W p l e room_1 s m #[Value.ref b] below meth c H1 locs1 (cells + 0) (slots + 0) Q (F0 m (pc + 3) ls (.int r :: rest))) : W p l e room_1 s m #[Value.ref b] below meth c H locs cells slots Q (F0 m pc ls (.int a2 :: .int a1 :: .ref x :: rest)) := by
  obtain ⟨z, nt, np, bk, bt, V, tl, pl⟩ := D
  obtain ⟨S1, S2, hw, hw2, hdj, ⟨d, sa, sb, sp, te, tm, pe, tf, pf, rfl, hC, hN, hz, hbk, hAp, hCV, hTV, hPV⟩, hm, hPD, hPM⟩ := hW
  dsimp only at hC hN hz hbk hCV hTV hPV
  have hPD0 : ∀ k, k < np → ppV (pl k) := hPD
  subst hz
  have h0z := hN.2.2.2.1.1
  refine k2_Vi (n := 2) (As := [.int a1, .int a2]) C.1 hw hw2 hdj (rcvk (ci := 10) C.1 hw hC.1 (fun _ _ _ _ _ _ _ => ⟨_, rfl⟩) rfl) (c_v_X10_wind l G S1 d sa sb sp te tm pe tf pf nt np a1 a2 bt V hC hN hCV) wd_r24_10 wd_r24_11 wd_r24_12 wd_r1_2 wd_r24_13 ⟨by decide, by decide, by decide +kernel⟩ rfl rfl ⟨Nat.le_of_ble_eq_true rfl, Nat.le_of_ble_eq_true rfl⟩ rfl rfl hls hR hdg hf (fun r S' H1 locs1 hp hw hw2 hdj => ?_)
  obtain ⟨rfl, hv⟩ := hp
  exact kk r H1 locs1 (_, nt, np, bk, bt, V, tl, pl) ⟨rfl, hv⟩ ⟨_, S2, hw, hw2, hdj, DeskW.nx hC hN rfl hbk hAp hCV hTV hPV, hm, hPD0, hPM⟩
theorem lm_wind {b L : Nat} {xs : Nat → Int32} {x mo : Nat} {D M : T4} (C : LC p s m meth c b L xs G) (hW : LW G s x mo H locs D M) (a1 a2 : Int32) (hls : ls.size = 4) (hR : (rest.map fun v => v.category).sum ≤ 8) (hdg : decode cL_law pc = .ok (.invokevirtual 36, 3)) (hf : cells + 0 ≤ room_1.cells ∧ slots + 0 ≤ room_1.slots)
    (kk : ∀ (r : Int32) (H1 : Heap) (locs1 : List Loc) (E : T4), P_wind M a1 a2 r E → LW G s x mo H1 locs1 D E → W p l e room_1 s m #[Value.ref b] below meth c H1 locs1 (cells + 0) (slots + 0) Q (F0 m (pc + 3) ls (.int r :: rest))) : W p l e room_1 s m #[Value.ref b] below meth c H locs cells slots Q (F0 m pc ls (.int a2 :: .int a1 :: .ref mo :: rest)) := by
  obtain ⟨z, nt, np, bk, bt, V, tl, pl⟩ := M
  obtain ⟨S1, S2, hw, hw2, hdj, hD, ⟨ma, bn, rfl, hM, hI, hz, ht, hn, hb, hv, hTs, hPs⟩, hPD, hPM⟩ := hW
  dsimp only at hz ht hn hb hv hTs hPs
  have hPM0 : ∀ k, k < np → ppV (pl k) := hPM
  have h0z : 0 ≤ z := hz ▸ hI.1.1.1
  refine k2_Vi (n := 2) (As := [.int a1, .int a2]) C.1 hw2 hw (fun a h2 h1 => hdj a h1 h2) (rcvk (ci := 11) C.1 hw2 hM.1 (fun _ _ _ _ _ _ _ => ⟨_, rfl⟩) rfl) (c_v_X11_wind l G S2 ma a1 a2 bn V hM hv.2.1 hv.2.2.1 hv.2.2.2.1 hv.2.2.2.2.2) wd_r24_16 wd_r24_17 wd_r24_18 wd_r1_5 wd_r24_19 ⟨by decide, by decide, by decide +kernel⟩ rfl rfl ⟨Nat.le_of_ble_eq_true rfl, Nat.le_of_ble_eq_true rfl⟩ rfl rfl hls hR hdg hf (fun r S' H1 locs1 hp hw2 hw hdj => ?_)
  obtain ⟨rfl, h9⟩ := hp
  exact kk r H1 locs1 (z, nt, np, bk, bt, V, tl, pl) ⟨rfl, h9⟩ ⟨S1, _, hw, hw2, (fun a h1 h2 => hdj a h2 h1), hD, ⟨ma, bn, rfl, hM, hI, hz, ht, hn, hb, hv, hTs, hPs⟩, hPD, hPM0⟩
theorem dt_wind {D E F : T4} {a1 a2 : Int32} {r r' : Int32} (h : P_wind D a1 a2 r E) (h' : P_wind D a1 a2 r' F) : E = F := h.1.trans h'.1.symm
theorem eq_wind {D E F : T4} {a1 a2 : Int32} {r r' : Int32} (h : P_wind D a1 a2 r E) (h' : P_wind D a1 a2 r' F) : r = r' := h.2.trans h'.2.symm
def P_stream (D : T4) (a1 a2 a3 : Int32) (r : Int32) (E : T4) : Prop := E = D ∧ r = (if 0 ≤ a1.toInt ∧ a1.toInt < 4 ∧ 0 ≤ a2.toInt ∧ a2.toInt < 72 then (if a3 = 0 then sr (D.2.2.2.2.2.1.2 (10 + 4 * (a1.toNatClampNeg + 1) + 3)) (D.2.2.2.2.2.1.2 (10 + 4 * (a1.toNatClampNeg + 1) + 1)) a2.toNatClampNeg else sr (D.2.2.2.2.2.1.2 (10 + 4 * (a1.toNatClampNeg + 1) + 3)) (D.2.2.2.2.2.1.2 (10 + 4 * (a1.toNatClampNeg + 1) + 2)) a2.toNatClampNeg) else -100)
theorem ld_stream {b L : Nat} {xs : Nat → Int32} {x mo : Nat} {D M : T4} (C : LC p s m meth c b L xs G) (hW : LW G s x mo H locs D M) (a1 a2 a3 : Int32) (hls : ls.size = 4) (hR : (rest.map fun v => v.category).sum ≤ 8) (hdg : decode cL_law pc = .ok (.invokevirtual 37, 3)) (hf : cells + 0 ≤ room_1.cells ∧ slots + 0 ≤ room_1.slots)
    (kk : ∀ (r : Int32) (H1 : Heap) (locs1 : List Loc) (E : T4), P_stream D a1 a2 a3 r E → LW G s x mo H1 locs1 E M → W p l e room_1 s m #[Value.ref b] below meth c H1 locs1 (cells + 0) (slots + 0) Q (F0 m (pc + 3) ls (.int r :: rest))) : W p l e room_1 s m #[Value.ref b] below meth c H locs cells slots Q (F0 m pc ls (.int a3 :: .int a2 :: .int a1 :: .ref x :: rest)) := by
  obtain ⟨z, nt, np, bk, bt, V, tl, pl⟩ := D
  obtain ⟨S1, S2, hw, hw2, hdj, ⟨d, sa, sb, sp, te, tm, pe, tf, pf, rfl, hC, hN, hz, hbk, hAp, hCV, hTV, hPV⟩, hm, hPD, hPM⟩ := hW
  dsimp only at hC hN hz hbk hCV hTV hPV
  have hPD0 : ∀ k, k < np → ppV (pl k) := hPD
  subst hz
  have h0z := hN.2.2.2.1.1
  refine k2_Vi (n := 3) (As := [.int a1, .int a2, .int a3]) C.1 hw hw2 hdj (rcvk (ci := 10) C.1 hw hC.1 (fun _ _ _ _ _ _ _ => ⟨_, rfl⟩) rfl) (c_v_X10_stream l G S1 d sa sb sp te tm pe tf pf nt np a1 a2 a3 bt V hC hN hCV) wd_r25_3 wd_r25_4 wd_r25_5 wd_r1_2 wd_r25_6 ⟨by decide, by decide, by decide +kernel⟩ rfl rfl ⟨Nat.le_of_ble_eq_true rfl, Nat.le_of_ble_eq_true rfl⟩ rfl rfl hls hR hdg hf (fun r S' H1 locs1 hp hw hw2 hdj => ?_)
  obtain ⟨rfl, hv⟩ := hp
  exact kk r H1 locs1 (_, nt, np, bk, bt, V, tl, pl) ⟨rfl, hv⟩ ⟨_, S2, hw, hw2, hdj, DeskW.nx hC hN rfl hbk hAp hCV hTV hPV, hm, hPD0, hPM⟩
theorem lm_stream {b L : Nat} {xs : Nat → Int32} {x mo : Nat} {D M : T4} (C : LC p s m meth c b L xs G) (hW : LW G s x mo H locs D M) (a1 a2 a3 : Int32) (hls : ls.size = 4) (hR : (rest.map fun v => v.category).sum ≤ 8) (hdg : decode cL_law pc = .ok (.invokevirtual 41, 3)) (hf : cells + 0 ≤ room_1.cells ∧ slots + 0 ≤ room_1.slots)
    (kk : ∀ (r : Int32) (H1 : Heap) (locs1 : List Loc) (E : T4), P_stream M a1 a2 a3 r E → LW G s x mo H1 locs1 D E → W p l e room_1 s m #[Value.ref b] below meth c H1 locs1 (cells + 0) (slots + 0) Q (F0 m (pc + 3) ls (.int r :: rest))) : W p l e room_1 s m #[Value.ref b] below meth c H locs cells slots Q (F0 m pc ls (.int a3 :: .int a2 :: .int a1 :: .ref mo :: rest)) := by
  obtain ⟨z, nt, np, bk, bt, V, tl, pl⟩ := M
  obtain ⟨S1, S2, hw, hw2, hdj, hD, ⟨ma, bn, rfl, hM, hI, hz, ht, hn, hb, hv, hTs, hPs⟩, hPD, hPM⟩ := hW
  dsimp only at hz ht hn hb hv hTs hPs
  have hPM0 : ∀ k, k < np → ppV (pl k) := hPM
  have h0z : 0 ≤ z := hz ▸ hI.1.1.1
  refine k2_Vi (n := 3) (As := [.int a1, .int a2, .int a3]) C.1 hw2 hw (fun a h2 h1 => hdj a h1 h2) (rcvk (ci := 11) C.1 hw2 hM.1 (fun _ _ _ _ _ _ _ => ⟨_, rfl⟩) rfl) (c_v_X11_stream l G S2 ma a1 a2 a3 bn V hM hv.2.1 hv.2.2.1 hv.2.2.2.1 hv.2.2.2.2.2) wd_r25_9 wd_r25_10 wd_r25_11 wd_r1_5 wd_r25_12 ⟨by decide, by decide, by decide +kernel⟩ rfl rfl ⟨Nat.le_of_ble_eq_true rfl, Nat.le_of_ble_eq_true rfl⟩ rfl rfl hls hR hdg hf (fun r S' H1 locs1 hp hw2 hw hdj => ?_)
  obtain ⟨rfl, h9⟩ := hp
  exact kk r H1 locs1 (z, nt, np, bk, bt, V, tl, pl) ⟨rfl, h9⟩ ⟨S1, _, hw, hw2, (fun a h1 h2 => hdj a h2 h1), hD, ⟨ma, bn, rfl, hM, hI, hz, ht, hn, hb, hv, hTs, hPs⟩, hPD, hPM0⟩
theorem dt_stream {D E F : T4} {a1 a2 a3 : Int32} {r r' : Int32} (h : P_stream D a1 a2 a3 r E) (h' : P_stream D a1 a2 a3 r' F) : E = F := h.1.trans h'.1.symm
theorem eq_stream {D E F : T4} {a1 a2 a3 : Int32} {r r' : Int32} (h : P_stream D a1 a2 a3 r E) (h' : P_stream D a1 a2 a3 r' F) : r = r' := h.2.trans h'.2.symm
def P_miss (D : T4) (a1 a2 : Int32) (r : Int32) (E : T4) : Prop := E = D ∧ r = (if 0 ≤ a1.toInt ∧ a1.toInt < 2 ∧ 0 ≤ a2.toInt ∧ a2.toInt ≤ 20 then sm (D.2.2.2.2.2.1.2 4) (21 * a1.toNatClampNeg + a2.toNatClampNeg) else -1)
theorem ld_miss {b L : Nat} {xs : Nat → Int32} {x mo : Nat} {D M : T4} (C : LC p s m meth c b L xs G) (hW : LW G s x mo H locs D M) (a1 a2 : Int32) (hls : ls.size = 4) (hR : (rest.map fun v => v.category).sum ≤ 8) (hdg : decode cL_law pc = .ok (.invokevirtual 42, 3)) (hf : cells + 0 ≤ room_1.cells ∧ slots + 0 ≤ room_1.slots)
    (kk : ∀ (r : Int32) (H1 : Heap) (locs1 : List Loc) (E : T4), P_miss D a1 a2 r E → LW G s x mo H1 locs1 E M → W p l e room_1 s m #[Value.ref b] below meth c H1 locs1 (cells + 0) (slots + 0) Q (F0 m (pc + 3) ls (.int r :: rest))) : W p l e room_1 s m #[Value.ref b] below meth c H locs cells slots Q (F0 m pc ls (.int a2 :: .int a1 :: .ref x :: rest)) := by
  obtain ⟨z, nt, np, bk, bt, V, tl, pl⟩ := D
  obtain ⟨S1, S2, hw, hw2, hdj, ⟨d, sa, sb, sp, te, tm, pe, tf, pf, rfl, hC, hN, hz, hbk, hAp, hCV, hTV, hPV⟩, hm, hPD, hPM⟩ := hW
  dsimp only at hC hN hz hbk hCV hTV hPV
  have hPD0 : ∀ k, k < np → ppV (pl k) := hPD
  subst hz
  have h0z := hN.2.2.2.1.1
  refine k2_Vi (n := 2) (As := [.int a1, .int a2]) C.1 hw hw2 hdj (rcvk (ci := 10) C.1 hw hC.1 (fun _ _ _ _ _ _ _ => ⟨_, rfl⟩) rfl) (c_v_X10_miss l G S1 d sa sb sp te tm pe tf pf nt np a1 a2 bt V hC hN hCV) wd_r25_17 wd_r25_18 wd_r25_19 wd_r1_2 wd_r25_20 ⟨by decide, by decide, by decide +kernel⟩ rfl rfl ⟨Nat.le_of_ble_eq_true rfl, Nat.le_of_ble_eq_true rfl⟩ rfl rfl hls hR hdg hf (fun r S' H1 locs1 hp hw hw2 hdj => ?_)
  obtain ⟨rfl, hv⟩ := hp
  exact kk r H1 locs1 (_, nt, np, bk, bt, V, tl, pl) ⟨rfl, hv⟩ ⟨_, S2, hw, hw2, hdj, DeskW.nx hC hN rfl hbk hAp hCV hTV hPV, hm, hPD0, hPM⟩
theorem lm_miss {b L : Nat} {xs : Nat → Int32} {x mo : Nat} {D M : T4} (C : LC p s m meth c b L xs G) (hW : LW G s x mo H locs D M) (a1 a2 : Int32) (hls : ls.size = 4) (hR : (rest.map fun v => v.category).sum ≤ 8) (hdg : decode cL_law pc = .ok (.invokevirtual 46, 3)) (hf : cells + 0 ≤ room_1.cells ∧ slots + 0 ≤ room_1.slots)
    (kk : ∀ (r : Int32) (H1 : Heap) (locs1 : List Loc) (E : T4), P_miss M a1 a2 r E → LW G s x mo H1 locs1 D E → W p l e room_1 s m #[Value.ref b] below meth c H1 locs1 (cells + 0) (slots + 0) Q (F0 m (pc + 3) ls (.int r :: rest))) : W p l e room_1 s m #[Value.ref b] below meth c H locs cells slots Q (F0 m pc ls (.int a2 :: .int a1 :: .ref mo :: rest)) := by
  obtain ⟨z, nt, np, bk, bt, V, tl, pl⟩ := M
  obtain ⟨S1, S2, hw, hw2, hdj, hD, ⟨ma, bn, rfl, hM, hI, hz, ht, hn, hb, hv, hTs, hPs⟩, hPD, hPM⟩ := hW
  dsimp only at hz ht hn hb hv hTs hPs
  have hPM0 : ∀ k, k < np → ppV (pl k) := hPM
  have h0z : 0 ≤ z := hz ▸ hI.1.1.1
  refine k2_Vi (n := 2) (As := [.int a1, .int a2]) C.1 hw2 hw (fun a h2 h1 => hdj a h1 h2) (rcvk (ci := 11) C.1 hw2 hM.1 (fun _ _ _ _ _ _ _ => ⟨_, rfl⟩) rfl) (c_v_X11_miss l G S2 ma a1 a2 bn V hM hv.2.1 hv.2.2.1 hv.2.2.2.1 hv.2.2.2.2.2) wd_r25_23 wd_r26_0 wd_r26_1 wd_r1_5 wd_r26_2 ⟨by decide, by decide, by decide +kernel⟩ rfl rfl ⟨Nat.le_of_ble_eq_true rfl, Nat.le_of_ble_eq_true rfl⟩ rfl rfl hls hR hdg hf (fun r S' H1 locs1 hp hw2 hw hdj => ?_)
  obtain ⟨rfl, h9⟩ := hp
  exact kk r H1 locs1 (z, nt, np, bk, bt, V, tl, pl) ⟨rfl, h9⟩ ⟨S1, _, hw, hw2, (fun a h1 h2 => hdj a h2 h1), hD, ⟨ma, bn, rfl, hM, hI, hz, ht, hn, hb, hv, hTs, hPs⟩, hPD, hPM0⟩
theorem dt_miss {D E F : T4} {a1 a2 : Int32} {r r' : Int32} (h : P_miss D a1 a2 r E) (h' : P_miss D a1 a2 r' F) : E = F := h.1.trans h'.1.symm
theorem eq_miss {D E F : T4} {a1 a2 : Int32} {r r' : Int32} (h : P_miss D a1 a2 r E) (h' : P_miss D a1 a2 r' F) : r = r' := h.2.trans h'.2.symm
def P_land (D : T4) (a1 : Int32) (r : Int32) (E : T4) : Prop := E = D ∧ r = (if 0 ≤ a1.toInt ∧ a1.toInt < 64 then (if D.2.2.2.2.2.1.2 3 a1.toNatClampNeg = 0 then 0 else 1) else -1)
theorem ld_land {b L : Nat} {xs : Nat → Int32} {x mo : Nat} {D M : T4} (C : LC p s m meth c b L xs G) (hW : LW G s x mo H locs D M) (a1 : Int32) (hls : ls.size = 4) (hR : (rest.map fun v => v.category).sum ≤ 8) (hdg : decode cL_law pc = .ok (.invokevirtual 47, 3)) (hf : cells + 0 ≤ room_1.cells ∧ slots + 0 ≤ room_1.slots)
    (kk : ∀ (r : Int32) (H1 : Heap) (locs1 : List Loc) (E : T4), P_land D a1 r E → LW G s x mo H1 locs1 E M → W p l e room_1 s m #[Value.ref b] below meth c H1 locs1 (cells + 0) (slots + 0) Q (F0 m (pc + 3) ls (.int r :: rest))) : W p l e room_1 s m #[Value.ref b] below meth c H locs cells slots Q (F0 m pc ls (.int a1 :: .ref x :: rest)) := by
  obtain ⟨z, nt, np, bk, bt, V, tl, pl⟩ := D
  obtain ⟨S1, S2, hw, hw2, hdj, ⟨d, sa, sb, sp, te, tm, pe, tf, pf, rfl, hC, hN, hz, hbk, hAp, hCV, hTV, hPV⟩, hm, hPD, hPM⟩ := hW
  dsimp only at hC hN hz hbk hCV hTV hPV
  have hPD0 : ∀ k, k < np → ppV (pl k) := hPD
  subst hz
  have h0z := hN.2.2.2.1.1
  refine k2_Vi (n := 1) (As := [.int a1]) C.1 hw hw2 hdj (rcvk (ci := 10) C.1 hw hC.1 (fun _ _ _ _ _ _ _ => ⟨_, rfl⟩) rfl) (c_v_X10_land l G S1 d sa sb sp te tm pe tf pf nt np a1 bt V hC hN hCV) wd_r26_10 wd_r26_11 wd_r26_12 wd_r1_2 wd_r26_13 ⟨by decide, by decide, by decide +kernel⟩ rfl rfl ⟨Nat.le_of_ble_eq_true rfl, Nat.le_of_ble_eq_true rfl⟩ rfl rfl hls hR hdg hf (fun r S' H1 locs1 hp hw hw2 hdj => ?_)
  obtain ⟨rfl, hv⟩ := hp
  exact kk r H1 locs1 (_, nt, np, bk, bt, V, tl, pl) ⟨rfl, hv⟩ ⟨_, S2, hw, hw2, hdj, DeskW.nx hC hN rfl hbk hAp hCV hTV hPV, hm, hPD0, hPM⟩
theorem lm_land {b L : Nat} {xs : Nat → Int32} {x mo : Nat} {D M : T4} (C : LC p s m meth c b L xs G) (hW : LW G s x mo H locs D M) (a1 : Int32) (hls : ls.size = 4) (hR : (rest.map fun v => v.category).sum ≤ 8) (hdg : decode cL_law pc = .ok (.invokevirtual 50, 3)) (hf : cells + 0 ≤ room_1.cells ∧ slots + 0 ≤ room_1.slots)
    (kk : ∀ (r : Int32) (H1 : Heap) (locs1 : List Loc) (E : T4), P_land M a1 r E → LW G s x mo H1 locs1 D E → W p l e room_1 s m #[Value.ref b] below meth c H1 locs1 (cells + 0) (slots + 0) Q (F0 m (pc + 3) ls (.int r :: rest))) : W p l e room_1 s m #[Value.ref b] below meth c H locs cells slots Q (F0 m pc ls (.int a1 :: .ref mo :: rest)) := by
  obtain ⟨z, nt, np, bk, bt, V, tl, pl⟩ := M
  obtain ⟨S1, S2, hw, hw2, hdj, hD, ⟨ma, bn, rfl, hM, hI, hz, ht, hn, hb, hv, hTs, hPs⟩, hPD, hPM⟩ := hW
  dsimp only at hz ht hn hb hv hTs hPs
  have hPM0 : ∀ k, k < np → ppV (pl k) := hPM
  have h0z : 0 ≤ z := hz ▸ hI.1.1.1
  refine k2_Vi (n := 1) (As := [.int a1]) C.1 hw2 hw (fun a h2 h1 => hdj a h1 h2) (rcvk (ci := 11) C.1 hw2 hM.1 (fun _ _ _ _ _ _ _ => ⟨_, rfl⟩) rfl) (c_v_X11_land l G S2 ma a1 bn V hM hv.2.1 hv.2.2.1 hv.2.2.2.1 hv.2.2.2.2.2) wd_r26_16 wd_r26_17 wd_r26_18 wd_r1_5 wd_r26_19 ⟨by decide, by decide, by decide +kernel⟩ rfl rfl ⟨Nat.le_of_ble_eq_true rfl, Nat.le_of_ble_eq_true rfl⟩ rfl rfl hls hR hdg hf (fun r S' H1 locs1 hp hw2 hw hdj => ?_)
  obtain ⟨rfl, h9⟩ := hp
  exact kk r H1 locs1 (z, nt, np, bk, bt, V, tl, pl) ⟨rfl, h9⟩ ⟨S1, _, hw, hw2, (fun a h1 h2 => hdj a h2 h1), hD, ⟨ma, bn, rfl, hM, hI, hz, ht, hn, hb, hv, hTs, hPs⟩, hPD, hPM0⟩
theorem dt_land {D E F : T4} {a1 : Int32} {r r' : Int32} (h : P_land D a1 r E) (h' : P_land D a1 r' F) : E = F := h.1.trans h'.1.symm
theorem eq_land {D E F : T4} {a1 : Int32} {r r' : Int32} (h : P_land D a1 r E) (h' : P_land D a1 r' F) : r = r' := h.2.trans h'.2.symm
def P_tale (D : T4) (a1 a2 a3 a4 a5 : Int32) (r : Int32) (E : T4) : Prop := (tlC a1 a2 a3 a4 a5 D.2.1 ∧ E = (D.1, D.2.1 + 1, D.2.2.1, D.2.2.2.1, D.2.2.2.2.1, D.2.2.2.2.2.1, (fun k => if k = D.2.1 then (a1, a2, a3, a4, a5) else D.2.2.2.2.2.2.1 k), D.2.2.2.2.2.2.2) ∧ r.toInt = (D.2.1 : Int)) ∨ (¬ tlC a1 a2 a3 a4 a5 D.2.1 ∧ E = D ∧ r = -1)
theorem ld_tale {b L : Nat} {xs : Nat → Int32} {x mo : Nat} {D M : T4} (C : LC p s m meth c b L xs G) (hW : LW G s x mo H locs D M) (a1 a2 a3 a4 a5 : Int32) (hls : ls.size = 4) (hR : (rest.map fun v => v.category).sum ≤ 8) (hdg : decode cL_law pc = .ok (.invokevirtual 51, 3)) (hf : cells + 3 ≤ room_1.cells ∧ slots + 169 ≤ room_1.slots)
    (kk : ∀ (r : Int32) (H1 : Heap) (locs1 : List Loc) (E : T4), P_tale D a1 a2 a3 a4 a5 r E → LW G s x mo H1 locs1 E M → W p l e room_1 s m #[Value.ref b] below meth c H1 locs1 (cells + 3) (slots + 169) Q (F0 m (pc + 3) ls (.int r :: rest))) : W p l e room_1 s m #[Value.ref b] below meth c H locs cells slots Q (F0 m pc ls (.int a5 :: .int a4 :: .int a3 :: .int a2 :: .int a1 :: .ref x :: rest)) := by
  obtain ⟨z, nt, np, bk, bt, V, tl, pl⟩ := D
  obtain ⟨S1, S2, hw, hw2, hdj, ⟨d, sa, sb, sp, te, tm, pe, tf, pf, rfl, hC, hN, hz, hbk, hAp, hCV, hTV, hPV⟩, hm, hPD, hPM⟩ := hW
  dsimp only at hC hN hz hbk hCV hTV hPV
  have hPD0 : ∀ k, k < np → ppV (pl k) := hPD
  subst hz
  have h0z := hN.2.2.2.1.1
  refine k2_Vi (n := 5) (As := [.int a1, .int a2, .int a3, .int a4, .int a5]) C.1 hw hw2 hdj (rcvk (ci := 10) C.1 hw hC.1 (fun _ _ _ _ _ _ _ => ⟨_, rfl⟩) rfl) (c_w_X10_tale l G S1 d sa sb sp te tm pe tf pf nt np a1 a2 a3 a4 a5 bt V tl pl hC hN hAp hCV hTV hPV) wd_r26_20 wd_r26_21 wd_r26_22 wd_r1_2 wd_r26_23 ⟨by decide, by decide, by decide +kernel⟩ rfl rfl ⟨Nat.le_of_ble_eq_true rfl, Nat.le_of_ble_eq_true rfl⟩ rfl rfl hls hR hdg hf (fun r S' H1 locs1 hp hw hw2 hdj => ?_)
  rcases hp with ⟨c1, h1, rfl⟩ | ⟨c1, h1, hp⟩
  · exact kk r H1 locs1 (_, nt, np, bk, bt, V, tl, pl) (Or.inr ⟨c1, rfl, h1⟩) ⟨_, S2, hw, hw2, hdj, DeskW.nx hC hN rfl hbk hAp hCV hTV hPV, hm, hPD0, hPM⟩
  · exact kk r H1 locs1 (_, nt + 1, np, bk, bt, V, (fun k => if k = nt then (a1, a2, a3, a4, a5) else tl k), pl) (Or.inl ⟨c1, rfl, h1⟩) ⟨_, S2, hw, hw2, hdj, hp.to hbk, hm, hPD0, hPM⟩
theorem lm_tale {b L : Nat} {xs : Nat → Int32} {x mo : Nat} {D M : T4} (C : LC p s m meth c b L xs G) (hW : LW G s x mo H locs D M) (a1 a2 a3 a4 a5 : Int32) (hls : ls.size = 4) (hR : (rest.map fun v => v.category).sum ≤ 8) (hdg : decode cL_law pc = .ok (.invokevirtual 54, 3)) (hf : cells + 0 ≤ room_1.cells ∧ slots + 0 ≤ room_1.slots)
    (kk : ∀ (r : Int32) (H1 : Heap) (locs1 : List Loc) (E : T4), P_tale M a1 a2 a3 a4 a5 r E → LW G s x mo H1 locs1 D E → W p l e room_1 s m #[Value.ref b] below meth c H1 locs1 (cells + 0) (slots + 0) Q (F0 m (pc + 3) ls (.int r :: rest))) : W p l e room_1 s m #[Value.ref b] below meth c H locs cells slots Q (F0 m pc ls (.int a5 :: .int a4 :: .int a3 :: .int a2 :: .int a1 :: .ref mo :: rest)) := by
  obtain ⟨z, nt, np, bk, bt, V, tl, pl⟩ := M
  obtain ⟨S1, S2, hw, hw2, hdj, hD, ⟨ma, bn, rfl, hM, hI, hz, ht, hn, hb, hv, hTs, hPs⟩, hPD, hPM⟩ := hW
  dsimp only at hz ht hn hb hv hTs hPs
  have hPM0 : ∀ k, k < np → ppV (pl k) := hPM
  have h0z : 0 ≤ z := hz ▸ hI.1.1.1
  refine k2_Vi (n := 5) (As := [.int a1, .int a2, .int a3, .int a4, .int a5]) C.1 hw2 hw (fun a h2 h1 => hdj a h1 h2) (rcvk (ci := 11) C.1 hw2 hM.1 (fun _ _ _ _ _ _ _ => ⟨_, rfl⟩) rfl) (c_w_X11_tale l G S2 ma a1 a2 a3 a4 a5 hM hI) wd_r29_14 wd_r29_15 wd_r29_16 wd_r1_5 wd_r29_17 ⟨by decide, by decide, by decide +kernel⟩ rfl rfl ⟨Nat.le_of_ble_eq_true rfl, Nat.le_of_ble_eq_true rfl⟩ rfl rfl hls hR hdg hf (fun r S' H1 locs1 hp hw2 hw hdj => ?_)
  rw [nN ht] at hp
  rcases hp with ⟨c1, h1, rfl⟩ | ⟨c1, h1, I', q', rfl, g1, g2, g3, g4, g5, g6, g7, g8⟩
  · exact kk r H1 locs1 (z, nt, np, bk, bt, V, tl, pl) (Or.inr ⟨c1, rfl, h1⟩) ⟨S1, _, hw, hw2, (fun a h1 h2 => hdj a h2 h1), hD, ⟨ma, bn, rfl, hM, hI, hz, ht, hn, hb, hv, hTs, hPs⟩, hPD, hPM0⟩
  · exact kk r H1 locs1 (z, nt + 1, np, bk, bt, V, (fun k => if k = nt then (a1, a2, a3, a4, a5) else tl k), pl) (Or.inl ⟨c1, rfl, h1.trans ht⟩) ⟨S1, _, hw, hw2, (fun a h1 h2 => hdj a h2 h1), hD, ⟨ma, bn, rfl, hM, g1, ((congrArg Int32.toInt g3).trans hz), (g2.trans (by rw [ht]; rfl)), ((congrArg Int32.toInt g4).trans hn), (fun k hk => (congrFun g5 k).trans (hb k hk)), (hv.k (fun j hj => g6 j (by omega) (by omega)) g7), (hTs.ad ht g8), (hPs.cg (fun j h1 h2 => g6 j (by omega) (by omega)))⟩, hPD, hPM0⟩
theorem dt_tale {D E F : T4} {a1 a2 a3 a4 a5 : Int32} {r r' : Int32} (h : P_tale D a1 a2 a3 a4 a5 r E) (h' : P_tale D a1 a2 a3 a4 a5 r' F) : E = F := by
  rcases h with ⟨c, h1⟩ | ⟨c, h1⟩ <;> rcases h' with ⟨c', h2⟩ | ⟨c', h2⟩
  · exact h1.1.trans h2.1.symm
  · exact absurd c c'
  · exact absurd c' c
  · exact h1.1.trans h2.1.symm
theorem eq_tale {D E F : T4} {a1 a2 a3 a4 a5 : Int32} {r r' : Int32} (h : P_tale D a1 a2 a3 a4 a5 r E) (h' : P_tale D a1 a2 a3 a4 a5 r' F) : r = r' := by
  rcases h with ⟨c, h1⟩ | ⟨c, h1⟩ <;> rcases h' with ⟨c', h2⟩ | ⟨c', h2⟩
  · exact Int32.toInt_inj.mp (h1.2.trans h2.2.symm)
  · exact absurd c c'
  · exact absurd c' c
  · exact h1.2.trans h2.2.symm
def P_place (D : T4) (a1 a2 : Int32) (r : Int32) (E : T4) : Prop := E = D ∧ r = (if (0 ≤ a1.toInt ∧ a1.toInt < (D.2.1 : Int)) ∧ 0 ≤ a2.toInt ∧ a2.toInt ≤ 72 then plc (drA D.2.2.2.2.2.1.2 (D.2.2.2.2.2.2.1 a1.toNatClampNeg) a2.toNatClampNeg) else -1)
theorem ld_place {b L : Nat} {xs : Nat → Int32} {x mo : Nat} {D M : T4} (C : LC p s m meth c b L xs G) (hW : LW G s x mo H locs D M) (a1 a2 : Int32) (hls : ls.size = 4) (hR : (rest.map fun v => v.category).sum ≤ 8) (hdg : decode cL_law pc = .ok (.invokevirtual 55, 3)) (hf : cells + 0 ≤ room_1.cells ∧ slots + 0 ≤ room_1.slots)
    (kk : ∀ (r : Int32) (H1 : Heap) (locs1 : List Loc) (E : T4), P_place D a1 a2 r E → LW G s x mo H1 locs1 E M → W p l e room_1 s m #[Value.ref b] below meth c H1 locs1 (cells + 0) (slots + 0) Q (F0 m (pc + 3) ls (.int r :: rest))) : W p l e room_1 s m #[Value.ref b] below meth c H locs cells slots Q (F0 m pc ls (.int a2 :: .int a1 :: .ref x :: rest)) := by
  obtain ⟨z, nt, np, bk, bt, V, tl, pl⟩ := D
  obtain ⟨S1, S2, hw, hw2, hdj, ⟨d, sa, sb, sp, te, tm, pe, tf, pf, rfl, hC, hN, hz, hbk, hAp, hCV, hTV, hPV⟩, hm, hPD, hPM⟩ := hW
  dsimp only at hC hN hz hbk hCV hTV hPV
  have hPD0 : ∀ k, k < np → ppV (pl k) := hPD
  subst hz
  have h0z := hN.2.2.2.1.1
  refine k2_Vi (n := 2) (As := [.int a1, .int a2]) C.1 hw hw2 hdj (rcvk (ci := 10) C.1 hw hC.1 (fun _ _ _ _ _ _ _ => ⟨_, rfl⟩) rfl) (c_v_X10_place l G S1 d sa sb sp te tm pe tf pf nt np a1 a2 tl V hC hN hTV) wd_r29_22 wd_r29_23 wd_r30_0 wd_r1_2 wd_r30_1 ⟨by decide, by decide, by decide +kernel⟩ rfl rfl ⟨Nat.le_of_ble_eq_true rfl, Nat.le_of_ble_eq_true rfl⟩ rfl rfl hls hR hdg hf (fun r S' H1 locs1 hp hw hw2 hdj => ?_)
  obtain ⟨rfl, hv⟩ := hp
  exact kk r H1 locs1 (_, nt, np, bk, bt, V, tl, pl) ⟨rfl, hv⟩ ⟨_, S2, hw, hw2, hdj, DeskW.nx hC hN rfl hbk hAp hCV hTV hPV, hm, hPD0, hPM⟩
theorem lm_place {b L : Nat} {xs : Nat → Int32} {x mo : Nat} {D M : T4} (C : LC p s m meth c b L xs G) (hW : LW G s x mo H locs D M) (a1 a2 : Int32) (hls : ls.size = 4) (hR : (rest.map fun v => v.category).sum ≤ 8) (hdg : decode cL_law pc = .ok (.invokevirtual 58, 3)) (hf : cells + 0 ≤ room_1.cells ∧ slots + 0 ≤ room_1.slots)
    (kk : ∀ (r : Int32) (H1 : Heap) (locs1 : List Loc) (E : T4), P_place M a1 a2 r E → LW G s x mo H1 locs1 D E → W p l e room_1 s m #[Value.ref b] below meth c H1 locs1 (cells + 0) (slots + 0) Q (F0 m (pc + 3) ls (.int r :: rest))) : W p l e room_1 s m #[Value.ref b] below meth c H locs cells slots Q (F0 m pc ls (.int a2 :: .int a1 :: .ref mo :: rest)) := by
  obtain ⟨z, nt, np, bk, bt, V, tl, pl⟩ := M
  obtain ⟨S1, S2, hw, hw2, hdj, hD, ⟨ma, bn, rfl, hM, hI, hz, ht, hn, hb, hv, hTs, hPs⟩, hPD, hPM⟩ := hW
  dsimp only at hz ht hn hb hv hTs hPs
  have hPM0 : ∀ k, k < np → ppV (pl k) := hPM
  have h0z : 0 ≤ z := hz ▸ hI.1.1.1
  refine k2_Vi (n := 2) (As := [.int a1, .int a2]) C.1 hw2 hw (fun a h2 h1 => hdj a h1 h2) (rcvk (ci := 11) C.1 hw2 hM.1 (fun _ _ _ _ _ _ _ => ⟨_, rfl⟩) rfl) (c_v_X11_place l G S2 ma a1 a2 bn V tl hM hI hv.2.1 hv.2.2.1 hv.2.2.2.1 hv.2.2.2.2.2 (fun k hk => hTs k (by omega))) wd_r30_13 wd_r30_14 wd_r30_15 wd_r1_5 wd_r30_16 ⟨by decide, by decide, by decide +kernel⟩ rfl rfl ⟨Nat.le_of_ble_eq_true rfl, Nat.le_of_ble_eq_true rfl⟩ rfl rfl hls hR hdg hf (fun r S' H1 locs1 hp hw2 hw hdj => ?_)
  obtain ⟨I', rfl, g2, h9⟩ := hp
  rw [ht] at h9
  exact kk r H1 locs1 (z, nt, np, bk, bt, V, tl, pl) ⟨rfl, h9⟩ ⟨S1, _, hw, hw2, (fun a h1 h2 => hdj a h2 h1), hD, ⟨ma, bn, rfl, hM, (hI.d g2), ((congrArg Int32.toInt (congrFun (g2 102 (by decide)) _)).trans hz), ((congrArg Int32.toInt (congrFun (g2 128 (by decide)) _)).trans ht), ((congrArg Int32.toInt (congrFun (g2 140 (by decide)) _)).trans hn), hb, (hv.k (fun _ _ => rfl) (congrFun (g2 120 (by decide)) _)), hTs, hPs⟩, hPD, hPM0⟩
theorem dt_place {D E F : T4} {a1 a2 : Int32} {r r' : Int32} (h : P_place D a1 a2 r E) (h' : P_place D a1 a2 r' F) : E = F := h.1.trans h'.1.symm
theorem eq_place {D E F : T4} {a1 a2 : Int32} {r r' : Int32} (h : P_place D a1 a2 r E) (h' : P_place D a1 a2 r' F) : r = r' := h.2.trans h'.2.symm
def P_state (D : T4) (a1 a2 : Int32) (r : Int32) (E : T4) : Prop := E = D ∧ r = (if (0 ≤ a1.toInt ∧ a1.toInt < (D.2.1 : Int)) ∧ 0 ≤ a2.toInt ∧ a2.toInt ≤ 72 then (drA D.2.2.2.2.2.1.2 (D.2.2.2.2.2.2.1 a1.toNatClampNeg) a2.toNatClampNeg).2.2 else -1)
theorem ld_state {b L : Nat} {xs : Nat → Int32} {x mo : Nat} {D M : T4} (C : LC p s m meth c b L xs G) (hW : LW G s x mo H locs D M) (a1 a2 : Int32) (hls : ls.size = 4) (hR : (rest.map fun v => v.category).sum ≤ 8) (hdg : decode cL_law pc = .ok (.invokevirtual 59, 3)) (hf : cells + 0 ≤ room_1.cells ∧ slots + 0 ≤ room_1.slots)
    (kk : ∀ (r : Int32) (H1 : Heap) (locs1 : List Loc) (E : T4), P_state D a1 a2 r E → LW G s x mo H1 locs1 E M → W p l e room_1 s m #[Value.ref b] below meth c H1 locs1 (cells + 0) (slots + 0) Q (F0 m (pc + 3) ls (.int r :: rest))) : W p l e room_1 s m #[Value.ref b] below meth c H locs cells slots Q (F0 m pc ls (.int a2 :: .int a1 :: .ref x :: rest)) := by
  obtain ⟨z, nt, np, bk, bt, V, tl, pl⟩ := D
  obtain ⟨S1, S2, hw, hw2, hdj, ⟨d, sa, sb, sp, te, tm, pe, tf, pf, rfl, hC, hN, hz, hbk, hAp, hCV, hTV, hPV⟩, hm, hPD, hPM⟩ := hW
  dsimp only at hC hN hz hbk hCV hTV hPV
  have hPD0 : ∀ k, k < np → ppV (pl k) := hPD
  subst hz
  have h0z := hN.2.2.2.1.1
  refine k2_Vi (n := 2) (As := [.int a1, .int a2]) C.1 hw hw2 hdj (rcvk (ci := 10) C.1 hw hC.1 (fun _ _ _ _ _ _ _ => ⟨_, rfl⟩) rfl) (c_v_X10_state l G S1 d sa sb sp te tm pe tf pf nt np a1 a2 tl V hC hN hTV) wd_r31_15 wd_r31_16 wd_r31_17 wd_r1_2 wd_r31_18 ⟨by decide, by decide, by decide +kernel⟩ rfl rfl ⟨Nat.le_of_ble_eq_true rfl, Nat.le_of_ble_eq_true rfl⟩ rfl rfl hls hR hdg hf (fun r S' H1 locs1 hp hw hw2 hdj => ?_)
  obtain ⟨rfl, hv⟩ := hp
  exact kk r H1 locs1 (_, nt, np, bk, bt, V, tl, pl) ⟨rfl, hv⟩ ⟨_, S2, hw, hw2, hdj, DeskW.nx hC hN rfl hbk hAp hCV hTV hPV, hm, hPD0, hPM⟩
theorem lm_state {b L : Nat} {xs : Nat → Int32} {x mo : Nat} {D M : T4} (C : LC p s m meth c b L xs G) (hW : LW G s x mo H locs D M) (a1 a2 : Int32) (hls : ls.size = 4) (hR : (rest.map fun v => v.category).sum ≤ 8) (hdg : decode cL_law pc = .ok (.invokevirtual 62, 3)) (hf : cells + 0 ≤ room_1.cells ∧ slots + 0 ≤ room_1.slots)
    (kk : ∀ (r : Int32) (H1 : Heap) (locs1 : List Loc) (E : T4), P_state M a1 a2 r E → LW G s x mo H1 locs1 D E → W p l e room_1 s m #[Value.ref b] below meth c H1 locs1 (cells + 0) (slots + 0) Q (F0 m (pc + 3) ls (.int r :: rest))) : W p l e room_1 s m #[Value.ref b] below meth c H locs cells slots Q (F0 m pc ls (.int a2 :: .int a1 :: .ref mo :: rest)) := by
  obtain ⟨z, nt, np, bk, bt, V, tl, pl⟩ := M
  obtain ⟨S1, S2, hw, hw2, hdj, hD, ⟨ma, bn, rfl, hM, hI, hz, ht, hn, hb, hv, hTs, hPs⟩, hPD, hPM⟩ := hW
  dsimp only at hz ht hn hb hv hTs hPs
  have hPM0 : ∀ k, k < np → ppV (pl k) := hPM
  have h0z : 0 ≤ z := hz ▸ hI.1.1.1
  refine k2_Vi (n := 2) (As := [.int a1, .int a2]) C.1 hw2 hw (fun a h2 h1 => hdj a h1 h2) (rcvk (ci := 11) C.1 hw2 hM.1 (fun _ _ _ _ _ _ _ => ⟨_, rfl⟩) rfl) (c_v_X11_state l G S2 ma a1 a2 bn V tl hM hI hv.2.1 hv.2.2.1 hv.2.2.2.1 hv.2.2.2.2.2 (fun k hk => hTs k (by omega))) wd_r31_23 wd_r32_0 wd_r32_1 wd_r1_5 wd_r32_2 ⟨by decide, by decide, by decide +kernel⟩ rfl rfl ⟨Nat.le_of_ble_eq_true rfl, Nat.le_of_ble_eq_true rfl⟩ rfl rfl hls hR hdg hf (fun r S' H1 locs1 hp hw2 hw hdj => ?_)
  obtain ⟨I', rfl, g2, h9⟩ := hp
  rw [ht] at h9
  exact kk r H1 locs1 (z, nt, np, bk, bt, V, tl, pl) ⟨rfl, h9⟩ ⟨S1, _, hw, hw2, (fun a h1 h2 => hdj a h2 h1), hD, ⟨ma, bn, rfl, hM, (hI.d g2), ((congrArg Int32.toInt (congrFun (g2 102 (by decide)) _)).trans hz), ((congrArg Int32.toInt (congrFun (g2 128 (by decide)) _)).trans ht), ((congrArg Int32.toInt (congrFun (g2 140 (by decide)) _)).trans hn), hb, (hv.k (fun _ _ => rfl) (congrFun (g2 120 (by decide)) _)), hTs, hPs⟩, hPD, hPM0⟩
theorem dt_state {D E F : T4} {a1 a2 : Int32} {r r' : Int32} (h : P_state D a1 a2 r E) (h' : P_state D a1 a2 r' F) : E = F := h.1.trans h'.1.symm
theorem eq_state {D E F : T4} {a1 a2 : Int32} {r r' : Int32} (h : P_state D a1 a2 r E) (h' : P_state D a1 a2 r' F) : r = r' := h.2.trans h'.2.symm
def P_search (D : T4) (a1 a2 a3 a4 a5 a6 a7 : Int32) (r : Int32) (E : T4) : Prop := (srC a1 a2 a3 a4 a5 a6 a7 D.2.2.1 (cntB D.2.2.2.1 D.2.2.1) ∧ E = (D.1, D.2.1, D.2.2.1 + 1, (fun k => if k = D.2.2.1 then 0 else D.2.2.2.1 k), D.2.2.2.2.1, D.2.2.2.2.2.1, D.2.2.2.2.2.2.1, (fun k => if k = D.2.2.1 then (a1, a2, a3, a4, a5, a6, a7) else D.2.2.2.2.2.2.2 k)) ∧ r.toInt = (D.2.2.1 : Int)) ∨ (¬ srC a1 a2 a3 a4 a5 a6 a7 D.2.2.1 (cntB D.2.2.2.1 D.2.2.1) ∧ E = D ∧ r = -1)
theorem ld_search {b L : Nat} {xs : Nat → Int32} {x mo : Nat} {D M : T4} (C : LC p s m meth c b L xs G) (hW : LW G s x mo H locs D M) (a1 a2 a3 a4 a5 a6 a7 : Int32) (hls : ls.size = 4) (hR : (rest.map fun v => v.category).sum ≤ 8) (hdg : decode cL_law pc = .ok (.invokevirtual 63, 3)) (hf : cells + 2 ≤ room_1.cells ∧ slots + 98 ≤ room_1.slots)
    (kk : ∀ (r : Int32) (H1 : Heap) (locs1 : List Loc) (E : T4), P_search D a1 a2 a3 a4 a5 a6 a7 r E → LW G s x mo H1 locs1 E M → W p l e room_1 s m #[Value.ref b] below meth c H1 locs1 (cells + 2) (slots + 98) Q (F0 m (pc + 3) ls (.int r :: rest))) : W p l e room_1 s m #[Value.ref b] below meth c H locs cells slots Q (F0 m pc ls (.int a7 :: .int a6 :: .int a5 :: .int a4 :: .int a3 :: .int a2 :: .int a1 :: .ref x :: rest)) := by
  obtain ⟨z, nt, np, bk, bt, V, tl, pl⟩ := D
  obtain ⟨S1, S2, hw, hw2, hdj, ⟨d, sa, sb, sp, te, tm, pe, tf, pf, rfl, hC, hN, hz, hbk, hAp, hCV, hTV, hPV⟩, hm, hPD, hPM⟩ := hW
  dsimp only at hC hN hz hbk hCV hTV hPV
  have hPD0 : ∀ k, k < np → ppV (pl k) := hPD
  subst hz
  have h0z := hN.2.2.2.1.1
  refine k2_Vi (n := 7) (As := [.int a1, .int a2, .int a3, .int a4, .int a5, .int a6, .int a7]) C.1 hw hw2 hdj (rcvk (ci := 10) C.1 hw hC.1 (fun _ _ _ _ _ _ _ => ⟨_, rfl⟩) rfl) (c_w_X10_search l G S1 d sa sb sp te tm pe tf pf nt np a1 a2 a3 a4 a5 a6 a7 bt V tl pl hC hN hAp hCV hTV hPV) wd_r32_3 wd_r32_4 wd_r32_5 wd_r1_2 wd_r32_6 ⟨by decide, by decide, by decide +kernel⟩ rfl rfl ⟨Nat.le_of_ble_eq_true rfl, Nat.le_of_ble_eq_true rfl⟩ rfl rfl hls hR hdg hf (fun r S' H1 locs1 hp hw hw2 hdj => ?_)
  rw [cntB_cong (fun k hk => hbk k hk)] at hp
  rcases hp with ⟨c1, h1, rfl⟩ | ⟨c1, h1, hp⟩
  · exact kk r H1 locs1 (_, nt, np, bk, bt, V, tl, pl) (Or.inr ⟨c1, rfl, h1⟩) ⟨_, S2, hw, hw2, hdj, DeskW.nx hC hN rfl hbk hAp hCV hTV hPV, hm, hPD0, hPM⟩
  · exact kk r H1 locs1 (_, nt, np + 1, (fun k => if k = np then 0 else bk k), bt, V, tl, (fun k => if k = np then (a1, a2, a3, a4, a5, a6, a7) else pl k)) (Or.inl ⟨c1, rfl, h1⟩) ⟨_, S2, hw, hw2, hdj, hp.to (bk_if (fun k hn hk => hbk k (by omega))), hm, (PD_ad hPD0 (by have t2 : (2 : Int32).toInt = 2 := (by decide); unfold srC at c1; unfold ppV; dsimp only; omega)), hPM⟩
theorem lm_search {b L : Nat} {xs : Nat → Int32} {x mo : Nat} {D M : T4} (C : LC p s m meth c b L xs G) (hW : LW G s x mo H locs D M) (a1 a2 a3 a4 a5 a6 a7 : Int32) (hls : ls.size = 4) (hR : (rest.map fun v => v.category).sum ≤ 8) (hdg : decode cL_law pc = .ok (.invokevirtual 67, 3)) (hf : cells + 0 ≤ room_1.cells ∧ slots + 0 ≤ room_1.slots)
    (kk : ∀ (r : Int32) (H1 : Heap) (locs1 : List Loc) (E : T4), P_search M a1 a2 a3 a4 a5 a6 a7 r E → LW G s x mo H1 locs1 D E → W p l e room_1 s m #[Value.ref b] below meth c H1 locs1 (cells + 0) (slots + 0) Q (F0 m (pc + 3) ls (.int r :: rest))) : W p l e room_1 s m #[Value.ref b] below meth c H locs cells slots Q (F0 m pc ls (.int a7 :: .int a6 :: .int a5 :: .int a4 :: .int a3 :: .int a2 :: .int a1 :: .ref mo :: rest)) := by
  obtain ⟨z, nt, np, bk, bt, V, tl, pl⟩ := M
  obtain ⟨S1, S2, hw, hw2, hdj, hD, ⟨ma, bn, rfl, hM, hI, hz, ht, hn, hb, hv, hTs, hPs⟩, hPD, hPM⟩ := hW
  dsimp only at hz ht hn hb hv hTs hPs
  have hPM0 : ∀ k, k < np → ppV (pl k) := hPM
  have h0z : 0 ≤ z := hz ▸ hI.1.1.1
  refine k2_Vi (n := 7) (As := [.int a1, .int a2, .int a3, .int a4, .int a5, .int a6, .int a7]) C.1 hw2 hw (fun a h2 h1 => hdj a h1 h2) (rcvk (ci := 11) C.1 hw2 hM.1 (fun _ _ _ _ _ _ _ => ⟨_, rfl⟩) rfl) (c_w_X11_search l G S2 ma a1 a2 a3 a4 a5 a6 a7 hM hI) wd_r33_12 wd_r33_13 wd_r33_14 wd_r1_5 wd_r33_15 ⟨by decide, by decide, by decide +kernel⟩ rfl rfl ⟨Nat.le_of_ble_eq_true rfl, Nat.le_of_ble_eq_true rfl⟩ rfl rfl hls hR hdg hf (fun r S' H1 locs1 hp hw2 hw hdj => ?_)
  rw [nN hn, cntB_cong (fun k hk => hb k hk)] at hp
  rcases hp with ⟨c1, h1, rfl⟩ | ⟨c1, h1, I', q', rfl, g1, g2, g3, g4, g5, g6, g7, g8⟩
  · exact kk r H1 locs1 (z, nt, np, bk, bt, V, tl, pl) (Or.inr ⟨c1, rfl, h1⟩) ⟨S1, _, hw, hw2, (fun a h1 h2 => hdj a h2 h1), hD, ⟨ma, bn, rfl, hM, hI, hz, ht, hn, hb, hv, hTs, hPs⟩, hPD, hPM0⟩
  · exact kk r H1 locs1 (z, nt, np + 1, (fun k => if k = np then 0 else bk k), bt, V, tl, (fun k => if k = np then (a1, a2, a3, a4, a5, a6, a7) else pl k)) (Or.inl ⟨c1, rfl, h1.trans hn⟩) ⟨S1, _, hw, hw2, (fun a h1 h2 => hdj a h2 h1), hD, ⟨ma, bn, rfl, hM, g1, ((congrArg Int32.toInt g3).trans hz), ((congrArg Int32.toInt g4).trans ht), (g2.trans (by rw [hn]; rfl)), (md_bk hn hb g5), (hv.k (fun j hj => g6 j (by omega) (by omega)) g7), (hTs.cg (fun j h1 h2 => g6 j (by omega) (by omega))), (hPs.ad hn g8)⟩, hPD, (PD_ad hPM0 (by have t2 : (2 : Int32).toInt = 2 := (by decide); unfold srC at c1; unfold ppV; dsimp only; omega))⟩
theorem dt_search {D E F : T4} {a1 a2 a3 a4 a5 a6 a7 : Int32} {r r' : Int32} (h : P_search D a1 a2 a3 a4 a5 a6 a7 r E) (h' : P_search D a1 a2 a3 a4 a5 a6 a7 r' F) : E = F := by
  rcases h with ⟨c, h1⟩ | ⟨c, h1⟩ <;> rcases h' with ⟨c', h2⟩ | ⟨c', h2⟩
  · exact h1.1.trans h2.1.symm
  · exact absurd c c'
  · exact absurd c' c
  · exact h1.1.trans h2.1.symm
theorem eq_search {D E F : T4} {a1 a2 a3 a4 a5 a6 a7 : Int32} {r r' : Int32} (h : P_search D a1 a2 a3 a4 a5 a6 a7 r E) (h' : P_search D a1 a2 a3 a4 a5 a6 a7 r' F) : r = r' := by
  rcases h with ⟨c, h1⟩ | ⟨c, h1⟩ <;> rcases h' with ⟨c', h2⟩ | ⟨c', h2⟩
  · exact Int32.toInt_inj.mp (h1.2.trans h2.2.symm)
  · exact absurd c c'
  · exact absurd c' c
  · exact h1.2.trans h2.2.symm
def P_clue (D : T4) (a1 a2 a3 a4 a5 : Int32) (r : Int32) (E : T4) : Prop := (clC a1 a2 a3 a4 a5 D.2.2.1 (cntB D.2.2.2.1 D.2.2.1) ∧ E = (D.1, D.2.1, D.2.2.1 + 1, (fun k => if k = D.2.2.1 then 0 else D.2.2.2.1 k), D.2.2.2.2.1, D.2.2.2.2.2.1, D.2.2.2.2.2.2.1, (fun k => if k = D.2.2.1 then (a1, a2, a3, a4, 0, 2, a5) else D.2.2.2.2.2.2.2 k)) ∧ r.toInt = (D.2.2.1 : Int)) ∨ (¬ clC a1 a2 a3 a4 a5 D.2.2.1 (cntB D.2.2.2.1 D.2.2.1) ∧ E = D ∧ r = -1)
theorem ld_clue {b L : Nat} {xs : Nat → Int32} {x mo : Nat} {D M : T4} (C : LC p s m meth c b L xs G) (hW : LW G s x mo H locs D M) (a1 a2 a3 a4 a5 : Int32) (hls : ls.size = 4) (hR : (rest.map fun v => v.category).sum ≤ 8) (hdg : decode cL_law pc = .ok (.invokevirtual 68, 3)) (hf : cells + 2 ≤ room_1.cells ∧ slots + 96 ≤ room_1.slots)
    (kk : ∀ (r : Int32) (H1 : Heap) (locs1 : List Loc) (E : T4), P_clue D a1 a2 a3 a4 a5 r E → LW G s x mo H1 locs1 E M → W p l e room_1 s m #[Value.ref b] below meth c H1 locs1 (cells + 2) (slots + 96) Q (F0 m (pc + 3) ls (.int r :: rest))) : W p l e room_1 s m #[Value.ref b] below meth c H locs cells slots Q (F0 m pc ls (.int a5 :: .int a4 :: .int a3 :: .int a2 :: .int a1 :: .ref x :: rest)) := by
  obtain ⟨z, nt, np, bk, bt, V, tl, pl⟩ := D
  obtain ⟨S1, S2, hw, hw2, hdj, ⟨d, sa, sb, sp, te, tm, pe, tf, pf, rfl, hC, hN, hz, hbk, hAp, hCV, hTV, hPV⟩, hm, hPD, hPM⟩ := hW
  dsimp only at hC hN hz hbk hCV hTV hPV
  have hPD0 : ∀ k, k < np → ppV (pl k) := hPD
  subst hz
  have h0z := hN.2.2.2.1.1
  refine k2_Vi (n := 5) (As := [.int a1, .int a2, .int a3, .int a4, .int a5]) C.1 hw hw2 hdj (rcvk (ci := 10) C.1 hw hC.1 (fun _ _ _ _ _ _ _ => ⟨_, rfl⟩) rfl) (c_w_X10_clue l G S1 d sa sb sp te tm pe tf pf nt np a1 a2 a3 a4 a5 bt V tl pl hC hN hAp hCV hTV hPV) wd_r34_5 wd_r34_6 wd_r34_7 wd_r1_2 wd_r34_8 ⟨by decide, by decide, by decide +kernel⟩ rfl rfl ⟨Nat.le_of_ble_eq_true rfl, Nat.le_of_ble_eq_true rfl⟩ rfl rfl hls hR hdg hf (fun r S' H1 locs1 hp hw hw2 hdj => ?_)
  rw [cntB_cong (fun k hk => hbk k hk)] at hp
  rcases hp with ⟨c1, h1, rfl⟩ | ⟨c1, h1, hp⟩
  · exact kk r H1 locs1 (_, nt, np, bk, bt, V, tl, pl) (Or.inr ⟨c1, rfl, h1⟩) ⟨_, S2, hw, hw2, hdj, DeskW.nx hC hN rfl hbk hAp hCV hTV hPV, hm, hPD0, hPM⟩
  · exact kk r H1 locs1 (_, nt, np + 1, (fun k => if k = np then 0 else bk k), bt, V, tl, (fun k => if k = np then (a1, a2, a3, a4, 0, 2, a5) else pl k)) (Or.inl ⟨c1, rfl, h1⟩) ⟨_, S2, hw, hw2, hdj, hp.to (bk_if (fun k hn hk => hbk k (by omega))), hm, (PD_ad hPD0 (by have t2 : (2 : Int32).toInt = 2 := (by decide); unfold clC at c1; unfold ppV; dsimp only; omega)), hPM⟩
theorem lm_clue {b L : Nat} {xs : Nat → Int32} {x mo : Nat} {D M : T4} (C : LC p s m meth c b L xs G) (hW : LW G s x mo H locs D M) (a1 a2 a3 a4 a5 : Int32) (hls : ls.size = 4) (hR : (rest.map fun v => v.category).sum ≤ 8) (hdg : decode cL_law pc = .ok (.invokevirtual 71, 3)) (hf : cells + 0 ≤ room_1.cells ∧ slots + 0 ≤ room_1.slots)
    (kk : ∀ (r : Int32) (H1 : Heap) (locs1 : List Loc) (E : T4), P_clue M a1 a2 a3 a4 a5 r E → LW G s x mo H1 locs1 D E → W p l e room_1 s m #[Value.ref b] below meth c H1 locs1 (cells + 0) (slots + 0) Q (F0 m (pc + 3) ls (.int r :: rest))) : W p l e room_1 s m #[Value.ref b] below meth c H locs cells slots Q (F0 m pc ls (.int a5 :: .int a4 :: .int a3 :: .int a2 :: .int a1 :: .ref mo :: rest)) := by
  obtain ⟨z, nt, np, bk, bt, V, tl, pl⟩ := M
  obtain ⟨S1, S2, hw, hw2, hdj, hD, ⟨ma, bn, rfl, hM, hI, hz, ht, hn, hb, hv, hTs, hPs⟩, hPD, hPM⟩ := hW
  dsimp only at hz ht hn hb hv hTs hPs
  have hPM0 : ∀ k, k < np → ppV (pl k) := hPM
  have h0z : 0 ≤ z := hz ▸ hI.1.1.1
  refine k2_Vi (n := 5) (As := [.int a1, .int a2, .int a3, .int a4, .int a5]) C.1 hw2 hw (fun a h2 h1 => hdj a h1 h2) (rcvk (ci := 11) C.1 hw2 hM.1 (fun _ _ _ _ _ _ _ => ⟨_, rfl⟩) rfl) (c_w_X11_clue l G S2 ma a1 a2 a3 a4 a5 hM hI) wd_r34_20 wd_r34_21 wd_r34_22 wd_r1_5 wd_r34_23 ⟨by decide, by decide, by decide +kernel⟩ rfl rfl ⟨Nat.le_of_ble_eq_true rfl, Nat.le_of_ble_eq_true rfl⟩ rfl rfl hls hR hdg hf (fun r S' H1 locs1 hp hw2 hw hdj => ?_)
  rw [nN hn, cntB_cong (fun k hk => hb k hk)] at hp
  rcases hp with ⟨c1, h1, rfl⟩ | ⟨c1, h1, I', q', rfl, g1, g2, g3, g4, g5, g6, g7, g8⟩
  · exact kk r H1 locs1 (z, nt, np, bk, bt, V, tl, pl) (Or.inr ⟨c1, rfl, h1⟩) ⟨S1, _, hw, hw2, (fun a h1 h2 => hdj a h2 h1), hD, ⟨ma, bn, rfl, hM, hI, hz, ht, hn, hb, hv, hTs, hPs⟩, hPD, hPM0⟩
  · exact kk r H1 locs1 (z, nt, np + 1, (fun k => if k = np then 0 else bk k), bt, V, tl, (fun k => if k = np then (a1, a2, a3, a4, 0, 2, a5) else pl k)) (Or.inl ⟨c1, rfl, h1.trans hn⟩) ⟨S1, _, hw, hw2, (fun a h1 h2 => hdj a h2 h1), hD, ⟨ma, bn, rfl, hM, g1, ((congrArg Int32.toInt g3).trans hz), ((congrArg Int32.toInt g4).trans ht), (g2.trans (by rw [hn]; rfl)), (md_bk hn hb g5), (hv.k (fun j hj => g6 j (by omega) (by omega)) g7), (hTs.cg (fun j h1 h2 => g6 j (by omega) (by omega))), (hPs.ad hn g8)⟩, hPD, (PD_ad hPM0 (by have t2 : (2 : Int32).toInt = 2 := (by decide); unfold clC at c1; unfold ppV; dsimp only; omega))⟩
theorem dt_clue {D E F : T4} {a1 a2 a3 a4 a5 : Int32} {r r' : Int32} (h : P_clue D a1 a2 a3 a4 a5 r E) (h' : P_clue D a1 a2 a3 a4 a5 r' F) : E = F := by
  rcases h with ⟨c, h1⟩ | ⟨c, h1⟩ <;> rcases h' with ⟨c', h2⟩ | ⟨c', h2⟩
  · exact h1.1.trans h2.1.symm
  · exact absurd c c'
  · exact absurd c' c
  · exact h1.1.trans h2.1.symm
theorem eq_clue {D E F : T4} {a1 a2 a3 a4 a5 : Int32} {r r' : Int32} (h : P_clue D a1 a2 a3 a4 a5 r E) (h' : P_clue D a1 a2 a3 a4 a5 r' F) : r = r' := by
  rcases h with ⟨c, h1⟩ | ⟨c, h1⟩ <;> rcases h' with ⟨c', h2⟩ | ⟨c', h2⟩
  · exact Int32.toInt_inj.mp (h1.2.trans h2.2.symm)
  · exact absurd c c'
  · exact absurd c' c
  · exact h1.2.trans h2.2.symm
def P_back (D : T4) (a1 : Int32) (r : Int32) (E : T4) : Prop := ((0 ≤ a1.toInt ∧ a1.toInt < (D.2.2.1 : Int) ∧ (D.2.2.2.1 a1.toNatClampNeg).toInt = 0) ∧ E = (D.1, D.2.1, D.2.2.1, (fun k => if k = a1.toNatClampNeg then 1 else D.2.2.2.1 k), D.2.2.2.2) ∧ r = 1) ∨ (¬ (0 ≤ a1.toInt ∧ a1.toInt < (D.2.2.1 : Int) ∧ (D.2.2.2.1 a1.toNatClampNeg).toInt = 0) ∧ E = D ∧ r = 0)
theorem ld_back {b L : Nat} {xs : Nat → Int32} {x mo : Nat} {D M : T4} (C : LC p s m meth c b L xs G) (hW : LW G s x mo H locs D M) (a1 : Int32) (hls : ls.size = 4) (hR : (rest.map fun v => v.category).sum ≤ 8) (hdg : decode cL_law pc = .ok (.invokevirtual 72, 3)) (hf : cells + 0 ≤ room_1.cells ∧ slots + 0 ≤ room_1.slots)
    (kk : ∀ (r : Int32) (H1 : Heap) (locs1 : List Loc) (E : T4), P_back D a1 r E → LW G s x mo H1 locs1 E M → W p l e room_1 s m #[Value.ref b] below meth c H1 locs1 (cells + 0) (slots + 0) Q (F0 m (pc + 3) ls (.int r :: rest))) : W p l e room_1 s m #[Value.ref b] below meth c H locs cells slots Q (F0 m pc ls (.int a1 :: .ref x :: rest)) := by
  obtain ⟨z, nt, np, bk, bt, V, tl, pl⟩ := D
  obtain ⟨S1, S2, hw, hw2, hdj, ⟨d, sa, sb, sp, te, tm, pe, tf, pf, rfl, hC, hN, hz, hbk, hAp, hCV, hTV, hPV⟩, hm, hPD, hPM⟩ := hW
  dsimp only at hC hN hz hbk hCV hTV hPV
  have hPD0 : ∀ k, k < np → ppV (pl k) := hPD
  subst hz
  have h0z := hN.2.2.2.1.1
  refine k2_Vi (n := 1) (As := [.int a1]) C.1 hw hw2 hdj (rcvk (ci := 10) C.1 hw hC.1 (fun _ _ _ _ _ _ _ => ⟨_, rfl⟩) rfl) (c_w_X10_back l G S1 d sa sb sp te tm pe tf pf nt np a1 bt V tl pl hC hN hAp hCV hTV hPV) wd_r35_0 wd_r35_1 wd_r35_2 wd_r1_2 wd_r35_3 ⟨by decide, by decide, by decide +kernel⟩ rfl rfl ⟨Nat.le_of_ble_eq_true rfl, Nat.le_of_ble_eq_true rfl⟩ rfl rfl hls hR hdg hf (fun r S' H1 locs1 hp hw hw2 hdj => ?_)
  have ce : (0 ≤ a1.toInt ∧ a1.toInt < (np : Int) ∧ (pI S1 0 (pe a1.toNatClampNeg)).toInt = 0) ↔ (0 ≤ a1.toInt ∧ a1.toInt < (np : Int) ∧ (bk a1.toNatClampNeg).toInt = 0) := ⟨fun ⟨q1, q2, q3⟩ => ⟨q1, q2, by rw [← hbk _ (clt q1 q2)]; exact q3⟩, fun ⟨q1, q2, q3⟩ => ⟨q1, q2, by rw [hbk _ (clt q1 q2)]; exact q3⟩⟩
  rw [ce] at hp
  rcases hp with ⟨h1, c1, hp⟩ | ⟨h1, c1, rfl⟩
  · exact kk r H1 locs1 (_, nt, np, (fun k => if k = a1.toNatClampNeg then 1 else bk k), bt, V, tl, pl) (Or.inl ⟨c1, rfl, h1⟩) ⟨_, S2, hw, hw2, hdj, hp.to (bk_if (fun k _ hk => hbk k hk)), hm, hPD0, hPM⟩
  · exact kk r H1 locs1 (_, nt, np, bk, bt, V, tl, pl) (Or.inr ⟨c1, rfl, h1⟩) ⟨_, S2, hw, hw2, hdj, DeskW.nx hC hN rfl hbk hAp hCV hTV hPV, hm, hPD0, hPM⟩
theorem lm_back {b L : Nat} {xs : Nat → Int32} {x mo : Nat} {D M : T4} (C : LC p s m meth c b L xs G) (hW : LW G s x mo H locs D M) (a1 : Int32) (hls : ls.size = 4) (hR : (rest.map fun v => v.category).sum ≤ 8) (hdg : decode cL_law pc = .ok (.invokevirtual 76, 3)) (hf : cells + 0 ≤ room_1.cells ∧ slots + 0 ≤ room_1.slots)
    (kk : ∀ (r : Int32) (H1 : Heap) (locs1 : List Loc) (E : T4), P_back M a1 r E → LW G s x mo H1 locs1 D E → W p l e room_1 s m #[Value.ref b] below meth c H1 locs1 (cells + 0) (slots + 0) Q (F0 m (pc + 3) ls (.int r :: rest))) : W p l e room_1 s m #[Value.ref b] below meth c H locs cells slots Q (F0 m pc ls (.int a1 :: .ref mo :: rest)) := by
  obtain ⟨z, nt, np, bk, bt, V, tl, pl⟩ := M
  obtain ⟨S1, S2, hw, hw2, hdj, hD, ⟨ma, bn, rfl, hM, hI, hz, ht, hn, hb, hv, hTs, hPs⟩, hPD, hPM⟩ := hW
  dsimp only at hz ht hn hb hv hTs hPs
  have hPM0 : ∀ k, k < np → ppV (pl k) := hPM
  have h0z : 0 ≤ z := hz ▸ hI.1.1.1
  refine k2_Vi (n := 1) (As := [.int a1]) C.1 hw2 hw (fun a h2 h1 => hdj a h1 h2) (rcvk (ci := 11) C.1 hw2 hM.1 (fun _ _ _ _ _ _ _ => ⟨_, rfl⟩) rfl) (c_w_X11_back l G S2 ma a1 hM hI) wd_r35_18 wd_r35_19 wd_r35_20 wd_r1_5 wd_r35_21 ⟨by decide, by decide, by decide +kernel⟩ rfl rfl ⟨Nat.le_of_ble_eq_true rfl, Nat.le_of_ble_eq_true rfl⟩ rfl rfl hls hR hdg hf (fun r S' H1 locs1 hp hw2 hw hdj => ?_)
  have ce : (0 ≤ a1.toInt ∧ a1.toInt < (pI S2 140 (ma 0)).toInt ∧ (qI S2 (ma 40) a1.toNatClampNeg).toInt = 0) ↔ (0 ≤ a1.toInt ∧ a1.toInt < (np : Int) ∧ (bk a1.toNatClampNeg).toInt = 0) := by
    rw [hn]
    exact ⟨fun ⟨q1, q2, q3⟩ => ⟨q1, q2, by rw [← hb _ (clt q1 q2)]; exact q3⟩, fun ⟨q1, q2, q3⟩ => ⟨q1, q2, by rw [hb _ (clt q1 q2)]; exact q3⟩⟩
  rw [ce] at hp
  rcases hp with ⟨h1, c1, q', rfl, g1, g2, g3⟩ | ⟨h1, c1, rfl⟩
  · exact kk r H1 locs1 (z, nt, np, (fun k => if k = a1.toNatClampNeg then 1 else bk k), bt, V, tl, pl) (Or.inl ⟨c1, rfl, h1⟩) ⟨S1, _, hw, hw2, (fun a h1 h2 => hdj a h2 h1), hD, ⟨ma, bn, rfl, hM, g1, hz, ht, hn, (fun k hk => by show q' (ma 40) k = _; rw [g2]; by_cases e : k = a1.toNatClampNeg; (dsimp only; rw [if_pos e, e, pk_us]); (dsimp only; rw [if_neg e, pk_un e]; exact hb k hk)), (hv.k (fun j hj => g3 j (by omega) (by omega)) rfl), (hTs.cg (fun j h1 h2 => g3 j (by omega) (by omega))), (hPs.cg (fun j h1 h2 => g3 j (by omega) (by omega)))⟩, hPD, hPM0⟩
  · exact kk r H1 locs1 (z, nt, np, bk, bt, V, tl, pl) (Or.inr ⟨c1, rfl, h1⟩) ⟨S1, _, hw, hw2, (fun a h1 h2 => hdj a h2 h1), hD, ⟨ma, bn, rfl, hM, hI, hz, ht, hn, hb, hv, hTs, hPs⟩, hPD, hPM0⟩
theorem dt_back {D E F : T4} {a1 : Int32} {r r' : Int32} (h : P_back D a1 r E) (h' : P_back D a1 r' F) : E = F := by
  rcases h with ⟨c, h1⟩ | ⟨c, h1⟩ <;> rcases h' with ⟨c', h2⟩ | ⟨c', h2⟩
  · exact h1.1.trans h2.1.symm
  · exact absurd c c'
  · exact absurd c' c
  · exact h1.1.trans h2.1.symm
theorem eq_back {D E F : T4} {a1 : Int32} {r r' : Int32} (h : P_back D a1 r E) (h' : P_back D a1 r' F) : r = r' := by
  rcases h with ⟨c, h1⟩ | ⟨c, h1⟩ <;> rcases h' with ⟨c', h2⟩ | ⟨c', h2⟩
  · exact h1.2.trans h2.2.symm
  · exact absurd c c'
  · exact absurd c' c
  · exact h1.2.trans h2.2.symm
def P_odds (D : T4) (a1 : Int32) (r : Int64) (E : T4) : Prop := E = D ∧ r = (if 0 ≤ a1.toInt ∧ a1.toInt < (D.2.1 : Int) then odF D.2.2.2.2.2.1.2 (D.2.2.2.2.2.2.1 a1.toNatClampNeg) D.2.2.2.2.2.2.2 D.2.2.2.1 D.2.2.1 else -1)
theorem ld_odds {b L : Nat} {xs : Nat → Int32} {x mo : Nat} {D M : T4} (C : LC p s m meth c b L xs G) (hW : LW G s x mo H locs D M) (a1 : Int32) (hls : ls.size = 4) (hR : (rest.map fun v => v.category).sum ≤ 8) (hdg : decode cL_law pc = .ok (.invokevirtual 77, 3)) (hf : cells + 0 ≤ room_1.cells ∧ slots + 0 ≤ room_1.slots)
    (kk : ∀ (r : Int64) (H1 : Heap) (locs1 : List Loc) (E : T4), P_odds D a1 r E → LW G s x mo H1 locs1 E M → W p l e room_1 s m #[Value.ref b] below meth c H1 locs1 (cells + 0) (slots + 0) Q (F0 m (pc + 3) ls (.long r :: rest))) : W p l e room_1 s m #[Value.ref b] below meth c H locs cells slots Q (F0 m pc ls (.int a1 :: .ref x :: rest)) := by
  obtain ⟨z, nt, np, bk, bt, V, tl, pl⟩ := D
  obtain ⟨S1, S2, hw, hw2, hdj, ⟨d, sa, sb, sp, te, tm, pe, tf, pf, rfl, hC, hN, hz, hbk, hAp, hCV, hTV, hPV⟩, hm, hPD, hPM⟩ := hW
  dsimp only at hC hN hz hbk hCV hTV hPV
  have hPD0 : ∀ k, k < np → ppV (pl k) := hPD
  subst hz
  have h0z := hN.2.2.2.1.1
  refine k2_Vl (n := 1) (As := [.int a1]) C.1 hw hw2 hdj (rcvk (ci := 10) C.1 hw hC.1 (fun _ _ _ _ _ _ _ => ⟨_, rfl⟩) rfl) (c_v_X10_odds l G S1 d sa sb sp te tm pe tf pf nt np a1 V tl pl hC hN hCV.2.1 hTV hPV) wd_r35_22 wd_r35_23 wd_r36_0 wd_r1_2 wd_r36_1 ⟨by decide, by decide, by decide +kernel⟩ rfl rfl ⟨Nat.le_of_ble_eq_true rfl, Nat.le_of_ble_eq_true rfl⟩ rfl rfl hls hR hdg hf (fun r S' H1 locs1 hp hw hw2 hdj => ?_)
  obtain ⟨rfl, hv⟩ := hp
  rw [odF_cg (fun k hk => hbk k hk)] at hv
  exact kk r H1 locs1 (_, nt, np, bk, bt, V, tl, pl) ⟨rfl, hv⟩ ⟨_, S2, hw, hw2, hdj, DeskW.nx hC hN rfl hbk hAp hCV hTV hPV, hm, hPD0, hPM⟩
theorem lm_odds {b L : Nat} {xs : Nat → Int32} {x mo : Nat} {D M : T4} (C : LC p s m meth c b L xs G) (hW : LW G s x mo H locs D M) (a1 : Int32) (hls : ls.size = 4) (hR : (rest.map fun v => v.category).sum ≤ 8) (hdg : decode cL_law pc = .ok (.invokevirtual 81, 3)) (hf : cells + 0 ≤ room_1.cells ∧ slots + 0 ≤ room_1.slots)
    (kk : ∀ (r : Int64) (H1 : Heap) (locs1 : List Loc) (E : T4), P_odds M a1 r E → LW G s x mo H1 locs1 D E → W p l e room_1 s m #[Value.ref b] below meth c H1 locs1 (cells + 0) (slots + 0) Q (F0 m (pc + 3) ls (.long r :: rest))) : W p l e room_1 s m #[Value.ref b] below meth c H locs cells slots Q (F0 m pc ls (.int a1 :: .ref mo :: rest)) := by
  obtain ⟨z, nt, np, bk, bt, V, tl, pl⟩ := M
  obtain ⟨S1, S2, hw, hw2, hdj, hD, ⟨ma, bn, rfl, hM, hI, hz, ht, hn, hb, hv, hTs, hPs⟩, hPD, hPM⟩ := hW
  dsimp only at hz ht hn hb hv hTs hPs
  have hPM0 : ∀ k, k < np → ppV (pl k) := hPM
  have h0z : 0 ≤ z := hz ▸ hI.1.1.1
  refine k2_Vl (n := 1) (As := [.int a1]) C.1 hw2 hw (fun a h2 h1 => hdj a h1 h2) (rcvk (ci := 11) C.1 hw2 hM.1 (fun _ _ _ _ _ _ _ => ⟨_, rfl⟩) rfl) (c_v_X11_odds l G S2 ma a1 bn V tl pl hM hI hv.2.1 hv.2.2.1 hv.2.2.2.1 hv.2.2.2.2.2 (fun k hk => hTs k (by omega)) (fun k hk => ⟨hPs k (by omega), (hPM0 k (by omega)).o⟩)) wd_r37_10 wd_r37_11 wd_r37_12 wd_r1_5 wd_r37_13 ⟨by decide, by decide, by decide +kernel⟩ rfl rfl ⟨Nat.le_of_ble_eq_true rfl, Nat.le_of_ble_eq_true rfl⟩ rfl rfl hls hR hdg hf (fun r S' H1 locs1 hp hw2 hw hdj => ?_)
  obtain ⟨I', rfl, g2, h9⟩ := hp
  rw [ht, nN hn, odF_cg (fun k hk => hb k hk)] at h9
  exact kk r H1 locs1 (z, nt, np, bk, bt, V, tl, pl) ⟨rfl, h9⟩ ⟨S1, _, hw, hw2, (fun a h1 h2 => hdj a h2 h1), hD, ⟨ma, bn, rfl, hM, (hI.d g2), ((congrArg Int32.toInt (congrFun (g2 102 (by decide)) _)).trans hz), ((congrArg Int32.toInt (congrFun (g2 128 (by decide)) _)).trans ht), ((congrArg Int32.toInt (congrFun (g2 140 (by decide)) _)).trans hn), hb, (hv.k (fun _ _ => rfl) (congrFun (g2 120 (by decide)) _)), hTs, hPs⟩, hPD, hPM0⟩
theorem dt_odds {D E F : T4} {a1 : Int32} {r r' : Int64} (h : P_odds D a1 r E) (h' : P_odds D a1 r' F) : E = F := h.1.trans h'.1.symm
theorem eq_odds {D E F : T4} {a1 : Int32} {r r' : Int64} (h : P_odds D a1 r E) (h' : P_odds D a1 r' F) : r = r' := h.2.trans h'.2.symm
def P_share (D : T4) (a1 a2 a3 : Int32) (r : Int64) (E : T4) : Prop := E = D ∧ r.toInt = (if (0 ≤ a1.toInt ∧ a1.toInt < 64) ∧ 0 ≤ a2.toInt ∧ a2.toInt ≤ 72 then shI (sbF D.2.2.2.2.2.1.2 D.2.2.2.2.2.2.1 (fun k => odF D.2.2.2.2.2.1.2 (D.2.2.2.2.2.2.1 k) D.2.2.2.2.2.2.2 D.2.2.2.1 D.2.2.1) a2.toNatClampNeg 0 D.2.1 a1.toNatClampNeg).toInt (alF (fun k => odF D.2.2.2.2.2.1.2 (D.2.2.2.2.2.2.1 k) D.2.2.2.2.2.2.2 D.2.2.2.1 D.2.2.1) D.2.1).toInt a3 else -1)
theorem ld_share {b L : Nat} {xs : Nat → Int32} {x mo : Nat} {D M : T4} (C : LC p s m meth c b L xs G) (hW : LW G s x mo H locs D M) (a1 a2 a3 : Int32) (hls : ls.size = 4) (hR : (rest.map fun v => v.category).sum ≤ 8) (hdg : decode cL_law pc = .ok (.invokevirtual 82, 3)) (hf : cells + 0 ≤ room_1.cells ∧ slots + 0 ≤ room_1.slots)
    (kk : ∀ (r : Int64) (H1 : Heap) (locs1 : List Loc) (E : T4), P_share D a1 a2 a3 r E → LW G s x mo H1 locs1 E M → W p l e room_1 s m #[Value.ref b] below meth c H1 locs1 (cells + 0) (slots + 0) Q (F0 m (pc + 3) ls (.long r :: rest))) : W p l e room_1 s m #[Value.ref b] below meth c H locs cells slots Q (F0 m pc ls (.int a3 :: .int a2 :: .int a1 :: .ref x :: rest)) := by
  obtain ⟨z, nt, np, bk, bt, V, tl, pl⟩ := D
  obtain ⟨S1, S2, hw, hw2, hdj, ⟨d, sa, sb, sp, te, tm, pe, tf, pf, rfl, hC, hN, hz, hbk, hAp, hCV, hTV, hPV⟩, hm, hPD, hPM⟩ := hW
  dsimp only at hC hN hz hbk hCV hTV hPV
  have hPD0 : ∀ k, k < np → ppV (pl k) := hPD
  subst hz
  have h0z := hN.2.2.2.1.1
  refine k2_Vl (n := 3) (As := [.int a1, .int a2, .int a3]) C.1 hw hw2 hdj (rcvk (ci := 10) C.1 hw hC.1 (fun _ _ _ _ _ _ _ => ⟨_, rfl⟩) rfl) (c_v_X10_share l G S1 d sa sb sp te tm pe tf pf nt np a1 a2 a3 V tl pl hC hN hCV.2.1 hTV hPV hCV.2.2.2 hPD0) wd_r38_2 wd_r38_3 wd_r38_4 wd_r1_2 wd_r38_5 ⟨by decide, by decide, by decide +kernel⟩ rfl rfl ⟨Nat.le_of_ble_eq_true rfl, Nat.le_of_ble_eq_true rfl⟩ rfl rfl hls hR hdg hf (fun r S' H1 locs1 hp hw hw2 hdj => ?_)
  obtain ⟨y', rfl, hv⟩ := hp
  have eO : (fun k => odF V.2 (tl k) pl (fun k => pI S1 0 (pe k)) np) = (fun k => odF V.2 (tl k) pl bk np) := funext (fun k => odF_cg (fun j hj => hbk j hj))
  rw [eO] at hv
  exact kk r H1 locs1 (_, nt, np, bk, bt, V, tl, pl) ⟨rfl, hv⟩ ⟨_, S2, hw, hw2, hdj, DeskW.nx hC hN rfl hbk hAp hCV hTV hPV, hm, hPD0, hPM⟩
theorem lm_share {b L : Nat} {xs : Nat → Int32} {x mo : Nat} {D M : T4} (C : LC p s m meth c b L xs G) (hW : LW G s x mo H locs D M) (a1 a2 a3 : Int32) (hls : ls.size = 4) (hR : (rest.map fun v => v.category).sum ≤ 8) (hdg : decode cL_law pc = .ok (.invokevirtual 86, 3)) (hf : cells + 0 ≤ room_1.cells ∧ slots + 0 ≤ room_1.slots)
    (kk : ∀ (r : Int64) (H1 : Heap) (locs1 : List Loc) (E : T4), P_share M a1 a2 a3 r E → LW G s x mo H1 locs1 D E → W p l e room_1 s m #[Value.ref b] below meth c H1 locs1 (cells + 0) (slots + 0) Q (F0 m (pc + 3) ls (.long r :: rest))) : W p l e room_1 s m #[Value.ref b] below meth c H locs cells slots Q (F0 m pc ls (.int a3 :: .int a2 :: .int a1 :: .ref mo :: rest)) := by
  obtain ⟨z, nt, np, bk, bt, V, tl, pl⟩ := M
  obtain ⟨S1, S2, hw, hw2, hdj, hD, ⟨ma, bn, rfl, hM, hI, hz, ht, hn, hb, hv, hTs, hPs⟩, hPD, hPM⟩ := hW
  dsimp only at hz ht hn hb hv hTs hPs
  have hPM0 : ∀ k, k < np → ppV (pl k) := hPM
  have h0z : 0 ≤ z := hz ▸ hI.1.1.1
  refine k2_Vl (n := 3) (As := [.int a1, .int a2, .int a3]) C.1 hw2 hw (fun a h2 h1 => hdj a h1 h2) (rcvk (ci := 11) C.1 hw2 hM.1 (fun _ _ _ _ _ _ _ => ⟨_, rfl⟩) rfl) (c_v_X11_share l G S2 ma a1 a2 a3 bn V tl pl hM hI hv.2.1 hv.2.2.1 hv.2.2.2.1 hv.2.2.2.2.2 (fun k hk => hTs k (by omega)) (fun k hk => ⟨hPs k (by omega), (hPM0 k (by omega)).o⟩) (fun k hk => od_all (nt := (pI S2 128 (ma 0)).toInt.toNat) hv.2.2.2.2.2 (fun j hj => by have z9 := (hI.2.1 j (by omega)).2.2.2.2; rw [(hTs j (by omega)).2.2.2.2] at z9; exact z9) (fun j hj => hPM0 j (by omega)) hI.2.2.2.1 k hk)) wd_r38_18 wd_r38_19 wd_r38_20 wd_r1_5 wd_r38_21 ⟨by decide, by decide, by decide +kernel⟩ rfl rfl ⟨Nat.le_of_ble_eq_true rfl, Nat.le_of_ble_eq_true rfl⟩ rfl rfl hls hR hdg hf (fun r S' H1 locs1 hp hw2 hw hdj => ?_)
  obtain ⟨I', J', y', rfl, g2, h9⟩ := hp
  have eO : (fun k => odF V.2 (tl k) pl (qI S2 (ma 40)) (pI S2 140 (ma 0)).toInt.toNat) = (fun k => odF V.2 (tl k) pl bk np) := funext (fun k => by rw [nN hn]; exact odF_cg (fun j hj => hb j hj))
  rw [eO, nN ht] at h9
  exact kk r H1 locs1 (z, nt, np, bk, bt, V, tl, pl) ⟨rfl, h9⟩ ⟨S1, _, hw, hw2, (fun a h1 h2 => hdj a h2 h1), hD, ⟨ma, bn, rfl, hM, (hI.d g2), ((congrArg Int32.toInt (congrFun (g2 102 (by decide)) _)).trans hz), ((congrArg Int32.toInt (congrFun (g2 128 (by decide)) _)).trans ht), ((congrArg Int32.toInt (congrFun (g2 140 (by decide)) _)).trans hn), hb, (hv.k (fun _ _ => rfl) (congrFun (g2 120 (by decide)) _)), hTs, hPs⟩, hPD, hPM0⟩
theorem dt_share {D E F : T4} {a1 a2 a3 : Int32} {r r' : Int64} (h : P_share D a1 a2 a3 r E) (h' : P_share D a1 a2 a3 r' F) : E = F := h.1.trans h'.1.symm
theorem eq_share {D E F : T4} {a1 a2 a3 : Int32} {r r' : Int64} (h : P_share D a1 a2 a3 r E) (h' : P_share D a1 a2 a3 r' F) : r = r' := Int64.toInt_inj.mp (h.2.trans h'.2.symm)
def P_likeliest (D : T4) (a1 : Int32) (r : Int32) (E : T4) : Prop := E = D ∧ r.toInt = (if 0 ≤ a1.toInt ∧ a1.toInt ≤ 72 then lkF (sbF D.2.2.2.2.2.1.2 D.2.2.2.2.2.2.1 (fun k => odF D.2.2.2.2.2.1.2 (D.2.2.2.2.2.2.1 k) D.2.2.2.2.2.2.2 D.2.2.2.1 D.2.2.1) a1.toNatClampNeg 0 D.2.1) 64 else -1)
theorem ld_likeliest {b L : Nat} {xs : Nat → Int32} {x mo : Nat} {D M : T4} (C : LC p s m meth c b L xs G) (hW : LW G s x mo H locs D M) (a1 : Int32) (hls : ls.size = 4) (hR : (rest.map fun v => v.category).sum ≤ 8) (hdg : decode cL_law pc = .ok (.invokevirtual 87, 3)) (hf : cells + 0 ≤ room_1.cells ∧ slots + 0 ≤ room_1.slots)
    (kk : ∀ (r : Int32) (H1 : Heap) (locs1 : List Loc) (E : T4), P_likeliest D a1 r E → LW G s x mo H1 locs1 E M → W p l e room_1 s m #[Value.ref b] below meth c H1 locs1 (cells + 0) (slots + 0) Q (F0 m (pc + 3) ls (.int r :: rest))) : W p l e room_1 s m #[Value.ref b] below meth c H locs cells slots Q (F0 m pc ls (.int a1 :: .ref x :: rest)) := by
  obtain ⟨z, nt, np, bk, bt, V, tl, pl⟩ := D
  obtain ⟨S1, S2, hw, hw2, hdj, ⟨d, sa, sb, sp, te, tm, pe, tf, pf, rfl, hC, hN, hz, hbk, hAp, hCV, hTV, hPV⟩, hm, hPD, hPM⟩ := hW
  dsimp only at hC hN hz hbk hCV hTV hPV
  have hPD0 : ∀ k, k < np → ppV (pl k) := hPD
  subst hz
  have h0z := hN.2.2.2.1.1
  refine k2_Vi (n := 1) (As := [.int a1]) C.1 hw hw2 hdj (rcvk (ci := 10) C.1 hw hC.1 (fun _ _ _ _ _ _ _ => ⟨_, rfl⟩) rfl) (c_v_X10_likeliest l G S1 d sa sb sp te tm pe tf pf nt np a1 V tl pl hC hN hCV.2.1 hTV hPV) wd_r39_6 wd_r39_7 wd_r39_8 wd_r1_2 wd_r39_9 ⟨by decide, by decide, by decide +kernel⟩ rfl rfl ⟨Nat.le_of_ble_eq_true rfl, Nat.le_of_ble_eq_true rfl⟩ rfl rfl hls hR hdg hf (fun r S' H1 locs1 hp hw hw2 hdj => ?_)
  obtain ⟨y', rfl, hv⟩ := hp
  have eO : (fun k => odF V.2 (tl k) pl (fun k => pI S1 0 (pe k)) np) = (fun k => odF V.2 (tl k) pl bk np) := funext (fun k => odF_cg (fun j hj => hbk j hj))
  rw [eO] at hv
  exact kk r H1 locs1 (_, nt, np, bk, bt, V, tl, pl) ⟨rfl, hv⟩ ⟨_, S2, hw, hw2, hdj, DeskW.nx hC hN rfl hbk hAp hCV hTV hPV, hm, hPD0, hPM⟩
theorem lm_likeliest {b L : Nat} {xs : Nat → Int32} {x mo : Nat} {D M : T4} (C : LC p s m meth c b L xs G) (hW : LW G s x mo H locs D M) (a1 : Int32) (hls : ls.size = 4) (hR : (rest.map fun v => v.category).sum ≤ 8) (hdg : decode cL_law pc = .ok (.invokevirtual 90, 3)) (hf : cells + 0 ≤ room_1.cells ∧ slots + 0 ≤ room_1.slots)
    (kk : ∀ (r : Int32) (H1 : Heap) (locs1 : List Loc) (E : T4), P_likeliest M a1 r E → LW G s x mo H1 locs1 D E → W p l e room_1 s m #[Value.ref b] below meth c H1 locs1 (cells + 0) (slots + 0) Q (F0 m (pc + 3) ls (.int r :: rest))) : W p l e room_1 s m #[Value.ref b] below meth c H locs cells slots Q (F0 m pc ls (.int a1 :: .ref mo :: rest)) := by
  obtain ⟨z, nt, np, bk, bt, V, tl, pl⟩ := M
  obtain ⟨S1, S2, hw, hw2, hdj, hD, ⟨ma, bn, rfl, hM, hI, hz, ht, hn, hb, hv, hTs, hPs⟩, hPD, hPM⟩ := hW
  dsimp only at hz ht hn hb hv hTs hPs
  have hPM0 : ∀ k, k < np → ppV (pl k) := hPM
  have h0z : 0 ≤ z := hz ▸ hI.1.1.1
  refine k2_Vi (n := 1) (As := [.int a1]) C.1 hw2 hw (fun a h2 h1 => hdj a h1 h2) (rcvk (ci := 11) C.1 hw2 hM.1 (fun _ _ _ _ _ _ _ => ⟨_, rfl⟩) rfl) (c_v_X11_likeliest l G S2 ma a1 bn V tl pl hM hI hv.2.1 hv.2.2.1 hv.2.2.2.1 hv.2.2.2.2.2 (fun k hk => hTs k (by omega)) (fun k hk => ⟨hPs k (by omega), (hPM0 k (by omega)).o⟩) (fun k hk => od_all (nt := (pI S2 128 (ma 0)).toInt.toNat) hv.2.2.2.2.2 (fun j hj => by have z9 := (hI.2.1 j (by omega)).2.2.2.2; rw [(hTs j (by omega)).2.2.2.2] at z9; exact z9) (fun j hj => hPM0 j (by omega)) hI.2.2.2.1 k hk)) wd_r39_10 wd_r39_11 wd_r39_12 wd_r1_5 wd_r39_13 ⟨by decide, by decide, by decide +kernel⟩ rfl rfl ⟨Nat.le_of_ble_eq_true rfl, Nat.le_of_ble_eq_true rfl⟩ rfl rfl hls hR hdg hf (fun r S' H1 locs1 hp hw2 hw hdj => ?_)
  obtain ⟨I', J', y', rfl, g2, h9⟩ := hp
  have eO : (fun k => odF V.2 (tl k) pl (qI S2 (ma 40)) (pI S2 140 (ma 0)).toInt.toNat) = (fun k => odF V.2 (tl k) pl bk np) := funext (fun k => by rw [nN hn]; exact odF_cg (fun j hj => hb j hj))
  rw [eO, nN ht] at h9
  exact kk r H1 locs1 (z, nt, np, bk, bt, V, tl, pl) ⟨rfl, h9⟩ ⟨S1, _, hw, hw2, (fun a h1 h2 => hdj a h2 h1), hD, ⟨ma, bn, rfl, hM, (hI.d g2), ((congrArg Int32.toInt (congrFun (g2 102 (by decide)) _)).trans hz), ((congrArg Int32.toInt (congrFun (g2 128 (by decide)) _)).trans ht), ((congrArg Int32.toInt (congrFun (g2 140 (by decide)) _)).trans hn), hb, (hv.k (fun _ _ => rfl) (congrFun (g2 120 (by decide)) _)), hTs, hPs⟩, hPD, hPM0⟩
theorem dt_likeliest {D E F : T4} {a1 : Int32} {r r' : Int32} (h : P_likeliest D a1 r E) (h' : P_likeliest D a1 r' F) : E = F := h.1.trans h'.1.symm
theorem eq_likeliest {D E F : T4} {a1 : Int32} {r r' : Int32} (h : P_likeliest D a1 r E) (h' : P_likeliest D a1 r' F) : r = r' := Int32.toInt_inj.mp (h.2.trans h'.2.symm)
def P_seen (D : T4) (a1 a2 a3 : Int32) (r : Int64) (E : T4) : Prop := E = D ∧ r.toInt = (if (0 ≤ a1.toInt ∧ a1.toInt ≤ 72) ∧ (0 ≤ a2.toInt ∧ a2.toInt < 2) ∧ (0 ≤ a3.toInt ∧ a3.toInt ≤ 40) then val (oOf (sbF D.2.2.2.2.2.1.2 D.2.2.2.2.2.2.1 (fun k => odF D.2.2.2.2.2.1.2 (D.2.2.2.2.2.2.1 k) D.2.2.2.2.2.2.2 D.2.2.2.1 D.2.2.1) a1.toNatClampNeg 1 D.2.1)) (gsm D.2.2.2.2.2.1.2 a2.toNatClampNeg) 64 a3.toNatClampNeg else -1)
theorem ld_seen {b L : Nat} {xs : Nat → Int32} {x mo : Nat} {D M : T4} (C : LC p s m meth c b L xs G) (hW : LW G s x mo H locs D M) (a1 a2 a3 : Int32) (hls : ls.size = 4) (hR : (rest.map fun v => v.category).sum ≤ 8) (hdg : decode cL_law pc = .ok (.invokevirtual 91, 3)) (hf : cells + 0 ≤ room_1.cells ∧ slots + 0 ≤ room_1.slots)
    (kk : ∀ (r : Int64) (H1 : Heap) (locs1 : List Loc) (E : T4), P_seen D a1 a2 a3 r E → LW G s x mo H1 locs1 E M → W p l e room_1 s m #[Value.ref b] below meth c H1 locs1 (cells + 0) (slots + 0) Q (F0 m (pc + 3) ls (.long r :: rest))) : W p l e room_1 s m #[Value.ref b] below meth c H locs cells slots Q (F0 m pc ls (.int a3 :: .int a2 :: .int a1 :: .ref x :: rest)) := by
  obtain ⟨z, nt, np, bk, bt, V, tl, pl⟩ := D
  obtain ⟨S1, S2, hw, hw2, hdj, ⟨d, sa, sb, sp, te, tm, pe, tf, pf, rfl, hC, hN, hz, hbk, hAp, hCV, hTV, hPV⟩, hm, hPD, hPM⟩ := hW
  dsimp only at hC hN hz hbk hCV hTV hPV
  have hPD0 : ∀ k, k < np → ppV (pl k) := hPD
  subst hz
  have h0z := hN.2.2.2.1.1
  refine k2_Vl (n := 3) (As := [.int a1, .int a2, .int a3]) C.1 hw hw2 hdj (rcvk (ci := 10) C.1 hw hC.1 (fun _ _ _ _ _ _ _ => ⟨_, rfl⟩) rfl) (c_w_X10_seen l G S1 d sa sb sp te tm pe tf pf nt np a1 a2 a3 V tl pl hC hN hCV.2.1 hTV hPV hCV.2.2.2 hPD0 hAp) wd_r39_14 wd_r39_15 wd_r39_16 wd_r1_2 wd_r39_17 ⟨by decide, by decide, by decide +kernel⟩ rfl rfl ⟨Nat.le_of_ble_eq_true rfl, Nat.le_of_ble_eq_true rfl⟩ rfl rfl hls hR hdg hf (fun r S' H1 locs1 hp hw hw2 hdj => ?_)
  obtain ⟨I', q', y', rfl, h1, hk, hv⟩ := hp
  have eO : (fun k => odF V.2 (tl k) pl (fun k => pI S1 0 (pe k)) np) = (fun k => odF V.2 (tl k) pl bk np) := funext (fun k => odF_cg (fun j hj => hbk j hj))
  rw [eO] at hv
  exact kk r H1 locs1 (_, nt, np, bk, bt, V, tl, pl) ⟨rfl, hv⟩ ⟨_, S2, hw, hw2, hdj, DeskW.nx hC (hN.sp h1) (congrArg Int32.toInt (congrFun (h1 61 (by decide)) _)) (fun k hk => (congrFun (h1 0 (by decide)) _).trans (hbk k hk)) hAp (CV.sp hC hAp hCV hk (h1 15 (by decide))) (TV.sp hC hTV h1 hk) (hPV.sp h1), hm, hPD0, hPM⟩
theorem lm_seen {b L : Nat} {xs : Nat → Int32} {x mo : Nat} {D M : T4} (C : LC p s m meth c b L xs G) (hW : LW G s x mo H locs D M) (a1 a2 a3 : Int32) (hls : ls.size = 4) (hR : (rest.map fun v => v.category).sum ≤ 8) (hdg : decode cL_law pc = .ok (.invokevirtual 95, 3)) (hf : cells + 0 ≤ room_1.cells ∧ slots + 0 ≤ room_1.slots)
    (kk : ∀ (r : Int64) (H1 : Heap) (locs1 : List Loc) (E : T4), P_seen M a1 a2 a3 r E → LW G s x mo H1 locs1 D E → W p l e room_1 s m #[Value.ref b] below meth c H1 locs1 (cells + 0) (slots + 0) Q (F0 m (pc + 3) ls (.long r :: rest))) : W p l e room_1 s m #[Value.ref b] below meth c H locs cells slots Q (F0 m pc ls (.int a3 :: .int a2 :: .int a1 :: .ref mo :: rest)) := by
  obtain ⟨z, nt, np, bk, bt, V, tl, pl⟩ := M
  obtain ⟨S1, S2, hw, hw2, hdj, hD, ⟨ma, bn, rfl, hM, hI, hz, ht, hn, hb, hv, hTs, hPs⟩, hPD, hPM⟩ := hW
  dsimp only at hz ht hn hb hv hTs hPs
  have hPM0 : ∀ k, k < np → ppV (pl k) := hPM
  have h0z : 0 ≤ z := hz ▸ hI.1.1.1
  refine k2_Vl (n := 3) (As := [.int a1, .int a2, .int a3]) C.1 hw2 hw (fun a h2 h1 => hdj a h1 h2) (rcvk (ci := 11) C.1 hw2 hM.1 (fun _ _ _ _ _ _ _ => ⟨_, rfl⟩) rfl) (c_v_X11_seen l G S2 ma a1 a2 a3 bn V tl pl hM hI hv.2.1 hv.2.2.1 hv.2.2.2.1 hv.2.2.2.2.2 (fun k hk => hTs k (by omega)) (fun k hk => ⟨hPs k (by omega), (hPM0 k (by omega)).o⟩) (fun k hk => od_all (nt := (pI S2 128 (ma 0)).toInt.toNat) hv.2.2.2.2.2 (fun j hj => by have z9 := (hI.2.1 j (by omega)).2.2.2.2; rw [(hTs j (by omega)).2.2.2.2] at z9; exact z9) (fun j hj => hPM0 j (by omega)) hI.2.2.2.1 k hk)) wd_r41_3 wd_r41_4 wd_r41_5 wd_r1_5 wd_r41_6 ⟨by decide, by decide, by decide +kernel⟩ rfl rfl ⟨Nat.le_of_ble_eq_true rfl, Nat.le_of_ble_eq_true rfl⟩ rfl rfl hls hR hdg hf (fun r S' H1 locs1 hp hw2 hw hdj => ?_)
  obtain ⟨I', J', q', y', rfl, g1, g2, g3, h9⟩ := hp
  have eO : (fun k => odF V.2 (tl k) pl (qI S2 (ma 40)) (pI S2 140 (ma 0)).toInt.toNat) = (fun k => odF V.2 (tl k) pl bk np) := funext (fun k => by rw [nN hn]; exact odF_cg (fun j hj => hb j hj))
  rw [eO, nN ht] at h9
  exact kk r H1 locs1 (z, nt, np, bk, bt, V, tl, pl) ⟨rfl, h9⟩ ⟨S1, _, hw, hw2, (fun a h1 h2 => hdj a h2 h1), hD, ⟨ma, bn, rfl, hM, g1, ((congrArg Int32.toInt (congrFun (g2 102 (by decide)) _)).trans hz), ((congrArg Int32.toInt (congrFun (g2 128 (by decide)) _)).trans ht), ((congrArg Int32.toInt (congrFun (g2 140 (by decide)) _)).trans hn), (fun k hk => (congrFun (g3 40 (by decide) (by decide)) k).trans (hb k hk)), (hv.k (fun j hj => g3 j (by omega) (by omega)) (congrFun (g2 120 (by decide)) _)), (hTs.cg (fun j h1 h2 => g3 j (by omega) (by omega))), (hPs.cg (fun j h1 h2 => g3 j (by omega) (by omega)))⟩, hPD, hPM0⟩
theorem dt_seen {D E F : T4} {a1 a2 a3 : Int32} {r r' : Int64} (h : P_seen D a1 a2 a3 r E) (h' : P_seen D a1 a2 a3 r' F) : E = F := h.1.trans h'.1.symm
theorem eq_seen {D E F : T4} {a1 a2 a3 : Int32} {r r' : Int64} (h : P_seen D a1 a2 a3 r E) (h' : P_seen D a1 a2 a3 r' F) : r = r' := Int64.toInt_inj.mp (h.2.trans h'.2.symm)
def P_split (D : T4) (a1 a2 a3 a4 : Int32) (r : Int32) (E : T4) : Prop := E = D ∧ (((((0 ≤ a1.toInt ∧ a1.toInt ≤ 72) ∧ (0 ≤ a2.toInt ∧ a2.toInt < 2) ∧ (0 ≤ a3.toInt ∧ a3.toInt ≤ 40)) ∧ (0 ≤ a4.toInt ∧ a4.toInt < 64)) ∧ 0 ≤ r.toInt ∧ gets (oOf (sbF D.2.2.2.2.2.1.2 D.2.2.2.2.2.2.1 (fun k => odF D.2.2.2.2.2.1.2 (D.2.2.2.2.2.2.1 k) D.2.2.2.2.2.2.2 D.2.2.2.1 D.2.2.1) a1.toNatClampNeg 1 D.2.1)) (gsm D.2.2.2.2.2.1.2 a2.toNatClampNeg) a3.toNatClampNeg a4.toNatClampNeg r.toNatClampNeg) ∨ (¬ (((0 ≤ a1.toInt ∧ a1.toInt ≤ 72) ∧ (0 ≤ a2.toInt ∧ a2.toInt < 2) ∧ (0 ≤ a3.toInt ∧ a3.toInt ≤ 40)) ∧ (0 ≤ a4.toInt ∧ a4.toInt < 64)) ∧ r = -1))
theorem ld_split {b L : Nat} {xs : Nat → Int32} {x mo : Nat} {D M : T4} (C : LC p s m meth c b L xs G) (hW : LW G s x mo H locs D M) (a1 a2 a3 a4 : Int32) (hls : ls.size = 4) (hR : (rest.map fun v => v.category).sum ≤ 8) (hdg : decode cL_law pc = .ok (.invokevirtual 96, 3)) (hf : cells + 0 ≤ room_1.cells ∧ slots + 0 ≤ room_1.slots)
    (kk : ∀ (r : Int32) (H1 : Heap) (locs1 : List Loc) (E : T4), P_split D a1 a2 a3 a4 r E → LW G s x mo H1 locs1 E M → W p l e room_1 s m #[Value.ref b] below meth c H1 locs1 (cells + 0) (slots + 0) Q (F0 m (pc + 3) ls (.int r :: rest))) : W p l e room_1 s m #[Value.ref b] below meth c H locs cells slots Q (F0 m pc ls (.int a4 :: .int a3 :: .int a2 :: .int a1 :: .ref x :: rest)) := by
  obtain ⟨z, nt, np, bk, bt, V, tl, pl⟩ := D
  obtain ⟨S1, S2, hw, hw2, hdj, ⟨d, sa, sb, sp, te, tm, pe, tf, pf, rfl, hC, hN, hz, hbk, hAp, hCV, hTV, hPV⟩, hm, hPD, hPM⟩ := hW
  dsimp only at hC hN hz hbk hCV hTV hPV
  have hPD0 : ∀ k, k < np → ppV (pl k) := hPD
  subst hz
  have h0z := hN.2.2.2.1.1
  refine k2_Vi (n := 4) (As := [.int a1, .int a2, .int a3, .int a4]) C.1 hw hw2 hdj (rcvk (ci := 10) C.1 hw hC.1 (fun _ _ _ _ _ _ _ => ⟨_, rfl⟩) rfl) (c_w_X10_split l G S1 d sa sb sp te tm pe tf pf nt np a1 a2 a3 a4 V tl pl hC hN hCV.2.1 hTV hPV hCV.2.2.2 hPD0 hAp) wd_r41_22 wd_r41_23 wd_r42_0 wd_r1_2 wd_r42_1 ⟨by decide, by decide, by decide +kernel⟩ rfl rfl ⟨Nat.le_of_ble_eq_true rfl, Nat.le_of_ble_eq_true rfl⟩ rfl rfl hls hR hdg hf (fun r S' H1 locs1 hp hw hw2 hdj => ?_)
  obtain ⟨I', q', y', rfl, h1, hk, hv⟩ := hp
  have eO : (fun k => odF V.2 (tl k) pl (fun k => pI S1 0 (pe k)) np) = (fun k => odF V.2 (tl k) pl bk np) := funext (fun k => odF_cg (fun j hj => hbk j hj))
  rw [eO] at hv
  exact kk r H1 locs1 (_, nt, np, bk, bt, V, tl, pl) ⟨rfl, hv⟩ ⟨_, S2, hw, hw2, hdj, DeskW.nx hC (hN.sp h1) (congrArg Int32.toInt (congrFun (h1 61 (by decide)) _)) (fun k hk => (congrFun (h1 0 (by decide)) _).trans (hbk k hk)) hAp (CV.sp hC hAp hCV hk (h1 15 (by decide))) (TV.sp hC hTV h1 hk) (hPV.sp h1), hm, hPD0, hPM⟩
theorem lm_split {b L : Nat} {xs : Nat → Int32} {x mo : Nat} {D M : T4} (C : LC p s m meth c b L xs G) (hW : LW G s x mo H locs D M) (a1 a2 a3 a4 : Int32) (hls : ls.size = 4) (hR : (rest.map fun v => v.category).sum ≤ 8) (hdg : decode cL_law pc = .ok (.invokevirtual 100, 3)) (hf : cells + 0 ≤ room_1.cells ∧ slots + 0 ≤ room_1.slots)
    (kk : ∀ (r : Int32) (H1 : Heap) (locs1 : List Loc) (E : T4), P_split M a1 a2 a3 a4 r E → LW G s x mo H1 locs1 D E → W p l e room_1 s m #[Value.ref b] below meth c H1 locs1 (cells + 0) (slots + 0) Q (F0 m (pc + 3) ls (.int r :: rest))) : W p l e room_1 s m #[Value.ref b] below meth c H locs cells slots Q (F0 m pc ls (.int a4 :: .int a3 :: .int a2 :: .int a1 :: .ref mo :: rest)) := by
  obtain ⟨z, nt, np, bk, bt, V, tl, pl⟩ := M
  obtain ⟨S1, S2, hw, hw2, hdj, hD, ⟨ma, bn, rfl, hM, hI, hz, ht, hn, hb, hv, hTs, hPs⟩, hPD, hPM⟩ := hW
  dsimp only at hz ht hn hb hv hTs hPs
  have hPM0 : ∀ k, k < np → ppV (pl k) := hPM
  have h0z : 0 ≤ z := hz ▸ hI.1.1.1
  refine k2_Vi (n := 4) (As := [.int a1, .int a2, .int a3, .int a4]) C.1 hw2 hw (fun a h2 h1 => hdj a h1 h2) (rcvk (ci := 11) C.1 hw2 hM.1 (fun _ _ _ _ _ _ _ => ⟨_, rfl⟩) rfl) (c_v_X11_split l G S2 ma a1 a2 a3 a4 bn V tl pl hM hI hv.2.1 hv.2.2.1 hv.2.2.2.1 hv.2.2.2.2.2 (fun k hk => hTs k (by omega)) (fun k hk => ⟨hPs k (by omega), (hPM0 k (by omega)).o⟩) (fun k hk => od_all (nt := (pI S2 128 (ma 0)).toInt.toNat) hv.2.2.2.2.2 (fun j hj => by have z9 := (hI.2.1 j (by omega)).2.2.2.2; rw [(hTs j (by omega)).2.2.2.2] at z9; exact z9) (fun j hj => hPM0 j (by omega)) hI.2.2.2.1 k hk)) wd_r42_14 wd_r42_15 wd_r42_16 wd_r1_5 wd_r42_17 ⟨by decide, by decide, by decide +kernel⟩ rfl rfl ⟨Nat.le_of_ble_eq_true rfl, Nat.le_of_ble_eq_true rfl⟩ rfl rfl hls hR hdg hf (fun r S' H1 locs1 hp hw2 hw hdj => ?_)
  obtain ⟨I', J', q', y', rfl, g1, g2, g3, h9⟩ := hp
  have eO : (fun k => odF V.2 (tl k) pl (qI S2 (ma 40)) (pI S2 140 (ma 0)).toInt.toNat) = (fun k => odF V.2 (tl k) pl bk np) := funext (fun k => by rw [nN hn]; exact odF_cg (fun j hj => hb j hj))
  rw [eO, nN ht] at h9
  exact kk r H1 locs1 (z, nt, np, bk, bt, V, tl, pl) ⟨rfl, h9⟩ ⟨S1, _, hw, hw2, (fun a h1 h2 => hdj a h2 h1), hD, ⟨ma, bn, rfl, hM, g1, ((congrArg Int32.toInt (congrFun (g2 102 (by decide)) _)).trans hz), ((congrArg Int32.toInt (congrFun (g2 128 (by decide)) _)).trans ht), ((congrArg Int32.toInt (congrFun (g2 140 (by decide)) _)).trans hn), (fun k hk => (congrFun (g3 40 (by decide) (by decide)) k).trans (hb k hk)), (hv.k (fun j hj => g3 j (by omega) (by omega)) (congrFun (g2 120 (by decide)) _)), (hTs.cg (fun j h1 h2 => g3 j (by omega) (by omega))), (hPs.cg (fun j h1 h2 => g3 j (by omega) (by omega)))⟩, hPD, hPM0⟩
theorem dt_split {D E F : T4} {a1 a2 a3 a4 : Int32} {r r' : Int32} (h : P_split D a1 a2 a3 a4 r E) (h' : P_split D a1 a2 a3 a4 r' F) : E = F := h.1.trans h'.1.symm
theorem eq_split {D E F : T4} {a1 a2 a3 a4 : Int32} {r r' : Int32} (h : P_split D a1 a2 a3 a4 r E) (h' : P_split D a1 a2 a3 a4 r' F) : r = r' := by
  rcases h.2 with ⟨c, p1, g1⟩ | ⟨c, h1⟩ <;> rcases h'.2 with ⟨c', p2, g2⟩ | ⟨c', h2⟩
  · have u := gets_u g1 g2
    have u1 := cl_toInt p1
    have u2 := cl_toInt p2
    exact Int32.toInt_inj.mp (by omega)
  · exact absurd c c'
  · exact absurd c' c
  · rw [h1, h2]
def P_left (D : T4) (r : Int32) (E : T4) : Prop := E = D ∧ r.toInt = lfI D.2.1 (wsF D.2.2.2.2.2.2.1 D.2.1) (alF (fun k => odF D.2.2.2.2.2.1.2 (D.2.2.2.2.2.2.1 k) D.2.2.2.2.2.2.2 D.2.2.2.1 D.2.2.1) D.2.1).toInt (cntB D.2.2.2.1 D.2.2.1)
theorem ld_left {b L : Nat} {xs : Nat → Int32} {x mo : Nat} {D M : T4} (C : LC p s m meth c b L xs G) (hW : LW G s x mo H locs D M) (hls : ls.size = 4) (hR : (rest.map fun v => v.category).sum ≤ 8) (hdg : decode cL_law pc = .ok (.invokevirtual 101, 3)) (hf : cells + 0 ≤ room_1.cells ∧ slots + 0 ≤ room_1.slots)
    (kk : ∀ (r : Int32) (H1 : Heap) (locs1 : List Loc) (E : T4), P_left D  r E → LW G s x mo H1 locs1 E M → W p l e room_1 s m #[Value.ref b] below meth c H1 locs1 (cells + 0) (slots + 0) Q (F0 m (pc + 3) ls (.int r :: rest))) : W p l e room_1 s m #[Value.ref b] below meth c H locs cells slots Q (F0 m pc ls (.ref x :: rest)) := by
  obtain ⟨z, nt, np, bk, bt, V, tl, pl⟩ := D
  obtain ⟨S1, S2, hw, hw2, hdj, ⟨d, sa, sb, sp, te, tm, pe, tf, pf, rfl, hC, hN, hz, hbk, hAp, hCV, hTV, hPV⟩, hm, hPD, hPM⟩ := hW
  dsimp only at hC hN hz hbk hCV hTV hPV
  have hPD0 : ∀ k, k < np → ppV (pl k) := hPD
  subst hz
  have h0z := hN.2.2.2.1.1
  refine k2_Vi (n := 0) (As := []) C.1 hw hw2 hdj (rcvk (ci := 10) C.1 hw hC.1 (fun _ _ _ _ _ _ _ => ⟨_, rfl⟩) rfl) (c_v_X10_left l G S1 d sa sb sp te tm pe tf pf nt np  V tl pl hC hN hCV.2.1 hTV hPV hCV.2.2.2 hPD0) wd_r42_18 wd_r42_19 wd_r42_20 wd_r1_2 wd_r42_21 ⟨by decide, by decide, by decide +kernel⟩ rfl rfl ⟨Nat.le_of_ble_eq_true rfl, Nat.le_of_ble_eq_true rfl⟩ rfl rfl hls hR hdg hf (fun r S' H1 locs1 hp hw hw2 hdj => ?_)
  obtain ⟨rfl, hv⟩ := hp
  have eO : (fun k => odF V.2 (tl k) pl (fun k => pI S1 0 (pe k)) np) = (fun k => odF V.2 (tl k) pl bk np) := funext (fun k => odF_cg (fun j hj => hbk j hj))
  rw [eO, cntB_cong (fun k hk => hbk k hk)] at hv
  exact kk r H1 locs1 (_, nt, np, bk, bt, V, tl, pl) ⟨rfl, hv⟩ ⟨_, S2, hw, hw2, hdj, DeskW.nx hC hN rfl hbk hAp hCV hTV hPV, hm, hPD0, hPM⟩
theorem lm_left {b L : Nat} {xs : Nat → Int32} {x mo : Nat} {D M : T4} (C : LC p s m meth c b L xs G) (hW : LW G s x mo H locs D M) (hls : ls.size = 4) (hR : (rest.map fun v => v.category).sum ≤ 8) (hdg : decode cL_law pc = .ok (.invokevirtual 104, 3)) (hf : cells + 0 ≤ room_1.cells ∧ slots + 0 ≤ room_1.slots)
    (kk : ∀ (r : Int32) (H1 : Heap) (locs1 : List Loc) (E : T4), P_left M  r E → LW G s x mo H1 locs1 D E → W p l e room_1 s m #[Value.ref b] below meth c H1 locs1 (cells + 0) (slots + 0) Q (F0 m (pc + 3) ls (.int r :: rest))) : W p l e room_1 s m #[Value.ref b] below meth c H locs cells slots Q (F0 m pc ls (.ref mo :: rest)) := by
  obtain ⟨z, nt, np, bk, bt, V, tl, pl⟩ := M
  obtain ⟨S1, S2, hw, hw2, hdj, hD, ⟨ma, bn, rfl, hM, hI, hz, ht, hn, hb, hv, hTs, hPs⟩, hPD, hPM⟩ := hW
  dsimp only at hz ht hn hb hv hTs hPs
  have hPM0 : ∀ k, k < np → ppV (pl k) := hPM
  have h0z : 0 ≤ z := hz ▸ hI.1.1.1
  refine k2_Vi (n := 0) (As := []) C.1 hw2 hw (fun a h2 h1 => hdj a h1 h2) (rcvk (ci := 11) C.1 hw2 hM.1 (fun _ _ _ _ _ _ _ => ⟨_, rfl⟩) rfl) (c_v_X11_left l G S2 ma bn V tl pl hM hI hv.2.1 hv.2.2.1 hv.2.2.2.1 hv.2.2.2.2.2 (fun k hk => hTs k (by omega)) (fun k hk => ⟨hPs k (by omega), (hPM0 k (by omega)).o⟩) (fun k hk => od_all (nt := (pI S2 128 (ma 0)).toInt.toNat) hv.2.2.2.2.2 (fun j hj => by have z9 := (hI.2.1 j (by omega)).2.2.2.2; rw [(hTs j (by omega)).2.2.2.2] at z9; exact z9) (fun j hj => hPM0 j (by omega)) hI.2.2.2.1 k hk) (fun k hk => (od_w (by have z9 := (hI.2.1 k (by omega)).2.2.2.2; rw [(hTs k (by omega)).2.2.2.2] at z9; exact z9) _ (fun j hj => wgh_b hv.2.2.2.2.2 (hPM0 j (by omega))) hI.2.2.2.1).2) (fun j hj => by have z9 := (hI.2.1 j (by omega)).2.2.2.2; rw [(hTs j (by omega)).2.2.2.2] at z9; exact z9)) wd_r43_0 wd_r43_1 wd_r43_2 wd_r1_5 wd_r43_3 ⟨by decide, by decide, by decide +kernel⟩ rfl rfl ⟨Nat.le_of_ble_eq_true rfl, Nat.le_of_ble_eq_true rfl⟩ rfl rfl hls hR hdg hf (fun r S' H1 locs1 hp hw2 hw hdj => ?_)
  obtain ⟨I', rfl, g2, h9⟩ := hp
  have eO : (fun k => odF V.2 (tl k) pl (qI S2 (ma 40)) (pI S2 140 (ma 0)).toInt.toNat) = (fun k => odF V.2 (tl k) pl bk np) := funext (fun k => by rw [nN hn]; exact odF_cg (fun j hj => hb j hj))
  rw [eO, nN ht, nN hn, cntB_cong (fun k hk => hb k hk)] at h9
  exact kk r H1 locs1 (z, nt, np, bk, bt, V, tl, pl) ⟨rfl, h9⟩ ⟨S1, _, hw, hw2, (fun a h1 h2 => hdj a h2 h1), hD, ⟨ma, bn, rfl, hM, (hI.d g2), ((congrArg Int32.toInt (congrFun (g2 102 (by decide)) _)).trans hz), ((congrArg Int32.toInt (congrFun (g2 128 (by decide)) _)).trans ht), ((congrArg Int32.toInt (congrFun (g2 140 (by decide)) _)).trans hn), hb, (hv.k (fun _ _ => rfl) (congrFun (g2 120 (by decide)) _)), hTs, hPs⟩, hPD, hPM0⟩
theorem dt_left {D E F : T4} {r r' : Int32} (h : P_left D  r E) (h' : P_left D  r' F) : E = F := h.1.trans h'.1.symm
theorem eq_left {D E F : T4} {r r' : Int32} (h : P_left D  r E) (h' : P_left D  r' F) : r = r' := Int32.toInt_inj.mp (h.2.trans h'.2.symm)
def P_tracks (D : T4) (a1 a2 a3 a4 : Int32) (r : Int32) (E : T4) : Prop := E = D ∧ ((trC a1 a2 a3 a4 ∧ r = trk a1 a2 a3 a4) ∨ (¬ trC a1 a2 a3 a4 ∧ r = -1))
theorem ld_tracks {b L : Nat} {xs : Nat → Int32} {x mo : Nat} {D M : T4} (C : LC p s m meth c b L xs G) (hW : LW G s x mo H locs D M) (a1 a2 a3 a4 : Int32) (hls : ls.size = 4) (hR : (rest.map fun v => v.category).sum ≤ 8) (hdg : decode cL_law pc = .ok (.invokevirtual 105, 3)) (hf : cells + 0 ≤ room_1.cells ∧ slots + 0 ≤ room_1.slots)
    (kk : ∀ (r : Int32) (H1 : Heap) (locs1 : List Loc) (E : T4), P_tracks D a1 a2 a3 a4 r E → LW G s x mo H1 locs1 E M → W p l e room_1 s m #[Value.ref b] below meth c H1 locs1 (cells + 0) (slots + 0) Q (F0 m (pc + 3) ls (.int r :: rest))) : W p l e room_1 s m #[Value.ref b] below meth c H locs cells slots Q (F0 m pc ls (.int a4 :: .int a3 :: .int a2 :: .int a1 :: .ref x :: rest)) := by
  obtain ⟨z, nt, np, bk, bt, V, tl, pl⟩ := D
  obtain ⟨S1, S2, hw, hw2, hdj, ⟨d, sa, sb, sp, te, tm, pe, tf, pf, rfl, hC, hN, hz, hbk, hAp, hCV, hTV, hPV⟩, hm, hPD, hPM⟩ := hW
  dsimp only at hC hN hz hbk hCV hTV hPV
  have hPD0 : ∀ k, k < np → ppV (pl k) := hPD
  subst hz
  have h0z := hN.2.2.2.1.1
  refine k2_Vi (n := 4) (As := [.int a1, .int a2, .int a3, .int a4]) C.1 hw hw2 hdj (rcvk (ci := 10) C.1 hw hC.1 (fun _ _ _ _ _ _ _ => ⟨_, rfl⟩) rfl) (c_X10_tracks l G S1 d sa sb sp te tm pe tf pf nt np a1 a2 a3 a4 hC hN) wd_r43_6 wd_r43_7 wd_r43_8 wd_r1_2 wd_r43_9 ⟨by decide, by decide, by decide +kernel⟩ rfl rfl ⟨Nat.le_of_ble_eq_true rfl, Nat.le_of_ble_eq_true rfl⟩ rfl rfl hls hR hdg hf (fun r S' H1 locs1 hp hw hw2 hdj => ?_)
  obtain ⟨rfl, hv⟩ := hp
  exact kk r H1 locs1 (_, nt, np, bk, bt, V, tl, pl) ⟨rfl, hv⟩ ⟨_, S2, hw, hw2, hdj, DeskW.nx hC hN rfl hbk hAp hCV hTV hPV, hm, hPD0, hPM⟩
theorem lm_tracks {b L : Nat} {xs : Nat → Int32} {x mo : Nat} {D M : T4} (C : LC p s m meth c b L xs G) (hW : LW G s x mo H locs D M) (a1 a2 a3 a4 : Int32) (hls : ls.size = 4) (hR : (rest.map fun v => v.category).sum ≤ 8) (hdg : decode cL_law pc = .ok (.invokevirtual 108, 3)) (hf : cells + 0 ≤ room_1.cells ∧ slots + 0 ≤ room_1.slots)
    (kk : ∀ (r : Int32) (H1 : Heap) (locs1 : List Loc) (E : T4), P_tracks M a1 a2 a3 a4 r E → LW G s x mo H1 locs1 D E → W p l e room_1 s m #[Value.ref b] below meth c H1 locs1 (cells + 0) (slots + 0) Q (F0 m (pc + 3) ls (.int r :: rest))) : W p l e room_1 s m #[Value.ref b] below meth c H locs cells slots Q (F0 m pc ls (.int a4 :: .int a3 :: .int a2 :: .int a1 :: .ref mo :: rest)) := by
  obtain ⟨z, nt, np, bk, bt, V, tl, pl⟩ := M
  obtain ⟨S1, S2, hw, hw2, hdj, hD, ⟨ma, bn, rfl, hM, hI, hz, ht, hn, hb, hv, hTs, hPs⟩, hPD, hPM⟩ := hW
  dsimp only at hz ht hn hb hv hTs hPs
  have hPM0 : ∀ k, k < np → ppV (pl k) := hPM
  have h0z : 0 ≤ z := hz ▸ hI.1.1.1
  refine k2_Vi (n := 4) (As := [.int a1, .int a2, .int a3, .int a4]) C.1 hw2 hw (fun a h2 h1 => hdj a h1 h2) (rcvk (ci := 11) C.1 hw2 hM.1 (fun _ _ _ _ _ _ _ => ⟨_, rfl⟩) rfl) (c_X11_tracks l G S2 ma a1 a2 a3 a4 hM) wd_r43_10 wd_r43_11 wd_r43_12 wd_r1_5 wd_r43_13 ⟨by decide, by decide, by decide +kernel⟩ rfl rfl ⟨Nat.le_of_ble_eq_true rfl, Nat.le_of_ble_eq_true rfl⟩ rfl rfl hls hR hdg hf (fun r S' H1 locs1 hp hw2 hw hdj => ?_)
  obtain ⟨rfl, h9⟩ := hp
  exact kk r H1 locs1 (z, nt, np, bk, bt, V, tl, pl) ⟨rfl, h9⟩ ⟨S1, _, hw, hw2, (fun a h1 h2 => hdj a h2 h1), hD, ⟨ma, bn, rfl, hM, hI, hz, ht, hn, hb, hv, hTs, hPs⟩, hPD, hPM0⟩
theorem dt_tracks {D E F : T4} {a1 a2 a3 a4 : Int32} {r r' : Int32} (h : P_tracks D a1 a2 a3 a4 r E) (h' : P_tracks D a1 a2 a3 a4 r' F) : E = F := h.1.trans h'.1.symm
theorem eq_tracks {D E F : T4} {a1 a2 a3 a4 : Int32} {r r' : Int32} (h : P_tracks D a1 a2 a3 a4 r E) (h' : P_tracks D a1 a2 a3 a4 r' F) : r = r' := by
  rcases h.2 with ⟨c, h1⟩ | ⟨c, h1⟩ <;> rcases h'.2 with ⟨c', h2⟩ | ⟨c', h2⟩
  · rw [h1, h2]
  · exact absurd c c'
  · exact absurd c' c
  · rw [h1, h2]
def P_about (D : T4) (a1 : Int32) (r : Int32) (E : T4) : Prop := E = D ∧ r.toInt = abt a1 D.2.2.2.2.2.1.1 D.2.1 D.2.2.1 (cntB D.2.2.2.1 D.2.2.1) D.1
theorem ld_about {b L : Nat} {xs : Nat → Int32} {x mo : Nat} {D M : T4} (C : LC p s m meth c b L xs G) (hW : LW G s x mo H locs D M) (a1 : Int32) (hls : ls.size = 4) (hR : (rest.map fun v => v.category).sum ≤ 8) (hdg : decode cL_law pc = .ok (.invokevirtual 109, 3)) (hf : cells + 0 ≤ room_1.cells ∧ slots + 0 ≤ room_1.slots)
    (kk : ∀ (r : Int32) (H1 : Heap) (locs1 : List Loc) (E : T4), P_about D a1 r E → LW G s x mo H1 locs1 E M → W p l e room_1 s m #[Value.ref b] below meth c H1 locs1 (cells + 0) (slots + 0) Q (F0 m (pc + 3) ls (.int r :: rest))) : W p l e room_1 s m #[Value.ref b] below meth c H locs cells slots Q (F0 m pc ls (.int a1 :: .ref x :: rest)) := by
  obtain ⟨z, nt, np, bk, bt, V, tl, pl⟩ := D
  obtain ⟨S1, S2, hw, hw2, hdj, ⟨d, sa, sb, sp, te, tm, pe, tf, pf, rfl, hC, hN, hz, hbk, hAp, hCV, hTV, hPV⟩, hm, hPD, hPM⟩ := hW
  dsimp only at hC hN hz hbk hCV hTV hPV
  have hPD0 : ∀ k, k < np → ppV (pl k) := hPD
  subst hz
  have h0z := hN.2.2.2.1.1
  refine k2_Vi (n := 1) (As := [.int a1]) C.1 hw hw2 hdj (rcvk (ci := 10) C.1 hw hC.1 (fun _ _ _ _ _ _ _ => ⟨_, rfl⟩) rfl) (c_v_X10_about l G S1 d sa sb sp te tm pe tf pf nt np a1 bt V hC hN hCV) wd_r43_14 wd_r43_15 wd_r43_16 wd_r1_2 wd_r43_17 ⟨by decide, by decide, by decide +kernel⟩ rfl rfl ⟨Nat.le_of_ble_eq_true rfl, Nat.le_of_ble_eq_true rfl⟩ rfl rfl hls hR hdg hf (fun r S' H1 locs1 hp hw hw2 hdj => ?_)
  obtain ⟨rfl, hv⟩ := hp
  rw [cntB_cong (fun k hk => hbk k hk)] at hv
  exact kk r H1 locs1 (_, nt, np, bk, bt, V, tl, pl) ⟨rfl, hv⟩ ⟨_, S2, hw, hw2, hdj, DeskW.nx hC hN rfl hbk hAp hCV hTV hPV, hm, hPD0, hPM⟩
theorem lm_about {b L : Nat} {xs : Nat → Int32} {x mo : Nat} {D M : T4} (C : LC p s m meth c b L xs G) (hW : LW G s x mo H locs D M) (a1 : Int32) (hls : ls.size = 4) (hR : (rest.map fun v => v.category).sum ≤ 8) (hdg : decode cL_law pc = .ok (.invokevirtual 112, 3)) (hf : cells + 0 ≤ room_1.cells ∧ slots + 0 ≤ room_1.slots)
    (kk : ∀ (r : Int32) (H1 : Heap) (locs1 : List Loc) (E : T4), P_about M a1 r E → LW G s x mo H1 locs1 D E → W p l e room_1 s m #[Value.ref b] below meth c H1 locs1 (cells + 0) (slots + 0) Q (F0 m (pc + 3) ls (.int r :: rest))) : W p l e room_1 s m #[Value.ref b] below meth c H locs cells slots Q (F0 m pc ls (.int a1 :: .ref mo :: rest)) := by
  obtain ⟨z, nt, np, bk, bt, V, tl, pl⟩ := M
  obtain ⟨S1, S2, hw, hw2, hdj, hD, ⟨ma, bn, rfl, hM, hI, hz, ht, hn, hb, hv, hTs, hPs⟩, hPD, hPM⟩ := hW
  dsimp only at hz ht hn hb hv hTs hPs
  have hPM0 : ∀ k, k < np → ppV (pl k) := hPM
  have h0z : 0 ≤ z := hz ▸ hI.1.1.1
  refine k2_Vi (n := 1) (As := [.int a1]) C.1 hw2 hw (fun a h2 h1 => hdj a h1 h2) (rcvk (ci := 11) C.1 hw2 hM.1 (fun _ _ _ _ _ _ _ => ⟨_, rfl⟩) rfl) (c_v_X11_about l G S2 ma a1 bn V hM hI hv.2.1 hv.2.2.1 hv.2.2.2.2.1) wd_r43_18 wd_r43_19 wd_r43_20 wd_r1_5 wd_r43_21 ⟨by decide, by decide, by decide +kernel⟩ rfl rfl ⟨Nat.le_of_ble_eq_true rfl, Nat.le_of_ble_eq_true rfl⟩ rfl rfl hls hR hdg hf (fun r S' H1 locs1 hp hw2 hw hdj => ?_)
  obtain ⟨rfl, h9⟩ := hp
  rw [nN ht, nN hn, cntB_cong (fun k hk => hb k hk), hz] at h9
  exact kk r H1 locs1 (z, nt, np, bk, bt, V, tl, pl) ⟨rfl, h9⟩ ⟨S1, _, hw, hw2, (fun a h1 h2 => hdj a h2 h1), hD, ⟨ma, bn, rfl, hM, hI, hz, ht, hn, hb, hv, hTs, hPs⟩, hPD, hPM0⟩
theorem dt_about {D E F : T4} {a1 : Int32} {r r' : Int32} (h : P_about D a1 r E) (h' : P_about D a1 r' F) : E = F := h.1.trans h'.1.symm
theorem eq_about {D E F : T4} {a1 : Int32} {r r' : Int32} (h : P_about D a1 r E) (h' : P_about D a1 r' F) : r = r' := Int32.toInt_inj.mp (h.2.trans h'.2.symm)
end LCALL
