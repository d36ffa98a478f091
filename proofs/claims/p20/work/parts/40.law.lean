/-! THE CLAIM OUT OF ONE WALK OF THE LAW'S BODY. Your part is whole_start (and what it stands on); all else here is the same for every law, but numbers. -/
def R_law : String := "DriftDeskLaw"
def lw_P (b : Addr) (xs : List Int32) (args : Array Value) (s : State) : Prop := args = #[.ref b] ∧ s.IntsAt b xs ∧ xs.length ≤ 4096 ∧ (Jvm.Cond.and given_1 narrow_1).before args s = true
def lw_Q (_ : Array Value) (s : State) (o : Outcome) (t : State) : Prop := o = .returned (some (.int 1)) ∧ Framed s o t [] 600000 7302250
def lw_Z (below : List Frame) (a : Array Value) (s : State) : State → Prop := fun t => ∃ o, t.status = .running ∧ Ended t below o ∧ lw_Q a s o t
/-- the law's own end, with 1 on the stack, nothing written that was there before, its room as the claim has it -/
theorem lw_ret {p : Program} {l : Launch} {e : Env} {s : State} {m : MethodId} {below : List Frame} {meth : Method} {c : Code} {b : Nat} (hx : p.tables.exec = Jvm.exec) (hb : c.code = code) (hr : meth.sig.returnType = ret) (hlocks : meth.locks = false) {pc : Nat} {H : Heap} {ls : Array Slot} (hdg : decode code pc = .ok (.ireturn, 1)) : W p l e room_1 s m #[Value.ref b] below meth c H [] 600000 7302250 (lw_Z below #[Value.ref b] s) (F0 m pc ls [.int 1]) := by
  intro T hT X
  obtain ⟨fs, hret, hrun, hended, hW, hframe⟩ := X.leave (v := some (.int 1)) (hlocks := hlocks) (fun h => by rw [hr] at h; cases h)
  have hmeth' : T.vm.method? m = some meth := X.method'
  refine ⟨T.setFrames fs, ?_, .returned (some (.int 1)), hrun, hended, rfl, ⟨_, rfl⟩, hW, hframe⟩
  jvm_step X.here [X.here.top, hx, hb, hdg, hmeth', hr, ret, narrow_b1]
  (try refine ⟨rfl, ?_⟩); (try refine ⟨rfl, ?_⟩)
  first | (intro acts; rw [hret _ acts rfl rfl rfl]) | rw [hret _ _ rfl rfl rfl]
  exact Steps.refl _
/-- what holds at the law's entry: the machine, the code, the tables' words (any of lw_tbl by 'hts w (by decide +kernel)'), the script of L ints xs at the cell b, what the Statement gives of the start (any of its parts by flat_of_before) -/
def lw_At (p : Program) (s : State) (m : MethodId) (meth : Method) (c : Code) (b L : Nat) (xs : Nat → Int32) : Prop :=
  p.tables.exec = Jvm.exec ∧ c.code = code ∧ meth.sig.returnType = ret ∧ c.maxLocals = 4 ∧ s.vm.findClass R_law = some m.cls ∧ (∀ w ∈ lw_tbl, w.before #[Value.ref b] s = true) ∧ va_X b L xs s s.heap ∧ b < s.heap.size ∧ meth.locks = false ∧ (Jvm.Cond.and given_1 narrow_1).before #[Value.ref b] s = true
set_option maxRecDepth 100000 in
set_option maxHeartbeats 4000000 in
theorem law_loop {p : Program} {l : Launch} {e : Env} {s : State} {m : MethodId} {below : List Frame} {meth : Method} {c : Code} {G : Gh} {b L : Nat} {xs : Nat → Int32} {x mo : Nat} (C : LC p s m meth c b L xs G) : ∀ (n : Nat) (i : Int32) (H : Heap) (locs : List Loc) (ls : Array Slot), (4096 - i.toInt).toNat < n → (0 ≤ i.toInt ∧ i.toInt ≤ 4096) → (∃ D : T4, LW G s x mo H locs D D) → lv_has ls 4 [(3, .int i), (2, .ref mo), (1, .ref x), (0, .ref b)] → W p l e room_1 s m #[Value.ref b] below meth c H locs (94 + 3 * i.toInt.toNat) (20000 + 169 * i.toInt.toNat) (lw_Z below #[Value.ref b] s) (F0 m 18 ls []) := by
  obtain ⟨hx, hb, -, -, -⟩ := C.1.1
  have hX := C.2.1
  have hbl := C.2.2.1
  have hL := C.2.2.2
  have hbA : ¬ (fun q : Nat => s.heap.size ≤ q) b := Nat.not_le.mpr hbl
  intro n
  induction n with
  | zero => intro i H locs ls hn; exact absurd hn (Nat.not_lt_zero _)
  | succ n ih =>
    intro i H locs ls hn hi hW hl
    obtain ⟨D, hW⟩ := hW
    refine lv_iload_n hx hb dL_law_18 rfl (lv_at hl 0 rfl) ?_
    refine lv_aload_n hx hb dL_law_19 rfl (lv_at hl 3 rfl) ?_
    refine va_slen hx hb hX hbl hbA hW.S dL_law_20 ?_
    refine lv_bipush (v := 8) hx hb dL_law_21 (by decide) ?_
    refine lv_isub hx hb dL_law_23 ?_
    have tL : (Int32.ofNat L).toInt = (L : Int) := nI_toInt (by omega)
    have tS := iSub (v := Int32.ofNat L - 8) rfl tL t_8 (by omega) (by omega)
    refine lv_icmp_gt (tgt := 1020) hx hb dL_law_24 (by decide) (fun h => ?_) (fun h => ?_)
    · refine lv_iconst (v := 1) hx hb dL_law_1020 (by decide) ?_
      refine va_forget (fun q hq => hW.S.2.2 q hq) ?_
      refine W.widen (k := 600000) (n := 7302250) (by omega) (by omega) ?_
      exact lw_ret hx hb C.1.2.1 C.1.2.2.1 dL_law_1021
    · have h8 : i.toInt + 8 ≤ (L : Int) := by have := iNlt h tS rfl; omega
      refine lv_aload_n hx hb dL_law_27 rfl (lv_at hl 3 rfl) ?_
      refine lv_iload_n hx hb dL_law_28 rfl (lv_at hl 0 rfl) ?_
      refine va_sld hx hb hX hbl hbA hW.S (vinl rfl hi.1 rfl (by omega)) dL_law_29 ?_
      refine lv_bipush (v := 31) hx hb dL_law_30 (by decide) ?_
      refine lv_iand hx hb dL_law_32 ?_
      refine lv_topi (fun v _ => ?_)
      have hf : ∀ u w, u ≤ 3 → w ≤ 169 → (94 + 3 * i.toInt.toNat) + u ≤ room_1.cells ∧ (20000 + 169 * i.toInt.toNat) + w ≤ room_1.slots := fun u w hu hw => ⟨show _ ≤ 600000 by omega, show _ ≤ 7302250 by omega⟩
      have kb : ∀ (H1 : Heap) (locs1 : List Loc) (E : T4), LW G s x mo H1 locs1 E E → W p l e room_1 s m #[Value.ref b] below meth c H1 locs1 ((94 + 3 * i.toInt.toNat) + 3) ((20000 + 169 * i.toInt.toNat) + 169) (lw_Z below #[Value.ref b] s) (F0 m 1014 ls []) := fun H1 locs1 E hW1 => by
        obtain ⟨j, ej⟩ : ∃ y : Int32, y = i + 8 := ⟨_, rfl⟩
        have tj := iAdd ej rfl t_8 (by omega) (by omega)
        refine lv_iinc (v := j) (lv' := [(3, .int j), (2, .ref mo), (1, .ref x), (0, .ref b)]) hx hb dL_law_1014 hl (k := 0) rfl (by rw [ej]; rfl) (by decide) rfl (fun ls hl => ?_)
        refine lv_goto (tgt := 18) hx hb dL_law_1017 (by decide) ?_
        exact W.widen (k := 94 + 3 * j.toInt.toNat) (n := 20000 + 169 * j.toInt.toNat) (by omega) (by omega) (ih j H1 locs1 ls (by omega) (by omega) ⟨E, hW1⟩ hl)
      by_cases hr : v.toInt < 0 ∨ 21 < v.toInt
      · exact lv_tableOut (tgt := 1014) hx hb dL_law_33 hr (by decide) (W.widen (by omega) (by omega) (kb H locs D hW))
      · have K : ∀ k, k < 22 → W p l e room_1 s m #[Value.ref b] below meth c H locs (94 + 3 * i.toInt.toNat) (20000 + 169 * i.toInt.toNat) (lw_Z below #[Value.ref b] s) (F0 m 33 ls [.int (Int32.ofNat k)]) := al_s (al_s (al_s (al_s (al_s (al_s (al_s (al_s (al_s (al_s (al_s (al_s (al_s (al_s (al_s (al_s (al_s (al_s (al_s (al_s (al_s (al_s (al_0) (lv_tableIn (tgt := 136) hx hb dL_law_33 (by decide) (by decide) rfl (by decide) (lc_feed C hi.1 h8 hl hW hf kb))) (lv_tableIn (tgt := 199) hx hb dL_law_33 (by decide) (by decide) rfl (by decide) (lc_end C hi.1 h8 hl hW hf kb))) (lv_tableIn (tgt := 222) hx hb dL_law_33 (by decide) (by decide) rfl (by decide) (lc_sea C hi.1 h8 hl hW hf kb))) (lv_tableIn (tgt := 235) hx hb dL_law_33 (by decide) (by decide) rfl (by decide) (lc_fault C hi.1 h8 hl hW hf kb))) (lv_tableIn (tgt := 258) hx hb dL_law_33 (by decide) (by decide) rfl (by decide) (lc_wind C hi.1 h8 hl hW hf kb))) (lv_tableIn (tgt := 307) hx hb dL_law_33 (by decide) (by decide) rfl (by decide) (lc_stream C hi.1 h8 hl hW hf kb))) (lv_tableIn (tgt := 366) hx hb dL_law_33 (by decide) (by decide) rfl (by decide) (lc_miss C hi.1 h8 hl hW hf kb))) (lv_tableIn (tgt := 399) hx hb dL_law_33 (by decide) (by decide) rfl (by decide) (lc_land C hi.1 h8 hl hW hf kb))) (lv_tableIn (tgt := 422) hx hb dL_law_33 (by decide) (by decide) rfl (by decide) (lc_tale C hi.1 h8 hl hW hf kb))) (lv_tableIn (tgt := 485) hx hb dL_law_33 (by decide) (by decide) rfl (by decide) (lc_place C hi.1 h8 hl hW hf kb))) (lv_tableIn (tgt := 518) hx hb dL_law_33 (by decide) (by decide) rfl (by decide) (lc_state C hi.1 h8 hl hW hf kb))) (lv_tableIn (tgt := 551) hx hb dL_law_33 (by decide) (by decide) rfl (by decide) (lc_search C hi.1 h8 hl hW hf kb))) (lv_tableIn (tgt := 638) hx hb dL_law_33 (by decide) (by decide) rfl (by decide) (lc_clue C hi.1 h8 hl hW hf kb))) (lv_tableIn (tgt := 701) hx hb dL_law_33 (by decide) (by decide) rfl (by decide) (lc_back C hi.1 h8 hl hW hf kb))) (lv_tableIn (tgt := 724) hx hb dL_law_33 (by decide) (by decide) rfl (by decide) (lc_odds C hi.1 h8 hl hW hf kb))) (lv_tableIn (tgt := 747) hx hb dL_law_33 (by decide) (by decide) rfl (by decide) (lc_share C hi.1 h8 hl hW hf kb))) (lv_tableIn (tgt := 806) hx hb dL_law_33 (by decide) (by decide) rfl (by decide) (lc_likeliest C hi.1 h8 hl hW hf kb))) (lv_tableIn (tgt := 829) hx hb dL_law_33 (by decide) (by decide) rfl (by decide) (lc_seen C hi.1 h8 hl hW hf kb))) (lv_tableIn (tgt := 872) hx hb dL_law_33 (by decide) (by decide) rfl (by decide) (lc_split C hi.1 h8 hl hW hf kb))) (lv_tableIn (tgt := 925) hx hb dL_law_33 (by decide) (by decide) rfl (by decide) (lc_left C hi.1 h8 hl hW hf kb))) (lv_tableIn (tgt := 938) hx hb dL_law_33 (by decide) (by decide) rfl (by decide) (lc_tracks C hi.1 h8 hl hW hf kb))) (lv_tableIn (tgt := 991) hx hb dL_law_33 (by decide) (by decide) rfl (by decide) (lc_about C hi.1 h8 hl hW hf kb))
        have ev : v = Int32.ofNat v.toInt.toNat := Int32.toInt_inj.mp (by rw [show (Int32.ofNat v.toInt.toNat).toInt = (v.toInt.toNat : Int) from nI_toInt (by omega)]; omega)
        rw [ev]
        exact K _ (by omega)
set_option maxHeartbeats 4000000 in
theorem whole_start {p : Program} {e : Env} {s : State} {m : MethodId} {below : List Frame} {meth : Method} {c : Code} (l : Launch) {b L : Nat} {xs : Nat → Int32} (hL : L ≤ 4096) (C0 : lw_At p s m meth c b L xs) : W p l e room_1 s m #[Value.ref b] below meth c s.heap [] 0 0 (lw_Z below #[Value.ref b] s) (entryFrame m ([Value.ref b] : List Value).toArray 4) := by
  obtain ⟨hx, hb, hr, hml, hown, hts, hX, hbl, hlocks, hgv⟩ := id C0
  obtain ⟨D, cA, hK⟩ := st_K hts
  obtain ⟨G, rfl, rfl, hE⟩ := st_En hts hgv D cA
  have X : Cx p s m #[Value.ref b] meth c cL_law 4 ret RL G (fun q => s.heap.size ≤ q) := ⟨⟨hx, hb, hml, hown, fun w h => hts w (li_law w h)⟩, hr, hlocks, hK, hE, fun _ h => h, Or.inr trivial⟩
  have C : LC p s m meth c b L xs G := ⟨X, hX, hbl, hL⟩
  have hl := lv_entry ([.ref b]) (n := 4) (Nat.le_of_ble_eq_true rfl)
  rw [lg_entry_eq]
  generalize (lg_sl ([.ref b]) ++ List.replicate (4 - (lg_sl ([.ref b])).length) Slot.unset).toArray = ls at hl ⊢
  have hl : lv_has ls 4 [(0, .ref b)] := hl
  have hw : PX G (fun q => s.heap.size ≤ q) s.heap eP s.heap [] := eP_px
  refine q_new (k := 9) (ci := 10) (fs := [.null, .null, .null, .null, .null, .null, .null, .null, .int 0]) X hw rfl inlX10 tyX10_ok (by decide +kernel) wd_r1_0 wd_r1_1 wd_r1_2 (fun _ _ _ _ => rfl) (Nat.le_of_ble_eq_true rfl) (Nat.le_of_ble_eq_true rfl) dL_law_0 (fun da H fa hw => ?_)
  refine lv_dup hx hb dL_law_3 rfl ?_
  have kd : is (nO eP da 9) 9 da := ⟨List.mem_append_right _ List.mem_cons_self, vu_s⟩
  refine k_Iv (ret2 := none) (n := 0) (As := []) X hw (c_v_X10_init l G (nO eP da 9) da kd vu_s) wd_r1_6 wd_r1_7 wd_r1_2 wd_r1_8 rfl ⟨by decide, by decide, by decide +kernel⟩ rfl rfl ⟨Nat.le_of_ble_eq_true rfl, Nat.le_of_ble_eq_true rfl⟩ rfl rfl hl.1 (Nat.le_of_ble_eq_true rfl) dL_law_4 ⟨Nat.le_of_ble_eq_true rfl, Nat.le_of_ble_eq_true rfl⟩ (fun S1 H locs hD hw => ?_)
  refine lv_astore_n (lv' := [(1, .ref da), (0, .ref b)]) hx hb dL_law_7 rfl hl (by decide) rfl (fun ls hl => ?_)
  refine q_new (k := 10) (ci := 11) (fs := [.null, .null, .int 0, .int 0, .int 0, .int 0, .int 0, .int 0, .int 0, .int 0, .long 0, .null, .null, .null, .null, .null, .null, .null, .null, .null, .int 0, .int 0, .int 0, .null, .null, .null, .null, .null, .int 0, .int 0, .int 0, .int 0, .null, .null, .null, .null, .null, .null, .null, .null, .int 0, .null, .long 0, .null, .null]) X hw rfl inlX11 tyX11_ok (by decide +kernel) wd_r1_3 wd_r1_4 wd_r1_5 (fun _ _ _ _ => rfl) (Nat.le_of_ble_eq_true rfl) (Nat.le_of_ble_eq_true rfl) dL_law_8 (fun mo H fm hw => ?_)
  obtain ⟨hw1, hw, hdj⟩ := px_new fm hw
  refine lv_dup hx hb dL_law_11 rfl ?_
  have km : is (nO eP mo 10) 10 mo := ⟨List.mem_append_right _ List.mem_cons_self, vu_s⟩
  refine k2_Iv (ret2 := none) (n := 0) (As := []) X hw hw1 hdj (c_v_X11_init l G (nO eP mo 10) mo km (fun _ => vu_s)) wd_r5_3 wd_r5_4 wd_r1_5 wd_r5_5 rfl ⟨by decide, by decide, by decide +kernel⟩ rfl rfl ⟨Nat.le_of_ble_eq_true rfl, Nat.le_of_ble_eq_true rfl⟩ rfl rfl hl.1 (Nat.le_of_ble_eq_true rfl) dL_law_12 ⟨Nat.le_of_ble_eq_true rfl, Nat.le_of_ble_eq_true rfl⟩ (fun S2 H locs hM hw hw1 hdj => ?_)
  refine lv_astore_n (lv' := [(2, .ref mo), (1, .ref da), (0, .ref b)]) hx hb dL_law_15 rfl hl (by decide) rfl (fun ls hl => ?_)
  refine lv_iconst (v := 0) hx hb dL_law_16 (by decide) ?_
  refine lv_istore_n (lv' := [(3, .int 0), (2, .ref mo), (1, .ref da), (0, .ref b)]) hx hb dL_law_17 rfl hl (by decide) rfl (fun ls hl => ?_)
  exact W.widen (k := 94 + 3 * (0 : Int32).toInt.toNat) (n := 20000 + 169 * (0 : Int32).toInt.toNat) (by decide) (by decide) (law_loop C 4097 0 H locs ls (by decide) (by decide) ⟨(0, 0, 0, (fun _ => 0), (fun _ => 0), sv0, (fun _ => (0, 0, 0, 0, 0)), (fun _ => (0, 0, 0, 0, 0, 0, 0))), S1, S2, hw1, hw, (fun a h1 h2 => hdj a h2 h1), hD.w0, (by obtain ⟨ma, h1, h2, h3, h4, h5, h6, h7, h8, h9⟩ := hM; exact ⟨ma, 0, h1, h2, h3, (by rw [h4]; decide), (by rw [h5]; decide), (by rw [h6]; decide), fun k h => absurd h (Nat.not_lt_zero _), ⟨fun j h => absurd h (by omega), (by rw [h7]; decide), by decide, h8, h9, vok_0⟩, (fun k h => absurd h (Nat.not_lt_zero _)), fun k h => absurd h (Nat.not_lt_zero _)⟩), (fun k h => absurd h (Nat.not_lt_zero _)), (fun k h => absurd h (Nat.not_lt_zero _))⟩ hl)
set_option maxHeartbeats 4000000 in
theorem lw_walk (l : Launch) (b : Addr) (xs : List Int32) : MetFree l x (headSpec (Jvm.Cond.code x code maxLocals ret :: tables_1) room_1) (lw_P b xs) (fun _ _ _ _ _ => True) lw_Q := by
  refine MetFree.of_bodyS (code := code) (maxLocals := maxLocals) (ret := ret) (by decide) ?_ ?_
  · intro args s m h hn
    obtain ⟨meth, c, h1, h2, h3, h4, h5, h6, -, -⟩ := Cond.code_spec hn (atoms_spec (ws := Jvm.Cond.code x code maxLocals ret :: tables_1) h _ List.mem_cons_self)
    exact ⟨meth, c, h1, h2, h3, h4, h5, h6⟩
  · intro p e s m args below meth c s₁ B hml0 hP _
    obtain ⟨rfl, hx, hbd, hgv⟩ := hP
    obtain ⟨scr, harrAt, hlist, hof, hsmall⟩ := hx
    obtain ⟨hcb, hkn, -, -⟩ := State.arrayAt?_spec harrAt
    have hown : s.vm.findClass R_law = some m.cls := findClass_of_methodNamed B.named
    have hts0 : ∀ c ∈ (Jvm.Cond.code x code maxLocals ret :: tables_1), c.before #[Value.ref b] s = true := atoms_spec (ws := Jvm.Cond.code x code maxLocals ret :: tables_1) B.pre
    have hts : ∀ w ∈ lw_tbl, w.before #[Value.ref b] s = true := k2_hts_sels lw_privs (fun w hw => hts0 w (List.mem_cons_of_mem _ hw)) lw_privs_ok
    have hml : c.maxLocals = 4 := B.maxLocals_eq (hts0 _ List.mem_cons_self)
    have X₀ : Stand p l e room_1 s m #[Value.ref b] below meth c s₁ [] 0 0 := Stand.of_body B
    have hh0 : s₁.heap = s.heap := by rw [B.state]; rfl
    have hsz : scr.slots.size = xs.length := by rw [← Array.length_toList, hlist, List.length_map]
    have hval : ∀ j : Nat, j < xs.length → scr.slots[j]? = some (.int (xs.getD j 0)) := fun j hj => by
      rw [← Array.getElem?_toList, hlist]
      simp [hj]
    have hbl : b < s.heap.size := (Array.getElem?_eq_some_iff.mp hcb).1
    have hX : va_X b xs.length (fun j => xs.getD j 0) s s.heap := ⟨scr, hcb, hof, hkn, hsz, hval⟩
    have K : W p l e room_1 s m #[Value.ref b] below meth c s₁.heap [] 0 0 (lw_Z below #[Value.ref b] s) (entryFrame m ([Value.ref b] : List Value).toArray 4) := by
      rw [hh0]
      exact whole_start l hbd ⟨B.exec, B.bytes, B.returns, hml, hown, hts, hX, hbl, B.notSynchronized, hgv⟩
    obtain ⟨t, a1, o, b1, b2, b3⟩ := K s₁ rfl X₀
    exact ⟨t, o, a1, b1, b2, b3⟩
theorem lw_pre_spec {args : Array Value} {s : State} (h : (Jvm.Cond.and given_1 narrow_1).before args s = true) (hr : rest_1_c.before args s = true) : ∃ (b : Addr) (xs : List Int32), lw_P b xs args s := by
  have hs := flat_of_before _ h
  have hq := flat_of_before _ hr
  have hc : (Cond.count 1).before args s = true := hs _ (by decide +kernel)
  have harr : (Cond.arrayOf (.arg 0) .int).before args s = true := hs _ (by decide +kernel)
  have hle : (Cond.le (.length (.arg 0)) (.int 4096)).before args s = true := hs _ (by decide +kernel)
  have hlen : (Cond.isInt (.length (.arg 0))).before args s = true := hq _ (by decide +kernel)
  have hall : (Cond.all (.arg 0) (.isInt (.elem (.arg 0) (.index 0)))).before args s = true := hq _ (by decide +kernel)
  obtain ⟨b, xs, hb, hx⟩ := State.ints_of_pre rfl harr hlen hall
  have hsm : xs.length < 2 ^ 31 := hx.choose_spec.2.2.2
  have hev : (Term.length (.arg 0)).eval args s none [] s = some (.int xs.length.toInt32) := hx.length_eval hb
  have hv := Cond.le_ints hev (show (Term.int 4096).eval args s none [] s = some (.int 4096) from rfl)
  have hd : xs.length.toInt32 ≤ 4096 := by
    simpa [Cond.before, Cond.holds, hv] using hle
  have hN : xs.length ≤ 4096 := (Int32.ofNat_le_ofNat hsm (by decide)).mp (show Int32.ofNat xs.length ≤ Int32.ofNat 4096 from hd)
  exact ⟨b, xs, Cond.one_arg hc (show args[0]? = some (.ref b) from hb), hx, hN, h⟩
theorem lw_comes (l : Launch) : Comes l x (Jvm.Cond.code x code maxLocals ret :: tables_1) room_1 (fun tb e args s => Calls_1 tb e args s ∧ rest_1 tb e args s ∧ Pre_1 tb e args s)
    (fun _ _ args s o t => lw_Q args s o t) := by
  intro p e ha hc hk s m args below hf hfit hheap happ hpre
  obtain ⟨b, xs, hP⟩ := lw_pre_spec hpre.2.2 hpre.2.1
  obtain ⟨k, o, h1, h2, h3, hQ⟩ := lw_walk l b xs p e ha hc hk s m args below hf ((Spec.applies_iff_loose hf).mp happ).1 hP trivial
  exact ⟨k, o, h1, h2, h3, hQ⟩
theorem lw_frame {s t : State} {o : Outcome} {args : Array Value} (h : Framed s o t [] 600000 7302250) :
    Framed s o t (fieldLocs frame_1_writes args s ++ arrayLocs frame_1_arrays args s ++ staticLocs frame_1_statics s) 600000 7302250 := h
theorem lw_limb (L : Cond) (hL : ∀ (args : Array Value) (s t : State), L.after args s (.returned (some (.int 1))) t = true) :
    ArmFor flags0 classFile x code maxLocals ret World_1 tables_1 room_1 Calls_1 rest_1 Pre_1
      (fun tb e a s o t => postC L tb e a s o t ∧ Framed s o t (fieldLocs frame_1_writes a s ++ arrayLocs frame_1_arrays a s ++ staticLocs frame_1_statics s) 600000 7302250) := by
  intro l _ _ _ p e ha hc hk s m args below hf hfit hheap happ hpre
  obtain ⟨k, o, h1, h2, h3, rfl, hF⟩ := lw_comes l p e ha hc hk s m args below hf hfit hheap happ hpre
  exact ⟨k, _, h1, h2, h3, hL args s _, lw_frame hF⟩
theorem i_vc : Claimed_1_1 ∧ Claimed_1_2 := ⟨lw_limb limb_1_1 (fun args s t => by simp [limb_1_1, Cond.after, Cond.holds, Cond.value]), lw_limb limb_1_2 (fun args s t => Cond.after_iff.mpr (by
  first | (rw [show limb_1_2 = Cond.eq .result (.int 1) from rfl, Cond.eq_ints (x := 1) (y := 1) rfl rfl]; simp; done) | (simp [limb_1_2, Cond.value, Term.eval]; done)))⟩
