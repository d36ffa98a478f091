section LCASE
variable {p : Program} {l : Launch} {e : Env} {s : State} {m : MethodId} {below : List Frame} {meth : Method} {c : Code} {H : Heap} {locs : List Loc} {cells slots : Nat} {Q : State → Prop}
variable {G : Gh} {pc : Nat} {ls : Array Slot} {rest : List Value}
def bz (v : Int32) : Int32 := if v = 0 then 0 else 1
theorem LW.S {x mo : Nat} {D M : T4} (h : LW G s x mo H locs D M) : va_S (fun q => s.heap.size ≤ q) s.heap H locs := by
  obtain ⟨_, _, h, -⟩ := h
  exact h.2.2
theorem l_in {i k : Int32} {L : Nat} {a : Int} (hL : L ≤ 4096) (h0 : 0 ≤ i.toInt) (h8 : i.toInt + 8 ≤ (L : Int)) (hk : k.toInt = a) (h1 : 0 ≤ a) (h7 : a ≤ 7) : vp_in (i + k) L := by
  have := iAdd (v := i + k) rfl rfl hk (by omega) (by omega)
  exact vinl rfl (by omega) this (by omega)
theorem l_bool {b : Nat} {x : Int32} {l : Launch} (hx : p.tables.exec = Jvm.exec) (hb : c.code = cL_law) (d1 : decode cL_law pc = .ok (.ifCond .eq 7, 3)) (d2 : decode cL_law (pc + 3) = .ok (.iconst 1, 1)) (d3 : decode cL_law (pc + 4) = .ok (.goto 4, 3)) (d4 : decode cL_law (pc + 7) = .ok (.iconst 0, 1)) (k : W p l e room_1 s m #[Value.ref b] below meth c H locs cells slots Q (F0 m (pc + 8) ls (.int (bz x) :: rest))) : W p l e room_1 s m #[Value.ref b] below meth c H locs cells slots Q (F0 m pc ls (.int x :: rest)) := by
  refine lv_if_eq (tgt := pc + 7) hx hb d1 (by omega) (fun h => ?_) (fun h => ?_)
  · refine lv_iconst (v := 0) hx hb d4 (by decide) ?_
    rw [show bz x = 0 from if_pos h] at k; exact k
  · refine lv_iconst (v := 1) hx hb d2 (by decide) ?_
    refine lv_goto (tgt := pc + 8) hx hb d3 (by omega) ?_
    rw [show bz x = 1 from if_neg h] at k; exact k
theorem lc_feed {b L : Nat} {xs : Nat → Int32} {x mo : Nat} {i : Int32} {D : T4} (C : LC p s m meth c b L xs G) (h0 : 0 ≤ i.toInt) (h8 : i.toInt + 8 ≤ (L : Int)) (hl : lv_has ls 4 [(3, .int i), (2, .ref mo), (1, .ref x), (0, .ref b)]) (hW : LW G s x mo H locs D D) (hf : ∀ u v, u ≤ 3 → v ≤ 169 → cells + u ≤ room_1.cells ∧ slots + v ≤ room_1.slots)
    (kk : ∀ (H1 : Heap) (locs1 : List Loc) (E : T4), LW G s x mo H1 locs1 E E → W p l e room_1 s m #[Value.ref b] below meth c H1 locs1 (cells + 3) (slots + 169) Q (F0 m 1014 ls [])) : W p l e room_1 s m #[Value.ref b] below meth c H locs cells slots Q (F0 m 136 ls []) := by
  obtain ⟨hx, hb, -, -, -⟩ := C.1.1
  have hX := C.2.1
  have hbl := C.2.2.1
  have hbA : ¬ (fun q : Nat => s.heap.size ≤ q) b := Nat.not_le.mpr hbl
  refine lv_aload_n hx hb dL_law_136 rfl (lv_at hl 2 rfl) ?_
  refine lv_aload_n hx hb dL_law_137 rfl (lv_at hl 3 rfl) ?_
  refine lv_iload_n hx hb dL_law_138 rfl (lv_at hl 0 rfl) ?_
  refine lv_iconst (v := 1) hx hb dL_law_139 (by decide) ?_
  refine lv_iadd hx hb dL_law_140 ?_
  refine va_sld hx hb hX hbl hbA hW.S (l_in C.2.2.2 h0 h8 t_1 (by decide) (by decide)) dL_law_141 ?_
  refine lv_aload_n hx hb dL_law_142 rfl (lv_at hl 3 rfl) ?_
  refine lv_iload_n hx hb dL_law_143 rfl (lv_at hl 0 rfl) ?_
  refine lv_iconst (v := 2) hx hb dL_law_144 (by decide) ?_
  refine lv_iadd hx hb dL_law_145 ?_
  refine va_sld hx hb hX hbl hbA hW.S (l_in C.2.2.2 h0 h8 t_2 (by decide) (by decide)) dL_law_146 ?_
  refine lv_aload_n hx hb dL_law_147 rfl (lv_at hl 3 rfl) ?_
  refine lv_iload_n hx hb dL_law_148 rfl (lv_at hl 0 rfl) ?_
  refine lv_iconst (v := 3) hx hb dL_law_149 (by decide) ?_
  refine lv_iadd hx hb dL_law_150 ?_
  refine va_sld hx hb hX hbl hbA hW.S (l_in C.2.2.2 h0 h8 t_3 (by decide) (by decide)) dL_law_151 ?_
  refine lv_aload_n hx hb dL_law_152 rfl (lv_at hl 3 rfl) ?_
  refine lv_iload_n hx hb dL_law_153 rfl (lv_at hl 0 rfl) ?_
  refine lv_iconst (v := 4) hx hb dL_law_154 (by decide) ?_
  refine lv_iadd hx hb dL_law_155 ?_
  refine va_sld hx hb hX hbl hbA hW.S (l_in C.2.2.2 h0 h8 t_4 (by decide) (by decide)) dL_law_156 ?_
  refine lv_aload_n hx hb dL_law_157 rfl (lv_at hl 3 rfl) ?_
  refine lv_iload_n hx hb dL_law_158 rfl (lv_at hl 0 rfl) ?_
  refine lv_iconst (v := 5) hx hb dL_law_159 (by decide) ?_
  refine lv_iadd hx hb dL_law_160 ?_
  refine va_sld hx hb hX hbl hbA hW.S (l_in C.2.2.2 h0 h8 t_5 (by decide) (by decide)) dL_law_161 ?_
  refine ld_feed C hW (xs (i + 1).toNatClampNeg) (xs (i + 2).toNatClampNeg) (xs (i + 3).toNatClampNeg) (xs (i + 4).toNatClampNeg) (xs (i + 5).toNatClampNeg) hl.1 (Nat.le_of_ble_eq_true rfl) dL_law_162 (hf 0 0 (by decide) (by decide)) (fun r0 H locs E0 hv0 hW => ?_)
  refine lv_pop hx hb dL_law_165 rfl ?_
  refine lv_aload_n hx hb dL_law_166 rfl (lv_at hl 1 rfl) ?_
  refine lv_aload_n hx hb dL_law_167 rfl (lv_at hl 3 rfl) ?_
  refine lv_iload_n hx hb dL_law_168 rfl (lv_at hl 0 rfl) ?_
  refine lv_iconst (v := 1) hx hb dL_law_169 (by decide) ?_
  refine lv_iadd hx hb dL_law_170 ?_
  refine va_sld hx hb hX hbl hbA hW.S (l_in C.2.2.2 h0 h8 t_1 (by decide) (by decide)) dL_law_171 ?_
  refine lv_aload_n hx hb dL_law_172 rfl (lv_at hl 3 rfl) ?_
  refine lv_iload_n hx hb dL_law_173 rfl (lv_at hl 0 rfl) ?_
  refine lv_iconst (v := 2) hx hb dL_law_174 (by decide) ?_
  refine lv_iadd hx hb dL_law_175 ?_
  refine va_sld hx hb hX hbl hbA hW.S (l_in C.2.2.2 h0 h8 t_2 (by decide) (by decide)) dL_law_176 ?_
  refine lv_aload_n hx hb dL_law_177 rfl (lv_at hl 3 rfl) ?_
  refine lv_iload_n hx hb dL_law_178 rfl (lv_at hl 0 rfl) ?_
  refine lv_iconst (v := 3) hx hb dL_law_179 (by decide) ?_
  refine lv_iadd hx hb dL_law_180 ?_
  refine va_sld hx hb hX hbl hbA hW.S (l_in C.2.2.2 h0 h8 t_3 (by decide) (by decide)) dL_law_181 ?_
  refine lv_aload_n hx hb dL_law_182 rfl (lv_at hl 3 rfl) ?_
  refine lv_iload_n hx hb dL_law_183 rfl (lv_at hl 0 rfl) ?_
  refine lv_iconst (v := 4) hx hb dL_law_184 (by decide) ?_
  refine lv_iadd hx hb dL_law_185 ?_
  refine va_sld hx hb hX hbl hbA hW.S (l_in C.2.2.2 h0 h8 t_4 (by decide) (by decide)) dL_law_186 ?_
  refine lv_aload_n hx hb dL_law_187 rfl (lv_at hl 3 rfl) ?_
  refine lv_iload_n hx hb dL_law_188 rfl (lv_at hl 0 rfl) ?_
  refine lv_iconst (v := 5) hx hb dL_law_189 (by decide) ?_
  refine lv_iadd hx hb dL_law_190 ?_
  refine va_sld hx hb hX hbl hbA hW.S (l_in C.2.2.2 h0 h8 t_5 (by decide) (by decide)) dL_law_191 ?_
  refine lm_feed C hW (xs (i + 1).toNatClampNeg) (xs (i + 2).toNatClampNeg) (xs (i + 3).toNatClampNeg) (xs (i + 4).toNatClampNeg) (xs (i + 5).toNatClampNeg) hl.1 (Nat.le_of_ble_eq_true rfl) dL_law_192 (hf 0 0 (by decide) (by decide)) (fun r1 H locs E1 hv1 hW => ?_)
  obtain rfl := dt_feed hv0 hv1
  refine lv_pop hx hb dL_law_195 rfl ?_
  refine lv_goto (tgt := 1014) hx hb dL_law_196 (by decide) ?_
  exact W.widen (k := cells + 3) (n := slots + 169) (by omega) (by omega) (kk H locs _ hW)
theorem lc_end {b L : Nat} {xs : Nat → Int32} {x mo : Nat} {i : Int32} {D : T4} (C : LC p s m meth c b L xs G) (h0 : 0 ≤ i.toInt) (h8 : i.toInt + 8 ≤ (L : Int)) (hl : lv_has ls 4 [(3, .int i), (2, .ref mo), (1, .ref x), (0, .ref b)]) (hW : LW G s x mo H locs D D) (hf : ∀ u v, u ≤ 3 → v ≤ 169 → cells + u ≤ room_1.cells ∧ slots + v ≤ room_1.slots)
    (kk : ∀ (H1 : Heap) (locs1 : List Loc) (E : T4), LW G s x mo H1 locs1 E E → W p l e room_1 s m #[Value.ref b] below meth c H1 locs1 (cells + 3) (slots + 169) Q (F0 m 1014 ls [])) : W p l e room_1 s m #[Value.ref b] below meth c H locs cells slots Q (F0 m 199 ls []) := by
  obtain ⟨hx, hb, -, -, -⟩ := C.1.1
  have hX := C.2.1
  have hbl := C.2.2.1
  have hbA : ¬ (fun q : Nat => s.heap.size ≤ q) b := Nat.not_le.mpr hbl
  refine lv_aload_n hx hb dL_law_199 rfl (lv_at hl 2 rfl) ?_
  refine lv_aload_n hx hb dL_law_200 rfl (lv_at hl 3 rfl) ?_
  refine lv_iload_n hx hb dL_law_201 rfl (lv_at hl 0 rfl) ?_
  refine lv_iconst (v := 1) hx hb dL_law_202 (by decide) ?_
  refine lv_iadd hx hb dL_law_203 ?_
  refine va_sld hx hb hX hbl hbA hW.S (l_in C.2.2.2 h0 h8 t_1 (by decide) (by decide)) dL_law_204 ?_
  refine ld_end C hW (xs (i + 1).toNatClampNeg) hl.1 (Nat.le_of_ble_eq_true rfl) dL_law_205 (hf 0 0 (by decide) (by decide)) (fun r0 H locs E0 hv0 hW => ?_)
  refine lv_pop hx hb dL_law_208 rfl ?_
  refine lv_aload_n hx hb dL_law_209 rfl (lv_at hl 1 rfl) ?_
  refine lv_aload_n hx hb dL_law_210 rfl (lv_at hl 3 rfl) ?_
  refine lv_iload_n hx hb dL_law_211 rfl (lv_at hl 0 rfl) ?_
  refine lv_iconst (v := 1) hx hb dL_law_212 (by decide) ?_
  refine lv_iadd hx hb dL_law_213 ?_
  refine va_sld hx hb hX hbl hbA hW.S (l_in C.2.2.2 h0 h8 t_1 (by decide) (by decide)) dL_law_214 ?_
  refine lm_end C hW (xs (i + 1).toNatClampNeg) hl.1 (Nat.le_of_ble_eq_true rfl) dL_law_215 (hf 0 0 (by decide) (by decide)) (fun r1 H locs E1 hv1 hW => ?_)
  obtain rfl := dt_end hv0 hv1
  refine lv_pop hx hb dL_law_218 rfl ?_
  refine lv_goto (tgt := 1014) hx hb dL_law_219 (by decide) ?_
  exact W.widen (k := cells + 3) (n := slots + 169) (by omega) (by omega) (kk H locs _ hW)
theorem lc_sea {b L : Nat} {xs : Nat → Int32} {x mo : Nat} {i : Int32} {D : T4} (C : LC p s m meth c b L xs G) (h0 : 0 ≤ i.toInt) (h8 : i.toInt + 8 ≤ (L : Int)) (hl : lv_has ls 4 [(3, .int i), (2, .ref mo), (1, .ref x), (0, .ref b)]) (hW : LW G s x mo H locs D D) (hf : ∀ u v, u ≤ 3 → v ≤ 169 → cells + u ≤ room_1.cells ∧ slots + v ≤ room_1.slots)
    (kk : ∀ (H1 : Heap) (locs1 : List Loc) (E : T4), LW G s x mo H1 locs1 E E → W p l e room_1 s m #[Value.ref b] below meth c H1 locs1 (cells + 3) (slots + 169) Q (F0 m 1014 ls [])) : W p l e room_1 s m #[Value.ref b] below meth c H locs cells slots Q (F0 m 222 ls []) := by
  obtain ⟨hx, hb, -, -, -⟩ := C.1.1
  have hX := C.2.1
  have hbl := C.2.2.1
  have hbA : ¬ (fun q : Nat => s.heap.size ≤ q) b := Nat.not_le.mpr hbl
  refine lv_aload_n hx hb dL_law_222 rfl (lv_at hl 2 rfl) ?_
  refine ld_sea C hW  hl.1 (Nat.le_of_ble_eq_true rfl) dL_law_223 (hf 0 0 (by decide) (by decide)) (fun r0 H locs E0 hv0 hW => ?_)
  refine lv_pop hx hb dL_law_226 rfl ?_
  refine lv_aload_n hx hb dL_law_227 rfl (lv_at hl 1 rfl) ?_
  refine lm_sea C hW  hl.1 (Nat.le_of_ble_eq_true rfl) dL_law_228 (hf 0 0 (by decide) (by decide)) (fun r1 H locs E1 hv1 hW => ?_)
  obtain rfl := dt_sea hv0 hv1
  refine lv_pop hx hb dL_law_231 rfl ?_
  refine lv_goto (tgt := 1014) hx hb dL_law_232 (by decide) ?_
  exact W.widen (k := cells + 3) (n := slots + 169) (by omega) (by omega) (kk H locs _ hW)
theorem lc_fault {b L : Nat} {xs : Nat → Int32} {x mo : Nat} {i : Int32} {D : T4} (C : LC p s m meth c b L xs G) (h0 : 0 ≤ i.toInt) (h8 : i.toInt + 8 ≤ (L : Int)) (hl : lv_has ls 4 [(3, .int i), (2, .ref mo), (1, .ref x), (0, .ref b)]) (hW : LW G s x mo H locs D D) (hf : ∀ u v, u ≤ 3 → v ≤ 169 → cells + u ≤ room_1.cells ∧ slots + v ≤ room_1.slots)
    (kk : ∀ (H1 : Heap) (locs1 : List Loc) (E : T4), LW G s x mo H1 locs1 E E → W p l e room_1 s m #[Value.ref b] below meth c H1 locs1 (cells + 3) (slots + 169) Q (F0 m 1014 ls [])) : W p l e room_1 s m #[Value.ref b] below meth c H locs cells slots Q (F0 m 235 ls []) := by
  obtain ⟨hx, hb, -, -, -⟩ := C.1.1
  have hX := C.2.1
  have hbl := C.2.2.1
  have hbA : ¬ (fun q : Nat => s.heap.size ≤ q) b := Nat.not_le.mpr hbl
  refine lv_aload_n hx hb dL_law_235 rfl (lv_at hl 2 rfl) ?_
  refine lv_aload_n hx hb dL_law_236 rfl (lv_at hl 3 rfl) ?_
  refine lv_iload_n hx hb dL_law_237 rfl (lv_at hl 0 rfl) ?_
  refine lv_iconst (v := 1) hx hb dL_law_238 (by decide) ?_
  refine lv_iadd hx hb dL_law_239 ?_
  refine va_sld hx hb hX hbl hbA hW.S (l_in C.2.2.2 h0 h8 t_1 (by decide) (by decide)) dL_law_240 ?_
  refine ld_fault C hW (xs (i + 1).toNatClampNeg) hl.1 (Nat.le_of_ble_eq_true rfl) dL_law_241 (hf 0 0 (by decide) (by decide)) (fun r0 H locs E0 hv0 hW => ?_)
  refine lv_pop hx hb dL_law_244 rfl ?_
  refine lv_aload_n hx hb dL_law_245 rfl (lv_at hl 1 rfl) ?_
  refine lv_aload_n hx hb dL_law_246 rfl (lv_at hl 3 rfl) ?_
  refine lv_iload_n hx hb dL_law_247 rfl (lv_at hl 0 rfl) ?_
  refine lv_iconst (v := 1) hx hb dL_law_248 (by decide) ?_
  refine lv_iadd hx hb dL_law_249 ?_
  refine va_sld hx hb hX hbl hbA hW.S (l_in C.2.2.2 h0 h8 t_1 (by decide) (by decide)) dL_law_250 ?_
  refine lm_fault C hW (xs (i + 1).toNatClampNeg) hl.1 (Nat.le_of_ble_eq_true rfl) dL_law_251 (hf 0 0 (by decide) (by decide)) (fun r1 H locs E1 hv1 hW => ?_)
  obtain rfl := dt_fault hv0 hv1
  refine lv_pop hx hb dL_law_254 rfl ?_
  refine lv_goto (tgt := 1014) hx hb dL_law_255 (by decide) ?_
  exact W.widen (k := cells + 3) (n := slots + 169) (by omega) (by omega) (kk H locs _ hW)
theorem lc_wind {b L : Nat} {xs : Nat → Int32} {x mo : Nat} {i : Int32} {D : T4} (C : LC p s m meth c b L xs G) (h0 : 0 ≤ i.toInt) (h8 : i.toInt + 8 ≤ (L : Int)) (hl : lv_has ls 4 [(3, .int i), (2, .ref mo), (1, .ref x), (0, .ref b)]) (hW : LW G s x mo H locs D D) (hf : ∀ u v, u ≤ 3 → v ≤ 169 → cells + u ≤ room_1.cells ∧ slots + v ≤ room_1.slots)
    (kk : ∀ (H1 : Heap) (locs1 : List Loc) (E : T4), LW G s x mo H1 locs1 E E → W p l e room_1 s m #[Value.ref b] below meth c H1 locs1 (cells + 3) (slots + 169) Q (F0 m 1014 ls [])) : W p l e room_1 s m #[Value.ref b] below meth c H locs cells slots Q (F0 m 258 ls []) := by
  obtain ⟨hx, hb, -, -, -⟩ := C.1.1
  have hX := C.2.1
  have hbl := C.2.2.1
  have hbA : ¬ (fun q : Nat => s.heap.size ≤ q) b := Nat.not_le.mpr hbl
  refine lv_aload_n hx hb dL_law_258 rfl (lv_at hl 2 rfl) ?_
  refine lv_aload_n hx hb dL_law_259 rfl (lv_at hl 3 rfl) ?_
  refine lv_iload_n hx hb dL_law_260 rfl (lv_at hl 0 rfl) ?_
  refine lv_iconst (v := 1) hx hb dL_law_261 (by decide) ?_
  refine lv_iadd hx hb dL_law_262 ?_
  refine va_sld hx hb hX hbl hbA hW.S (l_in C.2.2.2 h0 h8 t_1 (by decide) (by decide)) dL_law_263 ?_
  refine lv_aload_n hx hb dL_law_264 rfl (lv_at hl 3 rfl) ?_
  refine lv_iload_n hx hb dL_law_265 rfl (lv_at hl 0 rfl) ?_
  refine lv_iconst (v := 2) hx hb dL_law_266 (by decide) ?_
  refine lv_iadd hx hb dL_law_267 ?_
  refine va_sld hx hb hX hbl hbA hW.S (l_in C.2.2.2 h0 h8 t_2 (by decide) (by decide)) dL_law_268 ?_
  refine l_bool hx hb dL_law_269 dL_law_272 dL_law_273 dL_law_276 ?_
  refine ld_wind C hW (xs (i + 1).toNatClampNeg) (bz (xs (i + 2).toNatClampNeg)) hl.1 (Nat.le_of_ble_eq_true rfl) dL_law_277 (hf 0 0 (by decide) (by decide)) (fun r0 H locs E0 hv0 hW => ?_)
  refine lv_pop hx hb dL_law_280 rfl ?_
  refine lv_aload_n hx hb dL_law_281 rfl (lv_at hl 1 rfl) ?_
  refine lv_aload_n hx hb dL_law_282 rfl (lv_at hl 3 rfl) ?_
  refine lv_iload_n hx hb dL_law_283 rfl (lv_at hl 0 rfl) ?_
  refine lv_iconst (v := 1) hx hb dL_law_284 (by decide) ?_
  refine lv_iadd hx hb dL_law_285 ?_
  refine va_sld hx hb hX hbl hbA hW.S (l_in C.2.2.2 h0 h8 t_1 (by decide) (by decide)) dL_law_286 ?_
  refine lv_aload_n hx hb dL_law_287 rfl (lv_at hl 3 rfl) ?_
  refine lv_iload_n hx hb dL_law_288 rfl (lv_at hl 0 rfl) ?_
  refine lv_iconst (v := 2) hx hb dL_law_289 (by decide) ?_
  refine lv_iadd hx hb dL_law_290 ?_
  refine va_sld hx hb hX hbl hbA hW.S (l_in C.2.2.2 h0 h8 t_2 (by decide) (by decide)) dL_law_291 ?_
  refine l_bool hx hb dL_law_292 dL_law_295 dL_law_296 dL_law_299 ?_
  refine lm_wind C hW (xs (i + 1).toNatClampNeg) (bz (xs (i + 2).toNatClampNeg)) hl.1 (Nat.le_of_ble_eq_true rfl) dL_law_300 (hf 0 0 (by decide) (by decide)) (fun r1 H locs E1 hv1 hW => ?_)
  obtain rfl := dt_wind hv0 hv1
  refine lv_pop hx hb dL_law_303 rfl ?_
  refine lv_goto (tgt := 1014) hx hb dL_law_304 (by decide) ?_
  exact W.widen (k := cells + 3) (n := slots + 169) (by omega) (by omega) (kk H locs _ hW)
theorem lc_stream {b L : Nat} {xs : Nat → Int32} {x mo : Nat} {i : Int32} {D : T4} (C : LC p s m meth c b L xs G) (h0 : 0 ≤ i.toInt) (h8 : i.toInt + 8 ≤ (L : Int)) (hl : lv_has ls 4 [(3, .int i), (2, .ref mo), (1, .ref x), (0, .ref b)]) (hW : LW G s x mo H locs D D) (hf : ∀ u v, u ≤ 3 → v ≤ 169 → cells + u ≤ room_1.cells ∧ slots + v ≤ room_1.slots)
    (kk : ∀ (H1 : Heap) (locs1 : List Loc) (E : T4), LW G s x mo H1 locs1 E E → W p l e room_1 s m #[Value.ref b] below meth c H1 locs1 (cells + 3) (slots + 169) Q (F0 m 1014 ls [])) : W p l e room_1 s m #[Value.ref b] below meth c H locs cells slots Q (F0 m 307 ls []) := by
  obtain ⟨hx, hb, -, -, -⟩ := C.1.1
  have hX := C.2.1
  have hbl := C.2.2.1
  have hbA : ¬ (fun q : Nat => s.heap.size ≤ q) b := Nat.not_le.mpr hbl
  refine lv_aload_n hx hb dL_law_307 rfl (lv_at hl 2 rfl) ?_
  refine lv_aload_n hx hb dL_law_308 rfl (lv_at hl 3 rfl) ?_
  refine lv_iload_n hx hb dL_law_309 rfl (lv_at hl 0 rfl) ?_
  refine lv_iconst (v := 1) hx hb dL_law_310 (by decide) ?_
  refine lv_iadd hx hb dL_law_311 ?_
  refine va_sld hx hb hX hbl hbA hW.S (l_in C.2.2.2 h0 h8 t_1 (by decide) (by decide)) dL_law_312 ?_
  refine lv_aload_n hx hb dL_law_313 rfl (lv_at hl 3 rfl) ?_
  refine lv_iload_n hx hb dL_law_314 rfl (lv_at hl 0 rfl) ?_
  refine lv_iconst (v := 2) hx hb dL_law_315 (by decide) ?_
  refine lv_iadd hx hb dL_law_316 ?_
  refine va_sld hx hb hX hbl hbA hW.S (l_in C.2.2.2 h0 h8 t_2 (by decide) (by decide)) dL_law_317 ?_
  refine lv_aload_n hx hb dL_law_318 rfl (lv_at hl 3 rfl) ?_
  refine lv_iload_n hx hb dL_law_319 rfl (lv_at hl 0 rfl) ?_
  refine lv_iconst (v := 3) hx hb dL_law_320 (by decide) ?_
  refine lv_iadd hx hb dL_law_321 ?_
  refine va_sld hx hb hX hbl hbA hW.S (l_in C.2.2.2 h0 h8 t_3 (by decide) (by decide)) dL_law_322 ?_
  refine l_bool hx hb dL_law_323 dL_law_326 dL_law_327 dL_law_330 ?_
  refine ld_stream C hW (xs (i + 1).toNatClampNeg) (xs (i + 2).toNatClampNeg) (bz (xs (i + 3).toNatClampNeg)) hl.1 (Nat.le_of_ble_eq_true rfl) dL_law_331 (hf 0 0 (by decide) (by decide)) (fun r0 H locs E0 hv0 hW => ?_)
  refine lv_pop hx hb dL_law_334 rfl ?_
  refine lv_aload_n hx hb dL_law_335 rfl (lv_at hl 1 rfl) ?_
  refine lv_aload_n hx hb dL_law_336 rfl (lv_at hl 3 rfl) ?_
  refine lv_iload_n hx hb dL_law_337 rfl (lv_at hl 0 rfl) ?_
  refine lv_iconst (v := 1) hx hb dL_law_338 (by decide) ?_
  refine lv_iadd hx hb dL_law_339 ?_
  refine va_sld hx hb hX hbl hbA hW.S (l_in C.2.2.2 h0 h8 t_1 (by decide) (by decide)) dL_law_340 ?_
  refine lv_aload_n hx hb dL_law_341 rfl (lv_at hl 3 rfl) ?_
  refine lv_iload_n hx hb dL_law_342 rfl (lv_at hl 0 rfl) ?_
  refine lv_iconst (v := 2) hx hb dL_law_343 (by decide) ?_
  refine lv_iadd hx hb dL_law_344 ?_
  refine va_sld hx hb hX hbl hbA hW.S (l_in C.2.2.2 h0 h8 t_2 (by decide) (by decide)) dL_law_345 ?_
  refine lv_aload_n hx hb dL_law_346 rfl (lv_at hl 3 rfl) ?_
  refine lv_iload_n hx hb dL_law_347 rfl (lv_at hl 0 rfl) ?_
  refine lv_iconst (v := 3) hx hb dL_law_348 (by decide) ?_
  refine lv_iadd hx hb dL_law_349 ?_
  refine va_sld hx hb hX hbl hbA hW.S (l_in C.2.2.2 h0 h8 t_3 (by decide) (by decide)) dL_law_350 ?_
  refine l_bool hx hb dL_law_351 dL_law_354 dL_law_355 dL_law_358 ?_
  refine lm_stream C hW (xs (i + 1).toNatClampNeg) (xs (i + 2).toNatClampNeg) (bz (xs (i + 3).toNatClampNeg)) hl.1 (Nat.le_of_ble_eq_true rfl) dL_law_359 (hf 0 0 (by decide) (by decide)) (fun r1 H locs E1 hv1 hW => ?_)
  obtain rfl := dt_stream hv0 hv1
  refine lv_pop hx hb dL_law_362 rfl ?_
  refine lv_goto (tgt := 1014) hx hb dL_law_363 (by decide) ?_
  exact W.widen (k := cells + 3) (n := slots + 169) (by omega) (by omega) (kk H locs _ hW)
theorem lc_miss {b L : Nat} {xs : Nat → Int32} {x mo : Nat} {i : Int32} {D : T4} (C : LC p s m meth c b L xs G) (h0 : 0 ≤ i.toInt) (h8 : i.toInt + 8 ≤ (L : Int)) (hl : lv_has ls 4 [(3, .int i), (2, .ref mo), (1, .ref x), (0, .ref b)]) (hW : LW G s x mo H locs D D) (hf : ∀ u v, u ≤ 3 → v ≤ 169 → cells + u ≤ room_1.cells ∧ slots + v ≤ room_1.slots)
    (kk : ∀ (H1 : Heap) (locs1 : List Loc) (E : T4), LW G s x mo H1 locs1 E E → W p l e room_1 s m #[Value.ref b] below meth c H1 locs1 (cells + 3) (slots + 169) Q (F0 m 1014 ls [])) : W p l e room_1 s m #[Value.ref b] below meth c H locs cells slots Q (F0 m 366 ls []) := by
  obtain ⟨hx, hb, -, -, -⟩ := C.1.1
  have hX := C.2.1
  have hbl := C.2.2.1
  have hbA : ¬ (fun q : Nat => s.heap.size ≤ q) b := Nat.not_le.mpr hbl
  refine lv_aload_n hx hb dL_law_366 rfl (lv_at hl 2 rfl) ?_
  refine lv_aload_n hx hb dL_law_367 rfl (lv_at hl 3 rfl) ?_
  refine lv_iload_n hx hb dL_law_368 rfl (lv_at hl 0 rfl) ?_
  refine lv_iconst (v := 1) hx hb dL_law_369 (by decide) ?_
  refine lv_iadd hx hb dL_law_370 ?_
  refine va_sld hx hb hX hbl hbA hW.S (l_in C.2.2.2 h0 h8 t_1 (by decide) (by decide)) dL_law_371 ?_
  refine lv_aload_n hx hb dL_law_372 rfl (lv_at hl 3 rfl) ?_
  refine lv_iload_n hx hb dL_law_373 rfl (lv_at hl 0 rfl) ?_
  refine lv_iconst (v := 2) hx hb dL_law_374 (by decide) ?_
  refine lv_iadd hx hb dL_law_375 ?_
  refine va_sld hx hb hX hbl hbA hW.S (l_in C.2.2.2 h0 h8 t_2 (by decide) (by decide)) dL_law_376 ?_
  refine ld_miss C hW (xs (i + 1).toNatClampNeg) (xs (i + 2).toNatClampNeg) hl.1 (Nat.le_of_ble_eq_true rfl) dL_law_377 (hf 0 0 (by decide) (by decide)) (fun r0 H locs E0 hv0 hW => ?_)
  refine lv_pop hx hb dL_law_380 rfl ?_
  refine lv_aload_n hx hb dL_law_381 rfl (lv_at hl 1 rfl) ?_
  refine lv_aload_n hx hb dL_law_382 rfl (lv_at hl 3 rfl) ?_
  refine lv_iload_n hx hb dL_law_383 rfl (lv_at hl 0 rfl) ?_
  refine lv_iconst (v := 1) hx hb dL_law_384 (by decide) ?_
  refine lv_iadd hx hb dL_law_385 ?_
  refine va_sld hx hb hX hbl hbA hW.S (l_in C.2.2.2 h0 h8 t_1 (by decide) (by decide)) dL_law_386 ?_
  refine lv_aload_n hx hb dL_law_387 rfl (lv_at hl 3 rfl) ?_
  refine lv_iload_n hx hb dL_law_388 rfl (lv_at hl 0 rfl) ?_
  refine lv_iconst (v := 2) hx hb dL_law_389 (by decide) ?_
  refine lv_iadd hx hb dL_law_390 ?_
  refine va_sld hx hb hX hbl hbA hW.S (l_in C.2.2.2 h0 h8 t_2 (by decide) (by decide)) dL_law_391 ?_
  refine lm_miss C hW (xs (i + 1).toNatClampNeg) (xs (i + 2).toNatClampNeg) hl.1 (Nat.le_of_ble_eq_true rfl) dL_law_392 (hf 0 0 (by decide) (by decide)) (fun r1 H locs E1 hv1 hW => ?_)
  obtain rfl := dt_miss hv0 hv1
  refine lv_pop hx hb dL_law_395 rfl ?_
  refine lv_goto (tgt := 1014) hx hb dL_law_396 (by decide) ?_
  exact W.widen (k := cells + 3) (n := slots + 169) (by omega) (by omega) (kk H locs _ hW)
theorem lc_land {b L : Nat} {xs : Nat → Int32} {x mo : Nat} {i : Int32} {D : T4} (C : LC p s m meth c b L xs G) (h0 : 0 ≤ i.toInt) (h8 : i.toInt + 8 ≤ (L : Int)) (hl : lv_has ls 4 [(3, .int i), (2, .ref mo), (1, .ref x), (0, .ref b)]) (hW : LW G s x mo H locs D D) (hf : ∀ u v, u ≤ 3 → v ≤ 169 → cells + u ≤ room_1.cells ∧ slots + v ≤ room_1.slots)
    (kk : ∀ (H1 : Heap) (locs1 : List Loc) (E : T4), LW G s x mo H1 locs1 E E → W p l e room_1 s m #[Value.ref b] below meth c H1 locs1 (cells + 3) (slots + 169) Q (F0 m 1014 ls [])) : W p l e room_1 s m #[Value.ref b] below meth c H locs cells slots Q (F0 m 399 ls []) := by
  obtain ⟨hx, hb, -, -, -⟩ := C.1.1
  have hX := C.2.1
  have hbl := C.2.2.1
  have hbA : ¬ (fun q : Nat => s.heap.size ≤ q) b := Nat.not_le.mpr hbl
  refine lv_aload_n hx hb dL_law_399 rfl (lv_at hl 2 rfl) ?_
  refine lv_aload_n hx hb dL_law_400 rfl (lv_at hl 3 rfl) ?_
  refine lv_iload_n hx hb dL_law_401 rfl (lv_at hl 0 rfl) ?_
  refine lv_iconst (v := 1) hx hb dL_law_402 (by decide) ?_
  refine lv_iadd hx hb dL_law_403 ?_
  refine va_sld hx hb hX hbl hbA hW.S (l_in C.2.2.2 h0 h8 t_1 (by decide) (by decide)) dL_law_404 ?_
  refine ld_land C hW (xs (i + 1).toNatClampNeg) hl.1 (Nat.le_of_ble_eq_true rfl) dL_law_405 (hf 0 0 (by decide) (by decide)) (fun r0 H locs E0 hv0 hW => ?_)
  refine lv_pop hx hb dL_law_408 rfl ?_
  refine lv_aload_n hx hb dL_law_409 rfl (lv_at hl 1 rfl) ?_
  refine lv_aload_n hx hb dL_law_410 rfl (lv_at hl 3 rfl) ?_
  refine lv_iload_n hx hb dL_law_411 rfl (lv_at hl 0 rfl) ?_
  refine lv_iconst (v := 1) hx hb dL_law_412 (by decide) ?_
  refine lv_iadd hx hb dL_law_413 ?_
  refine va_sld hx hb hX hbl hbA hW.S (l_in C.2.2.2 h0 h8 t_1 (by decide) (by decide)) dL_law_414 ?_
  refine lm_land C hW (xs (i + 1).toNatClampNeg) hl.1 (Nat.le_of_ble_eq_true rfl) dL_law_415 (hf 0 0 (by decide) (by decide)) (fun r1 H locs E1 hv1 hW => ?_)
  obtain rfl := dt_land hv0 hv1
  refine lv_pop hx hb dL_law_418 rfl ?_
  refine lv_goto (tgt := 1014) hx hb dL_law_419 (by decide) ?_
  exact W.widen (k := cells + 3) (n := slots + 169) (by omega) (by omega) (kk H locs _ hW)
theorem lc_tale {b L : Nat} {xs : Nat → Int32} {x mo : Nat} {i : Int32} {D : T4} (C : LC p s m meth c b L xs G) (h0 : 0 ≤ i.toInt) (h8 : i.toInt + 8 ≤ (L : Int)) (hl : lv_has ls 4 [(3, .int i), (2, .ref mo), (1, .ref x), (0, .ref b)]) (hW : LW G s x mo H locs D D) (hf : ∀ u v, u ≤ 3 → v ≤ 169 → cells + u ≤ room_1.cells ∧ slots + v ≤ room_1.slots)
    (kk : ∀ (H1 : Heap) (locs1 : List Loc) (E : T4), LW G s x mo H1 locs1 E E → W p l e room_1 s m #[Value.ref b] below meth c H1 locs1 (cells + 3) (slots + 169) Q (F0 m 1014 ls [])) : W p l e room_1 s m #[Value.ref b] below meth c H locs cells slots Q (F0 m 422 ls []) := by
  obtain ⟨hx, hb, -, -, -⟩ := C.1.1
  have hX := C.2.1
  have hbl := C.2.2.1
  have hbA : ¬ (fun q : Nat => s.heap.size ≤ q) b := Nat.not_le.mpr hbl
  refine lv_aload_n hx hb dL_law_422 rfl (lv_at hl 2 rfl) ?_
  refine lv_aload_n hx hb dL_law_423 rfl (lv_at hl 3 rfl) ?_
  refine lv_iload_n hx hb dL_law_424 rfl (lv_at hl 0 rfl) ?_
  refine lv_iconst (v := 1) hx hb dL_law_425 (by decide) ?_
  refine lv_iadd hx hb dL_law_426 ?_
  refine va_sld hx hb hX hbl hbA hW.S (l_in C.2.2.2 h0 h8 t_1 (by decide) (by decide)) dL_law_427 ?_
  refine lv_aload_n hx hb dL_law_428 rfl (lv_at hl 3 rfl) ?_
  refine lv_iload_n hx hb dL_law_429 rfl (lv_at hl 0 rfl) ?_
  refine lv_iconst (v := 2) hx hb dL_law_430 (by decide) ?_
  refine lv_iadd hx hb dL_law_431 ?_
  refine va_sld hx hb hX hbl hbA hW.S (l_in C.2.2.2 h0 h8 t_2 (by decide) (by decide)) dL_law_432 ?_
  refine lv_aload_n hx hb dL_law_433 rfl (lv_at hl 3 rfl) ?_
  refine lv_iload_n hx hb dL_law_434 rfl (lv_at hl 0 rfl) ?_
  refine lv_iconst (v := 3) hx hb dL_law_435 (by decide) ?_
  refine lv_iadd hx hb dL_law_436 ?_
  refine va_sld hx hb hX hbl hbA hW.S (l_in C.2.2.2 h0 h8 t_3 (by decide) (by decide)) dL_law_437 ?_
  refine lv_aload_n hx hb dL_law_438 rfl (lv_at hl 3 rfl) ?_
  refine lv_iload_n hx hb dL_law_439 rfl (lv_at hl 0 rfl) ?_
  refine lv_iconst (v := 4) hx hb dL_law_440 (by decide) ?_
  refine lv_iadd hx hb dL_law_441 ?_
  refine va_sld hx hb hX hbl hbA hW.S (l_in C.2.2.2 h0 h8 t_4 (by decide) (by decide)) dL_law_442 ?_
  refine lv_aload_n hx hb dL_law_443 rfl (lv_at hl 3 rfl) ?_
  refine lv_iload_n hx hb dL_law_444 rfl (lv_at hl 0 rfl) ?_
  refine lv_iconst (v := 5) hx hb dL_law_445 (by decide) ?_
  refine lv_iadd hx hb dL_law_446 ?_
  refine va_sld hx hb hX hbl hbA hW.S (l_in C.2.2.2 h0 h8 t_5 (by decide) (by decide)) dL_law_447 ?_
  refine ld_tale C hW (xs (i + 1).toNatClampNeg) (xs (i + 2).toNatClampNeg) (xs (i + 3).toNatClampNeg) (xs (i + 4).toNatClampNeg) (xs (i + 5).toNatClampNeg) hl.1 (Nat.le_of_ble_eq_true rfl) dL_law_448 (hf 3 169 (by decide) (by decide)) (fun r0 H locs E0 hv0 hW => ?_)
  refine lv_pop hx hb dL_law_451 rfl ?_
  refine lv_aload_n hx hb dL_law_452 rfl (lv_at hl 1 rfl) ?_
  refine lv_aload_n hx hb dL_law_453 rfl (lv_at hl 3 rfl) ?_
  refine lv_iload_n hx hb dL_law_454 rfl (lv_at hl 0 rfl) ?_
  refine lv_iconst (v := 1) hx hb dL_law_455 (by decide) ?_
  refine lv_iadd hx hb dL_law_456 ?_
  refine va_sld hx hb hX hbl hbA hW.S (l_in C.2.2.2 h0 h8 t_1 (by decide) (by decide)) dL_law_457 ?_
  refine lv_aload_n hx hb dL_law_458 rfl (lv_at hl 3 rfl) ?_
  refine lv_iload_n hx hb dL_law_459 rfl (lv_at hl 0 rfl) ?_
  refine lv_iconst (v := 2) hx hb dL_law_460 (by decide) ?_
  refine lv_iadd hx hb dL_law_461 ?_
  refine va_sld hx hb hX hbl hbA hW.S (l_in C.2.2.2 h0 h8 t_2 (by decide) (by decide)) dL_law_462 ?_
  refine lv_aload_n hx hb dL_law_463 rfl (lv_at hl 3 rfl) ?_
  refine lv_iload_n hx hb dL_law_464 rfl (lv_at hl 0 rfl) ?_
  refine lv_iconst (v := 3) hx hb dL_law_465 (by decide) ?_
  refine lv_iadd hx hb dL_law_466 ?_
  refine va_sld hx hb hX hbl hbA hW.S (l_in C.2.2.2 h0 h8 t_3 (by decide) (by decide)) dL_law_467 ?_
  refine lv_aload_n hx hb dL_law_468 rfl (lv_at hl 3 rfl) ?_
  refine lv_iload_n hx hb dL_law_469 rfl (lv_at hl 0 rfl) ?_
  refine lv_iconst (v := 4) hx hb dL_law_470 (by decide) ?_
  refine lv_iadd hx hb dL_law_471 ?_
  refine va_sld hx hb hX hbl hbA hW.S (l_in C.2.2.2 h0 h8 t_4 (by decide) (by decide)) dL_law_472 ?_
  refine lv_aload_n hx hb dL_law_473 rfl (lv_at hl 3 rfl) ?_
  refine lv_iload_n hx hb dL_law_474 rfl (lv_at hl 0 rfl) ?_
  refine lv_iconst (v := 5) hx hb dL_law_475 (by decide) ?_
  refine lv_iadd hx hb dL_law_476 ?_
  refine va_sld hx hb hX hbl hbA hW.S (l_in C.2.2.2 h0 h8 t_5 (by decide) (by decide)) dL_law_477 ?_
  refine lm_tale C hW (xs (i + 1).toNatClampNeg) (xs (i + 2).toNatClampNeg) (xs (i + 3).toNatClampNeg) (xs (i + 4).toNatClampNeg) (xs (i + 5).toNatClampNeg) hl.1 (Nat.le_of_ble_eq_true rfl) dL_law_478 (hf 3 169 (by decide) (by decide)) (fun r1 H locs E1 hv1 hW => ?_)
  obtain rfl := dt_tale hv0 hv1
  refine lv_pop hx hb dL_law_481 rfl ?_
  refine lv_goto (tgt := 1014) hx hb dL_law_482 (by decide) ?_
  exact W.widen (k := cells + 3) (n := slots + 169) (by omega) (by omega) (kk H locs _ hW)
theorem lc_place {b L : Nat} {xs : Nat → Int32} {x mo : Nat} {i : Int32} {D : T4} (C : LC p s m meth c b L xs G) (h0 : 0 ≤ i.toInt) (h8 : i.toInt + 8 ≤ (L : Int)) (hl : lv_has ls 4 [(3, .int i), (2, .ref mo), (1, .ref x), (0, .ref b)]) (hW : LW G s x mo H locs D D) (hf : ∀ u v, u ≤ 3 → v ≤ 169 → cells + u ≤ room_1.cells ∧ slots + v ≤ room_1.slots)
    (kk : ∀ (H1 : Heap) (locs1 : List Loc) (E : T4), LW G s x mo H1 locs1 E E → W p l e room_1 s m #[Value.ref b] below meth c H1 locs1 (cells + 3) (slots + 169) Q (F0 m 1014 ls [])) : W p l e room_1 s m #[Value.ref b] below meth c H locs cells slots Q (F0 m 485 ls []) := by
  obtain ⟨hx, hb, -, -, -⟩ := C.1.1
  have hX := C.2.1
  have hbl := C.2.2.1
  have hbA : ¬ (fun q : Nat => s.heap.size ≤ q) b := Nat.not_le.mpr hbl
  refine lv_aload_n hx hb dL_law_485 rfl (lv_at hl 2 rfl) ?_
  refine lv_aload_n hx hb dL_law_486 rfl (lv_at hl 3 rfl) ?_
  refine lv_iload_n hx hb dL_law_487 rfl (lv_at hl 0 rfl) ?_
  refine lv_iconst (v := 1) hx hb dL_law_488 (by decide) ?_
  refine lv_iadd hx hb dL_law_489 ?_
  refine va_sld hx hb hX hbl hbA hW.S (l_in C.2.2.2 h0 h8 t_1 (by decide) (by decide)) dL_law_490 ?_
  refine lv_aload_n hx hb dL_law_491 rfl (lv_at hl 3 rfl) ?_
  refine lv_iload_n hx hb dL_law_492 rfl (lv_at hl 0 rfl) ?_
  refine lv_iconst (v := 2) hx hb dL_law_493 (by decide) ?_
  refine lv_iadd hx hb dL_law_494 ?_
  refine va_sld hx hb hX hbl hbA hW.S (l_in C.2.2.2 h0 h8 t_2 (by decide) (by decide)) dL_law_495 ?_
  refine ld_place C hW (xs (i + 1).toNatClampNeg) (xs (i + 2).toNatClampNeg) hl.1 (Nat.le_of_ble_eq_true rfl) dL_law_496 (hf 0 0 (by decide) (by decide)) (fun r0 H locs E0 hv0 hW => ?_)
  refine lv_pop hx hb dL_law_499 rfl ?_
  refine lv_aload_n hx hb dL_law_500 rfl (lv_at hl 1 rfl) ?_
  refine lv_aload_n hx hb dL_law_501 rfl (lv_at hl 3 rfl) ?_
  refine lv_iload_n hx hb dL_law_502 rfl (lv_at hl 0 rfl) ?_
  refine lv_iconst (v := 1) hx hb dL_law_503 (by decide) ?_
  refine lv_iadd hx hb dL_law_504 ?_
  refine va_sld hx hb hX hbl hbA hW.S (l_in C.2.2.2 h0 h8 t_1 (by decide) (by decide)) dL_law_505 ?_
  refine lv_aload_n hx hb dL_law_506 rfl (lv_at hl 3 rfl) ?_
  refine lv_iload_n hx hb dL_law_507 rfl (lv_at hl 0 rfl) ?_
  refine lv_iconst (v := 2) hx hb dL_law_508 (by decide) ?_
  refine lv_iadd hx hb dL_law_509 ?_
  refine va_sld hx hb hX hbl hbA hW.S (l_in C.2.2.2 h0 h8 t_2 (by decide) (by decide)) dL_law_510 ?_
  refine lm_place C hW (xs (i + 1).toNatClampNeg) (xs (i + 2).toNatClampNeg) hl.1 (Nat.le_of_ble_eq_true rfl) dL_law_511 (hf 0 0 (by decide) (by decide)) (fun r1 H locs E1 hv1 hW => ?_)
  obtain rfl := dt_place hv0 hv1
  refine lv_pop hx hb dL_law_514 rfl ?_
  refine lv_goto (tgt := 1014) hx hb dL_law_515 (by decide) ?_
  exact W.widen (k := cells + 3) (n := slots + 169) (by omega) (by omega) (kk H locs _ hW)
theorem lc_state {b L : Nat} {xs : Nat → Int32} {x mo : Nat} {i : Int32} {D : T4} (C : LC p s m meth c b L xs G) (h0 : 0 ≤ i.toInt) (h8 : i.toInt + 8 ≤ (L : Int)) (hl : lv_has ls 4 [(3, .int i), (2, .ref mo), (1, .ref x), (0, .ref b)]) (hW : LW G s x mo H locs D D) (hf : ∀ u v, u ≤ 3 → v ≤ 169 → cells + u ≤ room_1.cells ∧ slots + v ≤ room_1.slots)
    (kk : ∀ (H1 : Heap) (locs1 : List Loc) (E : T4), LW G s x mo H1 locs1 E E → W p l e room_1 s m #[Value.ref b] below meth c H1 locs1 (cells + 3) (slots + 169) Q (F0 m 1014 ls [])) : W p l e room_1 s m #[Value.ref b] below meth c H locs cells slots Q (F0 m 518 ls []) := by
  obtain ⟨hx, hb, -, -, -⟩ := C.1.1
  have hX := C.2.1
  have hbl := C.2.2.1
  have hbA : ¬ (fun q : Nat => s.heap.size ≤ q) b := Nat.not_le.mpr hbl
  refine lv_aload_n hx hb dL_law_518 rfl (lv_at hl 2 rfl) ?_
  refine lv_aload_n hx hb dL_law_519 rfl (lv_at hl 3 rfl) ?_
  refine lv_iload_n hx hb dL_law_520 rfl (lv_at hl 0 rfl) ?_
  refine lv_iconst (v := 1) hx hb dL_law_521 (by decide) ?_
  refine lv_iadd hx hb dL_law_522 ?_
  refine va_sld hx hb hX hbl hbA hW.S (l_in C.2.2.2 h0 h8 t_1 (by decide) (by decide)) dL_law_523 ?_
  refine lv_aload_n hx hb dL_law_524 rfl (lv_at hl 3 rfl) ?_
  refine lv_iload_n hx hb dL_law_525 rfl (lv_at hl 0 rfl) ?_
  refine lv_iconst (v := 2) hx hb dL_law_526 (by decide) ?_
  refine lv_iadd hx hb dL_law_527 ?_
  refine va_sld hx hb hX hbl hbA hW.S (l_in C.2.2.2 h0 h8 t_2 (by decide) (by decide)) dL_law_528 ?_
  refine ld_state C hW (xs (i + 1).toNatClampNeg) (xs (i + 2).toNatClampNeg) hl.1 (Nat.le_of_ble_eq_true rfl) dL_law_529 (hf 0 0 (by decide) (by decide)) (fun r0 H locs E0 hv0 hW => ?_)
  refine lv_pop hx hb dL_law_532 rfl ?_
  refine lv_aload_n hx hb dL_law_533 rfl (lv_at hl 1 rfl) ?_
  refine lv_aload_n hx hb dL_law_534 rfl (lv_at hl 3 rfl) ?_
  refine lv_iload_n hx hb dL_law_535 rfl (lv_at hl 0 rfl) ?_
  refine lv_iconst (v := 1) hx hb dL_law_536 (by decide) ?_
  refine lv_iadd hx hb dL_law_537 ?_
  refine va_sld hx hb hX hbl hbA hW.S (l_in C.2.2.2 h0 h8 t_1 (by decide) (by decide)) dL_law_538 ?_
  refine lv_aload_n hx hb dL_law_539 rfl (lv_at hl 3 rfl) ?_
  refine lv_iload_n hx hb dL_law_540 rfl (lv_at hl 0 rfl) ?_
  refine lv_iconst (v := 2) hx hb dL_law_541 (by decide) ?_
  refine lv_iadd hx hb dL_law_542 ?_
  refine va_sld hx hb hX hbl hbA hW.S (l_in C.2.2.2 h0 h8 t_2 (by decide) (by decide)) dL_law_543 ?_
  refine lm_state C hW (xs (i + 1).toNatClampNeg) (xs (i + 2).toNatClampNeg) hl.1 (Nat.le_of_ble_eq_true rfl) dL_law_544 (hf 0 0 (by decide) (by decide)) (fun r1 H locs E1 hv1 hW => ?_)
  obtain rfl := dt_state hv0 hv1
  refine lv_pop hx hb dL_law_547 rfl ?_
  refine lv_goto (tgt := 1014) hx hb dL_law_548 (by decide) ?_
  exact W.widen (k := cells + 3) (n := slots + 169) (by omega) (by omega) (kk H locs _ hW)
theorem lc_search {b L : Nat} {xs : Nat → Int32} {x mo : Nat} {i : Int32} {D : T4} (C : LC p s m meth c b L xs G) (h0 : 0 ≤ i.toInt) (h8 : i.toInt + 8 ≤ (L : Int)) (hl : lv_has ls 4 [(3, .int i), (2, .ref mo), (1, .ref x), (0, .ref b)]) (hW : LW G s x mo H locs D D) (hf : ∀ u v, u ≤ 3 → v ≤ 169 → cells + u ≤ room_1.cells ∧ slots + v ≤ room_1.slots)
    (kk : ∀ (H1 : Heap) (locs1 : List Loc) (E : T4), LW G s x mo H1 locs1 E E → W p l e room_1 s m #[Value.ref b] below meth c H1 locs1 (cells + 3) (slots + 169) Q (F0 m 1014 ls [])) : W p l e room_1 s m #[Value.ref b] below meth c H locs cells slots Q (F0 m 551 ls []) := by
  obtain ⟨hx, hb, -, -, -⟩ := C.1.1
  have hX := C.2.1
  have hbl := C.2.2.1
  have hbA : ¬ (fun q : Nat => s.heap.size ≤ q) b := Nat.not_le.mpr hbl
  refine lv_aload_n hx hb dL_law_551 rfl (lv_at hl 2 rfl) ?_
  refine lv_aload_n hx hb dL_law_552 rfl (lv_at hl 3 rfl) ?_
  refine lv_iload_n hx hb dL_law_553 rfl (lv_at hl 0 rfl) ?_
  refine lv_iconst (v := 1) hx hb dL_law_554 (by decide) ?_
  refine lv_iadd hx hb dL_law_555 ?_
  refine va_sld hx hb hX hbl hbA hW.S (l_in C.2.2.2 h0 h8 t_1 (by decide) (by decide)) dL_law_556 ?_
  refine lv_aload_n hx hb dL_law_557 rfl (lv_at hl 3 rfl) ?_
  refine lv_iload_n hx hb dL_law_558 rfl (lv_at hl 0 rfl) ?_
  refine lv_iconst (v := 2) hx hb dL_law_559 (by decide) ?_
  refine lv_iadd hx hb dL_law_560 ?_
  refine va_sld hx hb hX hbl hbA hW.S (l_in C.2.2.2 h0 h8 t_2 (by decide) (by decide)) dL_law_561 ?_
  refine lv_aload_n hx hb dL_law_562 rfl (lv_at hl 3 rfl) ?_
  refine lv_iload_n hx hb dL_law_563 rfl (lv_at hl 0 rfl) ?_
  refine lv_iconst (v := 3) hx hb dL_law_564 (by decide) ?_
  refine lv_iadd hx hb dL_law_565 ?_
  refine va_sld hx hb hX hbl hbA hW.S (l_in C.2.2.2 h0 h8 t_3 (by decide) (by decide)) dL_law_566 ?_
  refine lv_aload_n hx hb dL_law_567 rfl (lv_at hl 3 rfl) ?_
  refine lv_iload_n hx hb dL_law_568 rfl (lv_at hl 0 rfl) ?_
  refine lv_iconst (v := 4) hx hb dL_law_569 (by decide) ?_
  refine lv_iadd hx hb dL_law_570 ?_
  refine va_sld hx hb hX hbl hbA hW.S (l_in C.2.2.2 h0 h8 t_4 (by decide) (by decide)) dL_law_571 ?_
  refine lv_aload_n hx hb dL_law_572 rfl (lv_at hl 3 rfl) ?_
  refine lv_iload_n hx hb dL_law_573 rfl (lv_at hl 0 rfl) ?_
  refine lv_iconst (v := 5) hx hb dL_law_574 (by decide) ?_
  refine lv_iadd hx hb dL_law_575 ?_
  refine va_sld hx hb hX hbl hbA hW.S (l_in C.2.2.2 h0 h8 t_5 (by decide) (by decide)) dL_law_576 ?_
  refine lv_aload_n hx hb dL_law_577 rfl (lv_at hl 3 rfl) ?_
  refine lv_iload_n hx hb dL_law_578 rfl (lv_at hl 0 rfl) ?_
  refine lv_bipush (v := 6) hx hb dL_law_579 (by decide) ?_
  refine lv_iadd hx hb dL_law_581 ?_
  refine va_sld hx hb hX hbl hbA hW.S (l_in C.2.2.2 h0 h8 t_6 (by decide) (by decide)) dL_law_582 ?_
  refine lv_aload_n hx hb dL_law_583 rfl (lv_at hl 3 rfl) ?_
  refine lv_iload_n hx hb dL_law_584 rfl (lv_at hl 0 rfl) ?_
  refine lv_bipush (v := 7) hx hb dL_law_585 (by decide) ?_
  refine lv_iadd hx hb dL_law_587 ?_
  refine va_sld hx hb hX hbl hbA hW.S (l_in C.2.2.2 h0 h8 t_7 (by decide) (by decide)) dL_law_588 ?_
  refine ld_search C hW (xs (i + 1).toNatClampNeg) (xs (i + 2).toNatClampNeg) (xs (i + 3).toNatClampNeg) (xs (i + 4).toNatClampNeg) (xs (i + 5).toNatClampNeg) (xs (i + 6).toNatClampNeg) (xs (i + 7).toNatClampNeg) hl.1 (Nat.le_of_ble_eq_true rfl) dL_law_589 (hf 2 98 (by decide) (by decide)) (fun r0 H locs E0 hv0 hW => ?_)
  refine lv_pop hx hb dL_law_592 rfl ?_
  refine lv_aload_n hx hb dL_law_593 rfl (lv_at hl 1 rfl) ?_
  refine lv_aload_n hx hb dL_law_594 rfl (lv_at hl 3 rfl) ?_
  refine lv_iload_n hx hb dL_law_595 rfl (lv_at hl 0 rfl) ?_
  refine lv_iconst (v := 1) hx hb dL_law_596 (by decide) ?_
  refine lv_iadd hx hb dL_law_597 ?_
  refine va_sld hx hb hX hbl hbA hW.S (l_in C.2.2.2 h0 h8 t_1 (by decide) (by decide)) dL_law_598 ?_
  refine lv_aload_n hx hb dL_law_599 rfl (lv_at hl 3 rfl) ?_
  refine lv_iload_n hx hb dL_law_600 rfl (lv_at hl 0 rfl) ?_
  refine lv_iconst (v := 2) hx hb dL_law_601 (by decide) ?_
  refine lv_iadd hx hb dL_law_602 ?_
  refine va_sld hx hb hX hbl hbA hW.S (l_in C.2.2.2 h0 h8 t_2 (by decide) (by decide)) dL_law_603 ?_
  refine lv_aload_n hx hb dL_law_604 rfl (lv_at hl 3 rfl) ?_
  refine lv_iload_n hx hb dL_law_605 rfl (lv_at hl 0 rfl) ?_
  refine lv_iconst (v := 3) hx hb dL_law_606 (by decide) ?_
  refine lv_iadd hx hb dL_law_607 ?_
  refine va_sld hx hb hX hbl hbA hW.S (l_in C.2.2.2 h0 h8 t_3 (by decide) (by decide)) dL_law_608 ?_
  refine lv_aload_n hx hb dL_law_609 rfl (lv_at hl 3 rfl) ?_
  refine lv_iload_n hx hb dL_law_610 rfl (lv_at hl 0 rfl) ?_
  refine lv_iconst (v := 4) hx hb dL_law_611 (by decide) ?_
  refine lv_iadd hx hb dL_law_612 ?_
  refine va_sld hx hb hX hbl hbA hW.S (l_in C.2.2.2 h0 h8 t_4 (by decide) (by decide)) dL_law_613 ?_
  refine lv_aload_n hx hb dL_law_614 rfl (lv_at hl 3 rfl) ?_
  refine lv_iload_n hx hb dL_law_615 rfl (lv_at hl 0 rfl) ?_
  refine lv_iconst (v := 5) hx hb dL_law_616 (by decide) ?_
  refine lv_iadd hx hb dL_law_617 ?_
  refine va_sld hx hb hX hbl hbA hW.S (l_in C.2.2.2 h0 h8 t_5 (by decide) (by decide)) dL_law_618 ?_
  refine lv_aload_n hx hb dL_law_619 rfl (lv_at hl 3 rfl) ?_
  refine lv_iload_n hx hb dL_law_620 rfl (lv_at hl 0 rfl) ?_
  refine lv_bipush (v := 6) hx hb dL_law_621 (by decide) ?_
  refine lv_iadd hx hb dL_law_623 ?_
  refine va_sld hx hb hX hbl hbA hW.S (l_in C.2.2.2 h0 h8 t_6 (by decide) (by decide)) dL_law_624 ?_
  refine lv_aload_n hx hb dL_law_625 rfl (lv_at hl 3 rfl) ?_
  refine lv_iload_n hx hb dL_law_626 rfl (lv_at hl 0 rfl) ?_
  refine lv_bipush (v := 7) hx hb dL_law_627 (by decide) ?_
  refine lv_iadd hx hb dL_law_629 ?_
  refine va_sld hx hb hX hbl hbA hW.S (l_in C.2.2.2 h0 h8 t_7 (by decide) (by decide)) dL_law_630 ?_
  refine lm_search C hW (xs (i + 1).toNatClampNeg) (xs (i + 2).toNatClampNeg) (xs (i + 3).toNatClampNeg) (xs (i + 4).toNatClampNeg) (xs (i + 5).toNatClampNeg) (xs (i + 6).toNatClampNeg) (xs (i + 7).toNatClampNeg) hl.1 (Nat.le_of_ble_eq_true rfl) dL_law_631 (hf 2 98 (by decide) (by decide)) (fun r1 H locs E1 hv1 hW => ?_)
  obtain rfl := dt_search hv0 hv1
  refine lv_pop hx hb dL_law_634 rfl ?_
  refine lv_goto (tgt := 1014) hx hb dL_law_635 (by decide) ?_
  exact W.widen (k := cells + 3) (n := slots + 169) (by omega) (by omega) (kk H locs _ hW)
theorem lc_clue {b L : Nat} {xs : Nat → Int32} {x mo : Nat} {i : Int32} {D : T4} (C : LC p s m meth c b L xs G) (h0 : 0 ≤ i.toInt) (h8 : i.toInt + 8 ≤ (L : Int)) (hl : lv_has ls 4 [(3, .int i), (2, .ref mo), (1, .ref x), (0, .ref b)]) (hW : LW G s x mo H locs D D) (hf : ∀ u v, u ≤ 3 → v ≤ 169 → cells + u ≤ room_1.cells ∧ slots + v ≤ room_1.slots)
    (kk : ∀ (H1 : Heap) (locs1 : List Loc) (E : T4), LW G s x mo H1 locs1 E E → W p l e room_1 s m #[Value.ref b] below meth c H1 locs1 (cells + 3) (slots + 169) Q (F0 m 1014 ls [])) : W p l e room_1 s m #[Value.ref b] below meth c H locs cells slots Q (F0 m 638 ls []) := by
  obtain ⟨hx, hb, -, -, -⟩ := C.1.1
  have hX := C.2.1
  have hbl := C.2.2.1
  have hbA : ¬ (fun q : Nat => s.heap.size ≤ q) b := Nat.not_le.mpr hbl
  refine lv_aload_n hx hb dL_law_638 rfl (lv_at hl 2 rfl) ?_
  refine lv_aload_n hx hb dL_law_639 rfl (lv_at hl 3 rfl) ?_
  refine lv_iload_n hx hb dL_law_640 rfl (lv_at hl 0 rfl) ?_
  refine lv_iconst (v := 1) hx hb dL_law_641 (by decide) ?_
  refine lv_iadd hx hb dL_law_642 ?_
  refine va_sld hx hb hX hbl hbA hW.S (l_in C.2.2.2 h0 h8 t_1 (by decide) (by decide)) dL_law_643 ?_
  refine lv_aload_n hx hb dL_law_644 rfl (lv_at hl 3 rfl) ?_
  refine lv_iload_n hx hb dL_law_645 rfl (lv_at hl 0 rfl) ?_
  refine lv_iconst (v := 2) hx hb dL_law_646 (by decide) ?_
  refine lv_iadd hx hb dL_law_647 ?_
  refine va_sld hx hb hX hbl hbA hW.S (l_in C.2.2.2 h0 h8 t_2 (by decide) (by decide)) dL_law_648 ?_
  refine lv_aload_n hx hb dL_law_649 rfl (lv_at hl 3 rfl) ?_
  refine lv_iload_n hx hb dL_law_650 rfl (lv_at hl 0 rfl) ?_
  refine lv_iconst (v := 3) hx hb dL_law_651 (by decide) ?_
  refine lv_iadd hx hb dL_law_652 ?_
  refine va_sld hx hb hX hbl hbA hW.S (l_in C.2.2.2 h0 h8 t_3 (by decide) (by decide)) dL_law_653 ?_
  refine lv_aload_n hx hb dL_law_654 rfl (lv_at hl 3 rfl) ?_
  refine lv_iload_n hx hb dL_law_655 rfl (lv_at hl 0 rfl) ?_
  refine lv_iconst (v := 4) hx hb dL_law_656 (by decide) ?_
  refine lv_iadd hx hb dL_law_657 ?_
  refine va_sld hx hb hX hbl hbA hW.S (l_in C.2.2.2 h0 h8 t_4 (by decide) (by decide)) dL_law_658 ?_
  refine lv_aload_n hx hb dL_law_659 rfl (lv_at hl 3 rfl) ?_
  refine lv_iload_n hx hb dL_law_660 rfl (lv_at hl 0 rfl) ?_
  refine lv_iconst (v := 5) hx hb dL_law_661 (by decide) ?_
  refine lv_iadd hx hb dL_law_662 ?_
  refine va_sld hx hb hX hbl hbA hW.S (l_in C.2.2.2 h0 h8 t_5 (by decide) (by decide)) dL_law_663 ?_
  refine ld_clue C hW (xs (i + 1).toNatClampNeg) (xs (i + 2).toNatClampNeg) (xs (i + 3).toNatClampNeg) (xs (i + 4).toNatClampNeg) (xs (i + 5).toNatClampNeg) hl.1 (Nat.le_of_ble_eq_true rfl) dL_law_664 (hf 2 96 (by decide) (by decide)) (fun r0 H locs E0 hv0 hW => ?_)
  refine lv_pop hx hb dL_law_667 rfl ?_
  refine lv_aload_n hx hb dL_law_668 rfl (lv_at hl 1 rfl) ?_
  refine lv_aload_n hx hb dL_law_669 rfl (lv_at hl 3 rfl) ?_
  refine lv_iload_n hx hb dL_law_670 rfl (lv_at hl 0 rfl) ?_
  refine lv_iconst (v := 1) hx hb dL_law_671 (by decide) ?_
  refine lv_iadd hx hb dL_law_672 ?_
  refine va_sld hx hb hX hbl hbA hW.S (l_in C.2.2.2 h0 h8 t_1 (by decide) (by decide)) dL_law_673 ?_
  refine lv_aload_n hx hb dL_law_674 rfl (lv_at hl 3 rfl) ?_
  refine lv_iload_n hx hb dL_law_675 rfl (lv_at hl 0 rfl) ?_
  refine lv_iconst (v := 2) hx hb dL_law_676 (by decide) ?_
  refine lv_iadd hx hb dL_law_677 ?_
  refine va_sld hx hb hX hbl hbA hW.S (l_in C.2.2.2 h0 h8 t_2 (by decide) (by decide)) dL_law_678 ?_
  refine lv_aload_n hx hb dL_law_679 rfl (lv_at hl 3 rfl) ?_
  refine lv_iload_n hx hb dL_law_680 rfl (lv_at hl 0 rfl) ?_
  refine lv_iconst (v := 3) hx hb dL_law_681 (by decide) ?_
  refine lv_iadd hx hb dL_law_682 ?_
  refine va_sld hx hb hX hbl hbA hW.S (l_in C.2.2.2 h0 h8 t_3 (by decide) (by decide)) dL_law_683 ?_
  refine lv_aload_n hx hb dL_law_684 rfl (lv_at hl 3 rfl) ?_
  refine lv_iload_n hx hb dL_law_685 rfl (lv_at hl 0 rfl) ?_
  refine lv_iconst (v := 4) hx hb dL_law_686 (by decide) ?_
  refine lv_iadd hx hb dL_law_687 ?_
  refine va_sld hx hb hX hbl hbA hW.S (l_in C.2.2.2 h0 h8 t_4 (by decide) (by decide)) dL_law_688 ?_
  refine lv_aload_n hx hb dL_law_689 rfl (lv_at hl 3 rfl) ?_
  refine lv_iload_n hx hb dL_law_690 rfl (lv_at hl 0 rfl) ?_
  refine lv_iconst (v := 5) hx hb dL_law_691 (by decide) ?_
  refine lv_iadd hx hb dL_law_692 ?_
  refine va_sld hx hb hX hbl hbA hW.S (l_in C.2.2.2 h0 h8 t_5 (by decide) (by decide)) dL_law_693 ?_
  refine lm_clue C hW (xs (i + 1).toNatClampNeg) (xs (i + 2).toNatClampNeg) (xs (i + 3).toNatClampNeg) (xs (i + 4).toNatClampNeg) (xs (i + 5).toNatClampNeg) hl.1 (Nat.le_of_ble_eq_true rfl) dL_law_694 (hf 2 96 (by decide) (by decide)) (fun r1 H locs E1 hv1 hW => ?_)
  obtain rfl := dt_clue hv0 hv1
  refine lv_pop hx hb dL_law_697 rfl ?_
  refine lv_goto (tgt := 1014) hx hb dL_law_698 (by decide) ?_
  exact W.widen (k := cells + 3) (n := slots + 169) (by omega) (by omega) (kk H locs _ hW)
theorem lc_back {b L : Nat} {xs : Nat → Int32} {x mo : Nat} {i : Int32} {D : T4} (C : LC p s m meth c b L xs G) (h0 : 0 ≤ i.toInt) (h8 : i.toInt + 8 ≤ (L : Int)) (hl : lv_has ls 4 [(3, .int i), (2, .ref mo), (1, .ref x), (0, .ref b)]) (hW : LW G s x mo H locs D D) (hf : ∀ u v, u ≤ 3 → v ≤ 169 → cells + u ≤ room_1.cells ∧ slots + v ≤ room_1.slots)
    (kk : ∀ (H1 : Heap) (locs1 : List Loc) (E : T4), LW G s x mo H1 locs1 E E → W p l e room_1 s m #[Value.ref b] below meth c H1 locs1 (cells + 3) (slots + 169) Q (F0 m 1014 ls [])) : W p l e room_1 s m #[Value.ref b] below meth c H locs cells slots Q (F0 m 701 ls []) := by
  obtain ⟨hx, hb, -, -, -⟩ := C.1.1
  have hX := C.2.1
  have hbl := C.2.2.1
  have hbA : ¬ (fun q : Nat => s.heap.size ≤ q) b := Nat.not_le.mpr hbl
  refine lv_aload_n hx hb dL_law_701 rfl (lv_at hl 2 rfl) ?_
  refine lv_aload_n hx hb dL_law_702 rfl (lv_at hl 3 rfl) ?_
  refine lv_iload_n hx hb dL_law_703 rfl (lv_at hl 0 rfl) ?_
  refine lv_iconst (v := 1) hx hb dL_law_704 (by decide) ?_
  refine lv_iadd hx hb dL_law_705 ?_
  refine va_sld hx hb hX hbl hbA hW.S (l_in C.2.2.2 h0 h8 t_1 (by decide) (by decide)) dL_law_706 ?_
  refine ld_back C hW (xs (i + 1).toNatClampNeg) hl.1 (Nat.le_of_ble_eq_true rfl) dL_law_707 (hf 0 0 (by decide) (by decide)) (fun r0 H locs E0 hv0 hW => ?_)
  refine lv_pop hx hb dL_law_710 rfl ?_
  refine lv_aload_n hx hb dL_law_711 rfl (lv_at hl 1 rfl) ?_
  refine lv_aload_n hx hb dL_law_712 rfl (lv_at hl 3 rfl) ?_
  refine lv_iload_n hx hb dL_law_713 rfl (lv_at hl 0 rfl) ?_
  refine lv_iconst (v := 1) hx hb dL_law_714 (by decide) ?_
  refine lv_iadd hx hb dL_law_715 ?_
  refine va_sld hx hb hX hbl hbA hW.S (l_in C.2.2.2 h0 h8 t_1 (by decide) (by decide)) dL_law_716 ?_
  refine lm_back C hW (xs (i + 1).toNatClampNeg) hl.1 (Nat.le_of_ble_eq_true rfl) dL_law_717 (hf 0 0 (by decide) (by decide)) (fun r1 H locs E1 hv1 hW => ?_)
  obtain rfl := dt_back hv0 hv1
  refine lv_pop hx hb dL_law_720 rfl ?_
  refine lv_goto (tgt := 1014) hx hb dL_law_721 (by decide) ?_
  exact W.widen (k := cells + 3) (n := slots + 169) (by omega) (by omega) (kk H locs _ hW)
theorem lc_odds {b L : Nat} {xs : Nat → Int32} {x mo : Nat} {i : Int32} {D : T4} (C : LC p s m meth c b L xs G) (h0 : 0 ≤ i.toInt) (h8 : i.toInt + 8 ≤ (L : Int)) (hl : lv_has ls 4 [(3, .int i), (2, .ref mo), (1, .ref x), (0, .ref b)]) (hW : LW G s x mo H locs D D) (hf : ∀ u v, u ≤ 3 → v ≤ 169 → cells + u ≤ room_1.cells ∧ slots + v ≤ room_1.slots)
    (kk : ∀ (H1 : Heap) (locs1 : List Loc) (E : T4), LW G s x mo H1 locs1 E E → W p l e room_1 s m #[Value.ref b] below meth c H1 locs1 (cells + 3) (slots + 169) Q (F0 m 1014 ls [])) : W p l e room_1 s m #[Value.ref b] below meth c H locs cells slots Q (F0 m 724 ls []) := by
  obtain ⟨hx, hb, -, -, -⟩ := C.1.1
  have hX := C.2.1
  have hbl := C.2.2.1
  have hbA : ¬ (fun q : Nat => s.heap.size ≤ q) b := Nat.not_le.mpr hbl
  refine lv_aload_n hx hb dL_law_724 rfl (lv_at hl 2 rfl) ?_
  refine lv_aload_n hx hb dL_law_725 rfl (lv_at hl 3 rfl) ?_
  refine lv_iload_n hx hb dL_law_726 rfl (lv_at hl 0 rfl) ?_
  refine lv_iconst (v := 1) hx hb dL_law_727 (by decide) ?_
  refine lv_iadd hx hb dL_law_728 ?_
  refine va_sld hx hb hX hbl hbA hW.S (l_in C.2.2.2 h0 h8 t_1 (by decide) (by decide)) dL_law_729 ?_
  refine ld_odds C hW (xs (i + 1).toNatClampNeg) hl.1 (Nat.le_of_ble_eq_true rfl) dL_law_730 (hf 0 0 (by decide) (by decide)) (fun r0 H locs E0 hv0 hW => ?_)
  refine lv_pop2_2 hx hb dL_law_733 rfl ?_
  refine lv_aload_n hx hb dL_law_734 rfl (lv_at hl 1 rfl) ?_
  refine lv_aload_n hx hb dL_law_735 rfl (lv_at hl 3 rfl) ?_
  refine lv_iload_n hx hb dL_law_736 rfl (lv_at hl 0 rfl) ?_
  refine lv_iconst (v := 1) hx hb dL_law_737 (by decide) ?_
  refine lv_iadd hx hb dL_law_738 ?_
  refine va_sld hx hb hX hbl hbA hW.S (l_in C.2.2.2 h0 h8 t_1 (by decide) (by decide)) dL_law_739 ?_
  refine lm_odds C hW (xs (i + 1).toNatClampNeg) hl.1 (Nat.le_of_ble_eq_true rfl) dL_law_740 (hf 0 0 (by decide) (by decide)) (fun r1 H locs E1 hv1 hW => ?_)
  obtain rfl := dt_odds hv0 hv1
  refine lv_pop2_2 hx hb dL_law_743 rfl ?_
  refine lv_goto (tgt := 1014) hx hb dL_law_744 (by decide) ?_
  exact W.widen (k := cells + 3) (n := slots + 169) (by omega) (by omega) (kk H locs _ hW)
theorem lc_share {b L : Nat} {xs : Nat → Int32} {x mo : Nat} {i : Int32} {D : T4} (C : LC p s m meth c b L xs G) (h0 : 0 ≤ i.toInt) (h8 : i.toInt + 8 ≤ (L : Int)) (hl : lv_has ls 4 [(3, .int i), (2, .ref mo), (1, .ref x), (0, .ref b)]) (hW : LW G s x mo H locs D D) (hf : ∀ u v, u ≤ 3 → v ≤ 169 → cells + u ≤ room_1.cells ∧ slots + v ≤ room_1.slots)
    (kk : ∀ (H1 : Heap) (locs1 : List Loc) (E : T4), LW G s x mo H1 locs1 E E → W p l e room_1 s m #[Value.ref b] below meth c H1 locs1 (cells + 3) (slots + 169) Q (F0 m 1014 ls [])) : W p l e room_1 s m #[Value.ref b] below meth c H locs cells slots Q (F0 m 747 ls []) := by
  obtain ⟨hx, hb, -, -, -⟩ := C.1.1
  have hX := C.2.1
  have hbl := C.2.2.1
  have hbA : ¬ (fun q : Nat => s.heap.size ≤ q) b := Nat.not_le.mpr hbl
  refine lv_aload_n hx hb dL_law_747 rfl (lv_at hl 2 rfl) ?_
  refine lv_aload_n hx hb dL_law_748 rfl (lv_at hl 3 rfl) ?_
  refine lv_iload_n hx hb dL_law_749 rfl (lv_at hl 0 rfl) ?_
  refine lv_iconst (v := 1) hx hb dL_law_750 (by decide) ?_
  refine lv_iadd hx hb dL_law_751 ?_
  refine va_sld hx hb hX hbl hbA hW.S (l_in C.2.2.2 h0 h8 t_1 (by decide) (by decide)) dL_law_752 ?_
  refine lv_aload_n hx hb dL_law_753 rfl (lv_at hl 3 rfl) ?_
  refine lv_iload_n hx hb dL_law_754 rfl (lv_at hl 0 rfl) ?_
  refine lv_iconst (v := 2) hx hb dL_law_755 (by decide) ?_
  refine lv_iadd hx hb dL_law_756 ?_
  refine va_sld hx hb hX hbl hbA hW.S (l_in C.2.2.2 h0 h8 t_2 (by decide) (by decide)) dL_law_757 ?_
  refine lv_aload_n hx hb dL_law_758 rfl (lv_at hl 3 rfl) ?_
  refine lv_iload_n hx hb dL_law_759 rfl (lv_at hl 0 rfl) ?_
  refine lv_iconst (v := 3) hx hb dL_law_760 (by decide) ?_
  refine lv_iadd hx hb dL_law_761 ?_
  refine va_sld hx hb hX hbl hbA hW.S (l_in C.2.2.2 h0 h8 t_3 (by decide) (by decide)) dL_law_762 ?_
  refine l_bool hx hb dL_law_763 dL_law_766 dL_law_767 dL_law_770 ?_
  refine ld_share C hW (xs (i + 1).toNatClampNeg) (xs (i + 2).toNatClampNeg) (bz (xs (i + 3).toNatClampNeg)) hl.1 (Nat.le_of_ble_eq_true rfl) dL_law_771 (hf 0 0 (by decide) (by decide)) (fun r0 H locs E0 hv0 hW => ?_)
  refine lv_pop2_2 hx hb dL_law_774 rfl ?_
  refine lv_aload_n hx hb dL_law_775 rfl (lv_at hl 1 rfl) ?_
  refine lv_aload_n hx hb dL_law_776 rfl (lv_at hl 3 rfl) ?_
  refine lv_iload_n hx hb dL_law_777 rfl (lv_at hl 0 rfl) ?_
  refine lv_iconst (v := 1) hx hb dL_law_778 (by decide) ?_
  refine lv_iadd hx hb dL_law_779 ?_
  refine va_sld hx hb hX hbl hbA hW.S (l_in C.2.2.2 h0 h8 t_1 (by decide) (by decide)) dL_law_780 ?_
  refine lv_aload_n hx hb dL_law_781 rfl (lv_at hl 3 rfl) ?_
  refine lv_iload_n hx hb dL_law_782 rfl (lv_at hl 0 rfl) ?_
  refine lv_iconst (v := 2) hx hb dL_law_783 (by decide) ?_
  refine lv_iadd hx hb dL_law_784 ?_
  refine va_sld hx hb hX hbl hbA hW.S (l_in C.2.2.2 h0 h8 t_2 (by decide) (by decide)) dL_law_785 ?_
  refine lv_aload_n hx hb dL_law_786 rfl (lv_at hl 3 rfl) ?_
  refine lv_iload_n hx hb dL_law_787 rfl (lv_at hl 0 rfl) ?_
  refine lv_iconst (v := 3) hx hb dL_law_788 (by decide) ?_
  refine lv_iadd hx hb dL_law_789 ?_
  refine va_sld hx hb hX hbl hbA hW.S (l_in C.2.2.2 h0 h8 t_3 (by decide) (by decide)) dL_law_790 ?_
  refine l_bool hx hb dL_law_791 dL_law_794 dL_law_795 dL_law_798 ?_
  refine lm_share C hW (xs (i + 1).toNatClampNeg) (xs (i + 2).toNatClampNeg) (bz (xs (i + 3).toNatClampNeg)) hl.1 (Nat.le_of_ble_eq_true rfl) dL_law_799 (hf 0 0 (by decide) (by decide)) (fun r1 H locs E1 hv1 hW => ?_)
  obtain rfl := dt_share hv0 hv1
  refine lv_pop2_2 hx hb dL_law_802 rfl ?_
  refine lv_goto (tgt := 1014) hx hb dL_law_803 (by decide) ?_
  exact W.widen (k := cells + 3) (n := slots + 169) (by omega) (by omega) (kk H locs _ hW)
theorem lc_likeliest {b L : Nat} {xs : Nat → Int32} {x mo : Nat} {i : Int32} {D : T4} (C : LC p s m meth c b L xs G) (h0 : 0 ≤ i.toInt) (h8 : i.toInt + 8 ≤ (L : Int)) (hl : lv_has ls 4 [(3, .int i), (2, .ref mo), (1, .ref x), (0, .ref b)]) (hW : LW G s x mo H locs D D) (hf : ∀ u v, u ≤ 3 → v ≤ 169 → cells + u ≤ room_1.cells ∧ slots + v ≤ room_1.slots)
    (kk : ∀ (H1 : Heap) (locs1 : List Loc) (E : T4), LW G s x mo H1 locs1 E E → W p l e room_1 s m #[Value.ref b] below meth c H1 locs1 (cells + 3) (slots + 169) Q (F0 m 1014 ls [])) : W p l e room_1 s m #[Value.ref b] below meth c H locs cells slots Q (F0 m 806 ls []) := by
  obtain ⟨hx, hb, -, -, -⟩ := C.1.1
  have hX := C.2.1
  have hbl := C.2.2.1
  have hbA : ¬ (fun q : Nat => s.heap.size ≤ q) b := Nat.not_le.mpr hbl
  refine lv_aload_n hx hb dL_law_806 rfl (lv_at hl 2 rfl) ?_
  refine lv_aload_n hx hb dL_law_807 rfl (lv_at hl 3 rfl) ?_
  refine lv_iload_n hx hb dL_law_808 rfl (lv_at hl 0 rfl) ?_
  refine lv_iconst (v := 1) hx hb dL_law_809 (by decide) ?_
  refine lv_iadd hx hb dL_law_810 ?_
  refine va_sld hx hb hX hbl hbA hW.S (l_in C.2.2.2 h0 h8 t_1 (by decide) (by decide)) dL_law_811 ?_
  refine ld_likeliest C hW (xs (i + 1).toNatClampNeg) hl.1 (Nat.le_of_ble_eq_true rfl) dL_law_812 (hf 0 0 (by decide) (by decide)) (fun r0 H locs E0 hv0 hW => ?_)
  refine lv_pop hx hb dL_law_815 rfl ?_
  refine lv_aload_n hx hb dL_law_816 rfl (lv_at hl 1 rfl) ?_
  refine lv_aload_n hx hb dL_law_817 rfl (lv_at hl 3 rfl) ?_
  refine lv_iload_n hx hb dL_law_818 rfl (lv_at hl 0 rfl) ?_
  refine lv_iconst (v := 1) hx hb dL_law_819 (by decide) ?_
  refine lv_iadd hx hb dL_law_820 ?_
  refine va_sld hx hb hX hbl hbA hW.S (l_in C.2.2.2 h0 h8 t_1 (by decide) (by decide)) dL_law_821 ?_
  refine lm_likeliest C hW (xs (i + 1).toNatClampNeg) hl.1 (Nat.le_of_ble_eq_true rfl) dL_law_822 (hf 0 0 (by decide) (by decide)) (fun r1 H locs E1 hv1 hW => ?_)
  obtain rfl := dt_likeliest hv0 hv1
  refine lv_pop hx hb dL_law_825 rfl ?_
  refine lv_goto (tgt := 1014) hx hb dL_law_826 (by decide) ?_
  exact W.widen (k := cells + 3) (n := slots + 169) (by omega) (by omega) (kk H locs _ hW)
theorem lc_seen {b L : Nat} {xs : Nat → Int32} {x mo : Nat} {i : Int32} {D : T4} (C : LC p s m meth c b L xs G) (h0 : 0 ≤ i.toInt) (h8 : i.toInt + 8 ≤ (L : Int)) (hl : lv_has ls 4 [(3, .int i), (2, .ref mo), (1, .ref x), (0, .ref b)]) (hW : LW G s x mo H locs D D) (hf : ∀ u v, u ≤ 3 → v ≤ 169 → cells + u ≤ room_1.cells ∧ slots + v ≤ room_1.slots)
    (kk : ∀ (H1 : Heap) (locs1 : List Loc) (E : T4), LW G s x mo H1 locs1 E E → W p l e room_1 s m #[Value.ref b] below meth c H1 locs1 (cells + 3) (slots + 169) Q (F0 m 1014 ls [])) : W p l e room_1 s m #[Value.ref b] below meth c H locs cells slots Q (F0 m 829 ls []) := by
  obtain ⟨hx, hb, -, -, -⟩ := C.1.1
  have hX := C.2.1
  have hbl := C.2.2.1
  have hbA : ¬ (fun q : Nat => s.heap.size ≤ q) b := Nat.not_le.mpr hbl
  refine lv_aload_n hx hb dL_law_829 rfl (lv_at hl 2 rfl) ?_
  refine lv_aload_n hx hb dL_law_830 rfl (lv_at hl 3 rfl) ?_
  refine lv_iload_n hx hb dL_law_831 rfl (lv_at hl 0 rfl) ?_
  refine lv_iconst (v := 1) hx hb dL_law_832 (by decide) ?_
  refine lv_iadd hx hb dL_law_833 ?_
  refine va_sld hx hb hX hbl hbA hW.S (l_in C.2.2.2 h0 h8 t_1 (by decide) (by decide)) dL_law_834 ?_
  refine lv_aload_n hx hb dL_law_835 rfl (lv_at hl 3 rfl) ?_
  refine lv_iload_n hx hb dL_law_836 rfl (lv_at hl 0 rfl) ?_
  refine lv_iconst (v := 2) hx hb dL_law_837 (by decide) ?_
  refine lv_iadd hx hb dL_law_838 ?_
  refine va_sld hx hb hX hbl hbA hW.S (l_in C.2.2.2 h0 h8 t_2 (by decide) (by decide)) dL_law_839 ?_
  refine lv_aload_n hx hb dL_law_840 rfl (lv_at hl 3 rfl) ?_
  refine lv_iload_n hx hb dL_law_841 rfl (lv_at hl 0 rfl) ?_
  refine lv_iconst (v := 3) hx hb dL_law_842 (by decide) ?_
  refine lv_iadd hx hb dL_law_843 ?_
  refine va_sld hx hb hX hbl hbA hW.S (l_in C.2.2.2 h0 h8 t_3 (by decide) (by decide)) dL_law_844 ?_
  refine ld_seen C hW (xs (i + 1).toNatClampNeg) (xs (i + 2).toNatClampNeg) (xs (i + 3).toNatClampNeg) hl.1 (Nat.le_of_ble_eq_true rfl) dL_law_845 (hf 0 0 (by decide) (by decide)) (fun r0 H locs E0 hv0 hW => ?_)
  refine lv_pop2_2 hx hb dL_law_848 rfl ?_
  refine lv_aload_n hx hb dL_law_849 rfl (lv_at hl 1 rfl) ?_
  refine lv_aload_n hx hb dL_law_850 rfl (lv_at hl 3 rfl) ?_
  refine lv_iload_n hx hb dL_law_851 rfl (lv_at hl 0 rfl) ?_
  refine lv_iconst (v := 1) hx hb dL_law_852 (by decide) ?_
  refine lv_iadd hx hb dL_law_853 ?_
  refine va_sld hx hb hX hbl hbA hW.S (l_in C.2.2.2 h0 h8 t_1 (by decide) (by decide)) dL_law_854 ?_
  refine lv_aload_n hx hb dL_law_855 rfl (lv_at hl 3 rfl) ?_
  refine lv_iload_n hx hb dL_law_856 rfl (lv_at hl 0 rfl) ?_
  refine lv_iconst (v := 2) hx hb dL_law_857 (by decide) ?_
  refine lv_iadd hx hb dL_law_858 ?_
  refine va_sld hx hb hX hbl hbA hW.S (l_in C.2.2.2 h0 h8 t_2 (by decide) (by decide)) dL_law_859 ?_
  refine lv_aload_n hx hb dL_law_860 rfl (lv_at hl 3 rfl) ?_
  refine lv_iload_n hx hb dL_law_861 rfl (lv_at hl 0 rfl) ?_
  refine lv_iconst (v := 3) hx hb dL_law_862 (by decide) ?_
  refine lv_iadd hx hb dL_law_863 ?_
  refine va_sld hx hb hX hbl hbA hW.S (l_in C.2.2.2 h0 h8 t_3 (by decide) (by decide)) dL_law_864 ?_
  refine lm_seen C hW (xs (i + 1).toNatClampNeg) (xs (i + 2).toNatClampNeg) (xs (i + 3).toNatClampNeg) hl.1 (Nat.le_of_ble_eq_true rfl) dL_law_865 (hf 0 0 (by decide) (by decide)) (fun r1 H locs E1 hv1 hW => ?_)
  obtain rfl := dt_seen hv0 hv1
  refine lv_pop2_2 hx hb dL_law_868 rfl ?_
  refine lv_goto (tgt := 1014) hx hb dL_law_869 (by decide) ?_
  exact W.widen (k := cells + 3) (n := slots + 169) (by omega) (by omega) (kk H locs _ hW)
theorem lc_split {b L : Nat} {xs : Nat → Int32} {x mo : Nat} {i : Int32} {D : T4} (C : LC p s m meth c b L xs G) (h0 : 0 ≤ i.toInt) (h8 : i.toInt + 8 ≤ (L : Int)) (hl : lv_has ls 4 [(3, .int i), (2, .ref mo), (1, .ref x), (0, .ref b)]) (hW : LW G s x mo H locs D D) (hf : ∀ u v, u ≤ 3 → v ≤ 169 → cells + u ≤ room_1.cells ∧ slots + v ≤ room_1.slots)
    (kk : ∀ (H1 : Heap) (locs1 : List Loc) (E : T4), LW G s x mo H1 locs1 E E → W p l e room_1 s m #[Value.ref b] below meth c H1 locs1 (cells + 3) (slots + 169) Q (F0 m 1014 ls [])) : W p l e room_1 s m #[Value.ref b] below meth c H locs cells slots Q (F0 m 872 ls []) := by
  obtain ⟨hx, hb, -, -, -⟩ := C.1.1
  have hX := C.2.1
  have hbl := C.2.2.1
  have hbA : ¬ (fun q : Nat => s.heap.size ≤ q) b := Nat.not_le.mpr hbl
  refine lv_aload_n hx hb dL_law_872 rfl (lv_at hl 2 rfl) ?_
  refine lv_aload_n hx hb dL_law_873 rfl (lv_at hl 3 rfl) ?_
  refine lv_iload_n hx hb dL_law_874 rfl (lv_at hl 0 rfl) ?_
  refine lv_iconst (v := 1) hx hb dL_law_875 (by decide) ?_
  refine lv_iadd hx hb dL_law_876 ?_
  refine va_sld hx hb hX hbl hbA hW.S (l_in C.2.2.2 h0 h8 t_1 (by decide) (by decide)) dL_law_877 ?_
  refine lv_aload_n hx hb dL_law_878 rfl (lv_at hl 3 rfl) ?_
  refine lv_iload_n hx hb dL_law_879 rfl (lv_at hl 0 rfl) ?_
  refine lv_iconst (v := 2) hx hb dL_law_880 (by decide) ?_
  refine lv_iadd hx hb dL_law_881 ?_
  refine va_sld hx hb hX hbl hbA hW.S (l_in C.2.2.2 h0 h8 t_2 (by decide) (by decide)) dL_law_882 ?_
  refine lv_aload_n hx hb dL_law_883 rfl (lv_at hl 3 rfl) ?_
  refine lv_iload_n hx hb dL_law_884 rfl (lv_at hl 0 rfl) ?_
  refine lv_iconst (v := 3) hx hb dL_law_885 (by decide) ?_
  refine lv_iadd hx hb dL_law_886 ?_
  refine va_sld hx hb hX hbl hbA hW.S (l_in C.2.2.2 h0 h8 t_3 (by decide) (by decide)) dL_law_887 ?_
  refine lv_aload_n hx hb dL_law_888 rfl (lv_at hl 3 rfl) ?_
  refine lv_iload_n hx hb dL_law_889 rfl (lv_at hl 0 rfl) ?_
  refine lv_iconst (v := 4) hx hb dL_law_890 (by decide) ?_
  refine lv_iadd hx hb dL_law_891 ?_
  refine va_sld hx hb hX hbl hbA hW.S (l_in C.2.2.2 h0 h8 t_4 (by decide) (by decide)) dL_law_892 ?_
  refine ld_split C hW (xs (i + 1).toNatClampNeg) (xs (i + 2).toNatClampNeg) (xs (i + 3).toNatClampNeg) (xs (i + 4).toNatClampNeg) hl.1 (Nat.le_of_ble_eq_true rfl) dL_law_893 (hf 0 0 (by decide) (by decide)) (fun r0 H locs E0 hv0 hW => ?_)
  refine lv_aload_n hx hb dL_law_896 rfl (lv_at hl 1 rfl) ?_
  refine lv_aload_n hx hb dL_law_897 rfl (lv_at hl 3 rfl) ?_
  refine lv_iload_n hx hb dL_law_898 rfl (lv_at hl 0 rfl) ?_
  refine lv_iconst (v := 1) hx hb dL_law_899 (by decide) ?_
  refine lv_iadd hx hb dL_law_900 ?_
  refine va_sld hx hb hX hbl hbA hW.S (l_in C.2.2.2 h0 h8 t_1 (by decide) (by decide)) dL_law_901 ?_
  refine lv_aload_n hx hb dL_law_902 rfl (lv_at hl 3 rfl) ?_
  refine lv_iload_n hx hb dL_law_903 rfl (lv_at hl 0 rfl) ?_
  refine lv_iconst (v := 2) hx hb dL_law_904 (by decide) ?_
  refine lv_iadd hx hb dL_law_905 ?_
  refine va_sld hx hb hX hbl hbA hW.S (l_in C.2.2.2 h0 h8 t_2 (by decide) (by decide)) dL_law_906 ?_
  refine lv_aload_n hx hb dL_law_907 rfl (lv_at hl 3 rfl) ?_
  refine lv_iload_n hx hb dL_law_908 rfl (lv_at hl 0 rfl) ?_
  refine lv_iconst (v := 3) hx hb dL_law_909 (by decide) ?_
  refine lv_iadd hx hb dL_law_910 ?_
  refine va_sld hx hb hX hbl hbA hW.S (l_in C.2.2.2 h0 h8 t_3 (by decide) (by decide)) dL_law_911 ?_
  refine lv_aload_n hx hb dL_law_912 rfl (lv_at hl 3 rfl) ?_
  refine lv_iload_n hx hb dL_law_913 rfl (lv_at hl 0 rfl) ?_
  refine lv_iconst (v := 4) hx hb dL_law_914 (by decide) ?_
  refine lv_iadd hx hb dL_law_915 ?_
  refine va_sld hx hb hX hbl hbA hW.S (l_in C.2.2.2 h0 h8 t_4 (by decide) (by decide)) dL_law_916 ?_
  refine lm_split C hW (xs (i + 1).toNatClampNeg) (xs (i + 2).toNatClampNeg) (xs (i + 3).toNatClampNeg) (xs (i + 4).toNatClampNeg) hl.1 (Nat.le_of_ble_eq_true rfl) dL_law_917 (hf 0 0 (by decide) (by decide)) (fun r1 H locs E1 hv1 hW => ?_)
  obtain rfl := dt_split hv0 hv1
  have he : r0 = r1 := eq_split hv0 hv1
  refine lv_icmp_eq (tgt := 1014) hx hb dL_law_920 (by decide) (fun _ => ?_) (fun q => absurd he q)
  exact W.widen (k := cells + 3) (n := slots + 169) (by omega) (by omega) (kk H locs _ hW)
theorem lc_left {b L : Nat} {xs : Nat → Int32} {x mo : Nat} {i : Int32} {D : T4} (C : LC p s m meth c b L xs G) (h0 : 0 ≤ i.toInt) (h8 : i.toInt + 8 ≤ (L : Int)) (hl : lv_has ls 4 [(3, .int i), (2, .ref mo), (1, .ref x), (0, .ref b)]) (hW : LW G s x mo H locs D D) (hf : ∀ u v, u ≤ 3 → v ≤ 169 → cells + u ≤ room_1.cells ∧ slots + v ≤ room_1.slots)
    (kk : ∀ (H1 : Heap) (locs1 : List Loc) (E : T4), LW G s x mo H1 locs1 E E → W p l e room_1 s m #[Value.ref b] below meth c H1 locs1 (cells + 3) (slots + 169) Q (F0 m 1014 ls [])) : W p l e room_1 s m #[Value.ref b] below meth c H locs cells slots Q (F0 m 925 ls []) := by
  obtain ⟨hx, hb, -, -, -⟩ := C.1.1
  have hX := C.2.1
  have hbl := C.2.2.1
  have hbA : ¬ (fun q : Nat => s.heap.size ≤ q) b := Nat.not_le.mpr hbl
  refine lv_aload_n hx hb dL_law_925 rfl (lv_at hl 2 rfl) ?_
  refine ld_left C hW  hl.1 (Nat.le_of_ble_eq_true rfl) dL_law_926 (hf 0 0 (by decide) (by decide)) (fun r0 H locs E0 hv0 hW => ?_)
  refine lv_pop hx hb dL_law_929 rfl ?_
  refine lv_aload_n hx hb dL_law_930 rfl (lv_at hl 1 rfl) ?_
  refine lm_left C hW  hl.1 (Nat.le_of_ble_eq_true rfl) dL_law_931 (hf 0 0 (by decide) (by decide)) (fun r1 H locs E1 hv1 hW => ?_)
  obtain rfl := dt_left hv0 hv1
  refine lv_pop hx hb dL_law_934 rfl ?_
  refine lv_goto (tgt := 1014) hx hb dL_law_935 (by decide) ?_
  exact W.widen (k := cells + 3) (n := slots + 169) (by omega) (by omega) (kk H locs _ hW)
theorem lc_tracks {b L : Nat} {xs : Nat → Int32} {x mo : Nat} {i : Int32} {D : T4} (C : LC p s m meth c b L xs G) (h0 : 0 ≤ i.toInt) (h8 : i.toInt + 8 ≤ (L : Int)) (hl : lv_has ls 4 [(3, .int i), (2, .ref mo), (1, .ref x), (0, .ref b)]) (hW : LW G s x mo H locs D D) (hf : ∀ u v, u ≤ 3 → v ≤ 169 → cells + u ≤ room_1.cells ∧ slots + v ≤ room_1.slots)
    (kk : ∀ (H1 : Heap) (locs1 : List Loc) (E : T4), LW G s x mo H1 locs1 E E → W p l e room_1 s m #[Value.ref b] below meth c H1 locs1 (cells + 3) (slots + 169) Q (F0 m 1014 ls [])) : W p l e room_1 s m #[Value.ref b] below meth c H locs cells slots Q (F0 m 938 ls []) := by
  obtain ⟨hx, hb, -, -, -⟩ := C.1.1
  have hX := C.2.1
  have hbl := C.2.2.1
  have hbA : ¬ (fun q : Nat => s.heap.size ≤ q) b := Nat.not_le.mpr hbl
  refine lv_aload_n hx hb dL_law_938 rfl (lv_at hl 2 rfl) ?_
  refine lv_aload_n hx hb dL_law_939 rfl (lv_at hl 3 rfl) ?_
  refine lv_iload_n hx hb dL_law_940 rfl (lv_at hl 0 rfl) ?_
  refine lv_iconst (v := 1) hx hb dL_law_941 (by decide) ?_
  refine lv_iadd hx hb dL_law_942 ?_
  refine va_sld hx hb hX hbl hbA hW.S (l_in C.2.2.2 h0 h8 t_1 (by decide) (by decide)) dL_law_943 ?_
  refine lv_aload_n hx hb dL_law_944 rfl (lv_at hl 3 rfl) ?_
  refine lv_iload_n hx hb dL_law_945 rfl (lv_at hl 0 rfl) ?_
  refine lv_iconst (v := 2) hx hb dL_law_946 (by decide) ?_
  refine lv_iadd hx hb dL_law_947 ?_
  refine va_sld hx hb hX hbl hbA hW.S (l_in C.2.2.2 h0 h8 t_2 (by decide) (by decide)) dL_law_948 ?_
  refine lv_aload_n hx hb dL_law_949 rfl (lv_at hl 3 rfl) ?_
  refine lv_iload_n hx hb dL_law_950 rfl (lv_at hl 0 rfl) ?_
  refine lv_iconst (v := 3) hx hb dL_law_951 (by decide) ?_
  refine lv_iadd hx hb dL_law_952 ?_
  refine va_sld hx hb hX hbl hbA hW.S (l_in C.2.2.2 h0 h8 t_3 (by decide) (by decide)) dL_law_953 ?_
  refine lv_aload_n hx hb dL_law_954 rfl (lv_at hl 3 rfl) ?_
  refine lv_iload_n hx hb dL_law_955 rfl (lv_at hl 0 rfl) ?_
  refine lv_iconst (v := 4) hx hb dL_law_956 (by decide) ?_
  refine lv_iadd hx hb dL_law_957 ?_
  refine va_sld hx hb hX hbl hbA hW.S (l_in C.2.2.2 h0 h8 t_4 (by decide) (by decide)) dL_law_958 ?_
  refine ld_tracks C hW (xs (i + 1).toNatClampNeg) (xs (i + 2).toNatClampNeg) (xs (i + 3).toNatClampNeg) (xs (i + 4).toNatClampNeg) hl.1 (Nat.le_of_ble_eq_true rfl) dL_law_959 (hf 0 0 (by decide) (by decide)) (fun r0 H locs E0 hv0 hW => ?_)
  refine lv_pop hx hb dL_law_962 rfl ?_
  refine lv_aload_n hx hb dL_law_963 rfl (lv_at hl 1 rfl) ?_
  refine lv_aload_n hx hb dL_law_964 rfl (lv_at hl 3 rfl) ?_
  refine lv_iload_n hx hb dL_law_965 rfl (lv_at hl 0 rfl) ?_
  refine lv_iconst (v := 1) hx hb dL_law_966 (by decide) ?_
  refine lv_iadd hx hb dL_law_967 ?_
  refine va_sld hx hb hX hbl hbA hW.S (l_in C.2.2.2 h0 h8 t_1 (by decide) (by decide)) dL_law_968 ?_
  refine lv_aload_n hx hb dL_law_969 rfl (lv_at hl 3 rfl) ?_
  refine lv_iload_n hx hb dL_law_970 rfl (lv_at hl 0 rfl) ?_
  refine lv_iconst (v := 2) hx hb dL_law_971 (by decide) ?_
  refine lv_iadd hx hb dL_law_972 ?_
  refine va_sld hx hb hX hbl hbA hW.S (l_in C.2.2.2 h0 h8 t_2 (by decide) (by decide)) dL_law_973 ?_
  refine lv_aload_n hx hb dL_law_974 rfl (lv_at hl 3 rfl) ?_
  refine lv_iload_n hx hb dL_law_975 rfl (lv_at hl 0 rfl) ?_
  refine lv_iconst (v := 3) hx hb dL_law_976 (by decide) ?_
  refine lv_iadd hx hb dL_law_977 ?_
  refine va_sld hx hb hX hbl hbA hW.S (l_in C.2.2.2 h0 h8 t_3 (by decide) (by decide)) dL_law_978 ?_
  refine lv_aload_n hx hb dL_law_979 rfl (lv_at hl 3 rfl) ?_
  refine lv_iload_n hx hb dL_law_980 rfl (lv_at hl 0 rfl) ?_
  refine lv_iconst (v := 4) hx hb dL_law_981 (by decide) ?_
  refine lv_iadd hx hb dL_law_982 ?_
  refine va_sld hx hb hX hbl hbA hW.S (l_in C.2.2.2 h0 h8 t_4 (by decide) (by decide)) dL_law_983 ?_
  refine lm_tracks C hW (xs (i + 1).toNatClampNeg) (xs (i + 2).toNatClampNeg) (xs (i + 3).toNatClampNeg) (xs (i + 4).toNatClampNeg) hl.1 (Nat.le_of_ble_eq_true rfl) dL_law_984 (hf 0 0 (by decide) (by decide)) (fun r1 H locs E1 hv1 hW => ?_)
  obtain rfl := dt_tracks hv0 hv1
  refine lv_pop hx hb dL_law_987 rfl ?_
  refine lv_goto (tgt := 1014) hx hb dL_law_988 (by decide) ?_
  exact W.widen (k := cells + 3) (n := slots + 169) (by omega) (by omega) (kk H locs _ hW)
theorem lc_about {b L : Nat} {xs : Nat → Int32} {x mo : Nat} {i : Int32} {D : T4} (C : LC p s m meth c b L xs G) (h0 : 0 ≤ i.toInt) (h8 : i.toInt + 8 ≤ (L : Int)) (hl : lv_has ls 4 [(3, .int i), (2, .ref mo), (1, .ref x), (0, .ref b)]) (hW : LW G s x mo H locs D D) (hf : ∀ u v, u ≤ 3 → v ≤ 169 → cells + u ≤ room_1.cells ∧ slots + v ≤ room_1.slots)
    (kk : ∀ (H1 : Heap) (locs1 : List Loc) (E : T4), LW G s x mo H1 locs1 E E → W p l e room_1 s m #[Value.ref b] below meth c H1 locs1 (cells + 3) (slots + 169) Q (F0 m 1014 ls [])) : W p l e room_1 s m #[Value.ref b] below meth c H locs cells slots Q (F0 m 991 ls []) := by
  obtain ⟨hx, hb, -, -, -⟩ := C.1.1
  have hX := C.2.1
  have hbl := C.2.2.1
  have hbA : ¬ (fun q : Nat => s.heap.size ≤ q) b := Nat.not_le.mpr hbl
  refine lv_aload_n hx hb dL_law_991 rfl (lv_at hl 2 rfl) ?_
  refine lv_aload_n hx hb dL_law_992 rfl (lv_at hl 3 rfl) ?_
  refine lv_iload_n hx hb dL_law_993 rfl (lv_at hl 0 rfl) ?_
  refine lv_iconst (v := 1) hx hb dL_law_994 (by decide) ?_
  refine lv_iadd hx hb dL_law_995 ?_
  refine va_sld hx hb hX hbl hbA hW.S (l_in C.2.2.2 h0 h8 t_1 (by decide) (by decide)) dL_law_996 ?_
  refine ld_about C hW (xs (i + 1).toNatClampNeg) hl.1 (Nat.le_of_ble_eq_true rfl) dL_law_997 (hf 0 0 (by decide) (by decide)) (fun r0 H locs E0 hv0 hW => ?_)
  refine lv_pop hx hb dL_law_1000 rfl ?_
  refine lv_aload_n hx hb dL_law_1001 rfl (lv_at hl 1 rfl) ?_
  refine lv_aload_n hx hb dL_law_1002 rfl (lv_at hl 3 rfl) ?_
  refine lv_iload_n hx hb dL_law_1003 rfl (lv_at hl 0 rfl) ?_
  refine lv_iconst (v := 1) hx hb dL_law_1004 (by decide) ?_
  refine lv_iadd hx hb dL_law_1005 ?_
  refine va_sld hx hb hX hbl hbA hW.S (l_in C.2.2.2 h0 h8 t_1 (by decide) (by decide)) dL_law_1006 ?_
  refine lm_about C hW (xs (i + 1).toNatClampNeg) hl.1 (Nat.le_of_ble_eq_true rfl) dL_law_1007 (hf 0 0 (by decide) (by decide)) (fun r1 H locs E1 hv1 hW => ?_)
  obtain rfl := dt_about hv0 hv1
  refine lv_pop hx hb dL_law_1010 rfl ?_
  refine lv_goto (tgt := 1014) hx hb dL_law_1011 (by decide) ?_
  exact W.widen (k := cells + 3) (n := slots + 169) (by omega) (by omega) (kk H locs _ hW)
end LCASE
