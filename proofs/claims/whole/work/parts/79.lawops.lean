section ZLAW
variable {p : Program} {l : Launch} {e : Env} {s : State} {m : MethodId} {args : Array Value} {below : List Frame} {meth : Method} {c : Code} {H : Heap} {locs : List Loc} {cells slots : Nat} {Q : State → Prop}
variable {ls : Array Slot} {G : va_G} {cy : Nat → ClassId} {wd : Nat → Nat} {fo : Option Nat} {a b : Nat → Nat} {b9 L h o9 i6 : Nat} {xs : Nat → Int32}
set_option maxHeartbeats 4000000 in
theorem lo_point {S S2 : Type} {rm rm2 : Room} {mc ms k T2 np2 : Nat} {v : Int64} {rv : Int32} {X1 X2 X3 X4 X5 : Int32} {wc wr tl : va_W} {w1 : S → va_W} {w2 : S2 → va_W} {pC : Int32 → S → Prop} {pR : Int32 → S2 → Prop} {qo : Nat} {fs9 : List Value}
    (F : zFix p l s m args c b9 L xs G cy wd fo) (hi : i6 + 5 < L) (hx1 : xs (i6 + 1) = X1) (hx2 : xs (i6 + 2) = X2) (hx3 : xs (i6 + 3) = X3) (hx4 : xs (i6 + 4) = X4) (hx5 : xs (i6 + 5) = X5)
    (hC : ∀ sz, Met l yL_point wsL_point rm (zMH G cy wd fo s.heap.size [.ref (a 0), .int X1, .int X2, .int X3, .int X4, .int X5, .ref o9] sz wc) (va_Qi pC (fun u t9 => zB G cy (va_A wc sz) (w1 u) t9) (va_A wc sz)) mc ms (va_A wc sz))
    (hrm : (rm.cells = mc ∧ rm.slots = ms) ∧ rm.frames + 1 ≤ room_1.frames ∧ 8 + (8 + 11) + rm.locals ≤ room_1.locals) (hpC : ∀ r u, pC r u → r = nI k)
    (hR : ∀ sz, Met l yX11_point wsX11_point rm2 (zM G cy [.ref h, .int X1, .int X2, .int X3, .int X4, .int X5] sz wr) (va_Qi pR (fun u t9 => zB G cy (va_A wr sz) (w2 u) t9) (va_A wr sz)) 0 0 (va_A wr sz))
    (hrm2 : (rm2.cells = 0 ∧ rm2.slots = 0) ∧ rm2.frames + 1 ≤ room_1.frames ∧ 8 + (7 + 11) + rm2.locals ≤ room_1.locals) (hpR : ∀ r u, pR r u → r = rv)
    (hm0 : wr[0]? = some (h, .inr (12, fs9))) (hm1 : ∀ u, (w2 u)[0]? = some (zMo h b T2 np2 (nI k))) (hk : k < 8) (hmc : mc ≤ 20 ∧ ms ≤ 5100)
    (hv : k = 0 → v = rv.toInt64) (ho : k = 0 → ∀ u, ∃ f, (w1 u)[qo]? = some (zL cy o9 1 f) ∧ f 0 = v)
    (hP : va_P G vwCl (wc ++ (wr ++ tl)) H) (hD : va_D (fun q : Nat => s.heap.size ≤ q) (wc ++ (wr ++ tl))) (hS : va_S (fun q : Nat => s.heap.size ≤ q) s.heap H locs) (hroom : cells + 20 ≤ room_1.cells ∧ slots + 5100 ≤ room_1.slots)
    (kk : ∀ (u : S) (u2 : S2) (H2 : Heap) (locs2 : List Loc) (ls2 : Array Slot), va_P G vwCl (w2 u2 ++ (w1 u ++ tl)) H2 → va_D (fun q : Nat => s.heap.size ≤ q) (w2 u2 ++ (w1 u ++ tl)) → va_S (fun q : Nat => s.heap.size ≤ q) s.heap H2 locs2 → lv_has ls2 8 [(4, .int (nI i6)), (0, .ref b9), (1, .ref (a 0)), (2, .ref h), (3, .ref o9)] → W p l e room_1 s m args below meth c H2 locs2 (cells + 20) (slots + 5100) Q (F0 m 1569 ls2 []))
    (hl : lv_has ls 8 [(4, .int (nI i6)), (0, .ref b9), (1, .ref (a 0)), (2, .ref h), (3, .ref o9)]) :
    W p l e room_1 s m args below meth c H locs cells slots Q (F0 m 140 ls []) := by
  obtain ⟨hx, hb, hml, hown, hts, hX, hbl, hL, hl9, hK, hWd, hE⟩ := F
  have hbA : ¬ (fun q : Nat => s.heap.size ≤ q) b9 := Nat.not_le.mpr hbl
  have hA : ∀ q : Nat, s.heap.size ≤ q → (fun q : Nat => s.heap.size ≤ q) q := fun _ q => q
  obtain ⟨⟨hr1, hr2⟩, hr3, hr4⟩ := hrm
  obtain ⟨⟨hg1, hg2⟩, hg3, hg4⟩ := hrm2
  refine lv_aload_n hx hb dL_law_140 rfl (lv_at hl 2 rfl) ?_
  refine lv_aload_n hx hb dL_law_141 rfl (lv_at hl 1 rfl) ?_
  refine lv_iload hx hb dL_law_142 (lv_at hl 0 rfl) ?_
  refine lv_iconst (v := nI 1) hx hb dL_law_144 (by decide) ?_
  refine z_iadd hx hb dL_law_145 ?_
  refine va_sld hx hb hX hbl hbA hS (vp_in_nI (by omega) (by omega)) dL_law_146 ?_
  rw [nI_clamp (by omega), hx1]
  refine lv_aload_n hx hb dL_law_147 rfl (lv_at hl 1 rfl) ?_
  refine lv_iload hx hb dL_law_148 (lv_at hl 0 rfl) ?_
  refine lv_iconst (v := nI 2) hx hb dL_law_150 (by decide) ?_
  refine z_iadd hx hb dL_law_151 ?_
  refine va_sld hx hb hX hbl hbA hS (vp_in_nI (by omega) (by omega)) dL_law_152 ?_
  rw [nI_clamp (by omega), hx2]
  refine lv_aload_n hx hb dL_law_153 rfl (lv_at hl 1 rfl) ?_
  refine lv_iload hx hb dL_law_154 (lv_at hl 0 rfl) ?_
  refine lv_iconst (v := nI 3) hx hb dL_law_156 (by decide) ?_
  refine z_iadd hx hb dL_law_157 ?_
  refine va_sld hx hb hX hbl hbA hS (vp_in_nI (by omega) (by omega)) dL_law_158 ?_
  rw [nI_clamp (by omega), hx3]
  refine lv_aload_n hx hb dL_law_159 rfl (lv_at hl 1 rfl) ?_
  refine lv_iload hx hb dL_law_160 (lv_at hl 0 rfl) ?_
  refine lv_iconst (v := nI 4) hx hb dL_law_162 (by decide) ?_
  refine z_iadd hx hb dL_law_163 ?_
  refine va_sld hx hb hX hbl hbA hS (vp_in_nI (by omega) (by omega)) dL_law_164 ?_
  rw [nI_clamp (by omega), hx4]
  refine lv_aload_n hx hb dL_law_165 rfl (lv_at hl 1 rfl) ?_
  refine lv_iload hx hb dL_law_166 (lv_at hl 0 rfl) ?_
  refine lv_iconst (v := nI 5) hx hb dL_law_168 (by decide) ?_
  refine z_iadd hx hb dL_law_169 ?_
  refine va_sld hx hb hX hbl hbA hS (vp_in_nI (by omega) (by omega)) dL_law_170 ?_
  rw [nI_clamp (by omega), hx5]
  refine lv_aload_n hx hb dL_law_171 rfl (lv_at hl 4 rfl) ?_
  refine z_ciP (wc := wc) (wr := wr ++ tl) (vx_runSW (As := [.ref (a 0), .int X1, .int X2, .int X3, .int X4, .int X5, .ref o9]) (rest := []) ⟨hx, hb, hml, hown, hwL_point hts⟩ (hC H.size) (vx_cwSW 7 (hwL_point hts) giL_point rfl hr1 hr2 (by decide +kernel) ⟨hr3, hr4⟩) (z_pHP hK hP hD hS (Nat.le_refl _) (fun _ q => q) hWd hE) rfl rfl hl.1 rfl (lv_room (Nat.le_of_ble_eq_true rfl)) dL_law_172 ⟨by omega, by omega⟩) hP hD hS hA (fun r u H1 locs1 hr hP1 hD1 hS1 hz => ?_)
  obtain rfl : r = nI k := hpC r u hr
  refine lv_istore (lv' := [(5, .int (nI k)), (4, .int (nI i6)), (0, .ref b9), (1, .ref (a 0)), (2, .ref h), (3, .ref o9)]) hx hb dL_law_175 hl (by decide) rfl (fun ls hl => ?_)
  refine lv_aload_n hx hb dL_law_177 rfl (lv_at hl 4 rfl) ?_
  refine lv_aload_n hx hb dL_law_178 rfl (lv_at hl 2 rfl) ?_
  refine lv_iload hx hb dL_law_179 (lv_at hl 1 rfl) ?_
  refine lv_iconst (v := nI 1) hx hb dL_law_181 (by decide) ?_
  refine z_iadd hx hb dL_law_182 ?_
  refine va_sld hx hb hX hbl hbA hS1 (vp_in_nI (by omega) (by omega)) dL_law_183 ?_
  rw [nI_clamp (by omega), hx1]
  refine lv_aload_n hx hb dL_law_184 rfl (lv_at hl 2 rfl) ?_
  refine lv_iload hx hb dL_law_185 (lv_at hl 1 rfl) ?_
  refine lv_iconst (v := nI 2) hx hb dL_law_187 (by decide) ?_
  refine z_iadd hx hb dL_law_188 ?_
  refine va_sld hx hb hX hbl hbA hS1 (vp_in_nI (by omega) (by omega)) dL_law_189 ?_
  rw [nI_clamp (by omega), hx2]
  refine lv_aload_n hx hb dL_law_190 rfl (lv_at hl 2 rfl) ?_
  refine lv_iload hx hb dL_law_191 (lv_at hl 1 rfl) ?_
  refine lv_iconst (v := nI 3) hx hb dL_law_193 (by decide) ?_
  refine z_iadd hx hb dL_law_194 ?_
  refine va_sld hx hb hX hbl hbA hS1 (vp_in_nI (by omega) (by omega)) dL_law_195 ?_
  rw [nI_clamp (by omega), hx3]
  refine lv_aload_n hx hb dL_law_196 rfl (lv_at hl 2 rfl) ?_
  refine lv_iload hx hb dL_law_197 (lv_at hl 1 rfl) ?_
  refine lv_iconst (v := nI 4) hx hb dL_law_199 (by decide) ?_
  refine z_iadd hx hb dL_law_200 ?_
  refine va_sld hx hb hX hbl hbA hS1 (vp_in_nI (by omega) (by omega)) dL_law_201 ?_
  rw [nI_clamp (by omega), hx4]
  refine lv_aload_n hx hb dL_law_202 rfl (lv_at hl 2 rfl) ?_
  refine lv_iload hx hb dL_law_203 (lv_at hl 1 rfl) ?_
  refine lv_iconst (v := nI 5) hx hb dL_law_205 (by decide) ?_
  refine z_iadd hx hb dL_law_206 ?_
  refine va_sld hx hb hX hbl hbA hS1 (vp_in_nI (by omega) (by omega)) dL_law_207 ?_
  rw [nI_clamp (by omega), hx5]
  have hP2 : va_P G vwCl (wr ++ (w1 u ++ tl)) H1 := z_P_perm z_rot hP1
  have hD2 : va_D (fun q : Nat => s.heap.size ≤ q) (wr ++ (w1 u ++ tl)) := z_D_perm z_rot hD1
  refine z_ciP (wc := wr) (wr := w1 u ++ tl) (va_runV (As := [.int X1, .int X2, .int X3, .int X4, .int X5]) (rest := []) ⟨hx, hb, hml, hown, hwX_point hts⟩ (hR H1.size) (cwV 5 (hwX_point hts) giX_point rfl hg1 hg2 (by decide +kernel) ⟨hg3, hg4⟩) (z_pVP (ci := 12) hK hP2 hD2 rfl rfl 0 hm0) rfl rfl hl.1 rfl (lv_room (Nat.le_of_ble_eq_true rfl)) dL_law_208 ⟨by omega, by omega⟩) hP2 hD2 hS1 hA (fun r2 u2 H2 locs2 hr2b hP3 hD3 hS3 hz2 => ?_)
  obtain rfl : r2 = rv := hpR r2 u2 hr2b
  refine lv_istore (lv' := [(6, .int r2), (5, .int (nI k)), (4, .int (nI i6)), (0, .ref b9), (1, .ref (a 0)), (2, .ref h), (3, .ref o9)]) hx hb dL_law_211 hl (by decide) rfl (fun ls hl => ?_)
  refine lv_aload_n hx hb dL_law_213 rfl (lv_at hl 5 rfl) ?_
  have hm2 := z_ap0 (b := w1 u ++ tl) (hm1 u2)
  refine vp_callSi (va_runV (As := []) (rest := []) ⟨hx, hb, hml, hown, hwX_thrown hts⟩ (c_X11_thrown l G cy h b T2 np2 (nI k)) (cwV 0 (hwX_thrown hts) giX_thrown rfl rfl rfl (by decide +kernel) ⟨Nat.le_of_ble_eq_true rfl, Nat.le_of_ble_eq_true rfl⟩) (z_pV (wc := [zMo h b T2 np2 (nI k)]) hK hP3 [0] (z_fm1 hm2) (ci := 12) (q0 := 0) rfl rfl rfl) rfl rfl hl.1 rfl (lv_room (Nat.le_of_ble_eq_true rfl)) dL_law_214 ⟨by omega, by omega⟩).run (fun r3 hr3 => ?_)
  obtain rfl : r3 = nI k := hr3
  refine lv_iload hx hb dL_law_217 (lv_at hl 1 rfl) ?_
  refine lv_icmp_eq (tgt := 224) hx hb dL_law_219 (by decide) (fun _ => ?_) (fun q => absurd rfl q)
  refine lv_iload hx hb dL_law_224 (lv_at hl 1 rfl) ?_
  refine z_if_ne (tgt := 241) hx hb (by omega) dL_law_226 (by decide) (fun _ => ?_) (fun hk0 => ?_)
  · refine lv_goto (tgt := 1569) hx hb dL_law_241 (by decide) ?_
    exact W.widen (k := cells + 20) (n := slots + 5100) (by omega) (by omega) (kk u u2 H2 locs2 _ hP3 hD3 hS3 (lv_sub hl [2, 3, 4, 5, 6] rfl))
  · obtain ⟨f9, hf1, hf2⟩ := ho hk0 u
    obtain ⟨q0, hq0⟩ := z_memi (List.mem_append_right (w2 u2) (List.mem_append_left tl (List.mem_of_getElem? hf1)))
    refine lv_aload_n hx hb dL_law_229 rfl (lv_at hl 6 rfl) ?_
    refine lv_iconst (v := nI 0) hx hb dL_law_230 (by decide) ?_
    refine z_lald (G := G) (v := v) hx hb hK hP3 q0 hq0 (by omega) hf2 dL_law_231 ?_
    refine lv_iload hx hb dL_law_232 (lv_at hl 0 rfl) ?_
    refine lv_i2l (v := r2.toInt64) hx hb dL_law_234 rfl ?_
    refine z_lc_eq (tgt := 241) hx hb dL_law_235 dL_law_236 (by decide) (fun _ => ?_) (fun q => absurd (hv hk0) q)
    refine lv_goto (tgt := 1569) hx hb dL_law_241 (by decide) ?_
    exact W.widen (k := cells + 20) (n := slots + 5100) (by omega) (by omega) (kk u u2 H2 locs2 _ hP3 hD3 hS3 (lv_sub hl [2, 3, 4, 5, 6] rfl))
set_option maxHeartbeats 4000000 in
theorem lo_weather {S S2 : Type} {rm rm2 : Room} {mc ms k T2 np2 : Nat} {v : Int64} {rv : Int32} {X1 X2 X3 : Int32} {wc wr tl : va_W} {w1 : S → va_W} {w2 : S2 → va_W} {pC : Int32 → S → Prop} {pR : Int32 → S2 → Prop} {qo : Nat} {fs9 : List Value}
    (F : zFix p l s m args c b9 L xs G cy wd fo) (hi : i6 + 5 < L) (hx1 : xs (i6 + 1) = X1) (hx2 : xs (i6 + 2) = X2) (hx3 : xs (i6 + 3) = X3)
    (hC : ∀ sz, Met l yL_weather wsL_weather rm (zMH G cy wd fo s.heap.size [.ref (a 0), .int X1, .int X2, .int X3, .ref o9] sz wc) (va_Qi pC (fun u t9 => zB G cy (va_A wc sz) (w1 u) t9) (va_A wc sz)) mc ms (va_A wc sz))
    (hrm : (rm.cells = mc ∧ rm.slots = ms) ∧ rm.frames + 1 ≤ room_1.frames ∧ 8 + (6 + 11) + rm.locals ≤ room_1.locals) (hpC : ∀ r u, pC r u → r = nI k)
    (hR : ∀ sz, Met l yX11_weather wsX11_weather rm2 (zM G cy [.ref h, .int X1, .int X2, .int X3] sz wr) (va_Qi pR (fun u t9 => zB G cy (va_A wr sz) (w2 u) t9) (va_A wr sz)) 0 0 (va_A wr sz))
    (hrm2 : (rm2.cells = 0 ∧ rm2.slots = 0) ∧ rm2.frames + 1 ≤ room_1.frames ∧ 8 + (7 + 11) + rm2.locals ≤ room_1.locals) (hpR : ∀ r u, pR r u → r = rv)
    (hm0 : wr[0]? = some (h, .inr (12, fs9))) (hm1 : ∀ u, (w2 u)[0]? = some (zMo h b T2 np2 (nI k))) (hk : k < 8) (hmc : mc ≤ 20 ∧ ms ≤ 5100)
    (hv : k = 0 → v = rv.toInt64) (ho : k = 0 → ∀ u, ∃ f, (w1 u)[qo]? = some (zL cy o9 1 f) ∧ f 0 = v)
    (hP : va_P G vwCl (wc ++ (wr ++ tl)) H) (hD : va_D (fun q : Nat => s.heap.size ≤ q) (wc ++ (wr ++ tl))) (hS : va_S (fun q : Nat => s.heap.size ≤ q) s.heap H locs) (hroom : cells + 20 ≤ room_1.cells ∧ slots + 5100 ≤ room_1.slots)
    (kk : ∀ (u : S) (u2 : S2) (H2 : Heap) (locs2 : List Loc) (ls2 : Array Slot), va_P G vwCl (w2 u2 ++ (w1 u ++ tl)) H2 → va_D (fun q : Nat => s.heap.size ≤ q) (w2 u2 ++ (w1 u ++ tl)) → va_S (fun q : Nat => s.heap.size ≤ q) s.heap H2 locs2 → lv_has ls2 8 [(4, .int (nI i6)), (0, .ref b9), (1, .ref (a 0)), (2, .ref h), (3, .ref o9)] → W p l e room_1 s m args below meth c H2 locs2 (cells + 20) (slots + 5100) Q (F0 m 1569 ls2 []))
    (hl : lv_has ls 8 [(4, .int (nI i6)), (0, .ref b9), (1, .ref (a 0)), (2, .ref h), (3, .ref o9)]) :
    W p l e room_1 s m args below meth c H locs cells slots Q (F0 m 244 ls []) := by
  obtain ⟨hx, hb, hml, hown, hts, hX, hbl, hL, hl9, hK, hWd, hE⟩ := F
  have hbA : ¬ (fun q : Nat => s.heap.size ≤ q) b9 := Nat.not_le.mpr hbl
  have hA : ∀ q : Nat, s.heap.size ≤ q → (fun q : Nat => s.heap.size ≤ q) q := fun _ q => q
  obtain ⟨⟨hr1, hr2⟩, hr3, hr4⟩ := hrm
  obtain ⟨⟨hg1, hg2⟩, hg3, hg4⟩ := hrm2
  refine lv_aload_n hx hb dL_law_244 rfl (lv_at hl 2 rfl) ?_
  refine lv_aload_n hx hb dL_law_245 rfl (lv_at hl 1 rfl) ?_
  refine lv_iload hx hb dL_law_246 (lv_at hl 0 rfl) ?_
  refine lv_iconst (v := nI 1) hx hb dL_law_248 (by decide) ?_
  refine z_iadd hx hb dL_law_249 ?_
  refine va_sld hx hb hX hbl hbA hS (vp_in_nI (by omega) (by omega)) dL_law_250 ?_
  rw [nI_clamp (by omega), hx1]
  refine lv_aload_n hx hb dL_law_251 rfl (lv_at hl 1 rfl) ?_
  refine lv_iload hx hb dL_law_252 (lv_at hl 0 rfl) ?_
  refine lv_iconst (v := nI 2) hx hb dL_law_254 (by decide) ?_
  refine z_iadd hx hb dL_law_255 ?_
  refine va_sld hx hb hX hbl hbA hS (vp_in_nI (by omega) (by omega)) dL_law_256 ?_
  rw [nI_clamp (by omega), hx2]
  refine lv_aload_n hx hb dL_law_257 rfl (lv_at hl 1 rfl) ?_
  refine lv_iload hx hb dL_law_258 (lv_at hl 0 rfl) ?_
  refine lv_iconst (v := nI 3) hx hb dL_law_260 (by decide) ?_
  refine z_iadd hx hb dL_law_261 ?_
  refine va_sld hx hb hX hbl hbA hS (vp_in_nI (by omega) (by omega)) dL_law_262 ?_
  rw [nI_clamp (by omega), hx3]
  refine lv_aload_n hx hb dL_law_263 rfl (lv_at hl 4 rfl) ?_
  refine z_ciP (wc := wc) (wr := wr ++ tl) (vx_runSW (As := [.ref (a 0), .int X1, .int X2, .int X3, .ref o9]) (rest := []) ⟨hx, hb, hml, hown, hwL_weather hts⟩ (hC H.size) (vx_cwSW 5 (hwL_weather hts) giL_weather rfl hr1 hr2 (by decide +kernel) ⟨hr3, hr4⟩) (z_pHP hK hP hD hS (Nat.le_refl _) (fun _ q => q) hWd hE) rfl rfl hl.1 rfl (lv_room (Nat.le_of_ble_eq_true rfl)) dL_law_264 ⟨by omega, by omega⟩) hP hD hS hA (fun r u H1 locs1 hr hP1 hD1 hS1 hz => ?_)
  obtain rfl : r = nI k := hpC r u hr
  refine lv_istore (lv' := [(5, .int (nI k)), (4, .int (nI i6)), (0, .ref b9), (1, .ref (a 0)), (2, .ref h), (3, .ref o9)]) hx hb dL_law_267 hl (by decide) rfl (fun ls hl => ?_)
  refine lv_aload_n hx hb dL_law_269 rfl (lv_at hl 4 rfl) ?_
  refine lv_aload_n hx hb dL_law_270 rfl (lv_at hl 2 rfl) ?_
  refine lv_iload hx hb dL_law_271 (lv_at hl 1 rfl) ?_
  refine lv_iconst (v := nI 1) hx hb dL_law_273 (by decide) ?_
  refine z_iadd hx hb dL_law_274 ?_
  refine va_sld hx hb hX hbl hbA hS1 (vp_in_nI (by omega) (by omega)) dL_law_275 ?_
  rw [nI_clamp (by omega), hx1]
  refine lv_aload_n hx hb dL_law_276 rfl (lv_at hl 2 rfl) ?_
  refine lv_iload hx hb dL_law_277 (lv_at hl 1 rfl) ?_
  refine lv_iconst (v := nI 2) hx hb dL_law_279 (by decide) ?_
  refine z_iadd hx hb dL_law_280 ?_
  refine va_sld hx hb hX hbl hbA hS1 (vp_in_nI (by omega) (by omega)) dL_law_281 ?_
  rw [nI_clamp (by omega), hx2]
  refine lv_aload_n hx hb dL_law_282 rfl (lv_at hl 2 rfl) ?_
  refine lv_iload hx hb dL_law_283 (lv_at hl 1 rfl) ?_
  refine lv_iconst (v := nI 3) hx hb dL_law_285 (by decide) ?_
  refine z_iadd hx hb dL_law_286 ?_
  refine va_sld hx hb hX hbl hbA hS1 (vp_in_nI (by omega) (by omega)) dL_law_287 ?_
  rw [nI_clamp (by omega), hx3]
  have hP2 : va_P G vwCl (wr ++ (w1 u ++ tl)) H1 := z_P_perm z_rot hP1
  have hD2 : va_D (fun q : Nat => s.heap.size ≤ q) (wr ++ (w1 u ++ tl)) := z_D_perm z_rot hD1
  refine z_ciP (wc := wr) (wr := w1 u ++ tl) (va_runV (As := [.int X1, .int X2, .int X3]) (rest := []) ⟨hx, hb, hml, hown, hwX_weather hts⟩ (hR H1.size) (cwV 3 (hwX_weather hts) giX_weather rfl hg1 hg2 (by decide +kernel) ⟨hg3, hg4⟩) (z_pVP (ci := 12) hK hP2 hD2 rfl rfl 0 hm0) rfl rfl hl.1 rfl (lv_room (Nat.le_of_ble_eq_true rfl)) dL_law_288 ⟨by omega, by omega⟩) hP2 hD2 hS1 hA (fun r2 u2 H2 locs2 hr2b hP3 hD3 hS3 hz2 => ?_)
  obtain rfl : r2 = rv := hpR r2 u2 hr2b
  refine lv_istore (lv' := [(6, .int r2), (5, .int (nI k)), (4, .int (nI i6)), (0, .ref b9), (1, .ref (a 0)), (2, .ref h), (3, .ref o9)]) hx hb dL_law_291 hl (by decide) rfl (fun ls hl => ?_)
  refine lv_aload_n hx hb dL_law_293 rfl (lv_at hl 5 rfl) ?_
  have hm2 := z_ap0 (b := w1 u ++ tl) (hm1 u2)
  refine vp_callSi (va_runV (As := []) (rest := []) ⟨hx, hb, hml, hown, hwX_thrown hts⟩ (c_X11_thrown l G cy h b T2 np2 (nI k)) (cwV 0 (hwX_thrown hts) giX_thrown rfl rfl rfl (by decide +kernel) ⟨Nat.le_of_ble_eq_true rfl, Nat.le_of_ble_eq_true rfl⟩) (z_pV (wc := [zMo h b T2 np2 (nI k)]) hK hP3 [0] (z_fm1 hm2) (ci := 12) (q0 := 0) rfl rfl rfl) rfl rfl hl.1 rfl (lv_room (Nat.le_of_ble_eq_true rfl)) dL_law_294 ⟨by omega, by omega⟩).run (fun r3 hr3 => ?_)
  obtain rfl : r3 = nI k := hr3
  refine lv_iload hx hb dL_law_297 (lv_at hl 1 rfl) ?_
  refine lv_icmp_eq (tgt := 304) hx hb dL_law_299 (by decide) (fun _ => ?_) (fun q => absurd rfl q)
  refine lv_iload hx hb dL_law_304 (lv_at hl 1 rfl) ?_
  refine z_if_ne (tgt := 321) hx hb (by omega) dL_law_306 (by decide) (fun _ => ?_) (fun hk0 => ?_)
  · refine lv_goto (tgt := 1569) hx hb dL_law_321 (by decide) ?_
    exact W.widen (k := cells + 20) (n := slots + 5100) (by omega) (by omega) (kk u u2 H2 locs2 _ hP3 hD3 hS3 (lv_sub hl [2, 3, 4, 5, 6] rfl))
  · obtain ⟨f9, hf1, hf2⟩ := ho hk0 u
    obtain ⟨q0, hq0⟩ := z_memi (List.mem_append_right (w2 u2) (List.mem_append_left tl (List.mem_of_getElem? hf1)))
    refine lv_aload_n hx hb dL_law_309 rfl (lv_at hl 6 rfl) ?_
    refine lv_iconst (v := nI 0) hx hb dL_law_310 (by decide) ?_
    refine z_lald (G := G) (v := v) hx hb hK hP3 q0 hq0 (by omega) hf2 dL_law_311 ?_
    refine lv_iload hx hb dL_law_312 (lv_at hl 0 rfl) ?_
    refine lv_i2l (v := r2.toInt64) hx hb dL_law_314 rfl ?_
    refine z_lc_eq (tgt := 321) hx hb dL_law_315 dL_law_316 (by decide) (fun _ => ?_) (fun q => absurd (hv hk0) q)
    refine lv_goto (tgt := 1569) hx hb dL_law_321 (by decide) ?_
    exact W.widen (k := cells + 20) (n := slots + 5100) (by omega) (by omega) (kk u u2 H2 locs2 _ hP3 hD3 hS3 (lv_sub hl [2, 3, 4, 5, 6] rfl))
set_option maxHeartbeats 4000000 in
theorem lo_pass {S S2 : Type} {rm rm2 : Room} {mc ms k T2 np2 : Nat} {v : Int64} {rv : Int32} {X1 : Int32} {wc wr tl : va_W} {w1 : S → va_W} {w2 : S2 → va_W} {pC : Int32 → S → Prop} {pR : Int32 → S2 → Prop} {qo : Nat} {fs9 : List Value}
    (F : zFix p l s m args c b9 L xs G cy wd fo) (hi : i6 + 5 < L) (hx1 : xs (i6 + 1) = X1)
    (hC : ∀ sz, Met l yL_pass wsL_pass rm (zMH G cy wd fo s.heap.size [.ref (a 0), .int X1, .ref o9] sz wc) (va_Qi pC (fun u t9 => zB G cy (va_A wc sz) (w1 u) t9) (va_A wc sz)) mc ms (va_A wc sz))
    (hrm : (rm.cells = mc ∧ rm.slots = ms) ∧ rm.frames + 1 ≤ room_1.frames ∧ 8 + (4 + 11) + rm.locals ≤ room_1.locals) (hpC : ∀ r u, pC r u → r = nI k)
    (hR : ∀ sz, Met l yX11_pass wsX11_pass rm2 (zM G cy [.ref h, .int X1] sz wr) (va_Qi pR (fun u t9 => zB G cy (va_A wr sz) (w2 u) t9) (va_A wr sz)) 0 0 (va_A wr sz))
    (hrm2 : (rm2.cells = 0 ∧ rm2.slots = 0) ∧ rm2.frames + 1 ≤ room_1.frames ∧ 8 + (3 + 11) + rm2.locals ≤ room_1.locals) (hpR : ∀ r u, pR r u → r = rv)
    (hm0 : wr[0]? = some (h, .inr (12, fs9))) (hm1 : ∀ u, (w2 u)[0]? = some (zMo h b T2 np2 (nI k))) (hk : k < 8) (hmc : mc ≤ 20 ∧ ms ≤ 5100)
    (hv : k = 0 → v = rv.toInt64) (ho : k = 0 → ∀ u, ∃ f, (w1 u)[qo]? = some (zL cy o9 1 f) ∧ f 0 = v)
    (hP : va_P G vwCl (wc ++ (wr ++ tl)) H) (hD : va_D (fun q : Nat => s.heap.size ≤ q) (wc ++ (wr ++ tl))) (hS : va_S (fun q : Nat => s.heap.size ≤ q) s.heap H locs) (hroom : cells + 20 ≤ room_1.cells ∧ slots + 5100 ≤ room_1.slots)
    (kk : ∀ (u : S) (u2 : S2) (H2 : Heap) (locs2 : List Loc) (ls2 : Array Slot), va_P G vwCl (w2 u2 ++ (w1 u ++ tl)) H2 → va_D (fun q : Nat => s.heap.size ≤ q) (w2 u2 ++ (w1 u ++ tl)) → va_S (fun q : Nat => s.heap.size ≤ q) s.heap H2 locs2 → lv_has ls2 8 [(4, .int (nI i6)), (0, .ref b9), (1, .ref (a 0)), (2, .ref h), (3, .ref o9)] → W p l e room_1 s m args below meth c H2 locs2 (cells + 20) (slots + 5100) Q (F0 m 1569 ls2 []))
    (hl : lv_has ls 8 [(4, .int (nI i6)), (0, .ref b9), (1, .ref (a 0)), (2, .ref h), (3, .ref o9)]) :
    W p l e room_1 s m args below meth c H locs cells slots Q (F0 m 324 ls []) := by
  obtain ⟨hx, hb, hml, hown, hts, hX, hbl, hL, hl9, hK, hWd, hE⟩ := F
  have hbA : ¬ (fun q : Nat => s.heap.size ≤ q) b9 := Nat.not_le.mpr hbl
  have hA : ∀ q : Nat, s.heap.size ≤ q → (fun q : Nat => s.heap.size ≤ q) q := fun _ q => q
  obtain ⟨⟨hr1, hr2⟩, hr3, hr4⟩ := hrm
  obtain ⟨⟨hg1, hg2⟩, hg3, hg4⟩ := hrm2
  refine lv_aload_n hx hb dL_law_324 rfl (lv_at hl 2 rfl) ?_
  refine lv_aload_n hx hb dL_law_325 rfl (lv_at hl 1 rfl) ?_
  refine lv_iload hx hb dL_law_326 (lv_at hl 0 rfl) ?_
  refine lv_iconst (v := nI 1) hx hb dL_law_328 (by decide) ?_
  refine z_iadd hx hb dL_law_329 ?_
  refine va_sld hx hb hX hbl hbA hS (vp_in_nI (by omega) (by omega)) dL_law_330 ?_
  rw [nI_clamp (by omega), hx1]
  refine lv_aload_n hx hb dL_law_331 rfl (lv_at hl 4 rfl) ?_
  refine z_ciP (wc := wc) (wr := wr ++ tl) (vx_runSW (As := [.ref (a 0), .int X1, .ref o9]) (rest := []) ⟨hx, hb, hml, hown, hwL_pass hts⟩ (hC H.size) (vx_cwSW 3 (hwL_pass hts) giL_pass rfl hr1 hr2 (by decide +kernel) ⟨hr3, hr4⟩) (z_pHP hK hP hD hS (Nat.le_refl _) (fun _ q => q) hWd hE) rfl rfl hl.1 rfl (lv_room (Nat.le_of_ble_eq_true rfl)) dL_law_332 ⟨by omega, by omega⟩) hP hD hS hA (fun r u H1 locs1 hr hP1 hD1 hS1 hz => ?_)
  obtain rfl : r = nI k := hpC r u hr
  refine lv_istore (lv' := [(5, .int (nI k)), (4, .int (nI i6)), (0, .ref b9), (1, .ref (a 0)), (2, .ref h), (3, .ref o9)]) hx hb dL_law_335 hl (by decide) rfl (fun ls hl => ?_)
  refine lv_aload_n hx hb dL_law_337 rfl (lv_at hl 4 rfl) ?_
  refine lv_aload_n hx hb dL_law_338 rfl (lv_at hl 2 rfl) ?_
  refine lv_iload hx hb dL_law_339 (lv_at hl 1 rfl) ?_
  refine lv_iconst (v := nI 1) hx hb dL_law_341 (by decide) ?_
  refine z_iadd hx hb dL_law_342 ?_
  refine va_sld hx hb hX hbl hbA hS1 (vp_in_nI (by omega) (by omega)) dL_law_343 ?_
  rw [nI_clamp (by omega), hx1]
  have hP2 : va_P G vwCl (wr ++ (w1 u ++ tl)) H1 := z_P_perm z_rot hP1
  have hD2 : va_D (fun q : Nat => s.heap.size ≤ q) (wr ++ (w1 u ++ tl)) := z_D_perm z_rot hD1
  refine z_ciP (wc := wr) (wr := w1 u ++ tl) (va_runV (As := [.int X1]) (rest := []) ⟨hx, hb, hml, hown, hwX_pass hts⟩ (hR H1.size) (cwV 1 (hwX_pass hts) giX_pass rfl hg1 hg2 (by decide +kernel) ⟨hg3, hg4⟩) (z_pVP (ci := 12) hK hP2 hD2 rfl rfl 0 hm0) rfl rfl hl.1 rfl (lv_room (Nat.le_of_ble_eq_true rfl)) dL_law_344 ⟨by omega, by omega⟩) hP2 hD2 hS1 hA (fun r2 u2 H2 locs2 hr2b hP3 hD3 hS3 hz2 => ?_)
  obtain rfl : r2 = rv := hpR r2 u2 hr2b
  refine lv_istore (lv' := [(6, .int r2), (5, .int (nI k)), (4, .int (nI i6)), (0, .ref b9), (1, .ref (a 0)), (2, .ref h), (3, .ref o9)]) hx hb dL_law_347 hl (by decide) rfl (fun ls hl => ?_)
  refine lv_aload_n hx hb dL_law_349 rfl (lv_at hl 5 rfl) ?_
  have hm2 := z_ap0 (b := w1 u ++ tl) (hm1 u2)
  refine vp_callSi (va_runV (As := []) (rest := []) ⟨hx, hb, hml, hown, hwX_thrown hts⟩ (c_X11_thrown l G cy h b T2 np2 (nI k)) (cwV 0 (hwX_thrown hts) giX_thrown rfl rfl rfl (by decide +kernel) ⟨Nat.le_of_ble_eq_true rfl, Nat.le_of_ble_eq_true rfl⟩) (z_pV (wc := [zMo h b T2 np2 (nI k)]) hK hP3 [0] (z_fm1 hm2) (ci := 12) (q0 := 0) rfl rfl rfl) rfl rfl hl.1 rfl (lv_room (Nat.le_of_ble_eq_true rfl)) dL_law_350 ⟨by omega, by omega⟩).run (fun r3 hr3 => ?_)
  obtain rfl : r3 = nI k := hr3
  refine lv_iload hx hb dL_law_353 (lv_at hl 1 rfl) ?_
  refine lv_icmp_eq (tgt := 360) hx hb dL_law_355 (by decide) (fun _ => ?_) (fun q => absurd rfl q)
  refine lv_iload hx hb dL_law_360 (lv_at hl 1 rfl) ?_
  refine z_if_ne (tgt := 377) hx hb (by omega) dL_law_362 (by decide) (fun _ => ?_) (fun hk0 => ?_)
  · refine lv_goto (tgt := 1569) hx hb dL_law_377 (by decide) ?_
    exact W.widen (k := cells + 20) (n := slots + 5100) (by omega) (by omega) (kk u u2 H2 locs2 _ hP3 hD3 hS3 (lv_sub hl [2, 3, 4, 5, 6] rfl))
  · obtain ⟨f9, hf1, hf2⟩ := ho hk0 u
    obtain ⟨q0, hq0⟩ := z_memi (List.mem_append_right (w2 u2) (List.mem_append_left tl (List.mem_of_getElem? hf1)))
    refine lv_aload_n hx hb dL_law_365 rfl (lv_at hl 6 rfl) ?_
    refine lv_iconst (v := nI 0) hx hb dL_law_366 (by decide) ?_
    refine z_lald (G := G) (v := v) hx hb hK hP3 q0 hq0 (by omega) hf2 dL_law_367 ?_
    refine lv_iload hx hb dL_law_368 (lv_at hl 0 rfl) ?_
    refine lv_i2l (v := r2.toInt64) hx hb dL_law_370 rfl ?_
    refine z_lc_eq (tgt := 377) hx hb dL_law_371 dL_law_372 (by decide) (fun _ => ?_) (fun q => absurd (hv hk0) q)
    refine lv_goto (tgt := 1569) hx hb dL_law_377 (by decide) ?_
    exact W.widen (k := cells + 20) (n := slots + 5100) (by omega) (by omega) (kk u u2 H2 locs2 _ hP3 hD3 hS3 (lv_sub hl [2, 3, 4, 5, 6] rfl))
set_option maxHeartbeats 4000000 in
theorem lo_read {S S2 : Type} {rm rm2 : Room} {mc ms k T2 np2 : Nat} {v : Int64} {rv : Int32} {X1 X2 : Int32} {wc wr tl : va_W} {w1 : S → va_W} {w2 : S2 → va_W} {pC : Int32 → S → Prop} {pR : Int32 → S2 → Prop} {qo : Nat} {fs9 : List Value}
    (F : zFix p l s m args c b9 L xs G cy wd fo) (hi : i6 + 5 < L) (hx1 : xs (i6 + 1) = X1) (hx2 : xs (i6 + 2) = X2)
    (hC : ∀ sz, Met l yL_read wsL_read rm (zMH G cy wd fo s.heap.size [.ref (a 0), .int X1, .int X2, .ref o9] sz wc) (va_Qi pC (fun u t9 => zB G cy (va_A wc sz) (w1 u) t9) (va_A wc sz)) mc ms (va_A wc sz))
    (hrm : (rm.cells = mc ∧ rm.slots = ms) ∧ rm.frames + 1 ≤ room_1.frames ∧ 8 + (5 + 11) + rm.locals ≤ room_1.locals) (hpC : ∀ r u, pC r u → r = nI k)
    (hR : ∀ sz, Met l yX11_read wsX11_read rm2 (zM G cy [.ref h, .int X1, .int X2] sz wr) (va_Qi pR (fun u t9 => zB G cy (va_A wr sz) (w2 u) t9) (va_A wr sz)) 0 0 (va_A wr sz))
    (hrm2 : (rm2.cells = 0 ∧ rm2.slots = 0) ∧ rm2.frames + 1 ≤ room_1.frames ∧ 8 + (5 + 11) + rm2.locals ≤ room_1.locals) (hpR : ∀ r u, pR r u → r = rv)
    (hm0 : wr[0]? = some (h, .inr (12, fs9))) (hm1 : ∀ u, (w2 u)[0]? = some (zMo h b T2 np2 (nI k))) (hk : k < 8) (hmc : mc ≤ 20 ∧ ms ≤ 5100)
    (hv : k = 0 → v = rv.toInt64) (ho : k = 0 → ∀ u, ∃ f, (w1 u)[qo]? = some (zL cy o9 1 f) ∧ f 0 = v)
    (hP : va_P G vwCl (wc ++ (wr ++ tl)) H) (hD : va_D (fun q : Nat => s.heap.size ≤ q) (wc ++ (wr ++ tl))) (hS : va_S (fun q : Nat => s.heap.size ≤ q) s.heap H locs) (hroom : cells + 20 ≤ room_1.cells ∧ slots + 5100 ≤ room_1.slots)
    (kk : ∀ (u : S) (u2 : S2) (H2 : Heap) (locs2 : List Loc) (ls2 : Array Slot), va_P G vwCl (w2 u2 ++ (w1 u ++ tl)) H2 → va_D (fun q : Nat => s.heap.size ≤ q) (w2 u2 ++ (w1 u ++ tl)) → va_S (fun q : Nat => s.heap.size ≤ q) s.heap H2 locs2 → lv_has ls2 8 [(4, .int (nI i6)), (0, .ref b9), (1, .ref (a 0)), (2, .ref h), (3, .ref o9)] → W p l e room_1 s m args below meth c H2 locs2 (cells + 20) (slots + 5100) Q (F0 m 1569 ls2 []))
    (hl : lv_has ls 8 [(4, .int (nI i6)), (0, .ref b9), (1, .ref (a 0)), (2, .ref h), (3, .ref o9)]) :
    W p l e room_1 s m args below meth c H locs cells slots Q (F0 m 380 ls []) := by
  obtain ⟨hx, hb, hml, hown, hts, hX, hbl, hL, hl9, hK, hWd, hE⟩ := F
  have hbA : ¬ (fun q : Nat => s.heap.size ≤ q) b9 := Nat.not_le.mpr hbl
  have hA : ∀ q : Nat, s.heap.size ≤ q → (fun q : Nat => s.heap.size ≤ q) q := fun _ q => q
  obtain ⟨⟨hr1, hr2⟩, hr3, hr4⟩ := hrm
  obtain ⟨⟨hg1, hg2⟩, hg3, hg4⟩ := hrm2
  refine lv_aload_n hx hb dL_law_380 rfl (lv_at hl 2 rfl) ?_
  refine lv_aload_n hx hb dL_law_381 rfl (lv_at hl 1 rfl) ?_
  refine lv_iload hx hb dL_law_382 (lv_at hl 0 rfl) ?_
  refine lv_iconst (v := nI 1) hx hb dL_law_384 (by decide) ?_
  refine z_iadd hx hb dL_law_385 ?_
  refine va_sld hx hb hX hbl hbA hS (vp_in_nI (by omega) (by omega)) dL_law_386 ?_
  rw [nI_clamp (by omega), hx1]
  refine lv_aload_n hx hb dL_law_387 rfl (lv_at hl 1 rfl) ?_
  refine lv_iload hx hb dL_law_388 (lv_at hl 0 rfl) ?_
  refine lv_iconst (v := nI 2) hx hb dL_law_390 (by decide) ?_
  refine z_iadd hx hb dL_law_391 ?_
  refine va_sld hx hb hX hbl hbA hS (vp_in_nI (by omega) (by omega)) dL_law_392 ?_
  rw [nI_clamp (by omega), hx2]
  refine lv_aload_n hx hb dL_law_393 rfl (lv_at hl 4 rfl) ?_
  refine z_ciP (wc := wc) (wr := wr ++ tl) (vx_runSW (As := [.ref (a 0), .int X1, .int X2, .ref o9]) (rest := []) ⟨hx, hb, hml, hown, hwL_read hts⟩ (hC H.size) (vx_cwSW 4 (hwL_read hts) giL_read rfl hr1 hr2 (by decide +kernel) ⟨hr3, hr4⟩) (z_pHP hK hP hD hS (Nat.le_refl _) (fun _ q => q) hWd hE) rfl rfl hl.1 rfl (lv_room (Nat.le_of_ble_eq_true rfl)) dL_law_394 ⟨by omega, by omega⟩) hP hD hS hA (fun r u H1 locs1 hr hP1 hD1 hS1 hz => ?_)
  obtain rfl : r = nI k := hpC r u hr
  refine lv_istore (lv' := [(5, .int (nI k)), (4, .int (nI i6)), (0, .ref b9), (1, .ref (a 0)), (2, .ref h), (3, .ref o9)]) hx hb dL_law_397 hl (by decide) rfl (fun ls hl => ?_)
  refine lv_aload_n hx hb dL_law_399 rfl (lv_at hl 4 rfl) ?_
  refine lv_aload_n hx hb dL_law_400 rfl (lv_at hl 2 rfl) ?_
  refine lv_iload hx hb dL_law_401 (lv_at hl 1 rfl) ?_
  refine lv_iconst (v := nI 1) hx hb dL_law_403 (by decide) ?_
  refine z_iadd hx hb dL_law_404 ?_
  refine va_sld hx hb hX hbl hbA hS1 (vp_in_nI (by omega) (by omega)) dL_law_405 ?_
  rw [nI_clamp (by omega), hx1]
  refine lv_aload_n hx hb dL_law_406 rfl (lv_at hl 2 rfl) ?_
  refine lv_iload hx hb dL_law_407 (lv_at hl 1 rfl) ?_
  refine lv_iconst (v := nI 2) hx hb dL_law_409 (by decide) ?_
  refine z_iadd hx hb dL_law_410 ?_
  refine va_sld hx hb hX hbl hbA hS1 (vp_in_nI (by omega) (by omega)) dL_law_411 ?_
  rw [nI_clamp (by omega), hx2]
  have hP2 : va_P G vwCl (wr ++ (w1 u ++ tl)) H1 := z_P_perm z_rot hP1
  have hD2 : va_D (fun q : Nat => s.heap.size ≤ q) (wr ++ (w1 u ++ tl)) := z_D_perm z_rot hD1
  refine z_ciP (wc := wr) (wr := w1 u ++ tl) (va_runV (As := [.int X1, .int X2]) (rest := []) ⟨hx, hb, hml, hown, hwX_read hts⟩ (hR H1.size) (cwV 2 (hwX_read hts) giX_read rfl hg1 hg2 (by decide +kernel) ⟨hg3, hg4⟩) (z_pVP (ci := 12) hK hP2 hD2 rfl rfl 0 hm0) rfl rfl hl.1 rfl (lv_room (Nat.le_of_ble_eq_true rfl)) dL_law_412 ⟨by omega, by omega⟩) hP2 hD2 hS1 hA (fun r2 u2 H2 locs2 hr2b hP3 hD3 hS3 hz2 => ?_)
  obtain rfl : r2 = rv := hpR r2 u2 hr2b
  refine lv_istore (lv' := [(6, .int r2), (5, .int (nI k)), (4, .int (nI i6)), (0, .ref b9), (1, .ref (a 0)), (2, .ref h), (3, .ref o9)]) hx hb dL_law_415 hl (by decide) rfl (fun ls hl => ?_)
  refine lv_aload_n hx hb dL_law_417 rfl (lv_at hl 5 rfl) ?_
  have hm2 := z_ap0 (b := w1 u ++ tl) (hm1 u2)
  refine vp_callSi (va_runV (As := []) (rest := []) ⟨hx, hb, hml, hown, hwX_thrown hts⟩ (c_X11_thrown l G cy h b T2 np2 (nI k)) (cwV 0 (hwX_thrown hts) giX_thrown rfl rfl rfl (by decide +kernel) ⟨Nat.le_of_ble_eq_true rfl, Nat.le_of_ble_eq_true rfl⟩) (z_pV (wc := [zMo h b T2 np2 (nI k)]) hK hP3 [0] (z_fm1 hm2) (ci := 12) (q0 := 0) rfl rfl rfl) rfl rfl hl.1 rfl (lv_room (Nat.le_of_ble_eq_true rfl)) dL_law_418 ⟨by omega, by omega⟩).run (fun r3 hr3 => ?_)
  obtain rfl : r3 = nI k := hr3
  refine lv_iload hx hb dL_law_421 (lv_at hl 1 rfl) ?_
  refine lv_icmp_eq (tgt := 428) hx hb dL_law_423 (by decide) (fun _ => ?_) (fun q => absurd rfl q)
  refine lv_iload hx hb dL_law_428 (lv_at hl 1 rfl) ?_
  refine z_if_ne (tgt := 445) hx hb (by omega) dL_law_430 (by decide) (fun _ => ?_) (fun hk0 => ?_)
  · refine lv_goto (tgt := 1569) hx hb dL_law_445 (by decide) ?_
    exact W.widen (k := cells + 20) (n := slots + 5100) (by omega) (by omega) (kk u u2 H2 locs2 _ hP3 hD3 hS3 (lv_sub hl [2, 3, 4, 5, 6] rfl))
  · obtain ⟨f9, hf1, hf2⟩ := ho hk0 u
    obtain ⟨q0, hq0⟩ := z_memi (List.mem_append_right (w2 u2) (List.mem_append_left tl (List.mem_of_getElem? hf1)))
    refine lv_aload_n hx hb dL_law_433 rfl (lv_at hl 6 rfl) ?_
    refine lv_iconst (v := nI 0) hx hb dL_law_434 (by decide) ?_
    refine z_lald (G := G) (v := v) hx hb hK hP3 q0 hq0 (by omega) hf2 dL_law_435 ?_
    refine lv_iload hx hb dL_law_436 (lv_at hl 0 rfl) ?_
    refine lv_i2l (v := r2.toInt64) hx hb dL_law_438 rfl ?_
    refine z_lc_eq (tgt := 445) hx hb dL_law_439 dL_law_440 (by decide) (fun _ => ?_) (fun q => absurd (hv hk0) q)
    refine lv_goto (tgt := 1569) hx hb dL_law_445 (by decide) ?_
    exact W.widen (k := cells + 20) (n := slots + 5100) (by omega) (by omega) (kk u u2 H2 locs2 _ hP3 hD3 hS3 (lv_sub hl [2, 3, 4, 5, 6] rfl))
set_option maxHeartbeats 4000000 in
theorem lo_confirm {S S2 : Type} {rm rm2 : Room} {mc ms k T2 np2 : Nat} {v : Int64} {rv : Int32} {X1 : Int32} {wc wr tl : va_W} {w1 : S → va_W} {w2 : S2 → va_W} {pC : Int32 → S → Prop} {pR : Int32 → S2 → Prop} {qo : Nat} {fs9 : List Value}
    (F : zFix p l s m args c b9 L xs G cy wd fo) (hi : i6 + 5 < L) (hx1 : xs (i6 + 1) = X1)
    (hC : ∀ sz, Met l yL_confirm wsL_confirm rm (zMH G cy wd fo s.heap.size [.ref (a 0), .int X1, .ref o9] sz wc) (va_Qi pC (fun u t9 => zB G cy (va_A wc sz) (w1 u) t9) (va_A wc sz)) mc ms (va_A wc sz))
    (hrm : (rm.cells = mc ∧ rm.slots = ms) ∧ rm.frames + 1 ≤ room_1.frames ∧ 8 + (4 + 11) + rm.locals ≤ room_1.locals) (hpC : ∀ r u, pC r u → r = nI k)
    (hR : ∀ sz, Met l yX11_confirm wsX11_confirm rm2 (zM G cy [.ref h, .int X1] sz wr) (va_Qi pR (fun u t9 => zB G cy (va_A wr sz) (w2 u) t9) (va_A wr sz)) 0 0 (va_A wr sz))
    (hrm2 : (rm2.cells = 0 ∧ rm2.slots = 0) ∧ rm2.frames + 1 ≤ room_1.frames ∧ 8 + (3 + 11) + rm2.locals ≤ room_1.locals) (hpR : ∀ r u, pR r u → r = rv)
    (hm0 : wr[0]? = some (h, .inr (12, fs9))) (hm1 : ∀ u, (w2 u)[0]? = some (zMo h b T2 np2 (nI k))) (hk : k < 8) (hmc : mc ≤ 20 ∧ ms ≤ 5100)
    (hv : k = 0 → v = rv.toInt64) (ho : k = 0 → ∀ u, ∃ f, (w1 u)[qo]? = some (zL cy o9 1 f) ∧ f 0 = v)
    (hP : va_P G vwCl (wc ++ (wr ++ tl)) H) (hD : va_D (fun q : Nat => s.heap.size ≤ q) (wc ++ (wr ++ tl))) (hS : va_S (fun q : Nat => s.heap.size ≤ q) s.heap H locs) (hroom : cells + 20 ≤ room_1.cells ∧ slots + 5100 ≤ room_1.slots)
    (kk : ∀ (u : S) (u2 : S2) (H2 : Heap) (locs2 : List Loc) (ls2 : Array Slot), va_P G vwCl (w2 u2 ++ (w1 u ++ tl)) H2 → va_D (fun q : Nat => s.heap.size ≤ q) (w2 u2 ++ (w1 u ++ tl)) → va_S (fun q : Nat => s.heap.size ≤ q) s.heap H2 locs2 → lv_has ls2 8 [(4, .int (nI i6)), (0, .ref b9), (1, .ref (a 0)), (2, .ref h), (3, .ref o9)] → W p l e room_1 s m args below meth c H2 locs2 (cells + 20) (slots + 5100) Q (F0 m 1569 ls2 []))
    (hl : lv_has ls 8 [(4, .int (nI i6)), (0, .ref b9), (1, .ref (a 0)), (2, .ref h), (3, .ref o9)]) :
    W p l e room_1 s m args below meth c H locs cells slots Q (F0 m 448 ls []) := by
  obtain ⟨hx, hb, hml, hown, hts, hX, hbl, hL, hl9, hK, hWd, hE⟩ := F
  have hbA : ¬ (fun q : Nat => s.heap.size ≤ q) b9 := Nat.not_le.mpr hbl
  have hA : ∀ q : Nat, s.heap.size ≤ q → (fun q : Nat => s.heap.size ≤ q) q := fun _ q => q
  obtain ⟨⟨hr1, hr2⟩, hr3, hr4⟩ := hrm
  obtain ⟨⟨hg1, hg2⟩, hg3, hg4⟩ := hrm2
  refine lv_aload_n hx hb dL_law_448 rfl (lv_at hl 2 rfl) ?_
  refine lv_aload_n hx hb dL_law_449 rfl (lv_at hl 1 rfl) ?_
  refine lv_iload hx hb dL_law_450 (lv_at hl 0 rfl) ?_
  refine lv_iconst (v := nI 1) hx hb dL_law_452 (by decide) ?_
  refine z_iadd hx hb dL_law_453 ?_
  refine va_sld hx hb hX hbl hbA hS (vp_in_nI (by omega) (by omega)) dL_law_454 ?_
  rw [nI_clamp (by omega), hx1]
  refine lv_aload_n hx hb dL_law_455 rfl (lv_at hl 4 rfl) ?_
  refine z_ciP (wc := wc) (wr := wr ++ tl) (vx_runSW (As := [.ref (a 0), .int X1, .ref o9]) (rest := []) ⟨hx, hb, hml, hown, hwL_confirm hts⟩ (hC H.size) (vx_cwSW 3 (hwL_confirm hts) giL_confirm rfl hr1 hr2 (by decide +kernel) ⟨hr3, hr4⟩) (z_pHP hK hP hD hS (Nat.le_refl _) (fun _ q => q) hWd hE) rfl rfl hl.1 rfl (lv_room (Nat.le_of_ble_eq_true rfl)) dL_law_456 ⟨by omega, by omega⟩) hP hD hS hA (fun r u H1 locs1 hr hP1 hD1 hS1 hz => ?_)
  obtain rfl : r = nI k := hpC r u hr
  refine lv_istore (lv' := [(5, .int (nI k)), (4, .int (nI i6)), (0, .ref b9), (1, .ref (a 0)), (2, .ref h), (3, .ref o9)]) hx hb dL_law_459 hl (by decide) rfl (fun ls hl => ?_)
  refine lv_aload_n hx hb dL_law_461 rfl (lv_at hl 4 rfl) ?_
  refine lv_aload_n hx hb dL_law_462 rfl (lv_at hl 2 rfl) ?_
  refine lv_iload hx hb dL_law_463 (lv_at hl 1 rfl) ?_
  refine lv_iconst (v := nI 1) hx hb dL_law_465 (by decide) ?_
  refine z_iadd hx hb dL_law_466 ?_
  refine va_sld hx hb hX hbl hbA hS1 (vp_in_nI (by omega) (by omega)) dL_law_467 ?_
  rw [nI_clamp (by omega), hx1]
  have hP2 : va_P G vwCl (wr ++ (w1 u ++ tl)) H1 := z_P_perm z_rot hP1
  have hD2 : va_D (fun q : Nat => s.heap.size ≤ q) (wr ++ (w1 u ++ tl)) := z_D_perm z_rot hD1
  refine z_ciP (wc := wr) (wr := w1 u ++ tl) (va_runV (As := [.int X1]) (rest := []) ⟨hx, hb, hml, hown, hwX_confirm hts⟩ (hR H1.size) (cwV 1 (hwX_confirm hts) giX_confirm rfl hg1 hg2 (by decide +kernel) ⟨hg3, hg4⟩) (z_pVP (ci := 12) hK hP2 hD2 rfl rfl 0 hm0) rfl rfl hl.1 rfl (lv_room (Nat.le_of_ble_eq_true rfl)) dL_law_468 ⟨by omega, by omega⟩) hP2 hD2 hS1 hA (fun r2 u2 H2 locs2 hr2b hP3 hD3 hS3 hz2 => ?_)
  obtain rfl : r2 = rv := hpR r2 u2 hr2b
  refine lv_istore (lv' := [(6, .int r2), (5, .int (nI k)), (4, .int (nI i6)), (0, .ref b9), (1, .ref (a 0)), (2, .ref h), (3, .ref o9)]) hx hb dL_law_471 hl (by decide) rfl (fun ls hl => ?_)
  refine lv_aload_n hx hb dL_law_473 rfl (lv_at hl 5 rfl) ?_
  have hm2 := z_ap0 (b := w1 u ++ tl) (hm1 u2)
  refine vp_callSi (va_runV (As := []) (rest := []) ⟨hx, hb, hml, hown, hwX_thrown hts⟩ (c_X11_thrown l G cy h b T2 np2 (nI k)) (cwV 0 (hwX_thrown hts) giX_thrown rfl rfl rfl (by decide +kernel) ⟨Nat.le_of_ble_eq_true rfl, Nat.le_of_ble_eq_true rfl⟩) (z_pV (wc := [zMo h b T2 np2 (nI k)]) hK hP3 [0] (z_fm1 hm2) (ci := 12) (q0 := 0) rfl rfl rfl) rfl rfl hl.1 rfl (lv_room (Nat.le_of_ble_eq_true rfl)) dL_law_474 ⟨by omega, by omega⟩).run (fun r3 hr3 => ?_)
  obtain rfl : r3 = nI k := hr3
  refine lv_iload hx hb dL_law_477 (lv_at hl 1 rfl) ?_
  refine lv_icmp_eq (tgt := 484) hx hb dL_law_479 (by decide) (fun _ => ?_) (fun q => absurd rfl q)
  refine lv_iload hx hb dL_law_484 (lv_at hl 1 rfl) ?_
  refine z_if_ne (tgt := 501) hx hb (by omega) dL_law_486 (by decide) (fun _ => ?_) (fun hk0 => ?_)
  · refine lv_goto (tgt := 1569) hx hb dL_law_501 (by decide) ?_
    exact W.widen (k := cells + 20) (n := slots + 5100) (by omega) (by omega) (kk u u2 H2 locs2 _ hP3 hD3 hS3 (lv_sub hl [2, 3, 4, 5, 6] rfl))
  · obtain ⟨f9, hf1, hf2⟩ := ho hk0 u
    obtain ⟨q0, hq0⟩ := z_memi (List.mem_append_right (w2 u2) (List.mem_append_left tl (List.mem_of_getElem? hf1)))
    refine lv_aload_n hx hb dL_law_489 rfl (lv_at hl 6 rfl) ?_
    refine lv_iconst (v := nI 0) hx hb dL_law_490 (by decide) ?_
    refine z_lald (G := G) (v := v) hx hb hK hP3 q0 hq0 (by omega) hf2 dL_law_491 ?_
    refine lv_iload hx hb dL_law_492 (lv_at hl 0 rfl) ?_
    refine lv_i2l (v := r2.toInt64) hx hb dL_law_494 rfl ?_
    refine z_lc_eq (tgt := 501) hx hb dL_law_495 dL_law_496 (by decide) (fun _ => ?_) (fun q => absurd (hv hk0) q)
    refine lv_goto (tgt := 1569) hx hb dL_law_501 (by decide) ?_
    exact W.widen (k := cells + 20) (n := slots + 5100) (by omega) (by omega) (kk u u2 H2 locs2 _ hP3 hD3 hS3 (lv_sub hl [2, 3, 4, 5, 6] rfl))
set_option maxHeartbeats 4000000 in
theorem lo_exchange {S S2 : Type} {rm rm2 : Room} {mc ms k T2 np2 : Nat} {v : Int64} {rv : Int32} {X1 X2 X3 X4 : Int32} {wc wr tl : va_W} {w1 : S → va_W} {w2 : S2 → va_W} {pC : Int32 → S → Prop} {pR : Int32 → S2 → Prop} {qo : Nat} {fs9 : List Value}
    (F : zFix p l s m args c b9 L xs G cy wd fo) (hi : i6 + 5 < L) (hx1 : xs (i6 + 1) = X1) (hx2 : xs (i6 + 2) = X2) (hx3 : xs (i6 + 3) = X3) (hx4 : xs (i6 + 4) = X4)
    (hC : ∀ sz, Met l yL_exchange wsL_exchange rm (zMH G cy wd fo s.heap.size [.ref (a 0), .int X1, .int X2, .int X3, .int X4, .ref o9] sz wc) (va_Qi pC (fun u t9 => zB G cy (va_A wc sz) (w1 u) t9) (va_A wc sz)) mc ms (va_A wc sz))
    (hrm : (rm.cells = mc ∧ rm.slots = ms) ∧ rm.frames + 1 ≤ room_1.frames ∧ 8 + (7 + 11) + rm.locals ≤ room_1.locals) (hpC : ∀ r u, pC r u → r = nI k)
    (hR : ∀ sz, Met l yX11_exchange wsX11_exchange rm2 (zM G cy [.ref h, .int X1, .int X2, .int X3, .int X4] sz wr) (va_Qi pR (fun u t9 => zB G cy (va_A wr sz) (w2 u) t9) (va_A wr sz)) 0 0 (va_A wr sz))
    (hrm2 : (rm2.cells = 0 ∧ rm2.slots = 0) ∧ rm2.frames + 1 ≤ room_1.frames ∧ 8 + (8 + 11) + rm2.locals ≤ room_1.locals) (hpR : ∀ r u, pR r u → r = rv)
    (hm0 : wr[0]? = some (h, .inr (12, fs9))) (hm1 : ∀ u, (w2 u)[0]? = some (zMo h b T2 np2 (nI k))) (hk : k < 8) (hmc : mc ≤ 20 ∧ ms ≤ 5100)
    (hv : k = 0 → v = rv.toInt64) (ho : k = 0 → ∀ u, ∃ f, (w1 u)[qo]? = some (zL cy o9 1 f) ∧ f 0 = v)
    (hP : va_P G vwCl (wc ++ (wr ++ tl)) H) (hD : va_D (fun q : Nat => s.heap.size ≤ q) (wc ++ (wr ++ tl))) (hS : va_S (fun q : Nat => s.heap.size ≤ q) s.heap H locs) (hroom : cells + 20 ≤ room_1.cells ∧ slots + 5100 ≤ room_1.slots)
    (kk : ∀ (u : S) (u2 : S2) (H2 : Heap) (locs2 : List Loc) (ls2 : Array Slot), va_P G vwCl (w2 u2 ++ (w1 u ++ tl)) H2 → va_D (fun q : Nat => s.heap.size ≤ q) (w2 u2 ++ (w1 u ++ tl)) → va_S (fun q : Nat => s.heap.size ≤ q) s.heap H2 locs2 → lv_has ls2 8 [(4, .int (nI i6)), (0, .ref b9), (1, .ref (a 0)), (2, .ref h), (3, .ref o9)] → W p l e room_1 s m args below meth c H2 locs2 (cells + 20) (slots + 5100) Q (F0 m 1569 ls2 []))
    (hl : lv_has ls 8 [(4, .int (nI i6)), (0, .ref b9), (1, .ref (a 0)), (2, .ref h), (3, .ref o9)]) :
    W p l e room_1 s m args below meth c H locs cells slots Q (F0 m 504 ls []) := by
  obtain ⟨hx, hb, hml, hown, hts, hX, hbl, hL, hl9, hK, hWd, hE⟩ := F
  have hbA : ¬ (fun q : Nat => s.heap.size ≤ q) b9 := Nat.not_le.mpr hbl
  have hA : ∀ q : Nat, s.heap.size ≤ q → (fun q : Nat => s.heap.size ≤ q) q := fun _ q => q
  obtain ⟨⟨hr1, hr2⟩, hr3, hr4⟩ := hrm
  obtain ⟨⟨hg1, hg2⟩, hg3, hg4⟩ := hrm2
  refine lv_aload_n hx hb dL_law_504 rfl (lv_at hl 2 rfl) ?_
  refine lv_aload_n hx hb dL_law_505 rfl (lv_at hl 1 rfl) ?_
  refine lv_iload hx hb dL_law_506 (lv_at hl 0 rfl) ?_
  refine lv_iconst (v := nI 1) hx hb dL_law_508 (by decide) ?_
  refine z_iadd hx hb dL_law_509 ?_
  refine va_sld hx hb hX hbl hbA hS (vp_in_nI (by omega) (by omega)) dL_law_510 ?_
  rw [nI_clamp (by omega), hx1]
  refine lv_aload_n hx hb dL_law_511 rfl (lv_at hl 1 rfl) ?_
  refine lv_iload hx hb dL_law_512 (lv_at hl 0 rfl) ?_
  refine lv_iconst (v := nI 2) hx hb dL_law_514 (by decide) ?_
  refine z_iadd hx hb dL_law_515 ?_
  refine va_sld hx hb hX hbl hbA hS (vp_in_nI (by omega) (by omega)) dL_law_516 ?_
  rw [nI_clamp (by omega), hx2]
  refine lv_aload_n hx hb dL_law_517 rfl (lv_at hl 1 rfl) ?_
  refine lv_iload hx hb dL_law_518 (lv_at hl 0 rfl) ?_
  refine lv_iconst (v := nI 3) hx hb dL_law_520 (by decide) ?_
  refine z_iadd hx hb dL_law_521 ?_
  refine va_sld hx hb hX hbl hbA hS (vp_in_nI (by omega) (by omega)) dL_law_522 ?_
  rw [nI_clamp (by omega), hx3]
  refine lv_aload_n hx hb dL_law_523 rfl (lv_at hl 1 rfl) ?_
  refine lv_iload hx hb dL_law_524 (lv_at hl 0 rfl) ?_
  refine lv_iconst (v := nI 4) hx hb dL_law_526 (by decide) ?_
  refine z_iadd hx hb dL_law_527 ?_
  refine va_sld hx hb hX hbl hbA hS (vp_in_nI (by omega) (by omega)) dL_law_528 ?_
  rw [nI_clamp (by omega), hx4]
  refine lv_aload_n hx hb dL_law_529 rfl (lv_at hl 4 rfl) ?_
  refine z_ciP (wc := wc) (wr := wr ++ tl) (vx_runSW (As := [.ref (a 0), .int X1, .int X2, .int X3, .int X4, .ref o9]) (rest := []) ⟨hx, hb, hml, hown, hwL_exchange hts⟩ (hC H.size) (vx_cwSW 6 (hwL_exchange hts) giL_exchange rfl hr1 hr2 (by decide +kernel) ⟨hr3, hr4⟩) (z_pHP hK hP hD hS (Nat.le_refl _) (fun _ q => q) hWd hE) rfl rfl hl.1 rfl (lv_room (Nat.le_of_ble_eq_true rfl)) dL_law_530 ⟨by omega, by omega⟩) hP hD hS hA (fun r u H1 locs1 hr hP1 hD1 hS1 hz => ?_)
  obtain rfl : r = nI k := hpC r u hr
  refine lv_istore (lv' := [(5, .int (nI k)), (4, .int (nI i6)), (0, .ref b9), (1, .ref (a 0)), (2, .ref h), (3, .ref o9)]) hx hb dL_law_533 hl (by decide) rfl (fun ls hl => ?_)
  refine lv_aload_n hx hb dL_law_535 rfl (lv_at hl 4 rfl) ?_
  refine lv_aload_n hx hb dL_law_536 rfl (lv_at hl 2 rfl) ?_
  refine lv_iload hx hb dL_law_537 (lv_at hl 1 rfl) ?_
  refine lv_iconst (v := nI 1) hx hb dL_law_539 (by decide) ?_
  refine z_iadd hx hb dL_law_540 ?_
  refine va_sld hx hb hX hbl hbA hS1 (vp_in_nI (by omega) (by omega)) dL_law_541 ?_
  rw [nI_clamp (by omega), hx1]
  refine lv_aload_n hx hb dL_law_542 rfl (lv_at hl 2 rfl) ?_
  refine lv_iload hx hb dL_law_543 (lv_at hl 1 rfl) ?_
  refine lv_iconst (v := nI 2) hx hb dL_law_545 (by decide) ?_
  refine z_iadd hx hb dL_law_546 ?_
  refine va_sld hx hb hX hbl hbA hS1 (vp_in_nI (by omega) (by omega)) dL_law_547 ?_
  rw [nI_clamp (by omega), hx2]
  refine lv_aload_n hx hb dL_law_548 rfl (lv_at hl 2 rfl) ?_
  refine lv_iload hx hb dL_law_549 (lv_at hl 1 rfl) ?_
  refine lv_iconst (v := nI 3) hx hb dL_law_551 (by decide) ?_
  refine z_iadd hx hb dL_law_552 ?_
  refine va_sld hx hb hX hbl hbA hS1 (vp_in_nI (by omega) (by omega)) dL_law_553 ?_
  rw [nI_clamp (by omega), hx3]
  refine lv_aload_n hx hb dL_law_554 rfl (lv_at hl 2 rfl) ?_
  refine lv_iload hx hb dL_law_555 (lv_at hl 1 rfl) ?_
  refine lv_iconst (v := nI 4) hx hb dL_law_557 (by decide) ?_
  refine z_iadd hx hb dL_law_558 ?_
  refine va_sld hx hb hX hbl hbA hS1 (vp_in_nI (by omega) (by omega)) dL_law_559 ?_
  rw [nI_clamp (by omega), hx4]
  have hP2 : va_P G vwCl (wr ++ (w1 u ++ tl)) H1 := z_P_perm z_rot hP1
  have hD2 : va_D (fun q : Nat => s.heap.size ≤ q) (wr ++ (w1 u ++ tl)) := z_D_perm z_rot hD1
  refine z_ciP (wc := wr) (wr := w1 u ++ tl) (va_runV (As := [.int X1, .int X2, .int X3, .int X4]) (rest := []) ⟨hx, hb, hml, hown, hwX_exchange hts⟩ (hR H1.size) (cwV 4 (hwX_exchange hts) giX_exchange rfl hg1 hg2 (by decide +kernel) ⟨hg3, hg4⟩) (z_pVP (ci := 12) hK hP2 hD2 rfl rfl 0 hm0) rfl rfl hl.1 rfl (lv_room (Nat.le_of_ble_eq_true rfl)) dL_law_560 ⟨by omega, by omega⟩) hP2 hD2 hS1 hA (fun r2 u2 H2 locs2 hr2b hP3 hD3 hS3 hz2 => ?_)
  obtain rfl : r2 = rv := hpR r2 u2 hr2b
  refine lv_istore (lv' := [(6, .int r2), (5, .int (nI k)), (4, .int (nI i6)), (0, .ref b9), (1, .ref (a 0)), (2, .ref h), (3, .ref o9)]) hx hb dL_law_563 hl (by decide) rfl (fun ls hl => ?_)
  refine lv_aload_n hx hb dL_law_565 rfl (lv_at hl 5 rfl) ?_
  have hm2 := z_ap0 (b := w1 u ++ tl) (hm1 u2)
  refine vp_callSi (va_runV (As := []) (rest := []) ⟨hx, hb, hml, hown, hwX_thrown hts⟩ (c_X11_thrown l G cy h b T2 np2 (nI k)) (cwV 0 (hwX_thrown hts) giX_thrown rfl rfl rfl (by decide +kernel) ⟨Nat.le_of_ble_eq_true rfl, Nat.le_of_ble_eq_true rfl⟩) (z_pV (wc := [zMo h b T2 np2 (nI k)]) hK hP3 [0] (z_fm1 hm2) (ci := 12) (q0 := 0) rfl rfl rfl) rfl rfl hl.1 rfl (lv_room (Nat.le_of_ble_eq_true rfl)) dL_law_566 ⟨by omega, by omega⟩).run (fun r3 hr3 => ?_)
  obtain rfl : r3 = nI k := hr3
  refine lv_iload hx hb dL_law_569 (lv_at hl 1 rfl) ?_
  refine lv_icmp_eq (tgt := 576) hx hb dL_law_571 (by decide) (fun _ => ?_) (fun q => absurd rfl q)
  refine lv_iload hx hb dL_law_576 (lv_at hl 1 rfl) ?_
  refine z_if_ne (tgt := 593) hx hb (by omega) dL_law_578 (by decide) (fun _ => ?_) (fun hk0 => ?_)
  · refine lv_goto (tgt := 1569) hx hb dL_law_593 (by decide) ?_
    exact W.widen (k := cells + 20) (n := slots + 5100) (by omega) (by omega) (kk u u2 H2 locs2 _ hP3 hD3 hS3 (lv_sub hl [2, 3, 4, 5, 6] rfl))
  · obtain ⟨f9, hf1, hf2⟩ := ho hk0 u
    obtain ⟨q0, hq0⟩ := z_memi (List.mem_append_right (w2 u2) (List.mem_append_left tl (List.mem_of_getElem? hf1)))
    refine lv_aload_n hx hb dL_law_581 rfl (lv_at hl 6 rfl) ?_
    refine lv_iconst (v := nI 0) hx hb dL_law_582 (by decide) ?_
    refine z_lald (G := G) (v := v) hx hb hK hP3 q0 hq0 (by omega) hf2 dL_law_583 ?_
    refine lv_iload hx hb dL_law_584 (lv_at hl 0 rfl) ?_
    refine lv_i2l (v := r2.toInt64) hx hb dL_law_586 rfl ?_
    refine z_lc_eq (tgt := 593) hx hb dL_law_587 dL_law_588 (by decide) (fun _ => ?_) (fun q => absurd (hv hk0) q)
    refine lv_goto (tgt := 1569) hx hb dL_law_593 (by decide) ?_
    exact W.widen (k := cells + 20) (n := slots + 5100) (by omega) (by omega) (kk u u2 H2 locs2 _ hP3 hD3 hS3 (lv_sub hl [2, 3, 4, 5, 6] rfl))
set_option maxHeartbeats 4000000 in
theorem lo_change {S S2 : Type} {rm rm2 : Room} {mc ms k T2 np2 : Nat} {v : Int64} {rv : Int32} {X1 X2 X3 : Int32} {wc wr tl : va_W} {w1 : S → va_W} {w2 : S2 → va_W} {pC : Int32 → S → Prop} {pR : Int32 → S2 → Prop} {qo : Nat} {fs9 : List Value}
    (F : zFix p l s m args c b9 L xs G cy wd fo) (hi : i6 + 5 < L) (hx1 : xs (i6 + 1) = X1) (hx2 : xs (i6 + 2) = X2) (hx3 : xs (i6 + 3) = X3)
    (hC : ∀ sz, Met l yL_change wsL_change rm (zMH G cy wd fo s.heap.size [.ref (a 0), .int X1, .int X2, .int X3, .ref o9] sz wc) (va_Qi pC (fun u t9 => zB G cy (va_A wc sz) (w1 u) t9) (va_A wc sz)) mc ms (va_A wc sz))
    (hrm : (rm.cells = mc ∧ rm.slots = ms) ∧ rm.frames + 1 ≤ room_1.frames ∧ 8 + (6 + 11) + rm.locals ≤ room_1.locals) (hpC : ∀ r u, pC r u → r = nI k)
    (hR : ∀ sz, Met l yX11_change wsX11_change rm2 (zM G cy [.ref h, .int X1, .int X2, .int X3] sz wr) (va_Qi pR (fun u t9 => zB G cy (va_A wr sz) (w2 u) t9) (va_A wr sz)) 0 0 (va_A wr sz))
    (hrm2 : (rm2.cells = 0 ∧ rm2.slots = 0) ∧ rm2.frames + 1 ≤ room_1.frames ∧ 8 + (6 + 11) + rm2.locals ≤ room_1.locals) (hpR : ∀ r u, pR r u → r = rv)
    (hm0 : wr[0]? = some (h, .inr (12, fs9))) (hm1 : ∀ u, (w2 u)[0]? = some (zMo h b T2 np2 (nI k))) (hk : k < 8) (hmc : mc ≤ 20 ∧ ms ≤ 5100)
    (hv : k = 0 → v = rv.toInt64) (ho : k = 0 → ∀ u, ∃ f, (w1 u)[qo]? = some (zL cy o9 1 f) ∧ f 0 = v)
    (hP : va_P G vwCl (wc ++ (wr ++ tl)) H) (hD : va_D (fun q : Nat => s.heap.size ≤ q) (wc ++ (wr ++ tl))) (hS : va_S (fun q : Nat => s.heap.size ≤ q) s.heap H locs) (hroom : cells + 20 ≤ room_1.cells ∧ slots + 5100 ≤ room_1.slots)
    (kk : ∀ (u : S) (u2 : S2) (H2 : Heap) (locs2 : List Loc) (ls2 : Array Slot), va_P G vwCl (w2 u2 ++ (w1 u ++ tl)) H2 → va_D (fun q : Nat => s.heap.size ≤ q) (w2 u2 ++ (w1 u ++ tl)) → va_S (fun q : Nat => s.heap.size ≤ q) s.heap H2 locs2 → lv_has ls2 8 [(4, .int (nI i6)), (0, .ref b9), (1, .ref (a 0)), (2, .ref h), (3, .ref o9)] → W p l e room_1 s m args below meth c H2 locs2 (cells + 20) (slots + 5100) Q (F0 m 1569 ls2 []))
    (hl : lv_has ls 8 [(4, .int (nI i6)), (0, .ref b9), (1, .ref (a 0)), (2, .ref h), (3, .ref o9)]) :
    W p l e room_1 s m args below meth c H locs cells slots Q (F0 m 596 ls []) := by
  obtain ⟨hx, hb, hml, hown, hts, hX, hbl, hL, hl9, hK, hWd, hE⟩ := F
  have hbA : ¬ (fun q : Nat => s.heap.size ≤ q) b9 := Nat.not_le.mpr hbl
  have hA : ∀ q : Nat, s.heap.size ≤ q → (fun q : Nat => s.heap.size ≤ q) q := fun _ q => q
  obtain ⟨⟨hr1, hr2⟩, hr3, hr4⟩ := hrm
  obtain ⟨⟨hg1, hg2⟩, hg3, hg4⟩ := hrm2
  refine lv_aload_n hx hb dL_law_596 rfl (lv_at hl 2 rfl) ?_
  refine lv_aload_n hx hb dL_law_597 rfl (lv_at hl 1 rfl) ?_
  refine lv_iload hx hb dL_law_598 (lv_at hl 0 rfl) ?_
  refine lv_iconst (v := nI 1) hx hb dL_law_600 (by decide) ?_
  refine z_iadd hx hb dL_law_601 ?_
  refine va_sld hx hb hX hbl hbA hS (vp_in_nI (by omega) (by omega)) dL_law_602 ?_
  rw [nI_clamp (by omega), hx1]
  refine lv_aload_n hx hb dL_law_603 rfl (lv_at hl 1 rfl) ?_
  refine lv_iload hx hb dL_law_604 (lv_at hl 0 rfl) ?_
  refine lv_iconst (v := nI 2) hx hb dL_law_606 (by decide) ?_
  refine z_iadd hx hb dL_law_607 ?_
  refine va_sld hx hb hX hbl hbA hS (vp_in_nI (by omega) (by omega)) dL_law_608 ?_
  rw [nI_clamp (by omega), hx2]
  refine lv_aload_n hx hb dL_law_609 rfl (lv_at hl 1 rfl) ?_
  refine lv_iload hx hb dL_law_610 (lv_at hl 0 rfl) ?_
  refine lv_iconst (v := nI 3) hx hb dL_law_612 (by decide) ?_
  refine z_iadd hx hb dL_law_613 ?_
  refine va_sld hx hb hX hbl hbA hS (vp_in_nI (by omega) (by omega)) dL_law_614 ?_
  rw [nI_clamp (by omega), hx3]
  refine lv_aload_n hx hb dL_law_615 rfl (lv_at hl 4 rfl) ?_
  refine z_ciP (wc := wc) (wr := wr ++ tl) (vx_runSW (As := [.ref (a 0), .int X1, .int X2, .int X3, .ref o9]) (rest := []) ⟨hx, hb, hml, hown, hwL_change hts⟩ (hC H.size) (vx_cwSW 5 (hwL_change hts) giL_change rfl hr1 hr2 (by decide +kernel) ⟨hr3, hr4⟩) (z_pHP hK hP hD hS (Nat.le_refl _) (fun _ q => q) hWd hE) rfl rfl hl.1 rfl (lv_room (Nat.le_of_ble_eq_true rfl)) dL_law_616 ⟨by omega, by omega⟩) hP hD hS hA (fun r u H1 locs1 hr hP1 hD1 hS1 hz => ?_)
  obtain rfl : r = nI k := hpC r u hr
  refine lv_istore (lv' := [(5, .int (nI k)), (4, .int (nI i6)), (0, .ref b9), (1, .ref (a 0)), (2, .ref h), (3, .ref o9)]) hx hb dL_law_619 hl (by decide) rfl (fun ls hl => ?_)
  refine lv_aload_n hx hb dL_law_621 rfl (lv_at hl 4 rfl) ?_
  refine lv_aload_n hx hb dL_law_622 rfl (lv_at hl 2 rfl) ?_
  refine lv_iload hx hb dL_law_623 (lv_at hl 1 rfl) ?_
  refine lv_iconst (v := nI 1) hx hb dL_law_625 (by decide) ?_
  refine z_iadd hx hb dL_law_626 ?_
  refine va_sld hx hb hX hbl hbA hS1 (vp_in_nI (by omega) (by omega)) dL_law_627 ?_
  rw [nI_clamp (by omega), hx1]
  refine lv_aload_n hx hb dL_law_628 rfl (lv_at hl 2 rfl) ?_
  refine lv_iload hx hb dL_law_629 (lv_at hl 1 rfl) ?_
  refine lv_iconst (v := nI 2) hx hb dL_law_631 (by decide) ?_
  refine z_iadd hx hb dL_law_632 ?_
  refine va_sld hx hb hX hbl hbA hS1 (vp_in_nI (by omega) (by omega)) dL_law_633 ?_
  rw [nI_clamp (by omega), hx2]
  refine lv_aload_n hx hb dL_law_634 rfl (lv_at hl 2 rfl) ?_
  refine lv_iload hx hb dL_law_635 (lv_at hl 1 rfl) ?_
  refine lv_iconst (v := nI 3) hx hb dL_law_637 (by decide) ?_
  refine z_iadd hx hb dL_law_638 ?_
  refine va_sld hx hb hX hbl hbA hS1 (vp_in_nI (by omega) (by omega)) dL_law_639 ?_
  rw [nI_clamp (by omega), hx3]
  have hP2 : va_P G vwCl (wr ++ (w1 u ++ tl)) H1 := z_P_perm z_rot hP1
  have hD2 : va_D (fun q : Nat => s.heap.size ≤ q) (wr ++ (w1 u ++ tl)) := z_D_perm z_rot hD1
  refine z_ciP (wc := wr) (wr := w1 u ++ tl) (va_runV (As := [.int X1, .int X2, .int X3]) (rest := []) ⟨hx, hb, hml, hown, hwX_change hts⟩ (hR H1.size) (cwV 3 (hwX_change hts) giX_change rfl hg1 hg2 (by decide +kernel) ⟨hg3, hg4⟩) (z_pVP (ci := 12) hK hP2 hD2 rfl rfl 0 hm0) rfl rfl hl.1 rfl (lv_room (Nat.le_of_ble_eq_true rfl)) dL_law_640 ⟨by omega, by omega⟩) hP2 hD2 hS1 hA (fun r2 u2 H2 locs2 hr2b hP3 hD3 hS3 hz2 => ?_)
  obtain rfl : r2 = rv := hpR r2 u2 hr2b
  refine lv_istore (lv' := [(6, .int r2), (5, .int (nI k)), (4, .int (nI i6)), (0, .ref b9), (1, .ref (a 0)), (2, .ref h), (3, .ref o9)]) hx hb dL_law_643 hl (by decide) rfl (fun ls hl => ?_)
  refine lv_aload_n hx hb dL_law_645 rfl (lv_at hl 5 rfl) ?_
  have hm2 := z_ap0 (b := w1 u ++ tl) (hm1 u2)
  refine vp_callSi (va_runV (As := []) (rest := []) ⟨hx, hb, hml, hown, hwX_thrown hts⟩ (c_X11_thrown l G cy h b T2 np2 (nI k)) (cwV 0 (hwX_thrown hts) giX_thrown rfl rfl rfl (by decide +kernel) ⟨Nat.le_of_ble_eq_true rfl, Nat.le_of_ble_eq_true rfl⟩) (z_pV (wc := [zMo h b T2 np2 (nI k)]) hK hP3 [0] (z_fm1 hm2) (ci := 12) (q0 := 0) rfl rfl rfl) rfl rfl hl.1 rfl (lv_room (Nat.le_of_ble_eq_true rfl)) dL_law_646 ⟨by omega, by omega⟩).run (fun r3 hr3 => ?_)
  obtain rfl : r3 = nI k := hr3
  refine lv_iload hx hb dL_law_649 (lv_at hl 1 rfl) ?_
  refine lv_icmp_eq (tgt := 656) hx hb dL_law_651 (by decide) (fun _ => ?_) (fun q => absurd rfl q)
  refine lv_iload hx hb dL_law_656 (lv_at hl 1 rfl) ?_
  refine z_if_ne (tgt := 673) hx hb (by omega) dL_law_658 (by decide) (fun _ => ?_) (fun hk0 => ?_)
  · refine lv_goto (tgt := 1569) hx hb dL_law_673 (by decide) ?_
    exact W.widen (k := cells + 20) (n := slots + 5100) (by omega) (by omega) (kk u u2 H2 locs2 _ hP3 hD3 hS3 (lv_sub hl [2, 3, 4, 5, 6] rfl))
  · obtain ⟨f9, hf1, hf2⟩ := ho hk0 u
    obtain ⟨q0, hq0⟩ := z_memi (List.mem_append_right (w2 u2) (List.mem_append_left tl (List.mem_of_getElem? hf1)))
    refine lv_aload_n hx hb dL_law_661 rfl (lv_at hl 6 rfl) ?_
    refine lv_iconst (v := nI 0) hx hb dL_law_662 (by decide) ?_
    refine z_lald (G := G) (v := v) hx hb hK hP3 q0 hq0 (by omega) hf2 dL_law_663 ?_
    refine lv_iload hx hb dL_law_664 (lv_at hl 0 rfl) ?_
    refine lv_i2l (v := r2.toInt64) hx hb dL_law_666 rfl ?_
    refine z_lc_eq (tgt := 673) hx hb dL_law_667 dL_law_668 (by decide) (fun _ => ?_) (fun q => absurd (hv hk0) q)
    refine lv_goto (tgt := 1569) hx hb dL_law_673 (by decide) ?_
    exact W.widen (k := cells + 20) (n := slots + 5100) (by omega) (by omega) (kk u u2 H2 locs2 _ hP3 hD3 hS3 (lv_sub hl [2, 3, 4, 5, 6] rfl))
set_option maxHeartbeats 4000000 in
theorem lo_object {S S2 : Type} {rm rm2 : Room} {mc ms k T2 np2 : Nat} {v : Int64} {rv : Int32} {X1 : Int32} {wc wr tl : va_W} {w1 : S → va_W} {w2 : S2 → va_W} {pC : Int32 → S → Prop} {pR : Int32 → S2 → Prop} {qo : Nat} {fs9 : List Value}
    (F : zFix p l s m args c b9 L xs G cy wd fo) (hi : i6 + 5 < L) (hx1 : xs (i6 + 1) = X1)
    (hC : ∀ sz, Met l yL_object wsL_object rm (zMH G cy wd fo s.heap.size [.ref (a 0), .int X1, .ref o9] sz wc) (va_Qi pC (fun u t9 => zB G cy (va_A wc sz) (w1 u) t9) (va_A wc sz)) mc ms (va_A wc sz))
    (hrm : (rm.cells = mc ∧ rm.slots = ms) ∧ rm.frames + 1 ≤ room_1.frames ∧ 8 + (4 + 11) + rm.locals ≤ room_1.locals) (hpC : ∀ r u, pC r u → r = nI k)
    (hR : ∀ sz, Met l yX11_object wsX11_object rm2 (zM G cy [.ref h, .int X1] sz wr) (va_Qi pR (fun u t9 => zB G cy (va_A wr sz) (w2 u) t9) (va_A wr sz)) 0 0 (va_A wr sz))
    (hrm2 : (rm2.cells = 0 ∧ rm2.slots = 0) ∧ rm2.frames + 1 ≤ room_1.frames ∧ 8 + (4 + 11) + rm2.locals ≤ room_1.locals) (hpR : ∀ r u, pR r u → r = rv)
    (hm0 : wr[0]? = some (h, .inr (12, fs9))) (hm1 : ∀ u, (w2 u)[0]? = some (zMo h b T2 np2 (nI k))) (hk : k < 8) (hmc : mc ≤ 20 ∧ ms ≤ 5100)
    (hv : k = 0 → v = rv.toInt64) (ho : k = 0 → ∀ u, ∃ f, (w1 u)[qo]? = some (zL cy o9 1 f) ∧ f 0 = v)
    (hP : va_P G vwCl (wc ++ (wr ++ tl)) H) (hD : va_D (fun q : Nat => s.heap.size ≤ q) (wc ++ (wr ++ tl))) (hS : va_S (fun q : Nat => s.heap.size ≤ q) s.heap H locs) (hroom : cells + 20 ≤ room_1.cells ∧ slots + 5100 ≤ room_1.slots)
    (kk : ∀ (u : S) (u2 : S2) (H2 : Heap) (locs2 : List Loc) (ls2 : Array Slot), va_P G vwCl (w2 u2 ++ (w1 u ++ tl)) H2 → va_D (fun q : Nat => s.heap.size ≤ q) (w2 u2 ++ (w1 u ++ tl)) → va_S (fun q : Nat => s.heap.size ≤ q) s.heap H2 locs2 → lv_has ls2 8 [(4, .int (nI i6)), (0, .ref b9), (1, .ref (a 0)), (2, .ref h), (3, .ref o9)] → W p l e room_1 s m args below meth c H2 locs2 (cells + 20) (slots + 5100) Q (F0 m 1569 ls2 []))
    (hl : lv_has ls 8 [(4, .int (nI i6)), (0, .ref b9), (1, .ref (a 0)), (2, .ref h), (3, .ref o9)]) :
    W p l e room_1 s m args below meth c H locs cells slots Q (F0 m 676 ls []) := by
  obtain ⟨hx, hb, hml, hown, hts, hX, hbl, hL, hl9, hK, hWd, hE⟩ := F
  have hbA : ¬ (fun q : Nat => s.heap.size ≤ q) b9 := Nat.not_le.mpr hbl
  have hA : ∀ q : Nat, s.heap.size ≤ q → (fun q : Nat => s.heap.size ≤ q) q := fun _ q => q
  obtain ⟨⟨hr1, hr2⟩, hr3, hr4⟩ := hrm
  obtain ⟨⟨hg1, hg2⟩, hg3, hg4⟩ := hrm2
  refine lv_aload_n hx hb dL_law_676 rfl (lv_at hl 2 rfl) ?_
  refine lv_aload_n hx hb dL_law_677 rfl (lv_at hl 1 rfl) ?_
  refine lv_iload hx hb dL_law_678 (lv_at hl 0 rfl) ?_
  refine lv_iconst (v := nI 1) hx hb dL_law_680 (by decide) ?_
  refine z_iadd hx hb dL_law_681 ?_
  refine va_sld hx hb hX hbl hbA hS (vp_in_nI (by omega) (by omega)) dL_law_682 ?_
  rw [nI_clamp (by omega), hx1]
  refine lv_aload_n hx hb dL_law_683 rfl (lv_at hl 4 rfl) ?_
  refine z_ciP (wc := wc) (wr := wr ++ tl) (vx_runSW (As := [.ref (a 0), .int X1, .ref o9]) (rest := []) ⟨hx, hb, hml, hown, hwL_object hts⟩ (hC H.size) (vx_cwSW 3 (hwL_object hts) giL_object rfl hr1 hr2 (by decide +kernel) ⟨hr3, hr4⟩) (z_pHP hK hP hD hS (Nat.le_refl _) (fun _ q => q) hWd hE) rfl rfl hl.1 rfl (lv_room (Nat.le_of_ble_eq_true rfl)) dL_law_684 ⟨by omega, by omega⟩) hP hD hS hA (fun r u H1 locs1 hr hP1 hD1 hS1 hz => ?_)
  obtain rfl : r = nI k := hpC r u hr
  refine lv_istore (lv' := [(5, .int (nI k)), (4, .int (nI i6)), (0, .ref b9), (1, .ref (a 0)), (2, .ref h), (3, .ref o9)]) hx hb dL_law_687 hl (by decide) rfl (fun ls hl => ?_)
  refine lv_aload_n hx hb dL_law_689 rfl (lv_at hl 4 rfl) ?_
  refine lv_aload_n hx hb dL_law_690 rfl (lv_at hl 2 rfl) ?_
  refine lv_iload hx hb dL_law_691 (lv_at hl 1 rfl) ?_
  refine lv_iconst (v := nI 1) hx hb dL_law_693 (by decide) ?_
  refine z_iadd hx hb dL_law_694 ?_
  refine va_sld hx hb hX hbl hbA hS1 (vp_in_nI (by omega) (by omega)) dL_law_695 ?_
  rw [nI_clamp (by omega), hx1]
  have hP2 : va_P G vwCl (wr ++ (w1 u ++ tl)) H1 := z_P_perm z_rot hP1
  have hD2 : va_D (fun q : Nat => s.heap.size ≤ q) (wr ++ (w1 u ++ tl)) := z_D_perm z_rot hD1
  refine z_ciP (wc := wr) (wr := w1 u ++ tl) (va_runV (As := [.int X1]) (rest := []) ⟨hx, hb, hml, hown, hwX_object hts⟩ (hR H1.size) (cwV 1 (hwX_object hts) giX_object rfl hg1 hg2 (by decide +kernel) ⟨hg3, hg4⟩) (z_pVP (ci := 12) hK hP2 hD2 rfl rfl 0 hm0) rfl rfl hl.1 rfl (lv_room (Nat.le_of_ble_eq_true rfl)) dL_law_696 ⟨by omega, by omega⟩) hP2 hD2 hS1 hA (fun r2 u2 H2 locs2 hr2b hP3 hD3 hS3 hz2 => ?_)
  obtain rfl : r2 = rv := hpR r2 u2 hr2b
  refine lv_istore (lv' := [(6, .int r2), (5, .int (nI k)), (4, .int (nI i6)), (0, .ref b9), (1, .ref (a 0)), (2, .ref h), (3, .ref o9)]) hx hb dL_law_699 hl (by decide) rfl (fun ls hl => ?_)
  refine lv_aload_n hx hb dL_law_701 rfl (lv_at hl 5 rfl) ?_
  have hm2 := z_ap0 (b := w1 u ++ tl) (hm1 u2)
  refine vp_callSi (va_runV (As := []) (rest := []) ⟨hx, hb, hml, hown, hwX_thrown hts⟩ (c_X11_thrown l G cy h b T2 np2 (nI k)) (cwV 0 (hwX_thrown hts) giX_thrown rfl rfl rfl (by decide +kernel) ⟨Nat.le_of_ble_eq_true rfl, Nat.le_of_ble_eq_true rfl⟩) (z_pV (wc := [zMo h b T2 np2 (nI k)]) hK hP3 [0] (z_fm1 hm2) (ci := 12) (q0 := 0) rfl rfl rfl) rfl rfl hl.1 rfl (lv_room (Nat.le_of_ble_eq_true rfl)) dL_law_702 ⟨by omega, by omega⟩).run (fun r3 hr3 => ?_)
  obtain rfl : r3 = nI k := hr3
  refine lv_iload hx hb dL_law_705 (lv_at hl 1 rfl) ?_
  refine lv_icmp_eq (tgt := 712) hx hb dL_law_707 (by decide) (fun _ => ?_) (fun q => absurd rfl q)
  refine lv_iload hx hb dL_law_712 (lv_at hl 1 rfl) ?_
  refine z_if_ne (tgt := 729) hx hb (by omega) dL_law_714 (by decide) (fun _ => ?_) (fun hk0 => ?_)
  · refine lv_goto (tgt := 1569) hx hb dL_law_729 (by decide) ?_
    exact W.widen (k := cells + 20) (n := slots + 5100) (by omega) (by omega) (kk u u2 H2 locs2 _ hP3 hD3 hS3 (lv_sub hl [2, 3, 4, 5, 6] rfl))
  · obtain ⟨f9, hf1, hf2⟩ := ho hk0 u
    obtain ⟨q0, hq0⟩ := z_memi (List.mem_append_right (w2 u2) (List.mem_append_left tl (List.mem_of_getElem? hf1)))
    refine lv_aload_n hx hb dL_law_717 rfl (lv_at hl 6 rfl) ?_
    refine lv_iconst (v := nI 0) hx hb dL_law_718 (by decide) ?_
    refine z_lald (G := G) (v := v) hx hb hK hP3 q0 hq0 (by omega) hf2 dL_law_719 ?_
    refine lv_iload hx hb dL_law_720 (lv_at hl 0 rfl) ?_
    refine lv_i2l (v := r2.toInt64) hx hb dL_law_722 rfl ?_
    refine z_lc_eq (tgt := 729) hx hb dL_law_723 dL_law_724 (by decide) (fun _ => ?_) (fun q => absurd (hv hk0) q)
    refine lv_goto (tgt := 1569) hx hb dL_law_729 (by decide) ?_
    exact W.widen (k := cells + 20) (n := slots + 5100) (by omega) (by omega) (kk u u2 H2 locs2 _ hP3 hD3 hS3 (lv_sub hl [2, 3, 4, 5, 6] rfl))
set_option maxHeartbeats 4000000 in
theorem lo_reverse {S S2 : Type} {rm rm2 : Room} {mc ms k T2 np2 : Nat} {v : Int64} {rv : Int32} {X1 : Int32} {wc wr tl : va_W} {w1 : S → va_W} {w2 : S2 → va_W} {pC : Int32 → S → Prop} {pR : Int32 → S2 → Prop} {qo : Nat} {fs9 : List Value}
    (F : zFix p l s m args c b9 L xs G cy wd fo) (hi : i6 + 5 < L) (hx1 : xs (i6 + 1) = X1)
    (hC : ∀ sz, Met l yL_reverse wsL_reverse rm (zMH G cy wd fo s.heap.size [.ref (a 0), .int X1, .ref o9] sz wc) (va_Qi pC (fun u t9 => zB G cy (va_A wc sz) (w1 u) t9) (va_A wc sz)) mc ms (va_A wc sz))
    (hrm : (rm.cells = mc ∧ rm.slots = ms) ∧ rm.frames + 1 ≤ room_1.frames ∧ 8 + (4 + 11) + rm.locals ≤ room_1.locals) (hpC : ∀ r u, pC r u → r = nI k)
    (hR : ∀ sz, Met l yX11_reverse wsX11_reverse rm2 (zM G cy [.ref h, .int X1] sz wr) (va_Qi pR (fun u t9 => zB G cy (va_A wr sz) (w2 u) t9) (va_A wr sz)) 0 0 (va_A wr sz))
    (hrm2 : (rm2.cells = 0 ∧ rm2.slots = 0) ∧ rm2.frames + 1 ≤ room_1.frames ∧ 8 + (5 + 11) + rm2.locals ≤ room_1.locals) (hpR : ∀ r u, pR r u → r = rv)
    (hm0 : wr[0]? = some (h, .inr (12, fs9))) (hm1 : ∀ u, (w2 u)[0]? = some (zMo h b T2 np2 (nI k))) (hk : k < 8) (hmc : mc ≤ 20 ∧ ms ≤ 5100)
    (hv : k = 0 → v = rv.toInt64) (ho : k = 0 → ∀ u, ∃ f, (w1 u)[qo]? = some (zL cy o9 1 f) ∧ f 0 = v)
    (hP : va_P G vwCl (wc ++ (wr ++ tl)) H) (hD : va_D (fun q : Nat => s.heap.size ≤ q) (wc ++ (wr ++ tl))) (hS : va_S (fun q : Nat => s.heap.size ≤ q) s.heap H locs) (hroom : cells + 20 ≤ room_1.cells ∧ slots + 5100 ≤ room_1.slots)
    (kk : ∀ (u : S) (u2 : S2) (H2 : Heap) (locs2 : List Loc) (ls2 : Array Slot), va_P G vwCl (w2 u2 ++ (w1 u ++ tl)) H2 → va_D (fun q : Nat => s.heap.size ≤ q) (w2 u2 ++ (w1 u ++ tl)) → va_S (fun q : Nat => s.heap.size ≤ q) s.heap H2 locs2 → lv_has ls2 8 [(4, .int (nI i6)), (0, .ref b9), (1, .ref (a 0)), (2, .ref h), (3, .ref o9)] → W p l e room_1 s m args below meth c H2 locs2 (cells + 20) (slots + 5100) Q (F0 m 1569 ls2 []))
    (hl : lv_has ls 8 [(4, .int (nI i6)), (0, .ref b9), (1, .ref (a 0)), (2, .ref h), (3, .ref o9)]) :
    W p l e room_1 s m args below meth c H locs cells slots Q (F0 m 732 ls []) := by
  obtain ⟨hx, hb, hml, hown, hts, hX, hbl, hL, hl9, hK, hWd, hE⟩ := F
  have hbA : ¬ (fun q : Nat => s.heap.size ≤ q) b9 := Nat.not_le.mpr hbl
  have hA : ∀ q : Nat, s.heap.size ≤ q → (fun q : Nat => s.heap.size ≤ q) q := fun _ q => q
  obtain ⟨⟨hr1, hr2⟩, hr3, hr4⟩ := hrm
  obtain ⟨⟨hg1, hg2⟩, hg3, hg4⟩ := hrm2
  refine lv_aload_n hx hb dL_law_732 rfl (lv_at hl 2 rfl) ?_
  refine lv_aload_n hx hb dL_law_733 rfl (lv_at hl 1 rfl) ?_
  refine lv_iload hx hb dL_law_734 (lv_at hl 0 rfl) ?_
  refine lv_iconst (v := nI 1) hx hb dL_law_736 (by decide) ?_
  refine z_iadd hx hb dL_law_737 ?_
  refine va_sld hx hb hX hbl hbA hS (vp_in_nI (by omega) (by omega)) dL_law_738 ?_
  rw [nI_clamp (by omega), hx1]
  refine lv_aload_n hx hb dL_law_739 rfl (lv_at hl 4 rfl) ?_
  refine z_ciP (wc := wc) (wr := wr ++ tl) (vx_runSW (As := [.ref (a 0), .int X1, .ref o9]) (rest := []) ⟨hx, hb, hml, hown, hwL_reverse hts⟩ (hC H.size) (vx_cwSW 3 (hwL_reverse hts) giL_reverse rfl hr1 hr2 (by decide +kernel) ⟨hr3, hr4⟩) (z_pHP hK hP hD hS (Nat.le_refl _) (fun _ q => q) hWd hE) rfl rfl hl.1 rfl (lv_room (Nat.le_of_ble_eq_true rfl)) dL_law_740 ⟨by omega, by omega⟩) hP hD hS hA (fun r u H1 locs1 hr hP1 hD1 hS1 hz => ?_)
  obtain rfl : r = nI k := hpC r u hr
  refine lv_istore (lv' := [(5, .int (nI k)), (4, .int (nI i6)), (0, .ref b9), (1, .ref (a 0)), (2, .ref h), (3, .ref o9)]) hx hb dL_law_743 hl (by decide) rfl (fun ls hl => ?_)
  refine lv_aload_n hx hb dL_law_745 rfl (lv_at hl 4 rfl) ?_
  refine lv_aload_n hx hb dL_law_746 rfl (lv_at hl 2 rfl) ?_
  refine lv_iload hx hb dL_law_747 (lv_at hl 1 rfl) ?_
  refine lv_iconst (v := nI 1) hx hb dL_law_749 (by decide) ?_
  refine z_iadd hx hb dL_law_750 ?_
  refine va_sld hx hb hX hbl hbA hS1 (vp_in_nI (by omega) (by omega)) dL_law_751 ?_
  rw [nI_clamp (by omega), hx1]
  have hP2 : va_P G vwCl (wr ++ (w1 u ++ tl)) H1 := z_P_perm z_rot hP1
  have hD2 : va_D (fun q : Nat => s.heap.size ≤ q) (wr ++ (w1 u ++ tl)) := z_D_perm z_rot hD1
  refine z_ciP (wc := wr) (wr := w1 u ++ tl) (va_runV (As := [.int X1]) (rest := []) ⟨hx, hb, hml, hown, hwX_reverse hts⟩ (hR H1.size) (cwV 1 (hwX_reverse hts) giX_reverse rfl hg1 hg2 (by decide +kernel) ⟨hg3, hg4⟩) (z_pVP (ci := 12) hK hP2 hD2 rfl rfl 0 hm0) rfl rfl hl.1 rfl (lv_room (Nat.le_of_ble_eq_true rfl)) dL_law_752 ⟨by omega, by omega⟩) hP2 hD2 hS1 hA (fun r2 u2 H2 locs2 hr2b hP3 hD3 hS3 hz2 => ?_)
  obtain rfl : r2 = rv := hpR r2 u2 hr2b
  refine lv_istore (lv' := [(6, .int r2), (5, .int (nI k)), (4, .int (nI i6)), (0, .ref b9), (1, .ref (a 0)), (2, .ref h), (3, .ref o9)]) hx hb dL_law_755 hl (by decide) rfl (fun ls hl => ?_)
  refine lv_aload_n hx hb dL_law_757 rfl (lv_at hl 5 rfl) ?_
  have hm2 := z_ap0 (b := w1 u ++ tl) (hm1 u2)
  refine vp_callSi (va_runV (As := []) (rest := []) ⟨hx, hb, hml, hown, hwX_thrown hts⟩ (c_X11_thrown l G cy h b T2 np2 (nI k)) (cwV 0 (hwX_thrown hts) giX_thrown rfl rfl rfl (by decide +kernel) ⟨Nat.le_of_ble_eq_true rfl, Nat.le_of_ble_eq_true rfl⟩) (z_pV (wc := [zMo h b T2 np2 (nI k)]) hK hP3 [0] (z_fm1 hm2) (ci := 12) (q0 := 0) rfl rfl rfl) rfl rfl hl.1 rfl (lv_room (Nat.le_of_ble_eq_true rfl)) dL_law_758 ⟨by omega, by omega⟩).run (fun r3 hr3 => ?_)
  obtain rfl : r3 = nI k := hr3
  refine lv_iload hx hb dL_law_761 (lv_at hl 1 rfl) ?_
  refine lv_icmp_eq (tgt := 768) hx hb dL_law_763 (by decide) (fun _ => ?_) (fun q => absurd rfl q)
  refine lv_iload hx hb dL_law_768 (lv_at hl 1 rfl) ?_
  refine z_if_ne (tgt := 785) hx hb (by omega) dL_law_770 (by decide) (fun _ => ?_) (fun hk0 => ?_)
  · refine lv_goto (tgt := 1569) hx hb dL_law_785 (by decide) ?_
    exact W.widen (k := cells + 20) (n := slots + 5100) (by omega) (by omega) (kk u u2 H2 locs2 _ hP3 hD3 hS3 (lv_sub hl [2, 3, 4, 5, 6] rfl))
  · obtain ⟨f9, hf1, hf2⟩ := ho hk0 u
    obtain ⟨q0, hq0⟩ := z_memi (List.mem_append_right (w2 u2) (List.mem_append_left tl (List.mem_of_getElem? hf1)))
    refine lv_aload_n hx hb dL_law_773 rfl (lv_at hl 6 rfl) ?_
    refine lv_iconst (v := nI 0) hx hb dL_law_774 (by decide) ?_
    refine z_lald (G := G) (v := v) hx hb hK hP3 q0 hq0 (by omega) hf2 dL_law_775 ?_
    refine lv_iload hx hb dL_law_776 (lv_at hl 0 rfl) ?_
    refine lv_i2l (v := r2.toInt64) hx hb dL_law_778 rfl ?_
    refine z_lc_eq (tgt := 785) hx hb dL_law_779 dL_law_780 (by decide) (fun _ => ?_) (fun q => absurd (hv hk0) q)
    refine lv_goto (tgt := 1569) hx hb dL_law_785 (by decide) ?_
    exact W.widen (k := cells + 20) (n := slots + 5100) (by omega) (by omega) (kk u u2 H2 locs2 _ hP3 hD3 hS3 (lv_sub hl [2, 3, 4, 5, 6] rfl))
set_option maxHeartbeats 4000000 in
theorem lo_tariff {S S2 : Type} {rm rm2 : Room} {mc ms k T2 np2 : Nat} {X1 X2 X3 X4 : Int32} {wc wr tl : va_W} {w1 : S → va_W} {w2 : S2 → va_W} {pC : Int32 → S → Prop} {pR : S2 → Prop} {qo : Nat} {fs9 : List Value}
    (F : zFix p l s m args c b9 L xs G cy wd fo) (hi : i6 + 5 < L) (hx1 : xs (i6 + 1) = X1) (hx2 : xs (i6 + 2) = X2) (hx3 : xs (i6 + 3) = X3) (hx4 : xs (i6 + 4) = X4)
    (hC : ∀ sz, Met l yL_tariff wsL_tariff rm (zMH G cy wd fo s.heap.size [.ref (a 0), .int X1, .int X2, .int X3, .int X4] sz wc) (va_Qi pC (fun u t9 => zB G cy (va_A wc sz) (w1 u) t9) (va_A wc sz)) mc ms (va_A wc sz))
    (hrm : (rm.cells = mc ∧ rm.slots = ms) ∧ rm.frames + 1 ≤ room_1.frames ∧ 8 + (6 + 11) + rm.locals ≤ room_1.locals) (hpC : ∀ r u, pC r u → r = nI k)
    (hR : ∀ sz, Met l yX11_tariff wsX11_tariff rm2 (zM G cy [.ref h, .int X1, .int X2, .int X3, .int X4] sz wr) (va_Qv pR (fun u t9 => zB G cy (va_A wr sz) (w2 u) t9) (va_A wr sz)) 0 0 (va_A wr sz))
    (hrm2 : (rm2.cells = 0 ∧ rm2.slots = 0) ∧ rm2.frames + 1 ≤ room_1.frames ∧ 8 + (7 + 11) + rm2.locals ≤ room_1.locals)
    (hm0 : wr[0]? = some (h, .inr (12, fs9))) (hm1 : ∀ u, (w2 u)[0]? = some (zMo h b T2 np2 (nI k))) (hk : k < 8) (hmc : mc ≤ 20 ∧ ms ≤ 5100)
    (hP : va_P G vwCl (wc ++ (wr ++ tl)) H) (hD : va_D (fun q : Nat => s.heap.size ≤ q) (wc ++ (wr ++ tl))) (hS : va_S (fun q : Nat => s.heap.size ≤ q) s.heap H locs) (hroom : cells + 20 ≤ room_1.cells ∧ slots + 5100 ≤ room_1.slots)
    (kk : ∀ (u : S) (u2 : S2) (H2 : Heap) (locs2 : List Loc) (ls2 : Array Slot), va_P G vwCl (w2 u2 ++ (w1 u ++ tl)) H2 → va_D (fun q : Nat => s.heap.size ≤ q) (w2 u2 ++ (w1 u ++ tl)) → va_S (fun q : Nat => s.heap.size ≤ q) s.heap H2 locs2 → lv_has ls2 8 [(4, .int (nI i6)), (0, .ref b9), (1, .ref (a 0)), (2, .ref h), (3, .ref o9)] → W p l e room_1 s m args below meth c H2 locs2 (cells + 20) (slots + 5100) Q (F0 m 1569 ls2 []))
    (hl : lv_has ls 8 [(4, .int (nI i6)), (0, .ref b9), (1, .ref (a 0)), (2, .ref h), (3, .ref o9)]) :
    W p l e room_1 s m args below meth c H locs cells slots Q (F0 m 788 ls []) := by
  obtain ⟨hx, hb, hml, hown, hts, hX, hbl, hL, hl9, hK, hWd, hE⟩ := F
  have hbA : ¬ (fun q : Nat => s.heap.size ≤ q) b9 := Nat.not_le.mpr hbl
  have hA : ∀ q : Nat, s.heap.size ≤ q → (fun q : Nat => s.heap.size ≤ q) q := fun _ q => q
  obtain ⟨⟨hr1, hr2⟩, hr3, hr4⟩ := hrm
  obtain ⟨⟨hg1, hg2⟩, hg3, hg4⟩ := hrm2
  refine lv_aload_n hx hb dL_law_788 rfl (lv_at hl 2 rfl) ?_
  refine lv_aload_n hx hb dL_law_789 rfl (lv_at hl 1 rfl) ?_
  refine lv_iload hx hb dL_law_790 (lv_at hl 0 rfl) ?_
  refine lv_iconst (v := nI 1) hx hb dL_law_792 (by decide) ?_
  refine z_iadd hx hb dL_law_793 ?_
  refine va_sld hx hb hX hbl hbA hS (vp_in_nI (by omega) (by omega)) dL_law_794 ?_
  rw [nI_clamp (by omega), hx1]
  refine lv_aload_n hx hb dL_law_795 rfl (lv_at hl 1 rfl) ?_
  refine lv_iload hx hb dL_law_796 (lv_at hl 0 rfl) ?_
  refine lv_iconst (v := nI 2) hx hb dL_law_798 (by decide) ?_
  refine z_iadd hx hb dL_law_799 ?_
  refine va_sld hx hb hX hbl hbA hS (vp_in_nI (by omega) (by omega)) dL_law_800 ?_
  rw [nI_clamp (by omega), hx2]
  refine lv_aload_n hx hb dL_law_801 rfl (lv_at hl 1 rfl) ?_
  refine lv_iload hx hb dL_law_802 (lv_at hl 0 rfl) ?_
  refine lv_iconst (v := nI 3) hx hb dL_law_804 (by decide) ?_
  refine z_iadd hx hb dL_law_805 ?_
  refine va_sld hx hb hX hbl hbA hS (vp_in_nI (by omega) (by omega)) dL_law_806 ?_
  rw [nI_clamp (by omega), hx3]
  refine lv_aload_n hx hb dL_law_807 rfl (lv_at hl 1 rfl) ?_
  refine lv_iload hx hb dL_law_808 (lv_at hl 0 rfl) ?_
  refine lv_iconst (v := nI 4) hx hb dL_law_810 (by decide) ?_
  refine z_iadd hx hb dL_law_811 ?_
  refine va_sld hx hb hX hbl hbA hS (vp_in_nI (by omega) (by omega)) dL_law_812 ?_
  rw [nI_clamp (by omega), hx4]
  refine z_ciP (wc := wc) (wr := wr ++ tl) (vx_runSW (As := [.ref (a 0), .int X1, .int X2, .int X3, .int X4]) (rest := []) ⟨hx, hb, hml, hown, hwL_tariff hts⟩ (hC H.size) (vx_cwSW 5 (hwL_tariff hts) giL_tariff rfl hr1 hr2 (by decide +kernel) ⟨hr3, hr4⟩) (z_pHP hK hP hD hS (Nat.le_refl _) (fun _ q => q) hWd hE) rfl rfl hl.1 rfl (lv_room (Nat.le_of_ble_eq_true rfl)) dL_law_813 ⟨by omega, by omega⟩) hP hD hS hA (fun r u H1 locs1 hr hP1 hD1 hS1 hz => ?_)
  obtain rfl : r = nI k := hpC r u hr
  refine lv_istore (lv' := [(5, .int (nI k)), (4, .int (nI i6)), (0, .ref b9), (1, .ref (a 0)), (2, .ref h), (3, .ref o9)]) hx hb dL_law_816 hl (by decide) rfl (fun ls hl => ?_)
  refine lv_aload_n hx hb dL_law_818 rfl (lv_at hl 4 rfl) ?_
  refine lv_aload_n hx hb dL_law_819 rfl (lv_at hl 2 rfl) ?_
  refine lv_iload hx hb dL_law_820 (lv_at hl 1 rfl) ?_
  refine lv_iconst (v := nI 1) hx hb dL_law_822 (by decide) ?_
  refine z_iadd hx hb dL_law_823 ?_
  refine va_sld hx hb hX hbl hbA hS1 (vp_in_nI (by omega) (by omega)) dL_law_824 ?_
  rw [nI_clamp (by omega), hx1]
  refine lv_aload_n hx hb dL_law_825 rfl (lv_at hl 2 rfl) ?_
  refine lv_iload hx hb dL_law_826 (lv_at hl 1 rfl) ?_
  refine lv_iconst (v := nI 2) hx hb dL_law_828 (by decide) ?_
  refine z_iadd hx hb dL_law_829 ?_
  refine va_sld hx hb hX hbl hbA hS1 (vp_in_nI (by omega) (by omega)) dL_law_830 ?_
  rw [nI_clamp (by omega), hx2]
  refine lv_aload_n hx hb dL_law_831 rfl (lv_at hl 2 rfl) ?_
  refine lv_iload hx hb dL_law_832 (lv_at hl 1 rfl) ?_
  refine lv_iconst (v := nI 3) hx hb dL_law_834 (by decide) ?_
  refine z_iadd hx hb dL_law_835 ?_
  refine va_sld hx hb hX hbl hbA hS1 (vp_in_nI (by omega) (by omega)) dL_law_836 ?_
  rw [nI_clamp (by omega), hx3]
  refine lv_aload_n hx hb dL_law_837 rfl (lv_at hl 2 rfl) ?_
  refine lv_iload hx hb dL_law_838 (lv_at hl 1 rfl) ?_
  refine lv_iconst (v := nI 4) hx hb dL_law_840 (by decide) ?_
  refine z_iadd hx hb dL_law_841 ?_
  refine va_sld hx hb hX hbl hbA hS1 (vp_in_nI (by omega) (by omega)) dL_law_842 ?_
  rw [nI_clamp (by omega), hx4]
  have hP2 : va_P G vwCl (wr ++ (w1 u ++ tl)) H1 := z_P_perm z_rot hP1
  have hD2 : va_D (fun q : Nat => s.heap.size ≤ q) (wr ++ (w1 u ++ tl)) := z_D_perm z_rot hD1
  refine z_cvP (wc := wr) (wr := w1 u ++ tl) (va_runV (As := [.int X1, .int X2, .int X3, .int X4]) (rest := []) ⟨hx, hb, hml, hown, hwX_tariff hts⟩ (hR H1.size) (cwV 4 (hwX_tariff hts) giX_tariff rfl hg1 hg2 (by decide +kernel) ⟨hg3, hg4⟩) (z_pVP (ci := 12) hK hP2 hD2 rfl rfl 0 hm0) rfl rfl hl.1 rfl (lv_room (Nat.le_of_ble_eq_true rfl)) dL_law_843 ⟨by omega, by omega⟩) hP2 hD2 hS1 hA (fun u2 H2 locs2 hr2b hP3 hD3 hS3 hz2 => ?_)
  refine lv_aload_n hx hb dL_law_846 rfl (lv_at hl 4 rfl) ?_
  have hm2 := z_ap0 (b := w1 u ++ tl) (hm1 u2)
  refine vp_callSi (va_runV (As := []) (rest := []) ⟨hx, hb, hml, hown, hwX_thrown hts⟩ (c_X11_thrown l G cy h b T2 np2 (nI k)) (cwV 0 (hwX_thrown hts) giX_thrown rfl rfl rfl (by decide +kernel) ⟨Nat.le_of_ble_eq_true rfl, Nat.le_of_ble_eq_true rfl⟩) (z_pV (wc := [zMo h b T2 np2 (nI k)]) hK hP3 [0] (z_fm1 hm2) (ci := 12) (q0 := 0) rfl rfl rfl) rfl rfl hl.1 rfl (lv_room (Nat.le_of_ble_eq_true rfl)) dL_law_847 ⟨by omega, by omega⟩).run (fun r3 hr3 => ?_)
  obtain rfl : r3 = nI k := hr3
  refine lv_iload hx hb dL_law_850 (lv_at hl 0 rfl) ?_
  refine lv_icmp_eq (tgt := 857) hx hb dL_law_852 (by decide) (fun _ => ?_) (fun q => absurd rfl q)
  refine lv_goto (tgt := 1569) hx hb dL_law_857 (by decide) ?_
  exact W.widen (k := cells + 20) (n := slots + 5100) (by omega) (by omega) (kk u u2 H2 locs2 _ hP3 hD3 hS3 (lv_sub hl [1, 2, 3, 4, 5] rfl))
set_option maxHeartbeats 4000000 in
theorem lo_bill {S S2 : Type} {rm rm2 : Room} {mc ms k T2 np2 : Nat} {v : Int64} {rv : Int64} {X1 : Int32} {wc wr tl : va_W} {w1 : S → va_W} {w2 : S2 → va_W} {pC : Int32 → S → Prop} {pR : Int64 → S2 → Prop} {qo : Nat} {fs9 : List Value}
    (F : zFix p l s m args c b9 L xs G cy wd fo) (hi : i6 + 5 < L) (hx1 : xs (i6 + 1) = X1)
    (hC : ∀ sz, Met l yL_bill wsL_bill rm (zMH G cy wd fo s.heap.size [.ref (a 0), .int X1, .ref o9] sz wc) (va_Qi pC (fun u t9 => zB G cy (va_A wc sz) (w1 u) t9) (va_A wc sz)) mc ms (va_A wc sz))
    (hrm : (rm.cells = mc ∧ rm.slots = ms) ∧ rm.frames + 1 ≤ room_1.frames ∧ 8 + (4 + 11) + rm.locals ≤ room_1.locals) (hpC : ∀ r u, pC r u → r = nI k)
    (hR : ∀ sz, Met l yX11_bill wsX11_bill rm2 (zM G cy [.ref h, .int X1] sz wr) (va_Ql pR (fun u t9 => zB G cy (va_A wr sz) (w2 u) t9) (va_A wr sz)) 0 0 (va_A wr sz))
    (hrm2 : (rm2.cells = 0 ∧ rm2.slots = 0) ∧ rm2.frames + 1 ≤ room_1.frames ∧ 8 + (7 + 11) + rm2.locals ≤ room_1.locals) (hpR : ∀ r u, pR r u → r = rv)
    (hm0 : wr[0]? = some (h, .inr (12, fs9))) (hm1 : ∀ u, (w2 u)[0]? = some (zMo h b T2 np2 (nI k))) (hk : k < 8) (hmc : mc ≤ 20 ∧ ms ≤ 5100)
    (hv : k = 0 → v = rv) (ho : k = 0 → ∀ u, ∃ f, (w1 u)[qo]? = some (zL cy o9 1 f) ∧ f 0 = v)
    (hP : va_P G vwCl (wc ++ (wr ++ tl)) H) (hD : va_D (fun q : Nat => s.heap.size ≤ q) (wc ++ (wr ++ tl))) (hS : va_S (fun q : Nat => s.heap.size ≤ q) s.heap H locs) (hroom : cells + 20 ≤ room_1.cells ∧ slots + 5100 ≤ room_1.slots)
    (kk : ∀ (u : S) (u2 : S2) (H2 : Heap) (locs2 : List Loc) (ls2 : Array Slot), va_P G vwCl (w2 u2 ++ (w1 u ++ tl)) H2 → va_D (fun q : Nat => s.heap.size ≤ q) (w2 u2 ++ (w1 u ++ tl)) → va_S (fun q : Nat => s.heap.size ≤ q) s.heap H2 locs2 → lv_has ls2 8 [(4, .int (nI i6)), (0, .ref b9), (1, .ref (a 0)), (2, .ref h), (3, .ref o9)] → W p l e room_1 s m args below meth c H2 locs2 (cells + 20) (slots + 5100) Q (F0 m 1569 ls2 []))
    (hl : lv_has ls 8 [(4, .int (nI i6)), (0, .ref b9), (1, .ref (a 0)), (2, .ref h), (3, .ref o9)]) :
    W p l e room_1 s m args below meth c H locs cells slots Q (F0 m 860 ls []) := by
  obtain ⟨hx, hb, hml, hown, hts, hX, hbl, hL, hl9, hK, hWd, hE⟩ := F
  have hbA : ¬ (fun q : Nat => s.heap.size ≤ q) b9 := Nat.not_le.mpr hbl
  have hA : ∀ q : Nat, s.heap.size ≤ q → (fun q : Nat => s.heap.size ≤ q) q := fun _ q => q
  obtain ⟨⟨hr1, hr2⟩, hr3, hr4⟩ := hrm
  obtain ⟨⟨hg1, hg2⟩, hg3, hg4⟩ := hrm2
  refine lv_aload_n hx hb dL_law_860 rfl (lv_at hl 2 rfl) ?_
  refine lv_aload_n hx hb dL_law_861 rfl (lv_at hl 1 rfl) ?_
  refine lv_iload hx hb dL_law_862 (lv_at hl 0 rfl) ?_
  refine lv_iconst (v := nI 1) hx hb dL_law_864 (by decide) ?_
  refine z_iadd hx hb dL_law_865 ?_
  refine va_sld hx hb hX hbl hbA hS (vp_in_nI (by omega) (by omega)) dL_law_866 ?_
  rw [nI_clamp (by omega), hx1]
  refine lv_aload_n hx hb dL_law_867 rfl (lv_at hl 4 rfl) ?_
  refine z_ciP (wc := wc) (wr := wr ++ tl) (vx_runSW (As := [.ref (a 0), .int X1, .ref o9]) (rest := []) ⟨hx, hb, hml, hown, hwL_bill hts⟩ (hC H.size) (vx_cwSW 3 (hwL_bill hts) giL_bill rfl hr1 hr2 (by decide +kernel) ⟨hr3, hr4⟩) (z_pHP hK hP hD hS (Nat.le_refl _) (fun _ q => q) hWd hE) rfl rfl hl.1 rfl (lv_room (Nat.le_of_ble_eq_true rfl)) dL_law_868 ⟨by omega, by omega⟩) hP hD hS hA (fun r u H1 locs1 hr hP1 hD1 hS1 hz => ?_)
  obtain rfl : r = nI k := hpC r u hr
  refine lv_istore (lv' := [(5, .int (nI k)), (4, .int (nI i6)), (0, .ref b9), (1, .ref (a 0)), (2, .ref h), (3, .ref o9)]) hx hb dL_law_871 hl (by decide) rfl (fun ls hl => ?_)
  refine lv_aload_n hx hb dL_law_873 rfl (lv_at hl 4 rfl) ?_
  refine lv_aload_n hx hb dL_law_874 rfl (lv_at hl 2 rfl) ?_
  refine lv_iload hx hb dL_law_875 (lv_at hl 1 rfl) ?_
  refine lv_iconst (v := nI 1) hx hb dL_law_877 (by decide) ?_
  refine z_iadd hx hb dL_law_878 ?_
  refine va_sld hx hb hX hbl hbA hS1 (vp_in_nI (by omega) (by omega)) dL_law_879 ?_
  rw [nI_clamp (by omega), hx1]
  have hP2 : va_P G vwCl (wr ++ (w1 u ++ tl)) H1 := z_P_perm z_rot hP1
  have hD2 : va_D (fun q : Nat => s.heap.size ≤ q) (wr ++ (w1 u ++ tl)) := z_D_perm z_rot hD1
  refine z_clP (wc := wr) (wr := w1 u ++ tl) (va_runV (As := [.int X1]) (rest := []) ⟨hx, hb, hml, hown, hwX_bill hts⟩ (hR H1.size) (cwV 1 (hwX_bill hts) giX_bill rfl hg1 hg2 (by decide +kernel) ⟨hg3, hg4⟩) (z_pVP (ci := 12) hK hP2 hD2 rfl rfl 0 hm0) rfl rfl hl.1 rfl (lv_room (Nat.le_of_ble_eq_true rfl)) dL_law_880 ⟨by omega, by omega⟩) hP2 hD2 hS1 hA (fun r2 u2 H2 locs2 hr2b hP3 hD3 hS3 hz2 => ?_)
  obtain rfl : r2 = rv := hpR r2 u2 hr2b
  refine lv_lstore (lv' := [(6, .long r2), (5, .int (nI k)), (4, .int (nI i6)), (0, .ref b9), (1, .ref (a 0)), (2, .ref h), (3, .ref o9)]) hx hb dL_law_883 hl (by decide) rfl (fun ls hl => ?_)
  refine lv_aload_n hx hb dL_law_885 rfl (lv_at hl 5 rfl) ?_
  have hm2 := z_ap0 (b := w1 u ++ tl) (hm1 u2)
  refine vp_callSi (va_runV (As := []) (rest := []) ⟨hx, hb, hml, hown, hwX_thrown hts⟩ (c_X11_thrown l G cy h b T2 np2 (nI k)) (cwV 0 (hwX_thrown hts) giX_thrown rfl rfl rfl (by decide +kernel) ⟨Nat.le_of_ble_eq_true rfl, Nat.le_of_ble_eq_true rfl⟩) (z_pV (wc := [zMo h b T2 np2 (nI k)]) hK hP3 [0] (z_fm1 hm2) (ci := 12) (q0 := 0) rfl rfl rfl) rfl rfl hl.1 rfl (lv_room (Nat.le_of_ble_eq_true rfl)) dL_law_886 ⟨by omega, by omega⟩).run (fun r3 hr3 => ?_)
  obtain rfl : r3 = nI k := hr3
  refine lv_iload hx hb dL_law_889 (lv_at hl 1 rfl) ?_
  refine lv_icmp_eq (tgt := 896) hx hb dL_law_891 (by decide) (fun _ => ?_) (fun q => absurd rfl q)
  refine lv_iload hx hb dL_law_896 (lv_at hl 1 rfl) ?_
  refine z_if_ne (tgt := 912) hx hb (by omega) dL_law_898 (by decide) (fun _ => ?_) (fun hk0 => ?_)
  · refine lv_goto (tgt := 1569) hx hb dL_law_912 (by decide) ?_
    exact W.widen (k := cells + 20) (n := slots + 5100) (by omega) (by omega) (kk u u2 H2 locs2 _ hP3 hD3 hS3 (lv_sub hl [2, 3, 4, 5, 6] rfl))
  · obtain ⟨f9, hf1, hf2⟩ := ho hk0 u
    obtain ⟨q0, hq0⟩ := z_memi (List.mem_append_right (w2 u2) (List.mem_append_left tl (List.mem_of_getElem? hf1)))
    refine lv_aload_n hx hb dL_law_901 rfl (lv_at hl 6 rfl) ?_
    refine lv_iconst (v := nI 0) hx hb dL_law_902 (by decide) ?_
    refine z_lald (G := G) (v := v) hx hb hK hP3 q0 hq0 (by omega) hf2 dL_law_903 ?_
    refine lv_lload hx hb dL_law_904 (lv_at hl 0 rfl) ?_
    refine z_lc_eq (tgt := 912) hx hb dL_law_906 dL_law_907 (by decide) (fun _ => ?_) (fun q => absurd (hv hk0) q)
    refine lv_goto (tgt := 1569) hx hb dL_law_912 (by decide) ?_
    exact W.widen (k := cells + 20) (n := slots + 5100) (by omega) (by omega) (kk u u2 H2 locs2 _ hP3 hD3 hS3 (lv_sub hl [2, 3, 4, 5, 6] rfl))
set_option maxHeartbeats 4000000 in
theorem lo_credit {S S2 : Type} {rm rm2 : Room} {mc ms k T2 np2 : Nat} {v : Int64} {rv : Int32} {X1 X2 : Int32} {wc wr tl : va_W} {w1 : S → va_W} {w2 : S2 → va_W} {pC : Int32 → S → Prop} {pR : Int32 → S2 → Prop} {qo : Nat} {fs9 : List Value}
    (F : zFix p l s m args c b9 L xs G cy wd fo) (hi : i6 + 5 < L) (hx1 : xs (i6 + 1) = X1) (hx2 : xs (i6 + 2) = X2)
    (hC : ∀ sz, Met l yL_credit wsL_credit rm (zMH G cy wd fo s.heap.size [.ref (a 0), .int X1, .int X2, .ref o9] sz wc) (va_Qi pC (fun u t9 => zB G cy (va_A wc sz) (w1 u) t9) (va_A wc sz)) mc ms (va_A wc sz))
    (hrm : (rm.cells = mc ∧ rm.slots = ms) ∧ rm.frames + 1 ≤ room_1.frames ∧ 8 + (5 + 11) + rm.locals ≤ room_1.locals) (hpC : ∀ r u, pC r u → r = nI k)
    (hR : ∀ sz, Met l yX11_credit wsX11_credit rm2 (zM G cy [.ref h, .int X1, .int X2] sz wr) (va_Qi pR (fun u t9 => zB G cy (va_A wr sz) (w2 u) t9) (va_A wr sz)) 0 0 (va_A wr sz))
    (hrm2 : (rm2.cells = 0 ∧ rm2.slots = 0) ∧ rm2.frames + 1 ≤ room_1.frames ∧ 8 + (7 + 11) + rm2.locals ≤ room_1.locals) (hpR : ∀ r u, pR r u → r = rv)
    (hm0 : wr[0]? = some (h, .inr (12, fs9))) (hm1 : ∀ u, (w2 u)[0]? = some (zMo h b T2 np2 (nI k))) (hk : k < 8) (hmc : mc ≤ 20 ∧ ms ≤ 5100)
    (hv : k = 0 → v = rv.toInt64) (ho : k = 0 → ∀ u, ∃ f, (w1 u)[qo]? = some (zL cy o9 1 f) ∧ f 0 = v)
    (hP : va_P G vwCl (wc ++ (wr ++ tl)) H) (hD : va_D (fun q : Nat => s.heap.size ≤ q) (wc ++ (wr ++ tl))) (hS : va_S (fun q : Nat => s.heap.size ≤ q) s.heap H locs) (hroom : cells + 20 ≤ room_1.cells ∧ slots + 5100 ≤ room_1.slots)
    (kk : ∀ (u : S) (u2 : S2) (H2 : Heap) (locs2 : List Loc) (ls2 : Array Slot), va_P G vwCl (w2 u2 ++ (w1 u ++ tl)) H2 → va_D (fun q : Nat => s.heap.size ≤ q) (w2 u2 ++ (w1 u ++ tl)) → va_S (fun q : Nat => s.heap.size ≤ q) s.heap H2 locs2 → lv_has ls2 8 [(4, .int (nI i6)), (0, .ref b9), (1, .ref (a 0)), (2, .ref h), (3, .ref o9)] → W p l e room_1 s m args below meth c H2 locs2 (cells + 20) (slots + 5100) Q (F0 m 1569 ls2 []))
    (hl : lv_has ls 8 [(4, .int (nI i6)), (0, .ref b9), (1, .ref (a 0)), (2, .ref h), (3, .ref o9)]) :
    W p l e room_1 s m args below meth c H locs cells slots Q (F0 m 915 ls []) := by
  obtain ⟨hx, hb, hml, hown, hts, hX, hbl, hL, hl9, hK, hWd, hE⟩ := F
  have hbA : ¬ (fun q : Nat => s.heap.size ≤ q) b9 := Nat.not_le.mpr hbl
  have hA : ∀ q : Nat, s.heap.size ≤ q → (fun q : Nat => s.heap.size ≤ q) q := fun _ q => q
  obtain ⟨⟨hr1, hr2⟩, hr3, hr4⟩ := hrm
  obtain ⟨⟨hg1, hg2⟩, hg3, hg4⟩ := hrm2
  refine lv_aload_n hx hb dL_law_915 rfl (lv_at hl 2 rfl) ?_
  refine lv_aload_n hx hb dL_law_916 rfl (lv_at hl 1 rfl) ?_
  refine lv_iload hx hb dL_law_917 (lv_at hl 0 rfl) ?_
  refine lv_iconst (v := nI 1) hx hb dL_law_919 (by decide) ?_
  refine z_iadd hx hb dL_law_920 ?_
  refine va_sld hx hb hX hbl hbA hS (vp_in_nI (by omega) (by omega)) dL_law_921 ?_
  rw [nI_clamp (by omega), hx1]
  refine lv_aload_n hx hb dL_law_922 rfl (lv_at hl 1 rfl) ?_
  refine lv_iload hx hb dL_law_923 (lv_at hl 0 rfl) ?_
  refine lv_iconst (v := nI 2) hx hb dL_law_925 (by decide) ?_
  refine z_iadd hx hb dL_law_926 ?_
  refine va_sld hx hb hX hbl hbA hS (vp_in_nI (by omega) (by omega)) dL_law_927 ?_
  rw [nI_clamp (by omega), hx2]
  refine lv_aload_n hx hb dL_law_928 rfl (lv_at hl 4 rfl) ?_
  refine z_ciP (wc := wc) (wr := wr ++ tl) (vx_runSW (As := [.ref (a 0), .int X1, .int X2, .ref o9]) (rest := []) ⟨hx, hb, hml, hown, hwL_credit hts⟩ (hC H.size) (vx_cwSW 4 (hwL_credit hts) giL_credit rfl hr1 hr2 (by decide +kernel) ⟨hr3, hr4⟩) (z_pHP hK hP hD hS (Nat.le_refl _) (fun _ q => q) hWd hE) rfl rfl hl.1 rfl (lv_room (Nat.le_of_ble_eq_true rfl)) dL_law_929 ⟨by omega, by omega⟩) hP hD hS hA (fun r u H1 locs1 hr hP1 hD1 hS1 hz => ?_)
  obtain rfl : r = nI k := hpC r u hr
  refine lv_istore (lv' := [(5, .int (nI k)), (4, .int (nI i6)), (0, .ref b9), (1, .ref (a 0)), (2, .ref h), (3, .ref o9)]) hx hb dL_law_932 hl (by decide) rfl (fun ls hl => ?_)
  refine lv_aload_n hx hb dL_law_934 rfl (lv_at hl 4 rfl) ?_
  refine lv_aload_n hx hb dL_law_935 rfl (lv_at hl 2 rfl) ?_
  refine lv_iload hx hb dL_law_936 (lv_at hl 1 rfl) ?_
  refine lv_iconst (v := nI 1) hx hb dL_law_938 (by decide) ?_
  refine z_iadd hx hb dL_law_939 ?_
  refine va_sld hx hb hX hbl hbA hS1 (vp_in_nI (by omega) (by omega)) dL_law_940 ?_
  rw [nI_clamp (by omega), hx1]
  refine lv_aload_n hx hb dL_law_941 rfl (lv_at hl 2 rfl) ?_
  refine lv_iload hx hb dL_law_942 (lv_at hl 1 rfl) ?_
  refine lv_iconst (v := nI 2) hx hb dL_law_944 (by decide) ?_
  refine z_iadd hx hb dL_law_945 ?_
  refine va_sld hx hb hX hbl hbA hS1 (vp_in_nI (by omega) (by omega)) dL_law_946 ?_
  rw [nI_clamp (by omega), hx2]
  have hP2 : va_P G vwCl (wr ++ (w1 u ++ tl)) H1 := z_P_perm z_rot hP1
  have hD2 : va_D (fun q : Nat => s.heap.size ≤ q) (wr ++ (w1 u ++ tl)) := z_D_perm z_rot hD1
  refine z_ciP (wc := wr) (wr := w1 u ++ tl) (va_runV (As := [.int X1, .int X2]) (rest := []) ⟨hx, hb, hml, hown, hwX_credit hts⟩ (hR H1.size) (cwV 2 (hwX_credit hts) giX_credit rfl hg1 hg2 (by decide +kernel) ⟨hg3, hg4⟩) (z_pVP (ci := 12) hK hP2 hD2 rfl rfl 0 hm0) rfl rfl hl.1 rfl (lv_room (Nat.le_of_ble_eq_true rfl)) dL_law_947 ⟨by omega, by omega⟩) hP2 hD2 hS1 hA (fun r2 u2 H2 locs2 hr2b hP3 hD3 hS3 hz2 => ?_)
  obtain rfl : r2 = rv := hpR r2 u2 hr2b
  refine lv_istore (lv' := [(6, .int r2), (5, .int (nI k)), (4, .int (nI i6)), (0, .ref b9), (1, .ref (a 0)), (2, .ref h), (3, .ref o9)]) hx hb dL_law_950 hl (by decide) rfl (fun ls hl => ?_)
  refine lv_aload_n hx hb dL_law_952 rfl (lv_at hl 5 rfl) ?_
  have hm2 := z_ap0 (b := w1 u ++ tl) (hm1 u2)
  refine vp_callSi (va_runV (As := []) (rest := []) ⟨hx, hb, hml, hown, hwX_thrown hts⟩ (c_X11_thrown l G cy h b T2 np2 (nI k)) (cwV 0 (hwX_thrown hts) giX_thrown rfl rfl rfl (by decide +kernel) ⟨Nat.le_of_ble_eq_true rfl, Nat.le_of_ble_eq_true rfl⟩) (z_pV (wc := [zMo h b T2 np2 (nI k)]) hK hP3 [0] (z_fm1 hm2) (ci := 12) (q0 := 0) rfl rfl rfl) rfl rfl hl.1 rfl (lv_room (Nat.le_of_ble_eq_true rfl)) dL_law_953 ⟨by omega, by omega⟩).run (fun r3 hr3 => ?_)
  obtain rfl : r3 = nI k := hr3
  refine lv_iload hx hb dL_law_956 (lv_at hl 1 rfl) ?_
  refine lv_icmp_eq (tgt := 963) hx hb dL_law_958 (by decide) (fun _ => ?_) (fun q => absurd rfl q)
  refine lv_iload hx hb dL_law_963 (lv_at hl 1 rfl) ?_
  refine z_if_ne (tgt := 980) hx hb (by omega) dL_law_965 (by decide) (fun _ => ?_) (fun hk0 => ?_)
  · refine lv_goto (tgt := 1569) hx hb dL_law_980 (by decide) ?_
    exact W.widen (k := cells + 20) (n := slots + 5100) (by omega) (by omega) (kk u u2 H2 locs2 _ hP3 hD3 hS3 (lv_sub hl [2, 3, 4, 5, 6] rfl))
  · obtain ⟨f9, hf1, hf2⟩ := ho hk0 u
    obtain ⟨q0, hq0⟩ := z_memi (List.mem_append_right (w2 u2) (List.mem_append_left tl (List.mem_of_getElem? hf1)))
    refine lv_aload_n hx hb dL_law_968 rfl (lv_at hl 6 rfl) ?_
    refine lv_iconst (v := nI 0) hx hb dL_law_969 (by decide) ?_
    refine z_lald (G := G) (v := v) hx hb hK hP3 q0 hq0 (by omega) hf2 dL_law_970 ?_
    refine lv_iload hx hb dL_law_971 (lv_at hl 0 rfl) ?_
    refine lv_i2l (v := r2.toInt64) hx hb dL_law_973 rfl ?_
    refine z_lc_eq (tgt := 980) hx hb dL_law_974 dL_law_975 (by decide) (fun _ => ?_) (fun q => absurd (hv hk0) q)
    refine lv_goto (tgt := 1569) hx hb dL_law_980 (by decide) ?_
    exact W.widen (k := cells + 20) (n := slots + 5100) (by omega) (by omega) (kk u u2 H2 locs2 _ hP3 hD3 hS3 (lv_sub hl [2, 3, 4, 5, 6] rfl))
set_option maxHeartbeats 4000000 in
theorem lo_account {S S2 : Type} {rm rm2 : Room} {mc ms k T2 np2 : Nat} {v : Int64} {rv : Int64} {X1 : Int32} {wc wr tl : va_W} {w1 : S → va_W} {w2 : S2 → va_W} {pC : Int32 → S → Prop} {pR : Int64 → S2 → Prop} {qo : Nat} {fs9 : List Value}
    (F : zFix p l s m args c b9 L xs G cy wd fo) (hi : i6 + 5 < L) (hx1 : xs (i6 + 1) = X1)
    (hC : ∀ sz, Met l yL_account wsL_account rm (zMH G cy wd fo s.heap.size [.ref (a 0), .int X1, .ref o9] sz wc) (va_Qi pC (fun u t9 => zB G cy (va_A wc sz) (w1 u) t9) (va_A wc sz)) mc ms (va_A wc sz))
    (hrm : (rm.cells = mc ∧ rm.slots = ms) ∧ rm.frames + 1 ≤ room_1.frames ∧ 8 + (4 + 11) + rm.locals ≤ room_1.locals) (hpC : ∀ r u, pC r u → r = nI k)
    (hR : ∀ sz, Met l yX11_account wsX11_account rm2 (zM G cy [.ref h, .int X1] sz wr) (va_Ql pR (fun u t9 => zB G cy (va_A wr sz) (w2 u) t9) (va_A wr sz)) 0 0 (va_A wr sz))
    (hrm2 : (rm2.cells = 0 ∧ rm2.slots = 0) ∧ rm2.frames + 1 ≤ room_1.frames ∧ 8 + (2 + 11) + rm2.locals ≤ room_1.locals) (hpR : ∀ r u, pR r u → r = rv)
    (hm0 : wr[0]? = some (h, .inr (12, fs9))) (hm1 : ∀ u, (w2 u)[0]? = some (zMo h b T2 np2 (nI k))) (hk : k < 8) (hmc : mc ≤ 20 ∧ ms ≤ 5100)
    (hv : k = 0 → v = rv) (ho : k = 0 → ∀ u, ∃ f, (w1 u)[qo]? = some (zL cy o9 1 f) ∧ f 0 = v)
    (hP : va_P G vwCl (wc ++ (wr ++ tl)) H) (hD : va_D (fun q : Nat => s.heap.size ≤ q) (wc ++ (wr ++ tl))) (hS : va_S (fun q : Nat => s.heap.size ≤ q) s.heap H locs) (hroom : cells + 20 ≤ room_1.cells ∧ slots + 5100 ≤ room_1.slots)
    (kk : ∀ (u : S) (u2 : S2) (H2 : Heap) (locs2 : List Loc) (ls2 : Array Slot), va_P G vwCl (w2 u2 ++ (w1 u ++ tl)) H2 → va_D (fun q : Nat => s.heap.size ≤ q) (w2 u2 ++ (w1 u ++ tl)) → va_S (fun q : Nat => s.heap.size ≤ q) s.heap H2 locs2 → lv_has ls2 8 [(4, .int (nI i6)), (0, .ref b9), (1, .ref (a 0)), (2, .ref h), (3, .ref o9)] → W p l e room_1 s m args below meth c H2 locs2 (cells + 20) (slots + 5100) Q (F0 m 1569 ls2 []))
    (hl : lv_has ls 8 [(4, .int (nI i6)), (0, .ref b9), (1, .ref (a 0)), (2, .ref h), (3, .ref o9)]) :
    W p l e room_1 s m args below meth c H locs cells slots Q (F0 m 983 ls []) := by
  obtain ⟨hx, hb, hml, hown, hts, hX, hbl, hL, hl9, hK, hWd, hE⟩ := F
  have hbA : ¬ (fun q : Nat => s.heap.size ≤ q) b9 := Nat.not_le.mpr hbl
  have hA : ∀ q : Nat, s.heap.size ≤ q → (fun q : Nat => s.heap.size ≤ q) q := fun _ q => q
  obtain ⟨⟨hr1, hr2⟩, hr3, hr4⟩ := hrm
  obtain ⟨⟨hg1, hg2⟩, hg3, hg4⟩ := hrm2
  refine lv_aload_n hx hb dL_law_983 rfl (lv_at hl 2 rfl) ?_
  refine lv_aload_n hx hb dL_law_984 rfl (lv_at hl 1 rfl) ?_
  refine lv_iload hx hb dL_law_985 (lv_at hl 0 rfl) ?_
  refine lv_iconst (v := nI 1) hx hb dL_law_987 (by decide) ?_
  refine z_iadd hx hb dL_law_988 ?_
  refine va_sld hx hb hX hbl hbA hS (vp_in_nI (by omega) (by omega)) dL_law_989 ?_
  rw [nI_clamp (by omega), hx1]
  refine lv_aload_n hx hb dL_law_990 rfl (lv_at hl 4 rfl) ?_
  refine z_ciP (wc := wc) (wr := wr ++ tl) (vx_runSW (As := [.ref (a 0), .int X1, .ref o9]) (rest := []) ⟨hx, hb, hml, hown, hwL_account hts⟩ (hC H.size) (vx_cwSW 3 (hwL_account hts) giL_account rfl hr1 hr2 (by decide +kernel) ⟨hr3, hr4⟩) (z_pHP hK hP hD hS (Nat.le_refl _) (fun _ q => q) hWd hE) rfl rfl hl.1 rfl (lv_room (Nat.le_of_ble_eq_true rfl)) dL_law_991 ⟨by omega, by omega⟩) hP hD hS hA (fun r u H1 locs1 hr hP1 hD1 hS1 hz => ?_)
  obtain rfl : r = nI k := hpC r u hr
  refine lv_istore (lv' := [(5, .int (nI k)), (4, .int (nI i6)), (0, .ref b9), (1, .ref (a 0)), (2, .ref h), (3, .ref o9)]) hx hb dL_law_994 hl (by decide) rfl (fun ls hl => ?_)
  refine lv_aload_n hx hb dL_law_996 rfl (lv_at hl 4 rfl) ?_
  refine lv_aload_n hx hb dL_law_997 rfl (lv_at hl 2 rfl) ?_
  refine lv_iload hx hb dL_law_998 (lv_at hl 1 rfl) ?_
  refine lv_iconst (v := nI 1) hx hb dL_law_1000 (by decide) ?_
  refine z_iadd hx hb dL_law_1001 ?_
  refine va_sld hx hb hX hbl hbA hS1 (vp_in_nI (by omega) (by omega)) dL_law_1002 ?_
  rw [nI_clamp (by omega), hx1]
  have hP2 : va_P G vwCl (wr ++ (w1 u ++ tl)) H1 := z_P_perm z_rot hP1
  have hD2 : va_D (fun q : Nat => s.heap.size ≤ q) (wr ++ (w1 u ++ tl)) := z_D_perm z_rot hD1
  refine z_clP (wc := wr) (wr := w1 u ++ tl) (va_runV (As := [.int X1]) (rest := []) ⟨hx, hb, hml, hown, hwX_account hts⟩ (hR H1.size) (cwV 1 (hwX_account hts) giX_account rfl hg1 hg2 (by decide +kernel) ⟨hg3, hg4⟩) (z_pVP (ci := 12) hK hP2 hD2 rfl rfl 0 hm0) rfl rfl hl.1 rfl (lv_room (Nat.le_of_ble_eq_true rfl)) dL_law_1003 ⟨by omega, by omega⟩) hP2 hD2 hS1 hA (fun r2 u2 H2 locs2 hr2b hP3 hD3 hS3 hz2 => ?_)
  obtain rfl : r2 = rv := hpR r2 u2 hr2b
  refine lv_lstore (lv' := [(6, .long r2), (5, .int (nI k)), (4, .int (nI i6)), (0, .ref b9), (1, .ref (a 0)), (2, .ref h), (3, .ref o9)]) hx hb dL_law_1006 hl (by decide) rfl (fun ls hl => ?_)
  refine lv_aload_n hx hb dL_law_1008 rfl (lv_at hl 5 rfl) ?_
  have hm2 := z_ap0 (b := w1 u ++ tl) (hm1 u2)
  refine vp_callSi (va_runV (As := []) (rest := []) ⟨hx, hb, hml, hown, hwX_thrown hts⟩ (c_X11_thrown l G cy h b T2 np2 (nI k)) (cwV 0 (hwX_thrown hts) giX_thrown rfl rfl rfl (by decide +kernel) ⟨Nat.le_of_ble_eq_true rfl, Nat.le_of_ble_eq_true rfl⟩) (z_pV (wc := [zMo h b T2 np2 (nI k)]) hK hP3 [0] (z_fm1 hm2) (ci := 12) (q0 := 0) rfl rfl rfl) rfl rfl hl.1 rfl (lv_room (Nat.le_of_ble_eq_true rfl)) dL_law_1009 ⟨by omega, by omega⟩).run (fun r3 hr3 => ?_)
  obtain rfl : r3 = nI k := hr3
  refine lv_iload hx hb dL_law_1012 (lv_at hl 1 rfl) ?_
  refine lv_icmp_eq (tgt := 1019) hx hb dL_law_1014 (by decide) (fun _ => ?_) (fun q => absurd rfl q)
  refine lv_iload hx hb dL_law_1019 (lv_at hl 1 rfl) ?_
  refine z_if_ne (tgt := 1035) hx hb (by omega) dL_law_1021 (by decide) (fun _ => ?_) (fun hk0 => ?_)
  · refine lv_goto (tgt := 1569) hx hb dL_law_1035 (by decide) ?_
    exact W.widen (k := cells + 20) (n := slots + 5100) (by omega) (by omega) (kk u u2 H2 locs2 _ hP3 hD3 hS3 (lv_sub hl [2, 3, 4, 5, 6] rfl))
  · obtain ⟨f9, hf1, hf2⟩ := ho hk0 u
    obtain ⟨q0, hq0⟩ := z_memi (List.mem_append_right (w2 u2) (List.mem_append_left tl (List.mem_of_getElem? hf1)))
    refine lv_aload_n hx hb dL_law_1024 rfl (lv_at hl 6 rfl) ?_
    refine lv_iconst (v := nI 0) hx hb dL_law_1025 (by decide) ?_
    refine z_lald (G := G) (v := v) hx hb hK hP3 q0 hq0 (by omega) hf2 dL_law_1026 ?_
    refine lv_lload hx hb dL_law_1027 (lv_at hl 0 rfl) ?_
    refine z_lc_eq (tgt := 1035) hx hb dL_law_1029 dL_law_1030 (by decide) (fun _ => ?_) (fun q => absurd (hv hk0) q)
    refine lv_goto (tgt := 1569) hx hb dL_law_1035 (by decide) ?_
    exact W.widen (k := cells + 20) (n := slots + 5100) (by omega) (by omega) (kk u u2 H2 locs2 _ hP3 hD3 hS3 (lv_sub hl [2, 3, 4, 5, 6] rfl))
set_option maxHeartbeats 4000000 in
theorem lo_income {S S2 : Type} {rm rm2 : Room} {mc ms k T2 np2 : Nat} {v : Int64} {rv : Int64} {X1 : Int32} {wc wr tl : va_W} {w1 : S → va_W} {w2 : S2 → va_W} {pC : Int32 → S → Prop} {pR : Int64 → S2 → Prop} {qo : Nat} {fs9 : List Value}
    (F : zFix p l s m args c b9 L xs G cy wd fo) (hi : i6 + 5 < L) (hx1 : xs (i6 + 1) = X1)
    (hC : ∀ sz, Met l yL_income wsL_income rm (zMH G cy wd fo s.heap.size [.ref (a 0), .int X1, .ref o9] sz wc) (va_Qi pC (fun u t9 => zB G cy (va_A wc sz) (w1 u) t9) (va_A wc sz)) mc ms (va_A wc sz))
    (hrm : (rm.cells = mc ∧ rm.slots = ms) ∧ rm.frames + 1 ≤ room_1.frames ∧ 8 + (4 + 11) + rm.locals ≤ room_1.locals) (hpC : ∀ r u, pC r u → r = nI k)
    (hR : ∀ sz, Met l yX11_income wsX11_income rm2 (zM G cy [.ref h, .int X1] sz wr) (va_Ql pR (fun u t9 => zB G cy (va_A wr sz) (w2 u) t9) (va_A wr sz)) 0 0 (va_A wr sz))
    (hrm2 : (rm2.cells = 0 ∧ rm2.slots = 0) ∧ rm2.frames + 1 ≤ room_1.frames ∧ 8 + (2 + 11) + rm2.locals ≤ room_1.locals) (hpR : ∀ r u, pR r u → r = rv)
    (hm0 : wr[0]? = some (h, .inr (12, fs9))) (hm1 : ∀ u, (w2 u)[0]? = some (zMo h b T2 np2 (nI k))) (hk : k < 8) (hmc : mc ≤ 20 ∧ ms ≤ 5100)
    (hv : k = 0 → v = rv) (ho : k = 0 → ∀ u, ∃ f, (w1 u)[qo]? = some (zL cy o9 1 f) ∧ f 0 = v)
    (hP : va_P G vwCl (wc ++ (wr ++ tl)) H) (hD : va_D (fun q : Nat => s.heap.size ≤ q) (wc ++ (wr ++ tl))) (hS : va_S (fun q : Nat => s.heap.size ≤ q) s.heap H locs) (hroom : cells + 20 ≤ room_1.cells ∧ slots + 5100 ≤ room_1.slots)
    (kk : ∀ (u : S) (u2 : S2) (H2 : Heap) (locs2 : List Loc) (ls2 : Array Slot), va_P G vwCl (w2 u2 ++ (w1 u ++ tl)) H2 → va_D (fun q : Nat => s.heap.size ≤ q) (w2 u2 ++ (w1 u ++ tl)) → va_S (fun q : Nat => s.heap.size ≤ q) s.heap H2 locs2 → lv_has ls2 8 [(4, .int (nI i6)), (0, .ref b9), (1, .ref (a 0)), (2, .ref h), (3, .ref o9)] → W p l e room_1 s m args below meth c H2 locs2 (cells + 20) (slots + 5100) Q (F0 m 1569 ls2 []))
    (hl : lv_has ls 8 [(4, .int (nI i6)), (0, .ref b9), (1, .ref (a 0)), (2, .ref h), (3, .ref o9)]) :
    W p l e room_1 s m args below meth c H locs cells slots Q (F0 m 1038 ls []) := by
  obtain ⟨hx, hb, hml, hown, hts, hX, hbl, hL, hl9, hK, hWd, hE⟩ := F
  have hbA : ¬ (fun q : Nat => s.heap.size ≤ q) b9 := Nat.not_le.mpr hbl
  have hA : ∀ q : Nat, s.heap.size ≤ q → (fun q : Nat => s.heap.size ≤ q) q := fun _ q => q
  obtain ⟨⟨hr1, hr2⟩, hr3, hr4⟩ := hrm
  obtain ⟨⟨hg1, hg2⟩, hg3, hg4⟩ := hrm2
  refine lv_aload_n hx hb dL_law_1038 rfl (lv_at hl 2 rfl) ?_
  refine lv_aload_n hx hb dL_law_1039 rfl (lv_at hl 1 rfl) ?_
  refine lv_iload hx hb dL_law_1040 (lv_at hl 0 rfl) ?_
  refine lv_iconst (v := nI 1) hx hb dL_law_1042 (by decide) ?_
  refine z_iadd hx hb dL_law_1043 ?_
  refine va_sld hx hb hX hbl hbA hS (vp_in_nI (by omega) (by omega)) dL_law_1044 ?_
  rw [nI_clamp (by omega), hx1]
  refine lv_aload_n hx hb dL_law_1045 rfl (lv_at hl 4 rfl) ?_
  refine z_ciP (wc := wc) (wr := wr ++ tl) (vx_runSW (As := [.ref (a 0), .int X1, .ref o9]) (rest := []) ⟨hx, hb, hml, hown, hwL_income hts⟩ (hC H.size) (vx_cwSW 3 (hwL_income hts) giL_income rfl hr1 hr2 (by decide +kernel) ⟨hr3, hr4⟩) (z_pHP hK hP hD hS (Nat.le_refl _) (fun _ q => q) hWd hE) rfl rfl hl.1 rfl (lv_room (Nat.le_of_ble_eq_true rfl)) dL_law_1046 ⟨by omega, by omega⟩) hP hD hS hA (fun r u H1 locs1 hr hP1 hD1 hS1 hz => ?_)
  obtain rfl : r = nI k := hpC r u hr
  refine lv_istore (lv' := [(5, .int (nI k)), (4, .int (nI i6)), (0, .ref b9), (1, .ref (a 0)), (2, .ref h), (3, .ref o9)]) hx hb dL_law_1049 hl (by decide) rfl (fun ls hl => ?_)
  refine lv_aload_n hx hb dL_law_1051 rfl (lv_at hl 4 rfl) ?_
  refine lv_aload_n hx hb dL_law_1052 rfl (lv_at hl 2 rfl) ?_
  refine lv_iload hx hb dL_law_1053 (lv_at hl 1 rfl) ?_
  refine lv_iconst (v := nI 1) hx hb dL_law_1055 (by decide) ?_
  refine z_iadd hx hb dL_law_1056 ?_
  refine va_sld hx hb hX hbl hbA hS1 (vp_in_nI (by omega) (by omega)) dL_law_1057 ?_
  rw [nI_clamp (by omega), hx1]
  have hP2 : va_P G vwCl (wr ++ (w1 u ++ tl)) H1 := z_P_perm z_rot hP1
  have hD2 : va_D (fun q : Nat => s.heap.size ≤ q) (wr ++ (w1 u ++ tl)) := z_D_perm z_rot hD1
  refine z_clP (wc := wr) (wr := w1 u ++ tl) (va_runV (As := [.int X1]) (rest := []) ⟨hx, hb, hml, hown, hwX_income hts⟩ (hR H1.size) (cwV 1 (hwX_income hts) giX_income rfl hg1 hg2 (by decide +kernel) ⟨hg3, hg4⟩) (z_pVP (ci := 12) hK hP2 hD2 rfl rfl 0 hm0) rfl rfl hl.1 rfl (lv_room (Nat.le_of_ble_eq_true rfl)) dL_law_1058 ⟨by omega, by omega⟩) hP2 hD2 hS1 hA (fun r2 u2 H2 locs2 hr2b hP3 hD3 hS3 hz2 => ?_)
  obtain rfl : r2 = rv := hpR r2 u2 hr2b
  refine lv_lstore (lv' := [(6, .long r2), (5, .int (nI k)), (4, .int (nI i6)), (0, .ref b9), (1, .ref (a 0)), (2, .ref h), (3, .ref o9)]) hx hb dL_law_1061 hl (by decide) rfl (fun ls hl => ?_)
  refine lv_aload_n hx hb dL_law_1063 rfl (lv_at hl 5 rfl) ?_
  have hm2 := z_ap0 (b := w1 u ++ tl) (hm1 u2)
  refine vp_callSi (va_runV (As := []) (rest := []) ⟨hx, hb, hml, hown, hwX_thrown hts⟩ (c_X11_thrown l G cy h b T2 np2 (nI k)) (cwV 0 (hwX_thrown hts) giX_thrown rfl rfl rfl (by decide +kernel) ⟨Nat.le_of_ble_eq_true rfl, Nat.le_of_ble_eq_true rfl⟩) (z_pV (wc := [zMo h b T2 np2 (nI k)]) hK hP3 [0] (z_fm1 hm2) (ci := 12) (q0 := 0) rfl rfl rfl) rfl rfl hl.1 rfl (lv_room (Nat.le_of_ble_eq_true rfl)) dL_law_1064 ⟨by omega, by omega⟩).run (fun r3 hr3 => ?_)
  obtain rfl : r3 = nI k := hr3
  refine lv_iload hx hb dL_law_1067 (lv_at hl 1 rfl) ?_
  refine lv_icmp_eq (tgt := 1074) hx hb dL_law_1069 (by decide) (fun _ => ?_) (fun q => absurd rfl q)
  refine lv_iload hx hb dL_law_1074 (lv_at hl 1 rfl) ?_
  refine z_if_ne (tgt := 1090) hx hb (by omega) dL_law_1076 (by decide) (fun _ => ?_) (fun hk0 => ?_)
  · refine lv_goto (tgt := 1569) hx hb dL_law_1090 (by decide) ?_
    exact W.widen (k := cells + 20) (n := slots + 5100) (by omega) (by omega) (kk u u2 H2 locs2 _ hP3 hD3 hS3 (lv_sub hl [2, 3, 4, 5, 6] rfl))
  · obtain ⟨f9, hf1, hf2⟩ := ho hk0 u
    obtain ⟨q0, hq0⟩ := z_memi (List.mem_append_right (w2 u2) (List.mem_append_left tl (List.mem_of_getElem? hf1)))
    refine lv_aload_n hx hb dL_law_1079 rfl (lv_at hl 6 rfl) ?_
    refine lv_iconst (v := nI 0) hx hb dL_law_1080 (by decide) ?_
    refine z_lald (G := G) (v := v) hx hb hK hP3 q0 hq0 (by omega) hf2 dL_law_1081 ?_
    refine lv_lload hx hb dL_law_1082 (lv_at hl 0 rfl) ?_
    refine z_lc_eq (tgt := 1090) hx hb dL_law_1084 dL_law_1085 (by decide) (fun _ => ?_) (fun q => absurd (hv hk0) q)
    refine lv_goto (tgt := 1569) hx hb dL_law_1090 (by decide) ?_
    exact W.widen (k := cells + 20) (n := slots + 5100) (by omega) (by omega) (kk u u2 H2 locs2 _ hP3 hD3 hS3 (lv_sub hl [2, 3, 4, 5, 6] rfl))
set_option maxHeartbeats 4000000 in
theorem lo_inflow {S S2 : Type} {rm rm2 : Room} {mc ms k T2 np2 : Nat} {v : Int64} {rv : Int32} {X1 X2 : Int32} {wc wr tl : va_W} {w1 : S → va_W} {w2 : S2 → va_W} {pC : Int32 → S → Prop} {pR : Int32 → S2 → Prop} {qo : Nat} {fs9 : List Value}
    (F : zFix p l s m args c b9 L xs G cy wd fo) (hi : i6 + 5 < L) (hx1 : xs (i6 + 1) = X1) (hx2 : xs (i6 + 2) = X2)
    (hC : ∀ sz, Met l yL_inflow wsL_inflow rm (zMH G cy wd fo s.heap.size [.ref (a 0), .int X1, .int X2, .ref o9] sz wc) (va_Qi pC (fun u t9 => zB G cy (va_A wc sz) (w1 u) t9) (va_A wc sz)) mc ms (va_A wc sz))
    (hrm : (rm.cells = mc ∧ rm.slots = ms) ∧ rm.frames + 1 ≤ room_1.frames ∧ 8 + (5 + 11) + rm.locals ≤ room_1.locals) (hpC : ∀ r u, pC r u → r = nI k)
    (hR : ∀ sz, Met l yX11_inflow wsX11_inflow rm2 (zM G cy [.ref h, .int X1, .int X2] sz wr) (va_Qi pR (fun u t9 => zB G cy (va_A wr sz) (w2 u) t9) (va_A wr sz)) 0 0 (va_A wr sz))
    (hrm2 : (rm2.cells = 0 ∧ rm2.slots = 0) ∧ rm2.frames + 1 ≤ room_1.frames ∧ 8 + (6 + 11) + rm2.locals ≤ room_1.locals) (hpR : ∀ r u, pR r u → r = rv)
    (hm0 : wr[0]? = some (h, .inr (12, fs9))) (hm1 : ∀ u, (w2 u)[0]? = some (zMo h b T2 np2 (nI k))) (hk : k < 8) (hmc : mc ≤ 20 ∧ ms ≤ 5100)
    (hv : k = 0 → v = rv.toInt64) (ho : k = 0 → ∀ u, ∃ f, (w1 u)[qo]? = some (zL cy o9 1 f) ∧ f 0 = v)
    (hP : va_P G vwCl (wc ++ (wr ++ tl)) H) (hD : va_D (fun q : Nat => s.heap.size ≤ q) (wc ++ (wr ++ tl))) (hS : va_S (fun q : Nat => s.heap.size ≤ q) s.heap H locs) (hroom : cells + 20 ≤ room_1.cells ∧ slots + 5100 ≤ room_1.slots)
    (kk : ∀ (u : S) (u2 : S2) (H2 : Heap) (locs2 : List Loc) (ls2 : Array Slot), va_P G vwCl (w2 u2 ++ (w1 u ++ tl)) H2 → va_D (fun q : Nat => s.heap.size ≤ q) (w2 u2 ++ (w1 u ++ tl)) → va_S (fun q : Nat => s.heap.size ≤ q) s.heap H2 locs2 → lv_has ls2 8 [(4, .int (nI i6)), (0, .ref b9), (1, .ref (a 0)), (2, .ref h), (3, .ref o9)] → W p l e room_1 s m args below meth c H2 locs2 (cells + 20) (slots + 5100) Q (F0 m 1569 ls2 []))
    (hl : lv_has ls 8 [(4, .int (nI i6)), (0, .ref b9), (1, .ref (a 0)), (2, .ref h), (3, .ref o9)]) :
    W p l e room_1 s m args below meth c H locs cells slots Q (F0 m 1093 ls []) := by
  obtain ⟨hx, hb, hml, hown, hts, hX, hbl, hL, hl9, hK, hWd, hE⟩ := F
  have hbA : ¬ (fun q : Nat => s.heap.size ≤ q) b9 := Nat.not_le.mpr hbl
  have hA : ∀ q : Nat, s.heap.size ≤ q → (fun q : Nat => s.heap.size ≤ q) q := fun _ q => q
  obtain ⟨⟨hr1, hr2⟩, hr3, hr4⟩ := hrm
  obtain ⟨⟨hg1, hg2⟩, hg3, hg4⟩ := hrm2
  refine lv_aload_n hx hb dL_law_1093 rfl (lv_at hl 2 rfl) ?_
  refine lv_aload_n hx hb dL_law_1094 rfl (lv_at hl 1 rfl) ?_
  refine lv_iload hx hb dL_law_1095 (lv_at hl 0 rfl) ?_
  refine lv_iconst (v := nI 1) hx hb dL_law_1097 (by decide) ?_
  refine z_iadd hx hb dL_law_1098 ?_
  refine va_sld hx hb hX hbl hbA hS (vp_in_nI (by omega) (by omega)) dL_law_1099 ?_
  rw [nI_clamp (by omega), hx1]
  refine lv_aload_n hx hb dL_law_1100 rfl (lv_at hl 1 rfl) ?_
  refine lv_iload hx hb dL_law_1101 (lv_at hl 0 rfl) ?_
  refine lv_iconst (v := nI 2) hx hb dL_law_1103 (by decide) ?_
  refine z_iadd hx hb dL_law_1104 ?_
  refine va_sld hx hb hX hbl hbA hS (vp_in_nI (by omega) (by omega)) dL_law_1105 ?_
  rw [nI_clamp (by omega), hx2]
  refine lv_aload_n hx hb dL_law_1106 rfl (lv_at hl 4 rfl) ?_
  refine z_ciP (wc := wc) (wr := wr ++ tl) (vx_runSW (As := [.ref (a 0), .int X1, .int X2, .ref o9]) (rest := []) ⟨hx, hb, hml, hown, hwL_inflow hts⟩ (hC H.size) (vx_cwSW 4 (hwL_inflow hts) giL_inflow rfl hr1 hr2 (by decide +kernel) ⟨hr3, hr4⟩) (z_pHP hK hP hD hS (Nat.le_refl _) (fun _ q => q) hWd hE) rfl rfl hl.1 rfl (lv_room (Nat.le_of_ble_eq_true rfl)) dL_law_1107 ⟨by omega, by omega⟩) hP hD hS hA (fun r u H1 locs1 hr hP1 hD1 hS1 hz => ?_)
  obtain rfl : r = nI k := hpC r u hr
  refine lv_istore (lv' := [(5, .int (nI k)), (4, .int (nI i6)), (0, .ref b9), (1, .ref (a 0)), (2, .ref h), (3, .ref o9)]) hx hb dL_law_1110 hl (by decide) rfl (fun ls hl => ?_)
  refine lv_aload_n hx hb dL_law_1112 rfl (lv_at hl 4 rfl) ?_
  refine lv_aload_n hx hb dL_law_1113 rfl (lv_at hl 2 rfl) ?_
  refine lv_iload hx hb dL_law_1114 (lv_at hl 1 rfl) ?_
  refine lv_iconst (v := nI 1) hx hb dL_law_1116 (by decide) ?_
  refine z_iadd hx hb dL_law_1117 ?_
  refine va_sld hx hb hX hbl hbA hS1 (vp_in_nI (by omega) (by omega)) dL_law_1118 ?_
  rw [nI_clamp (by omega), hx1]
  refine lv_aload_n hx hb dL_law_1119 rfl (lv_at hl 2 rfl) ?_
  refine lv_iload hx hb dL_law_1120 (lv_at hl 1 rfl) ?_
  refine lv_iconst (v := nI 2) hx hb dL_law_1122 (by decide) ?_
  refine z_iadd hx hb dL_law_1123 ?_
  refine va_sld hx hb hX hbl hbA hS1 (vp_in_nI (by omega) (by omega)) dL_law_1124 ?_
  rw [nI_clamp (by omega), hx2]
  have hP2 : va_P G vwCl (wr ++ (w1 u ++ tl)) H1 := z_P_perm z_rot hP1
  have hD2 : va_D (fun q : Nat => s.heap.size ≤ q) (wr ++ (w1 u ++ tl)) := z_D_perm z_rot hD1
  refine z_ciP (wc := wr) (wr := w1 u ++ tl) (va_runV (As := [.int X1, .int X2]) (rest := []) ⟨hx, hb, hml, hown, hwX_inflow hts⟩ (hR H1.size) (cwV 2 (hwX_inflow hts) giX_inflow rfl hg1 hg2 (by decide +kernel) ⟨hg3, hg4⟩) (z_pVP (ci := 12) hK hP2 hD2 rfl rfl 0 hm0) rfl rfl hl.1 rfl (lv_room (Nat.le_of_ble_eq_true rfl)) dL_law_1125 ⟨by omega, by omega⟩) hP2 hD2 hS1 hA (fun r2 u2 H2 locs2 hr2b hP3 hD3 hS3 hz2 => ?_)
  obtain rfl : r2 = rv := hpR r2 u2 hr2b
  refine lv_istore (lv' := [(6, .int r2), (5, .int (nI k)), (4, .int (nI i6)), (0, .ref b9), (1, .ref (a 0)), (2, .ref h), (3, .ref o9)]) hx hb dL_law_1128 hl (by decide) rfl (fun ls hl => ?_)
  refine lv_aload_n hx hb dL_law_1130 rfl (lv_at hl 5 rfl) ?_
  have hm2 := z_ap0 (b := w1 u ++ tl) (hm1 u2)
  refine vp_callSi (va_runV (As := []) (rest := []) ⟨hx, hb, hml, hown, hwX_thrown hts⟩ (c_X11_thrown l G cy h b T2 np2 (nI k)) (cwV 0 (hwX_thrown hts) giX_thrown rfl rfl rfl (by decide +kernel) ⟨Nat.le_of_ble_eq_true rfl, Nat.le_of_ble_eq_true rfl⟩) (z_pV (wc := [zMo h b T2 np2 (nI k)]) hK hP3 [0] (z_fm1 hm2) (ci := 12) (q0 := 0) rfl rfl rfl) rfl rfl hl.1 rfl (lv_room (Nat.le_of_ble_eq_true rfl)) dL_law_1131 ⟨by omega, by omega⟩).run (fun r3 hr3 => ?_)
  obtain rfl : r3 = nI k := hr3
  refine lv_iload hx hb dL_law_1134 (lv_at hl 1 rfl) ?_
  refine lv_icmp_eq (tgt := 1141) hx hb dL_law_1136 (by decide) (fun _ => ?_) (fun q => absurd rfl q)
  refine lv_iload hx hb dL_law_1141 (lv_at hl 1 rfl) ?_
  refine z_if_ne (tgt := 1158) hx hb (by omega) dL_law_1143 (by decide) (fun _ => ?_) (fun hk0 => ?_)
  · refine lv_goto (tgt := 1569) hx hb dL_law_1158 (by decide) ?_
    exact W.widen (k := cells + 20) (n := slots + 5100) (by omega) (by omega) (kk u u2 H2 locs2 _ hP3 hD3 hS3 (lv_sub hl [2, 3, 4, 5, 6] rfl))
  · obtain ⟨f9, hf1, hf2⟩ := ho hk0 u
    obtain ⟨q0, hq0⟩ := z_memi (List.mem_append_right (w2 u2) (List.mem_append_left tl (List.mem_of_getElem? hf1)))
    refine lv_aload_n hx hb dL_law_1146 rfl (lv_at hl 6 rfl) ?_
    refine lv_iconst (v := nI 0) hx hb dL_law_1147 (by decide) ?_
    refine z_lald (G := G) (v := v) hx hb hK hP3 q0 hq0 (by omega) hf2 dL_law_1148 ?_
    refine lv_iload hx hb dL_law_1149 (lv_at hl 0 rfl) ?_
    refine lv_i2l (v := r2.toInt64) hx hb dL_law_1151 rfl ?_
    refine z_lc_eq (tgt := 1158) hx hb dL_law_1152 dL_law_1153 (by decide) (fun _ => ?_) (fun q => absurd (hv hk0) q)
    refine lv_goto (tgt := 1569) hx hb dL_law_1158 (by decide) ?_
    exact W.widen (k := cells + 20) (n := slots + 5100) (by omega) (by omega) (kk u u2 H2 locs2 _ hP3 hD3 hS3 (lv_sub hl [2, 3, 4, 5, 6] rfl))
set_option maxHeartbeats 4000000 in
theorem lo_settle {S S2 : Type} {rm rm2 : Room} {mc ms k T2 np2 : Nat} {v : Int64} {rv : Int32} {X1 : Int32} {wc wr tl : va_W} {w1 : S → va_W} {w2 : S2 → va_W} {pC : Int32 → S → Prop} {pR : Int32 → S2 → Prop} {qo : Nat} {fs9 : List Value}
    (F : zFix p l s m args c b9 L xs G cy wd fo) (hi : i6 + 5 < L) (hx1 : xs (i6 + 1) = X1)
    (hC : ∀ sz, Met l yL_settle wsL_settle rm (zMH G cy wd fo s.heap.size [.ref (a 0), .int X1, .ref o9] sz wc) (va_Qi pC (fun u t9 => zB G cy (va_A wc sz) (w1 u) t9) (va_A wc sz)) mc ms (va_A wc sz))
    (hrm : (rm.cells = mc ∧ rm.slots = ms) ∧ rm.frames + 1 ≤ room_1.frames ∧ 8 + (4 + 11) + rm.locals ≤ room_1.locals) (hpC : ∀ r u, pC r u → r = nI k)
    (hR : ∀ sz, Met l yX11_settle wsX11_settle rm2 (zM G cy [.ref h, .int X1] sz wr) (va_Qi pR (fun u t9 => zB G cy (va_A wr sz) (w2 u) t9) (va_A wr sz)) 0 0 (va_A wr sz))
    (hrm2 : (rm2.cells = 0 ∧ rm2.slots = 0) ∧ rm2.frames + 1 ≤ room_1.frames ∧ 8 + (12 + 11) + rm2.locals ≤ room_1.locals) (hpR : ∀ r u, pR r u → r = rv)
    (hm0 : wr[0]? = some (h, .inr (12, fs9))) (hm1 : ∀ u, (w2 u)[0]? = some (zMo h b T2 np2 (nI k))) (hk : k < 8) (hmc : mc ≤ 20 ∧ ms ≤ 5100)
    (hv : k = 0 → v = rv.toInt64) (ho : k = 0 → ∀ u, ∃ f, (w1 u)[qo]? = some (zL cy o9 1 f) ∧ f 0 = v)
    (hP : va_P G vwCl (wc ++ (wr ++ tl)) H) (hD : va_D (fun q : Nat => s.heap.size ≤ q) (wc ++ (wr ++ tl))) (hS : va_S (fun q : Nat => s.heap.size ≤ q) s.heap H locs) (hroom : cells + 20 ≤ room_1.cells ∧ slots + 5100 ≤ room_1.slots)
    (kk : ∀ (u : S) (u2 : S2) (H2 : Heap) (locs2 : List Loc) (ls2 : Array Slot), va_P G vwCl (w2 u2 ++ (w1 u ++ tl)) H2 → va_D (fun q : Nat => s.heap.size ≤ q) (w2 u2 ++ (w1 u ++ tl)) → va_S (fun q : Nat => s.heap.size ≤ q) s.heap H2 locs2 → lv_has ls2 8 [(4, .int (nI i6)), (0, .ref b9), (1, .ref (a 0)), (2, .ref h), (3, .ref o9)] → W p l e room_1 s m args below meth c H2 locs2 (cells + 20) (slots + 5100) Q (F0 m 1569 ls2 []))
    (hl : lv_has ls 8 [(4, .int (nI i6)), (0, .ref b9), (1, .ref (a 0)), (2, .ref h), (3, .ref o9)]) :
    W p l e room_1 s m args below meth c H locs cells slots Q (F0 m 1161 ls []) := by
  obtain ⟨hx, hb, hml, hown, hts, hX, hbl, hL, hl9, hK, hWd, hE⟩ := F
  have hbA : ¬ (fun q : Nat => s.heap.size ≤ q) b9 := Nat.not_le.mpr hbl
  have hA : ∀ q : Nat, s.heap.size ≤ q → (fun q : Nat => s.heap.size ≤ q) q := fun _ q => q
  obtain ⟨⟨hr1, hr2⟩, hr3, hr4⟩ := hrm
  obtain ⟨⟨hg1, hg2⟩, hg3, hg4⟩ := hrm2
  refine lv_aload_n hx hb dL_law_1161 rfl (lv_at hl 2 rfl) ?_
  refine lv_aload_n hx hb dL_law_1162 rfl (lv_at hl 1 rfl) ?_
  refine lv_iload hx hb dL_law_1163 (lv_at hl 0 rfl) ?_
  refine lv_iconst (v := nI 1) hx hb dL_law_1165 (by decide) ?_
  refine z_iadd hx hb dL_law_1166 ?_
  refine va_sld hx hb hX hbl hbA hS (vp_in_nI (by omega) (by omega)) dL_law_1167 ?_
  rw [nI_clamp (by omega), hx1]
  refine lv_aload_n hx hb dL_law_1168 rfl (lv_at hl 4 rfl) ?_
  refine z_ciP (wc := wc) (wr := wr ++ tl) (vx_runSW (As := [.ref (a 0), .int X1, .ref o9]) (rest := []) ⟨hx, hb, hml, hown, hwL_settle hts⟩ (hC H.size) (vx_cwSW 3 (hwL_settle hts) giL_settle rfl hr1 hr2 (by decide +kernel) ⟨hr3, hr4⟩) (z_pHP hK hP hD hS (Nat.le_refl _) (fun _ q => q) hWd hE) rfl rfl hl.1 rfl (lv_room (Nat.le_of_ble_eq_true rfl)) dL_law_1169 ⟨by omega, by omega⟩) hP hD hS hA (fun r u H1 locs1 hr hP1 hD1 hS1 hz => ?_)
  obtain rfl : r = nI k := hpC r u hr
  refine lv_istore (lv' := [(5, .int (nI k)), (4, .int (nI i6)), (0, .ref b9), (1, .ref (a 0)), (2, .ref h), (3, .ref o9)]) hx hb dL_law_1172 hl (by decide) rfl (fun ls hl => ?_)
  refine lv_aload_n hx hb dL_law_1174 rfl (lv_at hl 4 rfl) ?_
  refine lv_aload_n hx hb dL_law_1175 rfl (lv_at hl 2 rfl) ?_
  refine lv_iload hx hb dL_law_1176 (lv_at hl 1 rfl) ?_
  refine lv_iconst (v := nI 1) hx hb dL_law_1178 (by decide) ?_
  refine z_iadd hx hb dL_law_1179 ?_
  refine va_sld hx hb hX hbl hbA hS1 (vp_in_nI (by omega) (by omega)) dL_law_1180 ?_
  rw [nI_clamp (by omega), hx1]
  have hP2 : va_P G vwCl (wr ++ (w1 u ++ tl)) H1 := z_P_perm z_rot hP1
  have hD2 : va_D (fun q : Nat => s.heap.size ≤ q) (wr ++ (w1 u ++ tl)) := z_D_perm z_rot hD1
  refine z_ciP (wc := wr) (wr := w1 u ++ tl) (va_runV (As := [.int X1]) (rest := []) ⟨hx, hb, hml, hown, hwX_settle hts⟩ (hR H1.size) (cwV 1 (hwX_settle hts) giX_settle rfl hg1 hg2 (by decide +kernel) ⟨hg3, hg4⟩) (z_pVP (ci := 12) hK hP2 hD2 rfl rfl 0 hm0) rfl rfl hl.1 rfl (lv_room (Nat.le_of_ble_eq_true rfl)) dL_law_1181 ⟨by omega, by omega⟩) hP2 hD2 hS1 hA (fun r2 u2 H2 locs2 hr2b hP3 hD3 hS3 hz2 => ?_)
  obtain rfl : r2 = rv := hpR r2 u2 hr2b
  refine lv_istore (lv' := [(6, .int r2), (5, .int (nI k)), (4, .int (nI i6)), (0, .ref b9), (1, .ref (a 0)), (2, .ref h), (3, .ref o9)]) hx hb dL_law_1184 hl (by decide) rfl (fun ls hl => ?_)
  refine lv_aload_n hx hb dL_law_1186 rfl (lv_at hl 5 rfl) ?_
  have hm2 := z_ap0 (b := w1 u ++ tl) (hm1 u2)
  refine vp_callSi (va_runV (As := []) (rest := []) ⟨hx, hb, hml, hown, hwX_thrown hts⟩ (c_X11_thrown l G cy h b T2 np2 (nI k)) (cwV 0 (hwX_thrown hts) giX_thrown rfl rfl rfl (by decide +kernel) ⟨Nat.le_of_ble_eq_true rfl, Nat.le_of_ble_eq_true rfl⟩) (z_pV (wc := [zMo h b T2 np2 (nI k)]) hK hP3 [0] (z_fm1 hm2) (ci := 12) (q0 := 0) rfl rfl rfl) rfl rfl hl.1 rfl (lv_room (Nat.le_of_ble_eq_true rfl)) dL_law_1187 ⟨by omega, by omega⟩).run (fun r3 hr3 => ?_)
  obtain rfl : r3 = nI k := hr3
  refine lv_iload hx hb dL_law_1190 (lv_at hl 1 rfl) ?_
  refine lv_icmp_eq (tgt := 1197) hx hb dL_law_1192 (by decide) (fun _ => ?_) (fun q => absurd rfl q)
  refine lv_iload hx hb dL_law_1197 (lv_at hl 1 rfl) ?_
  refine z_if_ne (tgt := 1214) hx hb (by omega) dL_law_1199 (by decide) (fun _ => ?_) (fun hk0 => ?_)
  · refine lv_goto (tgt := 1569) hx hb dL_law_1214 (by decide) ?_
    exact W.widen (k := cells + 20) (n := slots + 5100) (by omega) (by omega) (kk u u2 H2 locs2 _ hP3 hD3 hS3 (lv_sub hl [2, 3, 4, 5, 6] rfl))
  · obtain ⟨f9, hf1, hf2⟩ := ho hk0 u
    obtain ⟨q0, hq0⟩ := z_memi (List.mem_append_right (w2 u2) (List.mem_append_left tl (List.mem_of_getElem? hf1)))
    refine lv_aload_n hx hb dL_law_1202 rfl (lv_at hl 6 rfl) ?_
    refine lv_iconst (v := nI 0) hx hb dL_law_1203 (by decide) ?_
    refine z_lald (G := G) (v := v) hx hb hK hP3 q0 hq0 (by omega) hf2 dL_law_1204 ?_
    refine lv_iload hx hb dL_law_1205 (lv_at hl 0 rfl) ?_
    refine lv_i2l (v := r2.toInt64) hx hb dL_law_1207 rfl ?_
    refine z_lc_eq (tgt := 1214) hx hb dL_law_1208 dL_law_1209 (by decide) (fun _ => ?_) (fun q => absurd (hv hk0) q)
    refine lv_goto (tgt := 1569) hx hb dL_law_1214 (by decide) ?_
    exact W.widen (k := cells + 20) (n := slots + 5100) (by omega) (by omega) (kk u u2 H2 locs2 _ hP3 hD3 hS3 (lv_sub hl [2, 3, 4, 5, 6] rfl))
set_option maxHeartbeats 4000000 in
theorem lo_settled {S S2 : Type} {rm rm2 : Room} {mc ms k T2 np2 : Nat} {v : Int64} {rv : Int32} {X1 X2 : Int32} {wc wr tl : va_W} {w1 : S → va_W} {w2 : S2 → va_W} {pC : Int32 → S → Prop} {pR : Int32 → S2 → Prop} {qo : Nat} {fs9 : List Value}
    (F : zFix p l s m args c b9 L xs G cy wd fo) (hi : i6 + 5 < L) (hx1 : xs (i6 + 1) = X1) (hx2 : xs (i6 + 2) = X2)
    (hC : ∀ sz, Met l yL_settled wsL_settled rm (zMH G cy wd fo s.heap.size [.ref (a 0), .int X1, .int X2, .ref o9] sz wc) (va_Qi pC (fun u t9 => zB G cy (va_A wc sz) (w1 u) t9) (va_A wc sz)) mc ms (va_A wc sz))
    (hrm : (rm.cells = mc ∧ rm.slots = ms) ∧ rm.frames + 1 ≤ room_1.frames ∧ 8 + (5 + 11) + rm.locals ≤ room_1.locals) (hpC : ∀ r u, pC r u → r = nI k)
    (hR : ∀ sz, Met l yX11_settled wsX11_settled rm2 (zM G cy [.ref h, .int X1, .int X2] sz wr) (va_Qi pR (fun u t9 => zB G cy (va_A wr sz) (w2 u) t9) (va_A wr sz)) 0 0 (va_A wr sz))
    (hrm2 : (rm2.cells = 0 ∧ rm2.slots = 0) ∧ rm2.frames + 1 ≤ room_1.frames ∧ 8 + (3 + 11) + rm2.locals ≤ room_1.locals) (hpR : ∀ r u, pR r u → r = rv)
    (hm0 : wr[0]? = some (h, .inr (12, fs9))) (hm1 : ∀ u, (w2 u)[0]? = some (zMo h b T2 np2 (nI k))) (hk : k < 8) (hmc : mc ≤ 20 ∧ ms ≤ 5100)
    (hv : k = 0 → v = rv.toInt64) (ho : k = 0 → ∀ u, ∃ f, (w1 u)[qo]? = some (zL cy o9 1 f) ∧ f 0 = v)
    (hP : va_P G vwCl (wc ++ (wr ++ tl)) H) (hD : va_D (fun q : Nat => s.heap.size ≤ q) (wc ++ (wr ++ tl))) (hS : va_S (fun q : Nat => s.heap.size ≤ q) s.heap H locs) (hroom : cells + 20 ≤ room_1.cells ∧ slots + 5100 ≤ room_1.slots)
    (kk : ∀ (u : S) (u2 : S2) (H2 : Heap) (locs2 : List Loc) (ls2 : Array Slot), va_P G vwCl (w2 u2 ++ (w1 u ++ tl)) H2 → va_D (fun q : Nat => s.heap.size ≤ q) (w2 u2 ++ (w1 u ++ tl)) → va_S (fun q : Nat => s.heap.size ≤ q) s.heap H2 locs2 → lv_has ls2 8 [(4, .int (nI i6)), (0, .ref b9), (1, .ref (a 0)), (2, .ref h), (3, .ref o9)] → W p l e room_1 s m args below meth c H2 locs2 (cells + 20) (slots + 5100) Q (F0 m 1569 ls2 []))
    (hl : lv_has ls 8 [(4, .int (nI i6)), (0, .ref b9), (1, .ref (a 0)), (2, .ref h), (3, .ref o9)]) :
    W p l e room_1 s m args below meth c H locs cells slots Q (F0 m 1217 ls []) := by
  obtain ⟨hx, hb, hml, hown, hts, hX, hbl, hL, hl9, hK, hWd, hE⟩ := F
  have hbA : ¬ (fun q : Nat => s.heap.size ≤ q) b9 := Nat.not_le.mpr hbl
  have hA : ∀ q : Nat, s.heap.size ≤ q → (fun q : Nat => s.heap.size ≤ q) q := fun _ q => q
  obtain ⟨⟨hr1, hr2⟩, hr3, hr4⟩ := hrm
  obtain ⟨⟨hg1, hg2⟩, hg3, hg4⟩ := hrm2
  refine lv_aload_n hx hb dL_law_1217 rfl (lv_at hl 2 rfl) ?_
  refine lv_aload_n hx hb dL_law_1218 rfl (lv_at hl 1 rfl) ?_
  refine lv_iload hx hb dL_law_1219 (lv_at hl 0 rfl) ?_
  refine lv_iconst (v := nI 1) hx hb dL_law_1221 (by decide) ?_
  refine z_iadd hx hb dL_law_1222 ?_
  refine va_sld hx hb hX hbl hbA hS (vp_in_nI (by omega) (by omega)) dL_law_1223 ?_
  rw [nI_clamp (by omega), hx1]
  refine lv_aload_n hx hb dL_law_1224 rfl (lv_at hl 1 rfl) ?_
  refine lv_iload hx hb dL_law_1225 (lv_at hl 0 rfl) ?_
  refine lv_iconst (v := nI 2) hx hb dL_law_1227 (by decide) ?_
  refine z_iadd hx hb dL_law_1228 ?_
  refine va_sld hx hb hX hbl hbA hS (vp_in_nI (by omega) (by omega)) dL_law_1229 ?_
  rw [nI_clamp (by omega), hx2]
  refine lv_aload_n hx hb dL_law_1230 rfl (lv_at hl 4 rfl) ?_
  refine z_ciP (wc := wc) (wr := wr ++ tl) (vx_runSW (As := [.ref (a 0), .int X1, .int X2, .ref o9]) (rest := []) ⟨hx, hb, hml, hown, hwL_settled hts⟩ (hC H.size) (vx_cwSW 4 (hwL_settled hts) giL_settled rfl hr1 hr2 (by decide +kernel) ⟨hr3, hr4⟩) (z_pHP hK hP hD hS (Nat.le_refl _) (fun _ q => q) hWd hE) rfl rfl hl.1 rfl (lv_room (Nat.le_of_ble_eq_true rfl)) dL_law_1231 ⟨by omega, by omega⟩) hP hD hS hA (fun r u H1 locs1 hr hP1 hD1 hS1 hz => ?_)
  obtain rfl : r = nI k := hpC r u hr
  refine lv_istore (lv' := [(5, .int (nI k)), (4, .int (nI i6)), (0, .ref b9), (1, .ref (a 0)), (2, .ref h), (3, .ref o9)]) hx hb dL_law_1234 hl (by decide) rfl (fun ls hl => ?_)
  refine lv_aload_n hx hb dL_law_1236 rfl (lv_at hl 4 rfl) ?_
  refine lv_aload_n hx hb dL_law_1237 rfl (lv_at hl 2 rfl) ?_
  refine lv_iload hx hb dL_law_1238 (lv_at hl 1 rfl) ?_
  refine lv_iconst (v := nI 1) hx hb dL_law_1240 (by decide) ?_
  refine z_iadd hx hb dL_law_1241 ?_
  refine va_sld hx hb hX hbl hbA hS1 (vp_in_nI (by omega) (by omega)) dL_law_1242 ?_
  rw [nI_clamp (by omega), hx1]
  refine lv_aload_n hx hb dL_law_1243 rfl (lv_at hl 2 rfl) ?_
  refine lv_iload hx hb dL_law_1244 (lv_at hl 1 rfl) ?_
  refine lv_iconst (v := nI 2) hx hb dL_law_1246 (by decide) ?_
  refine z_iadd hx hb dL_law_1247 ?_
  refine va_sld hx hb hX hbl hbA hS1 (vp_in_nI (by omega) (by omega)) dL_law_1248 ?_
  rw [nI_clamp (by omega), hx2]
  have hP2 : va_P G vwCl (wr ++ (w1 u ++ tl)) H1 := z_P_perm z_rot hP1
  have hD2 : va_D (fun q : Nat => s.heap.size ≤ q) (wr ++ (w1 u ++ tl)) := z_D_perm z_rot hD1
  refine z_ciP (wc := wr) (wr := w1 u ++ tl) (va_runV (As := [.int X1, .int X2]) (rest := []) ⟨hx, hb, hml, hown, hwX_settled hts⟩ (hR H1.size) (cwV 2 (hwX_settled hts) giX_settled rfl hg1 hg2 (by decide +kernel) ⟨hg3, hg4⟩) (z_pVP (ci := 12) hK hP2 hD2 rfl rfl 0 hm0) rfl rfl hl.1 rfl (lv_room (Nat.le_of_ble_eq_true rfl)) dL_law_1249 ⟨by omega, by omega⟩) hP2 hD2 hS1 hA (fun r2 u2 H2 locs2 hr2b hP3 hD3 hS3 hz2 => ?_)
  obtain rfl : r2 = rv := hpR r2 u2 hr2b
  refine lv_istore (lv' := [(6, .int r2), (5, .int (nI k)), (4, .int (nI i6)), (0, .ref b9), (1, .ref (a 0)), (2, .ref h), (3, .ref o9)]) hx hb dL_law_1252 hl (by decide) rfl (fun ls hl => ?_)
  refine lv_aload_n hx hb dL_law_1254 rfl (lv_at hl 5 rfl) ?_
  have hm2 := z_ap0 (b := w1 u ++ tl) (hm1 u2)
  refine vp_callSi (va_runV (As := []) (rest := []) ⟨hx, hb, hml, hown, hwX_thrown hts⟩ (c_X11_thrown l G cy h b T2 np2 (nI k)) (cwV 0 (hwX_thrown hts) giX_thrown rfl rfl rfl (by decide +kernel) ⟨Nat.le_of_ble_eq_true rfl, Nat.le_of_ble_eq_true rfl⟩) (z_pV (wc := [zMo h b T2 np2 (nI k)]) hK hP3 [0] (z_fm1 hm2) (ci := 12) (q0 := 0) rfl rfl rfl) rfl rfl hl.1 rfl (lv_room (Nat.le_of_ble_eq_true rfl)) dL_law_1255 ⟨by omega, by omega⟩).run (fun r3 hr3 => ?_)
  obtain rfl : r3 = nI k := hr3
  refine lv_iload hx hb dL_law_1258 (lv_at hl 1 rfl) ?_
  refine lv_icmp_eq (tgt := 1265) hx hb dL_law_1260 (by decide) (fun _ => ?_) (fun q => absurd rfl q)
  refine lv_iload hx hb dL_law_1265 (lv_at hl 1 rfl) ?_
  refine z_if_ne (tgt := 1282) hx hb (by omega) dL_law_1267 (by decide) (fun _ => ?_) (fun hk0 => ?_)
  · refine lv_goto (tgt := 1569) hx hb dL_law_1282 (by decide) ?_
    exact W.widen (k := cells + 20) (n := slots + 5100) (by omega) (by omega) (kk u u2 H2 locs2 _ hP3 hD3 hS3 (lv_sub hl [2, 3, 4, 5, 6] rfl))
  · obtain ⟨f9, hf1, hf2⟩ := ho hk0 u
    obtain ⟨q0, hq0⟩ := z_memi (List.mem_append_right (w2 u2) (List.mem_append_left tl (List.mem_of_getElem? hf1)))
    refine lv_aload_n hx hb dL_law_1270 rfl (lv_at hl 6 rfl) ?_
    refine lv_iconst (v := nI 0) hx hb dL_law_1271 (by decide) ?_
    refine z_lald (G := G) (v := v) hx hb hK hP3 q0 hq0 (by omega) hf2 dL_law_1272 ?_
    refine lv_iload hx hb dL_law_1273 (lv_at hl 0 rfl) ?_
    refine lv_i2l (v := r2.toInt64) hx hb dL_law_1275 rfl ?_
    refine z_lc_eq (tgt := 1282) hx hb dL_law_1276 dL_law_1277 (by decide) (fun _ => ?_) (fun q => absurd (hv hk0) q)
    refine lv_goto (tgt := 1569) hx hb dL_law_1282 (by decide) ?_
    exact W.widen (k := cells + 20) (n := slots + 5100) (by omega) (by omega) (kk u u2 H2 locs2 _ hP3 hD3 hS3 (lv_sub hl [2, 3, 4, 5, 6] rfl))
set_option maxHeartbeats 4000000 in
theorem lo_volume {S S2 : Type} {rm rm2 : Room} {mc ms k T2 np2 : Nat} {v : Int64} {rv : Int32} {X1 X2 : Int32} {wc wr tl : va_W} {w1 : S → va_W} {w2 : S2 → va_W} {pC : Int32 → S → Prop} {pR : Int32 → S2 → Prop} {qo : Nat} {fs9 : List Value}
    (F : zFix p l s m args c b9 L xs G cy wd fo) (hi : i6 + 5 < L) (hx1 : xs (i6 + 1) = X1) (hx2 : xs (i6 + 2) = X2)
    (hC : ∀ sz, Met l yL_volume wsL_volume rm (zMH G cy wd fo s.heap.size [.ref (a 0), .int X1, .int X2, .ref o9] sz wc) (va_Qi pC (fun u t9 => zB G cy (va_A wc sz) (w1 u) t9) (va_A wc sz)) mc ms (va_A wc sz))
    (hrm : (rm.cells = mc ∧ rm.slots = ms) ∧ rm.frames + 1 ≤ room_1.frames ∧ 8 + (5 + 11) + rm.locals ≤ room_1.locals) (hpC : ∀ r u, pC r u → r = nI k)
    (hR : ∀ sz, Met l yX11_volume wsX11_volume rm2 (zM G cy [.ref h, .int X1, .int X2] sz wr) (va_Qi pR (fun u t9 => zB G cy (va_A wr sz) (w2 u) t9) (va_A wr sz)) 0 0 (va_A wr sz))
    (hrm2 : (rm2.cells = 0 ∧ rm2.slots = 0) ∧ rm2.frames + 1 ≤ room_1.frames ∧ 8 + (3 + 11) + rm2.locals ≤ room_1.locals) (hpR : ∀ r u, pR r u → r = rv)
    (hm0 : wr[0]? = some (h, .inr (12, fs9))) (hm1 : ∀ u, (w2 u)[0]? = some (zMo h b T2 np2 (nI k))) (hk : k < 8) (hmc : mc ≤ 20 ∧ ms ≤ 5100)
    (hv : k = 0 → v = rv.toInt64) (ho : k = 0 → ∀ u, ∃ f, (w1 u)[qo]? = some (zL cy o9 1 f) ∧ f 0 = v)
    (hP : va_P G vwCl (wc ++ (wr ++ tl)) H) (hD : va_D (fun q : Nat => s.heap.size ≤ q) (wc ++ (wr ++ tl))) (hS : va_S (fun q : Nat => s.heap.size ≤ q) s.heap H locs) (hroom : cells + 20 ≤ room_1.cells ∧ slots + 5100 ≤ room_1.slots)
    (kk : ∀ (u : S) (u2 : S2) (H2 : Heap) (locs2 : List Loc) (ls2 : Array Slot), va_P G vwCl (w2 u2 ++ (w1 u ++ tl)) H2 → va_D (fun q : Nat => s.heap.size ≤ q) (w2 u2 ++ (w1 u ++ tl)) → va_S (fun q : Nat => s.heap.size ≤ q) s.heap H2 locs2 → lv_has ls2 8 [(4, .int (nI i6)), (0, .ref b9), (1, .ref (a 0)), (2, .ref h), (3, .ref o9)] → W p l e room_1 s m args below meth c H2 locs2 (cells + 20) (slots + 5100) Q (F0 m 1569 ls2 []))
    (hl : lv_has ls 8 [(4, .int (nI i6)), (0, .ref b9), (1, .ref (a 0)), (2, .ref h), (3, .ref o9)]) :
    W p l e room_1 s m args below meth c H locs cells slots Q (F0 m 1285 ls []) := by
  obtain ⟨hx, hb, hml, hown, hts, hX, hbl, hL, hl9, hK, hWd, hE⟩ := F
  have hbA : ¬ (fun q : Nat => s.heap.size ≤ q) b9 := Nat.not_le.mpr hbl
  have hA : ∀ q : Nat, s.heap.size ≤ q → (fun q : Nat => s.heap.size ≤ q) q := fun _ q => q
  obtain ⟨⟨hr1, hr2⟩, hr3, hr4⟩ := hrm
  obtain ⟨⟨hg1, hg2⟩, hg3, hg4⟩ := hrm2
  refine lv_aload_n hx hb dL_law_1285 rfl (lv_at hl 2 rfl) ?_
  refine lv_aload_n hx hb dL_law_1286 rfl (lv_at hl 1 rfl) ?_
  refine lv_iload hx hb dL_law_1287 (lv_at hl 0 rfl) ?_
  refine lv_iconst (v := nI 1) hx hb dL_law_1289 (by decide) ?_
  refine z_iadd hx hb dL_law_1290 ?_
  refine va_sld hx hb hX hbl hbA hS (vp_in_nI (by omega) (by omega)) dL_law_1291 ?_
  rw [nI_clamp (by omega), hx1]
  refine lv_aload_n hx hb dL_law_1292 rfl (lv_at hl 1 rfl) ?_
  refine lv_iload hx hb dL_law_1293 (lv_at hl 0 rfl) ?_
  refine lv_iconst (v := nI 2) hx hb dL_law_1295 (by decide) ?_
  refine z_iadd hx hb dL_law_1296 ?_
  refine va_sld hx hb hX hbl hbA hS (vp_in_nI (by omega) (by omega)) dL_law_1297 ?_
  rw [nI_clamp (by omega), hx2]
  refine lv_aload_n hx hb dL_law_1298 rfl (lv_at hl 4 rfl) ?_
  refine z_ciP (wc := wc) (wr := wr ++ tl) (vx_runSW (As := [.ref (a 0), .int X1, .int X2, .ref o9]) (rest := []) ⟨hx, hb, hml, hown, hwL_volume hts⟩ (hC H.size) (vx_cwSW 4 (hwL_volume hts) giL_volume rfl hr1 hr2 (by decide +kernel) ⟨hr3, hr4⟩) (z_pHP hK hP hD hS (Nat.le_refl _) (fun _ q => q) hWd hE) rfl rfl hl.1 rfl (lv_room (Nat.le_of_ble_eq_true rfl)) dL_law_1299 ⟨by omega, by omega⟩) hP hD hS hA (fun r u H1 locs1 hr hP1 hD1 hS1 hz => ?_)
  obtain rfl : r = nI k := hpC r u hr
  refine lv_istore (lv' := [(5, .int (nI k)), (4, .int (nI i6)), (0, .ref b9), (1, .ref (a 0)), (2, .ref h), (3, .ref o9)]) hx hb dL_law_1302 hl (by decide) rfl (fun ls hl => ?_)
  refine lv_aload_n hx hb dL_law_1304 rfl (lv_at hl 4 rfl) ?_
  refine lv_aload_n hx hb dL_law_1305 rfl (lv_at hl 2 rfl) ?_
  refine lv_iload hx hb dL_law_1306 (lv_at hl 1 rfl) ?_
  refine lv_iconst (v := nI 1) hx hb dL_law_1308 (by decide) ?_
  refine z_iadd hx hb dL_law_1309 ?_
  refine va_sld hx hb hX hbl hbA hS1 (vp_in_nI (by omega) (by omega)) dL_law_1310 ?_
  rw [nI_clamp (by omega), hx1]
  refine lv_aload_n hx hb dL_law_1311 rfl (lv_at hl 2 rfl) ?_
  refine lv_iload hx hb dL_law_1312 (lv_at hl 1 rfl) ?_
  refine lv_iconst (v := nI 2) hx hb dL_law_1314 (by decide) ?_
  refine z_iadd hx hb dL_law_1315 ?_
  refine va_sld hx hb hX hbl hbA hS1 (vp_in_nI (by omega) (by omega)) dL_law_1316 ?_
  rw [nI_clamp (by omega), hx2]
  have hP2 : va_P G vwCl (wr ++ (w1 u ++ tl)) H1 := z_P_perm z_rot hP1
  have hD2 : va_D (fun q : Nat => s.heap.size ≤ q) (wr ++ (w1 u ++ tl)) := z_D_perm z_rot hD1
  refine z_ciP (wc := wr) (wr := w1 u ++ tl) (va_runV (As := [.int X1, .int X2]) (rest := []) ⟨hx, hb, hml, hown, hwX_volume hts⟩ (hR H1.size) (cwV 2 (hwX_volume hts) giX_volume rfl hg1 hg2 (by decide +kernel) ⟨hg3, hg4⟩) (z_pVP (ci := 12) hK hP2 hD2 rfl rfl 0 hm0) rfl rfl hl.1 rfl (lv_room (Nat.le_of_ble_eq_true rfl)) dL_law_1317 ⟨by omega, by omega⟩) hP2 hD2 hS1 hA (fun r2 u2 H2 locs2 hr2b hP3 hD3 hS3 hz2 => ?_)
  obtain rfl : r2 = rv := hpR r2 u2 hr2b
  refine lv_istore (lv' := [(6, .int r2), (5, .int (nI k)), (4, .int (nI i6)), (0, .ref b9), (1, .ref (a 0)), (2, .ref h), (3, .ref o9)]) hx hb dL_law_1320 hl (by decide) rfl (fun ls hl => ?_)
  refine lv_aload_n hx hb dL_law_1322 rfl (lv_at hl 5 rfl) ?_
  have hm2 := z_ap0 (b := w1 u ++ tl) (hm1 u2)
  refine vp_callSi (va_runV (As := []) (rest := []) ⟨hx, hb, hml, hown, hwX_thrown hts⟩ (c_X11_thrown l G cy h b T2 np2 (nI k)) (cwV 0 (hwX_thrown hts) giX_thrown rfl rfl rfl (by decide +kernel) ⟨Nat.le_of_ble_eq_true rfl, Nat.le_of_ble_eq_true rfl⟩) (z_pV (wc := [zMo h b T2 np2 (nI k)]) hK hP3 [0] (z_fm1 hm2) (ci := 12) (q0 := 0) rfl rfl rfl) rfl rfl hl.1 rfl (lv_room (Nat.le_of_ble_eq_true rfl)) dL_law_1323 ⟨by omega, by omega⟩).run (fun r3 hr3 => ?_)
  obtain rfl : r3 = nI k := hr3
  refine lv_iload hx hb dL_law_1326 (lv_at hl 1 rfl) ?_
  refine lv_icmp_eq (tgt := 1333) hx hb dL_law_1328 (by decide) (fun _ => ?_) (fun q => absurd rfl q)
  refine lv_iload hx hb dL_law_1333 (lv_at hl 1 rfl) ?_
  refine z_if_ne (tgt := 1350) hx hb (by omega) dL_law_1335 (by decide) (fun _ => ?_) (fun hk0 => ?_)
  · refine lv_goto (tgt := 1569) hx hb dL_law_1350 (by decide) ?_
    exact W.widen (k := cells + 20) (n := slots + 5100) (by omega) (by omega) (kk u u2 H2 locs2 _ hP3 hD3 hS3 (lv_sub hl [2, 3, 4, 5, 6] rfl))
  · obtain ⟨f9, hf1, hf2⟩ := ho hk0 u
    obtain ⟨q0, hq0⟩ := z_memi (List.mem_append_right (w2 u2) (List.mem_append_left tl (List.mem_of_getElem? hf1)))
    refine lv_aload_n hx hb dL_law_1338 rfl (lv_at hl 6 rfl) ?_
    refine lv_iconst (v := nI 0) hx hb dL_law_1339 (by decide) ?_
    refine z_lald (G := G) (v := v) hx hb hK hP3 q0 hq0 (by omega) hf2 dL_law_1340 ?_
    refine lv_iload hx hb dL_law_1341 (lv_at hl 0 rfl) ?_
    refine lv_i2l (v := r2.toInt64) hx hb dL_law_1343 rfl ?_
    refine z_lc_eq (tgt := 1350) hx hb dL_law_1344 dL_law_1345 (by decide) (fun _ => ?_) (fun q => absurd (hv hk0) q)
    refine lv_goto (tgt := 1569) hx hb dL_law_1350 (by decide) ?_
    exact W.widen (k := cells + 20) (n := slots + 5100) (by omega) (by omega) (kk u u2 H2 locs2 _ hP3 hD3 hS3 (lv_sub hl [2, 3, 4, 5, 6] rfl))
set_option maxHeartbeats 4000000 in
theorem lo_volumeAnew {S S2 : Type} {rm rm2 : Room} {mc ms k T2 np2 : Nat} {v : Int64} {rv : Int32} {X1 X2 : Int32} {wc wr tl : va_W} {w1 : S → va_W} {w2 : S2 → va_W} {pC : Int32 → S → Prop} {pR : Int32 → S2 → Prop} {qo : Nat} {fs9 : List Value}
    (F : zFix p l s m args c b9 L xs G cy wd fo) (hi : i6 + 5 < L) (hx1 : xs (i6 + 1) = X1) (hx2 : xs (i6 + 2) = X2)
    (hC : ∀ sz, Met l yL_volumeAnew wsL_volumeAnew rm (zMH G cy wd fo s.heap.size [.ref (a 0), .int X1, .int X2, .ref o9] sz wc) (va_Qi pC (fun u t9 => zB G cy (va_A wc sz) (w1 u) t9) (va_A wc sz)) mc ms (va_A wc sz))
    (hrm : (rm.cells = mc ∧ rm.slots = ms) ∧ rm.frames + 1 ≤ room_1.frames ∧ 8 + (5 + 11) + rm.locals ≤ room_1.locals) (hpC : ∀ r u, pC r u → r = nI k)
    (hR : ∀ sz, Met l yX11_volumeAnew wsX11_volumeAnew rm2 (zM G cy [.ref h, .int X1, .int X2] sz wr) (va_Qi pR (fun u t9 => zB G cy (va_A wr sz) (w2 u) t9) (va_A wr sz)) 0 0 (va_A wr sz))
    (hrm2 : (rm2.cells = 0 ∧ rm2.slots = 0) ∧ rm2.frames + 1 ≤ room_1.frames ∧ 8 + (3 + 11) + rm2.locals ≤ room_1.locals) (hpR : ∀ r u, pR r u → r = rv)
    (hm0 : wr[0]? = some (h, .inr (12, fs9))) (hm1 : ∀ u, (w2 u)[0]? = some (zMo h b T2 np2 (nI k))) (hk : k < 8) (hmc : mc ≤ 20 ∧ ms ≤ 5100)
    (hv : k = 0 → v = rv.toInt64) (ho : k = 0 → ∀ u, ∃ f, (w1 u)[qo]? = some (zL cy o9 1 f) ∧ f 0 = v)
    (hP : va_P G vwCl (wc ++ (wr ++ tl)) H) (hD : va_D (fun q : Nat => s.heap.size ≤ q) (wc ++ (wr ++ tl))) (hS : va_S (fun q : Nat => s.heap.size ≤ q) s.heap H locs) (hroom : cells + 20 ≤ room_1.cells ∧ slots + 5100 ≤ room_1.slots)
    (kk : ∀ (u : S) (u2 : S2) (H2 : Heap) (locs2 : List Loc) (ls2 : Array Slot), va_P G vwCl (w2 u2 ++ (w1 u ++ tl)) H2 → va_D (fun q : Nat => s.heap.size ≤ q) (w2 u2 ++ (w1 u ++ tl)) → va_S (fun q : Nat => s.heap.size ≤ q) s.heap H2 locs2 → lv_has ls2 8 [(4, .int (nI i6)), (0, .ref b9), (1, .ref (a 0)), (2, .ref h), (3, .ref o9)] → W p l e room_1 s m args below meth c H2 locs2 (cells + 20) (slots + 5100) Q (F0 m 1569 ls2 []))
    (hl : lv_has ls 8 [(4, .int (nI i6)), (0, .ref b9), (1, .ref (a 0)), (2, .ref h), (3, .ref o9)]) :
    W p l e room_1 s m args below meth c H locs cells slots Q (F0 m 1353 ls []) := by
  obtain ⟨hx, hb, hml, hown, hts, hX, hbl, hL, hl9, hK, hWd, hE⟩ := F
  have hbA : ¬ (fun q : Nat => s.heap.size ≤ q) b9 := Nat.not_le.mpr hbl
  have hA : ∀ q : Nat, s.heap.size ≤ q → (fun q : Nat => s.heap.size ≤ q) q := fun _ q => q
  obtain ⟨⟨hr1, hr2⟩, hr3, hr4⟩ := hrm
  obtain ⟨⟨hg1, hg2⟩, hg3, hg4⟩ := hrm2
  refine lv_aload_n hx hb dL_law_1353 rfl (lv_at hl 2 rfl) ?_
  refine lv_aload_n hx hb dL_law_1354 rfl (lv_at hl 1 rfl) ?_
  refine lv_iload hx hb dL_law_1355 (lv_at hl 0 rfl) ?_
  refine lv_iconst (v := nI 1) hx hb dL_law_1357 (by decide) ?_
  refine z_iadd hx hb dL_law_1358 ?_
  refine va_sld hx hb hX hbl hbA hS (vp_in_nI (by omega) (by omega)) dL_law_1359 ?_
  rw [nI_clamp (by omega), hx1]
  refine lv_aload_n hx hb dL_law_1360 rfl (lv_at hl 1 rfl) ?_
  refine lv_iload hx hb dL_law_1361 (lv_at hl 0 rfl) ?_
  refine lv_iconst (v := nI 2) hx hb dL_law_1363 (by decide) ?_
  refine z_iadd hx hb dL_law_1364 ?_
  refine va_sld hx hb hX hbl hbA hS (vp_in_nI (by omega) (by omega)) dL_law_1365 ?_
  rw [nI_clamp (by omega), hx2]
  refine lv_aload_n hx hb dL_law_1366 rfl (lv_at hl 4 rfl) ?_
  refine z_ciP (wc := wc) (wr := wr ++ tl) (vx_runSW (As := [.ref (a 0), .int X1, .int X2, .ref o9]) (rest := []) ⟨hx, hb, hml, hown, hwL_volumeAnew hts⟩ (hC H.size) (vx_cwSW 4 (hwL_volumeAnew hts) giL_volumeAnew rfl hr1 hr2 (by decide +kernel) ⟨hr3, hr4⟩) (z_pHP hK hP hD hS (Nat.le_refl _) (fun _ q => q) hWd hE) rfl rfl hl.1 rfl (lv_room (Nat.le_of_ble_eq_true rfl)) dL_law_1367 ⟨by omega, by omega⟩) hP hD hS hA (fun r u H1 locs1 hr hP1 hD1 hS1 hz => ?_)
  obtain rfl : r = nI k := hpC r u hr
  refine lv_istore (lv' := [(5, .int (nI k)), (4, .int (nI i6)), (0, .ref b9), (1, .ref (a 0)), (2, .ref h), (3, .ref o9)]) hx hb dL_law_1370 hl (by decide) rfl (fun ls hl => ?_)
  refine lv_aload_n hx hb dL_law_1372 rfl (lv_at hl 4 rfl) ?_
  refine lv_aload_n hx hb dL_law_1373 rfl (lv_at hl 2 rfl) ?_
  refine lv_iload hx hb dL_law_1374 (lv_at hl 1 rfl) ?_
  refine lv_iconst (v := nI 1) hx hb dL_law_1376 (by decide) ?_
  refine z_iadd hx hb dL_law_1377 ?_
  refine va_sld hx hb hX hbl hbA hS1 (vp_in_nI (by omega) (by omega)) dL_law_1378 ?_
  rw [nI_clamp (by omega), hx1]
  refine lv_aload_n hx hb dL_law_1379 rfl (lv_at hl 2 rfl) ?_
  refine lv_iload hx hb dL_law_1380 (lv_at hl 1 rfl) ?_
  refine lv_iconst (v := nI 2) hx hb dL_law_1382 (by decide) ?_
  refine z_iadd hx hb dL_law_1383 ?_
  refine va_sld hx hb hX hbl hbA hS1 (vp_in_nI (by omega) (by omega)) dL_law_1384 ?_
  rw [nI_clamp (by omega), hx2]
  have hP2 : va_P G vwCl (wr ++ (w1 u ++ tl)) H1 := z_P_perm z_rot hP1
  have hD2 : va_D (fun q : Nat => s.heap.size ≤ q) (wr ++ (w1 u ++ tl)) := z_D_perm z_rot hD1
  refine z_ciP (wc := wr) (wr := w1 u ++ tl) (va_runV (As := [.int X1, .int X2]) (rest := []) ⟨hx, hb, hml, hown, hwX_volumeAnew hts⟩ (hR H1.size) (cwV 2 (hwX_volumeAnew hts) giX_volumeAnew rfl hg1 hg2 (by decide +kernel) ⟨hg3, hg4⟩) (z_pVP (ci := 12) hK hP2 hD2 rfl rfl 0 hm0) rfl rfl hl.1 rfl (lv_room (Nat.le_of_ble_eq_true rfl)) dL_law_1385 ⟨by omega, by omega⟩) hP2 hD2 hS1 hA (fun r2 u2 H2 locs2 hr2b hP3 hD3 hS3 hz2 => ?_)
  obtain rfl : r2 = rv := hpR r2 u2 hr2b
  refine lv_istore (lv' := [(6, .int r2), (5, .int (nI k)), (4, .int (nI i6)), (0, .ref b9), (1, .ref (a 0)), (2, .ref h), (3, .ref o9)]) hx hb dL_law_1388 hl (by decide) rfl (fun ls hl => ?_)
  refine lv_aload_n hx hb dL_law_1390 rfl (lv_at hl 5 rfl) ?_
  have hm2 := z_ap0 (b := w1 u ++ tl) (hm1 u2)
  refine vp_callSi (va_runV (As := []) (rest := []) ⟨hx, hb, hml, hown, hwX_thrown hts⟩ (c_X11_thrown l G cy h b T2 np2 (nI k)) (cwV 0 (hwX_thrown hts) giX_thrown rfl rfl rfl (by decide +kernel) ⟨Nat.le_of_ble_eq_true rfl, Nat.le_of_ble_eq_true rfl⟩) (z_pV (wc := [zMo h b T2 np2 (nI k)]) hK hP3 [0] (z_fm1 hm2) (ci := 12) (q0 := 0) rfl rfl rfl) rfl rfl hl.1 rfl (lv_room (Nat.le_of_ble_eq_true rfl)) dL_law_1391 ⟨by omega, by omega⟩).run (fun r3 hr3 => ?_)
  obtain rfl : r3 = nI k := hr3
  refine lv_iload hx hb dL_law_1394 (lv_at hl 1 rfl) ?_
  refine lv_icmp_eq (tgt := 1401) hx hb dL_law_1396 (by decide) (fun _ => ?_) (fun q => absurd rfl q)
  refine lv_iload hx hb dL_law_1401 (lv_at hl 1 rfl) ?_
  refine z_if_ne (tgt := 1418) hx hb (by omega) dL_law_1403 (by decide) (fun _ => ?_) (fun hk0 => ?_)
  · refine lv_goto (tgt := 1569) hx hb dL_law_1418 (by decide) ?_
    exact W.widen (k := cells + 20) (n := slots + 5100) (by omega) (by omega) (kk u u2 H2 locs2 _ hP3 hD3 hS3 (lv_sub hl [2, 3, 4, 5, 6] rfl))
  · obtain ⟨f9, hf1, hf2⟩ := ho hk0 u
    obtain ⟨q0, hq0⟩ := z_memi (List.mem_append_right (w2 u2) (List.mem_append_left tl (List.mem_of_getElem? hf1)))
    refine lv_aload_n hx hb dL_law_1406 rfl (lv_at hl 6 rfl) ?_
    refine lv_iconst (v := nI 0) hx hb dL_law_1407 (by decide) ?_
    refine z_lald (G := G) (v := v) hx hb hK hP3 q0 hq0 (by omega) hf2 dL_law_1408 ?_
    refine lv_iload hx hb dL_law_1409 (lv_at hl 0 rfl) ?_
    refine lv_i2l (v := r2.toInt64) hx hb dL_law_1411 rfl ?_
    refine z_lc_eq (tgt := 1418) hx hb dL_law_1412 dL_law_1413 (by decide) (fun _ => ?_) (fun q => absurd (hv hk0) q)
    refine lv_goto (tgt := 1569) hx hb dL_law_1418 (by decide) ?_
    exact W.widen (k := cells + 20) (n := slots + 5100) (by omega) (by omega) (kk u u2 H2 locs2 _ hP3 hD3 hS3 (lv_sub hl [2, 3, 4, 5, 6] rfl))
set_option maxHeartbeats 4000000 in
theorem lo_of {S S2 : Type} {rm rm2 : Room} {mc ms k T2 np2 : Nat} {v : Int64} {rv : Int32} {X1 X2 : Int32} {wc wr tl : va_W} {w1 : S → va_W} {w2 : S2 → va_W} {pC : Int32 → S → Prop} {pR : Int32 → S2 → Prop} {qo : Nat} {fs9 : List Value}
    (F : zFix p l s m args c b9 L xs G cy wd fo) (hi : i6 + 5 < L) (hx1 : xs (i6 + 1) = X1) (hx2 : xs (i6 + 2) = X2)
    (hC : ∀ sz, Met l yL_of wsL_of rm (zMH G cy wd fo s.heap.size [.ref (a 0), .int X1, .int X2, .ref o9] sz wc) (va_Qi pC (fun u t9 => zB G cy (va_A wc sz) (w1 u) t9) (va_A wc sz)) mc ms (va_A wc sz))
    (hrm : (rm.cells = mc ∧ rm.slots = ms) ∧ rm.frames + 1 ≤ room_1.frames ∧ 8 + (5 + 11) + rm.locals ≤ room_1.locals) (hpC : ∀ r u, pC r u → r = nI k)
    (hR : ∀ sz, Met l yX11_of wsX11_of rm2 (zM G cy [.ref h, .int X1, .int X2] sz wr) (va_Qi pR (fun u t9 => zB G cy (va_A wr sz) (w2 u) t9) (va_A wr sz)) 0 0 (va_A wr sz))
    (hrm2 : (rm2.cells = 0 ∧ rm2.slots = 0) ∧ rm2.frames + 1 ≤ room_1.frames ∧ 8 + (3 + 11) + rm2.locals ≤ room_1.locals) (hpR : ∀ r u, pR r u → r = rv)
    (hm0 : wr[0]? = some (h, .inr (12, fs9))) (hm1 : ∀ u, (w2 u)[0]? = some (zMo h b T2 np2 (nI k))) (hk : k < 8) (hmc : mc ≤ 20 ∧ ms ≤ 5100)
    (hv : k = 0 → v = rv.toInt64) (ho : k = 0 → ∀ u, ∃ f, (w1 u)[qo]? = some (zL cy o9 1 f) ∧ f 0 = v)
    (hP : va_P G vwCl (wc ++ (wr ++ tl)) H) (hD : va_D (fun q : Nat => s.heap.size ≤ q) (wc ++ (wr ++ tl))) (hS : va_S (fun q : Nat => s.heap.size ≤ q) s.heap H locs) (hroom : cells + 20 ≤ room_1.cells ∧ slots + 5100 ≤ room_1.slots)
    (kk : ∀ (u : S) (u2 : S2) (H2 : Heap) (locs2 : List Loc) (ls2 : Array Slot), va_P G vwCl (w2 u2 ++ (w1 u ++ tl)) H2 → va_D (fun q : Nat => s.heap.size ≤ q) (w2 u2 ++ (w1 u ++ tl)) → va_S (fun q : Nat => s.heap.size ≤ q) s.heap H2 locs2 → lv_has ls2 8 [(4, .int (nI i6)), (0, .ref b9), (1, .ref (a 0)), (2, .ref h), (3, .ref o9)] → W p l e room_1 s m args below meth c H2 locs2 (cells + 20) (slots + 5100) Q (F0 m 1569 ls2 []))
    (hl : lv_has ls 8 [(4, .int (nI i6)), (0, .ref b9), (1, .ref (a 0)), (2, .ref h), (3, .ref o9)]) :
    W p l e room_1 s m args below meth c H locs cells slots Q (F0 m 1421 ls []) := by
  obtain ⟨hx, hb, hml, hown, hts, hX, hbl, hL, hl9, hK, hWd, hE⟩ := F
  have hbA : ¬ (fun q : Nat => s.heap.size ≤ q) b9 := Nat.not_le.mpr hbl
  have hA : ∀ q : Nat, s.heap.size ≤ q → (fun q : Nat => s.heap.size ≤ q) q := fun _ q => q
  obtain ⟨⟨hr1, hr2⟩, hr3, hr4⟩ := hrm
  obtain ⟨⟨hg1, hg2⟩, hg3, hg4⟩ := hrm2
  refine lv_aload_n hx hb dL_law_1421 rfl (lv_at hl 2 rfl) ?_
  refine lv_aload_n hx hb dL_law_1422 rfl (lv_at hl 1 rfl) ?_
  refine lv_iload hx hb dL_law_1423 (lv_at hl 0 rfl) ?_
  refine lv_iconst (v := nI 1) hx hb dL_law_1425 (by decide) ?_
  refine z_iadd hx hb dL_law_1426 ?_
  refine va_sld hx hb hX hbl hbA hS (vp_in_nI (by omega) (by omega)) dL_law_1427 ?_
  rw [nI_clamp (by omega), hx1]
  refine lv_aload_n hx hb dL_law_1428 rfl (lv_at hl 1 rfl) ?_
  refine lv_iload hx hb dL_law_1429 (lv_at hl 0 rfl) ?_
  refine lv_iconst (v := nI 2) hx hb dL_law_1431 (by decide) ?_
  refine z_iadd hx hb dL_law_1432 ?_
  refine va_sld hx hb hX hbl hbA hS (vp_in_nI (by omega) (by omega)) dL_law_1433 ?_
  rw [nI_clamp (by omega), hx2]
  refine lv_aload_n hx hb dL_law_1434 rfl (lv_at hl 4 rfl) ?_
  refine z_ciP (wc := wc) (wr := wr ++ tl) (vx_runSW (As := [.ref (a 0), .int X1, .int X2, .ref o9]) (rest := []) ⟨hx, hb, hml, hown, hwL_of hts⟩ (hC H.size) (vx_cwSW 4 (hwL_of hts) giL_of rfl hr1 hr2 (by decide +kernel) ⟨hr3, hr4⟩) (z_pHP hK hP hD hS (Nat.le_refl _) (fun _ q => q) hWd hE) rfl rfl hl.1 rfl (lv_room (Nat.le_of_ble_eq_true rfl)) dL_law_1435 ⟨by omega, by omega⟩) hP hD hS hA (fun r u H1 locs1 hr hP1 hD1 hS1 hz => ?_)
  obtain rfl : r = nI k := hpC r u hr
  refine lv_istore (lv' := [(5, .int (nI k)), (4, .int (nI i6)), (0, .ref b9), (1, .ref (a 0)), (2, .ref h), (3, .ref o9)]) hx hb dL_law_1438 hl (by decide) rfl (fun ls hl => ?_)
  refine lv_aload_n hx hb dL_law_1440 rfl (lv_at hl 4 rfl) ?_
  refine lv_aload_n hx hb dL_law_1441 rfl (lv_at hl 2 rfl) ?_
  refine lv_iload hx hb dL_law_1442 (lv_at hl 1 rfl) ?_
  refine lv_iconst (v := nI 1) hx hb dL_law_1444 (by decide) ?_
  refine z_iadd hx hb dL_law_1445 ?_
  refine va_sld hx hb hX hbl hbA hS1 (vp_in_nI (by omega) (by omega)) dL_law_1446 ?_
  rw [nI_clamp (by omega), hx1]
  refine lv_aload_n hx hb dL_law_1447 rfl (lv_at hl 2 rfl) ?_
  refine lv_iload hx hb dL_law_1448 (lv_at hl 1 rfl) ?_
  refine lv_iconst (v := nI 2) hx hb dL_law_1450 (by decide) ?_
  refine z_iadd hx hb dL_law_1451 ?_
  refine va_sld hx hb hX hbl hbA hS1 (vp_in_nI (by omega) (by omega)) dL_law_1452 ?_
  rw [nI_clamp (by omega), hx2]
  have hP2 : va_P G vwCl (wr ++ (w1 u ++ tl)) H1 := z_P_perm z_rot hP1
  have hD2 : va_D (fun q : Nat => s.heap.size ≤ q) (wr ++ (w1 u ++ tl)) := z_D_perm z_rot hD1
  refine z_ciP (wc := wr) (wr := w1 u ++ tl) (va_runV (As := [.int X1, .int X2]) (rest := []) ⟨hx, hb, hml, hown, hwX_of hts⟩ (hR H1.size) (cwV 2 (hwX_of hts) giX_of rfl hg1 hg2 (by decide +kernel) ⟨hg3, hg4⟩) (z_pVP (ci := 12) hK hP2 hD2 rfl rfl 0 hm0) rfl rfl hl.1 rfl (lv_room (Nat.le_of_ble_eq_true rfl)) dL_law_1453 ⟨by omega, by omega⟩) hP2 hD2 hS1 hA (fun r2 u2 H2 locs2 hr2b hP3 hD3 hS3 hz2 => ?_)
  obtain rfl : r2 = rv := hpR r2 u2 hr2b
  refine lv_istore (lv' := [(6, .int r2), (5, .int (nI k)), (4, .int (nI i6)), (0, .ref b9), (1, .ref (a 0)), (2, .ref h), (3, .ref o9)]) hx hb dL_law_1456 hl (by decide) rfl (fun ls hl => ?_)
  refine lv_aload_n hx hb dL_law_1458 rfl (lv_at hl 5 rfl) ?_
  have hm2 := z_ap0 (b := w1 u ++ tl) (hm1 u2)
  refine vp_callSi (va_runV (As := []) (rest := []) ⟨hx, hb, hml, hown, hwX_thrown hts⟩ (c_X11_thrown l G cy h b T2 np2 (nI k)) (cwV 0 (hwX_thrown hts) giX_thrown rfl rfl rfl (by decide +kernel) ⟨Nat.le_of_ble_eq_true rfl, Nat.le_of_ble_eq_true rfl⟩) (z_pV (wc := [zMo h b T2 np2 (nI k)]) hK hP3 [0] (z_fm1 hm2) (ci := 12) (q0 := 0) rfl rfl rfl) rfl rfl hl.1 rfl (lv_room (Nat.le_of_ble_eq_true rfl)) dL_law_1459 ⟨by omega, by omega⟩).run (fun r3 hr3 => ?_)
  obtain rfl : r3 = nI k := hr3
  refine lv_iload hx hb dL_law_1462 (lv_at hl 1 rfl) ?_
  refine lv_icmp_eq (tgt := 1469) hx hb dL_law_1464 (by decide) (fun _ => ?_) (fun q => absurd rfl q)
  refine lv_iload hx hb dL_law_1469 (lv_at hl 1 rfl) ?_
  refine z_if_ne (tgt := 1486) hx hb (by omega) dL_law_1471 (by decide) (fun _ => ?_) (fun hk0 => ?_)
  · refine lv_goto (tgt := 1569) hx hb dL_law_1486 (by decide) ?_
    exact W.widen (k := cells + 20) (n := slots + 5100) (by omega) (by omega) (kk u u2 H2 locs2 _ hP3 hD3 hS3 (lv_sub hl [2, 3, 4, 5, 6] rfl))
  · obtain ⟨f9, hf1, hf2⟩ := ho hk0 u
    obtain ⟨q0, hq0⟩ := z_memi (List.mem_append_right (w2 u2) (List.mem_append_left tl (List.mem_of_getElem? hf1)))
    refine lv_aload_n hx hb dL_law_1474 rfl (lv_at hl 6 rfl) ?_
    refine lv_iconst (v := nI 0) hx hb dL_law_1475 (by decide) ?_
    refine z_lald (G := G) (v := v) hx hb hK hP3 q0 hq0 (by omega) hf2 dL_law_1476 ?_
    refine lv_iload hx hb dL_law_1477 (lv_at hl 0 rfl) ?_
    refine lv_i2l (v := r2.toInt64) hx hb dL_law_1479 rfl ?_
    refine z_lc_eq (tgt := 1486) hx hb dL_law_1480 dL_law_1481 (by decide) (fun _ => ?_) (fun q => absurd (hv hk0) q)
    refine lv_goto (tgt := 1569) hx hb dL_law_1486 (by decide) ?_
    exact W.widen (k := cells + 20) (n := slots + 5100) (by omega) (by omega) (kk u u2 H2 locs2 _ hP3 hD3 hS3 (lv_sub hl [2, 3, 4, 5, 6] rfl))
set_option maxHeartbeats 4000000 in
theorem lo_word {S S2 : Type} {rm rm2 : Room} {mc ms k T2 np2 : Nat} {v : Int64} {rv : Int32} {X1 X2 X3 : Int32} {wc wr tl : va_W} {w1 : S → va_W} {w2 : S2 → va_W} {pC : Int32 → S → Prop} {pR : Int32 → S2 → Prop} {qo : Nat} {fs9 : List Value}
    (F : zFix p l s m args c b9 L xs G cy wd fo) (hi : i6 + 5 < L) (hx1 : xs (i6 + 1) = X1) (hx2 : xs (i6 + 2) = X2) (hx3 : xs (i6 + 3) = X3)
    (hC : ∀ sz, Met l yL_word wsL_word rm (zMH G cy wd fo s.heap.size [.ref (a 0), .int X1, .int X2, .int X3, .ref o9] sz wc) (va_Qi pC (fun u t9 => zB G cy (va_A wc sz) (w1 u) t9) (va_A wc sz)) mc ms (va_A wc sz))
    (hrm : (rm.cells = mc ∧ rm.slots = ms) ∧ rm.frames + 1 ≤ room_1.frames ∧ 8 + (6 + 11) + rm.locals ≤ room_1.locals) (hpC : ∀ r u, pC r u → r = nI k)
    (hR : ∀ sz, Met l yX11_word wsX11_word rm2 (zM G cy [.ref h, .int X1, .int X2, .int X3] sz wr) (va_Qi pR (fun u t9 => zB G cy (va_A wr sz) (w2 u) t9) (va_A wr sz)) 0 0 (va_A wr sz))
    (hrm2 : (rm2.cells = 0 ∧ rm2.slots = 0) ∧ rm2.frames + 1 ≤ room_1.frames ∧ 8 + (4 + 11) + rm2.locals ≤ room_1.locals) (hpR : ∀ r u, pR r u → r = rv)
    (hm0 : wr[0]? = some (h, .inr (12, fs9))) (hm1 : ∀ u, (w2 u)[0]? = some (zMo h b T2 np2 (nI k))) (hk : k < 8) (hmc : mc ≤ 20 ∧ ms ≤ 5100)
    (hv : k = 0 → v = rv.toInt64) (ho : k = 0 → ∀ u, ∃ f, (w1 u)[qo]? = some (zL cy o9 1 f) ∧ f 0 = v)
    (hP : va_P G vwCl (wc ++ (wr ++ tl)) H) (hD : va_D (fun q : Nat => s.heap.size ≤ q) (wc ++ (wr ++ tl))) (hS : va_S (fun q : Nat => s.heap.size ≤ q) s.heap H locs) (hroom : cells + 20 ≤ room_1.cells ∧ slots + 5100 ≤ room_1.slots)
    (kk : ∀ (u : S) (u2 : S2) (H2 : Heap) (locs2 : List Loc) (ls2 : Array Slot), va_P G vwCl (w2 u2 ++ (w1 u ++ tl)) H2 → va_D (fun q : Nat => s.heap.size ≤ q) (w2 u2 ++ (w1 u ++ tl)) → va_S (fun q : Nat => s.heap.size ≤ q) s.heap H2 locs2 → lv_has ls2 8 [(4, .int (nI i6)), (0, .ref b9), (1, .ref (a 0)), (2, .ref h), (3, .ref o9)] → W p l e room_1 s m args below meth c H2 locs2 (cells + 20) (slots + 5100) Q (F0 m 1569 ls2 []))
    (hl : lv_has ls 8 [(4, .int (nI i6)), (0, .ref b9), (1, .ref (a 0)), (2, .ref h), (3, .ref o9)]) :
    W p l e room_1 s m args below meth c H locs cells slots Q (F0 m 1489 ls []) := by
  obtain ⟨hx, hb, hml, hown, hts, hX, hbl, hL, hl9, hK, hWd, hE⟩ := F
  have hbA : ¬ (fun q : Nat => s.heap.size ≤ q) b9 := Nat.not_le.mpr hbl
  have hA : ∀ q : Nat, s.heap.size ≤ q → (fun q : Nat => s.heap.size ≤ q) q := fun _ q => q
  obtain ⟨⟨hr1, hr2⟩, hr3, hr4⟩ := hrm
  obtain ⟨⟨hg1, hg2⟩, hg3, hg4⟩ := hrm2
  refine lv_aload_n hx hb dL_law_1489 rfl (lv_at hl 2 rfl) ?_
  refine lv_aload_n hx hb dL_law_1490 rfl (lv_at hl 1 rfl) ?_
  refine lv_iload hx hb dL_law_1491 (lv_at hl 0 rfl) ?_
  refine lv_iconst (v := nI 1) hx hb dL_law_1493 (by decide) ?_
  refine z_iadd hx hb dL_law_1494 ?_
  refine va_sld hx hb hX hbl hbA hS (vp_in_nI (by omega) (by omega)) dL_law_1495 ?_
  rw [nI_clamp (by omega), hx1]
  refine lv_aload_n hx hb dL_law_1496 rfl (lv_at hl 1 rfl) ?_
  refine lv_iload hx hb dL_law_1497 (lv_at hl 0 rfl) ?_
  refine lv_iconst (v := nI 2) hx hb dL_law_1499 (by decide) ?_
  refine z_iadd hx hb dL_law_1500 ?_
  refine va_sld hx hb hX hbl hbA hS (vp_in_nI (by omega) (by omega)) dL_law_1501 ?_
  rw [nI_clamp (by omega), hx2]
  refine lv_aload_n hx hb dL_law_1502 rfl (lv_at hl 1 rfl) ?_
  refine lv_iload hx hb dL_law_1503 (lv_at hl 0 rfl) ?_
  refine lv_iconst (v := nI 3) hx hb dL_law_1505 (by decide) ?_
  refine z_iadd hx hb dL_law_1506 ?_
  refine va_sld hx hb hX hbl hbA hS (vp_in_nI (by omega) (by omega)) dL_law_1507 ?_
  rw [nI_clamp (by omega), hx3]
  refine lv_aload_n hx hb dL_law_1508 rfl (lv_at hl 4 rfl) ?_
  refine z_ciP (wc := wc) (wr := wr ++ tl) (vx_runSW (As := [.ref (a 0), .int X1, .int X2, .int X3, .ref o9]) (rest := []) ⟨hx, hb, hml, hown, hwL_word hts⟩ (hC H.size) (vx_cwSW 5 (hwL_word hts) giL_word rfl hr1 hr2 (by decide +kernel) ⟨hr3, hr4⟩) (z_pHP hK hP hD hS (Nat.le_refl _) (fun _ q => q) hWd hE) rfl rfl hl.1 rfl (lv_room (Nat.le_of_ble_eq_true rfl)) dL_law_1509 ⟨by omega, by omega⟩) hP hD hS hA (fun r u H1 locs1 hr hP1 hD1 hS1 hz => ?_)
  obtain rfl : r = nI k := hpC r u hr
  refine lv_istore (lv' := [(5, .int (nI k)), (4, .int (nI i6)), (0, .ref b9), (1, .ref (a 0)), (2, .ref h), (3, .ref o9)]) hx hb dL_law_1512 hl (by decide) rfl (fun ls hl => ?_)
  refine lv_aload_n hx hb dL_law_1514 rfl (lv_at hl 4 rfl) ?_
  refine lv_aload_n hx hb dL_law_1515 rfl (lv_at hl 2 rfl) ?_
  refine lv_iload hx hb dL_law_1516 (lv_at hl 1 rfl) ?_
  refine lv_iconst (v := nI 1) hx hb dL_law_1518 (by decide) ?_
  refine z_iadd hx hb dL_law_1519 ?_
  refine va_sld hx hb hX hbl hbA hS1 (vp_in_nI (by omega) (by omega)) dL_law_1520 ?_
  rw [nI_clamp (by omega), hx1]
  refine lv_aload_n hx hb dL_law_1521 rfl (lv_at hl 2 rfl) ?_
  refine lv_iload hx hb dL_law_1522 (lv_at hl 1 rfl) ?_
  refine lv_iconst (v := nI 2) hx hb dL_law_1524 (by decide) ?_
  refine z_iadd hx hb dL_law_1525 ?_
  refine va_sld hx hb hX hbl hbA hS1 (vp_in_nI (by omega) (by omega)) dL_law_1526 ?_
  rw [nI_clamp (by omega), hx2]
  refine lv_aload_n hx hb dL_law_1527 rfl (lv_at hl 2 rfl) ?_
  refine lv_iload hx hb dL_law_1528 (lv_at hl 1 rfl) ?_
  refine lv_iconst (v := nI 3) hx hb dL_law_1530 (by decide) ?_
  refine z_iadd hx hb dL_law_1531 ?_
  refine va_sld hx hb hX hbl hbA hS1 (vp_in_nI (by omega) (by omega)) dL_law_1532 ?_
  rw [nI_clamp (by omega), hx3]
  have hP2 : va_P G vwCl (wr ++ (w1 u ++ tl)) H1 := z_P_perm z_rot hP1
  have hD2 : va_D (fun q : Nat => s.heap.size ≤ q) (wr ++ (w1 u ++ tl)) := z_D_perm z_rot hD1
  refine z_ciP (wc := wr) (wr := w1 u ++ tl) (va_runV (As := [.int X1, .int X2, .int X3]) (rest := []) ⟨hx, hb, hml, hown, hwX_word hts⟩ (hR H1.size) (cwV 3 (hwX_word hts) giX_word rfl hg1 hg2 (by decide +kernel) ⟨hg3, hg4⟩) (z_pVP (ci := 12) hK hP2 hD2 rfl rfl 0 hm0) rfl rfl hl.1 rfl (lv_room (Nat.le_of_ble_eq_true rfl)) dL_law_1533 ⟨by omega, by omega⟩) hP2 hD2 hS1 hA (fun r2 u2 H2 locs2 hr2b hP3 hD3 hS3 hz2 => ?_)
  obtain rfl : r2 = rv := hpR r2 u2 hr2b
  refine lv_istore (lv' := [(6, .int r2), (5, .int (nI k)), (4, .int (nI i6)), (0, .ref b9), (1, .ref (a 0)), (2, .ref h), (3, .ref o9)]) hx hb dL_law_1536 hl (by decide) rfl (fun ls hl => ?_)
  refine lv_aload_n hx hb dL_law_1538 rfl (lv_at hl 5 rfl) ?_
  have hm2 := z_ap0 (b := w1 u ++ tl) (hm1 u2)
  refine vp_callSi (va_runV (As := []) (rest := []) ⟨hx, hb, hml, hown, hwX_thrown hts⟩ (c_X11_thrown l G cy h b T2 np2 (nI k)) (cwV 0 (hwX_thrown hts) giX_thrown rfl rfl rfl (by decide +kernel) ⟨Nat.le_of_ble_eq_true rfl, Nat.le_of_ble_eq_true rfl⟩) (z_pV (wc := [zMo h b T2 np2 (nI k)]) hK hP3 [0] (z_fm1 hm2) (ci := 12) (q0 := 0) rfl rfl rfl) rfl rfl hl.1 rfl (lv_room (Nat.le_of_ble_eq_true rfl)) dL_law_1539 ⟨by omega, by omega⟩).run (fun r3 hr3 => ?_)
  obtain rfl : r3 = nI k := hr3
  refine lv_iload hx hb dL_law_1542 (lv_at hl 1 rfl) ?_
  refine lv_icmp_eq (tgt := 1549) hx hb dL_law_1544 (by decide) (fun _ => ?_) (fun q => absurd rfl q)
  refine lv_iload hx hb dL_law_1549 (lv_at hl 1 rfl) ?_
  refine z_if_ne (tgt := 1566) hx hb (by omega) dL_law_1551 (by decide) (fun _ => ?_) (fun hk0 => ?_)
  · refine lv_goto (tgt := 1569) hx hb dL_law_1566 (by decide) ?_
    exact W.widen (k := cells + 20) (n := slots + 5100) (by omega) (by omega) (kk u u2 H2 locs2 _ hP3 hD3 hS3 (lv_sub hl [2, 3, 4, 5, 6] rfl))
  · obtain ⟨f9, hf1, hf2⟩ := ho hk0 u
    obtain ⟨q0, hq0⟩ := z_memi (List.mem_append_right (w2 u2) (List.mem_append_left tl (List.mem_of_getElem? hf1)))
    refine lv_aload_n hx hb dL_law_1554 rfl (lv_at hl 6 rfl) ?_
    refine lv_iconst (v := nI 0) hx hb dL_law_1555 (by decide) ?_
    refine z_lald (G := G) (v := v) hx hb hK hP3 q0 hq0 (by omega) hf2 dL_law_1556 ?_
    refine lv_iload hx hb dL_law_1557 (lv_at hl 0 rfl) ?_
    refine lv_i2l (v := r2.toInt64) hx hb dL_law_1559 rfl ?_
    refine z_lc_eq (tgt := 1566) hx hb dL_law_1560 dL_law_1561 (by decide) (fun _ => ?_) (fun q => absurd (hv hk0) q)
    refine lv_goto (tgt := 1569) hx hb dL_law_1566 (by decide) ?_
    exact W.widen (k := cells + 20) (n := slots + 5100) (by omega) (by omega) (kk u u2 H2 locs2 _ hP3 hD3 hS3 (lv_sub hl [2, 3, 4, 5, 6] rfl))
end ZLAW
