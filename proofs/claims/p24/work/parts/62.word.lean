set_option maxHeartbeats 4000000 in
set_option maxRecDepth 100000 in
theorem c_J1_canEncode_fc78d (l : Launch) (G : va_G) (cy : Nat → ClassId) (x : Nat) (hx9 : x < 128) : Met l yJ1_canEncode_fc78d wsJ1_canEncode_fc78d ({ frames := 0, cells := 0, slots := 0, locals := 0 }) (zS G cy [.int (nI x)] []) (vp_Si (fun r => r = (nI 1))) 0 0 (fun _ => False) := by
  refine z_ofS (cc := cJ1_canEncode_fc78d) (maxL := 1) (ret := (some .boolean)) (by decide) rfl (Nat.le_of_ble_eq_true rfl) ?_
  intro p e s m below meth c ls hx hb hml hr hts hown hlk hP hK hl
  have hown : s.vm.findClass RJ1 = some m.cls := hown
  have hl : lv_has ls 1 [(0, .int (nI x))] := hl
  refine lv_iload_n hx hb dJ1_canEncode_fc78d_0 rfl (lv_at hl 0 rfl) ?_
  refine lv_sipush (v := nI 255) hx hb dJ1_canEncode_fc78d_1 (by decide) ?_
  refine z_icmp_gt hx hb (by omega) (by omega) dJ1_canEncode_fc78d_4 (tgt := 11) (by decide) (fun c_1 => ?_) (fun c_1 => ?_)
  · exfalso; omega
  · refine lv_iconst (v := nI 1) hx hb dJ1_canEncode_fc78d_7 (by decide) ?_
    refine lv_goto (tgt := 12) hx hb dJ1_canEncode_fc78d_8 (by decide) ?_
    exact z_rSz hx hb hr hlk (by rfl) dJ1_canEncode_fc78d_12 (rfl)
set_option maxHeartbeats 4000000 in
set_option maxRecDepth 100000 in
theorem c_J3_checkIndex_8e157 (l : Launch) (G : va_G) (cy : Nat → ClassId) (i n : Nat) (fo : Option Nat) (hi : i < n) (hn : n < 2 ^ 31) : Met l yJ3_checkIndex_8e157 wsJ3_checkIndex_8e157 ({ frames := 0, cells := 0, slots := 0, locals := 0 }) (zS G cy [.int (nI i), .int (nI n), va_rf fo] []) (vp_Si (fun r => r = (nI i))) 0 0 (fun _ => False) := by
  refine z_ofS (cc := cJ3_checkIndex_8e157) (maxL := 3) (ret := (some .int)) (by decide) rfl (by cases fo <;> exact Nat.le_of_ble_eq_true rfl) ?_
  intro p e s m below meth c ls hx hb hml hr hts hown hlk hP hK hl
  have hown : s.vm.findClass RJ3 = some m.cls := hown
  have hl : lv_has ls 3 [(0, .int (nI i)), (1, .int (nI n)), (2, va_rf fo)] := hl
  refine lv_iload_n hx hb dJ3_checkIndex_8e157_0 rfl (lv_at hl 0 rfl) ?_
  refine z_if_lt hx hb (by omega) dJ3_checkIndex_8e157_1 (tgt := 9) (by decide) ?_
  refine lv_iload_n hx hb dJ3_checkIndex_8e157_4 rfl (lv_at hl 0 rfl) ?_
  refine lv_iload_n hx hb dJ3_checkIndex_8e157_5 rfl (lv_at hl 1 rfl) ?_
  refine z_icmp_lt hx hb (by omega) (by omega) dJ3_checkIndex_8e157_6 (tgt := 16) (by decide) (fun c_2 => ?_) (fun c_2 => ?_)
  · refine lv_iload_n hx hb dJ3_checkIndex_8e157_16 rfl (lv_at hl 0 rfl) ?_
    exact z_rSi hx hb hr hlk dJ3_checkIndex_8e157_17 (rfl)
  · exfalso; omega
set_option maxHeartbeats 4000000 in
set_option maxRecDepth 100000 in
theorem c_J0_checkIndex_df160 (l : Launch) (G : va_G) (cy : Nat → ClassId) (wd : Nat → Nat) (fo : Option Nat) (N0 sz0 : Nat) (i n : Nat) (hi : i < n) (hn : n < 2 ^ 31) : Met l yJ0_checkIndex_df160 wsJ0_checkIndex_df160 ({ frames := 1, cells := 0, slots := 0, locals := 22 }) (zMW G cy wd fo N0 [.int (nI i), .int (nI n)] sz0 []) (va_Qv (fun (_ : Unit) => True) (fun (u : Unit) t9 => zB G cy (va_A [] sz0) [] t9) (va_A [] sz0)) 0 0 (va_A [] sz0) := by
  refine z_ofMW (cc := cJ0_checkIndex_df160) (maxL := 2) (ret := none) (Qc := (fun A => va_Qv (fun (_ : Unit) => True) (fun (u : Unit) t9 => zB G cy A [] t9) A)) (by decide) rfl (Nat.le_of_ble_eq_true rfl) ?_
  intro p e s m below meth c ls A hx hb hml hr hts hown hlk hin hP hK hD hA hS hl hsz0 hN hAN hWd
  have hown : s.vm.findClass RJ0 = some m.cls := hown
  have hl : lv_has ls 2 [(0, .int (nI i)), (1, .int (nI n))] := hl
  refine lv_iload_n hx hb dJ0_checkIndex_df160_0 rfl (lv_at hl 0 rfl) ?_
  refine lv_iload_n hx hb dJ0_checkIndex_df160_1 rfl (lv_at hl 1 rfl) ?_
  refine va_gets (v := va_rf fo) hx hb (hWd.sf hAN) hS hown (hts _ (List.mem_of_getElem? (i := 1) (by decide +kernel))) (fun _ h9 => h9) dJ0_checkIndex_df160_2 ?_
  refine vp_callSi (va_runS (As := [.int (nI i), .int (nI n), va_rf fo]) (rest := []) ⟨hx, hb, hml, hown, hts⟩ (c_J3_checkIndex_8e157 l G cy i n fo (by omega) (by omega)) (va_cwS 3 hts gJ0_checkIndex_df160_J3_checkIndex_8e157 rfl rfl rfl (by decide +kernel) ⟨Nat.le_of_ble_eq_true rfl, Nat.le_of_ble_eq_true rfl⟩) (z_pS hK hP [] rfl) rfl rfl hl.1 rfl (lv_room (Nat.le_of_ble_eq_true rfl)) dJ0_checkIndex_df160_5 ⟨Nat.le_of_ble_eq_true rfl, Nat.le_of_ble_eq_true rfl⟩).run (fun r_1 hr_1 => ?_)
  obtain rfl : r_1 = (nI i) := hr_1
  refine lv_pop hx hb dJ0_checkIndex_df160_8 rfl ?_
  exact z_rMv hx hb hr hlk dJ0_checkIndex_df160_9 () (trivial) hP hD hK hS (Nat.le_of_ble_eq_true rfl) (Nat.le_of_ble_eq_true rfl)
theorem in_J5_isLatin1_aae02_J4 : ∀ w ∈ u_ws RJ4 TJ4 4, w ∈ wsJ5_isLatin1_aae02 := fun _ h => (List.mem_cons_of_mem _ (List.mem_append_right _ h))
set_option maxHeartbeats 4000000 in
set_option maxRecDepth 100000 in
theorem c_J5_isLatin1_aae02 (l : Launch) (G : va_G) (cy : Nat → ClassId) (wd : Nat → Nat) (fo : Option Nat) (N0 sz0 : Nat) (h v : Nat) (cnt : Nat) : Met l yJ5_isLatin1_aae02 wsJ5_isLatin1_aae02 ({ frames := 0, cells := 0, slots := 0, locals := 0 }) (zMW G cy wd fo N0 [.ref h] sz0 [zO h 0 [.ref v, .int (nI 0), .int (nI 0), .int (nI cnt)]]) (va_Qi (fun (r : Int32) (_ : Unit) => r = (nI 1)) (fun (u : Unit) t9 => zB G cy (va_A [zO h 0 [.ref v, .int (nI 0), .int (nI 0), .int (nI cnt)]] sz0) [zO h 0 [.ref v, .int (nI 0), .int (nI 0), .int (nI cnt)]] t9) (va_A [zO h 0 [.ref v, .int (nI 0), .int (nI 0), .int (nI cnt)]] sz0)) 0 0 (va_A [zO h 0 [.ref v, .int (nI 0), .int (nI 0), .int (nI cnt)]] sz0) := by
  refine z_ofMW (cc := cJ5_isLatin1_aae02) (maxL := 1) (ret := (some .boolean)) (Qc := (fun A => va_Qi (fun (r : Int32) (_ : Unit) => r = (nI 1)) (fun (u : Unit) t9 => zB G cy A [zO h 0 [.ref v, .int (nI 0), .int (nI 0), .int (nI cnt)]] t9) A)) (by decide) rfl (Nat.le_of_ble_eq_true rfl) ?_
  intro p e s m below meth c ls A hx hb hml hr hts hown hlk hin hP hK hD hA hS hl hsz0 hN hAN hWd
  have hown : s.vm.findClass RJ5 = some m.cls := hown
  have hl : lv_has ls 1 [(0, .ref h)] := hl
  refine va_gets (v := .int (nI 1)) hx hb (hWd.cs hAN) hS hown (hts _ (List.mem_of_getElem? (i := 1) (by decide +kernel))) (fun _ h9 => h9) dJ5_isLatin1_aae02_0 ?_
  refine lv_if_eq hx hb dJ5_isLatin1_aae02_3 (tgt := 17) (by decide) (fun q => absurd q (by decide)) (fun _ => ?_)
  refine lv_aload_n hx hb dJ5_isLatin1_aae02_6 rfl (lv_at hl 0 rfl) ?_
  refine va_get (D := G) (ci := 0) (v := .int (nI 0)) (C := RJ4) (T := TJ4) (N := 4) hx hb hts in_J5_isLatin1_aae02_J4 hown hK hP 0 rfl rfl 1 (by decide) (hts _ (List.mem_of_getElem? (i := 2) (by decide +kernel))) (fun _ h9 => h9) rfl dJ5_isLatin1_aae02_7 ?_
  refine lv_if_ne hx hb dJ5_isLatin1_aae02_10 (tgt := 17) (by decide) (fun q => absurd (by decide) q) (fun _ => ?_)
  refine lv_iconst (v := nI 1) hx hb dJ5_isLatin1_aae02_13 (by decide) ?_
  refine lv_goto (tgt := 18) hx hb dJ5_isLatin1_aae02_14 (by decide) ?_
  exact z_rMz hx hb hr hlk (by rfl) dJ5_isLatin1_aae02_18 () (rfl) hP hD hK hS (Nat.le_of_ble_eq_true rfl) (Nat.le_of_ble_eq_true rfl)
theorem in_J5_ensureCapacityInternal_d00df_J4 : ∀ w ∈ u_ws RJ4 TJ4 4, w ∈ wsJ5_ensureCapacityInternal_d00df := fun _ h => (List.mem_cons_of_mem _ (List.mem_append_right _ h))
set_option maxHeartbeats 4000000 in
set_option maxRecDepth 100000 in
theorem c_J5_ensureCapacityInternal_d00df (l : Launch) (G : va_G) (cy : Nat → ClassId) (h v : Nat) (cnt mi : Nat) (t : Nat → Nat) (hmi : mi ≤ 16) : Met l yJ5_ensureCapacityInternal_d00df wsJ5_ensureCapacityInternal_d00df ({ frames := 0, cells := 0, slots := 0, locals := 0 }) (zS G cy [.ref h, .int (nI mi)] [zO h 0 [.ref v, .int (nI 0), .int (nI 0), .int (nI cnt)], zY cy v 16 (fun j9 => nI (t j9))]) (va_Sv (fun _ => True)) 0 0 (fun _ => False) := by
  refine z_ofS (cc := cJ5_ensureCapacityInternal_d00df) (maxL := 3) (ret := none) (by decide) rfl (Nat.le_of_ble_eq_true rfl) ?_
  intro p e s m below meth c ls hx hb hml hr hts hown hlk hP hK hl
  have hown : s.vm.findClass RJ5 = some m.cls := hown
  have hl : lv_has ls 3 [(0, .ref h), (1, .int (nI mi))] := hl
  refine lv_aload_n hx hb dJ5_ensureCapacityInternal_d00df_0 rfl (lv_at hl 0 rfl) ?_
  refine va_get (D := G) (ci := 0) (v := .ref v) (C := RJ4) (T := TJ4) (N := 4) hx hb hts in_J5_ensureCapacityInternal_d00df_J4 hown hK hP 0 rfl rfl 0 (by decide) (hts _ (List.mem_of_getElem? (i := 1) (by decide +kernel))) (fun _ h9 => h9) rfl dJ5_ensureCapacityInternal_d00df_1 ?_
  refine va_alen (D := G) hx hb hK hP 1 3 rfl rfl (v := nI 16) rfl dJ5_ensureCapacityInternal_d00df_4 ?_
  refine lv_aload_n hx hb dJ5_ensureCapacityInternal_d00df_5 rfl (lv_at hl 0 rfl) ?_
  refine va_get (D := G) (ci := 0) (v := .int (nI 0)) (C := RJ4) (T := TJ4) (N := 4) hx hb hts in_J5_ensureCapacityInternal_d00df_J4 hown hK hP 0 rfl rfl 1 (by decide) (hts _ (List.mem_of_getElem? (i := 2) (by decide +kernel))) (fun _ h9 => h9) rfl dJ5_ensureCapacityInternal_d00df_6 ?_
  refine lv_ishr hx hb dJ5_ensureCapacityInternal_d00df_9 ?_
  rw [show nI 16 >>> (nI 0 &&& 31) = nI 16 from sb_shr0 _]
  refine lv_istore_n (lv' := [(2, .int (nI 16)), (0, .ref h), (1, .int (nI mi))]) hx hb dJ5_ensureCapacityInternal_d00df_10 rfl hl (by decide) rfl (fun ls hl => ?_)
  refine lv_iload_n hx hb dJ5_ensureCapacityInternal_d00df_11 rfl (lv_at hl 2 rfl) ?_
  refine lv_iload_n hx hb dJ5_ensureCapacityInternal_d00df_12 rfl (lv_at hl 0 rfl) ?_
  refine lv_isub hx hb dJ5_ensureCapacityInternal_d00df_13 ?_
  refine lv_if_le (tgt := 38) hx hb dJ5_ensureCapacityInternal_d00df_14 (by decide) (fun _ => ?_) (fun q => absurd (z_sub16 (by omega)) q)
  exact z_rSv hx hb hr hlk dJ5_ensureCapacityInternal_d00df_38 (trivial)
theorem in_J5_init_d00df_J4 : ∀ w ∈ u_ws RJ4 TJ4 4, w ∈ wsJ5_init_d00df := fun _ h => (List.mem_cons_of_mem _ (List.mem_append_right _ h))
set_option maxHeartbeats 4000000 in
set_option maxRecDepth 100000 in
theorem c_J5_init_d00df (l : Launch) (G : va_G) (cy : Nat → ClassId) (wd : Nat → Nat) (fo : Option Nat) (N0 sz0 : Nat) (h : Nat) : Met l yJ5_init_d00df wsJ5_init_d00df ({ frames := 1, cells := 1, slots := 16, locals := 12 }) (zMW G cy wd fo N0 [.ref h, .int (nI 16)] sz0 [zO h 0 [.null, .int (nI 0), .int (nI 0), .int (nI 0)]]) (va_Qv (fun (_ : Nat) => True) (fun (u : Nat) t9 => zB G cy (va_A [zO h 0 [.null, .int (nI 0), .int (nI 0), .int (nI 0)]] sz0) [zO h 0 [.ref u, .int (nI 0), .int (nI 0), .int (nI 0)], zY cy u 16 (fun j9 => nI ((fun _ => 0) j9))] t9) (va_A [zO h 0 [.null, .int (nI 0), .int (nI 0), .int (nI 0)]] sz0)) 1 16 (va_A [zO h 0 [.null, .int (nI 0), .int (nI 0), .int (nI 0)]] sz0) := by
  refine z_ofMW (cc := cJ5_init_d00df) (maxL := 2) (ret := none) (Qc := (fun A => va_Qv (fun (_ : Nat) => True) (fun (u : Nat) t9 => zB G cy A [zO h 0 [.ref u, .int (nI 0), .int (nI 0), .int (nI 0)], zY cy u 16 (fun j9 => nI ((fun _ => 0) j9))] t9) A)) (by decide) rfl (Nat.le_of_ble_eq_true rfl) ?_
  intro p e s m below meth c ls A hx hb hml hr hts hown hlk hin hP hK hD hA hS hl hsz0 hN hAN hWd
  have hown : s.vm.findClass RJ5 = some m.cls := hown
  have hl : lv_has ls 2 [(0, .ref h), (1, .int (nI 16))] := hl
  have hin : meth.name = "<init>" := hin
  refine lv_aload_n hx hb dJ5_init_d00df_0 rfl (lv_at hl 0 rfl) ?_
  refine W.objInit hx hb hown (hts _ (List.mem_of_getElem? (i := 1) (by decide +kernel))) (hts _ (List.mem_of_getElem? (i := 2) (by decide +kernel))) (hts _ (List.mem_of_getElem? (i := 3) (by decide +kernel))) rfl (by rw [hml]; exact hl.1) rfl dJ5_init_d00df_1 (Nat.le_of_ble_eq_true rfl) (Nat.le_of_ble_eq_true rfl) ?_
  refine W.eq (g2 := F0 m 4 ls []) rfl ?_
  refine va_gets (v := .int (nI 1)) hx hb (hWd.cs hAN) hS hown (hts _ (List.mem_of_getElem? (i := 4) (by decide +kernel))) (fun _ h9 => h9) dJ5_init_d00df_4 ?_
  refine lv_if_eq hx hb dJ5_init_d00df_7 (tgt := 25) (by decide) (fun q => absurd q (by decide)) (fun _ => ?_)
  refine lv_aload_n hx hb dJ5_init_d00df_10 rfl (lv_at hl 0 rfl) ?_
  refine lv_iload_n hx hb dJ5_init_d00df_11 rfl (lv_at hl 1 rfl) ?_
  refine z_newY (G := G) (N := 16) hx hb (hts _ (List.mem_of_getElem? (i := 5) (by decide +kernel))) hK hP hD hS hA (by omega) (Nat.le_of_ble_eq_true rfl) (Nat.le_of_ble_eq_true rfl) dJ5_init_d00df_12 (fun q_1 H hP hD hS => ?_)
  have hP : va_P G vwCl [zO h 0 [.null, .int (nI 0), .int (nI 0), .int (nI 0)], zY cy q_1 16 (fun j9 => nI ((fun _ => 0) j9))] H := hP
  have hD : va_D A [zO h 0 [.null, .int (nI 0), .int (nI 0), .int (nI 0)], zY cy q_1 16 (fun j9 => nI ((fun _ => 0) j9))] := hD
  refine va_put (D := G) (ci := 0) (v := .ref q_1) (ty := (.array .byte)) (C := RJ4) (T := TJ4) (N := 4) hx hb hts in_J5_init_d00df_J4 tyJ4 tyJ4_ok nmJ4 hown hK hP hD hS 0 rfl rfl 0 (by decide) (hts _ (List.mem_of_getElem? (i := 6) (by decide +kernel))) (fun _ h9 => h9) rfl (by decide +kernel) rfl rfl (Nat.le_of_ble_eq_true rfl) dJ5_init_d00df_14 (fun H locs hP hD hS => ?_)
  have hP : va_P G vwCl [zO h 0 [.ref q_1, .int (nI 0), .int (nI 0), .int (nI 0)], zY cy q_1 16 (fun j9 => nI ((fun _ => 0) j9))] H := hP
  have hD : va_D A [zO h 0 [.ref q_1, .int (nI 0), .int (nI 0), .int (nI 0)], zY cy q_1 16 (fun j9 => nI ((fun _ => 0) j9))] := hD
  refine lv_aload_n hx hb dJ5_init_d00df_17 rfl (lv_at hl 0 rfl) ?_
  refine lv_iconst (v := nI 0) hx hb dJ5_init_d00df_18 (by decide) ?_
  refine va_put (D := G) (ci := 0) (v := .int (nI 0)) (ty := .byte) (C := RJ4) (T := TJ4) (N := 4) hx hb hts in_J5_init_d00df_J4 tyJ4 tyJ4_ok nmJ4 hown hK hP hD hS 0 rfl rfl 1 (by decide) (hts _ (List.mem_of_getElem? (i := 7) (by decide +kernel))) (fun _ h9 => h9) rfl (by decide +kernel) rfl rfl (Nat.le_of_ble_eq_true rfl) dJ5_init_d00df_19 (fun H locs hP hD hS => ?_)
  have hP : va_P G vwCl [zO h 0 [.ref q_1, .int (nI 0), .int (nI 0), .int (nI 0)], zY cy q_1 16 (fun j9 => nI ((fun _ => 0) j9))] H := hP
  have hD : va_D A [zO h 0 [.ref q_1, .int (nI 0), .int (nI 0), .int (nI 0)], zY cy q_1 16 (fun j9 => nI ((fun _ => 0) j9))] := hD
  refine lv_goto (tgt := 38) hx hb dJ5_init_d00df_22 (by decide) ?_
  exact z_rMv hx hb hr hlk dJ5_init_d00df_38 q_1 (trivial) hP hD hK hS (Nat.le_of_ble_eq_true rfl) (Nat.le_of_ble_eq_true rfl)
set_option maxHeartbeats 4000000 in
set_option maxRecDepth 100000 in
theorem c_J4_init_da8c8 (l : Launch) (G : va_G) (cy : Nat → ClassId) (wd : Nat → Nat) (fo : Option Nat) (N0 sz0 : Nat) (h : Nat) : Met l yJ4_init_da8c8 wsJ4_init_da8c8 ({ frames := 2, cells := 1, slots := 16, locals := 33 }) (zMW G cy wd fo N0 [.ref h] sz0 [zO h 0 [.null, .int (nI 0), .int (nI 0), .int (nI 0)]]) (va_Qv (fun (_ : Nat) => True) (fun (u : Nat) t9 => zB G cy (va_A [zO h 0 [.null, .int (nI 0), .int (nI 0), .int (nI 0)]] sz0) [zO h 0 [.ref u, .int (nI 0), .int (nI 0), .int (nI 0)], zY cy u 16 (fun j9 => nI ((fun _ => 0) j9))] t9) (va_A [zO h 0 [.null, .int (nI 0), .int (nI 0), .int (nI 0)]] sz0)) 1 16 (va_A [zO h 0 [.null, .int (nI 0), .int (nI 0), .int (nI 0)]] sz0) := by
  refine z_ofMW (cc := cJ4_init_da8c8) (maxL := 1) (ret := none) (Qc := (fun A => va_Qv (fun (_ : Nat) => True) (fun (u : Nat) t9 => zB G cy A [zO h 0 [.ref u, .int (nI 0), .int (nI 0), .int (nI 0)], zY cy u 16 (fun j9 => nI ((fun _ => 0) j9))] t9) A)) (by decide) rfl (Nat.le_of_ble_eq_true rfl) ?_
  intro p e s m below meth c ls A hx hb hml hr hts hown hlk hin hP hK hD hA hS hl hsz0 hN hAN hWd
  have hown : s.vm.findClass RJ4 = some m.cls := hown
  have hl : lv_has ls 1 [(0, .ref h)] := hl
  refine lv_aload_n hx hb dJ4_init_da8c8_0 rfl (lv_at hl 0 rfl) ?_
  refine lv_bipush (v := nI 16) hx hb dJ4_init_da8c8_1 (by decide) ?_
  refine z_cv (wc := [zO h 0 [.null, .int (nI 0), .int (nI 0), .int (nI 0)]]) (va_runI (As := [.int (nI 16)]) (rest := []) ⟨hx, hb, hml, hown, hts⟩ (c_J5_init_d00df l G cy wd fo _ _ h) (cwI 1 hts gJ4_init_da8c8_J5_init_d00df rfl rfl rfl (hts _ (List.mem_of_getElem? (i := 3) (by decide +kernel))) (hts _ (List.mem_of_getElem? (i := 1) (by decide +kernel))) (hts _ (List.mem_of_getElem? (i := 2) (by decide +kernel))) rfl (by decide +kernel) ⟨Nat.le_of_ble_eq_true rfl, Nat.le_of_ble_eq_true rfl⟩) (z_pSW hK hP hD hS hN hAN hWd [0] rfl (by decide)) rfl rfl hl.1 rfl (lv_room (Nat.le_of_ble_eq_true rfl)) dJ4_init_da8c8_3 ⟨Nat.le_of_ble_eq_true rfl, Nat.le_of_ble_eq_true rfl⟩) hP hD hS hA [0] [] [0, 1] [] (fun (u : Nat) => [zO h 0 [.ref u, .int (nI 0), .int (nI 0), .int (nI 0)], zY cy u 16 (fun j9 => nI ((fun _ => 0) j9))]) rfl rfl (by decide) (fun _ => rfl) (fun u H locs hr_1 hQ hD hS hz => ?_)
  obtain ⟨v_2, rfl⟩ : ∃ z, z = u := ⟨_, rfl⟩
  try dsimp only at hr_1
  have hP : va_P G vwCl [zO h 0 [.ref v_2, .int (nI 0), .int (nI 0), .int (nI 0)], zY cy v_2 16 (fun j9 => nI ((fun _ => 0) j9))] H := hQ
  have hD : va_D A [zO h 0 [.ref v_2, .int (nI 0), .int (nI 0), .int (nI 0)], zY cy v_2 16 (fun j9 => nI ((fun _ => 0) j9))] := hD
  clear hQ
  exact z_rMv hx hb hr hlk dJ4_init_da8c8_6 v_2 (trivial) hP hD hK hS (Nat.le_of_ble_eq_true rfl) (Nat.le_of_ble_eq_true rfl)
theorem in_J5_append_3fe6f_J4 : ∀ w ∈ u_ws RJ4 TJ4 4, w ∈ wsJ5_append_3fe6f := fun _ h => (List.mem_cons_of_mem _ (List.mem_append_right _ h))
set_option maxHeartbeats 4000000 in
set_option maxRecDepth 100000 in
theorem c_J5_append_3fe6f (l : Launch) (G : va_G) (cy : Nat → ClassId) (wd : Nat → Nat) (fo : Option Nat) (N0 sz0 : Nat) (h v : Nat) (cnt x : Nat) (t : Nat → Nat) (hc9 : cnt < 16) (hx9 : x < 128) : Met l yJ5_append_3fe6f wsJ5_append_3fe6f ({ frames := 1, cells := 0, slots := 0, locals := 22 }) (zMW G cy wd fo N0 [.ref h, .int (nI x)] sz0 [zO h 0 [.ref v, .int (nI 0), .int (nI 0), .int (nI cnt)], zY cy v 16 (fun j9 => nI (t j9))]) (zQr (fun (r : Nat) (_ : Unit) => r = h) (fun (u : Unit) t9 => zB G cy (va_A [zO h 0 [.ref v, .int (nI 0), .int (nI 0), .int (nI cnt)], zY cy v 16 (fun j9 => nI (t j9))] sz0) [zO h 0 [.ref v, .int (nI 0), .int (nI 0), .int (nI (cnt + 1))], zY cy v 16 (fun j9 => nI ((va_up t cnt x) j9))] t9) (va_A [zO h 0 [.ref v, .int (nI 0), .int (nI 0), .int (nI cnt)], zY cy v 16 (fun j9 => nI (t j9))] sz0)) 0 0 (va_A [zO h 0 [.ref v, .int (nI 0), .int (nI 0), .int (nI cnt)], zY cy v 16 (fun j9 => nI (t j9))] sz0) := by
  refine z_ofMW (cc := cJ5_append_3fe6f) (maxL := 2) (ret := (some (.object "java/lang/AbstractStringBuilder"))) (Qc := (fun A => zQr (fun (r : Nat) (_ : Unit) => r = h) (fun (u : Unit) t9 => zB G cy A [zO h 0 [.ref v, .int (nI 0), .int (nI 0), .int (nI (cnt + 1))], zY cy v 16 (fun j9 => nI ((va_up t cnt x) j9))] t9) A)) (by decide) rfl (Nat.le_of_ble_eq_true rfl) ?_
  intro p e s m below meth c ls A hx hb hml hr hts hown hlk hin hP hK hD hA hS hl hsz0 hN hAN hWd
  have hown : s.vm.findClass RJ5 = some m.cls := hown
  have hl : lv_has ls 2 [(0, .ref h), (1, .int (nI x))] := hl
  refine lv_aload_n hx hb dJ5_append_3fe6f_0 rfl (lv_at hl 0 rfl) ?_
  refine lv_aload_n hx hb dJ5_append_3fe6f_1 rfl (lv_at hl 0 rfl) ?_
  refine va_get (D := G) (ci := 0) (v := .int (nI cnt)) (C := RJ4) (T := TJ4) (N := 4) hx hb hts in_J5_append_3fe6f_J4 hown hK hP 0 rfl rfl 3 (by decide) (hts _ (List.mem_of_getElem? (i := 1) (by decide +kernel))) (fun _ h9 => h9) rfl dJ5_append_3fe6f_2 ?_
  refine lv_iconst (v := nI 1) hx hb dJ5_append_3fe6f_5 (by decide) ?_
  refine z_iadd hx hb dJ5_append_3fe6f_6 ?_
  refine va_csv (va_runU (As := [.int (nI (cnt + 1))]) (rest := []) ⟨hx, hb, hml, hown, hts⟩ (c_J5_ensureCapacityInternal_d00df l G cy h v cnt (cnt + 1) t (by omega)) (va_cwU 1 hts gJ5_append_3fe6f_J5_ensureCapacityInternal_d00df_u100J4 rfl rfl rfl rfl (by decide +kernel) ⟨Nat.le_of_ble_eq_true rfl, Nat.le_of_ble_eq_true rfl⟩) (z_pV hK hP [0, 1] rfl (ci := 0) (q0 := 0) rfl rfl rfl) rfl rfl hl.1 rfl (lv_room (Nat.le_of_ble_eq_true rfl)) dJ5_append_3fe6f_7 ⟨Nat.le_of_ble_eq_true rfl, Nat.le_of_ble_eq_true rfl⟩).run (fun hr_1 => ?_)
  refine lv_aload_n hx hb dJ5_append_3fe6f_10 rfl (lv_at hl 0 rfl) ?_
  refine z_ci (wc := [zO h 0 [.ref v, .int (nI 0), .int (nI 0), .int (nI cnt)]]) (va_runU (As := []) (rest := []) ⟨hx, hb, hml, hown, hts⟩ (c_J5_isLatin1_aae02 l G cy wd fo _ _ h v cnt) (va_cwU 0 hts gJ5_append_3fe6f_J5_isLatin1_aae02_u83J4 rfl rfl rfl rfl (by decide +kernel) ⟨Nat.le_of_ble_eq_true rfl, Nat.le_of_ble_eq_true rfl⟩) (z_pVW hK hP hD hS hN hAN hWd [0] rfl (by decide) (va_recv hK hP (ci := 0) (q0 := 0) rfl rfl)) rfl rfl hl.1 rfl (lv_room (Nat.le_of_ble_eq_true rfl)) dJ5_append_3fe6f_11 ⟨Nat.le_of_ble_eq_true rfl, Nat.le_of_ble_eq_true rfl⟩) hP hD hS hA [0] [1] [1, 0] [zY cy v 16 (fun j9 => nI (t j9))] (fun _ => [zO h 0 [.ref v, .int (nI 0), .int (nI 0), .int (nI cnt)], zY cy v 16 (fun j9 => nI (t j9))]) rfl rfl (by decide) (fun _ => rfl) (fun r_2 u H locs hr_2 hQ hD hS hz => ?_)
  have hP : va_P G vwCl [zO h 0 [.ref v, .int (nI 0), .int (nI 0), .int (nI cnt)], zY cy v 16 (fun j9 => nI (t j9))] H := hQ
  have hD : va_D A [zO h 0 [.ref v, .int (nI 0), .int (nI 0), .int (nI cnt)], zY cy v 16 (fun j9 => nI (t j9))] := hD
  clear hQ
  obtain rfl : r_2 = (nI 1) := hr_2
  refine lv_if_eq hx hb dJ5_append_3fe6f_14 (tgt := 45) (by decide) (fun q => absurd q (by decide)) (fun _ => ?_)
  refine lv_iload_n hx hb dJ5_append_3fe6f_17 rfl (lv_at hl 1 rfl) ?_
  refine vp_callSi (va_runS (As := [.int (nI x)]) (rest := []) ⟨hx, hb, hml, hown, hts⟩ (c_J1_canEncode_fc78d l G cy x (by omega)) (va_cwS 1 hts gJ5_append_3fe6f_J1_canEncode_fc78d rfl rfl rfl (by decide +kernel) ⟨Nat.le_of_ble_eq_true rfl, Nat.le_of_ble_eq_true rfl⟩) (z_pS hK hP [] rfl) rfl rfl hl.1 rfl (lv_room (Nat.le_of_ble_eq_true rfl)) dJ5_append_3fe6f_18 ⟨Nat.le_of_ble_eq_true rfl, Nat.le_of_ble_eq_true rfl⟩).run (fun r_3 hr_3 => ?_)
  obtain rfl : r_3 = (nI 1) := hr_3
  refine lv_if_eq hx hb dJ5_append_3fe6f_21 (tgt := 45) (by decide) (fun q => absurd q (by decide)) (fun _ => ?_)
  refine lv_aload_n hx hb dJ5_append_3fe6f_24 rfl (lv_at hl 0 rfl) ?_
  refine va_get (D := G) (ci := 0) (v := .ref v) (C := RJ4) (T := TJ4) (N := 4) hx hb hts in_J5_append_3fe6f_J4 hown hK hP 0 rfl rfl 0 (by decide) (hts _ (List.mem_of_getElem? (i := 2) (by decide +kernel))) (fun _ h9 => h9) rfl dJ5_append_3fe6f_25 ?_
  refine lv_aload_n hx hb dJ5_append_3fe6f_28 rfl (lv_at hl 0 rfl) ?_
  refine lv_dup hx hb dJ5_append_3fe6f_29 rfl ?_
  refine va_get (D := G) (ci := 0) (v := .int (nI cnt)) (C := RJ4) (T := TJ4) (N := 4) hx hb hts in_J5_append_3fe6f_J4 hown hK hP 0 rfl rfl 3 (by decide) (hts _ (List.mem_of_getElem? (i := 1) (by decide +kernel))) (fun _ h9 => h9) rfl dJ5_append_3fe6f_30 ?_
  refine lv_dup_x1 hx hb dJ5_append_3fe6f_33 rfl rfl ?_
  refine lv_iconst (v := nI 1) hx hb dJ5_append_3fe6f_34 (by decide) ?_
  refine z_iadd hx hb dJ5_append_3fe6f_35 ?_
  refine va_put (D := G) (ci := 0) (v := .int (nI (cnt + 1))) (ty := .int) (C := RJ4) (T := TJ4) (N := 4) hx hb hts in_J5_append_3fe6f_J4 tyJ4 tyJ4_ok nmJ4 hown hK hP hD hS 0 rfl rfl 3 (by decide) (hts _ (List.mem_of_getElem? (i := 1) (by decide +kernel))) (fun _ h9 => h9) rfl (by decide +kernel) rfl rfl (Nat.le_of_ble_eq_true rfl) dJ5_append_3fe6f_36 (fun H locs hP hD hS => ?_)
  have hP : va_P G vwCl [zO h 0 [.ref v, .int (nI 0), .int (nI 0), .int (nI (cnt + 1))], zY cy v 16 (fun j9 => nI (t j9))] H := hP
  have hD : va_D A [zO h 0 [.ref v, .int (nI 0), .int (nI 0), .int (nI (cnt + 1))], zY cy v 16 (fun j9 => nI (t j9))] := hD
  refine lv_iload_n hx hb dJ5_append_3fe6f_39 rfl (lv_at hl 1 rfl) ?_
  refine lv_i2b (v := nI x) hx hb dJ5_append_3fe6f_40 (z_i2b (by omega)) ?_
  refine z_bast (G := G) hx hb hK hP hD hS 1 rfl (by omega) (by omega) dJ5_append_3fe6f_41 (fun H locs hP hD hS => ?_)
  have hP : va_P G vwCl [zO h 0 [.ref v, .int (nI 0), .int (nI 0), .int (nI (cnt + 1))], zY cy v 16 (fun j9 => nI ((va_up t cnt x) j9))] H := hP
  have hD : va_D A [zO h 0 [.ref v, .int (nI 0), .int (nI 0), .int (nI (cnt + 1))], zY cy v 16 (fun j9 => nI ((va_up t cnt x) j9))] := hD
  refine lv_goto (tgt := 75) hx hb dJ5_append_3fe6f_42 (by decide) ?_
  refine lv_aload_n hx hb dJ5_append_3fe6f_75 rfl (lv_at hl 0 rfl) ?_
  exact z_rMr hx hb hr hlk dJ5_append_3fe6f_76 () (rfl) hP hD hK hS (Nat.le_of_ble_eq_true rfl) (Nat.le_of_ble_eq_true rfl)
set_option maxHeartbeats 4000000 in
set_option maxRecDepth 100000 in
theorem c_J4_append_cf468 (l : Launch) (G : va_G) (cy : Nat → ClassId) (wd : Nat → Nat) (fo : Option Nat) (N0 sz0 : Nat) (h v : Nat) (cnt x : Nat) (t : Nat → Nat) (hc9 : cnt < 16) (hx9 : x < 128) : Met l yJ4_append_cf468 wsJ4_append_cf468 ({ frames := 2, cells := 0, slots := 0, locals := 43 }) (zMW G cy wd fo N0 [.ref h, .int (nI x)] sz0 [zO h 0 [.ref v, .int (nI 0), .int (nI 0), .int (nI cnt)], zY cy v 16 (fun j9 => nI (t j9))]) (zQr (fun (r : Nat) (_ : Unit) => r = h) (fun (u : Unit) t9 => zB G cy (va_A [zO h 0 [.ref v, .int (nI 0), .int (nI 0), .int (nI cnt)], zY cy v 16 (fun j9 => nI (t j9))] sz0) [zO h 0 [.ref v, .int (nI 0), .int (nI 0), .int (nI (cnt + 1))], zY cy v 16 (fun j9 => nI ((va_up t cnt x) j9))] t9) (va_A [zO h 0 [.ref v, .int (nI 0), .int (nI 0), .int (nI cnt)], zY cy v 16 (fun j9 => nI (t j9))] sz0)) 0 0 (va_A [zO h 0 [.ref v, .int (nI 0), .int (nI 0), .int (nI cnt)], zY cy v 16 (fun j9 => nI (t j9))] sz0) := by
  refine z_ofMW (cc := cJ4_append_cf468) (maxL := 2) (ret := (some (.object "java/lang/StringBuilder"))) (Qc := (fun A => zQr (fun (r : Nat) (_ : Unit) => r = h) (fun (u : Unit) t9 => zB G cy A [zO h 0 [.ref v, .int (nI 0), .int (nI 0), .int (nI (cnt + 1))], zY cy v 16 (fun j9 => nI ((va_up t cnt x) j9))] t9) A)) (by decide) rfl (Nat.le_of_ble_eq_true rfl) ?_
  intro p e s m below meth c ls A hx hb hml hr hts hown hlk hin hP hK hD hA hS hl hsz0 hN hAN hWd
  have hown : s.vm.findClass RJ4 = some m.cls := hown
  have hl : lv_has ls 2 [(0, .ref h), (1, .int (nI x))] := hl
  refine lv_aload_n hx hb dJ4_append_cf468_0 rfl (lv_at hl 0 rfl) ?_
  refine lv_iload_n hx hb dJ4_append_cf468_1 rfl (lv_at hl 1 rfl) ?_
  refine z_cr (wc := [zO h 0 [.ref v, .int (nI 0), .int (nI 0), .int (nI cnt)], zY cy v 16 (fun j9 => nI (t j9))]) (va_runSU (hK.1 0 (RJ4, TJ4, 4) rfl).2 (As := [.int (nI x)]) (rest := []) ⟨hx, hb, hml, hown, hts⟩ (c_J5_append_3fe6f l G cy wd fo _ _ h v cnt x t (by omega) (by omega)) (va_cwSU 1 hts gJ4_append_cf468_J5_append_3fe6f_s50 rfl rfl rfl (by decide +kernel) ⟨Nat.le_of_ble_eq_true rfl, Nat.le_of_ble_eq_true rfl⟩) (z_pVW hK hP hD hS hN hAN hWd [0, 1] rfl (by decide) (va_recv hK hP (ci := 0) (q0 := 0) rfl rfl)) rfl rfl hl.1 rfl (lv_room (Nat.le_of_ble_eq_true rfl)) dJ4_append_cf468_2 ⟨Nat.le_of_ble_eq_true rfl, Nat.le_of_ble_eq_true rfl⟩) hP hD hS hA [0, 1] [] [0, 1] [] (fun _ => [zO h 0 [.ref v, .int (nI 0), .int (nI 0), .int (nI (cnt + 1))], zY cy v 16 (fun j9 => nI ((va_up t cnt x) j9))]) rfl rfl (by decide) (fun _ => rfl) (fun r_1 u H locs hr_1 hQ hD hS hz => ?_)
  have hP : va_P G vwCl [zO h 0 [.ref v, .int (nI 0), .int (nI 0), .int (nI (cnt + 1))], zY cy v 16 (fun j9 => nI ((va_up t cnt x) j9))] H := hQ
  have hD : va_D A [zO h 0 [.ref v, .int (nI 0), .int (nI 0), .int (nI (cnt + 1))], zY cy v 16 (fun j9 => nI ((va_up t cnt x) j9))] := hD
  clear hQ
  obtain rfl : h = r_1 := Eq.symm hr_1
  refine lv_pop hx hb dJ4_append_cf468_5 rfl ?_
  refine lv_aload_n hx hb dJ4_append_cf468_6 rfl (lv_at hl 0 rfl) ?_
  exact z_rMr hx hb hr hlk dJ4_append_cf468_7 () (rfl) hP hD hK hS (Nat.le_of_ble_eq_true rfl) (Nat.le_of_ble_eq_true rfl)
theorem in_J5_length_8abf5_J4 : ∀ w ∈ u_ws RJ4 TJ4 4, w ∈ wsJ5_length_8abf5 := fun _ h => (List.mem_cons_of_mem _ (List.mem_append_right _ h))
set_option maxHeartbeats 4000000 in
set_option maxRecDepth 100000 in
theorem c_J5_length_8abf5 (l : Launch) (G : va_G) (cy : Nat → ClassId) (h v : Nat) (cnt : Nat) : Met l yJ5_length_8abf5 wsJ5_length_8abf5 ({ frames := 0, cells := 0, slots := 0, locals := 0 }) (zS G cy [.ref h] [zO h 0 [.ref v, .int (nI 0), .int (nI 0), .int (nI cnt)]]) (vp_Si (fun r => r = (nI cnt))) 0 0 (fun _ => False) := by
  refine z_ofS (cc := cJ5_length_8abf5) (maxL := 1) (ret := (some .int)) (by decide) rfl (Nat.le_of_ble_eq_true rfl) ?_
  intro p e s m below meth c ls hx hb hml hr hts hown hlk hP hK hl
  have hown : s.vm.findClass RJ5 = some m.cls := hown
  have hl : lv_has ls 1 [(0, .ref h)] := hl
  refine lv_aload_n hx hb dJ5_length_8abf5_0 rfl (lv_at hl 0 rfl) ?_
  refine va_get (D := G) (ci := 0) (v := .int (nI cnt)) (C := RJ4) (T := TJ4) (N := 4) hx hb hts in_J5_length_8abf5_J4 hown hK hP 0 rfl rfl 3 (by decide) (hts _ (List.mem_of_getElem? (i := 1) (by decide +kernel))) (fun _ h9 => h9) rfl dJ5_length_8abf5_1 ?_
  exact z_rSi hx hb hr hlk dJ5_length_8abf5_4 (rfl)
set_option maxHeartbeats 4000000 in
set_option maxRecDepth 100000 in
theorem c_J4_length_8abf5 (l : Launch) (G : va_G) (cy : Nat → ClassId) (h v : Nat) (cnt : Nat) : Met l yJ4_length_8abf5 wsJ4_length_8abf5 ({ frames := 1, cells := 0, slots := 0, locals := 20 }) (zS G cy [.ref h] [zO h 0 [.ref v, .int (nI 0), .int (nI 0), .int (nI cnt)]]) (vp_Si (fun r => r = (nI cnt))) 0 0 (fun _ => False) := by
  refine z_ofS (cc := cJ4_length_8abf5) (maxL := 1) (ret := (some .int)) (by decide) rfl (Nat.le_of_ble_eq_true rfl) ?_
  intro p e s m below meth c ls hx hb hml hr hts hown hlk hP hK hl
  have hown : s.vm.findClass RJ4 = some m.cls := hown
  have hl : lv_has ls 1 [(0, .ref h)] := hl
  refine lv_aload_n hx hb dJ4_length_8abf5_0 rfl (lv_at hl 0 rfl) ?_
  refine vp_callSi (va_runSU (hK.1 0 (RJ4, TJ4, 4) rfl).2 (As := []) (rest := []) ⟨hx, hb, hml, hown, hts⟩ (c_J5_length_8abf5 l G cy h v cnt) (va_cwSU 0 hts gJ4_length_8abf5_J5_length_8abf5_s343 rfl rfl rfl (by decide +kernel) ⟨Nat.le_of_ble_eq_true rfl, Nat.le_of_ble_eq_true rfl⟩) (z_pV hK hP [0] rfl (ci := 0) (q0 := 0) rfl rfl rfl) rfl rfl hl.1 rfl (lv_room (Nat.le_of_ble_eq_true rfl)) dJ4_length_8abf5_1 ⟨Nat.le_of_ble_eq_true rfl, Nat.le_of_ble_eq_true rfl⟩).run (fun r_1 hr_1 => ?_)
  obtain rfl : r_1 = (nI cnt) := hr_1
  exact z_rSi hx hb hr hlk dJ4_length_8abf5_4 (rfl)
