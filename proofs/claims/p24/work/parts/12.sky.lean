theorem in_X2_init_X2 : ∀ w ∈ u_ws RX2 TX2 3, w ∈ wsX2_init := fun _ h => (List.mem_cons_of_mem _ (List.mem_append_right _ h))
set_option maxHeartbeats 4000000 in
set_option maxRecDepth 100000 in
theorem c_X2_init (l : Launch) (G : va_G) (cy : Nat → ClassId) (sz0 : Nat) (h d mu : Nat) (x : Int32) (hd : d ≤ 6) : Met l yX2_init wsX2_init ({ frames := 1, cells := 0, slots := 0, locals := 12 }) (zM G cy [.ref h, .int (nI d), .int (nI mu), .int x] sz0 [zO h 3 [.long (lN 0), .int (nI 0), .int (nI 0)]]) (va_Qv (fun (_ : Unit) => True) (fun (u : Unit) t9 => zB G cy (va_A [zO h 3 [.long (lN 0), .int (nI 0), .int (nI 0)]] sz0) [zO h 3 [.long (lN (10 ^ d)), .int (nI mu), .int x]] t9) (va_A [zO h 3 [.long (lN 0), .int (nI 0), .int (nI 0)]] sz0)) 0 0 (va_A [zO h 3 [.long (lN 0), .int (nI 0), .int (nI 0)]] sz0) := by
  refine z_ofM (cc := cX2_init) (maxL := 7) (ret := none) (Qc := (fun A => va_Qv (fun (_ : Unit) => True) (fun (u : Unit) t9 => zB G cy A [zO h 3 [.long (lN (10 ^ d)), .int (nI mu), .int x]] t9) A)) (by decide) rfl (Nat.le_of_ble_eq_true rfl) ?_
  intro p e s m below meth c ls A hx hb hml hr hts hown hlk hin hP hK hD hA hS hl hsz0
  have hown : s.vm.findClass RX2 = some m.cls := hown
  have hl : lv_has ls 7 [(0, .ref h), (1, .int (nI d)), (2, .int (nI mu)), (3, .int x)] := hl
  have hin : meth.name = "<init>" := hin
  refine lv_aload_n hx hb dX2_init_0 rfl (lv_at hl 0 rfl) ?_
  refine W.objInit hx hb hown (hts _ (List.mem_of_getElem? (i := 1) (by decide +kernel))) (hts _ (List.mem_of_getElem? (i := 2) (by decide +kernel))) (hts _ (List.mem_of_getElem? (i := 3) (by decide +kernel))) rfl (by rw [hml]; exact hl.1) rfl dX2_init_1 (Nat.le_of_ble_eq_true rfl) (Nat.le_of_ble_eq_true rfl) ?_
  refine W.eq (g2 := F0 m 4 ls []) rfl ?_
  refine lv_lconst (v := lN 1) hx hb dX2_init_4 rfl ?_
  refine lv_lstore (lv' := [(4, .long (lN 1)), (0, .ref h), (1, .int (nI d)), (2, .int (nI mu)), (3, .int x)]) hx hb dX2_init_5 hl (by decide) rfl (fun ls hl => ?_)
  refine lv_iconst (v := nI 0) hx hb dX2_init_7 (by decide) ?_
  refine lv_istore (lv' := [(6, .int (nI 0)), (4, .long (lN 1)), (0, .ref h), (1, .int (nI d)), (2, .int (nI mu)), (3, .int x)]) hx hb dX2_init_8 hl (by decide) rfl (fun ls hl => ?_)
  have hloop10 : ∀ (fuel10 : Nat) (j : Nat), (j ≤ d) → (d - j) < fuel10 → ∀ (H : Heap) (locs : List Loc), va_P G vwCl [zO h 3 [.long (lN 0), .int (nI 0), .int (nI 0)]] H → va_D A [zO h 3 [.long (lN 0), .int (nI 0), .int (nI 0)]] → va_S A s.heap H locs → ∀ (ls : Array Slot), lv_has ls 7 [(0, .ref h), (1, .int (nI d)), (2, .int (nI mu)), (3, .int x), (4, .long (lN (10 ^ j))), (6, .int (nI j))] → W p l e { frames := 1, cells := 0, slots := 0, locals := 12 } s m [.ref h, .int (nI d), .int (nI mu), .int x].toArray below meth c H locs 0 0 (MQ below (va_Qv (fun (_ : Unit) => True) (fun (u : Unit) t9 => zB G cy A [zO h 3 [.long (lN (10 ^ d)), .int (nI mu), .int x]] t9) A) [.ref h, .int (nI d), .int (nI mu), .int x].toArray s 0 0 A) (F0 m 10 ls []) := by
    intro fuel10
    induction fuel10 with
    | zero =>
      intro j hi10_0 hfu10
      exact absurd hfu10 (Nat.not_lt_zero _)
    | succ fuel10 ih10 =>
      intro j hi10_0 hfu10 H locs hP hD hS ls hl
      refine lv_iload hx hb dX2_init_10 (lv_at hl 5 rfl) ?_
      refine lv_iload_n hx hb dX2_init_12 rfl (lv_at hl 1 rfl) ?_
      refine z_icmp_ge hx hb (by omega) (by omega) dX2_init_13 (tgt := 30) (by decide) (fun c_1 => ?_) (fun c_1 => ?_)
      · refine lv_aload_n hx hb dX2_init_30 rfl (lv_at hl 0 rfl) ?_
        refine lv_lload hx hb dX2_init_31 (lv_at hl 4 rfl) ?_
        refine va_putF (D := G) (ci := 3) (v := .long (lN (10 ^ j))) (ty := .long) (C := RX2) (T := TX2) (N := 3) hx hb hts in_X2_init_X2 tyX2 tyX2_ok nmX2 hown hK hP hD hS 0 rfl rfl 0 (by decide) (hts _ (List.mem_of_getElem? (i := 5) (by decide +kernel))) (fun _ h9 => h9) rfl hin rfl (by decide +kernel) rfl rfl (Nat.le_of_ble_eq_true rfl) dX2_init_33 (fun H locs hP hD hS => ?_)
        have hP : va_P G vwCl [zO h 3 [.long (lN (10 ^ j)), .int (nI 0), .int (nI 0)]] H := hP
        have hD : va_D A [zO h 3 [.long (lN (10 ^ j)), .int (nI 0), .int (nI 0)]] := hD
        refine lv_aload_n hx hb dX2_init_36 rfl (lv_at hl 0 rfl) ?_
        refine lv_iload_n hx hb dX2_init_37 rfl (lv_at hl 2 rfl) ?_
        refine va_putF (D := G) (ci := 3) (v := .int (nI mu)) (ty := .int) (C := RX2) (T := TX2) (N := 3) hx hb hts in_X2_init_X2 tyX2 tyX2_ok nmX2 hown hK hP hD hS 0 rfl rfl 1 (by decide) (hts _ (List.mem_of_getElem? (i := 6) (by decide +kernel))) (fun _ h9 => h9) rfl hin rfl (by decide +kernel) rfl rfl (Nat.le_of_ble_eq_true rfl) dX2_init_38 (fun H locs hP hD hS => ?_)
        have hP : va_P G vwCl [zO h 3 [.long (lN (10 ^ j)), .int (nI mu), .int (nI 0)]] H := hP
        have hD : va_D A [zO h 3 [.long (lN (10 ^ j)), .int (nI mu), .int (nI 0)]] := hD
        refine lv_aload_n hx hb dX2_init_41 rfl (lv_at hl 0 rfl) ?_
        refine lv_iload_n hx hb dX2_init_42 rfl (lv_at hl 3 rfl) ?_
        refine va_put (D := G) (ci := 3) (v := .int x) (ty := .int) (C := RX2) (T := TX2) (N := 3) hx hb hts in_X2_init_X2 tyX2 tyX2_ok nmX2 hown hK hP hD hS 0 rfl rfl 2 (by decide) (hts _ (List.mem_of_getElem? (i := 7) (by decide +kernel))) (fun _ h9 => h9) rfl (by decide +kernel) rfl rfl (Nat.le_of_ble_eq_true rfl) dX2_init_43 (fun H locs hP hD hS => ?_)
        have hP : va_P G vwCl [zO h 3 [.long (lN (10 ^ j)), .int (nI mu), .int x]] H := hP
        have hD : va_D A [zO h 3 [.long (lN (10 ^ j)), .int (nI mu), .int x]] := hD
        have ej : j = d := by omega
        subst ej
        exact z_rMv hx hb hr hlk dX2_init_46 () (trivial) hP hD hK hS (Nat.le_of_ble_eq_true rfl) (Nat.le_of_ble_eq_true rfl)
      · refine lv_lload hx hb dX2_init_16 (lv_at hl 4 rfl) ?_
        refine lv_ldc2 (v := lN 10) hx hb hown (hts _ (List.mem_of_getElem? (i := 4) (by decide +kernel))) dX2_init_18 ?_
        refine z_lmul hx hb dX2_init_21 ?_
        refine lv_lstore (lv' := [(4, .long (lN ((10 ^ j) * 10))), (0, .ref h), (1, .int (nI d)), (2, .int (nI mu)), (3, .int x), (6, .int (nI j))]) hx hb dX2_init_22 hl (by decide) rfl (fun ls hl => ?_)
        refine lv_iinc (v := (nI (j + 1))) (lv' := [(6, .int (nI (j + 1))), (4, .long (lN ((10 ^ j) * 10))), (0, .ref h), (1, .int (nI d)), (2, .int (nI mu)), (3, .int x)]) hx hb dX2_init_24 hl (k := 5) rfl (nI_add _ _) (by decide) rfl (fun ls hl => ?_)
        refine lv_goto (tgt := 10) hx hb dX2_init_27 (by decide) ?_
        exact ih10 (j + 1) (by omega) (by omega) _ _ hP hD hS _ (lv_sub hl [2, 3, 4, 5, 1, 0] rfl)
  exact hloop10 (d - 0 + 1) 0 (by omega) (by omega) _ _ hP hD hS _ (lv_sub hl [2, 3, 4, 5, 1, 0] rfl)
theorem in_X2_canShow_X2 : ∀ w ∈ u_ws RX2 TX2 3, w ∈ wsX2_canShow := fun _ h => (List.mem_cons_of_mem _ (List.mem_append_right _ h))
set_option maxHeartbeats 4000000 in
set_option maxRecDepth 100000 in
theorem c_X2_canShow (l : Launch) (G : va_G) (cy : Nat → ClassId) (h sz mu : Nat) (x y : Int32) (hsz : sz < 2 ^ 31) : Met l yX2_canShow wsX2_canShow ({ frames := 0, cells := 0, slots := 0, locals := 0 }) (zS G cy [.ref h, .int x] [zO h 3 [.long (lN sz), .int (nI mu), .int y]]) (vp_Si (fun r => (r = nI 1 ∧ (0 ≤ x.toInt ∧ x.toInt < (sz : Int))) ∨ (r = nI 0 ∧ ¬ (0 ≤ x.toInt ∧ x.toInt < (sz : Int))))) 0 0 (fun _ => False) := by
  refine z_ofS (cc := cX2_canShow) (maxL := 2) (ret := (some .boolean)) (by decide) rfl (Nat.le_of_ble_eq_true rfl) ?_
  intro p e s m below meth c ls hx hb hml hr hts hown hlk hP hK hl
  have hown : s.vm.findClass RX2 = some m.cls := hown
  have hl : lv_has ls 2 [(0, .ref h), (1, .int x)] := hl
  refine lv_iload_n hx hb dX2_canShow_0 rfl (lv_at hl 1 rfl) ?_
  refine lv_if_lt hx hb dX2_canShow_1 (tgt := 18) (by decide) (fun c_1 => ?_) (fun c_1 => ?_)
  · refine lv_iconst (v := nI 0) hx hb dX2_canShow_18 (by decide) ?_
    exact z_rSz hx hb hr hlk (by rfl) dX2_canShow_19 (Or.inr ⟨rfl, fun q => by have := z_lt0 c_1; omega⟩)
  · refine lv_iload_n hx hb dX2_canShow_4 rfl (lv_at hl 1 rfl) ?_
    refine lv_i2l (v := x.toInt64) hx hb dX2_canShow_5 rfl ?_
    refine lv_aload_n hx hb dX2_canShow_6 rfl (lv_at hl 0 rfl) ?_
    refine va_get (D := G) (ci := 3) (v := .long (lN sz)) (C := RX2) (T := TX2) (N := 3) hx hb hts in_X2_canShow_X2 hown hK hP 0 rfl rfl 0 (by decide) (hts _ (List.mem_of_getElem? (i := 1) (by decide +kernel))) (fun _ h9 => h9) rfl dX2_canShow_7 ?_
    refine z_lc_ge hx hb dX2_canShow_10 dX2_canShow_11 (tgt := 18) (by decide) (fun c_2 => ?_) (fun c_2 => ?_)
    · refine lv_iconst (v := nI 0) hx hb dX2_canShow_18 (by decide) ?_
      exact z_rSz hx hb hr hlk (by rfl) dX2_canShow_19 (Or.inr ⟨rfl, fun q => by have := (z_xl hsz).mp c_2; omega⟩)
    · refine lv_iconst (v := nI 1) hx hb dX2_canShow_14 (by decide) ?_
      refine lv_goto (tgt := 19) hx hb dX2_canShow_15 (by decide) ?_
      exact z_rSz hx hb hr hlk (by rfl) dX2_canShow_19 (Or.inl ⟨rfl, z_ge0 c_1, by have := mt (z_xl hsz).mpr c_2; omega⟩)
theorem in_X2_useAt_X2 : ∀ w ∈ u_ws RX2 TX2 3, w ∈ wsX2_useAt := fun _ h => (List.mem_cons_of_mem _ (List.mem_append_right _ h))
set_option maxHeartbeats 4000000 in
set_option maxRecDepth 100000 in
theorem c_X2_useAt (l : Launch) (G : va_G) (cy : Nat → ClassId) (h sz mu sh nb : Nat) (hsz : sz < 2 ^ 30) (hmu : mu < 2 ^ 31) (hsh : sh < sz) (hnb : nb < sz) : Met l yX2_useAt wsX2_useAt ({ frames := 0, cells := 0, slots := 0, locals := 0 }) (zS G cy [.ref h, .int (nI nb)] [zO h 3 [.long (lN sz), .int (nI mu), .int (nI sh)]]) (vp_Sl (fun r => r = (lN (z_use sz mu sh nb)))) 0 0 (fun _ => False) := by
  refine z_ofS (cc := cX2_useAt) (maxL := 4) (ret := (some .long)) (by decide) rfl (Nat.le_of_ble_eq_true rfl) ?_
  intro p e s m below meth c ls hx hb hml hr hts hown hlk hP hK hl
  have hown : s.vm.findClass RX2 = some m.cls := hown
  have hl : lv_has ls 4 [(0, .ref h), (1, .int (nI nb))] := hl
  refine lv_iload_n hx hb dX2_useAt_0 rfl (lv_at hl 1 rfl) ?_
  refine z_i2l hx hb (by omega) dX2_useAt_1 ?_
  refine lv_aload_n hx hb dX2_useAt_2 rfl (lv_at hl 0 rfl) ?_
  refine va_get (D := G) (ci := 3) (v := .int (nI sh)) (C := RX2) (T := TX2) (N := 3) hx hb hts in_X2_useAt_X2 hown hK hP 0 rfl rfl 2 (by decide) (hts _ (List.mem_of_getElem? (i := 1) (by decide +kernel))) (fun _ h9 => h9) rfl dX2_useAt_3 ?_
  refine z_i2l hx hb (by omega) dX2_useAt_6 ?_
  by_cases hlt : nb < sh
  · refine lv_lsub hx hb dX2_useAt_7 ?_
    refine lv_lstore_n (lv' := [(2, .long (lN nb - lN sh)), (0, .ref h), (1, .int (nI nb))]) hx hb dX2_useAt_8 rfl hl (by decide) rfl (fun ls hl => ?_)
    refine lv_lload_n hx hb dX2_useAt_9 rfl (lv_at hl 0 rfl) ?_
    refine lv_lconst (v := lN 0) hx hb dX2_useAt_10 rfl ?_
    refine z_lc_ge hx hb dX2_useAt_11 dX2_useAt_12 (tgt := 24) (by decide) (fun c_1 => ?_) (fun c_1 => ?_)
    · exact absurd c_1 (z_negl hlt (by omega))
    · refine lv_lload_n hx hb dX2_useAt_15 rfl (lv_at hl 0 rfl) ?_
      refine lv_aload_n hx hb dX2_useAt_16 rfl (lv_at hl 1 rfl) ?_
      refine va_get (D := G) (ci := 3) (v := .long (lN sz)) (C := RX2) (T := TX2) (N := 3) hx hb hts in_X2_useAt_X2 hown hK hP 0 rfl rfl 0 (by decide) (hts _ (List.mem_of_getElem? (i := 2) (by decide +kernel))) (fun _ h9 => h9) rfl dX2_useAt_17 ?_
      refine lv_ladd hx hb dX2_useAt_20 ?_
      rw [z_addl (by omega)]
      refine lv_goto (tgt := 25) hx hb dX2_useAt_21 (by decide) ?_
      refine lv_aload_n hx hb dX2_useAt_25 rfl (lv_at hl 1 rfl) ?_
      refine va_get (D := G) (ci := 3) (v := .int (nI mu)) (C := RX2) (T := TX2) (N := 3) hx hb hts in_X2_useAt_X2 hown hK hP 0 rfl rfl 1 (by decide) (hts _ (List.mem_of_getElem? (i := 3) (by decide +kernel))) (fun _ h9 => h9) rfl dX2_useAt_26 ?_
      refine z_i2l hx hb (by omega) dX2_useAt_29 ?_
      refine z_lmul hx hb dX2_useAt_30 ?_
      exact z_rSl hx hb hr hlk dX2_useAt_31 (by rw [z_use, if_pos hlt])
  · refine z_lsub hx hb (by omega) dX2_useAt_7 ?_
    refine lv_lstore_n (lv' := [(2, .long (lN (nb - sh))), (0, .ref h), (1, .int (nI nb))]) hx hb dX2_useAt_8 rfl hl (by decide) rfl (fun ls hl => ?_)
    refine lv_lload_n hx hb dX2_useAt_9 rfl (lv_at hl 0 rfl) ?_
    refine lv_lconst (v := lN 0) hx hb dX2_useAt_10 rfl ?_
    refine z_lcN_ge hx hb (by omega) (by omega) dX2_useAt_11 dX2_useAt_12 (tgt := 24) (by decide) (fun c_2 => ?_) (fun c_2 => ?_)
    · refine lv_lload_n hx hb dX2_useAt_24 rfl (lv_at hl 0 rfl) ?_
      refine lv_aload_n hx hb dX2_useAt_25 rfl (lv_at hl 1 rfl) ?_
      refine va_get (D := G) (ci := 3) (v := .int (nI mu)) (C := RX2) (T := TX2) (N := 3) hx hb hts in_X2_useAt_X2 hown hK hP 0 rfl rfl 1 (by decide) (hts _ (List.mem_of_getElem? (i := 3) (by decide +kernel))) (fun _ h9 => h9) rfl dX2_useAt_26 ?_
      refine z_i2l hx hb (by omega) dX2_useAt_29 ?_
      refine z_lmul hx hb dX2_useAt_30 ?_
      exact z_rSl hx hb hr hlk dX2_useAt_31 (by rw [z_use, if_neg hlt])
    · exfalso; omega
theorem in_X2_setShown_X2 : ∀ w ∈ u_ws RX2 TX2 3, w ∈ wsX2_setShown := fun _ h => (List.mem_cons_of_mem _ (List.mem_append_right _ h))
set_option maxHeartbeats 4000000 in
set_option maxRecDepth 100000 in
theorem c_X2_setShown (l : Launch) (G : va_G) (cy : Nat → ClassId) (sz0 : Nat) (h sz mu x : Nat) (y : Int32) : Met l yX2_setShown wsX2_setShown ({ frames := 0, cells := 0, slots := 0, locals := 0 }) (zM G cy [.ref h, .int (nI x)] sz0 [zO h 3 [.long (lN sz), .int (nI mu), .int y]]) (va_Qv (fun (_ : Unit) => True) (fun (u : Unit) t9 => zB G cy (va_A [zO h 3 [.long (lN sz), .int (nI mu), .int y]] sz0) [zO h 3 [.long (lN sz), .int (nI mu), .int (nI x)]] t9) (va_A [zO h 3 [.long (lN sz), .int (nI mu), .int y]] sz0)) 0 0 (va_A [zO h 3 [.long (lN sz), .int (nI mu), .int y]] sz0) := by
  refine z_ofM (cc := cX2_setShown) (maxL := 2) (ret := none) (Qc := (fun A => va_Qv (fun (_ : Unit) => True) (fun (u : Unit) t9 => zB G cy A [zO h 3 [.long (lN sz), .int (nI mu), .int (nI x)]] t9) A)) (by decide) rfl (Nat.le_of_ble_eq_true rfl) ?_
  intro p e s m below meth c ls A hx hb hml hr hts hown hlk hin hP hK hD hA hS hl hsz0
  have hown : s.vm.findClass RX2 = some m.cls := hown
  have hl : lv_has ls 2 [(0, .ref h), (1, .int (nI x))] := hl
  refine lv_aload_n hx hb dX2_setShown_0 rfl (lv_at hl 0 rfl) ?_
  refine lv_iload_n hx hb dX2_setShown_1 rfl (lv_at hl 1 rfl) ?_
  refine va_put (D := G) (ci := 3) (v := .int (nI x)) (ty := .int) (C := RX2) (T := TX2) (N := 3) hx hb hts in_X2_setShown_X2 tyX2 tyX2_ok nmX2 hown hK hP hD hS 0 rfl rfl 2 (by decide) (hts _ (List.mem_of_getElem? (i := 1) (by decide +kernel))) (fun _ h9 => h9) rfl (by decide +kernel) rfl rfl (Nat.le_of_ble_eq_true rfl) dX2_setShown_2 (fun H locs hP hD hS => ?_)
  have hP : va_P G vwCl [zO h 3 [.long (lN sz), .int (nI mu), .int (nI x)]] H := hP
  have hD : va_D A [zO h 3 [.long (lN sz), .int (nI mu), .int (nI x)]] := hD
  exact z_rMv hx hb hr hlk dX2_setShown_5 () (trivial) hP hD hK hS (Nat.le_of_ble_eq_true rfl) (Nat.le_of_ble_eq_true rfl)
theorem in_X7_weight_X7 : ∀ w ∈ u_ws RX7 TX7 1, w ∈ wsX7_weight := fun _ h => (List.mem_cons_of_mem _ (List.mem_append_left _ (List.mem_append_right _ h)))
set_option maxHeartbeats 4000000 in
set_option maxRecDepth 100000 in
theorem c_X7_weight (l : Launch) (G : va_G) (cy : Nat → ClassId) (h ho ha : Nat) (g : Nat → Nat) (k i : Nat) (hk : k < 3) (hi : i < 1000) : Met l yX7_weight wsX7_weight ({ frames := 1, cells := 0, slots := 0, locals := 21 }) (zS G cy [.ref h, .int (nI k), .int (nI i)] [zO h 8 [.ref ho], zO ho 6 [.ref ha], zL cy ha 1000 (fun j9 => lN (g j9))]) (vp_Sl (fun r => r = (lN (z_wt k (g i))))) 0 0 (fun _ => False) := by
  refine z_ofS (cc := cX7_weight) (maxL := 3) (ret := (some .long)) (by decide) rfl (Nat.le_of_ble_eq_true rfl) ?_
  intro p e s m below meth c ls hx hb hml hr hts hown hlk hP hK hl
  have hown : s.vm.findClass RX7 = some m.cls := hown
  have hl : lv_has ls 3 [(0, .ref h), (1, .int (nI k)), (2, .int (nI i))] := hl
  refine lv_iload_n hx hb dX7_weight_0 rfl (lv_at hl 1 rfl) ?_
  rcases (show k = 0 ∨ k = 1 ∨ k = 2 by omega) with rfl | rfl | rfl
  · refine lv_lookup (off := 27) (tgt := 28) hx hb dX7_weight_1 (by decide) (by decide) (by decide) ?_
    refine lv_ldc2 (v := lN 10) hx hb hown (hts _ (List.mem_of_getElem? (i := 1) (by decide +kernel))) dX7_weight_28 ?_
    exact z_rSl hx hb hr hlk dX7_weight_31 (rfl)
  · refine lv_lookup (off := 31) (tgt := 32) hx hb dX7_weight_1 (by decide) (by decide) (by decide) ?_
    refine lv_ldc2 (v := lN 10) hx hb hown (hts _ (List.mem_of_getElem? (i := 1) (by decide +kernel))) dX7_weight_32 ?_
    refine lv_aload_n hx hb dX7_weight_35 rfl (lv_at hl 0 rfl) ?_
    refine va_get (D := G) (ci := 8) (v := .ref ho) (C := RX7) (T := TX7) (N := 1) hx hb hts in_X7_weight_X7 hown hK hP 0 rfl rfl 0 (by decide) (hts _ (List.mem_of_getElem? (i := 2) (by decide +kernel))) (fun _ h9 => h9) rfl dX7_weight_36 ?_
    refine lv_iload_n hx hb dX7_weight_39 rfl (lv_at hl 2 rfl) ?_
    refine vp_callSl (va_runV (As := [.int (nI i)]) (rest := [.long (lN 10)]) ⟨hx, hb, hml, hown, hts⟩ (c_X5_getN l G cy ho ha 1000 g i (by omega) (by omega)) (cwV 1 hts gX7_weight_X5_get rfl rfl rfl (by decide +kernel) ⟨Nat.le_of_ble_eq_true rfl, Nat.le_of_ble_eq_true rfl⟩) (z_pV hK hP [1, 2] rfl (ci := 6) (q0 := 0) rfl rfl rfl) rfl rfl hl.1 rfl (lv_room (Nat.le_of_ble_eq_true rfl)) dX7_weight_40 ⟨Nat.le_of_ble_eq_true rfl, Nat.le_of_ble_eq_true rfl⟩).run (fun r_1 hr_1 => ?_)
    obtain rfl : r_1 = (lN (g i)) := hr_1
    refine z_ladd hx hb dX7_weight_43 ?_
    exact z_rSl hx hb hr hlk dX7_weight_44 (rfl)
  · refine lv_lookup (off := 44) (tgt := 45) hx hb dX7_weight_1 (by decide) (by decide) (by decide) ?_
    refine lv_ldc2 (v := lN 5) hx hb hown (hts _ (List.mem_of_getElem? (i := 3) (by decide +kernel))) dX7_weight_45 ?_
    refine lv_ldc2 (v := lN 3) hx hb hown (hts _ (List.mem_of_getElem? (i := 4) (by decide +kernel))) dX7_weight_48 ?_
    refine lv_aload_n hx hb dX7_weight_51 rfl (lv_at hl 0 rfl) ?_
    refine va_get (D := G) (ci := 8) (v := .ref ho) (C := RX7) (T := TX7) (N := 1) hx hb hts in_X7_weight_X7 hown hK hP 0 rfl rfl 0 (by decide) (hts _ (List.mem_of_getElem? (i := 2) (by decide +kernel))) (fun _ h9 => h9) rfl dX7_weight_52 ?_
    refine lv_iload_n hx hb dX7_weight_55 rfl (lv_at hl 2 rfl) ?_
    refine vp_callSl (va_runV (As := [.int (nI i)]) (rest := [.long (lN 3), .long (lN 5)]) ⟨hx, hb, hml, hown, hts⟩ (c_X5_getN l G cy ho ha 1000 g i (by omega) (by omega)) (cwV 1 hts gX7_weight_X5_get rfl rfl rfl (by decide +kernel) ⟨Nat.le_of_ble_eq_true rfl, Nat.le_of_ble_eq_true rfl⟩) (z_pV hK hP [1, 2] rfl (ci := 6) (q0 := 0) rfl rfl rfl) rfl rfl hl.1 rfl (lv_room (Nat.le_of_ble_eq_true rfl)) dX7_weight_56 ⟨Nat.le_of_ble_eq_true rfl, Nat.le_of_ble_eq_true rfl⟩).run (fun r_2 hr_2 => ?_)
    obtain rfl : r_2 = (lN (g i)) := hr_2
    refine z_lmul hx hb dX7_weight_59 ?_
    refine z_ladd hx hb dX7_weight_60 ?_
    exact z_rSl hx hb hr hlk dX7_weight_61 (rfl)
set_option maxHeartbeats 4000000 in
set_option maxRecDepth 100000 in
theorem c_X7_weights (l : Launch) (G : va_G) (cy : Nat → ClassId) (h ho ha : Nat) (g : Nat → Nat) (k a b : Nat) (hk : k < 3) (hab : a ≤ b) (hb9 : b ≤ 1000) : Met l yX7_weights wsX7_weights ({ frames := 2, cells := 0, slots := 0, locals := 43 }) (zS G cy [.ref h, .int (nI k), .int (nI a), .int (nI b)] [zO h 8 [.ref ho], zO ho 6 [.ref ha], zL cy ha 1000 (fun j9 => lN (g j9))]) (vp_Sl (fun r => r = (lN (z_sm (fun j8 => z_wt k (g j8)) a (b - a))))) 0 0 (fun _ => False) := by
  refine z_ofS (cc := cX7_weights) (maxL := 7) (ret := (some .long)) (by decide) rfl (Nat.le_of_ble_eq_true rfl) ?_
  intro p e s m below meth c ls hx hb hml hr hts hown hlk hP hK hl
  have hown : s.vm.findClass RX7 = some m.cls := hown
  have hl : lv_has ls 7 [(0, .ref h), (1, .int (nI k)), (2, .int (nI a)), (3, .int (nI b))] := hl
  refine lv_lconst (v := lN 0) hx hb dX7_weights_0 rfl ?_
  refine lv_lstore (lv' := [(4, .long (lN 0)), (0, .ref h), (1, .int (nI k)), (2, .int (nI a)), (3, .int (nI b))]) hx hb dX7_weights_1 hl (by decide) rfl (fun ls hl => ?_)
  refine lv_iload_n hx hb dX7_weights_3 rfl (lv_at hl 3 rfl) ?_
  refine lv_istore (lv' := [(6, .int (nI a)), (4, .long (lN 0)), (0, .ref h), (1, .int (nI k)), (2, .int (nI a)), (3, .int (nI b))]) hx hb dX7_weights_4 hl (by decide) rfl (fun ls hl => ?_)
  have hloop6 : ∀ (fuel6 : Nat) (j : Nat), (a + j ≤ b) → (b - a - j) < fuel6 → ∀ (ls : Array Slot), lv_has ls 7 [(0, .ref h), (1, .int (nI k)), (2, .int (nI a)), (3, .int (nI b)), (4, .long (lN (z_sm (fun j8 => z_wt k (g j8)) a j))), (6, .int (nI (a + j)))] → W p l e { frames := 2, cells := 0, slots := 0, locals := 43 } s m [.ref h, .int (nI k), .int (nI a), .int (nI b)].toArray below meth c s.heap [] 0 0 (MQ below (vp_Sl (fun r => r = (lN (z_sm (fun j8 => z_wt k (g j8)) a (b - a))))) [.ref h, .int (nI k), .int (nI a), .int (nI b)].toArray s 0 0 (fun _ => False)) (F0 m 6 ls []) := by
    intro fuel6
    induction fuel6 with
    | zero =>
      intro j hi6_0 hfu6
      exact absurd hfu6 (Nat.not_lt_zero _)
    | succ fuel6 ih6 =>
      intro j hi6_0 hfu6 ls hl
      refine lv_iload hx hb dX7_weights_6 (lv_at hl 5 rfl) ?_
      refine lv_iload_n hx hb dX7_weights_8 rfl (lv_at hl 3 rfl) ?_
      refine z_icmp_ge hx hb (by omega) (by omega) dX7_weights_9 (tgt := 30) (by decide) (fun c_1 => ?_) (fun c_1 => ?_)
      · refine lv_lload hx hb dX7_weights_30 (lv_at hl 4 rfl) ?_
        exact z_rSl hx hb hr hlk dX7_weights_32 (by rw [show b - a = j by omega])
      · refine lv_lload hx hb dX7_weights_12 (lv_at hl 4 rfl) ?_
        refine lv_aload_n hx hb dX7_weights_14 rfl (lv_at hl 0 rfl) ?_
        refine lv_iload_n hx hb dX7_weights_15 rfl (lv_at hl 1 rfl) ?_
        refine lv_iload hx hb dX7_weights_16 (lv_at hl 5 rfl) ?_
        refine vp_callSl (va_runV (As := [.int (nI k), .int (nI (a + j))]) (rest := [.long (lN (z_sm (fun j8 => z_wt k (g j8)) a j))]) ⟨hx, hb, hml, hown, hts⟩ (c_X7_weight l G cy h ho ha g k (a + j) (by omega) (by omega)) (cwV 2 hts gX7_weights_X7_weight rfl rfl rfl (by decide +kernel) ⟨Nat.le_of_ble_eq_true rfl, Nat.le_of_ble_eq_true rfl⟩) (z_pV hK hP [0, 1, 2] rfl (ci := 8) (q0 := 0) rfl rfl rfl) rfl rfl hl.1 rfl (lv_room (Nat.le_of_ble_eq_true rfl)) dX7_weights_18 ⟨Nat.le_of_ble_eq_true rfl, Nat.le_of_ble_eq_true rfl⟩).run (fun r_2 hr_2 => ?_)
        obtain rfl : r_2 = (lN (z_wt k (g (a + j)))) := hr_2
        refine z_ladd hx hb dX7_weights_21 ?_
        refine lv_lstore (lv' := [(4, .long (lN ((z_sm (fun j8 => z_wt k (g j8)) a j) + (z_wt k (g (a + j)))))), (0, .ref h), (1, .int (nI k)), (2, .int (nI a)), (3, .int (nI b)), (6, .int (nI (a + j)))]) hx hb dX7_weights_22 hl (by decide) rfl (fun ls hl => ?_)
        refine lv_iinc (v := (nI (a + j + 1))) (lv' := [(6, .int (nI (a + j + 1))), (4, .long (lN ((z_sm (fun j8 => z_wt k (g j8)) a j) + (z_wt k (g (a + j)))))), (0, .ref h), (1, .int (nI k)), (2, .int (nI a)), (3, .int (nI b))]) hx hb dX7_weights_24 hl (k := 5) rfl (nI_add _ _) (by decide) rfl (fun ls hl => ?_)
        refine lv_goto (tgt := 6) hx hb dX7_weights_27 (by decide) ?_
        exact ih6 (j + 1) (by omega) (by omega) _ (lv_sub hl [2, 3, 4, 5, 1, 0] rfl)
  exact hloop6 (b - a - 0 + 1) 0 (by omega) (by omega) _ (lv_sub hl [2, 3, 4, 5, 1, 0] rfl)
theorem in_X7_tell_X7 : ∀ w ∈ u_ws RX7 TX7 1, w ∈ wsX7_tell := fun _ h => (List.mem_cons_of_mem _ (List.mem_append_left _ (List.mem_append_right _ h)))
set_option maxHeartbeats 4000000 in
set_option maxRecDepth 100000 in
theorem c_X7_tell (l : Launch) (G : va_G) (cy : Nat → ClassId) (sz0 : Nat) (h ho ha : Nat) (g : Nat → Nat) (a b t : Nat) (hg : ∀ d, g d ≤ 30) (hab : a ≤ b) (hb9 : b < 1000) (ht : t ≤ 30) : Met l yX7_tell wsX7_tell ({ frames := 1, cells := 0, slots := 0, locals := 23 }) (zM G cy [.ref h, .int (nI a), .int (nI b), .int (nI t)] sz0 [zO h 8 [.ref ho], zO ho 6 [.ref ha], zL cy ha 1000 (fun j9 => lN (g j9))]) (va_Qi (fun (r : Int32) (_ : Unit) => r = (nI (z_sm (fun j8 => if g j8 = t then 0 else 1) a (b + 1 - a)))) (fun (u : Unit) t9 => zB G cy (va_A [zO h 8 [.ref ho], zO ho 6 [.ref ha], zL cy ha 1000 (fun j9 => lN (g j9))] sz0) [zO h 8 [.ref ho], zO ho 6 [.ref ha], zL cy ha 1000 (fun j9 => lN ((z_fill g t a (b + 1 - a)) j9))] t9) (va_A [zO h 8 [.ref ho], zO ho 6 [.ref ha], zL cy ha 1000 (fun j9 => lN (g j9))] sz0)) 0 0 (va_A [zO h 8 [.ref ho], zO ho 6 [.ref ha], zL cy ha 1000 (fun j9 => lN (g j9))] sz0) := by
  refine z_ofM (cc := cX7_tell) (maxL := 6) (ret := (some .int)) (Qc := (fun A => va_Qi (fun (r : Int32) (_ : Unit) => r = (nI (z_sm (fun j8 => if g j8 = t then 0 else 1) a (b + 1 - a)))) (fun (u : Unit) t9 => zB G cy A [zO h 8 [.ref ho], zO ho 6 [.ref ha], zL cy ha 1000 (fun j9 => lN ((z_fill g t a (b + 1 - a)) j9))] t9) A)) (by decide) rfl (Nat.le_of_ble_eq_true rfl) ?_
  intro p e s m below meth c ls A hx hb hml hr hts hown hlk hin hP hK hD hA hS hl hsz0
  have hown : s.vm.findClass RX7 = some m.cls := hown
  have hl : lv_has ls 6 [(0, .ref h), (1, .int (nI a)), (2, .int (nI b)), (3, .int (nI t))] := hl
  refine lv_iconst (v := nI 0) hx hb dX7_tell_0 (by decide) ?_
  refine lv_istore (lv' := [(4, .int (nI 0)), (0, .ref h), (1, .int (nI a)), (2, .int (nI b)), (3, .int (nI t))]) hx hb dX7_tell_1 hl (by decide) rfl (fun ls hl => ?_)
  refine lv_iload_n hx hb dX7_tell_3 rfl (lv_at hl 2 rfl) ?_
  refine lv_istore (lv' := [(5, .int (nI a)), (4, .int (nI 0)), (0, .ref h), (1, .int (nI a)), (2, .int (nI b)), (3, .int (nI t))]) hx hb dX7_tell_4 hl (by decide) rfl (fun ls hl => ?_)
  have hloop6 : ∀ (fuel6 : Nat) (j : Nat), (a + j ≤ b + 1) → (b + 1 - a - j) < fuel6 → ∀ (H : Heap) (locs : List Loc), va_P G vwCl [zO h 8 [.ref ho], zO ho 6 [.ref ha], zL cy ha 1000 (fun j9 => lN ((z_fill g t a j) j9))] H → va_D A [zO h 8 [.ref ho], zO ho 6 [.ref ha], zL cy ha 1000 (fun j9 => lN ((z_fill g t a j) j9))] → va_S A s.heap H locs → ∀ (ls : Array Slot), lv_has ls 6 [(0, .ref h), (1, .int (nI a)), (2, .int (nI b)), (3, .int (nI t)), (4, .int (nI (z_sm (fun j8 => if g j8 = t then 0 else 1) a j))), (5, .int (nI (a + j)))] → W p l e { frames := 1, cells := 0, slots := 0, locals := 23 } s m [.ref h, .int (nI a), .int (nI b), .int (nI t)].toArray below meth c H locs 0 0 (MQ below (va_Qi (fun (r : Int32) (_ : Unit) => r = (nI (z_sm (fun j8 => if g j8 = t then 0 else 1) a (b + 1 - a)))) (fun (u : Unit) t9 => zB G cy A [zO h 8 [.ref ho], zO ho 6 [.ref ha], zL cy ha 1000 (fun j9 => lN ((z_fill g t a (b + 1 - a)) j9))] t9) A) [.ref h, .int (nI a), .int (nI b), .int (nI t)].toArray s 0 0 A) (F0 m 6 ls []) := by
    intro fuel6
    induction fuel6 with
    | zero =>
      intro j hi6_0 hfu6
      exact absurd hfu6 (Nat.not_lt_zero _)
    | succ fuel6 ih6 =>
      intro j hi6_0 hfu6 H locs hP hD hS ls hl
      refine lv_iload hx hb dX7_tell_6 (lv_at hl 5 rfl) ?_
      refine lv_iload_n hx hb dX7_tell_8 rfl (lv_at hl 2 rfl) ?_
      refine z_icmp_gt hx hb (by omega) (by omega) dX7_tell_9 (tgt := 55) (by decide) (fun c_1 => ?_) (fun c_1 => ?_)
      · refine lv_iload hx hb dX7_tell_55 (lv_at hl 4 rfl) ?_
        have ej : b + 1 - a = j := by omega
        rw [← ej] at hP hD
        exact z_rMi hx hb hr hlk dX7_tell_57 () (by rw [ej]) hP hD hK hS (Nat.le_of_ble_eq_true rfl) (Nat.le_of_ble_eq_true rfl)
      · refine lv_iload hx hb dX7_tell_12 (lv_at hl 5 rfl) ?_
        refine lv_sipush (v := nI 1000) hx hb dX7_tell_14 (by decide) ?_
        refine z_icmp_ge hx hb (by omega) (by omega) dX7_tell_17 (tgt := 55) (by decide) (fun c_2 => ?_) (fun c_2 => ?_)
        · refine lv_iload hx hb dX7_tell_55 (lv_at hl 4 rfl) ?_
          have ej : b + 1 - a = j := by omega
          rw [← ej] at hP hD
          exact z_rMi hx hb hr hlk dX7_tell_57 () (by rw [ej]) hP hD hK hS (Nat.le_of_ble_eq_true rfl) (Nat.le_of_ble_eq_true rfl)
        · refine lv_aload_n hx hb dX7_tell_20 rfl (lv_at hl 0 rfl) ?_
          refine va_get (D := G) (ci := 8) (v := .ref ho) (C := RX7) (T := TX7) (N := 1) hx hb hts in_X7_tell_X7 hown hK hP 0 rfl rfl 0 (by decide) (hts _ (List.mem_of_getElem? (i := 1) (by decide +kernel))) (fun _ h9 => h9) rfl dX7_tell_21 ?_
          refine lv_iload hx hb dX7_tell_24 (lv_at hl 5 rfl) ?_
          refine vp_callSl (va_runV (As := [.int (nI (a + j))]) (rest := []) ⟨hx, hb, hml, hown, hts⟩ (c_X5_getN l G cy ho ha 1000 (z_fill g t a j) (a + j) (by omega) (by omega)) (cwV 1 hts gX7_tell_X5_get rfl rfl rfl (by decide +kernel) ⟨Nat.le_of_ble_eq_true rfl, Nat.le_of_ble_eq_true rfl⟩) (z_pV hK hP [1, 2] rfl (ci := 6) (q0 := 0) rfl rfl rfl) rfl rfl hl.1 rfl (lv_room (Nat.le_of_ble_eq_true rfl)) dX7_tell_26 ⟨Nat.le_of_ble_eq_true rfl, Nat.le_of_ble_eq_true rfl⟩).run (fun r_3 hr_3 => ?_)
          replace hr_3 : r_3 = (lN (g (a + j))) := Eq.trans hr_3 (congrArg lN z_fill_at)
          obtain rfl : r_3 = (lN (g (a + j))) := hr_3
          refine lv_iload_n hx hb dX7_tell_29 rfl (lv_at hl 3 rfl) ?_
          refine z_i2l hx hb (by omega) dX7_tell_30 ?_
          refine z_lcN_eq hx hb (by have := hg (a + j); omega) (by omega) dX7_tell_31 dX7_tell_32 (tgt := 49) (by decide) (fun c_4 => ?_) (fun c_4 => ?_)
          · refine lv_iinc (v := (nI (a + j + 1))) (lv' := [(5, .int (nI (a + j + 1))), (0, .ref h), (1, .int (nI a)), (2, .int (nI b)), (3, .int (nI t)), (4, .int (nI (z_sm (fun j8 => if g j8 = t then 0 else 1) a j)))]) hx hb dX7_tell_49 hl (k := 5) rfl (nI_add _ _) (by decide) rfl (fun ls hl => ?_)
            refine lv_goto (tgt := 6) hx hb dX7_tell_52 (by decide) ?_
            rw [z_fill_same c_4] at hP hD
            rw [show z_sm (fun j8 => if g j8 = t then 0 else 1) a j = z_sm (fun j8 => if g j8 = t then 0 else 1) a (j + 1) by rw [z_sm, if_pos c_4]; rfl] at hl
            exact ih6 (j + 1) (by omega) (by omega) _ _ hP hD hS _ (lv_sub hl [1, 2, 3, 4, 5, 0] rfl)
          · refine lv_aload_n hx hb dX7_tell_35 rfl (lv_at hl 0 rfl) ?_
            refine va_get (D := G) (ci := 8) (v := .ref ho) (C := RX7) (T := TX7) (N := 1) hx hb hts in_X7_tell_X7 hown hK hP 0 rfl rfl 0 (by decide) (hts _ (List.mem_of_getElem? (i := 1) (by decide +kernel))) (fun _ h9 => h9) rfl dX7_tell_36 ?_
            refine lv_iload hx hb dX7_tell_39 (lv_at hl 5 rfl) ?_
            refine lv_iload_n hx hb dX7_tell_41 rfl (lv_at hl 3 rfl) ?_
            refine z_i2l hx hb (by omega) dX7_tell_42 ?_
            refine z_cv (wc := [zO ho 6 [.ref ha], zL cy ha 1000 (fun j9 => lN ((z_fill g t a j) j9))]) (va_runV (As := [.int (nI (a + j)), .long (lN t)]) (rest := []) ⟨hx, hb, hml, hown, hts⟩ (c_X5_setN l G cy _ ho ha 1000 (z_fill g t a j) (a + j) t (by omega) (by omega)) (cwV 2 hts gX7_tell_X5_set rfl rfl rfl (by decide +kernel) ⟨Nat.le_of_ble_eq_true rfl, Nat.le_of_ble_eq_true rfl⟩) (z_pVM hK hP hD [1, 2] rfl (by decide) (ci := 6) (q0 := 0) rfl rfl rfl) rfl rfl hl.1 rfl (lv_room (Nat.le_of_ble_eq_true rfl)) dX7_tell_43 ⟨Nat.le_of_ble_eq_true rfl, Nat.le_of_ble_eq_true rfl⟩) hP hD hS hA [1, 2] [0] [0, 1, 2] [zO h 8 [.ref ho]] (fun _ => [zO h 8 [.ref ho], zO ho 6 [.ref ha], zL cy ha 1000 (fun j9 => lN ((va_up (z_fill g t a j) (a + j) t) j9))]) rfl rfl (by decide) (fun _ => rfl) (fun u H locs hr_5 hQ hD hS hz => ?_)
            have hP : va_P G vwCl [zO h 8 [.ref ho], zO ho 6 [.ref ha], zL cy ha 1000 (fun j9 => lN ((va_up (z_fill g t a j) (a + j) t) j9))] H := hQ
            have hD : va_D A [zO h 8 [.ref ho], zO ho 6 [.ref ha], zL cy ha 1000 (fun j9 => lN ((va_up (z_fill g t a j) (a + j) t) j9))] := hD
            clear hQ
            refine lv_iinc (v := (nI (z_sm (fun j8 => if g j8 = t then 0 else 1) a j + 1))) (lv' := [(4, .int (nI (z_sm (fun j8 => if g j8 = t then 0 else 1) a j + 1))), (0, .ref h), (1, .int (nI a)), (2, .int (nI b)), (3, .int (nI t)), (5, .int (nI (a + j)))]) hx hb dX7_tell_46 hl (k := 4) rfl (nI_add _ _) (by decide) rfl (fun ls hl => ?_)
            refine lv_iinc (v := (nI (a + j + 1))) (lv' := [(5, .int (nI (a + j + 1))), (4, .int (nI (z_sm (fun j8 => if g j8 = t then 0 else 1) a j + 1))), (0, .ref h), (1, .int (nI a)), (2, .int (nI b)), (3, .int (nI t))]) hx hb dX7_tell_49 hl (k := 5) rfl (nI_add _ _) (by decide) rfl (fun ls hl => ?_)
            refine lv_goto (tgt := 6) hx hb dX7_tell_52 (by decide) ?_
            rw [z_fill_up] at hP hD
            rw [show z_sm (fun j8 => if g j8 = t then 0 else 1) a j + 1 = z_sm (fun j8 => if g j8 = t then 0 else 1) a (j + 1) by rw [z_sm, if_neg c_4]] at hl
            exact ih6 (j + 1) (by omega) (by omega) _ _ hP hD hS _ (lv_sub hl [2, 3, 4, 5, 1, 0] rfl)
  rw [← z_fill_0 (g := g) (t := t) (a := a)] at hP hD
  exact hloop6 (b + 1 - a - 0 + 1) 0 (by omega) (by omega) _ _ hP hD hS _ (lv_sub hl [2, 3, 4, 5, 1, 0] rfl)
