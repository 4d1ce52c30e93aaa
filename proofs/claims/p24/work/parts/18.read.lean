theorem in_X4_init_X4 : ∀ w ∈ u_ws RX4 TX4 12, w ∈ wsX4_init := fun _ h => (List.mem_cons_of_mem _ (List.mem_append_right _ h))
theorem in_X4_init_X5 : ∀ w ∈ u_ws RX5 TX5 1, w ∈ wsX4_init := fun _ h => (List.mem_cons_of_mem _ (List.mem_append_left _ (List.mem_append_right _ h)))
set_option maxHeartbeats 4000000 in
set_option maxRecDepth 100000 in
theorem c_X4_init (l : Launch) (G : va_G) (cy : Nat → ClassId) (sz0 : Nat) (h hm sk dv k fi : Nat) : Met l yX4_init wsX4_init ({ frames := 2, cells := 4, slots := 2002, locals := 33 }) (zM G cy [.ref h, .ref hm, .int (nI k), .int (nI fi), .ref sk, .ref dv] sz0 [zO h 5 [.int (nI 0), .int (nI 0), .null, .null, .null, .null, .null, .int (nI 0), .int (nI 0), .long (lN 0), .int (nI 0), .int (nI 0)]]) (va_Qv (fun (_ : Nat × Nat × Nat × Nat) => True) (fun (u : Nat × Nat × Nat × Nat) t9 => zB G cy (va_A [zO h 5 [.int (nI 0), .int (nI 0), .null, .null, .null, .null, .null, .int (nI 0), .int (nI 0), .long (lN 0), .int (nI 0), .int (nI 0)]] sz0) [zO h 5 [.int (nI k), .int (nI fi), .ref sk, .ref dv, .ref u.1, .ref u.2.1, .ref hm, .int (nI fi), .int (nI 1), .long (lN 1000), .int (-1), .int (nI 0)], zO u.1 6 [.ref u.2.2.1], zL cy u.2.2.1 1000 (fun j9 => lN ((fun _ => 0) j9)), zO u.2.1 6 [.ref u.2.2.2], zL cy u.2.2.2 1000 (fun j9 => lN ((fun _ => 0) j9))] t9) (va_A [zO h 5 [.int (nI 0), .int (nI 0), .null, .null, .null, .null, .null, .int (nI 0), .int (nI 0), .long (lN 0), .int (nI 0), .int (nI 0)]] sz0)) 4 2002 (va_A [zO h 5 [.int (nI 0), .int (nI 0), .null, .null, .null, .null, .null, .int (nI 0), .int (nI 0), .long (lN 0), .int (nI 0), .int (nI 0)]] sz0) := by
  refine z_ofM (cc := cX4_init) (maxL := 6) (ret := none) (Qc := (fun A => va_Qv (fun (_ : Nat × Nat × Nat × Nat) => True) (fun (u : Nat × Nat × Nat × Nat) t9 => zB G cy A [zO h 5 [.int (nI k), .int (nI fi), .ref sk, .ref dv, .ref u.1, .ref u.2.1, .ref hm, .int (nI fi), .int (nI 1), .long (lN 1000), .int (-1), .int (nI 0)], zO u.1 6 [.ref u.2.2.1], zL cy u.2.2.1 1000 (fun j9 => lN ((fun _ => 0) j9)), zO u.2.1 6 [.ref u.2.2.2], zL cy u.2.2.2 1000 (fun j9 => lN ((fun _ => 0) j9))] t9) A)) (by decide) rfl (Nat.le_of_ble_eq_true rfl) ?_
  intro p e s m below meth c ls A hx hb hml hr hts hown hlk hin hP hK hD hA hS hl hsz0
  have hown : s.vm.findClass RX4 = some m.cls := hown
  have hl : lv_has ls 6 [(0, .ref h), (1, .ref hm), (2, .int (nI k)), (3, .int (nI fi)), (4, .ref sk), (5, .ref dv)] := hl
  have hin : meth.name = "<init>" := hin
  refine lv_aload_n hx hb dX4_init_0 rfl (lv_at hl 0 rfl) ?_
  refine W.objInit hx hb hown (hts _ (List.mem_of_getElem? (i := 1) (by decide +kernel))) (hts _ (List.mem_of_getElem? (i := 2) (by decide +kernel))) (hts _ (List.mem_of_getElem? (i := 3) (by decide +kernel))) rfl (by rw [hml]; exact hl.1) rfl dX4_init_1 (Nat.le_of_ble_eq_true rfl) (Nat.le_of_ble_eq_true rfl) ?_
  refine W.eq (g2 := F0 m 4 ls []) rfl ?_
  refine lv_aload_n hx hb dX4_init_4 rfl (lv_at hl 0 rfl) ?_
  refine va_new (ci := 6) (fs := [.null]) (C := RX5) (T := TX5) (N := 1) hx hb hts in_X4_init_X5 tyX5 tyX5_ok hown (hts _ (List.mem_of_getElem? (i := 4) (by decide +kernel))) (hts _ (List.mem_of_getElem? (i := 5) (by decide +kernel))) (hts _ (List.mem_of_getElem? (i := 6) (by decide +kernel))) hK hP hD hS hA rfl (nwf_X5) (Nat.le_of_ble_eq_true rfl) (Nat.le_of_ble_eq_true rfl) dX4_init_5 (fun q_1 H hP hD hS => ?_)
  have hP : va_P G vwCl [zO h 5 [.int (nI 0), .int (nI 0), .null, .null, .null, .null, .null, .int (nI 0), .int (nI 0), .long (lN 0), .int (nI 0), .int (nI 0)], zO q_1 6 [.null]] H := hP
  have hD : va_D A [zO h 5 [.int (nI 0), .int (nI 0), .null, .null, .null, .null, .null, .int (nI 0), .int (nI 0), .long (lN 0), .int (nI 0), .int (nI 0)], zO q_1 6 [.null]] := hD
  refine lv_dup hx hb dX4_init_8 rfl ?_
  refine lv_sipush (v := nI 1000) hx hb dX4_init_9 (by decide) ?_
  refine z_cv (wc := [zO q_1 6 [.null]]) (va_runI (As := [.int (nI 1000)]) (rest := [.ref q_1, .ref h]) ⟨hx, hb, hml, hown, hts⟩ (c_X5_init l G cy _ q_1 1000 (by omega) (by omega)) (cwI 1 hts gX4_init_X5_init rfl rfl rfl (hts _ (List.mem_of_getElem? (i := 6) (by decide +kernel))) (hts _ (List.mem_of_getElem? (i := 20) (by decide +kernel))) (hts _ (List.mem_of_getElem? (i := 21) (by decide +kernel))) rfl (by decide +kernel) ⟨Nat.le_of_ble_eq_true rfl, Nat.le_of_ble_eq_true rfl⟩) (z_pSM hK hP hD [1] rfl (by decide)) rfl rfl hl.1 rfl (lv_room (Nat.le_of_ble_eq_true rfl)) dX4_init_12 ⟨Nat.le_of_ble_eq_true rfl, Nat.le_of_ble_eq_true rfl⟩) hP hD hS hA [1] [0] [0, 1, 2] [zO h 5 [.int (nI 0), .int (nI 0), .null, .null, .null, .null, .null, .int (nI 0), .int (nI 0), .long (lN 0), .int (nI 0), .int (nI 0)]] (fun (u : Nat) => [zO h 5 [.int (nI 0), .int (nI 0), .null, .null, .null, .null, .null, .int (nI 0), .int (nI 0), .long (lN 0), .int (nI 0), .int (nI 0)], zO q_1 6 [.ref u], zL cy u 1000 (fun j9 => lN ((fun _ => 0) j9))]) rfl rfl (by decide) (fun _ => rfl) (fun u H locs hr_2 hQ hD hS hz => ?_)
  obtain ⟨qa_3, rfl⟩ : ∃ z, z = u := ⟨_, rfl⟩
  try dsimp only at hr_2
  have hP : va_P G vwCl [zO h 5 [.int (nI 0), .int (nI 0), .null, .null, .null, .null, .null, .int (nI 0), .int (nI 0), .long (lN 0), .int (nI 0), .int (nI 0)], zO q_1 6 [.ref qa_3], zL cy qa_3 1000 (fun j9 => lN ((fun _ => 0) j9))] H := hQ
  have hD : va_D A [zO h 5 [.int (nI 0), .int (nI 0), .null, .null, .null, .null, .null, .int (nI 0), .int (nI 0), .long (lN 0), .int (nI 0), .int (nI 0)], zO q_1 6 [.ref qa_3], zL cy qa_3 1000 (fun j9 => lN ((fun _ => 0) j9))] := hD
  clear hQ
  refine va_putF (D := G) (ci := 5) (v := .ref q_1) (ty := (.object "MeterHouse$Row")) (C := RX4) (T := TX4) (N := 12) hx hb hts in_X4_init_X4 tyX4 tyX4_ok nmX4 hown hK hP hD hS 0 rfl rfl 4 (by decide) (hts _ (List.mem_of_getElem? (i := 7) (by decide +kernel))) (fun _ h9 => h9) rfl hin rfl (by decide +kernel) rfl rfl (Nat.le_of_ble_eq_true rfl) dX4_init_15 (fun H locs hP hD hS => ?_)
  have hP : va_P G vwCl [zO h 5 [.int (nI 0), .int (nI 0), .null, .null, .ref q_1, .null, .null, .int (nI 0), .int (nI 0), .long (lN 0), .int (nI 0), .int (nI 0)], zO q_1 6 [.ref qa_3], zL cy qa_3 1000 (fun j9 => lN ((fun _ => 0) j9))] H := hP
  have hD : va_D A [zO h 5 [.int (nI 0), .int (nI 0), .null, .null, .ref q_1, .null, .null, .int (nI 0), .int (nI 0), .long (lN 0), .int (nI 0), .int (nI 0)], zO q_1 6 [.ref qa_3], zL cy qa_3 1000 (fun j9 => lN ((fun _ => 0) j9))] := hD
  refine lv_aload_n hx hb dX4_init_18 rfl (lv_at hl 0 rfl) ?_
  refine va_new (ci := 6) (fs := [.null]) (C := RX5) (T := TX5) (N := 1) hx hb hts in_X4_init_X5 tyX5 tyX5_ok hown (hts _ (List.mem_of_getElem? (i := 4) (by decide +kernel))) (hts _ (List.mem_of_getElem? (i := 5) (by decide +kernel))) (hts _ (List.mem_of_getElem? (i := 6) (by decide +kernel))) hK hP hD hS hA rfl (nwf_X5) (Nat.le_of_ble_eq_true rfl) (Nat.le_of_ble_eq_true rfl) dX4_init_19 (fun q_4 H hP hD hS => ?_)
  have hP : va_P G vwCl [zO h 5 [.int (nI 0), .int (nI 0), .null, .null, .ref q_1, .null, .null, .int (nI 0), .int (nI 0), .long (lN 0), .int (nI 0), .int (nI 0)], zO q_1 6 [.ref qa_3], zL cy qa_3 1000 (fun j9 => lN ((fun _ => 0) j9)), zO q_4 6 [.null]] H := hP
  have hD : va_D A [zO h 5 [.int (nI 0), .int (nI 0), .null, .null, .ref q_1, .null, .null, .int (nI 0), .int (nI 0), .long (lN 0), .int (nI 0), .int (nI 0)], zO q_1 6 [.ref qa_3], zL cy qa_3 1000 (fun j9 => lN ((fun _ => 0) j9)), zO q_4 6 [.null]] := hD
  refine lv_dup hx hb dX4_init_22 rfl ?_
  refine lv_sipush (v := nI 1000) hx hb dX4_init_23 (by decide) ?_
  refine z_cv (wc := [zO q_4 6 [.null]]) (va_runI (As := [.int (nI 1000)]) (rest := [.ref q_4, .ref h]) ⟨hx, hb, hml, hown, hts⟩ (c_X5_init l G cy _ q_4 1000 (by omega) (by omega)) (cwI 1 hts gX4_init_X5_init rfl rfl rfl (hts _ (List.mem_of_getElem? (i := 6) (by decide +kernel))) (hts _ (List.mem_of_getElem? (i := 20) (by decide +kernel))) (hts _ (List.mem_of_getElem? (i := 21) (by decide +kernel))) rfl (by decide +kernel) ⟨Nat.le_of_ble_eq_true rfl, Nat.le_of_ble_eq_true rfl⟩) (z_pSM hK hP hD [3] rfl (by decide)) rfl rfl hl.1 rfl (lv_room (Nat.le_of_ble_eq_true rfl)) dX4_init_26 ⟨Nat.le_of_ble_eq_true rfl, Nat.le_of_ble_eq_true rfl⟩) hP hD hS hA [3] [0, 1, 2] [0, 1, 2, 3, 4] [zO h 5 [.int (nI 0), .int (nI 0), .null, .null, .ref q_1, .null, .null, .int (nI 0), .int (nI 0), .long (lN 0), .int (nI 0), .int (nI 0)], zO q_1 6 [.ref qa_3], zL cy qa_3 1000 (fun j9 => lN ((fun _ => 0) j9))] (fun (u : Nat) => [zO h 5 [.int (nI 0), .int (nI 0), .null, .null, .ref q_1, .null, .null, .int (nI 0), .int (nI 0), .long (lN 0), .int (nI 0), .int (nI 0)], zO q_1 6 [.ref qa_3], zL cy qa_3 1000 (fun j9 => lN ((fun _ => 0) j9)), zO q_4 6 [.ref u], zL cy u 1000 (fun j9 => lN ((fun _ => 0) j9))]) rfl rfl (by decide) (fun _ => rfl) (fun u H locs hr_5 hQ hD hS hz => ?_)
  obtain ⟨qa_6, rfl⟩ : ∃ z, z = u := ⟨_, rfl⟩
  try dsimp only at hr_5
  have hP : va_P G vwCl [zO h 5 [.int (nI 0), .int (nI 0), .null, .null, .ref q_1, .null, .null, .int (nI 0), .int (nI 0), .long (lN 0), .int (nI 0), .int (nI 0)], zO q_1 6 [.ref qa_3], zL cy qa_3 1000 (fun j9 => lN ((fun _ => 0) j9)), zO q_4 6 [.ref qa_6], zL cy qa_6 1000 (fun j9 => lN ((fun _ => 0) j9))] H := hQ
  have hD : va_D A [zO h 5 [.int (nI 0), .int (nI 0), .null, .null, .ref q_1, .null, .null, .int (nI 0), .int (nI 0), .long (lN 0), .int (nI 0), .int (nI 0)], zO q_1 6 [.ref qa_3], zL cy qa_3 1000 (fun j9 => lN ((fun _ => 0) j9)), zO q_4 6 [.ref qa_6], zL cy qa_6 1000 (fun j9 => lN ((fun _ => 0) j9))] := hD
  clear hQ
  refine va_putF (D := G) (ci := 5) (v := .ref q_4) (ty := (.object "MeterHouse$Row")) (C := RX4) (T := TX4) (N := 12) hx hb hts in_X4_init_X4 tyX4 tyX4_ok nmX4 hown hK hP hD hS 0 rfl rfl 5 (by decide) (hts _ (List.mem_of_getElem? (i := 8) (by decide +kernel))) (fun _ h9 => h9) rfl hin rfl (by decide +kernel) rfl rfl (Nat.le_of_ble_eq_true rfl) dX4_init_29 (fun H locs hP hD hS => ?_)
  have hP : va_P G vwCl [zO h 5 [.int (nI 0), .int (nI 0), .null, .null, .ref q_1, .ref q_4, .null, .int (nI 0), .int (nI 0), .long (lN 0), .int (nI 0), .int (nI 0)], zO q_1 6 [.ref qa_3], zL cy qa_3 1000 (fun j9 => lN ((fun _ => 0) j9)), zO q_4 6 [.ref qa_6], zL cy qa_6 1000 (fun j9 => lN ((fun _ => 0) j9))] H := hP
  have hD : va_D A [zO h 5 [.int (nI 0), .int (nI 0), .null, .null, .ref q_1, .ref q_4, .null, .int (nI 0), .int (nI 0), .long (lN 0), .int (nI 0), .int (nI 0)], zO q_1 6 [.ref qa_3], zL cy qa_3 1000 (fun j9 => lN ((fun _ => 0) j9)), zO q_4 6 [.ref qa_6], zL cy qa_6 1000 (fun j9 => lN ((fun _ => 0) j9))] := hD
  refine lv_aload_n hx hb dX4_init_32 rfl (lv_at hl 0 rfl) ?_
  refine lv_iconst (v := nI 1) hx hb dX4_init_33 (by decide) ?_
  refine va_put (D := G) (ci := 5) (v := .int (nI 1)) (ty := .int) (C := RX4) (T := TX4) (N := 12) hx hb hts in_X4_init_X4 tyX4 tyX4_ok nmX4 hown hK hP hD hS 0 rfl rfl 8 (by decide) (hts _ (List.mem_of_getElem? (i := 9) (by decide +kernel))) (fun _ h9 => h9) rfl (by decide +kernel) rfl rfl (Nat.le_of_ble_eq_true rfl) dX4_init_34 (fun H locs hP hD hS => ?_)
  have hP : va_P G vwCl [zO h 5 [.int (nI 0), .int (nI 0), .null, .null, .ref q_1, .ref q_4, .null, .int (nI 0), .int (nI 1), .long (lN 0), .int (nI 0), .int (nI 0)], zO q_1 6 [.ref qa_3], zL cy qa_3 1000 (fun j9 => lN ((fun _ => 0) j9)), zO q_4 6 [.ref qa_6], zL cy qa_6 1000 (fun j9 => lN ((fun _ => 0) j9))] H := hP
  have hD : va_D A [zO h 5 [.int (nI 0), .int (nI 0), .null, .null, .ref q_1, .ref q_4, .null, .int (nI 0), .int (nI 1), .long (lN 0), .int (nI 0), .int (nI 0)], zO q_1 6 [.ref qa_3], zL cy qa_3 1000 (fun j9 => lN ((fun _ => 0) j9)), zO q_4 6 [.ref qa_6], zL cy qa_6 1000 (fun j9 => lN ((fun _ => 0) j9))] := hD
  refine lv_aload_n hx hb dX4_init_37 rfl (lv_at hl 0 rfl) ?_
  refine lv_ldc2 (v := lN 1000) hx hb hown (hts _ (List.mem_of_getElem? (i := 10) (by decide +kernel))) dX4_init_38 ?_
  refine va_put (D := G) (ci := 5) (v := .long (lN 1000)) (ty := .long) (C := RX4) (T := TX4) (N := 12) hx hb hts in_X4_init_X4 tyX4 tyX4_ok nmX4 hown hK hP hD hS 0 rfl rfl 9 (by decide) (hts _ (List.mem_of_getElem? (i := 11) (by decide +kernel))) (fun _ h9 => h9) rfl (by decide +kernel) rfl rfl (Nat.le_of_ble_eq_true rfl) dX4_init_41 (fun H locs hP hD hS => ?_)
  have hP : va_P G vwCl [zO h 5 [.int (nI 0), .int (nI 0), .null, .null, .ref q_1, .ref q_4, .null, .int (nI 0), .int (nI 1), .long (lN 1000), .int (nI 0), .int (nI 0)], zO q_1 6 [.ref qa_3], zL cy qa_3 1000 (fun j9 => lN ((fun _ => 0) j9)), zO q_4 6 [.ref qa_6], zL cy qa_6 1000 (fun j9 => lN ((fun _ => 0) j9))] H := hP
  have hD : va_D A [zO h 5 [.int (nI 0), .int (nI 0), .null, .null, .ref q_1, .ref q_4, .null, .int (nI 0), .int (nI 1), .long (lN 1000), .int (nI 0), .int (nI 0)], zO q_1 6 [.ref qa_3], zL cy qa_3 1000 (fun j9 => lN ((fun _ => 0) j9)), zO q_4 6 [.ref qa_6], zL cy qa_6 1000 (fun j9 => lN ((fun _ => 0) j9))] := hD
  refine lv_aload_n hx hb dX4_init_44 rfl (lv_at hl 0 rfl) ?_
  refine lv_iconst (v := (-1)) hx hb dX4_init_45 (by decide) ?_
  refine va_put (D := G) (ci := 5) (v := .int (-1)) (ty := .int) (C := RX4) (T := TX4) (N := 12) hx hb hts in_X4_init_X4 tyX4 tyX4_ok nmX4 hown hK hP hD hS 0 rfl rfl 10 (by decide) (hts _ (List.mem_of_getElem? (i := 12) (by decide +kernel))) (fun _ h9 => h9) rfl (by decide +kernel) rfl rfl (Nat.le_of_ble_eq_true rfl) dX4_init_46 (fun H locs hP hD hS => ?_)
  have hP : va_P G vwCl [zO h 5 [.int (nI 0), .int (nI 0), .null, .null, .ref q_1, .ref q_4, .null, .int (nI 0), .int (nI 1), .long (lN 1000), .int (-1), .int (nI 0)], zO q_1 6 [.ref qa_3], zL cy qa_3 1000 (fun j9 => lN ((fun _ => 0) j9)), zO q_4 6 [.ref qa_6], zL cy qa_6 1000 (fun j9 => lN ((fun _ => 0) j9))] H := hP
  have hD : va_D A [zO h 5 [.int (nI 0), .int (nI 0), .null, .null, .ref q_1, .ref q_4, .null, .int (nI 0), .int (nI 1), .long (lN 1000), .int (-1), .int (nI 0)], zO q_1 6 [.ref qa_3], zL cy qa_3 1000 (fun j9 => lN ((fun _ => 0) j9)), zO q_4 6 [.ref qa_6], zL cy qa_6 1000 (fun j9 => lN ((fun _ => 0) j9))] := hD
  refine lv_aload_n hx hb dX4_init_49 rfl (lv_at hl 0 rfl) ?_
  refine lv_iconst (v := nI 0) hx hb dX4_init_50 (by decide) ?_
  refine va_put (D := G) (ci := 5) (v := .int (nI 0)) (ty := .int) (C := RX4) (T := TX4) (N := 12) hx hb hts in_X4_init_X4 tyX4 tyX4_ok nmX4 hown hK hP hD hS 0 rfl rfl 11 (by decide) (hts _ (List.mem_of_getElem? (i := 13) (by decide +kernel))) (fun _ h9 => h9) rfl (by decide +kernel) rfl rfl (Nat.le_of_ble_eq_true rfl) dX4_init_51 (fun H locs hP hD hS => ?_)
  have hP : va_P G vwCl [zO h 5 [.int (nI 0), .int (nI 0), .null, .null, .ref q_1, .ref q_4, .null, .int (nI 0), .int (nI 1), .long (lN 1000), .int (-1), .int (nI 0)], zO q_1 6 [.ref qa_3], zL cy qa_3 1000 (fun j9 => lN ((fun _ => 0) j9)), zO q_4 6 [.ref qa_6], zL cy qa_6 1000 (fun j9 => lN ((fun _ => 0) j9))] H := hP
  have hD : va_D A [zO h 5 [.int (nI 0), .int (nI 0), .null, .null, .ref q_1, .ref q_4, .null, .int (nI 0), .int (nI 1), .long (lN 1000), .int (-1), .int (nI 0)], zO q_1 6 [.ref qa_3], zL cy qa_3 1000 (fun j9 => lN ((fun _ => 0) j9)), zO q_4 6 [.ref qa_6], zL cy qa_6 1000 (fun j9 => lN ((fun _ => 0) j9))] := hD
  refine lv_aload_n hx hb dX4_init_54 rfl (lv_at hl 0 rfl) ?_
  refine lv_aload_n hx hb dX4_init_55 rfl (lv_at hl 1 rfl) ?_
  refine va_put (D := G) (ci := 5) (v := .ref hm) (ty := (.object "MeterHouse$Meter")) (C := RX4) (T := TX4) (N := 12) hx hb hts in_X4_init_X4 tyX4 tyX4_ok nmX4 hown hK hP hD hS 0 rfl rfl 6 (by decide) (hts _ (List.mem_of_getElem? (i := 14) (by decide +kernel))) (fun _ h9 => h9) rfl (by decide +kernel) rfl rfl (Nat.le_of_ble_eq_true rfl) dX4_init_56 (fun H locs hP hD hS => ?_)
  have hP : va_P G vwCl [zO h 5 [.int (nI 0), .int (nI 0), .null, .null, .ref q_1, .ref q_4, .ref hm, .int (nI 0), .int (nI 1), .long (lN 1000), .int (-1), .int (nI 0)], zO q_1 6 [.ref qa_3], zL cy qa_3 1000 (fun j9 => lN ((fun _ => 0) j9)), zO q_4 6 [.ref qa_6], zL cy qa_6 1000 (fun j9 => lN ((fun _ => 0) j9))] H := hP
  have hD : va_D A [zO h 5 [.int (nI 0), .int (nI 0), .null, .null, .ref q_1, .ref q_4, .ref hm, .int (nI 0), .int (nI 1), .long (lN 1000), .int (-1), .int (nI 0)], zO q_1 6 [.ref qa_3], zL cy qa_3 1000 (fun j9 => lN ((fun _ => 0) j9)), zO q_4 6 [.ref qa_6], zL cy qa_6 1000 (fun j9 => lN ((fun _ => 0) j9))] := hD
  refine lv_aload_n hx hb dX4_init_59 rfl (lv_at hl 0 rfl) ?_
  refine lv_iload_n hx hb dX4_init_60 rfl (lv_at hl 2 rfl) ?_
  refine va_putF (D := G) (ci := 5) (v := .int (nI k)) (ty := .int) (C := RX4) (T := TX4) (N := 12) hx hb hts in_X4_init_X4 tyX4 tyX4_ok nmX4 hown hK hP hD hS 0 rfl rfl 0 (by decide) (hts _ (List.mem_of_getElem? (i := 15) (by decide +kernel))) (fun _ h9 => h9) rfl hin rfl (by decide +kernel) rfl rfl (Nat.le_of_ble_eq_true rfl) dX4_init_61 (fun H locs hP hD hS => ?_)
  have hP : va_P G vwCl [zO h 5 [.int (nI k), .int (nI 0), .null, .null, .ref q_1, .ref q_4, .ref hm, .int (nI 0), .int (nI 1), .long (lN 1000), .int (-1), .int (nI 0)], zO q_1 6 [.ref qa_3], zL cy qa_3 1000 (fun j9 => lN ((fun _ => 0) j9)), zO q_4 6 [.ref qa_6], zL cy qa_6 1000 (fun j9 => lN ((fun _ => 0) j9))] H := hP
  have hD : va_D A [zO h 5 [.int (nI k), .int (nI 0), .null, .null, .ref q_1, .ref q_4, .ref hm, .int (nI 0), .int (nI 1), .long (lN 1000), .int (-1), .int (nI 0)], zO q_1 6 [.ref qa_3], zL cy qa_3 1000 (fun j9 => lN ((fun _ => 0) j9)), zO q_4 6 [.ref qa_6], zL cy qa_6 1000 (fun j9 => lN ((fun _ => 0) j9))] := hD
  refine lv_aload_n hx hb dX4_init_64 rfl (lv_at hl 0 rfl) ?_
  refine lv_iload_n hx hb dX4_init_65 rfl (lv_at hl 3 rfl) ?_
  refine va_putF (D := G) (ci := 5) (v := .int (nI fi)) (ty := .int) (C := RX4) (T := TX4) (N := 12) hx hb hts in_X4_init_X4 tyX4 tyX4_ok nmX4 hown hK hP hD hS 0 rfl rfl 1 (by decide) (hts _ (List.mem_of_getElem? (i := 16) (by decide +kernel))) (fun _ h9 => h9) rfl hin rfl (by decide +kernel) rfl rfl (Nat.le_of_ble_eq_true rfl) dX4_init_66 (fun H locs hP hD hS => ?_)
  have hP : va_P G vwCl [zO h 5 [.int (nI k), .int (nI fi), .null, .null, .ref q_1, .ref q_4, .ref hm, .int (nI 0), .int (nI 1), .long (lN 1000), .int (-1), .int (nI 0)], zO q_1 6 [.ref qa_3], zL cy qa_3 1000 (fun j9 => lN ((fun _ => 0) j9)), zO q_4 6 [.ref qa_6], zL cy qa_6 1000 (fun j9 => lN ((fun _ => 0) j9))] H := hP
  have hD : va_D A [zO h 5 [.int (nI k), .int (nI fi), .null, .null, .ref q_1, .ref q_4, .ref hm, .int (nI 0), .int (nI 1), .long (lN 1000), .int (-1), .int (nI 0)], zO q_1 6 [.ref qa_3], zL cy qa_3 1000 (fun j9 => lN ((fun _ => 0) j9)), zO q_4 6 [.ref qa_6], zL cy qa_6 1000 (fun j9 => lN ((fun _ => 0) j9))] := hD
  refine lv_aload_n hx hb dX4_init_69 rfl (lv_at hl 0 rfl) ?_
  refine lv_aload hx hb dX4_init_70 (lv_at hl 4 rfl) ?_
  refine va_putF (D := G) (ci := 5) (v := .ref sk) (ty := (.object "MeterHouse$Sky")) (C := RX4) (T := TX4) (N := 12) hx hb hts in_X4_init_X4 tyX4 tyX4_ok nmX4 hown hK hP hD hS 0 rfl rfl 2 (by decide) (hts _ (List.mem_of_getElem? (i := 17) (by decide +kernel))) (fun _ h9 => h9) rfl hin rfl (by decide +kernel) rfl rfl (Nat.le_of_ble_eq_true rfl) dX4_init_72 (fun H locs hP hD hS => ?_)
  have hP : va_P G vwCl [zO h 5 [.int (nI k), .int (nI fi), .ref sk, .null, .ref q_1, .ref q_4, .ref hm, .int (nI 0), .int (nI 1), .long (lN 1000), .int (-1), .int (nI 0)], zO q_1 6 [.ref qa_3], zL cy qa_3 1000 (fun j9 => lN ((fun _ => 0) j9)), zO q_4 6 [.ref qa_6], zL cy qa_6 1000 (fun j9 => lN ((fun _ => 0) j9))] H := hP
  have hD : va_D A [zO h 5 [.int (nI k), .int (nI fi), .ref sk, .null, .ref q_1, .ref q_4, .ref hm, .int (nI 0), .int (nI 1), .long (lN 1000), .int (-1), .int (nI 0)], zO q_1 6 [.ref qa_3], zL cy qa_3 1000 (fun j9 => lN ((fun _ => 0) j9)), zO q_4 6 [.ref qa_6], zL cy qa_6 1000 (fun j9 => lN ((fun _ => 0) j9))] := hD
  refine lv_aload_n hx hb dX4_init_75 rfl (lv_at hl 0 rfl) ?_
  refine lv_aload hx hb dX4_init_76 (lv_at hl 5 rfl) ?_
  refine va_putF (D := G) (ci := 5) (v := .ref dv) (ty := (.object "MeterHouse$Division")) (C := RX4) (T := TX4) (N := 12) hx hb hts in_X4_init_X4 tyX4 tyX4_ok nmX4 hown hK hP hD hS 0 rfl rfl 3 (by decide) (hts _ (List.mem_of_getElem? (i := 18) (by decide +kernel))) (fun _ h9 => h9) rfl hin rfl (by decide +kernel) rfl rfl (Nat.le_of_ble_eq_true rfl) dX4_init_78 (fun H locs hP hD hS => ?_)
  have hP : va_P G vwCl [zO h 5 [.int (nI k), .int (nI fi), .ref sk, .ref dv, .ref q_1, .ref q_4, .ref hm, .int (nI 0), .int (nI 1), .long (lN 1000), .int (-1), .int (nI 0)], zO q_1 6 [.ref qa_3], zL cy qa_3 1000 (fun j9 => lN ((fun _ => 0) j9)), zO q_4 6 [.ref qa_6], zL cy qa_6 1000 (fun j9 => lN ((fun _ => 0) j9))] H := hP
  have hD : va_D A [zO h 5 [.int (nI k), .int (nI fi), .ref sk, .ref dv, .ref q_1, .ref q_4, .ref hm, .int (nI 0), .int (nI 1), .long (lN 1000), .int (-1), .int (nI 0)], zO q_1 6 [.ref qa_3], zL cy qa_3 1000 (fun j9 => lN ((fun _ => 0) j9)), zO q_4 6 [.ref qa_6], zL cy qa_6 1000 (fun j9 => lN ((fun _ => 0) j9))] := hD
  refine lv_aload_n hx hb dX4_init_81 rfl (lv_at hl 0 rfl) ?_
  refine lv_iload_n hx hb dX4_init_82 rfl (lv_at hl 3 rfl) ?_
  refine va_put (D := G) (ci := 5) (v := .int (nI fi)) (ty := .int) (C := RX4) (T := TX4) (N := 12) hx hb hts in_X4_init_X4 tyX4 tyX4_ok nmX4 hown hK hP hD hS 0 rfl rfl 7 (by decide) (hts _ (List.mem_of_getElem? (i := 19) (by decide +kernel))) (fun _ h9 => h9) rfl (by decide +kernel) rfl rfl (Nat.le_of_ble_eq_true rfl) dX4_init_83 (fun H locs hP hD hS => ?_)
  have hP : va_P G vwCl [zO h 5 [.int (nI k), .int (nI fi), .ref sk, .ref dv, .ref q_1, .ref q_4, .ref hm, .int (nI fi), .int (nI 1), .long (lN 1000), .int (-1), .int (nI 0)], zO q_1 6 [.ref qa_3], zL cy qa_3 1000 (fun j9 => lN ((fun _ => 0) j9)), zO q_4 6 [.ref qa_6], zL cy qa_6 1000 (fun j9 => lN ((fun _ => 0) j9))] H := hP
  have hD : va_D A [zO h 5 [.int (nI k), .int (nI fi), .ref sk, .ref dv, .ref q_1, .ref q_4, .ref hm, .int (nI fi), .int (nI 1), .long (lN 1000), .int (-1), .int (nI 0)], zO q_1 6 [.ref qa_3], zL cy qa_3 1000 (fun j9 => lN ((fun _ => 0) j9)), zO q_4 6 [.ref qa_6], zL cy qa_6 1000 (fun j9 => lN ((fun _ => 0) j9))] := hD
  exact z_rMv hx hb hr hlk dX4_init_86 (q_1, q_4, qa_3, qa_6) (trivial) hP hD hK hS (Nat.le_of_ble_eq_true rfl) (Nat.le_of_ble_eq_true rfl)
theorem in_X4_canShow_X4 : ∀ w ∈ u_ws RX4 TX4 12, w ∈ wsX4_canShow := fun _ h => (List.mem_cons_of_mem _ (List.mem_append_left _ (List.mem_append_right _ h)))
set_option maxHeartbeats 4000000 in
set_option maxRecDepth 100000 in
theorem c_X4_canShow (l : Launch) (G : va_G) (cy : Nat → ClassId) (h sk dv hv hu hm : Nat) (k fi la tk pc ds : Nat) (dd : Int32) (sz mu sh : Nat) (x : Int32) (hsz : sz < 2 ^ 31) : Met l yX4_canShow wsX4_canShow ({ frames := 1, cells := 0, slots := 0, locals := 21 }) (zS G cy [.ref h, .int x] [zO h 5 [.int (nI k), .int (nI fi), .ref sk, .ref dv, .ref hv, .ref hu, .ref hm, .int (nI la), .int (nI tk), .long (lN pc), .int dd, .int (nI ds)], zO hm 3 [.long (lN sz), .int (nI mu), .int (nI sh)]]) (vp_Si (fun r => (r = nI 1 ∧ (0 ≤ x.toInt ∧ x.toInt < (sz : Int))) ∨ (r = nI 0 ∧ ¬ (0 ≤ x.toInt ∧ x.toInt < (sz : Int))))) 0 0 (fun _ => False) := by
  refine z_ofS (cc := cX4_canShow) (maxL := 2) (ret := (some .boolean)) (by decide) rfl (Nat.le_of_ble_eq_true rfl) ?_
  intro p e s m below meth c ls hx hb hml hr hts hown hlk hP hK hl
  have hown : s.vm.findClass RX4 = some m.cls := hown
  have hl : lv_has ls 2 [(0, .ref h), (1, .int x)] := hl
  refine lv_aload_n hx hb dX4_canShow_0 rfl (lv_at hl 0 rfl) ?_
  refine va_get (D := G) (ci := 5) (v := .ref hm) (C := RX4) (T := TX4) (N := 12) hx hb hts in_X4_canShow_X4 hown hK hP 0 rfl rfl 6 (by decide) (hts _ (List.mem_of_getElem? (i := 1) (by decide +kernel))) (fun _ h9 => h9) rfl dX4_canShow_1 ?_
  refine lv_iload_n hx hb dX4_canShow_4 rfl (lv_at hl 1 rfl) ?_
  refine vp_callSi (va_runV (As := [.int x]) (rest := []) ⟨hx, hb, hml, hown, hts⟩ (c_X2_canShow l G cy hm sz mu x (nI sh) (by omega)) (cwV 1 hts gX4_canShow_X2_canShow rfl rfl rfl (by decide +kernel) ⟨Nat.le_of_ble_eq_true rfl, Nat.le_of_ble_eq_true rfl⟩) (z_pV hK hP [1] rfl (ci := 3) (q0 := 0) rfl rfl rfl) rfl rfl hl.1 rfl (lv_room (Nat.le_of_ble_eq_true rfl)) dX4_canShow_5 ⟨Nat.le_of_ble_eq_true rfl, Nat.le_of_ble_eq_true rfl⟩).run (fun r_1 hr_1 => ?_)
  rcases hr_1 with ⟨rfl, b_2⟩ | ⟨rfl, b_2⟩
  · exact z_rSz hx hb hr hlk (by rfl) dX4_canShow_8 (Or.inl ⟨rfl, b_2⟩)
  · exact z_rSz hx hb hr hlk (by rfl) dX4_canShow_8 (Or.inr ⟨rfl, b_2⟩)
theorem in_X4_setMeter_X4 : ∀ w ∈ u_ws RX4 TX4 12, w ∈ wsX4_setMeter := fun _ h => (List.mem_cons_of_mem _ (List.mem_append_right _ h))
set_option maxHeartbeats 4000000 in
set_option maxRecDepth 100000 in
theorem c_X4_setMeter (l : Launch) (G : va_G) (cy : Nat → ClassId) (sz0 : Nat) (h sk dv hv hu hm : Nat) (k fi la tk pc ds : Nat) (dd : Int32) (h2 : Nat) : Met l yX4_setMeter wsX4_setMeter ({ frames := 0, cells := 0, slots := 0, locals := 0 }) (zM G cy [.ref h, .ref h2] sz0 [zO h 5 [.int (nI k), .int (nI fi), .ref sk, .ref dv, .ref hv, .ref hu, .ref hm, .int (nI la), .int (nI tk), .long (lN pc), .int dd, .int (nI ds)]]) (va_Qv (fun (_ : Unit) => True) (fun (u : Unit) t9 => zB G cy (va_A [zO h 5 [.int (nI k), .int (nI fi), .ref sk, .ref dv, .ref hv, .ref hu, .ref hm, .int (nI la), .int (nI tk), .long (lN pc), .int dd, .int (nI ds)]] sz0) [zO h 5 [.int (nI k), .int (nI fi), .ref sk, .ref dv, .ref hv, .ref hu, .ref h2, .int (nI la), .int (nI tk), .long (lN pc), .int dd, .int (nI ds)]] t9) (va_A [zO h 5 [.int (nI k), .int (nI fi), .ref sk, .ref dv, .ref hv, .ref hu, .ref hm, .int (nI la), .int (nI tk), .long (lN pc), .int dd, .int (nI ds)]] sz0)) 0 0 (va_A [zO h 5 [.int (nI k), .int (nI fi), .ref sk, .ref dv, .ref hv, .ref hu, .ref hm, .int (nI la), .int (nI tk), .long (lN pc), .int dd, .int (nI ds)]] sz0) := by
  refine z_ofM (cc := cX4_setMeter) (maxL := 2) (ret := none) (Qc := (fun A => va_Qv (fun (_ : Unit) => True) (fun (u : Unit) t9 => zB G cy A [zO h 5 [.int (nI k), .int (nI fi), .ref sk, .ref dv, .ref hv, .ref hu, .ref h2, .int (nI la), .int (nI tk), .long (lN pc), .int dd, .int (nI ds)]] t9) A)) (by decide) rfl (Nat.le_of_ble_eq_true rfl) ?_
  intro p e s m below meth c ls A hx hb hml hr hts hown hlk hin hP hK hD hA hS hl hsz0
  have hown : s.vm.findClass RX4 = some m.cls := hown
  have hl : lv_has ls 2 [(0, .ref h), (1, .ref h2)] := hl
  refine lv_aload_n hx hb dX4_setMeter_0 rfl (lv_at hl 0 rfl) ?_
  refine lv_aload_n hx hb dX4_setMeter_1 rfl (lv_at hl 1 rfl) ?_
  refine va_put (D := G) (ci := 5) (v := .ref h2) (ty := (.object "MeterHouse$Meter")) (C := RX4) (T := TX4) (N := 12) hx hb hts in_X4_setMeter_X4 tyX4 tyX4_ok nmX4 hown hK hP hD hS 0 rfl rfl 6 (by decide) (hts _ (List.mem_of_getElem? (i := 1) (by decide +kernel))) (fun _ h9 => h9) rfl (by decide +kernel) rfl rfl (Nat.le_of_ble_eq_true rfl) dX4_setMeter_2 (fun H locs hP hD hS => ?_)
  have hP : va_P G vwCl [zO h 5 [.int (nI k), .int (nI fi), .ref sk, .ref dv, .ref hv, .ref hu, .ref h2, .int (nI la), .int (nI tk), .long (lN pc), .int dd, .int (nI ds)]] H := hP
  have hD : va_D A [zO h 5 [.int (nI k), .int (nI fi), .ref sk, .ref dv, .ref hv, .ref hu, .ref h2, .int (nI la), .int (nI tk), .long (lN pc), .int dd, .int (nI ds)]] := hD
  exact z_rMv hx hb hr hlk dX4_setMeter_5 () (trivial) hP hD hK hS (Nat.le_of_ble_eq_true rfl) (Nat.le_of_ble_eq_true rfl)
theorem in_X4_pace_X4 : ∀ w ∈ u_ws RX4 TX4 12, w ∈ wsX4_pace := fun _ h => (List.mem_cons_of_mem _ (List.mem_append_right _ h))
set_option maxHeartbeats 4000000 in
set_option maxRecDepth 100000 in
theorem c_X4_pace (l : Launch) (G : va_G) (cy : Nat → ClassId) (h sk dv hv hu hm : Nat) (k fi la tk pc ds : Nat) (dd : Int32) : Met l yX4_pace wsX4_pace ({ frames := 0, cells := 0, slots := 0, locals := 0 }) (zS G cy [.ref h] [zO h 5 [.int (nI k), .int (nI fi), .ref sk, .ref dv, .ref hv, .ref hu, .ref hm, .int (nI la), .int (nI tk), .long (lN pc), .int dd, .int (nI ds)]]) (vp_Sl (fun r => r = (lN pc))) 0 0 (fun _ => False) := by
  refine z_ofS (cc := cX4_pace) (maxL := 1) (ret := (some .long)) (by decide) rfl (Nat.le_of_ble_eq_true rfl) ?_
  intro p e s m below meth c ls hx hb hml hr hts hown hlk hP hK hl
  have hown : s.vm.findClass RX4 = some m.cls := hown
  have hl : lv_has ls 1 [(0, .ref h)] := hl
  refine lv_aload_n hx hb dX4_pace_0 rfl (lv_at hl 0 rfl) ?_
  refine va_get (D := G) (ci := 5) (v := .long (lN pc)) (C := RX4) (T := TX4) (N := 12) hx hb hts in_X4_pace_X4 hown hK hP 0 rfl rfl 9 (by decide) (hts _ (List.mem_of_getElem? (i := 1) (by decide +kernel))) (fun _ h9 => h9) rfl dX4_pace_1 ?_
  exact z_rSl hx hb hr hlk dX4_pace_4 (rfl)
theorem in_X4_latestDay_X4 : ∀ w ∈ u_ws RX4 TX4 12, w ∈ wsX4_latestDay := fun _ h => (List.mem_cons_of_mem _ (List.mem_append_right _ h))
set_option maxHeartbeats 4000000 in
set_option maxRecDepth 100000 in
theorem c_X4_latestDay (l : Launch) (G : va_G) (cy : Nat → ClassId) (h sk dv hv hu hm : Nat) (k fi la tk pc ds : Nat) (dd : Int32) : Met l yX4_latestDay wsX4_latestDay ({ frames := 0, cells := 0, slots := 0, locals := 0 }) (zS G cy [.ref h] [zO h 5 [.int (nI k), .int (nI fi), .ref sk, .ref dv, .ref hv, .ref hu, .ref hm, .int (nI la), .int (nI tk), .long (lN pc), .int dd, .int (nI ds)]]) (vp_Si (fun r => r = (nI la))) 0 0 (fun _ => False) := by
  refine z_ofS (cc := cX4_latestDay) (maxL := 1) (ret := (some .int)) (by decide) rfl (Nat.le_of_ble_eq_true rfl) ?_
  intro p e s m below meth c ls hx hb hml hr hts hown hlk hP hK hl
  have hown : s.vm.findClass RX4 = some m.cls := hown
  have hl : lv_has ls 1 [(0, .ref h)] := hl
  refine lv_aload_n hx hb dX4_latestDay_0 rfl (lv_at hl 0 rfl) ?_
  refine va_get (D := G) (ci := 5) (v := .int (nI la)) (C := RX4) (T := TX4) (N := 12) hx hb hts in_X4_latestDay_X4 hown hK hP 0 rfl rfl 7 (by decide) (hts _ (List.mem_of_getElem? (i := 1) (by decide +kernel))) (fun _ h9 => h9) rfl dX4_latestDay_1 ?_
  exact z_rSi hx hb hr hlk dX4_latestDay_4 (rfl)
theorem in_X4_count_X4 : ∀ w ∈ u_ws RX4 TX4 12, w ∈ wsX4_count := fun _ h => (List.mem_cons_of_mem _ (List.mem_append_right _ h))
set_option maxHeartbeats 4000000 in
set_option maxRecDepth 100000 in
theorem c_X4_count (l : Launch) (G : va_G) (cy : Nat → ClassId) (h sk dv hv hu hm : Nat) (k fi la tk pc ds : Nat) (dd : Int32) : Met l yX4_count wsX4_count ({ frames := 0, cells := 0, slots := 0, locals := 0 }) (zS G cy [.ref h] [zO h 5 [.int (nI k), .int (nI fi), .ref sk, .ref dv, .ref hv, .ref hu, .ref hm, .int (nI la), .int (nI tk), .long (lN pc), .int dd, .int (nI ds)]]) (vp_Si (fun r => r = (nI tk))) 0 0 (fun _ => False) := by
  refine z_ofS (cc := cX4_count) (maxL := 1) (ret := (some .int)) (by decide) rfl (Nat.le_of_ble_eq_true rfl) ?_
  intro p e s m below meth c ls hx hb hml hr hts hown hlk hP hK hl
  have hown : s.vm.findClass RX4 = some m.cls := hown
  have hl : lv_has ls 1 [(0, .ref h)] := hl
  refine lv_aload_n hx hb dX4_count_0 rfl (lv_at hl 0 rfl) ?_
  refine va_get (D := G) (ci := 5) (v := .int (nI tk)) (C := RX4) (T := TX4) (N := 12) hx hb hts in_X4_count_X4 hown hK hP 0 rfl rfl 8 (by decide) (hts _ (List.mem_of_getElem? (i := 1) (by decide +kernel))) (fun _ h9 => h9) rfl dX4_count_1 ?_
  exact z_rSi hx hb hr hlk dX4_count_4 (rfl)
theorem in_X4_isPlausible_X4 : ∀ w ∈ u_ws RX4 TX4 12, w ∈ wsX4_isPlausible := fun _ h => (List.mem_cons_of_mem _ (List.mem_append_left _ (List.mem_append_left _ (List.mem_append_left _ (List.mem_append_right _ h)))))
set_option maxHeartbeats 4000000 in
set_option maxRecDepth 100000 in
theorem c_X4_isPlausible (l : Launch) (G : va_G) (cy : Nat → ClassId) (h sk dv hv hu hm : Nat) (so sa : Nat) (k fi la tk pc ds : Nat) (dd : Int32) (sz mu sh : Nat) (g : Nat → Nat) (d nb : Nat) (hk : k < 3) (hg : ∀ d, g d ≤ 30) (hsz : sz ≤ 1000000) (hmu : mu ≤ 10) (hsh : sh < sz) (hnb : nb < sz) (hla : la ≤ d) (hd : d ≤ 1000) : Met l yX4_isPlausible wsX4_isPlausible ({ frames := 3, cells := 0, slots := 0, locals := 69 }) (zS G cy [.ref h, .int (nI d), .int (nI nb)] [zO h 5 [.int (nI k), .int (nI fi), .ref sk, .ref dv, .ref hv, .ref hu, .ref hm, .int (nI la), .int (nI tk), .long (lN pc), .int dd, .int (nI ds)], zO hm 3 [.long (lN sz), .int (nI mu), .int (nI sh)], zO sk 8 [.ref so], zO so 6 [.ref sa], zL cy sa 1000 (fun j9 => lN (g j9))]) (vp_Si (fun r => (r = nI 1 ∧ (z_use sz mu sh nb ≤ 20 * z_sm (fun j8 => z_wt k (g j8)) la (d - la))) ∨ (r = nI 0 ∧ ¬ (z_use sz mu sh nb ≤ 20 * z_sm (fun j8 => z_wt k (g j8)) la (d - la))))) 0 0 (fun _ => False) := by
  refine z_ofS (cc := cX4_isPlausible) (maxL := 3) (ret := (some .boolean)) (by decide) rfl (Nat.le_of_ble_eq_true rfl) ?_
  intro p e s m below meth c ls hx hb hml hr hts hown hlk hP hK hl
  have hown : s.vm.findClass RX4 = some m.cls := hown
  have hl : lv_has ls 3 [(0, .ref h), (1, .int (nI d)), (2, .int (nI nb))] := hl
  refine lv_aload_n hx hb dX4_isPlausible_0 rfl (lv_at hl 0 rfl) ?_
  refine va_get (D := G) (ci := 5) (v := .ref hm) (C := RX4) (T := TX4) (N := 12) hx hb hts in_X4_isPlausible_X4 hown hK hP 0 rfl rfl 6 (by decide) (hts _ (List.mem_of_getElem? (i := 1) (by decide +kernel))) (fun _ h9 => h9) rfl dX4_isPlausible_1 ?_
  refine lv_iload_n hx hb dX4_isPlausible_4 rfl (lv_at hl 2 rfl) ?_
  refine vp_callSl (va_runV (As := [.int (nI nb)]) (rest := []) ⟨hx, hb, hml, hown, hts⟩ (c_X2_useAt l G cy hm sz mu sh nb (by omega) (by omega) (by omega) (by omega)) (cwV 1 hts gX4_isPlausible_X2_useAt rfl rfl rfl (by decide +kernel) ⟨Nat.le_of_ble_eq_true rfl, Nat.le_of_ble_eq_true rfl⟩) (z_pV hK hP [1] rfl (ci := 3) (q0 := 0) rfl rfl rfl) rfl rfl hl.1 rfl (lv_room (Nat.le_of_ble_eq_true rfl)) dX4_isPlausible_5 ⟨Nat.le_of_ble_eq_true rfl, Nat.le_of_ble_eq_true rfl⟩).run (fun r_1 hr_1 => ?_)
  obtain rfl : r_1 = (lN (z_use sz mu sh nb)) := hr_1
  refine lv_ldc2 (v := lN 20) hx hb hown (hts _ (List.mem_of_getElem? (i := 2) (by decide +kernel))) dX4_isPlausible_8 ?_
  refine lv_aload_n hx hb dX4_isPlausible_11 rfl (lv_at hl 0 rfl) ?_
  refine va_get (D := G) (ci := 5) (v := .ref sk) (C := RX4) (T := TX4) (N := 12) hx hb hts in_X4_isPlausible_X4 hown hK hP 0 rfl rfl 2 (by decide) (hts _ (List.mem_of_getElem? (i := 3) (by decide +kernel))) (fun _ h9 => h9) rfl dX4_isPlausible_12 ?_
  refine lv_aload_n hx hb dX4_isPlausible_15 rfl (lv_at hl 0 rfl) ?_
  refine va_get (D := G) (ci := 5) (v := .int (nI k)) (C := RX4) (T := TX4) (N := 12) hx hb hts in_X4_isPlausible_X4 hown hK hP 0 rfl rfl 0 (by decide) (hts _ (List.mem_of_getElem? (i := 4) (by decide +kernel))) (fun _ h9 => h9) rfl dX4_isPlausible_16 ?_
  refine lv_aload_n hx hb dX4_isPlausible_19 rfl (lv_at hl 0 rfl) ?_
  refine va_get (D := G) (ci := 5) (v := .int (nI la)) (C := RX4) (T := TX4) (N := 12) hx hb hts in_X4_isPlausible_X4 hown hK hP 0 rfl rfl 7 (by decide) (hts _ (List.mem_of_getElem? (i := 5) (by decide +kernel))) (fun _ h9 => h9) rfl dX4_isPlausible_20 ?_
  refine lv_iload_n hx hb dX4_isPlausible_23 rfl (lv_at hl 1 rfl) ?_
  refine vp_callSl (va_runV (As := [.int (nI k), .int (nI la), .int (nI d)]) (rest := [.long (lN 20), .long (lN (z_use sz mu sh nb))]) ⟨hx, hb, hml, hown, hts⟩ (c_X7_weights l G cy sk so sa g k la d (by omega) (by omega) (by omega)) (cwV 3 hts gX4_isPlausible_X7_weights rfl rfl rfl (by decide +kernel) ⟨Nat.le_of_ble_eq_true rfl, Nat.le_of_ble_eq_true rfl⟩) (z_pV hK hP [2, 3, 4] rfl (ci := 8) (q0 := 0) rfl rfl rfl) rfl rfl hl.1 rfl (lv_room (Nat.le_of_ble_eq_true rfl)) dX4_isPlausible_24 ⟨Nat.le_of_ble_eq_true rfl, Nat.le_of_ble_eq_true rfl⟩).run (fun r_2 hr_2 => ?_)
  obtain rfl : r_2 = (lN (z_sm (fun j8 => z_wt k (g j8)) la (d - la))) := hr_2
  refine z_lmul hx hb dX4_isPlausible_27 ?_
  have hu9 := z_use_le hsz hmu hsh hnb
  have hw9 : z_sm (fun j8 => z_wt k (g j8)) la (d - la) ≤ (d - la) * 95 := z_sm_le (fun i _ => z_wt_le (hg _))
  refine z_lcN_gt hx hb (by omega) (by omega) dX4_isPlausible_28 dX4_isPlausible_29 (tgt := 36) (by decide) (fun c_3 => ?_) (fun c_3 => ?_)
  · refine lv_iconst (v := nI 0) hx hb dX4_isPlausible_36 (by decide) ?_
    exact z_rSz hx hb hr hlk (by rfl) dX4_isPlausible_37 (Or.inr ⟨rfl, by omega⟩)
  · refine lv_iconst (v := nI 1) hx hb dX4_isPlausible_32 (by decide) ?_
    refine lv_goto (tgt := 37) hx hb dX4_isPlausible_33 (by decide) ?_
    exact z_rSz hx hb hr hlk (by rfl) dX4_isPlausible_37 (Or.inl ⟨rfl, by omega⟩)
theorem in_X4_doubt_X4 : ∀ w ∈ u_ws RX4 TX4 12, w ∈ wsX4_doubt := fun _ h => (List.mem_cons_of_mem _ (List.mem_append_right _ h))
set_option maxHeartbeats 4000000 in
set_option maxRecDepth 100000 in
theorem c_X4_doubt (l : Launch) (G : va_G) (cy : Nat → ClassId) (sz0 : Nat) (h sk dv hv hu hm : Nat) (k fi la tk pc ds : Nat) (dd : Int32) (d nb : Nat) : Met l yX4_doubt wsX4_doubt ({ frames := 0, cells := 0, slots := 0, locals := 0 }) (zM G cy [.ref h, .int (nI d), .int (nI nb)] sz0 [zO h 5 [.int (nI k), .int (nI fi), .ref sk, .ref dv, .ref hv, .ref hu, .ref hm, .int (nI la), .int (nI tk), .long (lN pc), .int dd, .int (nI ds)]]) (va_Qv (fun (_ : Unit) => True) (fun (u : Unit) t9 => zB G cy (va_A [zO h 5 [.int (nI k), .int (nI fi), .ref sk, .ref dv, .ref hv, .ref hu, .ref hm, .int (nI la), .int (nI tk), .long (lN pc), .int dd, .int (nI ds)]] sz0) [zO h 5 [.int (nI k), .int (nI fi), .ref sk, .ref dv, .ref hv, .ref hu, .ref hm, .int (nI la), .int (nI tk), .long (lN pc), .int (nI d), .int (nI nb)]] t9) (va_A [zO h 5 [.int (nI k), .int (nI fi), .ref sk, .ref dv, .ref hv, .ref hu, .ref hm, .int (nI la), .int (nI tk), .long (lN pc), .int dd, .int (nI ds)]] sz0)) 0 0 (va_A [zO h 5 [.int (nI k), .int (nI fi), .ref sk, .ref dv, .ref hv, .ref hu, .ref hm, .int (nI la), .int (nI tk), .long (lN pc), .int dd, .int (nI ds)]] sz0) := by
  refine z_ofM (cc := cX4_doubt) (maxL := 3) (ret := none) (Qc := (fun A => va_Qv (fun (_ : Unit) => True) (fun (u : Unit) t9 => zB G cy A [zO h 5 [.int (nI k), .int (nI fi), .ref sk, .ref dv, .ref hv, .ref hu, .ref hm, .int (nI la), .int (nI tk), .long (lN pc), .int (nI d), .int (nI nb)]] t9) A)) (by decide) rfl (Nat.le_of_ble_eq_true rfl) ?_
  intro p e s m below meth c ls A hx hb hml hr hts hown hlk hin hP hK hD hA hS hl hsz0
  have hown : s.vm.findClass RX4 = some m.cls := hown
  have hl : lv_has ls 3 [(0, .ref h), (1, .int (nI d)), (2, .int (nI nb))] := hl
  refine lv_aload_n hx hb dX4_doubt_0 rfl (lv_at hl 0 rfl) ?_
  refine lv_iload_n hx hb dX4_doubt_1 rfl (lv_at hl 1 rfl) ?_
  refine va_put (D := G) (ci := 5) (v := .int (nI d)) (ty := .int) (C := RX4) (T := TX4) (N := 12) hx hb hts in_X4_doubt_X4 tyX4 tyX4_ok nmX4 hown hK hP hD hS 0 rfl rfl 10 (by decide) (hts _ (List.mem_of_getElem? (i := 1) (by decide +kernel))) (fun _ h9 => h9) rfl (by decide +kernel) rfl rfl (Nat.le_of_ble_eq_true rfl) dX4_doubt_2 (fun H locs hP hD hS => ?_)
  have hP : va_P G vwCl [zO h 5 [.int (nI k), .int (nI fi), .ref sk, .ref dv, .ref hv, .ref hu, .ref hm, .int (nI la), .int (nI tk), .long (lN pc), .int (nI d), .int (nI ds)]] H := hP
  have hD : va_D A [zO h 5 [.int (nI k), .int (nI fi), .ref sk, .ref dv, .ref hv, .ref hu, .ref hm, .int (nI la), .int (nI tk), .long (lN pc), .int (nI d), .int (nI ds)]] := hD
  refine lv_aload_n hx hb dX4_doubt_5 rfl (lv_at hl 0 rfl) ?_
  refine lv_iload_n hx hb dX4_doubt_6 rfl (lv_at hl 2 rfl) ?_
  refine va_put (D := G) (ci := 5) (v := .int (nI nb)) (ty := .int) (C := RX4) (T := TX4) (N := 12) hx hb hts in_X4_doubt_X4 tyX4 tyX4_ok nmX4 hown hK hP hD hS 0 rfl rfl 11 (by decide) (hts _ (List.mem_of_getElem? (i := 2) (by decide +kernel))) (fun _ h9 => h9) rfl (by decide +kernel) rfl rfl (Nat.le_of_ble_eq_true rfl) dX4_doubt_7 (fun H locs hP hD hS => ?_)
  have hP : va_P G vwCl [zO h 5 [.int (nI k), .int (nI fi), .ref sk, .ref dv, .ref hv, .ref hu, .ref hm, .int (nI la), .int (nI tk), .long (lN pc), .int (nI d), .int (nI nb)]] H := hP
  have hD : va_D A [zO h 5 [.int (nI k), .int (nI fi), .ref sk, .ref dv, .ref hv, .ref hu, .ref hm, .int (nI la), .int (nI tk), .long (lN pc), .int (nI d), .int (nI nb)]] := hD
  exact z_rMv hx hb hr hlk dX4_doubt_10 () (trivial) hP hD hK hS (Nat.le_of_ble_eq_true rfl) (Nat.le_of_ble_eq_true rfl)
theorem in_X4_doubtedDay_X4 : ∀ w ∈ u_ws RX4 TX4 12, w ∈ wsX4_doubtedDay := fun _ h => (List.mem_cons_of_mem _ (List.mem_append_right _ h))
set_option maxHeartbeats 4000000 in
set_option maxRecDepth 100000 in
theorem c_X4_doubtedDay (l : Launch) (G : va_G) (cy : Nat → ClassId) (h sk dv hv hu hm : Nat) (k fi la tk pc ds : Nat) (dd : Int32) : Met l yX4_doubtedDay wsX4_doubtedDay ({ frames := 0, cells := 0, slots := 0, locals := 0 }) (zS G cy [.ref h] [zO h 5 [.int (nI k), .int (nI fi), .ref sk, .ref dv, .ref hv, .ref hu, .ref hm, .int (nI la), .int (nI tk), .long (lN pc), .int dd, .int (nI ds)]]) (vp_Si (fun r => r = (if dd ≤ nI la then (-1) else dd))) 0 0 (fun _ => False) := by
  refine z_ofS (cc := cX4_doubtedDay) (maxL := 1) (ret := (some .int)) (by decide) rfl (Nat.le_of_ble_eq_true rfl) ?_
  intro p e s m below meth c ls hx hb hml hr hts hown hlk hP hK hl
  have hown : s.vm.findClass RX4 = some m.cls := hown
  have hl : lv_has ls 1 [(0, .ref h)] := hl
  refine lv_aload_n hx hb dX4_doubtedDay_0 rfl (lv_at hl 0 rfl) ?_
  refine va_get (D := G) (ci := 5) (v := .int dd) (C := RX4) (T := TX4) (N := 12) hx hb hts in_X4_doubtedDay_X4 hown hK hP 0 rfl rfl 10 (by decide) (hts _ (List.mem_of_getElem? (i := 1) (by decide +kernel))) (fun _ h9 => h9) rfl dX4_doubtedDay_1 ?_
  refine lv_aload_n hx hb dX4_doubtedDay_4 rfl (lv_at hl 0 rfl) ?_
  refine va_get (D := G) (ci := 5) (v := .int (nI la)) (C := RX4) (T := TX4) (N := 12) hx hb hts in_X4_doubtedDay_X4 hown hK hP 0 rfl rfl 7 (by decide) (hts _ (List.mem_of_getElem? (i := 2) (by decide +kernel))) (fun _ h9 => h9) rfl dX4_doubtedDay_5 ?_
  refine lv_icmp_le hx hb dX4_doubtedDay_8 (tgt := 18) (by decide) (fun c_1 => ?_) (fun c_1 => ?_)
  · refine lv_iconst (v := (-1)) hx hb dX4_doubtedDay_18 (by decide) ?_
    exact z_rSi hx hb hr hlk dX4_doubtedDay_19 (by rw [if_pos c_1])
  · refine lv_aload_n hx hb dX4_doubtedDay_11 rfl (lv_at hl 0 rfl) ?_
    refine va_get (D := G) (ci := 5) (v := .int dd) (C := RX4) (T := TX4) (N := 12) hx hb hts in_X4_doubtedDay_X4 hown hK hP 0 rfl rfl 10 (by decide) (hts _ (List.mem_of_getElem? (i := 1) (by decide +kernel))) (fun _ h9 => h9) rfl dX4_doubtedDay_12 ?_
    refine lv_goto (tgt := 19) hx hb dX4_doubtedDay_15 (by decide) ?_
    exact z_rSi hx hb hr hlk dX4_doubtedDay_19 (by rw [if_neg c_1])
theorem in_X4_doubtedShown_X4 : ∀ w ∈ u_ws RX4 TX4 12, w ∈ wsX4_doubtedShown := fun _ h => (List.mem_cons_of_mem _ (List.mem_append_right _ h))
set_option maxHeartbeats 4000000 in
set_option maxRecDepth 100000 in
theorem c_X4_doubtedShown (l : Launch) (G : va_G) (cy : Nat → ClassId) (h sk dv hv hu hm : Nat) (k fi la tk pc ds : Nat) (dd : Int32) : Met l yX4_doubtedShown wsX4_doubtedShown ({ frames := 0, cells := 0, slots := 0, locals := 0 }) (zS G cy [.ref h] [zO h 5 [.int (nI k), .int (nI fi), .ref sk, .ref dv, .ref hv, .ref hu, .ref hm, .int (nI la), .int (nI tk), .long (lN pc), .int dd, .int (nI ds)]]) (vp_Si (fun r => r = (nI ds))) 0 0 (fun _ => False) := by
  refine z_ofS (cc := cX4_doubtedShown) (maxL := 1) (ret := (some .int)) (by decide) rfl (Nat.le_of_ble_eq_true rfl) ?_
  intro p e s m below meth c ls hx hb hml hr hts hown hlk hP hK hl
  have hown : s.vm.findClass RX4 = some m.cls := hown
  have hl : lv_has ls 1 [(0, .ref h)] := hl
  refine lv_aload_n hx hb dX4_doubtedShown_0 rfl (lv_at hl 0 rfl) ?_
  refine va_get (D := G) (ci := 5) (v := .int (nI ds)) (C := RX4) (T := TX4) (N := 12) hx hb hts in_X4_doubtedShown_X4 hown hK hP 0 rfl rfl 11 (by decide) (hts _ (List.mem_of_getElem? (i := 1) (by decide +kernel))) (fun _ h9 => h9) rfl dX4_doubtedShown_1 ?_
  exact z_rSi hx hb hr hlk dX4_doubtedShown_4 (rfl)
theorem in_X4_isSpread_X4 : ∀ w ∈ u_ws RX4 TX4 12, w ∈ wsX4_isSpread := fun _ h => (List.mem_cons_of_mem _ (List.mem_append_right _ h))
set_option maxHeartbeats 4000000 in
set_option maxRecDepth 100000 in
theorem c_X4_isSpread (l : Launch) (G : va_G) (cy : Nat → ClassId) (h sk dv hv hu hm : Nat) (k fi la tk pc ds : Nat) (dd : Int32) (d : Nat) (hd : d < 2 ^ 31) (hla : la < 2 ^ 31) : Met l yX4_isSpread wsX4_isSpread ({ frames := 0, cells := 0, slots := 0, locals := 0 }) (zS G cy [.ref h, .int (nI d)] [zO h 5 [.int (nI k), .int (nI fi), .ref sk, .ref dv, .ref hv, .ref hu, .ref hm, .int (nI la), .int (nI tk), .long (lN pc), .int dd, .int (nI ds)]]) (vp_Si (fun r => (r = nI 1 ∧ (d < la)) ∨ (r = nI 0 ∧ ¬ (d < la)))) 0 0 (fun _ => False) := by
  refine z_ofS (cc := cX4_isSpread) (maxL := 2) (ret := (some .boolean)) (by decide) rfl (Nat.le_of_ble_eq_true rfl) ?_
  intro p e s m below meth c ls hx hb hml hr hts hown hlk hP hK hl
  have hown : s.vm.findClass RX4 = some m.cls := hown
  have hl : lv_has ls 2 [(0, .ref h), (1, .int (nI d))] := hl
  refine lv_iload_n hx hb dX4_isSpread_0 rfl (lv_at hl 1 rfl) ?_
  refine lv_aload_n hx hb dX4_isSpread_1 rfl (lv_at hl 0 rfl) ?_
  refine va_get (D := G) (ci := 5) (v := .int (nI la)) (C := RX4) (T := TX4) (N := 12) hx hb hts in_X4_isSpread_X4 hown hK hP 0 rfl rfl 7 (by decide) (hts _ (List.mem_of_getElem? (i := 1) (by decide +kernel))) (fun _ h9 => h9) rfl dX4_isSpread_2 ?_
  refine z_icmp_ge hx hb (by omega) (by omega) dX4_isSpread_5 (tgt := 12) (by decide) (fun c_1 => ?_) (fun c_1 => ?_)
  · refine lv_iconst (v := nI 0) hx hb dX4_isSpread_12 (by decide) ?_
    exact z_rSz hx hb hr hlk (by rfl) dX4_isSpread_13 (Or.inr ⟨rfl, by omega⟩)
  · refine lv_iconst (v := nI 1) hx hb dX4_isSpread_8 (by decide) ?_
    refine lv_goto (tgt := 13) hx hb dX4_isSpread_9 (by decide) ?_
    exact z_rSz hx hb hr hlk (by rfl) dX4_isSpread_13 (Or.inl ⟨rfl, by omega⟩)
theorem in_X4_estimate_X4 : ∀ w ∈ u_ws RX4 TX4 12, w ∈ wsX4_estimate := fun _ h => (List.mem_cons_of_mem _ (List.mem_append_left _ (List.mem_append_left _ (List.mem_append_right _ h))))
set_option maxHeartbeats 4000000 in
set_option maxRecDepth 100000 in
theorem c_X4_estimate (l : Launch) (G : va_G) (cy : Nat → ClassId) (h sk dv hv hu hm : Nat) (so sa : Nat) (k fi la tk pc ds : Nat) (dd : Int32) (g : Nat → Nat) (bp d : Nat) (hk : k < 3) (hg : ∀ d, g d ≤ 30) (hd : d < 1000) (hbp : bp < 2 ^ 40) : Met l yX4_estimate wsX4_estimate ({ frames := 2, cells := 0, slots := 0, locals := 43 }) (zS G cy [.ref h, .long (lN bp), .int (nI d)] [zO h 5 [.int (nI k), .int (nI fi), .ref sk, .ref dv, .ref hv, .ref hu, .ref hm, .int (nI la), .int (nI tk), .long (lN pc), .int dd, .int (nI ds)], zO sk 8 [.ref so], zO so 6 [.ref sa], zL cy sa 1000 (fun j9 => lN (g j9))]) (vp_Sl (fun r => r = (lN (bp * z_wt k (g d) / 1000)))) 0 0 (fun _ => False) := by
  refine z_ofS (cc := cX4_estimate) (maxL := 4) (ret := (some .long)) (by decide) rfl (Nat.le_of_ble_eq_true rfl) ?_
  intro p e s m below meth c ls hx hb hml hr hts hown hlk hP hK hl
  have hown : s.vm.findClass RX4 = some m.cls := hown
  have hl : lv_has ls 4 [(0, .ref h), (1, .long (lN bp)), (3, .int (nI d))] := hl
  refine lv_lload_n hx hb dX4_estimate_0 rfl (lv_at hl 1 rfl) ?_
  refine lv_aload_n hx hb dX4_estimate_1 rfl (lv_at hl 0 rfl) ?_
  refine va_get (D := G) (ci := 5) (v := .ref sk) (C := RX4) (T := TX4) (N := 12) hx hb hts in_X4_estimate_X4 hown hK hP 0 rfl rfl 2 (by decide) (hts _ (List.mem_of_getElem? (i := 1) (by decide +kernel))) (fun _ h9 => h9) rfl dX4_estimate_2 ?_
  refine lv_aload_n hx hb dX4_estimate_5 rfl (lv_at hl 0 rfl) ?_
  refine va_get (D := G) (ci := 5) (v := .int (nI k)) (C := RX4) (T := TX4) (N := 12) hx hb hts in_X4_estimate_X4 hown hK hP 0 rfl rfl 0 (by decide) (hts _ (List.mem_of_getElem? (i := 2) (by decide +kernel))) (fun _ h9 => h9) rfl dX4_estimate_6 ?_
  refine lv_iload_n hx hb dX4_estimate_9 rfl (lv_at hl 2 rfl) ?_
  refine vp_callSl (va_runV (As := [.int (nI k), .int (nI d)]) (rest := [.long (lN bp)]) ⟨hx, hb, hml, hown, hts⟩ (c_X7_weight l G cy sk so sa g k d (by omega) (by omega)) (cwV 2 hts gX4_estimate_X7_weight rfl rfl rfl (by decide +kernel) ⟨Nat.le_of_ble_eq_true rfl, Nat.le_of_ble_eq_true rfl⟩) (z_pV hK hP [1, 2, 3] rfl (ci := 8) (q0 := 0) rfl rfl rfl) rfl rfl hl.1 rfl (lv_room (Nat.le_of_ble_eq_true rfl)) dX4_estimate_10 ⟨Nat.le_of_ble_eq_true rfl, Nat.le_of_ble_eq_true rfl⟩).run (fun r_1 hr_1 => ?_)
  obtain rfl : r_1 = (lN (z_wt k (g d))) := hr_1
  refine z_lmul hx hb dX4_estimate_13 ?_
  refine lv_ldc2 (v := lN 1000) hx hb hown (hts _ (List.mem_of_getElem? (i := 3) (by decide +kernel))) dX4_estimate_14 ?_
  refine z_ldiv hx hb (by have h9 := Nat.mul_le_mul (Nat.le_of_lt hbp) (z_wt_le (k := k) (hg d)); omega) (by omega) (by omega) dX4_estimate_17 ?_
  exact z_rSl hx hb hr hlk dX4_estimate_18 (rfl)
theorem in_X4_unitsOf_X4 : ∀ w ∈ u_ws RX4 TX4 12, w ∈ wsX4_unitsOf := fun _ h => (List.mem_cons_of_mem _ (List.mem_append_left _ (List.mem_append_left _ (List.mem_append_right _ h))))
set_option maxHeartbeats 4000000 in
set_option maxRecDepth 100000 in
theorem c_X4_unitsOf (l : Launch) (G : va_G) (cy : Nat → ClassId) (h sk dv hv hu hm : Nat) (av : Nat) (so sa : Nat) (k fi la tk pc ds : Nat) (dd : Int32) (vo g : Nat → Nat) (d : Nat) (hk : k < 3) (hg : ∀ d, g d ≤ 30) (hd : d < 1000) (hla : la < 2 ^ 31) (hpc : pc < 2 ^ 40) : Met l yX4_unitsOf wsX4_unitsOf ({ frames := 3, cells := 0, slots := 0, locals := 66 }) (zS G cy [.ref h, .int (nI d)] [zO h 5 [.int (nI k), .int (nI fi), .ref sk, .ref dv, .ref hv, .ref hu, .ref hm, .int (nI la), .int (nI tk), .long (lN pc), .int dd, .int (nI ds)], zO hv 6 [.ref av], zL cy av 1000 (fun j9 => lN (vo j9)), zO sk 8 [.ref so], zO so 6 [.ref sa], zL cy sa 1000 (fun j9 => lN (g j9))]) (vp_Sl (fun r => r = (lN (z_un la vo pc k g d)))) 0 0 (fun _ => False) := by
  refine z_ofS (cc := cX4_unitsOf) (maxL := 2) (ret := (some .long)) (by decide) rfl (Nat.le_of_ble_eq_true rfl) ?_
  intro p e s m below meth c ls hx hb hml hr hts hown hlk hP hK hl
  have hown : s.vm.findClass RX4 = some m.cls := hown
  have hl : lv_has ls 2 [(0, .ref h), (1, .int (nI d))] := hl
  refine lv_aload_n hx hb dX4_unitsOf_0 rfl (lv_at hl 0 rfl) ?_
  refine lv_iload_n hx hb dX4_unitsOf_1 rfl (lv_at hl 1 rfl) ?_
  refine vp_callSi (va_runV (As := [.int (nI d)]) (rest := []) ⟨hx, hb, hml, hown, hts⟩ (c_X4_isSpread l G cy h sk dv hv hu hm k fi la tk pc ds dd d (by omega) (by omega)) (cwV 1 hts gX4_unitsOf_X4_isSpread rfl rfl rfl (by decide +kernel) ⟨Nat.le_of_ble_eq_true rfl, Nat.le_of_ble_eq_true rfl⟩) (z_pV hK hP [0] rfl (ci := 5) (q0 := 0) rfl rfl rfl) rfl rfl hl.1 rfl (lv_room (Nat.le_of_ble_eq_true rfl)) dX4_unitsOf_2 ⟨Nat.le_of_ble_eq_true rfl, Nat.le_of_ble_eq_true rfl⟩).run (fun r_1 hr_1 => ?_)
  rcases hr_1 with ⟨rfl, b_2⟩ | ⟨rfl, b_2⟩
  · refine lv_if_eq hx hb dX4_unitsOf_5 (tgt := 19) (by decide) (fun q => absurd q (by decide)) (fun _ => ?_)
    refine lv_aload_n hx hb dX4_unitsOf_8 rfl (lv_at hl 0 rfl) ?_
    refine va_get (D := G) (ci := 5) (v := .ref hv) (C := RX4) (T := TX4) (N := 12) hx hb hts in_X4_unitsOf_X4 hown hK hP 0 rfl rfl 4 (by decide) (hts _ (List.mem_of_getElem? (i := 1) (by decide +kernel))) (fun _ h9 => h9) rfl dX4_unitsOf_9 ?_
    refine lv_iload_n hx hb dX4_unitsOf_12 rfl (lv_at hl 1 rfl) ?_
    refine vp_callSl (va_runV (As := [.int (nI d)]) (rest := []) ⟨hx, hb, hml, hown, hts⟩ (c_X5_getN l G cy hv av 1000 vo d (by omega) (by omega)) (cwV 1 hts gX4_unitsOf_X5_get rfl rfl rfl (by decide +kernel) ⟨Nat.le_of_ble_eq_true rfl, Nat.le_of_ble_eq_true rfl⟩) (z_pV hK hP [1, 2] rfl (ci := 6) (q0 := 0) rfl rfl rfl) rfl rfl hl.1 rfl (lv_room (Nat.le_of_ble_eq_true rfl)) dX4_unitsOf_13 ⟨Nat.le_of_ble_eq_true rfl, Nat.le_of_ble_eq_true rfl⟩).run (fun r_3 hr_3 => ?_)
    obtain rfl : r_3 = (lN (vo d)) := hr_3
    refine lv_goto (tgt := 28) hx hb dX4_unitsOf_16 (by decide) ?_
    exact z_rSl hx hb hr hlk dX4_unitsOf_28 (by rw [z_un, if_pos b_2])
  · refine lv_if_eq hx hb dX4_unitsOf_5 (tgt := 19) (by decide) (fun _ => ?_) (fun q => absurd (by decide) q)
    refine lv_aload_n hx hb dX4_unitsOf_19 rfl (lv_at hl 0 rfl) ?_
    refine lv_aload_n hx hb dX4_unitsOf_20 rfl (lv_at hl 0 rfl) ?_
    refine va_get (D := G) (ci := 5) (v := .long (lN pc)) (C := RX4) (T := TX4) (N := 12) hx hb hts in_X4_unitsOf_X4 hown hK hP 0 rfl rfl 9 (by decide) (hts _ (List.mem_of_getElem? (i := 2) (by decide +kernel))) (fun _ h9 => h9) rfl dX4_unitsOf_21 ?_
    refine lv_iload_n hx hb dX4_unitsOf_24 rfl (lv_at hl 1 rfl) ?_
    refine vp_callSl (va_runV (As := [.long (lN pc), .int (nI d)]) (rest := []) ⟨hx, hb, hml, hown, hts⟩ (c_X4_estimate l G cy h sk dv hv hu hm so sa k fi la tk pc ds dd g pc d (by omega) (by omega) (by omega) (by omega)) (cwV 2 hts gX4_unitsOf_X4_estimate rfl rfl rfl (by decide +kernel) ⟨Nat.le_of_ble_eq_true rfl, Nat.le_of_ble_eq_true rfl⟩) (z_pV hK hP [0, 3, 4, 5] rfl (ci := 5) (q0 := 0) rfl rfl rfl) rfl rfl hl.1 rfl (lv_room (Nat.le_of_ble_eq_true rfl)) dX4_unitsOf_25 ⟨Nat.le_of_ble_eq_true rfl, Nat.le_of_ble_eq_true rfl⟩).run (fun r_4 hr_4 => ?_)
    obtain rfl : r_4 = (lN (pc * z_wt k (g d) / 1000)) := hr_4
    exact z_rSl hx hb hr hlk dX4_unitsOf_28 (by rw [z_un, if_neg b_2])
theorem in_X4_paceBy_X4 : ∀ w ∈ u_ws RX4 TX4 12, w ∈ wsX4_paceBy := fun _ h => (List.mem_cons_of_mem _ (List.mem_append_left _ (List.mem_append_left _ (List.mem_append_right _ h))))
set_option maxHeartbeats 4000000 in
set_option maxRecDepth 100000 in
theorem c_X4_paceBy (l : Launch) (G : va_G) (cy : Nat → ClassId) (h sk dv hv hu hm : Nat) (so sa : Nat) (k fi la tk pc ds : Nat) (dd : Int32) (g : Nat → Nat) (U a b : Nat) (hk : k < 3) (hg : ∀ d, g d ≤ 30) (hab : a ≤ b) (hb9 : b ≤ 1000) (hU : U ≤ 10000000) : Met l yX4_paceBy wsX4_paceBy ({ frames := 3, cells := 0, slots := 0, locals := 69 }) (zS G cy [.ref h, .long (lN U), .int (nI a), .int (nI b)] [zO h 5 [.int (nI k), .int (nI fi), .ref sk, .ref dv, .ref hv, .ref hu, .ref hm, .int (nI la), .int (nI tk), .long (lN pc), .int dd, .int (nI ds)], zO sk 8 [.ref so], zO so 6 [.ref sa], zL cy sa 1000 (fun j9 => lN (g j9))]) (vp_Sl (fun r => r = (lN (z_pace U (fun j8 => z_wt k (g j8)) a (b - a))))) 0 0 (fun _ => False) := by
  refine z_ofS (cc := cX4_paceBy) (maxL := 7) (ret := (some .long)) (by decide) rfl (Nat.le_of_ble_eq_true rfl) ?_
  intro p e s m below meth c ls hx hb hml hr hts hown hlk hP hK hl
  have hown : s.vm.findClass RX4 = some m.cls := hown
  have hl : lv_has ls 7 [(0, .ref h), (1, .long (lN U)), (3, .int (nI a)), (4, .int (nI b))] := hl
  refine lv_aload_n hx hb dX4_paceBy_0 rfl (lv_at hl 0 rfl) ?_
  refine va_get (D := G) (ci := 5) (v := .ref sk) (C := RX4) (T := TX4) (N := 12) hx hb hts in_X4_paceBy_X4 hown hK hP 0 rfl rfl 2 (by decide) (hts _ (List.mem_of_getElem? (i := 1) (by decide +kernel))) (fun _ h9 => h9) rfl dX4_paceBy_1 ?_
  refine lv_aload_n hx hb dX4_paceBy_4 rfl (lv_at hl 0 rfl) ?_
  refine va_get (D := G) (ci := 5) (v := .int (nI k)) (C := RX4) (T := TX4) (N := 12) hx hb hts in_X4_paceBy_X4 hown hK hP 0 rfl rfl 0 (by decide) (hts _ (List.mem_of_getElem? (i := 2) (by decide +kernel))) (fun _ h9 => h9) rfl dX4_paceBy_5 ?_
  refine lv_iload_n hx hb dX4_paceBy_8 rfl (lv_at hl 2 rfl) ?_
  refine lv_iload hx hb dX4_paceBy_9 (lv_at hl 3 rfl) ?_
  refine vp_callSl (va_runV (As := [.int (nI k), .int (nI a), .int (nI b)]) (rest := []) ⟨hx, hb, hml, hown, hts⟩ (c_X7_weights l G cy sk so sa g k a b (by omega) (by omega) (by omega)) (cwV 3 hts gX4_paceBy_X7_weights rfl rfl rfl (by decide +kernel) ⟨Nat.le_of_ble_eq_true rfl, Nat.le_of_ble_eq_true rfl⟩) (z_pV hK hP [1, 2, 3] rfl (ci := 8) (q0 := 0) rfl rfl rfl) rfl rfl hl.1 rfl (lv_room (Nat.le_of_ble_eq_true rfl)) dX4_paceBy_11 ⟨Nat.le_of_ble_eq_true rfl, Nat.le_of_ble_eq_true rfl⟩).run (fun r_1 hr_1 => ?_)
  obtain rfl : r_1 = (lN (z_sm (fun j8 => z_wt k (g j8)) a (b - a))) := hr_1
  refine lv_lstore (lv' := [(5, .long (lN (z_sm (fun j8 => z_wt k (g j8)) a (b - a)))), (0, .ref h), (1, .long (lN U)), (3, .int (nI a)), (4, .int (nI b))]) hx hb dX4_paceBy_14 hl (by decide) rfl (fun ls hl => ?_)
  refine lv_lload hx hb dX4_paceBy_16 (lv_at hl 0 rfl) ?_
  refine lv_lconst (v := lN 0) hx hb dX4_paceBy_18 rfl ?_
  have hw9 : z_sm (fun j8 => z_wt k (g j8)) a (b - a) ≤ (b - a) * 95 := z_sm_le (fun i _ => z_wt_le (hg _))
  refine z_lcN_le hx hb (by omega) (by omega) dX4_paceBy_19 dX4_paceBy_20 (tgt := 34) (by decide) (fun c_2 => ?_) (fun c_2 => ?_)
  · refine lv_lconst (v := lN 0) hx hb dX4_paceBy_34 rfl ?_
    exact z_rSl hx hb hr hlk dX4_paceBy_35 (by rw [z_pace, show z_sm (fun j8 => z_wt k (g j8)) a (b - a) = 0 by omega, Nat.div_zero])
  · refine lv_lload_n hx hb dX4_paceBy_23 rfl (lv_at hl 2 rfl) ?_
    refine lv_ldc2 (v := lN 1000) hx hb hown (hts _ (List.mem_of_getElem? (i := 3) (by decide +kernel))) dX4_paceBy_24 ?_
    refine z_lmul hx hb dX4_paceBy_27 ?_
    refine lv_lload hx hb dX4_paceBy_28 (lv_at hl 0 rfl) ?_
    refine z_ldiv hx hb (by omega) (by omega) (by omega) dX4_paceBy_30 ?_
    refine lv_goto (tgt := 35) hx hb dX4_paceBy_31 (by decide) ?_
    exact z_rSl hx hb hr hlk dX4_paceBy_35 (rfl)
theorem in_X4_readingUpTo_X4 : ∀ w ∈ u_ws RX4 TX4 12, w ∈ wsX4_readingUpTo := fun _ h => (List.mem_cons_of_mem _ (List.mem_append_left _ (List.mem_append_right _ h)))
set_option maxHeartbeats 4000000 in
set_option maxRecDepth 100000 in
theorem c_X4_readingUpTo (l : Launch) (G : va_G) (cy : Nat → ClassId) (h sk dv hv hu hm : Nat) (au : Nat) (k fi la tk pc ds : Nat) (dd : Int32) (us : Nat → Nat) (d : Nat) (hd : d < 1000) (hfi : fi ≤ d) (hus : ∀ d, us d ≤ 10000001) : Met l yX4_readingUpTo wsX4_readingUpTo ({ frames := 1, cells := 0, slots := 0, locals := 21 }) (zS G cy [.ref h, .int (nI d)] [zO h 5 [.int (nI k), .int (nI fi), .ref sk, .ref dv, .ref hv, .ref hu, .ref hm, .int (nI la), .int (nI tk), .long (lN pc), .int dd, .int (nI ds)], zO hu 6 [.ref au], zL cy au 1000 (fun j9 => lN (us j9))]) (vp_Si (fun r => r = (nI (z_ru us fi d)))) 0 0 (fun _ => False) := by
  refine z_ofS (cc := cX4_readingUpTo) (maxL := 3) (ret := (some .int)) (by decide) rfl (Nat.le_of_ble_eq_true rfl) ?_
  intro p e s m below meth c ls hx hb hml hr hts hown hlk hP hK hl
  have hown : s.vm.findClass RX4 = some m.cls := hown
  have hl : lv_has ls 3 [(0, .ref h), (1, .int (nI d))] := hl
  refine lv_iload_n hx hb dX4_readingUpTo_0 rfl (lv_at hl 1 rfl) ?_
  refine lv_istore_n (lv' := [(2, .int (nI d)), (0, .ref h), (1, .int (nI d))]) hx hb dX4_readingUpTo_1 rfl hl (by decide) rfl (fun ls hl => ?_)
  have hloop2 : ∀ (fuel2 : Nat) (x : Nat), (x ≤ d) → (fi ≤ x) → (z_ru us fi x = z_ru us fi d) → x < fuel2 → ∀ (ls : Array Slot), lv_has ls 3 [(0, .ref h), (1, .int (nI d)), (2, .int (nI x))] → W p l e { frames := 1, cells := 0, slots := 0, locals := 21 } s m [.ref h, .int (nI d)].toArray below meth c s.heap [] 0 0 (MQ below (vp_Si (fun r => r = (nI (z_ru us fi d)))) [.ref h, .int (nI d)].toArray s 0 0 (fun _ => False)) (F0 m 2 ls []) := by
    intro fuel2
    induction fuel2 with
    | zero =>
      intro x hi2_0 hi2_1 hi2_2 hfu2
      exact absurd hfu2 (Nat.not_lt_zero _)
    | succ fuel2 ih2 =>
      intro x hi2_0 hi2_1 hi2_2 hfu2 ls hl
      refine lv_iload_n hx hb dX4_readingUpTo_2 rfl (lv_at hl 2 rfl) ?_
      refine lv_aload_n hx hb dX4_readingUpTo_3 rfl (lv_at hl 0 rfl) ?_
      refine va_get (D := G) (ci := 5) (v := .int (nI fi)) (C := RX4) (T := TX4) (N := 12) hx hb hts in_X4_readingUpTo_X4 hown hK hP 0 rfl rfl 1 (by decide) (hts _ (List.mem_of_getElem? (i := 1) (by decide +kernel))) (fun _ h9 => h9) rfl dX4_readingUpTo_4 ?_
      refine z_icmp_le hx hb (by omega) (by omega) dX4_readingUpTo_7 (tgt := 29) (by decide) (fun c_1 => ?_) (fun c_1 => ?_)
      · refine lv_iload_n hx hb dX4_readingUpTo_29 rfl (lv_at hl 2 rfl) ?_
        exact z_rSi hx hb hr hlk dX4_readingUpTo_30 (by rw [← hi2_2, z_ru_at (by omega)])
      · refine lv_aload_n hx hb dX4_readingUpTo_10 rfl (lv_at hl 0 rfl) ?_
        refine va_get (D := G) (ci := 5) (v := .ref hu) (C := RX4) (T := TX4) (N := 12) hx hb hts in_X4_readingUpTo_X4 hown hK hP 0 rfl rfl 5 (by decide) (hts _ (List.mem_of_getElem? (i := 2) (by decide +kernel))) (fun _ h9 => h9) rfl dX4_readingUpTo_11 ?_
        refine lv_iload_n hx hb dX4_readingUpTo_14 rfl (lv_at hl 2 rfl) ?_
        refine vp_callSl (va_runV (As := [.int (nI x)]) (rest := []) ⟨hx, hb, hml, hown, hts⟩ (c_X5_getN l G cy hu au 1000 us x (by omega) (by omega)) (cwV 1 hts gX4_readingUpTo_X5_get rfl rfl rfl (by decide +kernel) ⟨Nat.le_of_ble_eq_true rfl, Nat.le_of_ble_eq_true rfl⟩) (z_pV hK hP [1, 2] rfl (ci := 6) (q0 := 0) rfl rfl rfl) rfl rfl hl.1 rfl (lv_room (Nat.le_of_ble_eq_true rfl)) dX4_readingUpTo_15 ⟨Nat.le_of_ble_eq_true rfl, Nat.le_of_ble_eq_true rfl⟩).run (fun r_2 hr_2 => ?_)
        obtain rfl : r_2 = (lN (us x)) := hr_2
        refine lv_lconst (v := lN 0) hx hb dX4_readingUpTo_18 rfl ?_
        refine z_lcN_ne hx hb (by have := hus x; omega) (by omega) dX4_readingUpTo_19 dX4_readingUpTo_20 (tgt := 29) (by decide) (fun c_3 => ?_) (fun c_3 => ?_)
        · refine lv_iload_n hx hb dX4_readingUpTo_29 rfl (lv_at hl 2 rfl) ?_
          exact z_rSi hx hb hr hlk dX4_readingUpTo_30 (by rw [← hi2_2, z_ru_at (by omega)])
        · refine lv_iinc (v := (nI (x - 1))) (lv' := [(2, .int (nI (x - 1))), (0, .ref h), (1, .int (nI d))]) hx hb dX4_readingUpTo_23 hl (k := 2) rfl (z_pred (by omega)) (by decide) rfl (fun ls hl => ?_)
          refine lv_goto (tgt := 2) hx hb dX4_readingUpTo_26 (by decide) ?_
          exact ih2 (x - 1) (by omega) (by omega) (by rw [← hi2_2]; obtain ⟨y, rfl⟩ : ∃ y, x = y + 1 := ⟨x - 1, by omega⟩; exact (show z_ru us fi (y + 1) = z_ru us fi y by rw [z_ru, if_pos (by omega)]).symm) (by omega) _ (lv_sub hl [1, 2, 0] rfl)
  exact hloop2 (d + 1) d (by omega) (by omega) (rfl) (by omega) _ (lv_sub hl [1, 2, 0] rfl)
theorem in_X4_readingBehind_X4 : ∀ w ∈ u_ws RX4 TX4 12, w ∈ wsX4_readingBehind := fun _ h => (List.mem_cons_of_mem _ (List.mem_append_left _ (List.mem_append_right _ h)))
set_option maxHeartbeats 4000000 in
set_option maxRecDepth 100000 in
theorem c_X4_readingBehind (l : Launch) (G : va_G) (cy : Nat → ClassId) (h sk dv hv hu hm : Nat) (au : Nat) (k fi la tk pc ds : Nat) (dd : Int32) (us : Nat → Nat) (d : Nat) (hd : d < 1000) (hus : ∀ d, us d ≤ 10000001) : Met l yX4_readingBehind wsX4_readingBehind ({ frames := 1, cells := 0, slots := 0, locals := 21 }) (zS G cy [.ref h, .int (nI d)] [zO h 5 [.int (nI k), .int (nI fi), .ref sk, .ref dv, .ref hv, .ref hu, .ref hm, .int (nI la), .int (nI tk), .long (lN pc), .int dd, .int (nI ds)], zO hu 6 [.ref au], zL cy au 1000 (fun j9 => lN (us j9))]) (vp_Si (fun r => z_beh us d r)) 0 0 (fun _ => False) := by
  refine z_ofS (cc := cX4_readingBehind) (maxL := 3) (ret := (some .int)) (by decide) rfl (Nat.le_of_ble_eq_true rfl) ?_
  intro p e s m below meth c ls hx hb hml hr hts hown hlk hP hK hl
  have hown : s.vm.findClass RX4 = some m.cls := hown
  have hl : lv_has ls 3 [(0, .ref h), (1, .int (nI d))] := hl
  refine lv_iload_n hx hb dX4_readingBehind_0 rfl (lv_at hl 1 rfl) ?_
  refine lv_iconst (v := nI 1) hx hb dX4_readingBehind_1 (by decide) ?_
  refine z_iadd hx hb dX4_readingBehind_2 ?_
  refine lv_istore_n (lv' := [(2, .int (nI (d + 1))), (0, .ref h), (1, .int (nI d))]) hx hb dX4_readingBehind_3 rfl hl (by decide) rfl (fun ls hl => ?_)
  have hloop4 : ∀ (fuel4 : Nat) (x : Nat), (d < x) → (x ≤ 1000) → (∀ y, d < y → y < x → us y = 0) → (1000 - x) < fuel4 → ∀ (ls : Array Slot), lv_has ls 3 [(0, .ref h), (1, .int (nI d)), (2, .int (nI x))] → W p l e { frames := 1, cells := 0, slots := 0, locals := 21 } s m [.ref h, .int (nI d)].toArray below meth c s.heap [] 0 0 (MQ below (vp_Si (fun r => z_beh us d r)) [.ref h, .int (nI d)].toArray s 0 0 (fun _ => False)) (F0 m 4 ls []) := by
    intro fuel4
    induction fuel4 with
    | zero =>
      intro x hi4_0 hi4_1 hi4_2 hfu4
      exact absurd hfu4 (Nat.not_lt_zero _)
    | succ fuel4 ih4 =>
      intro x hi4_0 hi4_1 hi4_2 hfu4 ls hl
      refine lv_iload_n hx hb dX4_readingBehind_4 rfl (lv_at hl 2 rfl) ?_
      refine lv_sipush (v := nI 1000) hx hb dX4_readingBehind_5 (by decide) ?_
      refine z_icmp_ge hx hb (by omega) (by omega) dX4_readingBehind_8 (tgt := 32) (by decide) (fun c_1 => ?_) (fun c_1 => ?_)
      · refine lv_iconst (v := (-1)) hx hb dX4_readingBehind_32 (by decide) ?_
        exact z_rSi hx hb hr hlk dX4_readingBehind_33 (Or.inr ⟨rfl, fun y h1 h2 => hi4_2 y h1 (by omega)⟩)
      · refine lv_aload_n hx hb dX4_readingBehind_11 rfl (lv_at hl 0 rfl) ?_
        refine va_get (D := G) (ci := 5) (v := .ref hu) (C := RX4) (T := TX4) (N := 12) hx hb hts in_X4_readingBehind_X4 hown hK hP 0 rfl rfl 5 (by decide) (hts _ (List.mem_of_getElem? (i := 1) (by decide +kernel))) (fun _ h9 => h9) rfl dX4_readingBehind_12 ?_
        refine lv_iload_n hx hb dX4_readingBehind_15 rfl (lv_at hl 2 rfl) ?_
        refine vp_callSl (va_runV (As := [.int (nI x)]) (rest := []) ⟨hx, hb, hml, hown, hts⟩ (c_X5_getN l G cy hu au 1000 us x (by omega) (by omega)) (cwV 1 hts gX4_readingBehind_X5_get rfl rfl rfl (by decide +kernel) ⟨Nat.le_of_ble_eq_true rfl, Nat.le_of_ble_eq_true rfl⟩) (z_pV hK hP [1, 2] rfl (ci := 6) (q0 := 0) rfl rfl rfl) rfl rfl hl.1 rfl (lv_room (Nat.le_of_ble_eq_true rfl)) dX4_readingBehind_16 ⟨Nat.le_of_ble_eq_true rfl, Nat.le_of_ble_eq_true rfl⟩).run (fun r_2 hr_2 => ?_)
        obtain rfl : r_2 = (lN (us x)) := hr_2
        refine lv_lconst (v := lN 0) hx hb dX4_readingBehind_19 rfl ?_
        refine z_lcN_eq hx hb (by have := hus x; omega) (by omega) dX4_readingBehind_20 dX4_readingBehind_21 (tgt := 26) (by decide) (fun c_3 => ?_) (fun c_3 => ?_)
        · refine lv_iinc (v := (nI (x + 1))) (lv' := [(2, .int (nI (x + 1))), (0, .ref h), (1, .int (nI d))]) hx hb dX4_readingBehind_26 hl (k := 2) rfl (nI_add _ _) (by decide) rfl (fun ls hl => ?_)
          refine lv_goto (tgt := 4) hx hb dX4_readingBehind_29 (by decide) ?_
          exact ih4 (x + 1) (by omega) (by omega) (fun y h1 h2 => by by_cases q : y = x; (rw [q]; exact c_3); exact hi4_2 y h1 (by omega)) (by omega) _ (lv_sub hl [1, 2, 0] rfl)
        · refine lv_iload_n hx hb dX4_readingBehind_24 rfl (lv_at hl 2 rfl) ?_
          exact z_rSi hx hb hr hlk dX4_readingBehind_25 (Or.inl ⟨x, rfl, by omega, by omega, c_3, hi4_2⟩)
  exact hloop4 (1000 - (d + 1) + 1) (d + 1) (by omega) (by omega) (fun y h1 h2 => by omega) (by omega) _ (lv_sub hl [1, 2, 0] rfl)
theorem in_X4_spreadOver_X4 : ∀ w ∈ u_ws RX4 TX4 12, w ∈ wsX4_spreadOver := fun _ h => (List.mem_cons_of_mem _ (List.mem_append_left _ (List.mem_append_left _ (List.mem_append_left _ (List.mem_append_right _ h)))))
set_option maxHeartbeats 4000000 in
set_option maxRecDepth 100000 in
theorem c_X4_spreadOver (l : Launch) (G : va_G) (cy : Nat → ClassId) (sz0 : Nat) (h sk dv hv hu hm : Nat) (so sa : Nat) (hw hp hq aw ap aq : Nat) (k fi la tk pc ds : Nat) (dd : Int32) (g w9 p9 q9 : Nat → Nat) (U a b : Nat) (hk : k < 3) (hg : ∀ d, g d ≤ 30) (hab : a ≤ b) (hb9 : b ≤ 1000) (hU : U ≤ 10000000) : Met l yX4_spreadOver wsX4_spreadOver ({ frames := 4, cells := 0, slots := 0, locals := 115 }) (zM G cy [.ref h, .long (lN U), .int (nI a), .int (nI b)] sz0 [zO h 5 [.int (nI k), .int (nI fi), .ref sk, .ref dv, .ref hv, .ref hu, .ref hm, .int (nI la), .int (nI tk), .long (lN pc), .int dd, .int (nI ds)], zO sk 8 [.ref so], zO so 6 [.ref sa], zL cy sa 1000 (fun j9 => lN (g j9)), zO dv 2 [.ref hw, .ref hp, .ref hq], zO hw 6 [.ref aw], zL cy aw 1000 (fun j9 => lN (w9 j9)), zO hp 6 [.ref ap], zL cy ap 1000 (fun j9 => lN (p9 j9)), zO hq 6 [.ref aq], zL cy aq 1000 (fun j9 => lN (q9 j9))]) (va_Qv (fun (u : (Nat → Nat) × (Nat → Nat) × (Nat → Nat)) => ∀ d, a ≤ d → d < b → u.2.1 d = z_pt U (fun j8 => z_wt k (g j8)) a (b - a) d) (fun (u : (Nat → Nat) × (Nat → Nat) × (Nat → Nat)) t9 => zB G cy (va_A [zO h 5 [.int (nI k), .int (nI fi), .ref sk, .ref dv, .ref hv, .ref hu, .ref hm, .int (nI la), .int (nI tk), .long (lN pc), .int dd, .int (nI ds)], zO sk 8 [.ref so], zO so 6 [.ref sa], zL cy sa 1000 (fun j9 => lN (g j9)), zO dv 2 [.ref hw, .ref hp, .ref hq], zO hw 6 [.ref aw], zL cy aw 1000 (fun j9 => lN (w9 j9)), zO hp 6 [.ref ap], zL cy ap 1000 (fun j9 => lN (p9 j9)), zO hq 6 [.ref aq], zL cy aq 1000 (fun j9 => lN (q9 j9))] sz0) [zO h 5 [.int (nI k), .int (nI fi), .ref sk, .ref dv, .ref hv, .ref hu, .ref hm, .int (nI la), .int (nI tk), .long (lN pc), .int dd, .int (nI ds)], zO sk 8 [.ref so], zO so 6 [.ref sa], zL cy sa 1000 (fun j9 => lN (g j9)), zO dv 2 [.ref hw, .ref hp, .ref hq], zO hw 6 [.ref aw], zL cy aw 1000 (fun j9 => lN (u.1 j9)), zO hp 6 [.ref ap], zL cy ap 1000 (fun j9 => lN (u.2.1 j9)), zO hq 6 [.ref aq], zL cy aq 1000 (fun j9 => lN (u.2.2 j9))] t9) (va_A [zO h 5 [.int (nI k), .int (nI fi), .ref sk, .ref dv, .ref hv, .ref hu, .ref hm, .int (nI la), .int (nI tk), .long (lN pc), .int dd, .int (nI ds)], zO sk 8 [.ref so], zO so 6 [.ref sa], zL cy sa 1000 (fun j9 => lN (g j9)), zO dv 2 [.ref hw, .ref hp, .ref hq], zO hw 6 [.ref aw], zL cy aw 1000 (fun j9 => lN (w9 j9)), zO hp 6 [.ref ap], zL cy ap 1000 (fun j9 => lN (p9 j9)), zO hq 6 [.ref aq], zL cy aq 1000 (fun j9 => lN (q9 j9))] sz0)) 0 0 (va_A [zO h 5 [.int (nI k), .int (nI fi), .ref sk, .ref dv, .ref hv, .ref hu, .ref hm, .int (nI la), .int (nI tk), .long (lN pc), .int dd, .int (nI ds)], zO sk 8 [.ref so], zO so 6 [.ref sa], zL cy sa 1000 (fun j9 => lN (g j9)), zO dv 2 [.ref hw, .ref hp, .ref hq], zO hw 6 [.ref aw], zL cy aw 1000 (fun j9 => lN (w9 j9)), zO hp 6 [.ref ap], zL cy ap 1000 (fun j9 => lN (p9 j9)), zO hq 6 [.ref aq], zL cy aq 1000 (fun j9 => lN (q9 j9))] sz0) := by
  refine z_ofM (cc := cX4_spreadOver) (maxL := 6) (ret := none) (Qc := (fun A => va_Qv (fun (u : (Nat → Nat) × (Nat → Nat) × (Nat → Nat)) => ∀ d, a ≤ d → d < b → u.2.1 d = z_pt U (fun j8 => z_wt k (g j8)) a (b - a) d) (fun (u : (Nat → Nat) × (Nat → Nat) × (Nat → Nat)) t9 => zB G cy A [zO h 5 [.int (nI k), .int (nI fi), .ref sk, .ref dv, .ref hv, .ref hu, .ref hm, .int (nI la), .int (nI tk), .long (lN pc), .int dd, .int (nI ds)], zO sk 8 [.ref so], zO so 6 [.ref sa], zL cy sa 1000 (fun j9 => lN (g j9)), zO dv 2 [.ref hw, .ref hp, .ref hq], zO hw 6 [.ref aw], zL cy aw 1000 (fun j9 => lN (u.1 j9)), zO hp 6 [.ref ap], zL cy ap 1000 (fun j9 => lN (u.2.1 j9)), zO hq 6 [.ref aq], zL cy aq 1000 (fun j9 => lN (u.2.2 j9))] t9) A)) (by decide) rfl (Nat.le_of_ble_eq_true rfl) ?_
  intro p e s m below meth c ls A hx hb hml hr hts hown hlk hin hP hK hD hA hS hl hsz0
  have hown : s.vm.findClass RX4 = some m.cls := hown
  have hl : lv_has ls 6 [(0, .ref h), (1, .long (lN U)), (3, .int (nI a)), (4, .int (nI b))] := hl
  refine lv_iload_n hx hb dX4_spreadOver_0 rfl (lv_at hl 2 rfl) ?_
  refine lv_istore (lv' := [(5, .int (nI a)), (0, .ref h), (1, .long (lN U)), (3, .int (nI a)), (4, .int (nI b))]) hx hb dX4_spreadOver_1 hl (by decide) rfl (fun ls hl => ?_)
  have hloop3 : ∀ (fuel3 : Nat) (j : Nat) (ww : Nat → Nat), (a + j ≤ b) → (ww = z_over (fun j8 => z_wt k (g j8)) w9 a j) → (b - a - j) < fuel3 → ∀ (H : Heap) (locs : List Loc), va_P G vwCl [zO h 5 [.int (nI k), .int (nI fi), .ref sk, .ref dv, .ref hv, .ref hu, .ref hm, .int (nI la), .int (nI tk), .long (lN pc), .int dd, .int (nI ds)], zO sk 8 [.ref so], zO so 6 [.ref sa], zL cy sa 1000 (fun j9 => lN (g j9)), zO dv 2 [.ref hw, .ref hp, .ref hq], zO hw 6 [.ref aw], zL cy aw 1000 (fun j9 => lN (ww j9)), zO hp 6 [.ref ap], zL cy ap 1000 (fun j9 => lN (p9 j9)), zO hq 6 [.ref aq], zL cy aq 1000 (fun j9 => lN (q9 j9))] H → va_D A [zO h 5 [.int (nI k), .int (nI fi), .ref sk, .ref dv, .ref hv, .ref hu, .ref hm, .int (nI la), .int (nI tk), .long (lN pc), .int dd, .int (nI ds)], zO sk 8 [.ref so], zO so 6 [.ref sa], zL cy sa 1000 (fun j9 => lN (g j9)), zO dv 2 [.ref hw, .ref hp, .ref hq], zO hw 6 [.ref aw], zL cy aw 1000 (fun j9 => lN (ww j9)), zO hp 6 [.ref ap], zL cy ap 1000 (fun j9 => lN (p9 j9)), zO hq 6 [.ref aq], zL cy aq 1000 (fun j9 => lN (q9 j9))] → va_S A s.heap H locs → ∀ (ls : Array Slot), lv_has ls 6 [(0, .ref h), (1, .long (lN U)), (3, .int (nI a)), (4, .int (nI b)), (5, .int (nI (a + j)))] → W p l e { frames := 4, cells := 0, slots := 0, locals := 115 } s m [.ref h, .long (lN U), .int (nI a), .int (nI b)].toArray below meth c H locs 0 0 (MQ below (va_Qv (fun (u : (Nat → Nat) × (Nat → Nat) × (Nat → Nat)) => ∀ d, a ≤ d → d < b → u.2.1 d = z_pt U (fun j8 => z_wt k (g j8)) a (b - a) d) (fun (u : (Nat → Nat) × (Nat → Nat) × (Nat → Nat)) t9 => zB G cy A [zO h 5 [.int (nI k), .int (nI fi), .ref sk, .ref dv, .ref hv, .ref hu, .ref hm, .int (nI la), .int (nI tk), .long (lN pc), .int dd, .int (nI ds)], zO sk 8 [.ref so], zO so 6 [.ref sa], zL cy sa 1000 (fun j9 => lN (g j9)), zO dv 2 [.ref hw, .ref hp, .ref hq], zO hw 6 [.ref aw], zL cy aw 1000 (fun j9 => lN (u.1 j9)), zO hp 6 [.ref ap], zL cy ap 1000 (fun j9 => lN (u.2.1 j9)), zO hq 6 [.ref aq], zL cy aq 1000 (fun j9 => lN (u.2.2 j9))] t9) A) [.ref h, .long (lN U), .int (nI a), .int (nI b)].toArray s 0 0 A) (F0 m 3 ls []) := by
    intro fuel3
    induction fuel3 with
    | zero =>
      intro j ww hi3_0 hi3_1 hfu3
      exact absurd hfu3 (Nat.not_lt_zero _)
    | succ fuel3 ih3 =>
      intro j ww hi3_0 hi3_1 hfu3 H locs hP hD hS ls hl
      refine lv_iload hx hb dX4_spreadOver_3 (lv_at hl 4 rfl) ?_
      refine lv_iload hx hb dX4_spreadOver_5 (lv_at hl 3 rfl) ?_
      refine z_icmp_ge hx hb (by omega) (by omega) dX4_spreadOver_7 (tgt := 38) (by decide) (fun c_1 => ?_) (fun c_1 => ?_)
      · have hj9 : j = b - a := by omega
        subst hj9
        have hwi : ∀ i, i < b - a → ww (a + i) = z_wt k (g (a + i)) := fun i hi => by rw [hi3_1]; exact z_over_in hi
        have hw7 : ∀ i, a + i < b → ww (a + i) ≤ 95 := fun i hi => by rw [hwi i (by omega)]; exact z_wt_le (hg _)
        have hs7 : z_sm ww a (b - a) ≤ (b - a) * 95 := z_sm_le (fun i hi => hw7 i (by omega))
        refine lv_aload_n hx hb dX4_spreadOver_38 rfl (lv_at hl 0 rfl) ?_
        refine va_get (D := G) (ci := 5) (v := .ref dv) (C := RX4) (T := TX4) (N := 12) hx hb hts in_X4_spreadOver_X4 hown hK hP 0 rfl rfl 3 (by decide) (hts _ (List.mem_of_getElem? (i := 1) (by decide +kernel))) (fun _ h9 => h9) rfl dX4_spreadOver_39 ?_
        refine lv_lload_n hx hb dX4_spreadOver_42 rfl (lv_at hl 1 rfl) ?_
        refine lv_iload_n hx hb dX4_spreadOver_43 rfl (lv_at hl 2 rfl) ?_
        refine lv_iload hx hb dX4_spreadOver_44 (lv_at hl 3 rfl) ?_
        refine z_cv (wc := [zO dv 2 [.ref hw, .ref hp, .ref hq], zO hw 6 [.ref aw], zL cy aw 1000 (fun j9 => lN (ww j9)), zO hp 6 [.ref ap], zL cy ap 1000 (fun j9 => lN (p9 j9)), zO hq 6 [.ref aq], zL cy aq 1000 (fun j9 => lN (q9 j9))]) (va_runV (As := [.long (lN U), .int (nI a), .int (nI b)]) (rest := []) ⟨hx, hb, hml, hown, hts⟩ (c_X1_divide l G cy _ dv hw hp hq aw ap aq 1000 ww p9 q9 U a b (by omega) (by omega) (by omega) (by omega) (by omega) (fun i hi => by have := hw7 i hi; omega) (fun i hi => by have h5 := Nat.mul_le_mul hU (hw7 i hi); omega)) (cwV 3 hts gX4_spreadOver_X1_divide rfl rfl rfl (by decide +kernel) ⟨Nat.le_of_ble_eq_true rfl, Nat.le_of_ble_eq_true rfl⟩) (z_pVM hK hP hD [4, 5, 6, 7, 8, 9, 10] rfl (by decide) (ci := 2) (q0 := 0) rfl rfl rfl) rfl rfl hl.1 rfl (lv_room (Nat.le_of_ble_eq_true rfl)) dX4_spreadOver_46 ⟨Nat.le_of_ble_eq_true rfl, Nat.le_of_ble_eq_true rfl⟩) hP hD hS hA [4, 5, 6, 7, 8, 9, 10] [0, 1, 2, 3] [0, 1, 2, 3, 4, 5, 6, 7, 8, 9, 10] [zO h 5 [.int (nI k), .int (nI fi), .ref sk, .ref dv, .ref hv, .ref hu, .ref hm, .int (nI la), .int (nI tk), .long (lN pc), .int dd, .int (nI ds)], zO sk 8 [.ref so], zO so 6 [.ref sa], zL cy sa 1000 (fun j9 => lN (g j9))] (fun _ => [zO h 5 [.int (nI k), .int (nI fi), .ref sk, .ref dv, .ref hv, .ref hu, .ref hm, .int (nI la), .int (nI tk), .long (lN pc), .int dd, .int (nI ds)], zO sk 8 [.ref so], zO so 6 [.ref sa], zL cy sa 1000 (fun j9 => lN (g j9)), zO dv 2 [.ref hw, .ref hp, .ref hq], zO hw 6 [.ref aw], zL cy aw 1000 (fun j9 => lN (ww j9)), zO hp 6 [.ref ap], zL cy ap 1000 (fun j9 => lN ((z_over (z_pt U ww a (b - a)) p9 a (b - a)) j9)), zO hq 6 [.ref aq], zL cy aq 1000 (fun j9 => lN ((z_over (z_rs U ww (z_sm ww a (b - a))) q9 a (b - a)) j9))]) rfl rfl (by decide) (fun _ => rfl) (fun u H locs hr_2 hQ hD hS hz => ?_)
        have hP : va_P G vwCl [zO h 5 [.int (nI k), .int (nI fi), .ref sk, .ref dv, .ref hv, .ref hu, .ref hm, .int (nI la), .int (nI tk), .long (lN pc), .int dd, .int (nI ds)], zO sk 8 [.ref so], zO so 6 [.ref sa], zL cy sa 1000 (fun j9 => lN (g j9)), zO dv 2 [.ref hw, .ref hp, .ref hq], zO hw 6 [.ref aw], zL cy aw 1000 (fun j9 => lN (ww j9)), zO hp 6 [.ref ap], zL cy ap 1000 (fun j9 => lN ((z_over (z_pt U ww a (b - a)) p9 a (b - a)) j9)), zO hq 6 [.ref aq], zL cy aq 1000 (fun j9 => lN ((z_over (z_rs U ww (z_sm ww a (b - a))) q9 a (b - a)) j9))] H := hQ
        have hD : va_D A [zO h 5 [.int (nI k), .int (nI fi), .ref sk, .ref dv, .ref hv, .ref hu, .ref hm, .int (nI la), .int (nI tk), .long (lN pc), .int dd, .int (nI ds)], zO sk 8 [.ref so], zO so 6 [.ref sa], zL cy sa 1000 (fun j9 => lN (g j9)), zO dv 2 [.ref hw, .ref hp, .ref hq], zO hw 6 [.ref aw], zL cy aw 1000 (fun j9 => lN (ww j9)), zO hp 6 [.ref ap], zL cy ap 1000 (fun j9 => lN ((z_over (z_pt U ww a (b - a)) p9 a (b - a)) j9)), zO hq 6 [.ref aq], zL cy aq 1000 (fun j9 => lN ((z_over (z_rs U ww (z_sm ww a (b - a))) q9 a (b - a)) j9))] := hD
        clear hQ
        exact z_rMv hx hb hr hlk dX4_spreadOver_49 (ww, (z_over (z_pt U ww a (b - a)) p9 a (b - a)), (z_over (z_rs U ww (z_sm ww a (b - a))) q9 a (b - a))) (fun d h1 h2 => by show z_over _ _ _ _ d = _; rw [z_over, if_pos (by omega)]; exact z_pt_cong (fun i hi => hwi i hi) h1 (by omega)) hP hD hK hS (Nat.le_of_ble_eq_true rfl) (Nat.le_of_ble_eq_true rfl)
      · refine lv_aload_n hx hb dX4_spreadOver_10 rfl (lv_at hl 0 rfl) ?_
        refine va_get (D := G) (ci := 5) (v := .ref dv) (C := RX4) (T := TX4) (N := 12) hx hb hts in_X4_spreadOver_X4 hown hK hP 0 rfl rfl 3 (by decide) (hts _ (List.mem_of_getElem? (i := 1) (by decide +kernel))) (fun _ h9 => h9) rfl dX4_spreadOver_11 ?_
        refine lv_iload hx hb dX4_spreadOver_14 (lv_at hl 4 rfl) ?_
        refine lv_aload_n hx hb dX4_spreadOver_16 rfl (lv_at hl 0 rfl) ?_
        refine va_get (D := G) (ci := 5) (v := .ref sk) (C := RX4) (T := TX4) (N := 12) hx hb hts in_X4_spreadOver_X4 hown hK hP 0 rfl rfl 2 (by decide) (hts _ (List.mem_of_getElem? (i := 2) (by decide +kernel))) (fun _ h9 => h9) rfl dX4_spreadOver_17 ?_
        refine lv_aload_n hx hb dX4_spreadOver_20 rfl (lv_at hl 0 rfl) ?_
        refine va_get (D := G) (ci := 5) (v := .int (nI k)) (C := RX4) (T := TX4) (N := 12) hx hb hts in_X4_spreadOver_X4 hown hK hP 0 rfl rfl 0 (by decide) (hts _ (List.mem_of_getElem? (i := 3) (by decide +kernel))) (fun _ h9 => h9) rfl dX4_spreadOver_21 ?_
        refine lv_iload hx hb dX4_spreadOver_24 (lv_at hl 4 rfl) ?_
        refine vp_callSl (va_runV (As := [.int (nI k), .int (nI (a + j))]) (rest := [.int (nI (a + j)), .ref dv]) ⟨hx, hb, hml, hown, hts⟩ (c_X7_weight l G cy sk so sa g k (a + j) (by omega) (by omega)) (cwV 2 hts gX4_spreadOver_X7_weight rfl rfl rfl (by decide +kernel) ⟨Nat.le_of_ble_eq_true rfl, Nat.le_of_ble_eq_true rfl⟩) (z_pV hK hP [1, 2, 3] rfl (ci := 8) (q0 := 0) rfl rfl rfl) rfl rfl hl.1 rfl (lv_room (Nat.le_of_ble_eq_true rfl)) dX4_spreadOver_26 ⟨Nat.le_of_ble_eq_true rfl, Nat.le_of_ble_eq_true rfl⟩).run (fun r_3 hr_3 => ?_)
        obtain rfl : r_3 = (lN (z_wt k (g (a + j)))) := hr_3
        refine z_cv (wc := [zO dv 2 [.ref hw, .ref hp, .ref hq], zO hw 6 [.ref aw], zL cy aw 1000 (fun j9 => lN (ww j9))]) (va_runV (As := [.int (nI (a + j)), .long (lN (z_wt k (g (a + j))))]) (rest := []) ⟨hx, hb, hml, hown, hts⟩ (c_X1_setWeight l G cy _ dv hw hp hq aw 1000 ww (a + j) (z_wt k (g (a + j))) (by omega) (by omega)) (cwV 2 hts gX4_spreadOver_X1_setWeight rfl rfl rfl (by decide +kernel) ⟨Nat.le_of_ble_eq_true rfl, Nat.le_of_ble_eq_true rfl⟩) (z_pVM hK hP hD [4, 5, 6] rfl (by decide) (ci := 2) (q0 := 0) rfl rfl rfl) rfl rfl hl.1 rfl (lv_room (Nat.le_of_ble_eq_true rfl)) dX4_spreadOver_29 ⟨Nat.le_of_ble_eq_true rfl, Nat.le_of_ble_eq_true rfl⟩) hP hD hS hA [4, 5, 6] [0, 1, 2, 3, 7, 8, 9, 10] [0, 1, 2, 3, 8, 9, 10, 4, 5, 6, 7] [zO h 5 [.int (nI k), .int (nI fi), .ref sk, .ref dv, .ref hv, .ref hu, .ref hm, .int (nI la), .int (nI tk), .long (lN pc), .int dd, .int (nI ds)], zO sk 8 [.ref so], zO so 6 [.ref sa], zL cy sa 1000 (fun j9 => lN (g j9)), zO hp 6 [.ref ap], zL cy ap 1000 (fun j9 => lN (p9 j9)), zO hq 6 [.ref aq], zL cy aq 1000 (fun j9 => lN (q9 j9))] (fun _ => [zO h 5 [.int (nI k), .int (nI fi), .ref sk, .ref dv, .ref hv, .ref hu, .ref hm, .int (nI la), .int (nI tk), .long (lN pc), .int dd, .int (nI ds)], zO sk 8 [.ref so], zO so 6 [.ref sa], zL cy sa 1000 (fun j9 => lN (g j9)), zO dv 2 [.ref hw, .ref hp, .ref hq], zO hw 6 [.ref aw], zL cy aw 1000 (fun j9 => lN ((va_up ww (a + j) (z_wt k (g (a + j)))) j9)), zO hp 6 [.ref ap], zL cy ap 1000 (fun j9 => lN (p9 j9)), zO hq 6 [.ref aq], zL cy aq 1000 (fun j9 => lN (q9 j9))]) rfl rfl (by decide) (fun _ => rfl) (fun u H locs hr_4 hQ hD hS hz => ?_)
        have hP : va_P G vwCl [zO h 5 [.int (nI k), .int (nI fi), .ref sk, .ref dv, .ref hv, .ref hu, .ref hm, .int (nI la), .int (nI tk), .long (lN pc), .int dd, .int (nI ds)], zO sk 8 [.ref so], zO so 6 [.ref sa], zL cy sa 1000 (fun j9 => lN (g j9)), zO dv 2 [.ref hw, .ref hp, .ref hq], zO hw 6 [.ref aw], zL cy aw 1000 (fun j9 => lN ((va_up ww (a + j) (z_wt k (g (a + j)))) j9)), zO hp 6 [.ref ap], zL cy ap 1000 (fun j9 => lN (p9 j9)), zO hq 6 [.ref aq], zL cy aq 1000 (fun j9 => lN (q9 j9))] H := hQ
        have hD : va_D A [zO h 5 [.int (nI k), .int (nI fi), .ref sk, .ref dv, .ref hv, .ref hu, .ref hm, .int (nI la), .int (nI tk), .long (lN pc), .int dd, .int (nI ds)], zO sk 8 [.ref so], zO so 6 [.ref sa], zL cy sa 1000 (fun j9 => lN (g j9)), zO dv 2 [.ref hw, .ref hp, .ref hq], zO hw 6 [.ref aw], zL cy aw 1000 (fun j9 => lN ((va_up ww (a + j) (z_wt k (g (a + j)))) j9)), zO hp 6 [.ref ap], zL cy ap 1000 (fun j9 => lN (p9 j9)), zO hq 6 [.ref aq], zL cy aq 1000 (fun j9 => lN (q9 j9))] := hD
        clear hQ
        refine lv_iinc (v := (nI (a + j + 1))) (lv' := [(5, .int (nI (a + j + 1))), (0, .ref h), (1, .long (lN U)), (3, .int (nI a)), (4, .int (nI b))]) hx hb dX4_spreadOver_32 hl (k := 4) rfl (nI_add _ _) (by decide) rfl (fun ls hl => ?_)
        refine lv_goto (tgt := 3) hx hb dX4_spreadOver_35 (by decide) ?_
        exact ih3 (j + 1) (va_up ww (a + j) (z_wt k (g (a + j)))) (by omega) (by rw [hi3_1]; exact z_over_up rfl) (by omega) _ _ hP hD hS _ (lv_sub hl [1, 2, 3, 4, 0] rfl)
  exact hloop3 (b - a - 0 + 1) 0 w9 (by omega) (z_over_0.symm) (by omega) _ _ hP hD hS _ (lv_sub hl [1, 2, 3, 4, 0] rfl)
