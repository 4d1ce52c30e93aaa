theorem in_X8_init_X5 : ∀ w ∈ u_ws RX5 TX5 1, w ∈ wsX8_init := fun _ h => (List.mem_cons_of_mem _ (List.mem_append_left _ (List.mem_append_right _ h)))
theorem in_X8_init_X8 : ∀ w ∈ u_ws RX8 TX8 4, w ∈ wsX8_init := fun _ h => (List.mem_cons_of_mem _ (List.mem_append_right _ h))
set_option maxHeartbeats 4000000 in
set_option maxRecDepth 100000 in
theorem c_X8_init (l : Launch) (G : va_G) (cy : Nat → ClassId) (sz0 : Nat) (h fi sp : Nat) (hf : fi < 1000) (hsp : sp < 4) : Met l yX8_init wsX8_init ({ frames := 2, cells := 2, slots := 1001, locals := 33 }) (zM G cy [.ref h, .int (nI fi), .int (nI sp)] sz0 [zO h 9 [.null, .int (nI 0), .int (nI 0), .int (nI 0)]]) (va_Qv (fun (_ : Nat × Nat) => True) (fun (u : Nat × Nat) t9 => zB G cy (va_A [zO h 9 [.null, .int (nI 0), .int (nI 0), .int (nI 0)]] sz0) [zO h 9 [.ref u.1, .int (-1), .int (nI 0), .int (-1)], zO u.1 6 [.ref u.2], zL cy u.2 1000 (fun j9 => lN ((va_up (fun _ => 0) fi sp) j9))] t9) (va_A [zO h 9 [.null, .int (nI 0), .int (nI 0), .int (nI 0)]] sz0)) 2 1001 (va_A [zO h 9 [.null, .int (nI 0), .int (nI 0), .int (nI 0)]] sz0) := by
  refine z_ofM (cc := cX8_init) (maxL := 3) (ret := none) (Qc := (fun A => va_Qv (fun (_ : Nat × Nat) => True) (fun (u : Nat × Nat) t9 => zB G cy A [zO h 9 [.ref u.1, .int (-1), .int (nI 0), .int (-1)], zO u.1 6 [.ref u.2], zL cy u.2 1000 (fun j9 => lN ((va_up (fun _ => 0) fi sp) j9))] t9) A)) (by decide) rfl (Nat.le_of_ble_eq_true rfl) ?_
  intro p e s m below meth c ls A hx hb hml hr hts hown hlk hin hP hK hD hA hS hl hsz0
  have hown : s.vm.findClass RX8 = some m.cls := hown
  have hl : lv_has ls 3 [(0, .ref h), (1, .int (nI fi)), (2, .int (nI sp))] := hl
  have hin : meth.name = "<init>" := hin
  refine lv_aload_n hx hb dX8_init_0 rfl (lv_at hl 0 rfl) ?_
  refine W.objInit hx hb hown (hts _ (List.mem_of_getElem? (i := 1) (by decide +kernel))) (hts _ (List.mem_of_getElem? (i := 2) (by decide +kernel))) (hts _ (List.mem_of_getElem? (i := 3) (by decide +kernel))) rfl (by rw [hml]; exact hl.1) rfl dX8_init_1 (Nat.le_of_ble_eq_true rfl) (Nat.le_of_ble_eq_true rfl) ?_
  refine W.eq (g2 := F0 m 4 ls []) rfl ?_
  refine lv_aload_n hx hb dX8_init_4 rfl (lv_at hl 0 rfl) ?_
  refine va_new (ci := 6) (fs := [.null]) (C := RX5) (T := TX5) (N := 1) hx hb hts in_X8_init_X5 tyX5 tyX5_ok hown (hts _ (List.mem_of_getElem? (i := 4) (by decide +kernel))) (hts _ (List.mem_of_getElem? (i := 5) (by decide +kernel))) (hts _ (List.mem_of_getElem? (i := 6) (by decide +kernel))) hK hP hD hS hA rfl (nwf_X5) (Nat.le_of_ble_eq_true rfl) (Nat.le_of_ble_eq_true rfl) dX8_init_5 (fun q_1 H hP hD hS => ?_)
  have hP : va_P G vwCl [zO h 9 [.null, .int (nI 0), .int (nI 0), .int (nI 0)], zO q_1 6 [.null]] H := hP
  have hD : va_D A [zO h 9 [.null, .int (nI 0), .int (nI 0), .int (nI 0)], zO q_1 6 [.null]] := hD
  refine lv_dup hx hb dX8_init_8 rfl ?_
  refine lv_sipush (v := nI 1000) hx hb dX8_init_9 (by decide) ?_
  refine z_cv (wc := [zO q_1 6 [.null]]) (va_runI (As := [.int (nI 1000)]) (rest := [.ref q_1, .ref h]) ⟨hx, hb, hml, hown, hts⟩ (c_X5_init l G cy _ q_1 1000 (by omega) (by omega)) (cwI 1 hts gX8_init_X5_init rfl rfl rfl (hts _ (List.mem_of_getElem? (i := 6) (by decide +kernel))) (hts _ (List.mem_of_getElem? (i := 11) (by decide +kernel))) (hts _ (List.mem_of_getElem? (i := 12) (by decide +kernel))) rfl (by decide +kernel) ⟨Nat.le_of_ble_eq_true rfl, Nat.le_of_ble_eq_true rfl⟩) (z_pSM hK hP hD [1] rfl (by decide)) rfl rfl hl.1 rfl (lv_room (Nat.le_of_ble_eq_true rfl)) dX8_init_12 ⟨Nat.le_of_ble_eq_true rfl, Nat.le_of_ble_eq_true rfl⟩) hP hD hS hA [1] [0] [0, 1, 2] [zO h 9 [.null, .int (nI 0), .int (nI 0), .int (nI 0)]] (fun (u : Nat) => [zO h 9 [.null, .int (nI 0), .int (nI 0), .int (nI 0)], zO q_1 6 [.ref u], zL cy u 1000 (fun j9 => lN ((fun _ => 0) j9))]) rfl rfl (by decide) (fun _ => rfl) (fun u H locs hr_2 hQ hD hS hz => ?_)
  obtain ⟨qa_3, rfl⟩ : ∃ z, z = u := ⟨_, rfl⟩
  try dsimp only at hr_2
  have hP : va_P G vwCl [zO h 9 [.null, .int (nI 0), .int (nI 0), .int (nI 0)], zO q_1 6 [.ref qa_3], zL cy qa_3 1000 (fun j9 => lN ((fun _ => 0) j9))] H := hQ
  have hD : va_D A [zO h 9 [.null, .int (nI 0), .int (nI 0), .int (nI 0)], zO q_1 6 [.ref qa_3], zL cy qa_3 1000 (fun j9 => lN ((fun _ => 0) j9))] := hD
  clear hQ
  refine va_putF (D := G) (ci := 9) (v := .ref q_1) (ty := (.object "MeterHouse$Row")) (C := RX8) (T := TX8) (N := 4) hx hb hts in_X8_init_X8 tyX8 tyX8_ok nmX8 hown hK hP hD hS 0 rfl rfl 0 (by decide) (hts _ (List.mem_of_getElem? (i := 7) (by decide +kernel))) (fun _ h9 => h9) rfl hin rfl (by decide +kernel) rfl rfl (Nat.le_of_ble_eq_true rfl) dX8_init_15 (fun H locs hP hD hS => ?_)
  have hP : va_P G vwCl [zO h 9 [.ref q_1, .int (nI 0), .int (nI 0), .int (nI 0)], zO q_1 6 [.ref qa_3], zL cy qa_3 1000 (fun j9 => lN ((fun _ => 0) j9))] H := hP
  have hD : va_D A [zO h 9 [.ref q_1, .int (nI 0), .int (nI 0), .int (nI 0)], zO q_1 6 [.ref qa_3], zL cy qa_3 1000 (fun j9 => lN ((fun _ => 0) j9))] := hD
  refine lv_aload_n hx hb dX8_init_18 rfl (lv_at hl 0 rfl) ?_
  refine lv_iconst (v := (-1)) hx hb dX8_init_19 (by decide) ?_
  refine va_put (D := G) (ci := 9) (v := .int (-1)) (ty := .int) (C := RX8) (T := TX8) (N := 4) hx hb hts in_X8_init_X8 tyX8 tyX8_ok nmX8 hown hK hP hD hS 0 rfl rfl 1 (by decide) (hts _ (List.mem_of_getElem? (i := 8) (by decide +kernel))) (fun _ h9 => h9) rfl (by decide +kernel) rfl rfl (Nat.le_of_ble_eq_true rfl) dX8_init_20 (fun H locs hP hD hS => ?_)
  have hP : va_P G vwCl [zO h 9 [.ref q_1, .int (-1), .int (nI 0), .int (nI 0)], zO q_1 6 [.ref qa_3], zL cy qa_3 1000 (fun j9 => lN ((fun _ => 0) j9))] H := hP
  have hD : va_D A [zO h 9 [.ref q_1, .int (-1), .int (nI 0), .int (nI 0)], zO q_1 6 [.ref qa_3], zL cy qa_3 1000 (fun j9 => lN ((fun _ => 0) j9))] := hD
  refine lv_aload_n hx hb dX8_init_23 rfl (lv_at hl 0 rfl) ?_
  refine lv_iconst (v := nI 0) hx hb dX8_init_24 (by decide) ?_
  refine va_put (D := G) (ci := 9) (v := .int (nI 0)) (ty := .int) (C := RX8) (T := TX8) (N := 4) hx hb hts in_X8_init_X8 tyX8 tyX8_ok nmX8 hown hK hP hD hS 0 rfl rfl 2 (by decide) (hts _ (List.mem_of_getElem? (i := 9) (by decide +kernel))) (fun _ h9 => h9) rfl (by decide +kernel) rfl rfl (Nat.le_of_ble_eq_true rfl) dX8_init_25 (fun H locs hP hD hS => ?_)
  have hP : va_P G vwCl [zO h 9 [.ref q_1, .int (-1), .int (nI 0), .int (nI 0)], zO q_1 6 [.ref qa_3], zL cy qa_3 1000 (fun j9 => lN ((fun _ => 0) j9))] H := hP
  have hD : va_D A [zO h 9 [.ref q_1, .int (-1), .int (nI 0), .int (nI 0)], zO q_1 6 [.ref qa_3], zL cy qa_3 1000 (fun j9 => lN ((fun _ => 0) j9))] := hD
  refine lv_aload_n hx hb dX8_init_28 rfl (lv_at hl 0 rfl) ?_
  refine lv_iconst (v := (-1)) hx hb dX8_init_29 (by decide) ?_
  refine va_put (D := G) (ci := 9) (v := .int (-1)) (ty := .int) (C := RX8) (T := TX8) (N := 4) hx hb hts in_X8_init_X8 tyX8 tyX8_ok nmX8 hown hK hP hD hS 0 rfl rfl 3 (by decide) (hts _ (List.mem_of_getElem? (i := 10) (by decide +kernel))) (fun _ h9 => h9) rfl (by decide +kernel) rfl rfl (Nat.le_of_ble_eq_true rfl) dX8_init_30 (fun H locs hP hD hS => ?_)
  have hP : va_P G vwCl [zO h 9 [.ref q_1, .int (-1), .int (nI 0), .int (-1)], zO q_1 6 [.ref qa_3], zL cy qa_3 1000 (fun j9 => lN ((fun _ => 0) j9))] H := hP
  have hD : va_D A [zO h 9 [.ref q_1, .int (-1), .int (nI 0), .int (-1)], zO q_1 6 [.ref qa_3], zL cy qa_3 1000 (fun j9 => lN ((fun _ => 0) j9))] := hD
  refine lv_aload_n hx hb dX8_init_33 rfl (lv_at hl 0 rfl) ?_
  refine va_get (D := G) (ci := 9) (v := .ref q_1) (C := RX8) (T := TX8) (N := 4) hx hb hts in_X8_init_X8 hown hK hP 0 rfl rfl 0 (by decide) (hts _ (List.mem_of_getElem? (i := 7) (by decide +kernel))) (fun _ h9 => h9) rfl dX8_init_34 ?_
  refine lv_iload_n hx hb dX8_init_37 rfl (lv_at hl 1 rfl) ?_
  refine lv_iload_n hx hb dX8_init_38 rfl (lv_at hl 2 rfl) ?_
  refine z_i2l hx hb (by omega) dX8_init_39 ?_
  refine z_cv (wc := [zO q_1 6 [.ref qa_3], zL cy qa_3 1000 (fun j9 => lN ((fun _ => 0) j9))]) (va_runV (As := [.int (nI fi), .long (lN sp)]) (rest := []) ⟨hx, hb, hml, hown, hts⟩ (c_X5_setN l G cy _ q_1 qa_3 1000 (fun _ => 0) fi sp (by omega) (by omega)) (cwV 2 hts gX8_init_X5_set rfl rfl rfl (by decide +kernel) ⟨Nat.le_of_ble_eq_true rfl, Nat.le_of_ble_eq_true rfl⟩) (z_pVM hK hP hD [1, 2] rfl (by decide) (ci := 6) (q0 := 0) rfl rfl rfl) rfl rfl hl.1 rfl (lv_room (Nat.le_of_ble_eq_true rfl)) dX8_init_40 ⟨Nat.le_of_ble_eq_true rfl, Nat.le_of_ble_eq_true rfl⟩) hP hD hS hA [1, 2] [0] [0, 1, 2] [zO h 9 [.ref q_1, .int (-1), .int (nI 0), .int (-1)]] (fun _ => [zO h 9 [.ref q_1, .int (-1), .int (nI 0), .int (-1)], zO q_1 6 [.ref qa_3], zL cy qa_3 1000 (fun j9 => lN ((va_up (fun _ => 0) fi sp) j9))]) rfl rfl (by decide) (fun _ => rfl) (fun u H locs hr_4 hQ hD hS hz => ?_)
  have hP : va_P G vwCl [zO h 9 [.ref q_1, .int (-1), .int (nI 0), .int (-1)], zO q_1 6 [.ref qa_3], zL cy qa_3 1000 (fun j9 => lN ((va_up (fun _ => 0) fi sp) j9))] H := hQ
  have hD : va_D A [zO h 9 [.ref q_1, .int (-1), .int (nI 0), .int (-1)], zO q_1 6 [.ref qa_3], zL cy qa_3 1000 (fun j9 => lN ((va_up (fun _ => 0) fi sp) j9))] := hD
  clear hQ
  exact z_rMv hx hb hr hlk dX8_init_43 (q_1, qa_3) (trivial) hP hD hK hS (Nat.le_of_ble_eq_true rfl) (Nat.le_of_ble_eq_true rfl)
theorem in_X8_holderOn_X8 : ∀ w ∈ u_ws RX8 TX8 4, w ∈ wsX8_holderOn := fun _ h => (List.mem_cons_of_mem _ (List.mem_append_left _ (List.mem_append_right _ h)))
set_option maxHeartbeats 4000000 in
set_option maxRecDepth 100000 in
theorem c_X8_holderOn (l : Launch) (G : va_G) (cy : Nat → ClassId) (h ho ha : Nat) (g : Nat → Nat) (td md : Int32) (ts : Nat) (i : Nat) (hi : i < 1000) : Met l yX8_holderOn wsX8_holderOn ({ frames := 1, cells := 0, slots := 0, locals := 21 }) (zS G cy [.ref h, .int (nI i)] [zO h 9 [.ref ho, .int td, .int (nI ts), .int md], zO ho 6 [.ref ha], zL cy ha 1000 (fun j9 => lN (g j9))]) (vp_Si (fun r => r = (nI (g i)))) 0 0 (fun _ => False) := by
  refine z_ofS (cc := cX8_holderOn) (maxL := 2) (ret := (some .int)) (by decide) rfl (Nat.le_of_ble_eq_true rfl) ?_
  intro p e s m below meth c ls hx hb hml hr hts hown hlk hP hK hl
  have hown : s.vm.findClass RX8 = some m.cls := hown
  have hl : lv_has ls 2 [(0, .ref h), (1, .int (nI i))] := hl
  refine lv_aload_n hx hb dX8_holderOn_0 rfl (lv_at hl 0 rfl) ?_
  refine va_get (D := G) (ci := 9) (v := .ref ho) (C := RX8) (T := TX8) (N := 4) hx hb hts in_X8_holderOn_X8 hown hK hP 0 rfl rfl 0 (by decide) (hts _ (List.mem_of_getElem? (i := 1) (by decide +kernel))) (fun _ h9 => h9) rfl dX8_holderOn_1 ?_
  refine lv_iload_n hx hb dX8_holderOn_4 rfl (lv_at hl 1 rfl) ?_
  refine vp_callSl (va_runV (As := [.int (nI i)]) (rest := []) ⟨hx, hb, hml, hown, hts⟩ (c_X5_getN l G cy ho ha 1000 g i (by omega) (by omega)) (cwV 1 hts gX8_holderOn_X5_get rfl rfl rfl (by decide +kernel) ⟨Nat.le_of_ble_eq_true rfl, Nat.le_of_ble_eq_true rfl⟩) (z_pV hK hP [1, 2] rfl (ci := 6) (q0 := 0) rfl rfl rfl) rfl rfl hl.1 rfl (lv_room (Nat.le_of_ble_eq_true rfl)) dX8_holderOn_5 ⟨Nat.le_of_ble_eq_true rfl, Nat.le_of_ble_eq_true rfl⟩).run (fun r_1 hr_1 => ?_)
  obtain rfl : r_1 = (lN (g i)) := hr_1
  refine z_l2i hx hb dX8_holderOn_8 ?_
  exact z_rSi hx hb hr hlk dX8_holderOn_9 (rfl)
theorem in_X8_toldDay_X8 : ∀ w ∈ u_ws RX8 TX8 4, w ∈ wsX8_toldDay := fun _ h => (List.mem_cons_of_mem _ (List.mem_append_right _ h))
set_option maxHeartbeats 4000000 in
set_option maxRecDepth 100000 in
theorem c_X8_toldDay (l : Launch) (G : va_G) (cy : Nat → ClassId) (h ho : Nat) (td md : Int32) (ts : Nat) : Met l yX8_toldDay wsX8_toldDay ({ frames := 0, cells := 0, slots := 0, locals := 0 }) (zS G cy [.ref h] [zO h 9 [.ref ho, .int td, .int (nI ts), .int md]]) (vp_Si (fun r => r = td)) 0 0 (fun _ => False) := by
  refine z_ofS (cc := cX8_toldDay) (maxL := 1) (ret := (some .int)) (by decide) rfl (Nat.le_of_ble_eq_true rfl) ?_
  intro p e s m below meth c ls hx hb hml hr hts hown hlk hP hK hl
  have hown : s.vm.findClass RX8 = some m.cls := hown
  have hl : lv_has ls 1 [(0, .ref h)] := hl
  refine lv_aload_n hx hb dX8_toldDay_0 rfl (lv_at hl 0 rfl) ?_
  refine va_get (D := G) (ci := 9) (v := .int td) (C := RX8) (T := TX8) (N := 4) hx hb hts in_X8_toldDay_X8 hown hK hP 0 rfl rfl 1 (by decide) (hts _ (List.mem_of_getElem? (i := 1) (by decide +kernel))) (fun _ h9 => h9) rfl dX8_toldDay_1 ?_
  exact z_rSi hx hb hr hlk dX8_toldDay_4 (rfl)
theorem in_X8_tell_X8 : ∀ w ∈ u_ws RX8 TX8 4, w ∈ wsX8_tell := fun _ h => (List.mem_cons_of_mem _ (List.mem_append_right _ h))
set_option maxHeartbeats 4000000 in
set_option maxRecDepth 100000 in
theorem c_X8_tell (l : Launch) (G : va_G) (cy : Nat → ClassId) (sz0 : Nat) (h ho : Nat) (td md : Int32) (ts : Nat) (d sp : Nat) : Met l yX8_tell wsX8_tell ({ frames := 0, cells := 0, slots := 0, locals := 0 }) (zM G cy [.ref h, .int (nI d), .int (nI sp)] sz0 [zO h 9 [.ref ho, .int td, .int (nI ts), .int md]]) (va_Qv (fun (_ : Unit) => True) (fun (u : Unit) t9 => zB G cy (va_A [zO h 9 [.ref ho, .int td, .int (nI ts), .int md]] sz0) [zO h 9 [.ref ho, .int (nI d), .int (nI sp), .int md]] t9) (va_A [zO h 9 [.ref ho, .int td, .int (nI ts), .int md]] sz0)) 0 0 (va_A [zO h 9 [.ref ho, .int td, .int (nI ts), .int md]] sz0) := by
  refine z_ofM (cc := cX8_tell) (maxL := 3) (ret := none) (Qc := (fun A => va_Qv (fun (_ : Unit) => True) (fun (u : Unit) t9 => zB G cy A [zO h 9 [.ref ho, .int (nI d), .int (nI sp), .int md]] t9) A)) (by decide) rfl (Nat.le_of_ble_eq_true rfl) ?_
  intro p e s m below meth c ls A hx hb hml hr hts hown hlk hin hP hK hD hA hS hl hsz0
  have hown : s.vm.findClass RX8 = some m.cls := hown
  have hl : lv_has ls 3 [(0, .ref h), (1, .int (nI d)), (2, .int (nI sp))] := hl
  refine lv_aload_n hx hb dX8_tell_0 rfl (lv_at hl 0 rfl) ?_
  refine lv_iload_n hx hb dX8_tell_1 rfl (lv_at hl 1 rfl) ?_
  refine va_put (D := G) (ci := 9) (v := .int (nI d)) (ty := .int) (C := RX8) (T := TX8) (N := 4) hx hb hts in_X8_tell_X8 tyX8 tyX8_ok nmX8 hown hK hP hD hS 0 rfl rfl 1 (by decide) (hts _ (List.mem_of_getElem? (i := 1) (by decide +kernel))) (fun _ h9 => h9) rfl (by decide +kernel) rfl rfl (Nat.le_of_ble_eq_true rfl) dX8_tell_2 (fun H locs hP hD hS => ?_)
  have hP : va_P G vwCl [zO h 9 [.ref ho, .int (nI d), .int (nI ts), .int md]] H := hP
  have hD : va_D A [zO h 9 [.ref ho, .int (nI d), .int (nI ts), .int md]] := hD
  refine lv_aload_n hx hb dX8_tell_5 rfl (lv_at hl 0 rfl) ?_
  refine lv_iload_n hx hb dX8_tell_6 rfl (lv_at hl 2 rfl) ?_
  refine va_put (D := G) (ci := 9) (v := .int (nI sp)) (ty := .int) (C := RX8) (T := TX8) (N := 4) hx hb hts in_X8_tell_X8 tyX8 tyX8_ok nmX8 hown hK hP hD hS 0 rfl rfl 2 (by decide) (hts _ (List.mem_of_getElem? (i := 2) (by decide +kernel))) (fun _ h9 => h9) rfl (by decide +kernel) rfl rfl (Nat.le_of_ble_eq_true rfl) dX8_tell_7 (fun H locs hP hD hS => ?_)
  have hP : va_P G vwCl [zO h 9 [.ref ho, .int (nI d), .int (nI sp), .int md]] H := hP
  have hD : va_D A [zO h 9 [.ref ho, .int (nI d), .int (nI sp), .int md]] := hD
  exact z_rMv hx hb hr hlk dX8_tell_10 () (trivial) hP hD hK hS (Nat.le_of_ble_eq_true rfl) (Nat.le_of_ble_eq_true rfl)
theorem in_X8_drop_X8 : ∀ w ∈ u_ws RX8 TX8 4, w ∈ wsX8_drop := fun _ h => (List.mem_cons_of_mem _ (List.mem_append_right _ h))
set_option maxHeartbeats 4000000 in
set_option maxRecDepth 100000 in
theorem c_X8_drop (l : Launch) (G : va_G) (cy : Nat → ClassId) (sz0 : Nat) (h ho : Nat) (td md : Int32) (ts : Nat) : Met l yX8_drop wsX8_drop ({ frames := 0, cells := 0, slots := 0, locals := 0 }) (zM G cy [.ref h] sz0 [zO h 9 [.ref ho, .int td, .int (nI ts), .int md]]) (va_Qi (fun (r : Int32) (_ : Unit) => r = td) (fun (u : Unit) t9 => zB G cy (va_A [zO h 9 [.ref ho, .int td, .int (nI ts), .int md]] sz0) [zO h 9 [.ref ho, .int (-1), .int (nI ts), .int md]] t9) (va_A [zO h 9 [.ref ho, .int td, .int (nI ts), .int md]] sz0)) 0 0 (va_A [zO h 9 [.ref ho, .int td, .int (nI ts), .int md]] sz0) := by
  refine z_ofM (cc := cX8_drop) (maxL := 2) (ret := (some .int)) (Qc := (fun A => va_Qi (fun (r : Int32) (_ : Unit) => r = td) (fun (u : Unit) t9 => zB G cy A [zO h 9 [.ref ho, .int (-1), .int (nI ts), .int md]] t9) A)) (by decide) rfl (Nat.le_of_ble_eq_true rfl) ?_
  intro p e s m below meth c ls A hx hb hml hr hts hown hlk hin hP hK hD hA hS hl hsz0
  have hown : s.vm.findClass RX8 = some m.cls := hown
  have hl : lv_has ls 2 [(0, .ref h)] := hl
  refine lv_aload_n hx hb dX8_drop_0 rfl (lv_at hl 0 rfl) ?_
  refine va_get (D := G) (ci := 9) (v := .int td) (C := RX8) (T := TX8) (N := 4) hx hb hts in_X8_drop_X8 hown hK hP 0 rfl rfl 1 (by decide) (hts _ (List.mem_of_getElem? (i := 1) (by decide +kernel))) (fun _ h9 => h9) rfl dX8_drop_1 ?_
  refine lv_istore_n (lv' := [(1, .int td), (0, .ref h)]) hx hb dX8_drop_4 rfl hl (by decide) rfl (fun ls hl => ?_)
  refine lv_aload_n hx hb dX8_drop_5 rfl (lv_at hl 1 rfl) ?_
  refine lv_iconst (v := (-1)) hx hb dX8_drop_6 (by decide) ?_
  refine va_put (D := G) (ci := 9) (v := .int (-1)) (ty := .int) (C := RX8) (T := TX8) (N := 4) hx hb hts in_X8_drop_X8 tyX8 tyX8_ok nmX8 hown hK hP hD hS 0 rfl rfl 1 (by decide) (hts _ (List.mem_of_getElem? (i := 1) (by decide +kernel))) (fun _ h9 => h9) rfl (by decide +kernel) rfl rfl (Nat.le_of_ble_eq_true rfl) dX8_drop_7 (fun H locs hP hD hS => ?_)
  have hP : va_P G vwCl [zO h 9 [.ref ho, .int (-1), .int (nI ts), .int md]] H := hP
  have hD : va_D A [zO h 9 [.ref ho, .int (-1), .int (nI ts), .int md]] := hD
  refine lv_iload_n hx hb dX8_drop_10 rfl (lv_at hl 0 rfl) ?_
  exact z_rMi hx hb hr hlk dX8_drop_11 () (rfl) hP hD hK hS (Nat.le_of_ble_eq_true rfl) (Nat.le_of_ble_eq_true rfl)
theorem in_X8_hasChangeToUndo_X8 : ∀ w ∈ u_ws RX8 TX8 4, w ∈ wsX8_hasChangeToUndo := fun _ h => (List.mem_cons_of_mem _ (List.mem_append_right _ h))
set_option maxHeartbeats 4000000 in
set_option maxRecDepth 100000 in
theorem c_X8_hasChangeToUndo (l : Launch) (G : va_G) (cy : Nat → ClassId) (h ho : Nat) (td md : Int32) (ts : Nat) : Met l yX8_hasChangeToUndo wsX8_hasChangeToUndo ({ frames := 0, cells := 0, slots := 0, locals := 0 }) (zS G cy [.ref h] [zO h 9 [.ref ho, .int td, .int (nI ts), .int md]]) (vp_Si (fun r => (r = nI 1 ∧ (¬ md = -1)) ∨ (r = nI 0 ∧ ¬ (¬ md = -1)))) 0 0 (fun _ => False) := by
  refine z_ofS (cc := cX8_hasChangeToUndo) (maxL := 1) (ret := (some .boolean)) (by decide) rfl (Nat.le_of_ble_eq_true rfl) ?_
  intro p e s m below meth c ls hx hb hml hr hts hown hlk hP hK hl
  have hown : s.vm.findClass RX8 = some m.cls := hown
  have hl : lv_has ls 1 [(0, .ref h)] := hl
  refine lv_aload_n hx hb dX8_hasChangeToUndo_0 rfl (lv_at hl 0 rfl) ?_
  refine va_get (D := G) (ci := 9) (v := .int md) (C := RX8) (T := TX8) (N := 4) hx hb hts in_X8_hasChangeToUndo_X8 hown hK hP 0 rfl rfl 3 (by decide) (hts _ (List.mem_of_getElem? (i := 1) (by decide +kernel))) (fun _ h9 => h9) rfl dX8_hasChangeToUndo_1 ?_
  refine lv_iconst (v := (-1)) hx hb dX8_hasChangeToUndo_4 (by decide) ?_
  refine lv_icmp_eq hx hb dX8_hasChangeToUndo_5 (tgt := 12) (by decide) (fun c_1 => ?_) (fun c_1 => ?_)
  · refine lv_iconst (v := nI 0) hx hb dX8_hasChangeToUndo_12 (by decide) ?_
    exact z_rSz hx hb hr hlk (by rfl) dX8_hasChangeToUndo_13 (Or.inr ⟨rfl, fun q => q c_1⟩)
  · refine lv_iconst (v := nI 1) hx hb dX8_hasChangeToUndo_8 (by decide) ?_
    refine lv_goto (tgt := 13) hx hb dX8_hasChangeToUndo_9 (by decide) ?_
    exact z_rSz hx hb hr hlk (by rfl) dX8_hasChangeToUndo_13 (Or.inl ⟨rfl, c_1⟩)
theorem in_X8_begin_X8 : ∀ w ∈ u_ws RX8 TX8 4, w ∈ wsX8_begin := fun _ h => (List.mem_cons_of_mem _ (List.mem_append_left _ (List.mem_append_right _ h)))
set_option maxHeartbeats 4000000 in
set_option maxRecDepth 100000 in
theorem c_X8_begin (l : Launch) (G : va_G) (cy : Nat → ClassId) (sz0 : Nat) (h ho ha : Nat) (g : Nat → Nat) (td md : Int32) (ts : Nat) (d : Nat) (hd0 : 0 < d) (hd : d < 1000) (hts9 : ts < 4) : Met l yX8_begin wsX8_begin ({ frames := 1, cells := 0, slots := 0, locals := 23 }) (zM G cy [.ref h, .int (nI d)] sz0 [zO h 9 [.ref ho, .int td, .int (nI ts), .int md], zO ho 6 [.ref ha], zL cy ha 1000 (fun j9 => lN (g j9))]) (va_Qv (fun (_ : Unit) => True) (fun (u : Unit) t9 => zB G cy (va_A [zO h 9 [.ref ho, .int td, .int (nI ts), .int md], zO ho 6 [.ref ha], zL cy ha 1000 (fun j9 => lN (g j9))] sz0) [zO h 9 [.ref ho, .int (if nI d = td then (-1) else td), .int (nI ts), .int (if nI d = td then nI d else md)], zO ho 6 [.ref ha], zL cy ha 1000 (fun j9 => lN ((va_up g d (if nI d = td then ts else g (d - 1))) j9))] t9) (va_A [zO h 9 [.ref ho, .int td, .int (nI ts), .int md], zO ho 6 [.ref ha], zL cy ha 1000 (fun j9 => lN (g j9))] sz0)) 0 0 (va_A [zO h 9 [.ref ho, .int td, .int (nI ts), .int md], zO ho 6 [.ref ha], zL cy ha 1000 (fun j9 => lN (g j9))] sz0) := by
  refine z_ofM (cc := cX8_begin) (maxL := 2) (ret := none) (Qc := (fun A => va_Qv (fun (_ : Unit) => True) (fun (u : Unit) t9 => zB G cy A [zO h 9 [.ref ho, .int (if nI d = td then (-1) else td), .int (nI ts), .int (if nI d = td then nI d else md)], zO ho 6 [.ref ha], zL cy ha 1000 (fun j9 => lN ((va_up g d (if nI d = td then ts else g (d - 1))) j9))] t9) A)) (by decide) rfl (Nat.le_of_ble_eq_true rfl) ?_
  intro p e s m below meth c ls A hx hb hml hr hts hown hlk hin hP hK hD hA hS hl hsz0
  have hown : s.vm.findClass RX8 = some m.cls := hown
  have hl : lv_has ls 2 [(0, .ref h), (1, .int (nI d))] := hl
  refine lv_iload_n hx hb dX8_begin_0 rfl (lv_at hl 1 rfl) ?_
  refine lv_aload_n hx hb dX8_begin_1 rfl (lv_at hl 0 rfl) ?_
  refine va_get (D := G) (ci := 9) (v := .int td) (C := RX8) (T := TX8) (N := 4) hx hb hts in_X8_begin_X8 hown hK hP 0 rfl rfl 1 (by decide) (hts _ (List.mem_of_getElem? (i := 1) (by decide +kernel))) (fun _ h9 => h9) rfl dX8_begin_2 ?_
  refine lv_icmp_ne hx hb dX8_begin_5 (tgt := 34) (by decide) (fun c_1 => ?_) (fun c_1 => ?_)
  · refine lv_aload_n hx hb dX8_begin_34 rfl (lv_at hl 0 rfl) ?_
    refine va_get (D := G) (ci := 9) (v := .ref ho) (C := RX8) (T := TX8) (N := 4) hx hb hts in_X8_begin_X8 hown hK hP 0 rfl rfl 0 (by decide) (hts _ (List.mem_of_getElem? (i := 2) (by decide +kernel))) (fun _ h9 => h9) rfl dX8_begin_35 ?_
    refine lv_iload_n hx hb dX8_begin_38 rfl (lv_at hl 1 rfl) ?_
    refine lv_aload_n hx hb dX8_begin_39 rfl (lv_at hl 0 rfl) ?_
    refine va_get (D := G) (ci := 9) (v := .ref ho) (C := RX8) (T := TX8) (N := 4) hx hb hts in_X8_begin_X8 hown hK hP 0 rfl rfl 0 (by decide) (hts _ (List.mem_of_getElem? (i := 2) (by decide +kernel))) (fun _ h9 => h9) rfl dX8_begin_40 ?_
    refine lv_iload_n hx hb dX8_begin_43 rfl (lv_at hl 1 rfl) ?_
    refine lv_iconst (v := nI 1) hx hb dX8_begin_44 (by decide) ?_
    refine z_isub hx hb (by omega) dX8_begin_45 ?_
    refine vp_callSl (va_runV (As := [.int (nI (d - 1))]) (rest := [.int (nI d), .ref ho]) ⟨hx, hb, hml, hown, hts⟩ (c_X5_getN l G cy ho ha 1000 g (d - 1) (by omega) (by omega)) (cwV 1 hts gX8_begin_X5_get rfl rfl rfl (by decide +kernel) ⟨Nat.le_of_ble_eq_true rfl, Nat.le_of_ble_eq_true rfl⟩) (z_pV hK hP [1, 2] rfl (ci := 6) (q0 := 0) rfl rfl rfl) rfl rfl hl.1 rfl (lv_room (Nat.le_of_ble_eq_true rfl)) dX8_begin_46 ⟨Nat.le_of_ble_eq_true rfl, Nat.le_of_ble_eq_true rfl⟩).run (fun r_2 hr_2 => ?_)
    obtain rfl : r_2 = (lN (g (d - 1))) := hr_2
    refine z_cv (wc := [zO ho 6 [.ref ha], zL cy ha 1000 (fun j9 => lN (g j9))]) (va_runV (As := [.int (nI d), .long (lN (g (d - 1)))]) (rest := []) ⟨hx, hb, hml, hown, hts⟩ (c_X5_setN l G cy _ ho ha 1000 g d (g (d - 1)) (by omega) (by omega)) (cwV 2 hts gX8_begin_X5_set rfl rfl rfl (by decide +kernel) ⟨Nat.le_of_ble_eq_true rfl, Nat.le_of_ble_eq_true rfl⟩) (z_pVM hK hP hD [1, 2] rfl (by decide) (ci := 6) (q0 := 0) rfl rfl rfl) rfl rfl hl.1 rfl (lv_room (Nat.le_of_ble_eq_true rfl)) dX8_begin_49 ⟨Nat.le_of_ble_eq_true rfl, Nat.le_of_ble_eq_true rfl⟩) hP hD hS hA [1, 2] [0] [0, 1, 2] [zO h 9 [.ref ho, .int td, .int (nI ts), .int md]] (fun _ => [zO h 9 [.ref ho, .int td, .int (nI ts), .int md], zO ho 6 [.ref ha], zL cy ha 1000 (fun j9 => lN ((va_up g d (g (d - 1))) j9))]) rfl rfl (by decide) (fun _ => rfl) (fun u H locs hr_3 hQ hD hS hz => ?_)
    have hP : va_P G vwCl [zO h 9 [.ref ho, .int td, .int (nI ts), .int md], zO ho 6 [.ref ha], zL cy ha 1000 (fun j9 => lN ((va_up g d (g (d - 1))) j9))] H := hQ
    have hD : va_D A [zO h 9 [.ref ho, .int td, .int (nI ts), .int md], zO ho 6 [.ref ha], zL cy ha 1000 (fun j9 => lN ((va_up g d (g (d - 1))) j9))] := hD
    clear hQ
    refine z_rMv hx hb hr hlk dX8_begin_52 () (trivial) ?_ ?_ hK hS (Nat.le_of_ble_eq_true rfl) (Nat.le_of_ble_eq_true rfl)
    · simp only [if_neg c_1]; exact hP
    · simp only [if_neg c_1]; exact hD
  · refine lv_aload_n hx hb dX8_begin_8 rfl (lv_at hl 0 rfl) ?_
    refine va_get (D := G) (ci := 9) (v := .ref ho) (C := RX8) (T := TX8) (N := 4) hx hb hts in_X8_begin_X8 hown hK hP 0 rfl rfl 0 (by decide) (hts _ (List.mem_of_getElem? (i := 2) (by decide +kernel))) (fun _ h9 => h9) rfl dX8_begin_9 ?_
    refine lv_iload_n hx hb dX8_begin_12 rfl (lv_at hl 1 rfl) ?_
    refine lv_aload_n hx hb dX8_begin_13 rfl (lv_at hl 0 rfl) ?_
    refine va_get (D := G) (ci := 9) (v := .int (nI ts)) (C := RX8) (T := TX8) (N := 4) hx hb hts in_X8_begin_X8 hown hK hP 0 rfl rfl 2 (by decide) (hts _ (List.mem_of_getElem? (i := 3) (by decide +kernel))) (fun _ h9 => h9) rfl dX8_begin_14 ?_
    refine z_i2l hx hb (by omega) dX8_begin_17 ?_
    refine z_cv (wc := [zO ho 6 [.ref ha], zL cy ha 1000 (fun j9 => lN (g j9))]) (va_runV (As := [.int (nI d), .long (lN ts)]) (rest := []) ⟨hx, hb, hml, hown, hts⟩ (c_X5_setN l G cy _ ho ha 1000 g d ts (by omega) (by omega)) (cwV 2 hts gX8_begin_X5_set rfl rfl rfl (by decide +kernel) ⟨Nat.le_of_ble_eq_true rfl, Nat.le_of_ble_eq_true rfl⟩) (z_pVM hK hP hD [1, 2] rfl (by decide) (ci := 6) (q0 := 0) rfl rfl rfl) rfl rfl hl.1 rfl (lv_room (Nat.le_of_ble_eq_true rfl)) dX8_begin_18 ⟨Nat.le_of_ble_eq_true rfl, Nat.le_of_ble_eq_true rfl⟩) hP hD hS hA [1, 2] [0] [0, 1, 2] [zO h 9 [.ref ho, .int td, .int (nI ts), .int md]] (fun _ => [zO h 9 [.ref ho, .int td, .int (nI ts), .int md], zO ho 6 [.ref ha], zL cy ha 1000 (fun j9 => lN ((va_up g d ts) j9))]) rfl rfl (by decide) (fun _ => rfl) (fun u H locs hr_4 hQ hD hS hz => ?_)
    have hP : va_P G vwCl [zO h 9 [.ref ho, .int td, .int (nI ts), .int md], zO ho 6 [.ref ha], zL cy ha 1000 (fun j9 => lN ((va_up g d ts) j9))] H := hQ
    have hD : va_D A [zO h 9 [.ref ho, .int td, .int (nI ts), .int md], zO ho 6 [.ref ha], zL cy ha 1000 (fun j9 => lN ((va_up g d ts) j9))] := hD
    clear hQ
    refine lv_aload_n hx hb dX8_begin_21 rfl (lv_at hl 0 rfl) ?_
    refine lv_iload_n hx hb dX8_begin_22 rfl (lv_at hl 1 rfl) ?_
    refine va_put (D := G) (ci := 9) (v := .int (nI d)) (ty := .int) (C := RX8) (T := TX8) (N := 4) hx hb hts in_X8_begin_X8 tyX8 tyX8_ok nmX8 hown hK hP hD hS 0 rfl rfl 3 (by decide) (hts _ (List.mem_of_getElem? (i := 4) (by decide +kernel))) (fun _ h9 => h9) rfl (by decide +kernel) rfl rfl (Nat.le_of_ble_eq_true rfl) dX8_begin_23 (fun H locs hP hD hS => ?_)
    have hP : va_P G vwCl [zO h 9 [.ref ho, .int td, .int (nI ts), .int (nI d)], zO ho 6 [.ref ha], zL cy ha 1000 (fun j9 => lN ((va_up g d ts) j9))] H := hP
    have hD : va_D A [zO h 9 [.ref ho, .int td, .int (nI ts), .int (nI d)], zO ho 6 [.ref ha], zL cy ha 1000 (fun j9 => lN ((va_up g d ts) j9))] := hD
    refine lv_aload_n hx hb dX8_begin_26 rfl (lv_at hl 0 rfl) ?_
    refine lv_iconst (v := (-1)) hx hb dX8_begin_27 (by decide) ?_
    refine va_put (D := G) (ci := 9) (v := .int (-1)) (ty := .int) (C := RX8) (T := TX8) (N := 4) hx hb hts in_X8_begin_X8 tyX8 tyX8_ok nmX8 hown hK hP hD hS 0 rfl rfl 1 (by decide) (hts _ (List.mem_of_getElem? (i := 1) (by decide +kernel))) (fun _ h9 => h9) rfl (by decide +kernel) rfl rfl (Nat.le_of_ble_eq_true rfl) dX8_begin_28 (fun H locs hP hD hS => ?_)
    have hP : va_P G vwCl [zO h 9 [.ref ho, .int (-1), .int (nI ts), .int (nI d)], zO ho 6 [.ref ha], zL cy ha 1000 (fun j9 => lN ((va_up g d ts) j9))] H := hP
    have hD : va_D A [zO h 9 [.ref ho, .int (-1), .int (nI ts), .int (nI d)], zO ho 6 [.ref ha], zL cy ha 1000 (fun j9 => lN ((va_up g d ts) j9))] := hD
    refine lv_goto (tgt := 52) hx hb dX8_begin_31 (by decide) ?_
    refine z_rMv hx hb hr hlk dX8_begin_52 () (trivial) ?_ ?_ hK hS (Nat.le_of_ble_eq_true rfl) (Nat.le_of_ble_eq_true rfl)
    · simp only [if_pos c_1]; exact hP
    · simp only [if_pos c_1]; exact hD
theorem in_X8_undo_X8 : ∀ w ∈ u_ws RX8 TX8 4, w ∈ wsX8_undo := fun _ h => (List.mem_cons_of_mem _ (List.mem_append_left _ (List.mem_append_right _ h)))
set_option maxHeartbeats 4000000 in
set_option maxRecDepth 100000 in
theorem c_X8_undo (l : Launch) (G : va_G) (cy : Nat → ClassId) (sz0 : Nat) (h ho ha : Nat) (g : Nat → Nat) (td : Int32) (ts d T : Nat) (hd0 : 0 < d) (hdT : d ≤ T) (hT : T < 1000) : Met l yX8_undo wsX8_undo ({ frames := 1, cells := 0, slots := 0, locals := 23 }) (zM G cy [.ref h, .int (nI T)] sz0 [zO h 9 [.ref ho, .int td, .int (nI ts), .int (nI d)], zO ho 6 [.ref ha], zL cy ha 1000 (fun j9 => lN (g j9))]) (va_Qi (fun (r : Int32) (_ : Unit) => r = (nI (T - d + 1))) (fun (u : Unit) t9 => zB G cy (va_A [zO h 9 [.ref ho, .int td, .int (nI ts), .int (nI d)], zO ho 6 [.ref ha], zL cy ha 1000 (fun j9 => lN (g j9))] sz0) [zO h 9 [.ref ho, .int td, .int (nI ts), .int (-1)], zO ho 6 [.ref ha], zL cy ha 1000 (fun j9 => lN ((z_fill g (g (d - 1)) d (T + 1 - d)) j9))] t9) (va_A [zO h 9 [.ref ho, .int td, .int (nI ts), .int (nI d)], zO ho 6 [.ref ha], zL cy ha 1000 (fun j9 => lN (g j9))] sz0)) 0 0 (va_A [zO h 9 [.ref ho, .int td, .int (nI ts), .int (nI d)], zO ho 6 [.ref ha], zL cy ha 1000 (fun j9 => lN (g j9))] sz0) := by
  refine z_ofM (cc := cX8_undo) (maxL := 6) (ret := (some .int)) (Qc := (fun A => va_Qi (fun (r : Int32) (_ : Unit) => r = (nI (T - d + 1))) (fun (u : Unit) t9 => zB G cy A [zO h 9 [.ref ho, .int td, .int (nI ts), .int (-1)], zO ho 6 [.ref ha], zL cy ha 1000 (fun j9 => lN ((z_fill g (g (d - 1)) d (T + 1 - d)) j9))] t9) A)) (by decide) rfl (Nat.le_of_ble_eq_true rfl) ?_
  intro p e s m below meth c ls A hx hb hml hr hts hown hlk hin hP hK hD hA hS hl hsz0
  have hown : s.vm.findClass RX8 = some m.cls := hown
  have hl : lv_has ls 6 [(0, .ref h), (1, .int (nI T))] := hl
  refine lv_aload_n hx hb dX8_undo_0 rfl (lv_at hl 0 rfl) ?_
  refine va_get (D := G) (ci := 9) (v := .int (nI d)) (C := RX8) (T := TX8) (N := 4) hx hb hts in_X8_undo_X8 hown hK hP 0 rfl rfl 3 (by decide) (hts _ (List.mem_of_getElem? (i := 1) (by decide +kernel))) (fun _ h9 => h9) rfl dX8_undo_1 ?_
  refine lv_istore_n (lv' := [(2, .int (nI d)), (0, .ref h), (1, .int (nI T))]) hx hb dX8_undo_4 rfl hl (by decide) rfl (fun ls hl => ?_)
  refine lv_aload_n hx hb dX8_undo_5 rfl (lv_at hl 1 rfl) ?_
  refine va_get (D := G) (ci := 9) (v := .ref ho) (C := RX8) (T := TX8) (N := 4) hx hb hts in_X8_undo_X8 hown hK hP 0 rfl rfl 0 (by decide) (hts _ (List.mem_of_getElem? (i := 2) (by decide +kernel))) (fun _ h9 => h9) rfl dX8_undo_6 ?_
  refine lv_iload_n hx hb dX8_undo_9 rfl (lv_at hl 0 rfl) ?_
  refine lv_iconst (v := nI 1) hx hb dX8_undo_10 (by decide) ?_
  refine z_isub hx hb (by omega) dX8_undo_11 ?_
  refine vp_callSl (va_runV (As := [.int (nI (d - 1))]) (rest := []) ⟨hx, hb, hml, hown, hts⟩ (c_X5_getN l G cy ho ha 1000 g (d - 1) (by omega) (by omega)) (cwV 1 hts gX8_undo_X5_get rfl rfl rfl (by decide +kernel) ⟨Nat.le_of_ble_eq_true rfl, Nat.le_of_ble_eq_true rfl⟩) (z_pV hK hP [1, 2] rfl (ci := 6) (q0 := 0) rfl rfl rfl) rfl rfl hl.1 rfl (lv_room (Nat.le_of_ble_eq_true rfl)) dX8_undo_12 ⟨Nat.le_of_ble_eq_true rfl, Nat.le_of_ble_eq_true rfl⟩).run (fun r_1 hr_1 => ?_)
  obtain rfl : r_1 = (lN (g (d - 1))) := hr_1
  refine lv_lstore_n (lv' := [(3, .long (lN (g (d - 1)))), (2, .int (nI d)), (0, .ref h), (1, .int (nI T))]) hx hb dX8_undo_15 rfl hl (by decide) rfl (fun ls hl => ?_)
  refine lv_iload_n hx hb dX8_undo_16 rfl (lv_at hl 1 rfl) ?_
  refine lv_istore (lv' := [(5, .int (nI d)), (3, .long (lN (g (d - 1)))), (2, .int (nI d)), (0, .ref h), (1, .int (nI T))]) hx hb dX8_undo_17 hl (by decide) rfl (fun ls hl => ?_)
  have hloop19 : ∀ (fuel19 : Nat) (j : Nat) (gg : Nat → Nat), (d + j ≤ T + 1) → (gg = z_fill g (g (d - 1)) d j) → (T + 1 - d - j) < fuel19 → ∀ (H : Heap) (locs : List Loc), va_P G vwCl [zO h 9 [.ref ho, .int td, .int (nI ts), .int (nI d)], zO ho 6 [.ref ha], zL cy ha 1000 (fun j9 => lN (gg j9))] H → va_D A [zO h 9 [.ref ho, .int td, .int (nI ts), .int (nI d)], zO ho 6 [.ref ha], zL cy ha 1000 (fun j9 => lN (gg j9))] → va_S A s.heap H locs → ∀ (ls : Array Slot), lv_has ls 6 [(0, .ref h), (1, .int (nI T)), (2, .int (nI d)), (3, .long (lN (g (d - 1)))), (5, .int (nI (d + j)))] → W p l e { frames := 1, cells := 0, slots := 0, locals := 23 } s m [.ref h, .int (nI T)].toArray below meth c H locs 0 0 (MQ below (va_Qi (fun (r : Int32) (_ : Unit) => r = (nI (T - d + 1))) (fun (u : Unit) t9 => zB G cy A [zO h 9 [.ref ho, .int td, .int (nI ts), .int (-1)], zO ho 6 [.ref ha], zL cy ha 1000 (fun j9 => lN ((z_fill g (g (d - 1)) d (T + 1 - d)) j9))] t9) A) [.ref h, .int (nI T)].toArray s 0 0 A) (F0 m 19 ls []) := by
    intro fuel19
    induction fuel19 with
    | zero =>
      intro j gg hi19_0 hi19_1 hfu19
      exact absurd hfu19 (Nat.not_lt_zero _)
    | succ fuel19 ih19 =>
      intro j gg hi19_0 hi19_1 hfu19 H locs hP hD hS ls hl
      refine lv_iload hx hb dX8_undo_19 (lv_at hl 4 rfl) ?_
      refine lv_iload_n hx hb dX8_undo_21 rfl (lv_at hl 1 rfl) ?_
      refine z_icmp_gt hx hb (by omega) (by omega) dX8_undo_22 (tgt := 41) (by decide) (fun c_2 => ?_) (fun c_2 => ?_)
      · refine lv_aload_n hx hb dX8_undo_41 rfl (lv_at hl 0 rfl) ?_
        refine lv_iconst (v := (-1)) hx hb dX8_undo_42 (by decide) ?_
        refine va_put (D := G) (ci := 9) (v := .int (-1)) (ty := .int) (C := RX8) (T := TX8) (N := 4) hx hb hts in_X8_undo_X8 tyX8 tyX8_ok nmX8 hown hK hP hD hS 0 rfl rfl 3 (by decide) (hts _ (List.mem_of_getElem? (i := 1) (by decide +kernel))) (fun _ h9 => h9) rfl (by decide +kernel) rfl rfl (Nat.le_of_ble_eq_true rfl) dX8_undo_43 (fun H locs hP hD hS => ?_)
        have hP : va_P G vwCl [zO h 9 [.ref ho, .int td, .int (nI ts), .int (-1)], zO ho 6 [.ref ha], zL cy ha 1000 (fun j9 => lN (gg j9))] H := hP
        have hD : va_D A [zO h 9 [.ref ho, .int td, .int (nI ts), .int (-1)], zO ho 6 [.ref ha], zL cy ha 1000 (fun j9 => lN (gg j9))] := hD
        refine lv_iload_n hx hb dX8_undo_46 rfl (lv_at hl 1 rfl) ?_
        refine lv_iload_n hx hb dX8_undo_47 rfl (lv_at hl 2 rfl) ?_
        refine z_isub hx hb (by omega) dX8_undo_48 ?_
        refine lv_iconst (v := nI 1) hx hb dX8_undo_49 (by decide) ?_
        refine z_iadd hx hb dX8_undo_50 ?_
        have ej : T + 1 - d = j := by omega
        rw [hi19_1, ← ej] at hP hD
        exact z_rMi hx hb hr hlk dX8_undo_51 () (rfl) hP hD hK hS (Nat.le_of_ble_eq_true rfl) (Nat.le_of_ble_eq_true rfl)
      · refine lv_aload_n hx hb dX8_undo_25 rfl (lv_at hl 0 rfl) ?_
        refine va_get (D := G) (ci := 9) (v := .ref ho) (C := RX8) (T := TX8) (N := 4) hx hb hts in_X8_undo_X8 hown hK hP 0 rfl rfl 0 (by decide) (hts _ (List.mem_of_getElem? (i := 2) (by decide +kernel))) (fun _ h9 => h9) rfl dX8_undo_26 ?_
        refine lv_iload hx hb dX8_undo_29 (lv_at hl 4 rfl) ?_
        refine lv_lload_n hx hb dX8_undo_31 rfl (lv_at hl 3 rfl) ?_
        refine z_cv (wc := [zO ho 6 [.ref ha], zL cy ha 1000 (fun j9 => lN (gg j9))]) (va_runV (As := [.int (nI (d + j)), .long (lN (g (d - 1)))]) (rest := []) ⟨hx, hb, hml, hown, hts⟩ (c_X5_setN l G cy _ ho ha 1000 gg (d + j) (g (d - 1)) (by omega) (by omega)) (cwV 2 hts gX8_undo_X5_set rfl rfl rfl (by decide +kernel) ⟨Nat.le_of_ble_eq_true rfl, Nat.le_of_ble_eq_true rfl⟩) (z_pVM hK hP hD [1, 2] rfl (by decide) (ci := 6) (q0 := 0) rfl rfl rfl) rfl rfl hl.1 rfl (lv_room (Nat.le_of_ble_eq_true rfl)) dX8_undo_32 ⟨Nat.le_of_ble_eq_true rfl, Nat.le_of_ble_eq_true rfl⟩) hP hD hS hA [1, 2] [0] [0, 1, 2] [zO h 9 [.ref ho, .int td, .int (nI ts), .int (nI d)]] (fun _ => [zO h 9 [.ref ho, .int td, .int (nI ts), .int (nI d)], zO ho 6 [.ref ha], zL cy ha 1000 (fun j9 => lN ((va_up gg (d + j) (g (d - 1))) j9))]) rfl rfl (by decide) (fun _ => rfl) (fun u H locs hr_3 hQ hD hS hz => ?_)
        have hP : va_P G vwCl [zO h 9 [.ref ho, .int td, .int (nI ts), .int (nI d)], zO ho 6 [.ref ha], zL cy ha 1000 (fun j9 => lN ((va_up gg (d + j) (g (d - 1))) j9))] H := hQ
        have hD : va_D A [zO h 9 [.ref ho, .int td, .int (nI ts), .int (nI d)], zO ho 6 [.ref ha], zL cy ha 1000 (fun j9 => lN ((va_up gg (d + j) (g (d - 1))) j9))] := hD
        clear hQ
        refine lv_iinc (v := (nI (d + j + 1))) (lv' := [(5, .int (nI (d + j + 1))), (0, .ref h), (1, .int (nI T)), (2, .int (nI d)), (3, .long (lN (g (d - 1))))]) hx hb dX8_undo_35 hl (k := 4) rfl (nI_add _ _) (by decide) rfl (fun ls hl => ?_)
        refine lv_goto (tgt := 19) hx hb dX8_undo_38 (by decide) ?_
        exact ih19 (j + 1) (va_up gg (d + j) (g (d - 1))) (by omega) (by rw [hi19_1, z_fill_up]) (by omega) _ _ hP hD hS _ (lv_sub hl [1, 2, 3, 4, 0] rfl)
  exact hloop19 (T + 1 - d - 0 + 1) 0 g (by omega) (z_fill_0.symm) (by omega) _ _ hP hD hS _ (lv_sub hl [3, 4, 2, 1, 0] rfl)
theorem in_X9_init_X5 : ∀ w ∈ u_ws RX5 TX5 1, w ∈ wsX9_init := fun _ h => (List.mem_cons_of_mem _ (List.mem_append_left _ (List.mem_append_right _ h)))
theorem in_X9_init_X9 : ∀ w ∈ u_ws RX9 TX9 3, w ∈ wsX9_init := fun _ h => (List.mem_cons_of_mem _ (List.mem_append_right _ h))
set_option maxHeartbeats 4000000 in
set_option maxRecDepth 100000 in
theorem c_X9_init (l : Launch) (G : va_G) (cy : Nat → ClassId) (sz0 : Nat) (h : Nat) : Met l yX9_init wsX9_init ({ frames := 2, cells := 6, slots := 12003, locals := 33 }) (zM G cy [.ref h] sz0 [zO h 10 [.null, .null, .null]]) (va_Qv (fun (_ : Nat × Nat × Nat × Nat × Nat × Nat) => True) (fun (u : Nat × Nat × Nat × Nat × Nat × Nat) t9 => zB G cy (va_A [zO h 10 [.null, .null, .null]] sz0) [zO h 10 [.ref u.1, .ref u.2.1, .ref u.2.2.1], zO u.1 6 [.ref u.2.2.2.1], zL cy u.2.2.2.1 4000 (fun j9 => lN ((fun _ => 0) j9)), zO u.2.1 6 [.ref u.2.2.2.2.1], zL cy u.2.2.2.2.1 4000 (fun j9 => lN ((fun _ => 0) j9)), zO u.2.2.1 6 [.ref u.2.2.2.2.2], zL cy u.2.2.2.2.2 4000 (fun j9 => lN ((fun _ => 0) j9))] t9) (va_A [zO h 10 [.null, .null, .null]] sz0)) 6 12003 (va_A [zO h 10 [.null, .null, .null]] sz0) := by
  refine z_ofM (cc := cX9_init) (maxL := 1) (ret := none) (Qc := (fun A => va_Qv (fun (_ : Nat × Nat × Nat × Nat × Nat × Nat) => True) (fun (u : Nat × Nat × Nat × Nat × Nat × Nat) t9 => zB G cy A [zO h 10 [.ref u.1, .ref u.2.1, .ref u.2.2.1], zO u.1 6 [.ref u.2.2.2.1], zL cy u.2.2.2.1 4000 (fun j9 => lN ((fun _ => 0) j9)), zO u.2.1 6 [.ref u.2.2.2.2.1], zL cy u.2.2.2.2.1 4000 (fun j9 => lN ((fun _ => 0) j9)), zO u.2.2.1 6 [.ref u.2.2.2.2.2], zL cy u.2.2.2.2.2 4000 (fun j9 => lN ((fun _ => 0) j9))] t9) A)) (by decide) rfl (Nat.le_of_ble_eq_true rfl) ?_
  intro p e s m below meth c ls A hx hb hml hr hts hown hlk hin hP hK hD hA hS hl hsz0
  have hown : s.vm.findClass RX9 = some m.cls := hown
  have hl : lv_has ls 1 [(0, .ref h)] := hl
  have hin : meth.name = "<init>" := hin
  refine lv_aload_n hx hb dX9_init_0 rfl (lv_at hl 0 rfl) ?_
  refine W.objInit hx hb hown (hts _ (List.mem_of_getElem? (i := 1) (by decide +kernel))) (hts _ (List.mem_of_getElem? (i := 2) (by decide +kernel))) (hts _ (List.mem_of_getElem? (i := 3) (by decide +kernel))) rfl (by rw [hml]; exact hl.1) rfl dX9_init_1 (Nat.le_of_ble_eq_true rfl) (Nat.le_of_ble_eq_true rfl) ?_
  refine W.eq (g2 := F0 m 4 ls []) rfl ?_
  refine lv_aload_n hx hb dX9_init_4 rfl (lv_at hl 0 rfl) ?_
  refine va_new (ci := 6) (fs := [.null]) (C := RX5) (T := TX5) (N := 1) hx hb hts in_X9_init_X5 tyX5 tyX5_ok hown (hts _ (List.mem_of_getElem? (i := 4) (by decide +kernel))) (hts _ (List.mem_of_getElem? (i := 5) (by decide +kernel))) (hts _ (List.mem_of_getElem? (i := 6) (by decide +kernel))) hK hP hD hS hA rfl (nwf_X5) (Nat.le_of_ble_eq_true rfl) (Nat.le_of_ble_eq_true rfl) dX9_init_5 (fun q_1 H hP hD hS => ?_)
  have hP : va_P G vwCl [zO h 10 [.null, .null, .null], zO q_1 6 [.null]] H := hP
  have hD : va_D A [zO h 10 [.null, .null, .null], zO q_1 6 [.null]] := hD
  refine lv_dup hx hb dX9_init_8 rfl ?_
  refine lv_sipush (v := nI 4000) hx hb dX9_init_9 (by decide) ?_
  refine z_cv (wc := [zO q_1 6 [.null]]) (va_runI (As := [.int (nI 4000)]) (rest := [.ref q_1, .ref h]) ⟨hx, hb, hml, hown, hts⟩ (c_X5_init l G cy _ q_1 4000 (by omega) (by omega)) (cwI 1 hts gX9_init_X5_init rfl rfl rfl (hts _ (List.mem_of_getElem? (i := 6) (by decide +kernel))) (hts _ (List.mem_of_getElem? (i := 10) (by decide +kernel))) (hts _ (List.mem_of_getElem? (i := 11) (by decide +kernel))) rfl (by decide +kernel) ⟨Nat.le_of_ble_eq_true rfl, Nat.le_of_ble_eq_true rfl⟩) (z_pSM hK hP hD [1] rfl (by decide)) rfl rfl hl.1 rfl (lv_room (Nat.le_of_ble_eq_true rfl)) dX9_init_12 ⟨Nat.le_of_ble_eq_true rfl, Nat.le_of_ble_eq_true rfl⟩) hP hD hS hA [1] [0] [0, 1, 2] [zO h 10 [.null, .null, .null]] (fun (u : Nat) => [zO h 10 [.null, .null, .null], zO q_1 6 [.ref u], zL cy u 4000 (fun j9 => lN ((fun _ => 0) j9))]) rfl rfl (by decide) (fun _ => rfl) (fun u H locs hr_2 hQ hD hS hz => ?_)
  obtain ⟨qa_3, rfl⟩ : ∃ z, z = u := ⟨_, rfl⟩
  try dsimp only at hr_2
  have hP : va_P G vwCl [zO h 10 [.null, .null, .null], zO q_1 6 [.ref qa_3], zL cy qa_3 4000 (fun j9 => lN ((fun _ => 0) j9))] H := hQ
  have hD : va_D A [zO h 10 [.null, .null, .null], zO q_1 6 [.ref qa_3], zL cy qa_3 4000 (fun j9 => lN ((fun _ => 0) j9))] := hD
  clear hQ
  refine va_putF (D := G) (ci := 10) (v := .ref q_1) (ty := (.object "MeterHouse$Row")) (C := RX9) (T := TX9) (N := 3) hx hb hts in_X9_init_X9 tyX9 tyX9_ok nmX9 hown hK hP hD hS 0 rfl rfl 0 (by decide) (hts _ (List.mem_of_getElem? (i := 7) (by decide +kernel))) (fun _ h9 => h9) rfl hin rfl (by decide +kernel) rfl rfl (Nat.le_of_ble_eq_true rfl) dX9_init_15 (fun H locs hP hD hS => ?_)
  have hP : va_P G vwCl [zO h 10 [.ref q_1, .null, .null], zO q_1 6 [.ref qa_3], zL cy qa_3 4000 (fun j9 => lN ((fun _ => 0) j9))] H := hP
  have hD : va_D A [zO h 10 [.ref q_1, .null, .null], zO q_1 6 [.ref qa_3], zL cy qa_3 4000 (fun j9 => lN ((fun _ => 0) j9))] := hD
  refine lv_aload_n hx hb dX9_init_18 rfl (lv_at hl 0 rfl) ?_
  refine va_new (ci := 6) (fs := [.null]) (C := RX5) (T := TX5) (N := 1) hx hb hts in_X9_init_X5 tyX5 tyX5_ok hown (hts _ (List.mem_of_getElem? (i := 4) (by decide +kernel))) (hts _ (List.mem_of_getElem? (i := 5) (by decide +kernel))) (hts _ (List.mem_of_getElem? (i := 6) (by decide +kernel))) hK hP hD hS hA rfl (nwf_X5) (Nat.le_of_ble_eq_true rfl) (Nat.le_of_ble_eq_true rfl) dX9_init_19 (fun q_4 H hP hD hS => ?_)
  have hP : va_P G vwCl [zO h 10 [.ref q_1, .null, .null], zO q_1 6 [.ref qa_3], zL cy qa_3 4000 (fun j9 => lN ((fun _ => 0) j9)), zO q_4 6 [.null]] H := hP
  have hD : va_D A [zO h 10 [.ref q_1, .null, .null], zO q_1 6 [.ref qa_3], zL cy qa_3 4000 (fun j9 => lN ((fun _ => 0) j9)), zO q_4 6 [.null]] := hD
  refine lv_dup hx hb dX9_init_22 rfl ?_
  refine lv_sipush (v := nI 4000) hx hb dX9_init_23 (by decide) ?_
  refine z_cv (wc := [zO q_4 6 [.null]]) (va_runI (As := [.int (nI 4000)]) (rest := [.ref q_4, .ref h]) ⟨hx, hb, hml, hown, hts⟩ (c_X5_init l G cy _ q_4 4000 (by omega) (by omega)) (cwI 1 hts gX9_init_X5_init rfl rfl rfl (hts _ (List.mem_of_getElem? (i := 6) (by decide +kernel))) (hts _ (List.mem_of_getElem? (i := 10) (by decide +kernel))) (hts _ (List.mem_of_getElem? (i := 11) (by decide +kernel))) rfl (by decide +kernel) ⟨Nat.le_of_ble_eq_true rfl, Nat.le_of_ble_eq_true rfl⟩) (z_pSM hK hP hD [3] rfl (by decide)) rfl rfl hl.1 rfl (lv_room (Nat.le_of_ble_eq_true rfl)) dX9_init_26 ⟨Nat.le_of_ble_eq_true rfl, Nat.le_of_ble_eq_true rfl⟩) hP hD hS hA [3] [0, 1, 2] [0, 1, 2, 3, 4] [zO h 10 [.ref q_1, .null, .null], zO q_1 6 [.ref qa_3], zL cy qa_3 4000 (fun j9 => lN ((fun _ => 0) j9))] (fun (u : Nat) => [zO h 10 [.ref q_1, .null, .null], zO q_1 6 [.ref qa_3], zL cy qa_3 4000 (fun j9 => lN ((fun _ => 0) j9)), zO q_4 6 [.ref u], zL cy u 4000 (fun j9 => lN ((fun _ => 0) j9))]) rfl rfl (by decide) (fun _ => rfl) (fun u H locs hr_5 hQ hD hS hz => ?_)
  obtain ⟨qa_6, rfl⟩ : ∃ z, z = u := ⟨_, rfl⟩
  try dsimp only at hr_5
  have hP : va_P G vwCl [zO h 10 [.ref q_1, .null, .null], zO q_1 6 [.ref qa_3], zL cy qa_3 4000 (fun j9 => lN ((fun _ => 0) j9)), zO q_4 6 [.ref qa_6], zL cy qa_6 4000 (fun j9 => lN ((fun _ => 0) j9))] H := hQ
  have hD : va_D A [zO h 10 [.ref q_1, .null, .null], zO q_1 6 [.ref qa_3], zL cy qa_3 4000 (fun j9 => lN ((fun _ => 0) j9)), zO q_4 6 [.ref qa_6], zL cy qa_6 4000 (fun j9 => lN ((fun _ => 0) j9))] := hD
  clear hQ
  refine va_putF (D := G) (ci := 10) (v := .ref q_4) (ty := (.object "MeterHouse$Row")) (C := RX9) (T := TX9) (N := 3) hx hb hts in_X9_init_X9 tyX9 tyX9_ok nmX9 hown hK hP hD hS 0 rfl rfl 1 (by decide) (hts _ (List.mem_of_getElem? (i := 8) (by decide +kernel))) (fun _ h9 => h9) rfl hin rfl (by decide +kernel) rfl rfl (Nat.le_of_ble_eq_true rfl) dX9_init_29 (fun H locs hP hD hS => ?_)
  have hP : va_P G vwCl [zO h 10 [.ref q_1, .ref q_4, .null], zO q_1 6 [.ref qa_3], zL cy qa_3 4000 (fun j9 => lN ((fun _ => 0) j9)), zO q_4 6 [.ref qa_6], zL cy qa_6 4000 (fun j9 => lN ((fun _ => 0) j9))] H := hP
  have hD : va_D A [zO h 10 [.ref q_1, .ref q_4, .null], zO q_1 6 [.ref qa_3], zL cy qa_3 4000 (fun j9 => lN ((fun _ => 0) j9)), zO q_4 6 [.ref qa_6], zL cy qa_6 4000 (fun j9 => lN ((fun _ => 0) j9))] := hD
  refine lv_aload_n hx hb dX9_init_32 rfl (lv_at hl 0 rfl) ?_
  refine va_new (ci := 6) (fs := [.null]) (C := RX5) (T := TX5) (N := 1) hx hb hts in_X9_init_X5 tyX5 tyX5_ok hown (hts _ (List.mem_of_getElem? (i := 4) (by decide +kernel))) (hts _ (List.mem_of_getElem? (i := 5) (by decide +kernel))) (hts _ (List.mem_of_getElem? (i := 6) (by decide +kernel))) hK hP hD hS hA rfl (nwf_X5) (Nat.le_of_ble_eq_true rfl) (Nat.le_of_ble_eq_true rfl) dX9_init_33 (fun q_7 H hP hD hS => ?_)
  have hP : va_P G vwCl [zO h 10 [.ref q_1, .ref q_4, .null], zO q_1 6 [.ref qa_3], zL cy qa_3 4000 (fun j9 => lN ((fun _ => 0) j9)), zO q_4 6 [.ref qa_6], zL cy qa_6 4000 (fun j9 => lN ((fun _ => 0) j9)), zO q_7 6 [.null]] H := hP
  have hD : va_D A [zO h 10 [.ref q_1, .ref q_4, .null], zO q_1 6 [.ref qa_3], zL cy qa_3 4000 (fun j9 => lN ((fun _ => 0) j9)), zO q_4 6 [.ref qa_6], zL cy qa_6 4000 (fun j9 => lN ((fun _ => 0) j9)), zO q_7 6 [.null]] := hD
  refine lv_dup hx hb dX9_init_36 rfl ?_
  refine lv_sipush (v := nI 4000) hx hb dX9_init_37 (by decide) ?_
  refine z_cv (wc := [zO q_7 6 [.null]]) (va_runI (As := [.int (nI 4000)]) (rest := [.ref q_7, .ref h]) ⟨hx, hb, hml, hown, hts⟩ (c_X5_init l G cy _ q_7 4000 (by omega) (by omega)) (cwI 1 hts gX9_init_X5_init rfl rfl rfl (hts _ (List.mem_of_getElem? (i := 6) (by decide +kernel))) (hts _ (List.mem_of_getElem? (i := 10) (by decide +kernel))) (hts _ (List.mem_of_getElem? (i := 11) (by decide +kernel))) rfl (by decide +kernel) ⟨Nat.le_of_ble_eq_true rfl, Nat.le_of_ble_eq_true rfl⟩) (z_pSM hK hP hD [5] rfl (by decide)) rfl rfl hl.1 rfl (lv_room (Nat.le_of_ble_eq_true rfl)) dX9_init_40 ⟨Nat.le_of_ble_eq_true rfl, Nat.le_of_ble_eq_true rfl⟩) hP hD hS hA [5] [0, 1, 2, 3, 4] [0, 1, 2, 3, 4, 5, 6] [zO h 10 [.ref q_1, .ref q_4, .null], zO q_1 6 [.ref qa_3], zL cy qa_3 4000 (fun j9 => lN ((fun _ => 0) j9)), zO q_4 6 [.ref qa_6], zL cy qa_6 4000 (fun j9 => lN ((fun _ => 0) j9))] (fun (u : Nat) => [zO h 10 [.ref q_1, .ref q_4, .null], zO q_1 6 [.ref qa_3], zL cy qa_3 4000 (fun j9 => lN ((fun _ => 0) j9)), zO q_4 6 [.ref qa_6], zL cy qa_6 4000 (fun j9 => lN ((fun _ => 0) j9)), zO q_7 6 [.ref u], zL cy u 4000 (fun j9 => lN ((fun _ => 0) j9))]) rfl rfl (by decide) (fun _ => rfl) (fun u H locs hr_8 hQ hD hS hz => ?_)
  obtain ⟨qa_9, rfl⟩ : ∃ z, z = u := ⟨_, rfl⟩
  try dsimp only at hr_8
  have hP : va_P G vwCl [zO h 10 [.ref q_1, .ref q_4, .null], zO q_1 6 [.ref qa_3], zL cy qa_3 4000 (fun j9 => lN ((fun _ => 0) j9)), zO q_4 6 [.ref qa_6], zL cy qa_6 4000 (fun j9 => lN ((fun _ => 0) j9)), zO q_7 6 [.ref qa_9], zL cy qa_9 4000 (fun j9 => lN ((fun _ => 0) j9))] H := hQ
  have hD : va_D A [zO h 10 [.ref q_1, .ref q_4, .null], zO q_1 6 [.ref qa_3], zL cy qa_3 4000 (fun j9 => lN ((fun _ => 0) j9)), zO q_4 6 [.ref qa_6], zL cy qa_6 4000 (fun j9 => lN ((fun _ => 0) j9)), zO q_7 6 [.ref qa_9], zL cy qa_9 4000 (fun j9 => lN ((fun _ => 0) j9))] := hD
  clear hQ
  refine va_putF (D := G) (ci := 10) (v := .ref q_7) (ty := (.object "MeterHouse$Row")) (C := RX9) (T := TX9) (N := 3) hx hb hts in_X9_init_X9 tyX9 tyX9_ok nmX9 hown hK hP hD hS 0 rfl rfl 2 (by decide) (hts _ (List.mem_of_getElem? (i := 9) (by decide +kernel))) (fun _ h9 => h9) rfl hin rfl (by decide +kernel) rfl rfl (Nat.le_of_ble_eq_true rfl) dX9_init_43 (fun H locs hP hD hS => ?_)
  have hP : va_P G vwCl [zO h 10 [.ref q_1, .ref q_4, .ref q_7], zO q_1 6 [.ref qa_3], zL cy qa_3 4000 (fun j9 => lN ((fun _ => 0) j9)), zO q_4 6 [.ref qa_6], zL cy qa_6 4000 (fun j9 => lN ((fun _ => 0) j9)), zO q_7 6 [.ref qa_9], zL cy qa_9 4000 (fun j9 => lN ((fun _ => 0) j9))] H := hP
  have hD : va_D A [zO h 10 [.ref q_1, .ref q_4, .ref q_7], zO q_1 6 [.ref qa_3], zL cy qa_3 4000 (fun j9 => lN ((fun _ => 0) j9)), zO q_4 6 [.ref qa_6], zL cy qa_6 4000 (fun j9 => lN ((fun _ => 0) j9)), zO q_7 6 [.ref qa_9], zL cy qa_9 4000 (fun j9 => lN ((fun _ => 0) j9))] := hD
  exact z_rMv hx hb hr hlk dX9_init_46 (q_1, q_4, q_7, qa_3, qa_6, qa_9) (trivial) hP hD hK hS (Nat.le_of_ble_eq_true rfl) (Nat.le_of_ble_eq_true rfl)
theorem in_X9_tell_X9 : ∀ w ∈ u_ws RX9 TX9 3, w ∈ wsX9_tell := fun _ h => (List.mem_cons_of_mem _ (List.mem_append_left _ (List.mem_append_right _ h)))
set_option maxHeartbeats 4000000 in
set_option maxRecDepth 100000 in
theorem c_X9_tell (l : Launch) (G : va_G) (cy : Nat → ClassId) (sz0 : Nat) (h o1 o2 o3 a1 a2 a3 : Nat) (f b q : Nat → Nat) (sp d x y z : Nat) (hsp : sp < 4) (hd : d < 1000) : Met l yX9_tell wsX9_tell ({ frames := 1, cells := 0, slots := 0, locals := 23 }) (zM G cy [.ref h, .int (nI sp), .int (nI d), .long (lN x), .long (lN y), .long (lN z)] sz0 [zO h 10 [.ref o1, .ref o2, .ref o3], zO o1 6 [.ref a1], zL cy a1 4000 (fun j9 => lN (f j9)), zO o2 6 [.ref a2], zL cy a2 4000 (fun j9 => lN (b j9)), zO o3 6 [.ref a3], zL cy a3 4000 (fun j9 => lN (q j9))]) (va_Qv (fun (_ : Unit) => True) (fun (u : Unit) t9 => zB G cy (va_A [zO h 10 [.ref o1, .ref o2, .ref o3], zO o1 6 [.ref a1], zL cy a1 4000 (fun j9 => lN (f j9)), zO o2 6 [.ref a2], zL cy a2 4000 (fun j9 => lN (b j9)), zO o3 6 [.ref a3], zL cy a3 4000 (fun j9 => lN (q j9))] sz0) [zO h 10 [.ref o1, .ref o2, .ref o3], zO o1 6 [.ref a1], zL cy a1 4000 (fun j9 => lN ((va_up f (sp * 1000 + d) x) j9)), zO o2 6 [.ref a2], zL cy a2 4000 (fun j9 => lN ((va_up b (sp * 1000 + d) y) j9)), zO o3 6 [.ref a3], zL cy a3 4000 (fun j9 => lN ((va_up q (sp * 1000 + d) z) j9))] t9) (va_A [zO h 10 [.ref o1, .ref o2, .ref o3], zO o1 6 [.ref a1], zL cy a1 4000 (fun j9 => lN (f j9)), zO o2 6 [.ref a2], zL cy a2 4000 (fun j9 => lN (b j9)), zO o3 6 [.ref a3], zL cy a3 4000 (fun j9 => lN (q j9))] sz0)) 0 0 (va_A [zO h 10 [.ref o1, .ref o2, .ref o3], zO o1 6 [.ref a1], zL cy a1 4000 (fun j9 => lN (f j9)), zO o2 6 [.ref a2], zL cy a2 4000 (fun j9 => lN (b j9)), zO o3 6 [.ref a3], zL cy a3 4000 (fun j9 => lN (q j9))] sz0) := by
  refine z_ofM (cc := cX9_tell) (maxL := 10) (ret := none) (Qc := (fun A => va_Qv (fun (_ : Unit) => True) (fun (u : Unit) t9 => zB G cy A [zO h 10 [.ref o1, .ref o2, .ref o3], zO o1 6 [.ref a1], zL cy a1 4000 (fun j9 => lN ((va_up f (sp * 1000 + d) x) j9)), zO o2 6 [.ref a2], zL cy a2 4000 (fun j9 => lN ((va_up b (sp * 1000 + d) y) j9)), zO o3 6 [.ref a3], zL cy a3 4000 (fun j9 => lN ((va_up q (sp * 1000 + d) z) j9))] t9) A)) (by decide) rfl (Nat.le_of_ble_eq_true rfl) ?_
  intro p e s m below meth c ls A hx hb hml hr hts hown hlk hin hP hK hD hA hS hl hsz0
  have hown : s.vm.findClass RX9 = some m.cls := hown
  have hl : lv_has ls 10 [(0, .ref h), (1, .int (nI sp)), (2, .int (nI d)), (3, .long (lN x)), (5, .long (lN y)), (7, .long (lN z))] := hl
  refine lv_iload_n hx hb dX9_tell_0 rfl (lv_at hl 1 rfl) ?_
  refine lv_sipush (v := nI 1000) hx hb dX9_tell_1 (by decide) ?_
  refine z_imul hx hb dX9_tell_4 ?_
  refine lv_iload_n hx hb dX9_tell_5 rfl (lv_at hl 2 rfl) ?_
  refine z_iadd hx hb dX9_tell_6 ?_
  refine lv_istore (lv' := [(9, .int (nI ((sp * 1000) + d))), (0, .ref h), (1, .int (nI sp)), (2, .int (nI d)), (3, .long (lN x)), (5, .long (lN y)), (7, .long (lN z))]) hx hb dX9_tell_7 hl (by decide) rfl (fun ls hl => ?_)
  refine lv_aload_n hx hb dX9_tell_9 rfl (lv_at hl 1 rfl) ?_
  refine va_get (D := G) (ci := 10) (v := .ref o1) (C := RX9) (T := TX9) (N := 3) hx hb hts in_X9_tell_X9 hown hK hP 0 rfl rfl 0 (by decide) (hts _ (List.mem_of_getElem? (i := 1) (by decide +kernel))) (fun _ h9 => h9) rfl dX9_tell_10 ?_
  refine lv_iload hx hb dX9_tell_13 (lv_at hl 0 rfl) ?_
  refine lv_lload_n hx hb dX9_tell_15 rfl (lv_at hl 4 rfl) ?_
  refine z_cv (wc := [zO o1 6 [.ref a1], zL cy a1 4000 (fun j9 => lN (f j9))]) (va_runV (As := [.int (nI ((sp * 1000) + d)), .long (lN x)]) (rest := []) ⟨hx, hb, hml, hown, hts⟩ (c_X5_setN l G cy _ o1 a1 4000 f ((sp * 1000) + d) x (by omega) (by omega)) (cwV 2 hts gX9_tell_X5_set rfl rfl rfl (by decide +kernel) ⟨Nat.le_of_ble_eq_true rfl, Nat.le_of_ble_eq_true rfl⟩) (z_pVM hK hP hD [1, 2] rfl (by decide) (ci := 6) (q0 := 0) rfl rfl rfl) rfl rfl hl.1 rfl (lv_room (Nat.le_of_ble_eq_true rfl)) dX9_tell_16 ⟨Nat.le_of_ble_eq_true rfl, Nat.le_of_ble_eq_true rfl⟩) hP hD hS hA [1, 2] [0, 3, 4, 5, 6] [0, 5, 6, 1, 2, 3, 4] [zO h 10 [.ref o1, .ref o2, .ref o3], zO o2 6 [.ref a2], zL cy a2 4000 (fun j9 => lN (b j9)), zO o3 6 [.ref a3], zL cy a3 4000 (fun j9 => lN (q j9))] (fun _ => [zO h 10 [.ref o1, .ref o2, .ref o3], zO o1 6 [.ref a1], zL cy a1 4000 (fun j9 => lN ((va_up f ((sp * 1000) + d) x) j9)), zO o2 6 [.ref a2], zL cy a2 4000 (fun j9 => lN (b j9)), zO o3 6 [.ref a3], zL cy a3 4000 (fun j9 => lN (q j9))]) rfl rfl (by decide) (fun _ => rfl) (fun u H locs hr_1 hQ hD hS hz => ?_)
  have hP : va_P G vwCl [zO h 10 [.ref o1, .ref o2, .ref o3], zO o1 6 [.ref a1], zL cy a1 4000 (fun j9 => lN ((va_up f ((sp * 1000) + d) x) j9)), zO o2 6 [.ref a2], zL cy a2 4000 (fun j9 => lN (b j9)), zO o3 6 [.ref a3], zL cy a3 4000 (fun j9 => lN (q j9))] H := hQ
  have hD : va_D A [zO h 10 [.ref o1, .ref o2, .ref o3], zO o1 6 [.ref a1], zL cy a1 4000 (fun j9 => lN ((va_up f ((sp * 1000) + d) x) j9)), zO o2 6 [.ref a2], zL cy a2 4000 (fun j9 => lN (b j9)), zO o3 6 [.ref a3], zL cy a3 4000 (fun j9 => lN (q j9))] := hD
  clear hQ
  refine lv_aload_n hx hb dX9_tell_19 rfl (lv_at hl 1 rfl) ?_
  refine va_get (D := G) (ci := 10) (v := .ref o2) (C := RX9) (T := TX9) (N := 3) hx hb hts in_X9_tell_X9 hown hK hP 0 rfl rfl 1 (by decide) (hts _ (List.mem_of_getElem? (i := 2) (by decide +kernel))) (fun _ h9 => h9) rfl dX9_tell_20 ?_
  refine lv_iload hx hb dX9_tell_23 (lv_at hl 0 rfl) ?_
  refine lv_lload hx hb dX9_tell_25 (lv_at hl 5 rfl) ?_
  refine z_cv (wc := [zO o2 6 [.ref a2], zL cy a2 4000 (fun j9 => lN (b j9))]) (va_runV (As := [.int (nI ((sp * 1000) + d)), .long (lN y)]) (rest := []) ⟨hx, hb, hml, hown, hts⟩ (c_X5_setN l G cy _ o2 a2 4000 b ((sp * 1000) + d) y (by omega) (by omega)) (cwV 2 hts gX9_tell_X5_set rfl rfl rfl (by decide +kernel) ⟨Nat.le_of_ble_eq_true rfl, Nat.le_of_ble_eq_true rfl⟩) (z_pVM hK hP hD [3, 4] rfl (by decide) (ci := 6) (q0 := 0) rfl rfl rfl) rfl rfl hl.1 rfl (lv_room (Nat.le_of_ble_eq_true rfl)) dX9_tell_27 ⟨Nat.le_of_ble_eq_true rfl, Nat.le_of_ble_eq_true rfl⟩) hP hD hS hA [3, 4] [0, 1, 2, 5, 6] [0, 1, 2, 5, 6, 3, 4] [zO h 10 [.ref o1, .ref o2, .ref o3], zO o1 6 [.ref a1], zL cy a1 4000 (fun j9 => lN ((va_up f ((sp * 1000) + d) x) j9)), zO o3 6 [.ref a3], zL cy a3 4000 (fun j9 => lN (q j9))] (fun _ => [zO h 10 [.ref o1, .ref o2, .ref o3], zO o1 6 [.ref a1], zL cy a1 4000 (fun j9 => lN ((va_up f ((sp * 1000) + d) x) j9)), zO o2 6 [.ref a2], zL cy a2 4000 (fun j9 => lN ((va_up b ((sp * 1000) + d) y) j9)), zO o3 6 [.ref a3], zL cy a3 4000 (fun j9 => lN (q j9))]) rfl rfl (by decide) (fun _ => rfl) (fun u H locs hr_2 hQ hD hS hz => ?_)
  have hP : va_P G vwCl [zO h 10 [.ref o1, .ref o2, .ref o3], zO o1 6 [.ref a1], zL cy a1 4000 (fun j9 => lN ((va_up f ((sp * 1000) + d) x) j9)), zO o2 6 [.ref a2], zL cy a2 4000 (fun j9 => lN ((va_up b ((sp * 1000) + d) y) j9)), zO o3 6 [.ref a3], zL cy a3 4000 (fun j9 => lN (q j9))] H := hQ
  have hD : va_D A [zO h 10 [.ref o1, .ref o2, .ref o3], zO o1 6 [.ref a1], zL cy a1 4000 (fun j9 => lN ((va_up f ((sp * 1000) + d) x) j9)), zO o2 6 [.ref a2], zL cy a2 4000 (fun j9 => lN ((va_up b ((sp * 1000) + d) y) j9)), zO o3 6 [.ref a3], zL cy a3 4000 (fun j9 => lN (q j9))] := hD
  clear hQ
  refine lv_aload_n hx hb dX9_tell_30 rfl (lv_at hl 1 rfl) ?_
  refine va_get (D := G) (ci := 10) (v := .ref o3) (C := RX9) (T := TX9) (N := 3) hx hb hts in_X9_tell_X9 hown hK hP 0 rfl rfl 2 (by decide) (hts _ (List.mem_of_getElem? (i := 3) (by decide +kernel))) (fun _ h9 => h9) rfl dX9_tell_31 ?_
  refine lv_iload hx hb dX9_tell_34 (lv_at hl 0 rfl) ?_
  refine lv_lload hx hb dX9_tell_36 (lv_at hl 6 rfl) ?_
  refine z_cv (wc := [zO o3 6 [.ref a3], zL cy a3 4000 (fun j9 => lN (q j9))]) (va_runV (As := [.int (nI ((sp * 1000) + d)), .long (lN z)]) (rest := []) ⟨hx, hb, hml, hown, hts⟩ (c_X5_setN l G cy _ o3 a3 4000 q ((sp * 1000) + d) z (by omega) (by omega)) (cwV 2 hts gX9_tell_X5_set rfl rfl rfl (by decide +kernel) ⟨Nat.le_of_ble_eq_true rfl, Nat.le_of_ble_eq_true rfl⟩) (z_pVM hK hP hD [5, 6] rfl (by decide) (ci := 6) (q0 := 0) rfl rfl rfl) rfl rfl hl.1 rfl (lv_room (Nat.le_of_ble_eq_true rfl)) dX9_tell_38 ⟨Nat.le_of_ble_eq_true rfl, Nat.le_of_ble_eq_true rfl⟩) hP hD hS hA [5, 6] [0, 1, 2, 3, 4] [0, 1, 2, 3, 4, 5, 6] [zO h 10 [.ref o1, .ref o2, .ref o3], zO o1 6 [.ref a1], zL cy a1 4000 (fun j9 => lN ((va_up f ((sp * 1000) + d) x) j9)), zO o2 6 [.ref a2], zL cy a2 4000 (fun j9 => lN ((va_up b ((sp * 1000) + d) y) j9))] (fun _ => [zO h 10 [.ref o1, .ref o2, .ref o3], zO o1 6 [.ref a1], zL cy a1 4000 (fun j9 => lN ((va_up f ((sp * 1000) + d) x) j9)), zO o2 6 [.ref a2], zL cy a2 4000 (fun j9 => lN ((va_up b ((sp * 1000) + d) y) j9)), zO o3 6 [.ref a3], zL cy a3 4000 (fun j9 => lN ((va_up q ((sp * 1000) + d) z) j9))]) rfl rfl (by decide) (fun _ => rfl) (fun u H locs hr_3 hQ hD hS hz => ?_)
  have hP : va_P G vwCl [zO h 10 [.ref o1, .ref o2, .ref o3], zO o1 6 [.ref a1], zL cy a1 4000 (fun j9 => lN ((va_up f ((sp * 1000) + d) x) j9)), zO o2 6 [.ref a2], zL cy a2 4000 (fun j9 => lN ((va_up b ((sp * 1000) + d) y) j9)), zO o3 6 [.ref a3], zL cy a3 4000 (fun j9 => lN ((va_up q ((sp * 1000) + d) z) j9))] H := hQ
  have hD : va_D A [zO h 10 [.ref o1, .ref o2, .ref o3], zO o1 6 [.ref a1], zL cy a1 4000 (fun j9 => lN ((va_up f ((sp * 1000) + d) x) j9)), zO o2 6 [.ref a2], zL cy a2 4000 (fun j9 => lN ((va_up b ((sp * 1000) + d) y) j9)), zO o3 6 [.ref a3], zL cy a3 4000 (fun j9 => lN ((va_up q ((sp * 1000) + d) z) j9))] := hD
  clear hQ
  exact z_rMv hx hb hr hlk dX9_tell_41 () (trivial) hP hD hK hS (Nat.le_of_ble_eq_true rfl) (Nat.le_of_ble_eq_true rfl)
theorem in_X9_begin_X9 : ∀ w ∈ u_ws RX9 TX9 3, w ∈ wsX9_begin := fun _ h => (List.mem_cons_of_mem _ (List.mem_append_left _ (List.mem_append_right _ h)))
set_option maxHeartbeats 4000000 in
set_option maxRecDepth 100000 in
theorem c_X9_begin (l : Launch) (G : va_G) (cy : Nat → ClassId) (sz0 : Nat) (h o1 o2 o3 a1 a2 a3 : Nat) (f b q : Nat → Nat) (d : Nat) (hd0 : 0 < d) (hd : d < 1000) : Met l yX9_begin wsX9_begin ({ frames := 2, cells := 0, slots := 0, locals := 52 }) (zM G cy [.ref h, .int (nI d)] sz0 [zO h 10 [.ref o1, .ref o2, .ref o3], zO o1 6 [.ref a1], zL cy a1 4000 (fun j9 => lN (f j9)), zO o2 6 [.ref a2], zL cy a2 4000 (fun j9 => lN (b j9)), zO o3 6 [.ref a3], zL cy a3 4000 (fun j9 => lN (q j9))]) (va_Qv (fun (_ : Unit) => True) (fun (u : Unit) t9 => zB G cy (va_A [zO h 10 [.ref o1, .ref o2, .ref o3], zO o1 6 [.ref a1], zL cy a1 4000 (fun j9 => lN (f j9)), zO o2 6 [.ref a2], zL cy a2 4000 (fun j9 => lN (b j9)), zO o3 6 [.ref a3], zL cy a3 4000 (fun j9 => lN (q j9))] sz0) [zO h 10 [.ref o1, .ref o2, .ref o3], zO o1 6 [.ref a1], zL cy a1 4000 (fun j9 => lN ((z_cp f d 4) j9)), zO o2 6 [.ref a2], zL cy a2 4000 (fun j9 => lN ((z_cp b d 4) j9)), zO o3 6 [.ref a3], zL cy a3 4000 (fun j9 => lN ((z_cp q d 4) j9))] t9) (va_A [zO h 10 [.ref o1, .ref o2, .ref o3], zO o1 6 [.ref a1], zL cy a1 4000 (fun j9 => lN (f j9)), zO o2 6 [.ref a2], zL cy a2 4000 (fun j9 => lN (b j9)), zO o3 6 [.ref a3], zL cy a3 4000 (fun j9 => lN (q j9))] sz0)) 0 0 (va_A [zO h 10 [.ref o1, .ref o2, .ref o3], zO o1 6 [.ref a1], zL cy a1 4000 (fun j9 => lN (f j9)), zO o2 6 [.ref a2], zL cy a2 4000 (fun j9 => lN (b j9)), zO o3 6 [.ref a3], zL cy a3 4000 (fun j9 => lN (q j9))] sz0) := by
  refine z_ofM (cc := cX9_begin) (maxL := 4) (ret := none) (Qc := (fun A => va_Qv (fun (_ : Unit) => True) (fun (u : Unit) t9 => zB G cy A [zO h 10 [.ref o1, .ref o2, .ref o3], zO o1 6 [.ref a1], zL cy a1 4000 (fun j9 => lN ((z_cp f d 4) j9)), zO o2 6 [.ref a2], zL cy a2 4000 (fun j9 => lN ((z_cp b d 4) j9)), zO o3 6 [.ref a3], zL cy a3 4000 (fun j9 => lN ((z_cp q d 4) j9))] t9) A)) (by decide) rfl (Nat.le_of_ble_eq_true rfl) ?_
  intro p e s m below meth c ls A hx hb hml hr hts hown hlk hin hP hK hD hA hS hl hsz0
  have hown : s.vm.findClass RX9 = some m.cls := hown
  have hl : lv_has ls 4 [(0, .ref h), (1, .int (nI d))] := hl
  refine lv_iconst (v := nI 0) hx hb dX9_begin_0 (by decide) ?_
  refine lv_istore_n (lv' := [(2, .int (nI 0)), (0, .ref h), (1, .int (nI d))]) hx hb dX9_begin_1 rfl hl (by decide) rfl (fun ls hl => ?_)
  have hloop2 : ∀ (fuel2 : Nat) (j : Nat) (ff : Nat → Nat) (bb : Nat → Nat) (qq : Nat → Nat), (j ≤ 4) → (ff = z_cp f d j) → (bb = z_cp b d j) → (qq = z_cp q d j) → (4 - j) < fuel2 → ∀ (H : Heap) (locs : List Loc), va_P G vwCl [zO h 10 [.ref o1, .ref o2, .ref o3], zO o1 6 [.ref a1], zL cy a1 4000 (fun j9 => lN (ff j9)), zO o2 6 [.ref a2], zL cy a2 4000 (fun j9 => lN (bb j9)), zO o3 6 [.ref a3], zL cy a3 4000 (fun j9 => lN (qq j9))] H → va_D A [zO h 10 [.ref o1, .ref o2, .ref o3], zO o1 6 [.ref a1], zL cy a1 4000 (fun j9 => lN (ff j9)), zO o2 6 [.ref a2], zL cy a2 4000 (fun j9 => lN (bb j9)), zO o3 6 [.ref a3], zL cy a3 4000 (fun j9 => lN (qq j9))] → va_S A s.heap H locs → ∀ (ls : Array Slot), lv_has ls 4 [(0, .ref h), (1, .int (nI d)), (2, .int (nI j))] → W p l e { frames := 2, cells := 0, slots := 0, locals := 52 } s m [.ref h, .int (nI d)].toArray below meth c H locs 0 0 (MQ below (va_Qv (fun (_ : Unit) => True) (fun (u : Unit) t9 => zB G cy A [zO h 10 [.ref o1, .ref o2, .ref o3], zO o1 6 [.ref a1], zL cy a1 4000 (fun j9 => lN ((z_cp f d 4) j9)), zO o2 6 [.ref a2], zL cy a2 4000 (fun j9 => lN ((z_cp b d 4) j9)), zO o3 6 [.ref a3], zL cy a3 4000 (fun j9 => lN ((z_cp q d 4) j9))] t9) A) [.ref h, .int (nI d)].toArray s 0 0 A) (F0 m 2 ls []) := by
    intro fuel2
    induction fuel2 with
    | zero =>
      intro j ff bb qq hi2_0 hi2_1 hi2_2 hi2_3 hfu2
      exact absurd hfu2 (Nat.not_lt_zero _)
    | succ fuel2 ih2 =>
      intro j ff bb qq hi2_0 hi2_1 hi2_2 hi2_3 hfu2 H locs hP hD hS ls hl
      refine lv_iload_n hx hb dX9_begin_2 rfl (lv_at hl 2 rfl) ?_
      refine lv_iconst (v := nI 4) hx hb dX9_begin_3 (by decide) ?_
      refine z_icmp_ge hx hb (by omega) (by omega) dX9_begin_4 (tgt := 53) (by decide) (fun c_1 => ?_) (fun c_1 => ?_)
      · have ej : j = 4 := by omega
        subst ej
        rw [hi2_1, hi2_2, hi2_3] at hP hD
        exact z_rMv hx hb hr hlk dX9_begin_53 () (trivial) hP hD hK hS (Nat.le_of_ble_eq_true rfl) (Nat.le_of_ble_eq_true rfl)
      · refine lv_iload_n hx hb dX9_begin_7 rfl (lv_at hl 2 rfl) ?_
        refine lv_sipush (v := nI 1000) hx hb dX9_begin_8 (by decide) ?_
        refine z_imul hx hb dX9_begin_11 ?_
        refine lv_iload_n hx hb dX9_begin_12 rfl (lv_at hl 1 rfl) ?_
        refine z_iadd hx hb dX9_begin_13 ?_
        refine lv_iconst (v := nI 1) hx hb dX9_begin_14 (by decide) ?_
        refine z_isub hx hb (by omega) dX9_begin_15 ?_
        refine lv_istore_n (lv' := [(3, .int (nI (((j * 1000) + d) - 1))), (0, .ref h), (1, .int (nI d)), (2, .int (nI j))]) hx hb dX9_begin_16 rfl hl (by decide) rfl (fun ls hl => ?_)
        refine lv_aload_n hx hb dX9_begin_17 rfl (lv_at hl 1 rfl) ?_
        refine lv_iload_n hx hb dX9_begin_18 rfl (lv_at hl 3 rfl) ?_
        refine lv_iload_n hx hb dX9_begin_19 rfl (lv_at hl 2 rfl) ?_
        refine lv_aload_n hx hb dX9_begin_20 rfl (lv_at hl 1 rfl) ?_
        refine va_get (D := G) (ci := 10) (v := .ref o1) (C := RX9) (T := TX9) (N := 3) hx hb hts in_X9_begin_X9 hown hK hP 0 rfl rfl 0 (by decide) (hts _ (List.mem_of_getElem? (i := 1) (by decide +kernel))) (fun _ h9 => h9) rfl dX9_begin_21 ?_
        refine lv_iload_n hx hb dX9_begin_24 rfl (lv_at hl 0 rfl) ?_
        refine vp_callSl (va_runV (As := [.int (nI (((j * 1000) + d) - 1))]) (rest := [.int (nI d), .int (nI j), .ref h]) ⟨hx, hb, hml, hown, hts⟩ (c_X5_getN l G cy o1 a1 4000 ff (((j * 1000) + d) - 1) (by omega) (by omega)) (cwV 1 hts gX9_begin_X5_get rfl rfl rfl (by decide +kernel) ⟨Nat.le_of_ble_eq_true rfl, Nat.le_of_ble_eq_true rfl⟩) (z_pV hK hP [1, 2] rfl (ci := 6) (q0 := 0) rfl rfl rfl) rfl rfl hl.1 rfl (lv_room (Nat.le_of_ble_eq_true rfl)) dX9_begin_25 ⟨Nat.le_of_ble_eq_true rfl, Nat.le_of_ble_eq_true rfl⟩).run (fun r_2 hr_2 => ?_)
        obtain rfl : r_2 = (lN (ff (((j * 1000) + d) - 1))) := hr_2
        refine lv_aload_n hx hb dX9_begin_28 rfl (lv_at hl 1 rfl) ?_
        refine va_get (D := G) (ci := 10) (v := .ref o2) (C := RX9) (T := TX9) (N := 3) hx hb hts in_X9_begin_X9 hown hK hP 0 rfl rfl 1 (by decide) (hts _ (List.mem_of_getElem? (i := 2) (by decide +kernel))) (fun _ h9 => h9) rfl dX9_begin_29 ?_
        refine lv_iload_n hx hb dX9_begin_32 rfl (lv_at hl 0 rfl) ?_
        refine vp_callSl (va_runV (As := [.int (nI (((j * 1000) + d) - 1))]) (rest := [.long (lN (ff (((j * 1000) + d) - 1))), .int (nI d), .int (nI j), .ref h]) ⟨hx, hb, hml, hown, hts⟩ (c_X5_getN l G cy o2 a2 4000 bb (((j * 1000) + d) - 1) (by omega) (by omega)) (cwV 1 hts gX9_begin_X5_get rfl rfl rfl (by decide +kernel) ⟨Nat.le_of_ble_eq_true rfl, Nat.le_of_ble_eq_true rfl⟩) (z_pV hK hP [3, 4] rfl (ci := 6) (q0 := 0) rfl rfl rfl) rfl rfl hl.1 rfl (lv_room (Nat.le_of_ble_eq_true rfl)) dX9_begin_33 ⟨Nat.le_of_ble_eq_true rfl, Nat.le_of_ble_eq_true rfl⟩).run (fun r_3 hr_3 => ?_)
        obtain rfl : r_3 = (lN (bb (((j * 1000) + d) - 1))) := hr_3
        refine lv_aload_n hx hb dX9_begin_36 rfl (lv_at hl 1 rfl) ?_
        refine va_get (D := G) (ci := 10) (v := .ref o3) (C := RX9) (T := TX9) (N := 3) hx hb hts in_X9_begin_X9 hown hK hP 0 rfl rfl 2 (by decide) (hts _ (List.mem_of_getElem? (i := 3) (by decide +kernel))) (fun _ h9 => h9) rfl dX9_begin_37 ?_
        refine lv_iload_n hx hb dX9_begin_40 rfl (lv_at hl 0 rfl) ?_
        refine vp_callSl (va_runV (As := [.int (nI (((j * 1000) + d) - 1))]) (rest := [.long (lN (bb (((j * 1000) + d) - 1))), .long (lN (ff (((j * 1000) + d) - 1))), .int (nI d), .int (nI j), .ref h]) ⟨hx, hb, hml, hown, hts⟩ (c_X5_getN l G cy o3 a3 4000 qq (((j * 1000) + d) - 1) (by omega) (by omega)) (cwV 1 hts gX9_begin_X5_get rfl rfl rfl (by decide +kernel) ⟨Nat.le_of_ble_eq_true rfl, Nat.le_of_ble_eq_true rfl⟩) (z_pV hK hP [5, 6] rfl (ci := 6) (q0 := 0) rfl rfl rfl) rfl rfl hl.1 rfl (lv_room (Nat.le_of_ble_eq_true rfl)) dX9_begin_41 ⟨Nat.le_of_ble_eq_true rfl, Nat.le_of_ble_eq_true rfl⟩).run (fun r_4 hr_4 => ?_)
        obtain rfl : r_4 = (lN (qq (((j * 1000) + d) - 1))) := hr_4
        refine z_cv (wc := [zO h 10 [.ref o1, .ref o2, .ref o3], zO o1 6 [.ref a1], zL cy a1 4000 (fun j9 => lN (ff j9)), zO o2 6 [.ref a2], zL cy a2 4000 (fun j9 => lN (bb j9)), zO o3 6 [.ref a3], zL cy a3 4000 (fun j9 => lN (qq j9))]) (va_runV (As := [.int (nI j), .int (nI d), .long (lN (ff (((j * 1000) + d) - 1))), .long (lN (bb (((j * 1000) + d) - 1))), .long (lN (qq (((j * 1000) + d) - 1)))]) (rest := []) ⟨hx, hb, hml, hown, hts⟩ (c_X9_tell l G cy _ h o1 o2 o3 a1 a2 a3 ff bb qq j d (ff (((j * 1000) + d) - 1)) (bb (((j * 1000) + d) - 1)) (qq (((j * 1000) + d) - 1)) (by omega) (by omega)) (cwV 5 hts gX9_begin_X9_tell rfl rfl rfl (by decide +kernel) ⟨Nat.le_of_ble_eq_true rfl, Nat.le_of_ble_eq_true rfl⟩) (z_pVM hK hP hD [0, 1, 2, 3, 4, 5, 6] rfl (by decide) (ci := 10) (q0 := 0) rfl rfl rfl) rfl rfl hl.1 rfl (lv_room (Nat.le_of_ble_eq_true rfl)) dX9_begin_44 ⟨Nat.le_of_ble_eq_true rfl, Nat.le_of_ble_eq_true rfl⟩) hP hD hS hA [0, 1, 2, 3, 4, 5, 6] [] [0, 1, 2, 3, 4, 5, 6] [] (fun _ => [zO h 10 [.ref o1, .ref o2, .ref o3], zO o1 6 [.ref a1], zL cy a1 4000 (fun j9 => lN ((va_up ff (j * 1000 + d) (ff (((j * 1000) + d) - 1))) j9)), zO o2 6 [.ref a2], zL cy a2 4000 (fun j9 => lN ((va_up bb (j * 1000 + d) (bb (((j * 1000) + d) - 1))) j9)), zO o3 6 [.ref a3], zL cy a3 4000 (fun j9 => lN ((va_up qq (j * 1000 + d) (qq (((j * 1000) + d) - 1))) j9))]) rfl rfl (by decide) (fun _ => rfl) (fun u H locs hr_5 hQ hD hS hz => ?_)
        have hP : va_P G vwCl [zO h 10 [.ref o1, .ref o2, .ref o3], zO o1 6 [.ref a1], zL cy a1 4000 (fun j9 => lN ((va_up ff (j * 1000 + d) (ff (((j * 1000) + d) - 1))) j9)), zO o2 6 [.ref a2], zL cy a2 4000 (fun j9 => lN ((va_up bb (j * 1000 + d) (bb (((j * 1000) + d) - 1))) j9)), zO o3 6 [.ref a3], zL cy a3 4000 (fun j9 => lN ((va_up qq (j * 1000 + d) (qq (((j * 1000) + d) - 1))) j9))] H := hQ
        have hD : va_D A [zO h 10 [.ref o1, .ref o2, .ref o3], zO o1 6 [.ref a1], zL cy a1 4000 (fun j9 => lN ((va_up ff (j * 1000 + d) (ff (((j * 1000) + d) - 1))) j9)), zO o2 6 [.ref a2], zL cy a2 4000 (fun j9 => lN ((va_up bb (j * 1000 + d) (bb (((j * 1000) + d) - 1))) j9)), zO o3 6 [.ref a3], zL cy a3 4000 (fun j9 => lN ((va_up qq (j * 1000 + d) (qq (((j * 1000) + d) - 1))) j9))] := hD
        clear hQ
        refine lv_iinc (v := (nI (j + 1))) (lv' := [(2, .int (nI (j + 1))), (3, .int (nI (((j * 1000) + d) - 1))), (0, .ref h), (1, .int (nI d))]) hx hb dX9_begin_47 hl (k := 3) rfl (nI_add _ _) (by decide) rfl (fun ls hl => ?_)
        refine lv_goto (tgt := 2) hx hb dX9_begin_50 (by decide) ?_
        exact ih2 (j + 1) (va_up ff (j * 1000 + d) (ff (((j * 1000) + d) - 1))) (va_up bb (j * 1000 + d) (bb (((j * 1000) + d) - 1))) (va_up qq (j * 1000 + d) (qq (((j * 1000) + d) - 1))) (by omega) (by rw [hi2_1]; exact z_cp_up hd0 hd) (by rw [hi2_2]; exact z_cp_up hd0 hd) (by rw [hi2_3]; exact z_cp_up hd0 hd) (by omega) _ _ hP hD hS _ (lv_sub hl [2, 3, 0] rfl)
  exact hloop2 (4 - 0 + 1) 0 f b q (by omega) (z_cp_0.symm) (z_cp_0.symm) (z_cp_0.symm) (by omega) _ _ hP hD hS _ (lv_sub hl [1, 2, 0] rfl)
theorem in_X9_cost_X9 : ∀ w ∈ u_ws RX9 TX9 3, w ∈ wsX9_cost := fun _ h => (List.mem_cons_of_mem _ (List.mem_append_left _ (List.mem_append_right _ h)))
set_option maxHeartbeats 4000000 in
set_option maxRecDepth 100000 in
theorem c_X9_cost (l : Launch) (G : va_G) (cy : Nat → ClassId) (h o1 o2 o3 a1 a2 a3 : Nat) (f b q : Nat → Nat) (sp d u9 : Nat) (hsp : sp < 4) (hd : d < 1000) (hu : u9 < 2 ^ 62) (hb9 : b (sp * 1000 + d) < 2 ^ 62) : Met l yX9_cost wsX9_cost ({ frames := 1, cells := 0, slots := 0, locals := 21 }) (zS G cy [.ref h, .int (nI sp), .int (nI d), .long (lN u9)] [zO h 10 [.ref o1, .ref o2, .ref o3], zO o1 6 [.ref a1], zL cy a1 4000 (fun j9 => lN (f j9)), zO o2 6 [.ref a2], zL cy a2 4000 (fun j9 => lN (b j9)), zO o3 6 [.ref a3], zL cy a3 4000 (fun j9 => lN (q j9))]) (vp_Sl (fun r => r = (lN (z_cost u9 (f (sp * 1000 + d)) (b (sp * 1000 + d)) (q (sp * 1000 + d)))))) 0 0 (fun _ => False) := by
  refine z_ofS (cc := cX9_cost) (maxL := 8) (ret := (some .long)) (by decide) rfl (Nat.le_of_ble_eq_true rfl) ?_
  intro p e s m below meth c ls hx hb hml hr hts hown hlk hP hK hl
  have hown : s.vm.findClass RX9 = some m.cls := hown
  have hl : lv_has ls 8 [(0, .ref h), (1, .int (nI sp)), (2, .int (nI d)), (3, .long (lN u9))] := hl
  refine lv_iload_n hx hb dX9_cost_0 rfl (lv_at hl 1 rfl) ?_
  refine lv_sipush (v := nI 1000) hx hb dX9_cost_1 (by decide) ?_
  refine z_imul hx hb dX9_cost_4 ?_
  refine lv_iload_n hx hb dX9_cost_5 rfl (lv_at hl 2 rfl) ?_
  refine z_iadd hx hb dX9_cost_6 ?_
  refine lv_istore (lv' := [(5, .int (nI ((sp * 1000) + d))), (0, .ref h), (1, .int (nI sp)), (2, .int (nI d)), (3, .long (lN u9))]) hx hb dX9_cost_7 hl (by decide) rfl (fun ls hl => ?_)
  refine lv_lload_n hx hb dX9_cost_9 rfl (lv_at hl 4 rfl) ?_
  refine lv_aload_n hx hb dX9_cost_10 rfl (lv_at hl 1 rfl) ?_
  refine va_get (D := G) (ci := 10) (v := .ref o2) (C := RX9) (T := TX9) (N := 3) hx hb hts in_X9_cost_X9 hown hK hP 0 rfl rfl 1 (by decide) (hts _ (List.mem_of_getElem? (i := 1) (by decide +kernel))) (fun _ h9 => h9) rfl dX9_cost_11 ?_
  refine lv_iload hx hb dX9_cost_14 (lv_at hl 0 rfl) ?_
  refine vp_callSl (va_runV (As := [.int (nI ((sp * 1000) + d))]) (rest := [.long (lN u9)]) ⟨hx, hb, hml, hown, hts⟩ (c_X5_getN l G cy o2 a2 4000 b ((sp * 1000) + d) (by omega) (by omega)) (cwV 1 hts gX9_cost_X5_get rfl rfl rfl (by decide +kernel) ⟨Nat.le_of_ble_eq_true rfl, Nat.le_of_ble_eq_true rfl⟩) (z_pV hK hP [3, 4] rfl (ci := 6) (q0 := 0) rfl rfl rfl) rfl rfl hl.1 rfl (lv_room (Nat.le_of_ble_eq_true rfl)) dX9_cost_16 ⟨Nat.le_of_ble_eq_true rfl, Nat.le_of_ble_eq_true rfl⟩).run (fun r_1 hr_1 => ?_)
  obtain rfl : r_1 = (lN (b ((sp * 1000) + d))) := hr_1
  refine va_mmin_long hx hb (by rw [hml]; exact hl.1.symm) hown (hts _ (List.mem_of_getElem? (i := 2) (by decide +kernel))) (hts _ (List.mem_of_getElem? (i := 3) (by decide +kernel))) (hts _ (List.mem_of_getElem? (i := 4) (by decide +kernel))) (hts _ (List.mem_of_getElem? (i := 5) (by decide +kernel))) (Nat.le_of_ble_eq_true rfl) (Nat.le_of_ble_eq_true rfl) (Nat.le_of_ble_eq_true rfl) (Nat.le_of_ble_eq_true rfl) dX9_cost_19 ?_
  rw [z_min (by omega) (by omega)]
  refine lv_lstore (lv' := [(6, .long (lN (if b ((sp * 1000) + d) < u9 then b ((sp * 1000) + d) else u9))), (5, .int (nI ((sp * 1000) + d))), (0, .ref h), (1, .int (nI sp)), (2, .int (nI d)), (3, .long (lN u9))]) hx hb dX9_cost_22 hl (by decide) rfl (fun ls hl => ?_)
  refine lv_lload hx hb dX9_cost_24 (lv_at hl 0 rfl) ?_
  refine lv_aload_n hx hb dX9_cost_26 rfl (lv_at hl 2 rfl) ?_
  refine va_get (D := G) (ci := 10) (v := .ref o1) (C := RX9) (T := TX9) (N := 3) hx hb hts in_X9_cost_X9 hown hK hP 0 rfl rfl 0 (by decide) (hts _ (List.mem_of_getElem? (i := 6) (by decide +kernel))) (fun _ h9 => h9) rfl dX9_cost_27 ?_
  refine lv_iload hx hb dX9_cost_30 (lv_at hl 1 rfl) ?_
  refine vp_callSl (va_runV (As := [.int (nI ((sp * 1000) + d))]) (rest := [.long (lN (if b ((sp * 1000) + d) < u9 then b ((sp * 1000) + d) else u9))]) ⟨hx, hb, hml, hown, hts⟩ (c_X5_getN l G cy o1 a1 4000 f ((sp * 1000) + d) (by omega) (by omega)) (cwV 1 hts gX9_cost_X5_get rfl rfl rfl (by decide +kernel) ⟨Nat.le_of_ble_eq_true rfl, Nat.le_of_ble_eq_true rfl⟩) (z_pV hK hP [1, 2] rfl (ci := 6) (q0 := 0) rfl rfl rfl) rfl rfl hl.1 rfl (lv_room (Nat.le_of_ble_eq_true rfl)) dX9_cost_32 ⟨Nat.le_of_ble_eq_true rfl, Nat.le_of_ble_eq_true rfl⟩).run (fun r_2 hr_2 => ?_)
  obtain rfl : r_2 = (lN (f ((sp * 1000) + d))) := hr_2
  refine z_lmul hx hb dX9_cost_35 ?_
  refine lv_lload_n hx hb dX9_cost_36 rfl (lv_at hl 5 rfl) ?_
  refine lv_lload hx hb dX9_cost_37 (lv_at hl 0 rfl) ?_
  refine z_lsub hx hb (by split <;> omega) dX9_cost_39 ?_
  refine lv_aload_n hx hb dX9_cost_40 rfl (lv_at hl 2 rfl) ?_
  refine va_get (D := G) (ci := 10) (v := .ref o3) (C := RX9) (T := TX9) (N := 3) hx hb hts in_X9_cost_X9 hown hK hP 0 rfl rfl 2 (by decide) (hts _ (List.mem_of_getElem? (i := 7) (by decide +kernel))) (fun _ h9 => h9) rfl dX9_cost_41 ?_
  refine lv_iload hx hb dX9_cost_44 (lv_at hl 1 rfl) ?_
  refine vp_callSl (va_runV (As := [.int (nI ((sp * 1000) + d))]) (rest := [.long (lN (u9 - (if b ((sp * 1000) + d) < u9 then b ((sp * 1000) + d) else u9))), .long (lN ((if b ((sp * 1000) + d) < u9 then b ((sp * 1000) + d) else u9) * (f ((sp * 1000) + d))))]) ⟨hx, hb, hml, hown, hts⟩ (c_X5_getN l G cy o3 a3 4000 q ((sp * 1000) + d) (by omega) (by omega)) (cwV 1 hts gX9_cost_X5_get rfl rfl rfl (by decide +kernel) ⟨Nat.le_of_ble_eq_true rfl, Nat.le_of_ble_eq_true rfl⟩) (z_pV hK hP [5, 6] rfl (ci := 6) (q0 := 0) rfl rfl rfl) rfl rfl hl.1 rfl (lv_room (Nat.le_of_ble_eq_true rfl)) dX9_cost_46 ⟨Nat.le_of_ble_eq_true rfl, Nat.le_of_ble_eq_true rfl⟩).run (fun r_3 hr_3 => ?_)
  obtain rfl : r_3 = (lN (q ((sp * 1000) + d))) := hr_3
  refine z_lmul hx hb dX9_cost_49 ?_
  refine z_ladd hx hb dX9_cost_50 ?_
  exact z_rSl hx hb hr hlk dX9_cost_51 (rfl)
