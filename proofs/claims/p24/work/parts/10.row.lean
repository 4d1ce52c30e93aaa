theorem in_X5_get_X5 : ∀ w ∈ u_ws RX5 TX5 1, w ∈ wsX5_get := fun _ h => (List.mem_cons_of_mem _ (List.mem_append_right _ h))
set_option maxHeartbeats 4000000 in
set_option maxRecDepth 100000 in
theorem c_X5_get (l : Launch) (G : va_G) (cy : Nat → ClassId) (h a n : Nat) (f : Nat → Int64) (i : Nat) (hn : n < 2 ^ 31) (hi : i < n) : Met l yX5_get wsX5_get ({ frames := 0, cells := 0, slots := 0, locals := 0 }) (zS G cy [.ref h, .int (nI i)] [zO h 6 [.ref a], zL cy a n f]) (vp_Sl (fun r => r = (f i))) 0 0 (fun _ => False) := by
  refine z_ofS (cc := cX5_get) (maxL := 2) (ret := (some .long)) (by decide) rfl (Nat.le_of_ble_eq_true rfl) ?_
  intro p e s m below meth c ls hx hb hml hr hts hown hlk hP hK hl
  have hown : s.vm.findClass RX5 = some m.cls := hown
  have hl : lv_has ls 2 [(0, .ref h), (1, .int (nI i))] := hl
  refine lv_iload_n hx hb dX5_get_0 rfl (lv_at hl 1 rfl) ?_
  refine z_if_lt hx hb (by omega) dX5_get_1 (tgt := 22) (by decide) ?_
  refine lv_iload_n hx hb dX5_get_4 rfl (lv_at hl 1 rfl) ?_
  refine lv_aload_n hx hb dX5_get_5 rfl (lv_at hl 0 rfl) ?_
  refine va_get (D := G) (ci := 6) (v := .ref a) (C := RX5) (T := TX5) (N := 1) hx hb hts in_X5_get_X5 hown hK hP 0 rfl rfl 0 (by decide) (hts _ (List.mem_of_getElem? (i := 1) (by decide +kernel))) (fun _ h9 => h9) rfl dX5_get_6 ?_
  refine va_alen (D := G) hx hb hK hP 1 1 rfl rfl (v := nI n) rfl dX5_get_9 ?_
  refine z_icmp_ge hx hb (by omega) (by omega) dX5_get_10 (tgt := 22) (by decide) (fun c_2 => ?_) (fun c_2 => ?_)
  · exfalso; omega
  · refine lv_aload_n hx hb dX5_get_13 rfl (lv_at hl 0 rfl) ?_
    refine va_get (D := G) (ci := 6) (v := .ref a) (C := RX5) (T := TX5) (N := 1) hx hb hts in_X5_get_X5 hown hK hP 0 rfl rfl 0 (by decide) (hts _ (List.mem_of_getElem? (i := 1) (by decide +kernel))) (fun _ h9 => h9) rfl dX5_get_14 ?_
    refine lv_iload_n hx hb dX5_get_17 rfl (lv_at hl 1 rfl) ?_
    refine z_lald (G := G) (v := (f i)) hx hb hK hP 1 rfl (by omega) rfl dX5_get_18 ?_
    refine lv_goto (tgt := 23) hx hb dX5_get_19 (by decide) ?_
    exact z_rSl hx hb hr hlk dX5_get_23 (rfl)
theorem c_X5_getN (l : Launch) (G : va_G) (cy : Nat → ClassId) (h a n : Nat) (g : Nat → Nat) (i : Nat) (hn : n < 2 ^ 31) (hi : i < n) : Met l yX5_get wsX5_get ({ frames := 0, cells := 0, slots := 0, locals := 0 }) (zS G cy [.ref h, .int (nI i)] [zO h 6 [.ref a], zL cy a n (fun j9 => lN (g j9))]) (vp_Sl (fun r => r = (lN (g i)))) 0 0 (fun _ => False) := by
  exact c_X5_get l G cy h a n (fun j9 => lN (g j9)) i hn hi
theorem in_X5_set_X5 : ∀ w ∈ u_ws RX5 TX5 1, w ∈ wsX5_set := fun _ h => (List.mem_cons_of_mem _ (List.mem_append_right _ h))
set_option maxHeartbeats 4000000 in
set_option maxRecDepth 100000 in
theorem c_X5_set (l : Launch) (G : va_G) (cy : Nat → ClassId) (sz0 : Nat) (h a n : Nat) (f : Nat → Int64) (i : Nat) (x : Int64) (hn : n < 2 ^ 31) (hi : i < n) : Met l yX5_set wsX5_set ({ frames := 0, cells := 0, slots := 0, locals := 0 }) (zM G cy [.ref h, .int (nI i), .long x] sz0 [zO h 6 [.ref a], zL cy a n f]) (va_Qv (fun (_ : Unit) => True) (fun (u : Unit) t9 => zB G cy (va_A [zO h 6 [.ref a], zL cy a n f] sz0) [zO h 6 [.ref a], zL cy a n (vp_updL f i x)] t9) (va_A [zO h 6 [.ref a], zL cy a n f] sz0)) 0 0 (va_A [zO h 6 [.ref a], zL cy a n f] sz0) := by
  refine z_ofM (cc := cX5_set) (maxL := 4) (ret := none) (Qc := (fun A => va_Qv (fun (_ : Unit) => True) (fun (u : Unit) t9 => zB G cy A [zO h 6 [.ref a], zL cy a n (vp_updL f i x)] t9) A)) (by decide) rfl (Nat.le_of_ble_eq_true rfl) ?_
  intro p e s m below meth c ls A hx hb hml hr hts hown hlk hin hP hK hD hA hS hl hsz0
  have hown : s.vm.findClass RX5 = some m.cls := hown
  have hl : lv_has ls 4 [(0, .ref h), (1, .int (nI i)), (2, .long x)] := hl
  refine lv_iload_n hx hb dX5_set_0 rfl (lv_at hl 1 rfl) ?_
  refine z_if_lt hx hb (by omega) dX5_set_1 (tgt := 20) (by decide) ?_
  refine lv_iload_n hx hb dX5_set_4 rfl (lv_at hl 1 rfl) ?_
  refine lv_aload_n hx hb dX5_set_5 rfl (lv_at hl 0 rfl) ?_
  refine va_get (D := G) (ci := 6) (v := .ref a) (C := RX5) (T := TX5) (N := 1) hx hb hts in_X5_set_X5 hown hK hP 0 rfl rfl 0 (by decide) (hts _ (List.mem_of_getElem? (i := 1) (by decide +kernel))) (fun _ h9 => h9) rfl dX5_set_6 ?_
  refine va_alen (D := G) hx hb hK hP 1 1 rfl rfl (v := nI n) rfl dX5_set_9 ?_
  refine z_icmp_ge hx hb (by omega) (by omega) dX5_set_10 (tgt := 20) (by decide) (fun c_2 => ?_) (fun c_2 => ?_)
  · exfalso; omega
  · refine lv_aload_n hx hb dX5_set_13 rfl (lv_at hl 0 rfl) ?_
    refine va_get (D := G) (ci := 6) (v := .ref a) (C := RX5) (T := TX5) (N := 1) hx hb hts in_X5_set_X5 hown hK hP 0 rfl rfl 0 (by decide) (hts _ (List.mem_of_getElem? (i := 1) (by decide +kernel))) (fun _ h9 => h9) rfl dX5_set_14 ?_
    refine lv_iload_n hx hb dX5_set_17 rfl (lv_at hl 1 rfl) ?_
    refine lv_lload_n hx hb dX5_set_18 rfl (lv_at hl 2 rfl) ?_
    refine z_last (G := G) hx hb hK hP hD hS 1 rfl (by omega) dX5_set_19 (fun H locs hP hD hS => ?_)
    have hP : va_P G vwCl [zO h 6 [.ref a], zL cy a n (vp_updL f i x)] H := hP
    have hD : va_D A [zO h 6 [.ref a], zL cy a n (vp_updL f i x)] := hD
    exact z_rMv hx hb hr hlk dX5_set_20 () (trivial) hP hD hK hS (Nat.le_of_ble_eq_true rfl) (Nat.le_of_ble_eq_true rfl)
theorem c_X5_setN (l : Launch) (G : va_G) (cy : Nat → ClassId) (sz0 : Nat) (h a n : Nat) (g : Nat → Nat) (i : Nat) (x : Nat) (hn : n < 2 ^ 31) (hi : i < n) : Met l yX5_set wsX5_set ({ frames := 0, cells := 0, slots := 0, locals := 0 }) (zM G cy [.ref h, .int (nI i), .long (lN x)] sz0 [zO h 6 [.ref a], zL cy a n (fun j9 => lN (g j9))]) (va_Qv (fun (_ : Unit) => True) (fun (u : Unit) t9 => zB G cy (va_A [zO h 6 [.ref a], zL cy a n (fun j9 => lN (g j9))] sz0) [zO h 6 [.ref a], zL cy a n (fun j9 => lN ((va_up g i x) j9))] t9) (va_A [zO h 6 [.ref a], zL cy a n (fun j9 => lN (g j9))] sz0)) 0 0 (va_A [zO h 6 [.ref a], zL cy a n (fun j9 => lN (g j9))] sz0) := by
  have := c_X5_set l G cy sz0 h a n (fun j9 => lN (g j9)) i (lN x) hn hi
  rw [z_upL] at this
  exact this
set_option maxHeartbeats 4000000 in
set_option maxRecDepth 100000 in
theorem c_X5_add (l : Launch) (G : va_G) (cy : Nat → ClassId) (sz0 : Nat) (h a n : Nat) (f : Nat → Int64) (i : Nat) (x : Int64) (hn : n < 2 ^ 31) (hi : i < n) : Met l yX5_add wsX5_add ({ frames := 1, cells := 0, slots := 0, locals := 23 }) (zM G cy [.ref h, .int (nI i), .long x] sz0 [zO h 6 [.ref a], zL cy a n f]) (va_Qv (fun (_ : Unit) => True) (fun (u : Unit) t9 => zB G cy (va_A [zO h 6 [.ref a], zL cy a n f] sz0) [zO h 6 [.ref a], zL cy a n (vp_updL f i (f i + x))] t9) (va_A [zO h 6 [.ref a], zL cy a n f] sz0)) 0 0 (va_A [zO h 6 [.ref a], zL cy a n f] sz0) := by
  refine z_ofM (cc := cX5_add) (maxL := 4) (ret := none) (Qc := (fun A => va_Qv (fun (_ : Unit) => True) (fun (u : Unit) t9 => zB G cy A [zO h 6 [.ref a], zL cy a n (vp_updL f i (f i + x))] t9) A)) (by decide) rfl (Nat.le_of_ble_eq_true rfl) ?_
  intro p e s m below meth c ls A hx hb hml hr hts hown hlk hin hP hK hD hA hS hl hsz0
  have hown : s.vm.findClass RX5 = some m.cls := hown
  have hl : lv_has ls 4 [(0, .ref h), (1, .int (nI i)), (2, .long x)] := hl
  refine lv_aload_n hx hb dX5_add_0 rfl (lv_at hl 0 rfl) ?_
  refine lv_iload_n hx hb dX5_add_1 rfl (lv_at hl 1 rfl) ?_
  refine lv_aload_n hx hb dX5_add_2 rfl (lv_at hl 0 rfl) ?_
  refine lv_iload_n hx hb dX5_add_3 rfl (lv_at hl 1 rfl) ?_
  refine vp_callSl (va_runV (As := [.int (nI i)]) (rest := [.int (nI i), .ref h]) ⟨hx, hb, hml, hown, hts⟩ (c_X5_get l G cy h a n f i (by omega) (by omega)) (cwV 1 hts gX5_add_X5_get rfl rfl rfl (by decide +kernel) ⟨Nat.le_of_ble_eq_true rfl, Nat.le_of_ble_eq_true rfl⟩) (z_pV hK hP [0, 1] rfl (ci := 6) (q0 := 0) rfl rfl rfl) rfl rfl hl.1 rfl (lv_room (Nat.le_of_ble_eq_true rfl)) dX5_add_4 ⟨Nat.le_of_ble_eq_true rfl, Nat.le_of_ble_eq_true rfl⟩).run (fun r_1 hr_1 => ?_)
  obtain rfl : r_1 = (f i) := hr_1
  refine lv_lload_n hx hb dX5_add_7 rfl (lv_at hl 2 rfl) ?_
  refine lv_ladd hx hb dX5_add_8 ?_
  refine z_cv (wc := [zO h 6 [.ref a], zL cy a n f]) (va_runV (As := [.int (nI i), .long ((f i) + x)]) (rest := []) ⟨hx, hb, hml, hown, hts⟩ (c_X5_set l G cy _ h a n f i ((f i) + x) (by omega) (by omega)) (cwV 2 hts gX5_add_X5_set rfl rfl rfl (by decide +kernel) ⟨Nat.le_of_ble_eq_true rfl, Nat.le_of_ble_eq_true rfl⟩) (z_pVM hK hP hD [0, 1] rfl (by decide) (ci := 6) (q0 := 0) rfl rfl rfl) rfl rfl hl.1 rfl (lv_room (Nat.le_of_ble_eq_true rfl)) dX5_add_9 ⟨Nat.le_of_ble_eq_true rfl, Nat.le_of_ble_eq_true rfl⟩) hP hD hS hA [0, 1] [] [0, 1] [] (fun _ => [zO h 6 [.ref a], zL cy a n (vp_updL f i ((f i) + x))]) rfl rfl (by decide) (fun _ => rfl) (fun u H locs hr_2 hQ hD hS hz => ?_)
  have hP : va_P G vwCl [zO h 6 [.ref a], zL cy a n (vp_updL f i ((f i) + x))] H := hQ
  have hD : va_D A [zO h 6 [.ref a], zL cy a n (vp_updL f i ((f i) + x))] := hD
  clear hQ
  exact z_rMv hx hb hr hlk dX5_add_12 () (trivial) hP hD hK hS (Nat.le_of_ble_eq_true rfl) (Nat.le_of_ble_eq_true rfl)
theorem c_X5_addN (l : Launch) (G : va_G) (cy : Nat → ClassId) (sz0 : Nat) (h a n : Nat) (g : Nat → Nat) (i : Nat) (x : Nat) (hn : n < 2 ^ 31) (hi : i < n) : Met l yX5_add wsX5_add ({ frames := 1, cells := 0, slots := 0, locals := 23 }) (zM G cy [.ref h, .int (nI i), .long (lN x)] sz0 [zO h 6 [.ref a], zL cy a n (fun j9 => lN (g j9))]) (va_Qv (fun (_ : Unit) => True) (fun (u : Unit) t9 => zB G cy (va_A [zO h 6 [.ref a], zL cy a n (fun j9 => lN (g j9))] sz0) [zO h 6 [.ref a], zL cy a n (fun j9 => lN ((va_up g i (g i + x)) j9))] t9) (va_A [zO h 6 [.ref a], zL cy a n (fun j9 => lN (g j9))] sz0)) 0 0 (va_A [zO h 6 [.ref a], zL cy a n (fun j9 => lN (g j9))] sz0) := by
  have := c_X5_add l G cy sz0 h a n (fun j9 => lN (g j9)) i (lN x) hn hi
  rw [show (fun j9 => lN (g j9)) i + lN x = lN (g i + x) from lN_add _ _, z_upL] at this
  exact this
theorem in_X5_init_X5 : ∀ w ∈ u_ws RX5 TX5 1, w ∈ wsX5_init := fun _ h => (List.mem_cons_of_mem _ (List.mem_append_right _ h))
set_option maxHeartbeats 4000000 in
set_option maxRecDepth 100000 in
theorem c_X5_init (l : Launch) (G : va_G) (cy : Nat → ClassId) (sz0 : Nat) (h n : Nat) (h0 : 0 < n) (hn : n < 2 ^ 25) : Met l yX5_init wsX5_init ({ frames := 1, cells := 1, slots := n, locals := 12 }) (zM G cy [.ref h, .int (nI n)] sz0 [zO h 6 [.null]]) (va_Qv (fun (_ : Nat) => True) (fun (u : Nat) t9 => zB G cy (va_A [zO h 6 [.null]] sz0) [zO h 6 [.ref u], zL cy u n (fun j9 => lN ((fun _ => 0) j9))] t9) (va_A [zO h 6 [.null]] sz0)) 1 n (va_A [zO h 6 [.null]] sz0) := by
  refine z_ofM (cc := cX5_init) (maxL := 2) (ret := none) (Qc := (fun A => va_Qv (fun (_ : Nat) => True) (fun (u : Nat) t9 => zB G cy A [zO h 6 [.ref u], zL cy u n (fun j9 => lN ((fun _ => 0) j9))] t9) A)) (by decide) rfl (Nat.le_of_ble_eq_true rfl) ?_
  intro p e s m below meth c ls A hx hb hml hr hts hown hlk hin hP hK hD hA hS hl hsz0
  have hown : s.vm.findClass RX5 = some m.cls := hown
  have hl : lv_has ls 2 [(0, .ref h), (1, .int (nI n))] := hl
  have hin : meth.name = "<init>" := hin
  refine lv_aload_n hx hb dX5_init_0 rfl (lv_at hl 0 rfl) ?_
  refine W.objInit hx hb hown (hts _ (List.mem_of_getElem? (i := 1) (by decide +kernel))) (hts _ (List.mem_of_getElem? (i := 2) (by decide +kernel))) (hts _ (List.mem_of_getElem? (i := 3) (by decide +kernel))) rfl (by rw [hml]; exact hl.1) rfl dX5_init_1 (Nat.le_of_ble_eq_true rfl) (Nat.le_of_ble_eq_true rfl) ?_
  refine W.eq (g2 := F0 m 4 ls []) rfl ?_
  refine lv_aload_n hx hb dX5_init_4 rfl (lv_at hl 0 rfl) ?_
  refine lv_iload_n hx hb dX5_init_5 rfl (lv_at hl 1 rfl) ?_
  refine z_if_le hx hb (by omega) dX5_init_6 (tgt := 13) (by decide) (fun c_1 => ?_) (fun c_1 => ?_)
  · exfalso; omega
  · refine lv_iload_n hx hb dX5_init_9 rfl (lv_at hl 1 rfl) ?_
    refine lv_goto (tgt := 14) hx hb dX5_init_10 (by decide) ?_
    refine z_newL (G := G) (N := n) hx hb (hts _ (List.mem_of_getElem? (i := 4) (by decide +kernel))) hK hP hD hS hA (by omega) (Nat.le_of_ble_eq_true rfl) (Nat.le_of_eq (Nat.zero_add _)) dX5_init_14 (fun q_2 H hP hD hS => ?_)
    have hP : va_P G vwCl [zO h 6 [.null], zL cy q_2 n (fun j9 => lN ((fun _ => 0) j9))] H := hP
    have hD : va_D A [zO h 6 [.null], zL cy q_2 n (fun j9 => lN ((fun _ => 0) j9))] := hD
    refine va_putF (D := G) (ci := 6) (v := .ref q_2) (ty := (.array .long)) (C := RX5) (T := TX5) (N := 1) hx hb hts in_X5_init_X5 tyX5 tyX5_ok nmX5 hown hK hP hD hS 0 rfl rfl 0 (by decide) (hts _ (List.mem_of_getElem? (i := 5) (by decide +kernel))) (fun _ h9 => h9) rfl hin rfl (by decide +kernel) rfl rfl (Nat.le_of_ble_eq_true rfl) dX5_init_16 (fun H locs hP hD hS => ?_)
    have hP : va_P G vwCl [zO h 6 [.ref q_2], zL cy q_2 n (fun j9 => lN ((fun _ => 0) j9))] H := hP
    have hD : va_D A [zO h 6 [.ref q_2], zL cy q_2 n (fun j9 => lN ((fun _ => 0) j9))] := hD
    exact z_rMv hx hb hr hlk dX5_init_19 q_2 (trivial) hP hD hK hS (Nat.le_of_ble_eq_true rfl) (Nat.le_of_eq (Nat.zero_add _))
