theorem in_X10_weather_X10 : ∀ w ∈ u_ws RX10 TX10 10, w ∈ wsX10_weather := fun _ h => (List.mem_cons_of_mem _ (List.mem_append_left _ (List.mem_append_left _ (List.mem_append_left _ (List.mem_append_left _ (List.mem_append_right _ h))))))
set_option maxHeartbeats 4000000 in
set_option maxRecDepth 100000 in
theorem e1_X10_weather (l : Launch) (hl9 : l.stackTraces = false) (G : va_G) (cy : Nat → ClassId) (N0 sz0 : Nat) (a : Nat → Nat) (nc np T : Nat) (hT : T ≤ 900) (x y y9 : Int32) (hx9 : ¬ ((T : Int) ≤ x.toInt ∧ x.toInt ≤ y.toInt ∧ y.toInt < 1000)) : vx_Met l yX10_weather wsX10_weather ({ frames := 6, cells := 1, slots := 6, locals := 82 }) (zX G cy N0 [.ref (a 0), .int x, .int y, .int y9] sz0 [zO (a 0) 11 [.ref (a 1), .ref (a 4), .ref (a 11), .ref (a 18), .ref (a 20), .ref (a 34), .ref (a 36), .int (nI nc), .int (nI np), .int (nI T)]]) zNo (zXC G cy (va_A [zO (a 0) 11 [.ref (a 1), .ref (a 4), .ref (a 11), .ref (a 18), .ref (a 20), .ref (a 34), .ref (a 36), .int (nI nc), .int (nI np), .int (nI T)]] sz0) [zO (a 0) 11 [.ref (a 1), .ref (a 4), .ref (a 11), .ref (a 18), .ref (a 20), .ref (a 34), .ref (a 36), .int (nI nc), .int (nI np), .int (nI T)]] (zE 1)) 1 6 (va_A [zO (a 0) 11 [.ref (a 1), .ref (a 4), .ref (a 11), .ref (a 18), .ref (a 20), .ref (a 34), .ref (a 36), .int (nI nc), .int (nI np), .int (nI T)]] sz0) := by
  refine z_ofX (cc := cX10_weather) (maxL := 4) (ret := (some .int)) (by decide) rfl (Nat.le_of_ble_eq_true rfl) ?_
  intro p e s m below meth c ls A hx hb hml hr hts hown hlk htab hP hK hD hA hS hl hsz0 hN hAN hE
  have hown : s.vm.findClass RX10 = some m.cls := hown
  have hl : lv_has ls 4 [(0, .ref (a 0)), (1, .int x), (2, .int y), (3, .int y9)] := hl
  refine lv_iload_n hx hb dX10_weather_0 rfl (lv_at hl 1 rfl) ?_
  refine lv_aload_n hx hb dX10_weather_1 rfl (lv_at hl 0 rfl) ?_
  refine va_get (D := G) (ci := 11) (v := .int (nI T)) (C := RX10) (T := TX10) (N := 10) hx hb hts in_X10_weather_X10 hown hK hP 0 rfl rfl 9 (by decide) (hts _ (List.mem_of_getElem? (i := 5) (by decide +kernel))) (fun _ h9 => h9) rfl dX10_weather_2 ?_
  refine z_jcmp_lt hx hb (a := x.toInt) (b := ((T : Nat) : Int)) (rfl) (nI_toInt (by omega)) dX10_weather_5 (tgt := 20) (by decide) (fun c_1 => ?_) (fun c_1 => ?_)
  · exact z_thr (k := 1) (text := "no such days") (Ts := wsX10_weather) hx hb (by rw [hml]; exact hl.1.symm) hl9 hown hts (List.mem_of_getElem? (i := 1) (by decide +kernel)) (List.mem_of_getElem? (i := 2) (by decide +kernel)) (by decide +kernel) (fun _ h => (List.mem_cons_of_mem _ (List.mem_append_left _ (List.mem_append_right _ h)))) (by decide +kernel) (by decide +kernel) z_bad1 z_good1 hE hAN hP hD hK hS htab hlk dX10_weather_20 dX10_weather_23 dX10_weather_24 dX10_weather_26 dX10_weather_29 (Nat.le_of_ble_eq_true rfl) (Nat.le_of_ble_eq_true rfl) (Nat.le_of_ble_eq_true rfl) (Nat.le_of_ble_eq_true rfl) (Nat.le_of_ble_eq_true rfl) (Nat.le_of_ble_eq_true rfl)
  · refine lv_iload_n hx hb dX10_weather_8 rfl (lv_at hl 2 rfl) ?_
    refine lv_iload_n hx hb dX10_weather_9 rfl (lv_at hl 1 rfl) ?_
    refine z_jcmp_lt hx hb (a := y.toInt) (b := x.toInt) (rfl) (rfl) dX10_weather_10 (tgt := 20) (by decide) (fun c_2 => ?_) (fun c_2 => ?_)
    · exact z_thr (k := 1) (text := "no such days") (Ts := wsX10_weather) hx hb (by rw [hml]; exact hl.1.symm) hl9 hown hts (List.mem_of_getElem? (i := 1) (by decide +kernel)) (List.mem_of_getElem? (i := 2) (by decide +kernel)) (by decide +kernel) (fun _ h => (List.mem_cons_of_mem _ (List.mem_append_left _ (List.mem_append_right _ h)))) (by decide +kernel) (by decide +kernel) z_bad1 z_good1 hE hAN hP hD hK hS htab hlk dX10_weather_20 dX10_weather_23 dX10_weather_24 dX10_weather_26 dX10_weather_29 (Nat.le_of_ble_eq_true rfl) (Nat.le_of_ble_eq_true rfl) (Nat.le_of_ble_eq_true rfl) (Nat.le_of_ble_eq_true rfl) (Nat.le_of_ble_eq_true rfl) (Nat.le_of_ble_eq_true rfl)
    · refine lv_iload_n hx hb dX10_weather_13 rfl (lv_at hl 2 rfl) ?_
      refine lv_sipush (v := nI 1000) hx hb dX10_weather_14 (by decide) ?_
      refine z_jcmp_lt hx hb (a := y.toInt) (b := (1000 : Int)) (rfl) (nI_toInt (by omega)) dX10_weather_17 (tgt := 30) (by decide) (fun c_3 => ?_) (fun c_3 => ?_)
      · exfalso; omega
      · exact z_thr (k := 1) (text := "no such days") (Ts := wsX10_weather) hx hb (by rw [hml]; exact hl.1.symm) hl9 hown hts (List.mem_of_getElem? (i := 1) (by decide +kernel)) (List.mem_of_getElem? (i := 2) (by decide +kernel)) (by decide +kernel) (fun _ h => (List.mem_cons_of_mem _ (List.mem_append_left _ (List.mem_append_right _ h)))) (by decide +kernel) (by decide +kernel) z_bad1 z_good1 hE hAN hP hD hK hS htab hlk dX10_weather_20 dX10_weather_23 dX10_weather_24 dX10_weather_26 dX10_weather_29 (Nat.le_of_ble_eq_true rfl) (Nat.le_of_ble_eq_true rfl) (Nat.le_of_ble_eq_true rfl) (Nat.le_of_ble_eq_true rfl) (Nat.le_of_ble_eq_true rfl) (Nat.le_of_ble_eq_true rfl)
set_option maxHeartbeats 4000000 in
set_option maxRecDepth 100000 in
theorem e2_X10_weather (l : Launch) (hl9 : l.stackTraces = false) (G : va_G) (cy : Nat → ClassId) (N0 sz0 : Nat) (a : Nat → Nat) (nc np T : Nat) (hT : T ≤ 900) (x1 x2 : Nat) (y9 : Int32) (h1 : T ≤ x1) (h2 : x1 ≤ x2) (h3 : x2 < 1000) (hy9 : ¬ (0 ≤ y9.toInt ∧ y9.toInt ≤ 30)) : vx_Met l yX10_weather wsX10_weather ({ frames := 6, cells := 1, slots := 6, locals := 82 }) (zX G cy N0 [.ref (a 0), .int (nI x1), .int (nI x2), .int y9] sz0 [zO (a 0) 11 [.ref (a 1), .ref (a 4), .ref (a 11), .ref (a 18), .ref (a 20), .ref (a 34), .ref (a 36), .int (nI nc), .int (nI np), .int (nI T)]]) zNo (zXC G cy (va_A [zO (a 0) 11 [.ref (a 1), .ref (a 4), .ref (a 11), .ref (a 18), .ref (a 20), .ref (a 34), .ref (a 36), .int (nI nc), .int (nI np), .int (nI T)]] sz0) [zO (a 0) 11 [.ref (a 1), .ref (a 4), .ref (a 11), .ref (a 18), .ref (a 20), .ref (a 34), .ref (a 36), .int (nI nc), .int (nI np), .int (nI T)]] (zE 2)) 1 6 (va_A [zO (a 0) 11 [.ref (a 1), .ref (a 4), .ref (a 11), .ref (a 18), .ref (a 20), .ref (a 34), .ref (a 36), .int (nI nc), .int (nI np), .int (nI T)]] sz0) := by
  refine z_ofX (cc := cX10_weather) (maxL := 4) (ret := (some .int)) (by decide) rfl (Nat.le_of_ble_eq_true rfl) ?_
  intro p e s m below meth c ls A hx hb hml hr hts hown hlk htab hP hK hD hA hS hl hsz0 hN hAN hE
  have hown : s.vm.findClass RX10 = some m.cls := hown
  have hl : lv_has ls 4 [(0, .ref (a 0)), (1, .int (nI x1)), (2, .int (nI x2)), (3, .int y9)] := hl
  refine lv_iload_n hx hb dX10_weather_0 rfl (lv_at hl 1 rfl) ?_
  refine lv_aload_n hx hb dX10_weather_1 rfl (lv_at hl 0 rfl) ?_
  refine va_get (D := G) (ci := 11) (v := .int (nI T)) (C := RX10) (T := TX10) (N := 10) hx hb hts in_X10_weather_X10 hown hK hP 0 rfl rfl 9 (by decide) (hts _ (List.mem_of_getElem? (i := 5) (by decide +kernel))) (fun _ h9 => h9) rfl dX10_weather_2 ?_
  refine z_icmp_lt hx hb (by omega) (by omega) dX10_weather_5 (tgt := 20) (by decide) (fun c_1 => ?_) (fun c_1 => ?_)
  · exfalso; omega
  · refine lv_iload_n hx hb dX10_weather_8 rfl (lv_at hl 2 rfl) ?_
    refine lv_iload_n hx hb dX10_weather_9 rfl (lv_at hl 1 rfl) ?_
    refine z_icmp_lt hx hb (by omega) (by omega) dX10_weather_10 (tgt := 20) (by decide) (fun c_2 => ?_) (fun c_2 => ?_)
    · exfalso; omega
    · refine lv_iload_n hx hb dX10_weather_13 rfl (lv_at hl 2 rfl) ?_
      refine lv_sipush (v := nI 1000) hx hb dX10_weather_14 (by decide) ?_
      refine z_icmp_lt hx hb (by omega) (by omega) dX10_weather_17 (tgt := 30) (by decide) (fun c_3 => ?_) (fun c_3 => ?_)
      · refine lv_aload_n hx hb dX10_weather_30 rfl (lv_at hl 0 rfl) ?_
        refine lv_iload_n hx hb dX10_weather_31 rfl (lv_at hl 3 rfl) ?_
        refine lv_bipush (v := nI 30) hx hb dX10_weather_32 (by decide) ?_
        refine vp_callSi (va_runV (As := [.int y9, .int (nI 30)]) (rest := []) ⟨hx, hb, hml, hown, hts⟩ (c_X10_isWithin l G cy a nc np T y9 30 (by omega)) (cwV 2 hts gX10_weather_X10_isWithin rfl rfl rfl (by decide +kernel) ⟨Nat.le_of_ble_eq_true rfl, Nat.le_of_ble_eq_true rfl⟩) (z_pV hK hP [0] rfl (ci := 11) (q0 := 0) rfl rfl rfl) rfl rfl hl.1 rfl (lv_room (Nat.le_of_ble_eq_true rfl)) dX10_weather_34 ⟨Nat.le_of_ble_eq_true rfl, Nat.le_of_ble_eq_true rfl⟩).run (fun r_4 hr_4 => ?_)
        rcases hr_4 with ⟨rfl, b_5⟩ | ⟨rfl, b_5⟩
        · exfalso; omega
        · refine lv_if_ne hx hb dX10_weather_37 (tgt := 50) (by decide) (fun q => absurd (by decide) q) (fun _ => ?_)
          exact z_thr (k := 2) (text := "no such degrees") (Ts := wsX10_weather) hx hb (by rw [hml]; exact hl.1.symm) hl9 hown hts (List.mem_of_getElem? (i := 3) (by decide +kernel)) (List.mem_of_getElem? (i := 4) (by decide +kernel)) (by decide +kernel) (fun _ h => (List.mem_cons_of_mem _ (List.mem_append_right _ h))) (by decide +kernel) (by decide +kernel) z_bad2 z_good2 hE hAN hP hD hK hS htab hlk dX10_weather_40 dX10_weather_43 dX10_weather_44 dX10_weather_46 dX10_weather_49 (Nat.le_of_ble_eq_true rfl) (Nat.le_of_ble_eq_true rfl) (Nat.le_of_ble_eq_true rfl) (Nat.le_of_ble_eq_true rfl) (Nat.le_of_ble_eq_true rfl) (Nat.le_of_ble_eq_true rfl)
      · exfalso; omega
set_option maxHeartbeats 4000000 in
set_option maxRecDepth 100000 in
theorem c_X10_weather (l : Launch) (G : va_G) (cy : Nat → ClassId) (sz0 : Nat) (a : Nat → Nat) (nc np T : Nat) (hT : T ≤ 900) (x1 x2 dgr : Nat) (g : Nat → Nat) (hg : ∀ d, g d ≤ 30) (h1 : T ≤ x1) (h2 : x1 ≤ x2) (h3 : x2 < 1000) (h4 : dgr ≤ 30) : Met l yX10_weather wsX10_weather ({ frames := 2, cells := 0, slots := 0, locals := 48 }) (zM G cy [.ref (a 0), .int (nI x1), .int (nI x2), .int (nI dgr)] sz0 [zO (a 0) 11 [.ref (a 1), .ref (a 4), .ref (a 11), .ref (a 18), .ref (a 20), .ref (a 34), .ref (a 36), .int (nI nc), .int (nI np), .int (nI T)], zO (a 1) 8 [.ref (a 2)], zO (a 2) 6 [.ref (a 3)], zL cy (a 3) 1000 (fun j9 => lN (g j9))]) (va_Qi (fun (r : Int32) (_ : Unit) => r = (nI (z_sm (fun j8 => if g j8 = dgr then 0 else 1) x1 (x2 + 1 - x1)))) (fun (u : Unit) t9 => zB G cy (va_A [zO (a 0) 11 [.ref (a 1), .ref (a 4), .ref (a 11), .ref (a 18), .ref (a 20), .ref (a 34), .ref (a 36), .int (nI nc), .int (nI np), .int (nI T)], zO (a 1) 8 [.ref (a 2)], zO (a 2) 6 [.ref (a 3)], zL cy (a 3) 1000 (fun j9 => lN (g j9))] sz0) [zO (a 0) 11 [.ref (a 1), .ref (a 4), .ref (a 11), .ref (a 18), .ref (a 20), .ref (a 34), .ref (a 36), .int (nI nc), .int (nI np), .int (nI T)], zO (a 1) 8 [.ref (a 2)], zO (a 2) 6 [.ref (a 3)], zL cy (a 3) 1000 (fun j9 => lN ((z_fill g dgr x1 (x2 + 1 - x1)) j9))] t9) (va_A [zO (a 0) 11 [.ref (a 1), .ref (a 4), .ref (a 11), .ref (a 18), .ref (a 20), .ref (a 34), .ref (a 36), .int (nI nc), .int (nI np), .int (nI T)], zO (a 1) 8 [.ref (a 2)], zO (a 2) 6 [.ref (a 3)], zL cy (a 3) 1000 (fun j9 => lN (g j9))] sz0)) 0 0 (va_A [zO (a 0) 11 [.ref (a 1), .ref (a 4), .ref (a 11), .ref (a 18), .ref (a 20), .ref (a 34), .ref (a 36), .int (nI nc), .int (nI np), .int (nI T)], zO (a 1) 8 [.ref (a 2)], zO (a 2) 6 [.ref (a 3)], zL cy (a 3) 1000 (fun j9 => lN (g j9))] sz0) := by
  refine z_ofM (cc := cX10_weather) (maxL := 4) (ret := (some .int)) (Qc := (fun A => va_Qi (fun (r : Int32) (_ : Unit) => r = (nI (z_sm (fun j8 => if g j8 = dgr then 0 else 1) x1 (x2 + 1 - x1)))) (fun (u : Unit) t9 => zB G cy A [zO (a 0) 11 [.ref (a 1), .ref (a 4), .ref (a 11), .ref (a 18), .ref (a 20), .ref (a 34), .ref (a 36), .int (nI nc), .int (nI np), .int (nI T)], zO (a 1) 8 [.ref (a 2)], zO (a 2) 6 [.ref (a 3)], zL cy (a 3) 1000 (fun j9 => lN ((z_fill g dgr x1 (x2 + 1 - x1)) j9))] t9) A)) (by decide) rfl (Nat.le_of_ble_eq_true rfl) ?_
  intro p e s m below meth c ls A hx hb hml hr hts hown hlk hin hP hK hD hA hS hl hsz0
  have hown : s.vm.findClass RX10 = some m.cls := hown
  have hl : lv_has ls 4 [(0, .ref (a 0)), (1, .int (nI x1)), (2, .int (nI x2)), (3, .int (nI dgr))] := hl
  refine lv_iload_n hx hb dX10_weather_0 rfl (lv_at hl 1 rfl) ?_
  refine lv_aload_n hx hb dX10_weather_1 rfl (lv_at hl 0 rfl) ?_
  refine va_get (D := G) (ci := 11) (v := .int (nI T)) (C := RX10) (T := TX10) (N := 10) hx hb hts in_X10_weather_X10 hown hK hP 0 rfl rfl 9 (by decide) (hts _ (List.mem_of_getElem? (i := 5) (by decide +kernel))) (fun _ h9 => h9) rfl dX10_weather_2 ?_
  refine z_icmp_lt hx hb (by omega) (by omega) dX10_weather_5 (tgt := 20) (by decide) (fun c_1 => ?_) (fun c_1 => ?_)
  · exfalso; omega
  · refine lv_iload_n hx hb dX10_weather_8 rfl (lv_at hl 2 rfl) ?_
    refine lv_iload_n hx hb dX10_weather_9 rfl (lv_at hl 1 rfl) ?_
    refine z_icmp_lt hx hb (by omega) (by omega) dX10_weather_10 (tgt := 20) (by decide) (fun c_2 => ?_) (fun c_2 => ?_)
    · exfalso; omega
    · refine lv_iload_n hx hb dX10_weather_13 rfl (lv_at hl 2 rfl) ?_
      refine lv_sipush (v := nI 1000) hx hb dX10_weather_14 (by decide) ?_
      refine z_icmp_lt hx hb (by omega) (by omega) dX10_weather_17 (tgt := 30) (by decide) (fun c_3 => ?_) (fun c_3 => ?_)
      · refine lv_aload_n hx hb dX10_weather_30 rfl (lv_at hl 0 rfl) ?_
        refine lv_iload_n hx hb dX10_weather_31 rfl (lv_at hl 3 rfl) ?_
        refine lv_bipush (v := nI 30) hx hb dX10_weather_32 (by decide) ?_
        refine vp_callSi (va_runV (As := [.int (nI dgr), .int (nI 30)]) (rest := []) ⟨hx, hb, hml, hown, hts⟩ (c_X10_isWithin l G cy a nc np T (nI dgr) 30 (by omega)) (cwV 2 hts gX10_weather_X10_isWithin rfl rfl rfl (by decide +kernel) ⟨Nat.le_of_ble_eq_true rfl, Nat.le_of_ble_eq_true rfl⟩) (z_pV hK hP [0] rfl (ci := 11) (q0 := 0) rfl rfl rfl) rfl rfl hl.1 rfl (lv_room (Nat.le_of_ble_eq_true rfl)) dX10_weather_34 ⟨Nat.le_of_ble_eq_true rfl, Nat.le_of_ble_eq_true rfl⟩).run (fun r_4 hr_4 => ?_)
        rcases hr_4 with ⟨rfl, b_5⟩ | ⟨rfl, b_5⟩
        · refine lv_if_ne hx hb dX10_weather_37 (tgt := 50) (by decide) (fun _ => ?_) (fun q => absurd q (by decide))
          refine lv_aload_n hx hb dX10_weather_50 rfl (lv_at hl 0 rfl) ?_
          refine va_get (D := G) (ci := 11) (v := .ref (a 1)) (C := RX10) (T := TX10) (N := 10) hx hb hts in_X10_weather_X10 hown hK hP 0 rfl rfl 0 (by decide) (hts _ (List.mem_of_getElem? (i := 6) (by decide +kernel))) (fun _ h9 => h9) rfl dX10_weather_51 ?_
          refine lv_iload_n hx hb dX10_weather_54 rfl (lv_at hl 1 rfl) ?_
          refine lv_iload_n hx hb dX10_weather_55 rfl (lv_at hl 2 rfl) ?_
          refine lv_iload_n hx hb dX10_weather_56 rfl (lv_at hl 3 rfl) ?_
          refine z_ci (wc := [zO (a 1) 8 [.ref (a 2)], zO (a 2) 6 [.ref (a 3)], zL cy (a 3) 1000 (fun j9 => lN (g j9))]) (va_runV (As := [.int (nI x1), .int (nI x2), .int (nI dgr)]) (rest := []) ⟨hx, hb, hml, hown, hts⟩ (c_X7_tell l G cy _ (a 1) (a 2) (a 3) g x1 x2 dgr (hg) (by omega) (by omega) (by omega)) (cwV 3 hts gX10_weather_X7_tell rfl rfl rfl (by decide +kernel) ⟨Nat.le_of_ble_eq_true rfl, Nat.le_of_ble_eq_true rfl⟩) (z_pVM hK hP hD [1, 2, 3] rfl (by decide) (ci := 8) (q0 := 0) rfl rfl rfl) rfl rfl hl.1 rfl (lv_room (Nat.le_of_ble_eq_true rfl)) dX10_weather_57 ⟨Nat.le_of_ble_eq_true rfl, Nat.le_of_ble_eq_true rfl⟩) hP hD hS hA [1, 2, 3] [0] [0, 1, 2, 3] [zO (a 0) 11 [.ref (a 1), .ref (a 4), .ref (a 11), .ref (a 18), .ref (a 20), .ref (a 34), .ref (a 36), .int (nI nc), .int (nI np), .int (nI T)]] (fun _ => [zO (a 0) 11 [.ref (a 1), .ref (a 4), .ref (a 11), .ref (a 18), .ref (a 20), .ref (a 34), .ref (a 36), .int (nI nc), .int (nI np), .int (nI T)], zO (a 1) 8 [.ref (a 2)], zO (a 2) 6 [.ref (a 3)], zL cy (a 3) 1000 (fun j9 => lN ((z_fill g dgr x1 (x2 + 1 - x1)) j9))]) rfl rfl (by decide) (fun _ => rfl) (fun r_6 u H locs hr_6 hQ hD hS hz => ?_)
          have hP : va_P G vwCl [zO (a 0) 11 [.ref (a 1), .ref (a 4), .ref (a 11), .ref (a 18), .ref (a 20), .ref (a 34), .ref (a 36), .int (nI nc), .int (nI np), .int (nI T)], zO (a 1) 8 [.ref (a 2)], zO (a 2) 6 [.ref (a 3)], zL cy (a 3) 1000 (fun j9 => lN ((z_fill g dgr x1 (x2 + 1 - x1)) j9))] H := hQ
          have hD : va_D A [zO (a 0) 11 [.ref (a 1), .ref (a 4), .ref (a 11), .ref (a 18), .ref (a 20), .ref (a 34), .ref (a 36), .int (nI nc), .int (nI np), .int (nI T)], zO (a 1) 8 [.ref (a 2)], zO (a 2) 6 [.ref (a 3)], zL cy (a 3) 1000 (fun j9 => lN ((z_fill g dgr x1 (x2 + 1 - x1)) j9))] := hD
          clear hQ
          obtain rfl : r_6 = (nI (z_sm (fun j8 => if g j8 = dgr then 0 else 1) x1 (x2 + 1 - x1))) := hr_6
          exact z_rMi hx hb hr hlk dX10_weather_60 () (rfl) hP hD hK hS (Nat.le_of_ble_eq_true rfl) (Nat.le_of_ble_eq_true rfl)
        · rw [nI_toInt (by omega)] at b_5; exfalso; omega
      · exfalso; omega
theorem in_X10_credit_X3 : ∀ w ∈ u_ws RX3 TX3 4, w ∈ wsX10_credit := fun _ h => (List.mem_cons_of_mem _ (List.mem_append_left _ (List.mem_append_left _ (List.mem_append_left _ (List.mem_append_left _ (List.mem_append_left _ (List.mem_append_left _ (List.mem_append_right _ h))))))))
set_option maxHeartbeats 4000000 in
set_option maxRecDepth 100000 in
theorem e2_X10_credit (l : Launch) (hl9 : l.stackTraces = false) (G : va_G) (cy : Nat → ClassId) (N0 sz0 : Nat) (a : Nat → Nat) (nc np T : Nat) (b : Nat → Nat) (pt : Nat → Option Nat) (k : Nat) (hk8 : k < 8) (hpt : pt k = some (b 0)) (hT : T ≤ 900) (fi : Nat) (ow : Int64) (y : Int32) (hy9 : y.toInt < 0) : vx_Met l yX10_credit wsX10_credit ({ frames := 6, cells := 1, slots := 6, locals := 82 }) (zX G cy N0 [.ref (a 0), .int (nI k), .int y] sz0 [zO (a 0) 11 [.ref (a 1), .ref (a 4), .ref (a 11), .ref (a 18), .ref (a 20), .ref (a 34), .ref (a 36), .int (nI nc), .int (nI np), .int (nI T)], zQ cy (a 36) 8 pt, zO (b 0) 4 [.int (nI fi), .ref (b 1), .ref (b 7), .ref (b 10)], zO (b 10) 1 [.ref (a 18), .ref (b 11), .ref (b 13), .long ow]]) zNo (zXC G cy (va_A [zO (a 0) 11 [.ref (a 1), .ref (a 4), .ref (a 11), .ref (a 18), .ref (a 20), .ref (a 34), .ref (a 36), .int (nI nc), .int (nI np), .int (nI T)], zQ cy (a 36) 8 pt, zO (b 0) 4 [.int (nI fi), .ref (b 1), .ref (b 7), .ref (b 10)], zO (b 10) 1 [.ref (a 18), .ref (b 11), .ref (b 13), .long ow]] sz0) [zO (a 0) 11 [.ref (a 1), .ref (a 4), .ref (a 11), .ref (a 18), .ref (a 20), .ref (a 34), .ref (a 36), .int (nI nc), .int (nI np), .int (nI T)], zQ cy (a 36) 8 pt, zO (b 0) 4 [.int (nI fi), .ref (b 1), .ref (b 7), .ref (b 10)], zO (b 10) 1 [.ref (a 18), .ref (b 11), .ref (b 13), .long ow]] (zE 2)) 1 6 (va_A [zO (a 0) 11 [.ref (a 1), .ref (a 4), .ref (a 11), .ref (a 18), .ref (a 20), .ref (a 34), .ref (a 36), .int (nI nc), .int (nI np), .int (nI T)], zQ cy (a 36) 8 pt, zO (b 0) 4 [.int (nI fi), .ref (b 1), .ref (b 7), .ref (b 10)], zO (b 10) 1 [.ref (a 18), .ref (b 11), .ref (b 13), .long ow]] sz0) := by
  refine z_ofX (cc := cX10_credit) (maxL := 6) (ret := (some .int)) (by decide) rfl (Nat.le_of_ble_eq_true rfl) ?_
  intro p e s m below meth c ls A hx hb hml hr hts hown hlk htab hP hK hD hA hS hl hsz0 hN hAN hE
  have hown : s.vm.findClass RX10 = some m.cls := hown
  have hl : lv_has ls 6 [(0, .ref (a 0)), (1, .int (nI k)), (2, .int y)] := hl
  refine lv_aload_n hx hb dX10_credit_0 rfl (lv_at hl 0 rfl) ?_
  refine lv_iload_n hx hb dX10_credit_1 rfl (lv_at hl 1 rfl) ?_
  refine va_csr (va_runV (As := [.int (nI k)]) (rest := []) ⟨hx, hb, hml, hown, hts⟩ (c_X10_pointAt l G cy a nc np T pt k (b 0) (by omega) (hpt)) (cwV 1 hts gX10_credit_X10_pointAt rfl rfl rfl (by decide +kernel) ⟨Nat.le_of_ble_eq_true rfl, Nat.le_of_ble_eq_true rfl⟩) (z_pV hK hP [0, 1] rfl (ci := 11) (q0 := 0) rfl rfl rfl) rfl rfl hl.1 rfl (lv_room (Nat.le_of_ble_eq_true rfl)) dX10_credit_2 ⟨Nat.le_of_ble_eq_true rfl, Nat.le_of_ble_eq_true rfl⟩).run (fun r_1 hr_1 => ?_)
  obtain rfl : r_1 = (b 0) := hr_1
  refine va_get (D := G) (ci := 4) (v := .ref (b 10)) (C := RX3) (T := TX3) (N := 4) hx hb hts in_X10_credit_X3 hown hK hP 2 rfl rfl 3 (by decide) (hts _ (List.mem_of_getElem? (i := 5) (by decide +kernel))) (fun _ h9 => h9) rfl dX10_credit_5 ?_
  refine lv_astore_n (lv' := [(3, .ref (b 10)), (0, .ref (a 0)), (1, .int (nI k)), (2, .int y)]) hx hb dX10_credit_8 rfl hl (by decide) rfl (fun ls hl => ?_)
  refine lv_iload_n hx hb dX10_credit_9 rfl (lv_at hl 3 rfl) ?_
  refine lv_bipush (v := nI 97) hx hb dX10_credit_10 (by decide) ?_
  refine lv_idiv hx hb dX10_credit_12 (by decide) ?_
  refine lv_istore (lv' := [(4, .int (y / (nI 97))), (3, .ref (b 10)), (0, .ref (a 0)), (1, .int (nI k)), (2, .int y)]) hx hb dX10_credit_13 hl (by decide) rfl (fun ls hl => ?_)
  refine lv_iload_n hx hb dX10_credit_15 rfl (lv_at hl 4 rfl) ?_
  refine z_jf_lt hx hb (a := y.toInt) (rfl) dX10_credit_16 (tgt := 31) (by decide) (fun c_2 => ?_) (fun c_2 => ?_)
  · exact z_thr (k := 2) (text := "no code") (Ts := wsX10_credit) hx hb (by rw [hml]; exact hl.1.symm) hl9 hown hts (List.mem_of_getElem? (i := 1) (by decide +kernel)) (List.mem_of_getElem? (i := 2) (by decide +kernel)) (by decide +kernel) (fun _ h => (List.mem_cons_of_mem _ (List.mem_append_left _ (List.mem_append_left _ (List.mem_append_right _ h))))) (by decide +kernel) (by decide +kernel) z_bad2 z_good2 hE hAN hP hD hK hS htab hlk dX10_credit_31 dX10_credit_34 dX10_credit_35 dX10_credit_37 dX10_credit_40 (Nat.le_of_ble_eq_true rfl) (Nat.le_of_ble_eq_true rfl) (Nat.le_of_ble_eq_true rfl) (Nat.le_of_ble_eq_true rfl) (Nat.le_of_ble_eq_true rfl) (Nat.le_of_ble_eq_true rfl)
  · exfalso; omega
set_option maxHeartbeats 4000000 in
set_option maxRecDepth 100000 in
theorem e2b_X10_credit (l : Launch) (hl9 : l.stackTraces = false) (G : va_G) (cy : Nat → ClassId) (N0 sz0 : Nat) (a : Nat → Nat) (nc np T : Nat) (b : Nat → Nat) (pt : Nat → Option Nat) (k : Nat) (hk8 : k < 8) (hpt : pt k = some (b 0)) (hT : T ≤ 900) (fi : Nat) (ow : Int64) (co : Nat) (hco : co < 2 ^ 31) (hy9 : ¬ co % 97 = co / 97 % 97) : vx_Met l yX10_credit wsX10_credit ({ frames := 6, cells := 1, slots := 6, locals := 82 }) (zX G cy N0 [.ref (a 0), .int (nI k), .int (nI co)] sz0 [zO (a 0) 11 [.ref (a 1), .ref (a 4), .ref (a 11), .ref (a 18), .ref (a 20), .ref (a 34), .ref (a 36), .int (nI nc), .int (nI np), .int (nI T)], zQ cy (a 36) 8 pt, zO (b 0) 4 [.int (nI fi), .ref (b 1), .ref (b 7), .ref (b 10)], zO (b 10) 1 [.ref (a 18), .ref (b 11), .ref (b 13), .long ow]]) zNo (zXC G cy (va_A [zO (a 0) 11 [.ref (a 1), .ref (a 4), .ref (a 11), .ref (a 18), .ref (a 20), .ref (a 34), .ref (a 36), .int (nI nc), .int (nI np), .int (nI T)], zQ cy (a 36) 8 pt, zO (b 0) 4 [.int (nI fi), .ref (b 1), .ref (b 7), .ref (b 10)], zO (b 10) 1 [.ref (a 18), .ref (b 11), .ref (b 13), .long ow]] sz0) [zO (a 0) 11 [.ref (a 1), .ref (a 4), .ref (a 11), .ref (a 18), .ref (a 20), .ref (a 34), .ref (a 36), .int (nI nc), .int (nI np), .int (nI T)], zQ cy (a 36) 8 pt, zO (b 0) 4 [.int (nI fi), .ref (b 1), .ref (b 7), .ref (b 10)], zO (b 10) 1 [.ref (a 18), .ref (b 11), .ref (b 13), .long ow]] (zE 2)) 1 6 (va_A [zO (a 0) 11 [.ref (a 1), .ref (a 4), .ref (a 11), .ref (a 18), .ref (a 20), .ref (a 34), .ref (a 36), .int (nI nc), .int (nI np), .int (nI T)], zQ cy (a 36) 8 pt, zO (b 0) 4 [.int (nI fi), .ref (b 1), .ref (b 7), .ref (b 10)], zO (b 10) 1 [.ref (a 18), .ref (b 11), .ref (b 13), .long ow]] sz0) := by
  refine z_ofX (cc := cX10_credit) (maxL := 6) (ret := (some .int)) (by decide) rfl (Nat.le_of_ble_eq_true rfl) ?_
  intro p e s m below meth c ls A hx hb hml hr hts hown hlk htab hP hK hD hA hS hl hsz0 hN hAN hE
  have hown : s.vm.findClass RX10 = some m.cls := hown
  have hl : lv_has ls 6 [(0, .ref (a 0)), (1, .int (nI k)), (2, .int (nI co))] := hl
  refine lv_aload_n hx hb dX10_credit_0 rfl (lv_at hl 0 rfl) ?_
  refine lv_iload_n hx hb dX10_credit_1 rfl (lv_at hl 1 rfl) ?_
  refine va_csr (va_runV (As := [.int (nI k)]) (rest := []) ⟨hx, hb, hml, hown, hts⟩ (c_X10_pointAt l G cy a nc np T pt k (b 0) (by omega) (hpt)) (cwV 1 hts gX10_credit_X10_pointAt rfl rfl rfl (by decide +kernel) ⟨Nat.le_of_ble_eq_true rfl, Nat.le_of_ble_eq_true rfl⟩) (z_pV hK hP [0, 1] rfl (ci := 11) (q0 := 0) rfl rfl rfl) rfl rfl hl.1 rfl (lv_room (Nat.le_of_ble_eq_true rfl)) dX10_credit_2 ⟨Nat.le_of_ble_eq_true rfl, Nat.le_of_ble_eq_true rfl⟩).run (fun r_1 hr_1 => ?_)
  obtain rfl : r_1 = (b 0) := hr_1
  refine va_get (D := G) (ci := 4) (v := .ref (b 10)) (C := RX3) (T := TX3) (N := 4) hx hb hts in_X10_credit_X3 hown hK hP 2 rfl rfl 3 (by decide) (hts _ (List.mem_of_getElem? (i := 5) (by decide +kernel))) (fun _ h9 => h9) rfl dX10_credit_5 ?_
  refine lv_astore_n (lv' := [(3, .ref (b 10)), (0, .ref (a 0)), (1, .int (nI k)), (2, .int (nI co))]) hx hb dX10_credit_8 rfl hl (by decide) rfl (fun ls hl => ?_)
  refine lv_iload_n hx hb dX10_credit_9 rfl (lv_at hl 3 rfl) ?_
  refine lv_bipush (v := nI 97) hx hb dX10_credit_10 (by decide) ?_
  refine z_idiv hx hb (by omega) (by omega) (by omega) dX10_credit_12 ?_
  refine lv_istore (lv' := [(4, .int (nI (co / 97))), (3, .ref (b 10)), (0, .ref (a 0)), (1, .int (nI k)), (2, .int (nI co))]) hx hb dX10_credit_13 hl (by decide) rfl (fun ls hl => ?_)
  refine lv_iload_n hx hb dX10_credit_15 rfl (lv_at hl 4 rfl) ?_
  refine z_if_lt hx hb (by omega) dX10_credit_16 (tgt := 31) (by decide) ?_
  refine lv_iload_n hx hb dX10_credit_19 rfl (lv_at hl 4 rfl) ?_
  refine lv_bipush (v := nI 97) hx hb dX10_credit_20 (by decide) ?_
  refine z_irem hx hb (by omega) (by omega) (by omega) dX10_credit_22 ?_
  refine lv_iload hx hb dX10_credit_23 (lv_at hl 0 rfl) ?_
  refine lv_bipush (v := nI 97) hx hb dX10_credit_25 (by decide) ?_
  refine z_irem hx hb (by omega) (by omega) (by omega) dX10_credit_27 ?_
  refine z_icmp_eq hx hb (by omega) (by omega) dX10_credit_28 (tgt := 41) (by decide) (fun c_3 => ?_) (fun c_3 => ?_)
  · exact absurd c_3 hy9
  · exact z_thr (k := 2) (text := "no code") (Ts := wsX10_credit) hx hb (by rw [hml]; exact hl.1.symm) hl9 hown hts (List.mem_of_getElem? (i := 1) (by decide +kernel)) (List.mem_of_getElem? (i := 2) (by decide +kernel)) (by decide +kernel) (fun _ h => (List.mem_cons_of_mem _ (List.mem_append_left _ (List.mem_append_left _ (List.mem_append_right _ h))))) (by decide +kernel) (by decide +kernel) z_bad2 z_good2 hE hAN hP hD hK hS htab hlk dX10_credit_31 dX10_credit_34 dX10_credit_35 dX10_credit_37 dX10_credit_40 (Nat.le_of_ble_eq_true rfl) (Nat.le_of_ble_eq_true rfl) (Nat.le_of_ble_eq_true rfl) (Nat.le_of_ble_eq_true rfl) (Nat.le_of_ble_eq_true rfl) (Nat.le_of_ble_eq_true rfl)
theorem in_X10_credit_X10 : ∀ w ∈ u_ws RX10 TX10 10, w ∈ wsX10_credit := fun _ h => (List.mem_cons_of_mem _ (List.mem_append_left _ (List.mem_append_left _ (List.mem_append_left _ (List.mem_append_left _ (List.mem_append_left _ (List.mem_append_right _ h)))))))
set_option maxHeartbeats 4000000 in
set_option maxRecDepth 100000 in
theorem e3_X10_credit (l : Launch) (hl9 : l.stackTraces = false) (G : va_G) (cy : Nat → ClassId) (N0 sz0 : Nat) (a : Nat → Nat) (nc np T : Nat) (b : Nat → Nat) (pt : Nat → Option Nat) (k : Nat) (hk8 : k < 8) (hpt : pt k = some (b 0)) (hT : T ≤ 900) (fi : Nat) (ow : Int64) (cd : Nat → Nat) (co : Nat) (hco : co < 2 ^ 31) (hcd : ∀ i, cd i < 2 ^ 31) (hy9 : co % 97 = co / 97 % 97) (hnc : nc ≤ 512) (hc9 : zHas cd nc co ∨ nc = 512) : vx_Met l yX10_credit wsX10_credit ({ frames := 6, cells := 1, slots := 6, locals := 82 }) (zX G cy N0 [.ref (a 0), .int (nI k), .int (nI co)] sz0 [zO (a 0) 11 [.ref (a 1), .ref (a 4), .ref (a 11), .ref (a 18), .ref (a 20), .ref (a 34), .ref (a 36), .int (nI nc), .int (nI np), .int (nI T)], zQ cy (a 36) 8 pt, zO (b 0) 4 [.int (nI fi), .ref (b 1), .ref (b 7), .ref (b 10)], zO (b 10) 1 [.ref (a 18), .ref (b 11), .ref (b 13), .long ow], zO (a 34) 6 [.ref (a 35)], zL cy (a 35) 512 (fun j9 => lN (cd j9))]) zNo (zXC G cy (va_A [zO (a 0) 11 [.ref (a 1), .ref (a 4), .ref (a 11), .ref (a 18), .ref (a 20), .ref (a 34), .ref (a 36), .int (nI nc), .int (nI np), .int (nI T)], zQ cy (a 36) 8 pt, zO (b 0) 4 [.int (nI fi), .ref (b 1), .ref (b 7), .ref (b 10)], zO (b 10) 1 [.ref (a 18), .ref (b 11), .ref (b 13), .long ow], zO (a 34) 6 [.ref (a 35)], zL cy (a 35) 512 (fun j9 => lN (cd j9))] sz0) [zO (a 0) 11 [.ref (a 1), .ref (a 4), .ref (a 11), .ref (a 18), .ref (a 20), .ref (a 34), .ref (a 36), .int (nI nc), .int (nI np), .int (nI T)], zQ cy (a 36) 8 pt, zO (b 0) 4 [.int (nI fi), .ref (b 1), .ref (b 7), .ref (b 10)], zO (b 10) 1 [.ref (a 18), .ref (b 11), .ref (b 13), .long ow], zO (a 34) 6 [.ref (a 35)], zL cy (a 35) 512 (fun j9 => lN (cd j9))] (zE 3)) 1 6 (va_A [zO (a 0) 11 [.ref (a 1), .ref (a 4), .ref (a 11), .ref (a 18), .ref (a 20), .ref (a 34), .ref (a 36), .int (nI nc), .int (nI np), .int (nI T)], zQ cy (a 36) 8 pt, zO (b 0) 4 [.int (nI fi), .ref (b 1), .ref (b 7), .ref (b 10)], zO (b 10) 1 [.ref (a 18), .ref (b 11), .ref (b 13), .long ow], zO (a 34) 6 [.ref (a 35)], zL cy (a 35) 512 (fun j9 => lN (cd j9))] sz0) := by
  refine z_ofX (cc := cX10_credit) (maxL := 6) (ret := (some .int)) (by decide) rfl (Nat.le_of_ble_eq_true rfl) ?_
  intro p e s m below meth c ls A hx hb hml hr hts hown hlk htab hP hK hD hA hS hl hsz0 hN hAN hE
  have hown : s.vm.findClass RX10 = some m.cls := hown
  have hl : lv_has ls 6 [(0, .ref (a 0)), (1, .int (nI k)), (2, .int (nI co))] := hl
  refine lv_aload_n hx hb dX10_credit_0 rfl (lv_at hl 0 rfl) ?_
  refine lv_iload_n hx hb dX10_credit_1 rfl (lv_at hl 1 rfl) ?_
  refine va_csr (va_runV (As := [.int (nI k)]) (rest := []) ⟨hx, hb, hml, hown, hts⟩ (c_X10_pointAt l G cy a nc np T pt k (b 0) (by omega) (hpt)) (cwV 1 hts gX10_credit_X10_pointAt rfl rfl rfl (by decide +kernel) ⟨Nat.le_of_ble_eq_true rfl, Nat.le_of_ble_eq_true rfl⟩) (z_pV hK hP [0, 1] rfl (ci := 11) (q0 := 0) rfl rfl rfl) rfl rfl hl.1 rfl (lv_room (Nat.le_of_ble_eq_true rfl)) dX10_credit_2 ⟨Nat.le_of_ble_eq_true rfl, Nat.le_of_ble_eq_true rfl⟩).run (fun r_1 hr_1 => ?_)
  obtain rfl : r_1 = (b 0) := hr_1
  refine va_get (D := G) (ci := 4) (v := .ref (b 10)) (C := RX3) (T := TX3) (N := 4) hx hb hts in_X10_credit_X3 hown hK hP 2 rfl rfl 3 (by decide) (hts _ (List.mem_of_getElem? (i := 5) (by decide +kernel))) (fun _ h9 => h9) rfl dX10_credit_5 ?_
  refine lv_astore_n (lv' := [(3, .ref (b 10)), (0, .ref (a 0)), (1, .int (nI k)), (2, .int (nI co))]) hx hb dX10_credit_8 rfl hl (by decide) rfl (fun ls hl => ?_)
  refine lv_iload_n hx hb dX10_credit_9 rfl (lv_at hl 3 rfl) ?_
  refine lv_bipush (v := nI 97) hx hb dX10_credit_10 (by decide) ?_
  refine z_idiv hx hb (by omega) (by omega) (by omega) dX10_credit_12 ?_
  refine lv_istore (lv' := [(4, .int (nI (co / 97))), (3, .ref (b 10)), (0, .ref (a 0)), (1, .int (nI k)), (2, .int (nI co))]) hx hb dX10_credit_13 hl (by decide) rfl (fun ls hl => ?_)
  refine lv_iload_n hx hb dX10_credit_15 rfl (lv_at hl 4 rfl) ?_
  refine z_if_lt hx hb (by omega) dX10_credit_16 (tgt := 31) (by decide) ?_
  refine lv_iload_n hx hb dX10_credit_19 rfl (lv_at hl 4 rfl) ?_
  refine lv_bipush (v := nI 97) hx hb dX10_credit_20 (by decide) ?_
  refine z_irem hx hb (by omega) (by omega) (by omega) dX10_credit_22 ?_
  refine lv_iload hx hb dX10_credit_23 (lv_at hl 0 rfl) ?_
  refine lv_bipush (v := nI 97) hx hb dX10_credit_25 (by decide) ?_
  refine z_irem hx hb (by omega) (by omega) (by omega) dX10_credit_27 ?_
  refine z_icmp_eq hx hb (by omega) (by omega) dX10_credit_28 (tgt := 41) (by decide) (fun c_3 => ?_) (fun c_3 => ?_)
  · refine lv_aload_n hx hb dX10_credit_41 rfl (lv_at hl 2 rfl) ?_
    refine lv_iload_n hx hb dX10_credit_42 rfl (lv_at hl 4 rfl) ?_
    refine vp_callSi (va_runV (As := [.int (nI co)]) (rest := []) ⟨hx, hb, hml, hown, hts⟩ (c_X10_isCodeTaken l G cy a nc np T cd co (by omega) (by omega) (hcd)) (cwV 1 hts gX10_credit_X10_isCodeTaken rfl rfl rfl (by decide +kernel) ⟨Nat.le_of_ble_eq_true rfl, Nat.le_of_ble_eq_true rfl⟩) (z_pV hK hP [0, 4, 5] rfl (ci := 11) (q0 := 0) rfl rfl rfl) rfl rfl hl.1 rfl (lv_room (Nat.le_of_ble_eq_true rfl)) dX10_credit_43 ⟨Nat.le_of_ble_eq_true rfl, Nat.le_of_ble_eq_true rfl⟩).run (fun r_4 hr_4 => ?_)
    rcases hr_4 with ⟨rfl, b_5⟩ | ⟨rfl, b_5⟩
    · refine lv_if_ne hx hb dX10_credit_46 (tgt := 59) (by decide) (fun _ => ?_) (fun q => absurd q (by decide))
      exact z_thr (k := 3) (text := "the code was taken") (Ts := wsX10_credit) hx hb (by rw [hml]; exact hl.1.symm) hl9 hown hts (List.mem_of_getElem? (i := 3) (by decide +kernel)) (List.mem_of_getElem? (i := 4) (by decide +kernel)) (by decide +kernel) (fun _ h => (List.mem_cons_of_mem _ (List.mem_append_left _ (List.mem_append_right _ h)))) (by decide +kernel) (by decide +kernel) z_bad3 z_good3 hE hAN hP hD hK hS htab hlk dX10_credit_59 dX10_credit_62 dX10_credit_63 dX10_credit_65 dX10_credit_68 (Nat.le_of_ble_eq_true rfl) (Nat.le_of_ble_eq_true rfl) (Nat.le_of_ble_eq_true rfl) (Nat.le_of_ble_eq_true rfl) (Nat.le_of_ble_eq_true rfl) (Nat.le_of_ble_eq_true rfl)
    · refine lv_if_ne hx hb dX10_credit_46 (tgt := 59) (by decide) (fun q => absurd (by decide) q) (fun _ => ?_)
      refine lv_aload_n hx hb dX10_credit_49 rfl (lv_at hl 2 rfl) ?_
      refine va_get (D := G) (ci := 11) (v := .int (nI nc)) (C := RX10) (T := TX10) (N := 10) hx hb hts in_X10_credit_X10 hown hK hP 0 rfl rfl 7 (by decide) (hts _ (List.mem_of_getElem? (i := 6) (by decide +kernel))) (fun _ h9 => h9) rfl dX10_credit_50 ?_
      refine lv_sipush (v := nI 512) hx hb dX10_credit_53 (by decide) ?_
      refine z_icmp_lt hx hb (by omega) (by omega) dX10_credit_56 (tgt := 69) (by decide) (fun c_6 => ?_) (fun c_6 => ?_)
      · rcases hc9 with h9 | h9; exact absurd h9 b_5; (exfalso; omega)
      · exact z_thr (k := 3) (text := "the code was taken") (Ts := wsX10_credit) hx hb (by rw [hml]; exact hl.1.symm) hl9 hown hts (List.mem_of_getElem? (i := 3) (by decide +kernel)) (List.mem_of_getElem? (i := 4) (by decide +kernel)) (by decide +kernel) (fun _ h => (List.mem_cons_of_mem _ (List.mem_append_left _ (List.mem_append_right _ h)))) (by decide +kernel) (by decide +kernel) z_bad3 z_good3 hE hAN hP hD hK hS htab hlk dX10_credit_59 dX10_credit_62 dX10_credit_63 dX10_credit_65 dX10_credit_68 (Nat.le_of_ble_eq_true rfl) (Nat.le_of_ble_eq_true rfl) (Nat.le_of_ble_eq_true rfl) (Nat.le_of_ble_eq_true rfl) (Nat.le_of_ble_eq_true rfl) (Nat.le_of_ble_eq_true rfl)
  · exact absurd hy9 c_3
set_option maxHeartbeats 4000000 in
set_option maxRecDepth 100000 in
theorem c_X10_credit (l : Launch) (G : va_G) (cy : Nat → ClassId) (sz0 : Nat) (a : Nat → Nat) (nc np T : Nat) (b : Nat → Nat) (pt : Nat → Option Nat) (k : Nat) (hk8 : k < 8) (hpt : pt k = some (b 0)) (hT : T ≤ 900) (fi : Nat) (ow : Int64) (cd : Nat → Nat) (co : Nat) (hco : co < 2 ^ 31) (hcd : ∀ i, cd i < 2 ^ 31) (hy9 : co % 97 = co / 97 % 97) (hnc : nc < 512) (hc9 : ¬ zHas cd nc co) : Met l yX10_credit wsX10_credit ({ frames := 2, cells := 0, slots := 0, locals := 43 }) (zM G cy [.ref (a 0), .int (nI k), .int (nI co)] sz0 [zO (a 0) 11 [.ref (a 1), .ref (a 4), .ref (a 11), .ref (a 18), .ref (a 20), .ref (a 34), .ref (a 36), .int (nI nc), .int (nI np), .int (nI T)], zQ cy (a 36) 8 pt, zO (b 0) 4 [.int (nI fi), .ref (b 1), .ref (b 7), .ref (b 10)], zO (b 10) 1 [.ref (a 18), .ref (b 11), .ref (b 13), .long ow], zO (a 34) 6 [.ref (a 35)], zL cy (a 35) 512 (fun j9 => lN (cd j9))]) (va_Qi (fun (r : Int32) (_ : Unit) => r = (nI (co / 97 % 1000))) (fun (u : Unit) t9 => zB G cy (va_A [zO (a 0) 11 [.ref (a 1), .ref (a 4), .ref (a 11), .ref (a 18), .ref (a 20), .ref (a 34), .ref (a 36), .int (nI nc), .int (nI np), .int (nI T)], zQ cy (a 36) 8 pt, zO (b 0) 4 [.int (nI fi), .ref (b 1), .ref (b 7), .ref (b 10)], zO (b 10) 1 [.ref (a 18), .ref (b 11), .ref (b 13), .long ow], zO (a 34) 6 [.ref (a 35)], zL cy (a 35) 512 (fun j9 => lN (cd j9))] sz0) [zO (a 0) 11 [.ref (a 1), .ref (a 4), .ref (a 11), .ref (a 18), .ref (a 20), .ref (a 34), .ref (a 36), .int (nI (nc + 1)), .int (nI np), .int (nI T)], zQ cy (a 36) 8 pt, zO (b 0) 4 [.int (nI fi), .ref (b 1), .ref (b 7), .ref (b 10)], zO (b 10) 1 [.ref (a 18), .ref (b 11), .ref (b 13), .long (ow + (-(nI (co / 97 % 1000))).toInt64)], zO (a 34) 6 [.ref (a 35)], zL cy (a 35) 512 (fun j9 => lN ((va_up cd nc co) j9))] t9) (va_A [zO (a 0) 11 [.ref (a 1), .ref (a 4), .ref (a 11), .ref (a 18), .ref (a 20), .ref (a 34), .ref (a 36), .int (nI nc), .int (nI np), .int (nI T)], zQ cy (a 36) 8 pt, zO (b 0) 4 [.int (nI fi), .ref (b 1), .ref (b 7), .ref (b 10)], zO (b 10) 1 [.ref (a 18), .ref (b 11), .ref (b 13), .long ow], zO (a 34) 6 [.ref (a 35)], zL cy (a 35) 512 (fun j9 => lN (cd j9))] sz0)) 0 0 (va_A [zO (a 0) 11 [.ref (a 1), .ref (a 4), .ref (a 11), .ref (a 18), .ref (a 20), .ref (a 34), .ref (a 36), .int (nI nc), .int (nI np), .int (nI T)], zQ cy (a 36) 8 pt, zO (b 0) 4 [.int (nI fi), .ref (b 1), .ref (b 7), .ref (b 10)], zO (b 10) 1 [.ref (a 18), .ref (b 11), .ref (b 13), .long ow], zO (a 34) 6 [.ref (a 35)], zL cy (a 35) 512 (fun j9 => lN (cd j9))] sz0) := by
  refine z_ofM (cc := cX10_credit) (maxL := 6) (ret := (some .int)) (Qc := (fun A => va_Qi (fun (r : Int32) (_ : Unit) => r = (nI (co / 97 % 1000))) (fun (u : Unit) t9 => zB G cy A [zO (a 0) 11 [.ref (a 1), .ref (a 4), .ref (a 11), .ref (a 18), .ref (a 20), .ref (a 34), .ref (a 36), .int (nI (nc + 1)), .int (nI np), .int (nI T)], zQ cy (a 36) 8 pt, zO (b 0) 4 [.int (nI fi), .ref (b 1), .ref (b 7), .ref (b 10)], zO (b 10) 1 [.ref (a 18), .ref (b 11), .ref (b 13), .long (ow + (-(nI (co / 97 % 1000))).toInt64)], zO (a 34) 6 [.ref (a 35)], zL cy (a 35) 512 (fun j9 => lN ((va_up cd nc co) j9))] t9) A)) (by decide) rfl (Nat.le_of_ble_eq_true rfl) ?_
  intro p e s m below meth c ls A hx hb hml hr hts hown hlk hin hP hK hD hA hS hl hsz0
  have hown : s.vm.findClass RX10 = some m.cls := hown
  have hl : lv_has ls 6 [(0, .ref (a 0)), (1, .int (nI k)), (2, .int (nI co))] := hl
  refine lv_aload_n hx hb dX10_credit_0 rfl (lv_at hl 0 rfl) ?_
  refine lv_iload_n hx hb dX10_credit_1 rfl (lv_at hl 1 rfl) ?_
  refine va_csr (va_runV (As := [.int (nI k)]) (rest := []) ⟨hx, hb, hml, hown, hts⟩ (c_X10_pointAt l G cy a nc np T pt k (b 0) (by omega) (hpt)) (cwV 1 hts gX10_credit_X10_pointAt rfl rfl rfl (by decide +kernel) ⟨Nat.le_of_ble_eq_true rfl, Nat.le_of_ble_eq_true rfl⟩) (z_pV hK hP [0, 1] rfl (ci := 11) (q0 := 0) rfl rfl rfl) rfl rfl hl.1 rfl (lv_room (Nat.le_of_ble_eq_true rfl)) dX10_credit_2 ⟨Nat.le_of_ble_eq_true rfl, Nat.le_of_ble_eq_true rfl⟩).run (fun r_1 hr_1 => ?_)
  obtain rfl : r_1 = (b 0) := hr_1
  refine va_get (D := G) (ci := 4) (v := .ref (b 10)) (C := RX3) (T := TX3) (N := 4) hx hb hts in_X10_credit_X3 hown hK hP 2 rfl rfl 3 (by decide) (hts _ (List.mem_of_getElem? (i := 5) (by decide +kernel))) (fun _ h9 => h9) rfl dX10_credit_5 ?_
  refine lv_astore_n (lv' := [(3, .ref (b 10)), (0, .ref (a 0)), (1, .int (nI k)), (2, .int (nI co))]) hx hb dX10_credit_8 rfl hl (by decide) rfl (fun ls hl => ?_)
  refine lv_iload_n hx hb dX10_credit_9 rfl (lv_at hl 3 rfl) ?_
  refine lv_bipush (v := nI 97) hx hb dX10_credit_10 (by decide) ?_
  refine z_idiv hx hb (by omega) (by omega) (by omega) dX10_credit_12 ?_
  refine lv_istore (lv' := [(4, .int (nI (co / 97))), (3, .ref (b 10)), (0, .ref (a 0)), (1, .int (nI k)), (2, .int (nI co))]) hx hb dX10_credit_13 hl (by decide) rfl (fun ls hl => ?_)
  refine lv_iload_n hx hb dX10_credit_15 rfl (lv_at hl 4 rfl) ?_
  refine z_if_lt hx hb (by omega) dX10_credit_16 (tgt := 31) (by decide) ?_
  refine lv_iload_n hx hb dX10_credit_19 rfl (lv_at hl 4 rfl) ?_
  refine lv_bipush (v := nI 97) hx hb dX10_credit_20 (by decide) ?_
  refine z_irem hx hb (by omega) (by omega) (by omega) dX10_credit_22 ?_
  refine lv_iload hx hb dX10_credit_23 (lv_at hl 0 rfl) ?_
  refine lv_bipush (v := nI 97) hx hb dX10_credit_25 (by decide) ?_
  refine z_irem hx hb (by omega) (by omega) (by omega) dX10_credit_27 ?_
  refine z_icmp_eq hx hb (by omega) (by omega) dX10_credit_28 (tgt := 41) (by decide) (fun c_3 => ?_) (fun c_3 => ?_)
  · refine lv_aload_n hx hb dX10_credit_41 rfl (lv_at hl 2 rfl) ?_
    refine lv_iload_n hx hb dX10_credit_42 rfl (lv_at hl 4 rfl) ?_
    refine vp_callSi (va_runV (As := [.int (nI co)]) (rest := []) ⟨hx, hb, hml, hown, hts⟩ (c_X10_isCodeTaken l G cy a nc np T cd co (by omega) (by omega) (hcd)) (cwV 1 hts gX10_credit_X10_isCodeTaken rfl rfl rfl (by decide +kernel) ⟨Nat.le_of_ble_eq_true rfl, Nat.le_of_ble_eq_true rfl⟩) (z_pV hK hP [0, 4, 5] rfl (ci := 11) (q0 := 0) rfl rfl rfl) rfl rfl hl.1 rfl (lv_room (Nat.le_of_ble_eq_true rfl)) dX10_credit_43 ⟨Nat.le_of_ble_eq_true rfl, Nat.le_of_ble_eq_true rfl⟩).run (fun r_4 hr_4 => ?_)
    rcases hr_4 with ⟨rfl, b_5⟩ | ⟨rfl, b_5⟩
    · exact absurd b_5 hc9
    · refine lv_if_ne hx hb dX10_credit_46 (tgt := 59) (by decide) (fun q => absurd (by decide) q) (fun _ => ?_)
      refine lv_aload_n hx hb dX10_credit_49 rfl (lv_at hl 2 rfl) ?_
      refine va_get (D := G) (ci := 11) (v := .int (nI nc)) (C := RX10) (T := TX10) (N := 10) hx hb hts in_X10_credit_X10 hown hK hP 0 rfl rfl 7 (by decide) (hts _ (List.mem_of_getElem? (i := 6) (by decide +kernel))) (fun _ h9 => h9) rfl dX10_credit_50 ?_
      refine lv_sipush (v := nI 512) hx hb dX10_credit_53 (by decide) ?_
      refine z_icmp_lt hx hb (by omega) (by omega) dX10_credit_56 (tgt := 69) (by decide) (fun c_6 => ?_) (fun c_6 => ?_)
      · refine lv_aload_n hx hb dX10_credit_69 rfl (lv_at hl 2 rfl) ?_
        refine va_get (D := G) (ci := 11) (v := .ref (a 34)) (C := RX10) (T := TX10) (N := 10) hx hb hts in_X10_credit_X10 hown hK hP 0 rfl rfl 5 (by decide) (hts _ (List.mem_of_getElem? (i := 7) (by decide +kernel))) (fun _ h9 => h9) rfl dX10_credit_70 ?_
        refine lv_aload_n hx hb dX10_credit_73 rfl (lv_at hl 2 rfl) ?_
        refine va_get (D := G) (ci := 11) (v := .int (nI nc)) (C := RX10) (T := TX10) (N := 10) hx hb hts in_X10_credit_X10 hown hK hP 0 rfl rfl 7 (by decide) (hts _ (List.mem_of_getElem? (i := 6) (by decide +kernel))) (fun _ h9 => h9) rfl dX10_credit_74 ?_
        refine lv_iload_n hx hb dX10_credit_77 rfl (lv_at hl 4 rfl) ?_
        refine z_i2l hx hb (by omega) dX10_credit_78 ?_
        refine z_cv (wc := [zO (a 34) 6 [.ref (a 35)], zL cy (a 35) 512 (fun j9 => lN (cd j9))]) (va_runV (As := [.int (nI nc), .long (lN co)]) (rest := []) ⟨hx, hb, hml, hown, hts⟩ (c_X5_setN l G cy _ (a 34) (a 35) 512 cd nc co (by omega) (by omega)) (cwV 2 hts gX10_credit_X5_set rfl rfl rfl (by decide +kernel) ⟨Nat.le_of_ble_eq_true rfl, Nat.le_of_ble_eq_true rfl⟩) (z_pVM hK hP hD [4, 5] rfl (by decide) (ci := 6) (q0 := 0) rfl rfl rfl) rfl rfl hl.1 rfl (lv_room (Nat.le_of_ble_eq_true rfl)) dX10_credit_79 ⟨Nat.le_of_ble_eq_true rfl, Nat.le_of_ble_eq_true rfl⟩) hP hD hS hA [4, 5] [0, 1, 2, 3] [0, 1, 2, 3, 4, 5] [zO (a 0) 11 [.ref (a 1), .ref (a 4), .ref (a 11), .ref (a 18), .ref (a 20), .ref (a 34), .ref (a 36), .int (nI nc), .int (nI np), .int (nI T)], zQ cy (a 36) 8 pt, zO (b 0) 4 [.int (nI fi), .ref (b 1), .ref (b 7), .ref (b 10)], zO (b 10) 1 [.ref (a 18), .ref (b 11), .ref (b 13), .long ow]] (fun _ => [zO (a 0) 11 [.ref (a 1), .ref (a 4), .ref (a 11), .ref (a 18), .ref (a 20), .ref (a 34), .ref (a 36), .int (nI nc), .int (nI np), .int (nI T)], zQ cy (a 36) 8 pt, zO (b 0) 4 [.int (nI fi), .ref (b 1), .ref (b 7), .ref (b 10)], zO (b 10) 1 [.ref (a 18), .ref (b 11), .ref (b 13), .long ow], zO (a 34) 6 [.ref (a 35)], zL cy (a 35) 512 (fun j9 => lN ((va_up cd nc co) j9))]) rfl rfl (by decide) (fun _ => rfl) (fun u H locs hr_7 hQ hD hS hz => ?_)
        have hP : va_P G vwCl [zO (a 0) 11 [.ref (a 1), .ref (a 4), .ref (a 11), .ref (a 18), .ref (a 20), .ref (a 34), .ref (a 36), .int (nI nc), .int (nI np), .int (nI T)], zQ cy (a 36) 8 pt, zO (b 0) 4 [.int (nI fi), .ref (b 1), .ref (b 7), .ref (b 10)], zO (b 10) 1 [.ref (a 18), .ref (b 11), .ref (b 13), .long ow], zO (a 34) 6 [.ref (a 35)], zL cy (a 35) 512 (fun j9 => lN ((va_up cd nc co) j9))] H := hQ
        have hD : va_D A [zO (a 0) 11 [.ref (a 1), .ref (a 4), .ref (a 11), .ref (a 18), .ref (a 20), .ref (a 34), .ref (a 36), .int (nI nc), .int (nI np), .int (nI T)], zQ cy (a 36) 8 pt, zO (b 0) 4 [.int (nI fi), .ref (b 1), .ref (b 7), .ref (b 10)], zO (b 10) 1 [.ref (a 18), .ref (b 11), .ref (b 13), .long ow], zO (a 34) 6 [.ref (a 35)], zL cy (a 35) 512 (fun j9 => lN ((va_up cd nc co) j9))] := hD
        clear hQ
        refine lv_aload_n hx hb dX10_credit_82 rfl (lv_at hl 2 rfl) ?_
        refine lv_dup hx hb dX10_credit_83 rfl ?_
        refine va_get (D := G) (ci := 11) (v := .int (nI nc)) (C := RX10) (T := TX10) (N := 10) hx hb hts in_X10_credit_X10 hown hK hP 0 rfl rfl 7 (by decide) (hts _ (List.mem_of_getElem? (i := 6) (by decide +kernel))) (fun _ h9 => h9) rfl dX10_credit_84 ?_
        refine lv_iconst (v := nI 1) hx hb dX10_credit_87 (by decide) ?_
        refine z_iadd hx hb dX10_credit_88 ?_
        refine va_put (D := G) (ci := 11) (v := .int (nI (nc + 1))) (ty := .int) (C := RX10) (T := TX10) (N := 10) hx hb hts in_X10_credit_X10 tyX10 tyX10_ok nmX10 hown hK hP hD hS 0 rfl rfl 7 (by decide) (hts _ (List.mem_of_getElem? (i := 6) (by decide +kernel))) (fun _ h9 => h9) rfl (by decide +kernel) rfl rfl (Nat.le_of_ble_eq_true rfl) dX10_credit_89 (fun H locs hP hD hS => ?_)
        have hP : va_P G vwCl [zO (a 0) 11 [.ref (a 1), .ref (a 4), .ref (a 11), .ref (a 18), .ref (a 20), .ref (a 34), .ref (a 36), .int (nI (nc + 1)), .int (nI np), .int (nI T)], zQ cy (a 36) 8 pt, zO (b 0) 4 [.int (nI fi), .ref (b 1), .ref (b 7), .ref (b 10)], zO (b 10) 1 [.ref (a 18), .ref (b 11), .ref (b 13), .long ow], zO (a 34) 6 [.ref (a 35)], zL cy (a 35) 512 (fun j9 => lN ((va_up cd nc co) j9))] H := hP
        have hD : va_D A [zO (a 0) 11 [.ref (a 1), .ref (a 4), .ref (a 11), .ref (a 18), .ref (a 20), .ref (a 34), .ref (a 36), .int (nI (nc + 1)), .int (nI np), .int (nI T)], zQ cy (a 36) 8 pt, zO (b 0) 4 [.int (nI fi), .ref (b 1), .ref (b 7), .ref (b 10)], zO (b 10) 1 [.ref (a 18), .ref (b 11), .ref (b 13), .long ow], zO (a 34) 6 [.ref (a 35)], zL cy (a 35) 512 (fun j9 => lN ((va_up cd nc co) j9))] := hD
        refine lv_iload hx hb dX10_credit_92 (lv_at hl 0 rfl) ?_
        refine lv_sipush (v := nI 1000) hx hb dX10_credit_94 (by decide) ?_
        refine z_irem hx hb (by omega) (by omega) (by omega) dX10_credit_97 ?_
        refine lv_istore (lv' := [(5, .int (nI ((co / 97) % 1000))), (4, .int (nI (co / 97))), (3, .ref (b 10)), (0, .ref (a 0)), (1, .int (nI k)), (2, .int (nI co))]) hx hb dX10_credit_98 hl (by decide) rfl (fun ls hl => ?_)
        refine lv_aload_n hx hb dX10_credit_100 rfl (lv_at hl 2 rfl) ?_
        refine lv_iload hx hb dX10_credit_101 (lv_at hl 0 rfl) ?_
        refine lv_ineg hx hb dX10_credit_103 ?_
        refine lv_i2l (v := (-(nI ((co / 97) % 1000))).toInt64) hx hb dX10_credit_104 rfl ?_
        refine z_cv (wc := [zO (b 10) 1 [.ref (a 18), .ref (b 11), .ref (b 13), .long ow]]) (va_runV (As := [.long ((-(nI ((co / 97) % 1000))).toInt64)]) (rest := []) ⟨hx, hb, hml, hown, hts⟩ (c_X0_owe l G cy _ (b 10) (a 18) (b 11) (b 13) ow ((-(nI ((co / 97) % 1000))).toInt64)) (cwV 1 hts gX10_credit_X0_owe rfl rfl rfl (by decide +kernel) ⟨Nat.le_of_ble_eq_true rfl, Nat.le_of_ble_eq_true rfl⟩) (z_pVM hK hP hD [3] rfl (by decide) (ci := 1) (q0 := 0) rfl rfl rfl) rfl rfl hl.1 rfl (lv_room (Nat.le_of_ble_eq_true rfl)) dX10_credit_105 ⟨Nat.le_of_ble_eq_true rfl, Nat.le_of_ble_eq_true rfl⟩) hP hD hS hA [3] [0, 1, 2, 4, 5] [0, 1, 2, 5, 3, 4] [zO (a 0) 11 [.ref (a 1), .ref (a 4), .ref (a 11), .ref (a 18), .ref (a 20), .ref (a 34), .ref (a 36), .int (nI (nc + 1)), .int (nI np), .int (nI T)], zQ cy (a 36) 8 pt, zO (b 0) 4 [.int (nI fi), .ref (b 1), .ref (b 7), .ref (b 10)], zO (a 34) 6 [.ref (a 35)], zL cy (a 35) 512 (fun j9 => lN ((va_up cd nc co) j9))] (fun _ => [zO (a 0) 11 [.ref (a 1), .ref (a 4), .ref (a 11), .ref (a 18), .ref (a 20), .ref (a 34), .ref (a 36), .int (nI (nc + 1)), .int (nI np), .int (nI T)], zQ cy (a 36) 8 pt, zO (b 0) 4 [.int (nI fi), .ref (b 1), .ref (b 7), .ref (b 10)], zO (b 10) 1 [.ref (a 18), .ref (b 11), .ref (b 13), .long (ow + ((-(nI ((co / 97) % 1000))).toInt64))], zO (a 34) 6 [.ref (a 35)], zL cy (a 35) 512 (fun j9 => lN ((va_up cd nc co) j9))]) rfl rfl (by decide) (fun _ => rfl) (fun u H locs hr_8 hQ hD hS hz => ?_)
        have hP : va_P G vwCl [zO (a 0) 11 [.ref (a 1), .ref (a 4), .ref (a 11), .ref (a 18), .ref (a 20), .ref (a 34), .ref (a 36), .int (nI (nc + 1)), .int (nI np), .int (nI T)], zQ cy (a 36) 8 pt, zO (b 0) 4 [.int (nI fi), .ref (b 1), .ref (b 7), .ref (b 10)], zO (b 10) 1 [.ref (a 18), .ref (b 11), .ref (b 13), .long (ow + ((-(nI ((co / 97) % 1000))).toInt64))], zO (a 34) 6 [.ref (a 35)], zL cy (a 35) 512 (fun j9 => lN ((va_up cd nc co) j9))] H := hQ
        have hD : va_D A [zO (a 0) 11 [.ref (a 1), .ref (a 4), .ref (a 11), .ref (a 18), .ref (a 20), .ref (a 34), .ref (a 36), .int (nI (nc + 1)), .int (nI np), .int (nI T)], zQ cy (a 36) 8 pt, zO (b 0) 4 [.int (nI fi), .ref (b 1), .ref (b 7), .ref (b 10)], zO (b 10) 1 [.ref (a 18), .ref (b 11), .ref (b 13), .long (ow + ((-(nI ((co / 97) % 1000))).toInt64))], zO (a 34) 6 [.ref (a 35)], zL cy (a 35) 512 (fun j9 => lN ((va_up cd nc co) j9))] := hD
        clear hQ
        refine lv_iload hx hb dX10_credit_108 (lv_at hl 0 rfl) ?_
        exact z_rMi hx hb hr hlk dX10_credit_110 () (rfl) hP hD hK hS (Nat.le_of_ble_eq_true rfl) (Nat.le_of_ble_eq_true rfl)
      · exfalso; omega
  · exact absurd hy9 c_3
