set_option maxHeartbeats 4000000 in
set_option maxRecDepth 100000 in
theorem c_J0_coder_7d493 (l : Launch) (G : va_G) (cy : Nat → ClassId) (wd : Nat → Nat) (fo : Option Nat) (N0 sz0 : Nat)  : Met l yJ0_coder_7d493 wsJ0_coder_7d493 ({ frames := 0, cells := 0, slots := 0, locals := 0 }) (zMW G cy wd fo N0 [.ref (wd 2)] sz0 []) (va_Qi (fun (r : Int32) (_ : Unit) => r = (nI 0)) (fun (u : Unit) t9 => zB G cy (va_A [] sz0) [] t9) (va_A [] sz0)) 0 0 (va_A [] sz0) := by
  refine z_ofMW (cc := cJ0_coder_7d493) (maxL := 1) (ret := (some .byte)) (Qc := (fun A => va_Qi (fun (r : Int32) (_ : Unit) => r = (nI 0)) (fun (u : Unit) t9 => zB G cy A [] t9) A)) (by decide) rfl (Nat.le_of_ble_eq_true rfl) ?_
  intro p e s m below meth c ls A hx hb hml hr hts hown hlk hin hP hK hD hA hS hl hsz0 hN hAN hWd
  have hown : s.vm.findClass RJ0 = some m.cls := hown
  have hl : lv_has ls 1 [(0, .ref (wd 2))] := hl
  refine va_gets (v := .int (nI 1)) hx hb (hWd.cs hAN) hS hown (hts _ (List.mem_of_getElem? (i := 1) (by decide +kernel))) (fun _ h9 => h9) dJ0_coder_7d493_0 ?_
  refine lv_if_eq hx hb dJ0_coder_7d493_3 (tgt := 13) (by decide) (fun q => absurd q (by decide)) (fun _ => ?_)
  refine lv_aload_n hx hb dJ0_coder_7d493_6 rfl (lv_at hl 0 rfl) ?_
  refine vk_getf (v := .int (nI 0)) hx hb ((hWd.ks hAN).1 0 (by decide)).2.1 hS hown (hts _ (List.mem_of_getElem? (i := 2) (by decide +kernel))) (fun _ h9 => h9) dJ0_coder_7d493_7 ?_
  refine lv_goto (tgt := 14) hx hb dJ0_coder_7d493_10 (by decide) ?_
  exact z_rMz hx hb hr hlk (by rfl) dJ0_coder_7d493_14 () (rfl) hP hD hK hS (Nat.le_of_ble_eq_true rfl) (Nat.le_of_ble_eq_true rfl)
set_option maxHeartbeats 4000000 in
set_option maxRecDepth 100000 in
theorem c_J0_length_8abf5 (l : Launch) (G : va_G) (cy : Nat → ClassId) (wd : Nat → Nat) (fo : Option Nat) (N0 sz0 : Nat)  : Met l yJ0_length_8abf5 wsJ0_length_8abf5 ({ frames := 1, cells := 0, slots := 0, locals := 20 }) (zMW G cy wd fo N0 [.ref (wd 2)] sz0 []) (va_Qi (fun (r : Int32) (_ : Unit) => r = (nI 2)) (fun (u : Unit) t9 => zB G cy (va_A [] sz0) [] t9) (va_A [] sz0)) 0 0 (va_A [] sz0) := by
  refine z_ofMW (cc := cJ0_length_8abf5) (maxL := 1) (ret := (some .int)) (Qc := (fun A => va_Qi (fun (r : Int32) (_ : Unit) => r = (nI 2)) (fun (u : Unit) t9 => zB G cy A [] t9) A)) (by decide) rfl (Nat.le_of_ble_eq_true rfl) ?_
  intro p e s m below meth c ls A hx hb hml hr hts hown hlk hin hP hK hD hA hS hl hsz0 hN hAN hWd
  have hown : s.vm.findClass RJ0 = some m.cls := hown
  have hl : lv_has ls 1 [(0, .ref (wd 2))] := hl
  refine lv_aload_n hx hb dJ0_length_8abf5_0 rfl (lv_at hl 0 rfl) ?_
  refine vk_getf (v := .ref (wd 3)) hx hb ((hWd.ks hAN).1 0 (by decide)).2.2.1 hS hown (hts _ (List.mem_of_getElem? (i := 1) (by decide +kernel))) (fun _ h9 => h9) dJ0_length_8abf5_1 ?_
  refine va_tlen (v := nI 2) hx hb ((hWd.ks hAN).1 0 (by decide)).2.2.2 hS rfl dJ0_length_8abf5_4 ?_
  refine lv_aload_n hx hb dJ0_length_8abf5_5 rfl (lv_at hl 0 rfl) ?_
  refine z_ci (wc := []) (va_runV (As := []) (rest := [.int (nI 2)]) ⟨hx, hb, hml, hown, hts⟩ (c_J0_coder_7d493 l G cy wd fo _ _ ) (cwV 0 hts gJ0_length_8abf5_J0_coder_7d493 rfl rfl rfl (by decide +kernel) ⟨Nat.le_of_ble_eq_true rfl, Nat.le_of_ble_eq_true rfl⟩) (z_pVW hK hP hD hS hN hAN hWd [] rfl (by decide) (vk_recv (i := 0) (hWd.ks hAN) (by decide) hS)) rfl rfl hl.1 rfl (lv_room (Nat.le_of_ble_eq_true rfl)) dJ0_length_8abf5_6 ⟨Nat.le_of_ble_eq_true rfl, Nat.le_of_ble_eq_true rfl⟩) hP hD hS hA [] [] [] [] (fun _ => []) rfl rfl (by decide) (fun _ => rfl) (fun r_1 u H locs hr_1 hQ hD hS hz => ?_)
  have hP : va_P G vwCl [] H := hQ
  have hD : va_D A [] := hD
  clear hQ
  obtain rfl : r_1 = (nI 0) := hr_1
  refine lv_ishr hx hb dJ0_length_8abf5_9 ?_
  rw [show nI 2 >>> (nI 0 &&& 31) = nI 2 from sb_shr0 _]
  exact z_rMi hx hb hr hlk dJ0_length_8abf5_10 () (rfl) hP hD hK hS (Nat.le_of_ble_eq_true rfl) (Nat.le_of_ble_eq_true rfl)
theorem in_J5_inflateIfNeededFor_a7421_J4 : ∀ w ∈ u_ws RJ4 TJ4 4, w ∈ wsJ5_inflateIfNeededFor_a7421 := fun _ h => (List.mem_cons_of_mem _ (List.mem_append_right _ h))
set_option maxHeartbeats 4000000 in
set_option maxRecDepth 100000 in
theorem c_J5_inflateIfNeededFor_a7421 (l : Launch) (G : va_G) (cy : Nat → ClassId) (wd : Nat → Nat) (fo : Option Nat) (N0 sz0 : Nat) (h v : Nat) (cnt : Nat) : Met l yJ5_inflateIfNeededFor_a7421 wsJ5_inflateIfNeededFor_a7421 ({ frames := 1, cells := 0, slots := 0, locals := 20 }) (zMW G cy wd fo N0 [.ref h, .ref (wd 2)] sz0 [zO h 0 [.ref v, .int (nI 0), .int (nI 0), .int (nI cnt)]]) (va_Qv (fun (_ : Unit) => True) (fun (u : Unit) t9 => zB G cy (va_A [zO h 0 [.ref v, .int (nI 0), .int (nI 0), .int (nI cnt)]] sz0) [zO h 0 [.ref v, .int (nI 0), .int (nI 0), .int (nI cnt)]] t9) (va_A [zO h 0 [.ref v, .int (nI 0), .int (nI 0), .int (nI cnt)]] sz0)) 0 0 (va_A [zO h 0 [.ref v, .int (nI 0), .int (nI 0), .int (nI cnt)]] sz0) := by
  refine z_ofMW (cc := cJ5_inflateIfNeededFor_a7421) (maxL := 2) (ret := none) (Qc := (fun A => va_Qv (fun (_ : Unit) => True) (fun (u : Unit) t9 => zB G cy A [zO h 0 [.ref v, .int (nI 0), .int (nI 0), .int (nI cnt)]] t9) A)) (by decide) rfl (Nat.le_of_ble_eq_true rfl) ?_
  intro p e s m below meth c ls A hx hb hml hr hts hown hlk hin hP hK hD hA hS hl hsz0 hN hAN hWd
  have hown : s.vm.findClass RJ5 = some m.cls := hown
  have hl : lv_has ls 2 [(0, .ref h), (1, .ref (wd 2))] := hl
  refine va_gets (v := .int (nI 1)) hx hb (hWd.cs hAN) hS hown (hts _ (List.mem_of_getElem? (i := 1) (by decide +kernel))) (fun _ h9 => h9) dJ5_inflateIfNeededFor_a7421_0 ?_
  refine lv_if_eq hx hb dJ5_inflateIfNeededFor_a7421_3 (tgt := 21) (by decide) (fun q => absurd q (by decide)) (fun _ => ?_)
  refine lv_aload_n hx hb dJ5_inflateIfNeededFor_a7421_6 rfl (lv_at hl 0 rfl) ?_
  refine va_get (D := G) (ci := 0) (v := .int (nI 0)) (C := RJ4) (T := TJ4) (N := 4) hx hb hts in_J5_inflateIfNeededFor_a7421_J4 hown hK hP 0 rfl rfl 1 (by decide) (hts _ (List.mem_of_getElem? (i := 2) (by decide +kernel))) (fun _ h9 => h9) rfl dJ5_inflateIfNeededFor_a7421_7 ?_
  refine lv_aload_n hx hb dJ5_inflateIfNeededFor_a7421_10 rfl (lv_at hl 1 rfl) ?_
  refine z_ci (wc := []) (va_runV (As := []) (rest := [.int (nI 0)]) ⟨hx, hb, hml, hown, hts⟩ (c_J0_coder_7d493 l G cy wd fo _ _ ) (cwV 0 hts gJ5_inflateIfNeededFor_a7421_J0_coder_7d493 rfl rfl rfl (by decide +kernel) ⟨Nat.le_of_ble_eq_true rfl, Nat.le_of_ble_eq_true rfl⟩) (z_pVW hK hP hD hS hN hAN hWd [] rfl (by decide) (vk_recv (i := 0) (hWd.ks hAN) (by decide) hS)) rfl rfl hl.1 rfl (lv_room (Nat.le_of_ble_eq_true rfl)) dJ5_inflateIfNeededFor_a7421_11 ⟨Nat.le_of_ble_eq_true rfl, Nat.le_of_ble_eq_true rfl⟩) hP hD hS hA [] [0] [0] [zO h 0 [.ref v, .int (nI 0), .int (nI 0), .int (nI cnt)]] (fun _ => [zO h 0 [.ref v, .int (nI 0), .int (nI 0), .int (nI cnt)]]) rfl rfl (by decide) (fun _ => rfl) (fun r_1 u H locs hr_1 hQ hD hS hz => ?_)
  have hP : va_P G vwCl [zO h 0 [.ref v, .int (nI 0), .int (nI 0), .int (nI cnt)]] H := hQ
  have hD : va_D A [zO h 0 [.ref v, .int (nI 0), .int (nI 0), .int (nI cnt)]] := hD
  clear hQ
  obtain rfl : r_1 = (nI 0) := hr_1
  refine z_icmp_eq hx hb (by omega) (by omega) dJ5_inflateIfNeededFor_a7421_14 (tgt := 21) (by decide) (fun c_2 => ?_) (fun c_2 => ?_)
  · exact z_rMv hx hb hr hlk dJ5_inflateIfNeededFor_a7421_21 () (trivial) hP hD hK hS (Nat.le_of_ble_eq_true rfl) (Nat.le_of_ble_eq_true rfl)
  · exact absurd rfl c_2
set_option maxHeartbeats 4000000 in
set_option maxRecDepth 100000 in
theorem c_J0_getBytes_840e7 (l : Launch) (G : va_G) (cy : Nat → ClassId) (wd : Nat → Nat) (fo : Option Nat) (N0 sz0 : Nat) (v off : Nat) (t : Nat → Nat) (ho : off + 2 ≤ 16) : Met l yJ0_getBytes_840e7 wsJ0_getBytes_840e7 ({ frames := 1, cells := 0, slots := 0, locals := 60 }) (zMW G cy wd fo N0 [.ref (wd 2), .ref v, .int (nI off), .int (nI 0)] sz0 [zY cy v 16 (fun j9 => nI (t j9))]) (va_Qv (fun (_ : Unit) => True) (fun (u : Unit) t9 => zB G cy (va_A [zY cy v 16 (fun j9 => nI (t j9))] sz0) [zY cy v 16 (fun j9 => nI ((va_up (va_up t off 47) (off + 1) 115) j9))] t9) (va_A [zY cy v 16 (fun j9 => nI (t j9))] sz0)) 0 0 (va_A [zY cy v 16 (fun j9 => nI (t j9))] sz0) := by
  refine z_ofMW (cc := cJ0_getBytes_840e7) (maxL := 4) (ret := none) (Qc := (fun A => va_Qv (fun (_ : Unit) => True) (fun (u : Unit) t9 => zB G cy A [zY cy v 16 (fun j9 => nI ((va_up (va_up t off 47) (off + 1) 115) j9))] t9) A)) (by decide) rfl (Nat.le_of_ble_eq_true rfl) ?_
  intro p e s m below meth c ls A hx hb hml hr hts hown hlk hin hP hK hD hA hS hl hsz0 hN hAN hWd
  have hown : s.vm.findClass RJ0 = some m.cls := hown
  have hl : lv_has ls 4 [(0, .ref (wd 2)), (1, .ref v), (2, .int (nI off)), (3, .int (nI 0))] := hl
  refine lv_aload_n hx hb dJ0_getBytes_840e7_0 rfl (lv_at hl 0 rfl) ?_
  refine z_ci (wc := []) (va_runV (As := []) (rest := []) ⟨hx, hb, hml, hown, hts⟩ (c_J0_coder_7d493 l G cy wd fo _ _ ) (cwV 0 hts gJ0_getBytes_840e7_J0_coder_7d493 rfl rfl rfl (by decide +kernel) ⟨Nat.le_of_ble_eq_true rfl, Nat.le_of_ble_eq_true rfl⟩) (z_pVW hK hP hD hS hN hAN hWd [] rfl (by decide) (vk_recv (i := 0) (hWd.ks hAN) (by decide) hS)) rfl rfl hl.1 rfl (lv_room (Nat.le_of_ble_eq_true rfl)) dJ0_getBytes_840e7_1 ⟨Nat.le_of_ble_eq_true rfl, Nat.le_of_ble_eq_true rfl⟩) hP hD hS hA [] [0] [0] [zY cy v 16 (fun j9 => nI (t j9))] (fun _ => [zY cy v 16 (fun j9 => nI (t j9))]) rfl rfl (by decide) (fun _ => rfl) (fun r_1 u H locs hr_1 hQ hD hS hz => ?_)
  have hP : va_P G vwCl [zY cy v 16 (fun j9 => nI (t j9))] H := hQ
  have hD : va_D A [zY cy v 16 (fun j9 => nI (t j9))] := hD
  clear hQ
  obtain rfl : r_1 = (nI 0) := hr_1
  refine lv_iload_n hx hb dJ0_getBytes_840e7_4 rfl (lv_at hl 3 rfl) ?_
  refine z_icmp_ne hx hb (by omega) (by omega) dJ0_getBytes_840e7_5 (tgt := 28) (by decide) (fun c_2 => ?_) (fun c_2 => ?_)
  · exact absurd rfl c_2
  · refine lv_aload_n hx hb dJ0_getBytes_840e7_8 rfl (lv_at hl 0 rfl) ?_
    refine vk_getf (v := .ref (wd 3)) hx hb ((hWd.ks hAN).1 0 (by decide)).2.2.1 hS hown (hts _ (List.mem_of_getElem? (i := 1) (by decide +kernel))) (fun _ h9 => h9) dJ0_getBytes_840e7_9 ?_
    refine lv_iconst (v := nI 0) hx hb dJ0_getBytes_840e7_12 (by decide) ?_
    refine lv_aload_n hx hb dJ0_getBytes_840e7_13 rfl (lv_at hl 1 rfl) ?_
    refine lv_iload_n hx hb dJ0_getBytes_840e7_14 rfl (lv_at hl 2 rfl) ?_
    refine lv_iload_n hx hb dJ0_getBytes_840e7_15 rfl (lv_at hl 3 rfl) ?_
    refine lv_ishl hx hb dJ0_getBytes_840e7_16 ?_
    rw [show nI off <<< (nI 0 &&& 31) = nI off from sb_shl0 _]
    refine lv_aload_n hx hb dJ0_getBytes_840e7_17 rfl (lv_at hl 0 rfl) ?_
    refine vk_getf (v := .ref (wd 3)) hx hb ((hWd.ks hAN).1 0 (by decide)).2.2.1 hS hown (hts _ (List.mem_of_getElem? (i := 1) (by decide +kernel))) (fun _ h9 => h9) dJ0_getBytes_840e7_18 ?_
    refine va_tlen (v := nI 2) hx hb ((hWd.ks hAN).1 0 (by decide)).2.2.2 hS rfl dJ0_getBytes_840e7_21 ?_
    refine vk_copyt (f := fun j => ([47, 115] : List Int32).getD j 0) (n0 := 2) (sp := nI 0) (dp := nI off) (n := nI 2) hx hb (by rw [hml]; exact hl.1.symm) hown (hts _ (List.mem_of_getElem? (i := 2) (by decide +kernel))) (hts _ (List.mem_of_getElem? (i := 3) (by decide +kernel))) (hts _ (List.mem_of_getElem? (i := 4) (by decide +kernel))) (hts _ (List.mem_of_getElem? (i := 5) (by decide +kernel))) hK hP hD hS ((hWd.ks hAN).1 0 (by decide)).2.2.2 0 3 rfl rfl (by decide) (nI_pos (by omega)) (by decide) (by decide) (by rw [nI_clamp (by omega), nI_clamp (by decide)]; omega) (fun i hi => by have h9 : i < 2 := hi; rcases (show i = 0 ∨ i = 1 by omega) with rfl | rfl <;> decide) (Nat.le_of_ble_eq_true rfl) (Nat.le_of_ble_eq_true rfl) dJ0_getBytes_840e7_22 (fun H locs hP hD hS => ?_)
    have hP : va_P G vwCl [zY cy v 16 (va_cpy (fun j => ([47, 115] : List Int32).getD j 0) (fun j9 => nI (t j9)) (nI 0).toNatClampNeg (nI off).toNatClampNeg (nI 2).toNatClampNeg)] H := hP
    have hD : va_D A [zY cy v 16 (va_cpy (fun j => ([47, 115] : List Int32).getD j 0) (fun j9 => nI (t j9)) (nI 0).toNatClampNeg (nI off).toNatClampNeg (nI 2).toNatClampNeg)] := hD
    rw [z_cpy2 (by omega)] at hP hD
    refine lv_goto (tgt := 43) hx hb dJ0_getBytes_840e7_25 (by decide) ?_
    exact z_rMv hx hb hr hlk dJ0_getBytes_840e7_43 () (trivial) hP hD hK hS (Nat.le_of_ble_eq_true rfl) (Nat.le_of_ble_eq_true rfl)
theorem in_J5_putStringAt_47b60_J4 : ∀ w ∈ u_ws RJ4 TJ4 4, w ∈ wsJ5_putStringAt_47b60 := fun _ h => (List.mem_cons_of_mem _ (List.mem_append_right _ h))
set_option maxHeartbeats 4000000 in
set_option maxRecDepth 100000 in
theorem c_J5_putStringAt_47b60 (l : Launch) (G : va_G) (cy : Nat → ClassId) (wd : Nat → Nat) (fo : Option Nat) (N0 sz0 : Nat) (h v : Nat) (cnt off : Nat) (t : Nat → Nat) (ho : off + 2 ≤ 16) : Met l yJ5_putStringAt_47b60 wsJ5_putStringAt_47b60 ({ frames := 2, cells := 0, slots := 0, locals := 83 }) (zMW G cy wd fo N0 [.ref h, .int (nI off), .ref (wd 2)] sz0 [zO h 0 [.ref v, .int (nI 0), .int (nI 0), .int (nI cnt)], zY cy v 16 (fun j9 => nI (t j9))]) (va_Qv (fun (_ : Unit) => True) (fun (u : Unit) t9 => zB G cy (va_A [zO h 0 [.ref v, .int (nI 0), .int (nI 0), .int (nI cnt)], zY cy v 16 (fun j9 => nI (t j9))] sz0) [zO h 0 [.ref v, .int (nI 0), .int (nI 0), .int (nI cnt)], zY cy v 16 (fun j9 => nI ((va_up (va_up t off 47) (off + 1) 115) j9))] t9) (va_A [zO h 0 [.ref v, .int (nI 0), .int (nI 0), .int (nI cnt)], zY cy v 16 (fun j9 => nI (t j9))] sz0)) 0 0 (va_A [zO h 0 [.ref v, .int (nI 0), .int (nI 0), .int (nI cnt)], zY cy v 16 (fun j9 => nI (t j9))] sz0) := by
  refine z_ofMW (cc := cJ5_putStringAt_47b60) (maxL := 3) (ret := none) (Qc := (fun A => va_Qv (fun (_ : Unit) => True) (fun (u : Unit) t9 => zB G cy A [zO h 0 [.ref v, .int (nI 0), .int (nI 0), .int (nI cnt)], zY cy v 16 (fun j9 => nI ((va_up (va_up t off 47) (off + 1) 115) j9))] t9) A)) (by decide) rfl (Nat.le_of_ble_eq_true rfl) ?_
  intro p e s m below meth c ls A hx hb hml hr hts hown hlk hin hP hK hD hA hS hl hsz0 hN hAN hWd
  have hown : s.vm.findClass RJ5 = some m.cls := hown
  have hl : lv_has ls 3 [(0, .ref h), (1, .int (nI off)), (2, .ref (wd 2))] := hl
  refine lv_aload_n hx hb dJ5_putStringAt_47b60_0 rfl (lv_at hl 0 rfl) ?_
  refine lv_aload_n hx hb dJ5_putStringAt_47b60_1 rfl (lv_at hl 2 rfl) ?_
  refine z_cv (wc := [zO h 0 [.ref v, .int (nI 0), .int (nI 0), .int (nI cnt)]]) (va_runU (As := [.ref (wd 2)]) (rest := []) ⟨hx, hb, hml, hown, hts⟩ (c_J5_inflateIfNeededFor_a7421 l G cy wd fo _ _ h v cnt) (va_cwU 1 hts gJ5_putStringAt_47b60_J5_inflateIfNeededFor_a7421_u397J4 rfl rfl rfl rfl (by decide +kernel) ⟨Nat.le_of_ble_eq_true rfl, Nat.le_of_ble_eq_true rfl⟩) (z_pVW hK hP hD hS hN hAN hWd [0] rfl (by decide) (va_recv hK hP (ci := 0) (q0 := 0) rfl rfl)) rfl rfl hl.1 rfl (lv_room (Nat.le_of_ble_eq_true rfl)) dJ5_putStringAt_47b60_2 ⟨Nat.le_of_ble_eq_true rfl, Nat.le_of_ble_eq_true rfl⟩) hP hD hS hA [0] [1] [1, 0] [zY cy v 16 (fun j9 => nI (t j9))] (fun _ => [zO h 0 [.ref v, .int (nI 0), .int (nI 0), .int (nI cnt)], zY cy v 16 (fun j9 => nI (t j9))]) rfl rfl (by decide) (fun _ => rfl) (fun u H locs hr_1 hQ hD hS hz => ?_)
  have hP : va_P G vwCl [zO h 0 [.ref v, .int (nI 0), .int (nI 0), .int (nI cnt)], zY cy v 16 (fun j9 => nI (t j9))] H := hQ
  have hD : va_D A [zO h 0 [.ref v, .int (nI 0), .int (nI 0), .int (nI cnt)], zY cy v 16 (fun j9 => nI (t j9))] := hD
  clear hQ
  refine lv_aload_n hx hb dJ5_putStringAt_47b60_5 rfl (lv_at hl 2 rfl) ?_
  refine lv_aload_n hx hb dJ5_putStringAt_47b60_6 rfl (lv_at hl 0 rfl) ?_
  refine va_get (D := G) (ci := 0) (v := .ref v) (C := RJ4) (T := TJ4) (N := 4) hx hb hts in_J5_putStringAt_47b60_J4 hown hK hP 0 rfl rfl 0 (by decide) (hts _ (List.mem_of_getElem? (i := 1) (by decide +kernel))) (fun _ h9 => h9) rfl dJ5_putStringAt_47b60_7 ?_
  refine lv_iload_n hx hb dJ5_putStringAt_47b60_10 rfl (lv_at hl 1 rfl) ?_
  refine lv_aload_n hx hb dJ5_putStringAt_47b60_11 rfl (lv_at hl 0 rfl) ?_
  refine va_get (D := G) (ci := 0) (v := .int (nI 0)) (C := RJ4) (T := TJ4) (N := 4) hx hb hts in_J5_putStringAt_47b60_J4 hown hK hP 0 rfl rfl 1 (by decide) (hts _ (List.mem_of_getElem? (i := 2) (by decide +kernel))) (fun _ h9 => h9) rfl dJ5_putStringAt_47b60_12 ?_
  refine z_cv (wc := [zY cy v 16 (fun j9 => nI (t j9))]) (va_runV (As := [.ref v, .int (nI off), .int (nI 0)]) (rest := []) ⟨hx, hb, hml, hown, hts⟩ (c_J0_getBytes_840e7 l G cy wd fo _ _ v off t (by omega)) (cwV 3 hts gJ5_putStringAt_47b60_J0_getBytes_840e7 rfl rfl rfl (by decide +kernel) ⟨Nat.le_of_ble_eq_true rfl, Nat.le_of_ble_eq_true rfl⟩) (z_pVW hK hP hD hS hN hAN hWd [1] rfl (by decide) (vk_recv (i := 0) (hWd.ks hAN) (by decide) hS)) rfl rfl hl.1 rfl (lv_room (Nat.le_of_ble_eq_true rfl)) dJ5_putStringAt_47b60_15 ⟨Nat.le_of_ble_eq_true rfl, Nat.le_of_ble_eq_true rfl⟩) hP hD hS hA [1] [0] [0, 1] [zO h 0 [.ref v, .int (nI 0), .int (nI 0), .int (nI cnt)]] (fun _ => [zO h 0 [.ref v, .int (nI 0), .int (nI 0), .int (nI cnt)], zY cy v 16 (fun j9 => nI ((va_up (va_up t off 47) (off + 1) 115) j9))]) rfl rfl (by decide) (fun _ => rfl) (fun u H locs hr_2 hQ hD hS hz => ?_)
  have hP : va_P G vwCl [zO h 0 [.ref v, .int (nI 0), .int (nI 0), .int (nI cnt)], zY cy v 16 (fun j9 => nI ((va_up (va_up t off 47) (off + 1) 115) j9))] H := hQ
  have hD : va_D A [zO h 0 [.ref v, .int (nI 0), .int (nI 0), .int (nI cnt)], zY cy v 16 (fun j9 => nI ((va_up (va_up t off 47) (off + 1) 115) j9))] := hD
  clear hQ
  exact z_rMv hx hb hr hlk dJ5_putStringAt_47b60_18 () (trivial) hP hD hK hS (Nat.le_of_ble_eq_true rfl) (Nat.le_of_ble_eq_true rfl)
theorem in_J5_append_cf1ce_J4 : ∀ w ∈ u_ws RJ4 TJ4 4, w ∈ wsJ5_append_cf1ce := fun _ h => (List.mem_cons_of_mem _ (List.mem_append_right _ h))
set_option maxHeartbeats 4000000 in
set_option maxRecDepth 100000 in
theorem c_J5_append_cf1ce (l : Launch) (G : va_G) (cy : Nat → ClassId) (wd : Nat → Nat) (fo : Option Nat) (N0 sz0 : Nat) (h v : Nat) (cnt : Nat) (t : Nat → Nat) (ho : cnt + 2 ≤ 16) : Met l yJ5_append_cf1ce wsJ5_append_cf1ce ({ frames := 3, cells := 0, slots := 0, locals := 105 }) (zMW G cy wd fo N0 [.ref h, .ref (wd 2)] sz0 [zO h 0 [.ref v, .int (nI 0), .int (nI 0), .int (nI cnt)], zY cy v 16 (fun j9 => nI (t j9))]) (zQr (fun (r : Nat) (_ : Unit) => r = h) (fun (u : Unit) t9 => zB G cy (va_A [zO h 0 [.ref v, .int (nI 0), .int (nI 0), .int (nI cnt)], zY cy v 16 (fun j9 => nI (t j9))] sz0) [zO h 0 [.ref v, .int (nI 0), .int (nI 0), .int (nI (cnt + 2))], zY cy v 16 (fun j9 => nI ((va_up (va_up t cnt 47) (cnt + 1) 115) j9))] t9) (va_A [zO h 0 [.ref v, .int (nI 0), .int (nI 0), .int (nI cnt)], zY cy v 16 (fun j9 => nI (t j9))] sz0)) 0 0 (va_A [zO h 0 [.ref v, .int (nI 0), .int (nI 0), .int (nI cnt)], zY cy v 16 (fun j9 => nI (t j9))] sz0) := by
  refine z_ofMW (cc := cJ5_append_cf1ce) (maxL := 3) (ret := (some (.object "java/lang/AbstractStringBuilder"))) (Qc := (fun A => zQr (fun (r : Nat) (_ : Unit) => r = h) (fun (u : Unit) t9 => zB G cy A [zO h 0 [.ref v, .int (nI 0), .int (nI 0), .int (nI (cnt + 2))], zY cy v 16 (fun j9 => nI ((va_up (va_up t cnt 47) (cnt + 1) 115) j9))] t9) A)) (by decide) rfl (Nat.le_of_ble_eq_true rfl) ?_
  intro p e s m below meth c ls A hx hb hml hr hts hown hlk hin hP hK hD hA hS hl hsz0 hN hAN hWd
  have hown : s.vm.findClass RJ5 = some m.cls := hown
  have hl : lv_has ls 3 [(0, .ref h), (1, .ref (wd 2))] := hl
  refine lv_aload_n hx hb dJ5_append_cf1ce_0 rfl (lv_at hl 1 rfl) ?_
  refine lv_ifnonnull (tgt := 9) hx hb dJ5_append_cf1ce_1 (by decide) ?_
  refine lv_aload_n hx hb dJ5_append_cf1ce_9 rfl (lv_at hl 1 rfl) ?_
  refine z_ci (wc := []) (va_runV (As := []) (rest := []) ⟨hx, hb, hml, hown, hts⟩ (c_J0_length_8abf5 l G cy wd fo _ _ ) (cwV 0 hts gJ5_append_cf1ce_J0_length_8abf5 rfl rfl rfl (by decide +kernel) ⟨Nat.le_of_ble_eq_true rfl, Nat.le_of_ble_eq_true rfl⟩) (z_pVW hK hP hD hS hN hAN hWd [] rfl (by decide) (vk_recv (i := 0) (hWd.ks hAN) (by decide) hS)) rfl rfl hl.1 rfl (lv_room (Nat.le_of_ble_eq_true rfl)) dJ5_append_cf1ce_10 ⟨Nat.le_of_ble_eq_true rfl, Nat.le_of_ble_eq_true rfl⟩) hP hD hS hA [] [0, 1] [0, 1] [zO h 0 [.ref v, .int (nI 0), .int (nI 0), .int (nI cnt)], zY cy v 16 (fun j9 => nI (t j9))] (fun _ => [zO h 0 [.ref v, .int (nI 0), .int (nI 0), .int (nI cnt)], zY cy v 16 (fun j9 => nI (t j9))]) rfl rfl (by decide) (fun _ => rfl) (fun r_1 u H locs hr_1 hQ hD hS hz => ?_)
  have hP : va_P G vwCl [zO h 0 [.ref v, .int (nI 0), .int (nI 0), .int (nI cnt)], zY cy v 16 (fun j9 => nI (t j9))] H := hQ
  have hD : va_D A [zO h 0 [.ref v, .int (nI 0), .int (nI 0), .int (nI cnt)], zY cy v 16 (fun j9 => nI (t j9))] := hD
  clear hQ
  obtain rfl : r_1 = (nI 2) := hr_1
  refine lv_istore_n (lv' := [(2, .int (nI 2)), (0, .ref h), (1, .ref (wd 2))]) hx hb dJ5_append_cf1ce_13 rfl hl (by decide) rfl (fun ls hl => ?_)
  refine lv_aload_n hx hb dJ5_append_cf1ce_14 rfl (lv_at hl 1 rfl) ?_
  refine lv_aload_n hx hb dJ5_append_cf1ce_15 rfl (lv_at hl 1 rfl) ?_
  refine va_get (D := G) (ci := 0) (v := .int (nI cnt)) (C := RJ4) (T := TJ4) (N := 4) hx hb hts in_J5_append_cf1ce_J4 hown hK hP 0 rfl rfl 3 (by decide) (hts _ (List.mem_of_getElem? (i := 1) (by decide +kernel))) (fun _ h9 => h9) rfl dJ5_append_cf1ce_16 ?_
  refine lv_iload_n hx hb dJ5_append_cf1ce_19 rfl (lv_at hl 0 rfl) ?_
  refine z_iadd hx hb dJ5_append_cf1ce_20 ?_
  refine va_csv (va_runU (As := [.int (nI (cnt + 2))]) (rest := []) ⟨hx, hb, hml, hown, hts⟩ (c_J5_ensureCapacityInternal_d00df l G cy h v cnt (cnt + 2) t (by omega)) (va_cwU 1 hts gJ5_append_cf1ce_J5_ensureCapacityInternal_d00df_u100J4 rfl rfl rfl rfl (by decide +kernel) ⟨Nat.le_of_ble_eq_true rfl, Nat.le_of_ble_eq_true rfl⟩) (z_pV hK hP [0, 1] rfl (ci := 0) (q0 := 0) rfl rfl rfl) rfl rfl hl.1 rfl (lv_room (Nat.le_of_ble_eq_true rfl)) dJ5_append_cf1ce_21 ⟨Nat.le_of_ble_eq_true rfl, Nat.le_of_ble_eq_true rfl⟩).run (fun hr_2 => ?_)
  refine lv_aload_n hx hb dJ5_append_cf1ce_24 rfl (lv_at hl 1 rfl) ?_
  refine lv_aload_n hx hb dJ5_append_cf1ce_25 rfl (lv_at hl 1 rfl) ?_
  refine va_get (D := G) (ci := 0) (v := .int (nI cnt)) (C := RJ4) (T := TJ4) (N := 4) hx hb hts in_J5_append_cf1ce_J4 hown hK hP 0 rfl rfl 3 (by decide) (hts _ (List.mem_of_getElem? (i := 1) (by decide +kernel))) (fun _ h9 => h9) rfl dJ5_append_cf1ce_26 ?_
  refine lv_aload_n hx hb dJ5_append_cf1ce_29 rfl (lv_at hl 2 rfl) ?_
  refine z_cv (wc := [zO h 0 [.ref v, .int (nI 0), .int (nI 0), .int (nI cnt)], zY cy v 16 (fun j9 => nI (t j9))]) (va_runU (As := [.int (nI cnt), .ref (wd 2)]) (rest := []) ⟨hx, hb, hml, hown, hts⟩ (c_J5_putStringAt_47b60 l G cy wd fo _ _ h v cnt cnt t (by omega)) (va_cwU 2 hts gJ5_append_cf1ce_J5_putStringAt_47b60_u208J4 rfl rfl rfl rfl (by decide +kernel) ⟨Nat.le_of_ble_eq_true rfl, Nat.le_of_ble_eq_true rfl⟩) (z_pVW hK hP hD hS hN hAN hWd [0, 1] rfl (by decide) (va_recv hK hP (ci := 0) (q0 := 0) rfl rfl)) rfl rfl hl.1 rfl (lv_room (Nat.le_of_ble_eq_true rfl)) dJ5_append_cf1ce_30 ⟨Nat.le_of_ble_eq_true rfl, Nat.le_of_ble_eq_true rfl⟩) hP hD hS hA [0, 1] [] [0, 1] [] (fun _ => [zO h 0 [.ref v, .int (nI 0), .int (nI 0), .int (nI cnt)], zY cy v 16 (fun j9 => nI ((va_up (va_up t cnt 47) (cnt + 1) 115) j9))]) rfl rfl (by decide) (fun _ => rfl) (fun u H locs hr_3 hQ hD hS hz => ?_)
  have hP : va_P G vwCl [zO h 0 [.ref v, .int (nI 0), .int (nI 0), .int (nI cnt)], zY cy v 16 (fun j9 => nI ((va_up (va_up t cnt 47) (cnt + 1) 115) j9))] H := hQ
  have hD : va_D A [zO h 0 [.ref v, .int (nI 0), .int (nI 0), .int (nI cnt)], zY cy v 16 (fun j9 => nI ((va_up (va_up t cnt 47) (cnt + 1) 115) j9))] := hD
  clear hQ
  refine lv_aload_n hx hb dJ5_append_cf1ce_33 rfl (lv_at hl 1 rfl) ?_
  refine lv_dup hx hb dJ5_append_cf1ce_34 rfl ?_
  refine va_get (D := G) (ci := 0) (v := .int (nI cnt)) (C := RJ4) (T := TJ4) (N := 4) hx hb hts in_J5_append_cf1ce_J4 hown hK hP 0 rfl rfl 3 (by decide) (hts _ (List.mem_of_getElem? (i := 1) (by decide +kernel))) (fun _ h9 => h9) rfl dJ5_append_cf1ce_35 ?_
  refine lv_iload_n hx hb dJ5_append_cf1ce_38 rfl (lv_at hl 0 rfl) ?_
  refine z_iadd hx hb dJ5_append_cf1ce_39 ?_
  refine va_put (D := G) (ci := 0) (v := .int (nI (cnt + 2))) (ty := .int) (C := RJ4) (T := TJ4) (N := 4) hx hb hts in_J5_append_cf1ce_J4 tyJ4 tyJ4_ok nmJ4 hown hK hP hD hS 0 rfl rfl 3 (by decide) (hts _ (List.mem_of_getElem? (i := 1) (by decide +kernel))) (fun _ h9 => h9) rfl (by decide +kernel) rfl rfl (Nat.le_of_ble_eq_true rfl) dJ5_append_cf1ce_40 (fun H locs hP hD hS => ?_)
  have hP : va_P G vwCl [zO h 0 [.ref v, .int (nI 0), .int (nI 0), .int (nI (cnt + 2))], zY cy v 16 (fun j9 => nI ((va_up (va_up t cnt 47) (cnt + 1) 115) j9))] H := hP
  have hD : va_D A [zO h 0 [.ref v, .int (nI 0), .int (nI 0), .int (nI (cnt + 2))], zY cy v 16 (fun j9 => nI ((va_up (va_up t cnt 47) (cnt + 1) 115) j9))] := hD
  refine lv_aload_n hx hb dJ5_append_cf1ce_43 rfl (lv_at hl 1 rfl) ?_
  exact z_rMr hx hb hr hlk dJ5_append_cf1ce_44 () (rfl) hP hD hK hS (Nat.le_of_ble_eq_true rfl) (Nat.le_of_ble_eq_true rfl)
set_option maxHeartbeats 4000000 in
set_option maxRecDepth 100000 in
theorem c_J4_append_15ec4 (l : Launch) (G : va_G) (cy : Nat → ClassId) (wd : Nat → Nat) (fo : Option Nat) (N0 sz0 : Nat) (h v : Nat) (cnt : Nat) (t : Nat → Nat) (ho : cnt + 2 ≤ 16) : Met l yJ4_append_15ec4 wsJ4_append_15ec4 ({ frames := 4, cells := 0, slots := 0, locals := 127 }) (zMW G cy wd fo N0 [.ref h, .ref (wd 2)] sz0 [zO h 0 [.ref v, .int (nI 0), .int (nI 0), .int (nI cnt)], zY cy v 16 (fun j9 => nI (t j9))]) (zQr (fun (r : Nat) (_ : Unit) => r = h) (fun (u : Unit) t9 => zB G cy (va_A [zO h 0 [.ref v, .int (nI 0), .int (nI 0), .int (nI cnt)], zY cy v 16 (fun j9 => nI (t j9))] sz0) [zO h 0 [.ref v, .int (nI 0), .int (nI 0), .int (nI (cnt + 2))], zY cy v 16 (fun j9 => nI ((va_up (va_up t cnt 47) (cnt + 1) 115) j9))] t9) (va_A [zO h 0 [.ref v, .int (nI 0), .int (nI 0), .int (nI cnt)], zY cy v 16 (fun j9 => nI (t j9))] sz0)) 0 0 (va_A [zO h 0 [.ref v, .int (nI 0), .int (nI 0), .int (nI cnt)], zY cy v 16 (fun j9 => nI (t j9))] sz0) := by
  refine z_ofMW (cc := cJ4_append_15ec4) (maxL := 2) (ret := (some (.object "java/lang/StringBuilder"))) (Qc := (fun A => zQr (fun (r : Nat) (_ : Unit) => r = h) (fun (u : Unit) t9 => zB G cy A [zO h 0 [.ref v, .int (nI 0), .int (nI 0), .int (nI (cnt + 2))], zY cy v 16 (fun j9 => nI ((va_up (va_up t cnt 47) (cnt + 1) 115) j9))] t9) A)) (by decide) rfl (Nat.le_of_ble_eq_true rfl) ?_
  intro p e s m below meth c ls A hx hb hml hr hts hown hlk hin hP hK hD hA hS hl hsz0 hN hAN hWd
  have hown : s.vm.findClass RJ4 = some m.cls := hown
  have hl : lv_has ls 2 [(0, .ref h), (1, .ref (wd 2))] := hl
  refine lv_aload_n hx hb dJ4_append_15ec4_0 rfl (lv_at hl 0 rfl) ?_
  refine lv_aload_n hx hb dJ4_append_15ec4_1 rfl (lv_at hl 1 rfl) ?_
  refine z_cr (wc := [zO h 0 [.ref v, .int (nI 0), .int (nI 0), .int (nI cnt)], zY cy v 16 (fun j9 => nI (t j9))]) (va_runSU (hK.1 0 (RJ4, TJ4, 4) rfl).2 (As := [.ref (wd 2)]) (rest := []) ⟨hx, hb, hml, hown, hts⟩ (c_J5_append_cf1ce l G cy wd fo _ _ h v cnt t (by omega)) (va_cwSU 1 hts gJ4_append_15ec4_J5_append_cf1ce_s29 rfl rfl rfl (by decide +kernel) ⟨Nat.le_of_ble_eq_true rfl, Nat.le_of_ble_eq_true rfl⟩) (z_pVW hK hP hD hS hN hAN hWd [0, 1] rfl (by decide) (va_recv hK hP (ci := 0) (q0 := 0) rfl rfl)) rfl rfl hl.1 rfl (lv_room (Nat.le_of_ble_eq_true rfl)) dJ4_append_15ec4_2 ⟨Nat.le_of_ble_eq_true rfl, Nat.le_of_ble_eq_true rfl⟩) hP hD hS hA [0, 1] [] [0, 1] [] (fun _ => [zO h 0 [.ref v, .int (nI 0), .int (nI 0), .int (nI (cnt + 2))], zY cy v 16 (fun j9 => nI ((va_up (va_up t cnt 47) (cnt + 1) 115) j9))]) rfl rfl (by decide) (fun _ => rfl) (fun r_1 u H locs hr_1 hQ hD hS hz => ?_)
  have hP : va_P G vwCl [zO h 0 [.ref v, .int (nI 0), .int (nI 0), .int (nI (cnt + 2))], zY cy v 16 (fun j9 => nI ((va_up (va_up t cnt 47) (cnt + 1) 115) j9))] H := hQ
  have hD : va_D A [zO h 0 [.ref v, .int (nI 0), .int (nI 0), .int (nI (cnt + 2))], zY cy v 16 (fun j9 => nI ((va_up (va_up t cnt 47) (cnt + 1) 115) j9))] := hD
  clear hQ
  obtain rfl : h = r_1 := Eq.symm hr_1
  refine lv_pop hx hb dJ4_append_15ec4_5 rfl ?_
  refine lv_aload_n hx hb dJ4_append_15ec4_6 rfl (lv_at hl 0 rfl) ?_
  exact z_rMr hx hb hr hlk dJ4_append_15ec4_7 () (rfl) hP hD hK hS (Nat.le_of_ble_eq_true rfl) (Nat.le_of_ble_eq_true rfl)
