theorem in_X10_pointAt_X10 : ∀ w ∈ u_ws RX10 TX10 10, w ∈ wsX10_pointAt := fun _ h => (List.mem_cons_of_mem _ (List.mem_append_left _ (List.mem_append_right _ h)))
set_option maxHeartbeats 4000000 in
set_option maxRecDepth 100000 in
theorem c_X10_pointAt (l : Launch) (G : va_G) (cy : Nat → ClassId) (a : Nat → Nat) (nc np T : Nat) (pt : Nat → Option Nat) (k q0 : Nat) (hk : k < 8) (hpt : pt k = some q0) : Met l yX10_pointAt wsX10_pointAt ({ frames := 0, cells := 0, slots := 0, locals := 0 }) (zS G cy [.ref (a 0), .int (nI k)] [zO (a 0) 11 [.ref (a 1), .ref (a 4), .ref (a 11), .ref (a 18), .ref (a 20), .ref (a 34), .ref (a 36), .int (nI nc), .int (nI np), .int (nI T)], zQ cy (a 36) 8 pt]) (va_Sr (fun a9 => a9 = q0) Value.ref) 0 0 (fun _ => False) := by
  refine z_ofS (cc := cX10_pointAt) (maxL := 3) (ret := (some (.object "MeterHouse$Point"))) (by decide) rfl (Nat.le_of_ble_eq_true rfl) ?_
  intro p e s m below meth c ls hx hb hml hr hts hown hlk hP hK hl
  have hown : s.vm.findClass RX10 = some m.cls := hown
  have hl : lv_has ls 3 [(0, .ref (a 0)), (1, .int (nI k))] := hl
  refine lv_iload_n hx hb dX10_pointAt_0 rfl (lv_at hl 1 rfl) ?_
  refine z_if_lt hx hb (by omega) dX10_pointAt_1 (tgt := 22) (by decide) ?_
  refine lv_iload_n hx hb dX10_pointAt_4 rfl (lv_at hl 1 rfl) ?_
  refine lv_aload_n hx hb dX10_pointAt_5 rfl (lv_at hl 0 rfl) ?_
  refine va_get (D := G) (ci := 11) (v := .ref (a 36)) (C := RX10) (T := TX10) (N := 10) hx hb hts in_X10_pointAt_X10 hown hK hP 0 rfl rfl 6 (by decide) (hts _ (List.mem_of_getElem? (i := 3) (by decide +kernel))) (fun _ h9 => h9) rfl dX10_pointAt_6 ?_
  refine va_alen (D := G) hx hb hK hP 1 2 rfl rfl (v := nI 8) rfl dX10_pointAt_9 ?_
  refine z_icmp_ge hx hb (by omega) (by omega) dX10_pointAt_10 (tgt := 22) (by decide) (fun c_2 => ?_) (fun c_2 => ?_)
  · exfalso; omega
  · refine lv_aload_n hx hb dX10_pointAt_13 rfl (lv_at hl 0 rfl) ?_
    refine va_get (D := G) (ci := 11) (v := .ref (a 36)) (C := RX10) (T := TX10) (N := 10) hx hb hts in_X10_pointAt_X10 hown hK hP 0 rfl rfl 6 (by decide) (hts _ (List.mem_of_getElem? (i := 3) (by decide +kernel))) (fun _ h9 => h9) rfl dX10_pointAt_14 ?_
    refine lv_iload_n hx hb dX10_pointAt_17 rfl (lv_at hl 1 rfl) ?_
    refine z_aaldS (G := G) hx hb hK hP 1 rfl (by omega) (hpt) dX10_pointAt_18 ?_
    refine lv_goto (tgt := 23) hx hb dX10_pointAt_19 (by decide) ?_
    refine lv_astore_n (lv' := [(2, .ref q0), (0, .ref (a 0)), (1, .int (nI k))]) hx hb dX10_pointAt_23 rfl hl (by decide) rfl (fun ls hl => ?_)
    refine lv_aload_n hx hb dX10_pointAt_24 rfl (lv_at hl 0 rfl) ?_
    refine lv_ifnonnull (tgt := 39) hx hb dX10_pointAt_25 (by decide) ?_
    refine lv_aload_n hx hb dX10_pointAt_39 rfl (lv_at hl 0 rfl) ?_
    exact z_rSr hx hb hr hlk dX10_pointAt_40 rfl
set_option maxHeartbeats 4000000 in
set_option maxRecDepth 100000 in
theorem e_X10_pointAt (l : Launch) (hl9 : l.stackTraces = false) (G : va_G) (cy : Nat → ClassId) (N0 sz0 : Nat) (a : Nat → Nat) (nc np T : Nat) (pt : Nat → Option Nat) (x : Int32) (hnp : np ≤ 8) (hpt : ∀ k, np ≤ k → pt k = none) (hx9 : ¬ (0 ≤ x.toInt ∧ x.toInt < (np : Int))) : vx_Met l yX10_pointAt wsX10_pointAt ({ frames := 6, cells := 1, slots := 6, locals := 82 }) (zX G cy N0 [.ref (a 0), .int x] sz0 [zO (a 0) 11 [.ref (a 1), .ref (a 4), .ref (a 11), .ref (a 18), .ref (a 20), .ref (a 34), .ref (a 36), .int (nI nc), .int (nI np), .int (nI T)], zQ cy (a 36) 8 pt]) zNo (zXC G cy (va_A [zO (a 0) 11 [.ref (a 1), .ref (a 4), .ref (a 11), .ref (a 18), .ref (a 20), .ref (a 34), .ref (a 36), .int (nI nc), .int (nI np), .int (nI T)], zQ cy (a 36) 8 pt] sz0) [zO (a 0) 11 [.ref (a 1), .ref (a 4), .ref (a 11), .ref (a 18), .ref (a 20), .ref (a 34), .ref (a 36), .int (nI nc), .int (nI np), .int (nI T)], zQ cy (a 36) 8 pt] (zE 1)) 1 6 (va_A [zO (a 0) 11 [.ref (a 1), .ref (a 4), .ref (a 11), .ref (a 18), .ref (a 20), .ref (a 34), .ref (a 36), .int (nI nc), .int (nI np), .int (nI T)], zQ cy (a 36) 8 pt] sz0) := by
  refine z_ofX (cc := cX10_pointAt) (maxL := 3) (ret := (some (.object "MeterHouse$Point"))) (by decide) rfl (Nat.le_of_ble_eq_true rfl) ?_
  intro p e s m below meth c ls A hx hb hml hr hts hown hlk htab hP hK hD hA hS hl hsz0 hN hAN hE
  have hown : s.vm.findClass RX10 = some m.cls := hown
  have hl : lv_has ls 3 [(0, .ref (a 0)), (1, .int x)] := hl
  refine lv_iload_n hx hb dX10_pointAt_0 rfl (lv_at hl 1 rfl) ?_
  refine z_jf_lt hx hb (a := x.toInt) (rfl) dX10_pointAt_1 (tgt := 22) (by decide) (fun c_1 => ?_) (fun c_1 => ?_)
  · refine lv_null hx hb dX10_pointAt_22 ?_
    refine lv_astore_nN (lv' := [(2, .null), (0, .ref (a 0)), (1, .int x)]) hx hb dX10_pointAt_23 rfl hl (by decide) rfl (fun ls hl => ?_)
    refine lv_aload_nN hx hb dX10_pointAt_24 rfl (lv_at hl 0 rfl) ?_
    refine lv_ifnonnullN hx hb dX10_pointAt_25 ?_
    exact z_thrW (k := 1) (text := "no such point") (Ts := wsX10_pointAt) hx hb (by rw [hml]; exact hl.1.symm) hl9 hown hts (List.mem_of_getElem? (i := 1) (by decide +kernel)) (List.mem_of_getElem? (i := 2) (by decide +kernel)) (by decide +kernel) (fun _ h => (List.mem_cons_of_mem _ (List.mem_append_right _ h))) (by decide +kernel) (by decide +kernel) z_bad1 z_good1 hE hAN hP hD hK hS htab hlk dX10_pointAt_28 dX10_pointAt_31 dX10_pointAt_32 dX10_pointAt_35 dX10_pointAt_38 (Nat.le_of_ble_eq_true rfl) (Nat.le_of_ble_eq_true rfl) (Nat.le_of_ble_eq_true rfl) (Nat.le_of_ble_eq_true rfl) (Nat.le_of_ble_eq_true rfl) (Nat.le_of_ble_eq_true rfl)
  · refine lv_iload_n hx hb dX10_pointAt_4 rfl (lv_at hl 1 rfl) ?_
    refine lv_aload_n hx hb dX10_pointAt_5 rfl (lv_at hl 0 rfl) ?_
    refine va_get (D := G) (ci := 11) (v := .ref (a 36)) (C := RX10) (T := TX10) (N := 10) hx hb hts in_X10_pointAt_X10 hown hK hP 0 rfl rfl 6 (by decide) (hts _ (List.mem_of_getElem? (i := 3) (by decide +kernel))) (fun _ h9 => h9) rfl dX10_pointAt_6 ?_
    refine va_alen (D := G) hx hb hK hP 1 2 rfl rfl (v := nI 8) rfl dX10_pointAt_9 ?_
    refine z_jcmp_ge hx hb (a := x.toInt) (b := (8 : Int)) (rfl) (nI_toInt (by omega)) dX10_pointAt_10 (tgt := 22) (by decide) (fun c_2 => ?_) (fun c_2 => ?_)
    · refine lv_null hx hb dX10_pointAt_22 ?_
      refine lv_astore_nN (lv' := [(2, .null), (0, .ref (a 0)), (1, .int x)]) hx hb dX10_pointAt_23 rfl hl (by decide) rfl (fun ls hl => ?_)
      refine lv_aload_nN hx hb dX10_pointAt_24 rfl (lv_at hl 0 rfl) ?_
      refine lv_ifnonnullN hx hb dX10_pointAt_25 ?_
      exact z_thrW (k := 1) (text := "no such point") (Ts := wsX10_pointAt) hx hb (by rw [hml]; exact hl.1.symm) hl9 hown hts (List.mem_of_getElem? (i := 1) (by decide +kernel)) (List.mem_of_getElem? (i := 2) (by decide +kernel)) (by decide +kernel) (fun _ h => (List.mem_cons_of_mem _ (List.mem_append_right _ h))) (by decide +kernel) (by decide +kernel) z_bad1 z_good1 hE hAN hP hD hK hS htab hlk dX10_pointAt_28 dX10_pointAt_31 dX10_pointAt_32 dX10_pointAt_35 dX10_pointAt_38 (Nat.le_of_ble_eq_true rfl) (Nat.le_of_ble_eq_true rfl) (Nat.le_of_ble_eq_true rfl) (Nat.le_of_ble_eq_true rfl) (Nat.le_of_ble_eq_true rfl) (Nat.le_of_ble_eq_true rfl)
    · obtain ⟨k9, rfl, hk9, hk8⟩ := z_nat (x := x) (by omega)
      refine lv_aload_n hx hb dX10_pointAt_13 rfl (lv_at hl 0 rfl) ?_
      refine va_get (D := G) (ci := 11) (v := .ref (a 36)) (C := RX10) (T := TX10) (N := 10) hx hb hts in_X10_pointAt_X10 hown hK hP 0 rfl rfl 6 (by decide) (hts _ (List.mem_of_getElem? (i := 3) (by decide +kernel))) (fun _ h9 => h9) rfl dX10_pointAt_14 ?_
      refine lv_iload_n hx hb dX10_pointAt_17 rfl (lv_at hl 1 rfl) ?_
      refine z_aaldN (G := G) hx hb hK hP 1 rfl (by omega) (hpt k9 (by omega)) dX10_pointAt_18 ?_
      refine lv_goto (tgt := 23) hx hb dX10_pointAt_19 (by decide) ?_
      refine lv_astore_nN (lv' := [(2, .null), (0, .ref (a 0)), (1, .int (nI k9))]) hx hb dX10_pointAt_23 rfl hl (by decide) rfl (fun ls hl => ?_)
      refine lv_aload_nN hx hb dX10_pointAt_24 rfl (lv_at hl 0 rfl) ?_
      refine lv_ifnonnullN hx hb dX10_pointAt_25 ?_
      exact z_thrW (k := 1) (text := "no such point") (Ts := wsX10_pointAt) hx hb (by rw [hml]; exact hl.1.symm) hl9 hown hts (List.mem_of_getElem? (i := 1) (by decide +kernel)) (List.mem_of_getElem? (i := 2) (by decide +kernel)) (by decide +kernel) (fun _ h => (List.mem_cons_of_mem _ (List.mem_append_right _ h))) (by decide +kernel) (by decide +kernel) z_bad1 z_good1 hE hAN hP hD hK hS htab hlk dX10_pointAt_28 dX10_pointAt_31 dX10_pointAt_32 dX10_pointAt_35 dX10_pointAt_38 (Nat.le_of_ble_eq_true rfl) (Nat.le_of_ble_eq_true rfl) (Nat.le_of_ble_eq_true rfl) (Nat.le_of_ble_eq_true rfl) (Nat.le_of_ble_eq_true rfl) (Nat.le_of_ble_eq_true rfl)
set_option maxHeartbeats 4000000 in
set_option maxRecDepth 100000 in
theorem c_X10_needSupplier (l : Launch) (G : va_G) (cy : Nat → ClassId) (a : Nat → Nat) (nc np T : Nat) (sp : Nat) (hsp : sp < 4) : Met l yX10_needSupplier wsX10_needSupplier ({ frames := 0, cells := 0, slots := 0, locals := 0 }) (zS G cy [.ref (a 0), .int (nI sp)] [zO (a 0) 11 [.ref (a 1), .ref (a 4), .ref (a 11), .ref (a 18), .ref (a 20), .ref (a 34), .ref (a 36), .int (nI nc), .int (nI np), .int (nI T)]]) (va_Sv (fun _ => True)) 0 0 (fun _ => False) := by
  refine z_ofS (cc := cX10_needSupplier) (maxL := 2) (ret := none) (by decide) rfl (Nat.le_of_ble_eq_true rfl) ?_
  intro p e s m below meth c ls hx hb hml hr hts hown hlk hP hK hl
  have hown : s.vm.findClass RX10 = some m.cls := hown
  have hl : lv_has ls 2 [(0, .ref (a 0)), (1, .int (nI sp))] := hl
  refine lv_iload_n hx hb dX10_needSupplier_0 rfl (lv_at hl 1 rfl) ?_
  refine z_if_lt hx hb (by omega) dX10_needSupplier_1 (tgt := 9) (by decide) ?_
  refine lv_iload_n hx hb dX10_needSupplier_4 rfl (lv_at hl 1 rfl) ?_
  refine lv_iconst (v := nI 4) hx hb dX10_needSupplier_5 (by decide) ?_
  refine z_icmp_lt hx hb (by omega) (by omega) dX10_needSupplier_6 (tgt := 20) (by decide) (fun c_2 => ?_) (fun c_2 => ?_)
  · exact z_rSv hx hb hr hlk dX10_needSupplier_20 (trivial)
  · exfalso; omega
set_option maxHeartbeats 4000000 in
set_option maxRecDepth 100000 in
theorem e_X10_needSupplier (l : Launch) (hl9 : l.stackTraces = false) (G : va_G) (cy : Nat → ClassId) (N0 sz0 : Nat) (a : Nat → Nat) (nc np T : Nat) (x : Int32) (hx9 : ¬ (0 ≤ x.toInt ∧ x.toInt < 4)) : vx_Met l yX10_needSupplier wsX10_needSupplier ({ frames := 6, cells := 1, slots := 6, locals := 82 }) (zX G cy N0 [.ref (a 0), .int x] sz0 [zO (a 0) 11 [.ref (a 1), .ref (a 4), .ref (a 11), .ref (a 18), .ref (a 20), .ref (a 34), .ref (a 36), .int (nI nc), .int (nI np), .int (nI T)]]) zNo (zXC G cy (va_A [zO (a 0) 11 [.ref (a 1), .ref (a 4), .ref (a 11), .ref (a 18), .ref (a 20), .ref (a 34), .ref (a 36), .int (nI nc), .int (nI np), .int (nI T)]] sz0) [zO (a 0) 11 [.ref (a 1), .ref (a 4), .ref (a 11), .ref (a 18), .ref (a 20), .ref (a 34), .ref (a 36), .int (nI nc), .int (nI np), .int (nI T)]] (zE 1)) 1 6 (va_A [zO (a 0) 11 [.ref (a 1), .ref (a 4), .ref (a 11), .ref (a 18), .ref (a 20), .ref (a 34), .ref (a 36), .int (nI nc), .int (nI np), .int (nI T)]] sz0) := by
  refine z_ofX (cc := cX10_needSupplier) (maxL := 2) (ret := none) (by decide) rfl (Nat.le_of_ble_eq_true rfl) ?_
  intro p e s m below meth c ls A hx hb hml hr hts hown hlk htab hP hK hD hA hS hl hsz0 hN hAN hE
  have hown : s.vm.findClass RX10 = some m.cls := hown
  have hl : lv_has ls 2 [(0, .ref (a 0)), (1, .int x)] := hl
  refine lv_iload_n hx hb dX10_needSupplier_0 rfl (lv_at hl 1 rfl) ?_
  refine z_jf_lt hx hb (a := x.toInt) (rfl) dX10_needSupplier_1 (tgt := 9) (by decide) (fun c_1 => ?_) (fun c_1 => ?_)
  · exact z_thrW (k := 1) (text := "no such supplier") (Ts := wsX10_needSupplier) hx hb (by rw [hml]; exact hl.1.symm) hl9 hown hts (List.mem_of_getElem? (i := 1) (by decide +kernel)) (List.mem_of_getElem? (i := 2) (by decide +kernel)) (by decide +kernel) (fun _ h => (List.mem_cons_of_mem _ (List.mem_append_right _ h))) (by decide +kernel) (by decide +kernel) z_bad1 z_good1 hE hAN hP hD hK hS htab hlk dX10_needSupplier_9 dX10_needSupplier_12 dX10_needSupplier_13 dX10_needSupplier_16 dX10_needSupplier_19 (Nat.le_of_ble_eq_true rfl) (Nat.le_of_ble_eq_true rfl) (Nat.le_of_ble_eq_true rfl) (Nat.le_of_ble_eq_true rfl) (Nat.le_of_ble_eq_true rfl) (Nat.le_of_ble_eq_true rfl)
  · refine lv_iload_n hx hb dX10_needSupplier_4 rfl (lv_at hl 1 rfl) ?_
    refine lv_iconst (v := nI 4) hx hb dX10_needSupplier_5 (by decide) ?_
    refine z_jcmp_lt hx hb (a := x.toInt) (b := (4 : Int)) (rfl) (nI_toInt (by omega)) dX10_needSupplier_6 (tgt := 20) (by decide) (fun c_2 => ?_) (fun c_2 => ?_)
    · exfalso; omega
    · exact z_thrW (k := 1) (text := "no such supplier") (Ts := wsX10_needSupplier) hx hb (by rw [hml]; exact hl.1.symm) hl9 hown hts (List.mem_of_getElem? (i := 1) (by decide +kernel)) (List.mem_of_getElem? (i := 2) (by decide +kernel)) (by decide +kernel) (fun _ h => (List.mem_cons_of_mem _ (List.mem_append_right _ h))) (by decide +kernel) (by decide +kernel) z_bad1 z_good1 hE hAN hP hD hK hS htab hlk dX10_needSupplier_9 dX10_needSupplier_12 dX10_needSupplier_13 dX10_needSupplier_16 dX10_needSupplier_19 (Nat.le_of_ble_eq_true rfl) (Nat.le_of_ble_eq_true rfl) (Nat.le_of_ble_eq_true rfl) (Nat.le_of_ble_eq_true rfl) (Nat.le_of_ble_eq_true rfl) (Nat.le_of_ble_eq_true rfl)
theorem in_X10_needPassedDay_X10 : ∀ w ∈ u_ws RX10 TX10 10, w ∈ wsX10_needPassedDay := fun _ h => (List.mem_cons_of_mem _ (List.mem_append_left _ (List.mem_append_right _ h)))
set_option maxHeartbeats 4000000 in
set_option maxRecDepth 100000 in
theorem c_X10_needPassedDay (l : Launch) (G : va_G) (cy : Nat → ClassId) (a : Nat → Nat) (nc np T : Nat) (fi d : Nat) (hd : d < T) (hfi : fi ≤ d) (hT : T < 1000) : Met l yX10_needPassedDay wsX10_needPassedDay ({ frames := 0, cells := 0, slots := 0, locals := 0 }) (zS G cy [.ref (a 0), .int (nI fi), .int (nI d)] [zO (a 0) 11 [.ref (a 1), .ref (a 4), .ref (a 11), .ref (a 18), .ref (a 20), .ref (a 34), .ref (a 36), .int (nI nc), .int (nI np), .int (nI T)]]) (va_Sv (fun _ => True)) 0 0 (fun _ => False) := by
  refine z_ofS (cc := cX10_needPassedDay) (maxL := 3) (ret := none) (by decide) rfl (Nat.le_of_ble_eq_true rfl) ?_
  intro p e s m below meth c ls hx hb hml hr hts hown hlk hP hK hl
  have hown : s.vm.findClass RX10 = some m.cls := hown
  have hl : lv_has ls 3 [(0, .ref (a 0)), (1, .int (nI fi)), (2, .int (nI d))] := hl
  refine lv_iload_n hx hb dX10_needPassedDay_0 rfl (lv_at hl 2 rfl) ?_
  refine lv_iload_n hx hb dX10_needPassedDay_1 rfl (lv_at hl 1 rfl) ?_
  refine z_icmp_lt hx hb (by omega) (by omega) dX10_needPassedDay_2 (tgt := 13) (by decide) (fun c_1 => ?_) (fun c_1 => ?_)
  · exfalso; omega
  · refine lv_iload_n hx hb dX10_needPassedDay_5 rfl (lv_at hl 2 rfl) ?_
    refine lv_aload_n hx hb dX10_needPassedDay_6 rfl (lv_at hl 0 rfl) ?_
    refine va_get (D := G) (ci := 11) (v := .int (nI T)) (C := RX10) (T := TX10) (N := 10) hx hb hts in_X10_needPassedDay_X10 hown hK hP 0 rfl rfl 9 (by decide) (hts _ (List.mem_of_getElem? (i := 3) (by decide +kernel))) (fun _ h9 => h9) rfl dX10_needPassedDay_7 ?_
    refine z_icmp_lt hx hb (by omega) (by omega) dX10_needPassedDay_10 (tgt := 24) (by decide) (fun c_2 => ?_) (fun c_2 => ?_)
    · exact z_rSv hx hb hr hlk dX10_needPassedDay_24 (trivial)
    · exfalso; omega
set_option maxHeartbeats 4000000 in
set_option maxRecDepth 100000 in
theorem e_X10_needPassedDay (l : Launch) (hl9 : l.stackTraces = false) (G : va_G) (cy : Nat → ClassId) (N0 sz0 : Nat) (a : Nat → Nat) (nc np T : Nat) (fi : Nat) (x : Int32) (hT : T < 1000) (hfi : fi < 1000) (hx9 : ¬ ((fi : Int) ≤ x.toInt ∧ x.toInt < (T : Int))) : vx_Met l yX10_needPassedDay wsX10_needPassedDay ({ frames := 6, cells := 1, slots := 6, locals := 82 }) (zX G cy N0 [.ref (a 0), .int (nI fi), .int x] sz0 [zO (a 0) 11 [.ref (a 1), .ref (a 4), .ref (a 11), .ref (a 18), .ref (a 20), .ref (a 34), .ref (a 36), .int (nI nc), .int (nI np), .int (nI T)]]) zNo (zXC G cy (va_A [zO (a 0) 11 [.ref (a 1), .ref (a 4), .ref (a 11), .ref (a 18), .ref (a 20), .ref (a 34), .ref (a 36), .int (nI nc), .int (nI np), .int (nI T)]] sz0) [zO (a 0) 11 [.ref (a 1), .ref (a 4), .ref (a 11), .ref (a 18), .ref (a 20), .ref (a 34), .ref (a 36), .int (nI nc), .int (nI np), .int (nI T)]] (zE 1)) 1 6 (va_A [zO (a 0) 11 [.ref (a 1), .ref (a 4), .ref (a 11), .ref (a 18), .ref (a 20), .ref (a 34), .ref (a 36), .int (nI nc), .int (nI np), .int (nI T)]] sz0) := by
  refine z_ofX (cc := cX10_needPassedDay) (maxL := 3) (ret := none) (by decide) rfl (Nat.le_of_ble_eq_true rfl) ?_
  intro p e s m below meth c ls A hx hb hml hr hts hown hlk htab hP hK hD hA hS hl hsz0 hN hAN hE
  have hown : s.vm.findClass RX10 = some m.cls := hown
  have hl : lv_has ls 3 [(0, .ref (a 0)), (1, .int (nI fi)), (2, .int x)] := hl
  refine lv_iload_n hx hb dX10_needPassedDay_0 rfl (lv_at hl 2 rfl) ?_
  refine lv_iload_n hx hb dX10_needPassedDay_1 rfl (lv_at hl 1 rfl) ?_
  refine z_jcmp_lt hx hb (a := x.toInt) (b := ((fi : Nat) : Int)) (rfl) (nI_toInt (by omega)) dX10_needPassedDay_2 (tgt := 13) (by decide) (fun c_1 => ?_) (fun c_1 => ?_)
  · exact z_thrW (k := 1) (text := "no such day") (Ts := wsX10_needPassedDay) hx hb (by rw [hml]; exact hl.1.symm) hl9 hown hts (List.mem_of_getElem? (i := 1) (by decide +kernel)) (List.mem_of_getElem? (i := 2) (by decide +kernel)) (by decide +kernel) (fun _ h => (List.mem_cons_of_mem _ (List.mem_append_right _ h))) (by decide +kernel) (by decide +kernel) z_bad1 z_good1 hE hAN hP hD hK hS htab hlk dX10_needPassedDay_13 dX10_needPassedDay_16 dX10_needPassedDay_17 dX10_needPassedDay_20 dX10_needPassedDay_23 (Nat.le_of_ble_eq_true rfl) (Nat.le_of_ble_eq_true rfl) (Nat.le_of_ble_eq_true rfl) (Nat.le_of_ble_eq_true rfl) (Nat.le_of_ble_eq_true rfl) (Nat.le_of_ble_eq_true rfl)
  · refine lv_iload_n hx hb dX10_needPassedDay_5 rfl (lv_at hl 2 rfl) ?_
    refine lv_aload_n hx hb dX10_needPassedDay_6 rfl (lv_at hl 0 rfl) ?_
    refine va_get (D := G) (ci := 11) (v := .int (nI T)) (C := RX10) (T := TX10) (N := 10) hx hb hts in_X10_needPassedDay_X10 hown hK hP 0 rfl rfl 9 (by decide) (hts _ (List.mem_of_getElem? (i := 3) (by decide +kernel))) (fun _ h9 => h9) rfl dX10_needPassedDay_7 ?_
    refine z_jcmp_lt hx hb (a := x.toInt) (b := ((T : Nat) : Int)) (rfl) (nI_toInt (by omega)) dX10_needPassedDay_10 (tgt := 24) (by decide) (fun c_2 => ?_) (fun c_2 => ?_)
    · exfalso; omega
    · exact z_thrW (k := 1) (text := "no such day") (Ts := wsX10_needPassedDay) hx hb (by rw [hml]; exact hl.1.symm) hl9 hown hts (List.mem_of_getElem? (i := 1) (by decide +kernel)) (List.mem_of_getElem? (i := 2) (by decide +kernel)) (by decide +kernel) (fun _ h => (List.mem_cons_of_mem _ (List.mem_append_right _ h))) (by decide +kernel) (by decide +kernel) z_bad1 z_good1 hE hAN hP hD hK hS htab hlk dX10_needPassedDay_13 dX10_needPassedDay_16 dX10_needPassedDay_17 dX10_needPassedDay_20 dX10_needPassedDay_23 (Nat.le_of_ble_eq_true rfl) (Nat.le_of_ble_eq_true rfl) (Nat.le_of_ble_eq_true rfl) (Nat.le_of_ble_eq_true rfl) (Nat.le_of_ble_eq_true rfl) (Nat.le_of_ble_eq_true rfl)
set_option maxHeartbeats 4000000 in
set_option maxRecDepth 100000 in
theorem c_X10_isWithin (l : Launch) (G : va_G) (cy : Nat → ClassId) (a : Nat → Nat) (nc np T : Nat) (x : Int32) (mo : Nat) (hmo : mo < 2 ^ 31) : Met l yX10_isWithin wsX10_isWithin ({ frames := 0, cells := 0, slots := 0, locals := 0 }) (zS G cy [.ref (a 0), .int x, .int (nI mo)] [zO (a 0) 11 [.ref (a 1), .ref (a 4), .ref (a 11), .ref (a 18), .ref (a 20), .ref (a 34), .ref (a 36), .int (nI nc), .int (nI np), .int (nI T)]]) (vp_Si (fun r => (r = nI 1 ∧ (0 ≤ x.toInt ∧ x.toInt ≤ (mo : Int))) ∨ (r = nI 0 ∧ ¬ (0 ≤ x.toInt ∧ x.toInt ≤ (mo : Int))))) 0 0 (fun _ => False) := by
  refine z_ofS (cc := cX10_isWithin) (maxL := 3) (ret := (some .boolean)) (by decide) rfl (Nat.le_of_ble_eq_true rfl) ?_
  intro p e s m below meth c ls hx hb hml hr hts hown hlk hP hK hl
  have hown : s.vm.findClass RX10 = some m.cls := hown
  have hl : lv_has ls 3 [(0, .ref (a 0)), (1, .int x), (2, .int (nI mo))] := hl
  refine lv_iload_n hx hb dX10_isWithin_0 rfl (lv_at hl 1 rfl) ?_
  refine z_jf_lt hx hb (a := x.toInt) (rfl) dX10_isWithin_1 (tgt := 13) (by decide) (fun c_1 => ?_) (fun c_1 => ?_)
  · refine lv_iconst (v := nI 0) hx hb dX10_isWithin_13 (by decide) ?_
    exact z_rSz hx hb hr hlk (by rfl) dX10_isWithin_14 (Or.inr ⟨rfl, by omega⟩)
  · refine lv_iload_n hx hb dX10_isWithin_4 rfl (lv_at hl 1 rfl) ?_
    refine lv_iload_n hx hb dX10_isWithin_5 rfl (lv_at hl 2 rfl) ?_
    refine z_jcmp_gt hx hb (a := x.toInt) (b := ((mo : Nat) : Int)) (rfl) (nI_toInt (by omega)) dX10_isWithin_6 (tgt := 13) (by decide) (fun c_2 => ?_) (fun c_2 => ?_)
    · refine lv_iconst (v := nI 0) hx hb dX10_isWithin_13 (by decide) ?_
      exact z_rSz hx hb hr hlk (by rfl) dX10_isWithin_14 (Or.inr ⟨rfl, by omega⟩)
    · refine lv_iconst (v := nI 1) hx hb dX10_isWithin_9 (by decide) ?_
      refine lv_goto (tgt := 14) hx hb dX10_isWithin_10 (by decide) ?_
      exact z_rSz hx hb hr hlk (by rfl) dX10_isWithin_14 (Or.inl ⟨rfl, by omega⟩)
set_option maxHeartbeats 4000000 in
set_option maxRecDepth 100000 in
theorem c_X10_isMeter (l : Launch) (G : va_G) (cy : Nat → ClassId) (a : Nat → Nat) (nc np T : Nat) (x y : Int32) : Met l yX10_isMeter wsX10_isMeter ({ frames := 0, cells := 0, slots := 0, locals := 0 }) (zS G cy [.ref (a 0), .int x, .int y] [zO (a 0) 11 [.ref (a 1), .ref (a 4), .ref (a 11), .ref (a 18), .ref (a 20), .ref (a 34), .ref (a 36), .int (nI nc), .int (nI np), .int (nI T)]]) (vp_Si (fun r => (r = nI 1 ∧ (3 ≤ x.toInt ∧ x.toInt ≤ 6 ∧ 1 ≤ y.toInt ∧ y.toInt ≤ 10)) ∨ (r = nI 0 ∧ ¬ (3 ≤ x.toInt ∧ x.toInt ≤ 6 ∧ 1 ≤ y.toInt ∧ y.toInt ≤ 10)))) 0 0 (fun _ => False) := by
  refine z_ofS (cc := cX10_isMeter) (maxL := 3) (ret := (some .boolean)) (by decide) rfl (Nat.le_of_ble_eq_true rfl) ?_
  intro p e s m below meth c ls hx hb hml hr hts hown hlk hP hK hl
  have hown : s.vm.findClass RX10 = some m.cls := hown
  have hl : lv_has ls 3 [(0, .ref (a 0)), (1, .int x), (2, .int y)] := hl
  refine lv_iload_n hx hb dX10_isMeter_0 rfl (lv_at hl 1 rfl) ?_
  refine lv_iconst (v := nI 3) hx hb dX10_isMeter_1 (by decide) ?_
  refine z_jcmp_lt hx hb (a := x.toInt) (b := (3 : Int)) (rfl) (nI_toInt (by omega)) dX10_isMeter_2 (tgt := 26) (by decide) (fun c_1 => ?_) (fun c_1 => ?_)
  · refine lv_iconst (v := nI 0) hx hb dX10_isMeter_26 (by decide) ?_
    exact z_rSz hx hb hr hlk (by rfl) dX10_isMeter_27 (Or.inr ⟨rfl, by omega⟩)
  · refine lv_iload_n hx hb dX10_isMeter_5 rfl (lv_at hl 1 rfl) ?_
    refine lv_bipush (v := nI 6) hx hb dX10_isMeter_6 (by decide) ?_
    refine z_jcmp_gt hx hb (a := x.toInt) (b := (6 : Int)) (rfl) (nI_toInt (by omega)) dX10_isMeter_8 (tgt := 26) (by decide) (fun c_2 => ?_) (fun c_2 => ?_)
    · refine lv_iconst (v := nI 0) hx hb dX10_isMeter_26 (by decide) ?_
      exact z_rSz hx hb hr hlk (by rfl) dX10_isMeter_27 (Or.inr ⟨rfl, by omega⟩)
    · refine lv_iload_n hx hb dX10_isMeter_11 rfl (lv_at hl 2 rfl) ?_
      refine lv_iconst (v := nI 1) hx hb dX10_isMeter_12 (by decide) ?_
      refine z_jcmp_lt hx hb (a := y.toInt) (b := (1 : Int)) (rfl) (nI_toInt (by omega)) dX10_isMeter_13 (tgt := 26) (by decide) (fun c_3 => ?_) (fun c_3 => ?_)
      · refine lv_iconst (v := nI 0) hx hb dX10_isMeter_26 (by decide) ?_
        exact z_rSz hx hb hr hlk (by rfl) dX10_isMeter_27 (Or.inr ⟨rfl, by omega⟩)
      · refine lv_iload_n hx hb dX10_isMeter_16 rfl (lv_at hl 2 rfl) ?_
        refine lv_bipush (v := nI 10) hx hb dX10_isMeter_17 (by decide) ?_
        refine z_jcmp_gt hx hb (a := y.toInt) (b := (10 : Int)) (rfl) (nI_toInt (by omega)) dX10_isMeter_19 (tgt := 26) (by decide) (fun c_4 => ?_) (fun c_4 => ?_)
        · refine lv_iconst (v := nI 0) hx hb dX10_isMeter_26 (by decide) ?_
          exact z_rSz hx hb hr hlk (by rfl) dX10_isMeter_27 (Or.inr ⟨rfl, by omega⟩)
        · refine lv_iconst (v := nI 1) hx hb dX10_isMeter_22 (by decide) ?_
          refine lv_goto (tgt := 27) hx hb dX10_isMeter_23 (by decide) ?_
          exact z_rSz hx hb hr hlk (by rfl) dX10_isMeter_27 (Or.inl ⟨rfl, by omega⟩)
theorem in_X10_needNoReadingToday_X10 : ∀ w ∈ u_ws RX10 TX10 10, w ∈ wsX10_needNoReadingToday := fun _ h => (List.mem_cons_of_mem _ (List.mem_append_left _ (List.mem_append_left _ (List.mem_append_right _ h))))
set_option maxHeartbeats 4000000 in
set_option maxRecDepth 100000 in
theorem c_X10_needNoReadingToday (l : Launch) (G : va_G) (cy : Nat → ClassId) (a : Nat → Nat) (nc np T : Nat) (b : Nat → Nat) (k fi la tk pc ds : Nat) (dd : Int32) (hT : T < 1000) (hla : la < T) : Met l yX10_needNoReadingToday wsX10_needNoReadingToday ({ frames := 1, cells := 0, slots := 0, locals := 20 }) (zS G cy [.ref (a 0), .ref (b 1)] [zO (a 0) 11 [.ref (a 1), .ref (a 4), .ref (a 11), .ref (a 18), .ref (a 20), .ref (a 34), .ref (a 36), .int (nI nc), .int (nI np), .int (nI T)], zO (b 1) 5 [.int (nI k), .int (nI fi), .ref (a 1), .ref (a 4), .ref (b 3), .ref (b 5), .ref (b 2), .int (nI la), .int (nI tk), .long (lN pc), .int dd, .int (nI ds)]]) (va_Sv (fun _ => True)) 0 0 (fun _ => False) := by
  refine z_ofS (cc := cX10_needNoReadingToday) (maxL := 2) (ret := none) (by decide) rfl (Nat.le_of_ble_eq_true rfl) ?_
  intro p e s m below meth c ls hx hb hml hr hts hown hlk hP hK hl
  have hown : s.vm.findClass RX10 = some m.cls := hown
  have hl : lv_has ls 2 [(0, .ref (a 0)), (1, .ref (b 1))] := hl
  refine lv_aload_n hx hb dX10_needNoReadingToday_0 rfl (lv_at hl 1 rfl) ?_
  refine vp_callSi (va_runV (As := []) (rest := []) ⟨hx, hb, hml, hown, hts⟩ (c_X4_latestDay l G cy (b 1) (a 1) (a 4) (b 3) (b 5) (b 2) k fi la tk pc ds dd) (cwV 0 hts gX10_needNoReadingToday_X4_latestDay rfl rfl rfl (by decide +kernel) ⟨Nat.le_of_ble_eq_true rfl, Nat.le_of_ble_eq_true rfl⟩) (z_pV hK hP [1] rfl (ci := 5) (q0 := 0) rfl rfl rfl) rfl rfl hl.1 rfl (lv_room (Nat.le_of_ble_eq_true rfl)) dX10_needNoReadingToday_1 ⟨Nat.le_of_ble_eq_true rfl, Nat.le_of_ble_eq_true rfl⟩).run (fun r_1 hr_1 => ?_)
  obtain rfl : r_1 = (nI la) := hr_1
  refine lv_aload_n hx hb dX10_needNoReadingToday_4 rfl (lv_at hl 0 rfl) ?_
  refine va_get (D := G) (ci := 11) (v := .int (nI T)) (C := RX10) (T := TX10) (N := 10) hx hb hts in_X10_needNoReadingToday_X10 hown hK hP 0 rfl rfl 9 (by decide) (hts _ (List.mem_of_getElem? (i := 3) (by decide +kernel))) (fun _ h9 => h9) rfl dX10_needNoReadingToday_5 ?_
  refine z_icmp_ne hx hb (by omega) (by omega) dX10_needNoReadingToday_8 (tgt := 22) (by decide) (fun c_2 => ?_) (fun c_2 => ?_)
  · exact z_rSv hx hb hr hlk dX10_needNoReadingToday_22 (trivial)
  · exfalso; omega
set_option maxHeartbeats 4000000 in
set_option maxRecDepth 100000 in
theorem e_X10_needNoReadingToday (l : Launch) (hl9 : l.stackTraces = false) (G : va_G) (cy : Nat → ClassId) (N0 sz0 : Nat) (a : Nat → Nat) (nc np T : Nat) (b : Nat → Nat) (k fi la tk pc ds : Nat) (dd : Int32) (hT : T < 1000) (hla : la = T) : vx_Met l yX10_needNoReadingToday wsX10_needNoReadingToday ({ frames := 6, cells := 1, slots := 6, locals := 82 }) (zX G cy N0 [.ref (a 0), .ref (b 1)] sz0 [zO (a 0) 11 [.ref (a 1), .ref (a 4), .ref (a 11), .ref (a 18), .ref (a 20), .ref (a 34), .ref (a 36), .int (nI nc), .int (nI np), .int (nI T)], zO (b 1) 5 [.int (nI k), .int (nI fi), .ref (a 1), .ref (a 4), .ref (b 3), .ref (b 5), .ref (b 2), .int (nI la), .int (nI tk), .long (lN pc), .int dd, .int (nI ds)]]) zNo (zXC G cy (va_A [zO (a 0) 11 [.ref (a 1), .ref (a 4), .ref (a 11), .ref (a 18), .ref (a 20), .ref (a 34), .ref (a 36), .int (nI nc), .int (nI np), .int (nI T)], zO (b 1) 5 [.int (nI k), .int (nI fi), .ref (a 1), .ref (a 4), .ref (b 3), .ref (b 5), .ref (b 2), .int (nI la), .int (nI tk), .long (lN pc), .int dd, .int (nI ds)]] sz0) [zO (a 0) 11 [.ref (a 1), .ref (a 4), .ref (a 11), .ref (a 18), .ref (a 20), .ref (a 34), .ref (a 36), .int (nI nc), .int (nI np), .int (nI T)], zO (b 1) 5 [.int (nI k), .int (nI fi), .ref (a 1), .ref (a 4), .ref (b 3), .ref (b 5), .ref (b 2), .int (nI la), .int (nI tk), .long (lN pc), .int dd, .int (nI ds)]] (zE 3)) 1 6 (va_A [zO (a 0) 11 [.ref (a 1), .ref (a 4), .ref (a 11), .ref (a 18), .ref (a 20), .ref (a 34), .ref (a 36), .int (nI nc), .int (nI np), .int (nI T)], zO (b 1) 5 [.int (nI k), .int (nI fi), .ref (a 1), .ref (a 4), .ref (b 3), .ref (b 5), .ref (b 2), .int (nI la), .int (nI tk), .long (lN pc), .int dd, .int (nI ds)]] sz0) := by
  refine z_ofX (cc := cX10_needNoReadingToday) (maxL := 2) (ret := none) (by decide) rfl (Nat.le_of_ble_eq_true rfl) ?_
  intro p e s m below meth c ls A hx hb hml hr hts hown hlk htab hP hK hD hA hS hl hsz0 hN hAN hE
  have hown : s.vm.findClass RX10 = some m.cls := hown
  have hl : lv_has ls 2 [(0, .ref (a 0)), (1, .ref (b 1))] := hl
  refine lv_aload_n hx hb dX10_needNoReadingToday_0 rfl (lv_at hl 1 rfl) ?_
  refine vp_callSi (va_runV (As := []) (rest := []) ⟨hx, hb, hml, hown, hts⟩ (c_X4_latestDay l G cy (b 1) (a 1) (a 4) (b 3) (b 5) (b 2) k fi la tk pc ds dd) (cwV 0 hts gX10_needNoReadingToday_X4_latestDay rfl rfl rfl (by decide +kernel) ⟨Nat.le_of_ble_eq_true rfl, Nat.le_of_ble_eq_true rfl⟩) (z_pV hK hP [1] rfl (ci := 5) (q0 := 0) rfl rfl rfl) rfl rfl hl.1 rfl (lv_room (Nat.le_of_ble_eq_true rfl)) dX10_needNoReadingToday_1 ⟨Nat.le_of_ble_eq_true rfl, Nat.le_of_ble_eq_true rfl⟩).run (fun r_1 hr_1 => ?_)
  obtain rfl : r_1 = (nI la) := hr_1
  refine lv_aload_n hx hb dX10_needNoReadingToday_4 rfl (lv_at hl 0 rfl) ?_
  refine va_get (D := G) (ci := 11) (v := .int (nI T)) (C := RX10) (T := TX10) (N := 10) hx hb hts in_X10_needNoReadingToday_X10 hown hK hP 0 rfl rfl 9 (by decide) (hts _ (List.mem_of_getElem? (i := 3) (by decide +kernel))) (fun _ h9 => h9) rfl dX10_needNoReadingToday_5 ?_
  refine z_icmp_ne hx hb (by omega) (by omega) dX10_needNoReadingToday_8 (tgt := 22) (by decide) (fun c_2 => ?_) (fun c_2 => ?_)
  · exfalso; omega
  · exact z_thrW (k := 3) (text := "a reading of today was taken") (Ts := wsX10_needNoReadingToday) hx hb (by rw [hml]; exact hl.1.symm) hl9 hown hts (List.mem_of_getElem? (i := 1) (by decide +kernel)) (List.mem_of_getElem? (i := 2) (by decide +kernel)) (by decide +kernel) (fun _ h => (List.mem_cons_of_mem _ (List.mem_append_right _ h))) (by decide +kernel) (by decide +kernel) z_bad3 z_good3 hE hAN hP hD hK hS htab hlk dX10_needNoReadingToday_11 dX10_needNoReadingToday_14 dX10_needNoReadingToday_15 dX10_needNoReadingToday_18 dX10_needNoReadingToday_21 (Nat.le_of_ble_eq_true rfl) (Nat.le_of_ble_eq_true rfl) (Nat.le_of_ble_eq_true rfl) (Nat.le_of_ble_eq_true rfl) (Nat.le_of_ble_eq_true rfl) (Nat.le_of_ble_eq_true rfl)
theorem in_X10_isCodeTaken_X10 : ∀ w ∈ u_ws RX10 TX10 10, w ∈ wsX10_isCodeTaken := fun _ h => (List.mem_cons_of_mem _ (List.mem_append_left _ (List.mem_append_right _ h)))
set_option maxHeartbeats 4000000 in
set_option maxRecDepth 100000 in
theorem c_X10_isCodeTaken (l : Launch) (G : va_G) (cy : Nat → ClassId) (a : Nat → Nat) (nc np T : Nat) (cd : Nat → Nat) (co : Nat) (hnc : nc ≤ 512) (hco : co < 2 ^ 31) (hcd : ∀ i, cd i < 2 ^ 31) : Met l yX10_isCodeTaken wsX10_isCodeTaken ({ frames := 1, cells := 0, slots := 0, locals := 21 }) (zS G cy [.ref (a 0), .int (nI co)] [zO (a 0) 11 [.ref (a 1), .ref (a 4), .ref (a 11), .ref (a 18), .ref (a 20), .ref (a 34), .ref (a 36), .int (nI nc), .int (nI np), .int (nI T)], zO (a 34) 6 [.ref (a 35)], zL cy (a 35) 512 (fun j9 => lN (cd j9))]) (vp_Si (fun r => (r = nI 1 ∧ (zHas cd nc co)) ∨ (r = nI 0 ∧ ¬ (zHas cd nc co)))) 0 0 (fun _ => False) := by
  refine z_ofS (cc := cX10_isCodeTaken) (maxL := 3) (ret := (some .boolean)) (by decide) rfl (Nat.le_of_ble_eq_true rfl) ?_
  intro p e s m below meth c ls hx hb hml hr hts hown hlk hP hK hl
  have hown : s.vm.findClass RX10 = some m.cls := hown
  have hl : lv_has ls 3 [(0, .ref (a 0)), (1, .int (nI co))] := hl
  refine lv_iconst (v := nI 0) hx hb dX10_isCodeTaken_0 (by decide) ?_
  refine lv_istore_n (lv' := [(2, .int (nI 0)), (0, .ref (a 0)), (1, .int (nI co))]) hx hb dX10_isCodeTaken_1 rfl hl (by decide) rfl (fun ls hl => ?_)
  have hloop2 : ∀ (fuel2 : Nat) (j : Nat), (∀ i, i < j → ¬ cd i = co) → (j ≤ nc) → (nc - j) < fuel2 → ∀ (ls : Array Slot), lv_has ls 3 [(0, .ref (a 0)), (1, .int (nI co)), (2, .int (nI j))] → W p l e { frames := 1, cells := 0, slots := 0, locals := 21 } s m [.ref (a 0), .int (nI co)].toArray below meth c s.heap [] 0 0 (MQ below (vp_Si (fun r => (r = nI 1 ∧ (zHas cd nc co)) ∨ (r = nI 0 ∧ ¬ (zHas cd nc co)))) [.ref (a 0), .int (nI co)].toArray s 0 0 (fun _ => False)) (F0 m 2 ls []) := by
    intro fuel2
    induction fuel2 with
    | zero =>
      intro j hi2_0 hi2_1 hfu2
      exact absurd hfu2 (Nat.not_lt_zero _)
    | succ fuel2 ih2 =>
      intro j hi2_0 hi2_1 hfu2 ls hl
      refine lv_iload_n hx hb dX10_isCodeTaken_2 rfl (lv_at hl 2 rfl) ?_
      refine lv_aload_n hx hb dX10_isCodeTaken_3 rfl (lv_at hl 0 rfl) ?_
      refine va_get (D := G) (ci := 11) (v := .int (nI nc)) (C := RX10) (T := TX10) (N := 10) hx hb hts in_X10_isCodeTaken_X10 hown hK hP 0 rfl rfl 7 (by decide) (hts _ (List.mem_of_getElem? (i := 1) (by decide +kernel))) (fun _ h9 => h9) rfl dX10_isCodeTaken_4 ?_
      refine z_icmp_ge hx hb (by omega) (by omega) dX10_isCodeTaken_7 (tgt := 32) (by decide) (fun c_1 => ?_) (fun c_1 => ?_)
      · refine lv_iconst (v := nI 0) hx hb dX10_isCodeTaken_32 (by decide) ?_
        exact z_rSz hx hb hr hlk (by rfl) dX10_isCodeTaken_33 (Or.inr ⟨rfl, fun ⟨i, h1, h2⟩ => hi2_0 i (by omega) h2⟩)
      · refine lv_aload_n hx hb dX10_isCodeTaken_10 rfl (lv_at hl 0 rfl) ?_
        refine va_get (D := G) (ci := 11) (v := .ref (a 34)) (C := RX10) (T := TX10) (N := 10) hx hb hts in_X10_isCodeTaken_X10 hown hK hP 0 rfl rfl 5 (by decide) (hts _ (List.mem_of_getElem? (i := 2) (by decide +kernel))) (fun _ h9 => h9) rfl dX10_isCodeTaken_11 ?_
        refine lv_iload_n hx hb dX10_isCodeTaken_14 rfl (lv_at hl 2 rfl) ?_
        refine vp_callSl (va_runV (As := [.int (nI j)]) (rest := []) ⟨hx, hb, hml, hown, hts⟩ (c_X5_getN l G cy (a 34) (a 35) 512 cd j (by omega) (by omega)) (cwV 1 hts gX10_isCodeTaken_X5_get rfl rfl rfl (by decide +kernel) ⟨Nat.le_of_ble_eq_true rfl, Nat.le_of_ble_eq_true rfl⟩) (z_pV hK hP [1, 2] rfl (ci := 6) (q0 := 0) rfl rfl rfl) rfl rfl hl.1 rfl (lv_room (Nat.le_of_ble_eq_true rfl)) dX10_isCodeTaken_15 ⟨Nat.le_of_ble_eq_true rfl, Nat.le_of_ble_eq_true rfl⟩).run (fun r_2 hr_2 => ?_)
        obtain rfl : r_2 = (lN (cd j)) := hr_2
        refine lv_iload_n hx hb dX10_isCodeTaken_18 rfl (lv_at hl 1 rfl) ?_
        refine z_i2l hx hb (by omega) dX10_isCodeTaken_19 ?_
        refine z_lcN_ne hx hb (by have := hcd j; omega) (by omega) dX10_isCodeTaken_20 dX10_isCodeTaken_21 (tgt := 26) (by decide) (fun c_3 => ?_) (fun c_3 => ?_)
        · refine lv_iinc (v := (nI (j + 1))) (lv' := [(2, .int (nI (j + 1))), (0, .ref (a 0)), (1, .int (nI co))]) hx hb dX10_isCodeTaken_26 hl (k := 2) rfl (nI_add _ _) (by decide) rfl (fun ls hl => ?_)
          refine lv_goto (tgt := 2) hx hb dX10_isCodeTaken_29 (by decide) ?_
          exact ih2 (j + 1) (fun i hi q => by by_cases h9 : i = j; (rw [h9] at q; exact c_3 q); exact hi2_0 i (by omega) q) (by omega) (by omega) _ (lv_sub hl [1, 2, 0] rfl)
        · refine lv_iconst (v := nI 1) hx hb dX10_isCodeTaken_24 (by decide) ?_
          exact z_rSz hx hb hr hlk (by rfl) dX10_isCodeTaken_25 (Or.inl ⟨rfl, ⟨j, by omega, c_3⟩⟩)
  exact hloop2 (nc - 0 + 1) 0 (fun i hi => by omega) (by omega) (by omega) _ (lv_sub hl [1, 2, 0] rfl)
