theorem in_X1_setWeight_X1 : ∀ w ∈ u_ws RX1 TX1 3, w ∈ wsX1_setWeight := fun _ h => (List.mem_cons_of_mem _ (List.mem_append_left _ (List.mem_append_right _ h)))
set_option maxHeartbeats 4000000 in
set_option maxRecDepth 100000 in
theorem c_X1_setWeight (l : Launch) (G : va_G) (cy : Nat → ClassId) (sz0 : Nat) (h hw hp hq aw n : Nat) (w : Nat → Nat) (i x : Nat) (hn : n < 2 ^ 31) (hi : i < n) : Met l yX1_setWeight wsX1_setWeight ({ frames := 1, cells := 0, slots := 0, locals := 23 }) (zM G cy [.ref h, .int (nI i), .long (lN x)] sz0 [zO h 2 [.ref hw, .ref hp, .ref hq], zO hw 6 [.ref aw], zL cy aw n (fun j9 => lN (w j9))]) (va_Qv (fun (_ : Unit) => True) (fun (u : Unit) t9 => zB G cy (va_A [zO h 2 [.ref hw, .ref hp, .ref hq], zO hw 6 [.ref aw], zL cy aw n (fun j9 => lN (w j9))] sz0) [zO h 2 [.ref hw, .ref hp, .ref hq], zO hw 6 [.ref aw], zL cy aw n (fun j9 => lN ((va_up w i x) j9))] t9) (va_A [zO h 2 [.ref hw, .ref hp, .ref hq], zO hw 6 [.ref aw], zL cy aw n (fun j9 => lN (w j9))] sz0)) 0 0 (va_A [zO h 2 [.ref hw, .ref hp, .ref hq], zO hw 6 [.ref aw], zL cy aw n (fun j9 => lN (w j9))] sz0) := by
  refine z_ofM (cc := cX1_setWeight) (maxL := 4) (ret := none) (Qc := (fun A => va_Qv (fun (_ : Unit) => True) (fun (u : Unit) t9 => zB G cy A [zO h 2 [.ref hw, .ref hp, .ref hq], zO hw 6 [.ref aw], zL cy aw n (fun j9 => lN ((va_up w i x) j9))] t9) A)) (by decide) rfl (Nat.le_of_ble_eq_true rfl) ?_
  intro p e s m below meth c ls A hx hb hml hr hts hown hlk hin hP hK hD hA hS hl hsz0
  have hown : s.vm.findClass RX1 = some m.cls := hown
  have hl : lv_has ls 4 [(0, .ref h), (1, .int (nI i)), (2, .long (lN x))] := hl
  refine lv_aload_n hx hb dX1_setWeight_0 rfl (lv_at hl 0 rfl) ?_
  refine va_get (D := G) (ci := 2) (v := .ref hw) (C := RX1) (T := TX1) (N := 3) hx hb hts in_X1_setWeight_X1 hown hK hP 0 rfl rfl 0 (by decide) (hts _ (List.mem_of_getElem? (i := 1) (by decide +kernel))) (fun _ h9 => h9) rfl dX1_setWeight_1 ?_
  refine lv_iload_n hx hb dX1_setWeight_4 rfl (lv_at hl 1 rfl) ?_
  refine lv_lload_n hx hb dX1_setWeight_5 rfl (lv_at hl 2 rfl) ?_
  refine z_cv (wc := [zO hw 6 [.ref aw], zL cy aw n (fun j9 => lN (w j9))]) (va_runV (As := [.int (nI i), .long (lN x)]) (rest := []) ⟨hx, hb, hml, hown, hts⟩ (c_X5_setN l G cy _ hw aw n w i x (by omega) (by omega)) (cwV 2 hts gX1_setWeight_X5_set rfl rfl rfl (by decide +kernel) ⟨Nat.le_of_ble_eq_true rfl, Nat.le_of_ble_eq_true rfl⟩) (z_pVM hK hP hD [1, 2] rfl (by decide) (ci := 6) (q0 := 0) rfl rfl rfl) rfl rfl hl.1 rfl (lv_room (Nat.le_of_ble_eq_true rfl)) dX1_setWeight_6 ⟨Nat.le_of_ble_eq_true rfl, Nat.le_of_ble_eq_true rfl⟩) hP hD hS hA [1, 2] [0] [0, 1, 2] [zO h 2 [.ref hw, .ref hp, .ref hq]] (fun _ => [zO h 2 [.ref hw, .ref hp, .ref hq], zO hw 6 [.ref aw], zL cy aw n (fun j9 => lN ((va_up w i x) j9))]) rfl rfl (by decide) (fun _ => rfl) (fun u H locs hr_1 hQ hD hS hz => ?_)
  have hP : va_P G vwCl [zO h 2 [.ref hw, .ref hp, .ref hq], zO hw 6 [.ref aw], zL cy aw n (fun j9 => lN ((va_up w i x) j9))] H := hQ
  have hD : va_D A [zO h 2 [.ref hw, .ref hp, .ref hq], zO hw 6 [.ref aw], zL cy aw n (fun j9 => lN ((va_up w i x) j9))] := hD
  clear hQ
  exact z_rMv hx hb hr hlk dX1_setWeight_9 () (trivial) hP hD hK hS (Nat.le_of_ble_eq_true rfl) (Nat.le_of_ble_eq_true rfl)
theorem in_X1_addWeight_X1 : ∀ w ∈ u_ws RX1 TX1 3, w ∈ wsX1_addWeight := fun _ h => (List.mem_cons_of_mem _ (List.mem_append_left _ (List.mem_append_right _ h)))
set_option maxHeartbeats 4000000 in
set_option maxRecDepth 100000 in
theorem c_X1_addWeight (l : Launch) (G : va_G) (cy : Nat → ClassId) (sz0 : Nat) (h hw hp hq aw n : Nat) (w : Nat → Nat) (i x : Nat) (hn : n < 2 ^ 31) (hi : i < n) : Met l yX1_addWeight wsX1_addWeight ({ frames := 2, cells := 0, slots := 0, locals := 46 }) (zM G cy [.ref h, .int (nI i), .long (lN x)] sz0 [zO h 2 [.ref hw, .ref hp, .ref hq], zO hw 6 [.ref aw], zL cy aw n (fun j9 => lN (w j9))]) (va_Qv (fun (_ : Unit) => True) (fun (u : Unit) t9 => zB G cy (va_A [zO h 2 [.ref hw, .ref hp, .ref hq], zO hw 6 [.ref aw], zL cy aw n (fun j9 => lN (w j9))] sz0) [zO h 2 [.ref hw, .ref hp, .ref hq], zO hw 6 [.ref aw], zL cy aw n (fun j9 => lN ((va_up w i (w i + x)) j9))] t9) (va_A [zO h 2 [.ref hw, .ref hp, .ref hq], zO hw 6 [.ref aw], zL cy aw n (fun j9 => lN (w j9))] sz0)) 0 0 (va_A [zO h 2 [.ref hw, .ref hp, .ref hq], zO hw 6 [.ref aw], zL cy aw n (fun j9 => lN (w j9))] sz0) := by
  refine z_ofM (cc := cX1_addWeight) (maxL := 4) (ret := none) (Qc := (fun A => va_Qv (fun (_ : Unit) => True) (fun (u : Unit) t9 => zB G cy A [zO h 2 [.ref hw, .ref hp, .ref hq], zO hw 6 [.ref aw], zL cy aw n (fun j9 => lN ((va_up w i (w i + x)) j9))] t9) A)) (by decide) rfl (Nat.le_of_ble_eq_true rfl) ?_
  intro p e s m below meth c ls A hx hb hml hr hts hown hlk hin hP hK hD hA hS hl hsz0
  have hown : s.vm.findClass RX1 = some m.cls := hown
  have hl : lv_has ls 4 [(0, .ref h), (1, .int (nI i)), (2, .long (lN x))] := hl
  refine lv_aload_n hx hb dX1_addWeight_0 rfl (lv_at hl 0 rfl) ?_
  refine va_get (D := G) (ci := 2) (v := .ref hw) (C := RX1) (T := TX1) (N := 3) hx hb hts in_X1_addWeight_X1 hown hK hP 0 rfl rfl 0 (by decide) (hts _ (List.mem_of_getElem? (i := 1) (by decide +kernel))) (fun _ h9 => h9) rfl dX1_addWeight_1 ?_
  refine lv_iload_n hx hb dX1_addWeight_4 rfl (lv_at hl 1 rfl) ?_
  refine lv_lload_n hx hb dX1_addWeight_5 rfl (lv_at hl 2 rfl) ?_
  refine z_cv (wc := [zO hw 6 [.ref aw], zL cy aw n (fun j9 => lN (w j9))]) (va_runV (As := [.int (nI i), .long (lN x)]) (rest := []) ⟨hx, hb, hml, hown, hts⟩ (c_X5_addN l G cy _ hw aw n w i x (by omega) (by omega)) (cwV 2 hts gX1_addWeight_X5_add rfl rfl rfl (by decide +kernel) ⟨Nat.le_of_ble_eq_true rfl, Nat.le_of_ble_eq_true rfl⟩) (z_pVM hK hP hD [1, 2] rfl (by decide) (ci := 6) (q0 := 0) rfl rfl rfl) rfl rfl hl.1 rfl (lv_room (Nat.le_of_ble_eq_true rfl)) dX1_addWeight_6 ⟨Nat.le_of_ble_eq_true rfl, Nat.le_of_ble_eq_true rfl⟩) hP hD hS hA [1, 2] [0] [0, 1, 2] [zO h 2 [.ref hw, .ref hp, .ref hq]] (fun _ => [zO h 2 [.ref hw, .ref hp, .ref hq], zO hw 6 [.ref aw], zL cy aw n (fun j9 => lN ((va_up w i (w i + x)) j9))]) rfl rfl (by decide) (fun _ => rfl) (fun u H locs hr_1 hQ hD hS hz => ?_)
  have hP : va_P G vwCl [zO h 2 [.ref hw, .ref hp, .ref hq], zO hw 6 [.ref aw], zL cy aw n (fun j9 => lN ((va_up w i (w i + x)) j9))] H := hQ
  have hD : va_D A [zO h 2 [.ref hw, .ref hp, .ref hq], zO hw 6 [.ref aw], zL cy aw n (fun j9 => lN ((va_up w i (w i + x)) j9))] := hD
  clear hQ
  exact z_rMv hx hb hr hlk dX1_addWeight_9 () (trivial) hP hD hK hS (Nat.le_of_ble_eq_true rfl) (Nat.le_of_ble_eq_true rfl)
theorem in_X1_weightOf_X1 : ∀ w ∈ u_ws RX1 TX1 3, w ∈ wsX1_weightOf := fun _ h => (List.mem_cons_of_mem _ (List.mem_append_left _ (List.mem_append_right _ h)))
set_option maxHeartbeats 4000000 in
set_option maxRecDepth 100000 in
theorem c_X1_weightOf (l : Launch) (G : va_G) (cy : Nat → ClassId) (h hw hp hq aw n : Nat) (w : Nat → Nat) (i : Nat) (hn : n < 2 ^ 31) (hi : i < n) : Met l yX1_weightOf wsX1_weightOf ({ frames := 1, cells := 0, slots := 0, locals := 21 }) (zS G cy [.ref h, .int (nI i)] [zO h 2 [.ref hw, .ref hp, .ref hq], zO hw 6 [.ref aw], zL cy aw n (fun j9 => lN (w j9))]) (vp_Sl (fun r => r = (lN (w i)))) 0 0 (fun _ => False) := by
  refine z_ofS (cc := cX1_weightOf) (maxL := 2) (ret := (some .long)) (by decide) rfl (Nat.le_of_ble_eq_true rfl) ?_
  intro p e s m below meth c ls hx hb hml hr hts hown hlk hP hK hl
  have hown : s.vm.findClass RX1 = some m.cls := hown
  have hl : lv_has ls 2 [(0, .ref h), (1, .int (nI i))] := hl
  refine lv_aload_n hx hb dX1_weightOf_0 rfl (lv_at hl 0 rfl) ?_
  refine va_get (D := G) (ci := 2) (v := .ref hw) (C := RX1) (T := TX1) (N := 3) hx hb hts in_X1_weightOf_X1 hown hK hP 0 rfl rfl 0 (by decide) (hts _ (List.mem_of_getElem? (i := 1) (by decide +kernel))) (fun _ h9 => h9) rfl dX1_weightOf_1 ?_
  refine lv_iload_n hx hb dX1_weightOf_4 rfl (lv_at hl 1 rfl) ?_
  refine vp_callSl (va_runV (As := [.int (nI i)]) (rest := []) ⟨hx, hb, hml, hown, hts⟩ (c_X5_getN l G cy hw aw n w i (by omega) (by omega)) (cwV 1 hts gX1_weightOf_X5_get rfl rfl rfl (by decide +kernel) ⟨Nat.le_of_ble_eq_true rfl, Nat.le_of_ble_eq_true rfl⟩) (z_pV hK hP [1, 2] rfl (ci := 6) (q0 := 0) rfl rfl rfl) rfl rfl hl.1 rfl (lv_room (Nat.le_of_ble_eq_true rfl)) dX1_weightOf_5 ⟨Nat.le_of_ble_eq_true rfl, Nat.le_of_ble_eq_true rfl⟩).run (fun r_1 hr_1 => ?_)
  obtain rfl : r_1 = (lN (w i)) := hr_1
  exact z_rSl hx hb hr hlk dX1_weightOf_8 (rfl)
theorem in_X1_partOf_X1 : ∀ w ∈ u_ws RX1 TX1 3, w ∈ wsX1_partOf := fun _ h => (List.mem_cons_of_mem _ (List.mem_append_left _ (List.mem_append_right _ h)))
set_option maxHeartbeats 4000000 in
set_option maxRecDepth 100000 in
theorem c_X1_partOf (l : Launch) (G : va_G) (cy : Nat → ClassId) (h hw hp hq ap n : Nat) (w : Nat → Nat) (i : Nat) (hn : n < 2 ^ 31) (hi : i < n) : Met l yX1_partOf wsX1_partOf ({ frames := 1, cells := 0, slots := 0, locals := 21 }) (zS G cy [.ref h, .int (nI i)] [zO h 2 [.ref hw, .ref hp, .ref hq], zO hp 6 [.ref ap], zL cy ap n (fun j9 => lN (w j9))]) (vp_Sl (fun r => r = (lN (w i)))) 0 0 (fun _ => False) := by
  refine z_ofS (cc := cX1_partOf) (maxL := 2) (ret := (some .long)) (by decide) rfl (Nat.le_of_ble_eq_true rfl) ?_
  intro p e s m below meth c ls hx hb hml hr hts hown hlk hP hK hl
  have hown : s.vm.findClass RX1 = some m.cls := hown
  have hl : lv_has ls 2 [(0, .ref h), (1, .int (nI i))] := hl
  refine lv_aload_n hx hb dX1_partOf_0 rfl (lv_at hl 0 rfl) ?_
  refine va_get (D := G) (ci := 2) (v := .ref hp) (C := RX1) (T := TX1) (N := 3) hx hb hts in_X1_partOf_X1 hown hK hP 0 rfl rfl 1 (by decide) (hts _ (List.mem_of_getElem? (i := 1) (by decide +kernel))) (fun _ h9 => h9) rfl dX1_partOf_1 ?_
  refine lv_iload_n hx hb dX1_partOf_4 rfl (lv_at hl 1 rfl) ?_
  refine vp_callSl (va_runV (As := [.int (nI i)]) (rest := []) ⟨hx, hb, hml, hown, hts⟩ (c_X5_getN l G cy hp ap n w i (by omega) (by omega)) (cwV 1 hts gX1_partOf_X5_get rfl rfl rfl (by decide +kernel) ⟨Nat.le_of_ble_eq_true rfl, Nat.le_of_ble_eq_true rfl⟩) (z_pV hK hP [1, 2] rfl (ci := 6) (q0 := 0) rfl rfl rfl) rfl rfl hl.1 rfl (lv_room (Nat.le_of_ble_eq_true rfl)) dX1_partOf_5 ⟨Nat.le_of_ble_eq_true rfl, Nat.le_of_ble_eq_true rfl⟩).run (fun r_1 hr_1 => ?_)
  obtain rfl : r_1 = (lN (w i)) := hr_1
  exact z_rSl hx hb hr hlk dX1_partOf_8 (rfl)
theorem in_X1_all_X1 : ∀ w ∈ u_ws RX1 TX1 3, w ∈ wsX1_all := fun _ h => (List.mem_cons_of_mem _ (List.mem_append_left _ (List.mem_append_right _ h)))
set_option maxHeartbeats 4000000 in
set_option maxRecDepth 100000 in
theorem c_X1_all (l : Launch) (G : va_G) (cy : Nat → ClassId) (h hw hp hq aw n : Nat) (w : Nat → Nat) (a b : Nat) (hn : n < 2 ^ 31) (hab : a ≤ b) (hbn : b ≤ n) : Met l yX1_all wsX1_all ({ frames := 1, cells := 0, slots := 0, locals := 21 }) (zS G cy [.ref h, .int (nI a), .int (nI b)] [zO h 2 [.ref hw, .ref hp, .ref hq], zO hw 6 [.ref aw], zL cy aw n (fun j9 => lN (w j9))]) (vp_Sl (fun r => r = (lN (z_sm w a (b - a))))) 0 0 (fun _ => False) := by
  refine z_ofS (cc := cX1_all) (maxL := 6) (ret := (some .long)) (by decide) rfl (Nat.le_of_ble_eq_true rfl) ?_
  intro p e s m below meth c ls hx hb hml hr hts hown hlk hP hK hl
  have hown : s.vm.findClass RX1 = some m.cls := hown
  have hl : lv_has ls 6 [(0, .ref h), (1, .int (nI a)), (2, .int (nI b))] := hl
  refine lv_lconst (v := lN 0) hx hb dX1_all_0 rfl ?_
  refine lv_lstore_n (lv' := [(3, .long (lN 0)), (0, .ref h), (1, .int (nI a)), (2, .int (nI b))]) hx hb dX1_all_1 rfl hl (by decide) rfl (fun ls hl => ?_)
  refine lv_iload_n hx hb dX1_all_2 rfl (lv_at hl 2 rfl) ?_
  refine lv_istore (lv' := [(5, .int (nI a)), (3, .long (lN 0)), (0, .ref h), (1, .int (nI a)), (2, .int (nI b))]) hx hb dX1_all_3 hl (by decide) rfl (fun ls hl => ?_)
  have hloop5 : ∀ (fuel5 : Nat) (j : Nat), (a + j ≤ b) → (b - a - j) < fuel5 → ∀ (ls : Array Slot), lv_has ls 6 [(0, .ref h), (1, .int (nI a)), (2, .int (nI b)), (3, .long (lN (z_sm w a j))), (5, .int (nI (a + j)))] → W p l e { frames := 1, cells := 0, slots := 0, locals := 21 } s m [.ref h, .int (nI a), .int (nI b)].toArray below meth c s.heap [] 0 0 (MQ below (vp_Sl (fun r => r = (lN (z_sm w a (b - a))))) [.ref h, .int (nI a), .int (nI b)].toArray s 0 0 (fun _ => False)) (F0 m 5 ls []) := by
    intro fuel5
    induction fuel5 with
    | zero =>
      intro j hi5_0 hfu5
      exact absurd hfu5 (Nat.not_lt_zero _)
    | succ fuel5 ih5 =>
      intro j hi5_0 hfu5 ls hl
      refine lv_iload hx hb dX1_all_5 (lv_at hl 4 rfl) ?_
      refine lv_iload_n hx hb dX1_all_7 rfl (lv_at hl 2 rfl) ?_
      refine z_icmp_ge hx hb (by omega) (by omega) dX1_all_8 (tgt := 29) (by decide) (fun c_1 => ?_) (fun c_1 => ?_)
      · refine lv_lload_n hx hb dX1_all_29 rfl (lv_at hl 3 rfl) ?_
        exact z_rSl hx hb hr hlk dX1_all_30 (by rw [show b - a = j by omega])
      · refine lv_lload_n hx hb dX1_all_11 rfl (lv_at hl 3 rfl) ?_
        refine lv_aload_n hx hb dX1_all_12 rfl (lv_at hl 0 rfl) ?_
        refine va_get (D := G) (ci := 2) (v := .ref hw) (C := RX1) (T := TX1) (N := 3) hx hb hts in_X1_all_X1 hown hK hP 0 rfl rfl 0 (by decide) (hts _ (List.mem_of_getElem? (i := 1) (by decide +kernel))) (fun _ h9 => h9) rfl dX1_all_13 ?_
        refine lv_iload hx hb dX1_all_16 (lv_at hl 4 rfl) ?_
        refine vp_callSl (va_runV (As := [.int (nI (a + j))]) (rest := [.long (lN (z_sm w a j))]) ⟨hx, hb, hml, hown, hts⟩ (c_X5_getN l G cy hw aw n w (a + j) (by omega) (by omega)) (cwV 1 hts gX1_all_X5_get rfl rfl rfl (by decide +kernel) ⟨Nat.le_of_ble_eq_true rfl, Nat.le_of_ble_eq_true rfl⟩) (z_pV hK hP [1, 2] rfl (ci := 6) (q0 := 0) rfl rfl rfl) rfl rfl hl.1 rfl (lv_room (Nat.le_of_ble_eq_true rfl)) dX1_all_18 ⟨Nat.le_of_ble_eq_true rfl, Nat.le_of_ble_eq_true rfl⟩).run (fun r_2 hr_2 => ?_)
        obtain rfl : r_2 = (lN (w (a + j))) := hr_2
        refine z_ladd hx hb dX1_all_21 ?_
        refine lv_lstore_n (lv' := [(3, .long (lN ((z_sm w a j) + (w (a + j))))), (0, .ref h), (1, .int (nI a)), (2, .int (nI b)), (5, .int (nI (a + j)))]) hx hb dX1_all_22 rfl hl (by decide) rfl (fun ls hl => ?_)
        refine lv_iinc (v := (nI (a + j + 1))) (lv' := [(5, .int (nI (a + j + 1))), (3, .long (lN ((z_sm w a j) + (w (a + j))))), (0, .ref h), (1, .int (nI a)), (2, .int (nI b))]) hx hb dX1_all_23 hl (k := 4) rfl (nI_add _ _) (by decide) rfl (fun ls hl => ?_)
        refine lv_goto (tgt := 5) hx hb dX1_all_26 (by decide) ?_
        exact ih5 (j + 1) (by omega) (by omega) _ (lv_sub hl [2, 3, 4, 1, 0] rfl)
  exact hloop5 (b - a - 0 + 1) 0 (by omega) (by omega) _ (lv_sub hl [2, 3, 4, 1, 0] rfl)
theorem in_X1_greatestRestBelow_X1 : ∀ w ∈ u_ws RX1 TX1 3, w ∈ wsX1_greatestRestBelow := fun _ h => (List.mem_cons_of_mem _ (List.mem_append_left _ (List.mem_append_right _ h)))
set_option maxHeartbeats 4000000 in
set_option maxRecDepth 100000 in
theorem c_X1_greatestRestBelow (l : Launch) (G : va_G) (cy : Nat → ClassId) (h hw hp hq aq n : Nat) (q : Nat → Nat) (B a b : Nat) (hn : n < 2 ^ 31) (hab : a ≤ b) (hbn : b ≤ n) (hB : B < 2 ^ 62) (hq9 : ∀ i, a + i < b → q (a + i) < 2 ^ 62) : Met l yX1_greatestRestBelow wsX1_greatestRestBelow ({ frames := 1, cells := 0, slots := 0, locals := 21 }) (zS G cy [.ref h, .long (lN B), .int (nI a), .int (nI b)] [zO h 2 [.ref hw, .ref hp, .ref hq], zO hq 6 [.ref aq], zL cy aq n (fun j9 => lN (q j9))]) (vp_Sl (fun r => r = (z_m (z_gr q B a (b - a))))) 0 0 (fun _ => False) := by
  refine z_ofS (cc := cX1_greatestRestBelow) (maxL := 10) (ret := (some .long)) (by decide) rfl (Nat.le_of_ble_eq_true rfl) ?_
  intro p e s m below meth c ls hx hb hml hr hts hown hlk hP hK hl
  have hown : s.vm.findClass RX1 = some m.cls := hown
  have hl : lv_has ls 10 [(0, .ref h), (1, .long (lN B)), (3, .int (nI a)), (4, .int (nI b))] := hl
  refine lv_ldc2 (v := (-1)) hx hb hown (hts _ (List.mem_of_getElem? (i := 1) (by decide +kernel))) dX1_greatestRestBelow_0 ?_
  refine lv_lstore (lv' := [(5, .long (-1)), (0, .ref h), (1, .long (lN B)), (3, .int (nI a)), (4, .int (nI b))]) hx hb dX1_greatestRestBelow_3 hl (by decide) rfl (fun ls hl => ?_)
  refine lv_iload_n hx hb dX1_greatestRestBelow_5 rfl (lv_at hl 3 rfl) ?_
  refine lv_istore (lv' := [(7, .int (nI a)), (5, .long (-1)), (0, .ref h), (1, .long (lN B)), (3, .int (nI a)), (4, .int (nI b))]) hx hb dX1_greatestRestBelow_6 hl (by decide) rfl (fun ls hl => ?_)
  have hloop8 : ∀ (fuel8 : Nat) (j : Nat), (a + j ≤ b) → (b - a - j) < fuel8 → ∀ (ls : Array Slot), lv_has ls 10 [(0, .ref h), (1, .long (lN B)), (3, .int (nI a)), (4, .int (nI b)), (5, .long (z_m (z_gr q B a j))), (7, .int (nI (a + j)))] → W p l e { frames := 1, cells := 0, slots := 0, locals := 21 } s m [.ref h, .long (lN B), .int (nI a), .int (nI b)].toArray below meth c s.heap [] 0 0 (MQ below (vp_Sl (fun r => r = (z_m (z_gr q B a (b - a))))) [.ref h, .long (lN B), .int (nI a), .int (nI b)].toArray s 0 0 (fun _ => False)) (F0 m 8 ls []) := by
    intro fuel8
    induction fuel8 with
    | zero =>
      intro j hi8_0 hfu8
      exact absurd hfu8 (Nat.not_lt_zero _)
    | succ fuel8 ih8 =>
      intro j hi8_0 hfu8 ls hl
      refine lv_iload hx hb dX1_greatestRestBelow_8 (lv_at hl 5 rfl) ?_
      refine lv_iload hx hb dX1_greatestRestBelow_10 (lv_at hl 3 rfl) ?_
      refine z_icmp_ge hx hb (by omega) (by omega) dX1_greatestRestBelow_12 (tgt := 51) (by decide) (fun c_1 => ?_) (fun c_1 => ?_)
      · refine lv_lload hx hb dX1_greatestRestBelow_51 (lv_at hl 4 rfl) ?_
        exact z_rSl hx hb hr hlk dX1_greatestRestBelow_53 (by rw [show b - a = j by omega])
      · refine lv_aload_n hx hb dX1_greatestRestBelow_15 rfl (lv_at hl 0 rfl) ?_
        refine va_get (D := G) (ci := 2) (v := .ref hq) (C := RX1) (T := TX1) (N := 3) hx hb hts in_X1_greatestRestBelow_X1 hown hK hP 0 rfl rfl 2 (by decide) (hts _ (List.mem_of_getElem? (i := 2) (by decide +kernel))) (fun _ h9 => h9) rfl dX1_greatestRestBelow_16 ?_
        refine lv_iload hx hb dX1_greatestRestBelow_19 (lv_at hl 5 rfl) ?_
        refine vp_callSl (va_runV (As := [.int (nI (a + j))]) (rest := []) ⟨hx, hb, hml, hown, hts⟩ (c_X5_getN l G cy hq aq n q (a + j) (by omega) (by omega)) (cwV 1 hts gX1_greatestRestBelow_X5_get rfl rfl rfl (by decide +kernel) ⟨Nat.le_of_ble_eq_true rfl, Nat.le_of_ble_eq_true rfl⟩) (z_pV hK hP [1, 2] rfl (ci := 6) (q0 := 0) rfl rfl rfl) rfl rfl hl.1 rfl (lv_room (Nat.le_of_ble_eq_true rfl)) dX1_greatestRestBelow_21 ⟨Nat.le_of_ble_eq_true rfl, Nat.le_of_ble_eq_true rfl⟩).run (fun r_2 hr_2 => ?_)
        obtain rfl : r_2 = (lN (q (a + j))) := hr_2
        refine lv_lstore (lv' := [(8, .long (lN (q (a + j)))), (0, .ref h), (1, .long (lN B)), (3, .int (nI a)), (4, .int (nI b)), (5, .long (z_m (z_gr q B a j))), (7, .int (nI (a + j)))]) hx hb dX1_greatestRestBelow_24 hl (by decide) rfl (fun ls hl => ?_)
        refine lv_lload hx hb dX1_greatestRestBelow_26 (lv_at hl 0 rfl) ?_
        refine lv_lload_n hx hb dX1_greatestRestBelow_28 rfl (lv_at hl 2 rfl) ?_
        refine z_lcN_ge hx hb (by have := hq9 j (by omega); omega) (by omega) dX1_greatestRestBelow_29 dX1_greatestRestBelow_30 (tgt := 45) (by decide) (fun c_3 => ?_) (fun c_3 => ?_)
        · refine lv_iinc (v := (nI (a + j + 1))) (lv' := [(7, .int (nI (a + j + 1))), (8, .long (lN (q (a + j)))), (0, .ref h), (1, .long (lN B)), (3, .int (nI a)), (4, .int (nI b)), (5, .long (z_m (z_gr q B a j)))]) hx hb dX1_greatestRestBelow_45 hl (k := 6) rfl (nI_add _ _) (by decide) rfl (fun ls hl => ?_)
          refine lv_goto (tgt := 8) hx hb dX1_greatestRestBelow_48 (by decide) ?_
          rw [show z_gr q B a j = z_gr q B a (j + 1) by rw [z_gr, if_neg (by omega)]] at hl
          exact ih8 (j + 1) (by omega) (by omega) _ (lv_sub hl [2, 3, 4, 5, 6, 0] rfl)
        · refine lv_lload hx hb dX1_greatestRestBelow_33 (lv_at hl 0 rfl) ?_
          refine lv_lload hx hb dX1_greatestRestBelow_35 (lv_at hl 5 rfl) ?_
          have hgl : z_gr q B a j < 2 ^ 62 := by
            rcases z_gr_at (q := q) (B := B) (a := a) j with h9 | ⟨i9, h9, h8, h7⟩ <;> omega
          refine z_lc_le hx hb dX1_greatestRestBelow_37 dX1_greatestRestBelow_38 (tgt := 45) (by decide) (fun c_4 => ?_) (fun c_4 => ?_)
          · have c_4 := (z_m_le (by have := hq9 j (by omega); omega) hgl).mp c_4
            refine lv_iinc (v := (nI (a + j + 1))) (lv' := [(7, .int (nI (a + j + 1))), (8, .long (lN (q (a + j)))), (0, .ref h), (1, .long (lN B)), (3, .int (nI a)), (4, .int (nI b)), (5, .long (z_m (z_gr q B a j)))]) hx hb dX1_greatestRestBelow_45 hl (k := 6) rfl (nI_add _ _) (by decide) rfl (fun ls hl => ?_)
            refine lv_goto (tgt := 8) hx hb dX1_greatestRestBelow_48 (by decide) ?_
            rw [show z_gr q B a j = z_gr q B a (j + 1) by rw [z_gr, if_neg (by omega)]] at hl
            exact ih8 (j + 1) (by omega) (by omega) _ (lv_sub hl [2, 3, 4, 5, 6, 0] rfl)
          · have c_4 := mt (z_m_le (by have := hq9 j (by omega); omega) hgl).mpr c_4
            refine lv_lload hx hb dX1_greatestRestBelow_41 (lv_at hl 0 rfl) ?_
            refine lv_lstore (lv' := [(5, .long (lN (q (a + j)))), (8, .long (lN (q (a + j)))), (0, .ref h), (1, .long (lN B)), (3, .int (nI a)), (4, .int (nI b)), (7, .int (nI (a + j)))]) hx hb dX1_greatestRestBelow_43 hl (by decide) rfl (fun ls hl => ?_)
            refine lv_iinc (v := (nI (a + j + 1))) (lv' := [(7, .int (nI (a + j + 1))), (5, .long (lN (q (a + j)))), (8, .long (lN (q (a + j)))), (0, .ref h), (1, .long (lN B)), (3, .int (nI a)), (4, .int (nI b))]) hx hb dX1_greatestRestBelow_45 hl (k := 6) rfl (nI_add _ _) (by decide) rfl (fun ls hl => ?_)
            refine lv_goto (tgt := 8) hx hb dX1_greatestRestBelow_48 (by decide) ?_
            rw [show lN (q (a + j)) = z_m (z_gr q B a (j + 1)) by rw [z_gr, if_pos (by omega), z_m_s]] at hl
            exact ih8 (j + 1) (by omega) (by omega) _ (lv_sub hl [3, 4, 5, 6, 1, 0] rfl)
  rw [show (-1 : Int64) = z_m (z_gr q B a 0) from rfl] at hl
  exact hloop8 (b - a - 0 + 1) 0 (by omega) (by omega) _ (lv_sub hl [2, 3, 4, 5, 1, 0] rfl)
theorem in_X1_giveLeft_X1 : ∀ w ∈ u_ws RX1 TX1 3, w ∈ wsX1_giveLeft := fun _ h => (List.mem_cons_of_mem _ (List.mem_append_left _ (List.mem_append_right _ h)))
set_option maxHeartbeats 4000000 in
set_option maxRecDepth 100000 in
theorem c_X1_giveLeft (l : Launch) (G : va_G) (cy : Nat → ClassId) (sz0 : Nat) (h hw hp hq ap aq n : Nat) (pt q : Nat → Nat) (T B a b : Nat) (hn : n < 2 ^ 31) (hab : a ≤ b) (hbn : b ≤ n) (hB : B < 2 ^ 62) (hq9 : ∀ i, a + i < b → q (a + i) < 2 ^ 62) (hT : T ≤ b - a) (hTB : z_low q T B a b) : Met l yX1_giveLeft wsX1_giveLeft ({ frames := 2, cells := 0, slots := 0, locals := 50 }) (zM G cy [.ref h, .long (lN T), .long (lN B), .int (nI a), .int (nI b)] sz0 [zO h 2 [.ref hw, .ref hp, .ref hq], zO hp 6 [.ref ap], zL cy ap n (fun j9 => lN (pt j9)), zO hq 6 [.ref aq], zL cy aq n (fun j9 => lN (q j9))]) (va_Qv (fun (_ : Unit) => True) (fun (u : Unit) t9 => zB G cy (va_A [zO h 2 [.ref hw, .ref hp, .ref hq], zO hp 6 [.ref ap], zL cy ap n (fun j9 => lN (pt j9)), zO hq 6 [.ref aq], zL cy aq n (fun j9 => lN (q j9))] sz0) [zO h 2 [.ref hw, .ref hp, .ref hq], zO hp 6 [.ref ap], zL cy ap n (fun j9 => lN ((z_pe pt q T a (b - a)) j9)), zO hq 6 [.ref aq], zL cy aq n (fun j9 => lN (q j9))] t9) (va_A [zO h 2 [.ref hw, .ref hp, .ref hq], zO hp 6 [.ref ap], zL cy ap n (fun j9 => lN (pt j9)), zO hq 6 [.ref aq], zL cy aq n (fun j9 => lN (q j9))] sz0)) 0 0 (va_A [zO h 2 [.ref hw, .ref hp, .ref hq], zO hp 6 [.ref ap], zL cy ap n (fun j9 => lN (pt j9)), zO hq 6 [.ref aq], zL cy aq n (fun j9 => lN (q j9))] sz0) := by
  refine z_ofM (cc := cX1_giveLeft) (maxL := 13) (ret := none) (Qc := (fun A => va_Qv (fun (_ : Unit) => True) (fun (u : Unit) t9 => zB G cy A [zO h 2 [.ref hw, .ref hp, .ref hq], zO hp 6 [.ref ap], zL cy ap n (fun j9 => lN ((z_pe pt q T a (b - a)) j9)), zO hq 6 [.ref aq], zL cy aq n (fun j9 => lN (q j9))] t9) A)) (by decide) rfl (Nat.le_of_ble_eq_true rfl) ?_
  intro p e s m below meth c ls A hx hb hml hr hts hown hlk hin hP hK hD hA hS hl hsz0
  have hown : s.vm.findClass RX1 = some m.cls := hown
  have hl : lv_has ls 13 [(0, .ref h), (1, .long (lN T)), (3, .long (lN B)), (5, .int (nI a)), (6, .int (nI b))] := hl
  refine lv_lload_n hx hb dX1_giveLeft_0 rfl (lv_at hl 1 rfl) ?_
  refine lv_lstore (lv' := [(7, .long (lN T)), (0, .ref h), (1, .long (lN T)), (3, .long (lN B)), (5, .int (nI a)), (6, .int (nI b))]) hx hb dX1_giveLeft_1 hl (by decide) rfl (fun ls hl => ?_)
  refine lv_aload_n hx hb dX1_giveLeft_3 rfl (lv_at hl 1 rfl) ?_
  refine lv_lload_n hx hb dX1_giveLeft_4 rfl (lv_at hl 3 rfl) ?_
  refine lv_iload hx hb dX1_giveLeft_5 (lv_at hl 4 rfl) ?_
  refine lv_iload hx hb dX1_giveLeft_7 (lv_at hl 5 rfl) ?_
  refine vp_callSl (va_runV (As := [.long (lN B), .int (nI a), .int (nI b)]) (rest := []) ⟨hx, hb, hml, hown, hts⟩ (c_X1_greatestRestBelow l G cy h hw hp hq aq n q B a b (by omega) (by omega) (by omega) (by omega) (hq9)) (cwV 3 hts gX1_giveLeft_X1_greatestRestBelow rfl rfl rfl (by decide +kernel) ⟨Nat.le_of_ble_eq_true rfl, Nat.le_of_ble_eq_true rfl⟩) (z_pV hK hP [0, 3, 4] rfl (ci := 2) (q0 := 0) rfl rfl rfl) rfl rfl hl.1 rfl (lv_room (Nat.le_of_ble_eq_true rfl)) dX1_giveLeft_9 ⟨Nat.le_of_ble_eq_true rfl, Nat.le_of_ble_eq_true rfl⟩).run (fun r_1 hr_1 => ?_)
  obtain rfl : r_1 = (z_m (z_gr q B a (b - a))) := hr_1
  refine lv_lstore (lv' := [(9, .long (z_m (z_gr q B a (b - a)))), (7, .long (lN T)), (0, .ref h), (1, .long (lN T)), (3, .long (lN B)), (5, .int (nI a)), (6, .int (nI b))]) hx hb dX1_giveLeft_12 hl (by decide) rfl (fun ls hl => ?_)
  refine lv_iload hx hb dX1_giveLeft_14 (lv_at hl 5 rfl) ?_
  refine lv_istore (lv' := [(11, .int (nI a)), (9, .long (z_m (z_gr q B a (b - a)))), (7, .long (lN T)), (0, .ref h), (1, .long (lN T)), (3, .long (lN B)), (5, .int (nI a)), (6, .int (nI b))]) hx hb dX1_giveLeft_16 hl (by decide) rfl (fun ls hl => ?_)
  have hloop18 : ∀ (fuel18 : Nat) (j : Nat) (G9 : Nat) (o : Nat) (pp : Nat → Nat), (a + j ≤ b) → (z_att q a b G9) → (o = T - z_cg q G9 a (b - a)) → (pp = z_p1 pt q T a (b - a) G9) → (j ≤ z_cg q G9 a (b - a)) → (b - a - j) < fuel18 → ∀ (H : Heap) (locs : List Loc), va_P G vwCl [zO h 2 [.ref hw, .ref hp, .ref hq], zO hp 6 [.ref ap], zL cy ap n (fun j9 => lN (pp j9)), zO hq 6 [.ref aq], zL cy aq n (fun j9 => lN (q j9))] H → va_D A [zO h 2 [.ref hw, .ref hp, .ref hq], zO hp 6 [.ref ap], zL cy ap n (fun j9 => lN (pp j9)), zO hq 6 [.ref aq], zL cy aq n (fun j9 => lN (q j9))] → va_S A s.heap H locs → ∀ (ls : Array Slot), lv_has ls 13 [(0, .ref h), (1, .long (lN T)), (3, .long (lN B)), (5, .int (nI a)), (6, .int (nI b)), (7, .long (lN o)), (9, .long (z_m G9)), (11, .int (nI (a + j)))] → W p l e { frames := 2, cells := 0, slots := 0, locals := 50 } s m [.ref h, .long (lN T), .long (lN B), .int (nI a), .int (nI b)].toArray below meth c H locs 0 0 (MQ below (va_Qv (fun (_ : Unit) => True) (fun (u : Unit) t9 => zB G cy A [zO h 2 [.ref hw, .ref hp, .ref hq], zO hp 6 [.ref ap], zL cy ap n (fun j9 => lN ((z_pe pt q T a (b - a)) j9)), zO hq 6 [.ref aq], zL cy aq n (fun j9 => lN (q j9))] t9) A) [.ref h, .long (lN T), .long (lN B), .int (nI a), .int (nI b)].toArray s 0 0 A) (F0 m 18 ls []) := by
    intro fuel18
    induction fuel18 with
    | zero =>
      intro j G9 o pp hi18_0 hi18_1 hi18_2 hi18_3 hi18_4 hfu18
      exact absurd hfu18 (Nat.not_lt_zero _)
    | succ fuel18 ih18 =>
      intro j G9 o pp hi18_0 hi18_1 hi18_2 hi18_3 hi18_4 hfu18 H locs hP hD hS ls hl
      refine lv_iload hx hb dX1_giveLeft_18 (lv_at hl 7 rfl) ?_
      refine lv_iload hx hb dX1_giveLeft_20 (lv_at hl 4 rfl) ?_
      refine z_icmp_ge hx hb (by omega) (by omega) dX1_giveLeft_22 (tgt := 105) (by decide) (fun c_2 => ?_) (fun c_2 => ?_)
      · have hT9 : T ≤ z_cg q G9 a (b - a) := by omega
        rw [hi18_3, z_p1_end hT9] at hP hD
        exact z_rMv hx hb hr hlk dX1_giveLeft_105 () (trivial) hP hD hK hS (Nat.le_of_ble_eq_true rfl) (Nat.le_of_ble_eq_true rfl)
      · refine lv_lload hx hb dX1_giveLeft_25 (lv_at hl 5 rfl) ?_
        refine lv_lconst (v := lN 0) hx hb dX1_giveLeft_27 rfl ?_
        refine z_lcN_le hx hb (by omega) (by omega) dX1_giveLeft_28 dX1_giveLeft_29 (tgt := 105) (by decide) (fun c_3 => ?_) (fun c_3 => ?_)
        · have hT9 : T ≤ z_cg q G9 a (b - a) := by omega
          rw [hi18_3, z_p1_end hT9] at hP hD
          exact z_rMv hx hb hr hlk dX1_giveLeft_105 () (trivial) hP hD hK hS (Nat.le_of_ble_eq_true rfl) (Nat.le_of_ble_eq_true rfl)
        · have hg0 : G9 ≠ 0 := by
            intro h9
            rw [h9, z_cg_0] at hi18_2
            omega
          obtain ⟨v, rfl⟩ : ∃ v, G9 = v + 1 := ⟨G9 - 1, by omega⟩
          obtain ⟨i8, hi8, hv8⟩ := hi18_1.resolve_left hg0
          have hv62 : v < 2 ^ 62 := by have := hq9 i8 hi8; omega
          rw [z_m_s] at hl
          refine lv_iload hx hb dX1_giveLeft_32 (lv_at hl 3 rfl) ?_
          refine lv_istore (lv' := [(12, .int (nI a)), (0, .ref h), (1, .long (lN T)), (3, .long (lN B)), (5, .int (nI a)), (6, .int (nI b)), (7, .long (lN o)), (9, .long (lN v)), (11, .int (nI (a + j)))]) hx hb dX1_giveLeft_34 hl (by decide) rfl (fun ls hl => ?_)
          have hloop36 : ∀ (fuel36 : Nat) (k : Nat) (o2 : Nat) (p2 : Nat → Nat), (a + k ≤ b) → (o2 = T - z_ct q v (a + k) a (b - a)) → (p2 = z_p2 pt q T a (b - a) v (a + k)) → (b - a - k) < fuel36 → ∀ (H : Heap) (locs : List Loc), va_P G vwCl [zO h 2 [.ref hw, .ref hp, .ref hq], zO hp 6 [.ref ap], zL cy ap n (fun j9 => lN (p2 j9)), zO hq 6 [.ref aq], zL cy aq n (fun j9 => lN (q j9))] H → va_D A [zO h 2 [.ref hw, .ref hp, .ref hq], zO hp 6 [.ref ap], zL cy ap n (fun j9 => lN (p2 j9)), zO hq 6 [.ref aq], zL cy aq n (fun j9 => lN (q j9))] → va_S A s.heap H locs → ∀ (ls : Array Slot), lv_has ls 13 [(0, .ref h), (1, .long (lN T)), (3, .long (lN B)), (5, .int (nI a)), (6, .int (nI b)), (7, .long (lN o2)), (9, .long (lN v)), (11, .int (nI (a + j))), (12, .int (nI (a + k)))] → W p l e { frames := 2, cells := 0, slots := 0, locals := 50 } s m [.ref h, .long (lN T), .long (lN B), .int (nI a), .int (nI b)].toArray below meth c H locs 0 0 (MQ below (va_Qv (fun (_ : Unit) => True) (fun (u : Unit) t9 => zB G cy A [zO h 2 [.ref hw, .ref hp, .ref hq], zO hp 6 [.ref ap], zL cy ap n (fun j9 => lN ((z_pe pt q T a (b - a)) j9)), zO hq 6 [.ref aq], zL cy aq n (fun j9 => lN (q j9))] t9) A) [.ref h, .long (lN T), .long (lN B), .int (nI a), .int (nI b)].toArray s 0 0 A) (F0 m 36 ls []) := by
            intro fuel36
            induction fuel36 with
            | zero =>
              intro k o2 p2 hi36_0 hi36_1 hi36_2 hfu36
              exact absurd hfu36 (Nat.not_lt_zero _)
            | succ fuel36 ih36 =>
              intro k o2 p2 hi36_0 hi36_1 hi36_2 hfu36 H locs hP hD hS ls hl
              refine lv_iload hx hb dX1_giveLeft_36 (lv_at hl 8 rfl) ?_
              refine lv_iload hx hb dX1_giveLeft_38 (lv_at hl 4 rfl) ?_
              refine z_icmp_ge hx hb (by omega) (by omega) dX1_giveLeft_40 (tgt := 87) (by decide) (fun c_4 => ?_) (fun c_4 => ?_)
              · have hk9 : k = (b - a) ∨ T ≤ z_ct q v (a + k) a (b - a) := by omega
                have hc9 := z_ct_cg (q := q) (v := v) (a := a) (n := (b - a)) (k := k) (by omega)
                have he1 : o2 = T - z_cg q v a (b - a) := by
                  rcases hk9 with h9 | h9
                  · rw [hi36_1, h9, z_ct_n]
                  · omega
                have he2 : p2 = z_p1 pt q T a (b - a) v := by rw [hi36_2]; exact z_p2_n hk9
                have he3 : j + 1 ≤ z_cg q v a (b - a) := by
                  have := z_cg_s (q := q) (v := v) (a := a) (n := (b - a)) (i := i8) (by omega) (by omega)
                  omega
                refine lv_aload_n hx hb dX1_giveLeft_87 rfl (lv_at hl 0 rfl) ?_
                refine lv_lload hx hb dX1_giveLeft_88 (lv_at hl 6 rfl) ?_
                refine lv_iload hx hb dX1_giveLeft_90 (lv_at hl 3 rfl) ?_
                refine lv_iload hx hb dX1_giveLeft_92 (lv_at hl 4 rfl) ?_
                refine vp_callSl (va_runV (As := [.long (lN v), .int (nI a), .int (nI b)]) (rest := []) ⟨hx, hb, hml, hown, hts⟩ (c_X1_greatestRestBelow l G cy h hw hp hq aq n q v a b (by omega) (by omega) (by omega) (by omega) (hq9)) (cwV 3 hts gX1_giveLeft_X1_greatestRestBelow rfl rfl rfl (by decide +kernel) ⟨Nat.le_of_ble_eq_true rfl, Nat.le_of_ble_eq_true rfl⟩) (z_pV hK hP [0, 3, 4] rfl (ci := 2) (q0 := 0) rfl rfl rfl) rfl rfl hl.1 rfl (lv_room (Nat.le_of_ble_eq_true rfl)) dX1_giveLeft_94 ⟨Nat.le_of_ble_eq_true rfl, Nat.le_of_ble_eq_true rfl⟩).run (fun r_5 hr_5 => ?_)
                obtain rfl : r_5 = (z_m (z_gr q v a (b - a))) := hr_5
                refine lv_lstore (lv' := [(9, .long (z_m (z_gr q v a (b - a)))), (0, .ref h), (1, .long (lN T)), (3, .long (lN B)), (5, .int (nI a)), (6, .int (nI b)), (7, .long (lN o2)), (11, .int (nI (a + j))), (12, .int (nI (a + k)))]) hx hb dX1_giveLeft_97 hl (by decide) rfl (fun ls hl => ?_)
                refine lv_iinc (v := (nI (a + j + 1))) (lv' := [(11, .int (nI (a + j + 1))), (9, .long (z_m (z_gr q v a (b - a)))), (0, .ref h), (1, .long (lN T)), (3, .long (lN B)), (5, .int (nI a)), (6, .int (nI b)), (7, .long (lN o2)), (12, .int (nI (a + k)))]) hx hb dX1_giveLeft_99 hl (k := 7) rfl (nI_add _ _) (by decide) rfl (fun ls hl => ?_)
                refine lv_goto (tgt := 18) hx hb dX1_giveLeft_102 (by decide) ?_
                exact ih18 (j + 1) (z_gr q v a (b - a)) o2 p2 (by omega) (z_att_gr) (by rw [z_cg_gr]; exact he1) (by rw [z_p1_gr]; exact he2) (by rw [z_cg_gr]; exact he3) (by omega) _ _ hP hD hS _ (lv_sub hl [2, 3, 4, 5, 6, 7, 1, 0] rfl)
              · refine lv_lload hx hb dX1_giveLeft_43 (lv_at hl 5 rfl) ?_
                refine lv_lconst (v := lN 0) hx hb dX1_giveLeft_45 rfl ?_
                refine z_lcN_le hx hb (by omega) (by omega) dX1_giveLeft_46 dX1_giveLeft_47 (tgt := 87) (by decide) (fun c_6 => ?_) (fun c_6 => ?_)
                · have hk9 : k = (b - a) ∨ T ≤ z_ct q v (a + k) a (b - a) := by omega
                  have hc9 := z_ct_cg (q := q) (v := v) (a := a) (n := (b - a)) (k := k) (by omega)
                  have he1 : o2 = T - z_cg q v a (b - a) := by
                    rcases hk9 with h9 | h9
                    · rw [hi36_1, h9, z_ct_n]
                    · omega
                  have he2 : p2 = z_p1 pt q T a (b - a) v := by rw [hi36_2]; exact z_p2_n hk9
                  have he3 : j + 1 ≤ z_cg q v a (b - a) := by
                    have := z_cg_s (q := q) (v := v) (a := a) (n := (b - a)) (i := i8) (by omega) (by omega)
                    omega
                  refine lv_aload_n hx hb dX1_giveLeft_87 rfl (lv_at hl 0 rfl) ?_
                  refine lv_lload hx hb dX1_giveLeft_88 (lv_at hl 6 rfl) ?_
                  refine lv_iload hx hb dX1_giveLeft_90 (lv_at hl 3 rfl) ?_
                  refine lv_iload hx hb dX1_giveLeft_92 (lv_at hl 4 rfl) ?_
                  refine vp_callSl (va_runV (As := [.long (lN v), .int (nI a), .int (nI b)]) (rest := []) ⟨hx, hb, hml, hown, hts⟩ (c_X1_greatestRestBelow l G cy h hw hp hq aq n q v a b (by omega) (by omega) (by omega) (by omega) (hq9)) (cwV 3 hts gX1_giveLeft_X1_greatestRestBelow rfl rfl rfl (by decide +kernel) ⟨Nat.le_of_ble_eq_true rfl, Nat.le_of_ble_eq_true rfl⟩) (z_pV hK hP [0, 3, 4] rfl (ci := 2) (q0 := 0) rfl rfl rfl) rfl rfl hl.1 rfl (lv_room (Nat.le_of_ble_eq_true rfl)) dX1_giveLeft_94 ⟨Nat.le_of_ble_eq_true rfl, Nat.le_of_ble_eq_true rfl⟩).run (fun r_7 hr_7 => ?_)
                  obtain rfl : r_7 = (z_m (z_gr q v a (b - a))) := hr_7
                  refine lv_lstore (lv' := [(9, .long (z_m (z_gr q v a (b - a)))), (0, .ref h), (1, .long (lN T)), (3, .long (lN B)), (5, .int (nI a)), (6, .int (nI b)), (7, .long (lN o2)), (11, .int (nI (a + j))), (12, .int (nI (a + k)))]) hx hb dX1_giveLeft_97 hl (by decide) rfl (fun ls hl => ?_)
                  refine lv_iinc (v := (nI (a + j + 1))) (lv' := [(11, .int (nI (a + j + 1))), (9, .long (z_m (z_gr q v a (b - a)))), (0, .ref h), (1, .long (lN T)), (3, .long (lN B)), (5, .int (nI a)), (6, .int (nI b)), (7, .long (lN o2)), (12, .int (nI (a + k)))]) hx hb dX1_giveLeft_99 hl (k := 7) rfl (nI_add _ _) (by decide) rfl (fun ls hl => ?_)
                  refine lv_goto (tgt := 18) hx hb dX1_giveLeft_102 (by decide) ?_
                  exact ih18 (j + 1) (z_gr q v a (b - a)) o2 p2 (by omega) (z_att_gr) (by rw [z_cg_gr]; exact he1) (by rw [z_p1_gr]; exact he2) (by rw [z_cg_gr]; exact he3) (by omega) _ _ hP hD hS _ (lv_sub hl [2, 3, 4, 5, 6, 7, 1, 0] rfl)
                · refine lv_aload_n hx hb dX1_giveLeft_50 rfl (lv_at hl 0 rfl) ?_
                  refine va_get (D := G) (ci := 2) (v := .ref hq) (C := RX1) (T := TX1) (N := 3) hx hb hts in_X1_giveLeft_X1 hown hK hP 0 rfl rfl 2 (by decide) (hts _ (List.mem_of_getElem? (i := 1) (by decide +kernel))) (fun _ h9 => h9) rfl dX1_giveLeft_51 ?_
                  refine lv_iload hx hb dX1_giveLeft_54 (lv_at hl 8 rfl) ?_
                  refine vp_callSl (va_runV (As := [.int (nI (a + k))]) (rest := []) ⟨hx, hb, hml, hown, hts⟩ (c_X5_getN l G cy hq aq n q (a + k) (by omega) (by omega)) (cwV 1 hts gX1_giveLeft_X5_get rfl rfl rfl (by decide +kernel) ⟨Nat.le_of_ble_eq_true rfl, Nat.le_of_ble_eq_true rfl⟩) (z_pV hK hP [3, 4] rfl (ci := 6) (q0 := 0) rfl rfl rfl) rfl rfl hl.1 rfl (lv_room (Nat.le_of_ble_eq_true rfl)) dX1_giveLeft_56 ⟨Nat.le_of_ble_eq_true rfl, Nat.le_of_ble_eq_true rfl⟩).run (fun r_8 hr_8 => ?_)
                  obtain rfl : r_8 = (lN (q (a + k))) := hr_8
                  refine lv_lload hx hb dX1_giveLeft_59 (lv_at hl 6 rfl) ?_
                  refine z_lcN_ne hx hb (by have := hq9 k (by omega); omega) (by omega) dX1_giveLeft_61 dX1_giveLeft_62 (tgt := 81) (by decide) (fun c_9 => ?_) (fun c_9 => ?_)
                  · refine lv_iinc (v := (nI (a + k + 1))) (lv' := [(12, .int (nI (a + k + 1))), (0, .ref h), (1, .long (lN T)), (3, .long (lN B)), (5, .int (nI a)), (6, .int (nI b)), (7, .long (lN o2)), (9, .long (lN v)), (11, .int (nI (a + j)))]) hx hb dX1_giveLeft_81 hl (k := 8) rfl (nI_add _ _) (by decide) rfl (fun ls hl => ?_)
                    refine lv_goto (tgt := 36) hx hb dX1_giveLeft_84 (by decide) ?_
                    exact ih36 (k + 1) o2 p2 (by omega) (by rw [z_ct_s (by omega), if_neg c_9]; omega) (by rw [hi36_2]; exact z_p2_no c_9) (by omega) _ _ hP hD hS _ (lv_sub hl [1, 2, 3, 4, 5, 6, 7, 8, 0] rfl)
                  · refine lv_aload_n hx hb dX1_giveLeft_65 rfl (lv_at hl 0 rfl) ?_
                    refine va_get (D := G) (ci := 2) (v := .ref hp) (C := RX1) (T := TX1) (N := 3) hx hb hts in_X1_giveLeft_X1 hown hK hP 0 rfl rfl 1 (by decide) (hts _ (List.mem_of_getElem? (i := 2) (by decide +kernel))) (fun _ h9 => h9) rfl dX1_giveLeft_66 ?_
                    refine lv_iload hx hb dX1_giveLeft_69 (lv_at hl 8 rfl) ?_
                    refine lv_lconst (v := lN 1) hx hb dX1_giveLeft_71 rfl ?_
                    refine z_cv (wc := [zO hp 6 [.ref ap], zL cy ap n (fun j9 => lN (p2 j9))]) (va_runV (As := [.int (nI (a + k)), .long (lN 1)]) (rest := []) ⟨hx, hb, hml, hown, hts⟩ (c_X5_addN l G cy _ hp ap n p2 (a + k) 1 (by omega) (by omega)) (cwV 2 hts gX1_giveLeft_X5_add rfl rfl rfl (by decide +kernel) ⟨Nat.le_of_ble_eq_true rfl, Nat.le_of_ble_eq_true rfl⟩) (z_pVM hK hP hD [1, 2] rfl (by decide) (ci := 6) (q0 := 0) rfl rfl rfl) rfl rfl hl.1 rfl (lv_room (Nat.le_of_ble_eq_true rfl)) dX1_giveLeft_72 ⟨Nat.le_of_ble_eq_true rfl, Nat.le_of_ble_eq_true rfl⟩) hP hD hS hA [1, 2] [0, 3, 4] [0, 3, 4, 1, 2] [zO h 2 [.ref hw, .ref hp, .ref hq], zO hq 6 [.ref aq], zL cy aq n (fun j9 => lN (q j9))] (fun _ => [zO h 2 [.ref hw, .ref hp, .ref hq], zO hp 6 [.ref ap], zL cy ap n (fun j9 => lN ((va_up p2 (a + k) (p2 (a + k) + 1)) j9)), zO hq 6 [.ref aq], zL cy aq n (fun j9 => lN (q j9))]) rfl rfl (by decide) (fun _ => rfl) (fun u H locs hr_10 hQ hD hS hz => ?_)
                    have hP : va_P G vwCl [zO h 2 [.ref hw, .ref hp, .ref hq], zO hp 6 [.ref ap], zL cy ap n (fun j9 => lN ((va_up p2 (a + k) (p2 (a + k) + 1)) j9)), zO hq 6 [.ref aq], zL cy aq n (fun j9 => lN (q j9))] H := hQ
                    have hD : va_D A [zO h 2 [.ref hw, .ref hp, .ref hq], zO hp 6 [.ref ap], zL cy ap n (fun j9 => lN ((va_up p2 (a + k) (p2 (a + k) + 1)) j9)), zO hq 6 [.ref aq], zL cy aq n (fun j9 => lN (q j9))] := hD
                    clear hQ
                    refine lv_lload hx hb dX1_giveLeft_75 (lv_at hl 5 rfl) ?_
                    refine lv_lconst (v := lN 1) hx hb dX1_giveLeft_77 rfl ?_
                    refine z_lsub hx hb (by omega) dX1_giveLeft_78 ?_
                    refine lv_lstore (lv' := [(7, .long (lN (o2 - 1))), (0, .ref h), (1, .long (lN T)), (3, .long (lN B)), (5, .int (nI a)), (6, .int (nI b)), (9, .long (lN v)), (11, .int (nI (a + j))), (12, .int (nI (a + k)))]) hx hb dX1_giveLeft_79 hl (by decide) rfl (fun ls hl => ?_)
                    refine lv_iinc (v := (nI (a + k + 1))) (lv' := [(12, .int (nI (a + k + 1))), (7, .long (lN (o2 - 1))), (0, .ref h), (1, .long (lN T)), (3, .long (lN B)), (5, .int (nI a)), (6, .int (nI b)), (9, .long (lN v)), (11, .int (nI (a + j)))]) hx hb dX1_giveLeft_81 hl (k := 8) rfl (nI_add _ _) (by decide) rfl (fun ls hl => ?_)
                    refine lv_goto (tgt := 36) hx hb dX1_giveLeft_84 (by decide) ?_
                    exact ih36 (k + 1) (o2 - 1) (va_up p2 (a + k) (p2 (a + k) + 1)) (by omega) (by rw [z_ct_s (by omega), if_pos c_9]; omega) (by rw [hi36_2]; exact z_p2_up (by omega) c_9 (by omega)) (by omega) _ _ hP hD hS _ (lv_sub hl [2, 3, 4, 5, 6, 1, 7, 8, 0] rfl)
          exact hloop36 (b - a - 0 + 1) 0 o pp (by omega) (by rw [hi18_2]; exact congrArg (T - ·) z_ct_a.symm) (by rw [hi18_3, z_p2_0]) (by omega) _ _ hP hD hS _ (lv_sub hl [1, 2, 3, 4, 5, 6, 7, 8, 0] rfl)
  have hT0 := z_low_gr hTB
  exact hloop18 (b - a - 0 + 1) 0 (z_gr q B a (b - a)) T pt (by omega) (z_att_gr) (by omega) ((z_p1_start hT0).symm) (by omega) (by omega) _ _ hP hD hS _ (lv_sub hl [3, 4, 5, 6, 7, 2, 1, 0] rfl)
theorem in_X1_divide_X1 : ∀ w ∈ u_ws RX1 TX1 3, w ∈ wsX1_divide := fun _ h => (List.mem_cons_of_mem _ (List.mem_append_left _ (List.mem_append_right _ h)))
set_option maxHeartbeats 4000000 in
set_option maxRecDepth 100000 in
theorem c_X1_divide (l : Launch) (G : va_G) (cy : Nat → ClassId) (sz0 : Nat) (h hw hp hq aw ap aq n : Nat) (w pt q : Nat → Nat) (U a b : Nat) (hn : n < 2 ^ 31) (hab : a ≤ b) (hbn : b ≤ n) (hU : U < 2 ^ 62) (hB : z_sm w a (b - a) < 2 ^ 62) (hw9 : ∀ i, a + i < b → w (a + i) < 2 ^ 62) (hU9 : ∀ i, a + i < b → U * w (a + i) < 2 ^ 62) : Met l yX1_divide wsX1_divide ({ frames := 3, cells := 0, slots := 0, locals := 82 }) (zM G cy [.ref h, .long (lN U), .int (nI a), .int (nI b)] sz0 [zO h 2 [.ref hw, .ref hp, .ref hq], zO hw 6 [.ref aw], zL cy aw n (fun j9 => lN (w j9)), zO hp 6 [.ref ap], zL cy ap n (fun j9 => lN (pt j9)), zO hq 6 [.ref aq], zL cy aq n (fun j9 => lN (q j9))]) (va_Qv (fun (_ : Unit) => True) (fun (u : Unit) t9 => zB G cy (va_A [zO h 2 [.ref hw, .ref hp, .ref hq], zO hw 6 [.ref aw], zL cy aw n (fun j9 => lN (w j9)), zO hp 6 [.ref ap], zL cy ap n (fun j9 => lN (pt j9)), zO hq 6 [.ref aq], zL cy aq n (fun j9 => lN (q j9))] sz0) [zO h 2 [.ref hw, .ref hp, .ref hq], zO hw 6 [.ref aw], zL cy aw n (fun j9 => lN (w j9)), zO hp 6 [.ref ap], zL cy ap n (fun j9 => lN ((z_over (z_pt U w a (b - a)) pt a (b - a)) j9)), zO hq 6 [.ref aq], zL cy aq n (fun j9 => lN ((z_over (z_rs U w (z_sm w a (b - a))) q a (b - a)) j9))] t9) (va_A [zO h 2 [.ref hw, .ref hp, .ref hq], zO hw 6 [.ref aw], zL cy aw n (fun j9 => lN (w j9)), zO hp 6 [.ref ap], zL cy ap n (fun j9 => lN (pt j9)), zO hq 6 [.ref aq], zL cy aq n (fun j9 => lN (q j9))] sz0)) 0 0 (va_A [zO h 2 [.ref hw, .ref hp, .ref hq], zO hw 6 [.ref aw], zL cy aw n (fun j9 => lN (w j9)), zO hp 6 [.ref ap], zL cy ap n (fun j9 => lN (pt j9)), zO hq 6 [.ref aq], zL cy aq n (fun j9 => lN (q j9))] sz0) := by
  refine z_ofM (cc := cX1_divide) (maxL := 14) (ret := none) (Qc := (fun A => va_Qv (fun (_ : Unit) => True) (fun (u : Unit) t9 => zB G cy A [zO h 2 [.ref hw, .ref hp, .ref hq], zO hw 6 [.ref aw], zL cy aw n (fun j9 => lN (w j9)), zO hp 6 [.ref ap], zL cy ap n (fun j9 => lN ((z_over (z_pt U w a (b - a)) pt a (b - a)) j9)), zO hq 6 [.ref aq], zL cy aq n (fun j9 => lN ((z_over (z_rs U w (z_sm w a (b - a))) q a (b - a)) j9))] t9) A)) (by decide) rfl (Nat.le_of_ble_eq_true rfl) ?_
  intro p e s m below meth c ls A hx hb hml hr hts hown hlk hin hP hK hD hA hS hl hsz0
  have hown : s.vm.findClass RX1 = some m.cls := hown
  have hl : lv_has ls 14 [(0, .ref h), (1, .long (lN U)), (3, .int (nI a)), (4, .int (nI b))] := hl
  refine lv_aload_n hx hb dX1_divide_0 rfl (lv_at hl 0 rfl) ?_
  refine lv_iload_n hx hb dX1_divide_1 rfl (lv_at hl 2 rfl) ?_
  refine lv_iload hx hb dX1_divide_2 (lv_at hl 3 rfl) ?_
  refine vp_callSl (va_runV (As := [.int (nI a), .int (nI b)]) (rest := []) ⟨hx, hb, hml, hown, hts⟩ (c_X1_all l G cy h hw hp hq aw n w a b (by omega) (by omega) (by omega)) (cwV 2 hts gX1_divide_X1_all rfl rfl rfl (by decide +kernel) ⟨Nat.le_of_ble_eq_true rfl, Nat.le_of_ble_eq_true rfl⟩) (z_pV hK hP [0, 1, 2] rfl (ci := 2) (q0 := 0) rfl rfl rfl) rfl rfl hl.1 rfl (lv_room (Nat.le_of_ble_eq_true rfl)) dX1_divide_4 ⟨Nat.le_of_ble_eq_true rfl, Nat.le_of_ble_eq_true rfl⟩).run (fun r_1 hr_1 => ?_)
  obtain rfl : r_1 = (lN (z_sm w a (b - a))) := hr_1
  refine lv_lstore (lv' := [(5, .long (lN (z_sm w a (b - a)))), (0, .ref h), (1, .long (lN U)), (3, .int (nI a)), (4, .int (nI b))]) hx hb dX1_divide_7 hl (by decide) rfl (fun ls hl => ?_)
  refine lv_lload hx hb dX1_divide_9 (lv_at hl 0 rfl) ?_
  refine lv_lconst (v := lN 0) hx hb dX1_divide_11 rfl ?_
  refine z_lcN_le hx hb (by omega) (by omega) dX1_divide_12 dX1_divide_13 (tgt := 20) (by decide) (fun c_2 => ?_) (fun c_2 => ?_)
  · refine lv_lconst (v := lN 0) hx hb dX1_divide_20 rfl ?_
    refine lv_lstore (lv' := [(7, .long (lN 0)), (5, .long (lN (z_sm w a (b - a)))), (0, .ref h), (1, .long (lN U)), (3, .int (nI a)), (4, .int (nI b))]) hx hb dX1_divide_21 hl (by decide) rfl (fun ls hl => ?_)
    refine lv_iload_n hx hb dX1_divide_23 rfl (lv_at hl 4 rfl) ?_
    refine lv_istore (lv' := [(9, .int (nI a)), (7, .long (lN 0)), (5, .long (lN (z_sm w a (b - a)))), (0, .ref h), (1, .long (lN U)), (3, .int (nI a)), (4, .int (nI b))]) hx hb dX1_divide_24 hl (by decide) rfl (fun ls hl => ?_)
    have hloop26 : ∀ (fuel26 : Nat) (j : Nat) (o : Nat) (pp : Nat → Nat) (qq : Nat → Nat), (a + j ≤ b) → (o = 0) → (pp = z_over (z_fl U w (z_sm w a (b - a))) pt a j) → (qq = z_over (z_rs U w (z_sm w a (b - a))) q a j) → (b - a - j) < fuel26 → ∀ (H : Heap) (locs : List Loc), va_P G vwCl [zO h 2 [.ref hw, .ref hp, .ref hq], zO hw 6 [.ref aw], zL cy aw n (fun j9 => lN (w j9)), zO hp 6 [.ref ap], zL cy ap n (fun j9 => lN (pp j9)), zO hq 6 [.ref aq], zL cy aq n (fun j9 => lN (qq j9))] H → va_D A [zO h 2 [.ref hw, .ref hp, .ref hq], zO hw 6 [.ref aw], zL cy aw n (fun j9 => lN (w j9)), zO hp 6 [.ref ap], zL cy ap n (fun j9 => lN (pp j9)), zO hq 6 [.ref aq], zL cy aq n (fun j9 => lN (qq j9))] → va_S A s.heap H locs → ∀ (ls : Array Slot), lv_has ls 14 [(0, .ref h), (1, .long (lN U)), (3, .int (nI a)), (4, .int (nI b)), (5, .long (lN (z_sm w a (b - a)))), (7, .long (lN o)), (9, .int (nI (a + j)))] → W p l e { frames := 3, cells := 0, slots := 0, locals := 82 } s m [.ref h, .long (lN U), .int (nI a), .int (nI b)].toArray below meth c H locs 0 0 (MQ below (va_Qv (fun (_ : Unit) => True) (fun (u : Unit) t9 => zB G cy A [zO h 2 [.ref hw, .ref hp, .ref hq], zO hw 6 [.ref aw], zL cy aw n (fun j9 => lN (w j9)), zO hp 6 [.ref ap], zL cy ap n (fun j9 => lN ((z_over (z_pt U w a (b - a)) pt a (b - a)) j9)), zO hq 6 [.ref aq], zL cy aq n (fun j9 => lN ((z_over (z_rs U w (z_sm w a (b - a))) q a (b - a)) j9))] t9) A) [.ref h, .long (lN U), .int (nI a), .int (nI b)].toArray s 0 0 A) (F0 m 26 ls []) := by
      intro fuel26
      induction fuel26 with
      | zero =>
        intro j o pp qq hi26_0 hi26_1 hi26_2 hi26_3 hfu26
        exact absurd hfu26 (Nat.not_lt_zero _)
      | succ fuel26 ih26 =>
        intro j o pp qq hi26_0 hi26_1 hi26_2 hi26_3 hfu26 H locs hP hD hS ls hl
        refine lv_iload hx hb dX1_divide_26 (lv_at hl 6 rfl) ?_
        refine lv_iload hx hb dX1_divide_28 (lv_at hl 3 rfl) ?_
        refine z_icmp_ge hx hb (by omega) (by omega) dX1_divide_30 (tgt := 113) (by decide) (fun c_3 => ?_) (fun c_3 => ?_)
        · have hj9 : j = b - a := by omega
          subst hj9
          have ho9 : o = z_left U w a (b - a) := by rw [z_left, if_pos (by omega)]; exact hi26_1
          have hq7 : ∀ i, a + i < b → qq (a + i) = U * w (a + i) % (z_sm w a (b - a)) := fun i hi => by rw [hi26_3]; exact z_over_in (by omega)
          have hlow : z_low qq o (z_sm w a (b - a)) a b := by
            exact Or.inl hi26_1
          have hq6 : ∀ i, a + i < b → qq (a + i) < 2 ^ 62 := fun i hi => by have := hU9 i hi; have := Nat.mod_le (U * w (a + i)) (z_sm w a (b - a)); rw [hq7 i hi]; omega
          have ho6 := (z_left_le (u := U) (w := w) (a := a) (n := b - a)).1
          refine lv_aload_n hx hb dX1_divide_113 rfl (lv_at hl 0 rfl) ?_
          refine lv_lload hx hb dX1_divide_114 (lv_at hl 5 rfl) ?_
          refine lv_lload hx hb dX1_divide_116 (lv_at hl 4 rfl) ?_
          refine lv_iload_n hx hb dX1_divide_118 rfl (lv_at hl 2 rfl) ?_
          refine lv_iload hx hb dX1_divide_119 (lv_at hl 3 rfl) ?_
          refine z_cv (wc := [zO h 2 [.ref hw, .ref hp, .ref hq], zO hp 6 [.ref ap], zL cy ap n (fun j9 => lN (pp j9)), zO hq 6 [.ref aq], zL cy aq n (fun j9 => lN (qq j9))]) (va_runV (As := [.long (lN o), .long (lN (z_sm w a (b - a))), .int (nI a), .int (nI b)]) (rest := []) ⟨hx, hb, hml, hown, hts⟩ (c_X1_giveLeft l G cy _ h hw hp hq ap aq n pp qq o (z_sm w a (b - a)) a b (by omega) (by omega) (by omega) (by omega) (hq6) (by omega) (hlow)) (cwV 4 hts gX1_divide_X1_giveLeft rfl rfl rfl (by decide +kernel) ⟨Nat.le_of_ble_eq_true rfl, Nat.le_of_ble_eq_true rfl⟩) (z_pVM hK hP hD [0, 3, 4, 5, 6] rfl (by decide) (ci := 2) (q0 := 0) rfl rfl rfl) rfl rfl hl.1 rfl (lv_room (Nat.le_of_ble_eq_true rfl)) dX1_divide_121 ⟨Nat.le_of_ble_eq_true rfl, Nat.le_of_ble_eq_true rfl⟩) hP hD hS hA [0, 3, 4, 5, 6] [1, 2] [2, 0, 1, 3, 4, 5, 6] [zO hw 6 [.ref aw], zL cy aw n (fun j9 => lN (w j9))] (fun _ => [zO h 2 [.ref hw, .ref hp, .ref hq], zO hw 6 [.ref aw], zL cy aw n (fun j9 => lN (w j9)), zO hp 6 [.ref ap], zL cy ap n (fun j9 => lN ((z_pe pp qq o a (b - a)) j9)), zO hq 6 [.ref aq], zL cy aq n (fun j9 => lN (qq j9))]) rfl rfl (by decide) (fun _ => rfl) (fun u H locs hr_4 hQ hD hS hz => ?_)
          have hP : va_P G vwCl [zO h 2 [.ref hw, .ref hp, .ref hq], zO hw 6 [.ref aw], zL cy aw n (fun j9 => lN (w j9)), zO hp 6 [.ref ap], zL cy ap n (fun j9 => lN ((z_pe pp qq o a (b - a)) j9)), zO hq 6 [.ref aq], zL cy aq n (fun j9 => lN (qq j9))] H := hQ
          have hD : va_D A [zO h 2 [.ref hw, .ref hp, .ref hq], zO hw 6 [.ref aw], zL cy aw n (fun j9 => lN (w j9)), zO hp 6 [.ref ap], zL cy ap n (fun j9 => lN ((z_pe pp qq o a (b - a)) j9)), zO hq 6 [.ref aq], zL cy aq n (fun j9 => lN (qq j9))] := hD
          clear hQ
          rw [hi26_2, hi26_3, ho9, z_over_end] at hP hD
          exact z_rMv hx hb hr hlk dX1_divide_124 () (trivial) hP hD hK hS (Nat.le_of_ble_eq_true rfl) (Nat.le_of_ble_eq_true rfl)
        · refine lv_lload_n hx hb dX1_divide_33 rfl (lv_at hl 1 rfl) ?_
          refine lv_aload_n hx hb dX1_divide_34 rfl (lv_at hl 0 rfl) ?_
          refine va_get (D := G) (ci := 2) (v := .ref hw) (C := RX1) (T := TX1) (N := 3) hx hb hts in_X1_divide_X1 hown hK hP 0 rfl rfl 0 (by decide) (hts _ (List.mem_of_getElem? (i := 1) (by decide +kernel))) (fun _ h9 => h9) rfl dX1_divide_35 ?_
          refine lv_iload hx hb dX1_divide_38 (lv_at hl 6 rfl) ?_
          refine vp_callSl (va_runV (As := [.int (nI (a + j))]) (rest := [.long (lN U)]) ⟨hx, hb, hml, hown, hts⟩ (c_X5_getN l G cy hw aw n w (a + j) (by omega) (by omega)) (cwV 1 hts gX1_divide_X5_get rfl rfl rfl (by decide +kernel) ⟨Nat.le_of_ble_eq_true rfl, Nat.le_of_ble_eq_true rfl⟩) (z_pV hK hP [1, 2] rfl (ci := 6) (q0 := 0) rfl rfl rfl) rfl rfl hl.1 rfl (lv_room (Nat.le_of_ble_eq_true rfl)) dX1_divide_40 ⟨Nat.le_of_ble_eq_true rfl, Nat.le_of_ble_eq_true rfl⟩).run (fun r_5 hr_5 => ?_)
          obtain rfl : r_5 = (lN (w (a + j))) := hr_5
          refine z_lmul hx hb dX1_divide_43 ?_
          refine lv_lstore (lv' := [(10, .long (lN (U * (w (a + j))))), (0, .ref h), (1, .long (lN U)), (3, .int (nI a)), (4, .int (nI b)), (5, .long (lN (z_sm w a (b - a)))), (7, .long (lN o)), (9, .int (nI (a + j)))]) hx hb dX1_divide_44 hl (by decide) rfl (fun ls hl => ?_)
          refine lv_lload hx hb dX1_divide_46 (lv_at hl 5 rfl) ?_
          refine lv_lconst (v := lN 0) hx hb dX1_divide_48 rfl ?_
          refine z_lcN_le hx hb (by omega) (by omega) dX1_divide_49 dX1_divide_50 (tgt := 61) (by decide) (fun c_6 => ?_) (fun c_6 => ?_)
          · refine lv_lconst (v := lN 0) hx hb dX1_divide_61 rfl ?_
            refine lv_lstore (lv' := [(12, .long (lN 0)), (10, .long (lN (U * (w (a + j))))), (0, .ref h), (1, .long (lN U)), (3, .int (nI a)), (4, .int (nI b)), (5, .long (lN (z_sm w a (b - a)))), (7, .long (lN o)), (9, .int (nI (a + j)))]) hx hb dX1_divide_62 hl (by decide) rfl (fun ls hl => ?_)
            refine lv_aload_n hx hb dX1_divide_64 rfl (lv_at hl 2 rfl) ?_
            refine va_get (D := G) (ci := 2) (v := .ref hp) (C := RX1) (T := TX1) (N := 3) hx hb hts in_X1_divide_X1 hown hK hP 0 rfl rfl 1 (by decide) (hts _ (List.mem_of_getElem? (i := 2) (by decide +kernel))) (fun _ h9 => h9) rfl dX1_divide_65 ?_
            refine lv_iload hx hb dX1_divide_68 (lv_at hl 8 rfl) ?_
            refine lv_lload hx hb dX1_divide_70 (lv_at hl 0 rfl) ?_
            refine z_cv (wc := [zO hp 6 [.ref ap], zL cy ap n (fun j9 => lN (pp j9))]) (va_runV (As := [.int (nI (a + j)), .long (lN 0)]) (rest := []) ⟨hx, hb, hml, hown, hts⟩ (c_X5_setN l G cy _ hp ap n pp (a + j) 0 (by omega) (by omega)) (cwV 2 hts gX1_divide_X5_set rfl rfl rfl (by decide +kernel) ⟨Nat.le_of_ble_eq_true rfl, Nat.le_of_ble_eq_true rfl⟩) (z_pVM hK hP hD [3, 4] rfl (by decide) (ci := 6) (q0 := 0) rfl rfl rfl) rfl rfl hl.1 rfl (lv_room (Nat.le_of_ble_eq_true rfl)) dX1_divide_72 ⟨Nat.le_of_ble_eq_true rfl, Nat.le_of_ble_eq_true rfl⟩) hP hD hS hA [3, 4] [0, 1, 2, 5, 6] [0, 1, 2, 5, 6, 3, 4] [zO h 2 [.ref hw, .ref hp, .ref hq], zO hw 6 [.ref aw], zL cy aw n (fun j9 => lN (w j9)), zO hq 6 [.ref aq], zL cy aq n (fun j9 => lN (qq j9))] (fun _ => [zO h 2 [.ref hw, .ref hp, .ref hq], zO hw 6 [.ref aw], zL cy aw n (fun j9 => lN (w j9)), zO hp 6 [.ref ap], zL cy ap n (fun j9 => lN ((va_up pp (a + j) 0) j9)), zO hq 6 [.ref aq], zL cy aq n (fun j9 => lN (qq j9))]) rfl rfl (by decide) (fun _ => rfl) (fun u H locs hr_7 hQ hD hS hz => ?_)
            have hP : va_P G vwCl [zO h 2 [.ref hw, .ref hp, .ref hq], zO hw 6 [.ref aw], zL cy aw n (fun j9 => lN (w j9)), zO hp 6 [.ref ap], zL cy ap n (fun j9 => lN ((va_up pp (a + j) 0) j9)), zO hq 6 [.ref aq], zL cy aq n (fun j9 => lN (qq j9))] H := hQ
            have hD : va_D A [zO h 2 [.ref hw, .ref hp, .ref hq], zO hw 6 [.ref aw], zL cy aw n (fun j9 => lN (w j9)), zO hp 6 [.ref ap], zL cy ap n (fun j9 => lN ((va_up pp (a + j) 0) j9)), zO hq 6 [.ref aq], zL cy aq n (fun j9 => lN (qq j9))] := hD
            clear hQ
            refine lv_aload_n hx hb dX1_divide_75 rfl (lv_at hl 2 rfl) ?_
            refine va_get (D := G) (ci := 2) (v := .ref hq) (C := RX1) (T := TX1) (N := 3) hx hb hts in_X1_divide_X1 hown hK hP 0 rfl rfl 2 (by decide) (hts _ (List.mem_of_getElem? (i := 3) (by decide +kernel))) (fun _ h9 => h9) rfl dX1_divide_76 ?_
            refine lv_iload hx hb dX1_divide_79 (lv_at hl 8 rfl) ?_
            refine lv_lload hx hb dX1_divide_81 (lv_at hl 6 rfl) ?_
            refine lv_lconst (v := lN 0) hx hb dX1_divide_83 rfl ?_
            refine z_lcN_le hx hb (by omega) (by omega) dX1_divide_84 dX1_divide_85 (tgt := 96) (by decide) (fun c_8 => ?_) (fun c_8 => ?_)
            · refine lv_lconst (v := lN 0) hx hb dX1_divide_96 rfl ?_
              refine z_cv (wc := [zO hq 6 [.ref aq], zL cy aq n (fun j9 => lN (qq j9))]) (va_runV (As := [.int (nI (a + j)), .long (lN 0)]) (rest := []) ⟨hx, hb, hml, hown, hts⟩ (c_X5_setN l G cy _ hq aq n qq (a + j) 0 (by omega) (by omega)) (cwV 2 hts gX1_divide_X5_set rfl rfl rfl (by decide +kernel) ⟨Nat.le_of_ble_eq_true rfl, Nat.le_of_ble_eq_true rfl⟩) (z_pVM hK hP hD [5, 6] rfl (by decide) (ci := 6) (q0 := 0) rfl rfl rfl) rfl rfl hl.1 rfl (lv_room (Nat.le_of_ble_eq_true rfl)) dX1_divide_97 ⟨Nat.le_of_ble_eq_true rfl, Nat.le_of_ble_eq_true rfl⟩) hP hD hS hA [5, 6] [0, 1, 2, 3, 4] [0, 1, 2, 3, 4, 5, 6] [zO h 2 [.ref hw, .ref hp, .ref hq], zO hw 6 [.ref aw], zL cy aw n (fun j9 => lN (w j9)), zO hp 6 [.ref ap], zL cy ap n (fun j9 => lN ((va_up pp (a + j) 0) j9))] (fun _ => [zO h 2 [.ref hw, .ref hp, .ref hq], zO hw 6 [.ref aw], zL cy aw n (fun j9 => lN (w j9)), zO hp 6 [.ref ap], zL cy ap n (fun j9 => lN ((va_up pp (a + j) 0) j9)), zO hq 6 [.ref aq], zL cy aq n (fun j9 => lN ((va_up qq (a + j) 0) j9))]) rfl rfl (by decide) (fun _ => rfl) (fun u H locs hr_9 hQ hD hS hz => ?_)
              have hP : va_P G vwCl [zO h 2 [.ref hw, .ref hp, .ref hq], zO hw 6 [.ref aw], zL cy aw n (fun j9 => lN (w j9)), zO hp 6 [.ref ap], zL cy ap n (fun j9 => lN ((va_up pp (a + j) 0) j9)), zO hq 6 [.ref aq], zL cy aq n (fun j9 => lN ((va_up qq (a + j) 0) j9))] H := hQ
              have hD : va_D A [zO h 2 [.ref hw, .ref hp, .ref hq], zO hw 6 [.ref aw], zL cy aw n (fun j9 => lN (w j9)), zO hp 6 [.ref ap], zL cy ap n (fun j9 => lN ((va_up pp (a + j) 0) j9)), zO hq 6 [.ref aq], zL cy aq n (fun j9 => lN ((va_up qq (a + j) 0) j9))] := hD
              clear hQ
              refine lv_lload hx hb dX1_divide_100 (lv_at hl 7 rfl) ?_
              refine lv_lload hx hb dX1_divide_102 (lv_at hl 0 rfl) ?_
              refine z_lsub hx hb (by omega) dX1_divide_104 ?_
              refine lv_lstore (lv' := [(7, .long (lN (o - 0))), (12, .long (lN 0)), (10, .long (lN (U * (w (a + j))))), (0, .ref h), (1, .long (lN U)), (3, .int (nI a)), (4, .int (nI b)), (5, .long (lN (z_sm w a (b - a)))), (9, .int (nI (a + j)))]) hx hb dX1_divide_105 hl (by decide) rfl (fun ls hl => ?_)
              refine lv_iinc (v := (nI (a + j + 1))) (lv' := [(9, .int (nI (a + j + 1))), (7, .long (lN (o - 0))), (12, .long (lN 0)), (10, .long (lN (U * (w (a + j))))), (0, .ref h), (1, .long (lN U)), (3, .int (nI a)), (4, .int (nI b)), (5, .long (lN (z_sm w a (b - a))))]) hx hb dX1_divide_107 hl (k := 8) rfl (nI_add _ _) (by decide) rfl (fun ls hl => ?_)
              refine lv_goto (tgt := 26) hx hb dX1_divide_110 (by decide) ?_
              exact ih26 (j + 1) (o - 0) (va_up pp (a + j) 0) (va_up qq (a + j) 0) (by omega) (by omega) (by rw [hi26_2]; exact z_over_up (by rw [z_fl, show z_sm w a (b - a) = 0 by omega, Nat.div_zero])) (by rw [hi26_3]; exact z_over_up (by rw [z_rs, z_sm_zero (show z_sm w a (b - a) = 0 by omega) j (by omega)]; simp)) (by omega) _ _ hP hD hS _ (lv_sub hl [4, 5, 6, 7, 8, 1, 0] rfl)
            · exfalso; omega
          · exfalso; omega
    exact hloop26 (b - a - 0 + 1) 0 0 pt q (by omega) (by omega) (z_over_0.symm) (z_over_0.symm) (by omega) _ _ hP hD hS _ (lv_sub hl [3, 4, 5, 6, 2, 1, 0] rfl)
  · refine lv_lload_n hx hb dX1_divide_16 rfl (lv_at hl 2 rfl) ?_
    refine lv_goto (tgt := 21) hx hb dX1_divide_17 (by decide) ?_
    refine lv_lstore (lv' := [(7, .long (lN U)), (5, .long (lN (z_sm w a (b - a)))), (0, .ref h), (1, .long (lN U)), (3, .int (nI a)), (4, .int (nI b))]) hx hb dX1_divide_21 hl (by decide) rfl (fun ls hl => ?_)
    refine lv_iload_n hx hb dX1_divide_23 rfl (lv_at hl 4 rfl) ?_
    refine lv_istore (lv' := [(9, .int (nI a)), (7, .long (lN U)), (5, .long (lN (z_sm w a (b - a)))), (0, .ref h), (1, .long (lN U)), (3, .int (nI a)), (4, .int (nI b))]) hx hb dX1_divide_24 hl (by decide) rfl (fun ls hl => ?_)
    have hloop26 : ∀ (fuel26 : Nat) (j : Nat) (o : Nat) (pp : Nat → Nat) (qq : Nat → Nat), (a + j ≤ b) → (o = U - z_sm (z_fl U w (z_sm w a (b - a))) a j) → (pp = z_over (z_fl U w (z_sm w a (b - a))) pt a j) → (qq = z_over (z_rs U w (z_sm w a (b - a))) q a j) → (b - a - j) < fuel26 → ∀ (H : Heap) (locs : List Loc), va_P G vwCl [zO h 2 [.ref hw, .ref hp, .ref hq], zO hw 6 [.ref aw], zL cy aw n (fun j9 => lN (w j9)), zO hp 6 [.ref ap], zL cy ap n (fun j9 => lN (pp j9)), zO hq 6 [.ref aq], zL cy aq n (fun j9 => lN (qq j9))] H → va_D A [zO h 2 [.ref hw, .ref hp, .ref hq], zO hw 6 [.ref aw], zL cy aw n (fun j9 => lN (w j9)), zO hp 6 [.ref ap], zL cy ap n (fun j9 => lN (pp j9)), zO hq 6 [.ref aq], zL cy aq n (fun j9 => lN (qq j9))] → va_S A s.heap H locs → ∀ (ls : Array Slot), lv_has ls 14 [(0, .ref h), (1, .long (lN U)), (3, .int (nI a)), (4, .int (nI b)), (5, .long (lN (z_sm w a (b - a)))), (7, .long (lN o)), (9, .int (nI (a + j)))] → W p l e { frames := 3, cells := 0, slots := 0, locals := 82 } s m [.ref h, .long (lN U), .int (nI a), .int (nI b)].toArray below meth c H locs 0 0 (MQ below (va_Qv (fun (_ : Unit) => True) (fun (u : Unit) t9 => zB G cy A [zO h 2 [.ref hw, .ref hp, .ref hq], zO hw 6 [.ref aw], zL cy aw n (fun j9 => lN (w j9)), zO hp 6 [.ref ap], zL cy ap n (fun j9 => lN ((z_over (z_pt U w a (b - a)) pt a (b - a)) j9)), zO hq 6 [.ref aq], zL cy aq n (fun j9 => lN ((z_over (z_rs U w (z_sm w a (b - a))) q a (b - a)) j9))] t9) A) [.ref h, .long (lN U), .int (nI a), .int (nI b)].toArray s 0 0 A) (F0 m 26 ls []) := by
      intro fuel26
      induction fuel26 with
      | zero =>
        intro j o pp qq hi26_0 hi26_1 hi26_2 hi26_3 hfu26
        exact absurd hfu26 (Nat.not_lt_zero _)
      | succ fuel26 ih26 =>
        intro j o pp qq hi26_0 hi26_1 hi26_2 hi26_3 hfu26 H locs hP hD hS ls hl
        have hm9 := z_sm_more (f := (z_fl U w (z_sm w a (b - a)))) (a := a) (j := j + 1) (n := b - a)
        have hl9 := (z_left_le (u := U) (w := w) (a := a) (n := b - a)).2 (by omega)
        have hs9 : z_sm (z_fl U w (z_sm w a (b - a))) a (j + 1) = z_sm (z_fl U w (z_sm w a (b - a))) a j + U * w (a + j) / z_sm w a (b - a) := rfl
        refine lv_iload hx hb dX1_divide_26 (lv_at hl 6 rfl) ?_
        refine lv_iload hx hb dX1_divide_28 (lv_at hl 3 rfl) ?_
        refine z_icmp_ge hx hb (by omega) (by omega) dX1_divide_30 (tgt := 113) (by decide) (fun c_10 => ?_) (fun c_10 => ?_)
        · have hj9 : j = b - a := by omega
          subst hj9
          have ho9 : o = z_left U w a (b - a) := by rw [z_left, if_neg (by omega)]; exact hi26_1
          have hq7 : ∀ i, a + i < b → qq (a + i) = U * w (a + i) % (z_sm w a (b - a)) := fun i hi => by rw [hi26_3]; exact z_over_in (by omega)
          have hlow : z_low qq o (z_sm w a (b - a)) a b := by
            exact Or.inr (fun i hi => by rw [hq7 i hi]; exact Nat.mod_lt _ (by omega))
          have hq6 : ∀ i, a + i < b → qq (a + i) < 2 ^ 62 := fun i hi => by have := hU9 i hi; have := Nat.mod_le (U * w (a + i)) (z_sm w a (b - a)); rw [hq7 i hi]; omega
          have ho6 := (z_left_le (u := U) (w := w) (a := a) (n := b - a)).1
          refine lv_aload_n hx hb dX1_divide_113 rfl (lv_at hl 0 rfl) ?_
          refine lv_lload hx hb dX1_divide_114 (lv_at hl 5 rfl) ?_
          refine lv_lload hx hb dX1_divide_116 (lv_at hl 4 rfl) ?_
          refine lv_iload_n hx hb dX1_divide_118 rfl (lv_at hl 2 rfl) ?_
          refine lv_iload hx hb dX1_divide_119 (lv_at hl 3 rfl) ?_
          refine z_cv (wc := [zO h 2 [.ref hw, .ref hp, .ref hq], zO hp 6 [.ref ap], zL cy ap n (fun j9 => lN (pp j9)), zO hq 6 [.ref aq], zL cy aq n (fun j9 => lN (qq j9))]) (va_runV (As := [.long (lN o), .long (lN (z_sm w a (b - a))), .int (nI a), .int (nI b)]) (rest := []) ⟨hx, hb, hml, hown, hts⟩ (c_X1_giveLeft l G cy _ h hw hp hq ap aq n pp qq o (z_sm w a (b - a)) a b (by omega) (by omega) (by omega) (by omega) (hq6) (by omega) (hlow)) (cwV 4 hts gX1_divide_X1_giveLeft rfl rfl rfl (by decide +kernel) ⟨Nat.le_of_ble_eq_true rfl, Nat.le_of_ble_eq_true rfl⟩) (z_pVM hK hP hD [0, 3, 4, 5, 6] rfl (by decide) (ci := 2) (q0 := 0) rfl rfl rfl) rfl rfl hl.1 rfl (lv_room (Nat.le_of_ble_eq_true rfl)) dX1_divide_121 ⟨Nat.le_of_ble_eq_true rfl, Nat.le_of_ble_eq_true rfl⟩) hP hD hS hA [0, 3, 4, 5, 6] [1, 2] [2, 0, 1, 3, 4, 5, 6] [zO hw 6 [.ref aw], zL cy aw n (fun j9 => lN (w j9))] (fun _ => [zO h 2 [.ref hw, .ref hp, .ref hq], zO hw 6 [.ref aw], zL cy aw n (fun j9 => lN (w j9)), zO hp 6 [.ref ap], zL cy ap n (fun j9 => lN ((z_pe pp qq o a (b - a)) j9)), zO hq 6 [.ref aq], zL cy aq n (fun j9 => lN (qq j9))]) rfl rfl (by decide) (fun _ => rfl) (fun u H locs hr_11 hQ hD hS hz => ?_)
          have hP : va_P G vwCl [zO h 2 [.ref hw, .ref hp, .ref hq], zO hw 6 [.ref aw], zL cy aw n (fun j9 => lN (w j9)), zO hp 6 [.ref ap], zL cy ap n (fun j9 => lN ((z_pe pp qq o a (b - a)) j9)), zO hq 6 [.ref aq], zL cy aq n (fun j9 => lN (qq j9))] H := hQ
          have hD : va_D A [zO h 2 [.ref hw, .ref hp, .ref hq], zO hw 6 [.ref aw], zL cy aw n (fun j9 => lN (w j9)), zO hp 6 [.ref ap], zL cy ap n (fun j9 => lN ((z_pe pp qq o a (b - a)) j9)), zO hq 6 [.ref aq], zL cy aq n (fun j9 => lN (qq j9))] := hD
          clear hQ
          rw [hi26_2, hi26_3, ho9, z_over_end] at hP hD
          exact z_rMv hx hb hr hlk dX1_divide_124 () (trivial) hP hD hK hS (Nat.le_of_ble_eq_true rfl) (Nat.le_of_ble_eq_true rfl)
        · refine lv_lload_n hx hb dX1_divide_33 rfl (lv_at hl 1 rfl) ?_
          refine lv_aload_n hx hb dX1_divide_34 rfl (lv_at hl 0 rfl) ?_
          refine va_get (D := G) (ci := 2) (v := .ref hw) (C := RX1) (T := TX1) (N := 3) hx hb hts in_X1_divide_X1 hown hK hP 0 rfl rfl 0 (by decide) (hts _ (List.mem_of_getElem? (i := 1) (by decide +kernel))) (fun _ h9 => h9) rfl dX1_divide_35 ?_
          refine lv_iload hx hb dX1_divide_38 (lv_at hl 6 rfl) ?_
          refine vp_callSl (va_runV (As := [.int (nI (a + j))]) (rest := [.long (lN U)]) ⟨hx, hb, hml, hown, hts⟩ (c_X5_getN l G cy hw aw n w (a + j) (by omega) (by omega)) (cwV 1 hts gX1_divide_X5_get rfl rfl rfl (by decide +kernel) ⟨Nat.le_of_ble_eq_true rfl, Nat.le_of_ble_eq_true rfl⟩) (z_pV hK hP [1, 2] rfl (ci := 6) (q0 := 0) rfl rfl rfl) rfl rfl hl.1 rfl (lv_room (Nat.le_of_ble_eq_true rfl)) dX1_divide_40 ⟨Nat.le_of_ble_eq_true rfl, Nat.le_of_ble_eq_true rfl⟩).run (fun r_12 hr_12 => ?_)
          obtain rfl : r_12 = (lN (w (a + j))) := hr_12
          refine z_lmul hx hb dX1_divide_43 ?_
          refine lv_lstore (lv' := [(10, .long (lN (U * (w (a + j))))), (0, .ref h), (1, .long (lN U)), (3, .int (nI a)), (4, .int (nI b)), (5, .long (lN (z_sm w a (b - a)))), (7, .long (lN o)), (9, .int (nI (a + j)))]) hx hb dX1_divide_44 hl (by decide) rfl (fun ls hl => ?_)
          refine lv_lload hx hb dX1_divide_46 (lv_at hl 5 rfl) ?_
          refine lv_lconst (v := lN 0) hx hb dX1_divide_48 rfl ?_
          refine z_lcN_le hx hb (by omega) (by omega) dX1_divide_49 dX1_divide_50 (tgt := 61) (by decide) (fun c_13 => ?_) (fun c_13 => ?_)
          · exfalso; omega
          · refine lv_lload hx hb dX1_divide_53 (lv_at hl 0 rfl) ?_
            refine lv_lload hx hb dX1_divide_55 (lv_at hl 5 rfl) ?_
            refine z_ldiv hx hb (by have := hU9 j (by omega); omega) (by omega) (by omega) dX1_divide_57 ?_
            refine lv_goto (tgt := 62) hx hb dX1_divide_58 (by decide) ?_
            refine lv_lstore (lv' := [(12, .long (lN ((U * (w (a + j))) / (z_sm w a (b - a))))), (10, .long (lN (U * (w (a + j))))), (0, .ref h), (1, .long (lN U)), (3, .int (nI a)), (4, .int (nI b)), (5, .long (lN (z_sm w a (b - a)))), (7, .long (lN o)), (9, .int (nI (a + j)))]) hx hb dX1_divide_62 hl (by decide) rfl (fun ls hl => ?_)
            refine lv_aload_n hx hb dX1_divide_64 rfl (lv_at hl 2 rfl) ?_
            refine va_get (D := G) (ci := 2) (v := .ref hp) (C := RX1) (T := TX1) (N := 3) hx hb hts in_X1_divide_X1 hown hK hP 0 rfl rfl 1 (by decide) (hts _ (List.mem_of_getElem? (i := 2) (by decide +kernel))) (fun _ h9 => h9) rfl dX1_divide_65 ?_
            refine lv_iload hx hb dX1_divide_68 (lv_at hl 8 rfl) ?_
            refine lv_lload hx hb dX1_divide_70 (lv_at hl 0 rfl) ?_
            refine z_cv (wc := [zO hp 6 [.ref ap], zL cy ap n (fun j9 => lN (pp j9))]) (va_runV (As := [.int (nI (a + j)), .long (lN ((U * (w (a + j))) / (z_sm w a (b - a))))]) (rest := []) ⟨hx, hb, hml, hown, hts⟩ (c_X5_setN l G cy _ hp ap n pp (a + j) ((U * (w (a + j))) / (z_sm w a (b - a))) (by omega) (by omega)) (cwV 2 hts gX1_divide_X5_set rfl rfl rfl (by decide +kernel) ⟨Nat.le_of_ble_eq_true rfl, Nat.le_of_ble_eq_true rfl⟩) (z_pVM hK hP hD [3, 4] rfl (by decide) (ci := 6) (q0 := 0) rfl rfl rfl) rfl rfl hl.1 rfl (lv_room (Nat.le_of_ble_eq_true rfl)) dX1_divide_72 ⟨Nat.le_of_ble_eq_true rfl, Nat.le_of_ble_eq_true rfl⟩) hP hD hS hA [3, 4] [0, 1, 2, 5, 6] [0, 1, 2, 5, 6, 3, 4] [zO h 2 [.ref hw, .ref hp, .ref hq], zO hw 6 [.ref aw], zL cy aw n (fun j9 => lN (w j9)), zO hq 6 [.ref aq], zL cy aq n (fun j9 => lN (qq j9))] (fun _ => [zO h 2 [.ref hw, .ref hp, .ref hq], zO hw 6 [.ref aw], zL cy aw n (fun j9 => lN (w j9)), zO hp 6 [.ref ap], zL cy ap n (fun j9 => lN ((va_up pp (a + j) ((U * (w (a + j))) / (z_sm w a (b - a)))) j9)), zO hq 6 [.ref aq], zL cy aq n (fun j9 => lN (qq j9))]) rfl rfl (by decide) (fun _ => rfl) (fun u H locs hr_14 hQ hD hS hz => ?_)
            have hP : va_P G vwCl [zO h 2 [.ref hw, .ref hp, .ref hq], zO hw 6 [.ref aw], zL cy aw n (fun j9 => lN (w j9)), zO hp 6 [.ref ap], zL cy ap n (fun j9 => lN ((va_up pp (a + j) ((U * (w (a + j))) / (z_sm w a (b - a)))) j9)), zO hq 6 [.ref aq], zL cy aq n (fun j9 => lN (qq j9))] H := hQ
            have hD : va_D A [zO h 2 [.ref hw, .ref hp, .ref hq], zO hw 6 [.ref aw], zL cy aw n (fun j9 => lN (w j9)), zO hp 6 [.ref ap], zL cy ap n (fun j9 => lN ((va_up pp (a + j) ((U * (w (a + j))) / (z_sm w a (b - a)))) j9)), zO hq 6 [.ref aq], zL cy aq n (fun j9 => lN (qq j9))] := hD
            clear hQ
            refine lv_aload_n hx hb dX1_divide_75 rfl (lv_at hl 2 rfl) ?_
            refine va_get (D := G) (ci := 2) (v := .ref hq) (C := RX1) (T := TX1) (N := 3) hx hb hts in_X1_divide_X1 hown hK hP 0 rfl rfl 2 (by decide) (hts _ (List.mem_of_getElem? (i := 3) (by decide +kernel))) (fun _ h9 => h9) rfl dX1_divide_76 ?_
            refine lv_iload hx hb dX1_divide_79 (lv_at hl 8 rfl) ?_
            refine lv_lload hx hb dX1_divide_81 (lv_at hl 6 rfl) ?_
            refine lv_lconst (v := lN 0) hx hb dX1_divide_83 rfl ?_
            refine z_lcN_le hx hb (by omega) (by omega) dX1_divide_84 dX1_divide_85 (tgt := 96) (by decide) (fun c_15 => ?_) (fun c_15 => ?_)
            · exfalso; omega
            · refine lv_lload hx hb dX1_divide_88 (lv_at hl 1 rfl) ?_
              refine lv_lload hx hb dX1_divide_90 (lv_at hl 6 rfl) ?_
              refine z_lrem hx hb (by have := hU9 j (by omega); omega) (by omega) (by omega) dX1_divide_92 ?_
              refine lv_goto (tgt := 97) hx hb dX1_divide_93 (by decide) ?_
              refine z_cv (wc := [zO hq 6 [.ref aq], zL cy aq n (fun j9 => lN (qq j9))]) (va_runV (As := [.int (nI (a + j)), .long (lN ((U * (w (a + j))) % (z_sm w a (b - a))))]) (rest := []) ⟨hx, hb, hml, hown, hts⟩ (c_X5_setN l G cy _ hq aq n qq (a + j) ((U * (w (a + j))) % (z_sm w a (b - a))) (by omega) (by omega)) (cwV 2 hts gX1_divide_X5_set rfl rfl rfl (by decide +kernel) ⟨Nat.le_of_ble_eq_true rfl, Nat.le_of_ble_eq_true rfl⟩) (z_pVM hK hP hD [5, 6] rfl (by decide) (ci := 6) (q0 := 0) rfl rfl rfl) rfl rfl hl.1 rfl (lv_room (Nat.le_of_ble_eq_true rfl)) dX1_divide_97 ⟨Nat.le_of_ble_eq_true rfl, Nat.le_of_ble_eq_true rfl⟩) hP hD hS hA [5, 6] [0, 1, 2, 3, 4] [0, 1, 2, 3, 4, 5, 6] [zO h 2 [.ref hw, .ref hp, .ref hq], zO hw 6 [.ref aw], zL cy aw n (fun j9 => lN (w j9)), zO hp 6 [.ref ap], zL cy ap n (fun j9 => lN ((va_up pp (a + j) ((U * (w (a + j))) / (z_sm w a (b - a)))) j9))] (fun _ => [zO h 2 [.ref hw, .ref hp, .ref hq], zO hw 6 [.ref aw], zL cy aw n (fun j9 => lN (w j9)), zO hp 6 [.ref ap], zL cy ap n (fun j9 => lN ((va_up pp (a + j) ((U * (w (a + j))) / (z_sm w a (b - a)))) j9)), zO hq 6 [.ref aq], zL cy aq n (fun j9 => lN ((va_up qq (a + j) ((U * (w (a + j))) % (z_sm w a (b - a)))) j9))]) rfl rfl (by decide) (fun _ => rfl) (fun u H locs hr_16 hQ hD hS hz => ?_)
              have hP : va_P G vwCl [zO h 2 [.ref hw, .ref hp, .ref hq], zO hw 6 [.ref aw], zL cy aw n (fun j9 => lN (w j9)), zO hp 6 [.ref ap], zL cy ap n (fun j9 => lN ((va_up pp (a + j) ((U * (w (a + j))) / (z_sm w a (b - a)))) j9)), zO hq 6 [.ref aq], zL cy aq n (fun j9 => lN ((va_up qq (a + j) ((U * (w (a + j))) % (z_sm w a (b - a)))) j9))] H := hQ
              have hD : va_D A [zO h 2 [.ref hw, .ref hp, .ref hq], zO hw 6 [.ref aw], zL cy aw n (fun j9 => lN (w j9)), zO hp 6 [.ref ap], zL cy ap n (fun j9 => lN ((va_up pp (a + j) ((U * (w (a + j))) / (z_sm w a (b - a)))) j9)), zO hq 6 [.ref aq], zL cy aq n (fun j9 => lN ((va_up qq (a + j) ((U * (w (a + j))) % (z_sm w a (b - a)))) j9))] := hD
              clear hQ
              refine lv_lload hx hb dX1_divide_100 (lv_at hl 7 rfl) ?_
              refine lv_lload hx hb dX1_divide_102 (lv_at hl 0 rfl) ?_
              refine z_lsub hx hb (by omega) dX1_divide_104 ?_
              refine lv_lstore (lv' := [(7, .long (lN (o - ((U * (w (a + j))) / (z_sm w a (b - a)))))), (12, .long (lN ((U * (w (a + j))) / (z_sm w a (b - a))))), (10, .long (lN (U * (w (a + j))))), (0, .ref h), (1, .long (lN U)), (3, .int (nI a)), (4, .int (nI b)), (5, .long (lN (z_sm w a (b - a)))), (9, .int (nI (a + j)))]) hx hb dX1_divide_105 hl (by decide) rfl (fun ls hl => ?_)
              refine lv_iinc (v := (nI (a + j + 1))) (lv' := [(9, .int (nI (a + j + 1))), (7, .long (lN (o - ((U * (w (a + j))) / (z_sm w a (b - a)))))), (12, .long (lN ((U * (w (a + j))) / (z_sm w a (b - a))))), (10, .long (lN (U * (w (a + j))))), (0, .ref h), (1, .long (lN U)), (3, .int (nI a)), (4, .int (nI b)), (5, .long (lN (z_sm w a (b - a))))]) hx hb dX1_divide_107 hl (k := 8) rfl (nI_add _ _) (by decide) rfl (fun ls hl => ?_)
              refine lv_goto (tgt := 26) hx hb dX1_divide_110 (by decide) ?_
              exact ih26 (j + 1) (o - ((U * (w (a + j))) / (z_sm w a (b - a)))) (va_up pp (a + j) ((U * (w (a + j))) / (z_sm w a (b - a)))) (va_up qq (a + j) ((U * (w (a + j))) % (z_sm w a (b - a)))) (by omega) (by rw [z_sm, hi26_1]; show _ = U - (z_sm (z_fl U w (z_sm w a (b - a))) a j + U * w (a + j) / z_sm w a (b - a)); omega) (by rw [hi26_2]; exact z_over_up rfl) (by rw [hi26_3]; exact z_over_up rfl) (by omega) _ _ hP hD hS _ (lv_sub hl [4, 5, 6, 7, 8, 1, 0] rfl)
    exact hloop26 (b - a - 0 + 1) 0 U pt q (by omega) (rfl) (z_over_0.symm) (z_over_0.symm) (by omega) _ _ hP hD hS _ (lv_sub hl [3, 4, 5, 6, 2, 1, 0] rfl)
theorem in_X1_init_X1 : ∀ w ∈ u_ws RX1 TX1 3, w ∈ wsX1_init := fun _ h => (List.mem_cons_of_mem _ (List.mem_append_right _ h))
theorem in_X1_init_X5 : ∀ w ∈ u_ws RX5 TX5 1, w ∈ wsX1_init := fun _ h => (List.mem_cons_of_mem _ (List.mem_append_left _ (List.mem_append_right _ h)))
set_option maxHeartbeats 4000000 in
set_option maxRecDepth 100000 in
theorem c_X1_init1000 (l : Launch) (G : va_G) (cy : Nat → ClassId) (sz0 : Nat) (h : Nat) : Met l yX1_init wsX1_init ({ frames := 2, cells := 6, slots := 3003, locals := 33 }) (zM G cy [.ref h, .int (nI 1000)] sz0 [zO h 2 [.null, .null, .null]]) (va_Qv (fun (_ : Nat × Nat × Nat × Nat × Nat × Nat) => True) (fun (u : Nat × Nat × Nat × Nat × Nat × Nat) t9 => zB G cy (va_A [zO h 2 [.null, .null, .null]] sz0) [zO h 2 [.ref u.1, .ref u.2.1, .ref u.2.2.1], zO u.1 6 [.ref u.2.2.2.1], zL cy u.2.2.2.1 1000 (fun j9 => lN ((fun _ => 0) j9)), zO u.2.1 6 [.ref u.2.2.2.2.1], zL cy u.2.2.2.2.1 1000 (fun j9 => lN ((fun _ => 0) j9)), zO u.2.2.1 6 [.ref u.2.2.2.2.2], zL cy u.2.2.2.2.2 1000 (fun j9 => lN ((fun _ => 0) j9))] t9) (va_A [zO h 2 [.null, .null, .null]] sz0)) 6 3003 (va_A [zO h 2 [.null, .null, .null]] sz0) := by
  refine z_ofM (cc := cX1_init) (maxL := 2) (ret := none) (Qc := (fun A => va_Qv (fun (_ : Nat × Nat × Nat × Nat × Nat × Nat) => True) (fun (u : Nat × Nat × Nat × Nat × Nat × Nat) t9 => zB G cy A [zO h 2 [.ref u.1, .ref u.2.1, .ref u.2.2.1], zO u.1 6 [.ref u.2.2.2.1], zL cy u.2.2.2.1 1000 (fun j9 => lN ((fun _ => 0) j9)), zO u.2.1 6 [.ref u.2.2.2.2.1], zL cy u.2.2.2.2.1 1000 (fun j9 => lN ((fun _ => 0) j9)), zO u.2.2.1 6 [.ref u.2.2.2.2.2], zL cy u.2.2.2.2.2 1000 (fun j9 => lN ((fun _ => 0) j9))] t9) A)) (by decide) rfl (Nat.le_of_ble_eq_true rfl) ?_
  intro p e s m below meth c ls A hx hb hml hr hts hown hlk hin hP hK hD hA hS hl hsz0
  have hown : s.vm.findClass RX1 = some m.cls := hown
  have hl : lv_has ls 2 [(0, .ref h), (1, .int (nI 1000))] := hl
  have hin : meth.name = "<init>" := hin
  refine lv_aload_n hx hb dX1_init_0 rfl (lv_at hl 0 rfl) ?_
  refine W.objInit hx hb hown (hts _ (List.mem_of_getElem? (i := 1) (by decide +kernel))) (hts _ (List.mem_of_getElem? (i := 2) (by decide +kernel))) (hts _ (List.mem_of_getElem? (i := 3) (by decide +kernel))) rfl (by rw [hml]; exact hl.1) rfl dX1_init_1 (Nat.le_of_ble_eq_true rfl) (Nat.le_of_ble_eq_true rfl) ?_
  refine W.eq (g2 := F0 m 4 ls []) rfl ?_
  refine lv_aload_n hx hb dX1_init_4 rfl (lv_at hl 0 rfl) ?_
  refine va_new (ci := 6) (fs := [.null]) (C := RX5) (T := TX5) (N := 1) hx hb hts in_X1_init_X5 tyX5 tyX5_ok hown (hts _ (List.mem_of_getElem? (i := 4) (by decide +kernel))) (hts _ (List.mem_of_getElem? (i := 5) (by decide +kernel))) (hts _ (List.mem_of_getElem? (i := 6) (by decide +kernel))) hK hP hD hS hA rfl (nwf_X5) (Nat.le_of_ble_eq_true rfl) (Nat.le_of_ble_eq_true rfl) dX1_init_5 (fun q_1 H hP hD hS => ?_)
  have hP : va_P G vwCl [zO h 2 [.null, .null, .null], zO q_1 6 [.null]] H := hP
  have hD : va_D A [zO h 2 [.null, .null, .null], zO q_1 6 [.null]] := hD
  refine lv_dup hx hb dX1_init_8 rfl ?_
  refine lv_iload_n hx hb dX1_init_9 rfl (lv_at hl 1 rfl) ?_
  refine z_cv (wc := [zO q_1 6 [.null]]) (va_runI (As := [.int (nI 1000)]) (rest := [.ref q_1, .ref h]) ⟨hx, hb, hml, hown, hts⟩ (c_X5_init l G cy _ q_1 1000 (by omega) (by omega)) (cwI 1 hts gX1_init_X5_init rfl rfl rfl (hts _ (List.mem_of_getElem? (i := 6) (by decide +kernel))) (hts _ (List.mem_of_getElem? (i := 10) (by decide +kernel))) (hts _ (List.mem_of_getElem? (i := 11) (by decide +kernel))) rfl (by decide +kernel) ⟨Nat.le_of_ble_eq_true rfl, Nat.le_of_ble_eq_true rfl⟩) (z_pSM hK hP hD [1] rfl (by decide)) rfl rfl hl.1 rfl (lv_room (Nat.le_of_ble_eq_true rfl)) dX1_init_10 ⟨Nat.le_of_ble_eq_true rfl, Nat.le_of_ble_eq_true rfl⟩) hP hD hS hA [1] [0] [0, 1, 2] [zO h 2 [.null, .null, .null]] (fun (u : Nat) => [zO h 2 [.null, .null, .null], zO q_1 6 [.ref u], zL cy u 1000 (fun j9 => lN ((fun _ => 0) j9))]) rfl rfl (by decide) (fun _ => rfl) (fun u H locs hr_2 hQ hD hS hz => ?_)
  obtain ⟨qa_3, rfl⟩ : ∃ z, z = u := ⟨_, rfl⟩
  try dsimp only at hr_2
  have hP : va_P G vwCl [zO h 2 [.null, .null, .null], zO q_1 6 [.ref qa_3], zL cy qa_3 1000 (fun j9 => lN ((fun _ => 0) j9))] H := hQ
  have hD : va_D A [zO h 2 [.null, .null, .null], zO q_1 6 [.ref qa_3], zL cy qa_3 1000 (fun j9 => lN ((fun _ => 0) j9))] := hD
  clear hQ
  refine va_putF (D := G) (ci := 2) (v := .ref q_1) (ty := (.object "MeterHouse$Row")) (C := RX1) (T := TX1) (N := 3) hx hb hts in_X1_init_X1 tyX1 tyX1_ok nmX1 hown hK hP hD hS 0 rfl rfl 0 (by decide) (hts _ (List.mem_of_getElem? (i := 7) (by decide +kernel))) (fun _ h9 => h9) rfl hin rfl (by decide +kernel) rfl rfl (Nat.le_of_ble_eq_true rfl) dX1_init_13 (fun H locs hP hD hS => ?_)
  have hP : va_P G vwCl [zO h 2 [.ref q_1, .null, .null], zO q_1 6 [.ref qa_3], zL cy qa_3 1000 (fun j9 => lN ((fun _ => 0) j9))] H := hP
  have hD : va_D A [zO h 2 [.ref q_1, .null, .null], zO q_1 6 [.ref qa_3], zL cy qa_3 1000 (fun j9 => lN ((fun _ => 0) j9))] := hD
  refine lv_aload_n hx hb dX1_init_16 rfl (lv_at hl 0 rfl) ?_
  refine va_new (ci := 6) (fs := [.null]) (C := RX5) (T := TX5) (N := 1) hx hb hts in_X1_init_X5 tyX5 tyX5_ok hown (hts _ (List.mem_of_getElem? (i := 4) (by decide +kernel))) (hts _ (List.mem_of_getElem? (i := 5) (by decide +kernel))) (hts _ (List.mem_of_getElem? (i := 6) (by decide +kernel))) hK hP hD hS hA rfl (nwf_X5) (Nat.le_of_ble_eq_true rfl) (Nat.le_of_ble_eq_true rfl) dX1_init_17 (fun q_4 H hP hD hS => ?_)
  have hP : va_P G vwCl [zO h 2 [.ref q_1, .null, .null], zO q_1 6 [.ref qa_3], zL cy qa_3 1000 (fun j9 => lN ((fun _ => 0) j9)), zO q_4 6 [.null]] H := hP
  have hD : va_D A [zO h 2 [.ref q_1, .null, .null], zO q_1 6 [.ref qa_3], zL cy qa_3 1000 (fun j9 => lN ((fun _ => 0) j9)), zO q_4 6 [.null]] := hD
  refine lv_dup hx hb dX1_init_20 rfl ?_
  refine lv_iload_n hx hb dX1_init_21 rfl (lv_at hl 1 rfl) ?_
  refine z_cv (wc := [zO q_4 6 [.null]]) (va_runI (As := [.int (nI 1000)]) (rest := [.ref q_4, .ref h]) ⟨hx, hb, hml, hown, hts⟩ (c_X5_init l G cy _ q_4 1000 (by omega) (by omega)) (cwI 1 hts gX1_init_X5_init rfl rfl rfl (hts _ (List.mem_of_getElem? (i := 6) (by decide +kernel))) (hts _ (List.mem_of_getElem? (i := 10) (by decide +kernel))) (hts _ (List.mem_of_getElem? (i := 11) (by decide +kernel))) rfl (by decide +kernel) ⟨Nat.le_of_ble_eq_true rfl, Nat.le_of_ble_eq_true rfl⟩) (z_pSM hK hP hD [3] rfl (by decide)) rfl rfl hl.1 rfl (lv_room (Nat.le_of_ble_eq_true rfl)) dX1_init_22 ⟨Nat.le_of_ble_eq_true rfl, Nat.le_of_ble_eq_true rfl⟩) hP hD hS hA [3] [0, 1, 2] [0, 1, 2, 3, 4] [zO h 2 [.ref q_1, .null, .null], zO q_1 6 [.ref qa_3], zL cy qa_3 1000 (fun j9 => lN ((fun _ => 0) j9))] (fun (u : Nat) => [zO h 2 [.ref q_1, .null, .null], zO q_1 6 [.ref qa_3], zL cy qa_3 1000 (fun j9 => lN ((fun _ => 0) j9)), zO q_4 6 [.ref u], zL cy u 1000 (fun j9 => lN ((fun _ => 0) j9))]) rfl rfl (by decide) (fun _ => rfl) (fun u H locs hr_5 hQ hD hS hz => ?_)
  obtain ⟨qa_6, rfl⟩ : ∃ z, z = u := ⟨_, rfl⟩
  try dsimp only at hr_5
  have hP : va_P G vwCl [zO h 2 [.ref q_1, .null, .null], zO q_1 6 [.ref qa_3], zL cy qa_3 1000 (fun j9 => lN ((fun _ => 0) j9)), zO q_4 6 [.ref qa_6], zL cy qa_6 1000 (fun j9 => lN ((fun _ => 0) j9))] H := hQ
  have hD : va_D A [zO h 2 [.ref q_1, .null, .null], zO q_1 6 [.ref qa_3], zL cy qa_3 1000 (fun j9 => lN ((fun _ => 0) j9)), zO q_4 6 [.ref qa_6], zL cy qa_6 1000 (fun j9 => lN ((fun _ => 0) j9))] := hD
  clear hQ
  refine va_putF (D := G) (ci := 2) (v := .ref q_4) (ty := (.object "MeterHouse$Row")) (C := RX1) (T := TX1) (N := 3) hx hb hts in_X1_init_X1 tyX1 tyX1_ok nmX1 hown hK hP hD hS 0 rfl rfl 1 (by decide) (hts _ (List.mem_of_getElem? (i := 8) (by decide +kernel))) (fun _ h9 => h9) rfl hin rfl (by decide +kernel) rfl rfl (Nat.le_of_ble_eq_true rfl) dX1_init_25 (fun H locs hP hD hS => ?_)
  have hP : va_P G vwCl [zO h 2 [.ref q_1, .ref q_4, .null], zO q_1 6 [.ref qa_3], zL cy qa_3 1000 (fun j9 => lN ((fun _ => 0) j9)), zO q_4 6 [.ref qa_6], zL cy qa_6 1000 (fun j9 => lN ((fun _ => 0) j9))] H := hP
  have hD : va_D A [zO h 2 [.ref q_1, .ref q_4, .null], zO q_1 6 [.ref qa_3], zL cy qa_3 1000 (fun j9 => lN ((fun _ => 0) j9)), zO q_4 6 [.ref qa_6], zL cy qa_6 1000 (fun j9 => lN ((fun _ => 0) j9))] := hD
  refine lv_aload_n hx hb dX1_init_28 rfl (lv_at hl 0 rfl) ?_
  refine va_new (ci := 6) (fs := [.null]) (C := RX5) (T := TX5) (N := 1) hx hb hts in_X1_init_X5 tyX5 tyX5_ok hown (hts _ (List.mem_of_getElem? (i := 4) (by decide +kernel))) (hts _ (List.mem_of_getElem? (i := 5) (by decide +kernel))) (hts _ (List.mem_of_getElem? (i := 6) (by decide +kernel))) hK hP hD hS hA rfl (nwf_X5) (Nat.le_of_ble_eq_true rfl) (Nat.le_of_ble_eq_true rfl) dX1_init_29 (fun q_7 H hP hD hS => ?_)
  have hP : va_P G vwCl [zO h 2 [.ref q_1, .ref q_4, .null], zO q_1 6 [.ref qa_3], zL cy qa_3 1000 (fun j9 => lN ((fun _ => 0) j9)), zO q_4 6 [.ref qa_6], zL cy qa_6 1000 (fun j9 => lN ((fun _ => 0) j9)), zO q_7 6 [.null]] H := hP
  have hD : va_D A [zO h 2 [.ref q_1, .ref q_4, .null], zO q_1 6 [.ref qa_3], zL cy qa_3 1000 (fun j9 => lN ((fun _ => 0) j9)), zO q_4 6 [.ref qa_6], zL cy qa_6 1000 (fun j9 => lN ((fun _ => 0) j9)), zO q_7 6 [.null]] := hD
  refine lv_dup hx hb dX1_init_32 rfl ?_
  refine lv_iload_n hx hb dX1_init_33 rfl (lv_at hl 1 rfl) ?_
  refine z_cv (wc := [zO q_7 6 [.null]]) (va_runI (As := [.int (nI 1000)]) (rest := [.ref q_7, .ref h]) ⟨hx, hb, hml, hown, hts⟩ (c_X5_init l G cy _ q_7 1000 (by omega) (by omega)) (cwI 1 hts gX1_init_X5_init rfl rfl rfl (hts _ (List.mem_of_getElem? (i := 6) (by decide +kernel))) (hts _ (List.mem_of_getElem? (i := 10) (by decide +kernel))) (hts _ (List.mem_of_getElem? (i := 11) (by decide +kernel))) rfl (by decide +kernel) ⟨Nat.le_of_ble_eq_true rfl, Nat.le_of_ble_eq_true rfl⟩) (z_pSM hK hP hD [5] rfl (by decide)) rfl rfl hl.1 rfl (lv_room (Nat.le_of_ble_eq_true rfl)) dX1_init_34 ⟨Nat.le_of_ble_eq_true rfl, Nat.le_of_ble_eq_true rfl⟩) hP hD hS hA [5] [0, 1, 2, 3, 4] [0, 1, 2, 3, 4, 5, 6] [zO h 2 [.ref q_1, .ref q_4, .null], zO q_1 6 [.ref qa_3], zL cy qa_3 1000 (fun j9 => lN ((fun _ => 0) j9)), zO q_4 6 [.ref qa_6], zL cy qa_6 1000 (fun j9 => lN ((fun _ => 0) j9))] (fun (u : Nat) => [zO h 2 [.ref q_1, .ref q_4, .null], zO q_1 6 [.ref qa_3], zL cy qa_3 1000 (fun j9 => lN ((fun _ => 0) j9)), zO q_4 6 [.ref qa_6], zL cy qa_6 1000 (fun j9 => lN ((fun _ => 0) j9)), zO q_7 6 [.ref u], zL cy u 1000 (fun j9 => lN ((fun _ => 0) j9))]) rfl rfl (by decide) (fun _ => rfl) (fun u H locs hr_8 hQ hD hS hz => ?_)
  obtain ⟨qa_9, rfl⟩ : ∃ z, z = u := ⟨_, rfl⟩
  try dsimp only at hr_8
  have hP : va_P G vwCl [zO h 2 [.ref q_1, .ref q_4, .null], zO q_1 6 [.ref qa_3], zL cy qa_3 1000 (fun j9 => lN ((fun _ => 0) j9)), zO q_4 6 [.ref qa_6], zL cy qa_6 1000 (fun j9 => lN ((fun _ => 0) j9)), zO q_7 6 [.ref qa_9], zL cy qa_9 1000 (fun j9 => lN ((fun _ => 0) j9))] H := hQ
  have hD : va_D A [zO h 2 [.ref q_1, .ref q_4, .null], zO q_1 6 [.ref qa_3], zL cy qa_3 1000 (fun j9 => lN ((fun _ => 0) j9)), zO q_4 6 [.ref qa_6], zL cy qa_6 1000 (fun j9 => lN ((fun _ => 0) j9)), zO q_7 6 [.ref qa_9], zL cy qa_9 1000 (fun j9 => lN ((fun _ => 0) j9))] := hD
  clear hQ
  refine va_putF (D := G) (ci := 2) (v := .ref q_7) (ty := (.object "MeterHouse$Row")) (C := RX1) (T := TX1) (N := 3) hx hb hts in_X1_init_X1 tyX1 tyX1_ok nmX1 hown hK hP hD hS 0 rfl rfl 2 (by decide) (hts _ (List.mem_of_getElem? (i := 9) (by decide +kernel))) (fun _ h9 => h9) rfl hin rfl (by decide +kernel) rfl rfl (Nat.le_of_ble_eq_true rfl) dX1_init_37 (fun H locs hP hD hS => ?_)
  have hP : va_P G vwCl [zO h 2 [.ref q_1, .ref q_4, .ref q_7], zO q_1 6 [.ref qa_3], zL cy qa_3 1000 (fun j9 => lN ((fun _ => 0) j9)), zO q_4 6 [.ref qa_6], zL cy qa_6 1000 (fun j9 => lN ((fun _ => 0) j9)), zO q_7 6 [.ref qa_9], zL cy qa_9 1000 (fun j9 => lN ((fun _ => 0) j9))] H := hP
  have hD : va_D A [zO h 2 [.ref q_1, .ref q_4, .ref q_7], zO q_1 6 [.ref qa_3], zL cy qa_3 1000 (fun j9 => lN ((fun _ => 0) j9)), zO q_4 6 [.ref qa_6], zL cy qa_6 1000 (fun j9 => lN ((fun _ => 0) j9)), zO q_7 6 [.ref qa_9], zL cy qa_9 1000 (fun j9 => lN ((fun _ => 0) j9))] := hD
  exact z_rMv hx hb hr hlk dX1_init_40 (q_1, q_4, q_7, qa_3, qa_6, qa_9) (trivial) hP hD hK hS (Nat.le_of_ble_eq_true rfl) (Nat.le_of_ble_eq_true rfl)
set_option maxHeartbeats 4000000 in
set_option maxRecDepth 100000 in
theorem c_X1_init4 (l : Launch) (G : va_G) (cy : Nat → ClassId) (sz0 : Nat) (h : Nat) : Met l yX1_init wsX1_init ({ frames := 2, cells := 6, slots := 15, locals := 33 }) (zM G cy [.ref h, .int (nI 4)] sz0 [zO h 2 [.null, .null, .null]]) (va_Qv (fun (_ : Nat × Nat × Nat × Nat × Nat × Nat) => True) (fun (u : Nat × Nat × Nat × Nat × Nat × Nat) t9 => zB G cy (va_A [zO h 2 [.null, .null, .null]] sz0) [zO h 2 [.ref u.1, .ref u.2.1, .ref u.2.2.1], zO u.1 6 [.ref u.2.2.2.1], zL cy u.2.2.2.1 4 (fun j9 => lN ((fun _ => 0) j9)), zO u.2.1 6 [.ref u.2.2.2.2.1], zL cy u.2.2.2.2.1 4 (fun j9 => lN ((fun _ => 0) j9)), zO u.2.2.1 6 [.ref u.2.2.2.2.2], zL cy u.2.2.2.2.2 4 (fun j9 => lN ((fun _ => 0) j9))] t9) (va_A [zO h 2 [.null, .null, .null]] sz0)) 6 15 (va_A [zO h 2 [.null, .null, .null]] sz0) := by
  refine z_ofM (cc := cX1_init) (maxL := 2) (ret := none) (Qc := (fun A => va_Qv (fun (_ : Nat × Nat × Nat × Nat × Nat × Nat) => True) (fun (u : Nat × Nat × Nat × Nat × Nat × Nat) t9 => zB G cy A [zO h 2 [.ref u.1, .ref u.2.1, .ref u.2.2.1], zO u.1 6 [.ref u.2.2.2.1], zL cy u.2.2.2.1 4 (fun j9 => lN ((fun _ => 0) j9)), zO u.2.1 6 [.ref u.2.2.2.2.1], zL cy u.2.2.2.2.1 4 (fun j9 => lN ((fun _ => 0) j9)), zO u.2.2.1 6 [.ref u.2.2.2.2.2], zL cy u.2.2.2.2.2 4 (fun j9 => lN ((fun _ => 0) j9))] t9) A)) (by decide) rfl (Nat.le_of_ble_eq_true rfl) ?_
  intro p e s m below meth c ls A hx hb hml hr hts hown hlk hin hP hK hD hA hS hl hsz0
  have hown : s.vm.findClass RX1 = some m.cls := hown
  have hl : lv_has ls 2 [(0, .ref h), (1, .int (nI 4))] := hl
  have hin : meth.name = "<init>" := hin
  refine lv_aload_n hx hb dX1_init_0 rfl (lv_at hl 0 rfl) ?_
  refine W.objInit hx hb hown (hts _ (List.mem_of_getElem? (i := 1) (by decide +kernel))) (hts _ (List.mem_of_getElem? (i := 2) (by decide +kernel))) (hts _ (List.mem_of_getElem? (i := 3) (by decide +kernel))) rfl (by rw [hml]; exact hl.1) rfl dX1_init_1 (Nat.le_of_ble_eq_true rfl) (Nat.le_of_ble_eq_true rfl) ?_
  refine W.eq (g2 := F0 m 4 ls []) rfl ?_
  refine lv_aload_n hx hb dX1_init_4 rfl (lv_at hl 0 rfl) ?_
  refine va_new (ci := 6) (fs := [.null]) (C := RX5) (T := TX5) (N := 1) hx hb hts in_X1_init_X5 tyX5 tyX5_ok hown (hts _ (List.mem_of_getElem? (i := 4) (by decide +kernel))) (hts _ (List.mem_of_getElem? (i := 5) (by decide +kernel))) (hts _ (List.mem_of_getElem? (i := 6) (by decide +kernel))) hK hP hD hS hA rfl (nwf_X5) (Nat.le_of_ble_eq_true rfl) (Nat.le_of_ble_eq_true rfl) dX1_init_5 (fun q_1 H hP hD hS => ?_)
  have hP : va_P G vwCl [zO h 2 [.null, .null, .null], zO q_1 6 [.null]] H := hP
  have hD : va_D A [zO h 2 [.null, .null, .null], zO q_1 6 [.null]] := hD
  refine lv_dup hx hb dX1_init_8 rfl ?_
  refine lv_iload_n hx hb dX1_init_9 rfl (lv_at hl 1 rfl) ?_
  refine z_cv (wc := [zO q_1 6 [.null]]) (va_runI (As := [.int (nI 4)]) (rest := [.ref q_1, .ref h]) ⟨hx, hb, hml, hown, hts⟩ (c_X5_init l G cy _ q_1 4 (by omega) (by omega)) (cwI 1 hts gX1_init_X5_init rfl rfl rfl (hts _ (List.mem_of_getElem? (i := 6) (by decide +kernel))) (hts _ (List.mem_of_getElem? (i := 10) (by decide +kernel))) (hts _ (List.mem_of_getElem? (i := 11) (by decide +kernel))) rfl (by decide +kernel) ⟨Nat.le_of_ble_eq_true rfl, Nat.le_of_ble_eq_true rfl⟩) (z_pSM hK hP hD [1] rfl (by decide)) rfl rfl hl.1 rfl (lv_room (Nat.le_of_ble_eq_true rfl)) dX1_init_10 ⟨Nat.le_of_ble_eq_true rfl, Nat.le_of_ble_eq_true rfl⟩) hP hD hS hA [1] [0] [0, 1, 2] [zO h 2 [.null, .null, .null]] (fun (u : Nat) => [zO h 2 [.null, .null, .null], zO q_1 6 [.ref u], zL cy u 4 (fun j9 => lN ((fun _ => 0) j9))]) rfl rfl (by decide) (fun _ => rfl) (fun u H locs hr_2 hQ hD hS hz => ?_)
  obtain ⟨qa_3, rfl⟩ : ∃ z, z = u := ⟨_, rfl⟩
  try dsimp only at hr_2
  have hP : va_P G vwCl [zO h 2 [.null, .null, .null], zO q_1 6 [.ref qa_3], zL cy qa_3 4 (fun j9 => lN ((fun _ => 0) j9))] H := hQ
  have hD : va_D A [zO h 2 [.null, .null, .null], zO q_1 6 [.ref qa_3], zL cy qa_3 4 (fun j9 => lN ((fun _ => 0) j9))] := hD
  clear hQ
  refine va_putF (D := G) (ci := 2) (v := .ref q_1) (ty := (.object "MeterHouse$Row")) (C := RX1) (T := TX1) (N := 3) hx hb hts in_X1_init_X1 tyX1 tyX1_ok nmX1 hown hK hP hD hS 0 rfl rfl 0 (by decide) (hts _ (List.mem_of_getElem? (i := 7) (by decide +kernel))) (fun _ h9 => h9) rfl hin rfl (by decide +kernel) rfl rfl (Nat.le_of_ble_eq_true rfl) dX1_init_13 (fun H locs hP hD hS => ?_)
  have hP : va_P G vwCl [zO h 2 [.ref q_1, .null, .null], zO q_1 6 [.ref qa_3], zL cy qa_3 4 (fun j9 => lN ((fun _ => 0) j9))] H := hP
  have hD : va_D A [zO h 2 [.ref q_1, .null, .null], zO q_1 6 [.ref qa_3], zL cy qa_3 4 (fun j9 => lN ((fun _ => 0) j9))] := hD
  refine lv_aload_n hx hb dX1_init_16 rfl (lv_at hl 0 rfl) ?_
  refine va_new (ci := 6) (fs := [.null]) (C := RX5) (T := TX5) (N := 1) hx hb hts in_X1_init_X5 tyX5 tyX5_ok hown (hts _ (List.mem_of_getElem? (i := 4) (by decide +kernel))) (hts _ (List.mem_of_getElem? (i := 5) (by decide +kernel))) (hts _ (List.mem_of_getElem? (i := 6) (by decide +kernel))) hK hP hD hS hA rfl (nwf_X5) (Nat.le_of_ble_eq_true rfl) (Nat.le_of_ble_eq_true rfl) dX1_init_17 (fun q_4 H hP hD hS => ?_)
  have hP : va_P G vwCl [zO h 2 [.ref q_1, .null, .null], zO q_1 6 [.ref qa_3], zL cy qa_3 4 (fun j9 => lN ((fun _ => 0) j9)), zO q_4 6 [.null]] H := hP
  have hD : va_D A [zO h 2 [.ref q_1, .null, .null], zO q_1 6 [.ref qa_3], zL cy qa_3 4 (fun j9 => lN ((fun _ => 0) j9)), zO q_4 6 [.null]] := hD
  refine lv_dup hx hb dX1_init_20 rfl ?_
  refine lv_iload_n hx hb dX1_init_21 rfl (lv_at hl 1 rfl) ?_
  refine z_cv (wc := [zO q_4 6 [.null]]) (va_runI (As := [.int (nI 4)]) (rest := [.ref q_4, .ref h]) ⟨hx, hb, hml, hown, hts⟩ (c_X5_init l G cy _ q_4 4 (by omega) (by omega)) (cwI 1 hts gX1_init_X5_init rfl rfl rfl (hts _ (List.mem_of_getElem? (i := 6) (by decide +kernel))) (hts _ (List.mem_of_getElem? (i := 10) (by decide +kernel))) (hts _ (List.mem_of_getElem? (i := 11) (by decide +kernel))) rfl (by decide +kernel) ⟨Nat.le_of_ble_eq_true rfl, Nat.le_of_ble_eq_true rfl⟩) (z_pSM hK hP hD [3] rfl (by decide)) rfl rfl hl.1 rfl (lv_room (Nat.le_of_ble_eq_true rfl)) dX1_init_22 ⟨Nat.le_of_ble_eq_true rfl, Nat.le_of_ble_eq_true rfl⟩) hP hD hS hA [3] [0, 1, 2] [0, 1, 2, 3, 4] [zO h 2 [.ref q_1, .null, .null], zO q_1 6 [.ref qa_3], zL cy qa_3 4 (fun j9 => lN ((fun _ => 0) j9))] (fun (u : Nat) => [zO h 2 [.ref q_1, .null, .null], zO q_1 6 [.ref qa_3], zL cy qa_3 4 (fun j9 => lN ((fun _ => 0) j9)), zO q_4 6 [.ref u], zL cy u 4 (fun j9 => lN ((fun _ => 0) j9))]) rfl rfl (by decide) (fun _ => rfl) (fun u H locs hr_5 hQ hD hS hz => ?_)
  obtain ⟨qa_6, rfl⟩ : ∃ z, z = u := ⟨_, rfl⟩
  try dsimp only at hr_5
  have hP : va_P G vwCl [zO h 2 [.ref q_1, .null, .null], zO q_1 6 [.ref qa_3], zL cy qa_3 4 (fun j9 => lN ((fun _ => 0) j9)), zO q_4 6 [.ref qa_6], zL cy qa_6 4 (fun j9 => lN ((fun _ => 0) j9))] H := hQ
  have hD : va_D A [zO h 2 [.ref q_1, .null, .null], zO q_1 6 [.ref qa_3], zL cy qa_3 4 (fun j9 => lN ((fun _ => 0) j9)), zO q_4 6 [.ref qa_6], zL cy qa_6 4 (fun j9 => lN ((fun _ => 0) j9))] := hD
  clear hQ
  refine va_putF (D := G) (ci := 2) (v := .ref q_4) (ty := (.object "MeterHouse$Row")) (C := RX1) (T := TX1) (N := 3) hx hb hts in_X1_init_X1 tyX1 tyX1_ok nmX1 hown hK hP hD hS 0 rfl rfl 1 (by decide) (hts _ (List.mem_of_getElem? (i := 8) (by decide +kernel))) (fun _ h9 => h9) rfl hin rfl (by decide +kernel) rfl rfl (Nat.le_of_ble_eq_true rfl) dX1_init_25 (fun H locs hP hD hS => ?_)
  have hP : va_P G vwCl [zO h 2 [.ref q_1, .ref q_4, .null], zO q_1 6 [.ref qa_3], zL cy qa_3 4 (fun j9 => lN ((fun _ => 0) j9)), zO q_4 6 [.ref qa_6], zL cy qa_6 4 (fun j9 => lN ((fun _ => 0) j9))] H := hP
  have hD : va_D A [zO h 2 [.ref q_1, .ref q_4, .null], zO q_1 6 [.ref qa_3], zL cy qa_3 4 (fun j9 => lN ((fun _ => 0) j9)), zO q_4 6 [.ref qa_6], zL cy qa_6 4 (fun j9 => lN ((fun _ => 0) j9))] := hD
  refine lv_aload_n hx hb dX1_init_28 rfl (lv_at hl 0 rfl) ?_
  refine va_new (ci := 6) (fs := [.null]) (C := RX5) (T := TX5) (N := 1) hx hb hts in_X1_init_X5 tyX5 tyX5_ok hown (hts _ (List.mem_of_getElem? (i := 4) (by decide +kernel))) (hts _ (List.mem_of_getElem? (i := 5) (by decide +kernel))) (hts _ (List.mem_of_getElem? (i := 6) (by decide +kernel))) hK hP hD hS hA rfl (nwf_X5) (Nat.le_of_ble_eq_true rfl) (Nat.le_of_ble_eq_true rfl) dX1_init_29 (fun q_7 H hP hD hS => ?_)
  have hP : va_P G vwCl [zO h 2 [.ref q_1, .ref q_4, .null], zO q_1 6 [.ref qa_3], zL cy qa_3 4 (fun j9 => lN ((fun _ => 0) j9)), zO q_4 6 [.ref qa_6], zL cy qa_6 4 (fun j9 => lN ((fun _ => 0) j9)), zO q_7 6 [.null]] H := hP
  have hD : va_D A [zO h 2 [.ref q_1, .ref q_4, .null], zO q_1 6 [.ref qa_3], zL cy qa_3 4 (fun j9 => lN ((fun _ => 0) j9)), zO q_4 6 [.ref qa_6], zL cy qa_6 4 (fun j9 => lN ((fun _ => 0) j9)), zO q_7 6 [.null]] := hD
  refine lv_dup hx hb dX1_init_32 rfl ?_
  refine lv_iload_n hx hb dX1_init_33 rfl (lv_at hl 1 rfl) ?_
  refine z_cv (wc := [zO q_7 6 [.null]]) (va_runI (As := [.int (nI 4)]) (rest := [.ref q_7, .ref h]) ⟨hx, hb, hml, hown, hts⟩ (c_X5_init l G cy _ q_7 4 (by omega) (by omega)) (cwI 1 hts gX1_init_X5_init rfl rfl rfl (hts _ (List.mem_of_getElem? (i := 6) (by decide +kernel))) (hts _ (List.mem_of_getElem? (i := 10) (by decide +kernel))) (hts _ (List.mem_of_getElem? (i := 11) (by decide +kernel))) rfl (by decide +kernel) ⟨Nat.le_of_ble_eq_true rfl, Nat.le_of_ble_eq_true rfl⟩) (z_pSM hK hP hD [5] rfl (by decide)) rfl rfl hl.1 rfl (lv_room (Nat.le_of_ble_eq_true rfl)) dX1_init_34 ⟨Nat.le_of_ble_eq_true rfl, Nat.le_of_ble_eq_true rfl⟩) hP hD hS hA [5] [0, 1, 2, 3, 4] [0, 1, 2, 3, 4, 5, 6] [zO h 2 [.ref q_1, .ref q_4, .null], zO q_1 6 [.ref qa_3], zL cy qa_3 4 (fun j9 => lN ((fun _ => 0) j9)), zO q_4 6 [.ref qa_6], zL cy qa_6 4 (fun j9 => lN ((fun _ => 0) j9))] (fun (u : Nat) => [zO h 2 [.ref q_1, .ref q_4, .null], zO q_1 6 [.ref qa_3], zL cy qa_3 4 (fun j9 => lN ((fun _ => 0) j9)), zO q_4 6 [.ref qa_6], zL cy qa_6 4 (fun j9 => lN ((fun _ => 0) j9)), zO q_7 6 [.ref u], zL cy u 4 (fun j9 => lN ((fun _ => 0) j9))]) rfl rfl (by decide) (fun _ => rfl) (fun u H locs hr_8 hQ hD hS hz => ?_)
  obtain ⟨qa_9, rfl⟩ : ∃ z, z = u := ⟨_, rfl⟩
  try dsimp only at hr_8
  have hP : va_P G vwCl [zO h 2 [.ref q_1, .ref q_4, .null], zO q_1 6 [.ref qa_3], zL cy qa_3 4 (fun j9 => lN ((fun _ => 0) j9)), zO q_4 6 [.ref qa_6], zL cy qa_6 4 (fun j9 => lN ((fun _ => 0) j9)), zO q_7 6 [.ref qa_9], zL cy qa_9 4 (fun j9 => lN ((fun _ => 0) j9))] H := hQ
  have hD : va_D A [zO h 2 [.ref q_1, .ref q_4, .null], zO q_1 6 [.ref qa_3], zL cy qa_3 4 (fun j9 => lN ((fun _ => 0) j9)), zO q_4 6 [.ref qa_6], zL cy qa_6 4 (fun j9 => lN ((fun _ => 0) j9)), zO q_7 6 [.ref qa_9], zL cy qa_9 4 (fun j9 => lN ((fun _ => 0) j9))] := hD
  clear hQ
  refine va_putF (D := G) (ci := 2) (v := .ref q_7) (ty := (.object "MeterHouse$Row")) (C := RX1) (T := TX1) (N := 3) hx hb hts in_X1_init_X1 tyX1 tyX1_ok nmX1 hown hK hP hD hS 0 rfl rfl 2 (by decide) (hts _ (List.mem_of_getElem? (i := 9) (by decide +kernel))) (fun _ h9 => h9) rfl hin rfl (by decide +kernel) rfl rfl (Nat.le_of_ble_eq_true rfl) dX1_init_37 (fun H locs hP hD hS => ?_)
  have hP : va_P G vwCl [zO h 2 [.ref q_1, .ref q_4, .ref q_7], zO q_1 6 [.ref qa_3], zL cy qa_3 4 (fun j9 => lN ((fun _ => 0) j9)), zO q_4 6 [.ref qa_6], zL cy qa_6 4 (fun j9 => lN ((fun _ => 0) j9)), zO q_7 6 [.ref qa_9], zL cy qa_9 4 (fun j9 => lN ((fun _ => 0) j9))] H := hP
  have hD : va_D A [zO h 2 [.ref q_1, .ref q_4, .ref q_7], zO q_1 6 [.ref qa_3], zL cy qa_3 4 (fun j9 => lN ((fun _ => 0) j9)), zO q_4 6 [.ref qa_6], zL cy qa_6 4 (fun j9 => lN ((fun _ => 0) j9)), zO q_7 6 [.ref qa_9], zL cy qa_9 4 (fun j9 => lN ((fun _ => 0) j9))] := hD
  exact z_rMv hx hb hr hlk dX1_init_40 (q_1, q_4, q_7, qa_3, qa_6, qa_9) (trivial) hP hD hK hS (Nat.le_of_ble_eq_true rfl) (Nat.le_of_ble_eq_true rfl)
